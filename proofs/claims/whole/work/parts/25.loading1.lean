def f_X4_open (n : Nat) (S : lh_S) (t : Nat) (p1 : Option Nat) (p2 : Int32) (p3 : Option Nat) (p4 : Int32) : Option (Int32 × lh_S) :=
  dc_if ((gvI S 4 t 5) < (321 : Int32)) (
  dc_nn (gvR S 4 t 4) fun x3 =>
  dc_gd ((gvI S 4 t 5) < 0 ∨ gvL S 18 x3 ≤ ((gvI S 4 t 5)).toNatClampNeg) (
  dc_if ((gvR S 18 x3 ((gvI S 4 t 5)).toNatClampNeg) = none) (
  dc_let (pvN S 8 0) fun S22 =>
  dc_bd (f_X8_init n S22 (gvN S 8)) fun r28 S29 =>
  dc_gd ((gvI S 4 t 5) < 0 ∨ gvL S29 18 x3 ≤ ((gvI S 4 t 5)).toNatClampNeg) (
  dc_let (pvR S29 18 x3 ((gvI S 4 t 5)).toNatClampNeg (some (gvN S 8))) fun S33 =>
  dc_let ((gvI S33 4 t 5) + (1 : Int32)) fun v36 =>
  dc_let (pvI S33 4 t 5 v36) fun S37 =>
  dc_nn (gvR S33 4 t 4) fun x39 =>
  dc_gd ((gvI S33 4 t 5) < 0 ∨ gvL S37 18 x39 ≤ ((gvI S33 4 t 5)).toNatClampNeg) (
  dc_nn (gvR S37 18 x39 ((gvI S33 4 t 5)).toNatClampNeg) fun x42 =>
  dc_let (pvR S37 8 x42 0 p1) fun S43 =>
  dc_let (pvI S43 8 x42 1 p2) fun S45 =>
  dc_let (pvR S45 8 x42 2 p3) fun S47 =>
  dc_let (pvI S47 8 x42 3 p4) fun S49 =>
  some ((-1 : Int32), S49)))) (
  dc_let (pvI S 4 t 5 ((gvI S 4 t 5) + (1 : Int32))) fun S8 =>
  dc_gd ((gvI S 4 t 5) < 0 ∨ gvL S8 18 x3 ≤ ((gvI S 4 t 5)).toNatClampNeg) (
  dc_nn (gvR S8 18 x3 ((gvI S 4 t 5)).toNatClampNeg) fun x12 =>
  dc_let (pvR S8 8 x12 0 p1) fun S13 =>
  dc_let (pvI S13 8 x12 1 p2) fun S15 =>
  dc_let (pvR S15 8 x12 2 p3) fun S17 =>
  dc_let (pvI S17 8 x12 3 p4) fun S19 =>
  some ((-1 : Int32), S19))))) (
  dc_bd (f_X9_failed n S (6 : Int32)) fun r51 S52 =>
  some (r51, S52))
set_option maxHeartbeats 1000000 in
theorem m_X4_open {n : Nat} {S : lh_S} {t : Nat} {p1 : Option Nat} {p2 : Int32} {p3 : Option Nat} {p4 : Int32} {r : Int32} {S' : lh_S} (hf : f_X4_open n S t p1 p2 p3 p4 = some (r, S')) : ∀ b, gvN S b ≤ gvN S' b := by
  have hm : ∀ b, gvN S b ≤ gvN S b := fun _ => Nat.le_refl _
  unfold f_X4_open at hf
  by_cases c1 : (gvI S 4 t 5) < (321 : Int32)
  · replace hf := dc_if_t c1 hf
    obtain ⟨x3, hx3, hf⟩ := dc_nn_ok hf
    obtain ⟨g4, hf⟩ := dc_gd_ok hf
    by_cases c6 : (gvR S 18 x3 ((gvI S 4 t 5)).toNatClampNeg) = none
    · replace hf := dc_if_t c6 hf
      obtain ⟨S22, eS22, hf⟩ := dc_let_ok hf
      have hm := lh_le_trans hm (show ∀ b, gvN S b ≤ gvN S22 b from by rw [eS22]; exact lh_mN)
      obtain ⟨r28, S29, k30, hf⟩ := dc_bd_ok hf
      have hm := lh_le_trans hm (show ∀ b, gvN S22 b ≤ gvN S29 b from m_X8_init k30)
      obtain ⟨g32, hf⟩ := dc_gd_ok hf
      obtain ⟨S33, eS33, hf⟩ := dc_let_ok hf
      have hm := lh_le_trans hm (show ∀ b, gvN S29 b ≤ gvN S33 b from by rw [eS33]; exact lh_mR)
      obtain ⟨v36, hv36, hf⟩ := dc_let_ok hf
      obtain ⟨S37, eS37, hf⟩ := dc_let_ok hf
      have hm := lh_le_trans hm (show ∀ b, gvN S33 b ≤ gvN S37 b from by rw [eS37]; exact lh_mI)
      obtain ⟨x39, hx39, hf⟩ := dc_nn_ok hf
      obtain ⟨g40, hf⟩ := dc_gd_ok hf
      obtain ⟨x42, hx42, hf⟩ := dc_nn_ok hf
      obtain ⟨S43, eS43, hf⟩ := dc_let_ok hf
      have hm := lh_le_trans hm (show ∀ b, gvN S37 b ≤ gvN S43 b from by rw [eS43]; exact lh_mR)
      obtain ⟨S45, eS45, hf⟩ := dc_let_ok hf
      have hm := lh_le_trans hm (show ∀ b, gvN S43 b ≤ gvN S45 b from by rw [eS45]; exact lh_mI)
      obtain ⟨S47, eS47, hf⟩ := dc_let_ok hf
      have hm := lh_le_trans hm (show ∀ b, gvN S45 b ≤ gvN S47 b from by rw [eS47]; exact lh_mR)
      obtain ⟨S49, eS49, hf⟩ := dc_let_ok hf
      have hm := lh_le_trans hm (show ∀ b, gvN S47 b ≤ gvN S49 b from by rw [eS49]; exact lh_mI)
      obtain ⟨_, rfl⟩ := dc_ret hf
      exact hm
    · replace hf := dc_if_f c6 hf
      obtain ⟨S8, eS8, hf⟩ := dc_let_ok hf
      have hm := lh_le_trans hm (show ∀ b, gvN S b ≤ gvN S8 b from by rw [eS8]; exact lh_mI)
      obtain ⟨g10, hf⟩ := dc_gd_ok hf
      obtain ⟨x12, hx12, hf⟩ := dc_nn_ok hf
      obtain ⟨S13, eS13, hf⟩ := dc_let_ok hf
      have hm := lh_le_trans hm (show ∀ b, gvN S8 b ≤ gvN S13 b from by rw [eS13]; exact lh_mR)
      obtain ⟨S15, eS15, hf⟩ := dc_let_ok hf
      have hm := lh_le_trans hm (show ∀ b, gvN S13 b ≤ gvN S15 b from by rw [eS15]; exact lh_mI)
      obtain ⟨S17, eS17, hf⟩ := dc_let_ok hf
      have hm := lh_le_trans hm (show ∀ b, gvN S15 b ≤ gvN S17 b from by rw [eS17]; exact lh_mR)
      obtain ⟨S19, eS19, hf⟩ := dc_let_ok hf
      have hm := lh_le_trans hm (show ∀ b, gvN S17 b ≤ gvN S19 b from by rw [eS19]; exact lh_mI)
      obtain ⟨_, rfl⟩ := dc_ret hf
      exact hm
  · replace hf := dc_if_f c1 hf
    obtain ⟨r51, S52, k53, hf⟩ := dc_bd_ok hf
    have hm := lh_le_trans hm (show ∀ b, gvN S b ≤ gvN S52 b from m_X9_failed k53)
    obtain ⟨_, rfl⟩ := dc_ret hf
    exact hm
set_option maxHeartbeats 1000000 in
theorem k_X4_open {n : Nat} {S : lh_S} {t : Nat} {p1 : Option Nat} {p2 : Int32} {p3 : Option Nat} {p4 : Int32} {r : Int32} {S' : lh_S} (hf : f_X4_open n S t p1 p2 p3 p4 = some (r, S')) : lh_sm9 S S' := by
  have hm : lh_sm9 S S := lh_sm9_rf
  unfold f_X4_open at hf
  by_cases c1 : (gvI S 4 t 5) < (321 : Int32)
  · replace hf := dc_if_t c1 hf
    obtain ⟨x3, hx3, hf⟩ := dc_nn_ok hf
    obtain ⟨g4, hf⟩ := dc_gd_ok hf
    by_cases c6 : (gvR S 18 x3 ((gvI S 4 t 5)).toNatClampNeg) = none
    · replace hf := dc_if_t c6 hf
      obtain ⟨S22, eS22, hf⟩ := dc_let_ok hf
      have hm := lh_sm9_trans hm (show lh_sm9 S S22 from by rw [eS22]; exact (lh_sm9N (by decide)))
      obtain ⟨r28, S29, k30, hf⟩ := dc_bd_ok hf
      have hm := lh_sm9_trans hm (show lh_sm9 S22 S29 from k_X8_init k30)
      obtain ⟨g32, hf⟩ := dc_gd_ok hf
      obtain ⟨S33, eS33, hf⟩ := dc_let_ok hf
      have hm := lh_sm9_trans hm (show lh_sm9 S29 S33 from by rw [eS33]; exact (lh_sm9R (by decide)))
      obtain ⟨v36, hv36, hf⟩ := dc_let_ok hf
      obtain ⟨S37, eS37, hf⟩ := dc_let_ok hf
      have hm := lh_sm9_trans hm (show lh_sm9 S33 S37 from by rw [eS37]; exact (lh_sm9I (by decide)))
      obtain ⟨x39, hx39, hf⟩ := dc_nn_ok hf
      obtain ⟨g40, hf⟩ := dc_gd_ok hf
      obtain ⟨x42, hx42, hf⟩ := dc_nn_ok hf
      obtain ⟨S43, eS43, hf⟩ := dc_let_ok hf
      have hm := lh_sm9_trans hm (show lh_sm9 S37 S43 from by rw [eS43]; exact (lh_sm9R (by decide)))
      obtain ⟨S45, eS45, hf⟩ := dc_let_ok hf
      have hm := lh_sm9_trans hm (show lh_sm9 S43 S45 from by rw [eS45]; exact (lh_sm9I (by decide)))
      obtain ⟨S47, eS47, hf⟩ := dc_let_ok hf
      have hm := lh_sm9_trans hm (show lh_sm9 S45 S47 from by rw [eS47]; exact (lh_sm9R (by decide)))
      obtain ⟨S49, eS49, hf⟩ := dc_let_ok hf
      have hm := lh_sm9_trans hm (show lh_sm9 S47 S49 from by rw [eS49]; exact (lh_sm9I (by decide)))
      obtain ⟨_, rfl⟩ := dc_ret hf
      exact hm
    · replace hf := dc_if_f c6 hf
      obtain ⟨S8, eS8, hf⟩ := dc_let_ok hf
      have hm := lh_sm9_trans hm (show lh_sm9 S S8 from by rw [eS8]; exact (lh_sm9I (by decide)))
      obtain ⟨g10, hf⟩ := dc_gd_ok hf
      obtain ⟨x12, hx12, hf⟩ := dc_nn_ok hf
      obtain ⟨S13, eS13, hf⟩ := dc_let_ok hf
      have hm := lh_sm9_trans hm (show lh_sm9 S8 S13 from by rw [eS13]; exact (lh_sm9R (by decide)))
      obtain ⟨S15, eS15, hf⟩ := dc_let_ok hf
      have hm := lh_sm9_trans hm (show lh_sm9 S13 S15 from by rw [eS15]; exact (lh_sm9I (by decide)))
      obtain ⟨S17, eS17, hf⟩ := dc_let_ok hf
      have hm := lh_sm9_trans hm (show lh_sm9 S15 S17 from by rw [eS17]; exact (lh_sm9R (by decide)))
      obtain ⟨S19, eS19, hf⟩ := dc_let_ok hf
      have hm := lh_sm9_trans hm (show lh_sm9 S17 S19 from by rw [eS19]; exact (lh_sm9I (by decide)))
      obtain ⟨_, rfl⟩ := dc_ret hf
      exact hm
  · replace hf := dc_if_f c1 hf
    obtain ⟨r51, S52, k53, hf⟩ := dc_bd_ok hf
    have hm := lh_sm9_trans hm (show lh_sm9 S S52 from k_X9_failed k53)
    obtain ⟨_, rfl⟩ := dc_ret hf
    exact hm
set_option maxHeartbeats 4000000 in
set_option maxRecDepth 100000 in
theorem c_X4_open (l : Launch) (D : va_G) (cT : Nat → ClassId) (n : Nat) (S : lh_S) (ad : Nat → Nat → Nat) (A : Nat → Prop) (sz : Nat) (hA : ∀ q, sz ≤ q → A q) (t : Nat) (p1 : Option Nat) (p2 : Int32) (p3 : Option Nat) (p4 : Int32) (r : Int32) (S' : lh_S) (hf : f_X4_open n S t p1 p2 p3 p4 = some (r, S')) (L_t : ∀ j, some t = some j → j < gvN S 4) (L_p1 : ∀ j, p1 = some j → j < gvN S 2) (L_p3 : ∀ j, p3 = some j → j < gvN S 1) (mc ms : Nat) (hmc : gvN S' 8 + gvN S' 5 ≤ gvN S 8 + gvN S 5 + mc) (hms : 4 * gvN S' 8 + 6 * gvN S' 5 ≤ 4 * gvN S 8 + 6 * gvN S 5 + ms) : Met l yX4_open wsX4_open ({ frames := 2, cells := mc, slots := ms, locals := 40 } : Room) (lh_P D cT S ad A sz [lh_r ad 4 (some t), lh_r ad 2 p1, .int p2, lh_r ad 1 p3, .int p4]) (lh_QA D cT S S' ad A ((∀ b, gvN S b ≤ gvN S' b) ∧ True) (fun ad9 => some (.int r))) mc ms A := by
  refine Met.ofW (cc := cX4_open) (maxL := 6) (ret := (some .int)) (by decide) rfl ?_
  intro p e s m args below meth c s₁ B hml hv
  obtain ⟨hargs, hsz, hW, hK, hN⟩ := hv
  have hx := B.exec
  have hb := B.bytes
  have hr := B.returns
  have hts := atoms_spec (ws := wsX4_open) B.pre
  have hown : s.vm.findClass RX4 = some m.cls := findClass_of_methodNamed B.named
  have hlocks := B.notSynchronized
  have hA : ∀ q, s.heap.size ≤ q → A q := fun q h => hA q (by rw [← hsz]; exact h)
  have ok := lh_W_ok hW
  have hm : ∀ b, gvN S b ≤ gvN S b := fun _ => Nat.le_refl _
  have hE : lh_E S ad ad := lh_E.rf
  obtain ⟨ls, hent, hl⟩ := lh_entry m args [lh_r ad 4 (some t), lh_r ad 2 p1, .int p2, lh_r ad 1 p3, .int p4] 6 [(0, lh_r ad 4 (some t)), (1, lh_r ad 2 p1), (2, .int p2), (3, lh_r ad 1 p3), (4, .int p4)] hargs (by simp [lv_args, lh_cat_r, lh_cat_i, lh_cat_j]) (by simp [lg_sl, lh_cat_r, lh_cat_i, lh_cat_j])
  rw [hent]
  generalize hH : s.heap = H at hW ⊢
  have hS : va_S A s.heap H [] := by rw [← hH]; exact va_S.rf
  unfold f_X4_open at hf
  refine lh_aload_n hx hb dX4_open_0 rfl (lv_at hl 0 rfl) ?_
  refine lh_get (a := 4) (k := 5) (N := 6) (C := RX4) (T := TX4) (own := RX4) (ref := "LoaderModels$Loading") hx hb hts (fun _ h => (List.mem_cons_of_mem _ (List.mem_append_left _ (List.mem_append_right _ h)))) hown hK hW rfl (L_t _ rfl) rfl rfl rfl (by decide) (hts (.fieldLink RX4 52 "LoaderModels$Loading" "depth" "I") (List.mem_cons_of_mem _ (List.mem_append_left _ (List.mem_append_left _ (List.mem_of_getElem? (i := 0) rfl))))) (fun _ h9 => h9) dX4_open_1 (v := .int (gvI S 4 t 5)) rfl ?_
  refine lv_sipush (v := 321) hx hb dX4_open_4 (by decide) ?_
  refine lv_icmp_lt (tgt := 16) hx hb dX4_open_7 (by decide) (fun c1 => ?_) (fun c1 => ?_)
  · replace hf := dc_if_t c1 hf
    refine lh_aload_n hx hb dX4_open_16 rfl (lv_at hl 0 rfl) ?_
    have L2 : ∀ j, gvR S 4 t 4 = some j → j < gvN S 18 := fun j h => ok _ _ _ _ j (L_t _ rfl) rfl h
    refine lh_get (a := 4) (k := 4) (N := 6) (C := RX4) (T := TX4) (own := RX4) (ref := "LoaderModels$Loading") hx hb hts (fun _ h => (List.mem_cons_of_mem _ (List.mem_append_left _ (List.mem_append_right _ h)))) hown hK hW rfl (L_t _ rfl) rfl rfl rfl (by decide) (hts (.fieldLink RX4 26 "LoaderModels$Loading" "steps" "[LLoaderModels$Step;") (List.mem_cons_of_mem _ (List.mem_append_left _ (List.mem_append_left _ (List.mem_of_getElem? (i := 1) rfl))))) (fun _ h9 => h9) dX4_open_17 (v := lh_r ad 18 (gvR S 4 t 4)) rfl ?_
    refine lh_aload_n hx hb dX4_open_20 rfl (lv_at hl 0 rfl) ?_
    refine lh_get (a := 4) (k := 5) (N := 6) (C := RX4) (T := TX4) (own := RX4) (ref := "LoaderModels$Loading") hx hb hts (fun _ h => (List.mem_cons_of_mem _ (List.mem_append_left _ (List.mem_append_right _ h)))) hown hK hW rfl (L_t _ rfl) rfl rfl rfl (by decide) (hts (.fieldLink RX4 52 "LoaderModels$Loading" "depth" "I") (List.mem_cons_of_mem _ (List.mem_append_left _ (List.mem_append_left _ (List.mem_of_getElem? (i := 0) rfl))))) (fun _ h9 => h9) dX4_open_21 (v := .int (gvI S 4 t 5)) rfl ?_
    obtain ⟨x3, hx3, hf⟩ := dc_nn_ok hf
    obtain ⟨g4, hf⟩ := dc_gd_ok hf
    have L5 : ∀ j, gvR S 18 x3 ((gvI S 4 t 5)).toNatClampNeg = some j → j < gvN S 8 := fun j h => ok 18 _ _ 8 j (L2 _ hx3) rfl h
    refine lh_ald_r (a := 18) (t0 := 8) (t := 8) hx hb hK hW hx3 (L2 _ hx3) rfl rfl rfl g4 dX4_open_24 ?_
    refine lh_ifnonnull (tgt := 44) hx hb dX4_open_25 (by decide) (fun c6 => ?_) (fun c6 => ?_)
    · replace hf := dc_if_f c6 hf
      refine lh_aload_n hx hb dX4_open_44 rfl (lv_at hl 0 rfl) ?_
      have L7 : ∀ j, gvR S 4 t 4 = some j → j < gvN S 18 := fun j h => ok _ _ _ _ j (L_t _ rfl) rfl h
      refine lh_get (a := 4) (k := 4) (N := 6) (C := RX4) (T := TX4) (own := RX4) (ref := "LoaderModels$Loading") hx hb hts (fun _ h => (List.mem_cons_of_mem _ (List.mem_append_left _ (List.mem_append_right _ h)))) hown hK hW rfl (L_t _ rfl) rfl rfl rfl (by decide) (hts (.fieldLink RX4 26 "LoaderModels$Loading" "steps" "[LLoaderModels$Step;") (List.mem_cons_of_mem _ (List.mem_append_left _ (List.mem_append_left _ (List.mem_of_getElem? (i := 1) rfl))))) (fun _ h9 => h9) dX4_open_45 (v := lh_r ad 18 (gvR S 4 t 4)) rfl ?_
      refine lh_aload_n hx hb dX4_open_48 rfl (lv_at hl 0 rfl) ?_
      refine lv_dup hx hb dX4_open_49 lh_cat_r ?_
      refine lh_get (a := 4) (k := 5) (N := 6) (C := RX4) (T := TX4) (own := RX4) (ref := "LoaderModels$Loading") hx hb hts (fun _ h => (List.mem_cons_of_mem _ (List.mem_append_left _ (List.mem_append_right _ h)))) hown hK hW rfl (L_t _ rfl) rfl rfl rfl (by decide) (hts (.fieldLink RX4 52 "LoaderModels$Loading" "depth" "I") (List.mem_cons_of_mem _ (List.mem_append_left _ (List.mem_append_left _ (List.mem_of_getElem? (i := 0) rfl))))) (fun _ h9 => h9) dX4_open_50 (v := .int (gvI S 4 t 5)) rfl ?_
      refine lv_dup_x1 hx hb dX4_open_53 rfl lh_cat_r ?_
      refine lv_iconst (v := 1) hx hb dX4_open_54 (by decide) ?_
      refine lv_iadd hx hb dX4_open_55 ?_
      obtain ⟨S8, eS8, hf⟩ := dc_let_ok hf
      refine lh_put (S' := S8) (a := 4) (k := 5) (N := 6) (C := RX4) (T := TX4) (own := RX4) (ref := "LoaderModels$Loading") (ty := .int) hx hb hts (fun _ h => (List.mem_cons_of_mem _ (List.mem_append_left _ (List.mem_append_right _ h)))) tyX4 tyX4_ok nmX4 hown hK hW hS rfl (L_t _ rfl) rfl rfl rfl (by decide) (hts (.fieldLink RX4 52 "LoaderModels$Loading" "depth" "I") (List.mem_cons_of_mem _ (List.mem_append_left _ (List.mem_append_left _ (List.mem_of_getElem? (i := 0) rfl))))) (fun _ h9 => h9) (Or.inl rfl) (by decide +kernel) rfl rfl (fun q9 => by rw [eS8]; exact lh_chI rfl q9) dX4_open_56 (fun H locs hW hS => ?_)
      have m9 : ∀ b, gvN S b ≤ gvN S8 b := by rw [eS8]; exact lh_mI
      have L_t : ∀ j, some t = some j → j < gvN S8 4 := fun j h => Nat.lt_of_lt_of_le (L_t j h) (m9 _)
      have L_p1 : ∀ j, p1 = some j → j < gvN S8 2 := fun j h => Nat.lt_of_lt_of_le (L_p1 j h) (m9 _)
      have L_p3 : ∀ j, p3 = some j → j < gvN S8 1 := fun j h => Nat.lt_of_lt_of_le (L_p3 j h) (m9 _)
      have L7 : ∀ j, gvR S 4 t 4 = some j → j < gvN S8 18 := fun j h => Nat.lt_of_lt_of_le (L7 j h) (m9 _)
      have hm : ∀ b, gvN S b ≤ gvN S8 b := lh_le_trans hm m9
      have ok := lh_W_ok hW
      obtain ⟨g10, hf⟩ := dc_gd_ok hf
      have L11 : ∀ j, gvR S8 18 x3 ((gvI S 4 t 5)).toNatClampNeg = some j → j < gvN S8 8 := fun j h => ok 18 _ _ 8 j (L7 _ hx3) rfl h
      refine lh_ald_r (a := 18) (t0 := 8) (t := 8) hx hb hK hW hx3 (L7 _ hx3) rfl rfl rfl g10 dX4_open_59 ?_
      refine lh_astore (i := 5) (lv' := [(5, lh_r ad 8 (gvR S8 18 x3 ((gvI S 4 t 5)).toNatClampNeg)), (0, lh_r ad 4 (some t)), (1, lh_r ad 2 p1), (2, .int p2), (3, lh_r ad 1 p3), (4, .int p4)]) hx hb dX4_open_60 hl (by decide) (by first | rfl | simp [lh_cat_r, lh_cat_i, lh_cat_j]) (fun ls hl => ?_)
      refine lh_aload hx hb dX4_open_62 (lv_at hl 0 rfl) ?_
      refine lh_aload_n hx hb dX4_open_64 rfl (lv_at hl 2 rfl) ?_
      obtain ⟨x12, hx12, hf⟩ := dc_nn_ok hf
      obtain ⟨S13, eS13, hf⟩ := dc_let_ok hf
      refine lh_put (S' := S13) (a := 8) (k := 0) (N := 4) (C := RX8) (T := TX8) (own := RX4) (ref := "LoaderModels$Step") (ty := .object "LoaderModels$Loader") hx hb hts (fun _ h => (List.mem_cons_of_mem _ (List.mem_append_right _ h))) tyX8 tyX8_ok nmX8 hown hK hW hS hx12 (L11 _ hx12) rfl rfl rfl (by decide) (hts (.fieldLink RX4 86 "LoaderModels$Step" "loader" "LLoaderModels$Loader;") (List.mem_cons_of_mem _ (List.mem_append_left _ (List.mem_append_left _ (List.mem_of_getElem? (i := 5) rfl))))) (fun _ h9 => h9) (Or.inl rfl) (by decide +kernel) lh_nar_r lh_fit_r (fun q9 => by rw [eS13]; exact lh_chR rfl L_p1 q9) dX4_open_65 (fun H locs hW hS => ?_)
      have m14 : ∀ b, gvN S8 b ≤ gvN S13 b := by rw [eS13]; exact lh_mR
      have L11 : ∀ j, gvR S8 18 x3 ((gvI S 4 t 5)).toNatClampNeg = some j → j < gvN S13 8 := fun j h => Nat.lt_of_lt_of_le (L11 j h) (m14 _)
      have L_t : ∀ j, some t = some j → j < gvN S13 4 := fun j h => Nat.lt_of_lt_of_le (L_t j h) (m14 _)
      have L_p1 : ∀ j, p1 = some j → j < gvN S13 2 := fun j h => Nat.lt_of_lt_of_le (L_p1 j h) (m14 _)
      have L_p3 : ∀ j, p3 = some j → j < gvN S13 1 := fun j h => Nat.lt_of_lt_of_le (L_p3 j h) (m14 _)
      have hm : ∀ b, gvN S b ≤ gvN S13 b := lh_le_trans hm m14
      have ok := lh_W_ok hW
      refine lh_aload hx hb dX4_open_68 (lv_at hl 0 rfl) ?_
      refine lv_iload_n hx hb dX4_open_70 rfl (lv_at hl 3 rfl) ?_
      obtain ⟨S15, eS15, hf⟩ := dc_let_ok hf
      refine lh_put (S' := S15) (a := 8) (k := 1) (N := 4) (C := RX8) (T := TX8) (own := RX4) (ref := "LoaderModels$Step") (ty := .int) hx hb hts (fun _ h => (List.mem_cons_of_mem _ (List.mem_append_right _ h))) tyX8 tyX8_ok nmX8 hown hK hW hS hx12 (L11 _ hx12) rfl rfl rfl (by decide) (hts (.fieldLink RX4 90 "LoaderModels$Step" "name" "I") (List.mem_cons_of_mem _ (List.mem_append_left _ (List.mem_append_left _ (List.mem_of_getElem? (i := 6) rfl))))) (fun _ h9 => h9) (Or.inl rfl) (by decide +kernel) rfl rfl (fun q9 => by rw [eS15]; exact lh_chI rfl q9) dX4_open_71 (fun H locs hW hS => ?_)
      have m16 : ∀ b, gvN S13 b ≤ gvN S15 b := by rw [eS15]; exact lh_mI
      have L11 : ∀ j, gvR S8 18 x3 ((gvI S 4 t 5)).toNatClampNeg = some j → j < gvN S15 8 := fun j h => Nat.lt_of_lt_of_le (L11 j h) (m16 _)
      have L_t : ∀ j, some t = some j → j < gvN S15 4 := fun j h => Nat.lt_of_lt_of_le (L_t j h) (m16 _)
      have L_p1 : ∀ j, p1 = some j → j < gvN S15 2 := fun j h => Nat.lt_of_lt_of_le (L_p1 j h) (m16 _)
      have L_p3 : ∀ j, p3 = some j → j < gvN S15 1 := fun j h => Nat.lt_of_lt_of_le (L_p3 j h) (m16 _)
      have hm : ∀ b, gvN S b ≤ gvN S15 b := lh_le_trans hm m16
      have ok := lh_W_ok hW
      refine lh_aload hx hb dX4_open_74 (lv_at hl 0 rfl) ?_
      refine lh_aload_n hx hb dX4_open_76 rfl (lv_at hl 4 rfl) ?_
      obtain ⟨S17, eS17, hf⟩ := dc_let_ok hf
      refine lh_put (S' := S17) (a := 8) (k := 2) (N := 4) (C := RX8) (T := TX8) (own := RX4) (ref := "LoaderModels$Step") (ty := .object "LoaderModels$ClassFile") hx hb hts (fun _ h => (List.mem_cons_of_mem _ (List.mem_append_right _ h))) tyX8 tyX8_ok nmX8 hown hK hW hS hx12 (L11 _ hx12) rfl rfl rfl (by decide) (hts (.fieldLink RX4 91 "LoaderModels$Step" "file" "LLoaderModels$ClassFile;") (List.mem_cons_of_mem _ (List.mem_append_left _ (List.mem_append_left _ (List.mem_of_getElem? (i := 7) rfl))))) (fun _ h9 => h9) (Or.inl rfl) (by decide +kernel) lh_nar_r lh_fit_r (fun q9 => by rw [eS17]; exact lh_chR rfl L_p3 q9) dX4_open_77 (fun H locs hW hS => ?_)
      have m18 : ∀ b, gvN S15 b ≤ gvN S17 b := by rw [eS17]; exact lh_mR
      have L11 : ∀ j, gvR S8 18 x3 ((gvI S 4 t 5)).toNatClampNeg = some j → j < gvN S17 8 := fun j h => Nat.lt_of_lt_of_le (L11 j h) (m18 _)
      have L_t : ∀ j, some t = some j → j < gvN S17 4 := fun j h => Nat.lt_of_lt_of_le (L_t j h) (m18 _)
      have L_p1 : ∀ j, p1 = some j → j < gvN S17 2 := fun j h => Nat.lt_of_lt_of_le (L_p1 j h) (m18 _)
      have L_p3 : ∀ j, p3 = some j → j < gvN S17 1 := fun j h => Nat.lt_of_lt_of_le (L_p3 j h) (m18 _)
      have hm : ∀ b, gvN S b ≤ gvN S17 b := lh_le_trans hm m18
      have ok := lh_W_ok hW
      refine lh_aload hx hb dX4_open_80 (lv_at hl 0 rfl) ?_
      refine lv_iload hx hb dX4_open_82 (lv_at hl 5 rfl) ?_
      obtain ⟨S19, eS19, hf⟩ := dc_let_ok hf
      refine lh_put (S' := S19) (a := 8) (k := 3) (N := 4) (C := RX8) (T := TX8) (own := RX4) (ref := "LoaderModels$Step") (ty := .int) hx hb hts (fun _ h => (List.mem_cons_of_mem _ (List.mem_append_right _ h))) tyX8 tyX8_ok nmX8 hown hK hW hS hx12 (L11 _ hx12) rfl rfl rfl (by decide) (hts (.fieldLink RX4 55 "LoaderModels$Step" "stage" "I") (List.mem_cons_of_mem _ (List.mem_append_left _ (List.mem_append_left _ (List.mem_of_getElem? (i := 8) rfl))))) (fun _ h9 => h9) (Or.inl rfl) (by decide +kernel) rfl rfl (fun q9 => by rw [eS19]; exact lh_chI rfl q9) dX4_open_84 (fun H locs hW hS => ?_)
      have m20 : ∀ b, gvN S17 b ≤ gvN S19 b := by rw [eS19]; exact lh_mI
      have L11 : ∀ j, gvR S8 18 x3 ((gvI S 4 t 5)).toNatClampNeg = some j → j < gvN S19 8 := fun j h => Nat.lt_of_lt_of_le (L11 j h) (m20 _)
      have L_t : ∀ j, some t = some j → j < gvN S19 4 := fun j h => Nat.lt_of_lt_of_le (L_t j h) (m20 _)
      have L_p1 : ∀ j, p1 = some j → j < gvN S19 2 := fun j h => Nat.lt_of_lt_of_le (L_p1 j h) (m20 _)
      have L_p3 : ∀ j, p3 = some j → j < gvN S19 1 := fun j h => Nat.lt_of_lt_of_le (L_p3 j h) (m20 _)
      have hm : ∀ b, gvN S b ≤ gvN S19 b := lh_le_trans hm m20
      have ok := lh_W_ok hW
      refine lv_iconst (v := -1) hx hb dX4_open_87 (by decide) ?_
      obtain ⟨rfl, rfl⟩ := dc_ret hf
      refine W.widen (k := mc) (n := ms) (Nat.zero_le _) (Nat.zero_le _) ?_
      exact W.iret (v := (-1 : Int32)) hx hb hr (fun t9 ht9 hW9 => ⟨⟨ad, hE, rfl, ⟨hm, trivial⟩, by rw [ht9]; exact hW⟩, hS.F ht9⟩) hS.2.2 dX4_open_88
    · replace hf := dc_if_t c6 hf
      refine lh_aload_n hx hb dX4_open_28 rfl (lv_at hl 0 rfl) ?_
      have L21 : ∀ j, gvR S 4 t 4 = some j → j < gvN S 18 := fun j h => ok _ _ _ _ j (L_t _ rfl) rfl h
      refine lh_get (a := 4) (k := 4) (N := 6) (C := RX4) (T := TX4) (own := RX4) (ref := "LoaderModels$Loading") hx hb hts (fun _ h => (List.mem_cons_of_mem _ (List.mem_append_left _ (List.mem_append_right _ h)))) hown hK hW rfl (L_t _ rfl) rfl rfl rfl (by decide) (hts (.fieldLink RX4 26 "LoaderModels$Loading" "steps" "[LLoaderModels$Step;") (List.mem_cons_of_mem _ (List.mem_append_left _ (List.mem_append_left _ (List.mem_of_getElem? (i := 1) rfl))))) (fun _ h9 => h9) dX4_open_29 (v := lh_r ad 18 (gvR S 4 t 4)) rfl ?_
      refine lh_aload_n hx hb dX4_open_32 rfl (lv_at hl 0 rfl) ?_
      refine lh_get (a := 4) (k := 5) (N := 6) (C := RX4) (T := TX4) (own := RX4) (ref := "LoaderModels$Loading") hx hb hts (fun _ h => (List.mem_cons_of_mem _ (List.mem_append_left _ (List.mem_append_right _ h)))) hown hK hW rfl (L_t _ rfl) rfl rfl rfl (by decide) (hts (.fieldLink RX4 52 "LoaderModels$Loading" "depth" "I") (List.mem_cons_of_mem _ (List.mem_append_left _ (List.mem_append_left _ (List.mem_of_getElem? (i := 0) rfl))))) (fun _ h9 => h9) dX4_open_33 (v := .int (gvI S 4 t 5)) rfl ?_
      obtain ⟨S22, eS22, hf⟩ := dc_let_ok hf
      have hn : ∀ b, gvN S22 b ≤ gvN S' b := by
        have hm : ∀ b, gvN S22 b ≤ gvN S22 b := fun _ => Nat.le_refl _
        obtain ⟨r28, S29, k30, hf⟩ := dc_bd_ok hf
        have hm := lh_le_trans hm (show ∀ b, gvN S22 b ≤ gvN S29 b from m_X8_init k30)
        obtain ⟨g32, hf⟩ := dc_gd_ok hf
        obtain ⟨S33, eS33, hf⟩ := dc_let_ok hf
        have hm := lh_le_trans hm (show ∀ b, gvN S29 b ≤ gvN S33 b from by rw [eS33]; exact lh_mR)
        obtain ⟨v36, hv36, hf⟩ := dc_let_ok hf
        obtain ⟨S37, eS37, hf⟩ := dc_let_ok hf
        have hm := lh_le_trans hm (show ∀ b, gvN S33 b ≤ gvN S37 b from by rw [eS37]; exact lh_mI)
        obtain ⟨x39, hx39, hf⟩ := dc_nn_ok hf
        obtain ⟨g40, hf⟩ := dc_gd_ok hf
        obtain ⟨x42, hx42, hf⟩ := dc_nn_ok hf
        obtain ⟨S43, eS43, hf⟩ := dc_let_ok hf
        have hm := lh_le_trans hm (show ∀ b, gvN S37 b ≤ gvN S43 b from by rw [eS43]; exact lh_mR)
        obtain ⟨S45, eS45, hf⟩ := dc_let_ok hf
        have hm := lh_le_trans hm (show ∀ b, gvN S43 b ≤ gvN S45 b from by rw [eS45]; exact lh_mI)
        obtain ⟨S47, eS47, hf⟩ := dc_let_ok hf
        have hm := lh_le_trans hm (show ∀ b, gvN S45 b ≤ gvN S47 b from by rw [eS47]; exact lh_mR)
        obtain ⟨S49, eS49, hf⟩ := dc_let_ok hf
        have hm := lh_le_trans hm (show ∀ b, gvN S47 b ≤ gvN S49 b from by rw [eS49]; exact lh_mI)
        obtain ⟨_, rfl⟩ := dc_ret hf
        exact hm
      have hc9 : 0 + 1 ≤ mc := lh_one8 (by rw [← eS22]; exact hn) hm hmc
      have hs9 : 0 + 4 ≤ ms := lh_ons8 (by rw [← eS22]; exact hn) hm hms
      refine lh_new (a := 8) (N := 4) (C := RX8) (T := TX8) (own := RX4) hx hb hts (fun _ h => (List.mem_cons_of_mem _ (List.mem_append_right _ h))) tyX8 tyX8_ok hown (hts (.classLink RX4 24 RX8) (List.mem_cons_of_mem _ (List.mem_append_left _ (List.mem_append_left _ (List.mem_of_getElem? (i := 2) rfl))))) (hts (.instantiable RX8 4) (List.mem_cons_of_mem _ (List.mem_append_left _ (List.mem_append_left _ (List.mem_of_getElem? (i := 3) rfl))))) (hts (.initialized RX8) (List.mem_cons_of_mem _ (List.mem_append_left _ (List.mem_append_left _ (List.mem_of_getElem? (i := 4) rfl))))) hK hW hS hA rfl rfl rfl (by decide +kernel) hc9 hs9 dX4_open_36 (fun ad23 H hE24 hW hS => ?_)
      rw [lh_rE hE24 L_t] at hl
      rw [lh_rE hE24 L_p1] at hl
      rw [lh_rE hE24 L_p3] at hl
      rw [lh_rE hE24 L21]
      have hE : lh_E S ad ad23 := lh_E.trans hE hm hE24
      rw [← eS22] at hW
      have m25 : ∀ b, gvN S b ≤ gvN S22 b := by rw [eS22]; exact lh_mN
      have L_t : ∀ j, some t = some j → j < gvN S22 4 := fun j h => Nat.lt_of_lt_of_le (L_t j h) (m25 _)
      have L_p1 : ∀ j, p1 = some j → j < gvN S22 2 := fun j h => Nat.lt_of_lt_of_le (L_p1 j h) (m25 _)
      have L_p3 : ∀ j, p3 = some j → j < gvN S22 1 := fun j h => Nat.lt_of_lt_of_le (L_p3 j h) (m25 _)
      have L21 : ∀ j, gvR S 4 t 4 = some j → j < gvN S22 18 := fun j h => Nat.lt_of_lt_of_le (L21 j h) (m25 _)
      have hm : ∀ b, gvN S b ≤ gvN S22 b := lh_le_trans hm m25
      have ok := lh_W_ok hW
      have L26 : ∀ j, some (gvN S 8) = some j → j < gvN S22 8 := lh_ls (by rw [eS22]; exact lh_nN)
      refine lv_dup hx hb dX4_open_39 lh_cat_r ?_
      obtain ⟨r28, S29, k30, hf⟩ := dc_bd_ok hf
      refine lh_call (S' := S29) (lh_rin ⟨hx, hb, hml, hown, hts⟩ rfl (As := []) (rest := [lh_r ad23 8 (some (gvN S 8)), .int (gvI S 4 t 5), lh_r ad23 18 (gvR S 4 t 4)]) (k := 8) (c_X8_init l D cT n S22 ad23 A H.size (fun q9 h9 => hA q9 (Nat.le_trans hS.1 h9)) (gvN S 8) r28 S29 k30 L26) ⟨va_cnB 0 hts gX4_open_X8_init_n85 rfl rfl rfl hN.2.2.2.1 (hts (.initialized RX8) (List.mem_cons_of_mem _ (List.mem_append_left _ (List.mem_append_left _ (List.mem_of_getElem? (i := 4) rfl))))) (by decide +kernel) ⟨Nat.le_of_ble_eq_true rfl, Nat.le_of_ble_eq_true rfl⟩, rfl, (hts (.instanceMethod yX8_init) (List.mem_cons_of_mem _ (List.mem_append_left _ (List.mem_append_left _ (List.mem_of_getElem? (i := 12) rfl)))))⟩ hK hN hW rfl hl.1 rfl (by simp [lh_cat_r, lh_cat_i, lh_cat_j]) dX4_open_40 ⟨hc9, hs9⟩) hS (fun H locs hX hW hS => ?_)
      refine W.widen (k := 0 + 1) (n := 0 + 4) (by omega) (by omega) ?_
      show W _ _ _ _ _ _ _ _ _ _ _ _ _ _ _ (F0 m 43 ls [lh_r ad23 8 (some (gvN S 8)), .int (gvI S 4 t 5), lh_r ad23 18 (gvR S 4 t 4)])
      have m31 : ∀ b, gvN S22 b ≤ gvN S29 b := hX.1
      have L_t : ∀ j, some t = some j → j < gvN S29 4 := fun j h => Nat.lt_of_lt_of_le (L_t j h) (m31 _)
      have L_p1 : ∀ j, p1 = some j → j < gvN S29 2 := fun j h => Nat.lt_of_lt_of_le (L_p1 j h) (m31 _)
      have L_p3 : ∀ j, p3 = some j → j < gvN S29 1 := fun j h => Nat.lt_of_lt_of_le (L_p3 j h) (m31 _)
      have L26 : ∀ j, some (gvN S 8) = some j → j < gvN S29 8 := fun j h => Nat.lt_of_lt_of_le (L26 j h) (m31 _)
      have L21 : ∀ j, gvR S 4 t 4 = some j → j < gvN S29 18 := fun j h => Nat.lt_of_lt_of_le (L21 j h) (m31 _)
      have hm : ∀ b, gvN S b ≤ gvN S29 b := lh_le_trans hm m31
      have ok := lh_W_ok hW
      obtain ⟨g32, hf⟩ := dc_gd_ok hf
      obtain ⟨S33, eS33, hf⟩ := dc_let_ok hf
      refine lh_ast_r (a := 18) (t0 := 8) (t := 8) hx hb hK hW hS hx3 (L21 _ hx3) rfl rfl (fun _ => rfl) rfl rfl L26 g32 dX4_open_43 (fun H locs hW hS => ?_)
      rw [← eS33] at hW
      have m34 : ∀ b, gvN S29 b ≤ gvN S33 b := by rw [eS33]; exact lh_mR
      have L_t : ∀ j, some t = some j → j < gvN S33 4 := fun j h => Nat.lt_of_lt_of_le (L_t j h) (m34 _)
      have L_p1 : ∀ j, p1 = some j → j < gvN S33 2 := fun j h => Nat.lt_of_lt_of_le (L_p1 j h) (m34 _)
      have L_p3 : ∀ j, p3 = some j → j < gvN S33 1 := fun j h => Nat.lt_of_lt_of_le (L_p3 j h) (m34 _)
      have hm : ∀ b, gvN S b ≤ gvN S33 b := lh_le_trans hm m34
      have ok := lh_W_ok hW
      refine lh_aload_n hx hb dX4_open_44 rfl (lv_at hl 0 rfl) ?_
      have L35 : ∀ j, gvR S33 4 t 4 = some j → j < gvN S33 18 := fun j h => ok _ _ _ _ j (L_t _ rfl) rfl h
      refine lh_get (a := 4) (k := 4) (N := 6) (C := RX4) (T := TX4) (own := RX4) (ref := "LoaderModels$Loading") hx hb hts (fun _ h => (List.mem_cons_of_mem _ (List.mem_append_left _ (List.mem_append_right _ h)))) hown hK hW rfl (L_t _ rfl) rfl rfl rfl (by decide) (hts (.fieldLink RX4 26 "LoaderModels$Loading" "steps" "[LLoaderModels$Step;") (List.mem_cons_of_mem _ (List.mem_append_left _ (List.mem_append_left _ (List.mem_of_getElem? (i := 1) rfl))))) (fun _ h9 => h9) dX4_open_45 (v := lh_r ad23 18 (gvR S33 4 t 4)) rfl ?_
      refine lh_aload_n hx hb dX4_open_48 rfl (lv_at hl 0 rfl) ?_
      refine lv_dup hx hb dX4_open_49 lh_cat_r ?_
      refine lh_get (a := 4) (k := 5) (N := 6) (C := RX4) (T := TX4) (own := RX4) (ref := "LoaderModels$Loading") hx hb hts (fun _ h => (List.mem_cons_of_mem _ (List.mem_append_left _ (List.mem_append_right _ h)))) hown hK hW rfl (L_t _ rfl) rfl rfl rfl (by decide) (hts (.fieldLink RX4 52 "LoaderModels$Loading" "depth" "I") (List.mem_cons_of_mem _ (List.mem_append_left _ (List.mem_append_left _ (List.mem_of_getElem? (i := 0) rfl))))) (fun _ h9 => h9) dX4_open_50 (v := .int (gvI S33 4 t 5)) rfl ?_
      refine lv_dup_x1 hx hb dX4_open_53 rfl lh_cat_r ?_
      refine lv_iconst (v := 1) hx hb dX4_open_54 (by decide) ?_
      refine lv_iadd hx hb dX4_open_55 ?_
      refine lv_topi (fun v36 hv36 => ?_)
      replace hf := dc_let_e hv36 hf
      obtain ⟨S37, eS37, hf⟩ := dc_let_ok hf
      refine lh_put (S' := S37) (a := 4) (k := 5) (N := 6) (C := RX4) (T := TX4) (own := RX4) (ref := "LoaderModels$Loading") (ty := .int) hx hb hts (fun _ h => (List.mem_cons_of_mem _ (List.mem_append_left _ (List.mem_append_right _ h)))) tyX4 tyX4_ok nmX4 hown hK hW hS rfl (L_t _ rfl) rfl rfl rfl (by decide) (hts (.fieldLink RX4 52 "LoaderModels$Loading" "depth" "I") (List.mem_cons_of_mem _ (List.mem_append_left _ (List.mem_append_left _ (List.mem_of_getElem? (i := 0) rfl))))) (fun _ h9 => h9) (Or.inl rfl) (by decide +kernel) rfl rfl (fun q9 => by rw [eS37]; exact lh_chI rfl q9) dX4_open_56 (fun H locs hW hS => ?_)
      have m38 : ∀ b, gvN S33 b ≤ gvN S37 b := by rw [eS37]; exact lh_mI
      have L_t : ∀ j, some t = some j → j < gvN S37 4 := fun j h => Nat.lt_of_lt_of_le (L_t j h) (m38 _)
      have L_p1 : ∀ j, p1 = some j → j < gvN S37 2 := fun j h => Nat.lt_of_lt_of_le (L_p1 j h) (m38 _)
      have L_p3 : ∀ j, p3 = some j → j < gvN S37 1 := fun j h => Nat.lt_of_lt_of_le (L_p3 j h) (m38 _)
      have L35 : ∀ j, gvR S33 4 t 4 = some j → j < gvN S37 18 := fun j h => Nat.lt_of_lt_of_le (L35 j h) (m38 _)
      have hm : ∀ b, gvN S b ≤ gvN S37 b := lh_le_trans hm m38
      have ok := lh_W_ok hW
      obtain ⟨x39, hx39, hf⟩ := dc_nn_ok hf
      obtain ⟨g40, hf⟩ := dc_gd_ok hf
      have L41 : ∀ j, gvR S37 18 x39 ((gvI S33 4 t 5)).toNatClampNeg = some j → j < gvN S37 8 := fun j h => ok 18 _ _ 8 j (L35 _ hx39) rfl h
      refine lh_ald_r (a := 18) (t0 := 8) (t := 8) hx hb hK hW hx39 (L35 _ hx39) rfl rfl rfl g40 dX4_open_59 ?_
      refine lh_astore (i := 5) (lv' := [(5, lh_r ad23 8 (gvR S37 18 x39 ((gvI S33 4 t 5)).toNatClampNeg)), (0, lh_r ad23 4 (some t)), (1, lh_r ad23 2 p1), (2, .int p2), (3, lh_r ad23 1 p3), (4, .int p4)]) hx hb dX4_open_60 hl (by decide) (by first | rfl | simp [lh_cat_r, lh_cat_i, lh_cat_j]) (fun ls hl => ?_)
      refine lh_aload hx hb dX4_open_62 (lv_at hl 0 rfl) ?_
      refine lh_aload_n hx hb dX4_open_64 rfl (lv_at hl 2 rfl) ?_
      obtain ⟨x42, hx42, hf⟩ := dc_nn_ok hf
      obtain ⟨S43, eS43, hf⟩ := dc_let_ok hf
      refine lh_put (S' := S43) (a := 8) (k := 0) (N := 4) (C := RX8) (T := TX8) (own := RX4) (ref := "LoaderModels$Step") (ty := .object "LoaderModels$Loader") hx hb hts (fun _ h => (List.mem_cons_of_mem _ (List.mem_append_right _ h))) tyX8 tyX8_ok nmX8 hown hK hW hS hx42 (L41 _ hx42) rfl rfl rfl (by decide) (hts (.fieldLink RX4 86 "LoaderModels$Step" "loader" "LLoaderModels$Loader;") (List.mem_cons_of_mem _ (List.mem_append_left _ (List.mem_append_left _ (List.mem_of_getElem? (i := 5) rfl))))) (fun _ h9 => h9) (Or.inl rfl) (by decide +kernel) lh_nar_r lh_fit_r (fun q9 => by rw [eS43]; exact lh_chR rfl L_p1 q9) dX4_open_65 (fun H locs hW hS => ?_)
      have m44 : ∀ b, gvN S37 b ≤ gvN S43 b := by rw [eS43]; exact lh_mR
      have L41 : ∀ j, gvR S37 18 x39 ((gvI S33 4 t 5)).toNatClampNeg = some j → j < gvN S43 8 := fun j h => Nat.lt_of_lt_of_le (L41 j h) (m44 _)
      have L_t : ∀ j, some t = some j → j < gvN S43 4 := fun j h => Nat.lt_of_lt_of_le (L_t j h) (m44 _)
      have L_p1 : ∀ j, p1 = some j → j < gvN S43 2 := fun j h => Nat.lt_of_lt_of_le (L_p1 j h) (m44 _)
      have L_p3 : ∀ j, p3 = some j → j < gvN S43 1 := fun j h => Nat.lt_of_lt_of_le (L_p3 j h) (m44 _)
      have hm : ∀ b, gvN S b ≤ gvN S43 b := lh_le_trans hm m44
      have ok := lh_W_ok hW
      refine lh_aload hx hb dX4_open_68 (lv_at hl 0 rfl) ?_
      refine lv_iload_n hx hb dX4_open_70 rfl (lv_at hl 3 rfl) ?_
      obtain ⟨S45, eS45, hf⟩ := dc_let_ok hf
      refine lh_put (S' := S45) (a := 8) (k := 1) (N := 4) (C := RX8) (T := TX8) (own := RX4) (ref := "LoaderModels$Step") (ty := .int) hx hb hts (fun _ h => (List.mem_cons_of_mem _ (List.mem_append_right _ h))) tyX8 tyX8_ok nmX8 hown hK hW hS hx42 (L41 _ hx42) rfl rfl rfl (by decide) (hts (.fieldLink RX4 90 "LoaderModels$Step" "name" "I") (List.mem_cons_of_mem _ (List.mem_append_left _ (List.mem_append_left _ (List.mem_of_getElem? (i := 6) rfl))))) (fun _ h9 => h9) (Or.inl rfl) (by decide +kernel) rfl rfl (fun q9 => by rw [eS45]; exact lh_chI rfl q9) dX4_open_71 (fun H locs hW hS => ?_)
      have m46 : ∀ b, gvN S43 b ≤ gvN S45 b := by rw [eS45]; exact lh_mI
      have L41 : ∀ j, gvR S37 18 x39 ((gvI S33 4 t 5)).toNatClampNeg = some j → j < gvN S45 8 := fun j h => Nat.lt_of_lt_of_le (L41 j h) (m46 _)
      have L_t : ∀ j, some t = some j → j < gvN S45 4 := fun j h => Nat.lt_of_lt_of_le (L_t j h) (m46 _)
      have L_p1 : ∀ j, p1 = some j → j < gvN S45 2 := fun j h => Nat.lt_of_lt_of_le (L_p1 j h) (m46 _)
      have L_p3 : ∀ j, p3 = some j → j < gvN S45 1 := fun j h => Nat.lt_of_lt_of_le (L_p3 j h) (m46 _)
      have hm : ∀ b, gvN S b ≤ gvN S45 b := lh_le_trans hm m46
      have ok := lh_W_ok hW
      refine lh_aload hx hb dX4_open_74 (lv_at hl 0 rfl) ?_
      refine lh_aload_n hx hb dX4_open_76 rfl (lv_at hl 4 rfl) ?_
      obtain ⟨S47, eS47, hf⟩ := dc_let_ok hf
      refine lh_put (S' := S47) (a := 8) (k := 2) (N := 4) (C := RX8) (T := TX8) (own := RX4) (ref := "LoaderModels$Step") (ty := .object "LoaderModels$ClassFile") hx hb hts (fun _ h => (List.mem_cons_of_mem _ (List.mem_append_right _ h))) tyX8 tyX8_ok nmX8 hown hK hW hS hx42 (L41 _ hx42) rfl rfl rfl (by decide) (hts (.fieldLink RX4 91 "LoaderModels$Step" "file" "LLoaderModels$ClassFile;") (List.mem_cons_of_mem _ (List.mem_append_left _ (List.mem_append_left _ (List.mem_of_getElem? (i := 7) rfl))))) (fun _ h9 => h9) (Or.inl rfl) (by decide +kernel) lh_nar_r lh_fit_r (fun q9 => by rw [eS47]; exact lh_chR rfl L_p3 q9) dX4_open_77 (fun H locs hW hS => ?_)
      have m48 : ∀ b, gvN S45 b ≤ gvN S47 b := by rw [eS47]; exact lh_mR
      have L41 : ∀ j, gvR S37 18 x39 ((gvI S33 4 t 5)).toNatClampNeg = some j → j < gvN S47 8 := fun j h => Nat.lt_of_lt_of_le (L41 j h) (m48 _)
      have L_t : ∀ j, some t = some j → j < gvN S47 4 := fun j h => Nat.lt_of_lt_of_le (L_t j h) (m48 _)
      have L_p1 : ∀ j, p1 = some j → j < gvN S47 2 := fun j h => Nat.lt_of_lt_of_le (L_p1 j h) (m48 _)
      have L_p3 : ∀ j, p3 = some j → j < gvN S47 1 := fun j h => Nat.lt_of_lt_of_le (L_p3 j h) (m48 _)
      have hm : ∀ b, gvN S b ≤ gvN S47 b := lh_le_trans hm m48
      have ok := lh_W_ok hW
      refine lh_aload hx hb dX4_open_80 (lv_at hl 0 rfl) ?_
      refine lv_iload hx hb dX4_open_82 (lv_at hl 5 rfl) ?_
      obtain ⟨S49, eS49, hf⟩ := dc_let_ok hf
      refine lh_put (S' := S49) (a := 8) (k := 3) (N := 4) (C := RX8) (T := TX8) (own := RX4) (ref := "LoaderModels$Step") (ty := .int) hx hb hts (fun _ h => (List.mem_cons_of_mem _ (List.mem_append_right _ h))) tyX8 tyX8_ok nmX8 hown hK hW hS hx42 (L41 _ hx42) rfl rfl rfl (by decide) (hts (.fieldLink RX4 55 "LoaderModels$Step" "stage" "I") (List.mem_cons_of_mem _ (List.mem_append_left _ (List.mem_append_left _ (List.mem_of_getElem? (i := 8) rfl))))) (fun _ h9 => h9) (Or.inl rfl) (by decide +kernel) rfl rfl (fun q9 => by rw [eS49]; exact lh_chI rfl q9) dX4_open_84 (fun H locs hW hS => ?_)
      have m50 : ∀ b, gvN S47 b ≤ gvN S49 b := by rw [eS49]; exact lh_mI
      have L41 : ∀ j, gvR S37 18 x39 ((gvI S33 4 t 5)).toNatClampNeg = some j → j < gvN S49 8 := fun j h => Nat.lt_of_lt_of_le (L41 j h) (m50 _)
      have L_t : ∀ j, some t = some j → j < gvN S49 4 := fun j h => Nat.lt_of_lt_of_le (L_t j h) (m50 _)
      have L_p1 : ∀ j, p1 = some j → j < gvN S49 2 := fun j h => Nat.lt_of_lt_of_le (L_p1 j h) (m50 _)
      have L_p3 : ∀ j, p3 = some j → j < gvN S49 1 := fun j h => Nat.lt_of_lt_of_le (L_p3 j h) (m50 _)
      have hm : ∀ b, gvN S b ≤ gvN S49 b := lh_le_trans hm m50
      have ok := lh_W_ok hW
      refine lv_iconst (v := -1) hx hb dX4_open_87 (by decide) ?_
      obtain ⟨rfl, rfl⟩ := dc_ret hf
      refine W.widen (k := mc) (n := ms) hc9 hs9 ?_
      exact W.iret (v := (-1 : Int32)) hx hb hr (fun t9 ht9 hW9 => ⟨⟨ad23, hE, rfl, ⟨hm, trivial⟩, by rw [ht9]; exact hW⟩, hS.F ht9⟩) hS.2.2 dX4_open_88
  · replace hf := dc_if_f c1 hf
    refine lv_bipush (v := 6) hx hb dX4_open_10 (by decide) ?_
    obtain ⟨r51, S52, k53, hf⟩ := dc_bd_ok hf
    refine lh_call (S' := S52) (lh_rsn ⟨hx, hb, hml, hown, hts⟩ (As := [.int (6 : Int32)]) (rest := []) (c_X9_failed l D cT n S ad A H.size (fun q9 h9 => hA q9 (Nat.le_trans hS.1 h9)) (6 : Int32) r51 S52 k53 ) ⟨va_cnB 1 hts gX4_open_X9_failed_n81 rfl rfl rfl hN.2.2.1 (hts (.initialized RX9) (List.mem_cons_of_mem _ (List.mem_append_left _ (List.mem_append_left _ (List.mem_of_getElem? (i := 10) rfl))))) (by decide +kernel) ⟨Nat.le_of_ble_eq_true rfl, Nat.le_of_ble_eq_true rfl⟩, (hts (.static yX9_failed) (List.mem_cons_of_mem _ (List.mem_append_left _ (List.mem_append_left _ (List.mem_of_getElem? (i := 9) rfl))))), trivial⟩ hK hN hW rfl hl.1 rfl (by simp [lh_cat_r, lh_cat_i, lh_cat_j]) dX4_open_12 ⟨Nat.zero_le _, Nat.zero_le _⟩) hS (fun H locs hX hW hS => ?_)
    refine W.widen (k := 0) (n := 0) (by omega) (by omega) ?_
    show W _ _ _ _ _ _ _ _ _ _ _ _ _ _ _ (F0 m 15 ls [.int r51])
    have m54 : ∀ b, gvN S b ≤ gvN S52 b := hX.1
    have L_t : ∀ j, some t = some j → j < gvN S52 4 := fun j h => Nat.lt_of_lt_of_le (L_t j h) (m54 _)
    have L_p1 : ∀ j, p1 = some j → j < gvN S52 2 := fun j h => Nat.lt_of_lt_of_le (L_p1 j h) (m54 _)
    have L_p3 : ∀ j, p3 = some j → j < gvN S52 1 := fun j h => Nat.lt_of_lt_of_le (L_p3 j h) (m54 _)
    have hm : ∀ b, gvN S b ≤ gvN S52 b := lh_le_trans hm m54
    have ok := lh_W_ok hW
    obtain ⟨rfl, rfl⟩ := dc_ret hf
    refine W.widen (k := mc) (n := ms) (Nat.zero_le _) (Nat.zero_le _) ?_
    exact W.iret (v := r51) hx hb hr (fun t9 ht9 hW9 => ⟨⟨ad, hE, rfl, ⟨hm, trivial⟩, by rw [ht9]; exact hW⟩, hS.F ht9⟩) hS.2.2 dX4_open_15
def f_X4_askParent (n : Nat) (S : lh_S) (t : Nat) (p1 : Option Nat) (p2 : Int32) : Option (Int32 × lh_S) :=
  dc_nn p1 fun x1 =>
  dc_let (pvI S 8 x1 3 p2) fun S2 =>
  dc_nn (gvR S2 8 x1 0) fun x5 =>
  dc_bd (f_X4_open n S2 t (gvR S2 2 x5 1) (gvI S2 8 x1 1) (none : Option Nat) (0 : Int32)) fun r8 S9 =>
  some (r8, S9)
set_option maxHeartbeats 1000000 in
theorem m_X4_askParent {n : Nat} {S : lh_S} {t : Nat} {p1 : Option Nat} {p2 : Int32} {r : Int32} {S' : lh_S} (hf : f_X4_askParent n S t p1 p2 = some (r, S')) : ∀ b, gvN S b ≤ gvN S' b := by
  have hm : ∀ b, gvN S b ≤ gvN S b := fun _ => Nat.le_refl _
  unfold f_X4_askParent at hf
  obtain ⟨x1, hx1, hf⟩ := dc_nn_ok hf
  obtain ⟨S2, eS2, hf⟩ := dc_let_ok hf
  have hm := lh_le_trans hm (show ∀ b, gvN S b ≤ gvN S2 b from by rw [eS2]; exact lh_mI)
  obtain ⟨x5, hx5, hf⟩ := dc_nn_ok hf
  obtain ⟨r8, S9, k10, hf⟩ := dc_bd_ok hf
  have hm := lh_le_trans hm (show ∀ b, gvN S2 b ≤ gvN S9 b from m_X4_open k10)
  obtain ⟨_, rfl⟩ := dc_ret hf
  exact hm
set_option maxHeartbeats 1000000 in
theorem k_X4_askParent {n : Nat} {S : lh_S} {t : Nat} {p1 : Option Nat} {p2 : Int32} {r : Int32} {S' : lh_S} (hf : f_X4_askParent n S t p1 p2 = some (r, S')) : lh_sm9 S S' := by
  have hm : lh_sm9 S S := lh_sm9_rf
  unfold f_X4_askParent at hf
  obtain ⟨x1, hx1, hf⟩ := dc_nn_ok hf
  obtain ⟨S2, eS2, hf⟩ := dc_let_ok hf
  have hm := lh_sm9_trans hm (show lh_sm9 S S2 from by rw [eS2]; exact (lh_sm9I (by decide)))
  obtain ⟨x5, hx5, hf⟩ := dc_nn_ok hf
  obtain ⟨r8, S9, k10, hf⟩ := dc_bd_ok hf
  have hm := lh_sm9_trans hm (show lh_sm9 S2 S9 from k_X4_open k10)
  obtain ⟨_, rfl⟩ := dc_ret hf
  exact hm
set_option maxHeartbeats 4000000 in
set_option maxRecDepth 100000 in
theorem c_X4_askParent (l : Launch) (D : va_G) (cT : Nat → ClassId) (n : Nat) (S : lh_S) (ad : Nat → Nat → Nat) (A : Nat → Prop) (sz : Nat) (hA : ∀ q, sz ≤ q → A q) (t : Nat) (p1 : Option Nat) (p2 : Int32) (r : Int32) (S' : lh_S) (hf : f_X4_askParent n S t p1 p2 = some (r, S')) (L_t : ∀ j, some t = some j → j < gvN S 4) (L_p1 : ∀ j, p1 = some j → j < gvN S 8) (mc ms : Nat) (hmc : gvN S' 8 + gvN S' 5 ≤ gvN S 8 + gvN S 5 + mc) (hms : 4 * gvN S' 8 + 6 * gvN S' 5 ≤ 4 * gvN S 8 + 6 * gvN S 5 + ms) : Met l yX4_askParent wsX4_askParent ({ frames := 3, cells := mc, slots := ms, locals := 65 } : Room) (lh_P D cT S ad A sz [lh_r ad 4 (some t), lh_r ad 8 p1, .int p2]) (lh_QA D cT S S' ad A ((∀ b, gvN S b ≤ gvN S' b) ∧ True) (fun ad9 => some (.int r))) mc ms A := by
  refine Met.ofW (cc := cX4_askParent) (maxL := 3) (ret := (some .int)) (by decide) rfl ?_
  intro p e s m args below meth c s₁ B hml hv
  obtain ⟨hargs, hsz, hW, hK, hN⟩ := hv
  have hx := B.exec
  have hb := B.bytes
  have hr := B.returns
  have hts := atoms_spec (ws := wsX4_askParent) B.pre
  have hown : s.vm.findClass RX4 = some m.cls := findClass_of_methodNamed B.named
  have hlocks := B.notSynchronized
  have hA : ∀ q, s.heap.size ≤ q → A q := fun q h => hA q (by rw [← hsz]; exact h)
  have ok := lh_W_ok hW
  have hm : ∀ b, gvN S b ≤ gvN S b := fun _ => Nat.le_refl _
  have hE : lh_E S ad ad := lh_E.rf
  obtain ⟨ls, hent, hl⟩ := lh_entry m args [lh_r ad 4 (some t), lh_r ad 8 p1, .int p2] 3 [(0, lh_r ad 4 (some t)), (1, lh_r ad 8 p1), (2, .int p2)] hargs (by simp [lv_args, lh_cat_r, lh_cat_i, lh_cat_j]) (by simp [lg_sl, lh_cat_r, lh_cat_i, lh_cat_j])
  rw [hent]
  generalize hH : s.heap = H at hW ⊢
  have hS : va_S A s.heap H [] := by rw [← hH]; exact va_S.rf
  unfold f_X4_askParent at hf
  refine lh_aload_n hx hb dX4_askParent_0 rfl (lv_at hl 1 rfl) ?_
  refine lv_iload_n hx hb dX4_askParent_1 rfl (lv_at hl 2 rfl) ?_
  obtain ⟨x1, hx1, hf⟩ := dc_nn_ok hf
  obtain ⟨S2, eS2, hf⟩ := dc_let_ok hf
  refine lh_put (S' := S2) (a := 8) (k := 3) (N := 4) (C := RX8) (T := TX8) (own := RX4) (ref := "LoaderModels$Step") (ty := .int) hx hb hts (fun _ h => (List.mem_cons_of_mem _ (List.mem_append_left _ (List.mem_append_left _ (List.mem_append_right _ h))))) tyX8 tyX8_ok nmX8 hown hK hW hS hx1 (L_p1 _ hx1) rfl rfl rfl (by decide) (hts (.fieldLink RX4 55 "LoaderModels$Step" "stage" "I") (List.mem_cons_of_mem _ (List.mem_append_left _ (List.mem_append_left _ (List.mem_append_left _ (List.mem_of_getElem? (i := 0) rfl)))))) (fun _ h9 => h9) (Or.inl rfl) (by decide +kernel) rfl rfl (fun q9 => by rw [eS2]; exact lh_chI rfl q9) dX4_askParent_2 (fun H locs hW hS => ?_)
  have m3 : ∀ b, gvN S b ≤ gvN S2 b := by rw [eS2]; exact lh_mI
  have L_t : ∀ j, some t = some j → j < gvN S2 4 := fun j h => Nat.lt_of_lt_of_le (L_t j h) (m3 _)
  have L_p1 : ∀ j, p1 = some j → j < gvN S2 8 := fun j h => Nat.lt_of_lt_of_le (L_p1 j h) (m3 _)
  have hm : ∀ b, gvN S b ≤ gvN S2 b := lh_le_trans hm m3
  have ok := lh_W_ok hW
  refine lh_aload_n hx hb dX4_askParent_5 rfl (lv_at hl 0 rfl) ?_
  refine lh_aload_n hx hb dX4_askParent_6 rfl (lv_at hl 1 rfl) ?_
  have L4 : ∀ j, gvR S2 8 x1 0 = some j → j < gvN S2 2 := fun j h => ok _ _ _ _ j (L_p1 _ hx1) rfl h
  refine lh_get (a := 8) (k := 0) (N := 4) (C := RX8) (T := TX8) (own := RX4) (ref := "LoaderModels$Step") hx hb hts (fun _ h => (List.mem_cons_of_mem _ (List.mem_append_left _ (List.mem_append_left _ (List.mem_append_right _ h))))) hown hK hW hx1 (L_p1 _ hx1) rfl rfl rfl (by decide) (hts (.fieldLink RX4 86 "LoaderModels$Step" "loader" "LLoaderModels$Loader;") (List.mem_cons_of_mem _ (List.mem_append_left _ (List.mem_append_left _ (List.mem_append_left _ (List.mem_of_getElem? (i := 1) rfl)))))) (fun _ h9 => h9) dX4_askParent_7 (v := lh_r ad 2 (gvR S2 8 x1 0)) rfl ?_
  obtain ⟨x5, hx5, hf⟩ := dc_nn_ok hf
  have L6 : ∀ j, gvR S2 2 x5 1 = some j → j < gvN S2 2 := fun j h => ok _ _ _ _ j (L4 _ hx5) rfl h
  refine lh_get (a := 2) (k := 1) (N := 7) (C := RX2) (T := TX2) (own := RX4) (ref := "LoaderModels$Loader") hx hb hts (fun _ h => (List.mem_cons_of_mem _ (List.mem_append_left _ (List.mem_append_right _ h)))) hown hK hW hx5 (L4 _ hx5) rfl rfl rfl (by decide) (hts (.fieldLink RX4 122 "LoaderModels$Loader" "parent" "LLoaderModels$Loader;") (List.mem_cons_of_mem _ (List.mem_append_left _ (List.mem_append_left _ (List.mem_append_left _ (List.mem_of_getElem? (i := 2) rfl)))))) (fun _ h9 => h9) dX4_askParent_10 (v := lh_r ad 2 (gvR S2 2 x5 1)) rfl ?_
  refine lh_aload_n hx hb dX4_askParent_13 rfl (lv_at hl 1 rfl) ?_
  refine lh_get (a := 8) (k := 1) (N := 4) (C := RX8) (T := TX8) (own := RX4) (ref := "LoaderModels$Step") hx hb hts (fun _ h => (List.mem_cons_of_mem _ (List.mem_append_left _ (List.mem_append_left _ (List.mem_append_right _ h))))) hown hK hW hx1 (L_p1 _ hx1) rfl rfl rfl (by decide) (hts (.fieldLink RX4 90 "LoaderModels$Step" "name" "I") (List.mem_cons_of_mem _ (List.mem_append_left _ (List.mem_append_left _ (List.mem_append_left _ (List.mem_of_getElem? (i := 3) rfl)))))) (fun _ h9 => h9) dX4_askParent_14 (v := .int (gvI S2 8 x1 1)) rfl ?_
  have L7 : ∀ j, (none : Option Nat) = some j → j < gvN S2 1 := fun j h => by cases h
  refine lh_null hx hb ad 1 dX4_askParent_17 ?_
  refine lv_iconst (v := 0) hx hb dX4_askParent_18 (by decide) ?_
  obtain ⟨r8, S9, k10, hf⟩ := dc_bd_ok hf
  have hn : ∀ b, gvN S9 b ≤ gvN S' b := by
    have hm : ∀ b, gvN S9 b ≤ gvN S9 b := fun _ => Nat.le_refl _
    obtain ⟨_, rfl⟩ := dc_ret hf
    exact hm
  have q1 := m_X4_open k10 8
  have q2 := m_X4_open k10 5
  have q3 := hn 8
  have q4 := hn 5
  have q5 := hm 8
  have q6 := hm 5
  have hc9 : 0 + (gvN S9 8 + gvN S9 5 - (gvN S2 8 + gvN S2 5)) ≤ mc := by omega
  have hs9 : 0 + (4 * gvN S9 8 + 6 * gvN S9 5 - (4 * gvN S2 8 + 6 * gvN S2 5)) ≤ ms := by omega
  refine lh_callA (S' := S9) (lh_rv ⟨hx, hb, hml, hown, hts⟩ rfl (As := [lh_r ad 2 (gvR S2 2 x5 1), .int (gvI S2 8 x1 1), lh_r ad 1 (none : Option Nat), .int (0 : Int32)]) (rest := []) (k := 4) (c_X4_open l D cT n S2 ad A H.size (fun q9 h9 => hA q9 (Nat.le_trans hS.1 h9)) t (gvR S2 2 x5 1) (gvI S2 8 x1 1) (none : Option Nat) (0 : Int32) r8 S9 k10 L_t L6 L7 (gvN S9 8 + gvN S9 5 - (gvN S2 8 + gvN S2 5)) (4 * gvN S9 8 + 6 * gvN S9 5 - (4 * gvN S2 8 + 6 * gvN S2 5)) (by omega) (by omega)) (cwV 4 hts gX4_askParent_X4_open rfl rfl rfl (by decide +kernel) ⟨Nat.le_of_ble_eq_true rfl, Nat.le_of_ble_eq_true rfl⟩) hK hN hW (L_t _ rfl) rfl rfl rfl hl.1 rfl (by simp [lh_cat_r, lh_cat_i, lh_cat_j]) dX4_askParent_19 ⟨hc9, hs9⟩) hS (fun ad11 H locs hE12 hX hW hS => ?_)
  show W _ _ _ _ _ _ _ _ _ _ _ _ _ _ _ (F0 m 22 ls [.int r8])
  rw [lh_rE hE12 L_t] at hl
  rw [lh_rE hE12 L_p1] at hl
  have hE : lh_E S ad ad11 := lh_E.trans hE hm hE12
  have m13 : ∀ b, gvN S2 b ≤ gvN S9 b := hX.1
  have L_t : ∀ j, some t = some j → j < gvN S9 4 := fun j h => Nat.lt_of_lt_of_le (L_t j h) (m13 _)
  have L_p1 : ∀ j, p1 = some j → j < gvN S9 8 := fun j h => Nat.lt_of_lt_of_le (L_p1 j h) (m13 _)
  have hm : ∀ b, gvN S b ≤ gvN S9 b := lh_le_trans hm m13
  have ok := lh_W_ok hW
  obtain ⟨rfl, rfl⟩ := dc_ret hf
  refine W.widen (k := mc) (n := ms) hc9 hs9 ?_
  exact W.iret (v := r8) hx hb hr (fun t9 ht9 hW9 => ⟨⟨ad11, hE, rfl, ⟨hm, trivial⟩, by rw [ht9]; exact hW⟩, hS.F ht9⟩) hS.2.2 dX4_askParent_22
def f_X4_begin (n : Nat) (S : lh_S) (t : Nat) (p1 : Option Nat) : Option (Int32 × lh_S) :=
  dc_nn p1 fun x1 =>
  dc_nn (gvR S 8 x1 0) fun x4 =>
  dc_nn (gvR S 4 t 1) fun x5 =>
  dc_bd (f_X6_add n S x5 (gvI S 2 x4 0) (gvI S 8 x1 1)) fun r6 S7 =>
  dc_nn (gvR S7 2 x4 4) fun x11 =>
  dc_gd ((gvI S7 8 x1 1) < 0 ∨ gvL S7 13 x11 ≤ ((gvI S7 8 x1 1)).toNatClampNeg) (
  dc_if ((gvR S7 13 x11 ((gvI S7 8 x1 1)).toNatClampNeg) = none) (
  dc_nn (gvR S7 2 x4 5) fun x16 =>
  dc_gd ((gvI S7 8 x1 1) < 0 ∨ gvL S7 14 x16 ≤ ((gvI S7 8 x1 1)).toNatClampNeg) (
  dc_if ((gvI S7 14 x16 ((gvI S7 8 x1 1)).toNatClampNeg) = 0) (
  dc_bd (f_X2_asksParentFirst n S7 x4 (gvI S7 8 x1 1)) fun r19 S20 =>
  dc_if (r19 = 0) (
  dc_let (pvI S20 8 x1 3 (3 : Int32)) fun S25 =>
  some ((-1 : Int32), S25)) (
  dc_bd (f_X4_askParent n S20 t p1 (1 : Int32)) fun r27 S28 =>
  some (r27, S28))) (
  dc_bd (f_X9_failed n S7 (6 : Int32)) fun r33 S34 =>
  dc_bd (f_X4_end n S34 t r33) fun r37 S38 =>
  some (r37, S38)))) (
  dc_nn (gvR S7 13 x11 ((gvI S7 8 x1 1)).toNatClampNeg) fun x41 =>
  dc_bd (f_X4_end n S7 t (gvI S7 5 x41 0)) fun r42 S43 =>
  some (r42, S43)))
set_option maxHeartbeats 1000000 in
theorem m_X4_begin {n : Nat} {S : lh_S} {t : Nat} {p1 : Option Nat} {r : Int32} {S' : lh_S} (hf : f_X4_begin n S t p1 = some (r, S')) : ∀ b, gvN S b ≤ gvN S' b := by
  have hm : ∀ b, gvN S b ≤ gvN S b := fun _ => Nat.le_refl _
  unfold f_X4_begin at hf
  obtain ⟨x1, hx1, hf⟩ := dc_nn_ok hf
  obtain ⟨x4, hx4, hf⟩ := dc_nn_ok hf
  obtain ⟨x5, hx5, hf⟩ := dc_nn_ok hf
  obtain ⟨r6, S7, k8, hf⟩ := dc_bd_ok hf
  have hm := lh_le_trans hm (show ∀ b, gvN S b ≤ gvN S7 b from m_X6_add k8)
  obtain ⟨x11, hx11, hf⟩ := dc_nn_ok hf
  obtain ⟨g12, hf⟩ := dc_gd_ok hf
  by_cases c14 : (gvR S7 13 x11 ((gvI S7 8 x1 1)).toNatClampNeg) = none
  · replace hf := dc_if_t c14 hf
    obtain ⟨x16, hx16, hf⟩ := dc_nn_ok hf
    obtain ⟨g17, hf⟩ := dc_gd_ok hf
    by_cases c18 : (gvI S7 14 x16 ((gvI S7 8 x1 1)).toNatClampNeg) = 0
    · replace hf := dc_if_t c18 hf
      obtain ⟨r19, S20, k21, hf⟩ := dc_bd_ok hf
      have hm := lh_le_trans hm (show ∀ b, gvN S7 b ≤ gvN S20 b from m_X2_asksParentFirst k21)
      by_cases c24 : r19 = 0
      · replace hf := dc_if_t c24 hf
        obtain ⟨S25, eS25, hf⟩ := dc_let_ok hf
        have hm := lh_le_trans hm (show ∀ b, gvN S20 b ≤ gvN S25 b from by rw [eS25]; exact lh_mI)
        obtain ⟨_, rfl⟩ := dc_ret hf
        exact hm
      · replace hf := dc_if_f c24 hf
        obtain ⟨r27, S28, k29, hf⟩ := dc_bd_ok hf
        have hm := lh_le_trans hm (show ∀ b, gvN S20 b ≤ gvN S28 b from m_X4_askParent k29)
        obtain ⟨_, rfl⟩ := dc_ret hf
        exact hm
    · replace hf := dc_if_f c18 hf
      obtain ⟨r33, S34, k35, hf⟩ := dc_bd_ok hf
      have hm := lh_le_trans hm (show ∀ b, gvN S7 b ≤ gvN S34 b from m_X9_failed k35)
      obtain ⟨r37, S38, k39, hf⟩ := dc_bd_ok hf
      have hm := lh_le_trans hm (show ∀ b, gvN S34 b ≤ gvN S38 b from m_X4_end k39)
      obtain ⟨_, rfl⟩ := dc_ret hf
      exact hm
  · replace hf := dc_if_f c14 hf
    obtain ⟨x41, hx41, hf⟩ := dc_nn_ok hf
    obtain ⟨r42, S43, k44, hf⟩ := dc_bd_ok hf
    have hm := lh_le_trans hm (show ∀ b, gvN S7 b ≤ gvN S43 b from m_X4_end k44)
    obtain ⟨_, rfl⟩ := dc_ret hf
    exact hm
set_option maxHeartbeats 1000000 in
theorem k_X4_begin {n : Nat} {S : lh_S} {t : Nat} {p1 : Option Nat} {r : Int32} {S' : lh_S} (hf : f_X4_begin n S t p1 = some (r, S')) : lh_sm9 S S' := by
  have hm : lh_sm9 S S := lh_sm9_rf
  unfold f_X4_begin at hf
  obtain ⟨x1, hx1, hf⟩ := dc_nn_ok hf
  obtain ⟨x4, hx4, hf⟩ := dc_nn_ok hf
  obtain ⟨x5, hx5, hf⟩ := dc_nn_ok hf
  obtain ⟨r6, S7, k8, hf⟩ := dc_bd_ok hf
  have hm := lh_sm9_trans hm (show lh_sm9 S S7 from k_X6_add k8)
  obtain ⟨x11, hx11, hf⟩ := dc_nn_ok hf
  obtain ⟨g12, hf⟩ := dc_gd_ok hf
  by_cases c14 : (gvR S7 13 x11 ((gvI S7 8 x1 1)).toNatClampNeg) = none
  · replace hf := dc_if_t c14 hf
    obtain ⟨x16, hx16, hf⟩ := dc_nn_ok hf
    obtain ⟨g17, hf⟩ := dc_gd_ok hf
    by_cases c18 : (gvI S7 14 x16 ((gvI S7 8 x1 1)).toNatClampNeg) = 0
    · replace hf := dc_if_t c18 hf
      obtain ⟨r19, S20, k21, hf⟩ := dc_bd_ok hf
      have hm := lh_sm9_trans hm (show lh_sm9 S7 S20 from k_X2_asksParentFirst k21)
      by_cases c24 : r19 = 0
      · replace hf := dc_if_t c24 hf
        obtain ⟨S25, eS25, hf⟩ := dc_let_ok hf
        have hm := lh_sm9_trans hm (show lh_sm9 S20 S25 from by rw [eS25]; exact (lh_sm9I (by decide)))
        obtain ⟨_, rfl⟩ := dc_ret hf
        exact hm
      · replace hf := dc_if_f c24 hf
        obtain ⟨r27, S28, k29, hf⟩ := dc_bd_ok hf
        have hm := lh_sm9_trans hm (show lh_sm9 S20 S28 from k_X4_askParent k29)
        obtain ⟨_, rfl⟩ := dc_ret hf
        exact hm
    · replace hf := dc_if_f c18 hf
      obtain ⟨r33, S34, k35, hf⟩ := dc_bd_ok hf
      have hm := lh_sm9_trans hm (show lh_sm9 S7 S34 from k_X9_failed k35)
      obtain ⟨r37, S38, k39, hf⟩ := dc_bd_ok hf
      have hm := lh_sm9_trans hm (show lh_sm9 S34 S38 from k_X4_end k39)
      obtain ⟨_, rfl⟩ := dc_ret hf
      exact hm
  · replace hf := dc_if_f c14 hf
    obtain ⟨x41, hx41, hf⟩ := dc_nn_ok hf
    obtain ⟨r42, S43, k44, hf⟩ := dc_bd_ok hf
    have hm := lh_sm9_trans hm (show lh_sm9 S7 S43 from k_X4_end k44)
    obtain ⟨_, rfl⟩ := dc_ret hf
    exact hm
set_option maxHeartbeats 4000000 in
set_option maxRecDepth 100000 in
theorem c_X4_begin (l : Launch) (D : va_G) (cT : Nat → ClassId) (n : Nat) (S : lh_S) (ad : Nat → Nat → Nat) (A : Nat → Prop) (sz : Nat) (hA : ∀ q, sz ≤ q → A q) (t : Nat) (p1 : Option Nat) (r : Int32) (S' : lh_S) (hf : f_X4_begin n S t p1 = some (r, S')) (L_t : ∀ j, some t = some j → j < gvN S 4) (L_p1 : ∀ j, p1 = some j → j < gvN S 8) (mc ms : Nat) (hmc : gvN S' 8 + gvN S' 5 ≤ gvN S 8 + gvN S 5 + mc) (hms : 4 * gvN S' 8 + 6 * gvN S' 5 ≤ 4 * gvN S 8 + 6 * gvN S 5 + ms) : Met l yX4_begin wsX4_begin ({ frames := 4, cells := mc, slots := ms, locals := 87 } : Room) (lh_P D cT S ad A sz [lh_r ad 4 (some t), lh_r ad 8 p1]) (lh_QA D cT S S' ad A ((∀ b, gvN S b ≤ gvN S' b) ∧ True) (fun ad9 => some (.int r))) mc ms A := by
  refine Met.ofW (cc := cX4_begin) (maxL := 4) (ret := (some .int)) (by decide) rfl ?_
  intro p e s m args below meth c s₁ B hml hv
  obtain ⟨hargs, hsz, hW, hK, hN⟩ := hv
  have hx := B.exec
  have hb := B.bytes
  have hr := B.returns
  have hts := atoms_spec (ws := wsX4_begin) B.pre
  have hown : s.vm.findClass RX4 = some m.cls := findClass_of_methodNamed B.named
  have hlocks := B.notSynchronized
  have hA : ∀ q, s.heap.size ≤ q → A q := fun q h => hA q (by rw [← hsz]; exact h)
  have ok := lh_W_ok hW
  have hm : ∀ b, gvN S b ≤ gvN S b := fun _ => Nat.le_refl _
  have hE : lh_E S ad ad := lh_E.rf
  obtain ⟨ls, hent, hl⟩ := lh_entry m args [lh_r ad 4 (some t), lh_r ad 8 p1] 4 [(0, lh_r ad 4 (some t)), (1, lh_r ad 8 p1)] hargs (by simp [lv_args, lh_cat_r, lh_cat_i, lh_cat_j]) (by simp [lg_sl, lh_cat_r, lh_cat_i, lh_cat_j])
  rw [hent]
  generalize hH : s.heap = H at hW ⊢
  have hS : va_S A s.heap H [] := by rw [← hH]; exact va_S.rf
  unfold f_X4_begin at hf
  refine lh_aload_n hx hb dX4_begin_0 rfl (lv_at hl 1 rfl) ?_
  obtain ⟨x1, hx1, hf⟩ := dc_nn_ok hf
  have L2 : ∀ j, gvR S 8 x1 0 = some j → j < gvN S 2 := fun j h => ok _ _ _ _ j (L_p1 _ hx1) rfl h
  refine lh_get (a := 8) (k := 0) (N := 4) (C := RX8) (T := TX8) (own := RX4) (ref := "LoaderModels$Step") hx hb hts (fun _ h => (List.mem_cons_of_mem _ (List.mem_append_left _ (List.mem_append_left _ (List.mem_append_left _ (List.mem_append_left _ (List.mem_append_right _ h))))))) hown hK hW hx1 (L_p1 _ hx1) rfl rfl rfl (by decide) (hts (.fieldLink RX4 86 "LoaderModels$Step" "loader" "LLoaderModels$Loader;") (List.mem_cons_of_mem _ (List.mem_append_left _ (List.mem_append_left _ (List.mem_append_left _ (List.mem_append_left _ (List.mem_append_left _ (List.mem_append_left _ (List.mem_of_getElem? (i := 0) rfl))))))))) (fun _ h9 => h9) dX4_begin_1 (v := lh_r ad 2 (gvR S 8 x1 0)) rfl ?_
  refine lh_astore_n (i := 2) (lv' := [(2, lh_r ad 2 (gvR S 8 x1 0)), (0, lh_r ad 4 (some t)), (1, lh_r ad 8 p1)]) hx hb dX4_begin_4 rfl hl (by decide) (by first | rfl | simp [lh_cat_r, lh_cat_i, lh_cat_j]) (fun ls hl => ?_)
  refine lh_aload_n hx hb dX4_begin_5 rfl (lv_at hl 1 rfl) ?_
  have L3 : ∀ j, gvR S 4 t 1 = some j → j < gvN S 6 := fun j h => ok _ _ _ _ j (L_t _ rfl) rfl h
  refine lh_get (a := 4) (k := 1) (N := 6) (C := RX4) (T := TX4) (own := RX4) (ref := "LoaderModels$Loading") hx hb hts (fun _ h => (List.mem_cons_of_mem _ (List.mem_append_left _ (List.mem_append_left _ (List.mem_append_left _ (List.mem_append_right _ h)))))) hown hK hW rfl (L_t _ rfl) rfl rfl rfl (by decide) (hts (.fieldLink RX4 12 "LoaderModels$Loading" "notes" "LLoaderModels$Notes;") (List.mem_cons_of_mem _ (List.mem_append_left _ (List.mem_append_left _ (List.mem_append_left _ (List.mem_append_left _ (List.mem_append_left _ (List.mem_append_left _ (List.mem_of_getElem? (i := 1) rfl))))))))) (fun _ h9 => h9) dX4_begin_6 (v := lh_r ad 6 (gvR S 4 t 1)) rfl ?_
  refine lh_aload_n hx hb dX4_begin_9 rfl (lv_at hl 0 rfl) ?_
  obtain ⟨x4, hx4, hf⟩ := dc_nn_ok hf
  refine lh_get (a := 2) (k := 0) (N := 7) (C := RX2) (T := TX2) (own := RX4) (ref := "LoaderModels$Loader") hx hb hts (fun _ h => (List.mem_cons_of_mem _ (List.mem_append_left _ (List.mem_append_left _ (List.mem_append_right _ h))))) hown hK hW hx4 (L2 _ hx4) rfl rfl rfl (by decide) (hts (.fieldLink RX4 95 "LoaderModels$Loader" "number" "I") (List.mem_cons_of_mem _ (List.mem_append_left _ (List.mem_append_left _ (List.mem_append_left _ (List.mem_append_left _ (List.mem_append_left _ (List.mem_append_left _ (List.mem_of_getElem? (i := 2) rfl))))))))) (fun _ h9 => h9) dX4_begin_10 (v := .int (gvI S 2 x4 0)) rfl ?_
  refine lh_aload_n hx hb dX4_begin_13 rfl (lv_at hl 2 rfl) ?_
  refine lh_get (a := 8) (k := 1) (N := 4) (C := RX8) (T := TX8) (own := RX4) (ref := "LoaderModels$Step") hx hb hts (fun _ h => (List.mem_cons_of_mem _ (List.mem_append_left _ (List.mem_append_left _ (List.mem_append_left _ (List.mem_append_left _ (List.mem_append_right _ h))))))) hown hK hW hx1 (L_p1 _ hx1) rfl rfl rfl (by decide) (hts (.fieldLink RX4 90 "LoaderModels$Step" "name" "I") (List.mem_cons_of_mem _ (List.mem_append_left _ (List.mem_append_left _ (List.mem_append_left _ (List.mem_append_left _ (List.mem_append_left _ (List.mem_append_left _ (List.mem_of_getElem? (i := 3) rfl))))))))) (fun _ h9 => h9) dX4_begin_14 (v := .int (gvI S 8 x1 1)) rfl ?_
  obtain ⟨x5, hx5, hf⟩ := dc_nn_ok hf
  obtain ⟨r6, S7, k8, hf⟩ := dc_bd_ok hf
  refine lh_call (S' := S7) (lh_rv ⟨hx, hb, hml, hown, hts⟩ hx5 (As := [.int (gvI S 2 x4 0), .int (gvI S 8 x1 1)]) (rest := []) (k := 6) (c_X6_add l D cT n S ad A H.size (fun q9 h9 => hA q9 (Nat.le_trans hS.1 h9)) x5 (gvI S 2 x4 0) (gvI S 8 x1 1) r6 S7 k8 (lh_ls (L3 _ hx5))) (cwV 2 hts gX4_begin_X6_add rfl rfl rfl (by decide +kernel) ⟨Nat.le_of_ble_eq_true rfl, Nat.le_of_ble_eq_true rfl⟩) hK hN hW (L3 _ hx5) rfl rfl rfl hl.1 rfl (by simp [lh_cat_r, lh_cat_i, lh_cat_j]) dX4_begin_17 ⟨Nat.zero_le _, Nat.zero_le _⟩) hS (fun H locs hX hW hS => ?_)
  refine W.widen (k := 0) (n := 0) (by omega) (by omega) ?_
  show W _ _ _ _ _ _ _ _ _ _ _ _ _ _ _ (F0 m 20 ls [])
  have m9 : ∀ b, gvN S b ≤ gvN S7 b := hX.1
  have L2 : ∀ j, gvR S 8 x1 0 = some j → j < gvN S7 2 := fun j h => Nat.lt_of_lt_of_le (L2 j h) (m9 _)
  have L_t : ∀ j, some t = some j → j < gvN S7 4 := fun j h => Nat.lt_of_lt_of_le (L_t j h) (m9 _)
  have L_p1 : ∀ j, p1 = some j → j < gvN S7 8 := fun j h => Nat.lt_of_lt_of_le (L_p1 j h) (m9 _)
  have hm : ∀ b, gvN S b ≤ gvN S7 b := lh_le_trans hm m9
  have ok := lh_W_ok hW
  refine lh_aload_n hx hb dX4_begin_20 rfl (lv_at hl 0 rfl) ?_
  have L10 : ∀ j, gvR S7 2 x4 4 = some j → j < gvN S7 13 := fun j h => ok _ _ _ _ j (L2 _ hx4) rfl h
  refine lh_get (a := 2) (k := 4) (N := 7) (C := RX2) (T := TX2) (own := RX4) (ref := "LoaderModels$Loader") hx hb hts (fun _ h => (List.mem_cons_of_mem _ (List.mem_append_left _ (List.mem_append_left _ (List.mem_append_right _ h))))) hown hK hW hx4 (L2 _ hx4) rfl rfl rfl (by decide) (hts (.fieldLink RX4 104 "LoaderModels$Loader" "knows" "[LLoaderModels$Model;") (List.mem_cons_of_mem _ (List.mem_append_left _ (List.mem_append_left _ (List.mem_append_left _ (List.mem_append_left _ (List.mem_append_left _ (List.mem_append_left _ (List.mem_of_getElem? (i := 4) rfl))))))))) (fun _ h9 => h9) dX4_begin_21 (v := lh_r ad 13 (gvR S7 2 x4 4)) rfl ?_
  refine lh_aload_n hx hb dX4_begin_24 rfl (lv_at hl 2 rfl) ?_
  refine lh_get (a := 8) (k := 1) (N := 4) (C := RX8) (T := TX8) (own := RX4) (ref := "LoaderModels$Step") hx hb hts (fun _ h => (List.mem_cons_of_mem _ (List.mem_append_left _ (List.mem_append_left _ (List.mem_append_left _ (List.mem_append_left _ (List.mem_append_right _ h))))))) hown hK hW hx1 (L_p1 _ hx1) rfl rfl rfl (by decide) (hts (.fieldLink RX4 90 "LoaderModels$Step" "name" "I") (List.mem_cons_of_mem _ (List.mem_append_left _ (List.mem_append_left _ (List.mem_append_left _ (List.mem_append_left _ (List.mem_append_left _ (List.mem_append_left _ (List.mem_of_getElem? (i := 3) rfl))))))))) (fun _ h9 => h9) dX4_begin_25 (v := .int (gvI S7 8 x1 1)) rfl ?_
  obtain ⟨x11, hx11, hf⟩ := dc_nn_ok hf
  obtain ⟨g12, hf⟩ := dc_gd_ok hf
  have L13 : ∀ j, gvR S7 13 x11 ((gvI S7 8 x1 1)).toNatClampNeg = some j → j < gvN S7 5 := fun j h => ok 13 _ _ 5 j (L10 _ hx11) rfl h
  refine lh_ald_r (a := 13) (t0 := 6) (t := 5) hx hb hK hW hx11 (L10 _ hx11) rfl rfl rfl g12 dX4_begin_28 ?_
  refine lh_astore_n (i := 3) (lv' := [(3, lh_r ad 5 (gvR S7 13 x11 ((gvI S7 8 x1 1)).toNatClampNeg)), (2, lh_r ad 2 (gvR S 8 x1 0)), (0, lh_r ad 4 (some t)), (1, lh_r ad 8 p1)]) hx hb dX4_begin_29 rfl hl (by decide) (by first | rfl | simp [lh_cat_r, lh_cat_i, lh_cat_j]) (fun ls hl => ?_)
  refine lh_aload_n hx hb dX4_begin_30 rfl (lv_at hl 0 rfl) ?_
  refine lh_ifnull (tgt := 43) hx hb dX4_begin_31 (by decide) (fun c14 => ?_) (fun c14 => ?_)
  · replace hf := dc_if_t c14 hf
    refine lh_aload_n hx hb dX4_begin_43 rfl (lv_at hl 1 rfl) ?_
    have L15 : ∀ j, gvR S7 2 x4 5 = some j → j < gvN S7 14 := fun j h => ok _ _ _ _ j (L2 _ hx4) rfl h
    refine lh_get (a := 2) (k := 5) (N := 7) (C := RX2) (T := TX2) (own := RX4) (ref := "LoaderModels$Loader") hx hb hts (fun _ h => (List.mem_cons_of_mem _ (List.mem_append_left _ (List.mem_append_left _ (List.mem_append_right _ h))))) hown hK hW hx4 (L2 _ hx4) rfl rfl rfl (by decide) (hts (.fieldLink RX4 111 "LoaderModels$Loader" "defining" "[Z") (List.mem_cons_of_mem _ (List.mem_append_left _ (List.mem_append_left _ (List.mem_append_left _ (List.mem_append_left _ (List.mem_append_left _ (List.mem_append_left _ (List.mem_of_getElem? (i := 6) rfl))))))))) (fun _ h9 => h9) dX4_begin_44 (v := lh_r ad 14 (gvR S7 2 x4 5)) rfl ?_
    refine lh_aload_n hx hb dX4_begin_47 rfl (lv_at hl 3 rfl) ?_
    refine lh_get (a := 8) (k := 1) (N := 4) (C := RX8) (T := TX8) (own := RX4) (ref := "LoaderModels$Step") hx hb hts (fun _ h => (List.mem_cons_of_mem _ (List.mem_append_left _ (List.mem_append_left _ (List.mem_append_left _ (List.mem_append_left _ (List.mem_append_right _ h))))))) hown hK hW hx1 (L_p1 _ hx1) rfl rfl rfl (by decide) (hts (.fieldLink RX4 90 "LoaderModels$Step" "name" "I") (List.mem_cons_of_mem _ (List.mem_append_left _ (List.mem_append_left _ (List.mem_append_left _ (List.mem_append_left _ (List.mem_append_left _ (List.mem_append_left _ (List.mem_of_getElem? (i := 3) rfl))))))))) (fun _ h9 => h9) dX4_begin_48 (v := .int (gvI S7 8 x1 1)) rfl ?_
    obtain ⟨x16, hx16, hf⟩ := dc_nn_ok hf
    obtain ⟨g17, hf⟩ := dc_gd_ok hf
    refine lh_ald_z (a := 14) hx hb hK hW hx16 (L15 _ hx16) rfl rfl g17 dX4_begin_51 ?_
    refine lv_if_eq (tgt := 65) hx hb dX4_begin_52 (by decide) (fun c18 => ?_) (fun c18 => ?_)
    · replace hf := dc_if_t c18 hf
      refine lh_aload_n hx hb dX4_begin_65 rfl (lv_at hl 1 rfl) ?_
      refine lh_aload_n hx hb dX4_begin_66 rfl (lv_at hl 3 rfl) ?_
      refine lh_get (a := 8) (k := 1) (N := 4) (C := RX8) (T := TX8) (own := RX4) (ref := "LoaderModels$Step") hx hb hts (fun _ h => (List.mem_cons_of_mem _ (List.mem_append_left _ (List.mem_append_left _ (List.mem_append_left _ (List.mem_append_left _ (List.mem_append_right _ h))))))) hown hK hW hx1 (L_p1 _ hx1) rfl rfl rfl (by decide) (hts (.fieldLink RX4 90 "LoaderModels$Step" "name" "I") (List.mem_cons_of_mem _ (List.mem_append_left _ (List.mem_append_left _ (List.mem_append_left _ (List.mem_append_left _ (List.mem_append_left _ (List.mem_append_left _ (List.mem_of_getElem? (i := 3) rfl))))))))) (fun _ h9 => h9) dX4_begin_67 (v := .int (gvI S7 8 x1 1)) rfl ?_
      obtain ⟨r19, S20, k21, hf⟩ := dc_bd_ok hf
      refine lh_call (S' := S20) (lh_rv ⟨hx, hb, hml, hown, hts⟩ hx4 (As := [.int (gvI S7 8 x1 1)]) (rest := []) (k := 2) (c_X2_asksParentFirst l D cT n S7 ad A H.size (fun q9 h9 => hA q9 (Nat.le_trans hS.1 h9)) x4 (gvI S7 8 x1 1) r19 S20 k21 (lh_ls (L2 _ hx4))) (cwV 1 hts gX4_begin_X2_asksParentFirst rfl rfl rfl (by decide +kernel) ⟨Nat.le_of_ble_eq_true rfl, Nat.le_of_ble_eq_true rfl⟩) hK hN hW (L2 _ hx4) rfl rfl rfl hl.1 rfl (by simp [lh_cat_r, lh_cat_i, lh_cat_j]) dX4_begin_70 ⟨Nat.zero_le _, Nat.zero_le _⟩) hS (fun H locs hX hW hS => ?_)
      refine W.widen (k := 0) (n := 0) (by omega) (by omega) ?_
      show W _ _ _ _ _ _ _ _ _ _ _ _ _ _ _ (F0 m 73 ls [.int r19])
      have m22 : ∀ b, gvN S7 b ≤ gvN S20 b := hX.1
      have L13 : ∀ j, gvR S7 13 x11 ((gvI S7 8 x1 1)).toNatClampNeg = some j → j < gvN S20 5 := fun j h => Nat.lt_of_lt_of_le (L13 j h) (m22 _)
      have L2 : ∀ j, gvR S 8 x1 0 = some j → j < gvN S20 2 := fun j h => Nat.lt_of_lt_of_le (L2 j h) (m22 _)
      have L_t : ∀ j, some t = some j → j < gvN S20 4 := fun j h => Nat.lt_of_lt_of_le (L_t j h) (m22 _)
      have L_p1 : ∀ j, p1 = some j → j < gvN S20 8 := fun j h => Nat.lt_of_lt_of_le (L_p1 j h) (m22 _)
      have hm : ∀ b, gvN S b ≤ gvN S20 b := lh_le_trans hm m22
      have ok := lh_W_ok hW
      have z23 := hX.2
      refine lv_if_eq (tgt := 83) hx hb dX4_begin_73 (by decide) (fun c24 => ?_) (fun c24 => ?_)
      · replace hf := dc_if_t c24 hf
        refine lh_aload_n hx hb dX4_begin_83 rfl (lv_at hl 3 rfl) ?_
        refine lv_iconst (v := 3) hx hb dX4_begin_84 (by decide) ?_
        obtain ⟨S25, eS25, hf⟩ := dc_let_ok hf
        refine lh_put (S' := S25) (a := 8) (k := 3) (N := 4) (C := RX8) (T := TX8) (own := RX4) (ref := "LoaderModels$Step") (ty := .int) hx hb hts (fun _ h => (List.mem_cons_of_mem _ (List.mem_append_left _ (List.mem_append_left _ (List.mem_append_left _ (List.mem_append_left _ (List.mem_append_right _ h))))))) tyX8 tyX8_ok nmX8 hown hK hW hS hx1 (L_p1 _ hx1) rfl rfl rfl (by decide) (hts (.fieldLink RX4 55 "LoaderModels$Step" "stage" "I") (List.mem_cons_of_mem _ (List.mem_append_left _ (List.mem_append_left _ (List.mem_append_left _ (List.mem_append_left _ (List.mem_append_left _ (List.mem_append_left _ (List.mem_of_getElem? (i := 7) rfl))))))))) (fun _ h9 => h9) (Or.inl rfl) (by decide +kernel) rfl rfl (fun q9 => by rw [eS25]; exact lh_chI rfl q9) dX4_begin_85 (fun H locs hW hS => ?_)
        have m26 : ∀ b, gvN S20 b ≤ gvN S25 b := by rw [eS25]; exact lh_mI
        have L13 : ∀ j, gvR S7 13 x11 ((gvI S7 8 x1 1)).toNatClampNeg = some j → j < gvN S25 5 := fun j h => Nat.lt_of_lt_of_le (L13 j h) (m26 _)
        have L2 : ∀ j, gvR S 8 x1 0 = some j → j < gvN S25 2 := fun j h => Nat.lt_of_lt_of_le (L2 j h) (m26 _)
        have L_t : ∀ j, some t = some j → j < gvN S25 4 := fun j h => Nat.lt_of_lt_of_le (L_t j h) (m26 _)
        have L_p1 : ∀ j, p1 = some j → j < gvN S25 8 := fun j h => Nat.lt_of_lt_of_le (L_p1 j h) (m26 _)
        have hm : ∀ b, gvN S b ≤ gvN S25 b := lh_le_trans hm m26
        have ok := lh_W_ok hW
        refine lv_iconst (v := -1) hx hb dX4_begin_88 (by decide) ?_
        obtain ⟨rfl, rfl⟩ := dc_ret hf
        refine W.widen (k := mc) (n := ms) (Nat.zero_le _) (Nat.zero_le _) ?_
        exact W.iret (v := (-1 : Int32)) hx hb hr (fun t9 ht9 hW9 => ⟨⟨ad, hE, rfl, ⟨hm, trivial⟩, by rw [ht9]; exact hW⟩, hS.F ht9⟩) hS.2.2 dX4_begin_89
      · replace hf := dc_if_f c24 hf
        refine lh_aload_n hx hb dX4_begin_76 rfl (lv_at hl 2 rfl) ?_
        refine lh_aload_n hx hb dX4_begin_77 rfl (lv_at hl 3 rfl) ?_
        refine lv_iconst (v := 1) hx hb dX4_begin_78 (by decide) ?_
        obtain ⟨r27, S28, k29, hf⟩ := dc_bd_ok hf
        have hn : ∀ b, gvN S28 b ≤ gvN S' b := by
          have hm : ∀ b, gvN S28 b ≤ gvN S28 b := fun _ => Nat.le_refl _
          obtain ⟨_, rfl⟩ := dc_ret hf
          exact hm
        have q1 := m_X4_askParent k29 8
        have q2 := m_X4_askParent k29 5
        have q3 := hn 8
        have q4 := hn 5
        have q5 := hm 8
        have q6 := hm 5
        have hc9 : 0 + (gvN S28 8 + gvN S28 5 - (gvN S20 8 + gvN S20 5)) ≤ mc := by omega
        have hs9 : 0 + (4 * gvN S28 8 + 6 * gvN S28 5 - (4 * gvN S20 8 + 6 * gvN S20 5)) ≤ ms := by omega
        refine lh_callA (S' := S28) (lh_rv ⟨hx, hb, hml, hown, hts⟩ rfl (As := [lh_r ad 8 p1, .int (1 : Int32)]) (rest := []) (k := 4) (c_X4_askParent l D cT n S20 ad A H.size (fun q9 h9 => hA q9 (Nat.le_trans hS.1 h9)) t p1 (1 : Int32) r27 S28 k29 L_t L_p1 (gvN S28 8 + gvN S28 5 - (gvN S20 8 + gvN S20 5)) (4 * gvN S28 8 + 6 * gvN S28 5 - (4 * gvN S20 8 + 6 * gvN S20 5)) (by omega) (by omega)) (cwV 2 hts gX4_begin_X4_askParent rfl rfl rfl (by decide +kernel) ⟨Nat.le_of_ble_eq_true rfl, Nat.le_of_ble_eq_true rfl⟩) hK hN hW (L_t _ rfl) rfl rfl rfl hl.1 rfl (by simp [lh_cat_r, lh_cat_i, lh_cat_j]) dX4_begin_79 ⟨hc9, hs9⟩) hS (fun ad30 H locs hE31 hX hW hS => ?_)
        show W _ _ _ _ _ _ _ _ _ _ _ _ _ _ _ (F0 m 82 ls [.int r27])
        rw [lh_rE hE31 L13] at hl
        rw [lh_rE hE31 L2] at hl
        rw [lh_rE hE31 L_t] at hl
        rw [lh_rE hE31 L_p1] at hl
        have hE : lh_E S ad ad30 := lh_E.trans hE hm hE31
        have m32 : ∀ b, gvN S20 b ≤ gvN S28 b := hX.1
        have L13 : ∀ j, gvR S7 13 x11 ((gvI S7 8 x1 1)).toNatClampNeg = some j → j < gvN S28 5 := fun j h => Nat.lt_of_lt_of_le (L13 j h) (m32 _)
        have L2 : ∀ j, gvR S 8 x1 0 = some j → j < gvN S28 2 := fun j h => Nat.lt_of_lt_of_le (L2 j h) (m32 _)
        have L_t : ∀ j, some t = some j → j < gvN S28 4 := fun j h => Nat.lt_of_lt_of_le (L_t j h) (m32 _)
        have L_p1 : ∀ j, p1 = some j → j < gvN S28 8 := fun j h => Nat.lt_of_lt_of_le (L_p1 j h) (m32 _)
        have hm : ∀ b, gvN S b ≤ gvN S28 b := lh_le_trans hm m32
        have ok := lh_W_ok hW
        obtain ⟨rfl, rfl⟩ := dc_ret hf
        refine W.widen (k := mc) (n := ms) hc9 hs9 ?_
        exact W.iret (v := r27) hx hb hr (fun t9 ht9 hW9 => ⟨⟨ad30, hE, rfl, ⟨hm, trivial⟩, by rw [ht9]; exact hW⟩, hS.F ht9⟩) hS.2.2 dX4_begin_82
    · replace hf := dc_if_f c18 hf
      refine lh_aload_n hx hb dX4_begin_55 rfl (lv_at hl 2 rfl) ?_
      refine lv_bipush (v := 6) hx hb dX4_begin_56 (by decide) ?_
      obtain ⟨r33, S34, k35, hf⟩ := dc_bd_ok hf
      refine lh_call (S' := S34) (lh_rsn ⟨hx, hb, hml, hown, hts⟩ (As := [.int (6 : Int32)]) (rest := [lh_r ad 4 (some t)]) (c_X9_failed l D cT n S7 ad A H.size (fun q9 h9 => hA q9 (Nat.le_trans hS.1 h9)) (6 : Int32) r33 S34 k35 ) ⟨va_cnB 1 hts gX4_begin_X9_failed_n81 rfl rfl rfl hN.2.2.1 (hts (.initialized RX9) (List.mem_cons_of_mem _ (List.mem_append_left _ (List.mem_append_left _ (List.mem_append_left _ (List.mem_append_left _ (List.mem_append_left _ (List.mem_append_right _ (List.mem_append_left _ (List.mem_of_getElem? (i := 4) rfl)))))))))) (by decide +kernel) ⟨Nat.le_of_ble_eq_true rfl, Nat.le_of_ble_eq_true rfl⟩, (hts (.static yX9_failed) (List.mem_cons_of_mem _ (List.mem_append_left _ (List.mem_append_left _ (List.mem_append_left _ (List.mem_append_left _ (List.mem_append_left _ (List.mem_append_right _ (List.mem_append_left _ (List.mem_of_getElem? (i := 3) rfl)))))))))), trivial⟩ hK hN hW rfl hl.1 rfl (by simp [lh_cat_r, lh_cat_i, lh_cat_j]) dX4_begin_58 ⟨Nat.zero_le _, Nat.zero_le _⟩) hS (fun H locs hX hW hS => ?_)
      refine W.widen (k := 0) (n := 0) (by omega) (by omega) ?_
      show W _ _ _ _ _ _ _ _ _ _ _ _ _ _ _ (F0 m 61 ls [.int r33, lh_r ad 4 (some t)])
      have m36 : ∀ b, gvN S7 b ≤ gvN S34 b := hX.1
      have L13 : ∀ j, gvR S7 13 x11 ((gvI S7 8 x1 1)).toNatClampNeg = some j → j < gvN S34 5 := fun j h => Nat.lt_of_lt_of_le (L13 j h) (m36 _)
      have L2 : ∀ j, gvR S 8 x1 0 = some j → j < gvN S34 2 := fun j h => Nat.lt_of_lt_of_le (L2 j h) (m36 _)
      have L_t : ∀ j, some t = some j → j < gvN S34 4 := fun j h => Nat.lt_of_lt_of_le (L_t j h) (m36 _)
      have L_p1 : ∀ j, p1 = some j → j < gvN S34 8 := fun j h => Nat.lt_of_lt_of_le (L_p1 j h) (m36 _)
      have hm : ∀ b, gvN S b ≤ gvN S34 b := lh_le_trans hm m36
      have ok := lh_W_ok hW
      obtain ⟨r37, S38, k39, hf⟩ := dc_bd_ok hf
      refine lh_call (S' := S38) (lh_rv ⟨hx, hb, hml, hown, hts⟩ rfl (As := [.int r33]) (rest := []) (k := 4) (c_X4_end l D cT n S34 ad A H.size (fun q9 h9 => hA q9 (Nat.le_trans hS.1 h9)) t r33 r37 S38 k39 L_t) (cwV 1 hts gX4_begin_X4_end rfl rfl rfl (by decide +kernel) ⟨Nat.le_of_ble_eq_true rfl, Nat.le_of_ble_eq_true rfl⟩) hK hN hW (L_t _ rfl) rfl rfl rfl hl.1 rfl (by simp [lh_cat_r, lh_cat_i, lh_cat_j]) dX4_begin_61 ⟨Nat.zero_le _, Nat.zero_le _⟩) hS (fun H locs hX hW hS => ?_)
      refine W.widen (k := 0) (n := 0) (by omega) (by omega) ?_
      show W _ _ _ _ _ _ _ _ _ _ _ _ _ _ _ (F0 m 64 ls [.int r37])
      have m40 : ∀ b, gvN S34 b ≤ gvN S38 b := hX.1
      have L13 : ∀ j, gvR S7 13 x11 ((gvI S7 8 x1 1)).toNatClampNeg = some j → j < gvN S38 5 := fun j h => Nat.lt_of_lt_of_le (L13 j h) (m40 _)
      have L2 : ∀ j, gvR S 8 x1 0 = some j → j < gvN S38 2 := fun j h => Nat.lt_of_lt_of_le (L2 j h) (m40 _)
      have L_t : ∀ j, some t = some j → j < gvN S38 4 := fun j h => Nat.lt_of_lt_of_le (L_t j h) (m40 _)
      have L_p1 : ∀ j, p1 = some j → j < gvN S38 8 := fun j h => Nat.lt_of_lt_of_le (L_p1 j h) (m40 _)
      have hm : ∀ b, gvN S b ≤ gvN S38 b := lh_le_trans hm m40
      have ok := lh_W_ok hW
      obtain ⟨rfl, rfl⟩ := dc_ret hf
      refine W.widen (k := mc) (n := ms) (Nat.zero_le _) (Nat.zero_le _) ?_
      exact W.iret (v := r37) hx hb hr (fun t9 ht9 hW9 => ⟨⟨ad, hE, rfl, ⟨hm, trivial⟩, by rw [ht9]; exact hW⟩, hS.F ht9⟩) hS.2.2 dX4_begin_64
  · replace hf := dc_if_f c14 hf
    refine lh_aload_n hx hb dX4_begin_34 rfl (lv_at hl 2 rfl) ?_
    refine lh_aload_n hx hb dX4_begin_35 rfl (lv_at hl 0 rfl) ?_
    obtain ⟨x41, hx41, hf⟩ := dc_nn_ok hf
    refine lh_get (a := 5) (k := 0) (N := 6) (C := RX5) (T := TX5) (own := RX4) (ref := "LoaderModels$Model") hx hb hts (fun _ h => (List.mem_cons_of_mem _ (List.mem_append_left _ (List.mem_append_right _ h)))) hown hK hW hx41 (L13 _ hx41) rfl rfl rfl (by decide) (hts (.fieldLink RX4 107 "LoaderModels$Model" "number" "I") (List.mem_cons_of_mem _ (List.mem_append_left _ (List.mem_append_left _ (List.mem_append_left _ (List.mem_append_left _ (List.mem_append_left _ (List.mem_append_left _ (List.mem_of_getElem? (i := 5) rfl))))))))) (fun _ h9 => h9) dX4_begin_36 (v := .int (gvI S7 5 x41 0)) rfl ?_
    obtain ⟨r42, S43, k44, hf⟩ := dc_bd_ok hf
    refine lh_call (S' := S43) (lh_rv ⟨hx, hb, hml, hown, hts⟩ rfl (As := [.int (gvI S7 5 x41 0)]) (rest := []) (k := 4) (c_X4_end l D cT n S7 ad A H.size (fun q9 h9 => hA q9 (Nat.le_trans hS.1 h9)) t (gvI S7 5 x41 0) r42 S43 k44 L_t) (cwV 1 hts gX4_begin_X4_end rfl rfl rfl (by decide +kernel) ⟨Nat.le_of_ble_eq_true rfl, Nat.le_of_ble_eq_true rfl⟩) hK hN hW (L_t _ rfl) rfl rfl rfl hl.1 rfl (by simp [lh_cat_r, lh_cat_i, lh_cat_j]) dX4_begin_39 ⟨Nat.zero_le _, Nat.zero_le _⟩) hS (fun H locs hX hW hS => ?_)
    refine W.widen (k := 0) (n := 0) (by omega) (by omega) ?_
    show W _ _ _ _ _ _ _ _ _ _ _ _ _ _ _ (F0 m 42 ls [.int r42])
    have m45 : ∀ b, gvN S7 b ≤ gvN S43 b := hX.1
    have L13 : ∀ j, gvR S7 13 x11 ((gvI S7 8 x1 1)).toNatClampNeg = some j → j < gvN S43 5 := fun j h => Nat.lt_of_lt_of_le (L13 j h) (m45 _)
    have L2 : ∀ j, gvR S 8 x1 0 = some j → j < gvN S43 2 := fun j h => Nat.lt_of_lt_of_le (L2 j h) (m45 _)
    have L_t : ∀ j, some t = some j → j < gvN S43 4 := fun j h => Nat.lt_of_lt_of_le (L_t j h) (m45 _)
    have L_p1 : ∀ j, p1 = some j → j < gvN S43 8 := fun j h => Nat.lt_of_lt_of_le (L_p1 j h) (m45 _)
    have hm : ∀ b, gvN S b ≤ gvN S43 b := lh_le_trans hm m45
    have ok := lh_W_ok hW
    obtain ⟨rfl, rfl⟩ := dc_ret hf
    refine W.widen (k := mc) (n := ms) (Nat.zero_le _) (Nat.zero_le _) ?_
    exact W.iret (v := r42) hx hb hr (fun t9 ht9 hW9 => ⟨⟨ad, hE, rfl, ⟨hm, trivial⟩, by rw [ht9]; exact hW⟩, hS.F ht9⟩) hS.2.2 dX4_begin_42
def f_X4_tryItselfFirst (n : Nat) (S : lh_S) (t : Nat) (p1 : Option Nat) : Option (Int32 × lh_S) :=
  dc_nn p1 fun x1 =>
  dc_nn (gvR S 8 x1 0) fun x3 =>
  dc_nn (gvR S 2 x3 3) fun x5 =>
  dc_gd ((gvI S 8 x1 1) < 0 ∨ gvL S 12 x5 ≤ ((gvI S 8 x1 1)).toNatClampNeg) (
  dc_if ((gvR S 12 x5 ((gvI S 8 x1 1)).toNatClampNeg) = none) (
  dc_bd (f_X2_isMachine n S x3) fun r11 S12 =>
  dc_if (r11 = 0) (
  dc_bd (f_X4_askParent n S12 t p1 (2 : Int32)) fun r17 S18 =>
  some (r17, S18)) (
  dc_bd (f_X4_tryItself n S12 t p1) fun r23 S24 =>
  some (r23, S24))) (
  dc_bd (f_X4_tryItself n S t p1) fun r28 S29 =>
  some (r28, S29)))
set_option maxHeartbeats 1000000 in
theorem m_X4_tryItselfFirst {n : Nat} {S : lh_S} {t : Nat} {p1 : Option Nat} {r : Int32} {S' : lh_S} (hf : f_X4_tryItselfFirst n S t p1 = some (r, S')) : ∀ b, gvN S b ≤ gvN S' b := by
  have hm : ∀ b, gvN S b ≤ gvN S b := fun _ => Nat.le_refl _
  unfold f_X4_tryItselfFirst at hf
  obtain ⟨x1, hx1, hf⟩ := dc_nn_ok hf
  obtain ⟨x3, hx3, hf⟩ := dc_nn_ok hf
  obtain ⟨x5, hx5, hf⟩ := dc_nn_ok hf
  obtain ⟨g6, hf⟩ := dc_gd_ok hf
  by_cases c8 : (gvR S 12 x5 ((gvI S 8 x1 1)).toNatClampNeg) = none
  · replace hf := dc_if_t c8 hf
    obtain ⟨r11, S12, k13, hf⟩ := dc_bd_ok hf
    have hm := lh_le_trans hm (show ∀ b, gvN S b ≤ gvN S12 b from m_X2_isMachine k13)
    by_cases c16 : r11 = 0
    · replace hf := dc_if_t c16 hf
      obtain ⟨r17, S18, k19, hf⟩ := dc_bd_ok hf
      have hm := lh_le_trans hm (show ∀ b, gvN S12 b ≤ gvN S18 b from m_X4_askParent k19)
      obtain ⟨_, rfl⟩ := dc_ret hf
      exact hm
    · replace hf := dc_if_f c16 hf
      obtain ⟨r23, S24, k25, hf⟩ := dc_bd_ok hf
      have hm := lh_le_trans hm (show ∀ b, gvN S12 b ≤ gvN S24 b from m_X4_tryItself k25)
      obtain ⟨_, rfl⟩ := dc_ret hf
      exact hm
  · replace hf := dc_if_f c8 hf
    obtain ⟨r28, S29, k30, hf⟩ := dc_bd_ok hf
    have hm := lh_le_trans hm (show ∀ b, gvN S b ≤ gvN S29 b from m_X4_tryItself k30)
    obtain ⟨_, rfl⟩ := dc_ret hf
    exact hm
set_option maxHeartbeats 1000000 in
theorem k_X4_tryItselfFirst {n : Nat} {S : lh_S} {t : Nat} {p1 : Option Nat} {r : Int32} {S' : lh_S} (hf : f_X4_tryItselfFirst n S t p1 = some (r, S')) : lh_sm9 S S' := by
  have hm : lh_sm9 S S := lh_sm9_rf
  unfold f_X4_tryItselfFirst at hf
  obtain ⟨x1, hx1, hf⟩ := dc_nn_ok hf
  obtain ⟨x3, hx3, hf⟩ := dc_nn_ok hf
  obtain ⟨x5, hx5, hf⟩ := dc_nn_ok hf
  obtain ⟨g6, hf⟩ := dc_gd_ok hf
  by_cases c8 : (gvR S 12 x5 ((gvI S 8 x1 1)).toNatClampNeg) = none
  · replace hf := dc_if_t c8 hf
    obtain ⟨r11, S12, k13, hf⟩ := dc_bd_ok hf
    have hm := lh_sm9_trans hm (show lh_sm9 S S12 from k_X2_isMachine k13)
    by_cases c16 : r11 = 0
    · replace hf := dc_if_t c16 hf
      obtain ⟨r17, S18, k19, hf⟩ := dc_bd_ok hf
      have hm := lh_sm9_trans hm (show lh_sm9 S12 S18 from k_X4_askParent k19)
      obtain ⟨_, rfl⟩ := dc_ret hf
      exact hm
    · replace hf := dc_if_f c16 hf
      obtain ⟨r23, S24, k25, hf⟩ := dc_bd_ok hf
      have hm := lh_sm9_trans hm (show lh_sm9 S12 S24 from k_X4_tryItself k25)
      obtain ⟨_, rfl⟩ := dc_ret hf
      exact hm
  · replace hf := dc_if_f c8 hf
    obtain ⟨r28, S29, k30, hf⟩ := dc_bd_ok hf
    have hm := lh_sm9_trans hm (show lh_sm9 S S29 from k_X4_tryItself k30)
    obtain ⟨_, rfl⟩ := dc_ret hf
    exact hm
set_option maxHeartbeats 4000000 in
set_option maxRecDepth 100000 in
theorem c_X4_tryItselfFirst (l : Launch) (D : va_G) (cT : Nat → ClassId) (n : Nat) (S : lh_S) (ad : Nat → Nat → Nat) (A : Nat → Prop) (sz : Nat) (hA : ∀ q, sz ≤ q → A q) (t : Nat) (p1 : Option Nat) (r : Int32) (S' : lh_S) (hf : f_X4_tryItselfFirst n S t p1 = some (r, S')) (L_t : ∀ j, some t = some j → j < gvN S 4) (L_p1 : ∀ j, p1 = some j → j < gvN S 8) (mc ms : Nat) (hmc : gvN S' 8 + gvN S' 5 ≤ gvN S 8 + gvN S 5 + mc) (hms : 4 * gvN S' 8 + 6 * gvN S' 5 ≤ 4 * gvN S 8 + 6 * gvN S 5 + ms) : Met l yX4_tryItselfFirst wsX4_tryItselfFirst ({ frames := 4, cells := mc, slots := ms, locals := 87 } : Room) (lh_P D cT S ad A sz [lh_r ad 4 (some t), lh_r ad 8 p1]) (lh_QA D cT S S' ad A ((∀ b, gvN S b ≤ gvN S' b) ∧ True) (fun ad9 => some (.int r))) mc ms A := by
  refine Met.ofW (cc := cX4_tryItselfFirst) (maxL := 3) (ret := (some .int)) (by decide) rfl ?_
  intro p e s m args below meth c s₁ B hml hv
  obtain ⟨hargs, hsz, hW, hK, hN⟩ := hv
  have hx := B.exec
  have hb := B.bytes
  have hr := B.returns
  have hts := atoms_spec (ws := wsX4_tryItselfFirst) B.pre
  have hown : s.vm.findClass RX4 = some m.cls := findClass_of_methodNamed B.named
  have hlocks := B.notSynchronized
  have hA : ∀ q, s.heap.size ≤ q → A q := fun q h => hA q (by rw [← hsz]; exact h)
  have ok := lh_W_ok hW
  have hm : ∀ b, gvN S b ≤ gvN S b := fun _ => Nat.le_refl _
  have hE : lh_E S ad ad := lh_E.rf
  obtain ⟨ls, hent, hl⟩ := lh_entry m args [lh_r ad 4 (some t), lh_r ad 8 p1] 3 [(0, lh_r ad 4 (some t)), (1, lh_r ad 8 p1)] hargs (by simp [lv_args, lh_cat_r, lh_cat_i, lh_cat_j]) (by simp [lg_sl, lh_cat_r, lh_cat_i, lh_cat_j])
  rw [hent]
  generalize hH : s.heap = H at hW ⊢
  have hS : va_S A s.heap H [] := by rw [← hH]; exact va_S.rf
  unfold f_X4_tryItselfFirst at hf
  refine lh_aload_n hx hb dX4_tryItselfFirst_0 rfl (lv_at hl 1 rfl) ?_
  obtain ⟨x1, hx1, hf⟩ := dc_nn_ok hf
  have L2 : ∀ j, gvR S 8 x1 0 = some j → j < gvN S 2 := fun j h => ok _ _ _ _ j (L_p1 _ hx1) rfl h
  refine lh_get (a := 8) (k := 0) (N := 4) (C := RX8) (T := TX8) (own := RX4) (ref := "LoaderModels$Step") hx hb hts (fun _ h => (List.mem_cons_of_mem _ (List.mem_append_left _ (List.mem_append_left _ (List.mem_append_right _ h))))) hown hK hW hx1 (L_p1 _ hx1) rfl rfl rfl (by decide) (hts (.fieldLink RX4 86 "LoaderModels$Step" "loader" "LLoaderModels$Loader;") (List.mem_cons_of_mem _ (List.mem_append_left _ (List.mem_append_left _ (List.mem_append_left _ (List.mem_append_left _ (List.mem_of_getElem? (i := 0) rfl))))))) (fun _ h9 => h9) dX4_tryItselfFirst_1 (v := lh_r ad 2 (gvR S 8 x1 0)) rfl ?_
  obtain ⟨x3, hx3, hf⟩ := dc_nn_ok hf
  have L4 : ∀ j, gvR S 2 x3 3 = some j → j < gvN S 12 := fun j h => ok _ _ _ _ j (L2 _ hx3) rfl h
  refine lh_get (a := 2) (k := 3) (N := 7) (C := RX2) (T := TX2) (own := RX4) (ref := "LoaderModels$Loader") hx hb hts (fun _ h => (List.mem_cons_of_mem _ (List.mem_append_left _ (List.mem_append_right _ h)))) hown hK hW hx3 (L2 _ hx3) rfl rfl rfl (by decide) (hts (.fieldLink RX4 135 "LoaderModels$Loader" "files" "[LLoaderModels$ClassFile;") (List.mem_cons_of_mem _ (List.mem_append_left _ (List.mem_append_left _ (List.mem_append_left _ (List.mem_append_left _ (List.mem_of_getElem? (i := 1) rfl))))))) (fun _ h9 => h9) dX4_tryItselfFirst_4 (v := lh_r ad 12 (gvR S 2 x3 3)) rfl ?_
  refine lh_aload_n hx hb dX4_tryItselfFirst_7 rfl (lv_at hl 1 rfl) ?_
  refine lh_get (a := 8) (k := 1) (N := 4) (C := RX8) (T := TX8) (own := RX4) (ref := "LoaderModels$Step") hx hb hts (fun _ h => (List.mem_cons_of_mem _ (List.mem_append_left _ (List.mem_append_left _ (List.mem_append_right _ h))))) hown hK hW hx1 (L_p1 _ hx1) rfl rfl rfl (by decide) (hts (.fieldLink RX4 90 "LoaderModels$Step" "name" "I") (List.mem_cons_of_mem _ (List.mem_append_left _ (List.mem_append_left _ (List.mem_append_left _ (List.mem_append_left _ (List.mem_of_getElem? (i := 2) rfl))))))) (fun _ h9 => h9) dX4_tryItselfFirst_8 (v := .int (gvI S 8 x1 1)) rfl ?_
  obtain ⟨x5, hx5, hf⟩ := dc_nn_ok hf
  obtain ⟨g6, hf⟩ := dc_gd_ok hf
  have L7 : ∀ j, gvR S 12 x5 ((gvI S 8 x1 1)).toNatClampNeg = some j → j < gvN S 1 := fun j h => ok 12 _ _ 1 j (L4 _ hx5) rfl h
  refine lh_ald_r (a := 12) (t0 := 4) (t := 1) hx hb hK hW hx5 (L4 _ hx5) rfl rfl rfl g6 dX4_tryItselfFirst_11 ?_
  refine lh_ifnull (tgt := 19) hx hb dX4_tryItselfFirst_12 (by decide) (fun c8 => ?_) (fun c8 => ?_)
  · replace hf := dc_if_t c8 hf
    refine lv_iconst (v := 0) hx hb dX4_tryItselfFirst_19 (by decide) ?_
    refine lv_istore_n (i := 2) (lv' := [(2, .int (0 : Int32)), (0, lh_r ad 4 (some t)), (1, lh_r ad 8 p1)]) hx hb dX4_tryItselfFirst_20 rfl hl (by decide) (by first | rfl | simp [lh_cat_r, lh_cat_i, lh_cat_j]) (fun ls hl => ?_)
    refine lv_iload_n hx hb dX4_tryItselfFirst_21 rfl (lv_at hl 0 rfl) ?_
    refine lv_if_ne (tgt := 35) hx hb dX4_tryItselfFirst_22 (by decide) (fun c9 => ?_) (fun c9 => ?_)
    · exact absurd c9 (by decide)
    · refine lh_aload_n hx hb dX4_tryItselfFirst_25 rfl (lv_at hl 2 rfl) ?_
      have L10 : ∀ j, gvR S 8 x1 0 = some j → j < gvN S 2 := fun j h => ok _ _ _ _ j (L_p1 _ hx1) rfl h
      refine lh_get (a := 8) (k := 0) (N := 4) (C := RX8) (T := TX8) (own := RX4) (ref := "LoaderModels$Step") hx hb hts (fun _ h => (List.mem_cons_of_mem _ (List.mem_append_left _ (List.mem_append_left _ (List.mem_append_right _ h))))) hown hK hW hx1 (L_p1 _ hx1) rfl rfl rfl (by decide) (hts (.fieldLink RX4 86 "LoaderModels$Step" "loader" "LLoaderModels$Loader;") (List.mem_cons_of_mem _ (List.mem_append_left _ (List.mem_append_left _ (List.mem_append_left _ (List.mem_append_left _ (List.mem_of_getElem? (i := 0) rfl))))))) (fun _ h9 => h9) dX4_tryItselfFirst_26 (v := lh_r ad 2 (gvR S 8 x1 0)) rfl ?_
      obtain ⟨r11, S12, k13, hf⟩ := dc_bd_ok hf
      refine lh_call (S' := S12) (lh_rv ⟨hx, hb, hml, hown, hts⟩ hx3 (As := []) (rest := []) (k := 2) (c_X2_isMachine l D cT n S ad A H.size (fun q9 h9 => hA q9 (Nat.le_trans hS.1 h9)) x3 r11 S12 k13 (lh_ls (L10 _ hx3))) (cwV 0 hts gX4_tryItselfFirst_X2_isMachine rfl rfl rfl (by decide +kernel) ⟨Nat.le_of_ble_eq_true rfl, Nat.le_of_ble_eq_true rfl⟩) hK hN hW (L10 _ hx3) rfl rfl rfl hl.1 rfl (by simp [lh_cat_r, lh_cat_i, lh_cat_j]) dX4_tryItselfFirst_29 ⟨Nat.zero_le _, Nat.zero_le _⟩) hS (fun H locs hX hW hS => ?_)
      refine W.widen (k := 0) (n := 0) (by omega) (by omega) ?_
      show W _ _ _ _ _ _ _ _ _ _ _ _ _ _ _ (F0 m 32 ls [.int r11])
      have m14 : ∀ b, gvN S b ≤ gvN S12 b := hX.1
      have L_t : ∀ j, some t = some j → j < gvN S12 4 := fun j h => Nat.lt_of_lt_of_le (L_t j h) (m14 _)
      have L_p1 : ∀ j, p1 = some j → j < gvN S12 8 := fun j h => Nat.lt_of_lt_of_le (L_p1 j h) (m14 _)
      have hm : ∀ b, gvN S b ≤ gvN S12 b := lh_le_trans hm m14
      have ok := lh_W_ok hW
      have z15 := hX.2
      refine lv_if_eq (tgt := 41) hx hb dX4_tryItselfFirst_32 (by decide) (fun c16 => ?_) (fun c16 => ?_)
      · replace hf := dc_if_t c16 hf
        refine lh_aload_n hx hb dX4_tryItselfFirst_41 rfl (lv_at hl 1 rfl) ?_
        refine lh_aload_n hx hb dX4_tryItselfFirst_42 rfl (lv_at hl 2 rfl) ?_
        refine lv_iconst (v := 2) hx hb dX4_tryItselfFirst_43 (by decide) ?_
        obtain ⟨r17, S18, k19, hf⟩ := dc_bd_ok hf
        have hn : ∀ b, gvN S18 b ≤ gvN S' b := by
          have hm : ∀ b, gvN S18 b ≤ gvN S18 b := fun _ => Nat.le_refl _
          obtain ⟨_, rfl⟩ := dc_ret hf
          exact hm
        have q1 := m_X4_askParent k19 8
        have q2 := m_X4_askParent k19 5
        have q3 := hn 8
        have q4 := hn 5
        have q5 := hm 8
        have q6 := hm 5
        have hc9 : 0 + (gvN S18 8 + gvN S18 5 - (gvN S12 8 + gvN S12 5)) ≤ mc := by omega
        have hs9 : 0 + (4 * gvN S18 8 + 6 * gvN S18 5 - (4 * gvN S12 8 + 6 * gvN S12 5)) ≤ ms := by omega
        refine lh_callA (S' := S18) (lh_rv ⟨hx, hb, hml, hown, hts⟩ rfl (As := [lh_r ad 8 p1, .int (2 : Int32)]) (rest := []) (k := 4) (c_X4_askParent l D cT n S12 ad A H.size (fun q9 h9 => hA q9 (Nat.le_trans hS.1 h9)) t p1 (2 : Int32) r17 S18 k19 L_t L_p1 (gvN S18 8 + gvN S18 5 - (gvN S12 8 + gvN S12 5)) (4 * gvN S18 8 + 6 * gvN S18 5 - (4 * gvN S12 8 + 6 * gvN S12 5)) (by omega) (by omega)) (cwV 2 hts gX4_tryItselfFirst_X4_askParent rfl rfl rfl (by decide +kernel) ⟨Nat.le_of_ble_eq_true rfl, Nat.le_of_ble_eq_true rfl⟩) hK hN hW (L_t _ rfl) rfl rfl rfl hl.1 rfl (by simp [lh_cat_r, lh_cat_i, lh_cat_j]) dX4_tryItselfFirst_44 ⟨hc9, hs9⟩) hS (fun ad20 H locs hE21 hX hW hS => ?_)
        show W _ _ _ _ _ _ _ _ _ _ _ _ _ _ _ (F0 m 47 ls [.int r17])
        rw [lh_rE hE21 L_t] at hl
        rw [lh_rE hE21 L_p1] at hl
        have hE : lh_E S ad ad20 := lh_E.trans hE hm hE21
        have m22 : ∀ b, gvN S12 b ≤ gvN S18 b := hX.1
        have L_t : ∀ j, some t = some j → j < gvN S18 4 := fun j h => Nat.lt_of_lt_of_le (L_t j h) (m22 _)
        have L_p1 : ∀ j, p1 = some j → j < gvN S18 8 := fun j h => Nat.lt_of_lt_of_le (L_p1 j h) (m22 _)
        have hm : ∀ b, gvN S b ≤ gvN S18 b := lh_le_trans hm m22
        have ok := lh_W_ok hW
        obtain ⟨rfl, rfl⟩ := dc_ret hf
        refine W.widen (k := mc) (n := ms) hc9 hs9 ?_
        exact W.iret (v := r17) hx hb hr (fun t9 ht9 hW9 => ⟨⟨ad20, hE, rfl, ⟨hm, trivial⟩, by rw [ht9]; exact hW⟩, hS.F ht9⟩) hS.2.2 dX4_tryItselfFirst_47
      · replace hf := dc_if_f c16 hf
        refine lh_aload_n hx hb dX4_tryItselfFirst_35 rfl (lv_at hl 1 rfl) ?_
        refine lh_aload_n hx hb dX4_tryItselfFirst_36 rfl (lv_at hl 2 rfl) ?_
        obtain ⟨r23, S24, k25, hf⟩ := dc_bd_ok hf
        refine lh_call (S' := S24) (lh_rv ⟨hx, hb, hml, hown, hts⟩ rfl (As := [lh_r ad 8 p1]) (rest := []) (k := 4) (c_X4_tryItself l D cT n S12 ad A H.size (fun q9 h9 => hA q9 (Nat.le_trans hS.1 h9)) t p1 r23 S24 k25 L_t L_p1) (cwV 1 hts gX4_tryItselfFirst_X4_tryItself rfl rfl rfl (by decide +kernel) ⟨Nat.le_of_ble_eq_true rfl, Nat.le_of_ble_eq_true rfl⟩) hK hN hW (L_t _ rfl) rfl rfl rfl hl.1 rfl (by simp [lh_cat_r, lh_cat_i, lh_cat_j]) dX4_tryItselfFirst_37 ⟨Nat.zero_le _, Nat.zero_le _⟩) hS (fun H locs hX hW hS => ?_)
        refine W.widen (k := 0) (n := 0) (by omega) (by omega) ?_
        show W _ _ _ _ _ _ _ _ _ _ _ _ _ _ _ (F0 m 40 ls [.int r23])
        have m26 : ∀ b, gvN S12 b ≤ gvN S24 b := hX.1
        have L_t : ∀ j, some t = some j → j < gvN S24 4 := fun j h => Nat.lt_of_lt_of_le (L_t j h) (m26 _)
        have L_p1 : ∀ j, p1 = some j → j < gvN S24 8 := fun j h => Nat.lt_of_lt_of_le (L_p1 j h) (m26 _)
        have hm : ∀ b, gvN S b ≤ gvN S24 b := lh_le_trans hm m26
        have ok := lh_W_ok hW
        obtain ⟨rfl, rfl⟩ := dc_ret hf
        refine W.widen (k := mc) (n := ms) (Nat.zero_le _) (Nat.zero_le _) ?_
        exact W.iret (v := r23) hx hb hr (fun t9 ht9 hW9 => ⟨⟨ad, hE, rfl, ⟨hm, trivial⟩, by rw [ht9]; exact hW⟩, hS.F ht9⟩) hS.2.2 dX4_tryItselfFirst_40
  · replace hf := dc_if_f c8 hf
    refine lv_iconst (v := 1) hx hb dX4_tryItselfFirst_15 (by decide) ?_
    refine lv_goto (tgt := 20) hx hb dX4_tryItselfFirst_16 (by decide) ?_
    refine lv_istore_n (i := 2) (lv' := [(2, .int (1 : Int32)), (0, lh_r ad 4 (some t)), (1, lh_r ad 8 p1)]) hx hb dX4_tryItselfFirst_20 rfl hl (by decide) (by first | rfl | simp [lh_cat_r, lh_cat_i, lh_cat_j]) (fun ls hl => ?_)
    refine lv_iload_n hx hb dX4_tryItselfFirst_21 rfl (lv_at hl 0 rfl) ?_
    refine lv_if_ne (tgt := 35) hx hb dX4_tryItselfFirst_22 (by decide) (fun c27 => ?_) (fun c27 => ?_)
    · refine lh_aload_n hx hb dX4_tryItselfFirst_35 rfl (lv_at hl 1 rfl) ?_
      refine lh_aload_n hx hb dX4_tryItselfFirst_36 rfl (lv_at hl 2 rfl) ?_
      obtain ⟨r28, S29, k30, hf⟩ := dc_bd_ok hf
      refine lh_call (S' := S29) (lh_rv ⟨hx, hb, hml, hown, hts⟩ rfl (As := [lh_r ad 8 p1]) (rest := []) (k := 4) (c_X4_tryItself l D cT n S ad A H.size (fun q9 h9 => hA q9 (Nat.le_trans hS.1 h9)) t p1 r28 S29 k30 L_t L_p1) (cwV 1 hts gX4_tryItselfFirst_X4_tryItself rfl rfl rfl (by decide +kernel) ⟨Nat.le_of_ble_eq_true rfl, Nat.le_of_ble_eq_true rfl⟩) hK hN hW (L_t _ rfl) rfl rfl rfl hl.1 rfl (by simp [lh_cat_r, lh_cat_i, lh_cat_j]) dX4_tryItselfFirst_37 ⟨Nat.zero_le _, Nat.zero_le _⟩) hS (fun H locs hX hW hS => ?_)
      refine W.widen (k := 0) (n := 0) (by omega) (by omega) ?_
      show W _ _ _ _ _ _ _ _ _ _ _ _ _ _ _ (F0 m 40 ls [.int r28])
      have m31 : ∀ b, gvN S b ≤ gvN S29 b := hX.1
      have L_t : ∀ j, some t = some j → j < gvN S29 4 := fun j h => Nat.lt_of_lt_of_le (L_t j h) (m31 _)
      have L_p1 : ∀ j, p1 = some j → j < gvN S29 8 := fun j h => Nat.lt_of_lt_of_le (L_p1 j h) (m31 _)
      have hm : ∀ b, gvN S b ≤ gvN S29 b := lh_le_trans hm m31
      have ok := lh_W_ok hW
      obtain ⟨rfl, rfl⟩ := dc_ret hf
      refine W.widen (k := mc) (n := ms) (Nat.zero_le _) (Nat.zero_le _) ?_
      exact W.iret (v := r28) hx hb hr (fun t9 ht9 hW9 => ⟨⟨ad, hE, rfl, ⟨hm, trivial⟩, by rw [ht9]; exact hW⟩, hS.F ht9⟩) hS.2.2 dX4_tryItselfFirst_40
    · exact absurd c27 (by decide)
def f_X4_finish (n : Nat) (S : lh_S) (t : Nat) (p1 : Option Nat) (p2 : Option Nat) : Option (Int32 × lh_S) :=
  dc_nn p1 fun x2 =>
  dc_nn (gvR S 4 t 0) fun x5 =>
  dc_bd (f_X3_isBarred n S x5 (gvR S 8 x2 0) (gvI S 8 x2 1) (none : Option Nat)) fun r6 S7 =>
  dc_if (r6 = 0) (
  dc_if ((gvI S7 4 t 3) < (40 : Int32)) (
  dc_let (pvN S7 5 0) fun S13 =>
  dc_bd (f_X5_init n S13 (gvN S7 5) (gvI S13 4 t 3) (gvR S13 8 x2 0) (gvR S13 8 x2 2) p2) fun r21 S22 =>
  dc_let ((gvI S22 4 t 3) + (1 : Int32)) fun v26 =>
  dc_let (pvI S22 4 t 3 v26) fun S27 =>
  dc_nn (gvR S22 4 t 2) fun x29 =>
  dc_gd ((gvI S22 4 t 3) < 0 ∨ gvL S27 17 x29 ≤ ((gvI S22 4 t 3)).toNatClampNeg) (
  dc_let (pvR S27 17 x29 ((gvI S22 4 t 3)).toNatClampNeg (some (gvN S7 5))) fun S31 =>
  dc_nn (gvR S31 8 x2 0) fun x34 =>
  dc_nn (gvR S31 2 x34 4) fun x36 =>
  dc_gd ((gvI S31 8 x2 1) < 0 ∨ gvL S31 13 x36 ≤ ((gvI S31 8 x2 1)).toNatClampNeg) (
  dc_let (pvR S31 13 x36 ((gvI S31 8 x2 1)).toNatClampNeg (some (gvN S7 5))) fun S38 =>
  dc_bd (f_X4_end n S38 t (gvI S38 5 (gvN S7 5) 0)) fun r40 S41 =>
  some (r40, S41)))) (
  dc_bd (f_X9_failed n S7 (12 : Int32)) fun r44 S45 =>
  dc_bd (f_X4_end n S45 t r44) fun r48 S49 =>
  some (r48, S49))) (
  dc_bd (f_X9_failed n S7 (3 : Int32)) fun r52 S53 =>
  dc_bd (f_X4_end n S53 t r52) fun r56 S57 =>
  some (r56, S57))
set_option maxHeartbeats 1000000 in
theorem m_X4_finish {n : Nat} {S : lh_S} {t : Nat} {p1 : Option Nat} {p2 : Option Nat} {r : Int32} {S' : lh_S} (hf : f_X4_finish n S t p1 p2 = some (r, S')) : ∀ b, gvN S b ≤ gvN S' b := by
  have hm : ∀ b, gvN S b ≤ gvN S b := fun _ => Nat.le_refl _
  unfold f_X4_finish at hf
  obtain ⟨x2, hx2, hf⟩ := dc_nn_ok hf
  obtain ⟨x5, hx5, hf⟩ := dc_nn_ok hf
  obtain ⟨r6, S7, k8, hf⟩ := dc_bd_ok hf
  have hm := lh_le_trans hm (show ∀ b, gvN S b ≤ gvN S7 b from m_X3_isBarred k8)
  by_cases c11 : r6 = 0
  · replace hf := dc_if_t c11 hf
    by_cases c12 : (gvI S7 4 t 3) < (40 : Int32)
    · replace hf := dc_if_t c12 hf
      obtain ⟨S13, eS13, hf⟩ := dc_let_ok hf
      have hm := lh_le_trans hm (show ∀ b, gvN S7 b ≤ gvN S13 b from by rw [eS13]; exact lh_mN)
      obtain ⟨r21, S22, k23, hf⟩ := dc_bd_ok hf
      have hm := lh_le_trans hm (show ∀ b, gvN S13 b ≤ gvN S22 b from m_X5_init k23)
      obtain ⟨v26, hv26, hf⟩ := dc_let_ok hf
      obtain ⟨S27, eS27, hf⟩ := dc_let_ok hf
      have hm := lh_le_trans hm (show ∀ b, gvN S22 b ≤ gvN S27 b from by rw [eS27]; exact lh_mI)
      obtain ⟨x29, hx29, hf⟩ := dc_nn_ok hf
      obtain ⟨g30, hf⟩ := dc_gd_ok hf
      obtain ⟨S31, eS31, hf⟩ := dc_let_ok hf
      have hm := lh_le_trans hm (show ∀ b, gvN S27 b ≤ gvN S31 b from by rw [eS31]; exact lh_mR)
      obtain ⟨x34, hx34, hf⟩ := dc_nn_ok hf
      obtain ⟨x36, hx36, hf⟩ := dc_nn_ok hf
      obtain ⟨g37, hf⟩ := dc_gd_ok hf
      obtain ⟨S38, eS38, hf⟩ := dc_let_ok hf
      have hm := lh_le_trans hm (show ∀ b, gvN S31 b ≤ gvN S38 b from by rw [eS38]; exact lh_mR)
      obtain ⟨r40, S41, k42, hf⟩ := dc_bd_ok hf
      have hm := lh_le_trans hm (show ∀ b, gvN S38 b ≤ gvN S41 b from m_X4_end k42)
      obtain ⟨_, rfl⟩ := dc_ret hf
      exact hm
    · replace hf := dc_if_f c12 hf
      obtain ⟨r44, S45, k46, hf⟩ := dc_bd_ok hf
      have hm := lh_le_trans hm (show ∀ b, gvN S7 b ≤ gvN S45 b from m_X9_failed k46)
      obtain ⟨r48, S49, k50, hf⟩ := dc_bd_ok hf
      have hm := lh_le_trans hm (show ∀ b, gvN S45 b ≤ gvN S49 b from m_X4_end k50)
      obtain ⟨_, rfl⟩ := dc_ret hf
      exact hm
  · replace hf := dc_if_f c11 hf
    obtain ⟨r52, S53, k54, hf⟩ := dc_bd_ok hf
    have hm := lh_le_trans hm (show ∀ b, gvN S7 b ≤ gvN S53 b from m_X9_failed k54)
    obtain ⟨r56, S57, k58, hf⟩ := dc_bd_ok hf
    have hm := lh_le_trans hm (show ∀ b, gvN S53 b ≤ gvN S57 b from m_X4_end k58)
    obtain ⟨_, rfl⟩ := dc_ret hf
    exact hm
set_option maxHeartbeats 1000000 in
theorem k_X4_finish {n : Nat} {S : lh_S} {t : Nat} {p1 : Option Nat} {p2 : Option Nat} {r : Int32} {S' : lh_S} (hf : f_X4_finish n S t p1 p2 = some (r, S')) : lh_sm9 S S' := by
  have hm : lh_sm9 S S := lh_sm9_rf
  unfold f_X4_finish at hf
  obtain ⟨x2, hx2, hf⟩ := dc_nn_ok hf
  obtain ⟨x5, hx5, hf⟩ := dc_nn_ok hf
  obtain ⟨r6, S7, k8, hf⟩ := dc_bd_ok hf
  have hm := lh_sm9_trans hm (show lh_sm9 S S7 from k_X3_isBarred k8)
  by_cases c11 : r6 = 0
  · replace hf := dc_if_t c11 hf
    by_cases c12 : (gvI S7 4 t 3) < (40 : Int32)
    · replace hf := dc_if_t c12 hf
      obtain ⟨S13, eS13, hf⟩ := dc_let_ok hf
      have hm := lh_sm9_trans hm (show lh_sm9 S7 S13 from by rw [eS13]; exact (lh_sm9N (by decide)))
      obtain ⟨r21, S22, k23, hf⟩ := dc_bd_ok hf
      have hm := lh_sm9_trans hm (show lh_sm9 S13 S22 from k_X5_init k23)
      obtain ⟨v26, hv26, hf⟩ := dc_let_ok hf
      obtain ⟨S27, eS27, hf⟩ := dc_let_ok hf
      have hm := lh_sm9_trans hm (show lh_sm9 S22 S27 from by rw [eS27]; exact (lh_sm9I (by decide)))
      obtain ⟨x29, hx29, hf⟩ := dc_nn_ok hf
      obtain ⟨g30, hf⟩ := dc_gd_ok hf
      obtain ⟨S31, eS31, hf⟩ := dc_let_ok hf
      have hm := lh_sm9_trans hm (show lh_sm9 S27 S31 from by rw [eS31]; exact (lh_sm9R (by decide)))
      obtain ⟨x34, hx34, hf⟩ := dc_nn_ok hf
      obtain ⟨x36, hx36, hf⟩ := dc_nn_ok hf
      obtain ⟨g37, hf⟩ := dc_gd_ok hf
      obtain ⟨S38, eS38, hf⟩ := dc_let_ok hf
      have hm := lh_sm9_trans hm (show lh_sm9 S31 S38 from by rw [eS38]; exact (lh_sm9R (by decide)))
      obtain ⟨r40, S41, k42, hf⟩ := dc_bd_ok hf
      have hm := lh_sm9_trans hm (show lh_sm9 S38 S41 from k_X4_end k42)
      obtain ⟨_, rfl⟩ := dc_ret hf
      exact hm
    · replace hf := dc_if_f c12 hf
      obtain ⟨r44, S45, k46, hf⟩ := dc_bd_ok hf
      have hm := lh_sm9_trans hm (show lh_sm9 S7 S45 from k_X9_failed k46)
      obtain ⟨r48, S49, k50, hf⟩ := dc_bd_ok hf
      have hm := lh_sm9_trans hm (show lh_sm9 S45 S49 from k_X4_end k50)
      obtain ⟨_, rfl⟩ := dc_ret hf
      exact hm
  · replace hf := dc_if_f c11 hf
    obtain ⟨r52, S53, k54, hf⟩ := dc_bd_ok hf
    have hm := lh_sm9_trans hm (show lh_sm9 S7 S53 from k_X9_failed k54)
    obtain ⟨r56, S57, k58, hf⟩ := dc_bd_ok hf
    have hm := lh_sm9_trans hm (show lh_sm9 S53 S57 from k_X4_end k58)
    obtain ⟨_, rfl⟩ := dc_ret hf
    exact hm
set_option maxHeartbeats 4000000 in
set_option maxRecDepth 100000 in
theorem c_X4_finish (l : Launch) (D : va_G) (cT : Nat → ClassId) (n : Nat) (S : lh_S) (ad : Nat → Nat → Nat) (A : Nat → Prop) (sz : Nat) (hA : ∀ q, sz ≤ q → A q) (t : Nat) (p1 : Option Nat) (p2 : Option Nat) (r : Int32) (S' : lh_S) (hf : f_X4_finish n S t p1 p2 = some (r, S')) (L_t : ∀ j, some t = some j → j < gvN S 4) (L_p1 : ∀ j, p1 = some j → j < gvN S 8) (L_p2 : ∀ j, p2 = some j → j < gvN S 5) (mc ms : Nat) (hmc : gvN S' 8 + gvN S' 5 ≤ gvN S 8 + gvN S 5 + mc) (hms : 4 * gvN S' 8 + 6 * gvN S' 5 ≤ 4 * gvN S 8 + 6 * gvN S 5 + ms) : Met l yX4_finish wsX4_finish ({ frames := 2, cells := mc, slots := ms, locals := 48 } : Room) (lh_P D cT S ad A sz [lh_r ad 4 (some t), lh_r ad 8 p1, lh_r ad 5 p2]) (lh_QA D cT S S' ad A ((∀ b, gvN S b ≤ gvN S' b) ∧ True) (fun ad9 => some (.int r))) mc ms A := by
  refine Met.ofW (cc := cX4_finish) (maxL := 4) (ret := (some .int)) (by decide) rfl ?_
  intro p e s m args below meth c s₁ B hml hv
  obtain ⟨hargs, hsz, hW, hK, hN⟩ := hv
  have hx := B.exec
  have hb := B.bytes
  have hr := B.returns
  have hts := atoms_spec (ws := wsX4_finish) B.pre
  have hown : s.vm.findClass RX4 = some m.cls := findClass_of_methodNamed B.named
  have hlocks := B.notSynchronized
  have hA : ∀ q, s.heap.size ≤ q → A q := fun q h => hA q (by rw [← hsz]; exact h)
  have ok := lh_W_ok hW
  have hm : ∀ b, gvN S b ≤ gvN S b := fun _ => Nat.le_refl _
  have hE : lh_E S ad ad := lh_E.rf
  obtain ⟨ls, hent, hl⟩ := lh_entry m args [lh_r ad 4 (some t), lh_r ad 8 p1, lh_r ad 5 p2] 4 [(0, lh_r ad 4 (some t)), (1, lh_r ad 8 p1), (2, lh_r ad 5 p2)] hargs (by simp [lv_args, lh_cat_r, lh_cat_i, lh_cat_j]) (by simp [lg_sl, lh_cat_r, lh_cat_i, lh_cat_j])
  rw [hent]
  generalize hH : s.heap = H at hW ⊢
  have hS : va_S A s.heap H [] := by rw [← hH]; exact va_S.rf
  unfold f_X4_finish at hf
  refine lh_aload_n hx hb dX4_finish_0 rfl (lv_at hl 0 rfl) ?_
  have L1 : ∀ j, gvR S 4 t 0 = some j → j < gvN S 3 := fun j h => ok _ _ _ _ j (L_t _ rfl) rfl h
  refine lh_get (a := 4) (k := 0) (N := 6) (C := RX4) (T := TX4) (own := RX4) (ref := "LoaderModels$Loading") hx hb hts (fun _ h => (List.mem_cons_of_mem _ (List.mem_append_left _ (List.mem_append_left _ (List.mem_append_left _ (List.mem_append_left _ (List.mem_append_right _ h))))))) hown hK hW rfl (L_t _ rfl) rfl rfl rfl (by decide) (hts (.fieldLink RX4 30 "LoaderModels$Loading" "loaders" "LLoaderModels$Loaders;") (List.mem_cons_of_mem _ (List.mem_append_left _ (List.mem_append_left _ (List.mem_append_left _ (List.mem_append_left _ (List.mem_append_left _ (List.mem_append_left _ (List.mem_of_getElem? (i := 0) rfl))))))))) (fun _ h9 => h9) dX4_finish_1 (v := lh_r ad 3 (gvR S 4 t 0)) rfl ?_
  refine lh_aload_n hx hb dX4_finish_4 rfl (lv_at hl 1 rfl) ?_
  obtain ⟨x2, hx2, hf⟩ := dc_nn_ok hf
  have L3 : ∀ j, gvR S 8 x2 0 = some j → j < gvN S 2 := fun j h => ok _ _ _ _ j (L_p1 _ hx2) rfl h
  refine lh_get (a := 8) (k := 0) (N := 4) (C := RX8) (T := TX8) (own := RX4) (ref := "LoaderModels$Step") hx hb hts (fun _ h => (List.mem_cons_of_mem _ (List.mem_append_left _ (List.mem_append_left _ (List.mem_append_left _ (List.mem_append_right _ h)))))) hown hK hW hx2 (L_p1 _ hx2) rfl rfl rfl (by decide) (hts (.fieldLink RX4 86 "LoaderModels$Step" "loader" "LLoaderModels$Loader;") (List.mem_cons_of_mem _ (List.mem_append_left _ (List.mem_append_left _ (List.mem_append_left _ (List.mem_append_left _ (List.mem_append_left _ (List.mem_append_left _ (List.mem_of_getElem? (i := 1) rfl))))))))) (fun _ h9 => h9) dX4_finish_5 (v := lh_r ad 2 (gvR S 8 x2 0)) rfl ?_
  refine lh_aload_n hx hb dX4_finish_8 rfl (lv_at hl 1 rfl) ?_
  refine lh_get (a := 8) (k := 1) (N := 4) (C := RX8) (T := TX8) (own := RX4) (ref := "LoaderModels$Step") hx hb hts (fun _ h => (List.mem_cons_of_mem _ (List.mem_append_left _ (List.mem_append_left _ (List.mem_append_left _ (List.mem_append_right _ h)))))) hown hK hW hx2 (L_p1 _ hx2) rfl rfl rfl (by decide) (hts (.fieldLink RX4 90 "LoaderModels$Step" "name" "I") (List.mem_cons_of_mem _ (List.mem_append_left _ (List.mem_append_left _ (List.mem_append_left _ (List.mem_append_left _ (List.mem_append_left _ (List.mem_append_left _ (List.mem_of_getElem? (i := 2) rfl))))))))) (fun _ h9 => h9) dX4_finish_9 (v := .int (gvI S 8 x2 1)) rfl ?_
  have L4 : ∀ j, (none : Option Nat) = some j → j < gvN S 5 := fun j h => by cases h
  refine lh_null hx hb ad 5 dX4_finish_12 ?_
  obtain ⟨x5, hx5, hf⟩ := dc_nn_ok hf
  obtain ⟨r6, S7, k8, hf⟩ := dc_bd_ok hf
  refine lh_call (S' := S7) (lh_rv ⟨hx, hb, hml, hown, hts⟩ hx5 (As := [lh_r ad 2 (gvR S 8 x2 0), .int (gvI S 8 x2 1), lh_r ad 5 (none : Option Nat)]) (rest := []) (k := 3) (c_X3_isBarred l D cT n S ad A H.size (fun q9 h9 => hA q9 (Nat.le_trans hS.1 h9)) x5 (gvR S 8 x2 0) (gvI S 8 x2 1) (none : Option Nat) r6 S7 k8 (lh_ls (L1 _ hx5)) L3 L4) (cwV 3 hts gX4_finish_X3_isBarred rfl rfl rfl (by decide +kernel) ⟨Nat.le_of_ble_eq_true rfl, Nat.le_of_ble_eq_true rfl⟩) hK hN hW (L1 _ hx5) rfl rfl rfl hl.1 rfl (by simp [lh_cat_r, lh_cat_i, lh_cat_j]) dX4_finish_13 ⟨Nat.zero_le _, Nat.zero_le _⟩) hS (fun H locs hX hW hS => ?_)
  refine W.widen (k := 0) (n := 0) (by omega) (by omega) ?_
  show W _ _ _ _ _ _ _ _ _ _ _ _ _ _ _ (F0 m 16 ls [.int r6])
  have m9 : ∀ b, gvN S b ≤ gvN S7 b := hX.1
  have L_t : ∀ j, some t = some j → j < gvN S7 4 := fun j h => Nat.lt_of_lt_of_le (L_t j h) (m9 _)
  have L_p1 : ∀ j, p1 = some j → j < gvN S7 8 := fun j h => Nat.lt_of_lt_of_le (L_p1 j h) (m9 _)
  have L_p2 : ∀ j, p2 = some j → j < gvN S7 5 := fun j h => Nat.lt_of_lt_of_le (L_p2 j h) (m9 _)
  have hm : ∀ b, gvN S b ≤ gvN S7 b := lh_le_trans hm m9
  have ok := lh_W_ok hW
  have z10 := hX.2
  refine lv_if_eq (tgt := 28) hx hb dX4_finish_16 (by decide) (fun c11 => ?_) (fun c11 => ?_)
  · replace hf := dc_if_t c11 hf
    refine lh_aload_n hx hb dX4_finish_28 rfl (lv_at hl 0 rfl) ?_
    refine lh_get (a := 4) (k := 3) (N := 6) (C := RX4) (T := TX4) (own := RX4) (ref := "LoaderModels$Loading") hx hb hts (fun _ h => (List.mem_cons_of_mem _ (List.mem_append_left _ (List.mem_append_left _ (List.mem_append_left _ (List.mem_append_left _ (List.mem_append_right _ h))))))) hown hK hW rfl (L_t _ rfl) rfl rfl rfl (by decide) (hts (.fieldLink RX4 34 "LoaderModels$Loading" "classCount" "I") (List.mem_cons_of_mem _ (List.mem_append_left _ (List.mem_append_left _ (List.mem_append_left _ (List.mem_append_left _ (List.mem_append_left _ (List.mem_append_left _ (List.mem_of_getElem? (i := 3) rfl))))))))) (fun _ h9 => h9) dX4_finish_29 (v := .int (gvI S7 4 t 3)) rfl ?_
    refine lv_bipush (v := 40) hx hb dX4_finish_32 (by decide) ?_
    refine lv_icmp_lt (tgt := 47) hx hb dX4_finish_34 (by decide) (fun c12 => ?_) (fun c12 => ?_)
    · replace hf := dc_if_t c12 hf
      obtain ⟨S13, eS13, hf⟩ := dc_let_ok hf
      have hn : ∀ b, gvN S13 b ≤ gvN S' b := by
        have hm : ∀ b, gvN S13 b ≤ gvN S13 b := fun _ => Nat.le_refl _
        obtain ⟨r21, S22, k23, hf⟩ := dc_bd_ok hf
        have hm := lh_le_trans hm (show ∀ b, gvN S13 b ≤ gvN S22 b from m_X5_init k23)
        obtain ⟨v26, hv26, hf⟩ := dc_let_ok hf
        obtain ⟨S27, eS27, hf⟩ := dc_let_ok hf
        have hm := lh_le_trans hm (show ∀ b, gvN S22 b ≤ gvN S27 b from by rw [eS27]; exact lh_mI)
        obtain ⟨x29, hx29, hf⟩ := dc_nn_ok hf
        obtain ⟨g30, hf⟩ := dc_gd_ok hf
        obtain ⟨S31, eS31, hf⟩ := dc_let_ok hf
        have hm := lh_le_trans hm (show ∀ b, gvN S27 b ≤ gvN S31 b from by rw [eS31]; exact lh_mR)
        obtain ⟨x34, hx34, hf⟩ := dc_nn_ok hf
        obtain ⟨x36, hx36, hf⟩ := dc_nn_ok hf
        obtain ⟨g37, hf⟩ := dc_gd_ok hf
        obtain ⟨S38, eS38, hf⟩ := dc_let_ok hf
        have hm := lh_le_trans hm (show ∀ b, gvN S31 b ≤ gvN S38 b from by rw [eS38]; exact lh_mR)
        obtain ⟨r40, S41, k42, hf⟩ := dc_bd_ok hf
        have hm := lh_le_trans hm (show ∀ b, gvN S38 b ≤ gvN S41 b from m_X4_end k42)
        obtain ⟨_, rfl⟩ := dc_ret hf
        exact hm
      have hc9 : 0 + 1 ≤ mc := lh_one5 (by rw [← eS13]; exact hn) hm hmc
      have hs9 : 0 + 6 ≤ ms := lh_ons5 (by rw [← eS13]; exact hn) hm hms
      refine lh_new (a := 5) (N := 6) (C := RX5) (T := TX5) (own := RX4) hx hb hts (fun _ h => (List.mem_cons_of_mem _ (List.mem_append_left _ (List.mem_append_left _ (List.mem_append_right _ h))))) tyX5 tyX5_ok hown (hts (.classLink RX4 18 RX5) (List.mem_cons_of_mem _ (List.mem_append_left _ (List.mem_append_left _ (List.mem_append_left _ (List.mem_append_left _ (List.mem_append_left _ (List.mem_append_left _ (List.mem_of_getElem? (i := 4) rfl))))))))) (hts (.instantiable RX5 6) (List.mem_cons_of_mem _ (List.mem_append_left _ (List.mem_append_left _ (List.mem_append_left _ (List.mem_append_left _ (List.mem_append_left _ (List.mem_append_left _ (List.mem_of_getElem? (i := 5) rfl))))))))) (hts (.initialized RX5) (List.mem_cons_of_mem _ (List.mem_append_left _ (List.mem_append_left _ (List.mem_append_left _ (List.mem_append_left _ (List.mem_append_left _ (List.mem_append_left _ (List.mem_of_getElem? (i := 6) rfl))))))))) hK hW hS hA rfl rfl rfl (by decide +kernel) hc9 hs9 dX4_finish_47 (fun ad14 H hE15 hW hS => ?_)
      rw [lh_rE hE15 L_t] at hl
      rw [lh_rE hE15 L_p1] at hl
      rw [lh_rE hE15 L_p2] at hl
      have hE : lh_E S ad ad14 := lh_E.trans hE hm hE15
      rw [← eS13] at hW
      have m16 : ∀ b, gvN S7 b ≤ gvN S13 b := by rw [eS13]; exact lh_mN
      have L_t : ∀ j, some t = some j → j < gvN S13 4 := fun j h => Nat.lt_of_lt_of_le (L_t j h) (m16 _)
      have L_p1 : ∀ j, p1 = some j → j < gvN S13 8 := fun j h => Nat.lt_of_lt_of_le (L_p1 j h) (m16 _)
      have L_p2 : ∀ j, p2 = some j → j < gvN S13 5 := fun j h => Nat.lt_of_lt_of_le (L_p2 j h) (m16 _)
      have hm : ∀ b, gvN S b ≤ gvN S13 b := lh_le_trans hm m16
      have ok := lh_W_ok hW
      have L17 : ∀ j, some (gvN S7 5) = some j → j < gvN S13 5 := lh_ls (by rw [eS13]; exact lh_nN)
      refine lv_dup hx hb dX4_finish_50 lh_cat_r ?_
      refine lh_aload_n hx hb dX4_finish_51 rfl (lv_at hl 0 rfl) ?_
      refine lh_get (a := 4) (k := 3) (N := 6) (C := RX4) (T := TX4) (own := RX4) (ref := "LoaderModels$Loading") hx hb hts (fun _ h => (List.mem_cons_of_mem _ (List.mem_append_left _ (List.mem_append_left _ (List.mem_append_left _ (List.mem_append_left _ (List.mem_append_right _ h))))))) hown hK hW rfl (L_t _ rfl) rfl rfl rfl (by decide) (hts (.fieldLink RX4 34 "LoaderModels$Loading" "classCount" "I") (List.mem_cons_of_mem _ (List.mem_append_left _ (List.mem_append_left _ (List.mem_append_left _ (List.mem_append_left _ (List.mem_append_left _ (List.mem_append_left _ (List.mem_of_getElem? (i := 3) rfl))))))))) (fun _ h9 => h9) dX4_finish_52 (v := .int (gvI S13 4 t 3)) rfl ?_
      refine lh_aload_n hx hb dX4_finish_55 rfl (lv_at hl 1 rfl) ?_
      have L19 : ∀ j, gvR S13 8 x2 0 = some j → j < gvN S13 2 := fun j h => ok _ _ _ _ j (L_p1 _ hx2) rfl h
      refine lh_get (a := 8) (k := 0) (N := 4) (C := RX8) (T := TX8) (own := RX4) (ref := "LoaderModels$Step") hx hb hts (fun _ h => (List.mem_cons_of_mem _ (List.mem_append_left _ (List.mem_append_left _ (List.mem_append_left _ (List.mem_append_right _ h)))))) hown hK hW hx2 (L_p1 _ hx2) rfl rfl rfl (by decide) (hts (.fieldLink RX4 86 "LoaderModels$Step" "loader" "LLoaderModels$Loader;") (List.mem_cons_of_mem _ (List.mem_append_left _ (List.mem_append_left _ (List.mem_append_left _ (List.mem_append_left _ (List.mem_append_left _ (List.mem_append_left _ (List.mem_of_getElem? (i := 1) rfl))))))))) (fun _ h9 => h9) dX4_finish_56 (v := lh_r ad14 2 (gvR S13 8 x2 0)) rfl ?_
      refine lh_aload_n hx hb dX4_finish_59 rfl (lv_at hl 1 rfl) ?_
      have L20 : ∀ j, gvR S13 8 x2 2 = some j → j < gvN S13 1 := fun j h => ok _ _ _ _ j (L_p1 _ hx2) rfl h
      refine lh_get (a := 8) (k := 2) (N := 4) (C := RX8) (T := TX8) (own := RX4) (ref := "LoaderModels$Step") hx hb hts (fun _ h => (List.mem_cons_of_mem _ (List.mem_append_left _ (List.mem_append_left _ (List.mem_append_left _ (List.mem_append_right _ h)))))) hown hK hW hx2 (L_p1 _ hx2) rfl rfl rfl (by decide) (hts (.fieldLink RX4 91 "LoaderModels$Step" "file" "LLoaderModels$ClassFile;") (List.mem_cons_of_mem _ (List.mem_append_left _ (List.mem_append_left _ (List.mem_append_left _ (List.mem_append_left _ (List.mem_append_left _ (List.mem_append_left _ (List.mem_of_getElem? (i := 7) rfl))))))))) (fun _ h9 => h9) dX4_finish_60 (v := lh_r ad14 1 (gvR S13 8 x2 2)) rfl ?_
      refine lh_aload_n hx hb dX4_finish_63 rfl (lv_at hl 2 rfl) ?_
      obtain ⟨r21, S22, k23, hf⟩ := dc_bd_ok hf
      refine lh_call (S' := S22) (lh_ri ⟨hx, hb, hml, hown, hts⟩ rfl (As := [.int (gvI S13 4 t 3), lh_r ad14 2 (gvR S13 8 x2 0), lh_r ad14 1 (gvR S13 8 x2 2), lh_r ad14 5 p2]) (rest := [lh_r ad14 5 (some (gvN S7 5))]) (k := 5) (c_X5_init l D cT n S13 ad14 A H.size (fun q9 h9 => hA q9 (Nat.le_trans hS.1 h9)) (gvN S7 5) (gvI S13 4 t 3) (gvR S13 8 x2 0) (gvR S13 8 x2 2) p2 r21 S22 k23 L17 L19 L20 L_p2) (cwI 4 hts gX4_finish_X5_init rfl rfl rfl (hts (.initialized RX5) (List.mem_cons_of_mem _ (List.mem_append_left _ (List.mem_append_left _ (List.mem_append_left _ (List.mem_append_left _ (List.mem_append_left _ (List.mem_append_left _ (List.mem_of_getElem? (i := 6) rfl))))))))) (hts (.methodLink RX4 162 yX5_init) (List.mem_cons_of_mem _ (List.mem_append_left _ (List.mem_append_left _ (List.mem_append_left _ (List.mem_append_left _ (List.mem_append_left _ (List.mem_append_right _ (List.mem_of_getElem? (i := 9) rfl))))))))) (hts (.instanceMethod yX5_init) (List.mem_cons_of_mem _ (List.mem_append_left _ (List.mem_append_left _ (List.mem_append_left _ (List.mem_append_left _ (List.mem_append_left _ (List.mem_append_right _ (List.mem_of_getElem? (i := 10) rfl))))))))) rfl (by decide +kernel) ⟨Nat.le_of_ble_eq_true rfl, Nat.le_of_ble_eq_true rfl⟩) hK hN hW rfl hl.1 rfl (by simp [lh_cat_r, lh_cat_i, lh_cat_j]) dX4_finish_64 ⟨hc9, hs9⟩) hS (fun H locs hX hW hS => ?_)
      refine W.widen (k := 0 + 1) (n := 0 + 6) (by omega) (by omega) ?_
      show W _ _ _ _ _ _ _ _ _ _ _ _ _ _ _ (F0 m 67 ls [lh_r ad14 5 (some (gvN S7 5))])
      have m24 : ∀ b, gvN S13 b ≤ gvN S22 b := hX.1
      have L_t : ∀ j, some t = some j → j < gvN S22 4 := fun j h => Nat.lt_of_lt_of_le (L_t j h) (m24 _)
      have L_p1 : ∀ j, p1 = some j → j < gvN S22 8 := fun j h => Nat.lt_of_lt_of_le (L_p1 j h) (m24 _)
      have L_p2 : ∀ j, p2 = some j → j < gvN S22 5 := fun j h => Nat.lt_of_lt_of_le (L_p2 j h) (m24 _)
      have L17 : ∀ j, some (gvN S7 5) = some j → j < gvN S22 5 := fun j h => Nat.lt_of_lt_of_le (L17 j h) (m24 _)
      have hm : ∀ b, gvN S b ≤ gvN S22 b := lh_le_trans hm m24
      have ok := lh_W_ok hW
      refine lh_astore_n (i := 3) (lv' := [(3, lh_r ad14 5 (some (gvN S7 5))), (0, lh_r ad14 4 (some t)), (1, lh_r ad14 8 p1), (2, lh_r ad14 5 p2)]) hx hb dX4_finish_67 rfl hl (by decide) (by first | rfl | simp [lh_cat_r, lh_cat_i, lh_cat_j]) (fun ls hl => ?_)
      refine lh_aload_n hx hb dX4_finish_68 rfl (lv_at hl 1 rfl) ?_
      have L25 : ∀ j, gvR S22 4 t 2 = some j → j < gvN S22 17 := fun j h => ok _ _ _ _ j (L_t _ rfl) rfl h
      refine lh_get (a := 4) (k := 2) (N := 6) (C := RX4) (T := TX4) (own := RX4) (ref := "LoaderModels$Loading") hx hb hts (fun _ h => (List.mem_cons_of_mem _ (List.mem_append_left _ (List.mem_append_left _ (List.mem_append_left _ (List.mem_append_left _ (List.mem_append_right _ h))))))) hown hK hW rfl (L_t _ rfl) rfl rfl rfl (by decide) (hts (.fieldLink RX4 20 "LoaderModels$Loading" "classes" "[LLoaderModels$Model;") (List.mem_cons_of_mem _ (List.mem_append_left _ (List.mem_append_left _ (List.mem_append_left _ (List.mem_append_left _ (List.mem_append_left _ (List.mem_append_left _ (List.mem_of_getElem? (i := 8) rfl))))))))) (fun _ h9 => h9) dX4_finish_69 (v := lh_r ad14 17 (gvR S22 4 t 2)) rfl ?_
      refine lh_aload_n hx hb dX4_finish_72 rfl (lv_at hl 1 rfl) ?_
      refine lv_dup hx hb dX4_finish_73 lh_cat_r ?_
      refine lh_get (a := 4) (k := 3) (N := 6) (C := RX4) (T := TX4) (own := RX4) (ref := "LoaderModels$Loading") hx hb hts (fun _ h => (List.mem_cons_of_mem _ (List.mem_append_left _ (List.mem_append_left _ (List.mem_append_left _ (List.mem_append_left _ (List.mem_append_right _ h))))))) hown hK hW rfl (L_t _ rfl) rfl rfl rfl (by decide) (hts (.fieldLink RX4 34 "LoaderModels$Loading" "classCount" "I") (List.mem_cons_of_mem _ (List.mem_append_left _ (List.mem_append_left _ (List.mem_append_left _ (List.mem_append_left _ (List.mem_append_left _ (List.mem_append_left _ (List.mem_of_getElem? (i := 3) rfl))))))))) (fun _ h9 => h9) dX4_finish_74 (v := .int (gvI S22 4 t 3)) rfl ?_
      refine lv_dup_x1 hx hb dX4_finish_77 rfl lh_cat_r ?_
      refine lv_iconst (v := 1) hx hb dX4_finish_78 (by decide) ?_
      refine lv_iadd hx hb dX4_finish_79 ?_
      refine lv_topi (fun v26 hv26 => ?_)
      replace hf := dc_let_e hv26 hf
      obtain ⟨S27, eS27, hf⟩ := dc_let_ok hf
      refine lh_put (S' := S27) (a := 4) (k := 3) (N := 6) (C := RX4) (T := TX4) (own := RX4) (ref := "LoaderModels$Loading") (ty := .int) hx hb hts (fun _ h => (List.mem_cons_of_mem _ (List.mem_append_left _ (List.mem_append_left _ (List.mem_append_left _ (List.mem_append_left _ (List.mem_append_right _ h))))))) tyX4 tyX4_ok nmX4 hown hK hW hS rfl (L_t _ rfl) rfl rfl rfl (by decide) (hts (.fieldLink RX4 34 "LoaderModels$Loading" "classCount" "I") (List.mem_cons_of_mem _ (List.mem_append_left _ (List.mem_append_left _ (List.mem_append_left _ (List.mem_append_left _ (List.mem_append_left _ (List.mem_append_left _ (List.mem_of_getElem? (i := 3) rfl))))))))) (fun _ h9 => h9) (Or.inl rfl) (by decide +kernel) rfl rfl (fun q9 => by rw [eS27]; exact lh_chI rfl q9) dX4_finish_80 (fun H locs hW hS => ?_)
      have m28 : ∀ b, gvN S22 b ≤ gvN S27 b := by rw [eS27]; exact lh_mI
      have L17 : ∀ j, some (gvN S7 5) = some j → j < gvN S27 5 := fun j h => Nat.lt_of_lt_of_le (L17 j h) (m28 _)
      have L_t : ∀ j, some t = some j → j < gvN S27 4 := fun j h => Nat.lt_of_lt_of_le (L_t j h) (m28 _)
      have L_p1 : ∀ j, p1 = some j → j < gvN S27 8 := fun j h => Nat.lt_of_lt_of_le (L_p1 j h) (m28 _)
      have L_p2 : ∀ j, p2 = some j → j < gvN S27 5 := fun j h => Nat.lt_of_lt_of_le (L_p2 j h) (m28 _)
      have L25 : ∀ j, gvR S22 4 t 2 = some j → j < gvN S27 17 := fun j h => Nat.lt_of_lt_of_le (L25 j h) (m28 _)
      have hm : ∀ b, gvN S b ≤ gvN S27 b := lh_le_trans hm m28
      have ok := lh_W_ok hW
      refine lh_aload_n hx hb dX4_finish_83 rfl (lv_at hl 0 rfl) ?_
      obtain ⟨x29, hx29, hf⟩ := dc_nn_ok hf
      obtain ⟨g30, hf⟩ := dc_gd_ok hf
      obtain ⟨S31, eS31, hf⟩ := dc_let_ok hf
      refine lh_ast_r (a := 17) (t0 := 6) (t := 5) hx hb hK hW hS hx29 (L25 _ hx29) rfl rfl (fun _ => rfl) rfl rfl L17 g30 dX4_finish_84 (fun H locs hW hS => ?_)
      rw [← eS31] at hW
      have m32 : ∀ b, gvN S27 b ≤ gvN S31 b := by rw [eS31]; exact lh_mR
      have L17 : ∀ j, some (gvN S7 5) = some j → j < gvN S31 5 := fun j h => Nat.lt_of_lt_of_le (L17 j h) (m32 _)
      have L_t : ∀ j, some t = some j → j < gvN S31 4 := fun j h => Nat.lt_of_lt_of_le (L_t j h) (m32 _)
      have L_p1 : ∀ j, p1 = some j → j < gvN S31 8 := fun j h => Nat.lt_of_lt_of_le (L_p1 j h) (m32 _)
      have L_p2 : ∀ j, p2 = some j → j < gvN S31 5 := fun j h => Nat.lt_of_lt_of_le (L_p2 j h) (m32 _)
      have hm : ∀ b, gvN S b ≤ gvN S31 b := lh_le_trans hm m32
      have ok := lh_W_ok hW
      refine lh_aload_n hx hb dX4_finish_85 rfl (lv_at hl 2 rfl) ?_
      have L33 : ∀ j, gvR S31 8 x2 0 = some j → j < gvN S31 2 := fun j h => ok _ _ _ _ j (L_p1 _ hx2) rfl h
      refine lh_get (a := 8) (k := 0) (N := 4) (C := RX8) (T := TX8) (own := RX4) (ref := "LoaderModels$Step") hx hb hts (fun _ h => (List.mem_cons_of_mem _ (List.mem_append_left _ (List.mem_append_left _ (List.mem_append_left _ (List.mem_append_right _ h)))))) hown hK hW hx2 (L_p1 _ hx2) rfl rfl rfl (by decide) (hts (.fieldLink RX4 86 "LoaderModels$Step" "loader" "LLoaderModels$Loader;") (List.mem_cons_of_mem _ (List.mem_append_left _ (List.mem_append_left _ (List.mem_append_left _ (List.mem_append_left _ (List.mem_append_left _ (List.mem_append_left _ (List.mem_of_getElem? (i := 1) rfl))))))))) (fun _ h9 => h9) dX4_finish_86 (v := lh_r ad14 2 (gvR S31 8 x2 0)) rfl ?_
      obtain ⟨x34, hx34, hf⟩ := dc_nn_ok hf
      have L35 : ∀ j, gvR S31 2 x34 4 = some j → j < gvN S31 13 := fun j h => ok _ _ _ _ j (L33 _ hx34) rfl h
      refine lh_get (a := 2) (k := 4) (N := 7) (C := RX2) (T := TX2) (own := RX4) (ref := "LoaderModels$Loader") hx hb hts (fun _ h => (List.mem_cons_of_mem _ (List.mem_append_left _ (List.mem_append_right _ h)))) hown hK hW hx34 (L33 _ hx34) rfl rfl rfl (by decide) (hts (.fieldLink RX4 104 "LoaderModels$Loader" "knows" "[LLoaderModels$Model;") (List.mem_cons_of_mem _ (List.mem_append_left _ (List.mem_append_left _ (List.mem_append_left _ (List.mem_append_left _ (List.mem_append_left _ (List.mem_append_left _ (List.mem_of_getElem? (i := 9) rfl))))))))) (fun _ h9 => h9) dX4_finish_89 (v := lh_r ad14 13 (gvR S31 2 x34 4)) rfl ?_
      refine lh_aload_n hx hb dX4_finish_92 rfl (lv_at hl 2 rfl) ?_
      refine lh_get (a := 8) (k := 1) (N := 4) (C := RX8) (T := TX8) (own := RX4) (ref := "LoaderModels$Step") hx hb hts (fun _ h => (List.mem_cons_of_mem _ (List.mem_append_left _ (List.mem_append_left _ (List.mem_append_left _ (List.mem_append_right _ h)))))) hown hK hW hx2 (L_p1 _ hx2) rfl rfl rfl (by decide) (hts (.fieldLink RX4 90 "LoaderModels$Step" "name" "I") (List.mem_cons_of_mem _ (List.mem_append_left _ (List.mem_append_left _ (List.mem_append_left _ (List.mem_append_left _ (List.mem_append_left _ (List.mem_append_left _ (List.mem_of_getElem? (i := 2) rfl))))))))) (fun _ h9 => h9) dX4_finish_93 (v := .int (gvI S31 8 x2 1)) rfl ?_
      refine lh_aload_n hx hb dX4_finish_96 rfl (lv_at hl 0 rfl) ?_
      obtain ⟨x36, hx36, hf⟩ := dc_nn_ok hf
      obtain ⟨g37, hf⟩ := dc_gd_ok hf
      obtain ⟨S38, eS38, hf⟩ := dc_let_ok hf
      refine lh_ast_r (a := 13) (t0 := 6) (t := 5) hx hb hK hW hS hx36 (L35 _ hx36) rfl rfl (fun _ => rfl) rfl rfl L17 g37 dX4_finish_97 (fun H locs hW hS => ?_)
      rw [← eS38] at hW
      have m39 : ∀ b, gvN S31 b ≤ gvN S38 b := by rw [eS38]; exact lh_mR
      have L17 : ∀ j, some (gvN S7 5) = some j → j < gvN S38 5 := fun j h => Nat.lt_of_lt_of_le (L17 j h) (m39 _)
      have L_t : ∀ j, some t = some j → j < gvN S38 4 := fun j h => Nat.lt_of_lt_of_le (L_t j h) (m39 _)
      have L_p1 : ∀ j, p1 = some j → j < gvN S38 8 := fun j h => Nat.lt_of_lt_of_le (L_p1 j h) (m39 _)
      have L_p2 : ∀ j, p2 = some j → j < gvN S38 5 := fun j h => Nat.lt_of_lt_of_le (L_p2 j h) (m39 _)
      have hm : ∀ b, gvN S b ≤ gvN S38 b := lh_le_trans hm m39
      have ok := lh_W_ok hW
      refine lh_aload_n hx hb dX4_finish_98 rfl (lv_at hl 1 rfl) ?_
      refine lh_aload_n hx hb dX4_finish_99 rfl (lv_at hl 0 rfl) ?_
      refine lh_get (a := 5) (k := 0) (N := 6) (C := RX5) (T := TX5) (own := RX4) (ref := "LoaderModels$Model") hx hb hts (fun _ h => (List.mem_cons_of_mem _ (List.mem_append_left _ (List.mem_append_left _ (List.mem_append_right _ h))))) hown hK hW rfl (L17 _ rfl) rfl rfl rfl (by decide) (hts (.fieldLink RX4 107 "LoaderModels$Model" "number" "I") (List.mem_cons_of_mem _ (List.mem_append_left _ (List.mem_append_left _ (List.mem_append_left _ (List.mem_append_left _ (List.mem_append_left _ (List.mem_append_left _ (List.mem_of_getElem? (i := 10) rfl))))))))) (fun _ h9 => h9) dX4_finish_100 (v := .int (gvI S38 5 (gvN S7 5) 0)) rfl ?_
      obtain ⟨r40, S41, k42, hf⟩ := dc_bd_ok hf
      refine lh_call (S' := S41) (lh_rv ⟨hx, hb, hml, hown, hts⟩ rfl (As := [.int (gvI S38 5 (gvN S7 5) 0)]) (rest := []) (k := 4) (c_X4_end l D cT n S38 ad14 A H.size (fun q9 h9 => hA q9 (Nat.le_trans hS.1 h9)) t (gvI S38 5 (gvN S7 5) 0) r40 S41 k42 L_t) (cwV 1 hts gX4_finish_X4_end rfl rfl rfl (by decide +kernel) ⟨Nat.le_of_ble_eq_true rfl, Nat.le_of_ble_eq_true rfl⟩) hK hN hW (L_t _ rfl) rfl rfl rfl hl.1 rfl (by simp [lh_cat_r, lh_cat_i, lh_cat_j]) dX4_finish_103 ⟨hc9, hs9⟩) hS (fun H locs hX hW hS => ?_)
      refine W.widen (k := 0 + 1) (n := 0 + 6) (by omega) (by omega) ?_
      show W _ _ _ _ _ _ _ _ _ _ _ _ _ _ _ (F0 m 106 ls [.int r40])
      have m43 : ∀ b, gvN S38 b ≤ gvN S41 b := hX.1
      have L17 : ∀ j, some (gvN S7 5) = some j → j < gvN S41 5 := fun j h => Nat.lt_of_lt_of_le (L17 j h) (m43 _)
      have L_t : ∀ j, some t = some j → j < gvN S41 4 := fun j h => Nat.lt_of_lt_of_le (L_t j h) (m43 _)
      have L_p1 : ∀ j, p1 = some j → j < gvN S41 8 := fun j h => Nat.lt_of_lt_of_le (L_p1 j h) (m43 _)
      have L_p2 : ∀ j, p2 = some j → j < gvN S41 5 := fun j h => Nat.lt_of_lt_of_le (L_p2 j h) (m43 _)
      have hm : ∀ b, gvN S b ≤ gvN S41 b := lh_le_trans hm m43
      have ok := lh_W_ok hW
      obtain ⟨rfl, rfl⟩ := dc_ret hf
      refine W.widen (k := mc) (n := ms) hc9 hs9 ?_
      exact W.iret (v := r40) hx hb hr (fun t9 ht9 hW9 => ⟨⟨ad14, hE, rfl, ⟨hm, trivial⟩, by rw [ht9]; exact hW⟩, hS.F ht9⟩) hS.2.2 dX4_finish_106
    · replace hf := dc_if_f c12 hf
      refine lh_aload_n hx hb dX4_finish_37 rfl (lv_at hl 0 rfl) ?_
      refine lv_bipush (v := 12) hx hb dX4_finish_38 (by decide) ?_
      obtain ⟨r44, S45, k46, hf⟩ := dc_bd_ok hf
      refine lh_call (S' := S45) (lh_rsn ⟨hx, hb, hml, hown, hts⟩ (As := [.int (12 : Int32)]) (rest := [lh_r ad 4 (some t)]) (c_X9_failed l D cT n S7 ad A H.size (fun q9 h9 => hA q9 (Nat.le_trans hS.1 h9)) (12 : Int32) r44 S45 k46 ) ⟨va_cnB 1 hts gX4_finish_X9_failed_n81 rfl rfl rfl hN.2.2.1 (hts (.initialized RX9) (List.mem_cons_of_mem _ (List.mem_append_left _ (List.mem_append_left _ (List.mem_append_left _ (List.mem_append_left _ (List.mem_append_left _ (List.mem_append_right _ (List.mem_of_getElem? (i := 1) rfl))))))))) (by decide +kernel) ⟨Nat.le_of_ble_eq_true rfl, Nat.le_of_ble_eq_true rfl⟩, (hts (.static yX9_failed) (List.mem_cons_of_mem _ (List.mem_append_left _ (List.mem_append_left _ (List.mem_append_left _ (List.mem_append_left _ (List.mem_append_left _ (List.mem_append_right _ (List.mem_of_getElem? (i := 0) rfl))))))))), trivial⟩ hK hN hW rfl hl.1 rfl (by simp [lh_cat_r, lh_cat_i, lh_cat_j]) dX4_finish_40 ⟨Nat.zero_le _, Nat.zero_le _⟩) hS (fun H locs hX hW hS => ?_)
      refine W.widen (k := 0) (n := 0) (by omega) (by omega) ?_
      show W _ _ _ _ _ _ _ _ _ _ _ _ _ _ _ (F0 m 43 ls [.int r44, lh_r ad 4 (some t)])
      have m47 : ∀ b, gvN S7 b ≤ gvN S45 b := hX.1
      have L_t : ∀ j, some t = some j → j < gvN S45 4 := fun j h => Nat.lt_of_lt_of_le (L_t j h) (m47 _)
      have L_p1 : ∀ j, p1 = some j → j < gvN S45 8 := fun j h => Nat.lt_of_lt_of_le (L_p1 j h) (m47 _)
      have L_p2 : ∀ j, p2 = some j → j < gvN S45 5 := fun j h => Nat.lt_of_lt_of_le (L_p2 j h) (m47 _)
      have hm : ∀ b, gvN S b ≤ gvN S45 b := lh_le_trans hm m47
      have ok := lh_W_ok hW
      obtain ⟨r48, S49, k50, hf⟩ := dc_bd_ok hf
      refine lh_call (S' := S49) (lh_rv ⟨hx, hb, hml, hown, hts⟩ rfl (As := [.int r44]) (rest := []) (k := 4) (c_X4_end l D cT n S45 ad A H.size (fun q9 h9 => hA q9 (Nat.le_trans hS.1 h9)) t r44 r48 S49 k50 L_t) (cwV 1 hts gX4_finish_X4_end rfl rfl rfl (by decide +kernel) ⟨Nat.le_of_ble_eq_true rfl, Nat.le_of_ble_eq_true rfl⟩) hK hN hW (L_t _ rfl) rfl rfl rfl hl.1 rfl (by simp [lh_cat_r, lh_cat_i, lh_cat_j]) dX4_finish_43 ⟨Nat.zero_le _, Nat.zero_le _⟩) hS (fun H locs hX hW hS => ?_)
      refine W.widen (k := 0) (n := 0) (by omega) (by omega) ?_
      show W _ _ _ _ _ _ _ _ _ _ _ _ _ _ _ (F0 m 46 ls [.int r48])
      have m51 : ∀ b, gvN S45 b ≤ gvN S49 b := hX.1
      have L_t : ∀ j, some t = some j → j < gvN S49 4 := fun j h => Nat.lt_of_lt_of_le (L_t j h) (m51 _)
      have L_p1 : ∀ j, p1 = some j → j < gvN S49 8 := fun j h => Nat.lt_of_lt_of_le (L_p1 j h) (m51 _)
      have L_p2 : ∀ j, p2 = some j → j < gvN S49 5 := fun j h => Nat.lt_of_lt_of_le (L_p2 j h) (m51 _)
      have hm : ∀ b, gvN S b ≤ gvN S49 b := lh_le_trans hm m51
      have ok := lh_W_ok hW
      obtain ⟨rfl, rfl⟩ := dc_ret hf
      refine W.widen (k := mc) (n := ms) (Nat.zero_le _) (Nat.zero_le _) ?_
      exact W.iret (v := r48) hx hb hr (fun t9 ht9 hW9 => ⟨⟨ad, hE, rfl, ⟨hm, trivial⟩, by rw [ht9]; exact hW⟩, hS.F ht9⟩) hS.2.2 dX4_finish_46
  · replace hf := dc_if_f c11 hf
    refine lh_aload_n hx hb dX4_finish_19 rfl (lv_at hl 0 rfl) ?_
    refine lv_iconst (v := 3) hx hb dX4_finish_20 (by decide) ?_
    obtain ⟨r52, S53, k54, hf⟩ := dc_bd_ok hf
    refine lh_call (S' := S53) (lh_rsn ⟨hx, hb, hml, hown, hts⟩ (As := [.int (3 : Int32)]) (rest := [lh_r ad 4 (some t)]) (c_X9_failed l D cT n S7 ad A H.size (fun q9 h9 => hA q9 (Nat.le_trans hS.1 h9)) (3 : Int32) r52 S53 k54 ) ⟨va_cnB 1 hts gX4_finish_X9_failed_n81 rfl rfl rfl hN.2.2.1 (hts (.initialized RX9) (List.mem_cons_of_mem _ (List.mem_append_left _ (List.mem_append_left _ (List.mem_append_left _ (List.mem_append_left _ (List.mem_append_left _ (List.mem_append_right _ (List.mem_of_getElem? (i := 1) rfl))))))))) (by decide +kernel) ⟨Nat.le_of_ble_eq_true rfl, Nat.le_of_ble_eq_true rfl⟩, (hts (.static yX9_failed) (List.mem_cons_of_mem _ (List.mem_append_left _ (List.mem_append_left _ (List.mem_append_left _ (List.mem_append_left _ (List.mem_append_left _ (List.mem_append_right _ (List.mem_of_getElem? (i := 0) rfl))))))))), trivial⟩ hK hN hW rfl hl.1 rfl (by simp [lh_cat_r, lh_cat_i, lh_cat_j]) dX4_finish_21 ⟨Nat.zero_le _, Nat.zero_le _⟩) hS (fun H locs hX hW hS => ?_)
    refine W.widen (k := 0) (n := 0) (by omega) (by omega) ?_
    show W _ _ _ _ _ _ _ _ _ _ _ _ _ _ _ (F0 m 24 ls [.int r52, lh_r ad 4 (some t)])
    have m55 : ∀ b, gvN S7 b ≤ gvN S53 b := hX.1
    have L_t : ∀ j, some t = some j → j < gvN S53 4 := fun j h => Nat.lt_of_lt_of_le (L_t j h) (m55 _)
    have L_p1 : ∀ j, p1 = some j → j < gvN S53 8 := fun j h => Nat.lt_of_lt_of_le (L_p1 j h) (m55 _)
    have L_p2 : ∀ j, p2 = some j → j < gvN S53 5 := fun j h => Nat.lt_of_lt_of_le (L_p2 j h) (m55 _)
    have hm : ∀ b, gvN S b ≤ gvN S53 b := lh_le_trans hm m55
    have ok := lh_W_ok hW
    obtain ⟨r56, S57, k58, hf⟩ := dc_bd_ok hf
    refine lh_call (S' := S57) (lh_rv ⟨hx, hb, hml, hown, hts⟩ rfl (As := [.int r52]) (rest := []) (k := 4) (c_X4_end l D cT n S53 ad A H.size (fun q9 h9 => hA q9 (Nat.le_trans hS.1 h9)) t r52 r56 S57 k58 L_t) (cwV 1 hts gX4_finish_X4_end rfl rfl rfl (by decide +kernel) ⟨Nat.le_of_ble_eq_true rfl, Nat.le_of_ble_eq_true rfl⟩) hK hN hW (L_t _ rfl) rfl rfl rfl hl.1 rfl (by simp [lh_cat_r, lh_cat_i, lh_cat_j]) dX4_finish_24 ⟨Nat.zero_le _, Nat.zero_le _⟩) hS (fun H locs hX hW hS => ?_)
    refine W.widen (k := 0) (n := 0) (by omega) (by omega) ?_
    show W _ _ _ _ _ _ _ _ _ _ _ _ _ _ _ (F0 m 27 ls [.int r56])
    have m59 : ∀ b, gvN S53 b ≤ gvN S57 b := hX.1
    have L_t : ∀ j, some t = some j → j < gvN S57 4 := fun j h => Nat.lt_of_lt_of_le (L_t j h) (m59 _)
    have L_p1 : ∀ j, p1 = some j → j < gvN S57 8 := fun j h => Nat.lt_of_lt_of_le (L_p1 j h) (m59 _)
    have L_p2 : ∀ j, p2 = some j → j < gvN S57 5 := fun j h => Nat.lt_of_lt_of_le (L_p2 j h) (m59 _)
    have hm : ∀ b, gvN S b ≤ gvN S57 b := lh_le_trans hm m59
    have ok := lh_W_ok hW
    obtain ⟨rfl, rfl⟩ := dc_ret hf
    refine W.widen (k := mc) (n := ms) (Nat.zero_le _) (Nat.zero_le _) ?_
    exact W.iret (v := r56) hx hb hr (fun t9 ht9 hW9 => ⟨⟨ad, hE, rfl, ⟨hm, trivial⟩, by rw [ht9]; exact hW⟩, hS.F ht9⟩) hS.2.2 dX4_finish_27
def f_X4_beginToDefine (n : Nat) (S : lh_S) (t : Nat) (p1 : Option Nat) : Option (Int32 × lh_S) :=
  dc_nn p1 fun x1 =>
  dc_bd (f_X4_failureAtOnce n S t (gvR S 8 x1 0) (gvR S 8 x1 2)) fun r4 S5 =>
  dc_if (r4 = 0) (
  dc_if ((gvI S5 8 x1 1) = 0) (
  dc_bd (f_X4_finish n S5 t p1 (none : Option Nat)) fun r30 S31 =>
  some (r30, S31)) (
  dc_nn (gvR S5 8 x1 0) fun x11 =>
  dc_nn (gvR S5 2 x11 5) fun x13 =>
  dc_gd ((gvI S5 8 x1 1) < 0 ∨ gvL S5 14 x13 ≤ ((gvI S5 8 x1 1)).toNatClampNeg) (
  dc_let (pvI S5 14 x13 ((gvI S5 8 x1 1)).toNatClampNeg (vp_nar .boolean (1 : Int32))) fun S15 =>
  dc_let (pvI S15 8 x1 3 (6 : Int32)) fun S17 =>
  dc_nn (gvR S17 8 x1 2) fun x21 =>
  dc_bd (f_X4_open n S17 t (gvR S17 8 x1 0) (gvI S17 1 x21 3) (none : Option Nat) (0 : Int32)) fun r23 S24 =>
  some (r23, S24)))) (
  dc_bd (f_X9_failed n S5 r4) fun r36 S37 =>
  dc_bd (f_X4_end n S37 t r36) fun r40 S41 =>
  some (r40, S41))
set_option maxHeartbeats 1000000 in
theorem m_X4_beginToDefine {n : Nat} {S : lh_S} {t : Nat} {p1 : Option Nat} {r : Int32} {S' : lh_S} (hf : f_X4_beginToDefine n S t p1 = some (r, S')) : ∀ b, gvN S b ≤ gvN S' b := by
  have hm : ∀ b, gvN S b ≤ gvN S b := fun _ => Nat.le_refl _
  unfold f_X4_beginToDefine at hf
  obtain ⟨x1, hx1, hf⟩ := dc_nn_ok hf
  obtain ⟨r4, S5, k6, hf⟩ := dc_bd_ok hf
  have hm := lh_le_trans hm (show ∀ b, gvN S b ≤ gvN S5 b from m_X4_failureAtOnce k6)
  by_cases c8 : r4 = 0
  · replace hf := dc_if_t c8 hf
    by_cases c9 : (gvI S5 8 x1 1) = 0
    · replace hf := dc_if_t c9 hf
      obtain ⟨r30, S31, k32, hf⟩ := dc_bd_ok hf
      have hm := lh_le_trans hm (show ∀ b, gvN S5 b ≤ gvN S31 b from m_X4_finish k32)
      obtain ⟨_, rfl⟩ := dc_ret hf
      exact hm
    · replace hf := dc_if_f c9 hf
      obtain ⟨x11, hx11, hf⟩ := dc_nn_ok hf
      obtain ⟨x13, hx13, hf⟩ := dc_nn_ok hf
      obtain ⟨g14, hf⟩ := dc_gd_ok hf
      obtain ⟨S15, eS15, hf⟩ := dc_let_ok hf
      have hm := lh_le_trans hm (show ∀ b, gvN S5 b ≤ gvN S15 b from by rw [eS15]; exact lh_mI)
      obtain ⟨S17, eS17, hf⟩ := dc_let_ok hf
      have hm := lh_le_trans hm (show ∀ b, gvN S15 b ≤ gvN S17 b from by rw [eS17]; exact lh_mI)
      obtain ⟨x21, hx21, hf⟩ := dc_nn_ok hf
      obtain ⟨r23, S24, k25, hf⟩ := dc_bd_ok hf
      have hm := lh_le_trans hm (show ∀ b, gvN S17 b ≤ gvN S24 b from m_X4_open k25)
      obtain ⟨_, rfl⟩ := dc_ret hf
      exact hm
  · replace hf := dc_if_f c8 hf
    obtain ⟨r36, S37, k38, hf⟩ := dc_bd_ok hf
    have hm := lh_le_trans hm (show ∀ b, gvN S5 b ≤ gvN S37 b from m_X9_failed k38)
    obtain ⟨r40, S41, k42, hf⟩ := dc_bd_ok hf
    have hm := lh_le_trans hm (show ∀ b, gvN S37 b ≤ gvN S41 b from m_X4_end k42)
    obtain ⟨_, rfl⟩ := dc_ret hf
    exact hm
set_option maxHeartbeats 1000000 in
theorem k_X4_beginToDefine {n : Nat} {S : lh_S} {t : Nat} {p1 : Option Nat} {r : Int32} {S' : lh_S} (hf : f_X4_beginToDefine n S t p1 = some (r, S')) : lh_sm9 S S' := by
  have hm : lh_sm9 S S := lh_sm9_rf
  unfold f_X4_beginToDefine at hf
  obtain ⟨x1, hx1, hf⟩ := dc_nn_ok hf
  obtain ⟨r4, S5, k6, hf⟩ := dc_bd_ok hf
  have hm := lh_sm9_trans hm (show lh_sm9 S S5 from k_X4_failureAtOnce k6)
  by_cases c8 : r4 = 0
  · replace hf := dc_if_t c8 hf
    by_cases c9 : (gvI S5 8 x1 1) = 0
    · replace hf := dc_if_t c9 hf
      obtain ⟨r30, S31, k32, hf⟩ := dc_bd_ok hf
      have hm := lh_sm9_trans hm (show lh_sm9 S5 S31 from k_X4_finish k32)
      obtain ⟨_, rfl⟩ := dc_ret hf
      exact hm
    · replace hf := dc_if_f c9 hf
      obtain ⟨x11, hx11, hf⟩ := dc_nn_ok hf
      obtain ⟨x13, hx13, hf⟩ := dc_nn_ok hf
      obtain ⟨g14, hf⟩ := dc_gd_ok hf
      obtain ⟨S15, eS15, hf⟩ := dc_let_ok hf
      have hm := lh_sm9_trans hm (show lh_sm9 S5 S15 from by rw [eS15]; exact (lh_sm9I (by decide)))
      obtain ⟨S17, eS17, hf⟩ := dc_let_ok hf
      have hm := lh_sm9_trans hm (show lh_sm9 S15 S17 from by rw [eS17]; exact (lh_sm9I (by decide)))
      obtain ⟨x21, hx21, hf⟩ := dc_nn_ok hf
      obtain ⟨r23, S24, k25, hf⟩ := dc_bd_ok hf
      have hm := lh_sm9_trans hm (show lh_sm9 S17 S24 from k_X4_open k25)
      obtain ⟨_, rfl⟩ := dc_ret hf
      exact hm
  · replace hf := dc_if_f c8 hf
    obtain ⟨r36, S37, k38, hf⟩ := dc_bd_ok hf
    have hm := lh_sm9_trans hm (show lh_sm9 S5 S37 from k_X9_failed k38)
    obtain ⟨r40, S41, k42, hf⟩ := dc_bd_ok hf
    have hm := lh_sm9_trans hm (show lh_sm9 S37 S41 from k_X4_end k42)
    obtain ⟨_, rfl⟩ := dc_ret hf
    exact hm
set_option maxHeartbeats 4000000 in
set_option maxRecDepth 100000 in
theorem c_X4_beginToDefine (l : Launch) (D : va_G) (cT : Nat → ClassId) (n : Nat) (S : lh_S) (ad : Nat → Nat → Nat) (A : Nat → Prop) (sz : Nat) (hA : ∀ q, sz ≤ q → A q) (t : Nat) (p1 : Option Nat) (r : Int32) (S' : lh_S) (hf : f_X4_beginToDefine n S t p1 = some (r, S')) (L_t : ∀ j, some t = some j → j < gvN S 4) (L_p1 : ∀ j, p1 = some j → j < gvN S 8) (mc ms : Nat) (hmc : gvN S' 8 + gvN S' 5 ≤ gvN S 8 + gvN S 5 + mc) (hms : 4 * gvN S' 8 + 6 * gvN S' 5 ≤ 4 * gvN S 8 + 6 * gvN S 5 + ms) : Met l yX4_beginToDefine wsX4_beginToDefine ({ frames := 3, cells := mc, slots := ms, locals := 71 } : Room) (lh_P D cT S ad A sz [lh_r ad 4 (some t), lh_r ad 8 p1]) (lh_QA D cT S S' ad A ((∀ b, gvN S b ≤ gvN S' b) ∧ True) (fun ad9 => some (.int r))) mc ms A := by
  refine Met.ofW (cc := cX4_beginToDefine) (maxL := 3) (ret := (some .int)) (by decide) rfl ?_
  intro p e s m args below meth c s₁ B hml hv
  obtain ⟨hargs, hsz, hW, hK, hN⟩ := hv
  have hx := B.exec
  have hb := B.bytes
  have hr := B.returns
  have hts := atoms_spec (ws := wsX4_beginToDefine) B.pre
  have hown : s.vm.findClass RX4 = some m.cls := findClass_of_methodNamed B.named
  have hlocks := B.notSynchronized
  have hA : ∀ q, s.heap.size ≤ q → A q := fun q h => hA q (by rw [← hsz]; exact h)
  have ok := lh_W_ok hW
  have hm : ∀ b, gvN S b ≤ gvN S b := fun _ => Nat.le_refl _
  have hE : lh_E S ad ad := lh_E.rf
  obtain ⟨ls, hent, hl⟩ := lh_entry m args [lh_r ad 4 (some t), lh_r ad 8 p1] 3 [(0, lh_r ad 4 (some t)), (1, lh_r ad 8 p1)] hargs (by simp [lv_args, lh_cat_r, lh_cat_i, lh_cat_j]) (by simp [lg_sl, lh_cat_r, lh_cat_i, lh_cat_j])
  rw [hent]
  generalize hH : s.heap = H at hW ⊢
  have hS : va_S A s.heap H [] := by rw [← hH]; exact va_S.rf
  unfold f_X4_beginToDefine at hf
  refine lh_aload_n hx hb dX4_beginToDefine_0 rfl (lv_at hl 0 rfl) ?_
  refine lh_aload_n hx hb dX4_beginToDefine_1 rfl (lv_at hl 1 rfl) ?_
  obtain ⟨x1, hx1, hf⟩ := dc_nn_ok hf
  have L2 : ∀ j, gvR S 8 x1 0 = some j → j < gvN S 2 := fun j h => ok _ _ _ _ j (L_p1 _ hx1) rfl h
  refine lh_get (a := 8) (k := 0) (N := 4) (C := RX8) (T := TX8) (own := RX4) (ref := "LoaderModels$Step") hx hb hts (fun _ h => (List.mem_cons_of_mem _ (List.mem_append_left _ (List.mem_append_left _ (List.mem_append_left _ (List.mem_append_left _ (List.mem_append_left _ (List.mem_append_right _ h)))))))) hown hK hW hx1 (L_p1 _ hx1) rfl rfl rfl (by decide) (hts (.fieldLink RX4 86 "LoaderModels$Step" "loader" "LLoaderModels$Loader;") (List.mem_cons_of_mem _ (List.mem_append_left _ (List.mem_append_left _ (List.mem_append_left _ (List.mem_append_left _ (List.mem_append_left _ (List.mem_append_left _ (List.mem_append_left _ (List.mem_of_getElem? (i := 0) rfl)))))))))) (fun _ h9 => h9) dX4_beginToDefine_2 (v := lh_r ad 2 (gvR S 8 x1 0)) rfl ?_
  refine lh_aload_n hx hb dX4_beginToDefine_5 rfl (lv_at hl 1 rfl) ?_
  have L3 : ∀ j, gvR S 8 x1 2 = some j → j < gvN S 1 := fun j h => ok _ _ _ _ j (L_p1 _ hx1) rfl h
  refine lh_get (a := 8) (k := 2) (N := 4) (C := RX8) (T := TX8) (own := RX4) (ref := "LoaderModels$Step") hx hb hts (fun _ h => (List.mem_cons_of_mem _ (List.mem_append_left _ (List.mem_append_left _ (List.mem_append_left _ (List.mem_append_left _ (List.mem_append_left _ (List.mem_append_right _ h)))))))) hown hK hW hx1 (L_p1 _ hx1) rfl rfl rfl (by decide) (hts (.fieldLink RX4 91 "LoaderModels$Step" "file" "LLoaderModels$ClassFile;") (List.mem_cons_of_mem _ (List.mem_append_left _ (List.mem_append_left _ (List.mem_append_left _ (List.mem_append_left _ (List.mem_append_left _ (List.mem_append_left _ (List.mem_append_left _ (List.mem_of_getElem? (i := 1) rfl)))))))))) (fun _ h9 => h9) dX4_beginToDefine_6 (v := lh_r ad 1 (gvR S 8 x1 2)) rfl ?_
  obtain ⟨r4, S5, k6, hf⟩ := dc_bd_ok hf
  refine lh_call (S' := S5) (lh_rv ⟨hx, hb, hml, hown, hts⟩ rfl (As := [lh_r ad 2 (gvR S 8 x1 0), lh_r ad 1 (gvR S 8 x1 2)]) (rest := []) (k := 4) (c_X4_failureAtOnce l D cT n S ad A H.size (fun q9 h9 => hA q9 (Nat.le_trans hS.1 h9)) t (gvR S 8 x1 0) (gvR S 8 x1 2) r4 S5 k6 L_t L2 L3) (cwV 2 hts gX4_beginToDefine_X4_failureAtOnce rfl rfl rfl (by decide +kernel) ⟨Nat.le_of_ble_eq_true rfl, Nat.le_of_ble_eq_true rfl⟩) hK hN hW (L_t _ rfl) rfl rfl rfl hl.1 rfl (by simp [lh_cat_r, lh_cat_i, lh_cat_j]) dX4_beginToDefine_9 ⟨Nat.zero_le _, Nat.zero_le _⟩) hS (fun H locs hX hW hS => ?_)
  refine W.widen (k := 0) (n := 0) (by omega) (by omega) ?_
  show W _ _ _ _ _ _ _ _ _ _ _ _ _ _ _ (F0 m 12 ls [.int r4])
  have m7 : ∀ b, gvN S b ≤ gvN S5 b := hX.1
  have L_t : ∀ j, some t = some j → j < gvN S5 4 := fun j h => Nat.lt_of_lt_of_le (L_t j h) (m7 _)
  have L_p1 : ∀ j, p1 = some j → j < gvN S5 8 := fun j h => Nat.lt_of_lt_of_le (L_p1 j h) (m7 _)
  have hm : ∀ b, gvN S b ≤ gvN S5 b := lh_le_trans hm m7
  have ok := lh_W_ok hW
  refine lv_istore_n (i := 2) (lv' := [(2, .int r4), (0, lh_r ad 4 (some t)), (1, lh_r ad 8 p1)]) hx hb dX4_beginToDefine_12 rfl hl (by decide) (by first | rfl | simp [lh_cat_r, lh_cat_i, lh_cat_j]) (fun ls hl => ?_)
  refine lv_iload_n hx hb dX4_beginToDefine_13 rfl (lv_at hl 0 rfl) ?_
  refine lv_if_eq (tgt := 26) hx hb dX4_beginToDefine_14 (by decide) (fun c8 => ?_) (fun c8 => ?_)
  · replace hf := dc_if_t c8 hf
    refine lh_aload_n hx hb dX4_beginToDefine_26 rfl (lv_at hl 2 rfl) ?_
    refine lh_get (a := 8) (k := 1) (N := 4) (C := RX8) (T := TX8) (own := RX4) (ref := "LoaderModels$Step") hx hb hts (fun _ h => (List.mem_cons_of_mem _ (List.mem_append_left _ (List.mem_append_left _ (List.mem_append_left _ (List.mem_append_left _ (List.mem_append_left _ (List.mem_append_right _ h)))))))) hown hK hW hx1 (L_p1 _ hx1) rfl rfl rfl (by decide) (hts (.fieldLink RX4 90 "LoaderModels$Step" "name" "I") (List.mem_cons_of_mem _ (List.mem_append_left _ (List.mem_append_left _ (List.mem_append_left _ (List.mem_append_left _ (List.mem_append_left _ (List.mem_append_left _ (List.mem_append_left _ (List.mem_of_getElem? (i := 2) rfl)))))))))) (fun _ h9 => h9) dX4_beginToDefine_27 (v := .int (gvI S5 8 x1 1)) rfl ?_
    refine lv_if_ne (tgt := 40) hx hb dX4_beginToDefine_30 (by decide) (fun c9 => ?_) (fun c9 => ?_)
    · replace hf := dc_if_f c9 hf
      refine lh_aload_n hx hb dX4_beginToDefine_40 rfl (lv_at hl 2 rfl) ?_
      have L10 : ∀ j, gvR S5 8 x1 0 = some j → j < gvN S5 2 := fun j h => ok _ _ _ _ j (L_p1 _ hx1) rfl h
      refine lh_get (a := 8) (k := 0) (N := 4) (C := RX8) (T := TX8) (own := RX4) (ref := "LoaderModels$Step") hx hb hts (fun _ h => (List.mem_cons_of_mem _ (List.mem_append_left _ (List.mem_append_left _ (List.mem_append_left _ (List.mem_append_left _ (List.mem_append_left _ (List.mem_append_right _ h)))))))) hown hK hW hx1 (L_p1 _ hx1) rfl rfl rfl (by decide) (hts (.fieldLink RX4 86 "LoaderModels$Step" "loader" "LLoaderModels$Loader;") (List.mem_cons_of_mem _ (List.mem_append_left _ (List.mem_append_left _ (List.mem_append_left _ (List.mem_append_left _ (List.mem_append_left _ (List.mem_append_left _ (List.mem_append_left _ (List.mem_of_getElem? (i := 0) rfl)))))))))) (fun _ h9 => h9) dX4_beginToDefine_41 (v := lh_r ad 2 (gvR S5 8 x1 0)) rfl ?_
      obtain ⟨x11, hx11, hf⟩ := dc_nn_ok hf
      have L12 : ∀ j, gvR S5 2 x11 5 = some j → j < gvN S5 14 := fun j h => ok _ _ _ _ j (L10 _ hx11) rfl h
      refine lh_get (a := 2) (k := 5) (N := 7) (C := RX2) (T := TX2) (own := RX4) (ref := "LoaderModels$Loader") hx hb hts (fun _ h => (List.mem_cons_of_mem _ (List.mem_append_left _ (List.mem_append_left _ (List.mem_append_left _ (List.mem_append_left _ (List.mem_append_right _ h))))))) hown hK hW hx11 (L10 _ hx11) rfl rfl rfl (by decide) (hts (.fieldLink RX4 111 "LoaderModels$Loader" "defining" "[Z") (List.mem_cons_of_mem _ (List.mem_append_left _ (List.mem_append_left _ (List.mem_append_left _ (List.mem_append_left _ (List.mem_append_left _ (List.mem_append_left _ (List.mem_append_left _ (List.mem_of_getElem? (i := 3) rfl)))))))))) (fun _ h9 => h9) dX4_beginToDefine_44 (v := lh_r ad 14 (gvR S5 2 x11 5)) rfl ?_
      refine lh_aload_n hx hb dX4_beginToDefine_47 rfl (lv_at hl 2 rfl) ?_
      refine lh_get (a := 8) (k := 1) (N := 4) (C := RX8) (T := TX8) (own := RX4) (ref := "LoaderModels$Step") hx hb hts (fun _ h => (List.mem_cons_of_mem _ (List.mem_append_left _ (List.mem_append_left _ (List.mem_append_left _ (List.mem_append_left _ (List.mem_append_left _ (List.mem_append_right _ h)))))))) hown hK hW hx1 (L_p1 _ hx1) rfl rfl rfl (by decide) (hts (.fieldLink RX4 90 "LoaderModels$Step" "name" "I") (List.mem_cons_of_mem _ (List.mem_append_left _ (List.mem_append_left _ (List.mem_append_left _ (List.mem_append_left _ (List.mem_append_left _ (List.mem_append_left _ (List.mem_append_left _ (List.mem_of_getElem? (i := 2) rfl)))))))))) (fun _ h9 => h9) dX4_beginToDefine_48 (v := .int (gvI S5 8 x1 1)) rfl ?_
      refine lv_iconst (v := 1) hx hb dX4_beginToDefine_51 (by decide) ?_
      obtain ⟨x13, hx13, hf⟩ := dc_nn_ok hf
      obtain ⟨g14, hf⟩ := dc_gd_ok hf
      obtain ⟨S15, eS15, hf⟩ := dc_let_ok hf
      refine lh_ast_z (a := 14) hx hb hK hW hS hx13 (L12 _ hx13) rfl (fun _ => rfl) g14 dX4_beginToDefine_52 (fun H locs hW hS => ?_)
      rw [← eS15] at hW
      have m16 : ∀ b, gvN S5 b ≤ gvN S15 b := by rw [eS15]; exact lh_mI
      have L_t : ∀ j, some t = some j → j < gvN S15 4 := fun j h => Nat.lt_of_lt_of_le (L_t j h) (m16 _)
      have L_p1 : ∀ j, p1 = some j → j < gvN S15 8 := fun j h => Nat.lt_of_lt_of_le (L_p1 j h) (m16 _)
      have hm : ∀ b, gvN S b ≤ gvN S15 b := lh_le_trans hm m16
      have ok := lh_W_ok hW
      refine lh_aload_n hx hb dX4_beginToDefine_53 rfl (lv_at hl 2 rfl) ?_
      refine lv_bipush (v := 6) hx hb dX4_beginToDefine_54 (by decide) ?_
      obtain ⟨S17, eS17, hf⟩ := dc_let_ok hf
      refine lh_put (S' := S17) (a := 8) (k := 3) (N := 4) (C := RX8) (T := TX8) (own := RX4) (ref := "LoaderModels$Step") (ty := .int) hx hb hts (fun _ h => (List.mem_cons_of_mem _ (List.mem_append_left _ (List.mem_append_left _ (List.mem_append_left _ (List.mem_append_left _ (List.mem_append_left _ (List.mem_append_right _ h)))))))) tyX8 tyX8_ok nmX8 hown hK hW hS hx1 (L_p1 _ hx1) rfl rfl rfl (by decide) (hts (.fieldLink RX4 55 "LoaderModels$Step" "stage" "I") (List.mem_cons_of_mem _ (List.mem_append_left _ (List.mem_append_left _ (List.mem_append_left _ (List.mem_append_left _ (List.mem_append_left _ (List.mem_append_left _ (List.mem_append_left _ (List.mem_of_getElem? (i := 4) rfl)))))))))) (fun _ h9 => h9) (Or.inl rfl) (by decide +kernel) rfl rfl (fun q9 => by rw [eS17]; exact lh_chI rfl q9) dX4_beginToDefine_56 (fun H locs hW hS => ?_)
      have m18 : ∀ b, gvN S15 b ≤ gvN S17 b := by rw [eS17]; exact lh_mI
      have L_t : ∀ j, some t = some j → j < gvN S17 4 := fun j h => Nat.lt_of_lt_of_le (L_t j h) (m18 _)
      have L_p1 : ∀ j, p1 = some j → j < gvN S17 8 := fun j h => Nat.lt_of_lt_of_le (L_p1 j h) (m18 _)
      have hm : ∀ b, gvN S b ≤ gvN S17 b := lh_le_trans hm m18
      have ok := lh_W_ok hW
      refine lh_aload_n hx hb dX4_beginToDefine_59 rfl (lv_at hl 1 rfl) ?_
      refine lh_aload_n hx hb dX4_beginToDefine_60 rfl (lv_at hl 2 rfl) ?_
      have L19 : ∀ j, gvR S17 8 x1 0 = some j → j < gvN S17 2 := fun j h => ok _ _ _ _ j (L_p1 _ hx1) rfl h
      refine lh_get (a := 8) (k := 0) (N := 4) (C := RX8) (T := TX8) (own := RX4) (ref := "LoaderModels$Step") hx hb hts (fun _ h => (List.mem_cons_of_mem _ (List.mem_append_left _ (List.mem_append_left _ (List.mem_append_left _ (List.mem_append_left _ (List.mem_append_left _ (List.mem_append_right _ h)))))))) hown hK hW hx1 (L_p1 _ hx1) rfl rfl rfl (by decide) (hts (.fieldLink RX4 86 "LoaderModels$Step" "loader" "LLoaderModels$Loader;") (List.mem_cons_of_mem _ (List.mem_append_left _ (List.mem_append_left _ (List.mem_append_left _ (List.mem_append_left _ (List.mem_append_left _ (List.mem_append_left _ (List.mem_append_left _ (List.mem_of_getElem? (i := 0) rfl)))))))))) (fun _ h9 => h9) dX4_beginToDefine_61 (v := lh_r ad 2 (gvR S17 8 x1 0)) rfl ?_
      refine lh_aload_n hx hb dX4_beginToDefine_64 rfl (lv_at hl 2 rfl) ?_
      have L20 : ∀ j, gvR S17 8 x1 2 = some j → j < gvN S17 1 := fun j h => ok _ _ _ _ j (L_p1 _ hx1) rfl h
      refine lh_get (a := 8) (k := 2) (N := 4) (C := RX8) (T := TX8) (own := RX4) (ref := "LoaderModels$Step") hx hb hts (fun _ h => (List.mem_cons_of_mem _ (List.mem_append_left _ (List.mem_append_left _ (List.mem_append_left _ (List.mem_append_left _ (List.mem_append_left _ (List.mem_append_right _ h)))))))) hown hK hW hx1 (L_p1 _ hx1) rfl rfl rfl (by decide) (hts (.fieldLink RX4 91 "LoaderModels$Step" "file" "LLoaderModels$ClassFile;") (List.mem_cons_of_mem _ (List.mem_append_left _ (List.mem_append_left _ (List.mem_append_left _ (List.mem_append_left _ (List.mem_append_left _ (List.mem_append_left _ (List.mem_append_left _ (List.mem_of_getElem? (i := 1) rfl)))))))))) (fun _ h9 => h9) dX4_beginToDefine_65 (v := lh_r ad 1 (gvR S17 8 x1 2)) rfl ?_
      obtain ⟨x21, hx21, hf⟩ := dc_nn_ok hf
      refine lh_get (a := 1) (k := 3) (N := 7) (C := RX1) (T := TX1) (own := RX4) (ref := "LoaderModels$ClassFile") hx hb hts (fun _ h => (List.mem_cons_of_mem _ (List.mem_append_left _ (List.mem_append_left _ (List.mem_append_left _ (List.mem_append_right _ h)))))) hown hK hW hx21 (L20 _ hx21) rfl rfl rfl (by decide) (hts (.fieldLink RX4 151 "LoaderModels$ClassFile" "above" "I") (List.mem_cons_of_mem _ (List.mem_append_left _ (List.mem_append_left _ (List.mem_append_left _ (List.mem_append_left _ (List.mem_append_left _ (List.mem_append_left _ (List.mem_append_left _ (List.mem_of_getElem? (i := 5) rfl)))))))))) (fun _ h9 => h9) dX4_beginToDefine_68 (v := .int (gvI S17 1 x21 3)) rfl ?_
      have L22 : ∀ j, (none : Option Nat) = some j → j < gvN S17 1 := fun j h => by cases h
      refine lh_null hx hb ad 1 dX4_beginToDefine_71 ?_
      refine lv_iconst (v := 0) hx hb dX4_beginToDefine_72 (by decide) ?_
      obtain ⟨r23, S24, k25, hf⟩ := dc_bd_ok hf
      have hn : ∀ b, gvN S24 b ≤ gvN S' b := by
        have hm : ∀ b, gvN S24 b ≤ gvN S24 b := fun _ => Nat.le_refl _
        obtain ⟨_, rfl⟩ := dc_ret hf
        exact hm
      have q1 := m_X4_open k25 8
      have q2 := m_X4_open k25 5
      have q3 := hn 8
      have q4 := hn 5
      have q5 := hm 8
      have q6 := hm 5
      have hc9 : 0 + (gvN S24 8 + gvN S24 5 - (gvN S17 8 + gvN S17 5)) ≤ mc := by omega
      have hs9 : 0 + (4 * gvN S24 8 + 6 * gvN S24 5 - (4 * gvN S17 8 + 6 * gvN S17 5)) ≤ ms := by omega
      refine lh_callA (S' := S24) (lh_rv ⟨hx, hb, hml, hown, hts⟩ rfl (As := [lh_r ad 2 (gvR S17 8 x1 0), .int (gvI S17 1 x21 3), lh_r ad 1 (none : Option Nat), .int (0 : Int32)]) (rest := []) (k := 4) (c_X4_open l D cT n S17 ad A H.size (fun q9 h9 => hA q9 (Nat.le_trans hS.1 h9)) t (gvR S17 8 x1 0) (gvI S17 1 x21 3) (none : Option Nat) (0 : Int32) r23 S24 k25 L_t L19 L22 (gvN S24 8 + gvN S24 5 - (gvN S17 8 + gvN S17 5)) (4 * gvN S24 8 + 6 * gvN S24 5 - (4 * gvN S17 8 + 6 * gvN S17 5)) (by omega) (by omega)) (cwV 4 hts gX4_beginToDefine_X4_open rfl rfl rfl (by decide +kernel) ⟨Nat.le_of_ble_eq_true rfl, Nat.le_of_ble_eq_true rfl⟩) hK hN hW (L_t _ rfl) rfl rfl rfl hl.1 rfl (by simp [lh_cat_r, lh_cat_i, lh_cat_j]) dX4_beginToDefine_73 ⟨hc9, hs9⟩) hS (fun ad26 H locs hE27 hX hW hS => ?_)
      show W _ _ _ _ _ _ _ _ _ _ _ _ _ _ _ (F0 m 76 ls [.int r23])
      rw [lh_rE hE27 L_t] at hl
      rw [lh_rE hE27 L_p1] at hl
      have hE : lh_E S ad ad26 := lh_E.trans hE hm hE27
      have m28 : ∀ b, gvN S17 b ≤ gvN S24 b := hX.1
      have L_t : ∀ j, some t = some j → j < gvN S24 4 := fun j h => Nat.lt_of_lt_of_le (L_t j h) (m28 _)
      have L_p1 : ∀ j, p1 = some j → j < gvN S24 8 := fun j h => Nat.lt_of_lt_of_le (L_p1 j h) (m28 _)
      have hm : ∀ b, gvN S b ≤ gvN S24 b := lh_le_trans hm m28
      have ok := lh_W_ok hW
      obtain ⟨rfl, rfl⟩ := dc_ret hf
      refine W.widen (k := mc) (n := ms) hc9 hs9 ?_
      exact W.iret (v := r23) hx hb hr (fun t9 ht9 hW9 => ⟨⟨ad26, hE, rfl, ⟨hm, trivial⟩, by rw [ht9]; exact hW⟩, hS.F ht9⟩) hS.2.2 dX4_beginToDefine_76
    · replace hf := dc_if_t c9 hf
      refine lh_aload_n hx hb dX4_beginToDefine_33 rfl (lv_at hl 1 rfl) ?_
      refine lh_aload_n hx hb dX4_beginToDefine_34 rfl (lv_at hl 2 rfl) ?_
      have L29 : ∀ j, (none : Option Nat) = some j → j < gvN S5 5 := fun j h => by cases h
      refine lh_null hx hb ad 5 dX4_beginToDefine_35 ?_
      obtain ⟨r30, S31, k32, hf⟩ := dc_bd_ok hf
      have hn : ∀ b, gvN S31 b ≤ gvN S' b := by
        have hm : ∀ b, gvN S31 b ≤ gvN S31 b := fun _ => Nat.le_refl _
        obtain ⟨_, rfl⟩ := dc_ret hf
        exact hm
      have q1 := m_X4_finish k32 8
      have q2 := m_X4_finish k32 5
      have q3 := hn 8
      have q4 := hn 5
      have q5 := hm 8
      have q6 := hm 5
      have hc9 : 0 + (gvN S31 8 + gvN S31 5 - (gvN S5 8 + gvN S5 5)) ≤ mc := by omega
      have hs9 : 0 + (4 * gvN S31 8 + 6 * gvN S31 5 - (4 * gvN S5 8 + 6 * gvN S5 5)) ≤ ms := by omega
      refine lh_callA (S' := S31) (lh_rv ⟨hx, hb, hml, hown, hts⟩ rfl (As := [lh_r ad 8 p1, lh_r ad 5 (none : Option Nat)]) (rest := []) (k := 4) (c_X4_finish l D cT n S5 ad A H.size (fun q9 h9 => hA q9 (Nat.le_trans hS.1 h9)) t p1 (none : Option Nat) r30 S31 k32 L_t L_p1 L29 (gvN S31 8 + gvN S31 5 - (gvN S5 8 + gvN S5 5)) (4 * gvN S31 8 + 6 * gvN S31 5 - (4 * gvN S5 8 + 6 * gvN S5 5)) (by omega) (by omega)) (cwV 2 hts gX4_beginToDefine_X4_finish rfl rfl rfl (by decide +kernel) ⟨Nat.le_of_ble_eq_true rfl, Nat.le_of_ble_eq_true rfl⟩) hK hN hW (L_t _ rfl) rfl rfl rfl hl.1 rfl (by simp [lh_cat_r, lh_cat_i, lh_cat_j]) dX4_beginToDefine_36 ⟨hc9, hs9⟩) hS (fun ad33 H locs hE34 hX hW hS => ?_)
      show W _ _ _ _ _ _ _ _ _ _ _ _ _ _ _ (F0 m 39 ls [.int r30])
      rw [lh_rE hE34 L_t] at hl
      rw [lh_rE hE34 L_p1] at hl
      have hE : lh_E S ad ad33 := lh_E.trans hE hm hE34
      have m35 : ∀ b, gvN S5 b ≤ gvN S31 b := hX.1
      have L_t : ∀ j, some t = some j → j < gvN S31 4 := fun j h => Nat.lt_of_lt_of_le (L_t j h) (m35 _)
      have L_p1 : ∀ j, p1 = some j → j < gvN S31 8 := fun j h => Nat.lt_of_lt_of_le (L_p1 j h) (m35 _)
      have hm : ∀ b, gvN S b ≤ gvN S31 b := lh_le_trans hm m35
      have ok := lh_W_ok hW
      obtain ⟨rfl, rfl⟩ := dc_ret hf
      refine W.widen (k := mc) (n := ms) hc9 hs9 ?_
      exact W.iret (v := r30) hx hb hr (fun t9 ht9 hW9 => ⟨⟨ad33, hE, rfl, ⟨hm, trivial⟩, by rw [ht9]; exact hW⟩, hS.F ht9⟩) hS.2.2 dX4_beginToDefine_39
  · replace hf := dc_if_f c8 hf
    refine lh_aload_n hx hb dX4_beginToDefine_17 rfl (lv_at hl 1 rfl) ?_
    refine lv_iload_n hx hb dX4_beginToDefine_18 rfl (lv_at hl 0 rfl) ?_
    obtain ⟨r36, S37, k38, hf⟩ := dc_bd_ok hf
    refine lh_call (S' := S37) (lh_rsn ⟨hx, hb, hml, hown, hts⟩ (As := [.int r4]) (rest := [lh_r ad 4 (some t)]) (c_X9_failed l D cT n S5 ad A H.size (fun q9 h9 => hA q9 (Nat.le_trans hS.1 h9)) r4 r36 S37 k38 ) ⟨va_cnB 1 hts gX4_beginToDefine_X9_failed_n81 rfl rfl rfl hN.2.2.1 (hts (.initialized RX9) (List.mem_cons_of_mem _ (List.mem_append_left _ (List.mem_append_left _ (List.mem_append_left _ (List.mem_append_left _ (List.mem_append_left _ (List.mem_append_left _ (List.mem_append_left _ (List.mem_of_getElem? (i := 21) rfl)))))))))) (by decide +kernel) ⟨Nat.le_of_ble_eq_true rfl, Nat.le_of_ble_eq_true rfl⟩, (hts (.static yX9_failed) (List.mem_cons_of_mem _ (List.mem_append_left _ (List.mem_append_left _ (List.mem_append_left _ (List.mem_append_left _ (List.mem_append_left _ (List.mem_append_left _ (List.mem_append_left _ (List.mem_of_getElem? (i := 20) rfl)))))))))), trivial⟩ hK hN hW rfl hl.1 rfl (by simp [lh_cat_r, lh_cat_i, lh_cat_j]) dX4_beginToDefine_19 ⟨Nat.zero_le _, Nat.zero_le _⟩) hS (fun H locs hX hW hS => ?_)
    refine W.widen (k := 0) (n := 0) (by omega) (by omega) ?_
    show W _ _ _ _ _ _ _ _ _ _ _ _ _ _ _ (F0 m 22 ls [.int r36, lh_r ad 4 (some t)])
    have m39 : ∀ b, gvN S5 b ≤ gvN S37 b := hX.1
    have L_t : ∀ j, some t = some j → j < gvN S37 4 := fun j h => Nat.lt_of_lt_of_le (L_t j h) (m39 _)
    have L_p1 : ∀ j, p1 = some j → j < gvN S37 8 := fun j h => Nat.lt_of_lt_of_le (L_p1 j h) (m39 _)
    have hm : ∀ b, gvN S b ≤ gvN S37 b := lh_le_trans hm m39
    have ok := lh_W_ok hW
    obtain ⟨r40, S41, k42, hf⟩ := dc_bd_ok hf
    refine lh_call (S' := S41) (lh_rv ⟨hx, hb, hml, hown, hts⟩ rfl (As := [.int r36]) (rest := []) (k := 4) (c_X4_end l D cT n S37 ad A H.size (fun q9 h9 => hA q9 (Nat.le_trans hS.1 h9)) t r36 r40 S41 k42 L_t) (cwV 1 hts gX4_beginToDefine_X4_end rfl rfl rfl (by decide +kernel) ⟨Nat.le_of_ble_eq_true rfl, Nat.le_of_ble_eq_true rfl⟩) hK hN hW (L_t _ rfl) rfl rfl rfl hl.1 rfl (by simp [lh_cat_r, lh_cat_i, lh_cat_j]) dX4_beginToDefine_22 ⟨Nat.zero_le _, Nat.zero_le _⟩) hS (fun H locs hX hW hS => ?_)
    refine W.widen (k := 0) (n := 0) (by omega) (by omega) ?_
    show W _ _ _ _ _ _ _ _ _ _ _ _ _ _ _ (F0 m 25 ls [.int r40])
    have m43 : ∀ b, gvN S37 b ≤ gvN S41 b := hX.1
    have L_t : ∀ j, some t = some j → j < gvN S41 4 := fun j h => Nat.lt_of_lt_of_le (L_t j h) (m43 _)
    have L_p1 : ∀ j, p1 = some j → j < gvN S41 8 := fun j h => Nat.lt_of_lt_of_le (L_p1 j h) (m43 _)
    have hm : ∀ b, gvN S b ≤ gvN S41 b := lh_le_trans hm m43
    have ok := lh_W_ok hW
    obtain ⟨rfl, rfl⟩ := dc_ret hf
    refine W.widen (k := mc) (n := ms) (Nat.zero_le _) (Nat.zero_le _) ?_
    exact W.iret (v := r40) hx hb hr (fun t9 ht9 hW9 => ⟨⟨ad, hE, rfl, ⟨hm, trivial⟩, by rw [ht9]; exact hW⟩, hS.F ht9⟩) hS.2.2 dX4_beginToDefine_25
def f_X4_takeAbove (n : Nat) (S : lh_S) (t : Nat) (p1 : Option Nat) (p2 : Int32) : Option (Int32 × lh_S) :=
  dc_nn p1 fun x1 =>
  dc_nn (gvR S 8 x1 0) fun x3 =>
  dc_nn (gvR S 2 x3 5) fun x5 =>
  dc_gd ((gvI S 8 x1 1) < 0 ∨ gvL S 14 x5 ≤ ((gvI S 8 x1 1)).toNatClampNeg) (
  dc_let (pvI S 14 x5 ((gvI S 8 x1 1)).toNatClampNeg (vp_nar .boolean (0 : Int32))) fun S7 =>
  dc_bd (f_X9_failed n S7 (1 : Int32)) fun r9 S10 =>
  dc_if (p2 = r9) (
  dc_bd (f_X9_failed n S10 (2 : Int32)) fun r42 S43 =>
  dc_bd (f_X4_end n S43 t r42) fun r46 S47 =>
  some (r46, S47)) (
  dc_bd (f_X4_classAt n S10 t p2) fun r14 S15 =>
  dc_if (r14 = none) (
  dc_bd (f_X4_end n S15 t p2) fun r38 S39 =>
  some (r38, S39)) (
  dc_nn r14 fun x20 =>
  dc_nn (gvR S15 5 x20 2) fun x22 =>
  dc_if ((gvI S15 1 x22 5) = 0) (
  dc_bd (f_X4_finish n S15 t p1 r14) fun r24 S25 =>
  some (r24, S25)) (
  dc_bd (f_X9_failed n S15 (7 : Int32)) fun r30 S31 =>
  dc_bd (f_X4_end n S31 t r30) fun r34 S35 =>
  some (r34, S35)))))
set_option maxHeartbeats 1000000 in
theorem m_X4_takeAbove {n : Nat} {S : lh_S} {t : Nat} {p1 : Option Nat} {p2 : Int32} {r : Int32} {S' : lh_S} (hf : f_X4_takeAbove n S t p1 p2 = some (r, S')) : ∀ b, gvN S b ≤ gvN S' b := by
  have hm : ∀ b, gvN S b ≤ gvN S b := fun _ => Nat.le_refl _
  unfold f_X4_takeAbove at hf
  obtain ⟨x1, hx1, hf⟩ := dc_nn_ok hf
  obtain ⟨x3, hx3, hf⟩ := dc_nn_ok hf
  obtain ⟨x5, hx5, hf⟩ := dc_nn_ok hf
  obtain ⟨g6, hf⟩ := dc_gd_ok hf
  obtain ⟨S7, eS7, hf⟩ := dc_let_ok hf
  have hm := lh_le_trans hm (show ∀ b, gvN S b ≤ gvN S7 b from by rw [eS7]; exact lh_mI)
  obtain ⟨r9, S10, k11, hf⟩ := dc_bd_ok hf
  have hm := lh_le_trans hm (show ∀ b, gvN S7 b ≤ gvN S10 b from m_X9_failed k11)
  by_cases c13 : p2 = r9
  · replace hf := dc_if_t c13 hf
    obtain ⟨r42, S43, k44, hf⟩ := dc_bd_ok hf
    have hm := lh_le_trans hm (show ∀ b, gvN S10 b ≤ gvN S43 b from m_X9_failed k44)
    obtain ⟨r46, S47, k48, hf⟩ := dc_bd_ok hf
    have hm := lh_le_trans hm (show ∀ b, gvN S43 b ≤ gvN S47 b from m_X4_end k48)
    obtain ⟨_, rfl⟩ := dc_ret hf
    exact hm
  · replace hf := dc_if_f c13 hf
    obtain ⟨r14, S15, k16, hf⟩ := dc_bd_ok hf
    have hm := lh_le_trans hm (show ∀ b, gvN S10 b ≤ gvN S15 b from m_X4_classAt k16)
    by_cases c19 : r14 = none
    · replace hf := dc_if_t c19 hf
      obtain ⟨r38, S39, k40, hf⟩ := dc_bd_ok hf
      have hm := lh_le_trans hm (show ∀ b, gvN S15 b ≤ gvN S39 b from m_X4_end k40)
      obtain ⟨_, rfl⟩ := dc_ret hf
      exact hm
    · replace hf := dc_if_f c19 hf
      obtain ⟨x20, hx20, hf⟩ := dc_nn_ok hf
      obtain ⟨x22, hx22, hf⟩ := dc_nn_ok hf
      by_cases c23 : (gvI S15 1 x22 5) = 0
      · replace hf := dc_if_t c23 hf
        obtain ⟨r24, S25, k26, hf⟩ := dc_bd_ok hf
        have hm := lh_le_trans hm (show ∀ b, gvN S15 b ≤ gvN S25 b from m_X4_finish k26)
        obtain ⟨_, rfl⟩ := dc_ret hf
        exact hm
      · replace hf := dc_if_f c23 hf
        obtain ⟨r30, S31, k32, hf⟩ := dc_bd_ok hf
        have hm := lh_le_trans hm (show ∀ b, gvN S15 b ≤ gvN S31 b from m_X9_failed k32)
        obtain ⟨r34, S35, k36, hf⟩ := dc_bd_ok hf
        have hm := lh_le_trans hm (show ∀ b, gvN S31 b ≤ gvN S35 b from m_X4_end k36)
        obtain ⟨_, rfl⟩ := dc_ret hf
        exact hm
set_option maxHeartbeats 1000000 in
theorem k_X4_takeAbove {n : Nat} {S : lh_S} {t : Nat} {p1 : Option Nat} {p2 : Int32} {r : Int32} {S' : lh_S} (hf : f_X4_takeAbove n S t p1 p2 = some (r, S')) : lh_sm9 S S' := by
  have hm : lh_sm9 S S := lh_sm9_rf
  unfold f_X4_takeAbove at hf
  obtain ⟨x1, hx1, hf⟩ := dc_nn_ok hf
  obtain ⟨x3, hx3, hf⟩ := dc_nn_ok hf
  obtain ⟨x5, hx5, hf⟩ := dc_nn_ok hf
  obtain ⟨g6, hf⟩ := dc_gd_ok hf
  obtain ⟨S7, eS7, hf⟩ := dc_let_ok hf
  have hm := lh_sm9_trans hm (show lh_sm9 S S7 from by rw [eS7]; exact (lh_sm9I (by decide)))
  obtain ⟨r9, S10, k11, hf⟩ := dc_bd_ok hf
  have hm := lh_sm9_trans hm (show lh_sm9 S7 S10 from k_X9_failed k11)
  by_cases c13 : p2 = r9
  · replace hf := dc_if_t c13 hf
    obtain ⟨r42, S43, k44, hf⟩ := dc_bd_ok hf
    have hm := lh_sm9_trans hm (show lh_sm9 S10 S43 from k_X9_failed k44)
    obtain ⟨r46, S47, k48, hf⟩ := dc_bd_ok hf
    have hm := lh_sm9_trans hm (show lh_sm9 S43 S47 from k_X4_end k48)
    obtain ⟨_, rfl⟩ := dc_ret hf
    exact hm
  · replace hf := dc_if_f c13 hf
    obtain ⟨r14, S15, k16, hf⟩ := dc_bd_ok hf
    have hm := lh_sm9_trans hm (show lh_sm9 S10 S15 from k_X4_classAt k16)
    by_cases c19 : r14 = none
    · replace hf := dc_if_t c19 hf
      obtain ⟨r38, S39, k40, hf⟩ := dc_bd_ok hf
      have hm := lh_sm9_trans hm (show lh_sm9 S15 S39 from k_X4_end k40)
      obtain ⟨_, rfl⟩ := dc_ret hf
      exact hm
    · replace hf := dc_if_f c19 hf
      obtain ⟨x20, hx20, hf⟩ := dc_nn_ok hf
      obtain ⟨x22, hx22, hf⟩ := dc_nn_ok hf
      by_cases c23 : (gvI S15 1 x22 5) = 0
      · replace hf := dc_if_t c23 hf
        obtain ⟨r24, S25, k26, hf⟩ := dc_bd_ok hf
        have hm := lh_sm9_trans hm (show lh_sm9 S15 S25 from k_X4_finish k26)
        obtain ⟨_, rfl⟩ := dc_ret hf
        exact hm
      · replace hf := dc_if_f c23 hf
        obtain ⟨r30, S31, k32, hf⟩ := dc_bd_ok hf
        have hm := lh_sm9_trans hm (show lh_sm9 S15 S31 from k_X9_failed k32)
        obtain ⟨r34, S35, k36, hf⟩ := dc_bd_ok hf
        have hm := lh_sm9_trans hm (show lh_sm9 S31 S35 from k_X4_end k36)
        obtain ⟨_, rfl⟩ := dc_ret hf
        exact hm
set_option maxHeartbeats 4000000 in
set_option maxRecDepth 100000 in
theorem c_X4_takeAbove (l : Launch) (D : va_G) (cT : Nat → ClassId) (n : Nat) (S : lh_S) (ad : Nat → Nat → Nat) (A : Nat → Prop) (sz : Nat) (hA : ∀ q, sz ≤ q → A q) (t : Nat) (p1 : Option Nat) (p2 : Int32) (r : Int32) (S' : lh_S) (hf : f_X4_takeAbove n S t p1 p2 = some (r, S')) (L_t : ∀ j, some t = some j → j < gvN S 4) (L_p1 : ∀ j, p1 = some j → j < gvN S 8) (mc ms : Nat) (hmc : gvN S' 8 + gvN S' 5 ≤ gvN S 8 + gvN S 5 + mc) (hms : 4 * gvN S' 8 + 6 * gvN S' 5 ≤ 4 * gvN S 8 + 6 * gvN S 5 + ms) : Met l yX4_takeAbove wsX4_takeAbove ({ frames := 3, cells := mc, slots := ms, locals := 71 } : Room) (lh_P D cT S ad A sz [lh_r ad 4 (some t), lh_r ad 8 p1, .int p2]) (lh_QA D cT S S' ad A ((∀ b, gvN S b ≤ gvN S' b) ∧ True) (fun ad9 => some (.int r))) mc ms A := by
  refine Met.ofW (cc := cX4_takeAbove) (maxL := 4) (ret := (some .int)) (by decide) rfl ?_
  intro p e s m args below meth c s₁ B hml hv
  obtain ⟨hargs, hsz, hW, hK, hN⟩ := hv
  have hx := B.exec
  have hb := B.bytes
  have hr := B.returns
  have hts := atoms_spec (ws := wsX4_takeAbove) B.pre
  have hown : s.vm.findClass RX4 = some m.cls := findClass_of_methodNamed B.named
  have hlocks := B.notSynchronized
  have hA : ∀ q, s.heap.size ≤ q → A q := fun q h => hA q (by rw [← hsz]; exact h)
  have ok := lh_W_ok hW
  have hm : ∀ b, gvN S b ≤ gvN S b := fun _ => Nat.le_refl _
  have hE : lh_E S ad ad := lh_E.rf
  obtain ⟨ls, hent, hl⟩ := lh_entry m args [lh_r ad 4 (some t), lh_r ad 8 p1, .int p2] 4 [(0, lh_r ad 4 (some t)), (1, lh_r ad 8 p1), (2, .int p2)] hargs (by simp [lv_args, lh_cat_r, lh_cat_i, lh_cat_j]) (by simp [lg_sl, lh_cat_r, lh_cat_i, lh_cat_j])
  rw [hent]
  generalize hH : s.heap = H at hW ⊢
  have hS : va_S A s.heap H [] := by rw [← hH]; exact va_S.rf
  unfold f_X4_takeAbove at hf
  refine lh_aload_n hx hb dX4_takeAbove_0 rfl (lv_at hl 1 rfl) ?_
  obtain ⟨x1, hx1, hf⟩ := dc_nn_ok hf
  have L2 : ∀ j, gvR S 8 x1 0 = some j → j < gvN S 2 := fun j h => ok _ _ _ _ j (L_p1 _ hx1) rfl h
  refine lh_get (a := 8) (k := 0) (N := 4) (C := RX8) (T := TX8) (own := RX4) (ref := "LoaderModels$Step") hx hb hts (fun _ h => (List.mem_cons_of_mem _ (List.mem_append_left _ (List.mem_append_left _ (List.mem_append_left _ (List.mem_append_left _ (List.mem_append_left _ (List.mem_append_right _ h)))))))) hown hK hW hx1 (L_p1 _ hx1) rfl rfl rfl (by decide) (hts (.fieldLink RX4 86 "LoaderModels$Step" "loader" "LLoaderModels$Loader;") (List.mem_cons_of_mem _ (List.mem_append_left _ (List.mem_append_left _ (List.mem_append_left _ (List.mem_append_left _ (List.mem_append_left _ (List.mem_append_left _ (List.mem_append_left _ (List.mem_of_getElem? (i := 0) rfl)))))))))) (fun _ h9 => h9) dX4_takeAbove_1 (v := lh_r ad 2 (gvR S 8 x1 0)) rfl ?_
  obtain ⟨x3, hx3, hf⟩ := dc_nn_ok hf
  have L4 : ∀ j, gvR S 2 x3 5 = some j → j < gvN S 14 := fun j h => ok _ _ _ _ j (L2 _ hx3) rfl h
  refine lh_get (a := 2) (k := 5) (N := 7) (C := RX2) (T := TX2) (own := RX4) (ref := "LoaderModels$Loader") hx hb hts (fun _ h => (List.mem_cons_of_mem _ (List.mem_append_left _ (List.mem_append_left _ (List.mem_append_left _ (List.mem_append_left _ (List.mem_append_right _ h))))))) hown hK hW hx3 (L2 _ hx3) rfl rfl rfl (by decide) (hts (.fieldLink RX4 111 "LoaderModels$Loader" "defining" "[Z") (List.mem_cons_of_mem _ (List.mem_append_left _ (List.mem_append_left _ (List.mem_append_left _ (List.mem_append_left _ (List.mem_append_left _ (List.mem_append_left _ (List.mem_append_left _ (List.mem_of_getElem? (i := 1) rfl)))))))))) (fun _ h9 => h9) dX4_takeAbove_4 (v := lh_r ad 14 (gvR S 2 x3 5)) rfl ?_
  refine lh_aload_n hx hb dX4_takeAbove_7 rfl (lv_at hl 1 rfl) ?_
  refine lh_get (a := 8) (k := 1) (N := 4) (C := RX8) (T := TX8) (own := RX4) (ref := "LoaderModels$Step") hx hb hts (fun _ h => (List.mem_cons_of_mem _ (List.mem_append_left _ (List.mem_append_left _ (List.mem_append_left _ (List.mem_append_left _ (List.mem_append_left _ (List.mem_append_right _ h)))))))) hown hK hW hx1 (L_p1 _ hx1) rfl rfl rfl (by decide) (hts (.fieldLink RX4 90 "LoaderModels$Step" "name" "I") (List.mem_cons_of_mem _ (List.mem_append_left _ (List.mem_append_left _ (List.mem_append_left _ (List.mem_append_left _ (List.mem_append_left _ (List.mem_append_left _ (List.mem_append_left _ (List.mem_of_getElem? (i := 2) rfl)))))))))) (fun _ h9 => h9) dX4_takeAbove_8 (v := .int (gvI S 8 x1 1)) rfl ?_
  refine lv_iconst (v := 0) hx hb dX4_takeAbove_11 (by decide) ?_
  obtain ⟨x5, hx5, hf⟩ := dc_nn_ok hf
  obtain ⟨g6, hf⟩ := dc_gd_ok hf
  obtain ⟨S7, eS7, hf⟩ := dc_let_ok hf
  refine lh_ast_z (a := 14) hx hb hK hW hS hx5 (L4 _ hx5) rfl (fun _ => rfl) g6 dX4_takeAbove_12 (fun H locs hW hS => ?_)
  rw [← eS7] at hW
  have m8 : ∀ b, gvN S b ≤ gvN S7 b := by rw [eS7]; exact lh_mI
  have L_t : ∀ j, some t = some j → j < gvN S7 4 := fun j h => Nat.lt_of_lt_of_le (L_t j h) (m8 _)
  have L_p1 : ∀ j, p1 = some j → j < gvN S7 8 := fun j h => Nat.lt_of_lt_of_le (L_p1 j h) (m8 _)
  have hm : ∀ b, gvN S b ≤ gvN S7 b := lh_le_trans hm m8
  have ok := lh_W_ok hW
  refine lv_iload_n hx hb dX4_takeAbove_13 rfl (lv_at hl 2 rfl) ?_
  refine lv_iconst (v := 1) hx hb dX4_takeAbove_14 (by decide) ?_
  obtain ⟨r9, S10, k11, hf⟩ := dc_bd_ok hf
  refine lh_call (S' := S10) (lh_rsn ⟨hx, hb, hml, hown, hts⟩ (As := [.int (1 : Int32)]) (rest := [.int p2]) (c_X9_failed l D cT n S7 ad A H.size (fun q9 h9 => hA q9 (Nat.le_trans hS.1 h9)) (1 : Int32) r9 S10 k11 ) ⟨va_cnB 1 hts gX4_takeAbove_X9_failed_n81 rfl rfl rfl hN.2.2.1 (hts (.initialized RX9) (List.mem_cons_of_mem _ (List.mem_append_left _ (List.mem_append_left _ (List.mem_append_left _ (List.mem_append_left _ (List.mem_append_left _ (List.mem_append_left _ (List.mem_append_left _ (List.mem_of_getElem? (i := 6) rfl)))))))))) (by decide +kernel) ⟨Nat.le_of_ble_eq_true rfl, Nat.le_of_ble_eq_true rfl⟩, (hts (.static yX9_failed) (List.mem_cons_of_mem _ (List.mem_append_left _ (List.mem_append_left _ (List.mem_append_left _ (List.mem_append_left _ (List.mem_append_left _ (List.mem_append_left _ (List.mem_append_left _ (List.mem_of_getElem? (i := 5) rfl)))))))))), trivial⟩ hK hN hW rfl hl.1 rfl (by simp [lh_cat_r, lh_cat_i, lh_cat_j]) dX4_takeAbove_15 ⟨Nat.zero_le _, Nat.zero_le _⟩) hS (fun H locs hX hW hS => ?_)
  refine W.widen (k := 0) (n := 0) (by omega) (by omega) ?_
  show W _ _ _ _ _ _ _ _ _ _ _ _ _ _ _ (F0 m 18 ls [.int r9, .int p2])
  have m12 : ∀ b, gvN S7 b ≤ gvN S10 b := hX.1
  have L_t : ∀ j, some t = some j → j < gvN S10 4 := fun j h => Nat.lt_of_lt_of_le (L_t j h) (m12 _)
  have L_p1 : ∀ j, p1 = some j → j < gvN S10 8 := fun j h => Nat.lt_of_lt_of_le (L_p1 j h) (m12 _)
  have hm : ∀ b, gvN S b ≤ gvN S10 b := lh_le_trans hm m12
  have ok := lh_W_ok hW
  refine lv_icmp_ne (tgt := 30) hx hb dX4_takeAbove_18 (by decide) (fun c13 => ?_) (fun c13 => ?_)
  · replace hf := dc_if_f c13 hf
    refine lh_aload_n hx hb dX4_takeAbove_30 rfl (lv_at hl 0 rfl) ?_
    refine lv_iload_n hx hb dX4_takeAbove_31 rfl (lv_at hl 2 rfl) ?_
    obtain ⟨r14, S15, k16, hf⟩ := dc_bd_ok hf
    refine lh_call (S' := S15) (lh_rv ⟨hx, hb, hml, hown, hts⟩ rfl (As := [.int p2]) (rest := []) (k := 4) (c_X4_classAt l D cT n S10 ad A H.size (fun q9 h9 => hA q9 (Nat.le_trans hS.1 h9)) t p2 r14 S15 k16 L_t) (cwV 1 hts gX4_takeAbove_X4_classAt rfl rfl rfl (by decide +kernel) ⟨Nat.le_of_ble_eq_true rfl, Nat.le_of_ble_eq_true rfl⟩) hK hN hW (L_t _ rfl) rfl rfl rfl hl.1 rfl (by simp [lh_cat_r, lh_cat_i, lh_cat_j]) dX4_takeAbove_32 ⟨Nat.zero_le _, Nat.zero_le _⟩) hS (fun H locs hX hW hS => ?_)
    refine W.widen (k := 0) (n := 0) (by omega) (by omega) ?_
    show W _ _ _ _ _ _ _ _ _ _ _ _ _ _ _ (F0 m 35 ls [lh_r ad 5 r14])
    have m17 : ∀ b, gvN S10 b ≤ gvN S15 b := hX.1
    have L_t : ∀ j, some t = some j → j < gvN S15 4 := fun j h => Nat.lt_of_lt_of_le (L_t j h) (m17 _)
    have L_p1 : ∀ j, p1 = some j → j < gvN S15 8 := fun j h => Nat.lt_of_lt_of_le (L_p1 j h) (m17 _)
    have hm : ∀ b, gvN S b ≤ gvN S15 b := lh_le_trans hm m17
    have ok := lh_W_ok hW
    have L18 := hX.2
    refine lh_astore_n (i := 3) (lv' := [(3, lh_r ad 5 r14), (0, lh_r ad 4 (some t)), (1, lh_r ad 8 p1), (2, .int p2)]) hx hb dX4_takeAbove_35 rfl hl (by decide) (by first | rfl | simp [lh_cat_r, lh_cat_i, lh_cat_j]) (fun ls hl => ?_)
    refine lh_aload_n hx hb dX4_takeAbove_36 rfl (lv_at hl 0 rfl) ?_
    refine lh_ifnonnull (tgt := 46) hx hb dX4_takeAbove_37 (by decide) (fun c19 => ?_) (fun c19 => ?_)
    · replace hf := dc_if_f c19 hf
      refine lh_aload_n hx hb dX4_takeAbove_46 rfl (lv_at hl 0 rfl) ?_
      obtain ⟨x20, hx20, hf⟩ := dc_nn_ok hf
      have L21 : ∀ j, gvR S15 5 x20 2 = some j → j < gvN S15 1 := fun j h => ok _ _ _ _ j (L18 _ hx20) rfl h
      refine lh_get (a := 5) (k := 2) (N := 6) (C := RX5) (T := TX5) (own := RX4) (ref := "LoaderModels$Model") hx hb hts (fun _ h => (List.mem_cons_of_mem _ (List.mem_append_left _ (List.mem_append_left _ (List.mem_append_left _ (List.mem_append_right _ h)))))) hown hK hW hx20 (L18 _ hx20) rfl rfl rfl (by decide) (hts (.fieldLink RX4 157 "LoaderModels$Model" "file" "LLoaderModels$ClassFile;") (List.mem_cons_of_mem _ (List.mem_append_left _ (List.mem_append_left _ (List.mem_append_left _ (List.mem_append_left _ (List.mem_append_left _ (List.mem_append_left _ (List.mem_append_left _ (List.mem_of_getElem? (i := 3) rfl)))))))))) (fun _ h9 => h9) dX4_takeAbove_47 (v := lh_r ad 1 (gvR S15 5 x20 2)) rfl ?_
      obtain ⟨x22, hx22, hf⟩ := dc_nn_ok hf
      refine lh_get (a := 1) (k := 5) (N := 7) (C := RX1) (T := TX1) (own := RX4) (ref := "LoaderModels$ClassFile") hx hb hts (fun _ h => (List.mem_cons_of_mem _ (List.mem_append_left _ (List.mem_append_left _ (List.mem_append_right _ h))))) hown hK hW hx22 (L21 _ hx22) rfl rfl rfl (by decide) (hts (.fieldLink RX4 158 "LoaderModels$ClassFile" "isFinal" "Z") (List.mem_cons_of_mem _ (List.mem_append_left _ (List.mem_append_left _ (List.mem_append_left _ (List.mem_append_left _ (List.mem_append_left _ (List.mem_append_left _ (List.mem_append_left _ (List.mem_of_getElem? (i := 4) rfl)))))))))) (fun _ h9 => h9) dX4_takeAbove_50 (v := .int (gvI S15 1 x22 5)) rfl ?_
      refine lv_if_eq (tgt := 66) hx hb dX4_takeAbove_53 (by decide) (fun c23 => ?_) (fun c23 => ?_)
      · replace hf := dc_if_t c23 hf
        refine lh_aload_n hx hb dX4_takeAbove_66 rfl (lv_at hl 1 rfl) ?_
        refine lh_aload_n hx hb dX4_takeAbove_67 rfl (lv_at hl 2 rfl) ?_
        refine lh_aload_n hx hb dX4_takeAbove_68 rfl (lv_at hl 0 rfl) ?_
        obtain ⟨r24, S25, k26, hf⟩ := dc_bd_ok hf
        have hn : ∀ b, gvN S25 b ≤ gvN S' b := by
          have hm : ∀ b, gvN S25 b ≤ gvN S25 b := fun _ => Nat.le_refl _
          obtain ⟨_, rfl⟩ := dc_ret hf
          exact hm
        have q1 := m_X4_finish k26 8
        have q2 := m_X4_finish k26 5
        have q3 := hn 8
        have q4 := hn 5
        have q5 := hm 8
        have q6 := hm 5
        have hc9 : 0 + (gvN S25 8 + gvN S25 5 - (gvN S15 8 + gvN S15 5)) ≤ mc := by omega
        have hs9 : 0 + (4 * gvN S25 8 + 6 * gvN S25 5 - (4 * gvN S15 8 + 6 * gvN S15 5)) ≤ ms := by omega
        refine lh_callA (S' := S25) (lh_rv ⟨hx, hb, hml, hown, hts⟩ rfl (As := [lh_r ad 8 p1, lh_r ad 5 r14]) (rest := []) (k := 4) (c_X4_finish l D cT n S15 ad A H.size (fun q9 h9 => hA q9 (Nat.le_trans hS.1 h9)) t p1 r14 r24 S25 k26 L_t L_p1 L18 (gvN S25 8 + gvN S25 5 - (gvN S15 8 + gvN S15 5)) (4 * gvN S25 8 + 6 * gvN S25 5 - (4 * gvN S15 8 + 6 * gvN S15 5)) (by omega) (by omega)) (cwV 2 hts gX4_takeAbove_X4_finish rfl rfl rfl (by decide +kernel) ⟨Nat.le_of_ble_eq_true rfl, Nat.le_of_ble_eq_true rfl⟩) hK hN hW (L_t _ rfl) rfl rfl rfl hl.1 rfl (by simp [lh_cat_r, lh_cat_i, lh_cat_j]) dX4_takeAbove_69 ⟨hc9, hs9⟩) hS (fun ad27 H locs hE28 hX hW hS => ?_)
        show W _ _ _ _ _ _ _ _ _ _ _ _ _ _ _ (F0 m 72 ls [.int r24])
        rw [lh_rE hE28 L18] at hl
        rw [lh_rE hE28 L_t] at hl
        rw [lh_rE hE28 L_p1] at hl
        have hE : lh_E S ad ad27 := lh_E.trans hE hm hE28
        have m29 : ∀ b, gvN S15 b ≤ gvN S25 b := hX.1
        have L18 : ∀ j, r14 = some j → j < gvN S25 5 := fun j h => Nat.lt_of_lt_of_le (L18 j h) (m29 _)
        have L_t : ∀ j, some t = some j → j < gvN S25 4 := fun j h => Nat.lt_of_lt_of_le (L_t j h) (m29 _)
        have L_p1 : ∀ j, p1 = some j → j < gvN S25 8 := fun j h => Nat.lt_of_lt_of_le (L_p1 j h) (m29 _)
        have hm : ∀ b, gvN S b ≤ gvN S25 b := lh_le_trans hm m29
        have ok := lh_W_ok hW
        obtain ⟨rfl, rfl⟩ := dc_ret hf
        refine W.widen (k := mc) (n := ms) hc9 hs9 ?_
        exact W.iret (v := r24) hx hb hr (fun t9 ht9 hW9 => ⟨⟨ad27, hE, rfl, ⟨hm, trivial⟩, by rw [ht9]; exact hW⟩, hS.F ht9⟩) hS.2.2 dX4_takeAbove_72
      · replace hf := dc_if_f c23 hf
        refine lh_aload_n hx hb dX4_takeAbove_56 rfl (lv_at hl 1 rfl) ?_
        refine lv_bipush (v := 7) hx hb dX4_takeAbove_57 (by decide) ?_
        obtain ⟨r30, S31, k32, hf⟩ := dc_bd_ok hf
        refine lh_call (S' := S31) (lh_rsn ⟨hx, hb, hml, hown, hts⟩ (As := [.int (7 : Int32)]) (rest := [lh_r ad 4 (some t)]) (c_X9_failed l D cT n S15 ad A H.size (fun q9 h9 => hA q9 (Nat.le_trans hS.1 h9)) (7 : Int32) r30 S31 k32 ) ⟨va_cnB 1 hts gX4_takeAbove_X9_failed_n81 rfl rfl rfl hN.2.2.1 (hts (.initialized RX9) (List.mem_cons_of_mem _ (List.mem_append_left _ (List.mem_append_left _ (List.mem_append_left _ (List.mem_append_left _ (List.mem_append_left _ (List.mem_append_left _ (List.mem_append_left _ (List.mem_of_getElem? (i := 6) rfl)))))))))) (by decide +kernel) ⟨Nat.le_of_ble_eq_true rfl, Nat.le_of_ble_eq_true rfl⟩, (hts (.static yX9_failed) (List.mem_cons_of_mem _ (List.mem_append_left _ (List.mem_append_left _ (List.mem_append_left _ (List.mem_append_left _ (List.mem_append_left _ (List.mem_append_left _ (List.mem_append_left _ (List.mem_of_getElem? (i := 5) rfl)))))))))), trivial⟩ hK hN hW rfl hl.1 rfl (by simp [lh_cat_r, lh_cat_i, lh_cat_j]) dX4_takeAbove_59 ⟨Nat.zero_le _, Nat.zero_le _⟩) hS (fun H locs hX hW hS => ?_)
        refine W.widen (k := 0) (n := 0) (by omega) (by omega) ?_
        show W _ _ _ _ _ _ _ _ _ _ _ _ _ _ _ (F0 m 62 ls [.int r30, lh_r ad 4 (some t)])
        have m33 : ∀ b, gvN S15 b ≤ gvN S31 b := hX.1
        have L18 : ∀ j, r14 = some j → j < gvN S31 5 := fun j h => Nat.lt_of_lt_of_le (L18 j h) (m33 _)
        have L_t : ∀ j, some t = some j → j < gvN S31 4 := fun j h => Nat.lt_of_lt_of_le (L_t j h) (m33 _)
        have L_p1 : ∀ j, p1 = some j → j < gvN S31 8 := fun j h => Nat.lt_of_lt_of_le (L_p1 j h) (m33 _)
        have hm : ∀ b, gvN S b ≤ gvN S31 b := lh_le_trans hm m33
        have ok := lh_W_ok hW
        obtain ⟨r34, S35, k36, hf⟩ := dc_bd_ok hf
        refine lh_call (S' := S35) (lh_rv ⟨hx, hb, hml, hown, hts⟩ rfl (As := [.int r30]) (rest := []) (k := 4) (c_X4_end l D cT n S31 ad A H.size (fun q9 h9 => hA q9 (Nat.le_trans hS.1 h9)) t r30 r34 S35 k36 L_t) (cwV 1 hts gX4_takeAbove_X4_end rfl rfl rfl (by decide +kernel) ⟨Nat.le_of_ble_eq_true rfl, Nat.le_of_ble_eq_true rfl⟩) hK hN hW (L_t _ rfl) rfl rfl rfl hl.1 rfl (by simp [lh_cat_r, lh_cat_i, lh_cat_j]) dX4_takeAbove_62 ⟨Nat.zero_le _, Nat.zero_le _⟩) hS (fun H locs hX hW hS => ?_)
        refine W.widen (k := 0) (n := 0) (by omega) (by omega) ?_
        show W _ _ _ _ _ _ _ _ _ _ _ _ _ _ _ (F0 m 65 ls [.int r34])
        have m37 : ∀ b, gvN S31 b ≤ gvN S35 b := hX.1
        have L18 : ∀ j, r14 = some j → j < gvN S35 5 := fun j h => Nat.lt_of_lt_of_le (L18 j h) (m37 _)
        have L_t : ∀ j, some t = some j → j < gvN S35 4 := fun j h => Nat.lt_of_lt_of_le (L_t j h) (m37 _)
        have L_p1 : ∀ j, p1 = some j → j < gvN S35 8 := fun j h => Nat.lt_of_lt_of_le (L_p1 j h) (m37 _)
        have hm : ∀ b, gvN S b ≤ gvN S35 b := lh_le_trans hm m37
        have ok := lh_W_ok hW
        obtain ⟨rfl, rfl⟩ := dc_ret hf
        refine W.widen (k := mc) (n := ms) (Nat.zero_le _) (Nat.zero_le _) ?_
        exact W.iret (v := r34) hx hb hr (fun t9 ht9 hW9 => ⟨⟨ad, hE, rfl, ⟨hm, trivial⟩, by rw [ht9]; exact hW⟩, hS.F ht9⟩) hS.2.2 dX4_takeAbove_65
    · replace hf := dc_if_t c19 hf
      refine lh_aload_n hx hb dX4_takeAbove_40 rfl (lv_at hl 1 rfl) ?_
      refine lv_iload_n hx hb dX4_takeAbove_41 rfl (lv_at hl 3 rfl) ?_
      obtain ⟨r38, S39, k40, hf⟩ := dc_bd_ok hf
      refine lh_call (S' := S39) (lh_rv ⟨hx, hb, hml, hown, hts⟩ rfl (As := [.int p2]) (rest := []) (k := 4) (c_X4_end l D cT n S15 ad A H.size (fun q9 h9 => hA q9 (Nat.le_trans hS.1 h9)) t p2 r38 S39 k40 L_t) (cwV 1 hts gX4_takeAbove_X4_end rfl rfl rfl (by decide +kernel) ⟨Nat.le_of_ble_eq_true rfl, Nat.le_of_ble_eq_true rfl⟩) hK hN hW (L_t _ rfl) rfl rfl rfl hl.1 rfl (by simp [lh_cat_r, lh_cat_i, lh_cat_j]) dX4_takeAbove_42 ⟨Nat.zero_le _, Nat.zero_le _⟩) hS (fun H locs hX hW hS => ?_)
      refine W.widen (k := 0) (n := 0) (by omega) (by omega) ?_
      show W _ _ _ _ _ _ _ _ _ _ _ _ _ _ _ (F0 m 45 ls [.int r38])
      have m41 : ∀ b, gvN S15 b ≤ gvN S39 b := hX.1
      have L18 : ∀ j, r14 = some j → j < gvN S39 5 := fun j h => Nat.lt_of_lt_of_le (L18 j h) (m41 _)
      have L_t : ∀ j, some t = some j → j < gvN S39 4 := fun j h => Nat.lt_of_lt_of_le (L_t j h) (m41 _)
      have L_p1 : ∀ j, p1 = some j → j < gvN S39 8 := fun j h => Nat.lt_of_lt_of_le (L_p1 j h) (m41 _)
      have hm : ∀ b, gvN S b ≤ gvN S39 b := lh_le_trans hm m41
      have ok := lh_W_ok hW
      obtain ⟨rfl, rfl⟩ := dc_ret hf
      refine W.widen (k := mc) (n := ms) (Nat.zero_le _) (Nat.zero_le _) ?_
      exact W.iret (v := r38) hx hb hr (fun t9 ht9 hW9 => ⟨⟨ad, hE, rfl, ⟨hm, trivial⟩, by rw [ht9]; exact hW⟩, hS.F ht9⟩) hS.2.2 dX4_takeAbove_45
  · replace hf := dc_if_t c13 hf
    refine lh_aload_n hx hb dX4_takeAbove_21 rfl (lv_at hl 0 rfl) ?_
    refine lv_iconst (v := 2) hx hb dX4_takeAbove_22 (by decide) ?_
    obtain ⟨r42, S43, k44, hf⟩ := dc_bd_ok hf
    refine lh_call (S' := S43) (lh_rsn ⟨hx, hb, hml, hown, hts⟩ (As := [.int (2 : Int32)]) (rest := [lh_r ad 4 (some t)]) (c_X9_failed l D cT n S10 ad A H.size (fun q9 h9 => hA q9 (Nat.le_trans hS.1 h9)) (2 : Int32) r42 S43 k44 ) ⟨va_cnB 1 hts gX4_takeAbove_X9_failed_n81 rfl rfl rfl hN.2.2.1 (hts (.initialized RX9) (List.mem_cons_of_mem _ (List.mem_append_left _ (List.mem_append_left _ (List.mem_append_left _ (List.mem_append_left _ (List.mem_append_left _ (List.mem_append_left _ (List.mem_append_left _ (List.mem_of_getElem? (i := 6) rfl)))))))))) (by decide +kernel) ⟨Nat.le_of_ble_eq_true rfl, Nat.le_of_ble_eq_true rfl⟩, (hts (.static yX9_failed) (List.mem_cons_of_mem _ (List.mem_append_left _ (List.mem_append_left _ (List.mem_append_left _ (List.mem_append_left _ (List.mem_append_left _ (List.mem_append_left _ (List.mem_append_left _ (List.mem_of_getElem? (i := 5) rfl)))))))))), trivial⟩ hK hN hW rfl hl.1 rfl (by simp [lh_cat_r, lh_cat_i, lh_cat_j]) dX4_takeAbove_23 ⟨Nat.zero_le _, Nat.zero_le _⟩) hS (fun H locs hX hW hS => ?_)
    refine W.widen (k := 0) (n := 0) (by omega) (by omega) ?_
    show W _ _ _ _ _ _ _ _ _ _ _ _ _ _ _ (F0 m 26 ls [.int r42, lh_r ad 4 (some t)])
    have m45 : ∀ b, gvN S10 b ≤ gvN S43 b := hX.1
    have L_t : ∀ j, some t = some j → j < gvN S43 4 := fun j h => Nat.lt_of_lt_of_le (L_t j h) (m45 _)
    have L_p1 : ∀ j, p1 = some j → j < gvN S43 8 := fun j h => Nat.lt_of_lt_of_le (L_p1 j h) (m45 _)
    have hm : ∀ b, gvN S b ≤ gvN S43 b := lh_le_trans hm m45
    have ok := lh_W_ok hW
    obtain ⟨r46, S47, k48, hf⟩ := dc_bd_ok hf
    refine lh_call (S' := S47) (lh_rv ⟨hx, hb, hml, hown, hts⟩ rfl (As := [.int r42]) (rest := []) (k := 4) (c_X4_end l D cT n S43 ad A H.size (fun q9 h9 => hA q9 (Nat.le_trans hS.1 h9)) t r42 r46 S47 k48 L_t) (cwV 1 hts gX4_takeAbove_X4_end rfl rfl rfl (by decide +kernel) ⟨Nat.le_of_ble_eq_true rfl, Nat.le_of_ble_eq_true rfl⟩) hK hN hW (L_t _ rfl) rfl rfl rfl hl.1 rfl (by simp [lh_cat_r, lh_cat_i, lh_cat_j]) dX4_takeAbove_26 ⟨Nat.zero_le _, Nat.zero_le _⟩) hS (fun H locs hX hW hS => ?_)
    refine W.widen (k := 0) (n := 0) (by omega) (by omega) ?_
    show W _ _ _ _ _ _ _ _ _ _ _ _ _ _ _ (F0 m 29 ls [.int r46])
    have m49 : ∀ b, gvN S43 b ≤ gvN S47 b := hX.1
    have L_t : ∀ j, some t = some j → j < gvN S47 4 := fun j h => Nat.lt_of_lt_of_le (L_t j h) (m49 _)
    have L_p1 : ∀ j, p1 = some j → j < gvN S47 8 := fun j h => Nat.lt_of_lt_of_le (L_p1 j h) (m49 _)
    have hm : ∀ b, gvN S b ≤ gvN S47 b := lh_le_trans hm m49
    have ok := lh_W_ok hW
    obtain ⟨rfl, rfl⟩ := dc_ret hf
    refine W.widen (k := mc) (n := ms) (Nat.zero_le _) (Nat.zero_le _) ?_
    exact W.iret (v := r46) hx hb hr (fun t9 ht9 hW9 => ⟨⟨ad, hE, rfl, ⟨hm, trivial⟩, by rw [ht9]; exact hW⟩, hS.F ht9⟩) hS.2.2 dX4_takeAbove_29
def f_X4_settle_L4 (n : Nat) (t : Nat) : Nat → lh_S → Int32 → Int32 → Option (Int32 × lh_S)
  | 0, _, _, _ => none
  | g + 1, S1, v3, v4 =>
  dc_if ((1000000 : Int32) ≤ v4) (
  some (v3, S1)) (
  dc_if ((gvI S1 4 t 5) ≤ 0) (
  some (v3, S1)) (
  dc_nn (gvR S1 4 t 4) fun x8 =>
  dc_gd (((gvI S1 4 t 5) - (1 : Int32)) < 0 ∨ gvL S1 18 x8 ≤ (((gvI S1 4 t 5) - (1 : Int32))).toNatClampNeg) (
  dc_nn (gvR S1 18 x8 (((gvI S1 4 t 5) - (1 : Int32))).toNatClampNeg) fun x11 =>
  dc_if ((gvI S1 8 x11 3) = 0) (
  dc_bd (f_X4_begin n S1 t (gvR S1 18 x8 (((gvI S1 4 t 5) - (1 : Int32))).toNatClampNeg)) fun r13 S14 =>
  f_X4_settle_L4 n t g S14 r13 (v4 + (1 : Int32))) (
  dc_if ((gvI S1 8 x11 3) = 1) (
  dc_bd (f_X4_takeFromFirstParent n S1 t (gvR S1 18 x8 (((gvI S1 4 t 5) - (1 : Int32))).toNatClampNeg) v3) fun r20 S21 =>
  f_X4_settle_L4 n t g S21 r20 (v4 + (1 : Int32))) (
  dc_if ((gvI S1 8 x11 3) = 2) (
  dc_bd (f_X4_takeFromParent n S1 t (gvR S1 18 x8 (((gvI S1 4 t 5) - (1 : Int32))).toNatClampNeg) v3) fun r25 S26 =>
  f_X4_settle_L4 n t g S26 r25 (v4 + (1 : Int32))) (
  dc_if ((gvI S1 8 x11 3) = 3) (
  dc_bd (f_X4_tryItselfFirst n S1 t (gvR S1 18 x8 (((gvI S1 4 t 5) - (1 : Int32))).toNatClampNeg)) fun r30 S31 =>
  f_X4_settle_L4 n t g S31 r30 (v4 + (1 : Int32))) (
  dc_if ((gvI S1 8 x11 3) = 4) (
  dc_bd (f_X4_tryItself n S1 t (gvR S1 18 x8 (((gvI S1 4 t 5) - (1 : Int32))).toNatClampNeg)) fun r37 S38 =>
  f_X4_settle_L4 n t g S38 r37 (v4 + (1 : Int32))) (
  dc_if ((gvI S1 8 x11 3) = 5) (
  dc_bd (f_X4_beginToDefine n S1 t (gvR S1 18 x8 (((gvI S1 4 t 5) - (1 : Int32))).toNatClampNeg)) fun r42 S43 =>
  f_X4_settle_L4 n t g S43 r42 (v4 + (1 : Int32))) (
  dc_bd (f_X4_takeAbove n S1 t (gvR S1 18 x8 (((gvI S1 4 t 5) - (1 : Int32))).toNatClampNeg) v3) fun r48 S49 =>
  f_X4_settle_L4 n t g S49 r48 (v4 + (1 : Int32)))))))))))
theorem m_X4_settle_L4 {n : Nat} {t : Nat} {r : Int32} {S' : lh_S} : ∀ (g : Nat) (S1 : lh_S) (v3 : Int32) (v4 : Int32), f_X4_settle_L4 n t g S1 v3 v4 = some (r, S') → ∀ b, gvN S1 b ≤ gvN S' b := by
    intro g
    induction g with
    | zero => intro S1 v3 v4 hf; rw [f_X4_settle_L4] at hf; cases hf
    | succ g ih =>
      intro S1 v3 v4 hf
      rw [f_X4_settle_L4] at hf
      have hm : ∀ b, gvN S1 b ≤ gvN S1 b := fun _ => Nat.le_refl _
      by_cases c5 : (1000000 : Int32) ≤ v4
      · replace hf := dc_if_t c5 hf
        obtain ⟨_, rfl⟩ := dc_ret hf
        exact hm
      · replace hf := dc_if_f c5 hf
        by_cases c6 : (gvI S1 4 t 5) ≤ 0
        · replace hf := dc_if_t c6 hf
          obtain ⟨_, rfl⟩ := dc_ret hf
          exact hm
        · replace hf := dc_if_f c6 hf
          obtain ⟨x8, hx8, hf⟩ := dc_nn_ok hf
          obtain ⟨g9, hf⟩ := dc_gd_ok hf
          obtain ⟨x11, hx11, hf⟩ := dc_nn_ok hf
          by_cases c12 : (gvI S1 8 x11 3) = 0
          · replace hf := dc_if_t c12 hf
            obtain ⟨r13, S14, k15, hf⟩ := dc_bd_ok hf
            have hm := lh_le_trans hm (show ∀ b, gvN S1 b ≤ gvN S14 b from m_X4_begin k15)
            exact lh_le_trans hm (ih S14 r13 (v4 + (1 : Int32)) hf)
          replace hf := dc_if_f c12 hf
          by_cases c19 : (gvI S1 8 x11 3) = 1
          · replace hf := dc_if_t c19 hf
            obtain ⟨r20, S21, k22, hf⟩ := dc_bd_ok hf
            have hm := lh_le_trans hm (show ∀ b, gvN S1 b ≤ gvN S21 b from m_X4_takeFromFirstParent k22)
            exact lh_le_trans hm (ih S21 r20 (v4 + (1 : Int32)) hf)
          replace hf := dc_if_f c19 hf
          by_cases c24 : (gvI S1 8 x11 3) = 2
          · replace hf := dc_if_t c24 hf
            obtain ⟨r25, S26, k27, hf⟩ := dc_bd_ok hf
            have hm := lh_le_trans hm (show ∀ b, gvN S1 b ≤ gvN S26 b from m_X4_takeFromParent k27)
            exact lh_le_trans hm (ih S26 r25 (v4 + (1 : Int32)) hf)
          replace hf := dc_if_f c24 hf
          by_cases c29 : (gvI S1 8 x11 3) = 3
          · replace hf := dc_if_t c29 hf
            obtain ⟨r30, S31, k32, hf⟩ := dc_bd_ok hf
            have hm := lh_le_trans hm (show ∀ b, gvN S1 b ≤ gvN S31 b from m_X4_tryItselfFirst k32)
            exact lh_le_trans hm (ih S31 r30 (v4 + (1 : Int32)) hf)
          replace hf := dc_if_f c29 hf
          by_cases c36 : (gvI S1 8 x11 3) = 4
          · replace hf := dc_if_t c36 hf
            obtain ⟨r37, S38, k39, hf⟩ := dc_bd_ok hf
            have hm := lh_le_trans hm (show ∀ b, gvN S1 b ≤ gvN S38 b from m_X4_tryItself k39)
            exact lh_le_trans hm (ih S38 r37 (v4 + (1 : Int32)) hf)
          replace hf := dc_if_f c36 hf
          by_cases c41 : (gvI S1 8 x11 3) = 5
          · replace hf := dc_if_t c41 hf
            obtain ⟨r42, S43, k44, hf⟩ := dc_bd_ok hf
            have hm := lh_le_trans hm (show ∀ b, gvN S1 b ≤ gvN S43 b from m_X4_beginToDefine k44)
            exact lh_le_trans hm (ih S43 r42 (v4 + (1 : Int32)) hf)
          replace hf := dc_if_f c41 hf
          obtain ⟨r48, S49, k50, hf⟩ := dc_bd_ok hf
          have hm := lh_le_trans hm (show ∀ b, gvN S1 b ≤ gvN S49 b from m_X4_takeAbove k50)
          exact lh_le_trans hm (ih S49 r48 (v4 + (1 : Int32)) hf)
theorem k_X4_settle_L4 {n : Nat} {t : Nat} {r : Int32} {S' : lh_S} : ∀ (g : Nat) (S1 : lh_S) (v3 : Int32) (v4 : Int32), f_X4_settle_L4 n t g S1 v3 v4 = some (r, S') → lh_sm9 S1 S' := by
    intro g
    induction g with
    | zero => intro S1 v3 v4 hf; rw [f_X4_settle_L4] at hf; cases hf
    | succ g ih =>
      intro S1 v3 v4 hf
      rw [f_X4_settle_L4] at hf
      have hm : lh_sm9 S1 S1 := lh_sm9_rf
      by_cases c5 : (1000000 : Int32) ≤ v4
      · replace hf := dc_if_t c5 hf
        obtain ⟨_, rfl⟩ := dc_ret hf
        exact hm
      · replace hf := dc_if_f c5 hf
        by_cases c6 : (gvI S1 4 t 5) ≤ 0
        · replace hf := dc_if_t c6 hf
          obtain ⟨_, rfl⟩ := dc_ret hf
          exact hm
        · replace hf := dc_if_f c6 hf
          obtain ⟨x8, hx8, hf⟩ := dc_nn_ok hf
          obtain ⟨g9, hf⟩ := dc_gd_ok hf
          obtain ⟨x11, hx11, hf⟩ := dc_nn_ok hf
          by_cases c12 : (gvI S1 8 x11 3) = 0
          · replace hf := dc_if_t c12 hf
            obtain ⟨r13, S14, k15, hf⟩ := dc_bd_ok hf
            have hm := lh_sm9_trans hm (show lh_sm9 S1 S14 from k_X4_begin k15)
            exact lh_sm9_trans hm (ih S14 r13 (v4 + (1 : Int32)) hf)
          replace hf := dc_if_f c12 hf
          by_cases c19 : (gvI S1 8 x11 3) = 1
          · replace hf := dc_if_t c19 hf
            obtain ⟨r20, S21, k22, hf⟩ := dc_bd_ok hf
            have hm := lh_sm9_trans hm (show lh_sm9 S1 S21 from k_X4_takeFromFirstParent k22)
            exact lh_sm9_trans hm (ih S21 r20 (v4 + (1 : Int32)) hf)
          replace hf := dc_if_f c19 hf
          by_cases c24 : (gvI S1 8 x11 3) = 2
          · replace hf := dc_if_t c24 hf
            obtain ⟨r25, S26, k27, hf⟩ := dc_bd_ok hf
            have hm := lh_sm9_trans hm (show lh_sm9 S1 S26 from k_X4_takeFromParent k27)
            exact lh_sm9_trans hm (ih S26 r25 (v4 + (1 : Int32)) hf)
          replace hf := dc_if_f c24 hf
          by_cases c29 : (gvI S1 8 x11 3) = 3
          · replace hf := dc_if_t c29 hf
            obtain ⟨r30, S31, k32, hf⟩ := dc_bd_ok hf
            have hm := lh_sm9_trans hm (show lh_sm9 S1 S31 from k_X4_tryItselfFirst k32)
            exact lh_sm9_trans hm (ih S31 r30 (v4 + (1 : Int32)) hf)
          replace hf := dc_if_f c29 hf
          by_cases c36 : (gvI S1 8 x11 3) = 4
          · replace hf := dc_if_t c36 hf
            obtain ⟨r37, S38, k39, hf⟩ := dc_bd_ok hf
            have hm := lh_sm9_trans hm (show lh_sm9 S1 S38 from k_X4_tryItself k39)
            exact lh_sm9_trans hm (ih S38 r37 (v4 + (1 : Int32)) hf)
          replace hf := dc_if_f c36 hf
          by_cases c41 : (gvI S1 8 x11 3) = 5
          · replace hf := dc_if_t c41 hf
            obtain ⟨r42, S43, k44, hf⟩ := dc_bd_ok hf
            have hm := lh_sm9_trans hm (show lh_sm9 S1 S43 from k_X4_beginToDefine k44)
            exact lh_sm9_trans hm (ih S43 r42 (v4 + (1 : Int32)) hf)
          replace hf := dc_if_f c41 hf
          obtain ⟨r48, S49, k50, hf⟩ := dc_bd_ok hf
          have hm := lh_sm9_trans hm (show lh_sm9 S1 S49 from k_X4_takeAbove k50)
          exact lh_sm9_trans hm (ih S49 r48 (v4 + (1 : Int32)) hf)
def f_X4_settle (n : Nat) (S : lh_S) (t : Nat) : Option (Int32 × lh_S) :=
  f_X4_settle_L4 n t n S (-1 : Int32) (0 : Int32)
set_option maxHeartbeats 1000000 in
theorem m_X4_settle {n : Nat} {S : lh_S} {t : Nat} {r : Int32} {S' : lh_S} (hf : f_X4_settle n S t = some (r, S')) : ∀ b, gvN S b ≤ gvN S' b := by
  have hm : ∀ b, gvN S b ≤ gvN S b := fun _ => Nat.le_refl _
  unfold f_X4_settle at hf
  exact lh_le_trans hm (m_X4_settle_L4 n S (-1 : Int32) (0 : Int32) hf)
set_option maxHeartbeats 1000000 in
theorem k_X4_settle {n : Nat} {S : lh_S} {t : Nat} {r : Int32} {S' : lh_S} (hf : f_X4_settle n S t = some (r, S')) : lh_sm9 S S' := by
  have hm : lh_sm9 S S := lh_sm9_rf
  unfold f_X4_settle at hf
  exact lh_sm9_trans hm (k_X4_settle_L4 n S (-1 : Int32) (0 : Int32) hf)
set_option maxHeartbeats 4000000 in
set_option maxRecDepth 100000 in
theorem c_X4_settle (l : Launch) (D : va_G) (cT : Nat → ClassId) (n : Nat) (S : lh_S) (ad : Nat → Nat → Nat) (A : Nat → Prop) (sz : Nat) (hA : ∀ q, sz ≤ q → A q) (t : Nat) (r : Int32) (S' : lh_S) (hf : f_X4_settle n S t = some (r, S')) (L_t : ∀ j, some t = some j → j < gvN S 4) (mc ms : Nat) (hmc : gvN S' 8 + gvN S' 5 ≤ gvN S 8 + gvN S 5 + mc) (hms : 4 * gvN S' 8 + 6 * gvN S' 5 ≤ 4 * gvN S 8 + 6 * gvN S 5 + ms) : Met l yX4_settle wsX4_settle ({ frames := 5, cells := mc, slots := ms, locals := 110 } : Room) (lh_P D cT S ad A sz [lh_r ad 4 (some t)]) (lh_QA D cT S S' ad A ((∀ b, gvN S b ≤ gvN S' b) ∧ True) (fun ad9 => some (.int r))) mc ms A := by
  refine Met.ofW (cc := cX4_settle) (maxL := 4) (ret := (some .int)) (by decide) rfl ?_
  intro p e s m args below meth c s₁ B hml hv
  obtain ⟨hargs, hsz, hW, hK, hN⟩ := hv
  have hx := B.exec
  have hb := B.bytes
  have hr := B.returns
  have hts := atoms_spec (ws := wsX4_settle) B.pre
  have hown : s.vm.findClass RX4 = some m.cls := findClass_of_methodNamed B.named
  have hlocks := B.notSynchronized
  have hA : ∀ q, s.heap.size ≤ q → A q := fun q h => hA q (by rw [← hsz]; exact h)
  have L4 : ∀ (g : Nat) (S1 : lh_S) (v3 : Int32) (v4 : Int32) (ad2 : Nat → Nat → Nat), f_X4_settle_L4 n t g S1 v3 v4 = some (r, S') → (∀ b, gvN S b ≤ gvN S1 b) → lh_E S ad ad2 → ∀ (cl sl : Nat), cl + (gvN S 8 + gvN S 5) ≤ gvN S1 8 + gvN S1 5 → sl + (4 * gvN S 8 + 6 * gvN S 5) ≤ 4 * gvN S1 8 + 6 * gvN S1 5 → ∀ (H : Heap) (locs : List Loc), lh_W D cT S1 ad2 A H → va_S A s.heap H locs → ∀ (ls : Array Slot), lv_has ls 4 [(0, lh_r ad2 4 (some t)), (1, .int v3), (2, .int v4)] → W p l e (headSpec wsX4_settle ({ frames := 5, cells := mc, slots := ms, locals := 110 } : Room)).room s m args below meth c H locs cl sl (MQ below (lh_QA D cT S S' ad A ((∀ b, gvN S b ≤ gvN S' b) ∧ True) (fun ad9 => some (.int r))) args s mc ms A) (F0 m 4 ls []) := by
    intro g
    induction g with
    | zero => intro S1 v3 v4 ad2 hf; rw [f_X4_settle_L4] at hf; cases hf
    | succ g ih =>
      intro S1 v3 v4 ad2 hf hm hE cl sl hcl hsl H locs hW hS ls hl
      have q8 := m_X4_settle_L4 (g + 1) S1 v3 v4 hf 8
      have q9 := m_X4_settle_L4 (g + 1) S1 v3 v4 hf 5
      have h1m : ∀ b, gvN S1 b ≤ gvN S1 b := fun _ => Nat.le_refl _
      rw [f_X4_settle_L4] at hf
      have ok := lh_W_ok hW
      have L_t : ∀ j, some t = some j → j < gvN S1 4 := fun j h => Nat.lt_of_lt_of_le (L_t j h) (hm _)
      refine lv_iload_n hx hb dX4_settle_4 rfl (lv_at hl 2 rfl) ?_
      refine lv_ldc (v := 1000000) hx hb hown (hts (.constant RX4 51 (1000000)) (List.mem_cons_of_mem _ (List.mem_append_left _ (List.mem_append_left _ (List.mem_append_left _ (List.mem_append_left _ (List.mem_append_left _ (List.mem_append_left _ (List.mem_append_left _ (List.mem_append_left _ (List.mem_of_getElem? (i := 0) rfl))))))))))) dX4_settle_5 ?_
      refine lv_icmp_ge (tgt := 141) hx hb dX4_settle_7 (by decide) (fun c5 => ?_) (fun c5 => ?_)
      · replace hf := dc_if_t c5 hf
        refine lv_iload_n hx hb dX4_settle_141 rfl (lv_at hl 1 rfl) ?_
        obtain ⟨rfl, rfl⟩ := dc_ret hf
        refine W.widen (k := mc) (n := ms) (by omega) (by omega) ?_
        exact W.iret (v := v3) hx hb hr (fun t9 ht9 hW9 => ⟨⟨ad2, hE, rfl, ⟨hm, trivial⟩, by rw [ht9]; exact hW⟩, hS.F ht9⟩) hS.2.2 dX4_settle_142
      · replace hf := dc_if_f c5 hf
        refine lh_aload_n hx hb dX4_settle_10 rfl (lv_at hl 0 rfl) ?_
        refine lh_get (a := 4) (k := 5) (N := 6) (C := RX4) (T := TX4) (own := RX4) (ref := "LoaderModels$Loading") hx hb hts (fun _ h => (List.mem_cons_of_mem _ (List.mem_append_left _ (List.mem_append_left _ (List.mem_append_left _ (List.mem_append_left _ (List.mem_append_left _ (List.mem_append_left _ (List.mem_append_right _ h))))))))) hown hK hW rfl (L_t _ rfl) rfl rfl rfl (by decide) (hts (.fieldLink RX4 52 "LoaderModels$Loading" "depth" "I") (List.mem_cons_of_mem _ (List.mem_append_left _ (List.mem_append_left _ (List.mem_append_left _ (List.mem_append_left _ (List.mem_append_left _ (List.mem_append_left _ (List.mem_append_left _ (List.mem_append_left _ (List.mem_of_getElem? (i := 1) rfl))))))))))) (fun _ h9 => h9) dX4_settle_11 (v := .int (gvI S1 4 t 5)) rfl ?_
        refine lv_if_le (tgt := 141) hx hb dX4_settle_14 (by decide) (fun c6 => ?_) (fun c6 => ?_)
        · replace hf := dc_if_t c6 hf
          refine lv_iload_n hx hb dX4_settle_141 rfl (lv_at hl 1 rfl) ?_
          obtain ⟨rfl, rfl⟩ := dc_ret hf
          refine W.widen (k := mc) (n := ms) (by omega) (by omega) ?_
          exact W.iret (v := v3) hx hb hr (fun t9 ht9 hW9 => ⟨⟨ad2, hE, rfl, ⟨hm, trivial⟩, by rw [ht9]; exact hW⟩, hS.F ht9⟩) hS.2.2 dX4_settle_142
        · replace hf := dc_if_f c6 hf
          refine lh_aload_n hx hb dX4_settle_17 rfl (lv_at hl 0 rfl) ?_
          have L7 : ∀ j, gvR S1 4 t 4 = some j → j < gvN S1 18 := fun j h => ok _ _ _ _ j (L_t _ rfl) rfl h
          refine lh_get (a := 4) (k := 4) (N := 6) (C := RX4) (T := TX4) (own := RX4) (ref := "LoaderModels$Loading") hx hb hts (fun _ h => (List.mem_cons_of_mem _ (List.mem_append_left _ (List.mem_append_left _ (List.mem_append_left _ (List.mem_append_left _ (List.mem_append_left _ (List.mem_append_left _ (List.mem_append_right _ h))))))))) hown hK hW rfl (L_t _ rfl) rfl rfl rfl (by decide) (hts (.fieldLink RX4 26 "LoaderModels$Loading" "steps" "[LLoaderModels$Step;") (List.mem_cons_of_mem _ (List.mem_append_left _ (List.mem_append_left _ (List.mem_append_left _ (List.mem_append_left _ (List.mem_append_left _ (List.mem_append_left _ (List.mem_append_left _ (List.mem_append_left _ (List.mem_of_getElem? (i := 2) rfl))))))))))) (fun _ h9 => h9) dX4_settle_18 (v := lh_r ad2 18 (gvR S1 4 t 4)) rfl ?_
          refine lh_aload_n hx hb dX4_settle_21 rfl (lv_at hl 0 rfl) ?_
          refine lh_get (a := 4) (k := 5) (N := 6) (C := RX4) (T := TX4) (own := RX4) (ref := "LoaderModels$Loading") hx hb hts (fun _ h => (List.mem_cons_of_mem _ (List.mem_append_left _ (List.mem_append_left _ (List.mem_append_left _ (List.mem_append_left _ (List.mem_append_left _ (List.mem_append_left _ (List.mem_append_right _ h))))))))) hown hK hW rfl (L_t _ rfl) rfl rfl rfl (by decide) (hts (.fieldLink RX4 52 "LoaderModels$Loading" "depth" "I") (List.mem_cons_of_mem _ (List.mem_append_left _ (List.mem_append_left _ (List.mem_append_left _ (List.mem_append_left _ (List.mem_append_left _ (List.mem_append_left _ (List.mem_append_left _ (List.mem_append_left _ (List.mem_of_getElem? (i := 1) rfl))))))))))) (fun _ h9 => h9) dX4_settle_22 (v := .int (gvI S1 4 t 5)) rfl ?_
          refine lv_iconst (v := 1) hx hb dX4_settle_25 (by decide) ?_
          refine lv_isub hx hb dX4_settle_26 ?_
          obtain ⟨x8, hx8, hf⟩ := dc_nn_ok hf
          obtain ⟨g9, hf⟩ := dc_gd_ok hf
          have L10 : ∀ j, gvR S1 18 x8 (((gvI S1 4 t 5) - (1 : Int32))).toNatClampNeg = some j → j < gvN S1 8 := fun j h => ok 18 _ _ 8 j (L7 _ hx8) rfl h
          refine lh_ald_r (a := 18) (t0 := 8) (t := 8) hx hb hK hW hx8 (L7 _ hx8) rfl rfl rfl g9 dX4_settle_27 ?_
          refine lh_astore_n (i := 3) (lv' := [(3, lh_r ad2 8 (gvR S1 18 x8 (((gvI S1 4 t 5) - (1 : Int32))).toNatClampNeg)), (0, lh_r ad2 4 (some t)), (1, .int v3), (2, .int v4)]) hx hb dX4_settle_28 rfl hl (by decide) (by first | rfl | simp [lh_cat_r, lh_cat_i, lh_cat_j]) (fun ls hl => ?_)
          refine lh_aload_n hx hb dX4_settle_29 rfl (lv_at hl 0 rfl) ?_
          obtain ⟨x11, hx11, hf⟩ := dc_nn_ok hf
          refine lh_get (a := 8) (k := 3) (N := 4) (C := RX8) (T := TX8) (own := RX4) (ref := "LoaderModels$Step") hx hb hts (fun _ h => (List.mem_cons_of_mem _ (List.mem_append_left _ (List.mem_append_left _ (List.mem_append_left _ (List.mem_append_left _ (List.mem_append_left _ (List.mem_append_right _ h)))))))) hown hK hW hx11 (L10 _ hx11) rfl rfl rfl (by decide) (hts (.fieldLink RX4 55 "LoaderModels$Step" "stage" "I") (List.mem_cons_of_mem _ (List.mem_append_left _ (List.mem_append_left _ (List.mem_append_left _ (List.mem_append_left _ (List.mem_append_left _ (List.mem_append_left _ (List.mem_append_left _ (List.mem_append_left _ (List.mem_of_getElem? (i := 3) rfl))))))))))) (fun _ h9 => h9) dX4_settle_30 (v := .int (gvI S1 8 x11 3)) rfl ?_
          by_cases c12 : (gvI S1 8 x11 3) = 0
          · refine lv_tableIn (tgt := 72) hx hb dX4_settle_33 (by rw [c12]; decide) (by rw [c12]; decide) (by rw [c12]; rfl) (by decide) ?_
            replace hf := dc_if_t c12 hf
            refine lh_aload_n hx hb dX4_settle_72 rfl (lv_at hl 1 rfl) ?_
            refine lh_aload_n hx hb dX4_settle_73 rfl (lv_at hl 0 rfl) ?_
            obtain ⟨r13, S14, k15, hf⟩ := dc_bd_ok hf
            have hn : ∀ b, gvN S14 b ≤ gvN S' b := by
              have hm : ∀ b, gvN S14 b ≤ gvN S14 b := fun _ => Nat.le_refl _
              exact lh_le_trans hm (m_X4_settle_L4 g S14 r13 (v4 + (1 : Int32)) hf)
            have q1 := m_X4_begin k15 8
            have q2 := m_X4_begin k15 5
            have q3 := hn 8
            have q4 := hn 5
            have q5 := hm 8
            have q6 := hm 5
            have hc9 : cl + (gvN S14 8 + gvN S14 5 - (gvN S1 8 + gvN S1 5)) ≤ mc := by omega
            have hs9 : sl + (4 * gvN S14 8 + 6 * gvN S14 5 - (4 * gvN S1 8 + 6 * gvN S1 5)) ≤ ms := by omega
            refine lh_callA (S' := S14) (lh_rv ⟨hx, hb, hml, hown, hts⟩ rfl (As := [lh_r ad2 8 (gvR S1 18 x8 (((gvI S1 4 t 5) - (1 : Int32))).toNatClampNeg)]) (rest := []) (k := 4) (c_X4_begin l D cT n S1 ad2 A H.size (fun q9 h9 => hA q9 (Nat.le_trans hS.1 h9)) t (gvR S1 18 x8 (((gvI S1 4 t 5) - (1 : Int32))).toNatClampNeg) r13 S14 k15 L_t L10 (gvN S14 8 + gvN S14 5 - (gvN S1 8 + gvN S1 5)) (4 * gvN S14 8 + 6 * gvN S14 5 - (4 * gvN S1 8 + 6 * gvN S1 5)) (by omega) (by omega)) (cwV 1 hts gX4_settle_X4_begin rfl rfl rfl (by decide +kernel) ⟨Nat.le_of_ble_eq_true rfl, Nat.le_of_ble_eq_true rfl⟩) hK hN hW (L_t _ rfl) rfl rfl rfl hl.1 rfl (by simp [lh_cat_r, lh_cat_i, lh_cat_j]) dX4_settle_74 ⟨hc9, hs9⟩) hS (fun ad16 H locs hE17 hX hW hS => ?_)
            show W _ _ _ _ _ _ _ _ _ _ _ _ _ _ _ (F0 m 77 ls [.int r13])
            rw [lh_rE hE17 L10] at hl
            rw [lh_rE hE17 L_t] at hl
            have hE : lh_E S ad ad16 := lh_E.trans hE hm hE17
            have m18 : ∀ b, gvN S1 b ≤ gvN S14 b := hX.1
            have L10 : ∀ j, gvR S1 18 x8 (((gvI S1 4 t 5) - (1 : Int32))).toNatClampNeg = some j → j < gvN S14 8 := fun j h => Nat.lt_of_lt_of_le (L10 j h) (m18 _)
            have L_t : ∀ j, some t = some j → j < gvN S14 4 := fun j h => Nat.lt_of_lt_of_le (L_t j h) (m18 _)
            have hm : ∀ b, gvN S b ≤ gvN S14 b := lh_le_trans hm m18
            have ok := lh_W_ok hW
            have h1m := lh_le_trans h1m m18
            refine lv_istore_n (i := 1) (lv' := [(1, .int r13), (3, lh_r ad16 8 (gvR S1 18 x8 (((gvI S1 4 t 5) - (1 : Int32))).toNatClampNeg)), (0, lh_r ad16 4 (some t)), (2, .int v4)]) hx hb dX4_settle_77 rfl hl (by decide) (by first | rfl | simp [lh_cat_r, lh_cat_i, lh_cat_j]) (fun ls hl => ?_)
            refine lv_goto (tgt := 135) hx hb dX4_settle_78 (by decide) ?_
            refine lv_iinc (v := v4 + (1 : Int32)) (lv' := [(2, .int (v4 + (1 : Int32))), (1, .int r13), (3, lh_r ad16 8 (gvR S1 18 x8 (((gvI S1 4 t 5) - (1 : Int32))).toNatClampNeg)), (0, lh_r ad16 4 (some t))]) hx hb dX4_settle_135 hl (k := 3) rfl (by first | rfl | decide) (by decide) (by first | rfl | simp [lh_cat_r, lh_cat_i, lh_cat_j]) (fun ls hl => ?_)
            refine lv_goto (tgt := 4) hx hb dX4_settle_138 (by decide) ?_
            exact ih S14 r13 (v4 + (1 : Int32)) ad16 hf hm hE (cl + (gvN S14 8 + gvN S14 5 - (gvN S1 8 + gvN S1 5))) (sl + (4 * gvN S14 8 + 6 * gvN S14 5 - (4 * gvN S1 8 + 6 * gvN S1 5))) (by have u1 := h1m 8; have u2 := h1m 5; omega) (by have u1 := h1m 8; have u2 := h1m 5; omega) _ _ hW hS _ (lv_sub hl [3, 1, 0] (by first | rfl | simp [lv_pick]))
          replace hf := dc_if_f c12 hf
          by_cases c19 : (gvI S1 8 x11 3) = 1
          · refine lv_tableIn (tgt := 81) hx hb dX4_settle_33 (by rw [c19]; decide) (by rw [c19]; decide) (by rw [c19]; rfl) (by decide) ?_
            replace hf := dc_if_t c19 hf
            refine lh_aload_n hx hb dX4_settle_81 rfl (lv_at hl 1 rfl) ?_
            refine lh_aload_n hx hb dX4_settle_82 rfl (lv_at hl 0 rfl) ?_
            refine lv_iload_n hx hb dX4_settle_83 rfl (lv_at hl 2 rfl) ?_
            obtain ⟨r20, S21, k22, hf⟩ := dc_bd_ok hf
            refine lh_call (S' := S21) (lh_rv ⟨hx, hb, hml, hown, hts⟩ rfl (As := [lh_r ad2 8 (gvR S1 18 x8 (((gvI S1 4 t 5) - (1 : Int32))).toNatClampNeg), .int v3]) (rest := []) (k := 4) (c_X4_takeFromFirstParent l D cT n S1 ad2 A H.size (fun q9 h9 => hA q9 (Nat.le_trans hS.1 h9)) t (gvR S1 18 x8 (((gvI S1 4 t 5) - (1 : Int32))).toNatClampNeg) v3 r20 S21 k22 L_t L10) (cwV 2 hts gX4_settle_X4_takeFromFirstParent rfl rfl rfl (by decide +kernel) ⟨Nat.le_of_ble_eq_true rfl, Nat.le_of_ble_eq_true rfl⟩) hK hN hW (L_t _ rfl) rfl rfl rfl hl.1 rfl (by simp [lh_cat_r, lh_cat_i, lh_cat_j]) dX4_settle_84 ⟨by show cl + 0 ≤ mc; omega, by show sl + 0 ≤ ms; omega⟩) hS (fun H locs hX hW hS => ?_)
            refine W.widen (k := cl) (n := sl) (by omega) (by omega) ?_
            show W _ _ _ _ _ _ _ _ _ _ _ _ _ _ _ (F0 m 87 ls [.int r20])
            have m23 : ∀ b, gvN S1 b ≤ gvN S21 b := hX.1
            have L10 : ∀ j, gvR S1 18 x8 (((gvI S1 4 t 5) - (1 : Int32))).toNatClampNeg = some j → j < gvN S21 8 := fun j h => Nat.lt_of_lt_of_le (L10 j h) (m23 _)
            have L_t : ∀ j, some t = some j → j < gvN S21 4 := fun j h => Nat.lt_of_lt_of_le (L_t j h) (m23 _)
            have hm : ∀ b, gvN S b ≤ gvN S21 b := lh_le_trans hm m23
            have ok := lh_W_ok hW
            have h1m := lh_le_trans h1m m23
            refine lv_istore_n (i := 1) (lv' := [(1, .int r20), (3, lh_r ad2 8 (gvR S1 18 x8 (((gvI S1 4 t 5) - (1 : Int32))).toNatClampNeg)), (0, lh_r ad2 4 (some t)), (2, .int v4)]) hx hb dX4_settle_87 rfl hl (by decide) (by first | rfl | simp [lh_cat_r, lh_cat_i, lh_cat_j]) (fun ls hl => ?_)
            refine lv_goto (tgt := 135) hx hb dX4_settle_88 (by decide) ?_
            refine lv_iinc (v := v4 + (1 : Int32)) (lv' := [(2, .int (v4 + (1 : Int32))), (1, .int r20), (3, lh_r ad2 8 (gvR S1 18 x8 (((gvI S1 4 t 5) - (1 : Int32))).toNatClampNeg)), (0, lh_r ad2 4 (some t))]) hx hb dX4_settle_135 hl (k := 3) rfl (by first | rfl | decide) (by decide) (by first | rfl | simp [lh_cat_r, lh_cat_i, lh_cat_j]) (fun ls hl => ?_)
            refine lv_goto (tgt := 4) hx hb dX4_settle_138 (by decide) ?_
            exact ih S21 r20 (v4 + (1 : Int32)) ad2 hf hm hE (cl) (sl) (by have u1 := h1m 8; have u2 := h1m 5; omega) (by have u1 := h1m 8; have u2 := h1m 5; omega) _ _ hW hS _ (lv_sub hl [3, 1, 0] (by first | rfl | simp [lv_pick]))
          replace hf := dc_if_f c19 hf
          by_cases c24 : (gvI S1 8 x11 3) = 2
          · refine lv_tableIn (tgt := 91) hx hb dX4_settle_33 (by rw [c24]; decide) (by rw [c24]; decide) (by rw [c24]; rfl) (by decide) ?_
            replace hf := dc_if_t c24 hf
            refine lh_aload_n hx hb dX4_settle_91 rfl (lv_at hl 1 rfl) ?_
            refine lh_aload_n hx hb dX4_settle_92 rfl (lv_at hl 0 rfl) ?_
            refine lv_iload_n hx hb dX4_settle_93 rfl (lv_at hl 2 rfl) ?_
            obtain ⟨r25, S26, k27, hf⟩ := dc_bd_ok hf
            refine lh_call (S' := S26) (lh_rv ⟨hx, hb, hml, hown, hts⟩ rfl (As := [lh_r ad2 8 (gvR S1 18 x8 (((gvI S1 4 t 5) - (1 : Int32))).toNatClampNeg), .int v3]) (rest := []) (k := 4) (c_X4_takeFromParent l D cT n S1 ad2 A H.size (fun q9 h9 => hA q9 (Nat.le_trans hS.1 h9)) t (gvR S1 18 x8 (((gvI S1 4 t 5) - (1 : Int32))).toNatClampNeg) v3 r25 S26 k27 L_t L10) (cwV 2 hts gX4_settle_X4_takeFromParent rfl rfl rfl (by decide +kernel) ⟨Nat.le_of_ble_eq_true rfl, Nat.le_of_ble_eq_true rfl⟩) hK hN hW (L_t _ rfl) rfl rfl rfl hl.1 rfl (by simp [lh_cat_r, lh_cat_i, lh_cat_j]) dX4_settle_94 ⟨by show cl + 0 ≤ mc; omega, by show sl + 0 ≤ ms; omega⟩) hS (fun H locs hX hW hS => ?_)
            refine W.widen (k := cl) (n := sl) (by omega) (by omega) ?_
            show W _ _ _ _ _ _ _ _ _ _ _ _ _ _ _ (F0 m 97 ls [.int r25])
            have m28 : ∀ b, gvN S1 b ≤ gvN S26 b := hX.1
            have L10 : ∀ j, gvR S1 18 x8 (((gvI S1 4 t 5) - (1 : Int32))).toNatClampNeg = some j → j < gvN S26 8 := fun j h => Nat.lt_of_lt_of_le (L10 j h) (m28 _)
            have L_t : ∀ j, some t = some j → j < gvN S26 4 := fun j h => Nat.lt_of_lt_of_le (L_t j h) (m28 _)
            have hm : ∀ b, gvN S b ≤ gvN S26 b := lh_le_trans hm m28
            have ok := lh_W_ok hW
            have h1m := lh_le_trans h1m m28
            refine lv_istore_n (i := 1) (lv' := [(1, .int r25), (3, lh_r ad2 8 (gvR S1 18 x8 (((gvI S1 4 t 5) - (1 : Int32))).toNatClampNeg)), (0, lh_r ad2 4 (some t)), (2, .int v4)]) hx hb dX4_settle_97 rfl hl (by decide) (by first | rfl | simp [lh_cat_r, lh_cat_i, lh_cat_j]) (fun ls hl => ?_)
            refine lv_goto (tgt := 135) hx hb dX4_settle_98 (by decide) ?_
            refine lv_iinc (v := v4 + (1 : Int32)) (lv' := [(2, .int (v4 + (1 : Int32))), (1, .int r25), (3, lh_r ad2 8 (gvR S1 18 x8 (((gvI S1 4 t 5) - (1 : Int32))).toNatClampNeg)), (0, lh_r ad2 4 (some t))]) hx hb dX4_settle_135 hl (k := 3) rfl (by first | rfl | decide) (by decide) (by first | rfl | simp [lh_cat_r, lh_cat_i, lh_cat_j]) (fun ls hl => ?_)
            refine lv_goto (tgt := 4) hx hb dX4_settle_138 (by decide) ?_
            exact ih S26 r25 (v4 + (1 : Int32)) ad2 hf hm hE (cl) (sl) (by have u1 := h1m 8; have u2 := h1m 5; omega) (by have u1 := h1m 8; have u2 := h1m 5; omega) _ _ hW hS _ (lv_sub hl [3, 1, 0] (by first | rfl | simp [lv_pick]))
          replace hf := dc_if_f c24 hf
          by_cases c29 : (gvI S1 8 x11 3) = 3
          · refine lv_tableIn (tgt := 101) hx hb dX4_settle_33 (by rw [c29]; decide) (by rw [c29]; decide) (by rw [c29]; rfl) (by decide) ?_
            replace hf := dc_if_t c29 hf
            refine lh_aload_n hx hb dX4_settle_101 rfl (lv_at hl 1 rfl) ?_
            refine lh_aload_n hx hb dX4_settle_102 rfl (lv_at hl 0 rfl) ?_
            obtain ⟨r30, S31, k32, hf⟩ := dc_bd_ok hf
            have hn : ∀ b, gvN S31 b ≤ gvN S' b := by
              have hm : ∀ b, gvN S31 b ≤ gvN S31 b := fun _ => Nat.le_refl _
              exact lh_le_trans hm (m_X4_settle_L4 g S31 r30 (v4 + (1 : Int32)) hf)
            have q1 := m_X4_tryItselfFirst k32 8
            have q2 := m_X4_tryItselfFirst k32 5
            have q3 := hn 8
            have q4 := hn 5
            have q5 := hm 8
            have q6 := hm 5
            have hc9 : cl + (gvN S31 8 + gvN S31 5 - (gvN S1 8 + gvN S1 5)) ≤ mc := by omega
            have hs9 : sl + (4 * gvN S31 8 + 6 * gvN S31 5 - (4 * gvN S1 8 + 6 * gvN S1 5)) ≤ ms := by omega
            refine lh_callA (S' := S31) (lh_rv ⟨hx, hb, hml, hown, hts⟩ rfl (As := [lh_r ad2 8 (gvR S1 18 x8 (((gvI S1 4 t 5) - (1 : Int32))).toNatClampNeg)]) (rest := []) (k := 4) (c_X4_tryItselfFirst l D cT n S1 ad2 A H.size (fun q9 h9 => hA q9 (Nat.le_trans hS.1 h9)) t (gvR S1 18 x8 (((gvI S1 4 t 5) - (1 : Int32))).toNatClampNeg) r30 S31 k32 L_t L10 (gvN S31 8 + gvN S31 5 - (gvN S1 8 + gvN S1 5)) (4 * gvN S31 8 + 6 * gvN S31 5 - (4 * gvN S1 8 + 6 * gvN S1 5)) (by omega) (by omega)) (cwV 1 hts gX4_settle_X4_tryItselfFirst rfl rfl rfl (by decide +kernel) ⟨Nat.le_of_ble_eq_true rfl, Nat.le_of_ble_eq_true rfl⟩) hK hN hW (L_t _ rfl) rfl rfl rfl hl.1 rfl (by simp [lh_cat_r, lh_cat_i, lh_cat_j]) dX4_settle_103 ⟨hc9, hs9⟩) hS (fun ad33 H locs hE34 hX hW hS => ?_)
            show W _ _ _ _ _ _ _ _ _ _ _ _ _ _ _ (F0 m 106 ls [.int r30])
            rw [lh_rE hE34 L10] at hl
            rw [lh_rE hE34 L_t] at hl
            have hE : lh_E S ad ad33 := lh_E.trans hE hm hE34
            have m35 : ∀ b, gvN S1 b ≤ gvN S31 b := hX.1
            have L10 : ∀ j, gvR S1 18 x8 (((gvI S1 4 t 5) - (1 : Int32))).toNatClampNeg = some j → j < gvN S31 8 := fun j h => Nat.lt_of_lt_of_le (L10 j h) (m35 _)
            have L_t : ∀ j, some t = some j → j < gvN S31 4 := fun j h => Nat.lt_of_lt_of_le (L_t j h) (m35 _)
            have hm : ∀ b, gvN S b ≤ gvN S31 b := lh_le_trans hm m35
            have ok := lh_W_ok hW
            have h1m := lh_le_trans h1m m35
            refine lv_istore_n (i := 1) (lv' := [(1, .int r30), (3, lh_r ad33 8 (gvR S1 18 x8 (((gvI S1 4 t 5) - (1 : Int32))).toNatClampNeg)), (0, lh_r ad33 4 (some t)), (2, .int v4)]) hx hb dX4_settle_106 rfl hl (by decide) (by first | rfl | simp [lh_cat_r, lh_cat_i, lh_cat_j]) (fun ls hl => ?_)
            refine lv_goto (tgt := 135) hx hb dX4_settle_107 (by decide) ?_
            refine lv_iinc (v := v4 + (1 : Int32)) (lv' := [(2, .int (v4 + (1 : Int32))), (1, .int r30), (3, lh_r ad33 8 (gvR S1 18 x8 (((gvI S1 4 t 5) - (1 : Int32))).toNatClampNeg)), (0, lh_r ad33 4 (some t))]) hx hb dX4_settle_135 hl (k := 3) rfl (by first | rfl | decide) (by decide) (by first | rfl | simp [lh_cat_r, lh_cat_i, lh_cat_j]) (fun ls hl => ?_)
            refine lv_goto (tgt := 4) hx hb dX4_settle_138 (by decide) ?_
            exact ih S31 r30 (v4 + (1 : Int32)) ad33 hf hm hE (cl + (gvN S31 8 + gvN S31 5 - (gvN S1 8 + gvN S1 5))) (sl + (4 * gvN S31 8 + 6 * gvN S31 5 - (4 * gvN S1 8 + 6 * gvN S1 5))) (by have u1 := h1m 8; have u2 := h1m 5; omega) (by have u1 := h1m 8; have u2 := h1m 5; omega) _ _ hW hS _ (lv_sub hl [3, 1, 0] (by first | rfl | simp [lv_pick]))
          replace hf := dc_if_f c29 hf
          by_cases c36 : (gvI S1 8 x11 3) = 4
          · refine lv_tableIn (tgt := 110) hx hb dX4_settle_33 (by rw [c36]; decide) (by rw [c36]; decide) (by rw [c36]; rfl) (by decide) ?_
            replace hf := dc_if_t c36 hf
            refine lh_aload_n hx hb dX4_settle_110 rfl (lv_at hl 1 rfl) ?_
            refine lh_aload_n hx hb dX4_settle_111 rfl (lv_at hl 0 rfl) ?_
            obtain ⟨r37, S38, k39, hf⟩ := dc_bd_ok hf
            refine lh_call (S' := S38) (lh_rv ⟨hx, hb, hml, hown, hts⟩ rfl (As := [lh_r ad2 8 (gvR S1 18 x8 (((gvI S1 4 t 5) - (1 : Int32))).toNatClampNeg)]) (rest := []) (k := 4) (c_X4_tryItself l D cT n S1 ad2 A H.size (fun q9 h9 => hA q9 (Nat.le_trans hS.1 h9)) t (gvR S1 18 x8 (((gvI S1 4 t 5) - (1 : Int32))).toNatClampNeg) r37 S38 k39 L_t L10) (cwV 1 hts gX4_settle_X4_tryItself rfl rfl rfl (by decide +kernel) ⟨Nat.le_of_ble_eq_true rfl, Nat.le_of_ble_eq_true rfl⟩) hK hN hW (L_t _ rfl) rfl rfl rfl hl.1 rfl (by simp [lh_cat_r, lh_cat_i, lh_cat_j]) dX4_settle_112 ⟨by show cl + 0 ≤ mc; omega, by show sl + 0 ≤ ms; omega⟩) hS (fun H locs hX hW hS => ?_)
            refine W.widen (k := cl) (n := sl) (by omega) (by omega) ?_
            show W _ _ _ _ _ _ _ _ _ _ _ _ _ _ _ (F0 m 115 ls [.int r37])
            have m40 : ∀ b, gvN S1 b ≤ gvN S38 b := hX.1
            have L10 : ∀ j, gvR S1 18 x8 (((gvI S1 4 t 5) - (1 : Int32))).toNatClampNeg = some j → j < gvN S38 8 := fun j h => Nat.lt_of_lt_of_le (L10 j h) (m40 _)
            have L_t : ∀ j, some t = some j → j < gvN S38 4 := fun j h => Nat.lt_of_lt_of_le (L_t j h) (m40 _)
            have hm : ∀ b, gvN S b ≤ gvN S38 b := lh_le_trans hm m40
            have ok := lh_W_ok hW
            have h1m := lh_le_trans h1m m40
            refine lv_istore_n (i := 1) (lv' := [(1, .int r37), (3, lh_r ad2 8 (gvR S1 18 x8 (((gvI S1 4 t 5) - (1 : Int32))).toNatClampNeg)), (0, lh_r ad2 4 (some t)), (2, .int v4)]) hx hb dX4_settle_115 rfl hl (by decide) (by first | rfl | simp [lh_cat_r, lh_cat_i, lh_cat_j]) (fun ls hl => ?_)
            refine lv_goto (tgt := 135) hx hb dX4_settle_116 (by decide) ?_
            refine lv_iinc (v := v4 + (1 : Int32)) (lv' := [(2, .int (v4 + (1 : Int32))), (1, .int r37), (3, lh_r ad2 8 (gvR S1 18 x8 (((gvI S1 4 t 5) - (1 : Int32))).toNatClampNeg)), (0, lh_r ad2 4 (some t))]) hx hb dX4_settle_135 hl (k := 3) rfl (by first | rfl | decide) (by decide) (by first | rfl | simp [lh_cat_r, lh_cat_i, lh_cat_j]) (fun ls hl => ?_)
            refine lv_goto (tgt := 4) hx hb dX4_settle_138 (by decide) ?_
            exact ih S38 r37 (v4 + (1 : Int32)) ad2 hf hm hE (cl) (sl) (by have u1 := h1m 8; have u2 := h1m 5; omega) (by have u1 := h1m 8; have u2 := h1m 5; omega) _ _ hW hS _ (lv_sub hl [3, 1, 0] (by first | rfl | simp [lv_pick]))
          replace hf := dc_if_f c36 hf
          by_cases c41 : (gvI S1 8 x11 3) = 5
          · refine lv_tableIn (tgt := 119) hx hb dX4_settle_33 (by rw [c41]; decide) (by rw [c41]; decide) (by rw [c41]; rfl) (by decide) ?_
            replace hf := dc_if_t c41 hf
            refine lh_aload_n hx hb dX4_settle_119 rfl (lv_at hl 1 rfl) ?_
            refine lh_aload_n hx hb dX4_settle_120 rfl (lv_at hl 0 rfl) ?_
            obtain ⟨r42, S43, k44, hf⟩ := dc_bd_ok hf
            have hn : ∀ b, gvN S43 b ≤ gvN S' b := by
              have hm : ∀ b, gvN S43 b ≤ gvN S43 b := fun _ => Nat.le_refl _
              exact lh_le_trans hm (m_X4_settle_L4 g S43 r42 (v4 + (1 : Int32)) hf)
            have q1 := m_X4_beginToDefine k44 8
            have q2 := m_X4_beginToDefine k44 5
            have q3 := hn 8
            have q4 := hn 5
            have q5 := hm 8
            have q6 := hm 5
            have hc9 : cl + (gvN S43 8 + gvN S43 5 - (gvN S1 8 + gvN S1 5)) ≤ mc := by omega
            have hs9 : sl + (4 * gvN S43 8 + 6 * gvN S43 5 - (4 * gvN S1 8 + 6 * gvN S1 5)) ≤ ms := by omega
            refine lh_callA (S' := S43) (lh_rv ⟨hx, hb, hml, hown, hts⟩ rfl (As := [lh_r ad2 8 (gvR S1 18 x8 (((gvI S1 4 t 5) - (1 : Int32))).toNatClampNeg)]) (rest := []) (k := 4) (c_X4_beginToDefine l D cT n S1 ad2 A H.size (fun q9 h9 => hA q9 (Nat.le_trans hS.1 h9)) t (gvR S1 18 x8 (((gvI S1 4 t 5) - (1 : Int32))).toNatClampNeg) r42 S43 k44 L_t L10 (gvN S43 8 + gvN S43 5 - (gvN S1 8 + gvN S1 5)) (4 * gvN S43 8 + 6 * gvN S43 5 - (4 * gvN S1 8 + 6 * gvN S1 5)) (by omega) (by omega)) (cwV 1 hts gX4_settle_X4_beginToDefine rfl rfl rfl (by decide +kernel) ⟨Nat.le_of_ble_eq_true rfl, Nat.le_of_ble_eq_true rfl⟩) hK hN hW (L_t _ rfl) rfl rfl rfl hl.1 rfl (by simp [lh_cat_r, lh_cat_i, lh_cat_j]) dX4_settle_121 ⟨hc9, hs9⟩) hS (fun ad45 H locs hE46 hX hW hS => ?_)
            show W _ _ _ _ _ _ _ _ _ _ _ _ _ _ _ (F0 m 124 ls [.int r42])
            rw [lh_rE hE46 L10] at hl
            rw [lh_rE hE46 L_t] at hl
            have hE : lh_E S ad ad45 := lh_E.trans hE hm hE46
            have m47 : ∀ b, gvN S1 b ≤ gvN S43 b := hX.1
            have L10 : ∀ j, gvR S1 18 x8 (((gvI S1 4 t 5) - (1 : Int32))).toNatClampNeg = some j → j < gvN S43 8 := fun j h => Nat.lt_of_lt_of_le (L10 j h) (m47 _)
            have L_t : ∀ j, some t = some j → j < gvN S43 4 := fun j h => Nat.lt_of_lt_of_le (L_t j h) (m47 _)
            have hm : ∀ b, gvN S b ≤ gvN S43 b := lh_le_trans hm m47
            have ok := lh_W_ok hW
            have h1m := lh_le_trans h1m m47
            refine lv_istore_n (i := 1) (lv' := [(1, .int r42), (3, lh_r ad45 8 (gvR S1 18 x8 (((gvI S1 4 t 5) - (1 : Int32))).toNatClampNeg)), (0, lh_r ad45 4 (some t)), (2, .int v4)]) hx hb dX4_settle_124 rfl hl (by decide) (by first | rfl | simp [lh_cat_r, lh_cat_i, lh_cat_j]) (fun ls hl => ?_)
            refine lv_goto (tgt := 135) hx hb dX4_settle_125 (by decide) ?_
            refine lv_iinc (v := v4 + (1 : Int32)) (lv' := [(2, .int (v4 + (1 : Int32))), (1, .int r42), (3, lh_r ad45 8 (gvR S1 18 x8 (((gvI S1 4 t 5) - (1 : Int32))).toNatClampNeg)), (0, lh_r ad45 4 (some t))]) hx hb dX4_settle_135 hl (k := 3) rfl (by first | rfl | decide) (by decide) (by first | rfl | simp [lh_cat_r, lh_cat_i, lh_cat_j]) (fun ls hl => ?_)
            refine lv_goto (tgt := 4) hx hb dX4_settle_138 (by decide) ?_
            exact ih S43 r42 (v4 + (1 : Int32)) ad45 hf hm hE (cl + (gvN S43 8 + gvN S43 5 - (gvN S1 8 + gvN S1 5))) (sl + (4 * gvN S43 8 + 6 * gvN S43 5 - (4 * gvN S1 8 + 6 * gvN S1 5))) (by have u1 := h1m 8; have u2 := h1m 5; omega) (by have u1 := h1m 8; have u2 := h1m 5; omega) _ _ hW hS _ (lv_sub hl [3, 1, 0] (by first | rfl | simp [lv_pick]))
          replace hf := dc_if_f c41 hf
          have tc12 := lv_neT (a := 0) c12 (by decide)
          have tc19 := lv_neT (a := 1) c19 (by decide)
          have tc24 := lv_neT (a := 2) c24 (by decide)
          have tc29 := lv_neT (a := 3) c29 (by decide)
          have tc36 := lv_neT (a := 4) c36 (by decide)
          have tc41 := lv_neT (a := 5) c41 (by decide)
          refine lv_tableOut (tgt := 128) hx hb dX4_settle_33 (by omega) (by decide) ?_
          refine lh_aload_n hx hb dX4_settle_128 rfl (lv_at hl 1 rfl) ?_
          refine lh_aload_n hx hb dX4_settle_129 rfl (lv_at hl 0 rfl) ?_
          refine lv_iload_n hx hb dX4_settle_130 rfl (lv_at hl 2 rfl) ?_
          obtain ⟨r48, S49, k50, hf⟩ := dc_bd_ok hf
          have hn : ∀ b, gvN S49 b ≤ gvN S' b := by
            have hm : ∀ b, gvN S49 b ≤ gvN S49 b := fun _ => Nat.le_refl _
            exact lh_le_trans hm (m_X4_settle_L4 g S49 r48 (v4 + (1 : Int32)) hf)
          have q1 := m_X4_takeAbove k50 8
          have q2 := m_X4_takeAbove k50 5
          have q3 := hn 8
          have q4 := hn 5
          have q5 := hm 8
          have q6 := hm 5
          have hc9 : cl + (gvN S49 8 + gvN S49 5 - (gvN S1 8 + gvN S1 5)) ≤ mc := by omega
          have hs9 : sl + (4 * gvN S49 8 + 6 * gvN S49 5 - (4 * gvN S1 8 + 6 * gvN S1 5)) ≤ ms := by omega
          refine lh_callA (S' := S49) (lh_rv ⟨hx, hb, hml, hown, hts⟩ rfl (As := [lh_r ad2 8 (gvR S1 18 x8 (((gvI S1 4 t 5) - (1 : Int32))).toNatClampNeg), .int v3]) (rest := []) (k := 4) (c_X4_takeAbove l D cT n S1 ad2 A H.size (fun q9 h9 => hA q9 (Nat.le_trans hS.1 h9)) t (gvR S1 18 x8 (((gvI S1 4 t 5) - (1 : Int32))).toNatClampNeg) v3 r48 S49 k50 L_t L10 (gvN S49 8 + gvN S49 5 - (gvN S1 8 + gvN S1 5)) (4 * gvN S49 8 + 6 * gvN S49 5 - (4 * gvN S1 8 + 6 * gvN S1 5)) (by omega) (by omega)) (cwV 2 hts gX4_settle_X4_takeAbove rfl rfl rfl (by decide +kernel) ⟨Nat.le_of_ble_eq_true rfl, Nat.le_of_ble_eq_true rfl⟩) hK hN hW (L_t _ rfl) rfl rfl rfl hl.1 rfl (by simp [lh_cat_r, lh_cat_i, lh_cat_j]) dX4_settle_131 ⟨hc9, hs9⟩) hS (fun ad51 H locs hE52 hX hW hS => ?_)
          show W _ _ _ _ _ _ _ _ _ _ _ _ _ _ _ (F0 m 134 ls [.int r48])
          rw [lh_rE hE52 L10] at hl
          rw [lh_rE hE52 L_t] at hl
          have hE : lh_E S ad ad51 := lh_E.trans hE hm hE52
          have m53 : ∀ b, gvN S1 b ≤ gvN S49 b := hX.1
          have L10 : ∀ j, gvR S1 18 x8 (((gvI S1 4 t 5) - (1 : Int32))).toNatClampNeg = some j → j < gvN S49 8 := fun j h => Nat.lt_of_lt_of_le (L10 j h) (m53 _)
          have L_t : ∀ j, some t = some j → j < gvN S49 4 := fun j h => Nat.lt_of_lt_of_le (L_t j h) (m53 _)
          have hm : ∀ b, gvN S b ≤ gvN S49 b := lh_le_trans hm m53
          have ok := lh_W_ok hW
          have h1m := lh_le_trans h1m m53
          refine lv_istore_n (i := 1) (lv' := [(1, .int r48), (3, lh_r ad51 8 (gvR S1 18 x8 (((gvI S1 4 t 5) - (1 : Int32))).toNatClampNeg)), (0, lh_r ad51 4 (some t)), (2, .int v4)]) hx hb dX4_settle_134 rfl hl (by decide) (by first | rfl | simp [lh_cat_r, lh_cat_i, lh_cat_j]) (fun ls hl => ?_)
          refine lv_iinc (v := v4 + (1 : Int32)) (lv' := [(2, .int (v4 + (1 : Int32))), (1, .int r48), (3, lh_r ad51 8 (gvR S1 18 x8 (((gvI S1 4 t 5) - (1 : Int32))).toNatClampNeg)), (0, lh_r ad51 4 (some t))]) hx hb dX4_settle_135 hl (k := 3) rfl (by first | rfl | decide) (by decide) (by first | rfl | simp [lh_cat_r, lh_cat_i, lh_cat_j]) (fun ls hl => ?_)
          refine lv_goto (tgt := 4) hx hb dX4_settle_138 (by decide) ?_
          exact ih S49 r48 (v4 + (1 : Int32)) ad51 hf hm hE (cl + (gvN S49 8 + gvN S49 5 - (gvN S1 8 + gvN S1 5))) (sl + (4 * gvN S49 8 + 6 * gvN S49 5 - (4 * gvN S1 8 + 6 * gvN S1 5))) (by have u1 := h1m 8; have u2 := h1m 5; omega) (by have u1 := h1m 8; have u2 := h1m 5; omega) _ _ hW hS _ (lv_sub hl [3, 1, 0] (by first | rfl | simp [lv_pick]))
  have ok := lh_W_ok hW
  have hm : ∀ b, gvN S b ≤ gvN S b := fun _ => Nat.le_refl _
  have hE : lh_E S ad ad := lh_E.rf
  obtain ⟨ls, hent, hl⟩ := lh_entry m args [lh_r ad 4 (some t)] 4 [(0, lh_r ad 4 (some t))] hargs (by simp [lv_args, lh_cat_r, lh_cat_i, lh_cat_j]) (by simp [lg_sl, lh_cat_r, lh_cat_i, lh_cat_j])
  rw [hent]
  generalize hH : s.heap = H at hW ⊢
  have hS : va_S A s.heap H [] := by rw [← hH]; exact va_S.rf
  unfold f_X4_settle at hf
  refine lv_iconst (v := -1) hx hb dX4_settle_0 (by decide) ?_
  refine lv_istore_n (i := 1) (lv' := [(1, .int (-1 : Int32)), (0, lh_r ad 4 (some t))]) hx hb dX4_settle_1 rfl hl (by decide) (by first | rfl | simp [lh_cat_r, lh_cat_i, lh_cat_j]) (fun ls hl => ?_)
  refine lv_iconst (v := 0) hx hb dX4_settle_2 (by decide) ?_
  refine lv_istore_n (i := 2) (lv' := [(2, .int (0 : Int32)), (1, .int (-1 : Int32)), (0, lh_r ad 4 (some t))]) hx hb dX4_settle_3 rfl hl (by decide) (by first | rfl | simp [lh_cat_r, lh_cat_i, lh_cat_j]) (fun ls hl => ?_)
  exact L4 n S (-1 : Int32) (0 : Int32) ad hf hm hE (0) (0) (by have u1 := hm 8; have u2 := hm 5; omega) (by have u1 := hm 8; have u2 := hm 5; omega) _ _ hW hS _ (lv_sub hl [2, 1, 0] (by first | rfl | simp [lv_pick]))
def f_X4_loadBy (n : Nat) (S : lh_S) (t : Nat) (p1 : Option Nat) (p2 : Int32) : Option (Int32 × lh_S) :=
  dc_bd (f_X4_open n S t p1 p2 (none : Option Nat) (0 : Int32)) fun r2 S3 =>
  dc_bd (f_X4_settle n S3 t) fun r8 S9 =>
  some (r8, S9)
set_option maxHeartbeats 1000000 in
theorem m_X4_loadBy {n : Nat} {S : lh_S} {t : Nat} {p1 : Option Nat} {p2 : Int32} {r : Int32} {S' : lh_S} (hf : f_X4_loadBy n S t p1 p2 = some (r, S')) : ∀ b, gvN S b ≤ gvN S' b := by
  have hm : ∀ b, gvN S b ≤ gvN S b := fun _ => Nat.le_refl _
  unfold f_X4_loadBy at hf
  obtain ⟨r2, S3, k4, hf⟩ := dc_bd_ok hf
  have hm := lh_le_trans hm (show ∀ b, gvN S b ≤ gvN S3 b from m_X4_open k4)
  obtain ⟨r8, S9, k10, hf⟩ := dc_bd_ok hf
  have hm := lh_le_trans hm (show ∀ b, gvN S3 b ≤ gvN S9 b from m_X4_settle k10)
  obtain ⟨_, rfl⟩ := dc_ret hf
  exact hm
set_option maxHeartbeats 1000000 in
theorem k_X4_loadBy {n : Nat} {S : lh_S} {t : Nat} {p1 : Option Nat} {p2 : Int32} {r : Int32} {S' : lh_S} (hf : f_X4_loadBy n S t p1 p2 = some (r, S')) : lh_sm9 S S' := by
  have hm : lh_sm9 S S := lh_sm9_rf
  unfold f_X4_loadBy at hf
  obtain ⟨r2, S3, k4, hf⟩ := dc_bd_ok hf
  have hm := lh_sm9_trans hm (show lh_sm9 S S3 from k_X4_open k4)
  obtain ⟨r8, S9, k10, hf⟩ := dc_bd_ok hf
  have hm := lh_sm9_trans hm (show lh_sm9 S3 S9 from k_X4_settle k10)
  obtain ⟨_, rfl⟩ := dc_ret hf
  exact hm
set_option maxHeartbeats 4000000 in
set_option maxRecDepth 100000 in
theorem c_X4_loadBy (l : Launch) (D : va_G) (cT : Nat → ClassId) (n : Nat) (S : lh_S) (ad : Nat → Nat → Nat) (A : Nat → Prop) (sz : Nat) (hA : ∀ q, sz ≤ q → A q) (t : Nat) (p1 : Option Nat) (p2 : Int32) (r : Int32) (S' : lh_S) (hf : f_X4_loadBy n S t p1 p2 = some (r, S')) (L_t : ∀ j, some t = some j → j < gvN S 4) (L_p1 : ∀ j, p1 = some j → j < gvN S 2) (mc ms : Nat) (hmc : gvN S' 8 + gvN S' 5 ≤ gvN S 8 + gvN S 5 + mc) (hms : 4 * gvN S' 8 + 6 * gvN S' 5 ≤ 4 * gvN S 8 + 6 * gvN S 5 + ms) : Met l yX4_loadBy wsX4_loadBy ({ frames := 6, cells := mc, slots := ms, locals := 133 } : Room) (lh_P D cT S ad A sz [lh_r ad 4 (some t), lh_r ad 2 p1, .int p2]) (lh_QA D cT S S' ad A ((∀ b, gvN S b ≤ gvN S' b) ∧ True) (fun ad9 => some (.int r))) mc ms A := by
  refine Met.ofW (cc := cX4_loadBy) (maxL := 3) (ret := (some .int)) (by decide) rfl ?_
  intro p e s m args below meth c s₁ B hml hv
  obtain ⟨hargs, hsz, hW, hK, hN⟩ := hv
  have hx := B.exec
  have hb := B.bytes
  have hr := B.returns
  have hts := atoms_spec (ws := wsX4_loadBy) B.pre
  have hown : s.vm.findClass RX4 = some m.cls := findClass_of_methodNamed B.named
  have hlocks := B.notSynchronized
  have hA : ∀ q, s.heap.size ≤ q → A q := fun q h => hA q (by rw [← hsz]; exact h)
  have ok := lh_W_ok hW
  have hm : ∀ b, gvN S b ≤ gvN S b := fun _ => Nat.le_refl _
  have hE : lh_E S ad ad := lh_E.rf
  obtain ⟨ls, hent, hl⟩ := lh_entry m args [lh_r ad 4 (some t), lh_r ad 2 p1, .int p2] 3 [(0, lh_r ad 4 (some t)), (1, lh_r ad 2 p1), (2, .int p2)] hargs (by simp [lv_args, lh_cat_r, lh_cat_i, lh_cat_j]) (by simp [lg_sl, lh_cat_r, lh_cat_i, lh_cat_j])
  rw [hent]
  generalize hH : s.heap = H at hW ⊢
  have hS : va_S A s.heap H [] := by rw [← hH]; exact va_S.rf
  unfold f_X4_loadBy at hf
  refine lh_aload_n hx hb dX4_loadBy_0 rfl (lv_at hl 0 rfl) ?_
  refine lh_aload_n hx hb dX4_loadBy_1 rfl (lv_at hl 1 rfl) ?_
  refine lv_iload_n hx hb dX4_loadBy_2 rfl (lv_at hl 2 rfl) ?_
  have L1 : ∀ j, (none : Option Nat) = some j → j < gvN S 1 := fun j h => by cases h
  refine lh_null hx hb ad 1 dX4_loadBy_3 ?_
  refine lv_iconst (v := 0) hx hb dX4_loadBy_4 (by decide) ?_
  obtain ⟨r2, S3, k4, hf⟩ := dc_bd_ok hf
  have hn : ∀ b, gvN S3 b ≤ gvN S' b := by
    have hm : ∀ b, gvN S3 b ≤ gvN S3 b := fun _ => Nat.le_refl _
    obtain ⟨r8, S9, k10, hf⟩ := dc_bd_ok hf
    have hm := lh_le_trans hm (show ∀ b, gvN S3 b ≤ gvN S9 b from m_X4_settle k10)
    obtain ⟨_, rfl⟩ := dc_ret hf
    exact hm
  have q1 := m_X4_open k4 8
  have q2 := m_X4_open k4 5
  have q3 := hn 8
  have q4 := hn 5
  have q5 := hm 8
  have q6 := hm 5
  have hc9 : 0 + (gvN S3 8 + gvN S3 5 - (gvN S 8 + gvN S 5)) ≤ mc := by omega
  have hs9 : 0 + (4 * gvN S3 8 + 6 * gvN S3 5 - (4 * gvN S 8 + 6 * gvN S 5)) ≤ ms := by omega
  refine lh_callA (S' := S3) (lh_rv ⟨hx, hb, hml, hown, hts⟩ rfl (As := [lh_r ad 2 p1, .int p2, lh_r ad 1 (none : Option Nat), .int (0 : Int32)]) (rest := []) (k := 4) (c_X4_open l D cT n S ad A H.size (fun q9 h9 => hA q9 (Nat.le_trans hS.1 h9)) t p1 p2 (none : Option Nat) (0 : Int32) r2 S3 k4 L_t L_p1 L1 (gvN S3 8 + gvN S3 5 - (gvN S 8 + gvN S 5)) (4 * gvN S3 8 + 6 * gvN S3 5 - (4 * gvN S 8 + 6 * gvN S 5)) (by omega) (by omega)) (cwV 4 hts gX4_loadBy_X4_open rfl rfl rfl (by decide +kernel) ⟨Nat.le_of_ble_eq_true rfl, Nat.le_of_ble_eq_true rfl⟩) hK hN hW (L_t _ rfl) rfl rfl rfl hl.1 rfl (by simp [lh_cat_r, lh_cat_i, lh_cat_j]) dX4_loadBy_5 ⟨hc9, hs9⟩) hS (fun ad5 H locs hE6 hX hW hS => ?_)
  show W _ _ _ _ _ _ _ _ _ _ _ _ _ _ _ (F0 m 8 ls [.int r2])
  rw [lh_rE hE6 L_t] at hl
  rw [lh_rE hE6 L_p1] at hl
  have hE : lh_E S ad ad5 := lh_E.trans hE hm hE6
  have m7 : ∀ b, gvN S b ≤ gvN S3 b := hX.1
  have L_t : ∀ j, some t = some j → j < gvN S3 4 := fun j h => Nat.lt_of_lt_of_le (L_t j h) (m7 _)
  have L_p1 : ∀ j, p1 = some j → j < gvN S3 2 := fun j h => Nat.lt_of_lt_of_le (L_p1 j h) (m7 _)
  have hm : ∀ b, gvN S b ≤ gvN S3 b := lh_le_trans hm m7
  have ok := lh_W_ok hW
  refine lv_pop hx hb dX4_loadBy_8 rfl ?_
  refine lh_aload_n hx hb dX4_loadBy_9 rfl (lv_at hl 0 rfl) ?_
  obtain ⟨r8, S9, k10, hf⟩ := dc_bd_ok hf
  have hn : ∀ b, gvN S9 b ≤ gvN S' b := by
    have hm : ∀ b, gvN S9 b ≤ gvN S9 b := fun _ => Nat.le_refl _
    obtain ⟨_, rfl⟩ := dc_ret hf
    exact hm
  have q1 := m_X4_settle k10 8
  have q2 := m_X4_settle k10 5
  have q3 := hn 8
  have q4 := hn 5
  have q5 := hm 8
  have q6 := hm 5
  have hc9 : 0 + (gvN S3 8 + gvN S3 5 - (gvN S 8 + gvN S 5)) + (gvN S9 8 + gvN S9 5 - (gvN S3 8 + gvN S3 5)) ≤ mc := by omega
  have hs9 : 0 + (4 * gvN S3 8 + 6 * gvN S3 5 - (4 * gvN S 8 + 6 * gvN S 5)) + (4 * gvN S9 8 + 6 * gvN S9 5 - (4 * gvN S3 8 + 6 * gvN S3 5)) ≤ ms := by omega
  refine lh_callA (S' := S9) (lh_rv ⟨hx, hb, hml, hown, hts⟩ rfl (As := []) (rest := []) (k := 4) (c_X4_settle l D cT n S3 ad5 A H.size (fun q9 h9 => hA q9 (Nat.le_trans hS.1 h9)) t r8 S9 k10 L_t (gvN S9 8 + gvN S9 5 - (gvN S3 8 + gvN S3 5)) (4 * gvN S9 8 + 6 * gvN S9 5 - (4 * gvN S3 8 + 6 * gvN S3 5)) (by omega) (by omega)) (cwV 0 hts gX4_loadBy_X4_settle rfl rfl rfl (by decide +kernel) ⟨Nat.le_of_ble_eq_true rfl, Nat.le_of_ble_eq_true rfl⟩) hK hN hW (L_t _ rfl) rfl rfl rfl hl.1 rfl (by simp [lh_cat_r, lh_cat_i, lh_cat_j]) dX4_loadBy_10 ⟨hc9, hs9⟩) hS (fun ad11 H locs hE12 hX hW hS => ?_)
  show W _ _ _ _ _ _ _ _ _ _ _ _ _ _ _ (F0 m 13 ls [.int r8])
  rw [lh_rE hE12 L_t] at hl
  rw [lh_rE hE12 L_p1] at hl
  have hE : lh_E S ad ad11 := lh_E.trans hE hm hE12
  have m13 : ∀ b, gvN S3 b ≤ gvN S9 b := hX.1
  have L_t : ∀ j, some t = some j → j < gvN S9 4 := fun j h => Nat.lt_of_lt_of_le (L_t j h) (m13 _)
  have L_p1 : ∀ j, p1 = some j → j < gvN S9 2 := fun j h => Nat.lt_of_lt_of_le (L_p1 j h) (m13 _)
  have hm : ∀ b, gvN S b ≤ gvN S9 b := lh_le_trans hm m13
  have ok := lh_W_ok hW
  obtain ⟨rfl, rfl⟩ := dc_ret hf
  refine W.widen (k := mc) (n := ms) hc9 hs9 ?_
  exact W.iret (v := r8) hx hb hr (fun t9 ht9 hW9 => ⟨⟨ad11, hE, rfl, ⟨hm, trivial⟩, by rw [ht9]; exact hW⟩, hS.F ht9⟩) hS.2.2 dX4_loadBy_13
def f_X4_defineBy (n : Nat) (S : lh_S) (t : Nat) (p1 : Option Nat) (p2 : Option Nat) : Option (Int32 × lh_S) :=
  dc_nn p2 fun x1 =>
  dc_bd (f_X4_open n S t p1 (gvI S 1 x1 1) p2 (5 : Int32)) fun r2 S3 =>
  dc_bd (f_X4_settle n S3 t) fun r8 S9 =>
  some (r8, S9)
set_option maxHeartbeats 1000000 in
theorem m_X4_defineBy {n : Nat} {S : lh_S} {t : Nat} {p1 : Option Nat} {p2 : Option Nat} {r : Int32} {S' : lh_S} (hf : f_X4_defineBy n S t p1 p2 = some (r, S')) : ∀ b, gvN S b ≤ gvN S' b := by
  have hm : ∀ b, gvN S b ≤ gvN S b := fun _ => Nat.le_refl _
  unfold f_X4_defineBy at hf
  obtain ⟨x1, hx1, hf⟩ := dc_nn_ok hf
  obtain ⟨r2, S3, k4, hf⟩ := dc_bd_ok hf
  have hm := lh_le_trans hm (show ∀ b, gvN S b ≤ gvN S3 b from m_X4_open k4)
  obtain ⟨r8, S9, k10, hf⟩ := dc_bd_ok hf
  have hm := lh_le_trans hm (show ∀ b, gvN S3 b ≤ gvN S9 b from m_X4_settle k10)
  obtain ⟨_, rfl⟩ := dc_ret hf
  exact hm
set_option maxHeartbeats 1000000 in
theorem k_X4_defineBy {n : Nat} {S : lh_S} {t : Nat} {p1 : Option Nat} {p2 : Option Nat} {r : Int32} {S' : lh_S} (hf : f_X4_defineBy n S t p1 p2 = some (r, S')) : lh_sm9 S S' := by
  have hm : lh_sm9 S S := lh_sm9_rf
  unfold f_X4_defineBy at hf
  obtain ⟨x1, hx1, hf⟩ := dc_nn_ok hf
  obtain ⟨r2, S3, k4, hf⟩ := dc_bd_ok hf
  have hm := lh_sm9_trans hm (show lh_sm9 S S3 from k_X4_open k4)
  obtain ⟨r8, S9, k10, hf⟩ := dc_bd_ok hf
  have hm := lh_sm9_trans hm (show lh_sm9 S3 S9 from k_X4_settle k10)
  obtain ⟨_, rfl⟩ := dc_ret hf
  exact hm
set_option maxHeartbeats 4000000 in
set_option maxRecDepth 100000 in
theorem c_X4_defineBy (l : Launch) (D : va_G) (cT : Nat → ClassId) (n : Nat) (S : lh_S) (ad : Nat → Nat → Nat) (A : Nat → Prop) (sz : Nat) (hA : ∀ q, sz ≤ q → A q) (t : Nat) (p1 : Option Nat) (p2 : Option Nat) (r : Int32) (S' : lh_S) (hf : f_X4_defineBy n S t p1 p2 = some (r, S')) (L_t : ∀ j, some t = some j → j < gvN S 4) (L_p1 : ∀ j, p1 = some j → j < gvN S 2) (L_p2 : ∀ j, p2 = some j → j < gvN S 1) (mc ms : Nat) (hmc : gvN S' 8 + gvN S' 5 ≤ gvN S 8 + gvN S 5 + mc) (hms : 4 * gvN S' 8 + 6 * gvN S' 5 ≤ 4 * gvN S 8 + 6 * gvN S 5 + ms) : Met l yX4_defineBy wsX4_defineBy ({ frames := 6, cells := mc, slots := ms, locals := 133 } : Room) (lh_P D cT S ad A sz [lh_r ad 4 (some t), lh_r ad 2 p1, lh_r ad 1 p2]) (lh_QA D cT S S' ad A ((∀ b, gvN S b ≤ gvN S' b) ∧ True) (fun ad9 => some (.int r))) mc ms A := by
  refine Met.ofW (cc := cX4_defineBy) (maxL := 3) (ret := (some .int)) (by decide) rfl ?_
  intro p e s m args below meth c s₁ B hml hv
  obtain ⟨hargs, hsz, hW, hK, hN⟩ := hv
  have hx := B.exec
  have hb := B.bytes
  have hr := B.returns
  have hts := atoms_spec (ws := wsX4_defineBy) B.pre
  have hown : s.vm.findClass RX4 = some m.cls := findClass_of_methodNamed B.named
  have hlocks := B.notSynchronized
  have hA : ∀ q, s.heap.size ≤ q → A q := fun q h => hA q (by rw [← hsz]; exact h)
  have ok := lh_W_ok hW
  have hm : ∀ b, gvN S b ≤ gvN S b := fun _ => Nat.le_refl _
  have hE : lh_E S ad ad := lh_E.rf
  obtain ⟨ls, hent, hl⟩ := lh_entry m args [lh_r ad 4 (some t), lh_r ad 2 p1, lh_r ad 1 p2] 3 [(0, lh_r ad 4 (some t)), (1, lh_r ad 2 p1), (2, lh_r ad 1 p2)] hargs (by simp [lv_args, lh_cat_r, lh_cat_i, lh_cat_j]) (by simp [lg_sl, lh_cat_r, lh_cat_i, lh_cat_j])
  rw [hent]
  generalize hH : s.heap = H at hW ⊢
  have hS : va_S A s.heap H [] := by rw [← hH]; exact va_S.rf
  unfold f_X4_defineBy at hf
  refine lh_aload_n hx hb dX4_defineBy_0 rfl (lv_at hl 0 rfl) ?_
  refine lh_aload_n hx hb dX4_defineBy_1 rfl (lv_at hl 1 rfl) ?_
  refine lh_aload_n hx hb dX4_defineBy_2 rfl (lv_at hl 2 rfl) ?_
  obtain ⟨x1, hx1, hf⟩ := dc_nn_ok hf
  refine lh_get (a := 1) (k := 1) (N := 7) (C := RX1) (T := TX1) (own := RX4) (ref := "LoaderModels$ClassFile") hx hb hts (fun _ h => (List.mem_cons_of_mem _ (List.mem_append_left _ (List.mem_append_left _ (List.mem_append_left _ (List.mem_append_left _ (List.mem_append_left _ (List.mem_append_left _ (List.mem_append_right _ h))))))))) hown hK hW hx1 (L_p2 _ hx1) rfl rfl rfl (by decide) (hts (.fieldLink RX4 46 "LoaderModels$ClassFile" "name" "I") (List.mem_cons_of_mem _ (List.mem_append_left _ (List.mem_append_left _ (List.mem_append_left _ (List.mem_append_left _ (List.mem_append_left _ (List.mem_append_left _ (List.mem_append_left _ (List.mem_append_left _ (List.mem_of_getElem? (i := 0) rfl))))))))))) (fun _ h9 => h9) dX4_defineBy_3 (v := .int (gvI S 1 x1 1)) rfl ?_
  refine lh_aload_n hx hb dX4_defineBy_6 rfl (lv_at hl 2 rfl) ?_
  refine lv_iconst (v := 5) hx hb dX4_defineBy_7 (by decide) ?_
  obtain ⟨r2, S3, k4, hf⟩ := dc_bd_ok hf
  have hn : ∀ b, gvN S3 b ≤ gvN S' b := by
    have hm : ∀ b, gvN S3 b ≤ gvN S3 b := fun _ => Nat.le_refl _
    obtain ⟨r8, S9, k10, hf⟩ := dc_bd_ok hf
    have hm := lh_le_trans hm (show ∀ b, gvN S3 b ≤ gvN S9 b from m_X4_settle k10)
    obtain ⟨_, rfl⟩ := dc_ret hf
    exact hm
  have q1 := m_X4_open k4 8
  have q2 := m_X4_open k4 5
  have q3 := hn 8
  have q4 := hn 5
  have q5 := hm 8
  have q6 := hm 5
  have hc9 : 0 + (gvN S3 8 + gvN S3 5 - (gvN S 8 + gvN S 5)) ≤ mc := by omega
  have hs9 : 0 + (4 * gvN S3 8 + 6 * gvN S3 5 - (4 * gvN S 8 + 6 * gvN S 5)) ≤ ms := by omega
  refine lh_callA (S' := S3) (lh_rv ⟨hx, hb, hml, hown, hts⟩ rfl (As := [lh_r ad 2 p1, .int (gvI S 1 x1 1), lh_r ad 1 p2, .int (5 : Int32)]) (rest := []) (k := 4) (c_X4_open l D cT n S ad A H.size (fun q9 h9 => hA q9 (Nat.le_trans hS.1 h9)) t p1 (gvI S 1 x1 1) p2 (5 : Int32) r2 S3 k4 L_t L_p1 L_p2 (gvN S3 8 + gvN S3 5 - (gvN S 8 + gvN S 5)) (4 * gvN S3 8 + 6 * gvN S3 5 - (4 * gvN S 8 + 6 * gvN S 5)) (by omega) (by omega)) (cwV 4 hts gX4_defineBy_X4_open rfl rfl rfl (by decide +kernel) ⟨Nat.le_of_ble_eq_true rfl, Nat.le_of_ble_eq_true rfl⟩) hK hN hW (L_t _ rfl) rfl rfl rfl hl.1 rfl (by simp [lh_cat_r, lh_cat_i, lh_cat_j]) dX4_defineBy_8 ⟨hc9, hs9⟩) hS (fun ad5 H locs hE6 hX hW hS => ?_)
  show W _ _ _ _ _ _ _ _ _ _ _ _ _ _ _ (F0 m 11 ls [.int r2])
  rw [lh_rE hE6 L_t] at hl
  rw [lh_rE hE6 L_p1] at hl
  rw [lh_rE hE6 L_p2] at hl
  have hE : lh_E S ad ad5 := lh_E.trans hE hm hE6
  have m7 : ∀ b, gvN S b ≤ gvN S3 b := hX.1
  have L_t : ∀ j, some t = some j → j < gvN S3 4 := fun j h => Nat.lt_of_lt_of_le (L_t j h) (m7 _)
  have L_p1 : ∀ j, p1 = some j → j < gvN S3 2 := fun j h => Nat.lt_of_lt_of_le (L_p1 j h) (m7 _)
  have L_p2 : ∀ j, p2 = some j → j < gvN S3 1 := fun j h => Nat.lt_of_lt_of_le (L_p2 j h) (m7 _)
  have hm : ∀ b, gvN S b ≤ gvN S3 b := lh_le_trans hm m7
  have ok := lh_W_ok hW
  refine lv_pop hx hb dX4_defineBy_11 rfl ?_
  refine lh_aload_n hx hb dX4_defineBy_12 rfl (lv_at hl 0 rfl) ?_
  obtain ⟨r8, S9, k10, hf⟩ := dc_bd_ok hf
  have hn : ∀ b, gvN S9 b ≤ gvN S' b := by
    have hm : ∀ b, gvN S9 b ≤ gvN S9 b := fun _ => Nat.le_refl _
    obtain ⟨_, rfl⟩ := dc_ret hf
    exact hm
  have q1 := m_X4_settle k10 8
  have q2 := m_X4_settle k10 5
  have q3 := hn 8
  have q4 := hn 5
  have q5 := hm 8
  have q6 := hm 5
  have hc9 : 0 + (gvN S3 8 + gvN S3 5 - (gvN S 8 + gvN S 5)) + (gvN S9 8 + gvN S9 5 - (gvN S3 8 + gvN S3 5)) ≤ mc := by omega
  have hs9 : 0 + (4 * gvN S3 8 + 6 * gvN S3 5 - (4 * gvN S 8 + 6 * gvN S 5)) + (4 * gvN S9 8 + 6 * gvN S9 5 - (4 * gvN S3 8 + 6 * gvN S3 5)) ≤ ms := by omega
  refine lh_callA (S' := S9) (lh_rv ⟨hx, hb, hml, hown, hts⟩ rfl (As := []) (rest := []) (k := 4) (c_X4_settle l D cT n S3 ad5 A H.size (fun q9 h9 => hA q9 (Nat.le_trans hS.1 h9)) t r8 S9 k10 L_t (gvN S9 8 + gvN S9 5 - (gvN S3 8 + gvN S3 5)) (4 * gvN S9 8 + 6 * gvN S9 5 - (4 * gvN S3 8 + 6 * gvN S3 5)) (by omega) (by omega)) (cwV 0 hts gX4_defineBy_X4_settle rfl rfl rfl (by decide +kernel) ⟨Nat.le_of_ble_eq_true rfl, Nat.le_of_ble_eq_true rfl⟩) hK hN hW (L_t _ rfl) rfl rfl rfl hl.1 rfl (by simp [lh_cat_r, lh_cat_i, lh_cat_j]) dX4_defineBy_13 ⟨hc9, hs9⟩) hS (fun ad11 H locs hE12 hX hW hS => ?_)
  show W _ _ _ _ _ _ _ _ _ _ _ _ _ _ _ (F0 m 16 ls [.int r8])
  rw [lh_rE hE12 L_t] at hl
  rw [lh_rE hE12 L_p1] at hl
  rw [lh_rE hE12 L_p2] at hl
  have hE : lh_E S ad ad11 := lh_E.trans hE hm hE12
  have m13 : ∀ b, gvN S3 b ≤ gvN S9 b := hX.1
  have L_t : ∀ j, some t = some j → j < gvN S9 4 := fun j h => Nat.lt_of_lt_of_le (L_t j h) (m13 _)
  have L_p1 : ∀ j, p1 = some j → j < gvN S9 2 := fun j h => Nat.lt_of_lt_of_le (L_p1 j h) (m13 _)
  have L_p2 : ∀ j, p2 = some j → j < gvN S9 1 := fun j h => Nat.lt_of_lt_of_le (L_p2 j h) (m13 _)
  have hm : ∀ b, gvN S b ≤ gvN S9 b := lh_le_trans hm m13
  have ok := lh_W_ok hW
  obtain ⟨rfl, rfl⟩ := dc_ret hf
  refine W.widen (k := mc) (n := ms) hc9 hs9 ?_
  exact W.iret (v := r8) hx hb hr (fun t9 ht9 hW9 => ⟨⟨ad11, hE, rfl, ⟨hm, trivial⟩, by rw [ht9]; exact hW⟩, hS.F ht9⟩) hS.2.2 dX4_defineBy_16
def f_X9_load (n : Nat) (S : lh_S) (t : Nat) (p1 : Int32) (p2 : Int32) : Option (Int32 × lh_S) :=
  dc_nn (gvR S 9 t 2) fun x2 =>
  dc_bd (f_X3_at n S x2 p1) fun r3 S4 =>
  dc_if (r3 = none) (
  some ((-2 : Int32), S4)) (
  dc_bd (f_X9_isName n S4 p2) fun r9 S10 =>
  dc_if (r9 = 0) (
  some ((-3 : Int32), S10)) (
  dc_nn (gvR S10 9 t 3) fun x16 =>
  dc_bd (f_X4_loadBy n S10 x16 r3 p2) fun r17 S18 =>
  dc_bd (f_X9_answered n S18 t r17) fun r23 S24 =>
  some (r23, S24)))
set_option maxHeartbeats 1000000 in
theorem m_X9_load {n : Nat} {S : lh_S} {t : Nat} {p1 : Int32} {p2 : Int32} {r : Int32} {S' : lh_S} (hf : f_X9_load n S t p1 p2 = some (r, S')) : ∀ b, gvN S b ≤ gvN S' b := by
  have hm : ∀ b, gvN S b ≤ gvN S b := fun _ => Nat.le_refl _
  unfold f_X9_load at hf
  obtain ⟨x2, hx2, hf⟩ := dc_nn_ok hf
  obtain ⟨r3, S4, k5, hf⟩ := dc_bd_ok hf
  have hm := lh_le_trans hm (show ∀ b, gvN S b ≤ gvN S4 b from m_X3_at k5)
  by_cases c8 : r3 = none
  · replace hf := dc_if_t c8 hf
    obtain ⟨_, rfl⟩ := dc_ret hf
    exact hm
  · replace hf := dc_if_f c8 hf
    obtain ⟨r9, S10, k11, hf⟩ := dc_bd_ok hf
    have hm := lh_le_trans hm (show ∀ b, gvN S4 b ≤ gvN S10 b from m_X9_isName k11)
    by_cases c14 : r9 = 0
    · replace hf := dc_if_t c14 hf
      obtain ⟨_, rfl⟩ := dc_ret hf
      exact hm
    · replace hf := dc_if_f c14 hf
      obtain ⟨x16, hx16, hf⟩ := dc_nn_ok hf
      obtain ⟨r17, S18, k19, hf⟩ := dc_bd_ok hf
      have hm := lh_le_trans hm (show ∀ b, gvN S10 b ≤ gvN S18 b from m_X4_loadBy k19)
      obtain ⟨r23, S24, k25, hf⟩ := dc_bd_ok hf
      have hm := lh_le_trans hm (show ∀ b, gvN S18 b ≤ gvN S24 b from m_X9_answered k25)
      obtain ⟨_, rfl⟩ := dc_ret hf
      exact hm
set_option maxHeartbeats 1000000 in
theorem k_X9_load {n : Nat} {S : lh_S} {t : Nat} {p1 : Int32} {p2 : Int32} {r : Int32} {S' : lh_S} (hf : f_X9_load n S t p1 p2 = some (r, S')) : lh_sm9 S S' := by
  have hm : lh_sm9 S S := lh_sm9_rf
  unfold f_X9_load at hf
  obtain ⟨x2, hx2, hf⟩ := dc_nn_ok hf
  obtain ⟨r3, S4, k5, hf⟩ := dc_bd_ok hf
  have hm := lh_sm9_trans hm (show lh_sm9 S S4 from k_X3_at k5)
  by_cases c8 : r3 = none
  · replace hf := dc_if_t c8 hf
    obtain ⟨_, rfl⟩ := dc_ret hf
    exact hm
  · replace hf := dc_if_f c8 hf
    obtain ⟨r9, S10, k11, hf⟩ := dc_bd_ok hf
    have hm := lh_sm9_trans hm (show lh_sm9 S4 S10 from k_X9_isName k11)
    by_cases c14 : r9 = 0
    · replace hf := dc_if_t c14 hf
      obtain ⟨_, rfl⟩ := dc_ret hf
      exact hm
    · replace hf := dc_if_f c14 hf
      obtain ⟨x16, hx16, hf⟩ := dc_nn_ok hf
      obtain ⟨r17, S18, k19, hf⟩ := dc_bd_ok hf
      have hm := lh_sm9_trans hm (show lh_sm9 S10 S18 from k_X4_loadBy k19)
      obtain ⟨r23, S24, k25, hf⟩ := dc_bd_ok hf
      have hm := lh_sm9_trans hm (show lh_sm9 S18 S24 from k_X9_answered k25)
      obtain ⟨_, rfl⟩ := dc_ret hf
      exact hm
set_option maxHeartbeats 4000000 in
set_option maxRecDepth 100000 in
theorem c_X9_load (l : Launch) (D : va_G) (cT : Nat → ClassId) (n : Nat) (S : lh_S) (ad : Nat → Nat → Nat) (A : Nat → Prop) (sz : Nat) (hA : ∀ q, sz ≤ q → A q) (t : Nat) (p1 : Int32) (p2 : Int32) (r : Int32) (S' : lh_S) (hf : f_X9_load n S t p1 p2 = some (r, S')) (L_t : ∀ j, some t = some j → j < gvN S 9) (mc ms : Nat) (hmc : gvN S' 8 + gvN S' 5 ≤ gvN S 8 + gvN S 5 + mc) (hms : 4 * gvN S' 8 + 6 * gvN S' 5 ≤ 4 * gvN S 8 + 6 * gvN S 5 + ms) : Met l yX9_load wsX9_load ({ frames := 7, cells := mc, slots := ms, locals := 155 } : Room) (lh_P D cT S ad A sz [lh_r ad 9 (some t), .int p1, .int p2]) (lh_QA D cT S S' ad A ((∀ b, gvN S b ≤ gvN S' b) ∧ True) (fun ad9 => some (.int r))) mc ms A := by
  refine Met.ofW (cc := cX9_load) (maxL := 4) (ret := (some .int)) (by decide) rfl ?_
  intro p e s m args below meth c s₁ B hml hv
  obtain ⟨hargs, hsz, hW, hK, hN⟩ := hv
  have hx := B.exec
  have hb := B.bytes
  have hr := B.returns
  have hts := atoms_spec (ws := wsX9_load) B.pre
  have hown : s.vm.findClass RX9 = some m.cls := findClass_of_methodNamed B.named
  have hlocks := B.notSynchronized
  have hA : ∀ q, s.heap.size ≤ q → A q := fun q h => hA q (by rw [← hsz]; exact h)
  have ok := lh_W_ok hW
  have hm : ∀ b, gvN S b ≤ gvN S b := fun _ => Nat.le_refl _
  have hE : lh_E S ad ad := lh_E.rf
  obtain ⟨ls, hent, hl⟩ := lh_entry m args [lh_r ad 9 (some t), .int p1, .int p2] 4 [(0, lh_r ad 9 (some t)), (1, .int p1), (2, .int p2)] hargs (by simp [lv_args, lh_cat_r, lh_cat_i, lh_cat_j]) (by simp [lg_sl, lh_cat_r, lh_cat_i, lh_cat_j])
  rw [hent]
  generalize hH : s.heap = H at hW ⊢
  have hS : va_S A s.heap H [] := by rw [← hH]; exact va_S.rf
  unfold f_X9_load at hf
  refine lh_aload_n hx hb dX9_load_0 rfl (lv_at hl 0 rfl) ?_
  have L1 : ∀ j, gvR S 9 t 2 = some j → j < gvN S 3 := fun j h => ok _ _ _ _ j (L_t _ rfl) rfl h
  refine lh_get (a := 9) (k := 2) (N := 10) (C := RX9) (T := TX9) (own := RX9) (ref := "LoaderModels") hx hb hts (fun _ h => (List.mem_cons_of_mem _ (List.mem_append_left _ (List.mem_append_left _ (List.mem_append_left _ (List.mem_append_left _ (List.mem_append_left _ (List.mem_append_left _ (List.mem_append_left _ (List.mem_append_right _ h)))))))))) hown hK hW rfl (L_t _ rfl) rfl rfl rfl (by decide) (hts (.fieldLink RX9 20 "LoaderModels" "loaders" "LLoaderModels$Loaders;") (List.mem_cons_of_mem _ (List.mem_append_left _ (List.mem_append_left _ (List.mem_append_left _ (List.mem_append_left _ (List.mem_append_left _ (List.mem_append_left _ (List.mem_append_left _ (List.mem_append_left _ (List.mem_append_left _ (List.mem_of_getElem? (i := 0) rfl)))))))))))) (fun _ h9 => h9) dX9_load_1 (v := lh_r ad 3 (gvR S 9 t 2)) rfl ?_
  refine lv_iload_n hx hb dX9_load_4 rfl (lv_at hl 1 rfl) ?_
  obtain ⟨x2, hx2, hf⟩ := dc_nn_ok hf
  obtain ⟨r3, S4, k5, hf⟩ := dc_bd_ok hf
  refine lh_call (S' := S4) (lh_rv ⟨hx, hb, hml, hown, hts⟩ hx2 (As := [.int p1]) (rest := []) (k := 3) (c_X3_at l D cT n S ad A H.size (fun q9 h9 => hA q9 (Nat.le_trans hS.1 h9)) x2 p1 r3 S4 k5 (lh_ls (L1 _ hx2))) (cwV 1 hts gX9_load_X3_at rfl rfl rfl (by decide +kernel) ⟨Nat.le_of_ble_eq_true rfl, Nat.le_of_ble_eq_true rfl⟩) hK hN hW (L1 _ hx2) rfl rfl rfl hl.1 rfl (by simp [lh_cat_r, lh_cat_i, lh_cat_j]) dX9_load_5 ⟨Nat.zero_le _, Nat.zero_le _⟩) hS (fun H locs hX hW hS => ?_)
  refine W.widen (k := 0) (n := 0) (by omega) (by omega) ?_
  show W _ _ _ _ _ _ _ _ _ _ _ _ _ _ _ (F0 m 8 ls [lh_r ad 2 r3])
  have m6 : ∀ b, gvN S b ≤ gvN S4 b := hX.1
  have L_t : ∀ j, some t = some j → j < gvN S4 9 := fun j h => Nat.lt_of_lt_of_le (L_t j h) (m6 _)
  have hm : ∀ b, gvN S b ≤ gvN S4 b := lh_le_trans hm m6
  have ok := lh_W_ok hW
  have L7 := hX.2
  refine lh_astore_n (i := 3) (lv' := [(3, lh_r ad 2 r3), (0, lh_r ad 9 (some t)), (1, .int p1), (2, .int p2)]) hx hb dX9_load_8 rfl hl (by decide) (by first | rfl | simp [lh_cat_r, lh_cat_i, lh_cat_j]) (fun ls hl => ?_)
  refine lh_aload_n hx hb dX9_load_9 rfl (lv_at hl 0 rfl) ?_
  refine lh_ifnonnull (tgt := 16) hx hb dX9_load_10 (by decide) (fun c8 => ?_) (fun c8 => ?_)
  · replace hf := dc_if_f c8 hf
    refine lv_iload_n hx hb dX9_load_16 rfl (lv_at hl 3 rfl) ?_
    obtain ⟨r9, S10, k11, hf⟩ := dc_bd_ok hf
    refine lh_call (S' := S10) (lh_rs ⟨hx, hb, hml, hown, hts⟩ (As := [.int p2]) (rest := []) (c_X9_isName l D cT n S4 ad A H.size (fun q9 h9 => hA q9 (Nat.le_trans hS.1 h9)) p2 r9 S10 k11 ) (va_cwS 1 hts gX9_load_X9_isName rfl rfl rfl (by decide +kernel) ⟨Nat.le_of_ble_eq_true rfl, Nat.le_of_ble_eq_true rfl⟩) hK hN hW rfl hl.1 rfl (by simp [lh_cat_r, lh_cat_i, lh_cat_j]) dX9_load_17 ⟨Nat.zero_le _, Nat.zero_le _⟩) hS (fun H locs hX hW hS => ?_)
    refine W.widen (k := 0) (n := 0) (by omega) (by omega) ?_
    show W _ _ _ _ _ _ _ _ _ _ _ _ _ _ _ (F0 m 20 ls [.int r9])
    have m12 : ∀ b, gvN S4 b ≤ gvN S10 b := hX.1
    have L7 : ∀ j, r3 = some j → j < gvN S10 2 := fun j h => Nat.lt_of_lt_of_le (L7 j h) (m12 _)
    have L_t : ∀ j, some t = some j → j < gvN S10 9 := fun j h => Nat.lt_of_lt_of_le (L_t j h) (m12 _)
    have hm : ∀ b, gvN S b ≤ gvN S10 b := lh_le_trans hm m12
    have ok := lh_W_ok hW
    have z13 := hX.2
    refine lv_if_ne (tgt := 26) hx hb dX9_load_20 (by decide) (fun c14 => ?_) (fun c14 => ?_)
    · replace hf := dc_if_f c14 hf
      refine lh_aload_n hx hb dX9_load_26 rfl (lv_at hl 1 rfl) ?_
      refine lh_aload_n hx hb dX9_load_27 rfl (lv_at hl 1 rfl) ?_
      have L15 : ∀ j, gvR S10 9 t 3 = some j → j < gvN S10 4 := fun j h => ok _ _ _ _ j (L_t _ rfl) rfl h
      refine lh_get (a := 9) (k := 3) (N := 10) (C := RX9) (T := TX9) (own := RX9) (ref := "LoaderModels") hx hb hts (fun _ h => (List.mem_cons_of_mem _ (List.mem_append_left _ (List.mem_append_left _ (List.mem_append_left _ (List.mem_append_left _ (List.mem_append_left _ (List.mem_append_left _ (List.mem_append_left _ (List.mem_append_right _ h)))))))))) hown hK hW rfl (L_t _ rfl) rfl rfl rfl (by decide) (hts (.fieldLink RX9 29 "LoaderModels" "loading" "LLoaderModels$Loading;") (List.mem_cons_of_mem _ (List.mem_append_left _ (List.mem_append_left _ (List.mem_append_left _ (List.mem_append_left _ (List.mem_append_left _ (List.mem_append_left _ (List.mem_append_left _ (List.mem_append_left _ (List.mem_append_left _ (List.mem_of_getElem? (i := 1) rfl)))))))))))) (fun _ h9 => h9) dX9_load_28 (v := lh_r ad 4 (gvR S10 9 t 3)) rfl ?_
      refine lh_aload_n hx hb dX9_load_31 rfl (lv_at hl 0 rfl) ?_
      refine lv_iload_n hx hb dX9_load_32 rfl (lv_at hl 3 rfl) ?_
      obtain ⟨x16, hx16, hf⟩ := dc_nn_ok hf
      obtain ⟨r17, S18, k19, hf⟩ := dc_bd_ok hf
      have hn : ∀ b, gvN S18 b ≤ gvN S' b := by
        have hm : ∀ b, gvN S18 b ≤ gvN S18 b := fun _ => Nat.le_refl _
        obtain ⟨r23, S24, k25, hf⟩ := dc_bd_ok hf
        have hm := lh_le_trans hm (show ∀ b, gvN S18 b ≤ gvN S24 b from m_X9_answered k25)
        obtain ⟨_, rfl⟩ := dc_ret hf
        exact hm
      have q1 := m_X4_loadBy k19 8
      have q2 := m_X4_loadBy k19 5
      have q3 := hn 8
      have q4 := hn 5
      have q5 := hm 8
      have q6 := hm 5
      have hc9 : 0 + (gvN S18 8 + gvN S18 5 - (gvN S10 8 + gvN S10 5)) ≤ mc := by omega
      have hs9 : 0 + (4 * gvN S18 8 + 6 * gvN S18 5 - (4 * gvN S10 8 + 6 * gvN S10 5)) ≤ ms := by omega
      refine lh_callA (S' := S18) (lh_rv ⟨hx, hb, hml, hown, hts⟩ hx16 (As := [lh_r ad 2 r3, .int p2]) (rest := [lh_r ad 9 (some t)]) (k := 4) (c_X4_loadBy l D cT n S10 ad A H.size (fun q9 h9 => hA q9 (Nat.le_trans hS.1 h9)) x16 r3 p2 r17 S18 k19 (lh_ls (L15 _ hx16)) L7 (gvN S18 8 + gvN S18 5 - (gvN S10 8 + gvN S10 5)) (4 * gvN S18 8 + 6 * gvN S18 5 - (4 * gvN S10 8 + 6 * gvN S10 5)) (by omega) (by omega)) (cwV 2 hts gX9_load_X4_loadBy rfl rfl rfl (by decide +kernel) ⟨Nat.le_of_ble_eq_true rfl, Nat.le_of_ble_eq_true rfl⟩) hK hN hW (L15 _ hx16) rfl rfl rfl hl.1 rfl (by simp [lh_cat_r, lh_cat_i, lh_cat_j]) dX9_load_33 ⟨hc9, hs9⟩) hS (fun ad20 H locs hE21 hX hW hS => ?_)
      show W _ _ _ _ _ _ _ _ _ _ _ _ _ _ _ (F0 m 36 ls [.int r17, lh_r ad 9 (some t)])
      rw [lh_rE hE21 L7] at hl
      rw [lh_rE hE21 L_t] at hl
      rw [lh_rE hE21 L_t]
      have hE : lh_E S ad ad20 := lh_E.trans hE hm hE21
      have m22 : ∀ b, gvN S10 b ≤ gvN S18 b := hX.1
      have L7 : ∀ j, r3 = some j → j < gvN S18 2 := fun j h => Nat.lt_of_lt_of_le (L7 j h) (m22 _)
      have L_t : ∀ j, some t = some j → j < gvN S18 9 := fun j h => Nat.lt_of_lt_of_le (L_t j h) (m22 _)
      have hm : ∀ b, gvN S b ≤ gvN S18 b := lh_le_trans hm m22
      have ok := lh_W_ok hW
      obtain ⟨r23, S24, k25, hf⟩ := dc_bd_ok hf
      refine lh_call (S' := S24) (lh_rv ⟨hx, hb, hml, hown, hts⟩ rfl (As := [.int r17]) (rest := []) (k := 9) (c_X9_answered l D cT n S18 ad20 A H.size (fun q9 h9 => hA q9 (Nat.le_trans hS.1 h9)) t r17 r23 S24 k25 L_t) (cwV 1 hts gX9_load_X9_answered rfl rfl rfl (by decide +kernel) ⟨Nat.le_of_ble_eq_true rfl, Nat.le_of_ble_eq_true rfl⟩) hK hN hW (L_t _ rfl) rfl rfl rfl hl.1 rfl (by simp [lh_cat_r, lh_cat_i, lh_cat_j]) dX9_load_36 ⟨hc9, hs9⟩) hS (fun H locs hX hW hS => ?_)
      refine W.widen (k := 0 + (gvN S18 8 + gvN S18 5 - (gvN S10 8 + gvN S10 5))) (n := 0 + (4 * gvN S18 8 + 6 * gvN S18 5 - (4 * gvN S10 8 + 6 * gvN S10 5))) (by omega) (by omega) ?_
      show W _ _ _ _ _ _ _ _ _ _ _ _ _ _ _ (F0 m 39 ls [.int r23])
      have m26 : ∀ b, gvN S18 b ≤ gvN S24 b := hX.1
      have L7 : ∀ j, r3 = some j → j < gvN S24 2 := fun j h => Nat.lt_of_lt_of_le (L7 j h) (m26 _)
      have L_t : ∀ j, some t = some j → j < gvN S24 9 := fun j h => Nat.lt_of_lt_of_le (L_t j h) (m26 _)
      have hm : ∀ b, gvN S b ≤ gvN S24 b := lh_le_trans hm m26
      have ok := lh_W_ok hW
      obtain ⟨rfl, rfl⟩ := dc_ret hf
      refine W.widen (k := mc) (n := ms) hc9 hs9 ?_
      exact W.iret (v := r23) hx hb hr (fun t9 ht9 hW9 => ⟨⟨ad20, hE, rfl, ⟨hm, trivial⟩, by rw [ht9]; exact hW⟩, hS.F ht9⟩) hS.2.2 dX9_load_39
    · replace hf := dc_if_t c14 hf
      refine lv_bipush (v := -3) hx hb dX9_load_23 (by decide) ?_
      obtain ⟨rfl, rfl⟩ := dc_ret hf
      refine W.widen (k := mc) (n := ms) (Nat.zero_le _) (Nat.zero_le _) ?_
      exact W.iret (v := (-3 : Int32)) hx hb hr (fun t9 ht9 hW9 => ⟨⟨ad, hE, rfl, ⟨hm, trivial⟩, by rw [ht9]; exact hW⟩, hS.F ht9⟩) hS.2.2 dX9_load_25
  · replace hf := dc_if_t c8 hf
    refine lv_bipush (v := -2) hx hb dX9_load_13 (by decide) ?_
    obtain ⟨rfl, rfl⟩ := dc_ret hf
    refine W.widen (k := mc) (n := ms) (Nat.zero_le _) (Nat.zero_le _) ?_
    exact W.iret (v := (-2 : Int32)) hx hb hr (fun t9 ht9 hW9 => ⟨⟨ad, hE, rfl, ⟨hm, trivial⟩, by rw [ht9]; exact hW⟩, hS.F ht9⟩) hS.2.2 dX9_load_15
def f_X9_define (n : Nat) (S : lh_S) (t : Nat) (p1 : Int32) (p2 : Int32) : Option (Int32 × lh_S) :=
  dc_nn (gvR S 9 t 2) fun x2 =>
  dc_bd (f_X3_at n S x2 p1) fun r3 S4 =>
  dc_bd (f_X9_fileAt n S4 t p2) fun r8 S9 =>
  dc_if (r3 = none) (
  some ((-2 : Int32), S9)) (
  dc_if (r8 = none) (
  some ((-2 : Int32), S9)) (
  dc_nn (gvR S9 9 t 3) fun x16 =>
  dc_bd (f_X4_defineBy n S9 x16 r3 r8) fun r17 S18 =>
  dc_bd (f_X9_answered n S18 t r17) fun r23 S24 =>
  some (r23, S24)))
set_option maxHeartbeats 1000000 in
theorem m_X9_define {n : Nat} {S : lh_S} {t : Nat} {p1 : Int32} {p2 : Int32} {r : Int32} {S' : lh_S} (hf : f_X9_define n S t p1 p2 = some (r, S')) : ∀ b, gvN S b ≤ gvN S' b := by
  have hm : ∀ b, gvN S b ≤ gvN S b := fun _ => Nat.le_refl _
  unfold f_X9_define at hf
  obtain ⟨x2, hx2, hf⟩ := dc_nn_ok hf
  obtain ⟨r3, S4, k5, hf⟩ := dc_bd_ok hf
  have hm := lh_le_trans hm (show ∀ b, gvN S b ≤ gvN S4 b from m_X3_at k5)
  obtain ⟨r8, S9, k10, hf⟩ := dc_bd_ok hf
  have hm := lh_le_trans hm (show ∀ b, gvN S4 b ≤ gvN S9 b from m_X9_fileAt k10)
  by_cases c13 : r3 = none
  · replace hf := dc_if_t c13 hf
    obtain ⟨_, rfl⟩ := dc_ret hf
    exact hm
  · replace hf := dc_if_f c13 hf
    by_cases c14 : r8 = none
    · replace hf := dc_if_t c14 hf
      obtain ⟨_, rfl⟩ := dc_ret hf
      exact hm
    · replace hf := dc_if_f c14 hf
      obtain ⟨x16, hx16, hf⟩ := dc_nn_ok hf
      obtain ⟨r17, S18, k19, hf⟩ := dc_bd_ok hf
      have hm := lh_le_trans hm (show ∀ b, gvN S9 b ≤ gvN S18 b from m_X4_defineBy k19)
      obtain ⟨r23, S24, k25, hf⟩ := dc_bd_ok hf
      have hm := lh_le_trans hm (show ∀ b, gvN S18 b ≤ gvN S24 b from m_X9_answered k25)
      obtain ⟨_, rfl⟩ := dc_ret hf
      exact hm
set_option maxHeartbeats 1000000 in
theorem k_X9_define {n : Nat} {S : lh_S} {t : Nat} {p1 : Int32} {p2 : Int32} {r : Int32} {S' : lh_S} (hf : f_X9_define n S t p1 p2 = some (r, S')) : lh_sm9 S S' := by
  have hm : lh_sm9 S S := lh_sm9_rf
  unfold f_X9_define at hf
  obtain ⟨x2, hx2, hf⟩ := dc_nn_ok hf
  obtain ⟨r3, S4, k5, hf⟩ := dc_bd_ok hf
  have hm := lh_sm9_trans hm (show lh_sm9 S S4 from k_X3_at k5)
  obtain ⟨r8, S9, k10, hf⟩ := dc_bd_ok hf
  have hm := lh_sm9_trans hm (show lh_sm9 S4 S9 from k_X9_fileAt k10)
  by_cases c13 : r3 = none
  · replace hf := dc_if_t c13 hf
    obtain ⟨_, rfl⟩ := dc_ret hf
    exact hm
  · replace hf := dc_if_f c13 hf
    by_cases c14 : r8 = none
    · replace hf := dc_if_t c14 hf
      obtain ⟨_, rfl⟩ := dc_ret hf
      exact hm
    · replace hf := dc_if_f c14 hf
      obtain ⟨x16, hx16, hf⟩ := dc_nn_ok hf
      obtain ⟨r17, S18, k19, hf⟩ := dc_bd_ok hf
      have hm := lh_sm9_trans hm (show lh_sm9 S9 S18 from k_X4_defineBy k19)
      obtain ⟨r23, S24, k25, hf⟩ := dc_bd_ok hf
      have hm := lh_sm9_trans hm (show lh_sm9 S18 S24 from k_X9_answered k25)
      obtain ⟨_, rfl⟩ := dc_ret hf
      exact hm
set_option maxHeartbeats 4000000 in
set_option maxRecDepth 100000 in
theorem c_X9_define (l : Launch) (D : va_G) (cT : Nat → ClassId) (n : Nat) (S : lh_S) (ad : Nat → Nat → Nat) (A : Nat → Prop) (sz : Nat) (hA : ∀ q, sz ≤ q → A q) (t : Nat) (p1 : Int32) (p2 : Int32) (r : Int32) (S' : lh_S) (hf : f_X9_define n S t p1 p2 = some (r, S')) (L_t : ∀ j, some t = some j → j < gvN S 9) (mc ms : Nat) (hmc : gvN S' 8 + gvN S' 5 ≤ gvN S 8 + gvN S 5 + mc) (hms : 4 * gvN S' 8 + 6 * gvN S' 5 ≤ 4 * gvN S 8 + 6 * gvN S 5 + ms) : Met l yX9_define wsX9_define ({ frames := 7, cells := mc, slots := ms, locals := 155 } : Room) (lh_P D cT S ad A sz [lh_r ad 9 (some t), .int p1, .int p2]) (lh_QA D cT S S' ad A ((∀ b, gvN S b ≤ gvN S' b) ∧ True) (fun ad9 => some (.int r))) mc ms A := by
  refine Met.ofW (cc := cX9_define) (maxL := 5) (ret := (some .int)) (by decide) rfl ?_
  intro p e s m args below meth c s₁ B hml hv
  obtain ⟨hargs, hsz, hW, hK, hN⟩ := hv
  have hx := B.exec
  have hb := B.bytes
  have hr := B.returns
  have hts := atoms_spec (ws := wsX9_define) B.pre
  have hown : s.vm.findClass RX9 = some m.cls := findClass_of_methodNamed B.named
  have hlocks := B.notSynchronized
  have hA : ∀ q, s.heap.size ≤ q → A q := fun q h => hA q (by rw [← hsz]; exact h)
  have ok := lh_W_ok hW
  have hm : ∀ b, gvN S b ≤ gvN S b := fun _ => Nat.le_refl _
  have hE : lh_E S ad ad := lh_E.rf
  obtain ⟨ls, hent, hl⟩ := lh_entry m args [lh_r ad 9 (some t), .int p1, .int p2] 5 [(0, lh_r ad 9 (some t)), (1, .int p1), (2, .int p2)] hargs (by simp [lv_args, lh_cat_r, lh_cat_i, lh_cat_j]) (by simp [lg_sl, lh_cat_r, lh_cat_i, lh_cat_j])
  rw [hent]
  generalize hH : s.heap = H at hW ⊢
  have hS : va_S A s.heap H [] := by rw [← hH]; exact va_S.rf
  unfold f_X9_define at hf
  refine lh_aload_n hx hb dX9_define_0 rfl (lv_at hl 0 rfl) ?_
  have L1 : ∀ j, gvR S 9 t 2 = some j → j < gvN S 3 := fun j h => ok _ _ _ _ j (L_t _ rfl) rfl h
  refine lh_get (a := 9) (k := 2) (N := 10) (C := RX9) (T := TX9) (own := RX9) (ref := "LoaderModels") hx hb hts (fun _ h => (List.mem_cons_of_mem _ (List.mem_append_left _ (List.mem_append_left _ (List.mem_append_left _ (List.mem_append_left _ (List.mem_append_left _ (List.mem_append_left _ (List.mem_append_left _ (List.mem_append_right _ h)))))))))) hown hK hW rfl (L_t _ rfl) rfl rfl rfl (by decide) (hts (.fieldLink RX9 20 "LoaderModels" "loaders" "LLoaderModels$Loaders;") (List.mem_cons_of_mem _ (List.mem_append_left _ (List.mem_append_left _ (List.mem_append_left _ (List.mem_append_left _ (List.mem_append_left _ (List.mem_append_left _ (List.mem_append_left _ (List.mem_append_left _ (List.mem_append_left _ (List.mem_of_getElem? (i := 0) rfl)))))))))))) (fun _ h9 => h9) dX9_define_1 (v := lh_r ad 3 (gvR S 9 t 2)) rfl ?_
  refine lv_iload_n hx hb dX9_define_4 rfl (lv_at hl 1 rfl) ?_
  obtain ⟨x2, hx2, hf⟩ := dc_nn_ok hf
  obtain ⟨r3, S4, k5, hf⟩ := dc_bd_ok hf
  refine lh_call (S' := S4) (lh_rv ⟨hx, hb, hml, hown, hts⟩ hx2 (As := [.int p1]) (rest := []) (k := 3) (c_X3_at l D cT n S ad A H.size (fun q9 h9 => hA q9 (Nat.le_trans hS.1 h9)) x2 p1 r3 S4 k5 (lh_ls (L1 _ hx2))) (cwV 1 hts gX9_define_X3_at rfl rfl rfl (by decide +kernel) ⟨Nat.le_of_ble_eq_true rfl, Nat.le_of_ble_eq_true rfl⟩) hK hN hW (L1 _ hx2) rfl rfl rfl hl.1 rfl (by simp [lh_cat_r, lh_cat_i, lh_cat_j]) dX9_define_5 ⟨Nat.zero_le _, Nat.zero_le _⟩) hS (fun H locs hX hW hS => ?_)
  refine W.widen (k := 0) (n := 0) (by omega) (by omega) ?_
  show W _ _ _ _ _ _ _ _ _ _ _ _ _ _ _ (F0 m 8 ls [lh_r ad 2 r3])
  have m6 : ∀ b, gvN S b ≤ gvN S4 b := hX.1
  have L_t : ∀ j, some t = some j → j < gvN S4 9 := fun j h => Nat.lt_of_lt_of_le (L_t j h) (m6 _)
  have hm : ∀ b, gvN S b ≤ gvN S4 b := lh_le_trans hm m6
  have ok := lh_W_ok hW
  have L7 := hX.2
  refine lh_astore_n (i := 3) (lv' := [(3, lh_r ad 2 r3), (0, lh_r ad 9 (some t)), (1, .int p1), (2, .int p2)]) hx hb dX9_define_8 rfl hl (by decide) (by first | rfl | simp [lh_cat_r, lh_cat_i, lh_cat_j]) (fun ls hl => ?_)
  refine lh_aload_n hx hb dX9_define_9 rfl (lv_at hl 1 rfl) ?_
  refine lv_iload_n hx hb dX9_define_10 rfl (lv_at hl 3 rfl) ?_
  obtain ⟨r8, S9, k10, hf⟩ := dc_bd_ok hf
  refine lh_call (S' := S9) (lh_rv ⟨hx, hb, hml, hown, hts⟩ rfl (As := [.int p2]) (rest := []) (k := 9) (c_X9_fileAt l D cT n S4 ad A H.size (fun q9 h9 => hA q9 (Nat.le_trans hS.1 h9)) t p2 r8 S9 k10 L_t) (cwV 1 hts gX9_define_X9_fileAt rfl rfl rfl (by decide +kernel) ⟨Nat.le_of_ble_eq_true rfl, Nat.le_of_ble_eq_true rfl⟩) hK hN hW (L_t _ rfl) rfl rfl rfl hl.1 rfl (by simp [lh_cat_r, lh_cat_i, lh_cat_j]) dX9_define_11 ⟨Nat.zero_le _, Nat.zero_le _⟩) hS (fun H locs hX hW hS => ?_)
  refine W.widen (k := 0) (n := 0) (by omega) (by omega) ?_
  show W _ _ _ _ _ _ _ _ _ _ _ _ _ _ _ (F0 m 14 ls [lh_r ad 1 r8])
  have m11 : ∀ b, gvN S4 b ≤ gvN S9 b := hX.1
  have L7 : ∀ j, r3 = some j → j < gvN S9 2 := fun j h => Nat.lt_of_lt_of_le (L7 j h) (m11 _)
  have L_t : ∀ j, some t = some j → j < gvN S9 9 := fun j h => Nat.lt_of_lt_of_le (L_t j h) (m11 _)
  have hm : ∀ b, gvN S b ≤ gvN S9 b := lh_le_trans hm m11
  have ok := lh_W_ok hW
  have L12 := hX.2
  refine lh_astore (i := 4) (lv' := [(4, lh_r ad 1 r8), (3, lh_r ad 2 r3), (0, lh_r ad 9 (some t)), (1, .int p1), (2, .int p2)]) hx hb dX9_define_14 hl (by decide) (by first | rfl | simp [lh_cat_r, lh_cat_i, lh_cat_j]) (fun ls hl => ?_)
  refine lh_aload_n hx hb dX9_define_16 rfl (lv_at hl 1 rfl) ?_
  refine lh_ifnull (tgt := 25) hx hb dX9_define_17 (by decide) (fun c13 => ?_) (fun c13 => ?_)
  · replace hf := dc_if_t c13 hf
    refine lv_bipush (v := -2) hx hb dX9_define_25 (by decide) ?_
    obtain ⟨rfl, rfl⟩ := dc_ret hf
    refine W.widen (k := mc) (n := ms) (Nat.zero_le _) (Nat.zero_le _) ?_
    exact W.iret (v := (-2 : Int32)) hx hb hr (fun t9 ht9 hW9 => ⟨⟨ad, hE, rfl, ⟨hm, trivial⟩, by rw [ht9]; exact hW⟩, hS.F ht9⟩) hS.2.2 dX9_define_27
  · replace hf := dc_if_f c13 hf
    refine lh_aload hx hb dX9_define_20 (lv_at hl 0 rfl) ?_
    refine lh_ifnonnull (tgt := 28) hx hb dX9_define_22 (by decide) (fun c14 => ?_) (fun c14 => ?_)
    · replace hf := dc_if_f c14 hf
      refine lh_aload_n hx hb dX9_define_28 rfl (lv_at hl 2 rfl) ?_
      refine lh_aload_n hx hb dX9_define_29 rfl (lv_at hl 2 rfl) ?_
      have L15 : ∀ j, gvR S9 9 t 3 = some j → j < gvN S9 4 := fun j h => ok _ _ _ _ j (L_t _ rfl) rfl h
      refine lh_get (a := 9) (k := 3) (N := 10) (C := RX9) (T := TX9) (own := RX9) (ref := "LoaderModels") hx hb hts (fun _ h => (List.mem_cons_of_mem _ (List.mem_append_left _ (List.mem_append_left _ (List.mem_append_left _ (List.mem_append_left _ (List.mem_append_left _ (List.mem_append_left _ (List.mem_append_left _ (List.mem_append_right _ h)))))))))) hown hK hW rfl (L_t _ rfl) rfl rfl rfl (by decide) (hts (.fieldLink RX9 29 "LoaderModels" "loading" "LLoaderModels$Loading;") (List.mem_cons_of_mem _ (List.mem_append_left _ (List.mem_append_left _ (List.mem_append_left _ (List.mem_append_left _ (List.mem_append_left _ (List.mem_append_left _ (List.mem_append_left _ (List.mem_append_left _ (List.mem_append_left _ (List.mem_of_getElem? (i := 1) rfl)))))))))))) (fun _ h9 => h9) dX9_define_30 (v := lh_r ad 4 (gvR S9 9 t 3)) rfl ?_
      refine lh_aload_n hx hb dX9_define_33 rfl (lv_at hl 1 rfl) ?_
      refine lh_aload hx hb dX9_define_34 (lv_at hl 0 rfl) ?_
      obtain ⟨x16, hx16, hf⟩ := dc_nn_ok hf
      obtain ⟨r17, S18, k19, hf⟩ := dc_bd_ok hf
      have hn : ∀ b, gvN S18 b ≤ gvN S' b := by
        have hm : ∀ b, gvN S18 b ≤ gvN S18 b := fun _ => Nat.le_refl _
        obtain ⟨r23, S24, k25, hf⟩ := dc_bd_ok hf
        have hm := lh_le_trans hm (show ∀ b, gvN S18 b ≤ gvN S24 b from m_X9_answered k25)
        obtain ⟨_, rfl⟩ := dc_ret hf
        exact hm
      have q1 := m_X4_defineBy k19 8
      have q2 := m_X4_defineBy k19 5
      have q3 := hn 8
      have q4 := hn 5
      have q5 := hm 8
      have q6 := hm 5
      have hc9 : 0 + (gvN S18 8 + gvN S18 5 - (gvN S9 8 + gvN S9 5)) ≤ mc := by omega
      have hs9 : 0 + (4 * gvN S18 8 + 6 * gvN S18 5 - (4 * gvN S9 8 + 6 * gvN S9 5)) ≤ ms := by omega
      refine lh_callA (S' := S18) (lh_rv ⟨hx, hb, hml, hown, hts⟩ hx16 (As := [lh_r ad 2 r3, lh_r ad 1 r8]) (rest := [lh_r ad 9 (some t)]) (k := 4) (c_X4_defineBy l D cT n S9 ad A H.size (fun q9 h9 => hA q9 (Nat.le_trans hS.1 h9)) x16 r3 r8 r17 S18 k19 (lh_ls (L15 _ hx16)) L7 L12 (gvN S18 8 + gvN S18 5 - (gvN S9 8 + gvN S9 5)) (4 * gvN S18 8 + 6 * gvN S18 5 - (4 * gvN S9 8 + 6 * gvN S9 5)) (by omega) (by omega)) (cwV 2 hts gX9_define_X4_defineBy rfl rfl rfl (by decide +kernel) ⟨Nat.le_of_ble_eq_true rfl, Nat.le_of_ble_eq_true rfl⟩) hK hN hW (L15 _ hx16) rfl rfl rfl hl.1 rfl (by simp [lh_cat_r, lh_cat_i, lh_cat_j]) dX9_define_36 ⟨hc9, hs9⟩) hS (fun ad20 H locs hE21 hX hW hS => ?_)
      show W _ _ _ _ _ _ _ _ _ _ _ _ _ _ _ (F0 m 39 ls [.int r17, lh_r ad 9 (some t)])
      rw [lh_rE hE21 L12] at hl
      rw [lh_rE hE21 L7] at hl
      rw [lh_rE hE21 L_t] at hl
      rw [lh_rE hE21 L_t]
      have hE : lh_E S ad ad20 := lh_E.trans hE hm hE21
      have m22 : ∀ b, gvN S9 b ≤ gvN S18 b := hX.1
      have L12 : ∀ j, r8 = some j → j < gvN S18 1 := fun j h => Nat.lt_of_lt_of_le (L12 j h) (m22 _)
      have L7 : ∀ j, r3 = some j → j < gvN S18 2 := fun j h => Nat.lt_of_lt_of_le (L7 j h) (m22 _)
      have L_t : ∀ j, some t = some j → j < gvN S18 9 := fun j h => Nat.lt_of_lt_of_le (L_t j h) (m22 _)
      have hm : ∀ b, gvN S b ≤ gvN S18 b := lh_le_trans hm m22
      have ok := lh_W_ok hW
      obtain ⟨r23, S24, k25, hf⟩ := dc_bd_ok hf
      refine lh_call (S' := S24) (lh_rv ⟨hx, hb, hml, hown, hts⟩ rfl (As := [.int r17]) (rest := []) (k := 9) (c_X9_answered l D cT n S18 ad20 A H.size (fun q9 h9 => hA q9 (Nat.le_trans hS.1 h9)) t r17 r23 S24 k25 L_t) (cwV 1 hts gX9_define_X9_answered rfl rfl rfl (by decide +kernel) ⟨Nat.le_of_ble_eq_true rfl, Nat.le_of_ble_eq_true rfl⟩) hK hN hW (L_t _ rfl) rfl rfl rfl hl.1 rfl (by simp [lh_cat_r, lh_cat_i, lh_cat_j]) dX9_define_39 ⟨hc9, hs9⟩) hS (fun H locs hX hW hS => ?_)
      refine W.widen (k := 0 + (gvN S18 8 + gvN S18 5 - (gvN S9 8 + gvN S9 5))) (n := 0 + (4 * gvN S18 8 + 6 * gvN S18 5 - (4 * gvN S9 8 + 6 * gvN S9 5))) (by omega) (by omega) ?_
      show W _ _ _ _ _ _ _ _ _ _ _ _ _ _ _ (F0 m 42 ls [.int r23])
      have m26 : ∀ b, gvN S18 b ≤ gvN S24 b := hX.1
      have L12 : ∀ j, r8 = some j → j < gvN S24 1 := fun j h => Nat.lt_of_lt_of_le (L12 j h) (m26 _)
      have L7 : ∀ j, r3 = some j → j < gvN S24 2 := fun j h => Nat.lt_of_lt_of_le (L7 j h) (m26 _)
      have L_t : ∀ j, some t = some j → j < gvN S24 9 := fun j h => Nat.lt_of_lt_of_le (L_t j h) (m26 _)
      have hm : ∀ b, gvN S b ≤ gvN S24 b := lh_le_trans hm m26
      have ok := lh_W_ok hW
      obtain ⟨rfl, rfl⟩ := dc_ret hf
      refine W.widen (k := mc) (n := ms) hc9 hs9 ?_
      exact W.iret (v := r23) hx hb hr (fun t9 ht9 hW9 => ⟨⟨ad20, hE, rfl, ⟨hm, trivial⟩, by rw [ht9]; exact hW⟩, hS.F ht9⟩) hS.2.2 dX9_define_42
    · replace hf := dc_if_t c14 hf
      refine lv_bipush (v := -2) hx hb dX9_define_25 (by decide) ?_
      obtain ⟨rfl, rfl⟩ := dc_ret hf
      refine W.widen (k := mc) (n := ms) (Nat.zero_le _) (Nat.zero_le _) ?_
      exact W.iret (v := (-2 : Int32)) hx hb hr (fun t9 ht9 hW9 => ⟨⟨ad, hE, rfl, ⟨hm, trivial⟩, by rw [ht9]; exact hW⟩, hS.F ht9⟩) hS.2.2 dX9_define_27
