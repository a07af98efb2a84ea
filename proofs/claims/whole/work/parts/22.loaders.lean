def f_X3_add (n : Nat) (S : lh_S) (t : Nat) (p1 : Option Nat) : Option (Option Nat × lh_S) :=
  dc_let (pvN S 2 0) fun S1 =>
  dc_bd (f_X2_init n S1 (gvN S 2) (gvI S1 3 t 1) p1) fun r7 S8 =>
  dc_if ((8 : Int32) ≤ (gvI S8 3 t 1)) (
  some (some (gvN S 2), S8)) (
  dc_let (pvI S8 3 t 1 ((gvI S8 3 t 1) + (1 : Int32))) fun S15 =>
  dc_nn (gvR S8 3 t 0) fun x17 =>
  dc_gd ((gvI S8 3 t 1) < 0 ∨ gvL S15 16 x17 ≤ ((gvI S8 3 t 1)).toNatClampNeg) (
  dc_let (pvR S15 16 x17 ((gvI S8 3 t 1)).toNatClampNeg (some (gvN S 2))) fun S19 =>
  some (some (gvN S 2), S19)))
set_option maxHeartbeats 1000000 in
theorem m_X3_add {n : Nat} {S : lh_S} {t : Nat} {p1 : Option Nat} {r : Option Nat} {S' : lh_S} (hf : f_X3_add n S t p1 = some (r, S')) : ∀ b, gvN S b ≤ gvN S' b := by
  have hm : ∀ b, gvN S b ≤ gvN S b := fun _ => Nat.le_refl _
  unfold f_X3_add at hf
  obtain ⟨S1, eS1, hf⟩ := dc_let_ok hf
  have hm := lh_le_trans hm (show ∀ b, gvN S b ≤ gvN S1 b from by rw [eS1]; exact lh_mN)
  obtain ⟨r7, S8, k9, hf⟩ := dc_bd_ok hf
  have hm := lh_le_trans hm (show ∀ b, gvN S1 b ≤ gvN S8 b from m_X2_init k9)
  by_cases c13 : (8 : Int32) ≤ (gvI S8 3 t 1)
  · replace hf := dc_if_t c13 hf
    obtain ⟨_, rfl⟩ := dc_ret hf
    exact hm
  · replace hf := dc_if_f c13 hf
    obtain ⟨S15, eS15, hf⟩ := dc_let_ok hf
    have hm := lh_le_trans hm (show ∀ b, gvN S8 b ≤ gvN S15 b from by rw [eS15]; exact lh_mI)
    obtain ⟨x17, hx17, hf⟩ := dc_nn_ok hf
    obtain ⟨g18, hf⟩ := dc_gd_ok hf
    obtain ⟨S19, eS19, hf⟩ := dc_let_ok hf
    have hm := lh_le_trans hm (show ∀ b, gvN S15 b ≤ gvN S19 b from by rw [eS19]; exact lh_mR)
    obtain ⟨_, rfl⟩ := dc_ret hf
    exact hm
set_option maxHeartbeats 1000000 in
theorem k_X3_add {n : Nat} {S : lh_S} {t : Nat} {p1 : Option Nat} {r : Option Nat} {S' : lh_S} (hf : f_X3_add n S t p1 = some (r, S')) : lh_sm9 S S' := by
  have hm : lh_sm9 S S := lh_sm9_rf
  unfold f_X3_add at hf
  obtain ⟨S1, eS1, hf⟩ := dc_let_ok hf
  have hm := lh_sm9_trans hm (show lh_sm9 S S1 from by rw [eS1]; exact (lh_sm9N (by decide)))
  obtain ⟨r7, S8, k9, hf⟩ := dc_bd_ok hf
  have hm := lh_sm9_trans hm (show lh_sm9 S1 S8 from k_X2_init k9)
  by_cases c13 : (8 : Int32) ≤ (gvI S8 3 t 1)
  · replace hf := dc_if_t c13 hf
    obtain ⟨_, rfl⟩ := dc_ret hf
    exact hm
  · replace hf := dc_if_f c13 hf
    obtain ⟨S15, eS15, hf⟩ := dc_let_ok hf
    have hm := lh_sm9_trans hm (show lh_sm9 S8 S15 from by rw [eS15]; exact (lh_sm9I (by decide)))
    obtain ⟨x17, hx17, hf⟩ := dc_nn_ok hf
    obtain ⟨g18, hf⟩ := dc_gd_ok hf
    obtain ⟨S19, eS19, hf⟩ := dc_let_ok hf
    have hm := lh_sm9_trans hm (show lh_sm9 S15 S19 from by rw [eS19]; exact (lh_sm9R (by decide)))
    obtain ⟨_, rfl⟩ := dc_ret hf
    exact hm
set_option maxHeartbeats 4000000 in
set_option maxRecDepth 100000 in
theorem c_X3_add (l : Launch) (D : va_G) (cT : Nat → ClassId) (n : Nat) (S : lh_S) (ad : Nat → Nat → Nat) (A : Nat → Prop) (sz : Nat) (hA : ∀ q, sz ≤ q → A q) (t : Nat) (p1 : Option Nat) (r : Option Nat) (S' : lh_S) (hf : f_X3_add n S t p1 = some (r, S')) (L_t : ∀ j, some t = some j → j < gvN S 3) (L_p1 : ∀ j, p1 = some j → j < gvN S 2) : Met l yX3_add wsX3_add ({ frames := 2, cells := 5, slots := 167, locals := 43 } : Room) (lh_P D cT S ad A sz [lh_r ad 3 (some t), lh_r ad 2 p1]) (lh_QA D cT S S' ad A ((∀ b, gvN S b ≤ gvN S' b) ∧ (∀ j, r = some j → j < gvN S' 2)) (fun ad9 => some (lh_r ad9 2 r))) 5 167 A := by
  refine Met.ofW (cc := cX3_add) (maxL := 3) (ret := (some (.object "LoaderModels$Loader"))) (by decide) rfl ?_
  intro p e s m args below meth c s₁ B hml hv
  obtain ⟨hargs, hsz, hW, hK, hN⟩ := hv
  have hx := B.exec
  have hb := B.bytes
  have hr := B.returns
  have hts := atoms_spec (ws := wsX3_add) B.pre
  have hown : s.vm.findClass RX3 = some m.cls := findClass_of_methodNamed B.named
  have hlocks := B.notSynchronized
  have hA : ∀ q, s.heap.size ≤ q → A q := fun q h => hA q (by rw [← hsz]; exact h)
  have ok := lh_W_ok hW
  have hm : ∀ b, gvN S b ≤ gvN S b := fun _ => Nat.le_refl _
  have hE : lh_E S ad ad := lh_E.rf
  obtain ⟨ls, hent, hl⟩ := lh_entry m args [lh_r ad 3 (some t), lh_r ad 2 p1] 3 [(0, lh_r ad 3 (some t)), (1, lh_r ad 2 p1)] hargs (by simp [lv_args, lh_cat_r, lh_cat_i, lh_cat_j]) (by simp [lg_sl, lh_cat_r, lh_cat_i, lh_cat_j])
  rw [hent]
  generalize hH : s.heap = H at hW ⊢
  have hS : va_S A s.heap H [] := by rw [← hH]; exact va_S.rf
  unfold f_X3_add at hf
  obtain ⟨S1, eS1, hf⟩ := dc_let_ok hf
  refine lh_new (a := 2) (N := 7) (C := RX2) (T := TX2) (own := RX3) hx hb hts (fun _ h => (List.mem_cons_of_mem _ (List.mem_append_left _ (List.mem_append_right _ h)))) tyX2 tyX2_ok hown (hts (.classLink RX3 9 RX2) (List.mem_cons_of_mem _ (List.mem_append_left _ (List.mem_append_left _ (List.mem_of_getElem? (i := 0) rfl))))) (hts (.instantiable RX2 7) (List.mem_cons_of_mem _ (List.mem_append_left _ (List.mem_append_left _ (List.mem_of_getElem? (i := 1) rfl))))) (hts (.initialized RX2) (List.mem_cons_of_mem _ (List.mem_append_left _ (List.mem_append_left _ (List.mem_of_getElem? (i := 2) rfl))))) hK hW hS hA rfl rfl rfl (by decide +kernel) (Nat.le_of_ble_eq_true rfl) (Nat.le_of_ble_eq_true rfl) dX3_add_0 (fun ad2 H hE3 hW hS => ?_)
  rw [lh_rE hE3 L_t] at hl
  rw [lh_rE hE3 L_p1] at hl
  have hE : lh_E S ad ad2 := lh_E.trans hE hm hE3
  rw [← eS1] at hW
  have m4 : ∀ b, gvN S b ≤ gvN S1 b := by rw [eS1]; exact lh_mN
  have L_t : ∀ j, some t = some j → j < gvN S1 3 := fun j h => Nat.lt_of_lt_of_le (L_t j h) (m4 _)
  have L_p1 : ∀ j, p1 = some j → j < gvN S1 2 := fun j h => Nat.lt_of_lt_of_le (L_p1 j h) (m4 _)
  have hm : ∀ b, gvN S b ≤ gvN S1 b := lh_le_trans hm m4
  have ok := lh_W_ok hW
  have L5 : ∀ j, some (gvN S 2) = some j → j < gvN S1 2 := lh_ls (by rw [eS1]; exact lh_nN)
  refine lv_dup hx hb dX3_add_3 lh_cat_r ?_
  refine lh_aload_n hx hb dX3_add_4 rfl (lv_at hl 0 rfl) ?_
  refine lh_get (a := 3) (k := 1) (N := 2) (C := RX3) (T := TX3) (own := RX3) (ref := "LoaderModels$Loaders") hx hb hts (fun _ h => (List.mem_cons_of_mem _ (List.mem_append_right _ h))) hown hK hW rfl (L_t _ rfl) rfl rfl rfl (by decide) (hts (.fieldLink RX3 17 "LoaderModels$Loaders" "count" "I") (List.mem_cons_of_mem _ (List.mem_append_left _ (List.mem_append_left _ (List.mem_of_getElem? (i := 3) rfl))))) (fun _ h9 => h9) dX3_add_5 (v := .int (gvI S1 3 t 1)) rfl ?_
  refine lh_aload_n hx hb dX3_add_8 rfl (lv_at hl 1 rfl) ?_
  obtain ⟨r7, S8, k9, hf⟩ := dc_bd_ok hf
  refine lh_callA (S' := S8) (lh_ri ⟨hx, hb, hml, hown, hts⟩ rfl (As := [.int (gvI S1 3 t 1), lh_r ad2 2 p1]) (rest := [lh_r ad2 2 (some (gvN S 2))]) (k := 2) (c_X2_init l D cT n S1 ad2 A H.size (fun q9 h9 => hA q9 (Nat.le_trans hS.1 h9)) (gvN S 2) (gvI S1 3 t 1) p1 r7 S8 k9 L5 L_p1) (cwI 2 hts gX3_add_X2_init rfl rfl rfl (hts (.initialized RX2) (List.mem_cons_of_mem _ (List.mem_append_left _ (List.mem_append_left _ (List.mem_of_getElem? (i := 2) rfl))))) (hts (.methodLink RX3 21 yX2_init) (List.mem_cons_of_mem _ (List.mem_append_left _ (List.mem_append_left _ (List.mem_of_getElem? (i := 5) rfl))))) (hts (.instanceMethod yX2_init) (List.mem_cons_of_mem _ (List.mem_append_left _ (List.mem_append_left _ (List.mem_of_getElem? (i := 6) rfl))))) rfl (by decide +kernel) ⟨Nat.le_of_ble_eq_true rfl, Nat.le_of_ble_eq_true rfl⟩) hK hN hW rfl hl.1 rfl (by simp [lh_cat_r, lh_cat_i, lh_cat_j]) dX3_add_9 ⟨Nat.le_of_ble_eq_true rfl, Nat.le_of_ble_eq_true rfl⟩) hS (fun ad10 H locs hE11 hX hW hS => ?_)
  refine W.widen (k := 5) (n := 167) (by omega) (by omega) ?_
  show W _ _ _ _ _ _ _ _ _ _ _ _ _ _ _ (F0 m 12 ls [lh_r ad2 2 (some (gvN S 2))])
  rw [lh_rE hE11 L_t] at hl
  rw [lh_rE hE11 L_p1] at hl
  rw [lh_rE hE11 L5]
  have hE : lh_E S ad ad10 := lh_E.trans hE hm hE11
  have m12 : ∀ b, gvN S1 b ≤ gvN S8 b := hX.1
  have L_t : ∀ j, some t = some j → j < gvN S8 3 := fun j h => Nat.lt_of_lt_of_le (L_t j h) (m12 _)
  have L_p1 : ∀ j, p1 = some j → j < gvN S8 2 := fun j h => Nat.lt_of_lt_of_le (L_p1 j h) (m12 _)
  have L5 : ∀ j, some (gvN S 2) = some j → j < gvN S8 2 := fun j h => Nat.lt_of_lt_of_le (L5 j h) (m12 _)
  have hm : ∀ b, gvN S b ≤ gvN S8 b := lh_le_trans hm m12
  have ok := lh_W_ok hW
  refine lh_astore_n (i := 2) (lv' := [(2, lh_r ad10 2 (some (gvN S 2))), (0, lh_r ad10 3 (some t)), (1, lh_r ad10 2 p1)]) hx hb dX3_add_12 rfl hl (by decide) (by first | rfl | simp [lh_cat_r, lh_cat_i, lh_cat_j]) (fun ls hl => ?_)
  refine lh_aload_n hx hb dX3_add_13 rfl (lv_at hl 1 rfl) ?_
  refine lh_get (a := 3) (k := 1) (N := 2) (C := RX3) (T := TX3) (own := RX3) (ref := "LoaderModels$Loaders") hx hb hts (fun _ h => (List.mem_cons_of_mem _ (List.mem_append_right _ h))) hown hK hW rfl (L_t _ rfl) rfl rfl rfl (by decide) (hts (.fieldLink RX3 17 "LoaderModels$Loaders" "count" "I") (List.mem_cons_of_mem _ (List.mem_append_left _ (List.mem_append_left _ (List.mem_of_getElem? (i := 3) rfl))))) (fun _ h9 => h9) dX3_add_14 (v := .int (gvI S8 3 t 1)) rfl ?_
  refine lv_bipush (v := 8) hx hb dX3_add_17 (by decide) ?_
  refine lv_icmp_ge (tgt := 39) hx hb dX3_add_19 (by decide) (fun c13 => ?_) (fun c13 => ?_)
  · replace hf := dc_if_t c13 hf
    refine lh_aload_n hx hb dX3_add_39 rfl (lv_at hl 0 rfl) ?_
    obtain ⟨rfl, rfl⟩ := dc_ret hf
    exact W.aret (v := lh_r ad10 2 (some (gvN S 2))) hx hb hr (Or.inl ⟨_, rfl⟩) (lh_rf_or) (fun t9 ht9 hW9 => ⟨⟨ad10, hE, rfl, ⟨hm, L5⟩, by rw [ht9]; exact hW⟩, hS.F ht9⟩) hS.2.2 dX3_add_40
  · replace hf := dc_if_f c13 hf
    refine lh_aload_n hx hb dX3_add_22 rfl (lv_at hl 1 rfl) ?_
    have L14 : ∀ j, gvR S8 3 t 0 = some j → j < gvN S8 16 := fun j h => ok _ _ _ _ j (L_t _ rfl) rfl h
    refine lh_get (a := 3) (k := 0) (N := 2) (C := RX3) (T := TX3) (own := RX3) (ref := "LoaderModels$Loaders") hx hb hts (fun _ h => (List.mem_cons_of_mem _ (List.mem_append_right _ h))) hown hK hW rfl (L_t _ rfl) rfl rfl rfl (by decide) (hts (.fieldLink RX3 11 "LoaderModels$Loaders" "items" "[LLoaderModels$Loader;") (List.mem_cons_of_mem _ (List.mem_append_left _ (List.mem_append_left _ (List.mem_of_getElem? (i := 4) rfl))))) (fun _ h9 => h9) dX3_add_23 (v := lh_r ad10 16 (gvR S8 3 t 0)) rfl ?_
    refine lh_aload_n hx hb dX3_add_26 rfl (lv_at hl 1 rfl) ?_
    refine lv_dup hx hb dX3_add_27 lh_cat_r ?_
    refine lh_get (a := 3) (k := 1) (N := 2) (C := RX3) (T := TX3) (own := RX3) (ref := "LoaderModels$Loaders") hx hb hts (fun _ h => (List.mem_cons_of_mem _ (List.mem_append_right _ h))) hown hK hW rfl (L_t _ rfl) rfl rfl rfl (by decide) (hts (.fieldLink RX3 17 "LoaderModels$Loaders" "count" "I") (List.mem_cons_of_mem _ (List.mem_append_left _ (List.mem_append_left _ (List.mem_of_getElem? (i := 3) rfl))))) (fun _ h9 => h9) dX3_add_28 (v := .int (gvI S8 3 t 1)) rfl ?_
    refine lv_dup_x1 hx hb dX3_add_31 rfl lh_cat_r ?_
    refine lv_iconst (v := 1) hx hb dX3_add_32 (by decide) ?_
    refine lv_iadd hx hb dX3_add_33 ?_
    obtain ⟨S15, eS15, hf⟩ := dc_let_ok hf
    refine lh_put (S' := S15) (a := 3) (k := 1) (N := 2) (C := RX3) (T := TX3) (own := RX3) (ref := "LoaderModels$Loaders") (ty := .int) hx hb hts (fun _ h => (List.mem_cons_of_mem _ (List.mem_append_right _ h))) tyX3 tyX3_ok nmX3 hown hK hW hS rfl (L_t _ rfl) rfl rfl rfl (by decide) (hts (.fieldLink RX3 17 "LoaderModels$Loaders" "count" "I") (List.mem_cons_of_mem _ (List.mem_append_left _ (List.mem_append_left _ (List.mem_of_getElem? (i := 3) rfl))))) (fun _ h9 => h9) (Or.inl rfl) (by decide +kernel) rfl rfl (fun q9 => by rw [eS15]; exact lh_chI rfl q9) dX3_add_34 (fun H locs hW hS => ?_)
    have m16 : ∀ b, gvN S8 b ≤ gvN S15 b := by rw [eS15]; exact lh_mI
    have L5 : ∀ j, some (gvN S 2) = some j → j < gvN S15 2 := fun j h => Nat.lt_of_lt_of_le (L5 j h) (m16 _)
    have L_t : ∀ j, some t = some j → j < gvN S15 3 := fun j h => Nat.lt_of_lt_of_le (L_t j h) (m16 _)
    have L_p1 : ∀ j, p1 = some j → j < gvN S15 2 := fun j h => Nat.lt_of_lt_of_le (L_p1 j h) (m16 _)
    have L14 : ∀ j, gvR S8 3 t 0 = some j → j < gvN S15 16 := fun j h => Nat.lt_of_lt_of_le (L14 j h) (m16 _)
    have hm : ∀ b, gvN S b ≤ gvN S15 b := lh_le_trans hm m16
    have ok := lh_W_ok hW
    refine lh_aload_n hx hb dX3_add_37 rfl (lv_at hl 0 rfl) ?_
    obtain ⟨x17, hx17, hf⟩ := dc_nn_ok hf
    obtain ⟨g18, hf⟩ := dc_gd_ok hf
    obtain ⟨S19, eS19, hf⟩ := dc_let_ok hf
    refine lh_ast_r (a := 16) (t0 := 5) (t := 2) hx hb hK hW hS hx17 (L14 _ hx17) rfl rfl (fun _ => rfl) rfl rfl L5 g18 dX3_add_38 (fun H locs hW hS => ?_)
    rw [← eS19] at hW
    have m20 : ∀ b, gvN S15 b ≤ gvN S19 b := by rw [eS19]; exact lh_mR
    have L5 : ∀ j, some (gvN S 2) = some j → j < gvN S19 2 := fun j h => Nat.lt_of_lt_of_le (L5 j h) (m20 _)
    have L_t : ∀ j, some t = some j → j < gvN S19 3 := fun j h => Nat.lt_of_lt_of_le (L_t j h) (m20 _)
    have L_p1 : ∀ j, p1 = some j → j < gvN S19 2 := fun j h => Nat.lt_of_lt_of_le (L_p1 j h) (m20 _)
    have hm : ∀ b, gvN S b ≤ gvN S19 b := lh_le_trans hm m20
    have ok := lh_W_ok hW
    refine lh_aload_n hx hb dX3_add_39 rfl (lv_at hl 0 rfl) ?_
    obtain ⟨rfl, rfl⟩ := dc_ret hf
    exact W.aret (v := lh_r ad10 2 (some (gvN S 2))) hx hb hr (Or.inl ⟨_, rfl⟩) (lh_rf_or) (fun t9 ht9 hW9 => ⟨⟨ad10, hE, rfl, ⟨hm, L5⟩, by rw [ht9]; exact hW⟩, hS.F ht9⟩) hS.2.2 dX3_add_40
def f_X3_isBarred (n : Nat) (S : lh_S) (t : Nat) (p1 : Option Nat) (p2 : Int32) (p3 : Option Nat) : Option (Int32 × lh_S) :=
  dc_nn p1 fun x1 =>
  dc_nn (gvR S 2 x1 6) fun x3 =>
  dc_gd (p2 < 0 ∨ gvL S 15 x3 ≤ (p2).toNatClampNeg) (
  dc_bd (f_X3_knowsAnother n S t (gvI S 15 x3 (p2).toNatClampNeg) p2 p3) fun r5 S6 =>
  some (r5, S6))
set_option maxHeartbeats 1000000 in
theorem m_X3_isBarred {n : Nat} {S : lh_S} {t : Nat} {p1 : Option Nat} {p2 : Int32} {p3 : Option Nat} {r : Int32} {S' : lh_S} (hf : f_X3_isBarred n S t p1 p2 p3 = some (r, S')) : ∀ b, gvN S b ≤ gvN S' b := by
  have hm : ∀ b, gvN S b ≤ gvN S b := fun _ => Nat.le_refl _
  unfold f_X3_isBarred at hf
  obtain ⟨x1, hx1, hf⟩ := dc_nn_ok hf
  obtain ⟨x3, hx3, hf⟩ := dc_nn_ok hf
  obtain ⟨g4, hf⟩ := dc_gd_ok hf
  obtain ⟨r5, S6, k7, hf⟩ := dc_bd_ok hf
  have hm := lh_le_trans hm (show ∀ b, gvN S b ≤ gvN S6 b from m_X3_knowsAnother k7)
  obtain ⟨_, rfl⟩ := dc_ret hf
  exact hm
set_option maxHeartbeats 1000000 in
theorem k_X3_isBarred {n : Nat} {S : lh_S} {t : Nat} {p1 : Option Nat} {p2 : Int32} {p3 : Option Nat} {r : Int32} {S' : lh_S} (hf : f_X3_isBarred n S t p1 p2 p3 = some (r, S')) : lh_sm9 S S' := by
  have hm : lh_sm9 S S := lh_sm9_rf
  unfold f_X3_isBarred at hf
  obtain ⟨x1, hx1, hf⟩ := dc_nn_ok hf
  obtain ⟨x3, hx3, hf⟩ := dc_nn_ok hf
  obtain ⟨g4, hf⟩ := dc_gd_ok hf
  obtain ⟨r5, S6, k7, hf⟩ := dc_bd_ok hf
  have hm := lh_sm9_trans hm (show lh_sm9 S S6 from k_X3_knowsAnother k7)
  obtain ⟨_, rfl⟩ := dc_ret hf
  exact hm
set_option maxHeartbeats 4000000 in
set_option maxRecDepth 100000 in
theorem c_X3_isBarred (l : Launch) (D : va_G) (cT : Nat → ClassId) (n : Nat) (S : lh_S) (ad : Nat → Nat → Nat) (A : Nat → Prop) (sz : Nat) (hA : ∀ q, sz ≤ q → A q) (t : Nat) (p1 : Option Nat) (p2 : Int32) (p3 : Option Nat) (r : Int32) (S' : lh_S) (hf : f_X3_isBarred n S t p1 p2 p3 = some (r, S')) (L_t : ∀ j, some t = some j → j < gvN S 3) (L_p1 : ∀ j, p1 = some j → j < gvN S 2) (L_p3 : ∀ j, p3 = some j → j < gvN S 5) : Met l yX3_isBarred wsX3_isBarred ({ frames := 1, cells := 0, slots := 0, locals := 25 } : Room) (lh_P D cT S ad A sz [lh_r ad 3 (some t), lh_r ad 2 p1, .int p2, lh_r ad 5 p3]) (lh_Q D cT S' ad A ((∀ b, gvN S b ≤ gvN S' b) ∧ (r = 0 ∨ r = 1)) (some (.int r))) 0 0 A := by
  refine Met.ofW (cc := cX3_isBarred) (maxL := 4) (ret := (some .boolean)) (by decide) rfl ?_
  intro p e s m args below meth c s₁ B hml hv
  obtain ⟨hargs, hsz, hW, hK, hN⟩ := hv
  have hx := B.exec
  have hb := B.bytes
  have hr := B.returns
  have hts := atoms_spec (ws := wsX3_isBarred) B.pre
  have hown : s.vm.findClass RX3 = some m.cls := findClass_of_methodNamed B.named
  have hlocks := B.notSynchronized
  have hA : ∀ q, s.heap.size ≤ q → A q := fun q h => hA q (by rw [← hsz]; exact h)
  have ok := lh_W_ok hW
  have hm : ∀ b, gvN S b ≤ gvN S b := fun _ => Nat.le_refl _
  obtain ⟨ls, hent, hl⟩ := lh_entry m args [lh_r ad 3 (some t), lh_r ad 2 p1, .int p2, lh_r ad 5 p3] 4 [(0, lh_r ad 3 (some t)), (1, lh_r ad 2 p1), (2, .int p2), (3, lh_r ad 5 p3)] hargs (by simp [lv_args, lh_cat_r, lh_cat_i, lh_cat_j]) (by simp [lg_sl, lh_cat_r, lh_cat_i, lh_cat_j])
  rw [hent]
  generalize hH : s.heap = H at hW ⊢
  have hS : va_S A s.heap H [] := by rw [← hH]; exact va_S.rf
  unfold f_X3_isBarred at hf
  refine lh_aload_n hx hb dX3_isBarred_0 rfl (lv_at hl 0 rfl) ?_
  refine lh_aload_n hx hb dX3_isBarred_1 rfl (lv_at hl 1 rfl) ?_
  obtain ⟨x1, hx1, hf⟩ := dc_nn_ok hf
  have L2 : ∀ j, gvR S 2 x1 6 = some j → j < gvN S 15 := fun j h => ok _ _ _ _ j (L_p1 _ hx1) rfl h
  refine lh_get (a := 2) (k := 6) (N := 7) (C := RX2) (T := TX2) (own := RX3) (ref := "LoaderModels$Loader") hx hb hts (fun _ h => (List.mem_cons_of_mem _ (List.mem_append_left _ (List.mem_append_right _ h)))) hown hK hW hx1 (L_p1 _ hx1) rfl rfl rfl (by decide) (hts (.fieldLink RX3 28 "LoaderModels$Loader" "agreed" "[I") (List.mem_cons_of_mem _ (List.mem_append_left _ (List.mem_append_left _ (List.mem_of_getElem? (i := 0) rfl))))) (fun _ h9 => h9) dX3_isBarred_2 (v := lh_r ad 15 (gvR S 2 x1 6)) rfl ?_
  refine lv_iload_n hx hb dX3_isBarred_5 rfl (lv_at hl 2 rfl) ?_
  obtain ⟨x3, hx3, hf⟩ := dc_nn_ok hf
  obtain ⟨g4, hf⟩ := dc_gd_ok hf
  refine lh_ald_i (a := 15) hx hb hK hW hx3 (L2 _ hx3) rfl rfl g4 dX3_isBarred_6 ?_
  refine lv_iload_n hx hb dX3_isBarred_7 rfl (lv_at hl 2 rfl) ?_
  refine lh_aload_n hx hb dX3_isBarred_8 rfl (lv_at hl 3 rfl) ?_
  obtain ⟨r5, S6, k7, hf⟩ := dc_bd_ok hf
  refine lh_call (S' := S6) (lh_rv ⟨hx, hb, hml, hown, hts⟩ rfl (As := [.int (gvI S 15 x3 (p2).toNatClampNeg), .int p2, lh_r ad 5 p3]) (rest := []) (k := 3) (c_X3_knowsAnother l D cT n S ad A H.size (fun q9 h9 => hA q9 (Nat.le_trans hS.1 h9)) t (gvI S 15 x3 (p2).toNatClampNeg) p2 p3 r5 S6 k7 L_t L_p3) (cwV 3 hts gX3_isBarred_X3_knowsAnother rfl rfl rfl (by decide +kernel) ⟨Nat.le_of_ble_eq_true rfl, Nat.le_of_ble_eq_true rfl⟩) hK hN hW (L_t _ rfl) rfl rfl rfl hl.1 rfl (by simp [lh_cat_r, lh_cat_i, lh_cat_j]) dX3_isBarred_9 ⟨Nat.le_of_ble_eq_true rfl, Nat.le_of_ble_eq_true rfl⟩) hS (fun H locs hX hW hS => ?_)
  refine W.widen (k := 0) (n := 0) (by omega) (by omega) ?_
  show W _ _ _ _ _ _ _ _ _ _ _ _ _ _ _ (F0 m 12 ls [.int r5])
  have m8 : ∀ b, gvN S b ≤ gvN S6 b := hX.1
  have L_t : ∀ j, some t = some j → j < gvN S6 3 := fun j h => Nat.lt_of_lt_of_le (L_t j h) (m8 _)
  have L_p1 : ∀ j, p1 = some j → j < gvN S6 2 := fun j h => Nat.lt_of_lt_of_le (L_p1 j h) (m8 _)
  have L_p3 : ∀ j, p3 = some j → j < gvN S6 5 := fun j h => Nat.lt_of_lt_of_le (L_p3 j h) (m8 _)
  have hm : ∀ b, gvN S b ≤ gvN S6 b := lh_le_trans hm m8
  have ok := lh_W_ok hW
  have z9 := hX.2
  obtain ⟨rfl, rfl⟩ := dc_ret hf
  exact W.zret (v := r5) hx hb hr (lh_nar_z z9) (fun t9 ht9 hW9 => ⟨⟨rfl, ⟨hm, z9⟩, by rw [ht9]; exact hW⟩, hS.F ht9⟩) hS.2.2 dX3_isBarred_12
def f_X3_anyKnown_L2 (n : Nat) (t : Nat) (p1 : Int32) (p2 : Int32) : Nat → lh_S → Int32 → Option (Option Nat × lh_S)
  | 0, _, _ => none
  | g + 1, S1, v2 =>
  dc_if ((gvI S1 3 t 1) ≤ v2) (
  some ((none : Option Nat), S1)) (
  dc_nn (gvR S1 3 t 0) fun x6 =>
  dc_gd (v2 < 0 ∨ gvL S1 16 x6 ≤ (v2).toNatClampNeg) (
  dc_nn (gvR S1 16 x6 (v2).toNatClampNeg) fun x9 =>
  dc_nn (gvR S1 2 x9 4) fun x11 =>
  dc_gd (p2 < 0 ∨ gvL S1 13 x11 ≤ (p2).toNatClampNeg) (
  dc_let ((p1 >>> (v2 &&& 31)) &&& (1 : Int32)) fun v14 =>
  dc_if (v14 = (1 : Int32)) (
  dc_if ((gvR S1 13 x11 (p2).toNatClampNeg) = none) (
  f_X3_anyKnown_L2 n t p1 p2 g S1 (v2 + (1 : Int32))) (
  some (gvR S1 13 x11 (p2).toNatClampNeg, S1))) (
  f_X3_anyKnown_L2 n t p1 p2 g S1 (v2 + (1 : Int32))))))
theorem m_X3_anyKnown_L2 {n : Nat} {t : Nat} {p1 : Int32} {p2 : Int32} {r : Option Nat} {S' : lh_S} : ∀ (g : Nat) (S1 : lh_S) (v2 : Int32), f_X3_anyKnown_L2 n t p1 p2 g S1 v2 = some (r, S') → ∀ b, gvN S1 b ≤ gvN S' b := by
    intro g
    induction g with
    | zero => intro S1 v2 hf; rw [f_X3_anyKnown_L2] at hf; cases hf
    | succ g ih =>
      intro S1 v2 hf
      rw [f_X3_anyKnown_L2] at hf
      have hm : ∀ b, gvN S1 b ≤ gvN S1 b := fun _ => Nat.le_refl _
      by_cases c3 : (gvI S1 3 t 1) ≤ v2
      · replace hf := dc_if_t c3 hf
        obtain ⟨_, rfl⟩ := dc_ret hf
        exact hm
      · replace hf := dc_if_f c3 hf
        obtain ⟨x6, hx6, hf⟩ := dc_nn_ok hf
        obtain ⟨g7, hf⟩ := dc_gd_ok hf
        obtain ⟨x9, hx9, hf⟩ := dc_nn_ok hf
        obtain ⟨x11, hx11, hf⟩ := dc_nn_ok hf
        obtain ⟨g12, hf⟩ := dc_gd_ok hf
        obtain ⟨v14, hv14, hf⟩ := dc_let_ok hf
        by_cases c15 : v14 = (1 : Int32)
        · replace hf := dc_if_t c15 hf
          by_cases c16 : (gvR S1 13 x11 (p2).toNatClampNeg) = none
          · replace hf := dc_if_t c16 hf
            exact lh_le_trans hm (ih S1 (v2 + (1 : Int32)) hf)
          · replace hf := dc_if_f c16 hf
            obtain ⟨_, rfl⟩ := dc_ret hf
            exact hm
        · replace hf := dc_if_f c15 hf
          exact lh_le_trans hm (ih S1 (v2 + (1 : Int32)) hf)
theorem k_X3_anyKnown_L2 {n : Nat} {t : Nat} {p1 : Int32} {p2 : Int32} {r : Option Nat} {S' : lh_S} : ∀ (g : Nat) (S1 : lh_S) (v2 : Int32), f_X3_anyKnown_L2 n t p1 p2 g S1 v2 = some (r, S') → lh_sm9 S1 S' := by
    intro g
    induction g with
    | zero => intro S1 v2 hf; rw [f_X3_anyKnown_L2] at hf; cases hf
    | succ g ih =>
      intro S1 v2 hf
      rw [f_X3_anyKnown_L2] at hf
      have hm : lh_sm9 S1 S1 := lh_sm9_rf
      by_cases c3 : (gvI S1 3 t 1) ≤ v2
      · replace hf := dc_if_t c3 hf
        obtain ⟨_, rfl⟩ := dc_ret hf
        exact hm
      · replace hf := dc_if_f c3 hf
        obtain ⟨x6, hx6, hf⟩ := dc_nn_ok hf
        obtain ⟨g7, hf⟩ := dc_gd_ok hf
        obtain ⟨x9, hx9, hf⟩ := dc_nn_ok hf
        obtain ⟨x11, hx11, hf⟩ := dc_nn_ok hf
        obtain ⟨g12, hf⟩ := dc_gd_ok hf
        obtain ⟨v14, hv14, hf⟩ := dc_let_ok hf
        by_cases c15 : v14 = (1 : Int32)
        · replace hf := dc_if_t c15 hf
          by_cases c16 : (gvR S1 13 x11 (p2).toNatClampNeg) = none
          · replace hf := dc_if_t c16 hf
            exact lh_sm9_trans hm (ih S1 (v2 + (1 : Int32)) hf)
          · replace hf := dc_if_f c16 hf
            obtain ⟨_, rfl⟩ := dc_ret hf
            exact hm
        · replace hf := dc_if_f c15 hf
          exact lh_sm9_trans hm (ih S1 (v2 + (1 : Int32)) hf)
def f_X3_anyKnown (n : Nat) (S : lh_S) (t : Nat) (p1 : Int32) (p2 : Int32) : Option (Option Nat × lh_S) :=
  f_X3_anyKnown_L2 n t p1 p2 n S (0 : Int32)
set_option maxHeartbeats 1000000 in
theorem m_X3_anyKnown {n : Nat} {S : lh_S} {t : Nat} {p1 : Int32} {p2 : Int32} {r : Option Nat} {S' : lh_S} (hf : f_X3_anyKnown n S t p1 p2 = some (r, S')) : ∀ b, gvN S b ≤ gvN S' b := by
  have hm : ∀ b, gvN S b ≤ gvN S b := fun _ => Nat.le_refl _
  unfold f_X3_anyKnown at hf
  exact lh_le_trans hm (m_X3_anyKnown_L2 n S (0 : Int32) hf)
set_option maxHeartbeats 1000000 in
theorem k_X3_anyKnown {n : Nat} {S : lh_S} {t : Nat} {p1 : Int32} {p2 : Int32} {r : Option Nat} {S' : lh_S} (hf : f_X3_anyKnown n S t p1 p2 = some (r, S')) : lh_sm9 S S' := by
  have hm : lh_sm9 S S := lh_sm9_rf
  unfold f_X3_anyKnown at hf
  exact lh_sm9_trans hm (k_X3_anyKnown_L2 n S (0 : Int32) hf)
set_option maxHeartbeats 4000000 in
set_option maxRecDepth 100000 in
theorem c_X3_anyKnown (l : Launch) (D : va_G) (cT : Nat → ClassId) (n : Nat) (S : lh_S) (ad : Nat → Nat → Nat) (A : Nat → Prop) (sz : Nat) (hA : ∀ q, sz ≤ q → A q) (t : Nat) (p1 : Int32) (p2 : Int32) (r : Option Nat) (S' : lh_S) (hf : f_X3_anyKnown n S t p1 p2 = some (r, S')) (L_t : ∀ j, some t = some j → j < gvN S 3) : Met l yX3_anyKnown wsX3_anyKnown ({ frames := 0, cells := 0, slots := 0, locals := 0 } : Room) (lh_P D cT S ad A sz [lh_r ad 3 (some t), .int p1, .int p2]) (lh_Q D cT S' ad A ((∀ b, gvN S b ≤ gvN S' b) ∧ (∀ j, r = some j → j < gvN S' 5)) (some (lh_r ad 5 r))) 0 0 A := by
  refine Met.ofW (cc := cX3_anyKnown) (maxL := 5) (ret := (some (.object "LoaderModels$Model"))) (by decide) rfl ?_
  intro p e s m args below meth c s₁ B hml hv
  obtain ⟨hargs, hsz, hW, hK, hN⟩ := hv
  have hx := B.exec
  have hb := B.bytes
  have hr := B.returns
  have hts := atoms_spec (ws := wsX3_anyKnown) B.pre
  have hown : s.vm.findClass RX3 = some m.cls := findClass_of_methodNamed B.named
  have hlocks := B.notSynchronized
  have hA : ∀ q, s.heap.size ≤ q → A q := fun q h => hA q (by rw [← hsz]; exact h)
  have L2 : ∀ (g : Nat) (S1 : lh_S) (v2 : Int32), f_X3_anyKnown_L2 n t p1 p2 g S1 v2 = some (r, S') → (∀ b, gvN S b ≤ gvN S1 b) → ∀ (H : Heap) (locs : List Loc), lh_W D cT S1 ad A H → va_S A s.heap H locs → ∀ (ls : Array Slot), lv_has ls 5 [(0, lh_r ad 3 (some t)), (1, .int p1), (2, .int p2), (3, .int v2)] → W p l e (headSpec wsX3_anyKnown ({ frames := 0, cells := 0, slots := 0, locals := 0 } : Room)).room s m args below meth c H locs 0 0 (MQ below (lh_Q D cT S' ad A ((∀ b, gvN S b ≤ gvN S' b) ∧ (∀ j, r = some j → j < gvN S' 5)) (some (lh_r ad 5 r))) args s 0 0 A) (F0 m 2 ls []) := by
    intro g
    induction g with
    | zero => intro S1 v2 hf; rw [f_X3_anyKnown_L2] at hf; cases hf
    | succ g ih =>
      intro S1 v2 hf hm H locs hW hS ls hl
      rw [f_X3_anyKnown_L2] at hf
      have ok := lh_W_ok hW
      have L_t : ∀ j, some t = some j → j < gvN S1 3 := fun j h => Nat.lt_of_lt_of_le (L_t j h) (hm _)
      refine lv_iload_n hx hb dX3_anyKnown_2 rfl (lv_at hl 3 rfl) ?_
      refine lh_aload_n hx hb dX3_anyKnown_3 rfl (lv_at hl 0 rfl) ?_
      refine lh_get (a := 3) (k := 1) (N := 2) (C := RX3) (T := TX3) (own := RX3) (ref := "LoaderModels$Loaders") hx hb hts (fun _ h => (List.mem_cons_of_mem _ (List.mem_append_left _ (List.mem_append_right _ h)))) hown hK hW rfl (L_t _ rfl) rfl rfl rfl (by decide) (hts (.fieldLink RX3 17 "LoaderModels$Loaders" "count" "I") (List.mem_cons_of_mem _ (List.mem_append_left _ (List.mem_append_left _ (List.mem_of_getElem? (i := 0) rfl))))) (fun _ h9 => h9) dX3_anyKnown_4 (v := .int (gvI S1 3 t 1)) rfl ?_
      refine lv_icmp_ge (tgt := 46) hx hb dX3_anyKnown_7 (by decide) (fun c3 => ?_) (fun c3 => ?_)
      · replace hf := dc_if_t c3 hf
        have L4 : ∀ j, (none : Option Nat) = some j → j < gvN S1 5 := fun j h => by cases h
        refine lh_null hx hb ad 5 dX3_anyKnown_46 ?_
        obtain ⟨rfl, rfl⟩ := dc_ret hf
        exact W.aret (v := lh_r ad 5 (none : Option Nat)) hx hb hr (Or.inl ⟨_, rfl⟩) (lh_rf_or) (fun t9 ht9 hW9 => ⟨⟨rfl, ⟨hm, L4⟩, by rw [ht9]; exact hW⟩, hS.F ht9⟩) hS.2.2 dX3_anyKnown_47
      · replace hf := dc_if_f c3 hf
        refine lh_aload_n hx hb dX3_anyKnown_10 rfl (lv_at hl 0 rfl) ?_
        have L5 : ∀ j, gvR S1 3 t 0 = some j → j < gvN S1 16 := fun j h => ok _ _ _ _ j (L_t _ rfl) rfl h
        refine lh_get (a := 3) (k := 0) (N := 2) (C := RX3) (T := TX3) (own := RX3) (ref := "LoaderModels$Loaders") hx hb hts (fun _ h => (List.mem_cons_of_mem _ (List.mem_append_left _ (List.mem_append_right _ h)))) hown hK hW rfl (L_t _ rfl) rfl rfl rfl (by decide) (hts (.fieldLink RX3 11 "LoaderModels$Loaders" "items" "[LLoaderModels$Loader;") (List.mem_cons_of_mem _ (List.mem_append_left _ (List.mem_append_left _ (List.mem_of_getElem? (i := 1) rfl))))) (fun _ h9 => h9) dX3_anyKnown_11 (v := lh_r ad 16 (gvR S1 3 t 0)) rfl ?_
        refine lv_iload_n hx hb dX3_anyKnown_14 rfl (lv_at hl 3 rfl) ?_
        obtain ⟨x6, hx6, hf⟩ := dc_nn_ok hf
        obtain ⟨g7, hf⟩ := dc_gd_ok hf
        have L8 : ∀ j, gvR S1 16 x6 (v2).toNatClampNeg = some j → j < gvN S1 2 := fun j h => ok 16 _ _ 2 j (L5 _ hx6) rfl h
        refine lh_ald_r (a := 16) (t0 := 5) (t := 2) hx hb hK hW hx6 (L5 _ hx6) rfl rfl rfl g7 dX3_anyKnown_15 ?_
        obtain ⟨x9, hx9, hf⟩ := dc_nn_ok hf
        have L10 : ∀ j, gvR S1 2 x9 4 = some j → j < gvN S1 13 := fun j h => ok _ _ _ _ j (L8 _ hx9) rfl h
        refine lh_get (a := 2) (k := 4) (N := 7) (C := RX2) (T := TX2) (own := RX3) (ref := "LoaderModels$Loader") hx hb hts (fun _ h => (List.mem_cons_of_mem _ (List.mem_append_right _ h))) hown hK hW hx9 (L8 _ hx9) rfl rfl rfl (by decide) (hts (.fieldLink RX3 24 "LoaderModels$Loader" "knows" "[LLoaderModels$Model;") (List.mem_cons_of_mem _ (List.mem_append_left _ (List.mem_append_left _ (List.mem_of_getElem? (i := 2) rfl))))) (fun _ h9 => h9) dX3_anyKnown_16 (v := lh_r ad 13 (gvR S1 2 x9 4)) rfl ?_
        refine lv_iload_n hx hb dX3_anyKnown_19 rfl (lv_at hl 2 rfl) ?_
        obtain ⟨x11, hx11, hf⟩ := dc_nn_ok hf
        obtain ⟨g12, hf⟩ := dc_gd_ok hf
        have L13 : ∀ j, gvR S1 13 x11 (p2).toNatClampNeg = some j → j < gvN S1 5 := fun j h => ok 13 _ _ 5 j (L10 _ hx11) rfl h
        refine lh_ald_r (a := 13) (t0 := 6) (t := 5) hx hb hK hW hx11 (L10 _ hx11) rfl rfl rfl g12 dX3_anyKnown_20 ?_
        refine lh_astore (i := 4) (lv' := [(4, lh_r ad 5 (gvR S1 13 x11 (p2).toNatClampNeg)), (0, lh_r ad 3 (some t)), (1, .int p1), (2, .int p2), (3, .int v2)]) hx hb dX3_anyKnown_21 hl (by decide) (by first | rfl | simp [lh_cat_r, lh_cat_i, lh_cat_j]) (fun ls hl => ?_)
        refine lv_iload_n hx hb dX3_anyKnown_23 rfl (lv_at hl 2 rfl) ?_
        refine lv_iload_n hx hb dX3_anyKnown_24 rfl (lv_at hl 4 rfl) ?_
        refine lv_ishr hx hb dX3_anyKnown_25 ?_
        refine lv_iconst (v := 1) hx hb dX3_anyKnown_26 (by decide) ?_
        refine lv_iand hx hb dX3_anyKnown_27 ?_
        refine lv_topi (fun v14 hv14 => ?_)
        replace hf := dc_let_e hv14 hf
        refine lv_iconst (v := 1) hx hb dX3_anyKnown_28 (by decide) ?_
        refine lv_icmp_ne (tgt := 40) hx hb dX3_anyKnown_29 (by decide) (fun c15 => ?_) (fun c15 => ?_)
        · replace hf := dc_if_f c15 hf
          refine lv_iinc (v := v2 + (1 : Int32)) (lv' := [(3, .int (v2 + (1 : Int32))), (4, lh_r ad 5 (gvR S1 13 x11 (p2).toNatClampNeg)), (0, lh_r ad 3 (some t)), (1, .int p1), (2, .int p2)]) hx hb dX3_anyKnown_40 hl (k := 4) rfl (by first | rfl | decide) (by decide) (by first | rfl | simp [lh_cat_r, lh_cat_i, lh_cat_j]) (fun ls hl => ?_)
          refine lv_goto (tgt := 2) hx hb dX3_anyKnown_43 (by decide) ?_
          exact ih S1 (v2 + (1 : Int32)) hf hm _ _ hW hS _ (lv_sub hl [2, 3, 4, 0] (by first | rfl | simp [lv_pick]))
        · replace hf := dc_if_t c15 hf
          refine lh_aload hx hb dX3_anyKnown_32 (lv_at hl 0 rfl) ?_
          refine lh_ifnull (tgt := 40) hx hb dX3_anyKnown_34 (by decide) (fun c16 => ?_) (fun c16 => ?_)
          · replace hf := dc_if_t c16 hf
            refine lv_iinc (v := v2 + (1 : Int32)) (lv' := [(3, .int (v2 + (1 : Int32))), (4, lh_r ad 5 (gvR S1 13 x11 (p2).toNatClampNeg)), (0, lh_r ad 3 (some t)), (1, .int p1), (2, .int p2)]) hx hb dX3_anyKnown_40 hl (k := 4) rfl (by first | rfl | decide) (by decide) (by first | rfl | simp [lh_cat_r, lh_cat_i, lh_cat_j]) (fun ls hl => ?_)
            refine lv_goto (tgt := 2) hx hb dX3_anyKnown_43 (by decide) ?_
            exact ih S1 (v2 + (1 : Int32)) hf hm _ _ hW hS _ (lv_sub hl [2, 3, 4, 0] (by first | rfl | simp [lv_pick]))
          · replace hf := dc_if_f c16 hf
            refine lh_aload hx hb dX3_anyKnown_37 (lv_at hl 0 rfl) ?_
            obtain ⟨rfl, rfl⟩ := dc_ret hf
            exact W.aret (v := lh_r ad 5 (gvR S1 13 x11 (p2).toNatClampNeg)) hx hb hr (Or.inl ⟨_, rfl⟩) (lh_rf_or) (fun t9 ht9 hW9 => ⟨⟨rfl, ⟨hm, L13⟩, by rw [ht9]; exact hW⟩, hS.F ht9⟩) hS.2.2 dX3_anyKnown_39
  have ok := lh_W_ok hW
  have hm : ∀ b, gvN S b ≤ gvN S b := fun _ => Nat.le_refl _
  obtain ⟨ls, hent, hl⟩ := lh_entry m args [lh_r ad 3 (some t), .int p1, .int p2] 5 [(0, lh_r ad 3 (some t)), (1, .int p1), (2, .int p2)] hargs (by simp [lv_args, lh_cat_r, lh_cat_i, lh_cat_j]) (by simp [lg_sl, lh_cat_r, lh_cat_i, lh_cat_j])
  rw [hent]
  generalize hH : s.heap = H at hW ⊢
  have hS : va_S A s.heap H [] := by rw [← hH]; exact va_S.rf
  unfold f_X3_anyKnown at hf
  refine lv_iconst (v := 0) hx hb dX3_anyKnown_0 (by decide) ?_
  refine lv_istore_n (i := 3) (lv' := [(3, .int (0 : Int32)), (0, lh_r ad 3 (some t)), (1, .int p1), (2, .int p2)]) hx hb dX3_anyKnown_1 rfl hl (by decide) (by first | rfl | simp [lh_cat_r, lh_cat_i, lh_cat_j]) (fun ls hl => ?_)
  exact L2 n S (0 : Int32) hf hm _ _ hW hS _ (lv_sub hl [1, 2, 3, 0] (by first | rfl | simp [lv_pick]))
def f_X3_bind_L37 (n : Nat) (t : Nat) (p1 : Option Nat) (p2 : Option Nat) (p3 : Int32) : Nat → lh_S → Int32 → Int32 → Option (Int32 × lh_S)
  | 0, _, _, _ => none
  | g + 1, S21, v22, v23 =>
  dc_if ((gvI S21 3 t 1) ≤ v23) (
  some ((1 : Int32), S21)) (
  dc_let ((v22 >>> (v23 &&& 31)) &&& (1 : Int32)) fun v25 =>
  dc_if (v25 = (1 : Int32)) (
  dc_nn (gvR S21 3 t 0) fun x28 =>
  dc_gd (v23 < 0 ∨ gvL S21 16 x28 ≤ (v23).toNatClampNeg) (
  dc_nn (gvR S21 16 x28 (v23).toNatClampNeg) fun x31 =>
  dc_nn (gvR S21 2 x31 6) fun x33 =>
  dc_gd (p3 < 0 ∨ gvL S21 15 x33 ≤ (p3).toNatClampNeg) (
  dc_let (pvI S21 15 x33 (p3).toNatClampNeg v22) fun S35 =>
  f_X3_bind_L37 n t p1 p2 p3 g S35 v22 (v23 + (1 : Int32))))) (
  f_X3_bind_L37 n t p1 p2 p3 g S21 v22 (v23 + (1 : Int32))))
theorem m_X3_bind_L37 {n : Nat} {t : Nat} {p1 : Option Nat} {p2 : Option Nat} {p3 : Int32} {r : Int32} {S' : lh_S} : ∀ (g : Nat) (S21 : lh_S) (v22 : Int32) (v23 : Int32), f_X3_bind_L37 n t p1 p2 p3 g S21 v22 v23 = some (r, S') → ∀ b, gvN S21 b ≤ gvN S' b := by
    intro g
    induction g with
    | zero => intro S21 v22 v23 hf; rw [f_X3_bind_L37] at hf; cases hf
    | succ g ih =>
      intro S21 v22 v23 hf
      rw [f_X3_bind_L37] at hf
      have hm : ∀ b, gvN S21 b ≤ gvN S21 b := fun _ => Nat.le_refl _
      by_cases c24 : (gvI S21 3 t 1) ≤ v23
      · replace hf := dc_if_t c24 hf
        obtain ⟨_, rfl⟩ := dc_ret hf
        exact hm
      · replace hf := dc_if_f c24 hf
        obtain ⟨v25, hv25, hf⟩ := dc_let_ok hf
        by_cases c26 : v25 = (1 : Int32)
        · replace hf := dc_if_t c26 hf
          obtain ⟨x28, hx28, hf⟩ := dc_nn_ok hf
          obtain ⟨g29, hf⟩ := dc_gd_ok hf
          obtain ⟨x31, hx31, hf⟩ := dc_nn_ok hf
          obtain ⟨x33, hx33, hf⟩ := dc_nn_ok hf
          obtain ⟨g34, hf⟩ := dc_gd_ok hf
          obtain ⟨S35, eS35, hf⟩ := dc_let_ok hf
          have hm := lh_le_trans hm (show ∀ b, gvN S21 b ≤ gvN S35 b from by rw [eS35]; exact lh_mI)
          exact lh_le_trans hm (ih S35 v22 (v23 + (1 : Int32)) hf)
        · replace hf := dc_if_f c26 hf
          exact lh_le_trans hm (ih S21 v22 (v23 + (1 : Int32)) hf)
theorem k_X3_bind_L37 {n : Nat} {t : Nat} {p1 : Option Nat} {p2 : Option Nat} {p3 : Int32} {r : Int32} {S' : lh_S} : ∀ (g : Nat) (S21 : lh_S) (v22 : Int32) (v23 : Int32), f_X3_bind_L37 n t p1 p2 p3 g S21 v22 v23 = some (r, S') → lh_sm9 S21 S' := by
    intro g
    induction g with
    | zero => intro S21 v22 v23 hf; rw [f_X3_bind_L37] at hf; cases hf
    | succ g ih =>
      intro S21 v22 v23 hf
      rw [f_X3_bind_L37] at hf
      have hm : lh_sm9 S21 S21 := lh_sm9_rf
      by_cases c24 : (gvI S21 3 t 1) ≤ v23
      · replace hf := dc_if_t c24 hf
        obtain ⟨_, rfl⟩ := dc_ret hf
        exact hm
      · replace hf := dc_if_f c24 hf
        obtain ⟨v25, hv25, hf⟩ := dc_let_ok hf
        by_cases c26 : v25 = (1 : Int32)
        · replace hf := dc_if_t c26 hf
          obtain ⟨x28, hx28, hf⟩ := dc_nn_ok hf
          obtain ⟨g29, hf⟩ := dc_gd_ok hf
          obtain ⟨x31, hx31, hf⟩ := dc_nn_ok hf
          obtain ⟨x33, hx33, hf⟩ := dc_nn_ok hf
          obtain ⟨g34, hf⟩ := dc_gd_ok hf
          obtain ⟨S35, eS35, hf⟩ := dc_let_ok hf
          have hm := lh_sm9_trans hm (show lh_sm9 S21 S35 from by rw [eS35]; exact (lh_sm9I (by decide)))
          exact lh_sm9_trans hm (ih S35 v22 (v23 + (1 : Int32)) hf)
        · replace hf := dc_if_f c26 hf
          exact lh_sm9_trans hm (ih S21 v22 (v23 + (1 : Int32)) hf)
def f_X3_bind (n : Nat) (S : lh_S) (t : Nat) (p1 : Option Nat) (p2 : Option Nat) (p3 : Int32) : Option (Int32 × lh_S) :=
  dc_nn p1 fun x1 =>
  dc_nn (gvR S 2 x1 6) fun x3 =>
  dc_gd (p3 < 0 ∨ gvL S 15 x3 ≤ (p3).toNatClampNeg) (
  dc_nn p2 fun x5 =>
  dc_nn (gvR S 2 x5 6) fun x7 =>
  dc_gd (p3 < 0 ∨ gvL S 15 x7 ≤ (p3).toNatClampNeg) (
  dc_let ((gvI S 15 x3 (p3).toNatClampNeg) ||| (gvI S 15 x7 (p3).toNatClampNeg)) fun v9 =>
  dc_bd (f_X3_anyKnown n S t v9 p3) fun r10 S11 =>
  dc_bd (f_X3_knowsAnother n S11 t v9 p3 r10) fun r15 S16 =>
  dc_if (r15 = 0) (
  f_X3_bind_L37 n t p1 p2 p3 n S16 v9 (0 : Int32)) (
  some ((0 : Int32), S16))))
set_option maxHeartbeats 1000000 in
theorem m_X3_bind {n : Nat} {S : lh_S} {t : Nat} {p1 : Option Nat} {p2 : Option Nat} {p3 : Int32} {r : Int32} {S' : lh_S} (hf : f_X3_bind n S t p1 p2 p3 = some (r, S')) : ∀ b, gvN S b ≤ gvN S' b := by
  have hm : ∀ b, gvN S b ≤ gvN S b := fun _ => Nat.le_refl _
  unfold f_X3_bind at hf
  obtain ⟨x1, hx1, hf⟩ := dc_nn_ok hf
  obtain ⟨x3, hx3, hf⟩ := dc_nn_ok hf
  obtain ⟨g4, hf⟩ := dc_gd_ok hf
  obtain ⟨x5, hx5, hf⟩ := dc_nn_ok hf
  obtain ⟨x7, hx7, hf⟩ := dc_nn_ok hf
  obtain ⟨g8, hf⟩ := dc_gd_ok hf
  obtain ⟨v9, hv9, hf⟩ := dc_let_ok hf
  obtain ⟨r10, S11, k12, hf⟩ := dc_bd_ok hf
  have hm := lh_le_trans hm (show ∀ b, gvN S b ≤ gvN S11 b from m_X3_anyKnown k12)
  obtain ⟨r15, S16, k17, hf⟩ := dc_bd_ok hf
  have hm := lh_le_trans hm (show ∀ b, gvN S11 b ≤ gvN S16 b from m_X3_knowsAnother k17)
  by_cases c20 : r15 = 0
  · replace hf := dc_if_t c20 hf
    exact lh_le_trans hm (m_X3_bind_L37 n S16 v9 (0 : Int32) hf)
  · replace hf := dc_if_f c20 hf
    obtain ⟨_, rfl⟩ := dc_ret hf
    exact hm
set_option maxHeartbeats 1000000 in
theorem k_X3_bind {n : Nat} {S : lh_S} {t : Nat} {p1 : Option Nat} {p2 : Option Nat} {p3 : Int32} {r : Int32} {S' : lh_S} (hf : f_X3_bind n S t p1 p2 p3 = some (r, S')) : lh_sm9 S S' := by
  have hm : lh_sm9 S S := lh_sm9_rf
  unfold f_X3_bind at hf
  obtain ⟨x1, hx1, hf⟩ := dc_nn_ok hf
  obtain ⟨x3, hx3, hf⟩ := dc_nn_ok hf
  obtain ⟨g4, hf⟩ := dc_gd_ok hf
  obtain ⟨x5, hx5, hf⟩ := dc_nn_ok hf
  obtain ⟨x7, hx7, hf⟩ := dc_nn_ok hf
  obtain ⟨g8, hf⟩ := dc_gd_ok hf
  obtain ⟨v9, hv9, hf⟩ := dc_let_ok hf
  obtain ⟨r10, S11, k12, hf⟩ := dc_bd_ok hf
  have hm := lh_sm9_trans hm (show lh_sm9 S S11 from k_X3_anyKnown k12)
  obtain ⟨r15, S16, k17, hf⟩ := dc_bd_ok hf
  have hm := lh_sm9_trans hm (show lh_sm9 S11 S16 from k_X3_knowsAnother k17)
  by_cases c20 : r15 = 0
  · replace hf := dc_if_t c20 hf
    exact lh_sm9_trans hm (k_X3_bind_L37 n S16 v9 (0 : Int32) hf)
  · replace hf := dc_if_f c20 hf
    obtain ⟨_, rfl⟩ := dc_ret hf
    exact hm
set_option maxHeartbeats 4000000 in
set_option maxRecDepth 100000 in
theorem c_X3_bind (l : Launch) (D : va_G) (cT : Nat → ClassId) (n : Nat) (S : lh_S) (ad : Nat → Nat → Nat) (A : Nat → Prop) (sz : Nat) (hA : ∀ q, sz ≤ q → A q) (t : Nat) (p1 : Option Nat) (p2 : Option Nat) (p3 : Int32) (r : Int32) (S' : lh_S) (hf : f_X3_bind n S t p1 p2 p3 = some (r, S')) (L_t : ∀ j, some t = some j → j < gvN S 3) (L_p1 : ∀ j, p1 = some j → j < gvN S 2) (L_p2 : ∀ j, p2 = some j → j < gvN S 2) : Met l yX3_bind wsX3_bind ({ frames := 1, cells := 0, slots := 0, locals := 25 } : Room) (lh_P D cT S ad A sz [lh_r ad 3 (some t), lh_r ad 2 p1, lh_r ad 2 p2, .int p3]) (lh_Q D cT S' ad A ((∀ b, gvN S b ≤ gvN S' b) ∧ (r = 0 ∨ r = 1)) (some (.int r))) 0 0 A := by
  refine Met.ofW (cc := cX3_bind) (maxL := 6) (ret := (some .boolean)) (by decide) rfl ?_
  intro p e s m args below meth c s₁ B hml hv
  obtain ⟨hargs, hsz, hW, hK, hN⟩ := hv
  have hx := B.exec
  have hb := B.bytes
  have hr := B.returns
  have hts := atoms_spec (ws := wsX3_bind) B.pre
  have hown : s.vm.findClass RX3 = some m.cls := findClass_of_methodNamed B.named
  have hlocks := B.notSynchronized
  have hA : ∀ q, s.heap.size ≤ q → A q := fun q h => hA q (by rw [← hsz]; exact h)
  have L37 : ∀ (g : Nat) (S21 : lh_S) (v22 : Int32) (v23 : Int32), f_X3_bind_L37 n t p1 p2 p3 g S21 v22 v23 = some (r, S') → (∀ b, gvN S b ≤ gvN S21 b) → ∀ (H : Heap) (locs : List Loc), lh_W D cT S21 ad A H → va_S A s.heap H locs → ∀ (ls : Array Slot), lv_has ls 6 [(0, lh_r ad 3 (some t)), (1, lh_r ad 2 p1), (2, lh_r ad 2 p2), (3, .int p3), (4, .int v22), (5, .int v23)] → W p l e (headSpec wsX3_bind ({ frames := 1, cells := 0, slots := 0, locals := 25 } : Room)).room s m args below meth c H locs 0 0 (MQ below (lh_Q D cT S' ad A ((∀ b, gvN S b ≤ gvN S' b) ∧ (r = 0 ∨ r = 1)) (some (.int r))) args s 0 0 A) (F0 m 37 ls []) := by
    intro g
    induction g with
    | zero => intro S21 v22 v23 hf; rw [f_X3_bind_L37] at hf; cases hf
    | succ g ih =>
      intro S21 v22 v23 hf hm H locs hW hS ls hl
      rw [f_X3_bind_L37] at hf
      have ok := lh_W_ok hW
      have L_t : ∀ j, some t = some j → j < gvN S21 3 := fun j h => Nat.lt_of_lt_of_le (L_t j h) (hm _)
      have L_p1 : ∀ j, p1 = some j → j < gvN S21 2 := fun j h => Nat.lt_of_lt_of_le (L_p1 j h) (hm _)
      have L_p2 : ∀ j, p2 = some j → j < gvN S21 2 := fun j h => Nat.lt_of_lt_of_le (L_p2 j h) (hm _)
      refine lv_iload hx hb dX3_bind_37 (lv_at hl 5 rfl) ?_
      refine lh_aload_n hx hb dX3_bind_39 rfl (lv_at hl 0 rfl) ?_
      refine lh_get (a := 3) (k := 1) (N := 2) (C := RX3) (T := TX3) (own := RX3) (ref := "LoaderModels$Loaders") hx hb hts (fun _ h => (List.mem_cons_of_mem _ (List.mem_append_right _ h))) hown hK hW rfl (L_t _ rfl) rfl rfl rfl (by decide) (hts (.fieldLink RX3 17 "LoaderModels$Loaders" "count" "I") (List.mem_cons_of_mem _ (List.mem_append_left _ (List.mem_append_left _ (List.mem_of_getElem? (i := 1) rfl))))) (fun _ h9 => h9) dX3_bind_40 (v := .int (gvI S21 3 t 1)) rfl ?_
      refine lv_icmp_ge (tgt := 77) hx hb dX3_bind_43 (by decide) (fun c24 => ?_) (fun c24 => ?_)
      · replace hf := dc_if_t c24 hf
        refine lv_iconst (v := 1) hx hb dX3_bind_77 (by decide) ?_
        obtain ⟨rfl, rfl⟩ := dc_ret hf
        exact W.zret (v := (1 : Int32)) hx hb hr (lh_nar_z (Or.inr rfl)) (fun t9 ht9 hW9 => ⟨⟨rfl, ⟨hm, (Or.inr rfl)⟩, by rw [ht9]; exact hW⟩, hS.F ht9⟩) hS.2.2 dX3_bind_78
      · replace hf := dc_if_f c24 hf
        refine lv_iload hx hb dX3_bind_46 (lv_at hl 4 rfl) ?_
        refine lv_iload hx hb dX3_bind_48 (lv_at hl 5 rfl) ?_
        refine lv_ishr hx hb dX3_bind_50 ?_
        refine lv_iconst (v := 1) hx hb dX3_bind_51 (by decide) ?_
        refine lv_iand hx hb dX3_bind_52 ?_
        refine lv_topi (fun v25 hv25 => ?_)
        replace hf := dc_let_e hv25 hf
        refine lv_iconst (v := 1) hx hb dX3_bind_53 (by decide) ?_
        refine lv_icmp_ne (tgt := 71) hx hb dX3_bind_54 (by decide) (fun c26 => ?_) (fun c26 => ?_)
        · replace hf := dc_if_f c26 hf
          refine lv_iinc (v := v23 + (1 : Int32)) (lv' := [(5, .int (v23 + (1 : Int32))), (0, lh_r ad 3 (some t)), (1, lh_r ad 2 p1), (2, lh_r ad 2 p2), (3, .int p3), (4, .int v22)]) hx hb dX3_bind_71 hl (k := 5) rfl (by first | rfl | decide) (by decide) (by first | rfl | simp [lh_cat_r, lh_cat_i, lh_cat_j]) (fun ls hl => ?_)
          refine lv_goto (tgt := 37) hx hb dX3_bind_74 (by decide) ?_
          exact ih S21 v22 (v23 + (1 : Int32)) hf hm _ _ hW hS _ (lv_sub hl [1, 2, 3, 4, 5, 0] (by first | rfl | simp [lv_pick]))
        · replace hf := dc_if_t c26 hf
          refine lh_aload_n hx hb dX3_bind_57 rfl (lv_at hl 0 rfl) ?_
          have L27 : ∀ j, gvR S21 3 t 0 = some j → j < gvN S21 16 := fun j h => ok _ _ _ _ j (L_t _ rfl) rfl h
          refine lh_get (a := 3) (k := 0) (N := 2) (C := RX3) (T := TX3) (own := RX3) (ref := "LoaderModels$Loaders") hx hb hts (fun _ h => (List.mem_cons_of_mem _ (List.mem_append_right _ h))) hown hK hW rfl (L_t _ rfl) rfl rfl rfl (by decide) (hts (.fieldLink RX3 11 "LoaderModels$Loaders" "items" "[LLoaderModels$Loader;") (List.mem_cons_of_mem _ (List.mem_append_left _ (List.mem_append_left _ (List.mem_of_getElem? (i := 2) rfl))))) (fun _ h9 => h9) dX3_bind_58 (v := lh_r ad 16 (gvR S21 3 t 0)) rfl ?_
          refine lv_iload hx hb dX3_bind_61 (lv_at hl 5 rfl) ?_
          obtain ⟨x28, hx28, hf⟩ := dc_nn_ok hf
          obtain ⟨g29, hf⟩ := dc_gd_ok hf
          have L30 : ∀ j, gvR S21 16 x28 (v23).toNatClampNeg = some j → j < gvN S21 2 := fun j h => ok 16 _ _ 2 j (L27 _ hx28) rfl h
          refine lh_ald_r (a := 16) (t0 := 5) (t := 2) hx hb hK hW hx28 (L27 _ hx28) rfl rfl rfl g29 dX3_bind_63 ?_
          obtain ⟨x31, hx31, hf⟩ := dc_nn_ok hf
          have L32 : ∀ j, gvR S21 2 x31 6 = some j → j < gvN S21 15 := fun j h => ok _ _ _ _ j (L30 _ hx31) rfl h
          refine lh_get (a := 2) (k := 6) (N := 7) (C := RX2) (T := TX2) (own := RX3) (ref := "LoaderModels$Loader") hx hb hts (fun _ h => (List.mem_cons_of_mem _ (List.mem_append_left _ (List.mem_append_right _ h)))) hown hK hW hx31 (L30 _ hx31) rfl rfl rfl (by decide) (hts (.fieldLink RX3 28 "LoaderModels$Loader" "agreed" "[I") (List.mem_cons_of_mem _ (List.mem_append_left _ (List.mem_append_left _ (List.mem_of_getElem? (i := 0) rfl))))) (fun _ h9 => h9) dX3_bind_64 (v := lh_r ad 15 (gvR S21 2 x31 6)) rfl ?_
          refine lv_iload_n hx hb dX3_bind_67 rfl (lv_at hl 3 rfl) ?_
          refine lv_iload hx hb dX3_bind_68 (lv_at hl 4 rfl) ?_
          obtain ⟨x33, hx33, hf⟩ := dc_nn_ok hf
          obtain ⟨g34, hf⟩ := dc_gd_ok hf
          obtain ⟨S35, eS35, hf⟩ := dc_let_ok hf
          refine lh_ast_i (a := 15) hx hb hK hW hS hx33 (L32 _ hx33) rfl (fun _ => rfl) g34 dX3_bind_70 (fun H locs hW hS => ?_)
          rw [← eS35] at hW
          have m36 : ∀ b, gvN S21 b ≤ gvN S35 b := by rw [eS35]; exact lh_mI
          have L_t : ∀ j, some t = some j → j < gvN S35 3 := fun j h => Nat.lt_of_lt_of_le (L_t j h) (m36 _)
          have L_p1 : ∀ j, p1 = some j → j < gvN S35 2 := fun j h => Nat.lt_of_lt_of_le (L_p1 j h) (m36 _)
          have L_p2 : ∀ j, p2 = some j → j < gvN S35 2 := fun j h => Nat.lt_of_lt_of_le (L_p2 j h) (m36 _)
          have hm : ∀ b, gvN S b ≤ gvN S35 b := lh_le_trans hm m36
          have ok := lh_W_ok hW
          refine lv_iinc (v := v23 + (1 : Int32)) (lv' := [(5, .int (v23 + (1 : Int32))), (0, lh_r ad 3 (some t)), (1, lh_r ad 2 p1), (2, lh_r ad 2 p2), (3, .int p3), (4, .int v22)]) hx hb dX3_bind_71 hl (k := 5) rfl (by first | rfl | decide) (by decide) (by first | rfl | simp [lh_cat_r, lh_cat_i, lh_cat_j]) (fun ls hl => ?_)
          refine lv_goto (tgt := 37) hx hb dX3_bind_74 (by decide) ?_
          exact ih S35 v22 (v23 + (1 : Int32)) hf hm _ _ hW hS _ (lv_sub hl [1, 2, 3, 4, 5, 0] (by first | rfl | simp [lv_pick]))
  have ok := lh_W_ok hW
  have hm : ∀ b, gvN S b ≤ gvN S b := fun _ => Nat.le_refl _
  obtain ⟨ls, hent, hl⟩ := lh_entry m args [lh_r ad 3 (some t), lh_r ad 2 p1, lh_r ad 2 p2, .int p3] 6 [(0, lh_r ad 3 (some t)), (1, lh_r ad 2 p1), (2, lh_r ad 2 p2), (3, .int p3)] hargs (by simp [lv_args, lh_cat_r, lh_cat_i, lh_cat_j]) (by simp [lg_sl, lh_cat_r, lh_cat_i, lh_cat_j])
  rw [hent]
  generalize hH : s.heap = H at hW ⊢
  have hS : va_S A s.heap H [] := by rw [← hH]; exact va_S.rf
  unfold f_X3_bind at hf
  refine lh_aload_n hx hb dX3_bind_0 rfl (lv_at hl 1 rfl) ?_
  obtain ⟨x1, hx1, hf⟩ := dc_nn_ok hf
  have L2 : ∀ j, gvR S 2 x1 6 = some j → j < gvN S 15 := fun j h => ok _ _ _ _ j (L_p1 _ hx1) rfl h
  refine lh_get (a := 2) (k := 6) (N := 7) (C := RX2) (T := TX2) (own := RX3) (ref := "LoaderModels$Loader") hx hb hts (fun _ h => (List.mem_cons_of_mem _ (List.mem_append_left _ (List.mem_append_right _ h)))) hown hK hW hx1 (L_p1 _ hx1) rfl rfl rfl (by decide) (hts (.fieldLink RX3 28 "LoaderModels$Loader" "agreed" "[I") (List.mem_cons_of_mem _ (List.mem_append_left _ (List.mem_append_left _ (List.mem_of_getElem? (i := 0) rfl))))) (fun _ h9 => h9) dX3_bind_1 (v := lh_r ad 15 (gvR S 2 x1 6)) rfl ?_
  refine lv_iload_n hx hb dX3_bind_4 rfl (lv_at hl 3 rfl) ?_
  obtain ⟨x3, hx3, hf⟩ := dc_nn_ok hf
  obtain ⟨g4, hf⟩ := dc_gd_ok hf
  refine lh_ald_i (a := 15) hx hb hK hW hx3 (L2 _ hx3) rfl rfl g4 dX3_bind_5 ?_
  refine lh_aload_n hx hb dX3_bind_6 rfl (lv_at hl 2 rfl) ?_
  obtain ⟨x5, hx5, hf⟩ := dc_nn_ok hf
  have L6 : ∀ j, gvR S 2 x5 6 = some j → j < gvN S 15 := fun j h => ok _ _ _ _ j (L_p2 _ hx5) rfl h
  refine lh_get (a := 2) (k := 6) (N := 7) (C := RX2) (T := TX2) (own := RX3) (ref := "LoaderModels$Loader") hx hb hts (fun _ h => (List.mem_cons_of_mem _ (List.mem_append_left _ (List.mem_append_right _ h)))) hown hK hW hx5 (L_p2 _ hx5) rfl rfl rfl (by decide) (hts (.fieldLink RX3 28 "LoaderModels$Loader" "agreed" "[I") (List.mem_cons_of_mem _ (List.mem_append_left _ (List.mem_append_left _ (List.mem_of_getElem? (i := 0) rfl))))) (fun _ h9 => h9) dX3_bind_7 (v := lh_r ad 15 (gvR S 2 x5 6)) rfl ?_
  refine lv_iload_n hx hb dX3_bind_10 rfl (lv_at hl 3 rfl) ?_
  obtain ⟨x7, hx7, hf⟩ := dc_nn_ok hf
  obtain ⟨g8, hf⟩ := dc_gd_ok hf
  refine lh_ald_i (a := 15) hx hb hK hW hx7 (L6 _ hx7) rfl rfl g8 dX3_bind_11 ?_
  refine lv_ior hx hb dX3_bind_12 ?_
  refine lv_topi (fun v9 hv9 => ?_)
  replace hf := dc_let_e hv9 hf
  refine lv_istore (i := 4) (lv' := [(4, .int v9), (0, lh_r ad 3 (some t)), (1, lh_r ad 2 p1), (2, lh_r ad 2 p2), (3, .int p3)]) hx hb dX3_bind_13 hl (by decide) (by first | rfl | simp [lh_cat_r, lh_cat_i, lh_cat_j]) (fun ls hl => ?_)
  refine lh_aload_n hx hb dX3_bind_15 rfl (lv_at hl 1 rfl) ?_
  refine lv_iload hx hb dX3_bind_16 (lv_at hl 0 rfl) ?_
  refine lv_iload_n hx hb dX3_bind_18 rfl (lv_at hl 4 rfl) ?_
  refine lh_aload_n hx hb dX3_bind_19 rfl (lv_at hl 1 rfl) ?_
  refine lv_iload hx hb dX3_bind_20 (lv_at hl 0 rfl) ?_
  refine lv_iload_n hx hb dX3_bind_22 rfl (lv_at hl 4 rfl) ?_
  obtain ⟨r10, S11, k12, hf⟩ := dc_bd_ok hf
  refine lh_call (S' := S11) (lh_rv ⟨hx, hb, hml, hown, hts⟩ rfl (As := [.int v9, .int p3]) (rest := [.int p3, .int v9, lh_r ad 3 (some t)]) (k := 3) (c_X3_anyKnown l D cT n S ad A H.size (fun q9 h9 => hA q9 (Nat.le_trans hS.1 h9)) t v9 p3 r10 S11 k12 L_t) (cwV 2 hts gX3_bind_X3_anyKnown rfl rfl rfl (by decide +kernel) ⟨Nat.le_of_ble_eq_true rfl, Nat.le_of_ble_eq_true rfl⟩) hK hN hW (L_t _ rfl) rfl rfl rfl hl.1 rfl (by simp [lh_cat_r, lh_cat_i, lh_cat_j]) dX3_bind_23 ⟨Nat.le_of_ble_eq_true rfl, Nat.le_of_ble_eq_true rfl⟩) hS (fun H locs hX hW hS => ?_)
  refine W.widen (k := 0) (n := 0) (by omega) (by omega) ?_
  show W _ _ _ _ _ _ _ _ _ _ _ _ _ _ _ (F0 m 26 ls [lh_r ad 5 r10, .int p3, .int v9, lh_r ad 3 (some t)])
  have m13 : ∀ b, gvN S b ≤ gvN S11 b := hX.1
  have L_t : ∀ j, some t = some j → j < gvN S11 3 := fun j h => Nat.lt_of_lt_of_le (L_t j h) (m13 _)
  have L_p1 : ∀ j, p1 = some j → j < gvN S11 2 := fun j h => Nat.lt_of_lt_of_le (L_p1 j h) (m13 _)
  have L_p2 : ∀ j, p2 = some j → j < gvN S11 2 := fun j h => Nat.lt_of_lt_of_le (L_p2 j h) (m13 _)
  have hm : ∀ b, gvN S b ≤ gvN S11 b := lh_le_trans hm m13
  have ok := lh_W_ok hW
  have L14 := hX.2
  obtain ⟨r15, S16, k17, hf⟩ := dc_bd_ok hf
  refine lh_call (S' := S16) (lh_rv ⟨hx, hb, hml, hown, hts⟩ rfl (As := [.int v9, .int p3, lh_r ad 5 r10]) (rest := []) (k := 3) (c_X3_knowsAnother l D cT n S11 ad A H.size (fun q9 h9 => hA q9 (Nat.le_trans hS.1 h9)) t v9 p3 r10 r15 S16 k17 L_t L14) (cwV 3 hts gX3_bind_X3_knowsAnother rfl rfl rfl (by decide +kernel) ⟨Nat.le_of_ble_eq_true rfl, Nat.le_of_ble_eq_true rfl⟩) hK hN hW (L_t _ rfl) rfl rfl rfl hl.1 rfl (by simp [lh_cat_r, lh_cat_i, lh_cat_j]) dX3_bind_26 ⟨Nat.le_of_ble_eq_true rfl, Nat.le_of_ble_eq_true rfl⟩) hS (fun H locs hX hW hS => ?_)
  refine W.widen (k := 0) (n := 0) (by omega) (by omega) ?_
  show W _ _ _ _ _ _ _ _ _ _ _ _ _ _ _ (F0 m 29 ls [.int r15])
  have m18 : ∀ b, gvN S11 b ≤ gvN S16 b := hX.1
  have L_t : ∀ j, some t = some j → j < gvN S16 3 := fun j h => Nat.lt_of_lt_of_le (L_t j h) (m18 _)
  have L_p1 : ∀ j, p1 = some j → j < gvN S16 2 := fun j h => Nat.lt_of_lt_of_le (L_p1 j h) (m18 _)
  have L_p2 : ∀ j, p2 = some j → j < gvN S16 2 := fun j h => Nat.lt_of_lt_of_le (L_p2 j h) (m18 _)
  have hm : ∀ b, gvN S b ≤ gvN S16 b := lh_le_trans hm m18
  have ok := lh_W_ok hW
  have z19 := hX.2
  refine lv_if_eq (tgt := 34) hx hb dX3_bind_29 (by decide) (fun c20 => ?_) (fun c20 => ?_)
  · replace hf := dc_if_t c20 hf
    refine lv_iconst (v := 0) hx hb dX3_bind_34 (by decide) ?_
    refine lv_istore (i := 5) (lv' := [(5, .int (0 : Int32)), (4, .int v9), (0, lh_r ad 3 (some t)), (1, lh_r ad 2 p1), (2, lh_r ad 2 p2), (3, .int p3)]) hx hb dX3_bind_35 hl (by decide) (by first | rfl | simp [lh_cat_r, lh_cat_i, lh_cat_j]) (fun ls hl => ?_)
    exact L37 n S16 v9 (0 : Int32) hf hm _ _ hW hS _ (lv_sub hl [2, 3, 4, 5, 1, 0] (by first | rfl | simp [lv_pick]))
  · replace hf := dc_if_f c20 hf
    refine lv_iconst (v := 0) hx hb dX3_bind_32 (by decide) ?_
    obtain ⟨rfl, rfl⟩ := dc_ret hf
    exact W.zret (v := (0 : Int32)) hx hb hr (lh_nar_z (Or.inl rfl)) (fun t9 ht9 hW9 => ⟨⟨rfl, ⟨hm, (Or.inl rfl)⟩, by rw [ht9]; exact hW⟩, hS.F ht9⟩) hS.2.2 dX3_bind_33
