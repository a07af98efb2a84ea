def f_X4_init (n : Nat) (S : lh_S) (t : Nat) (p1 : Option Nat) : Option (Unit × lh_S) :=
  dc_let (pvN S 6 0) fun S1 =>
  dc_bd (f_X6_init n S1 (gvN S 6)) fun r7 S8 =>
  dc_let (pvR S8 4 t 1 (some (gvN S 6))) fun S13 =>
  dc_let (pvN S13 17 40) fun S15 =>
  dc_let (pvR S15 4 t 2 (some (gvN S13 17))) fun S21 =>
  dc_let (pvN S21 18 321) fun S23 =>
  dc_let (pvR S23 4 t 4 (some (gvN S21 18))) fun S29 =>
  dc_let (pvR S29 4 t 0 p1) fun S31 =>
  some ((), S31)
set_option maxHeartbeats 1000000 in
theorem m_X4_init {n : Nat} {S : lh_S} {t : Nat} {p1 : Option Nat} {r : Unit} {S' : lh_S} (hf : f_X4_init n S t p1 = some (r, S')) : ∀ b, gvN S b ≤ gvN S' b := by
  have hm : ∀ b, gvN S b ≤ gvN S b := fun _ => Nat.le_refl _
  unfold f_X4_init at hf
  obtain ⟨S1, eS1, hf⟩ := dc_let_ok hf
  have hm := lh_le_trans hm (show ∀ b, gvN S b ≤ gvN S1 b from by rw [eS1]; exact lh_mN)
  obtain ⟨r7, S8, k9, hf⟩ := dc_bd_ok hf
  have hm := lh_le_trans hm (show ∀ b, gvN S1 b ≤ gvN S8 b from m_X6_init k9)
  obtain ⟨S13, eS13, hf⟩ := dc_let_ok hf
  have hm := lh_le_trans hm (show ∀ b, gvN S8 b ≤ gvN S13 b from by rw [eS13]; exact lh_mR)
  obtain ⟨S15, eS15, hf⟩ := dc_let_ok hf
  have hm := lh_le_trans hm (show ∀ b, gvN S13 b ≤ gvN S15 b from by rw [eS15]; exact lh_mN)
  obtain ⟨S21, eS21, hf⟩ := dc_let_ok hf
  have hm := lh_le_trans hm (show ∀ b, gvN S15 b ≤ gvN S21 b from by rw [eS21]; exact lh_mR)
  obtain ⟨S23, eS23, hf⟩ := dc_let_ok hf
  have hm := lh_le_trans hm (show ∀ b, gvN S21 b ≤ gvN S23 b from by rw [eS23]; exact lh_mN)
  obtain ⟨S29, eS29, hf⟩ := dc_let_ok hf
  have hm := lh_le_trans hm (show ∀ b, gvN S23 b ≤ gvN S29 b from by rw [eS29]; exact lh_mR)
  obtain ⟨S31, eS31, hf⟩ := dc_let_ok hf
  have hm := lh_le_trans hm (show ∀ b, gvN S29 b ≤ gvN S31 b from by rw [eS31]; exact lh_mR)
  obtain ⟨_, rfl⟩ := dc_ret hf
  exact hm
set_option maxHeartbeats 1000000 in
theorem k_X4_init {n : Nat} {S : lh_S} {t : Nat} {p1 : Option Nat} {r : Unit} {S' : lh_S} (hf : f_X4_init n S t p1 = some (r, S')) : lh_sm9 S S' := by
  have hm : lh_sm9 S S := lh_sm9_rf
  unfold f_X4_init at hf
  obtain ⟨S1, eS1, hf⟩ := dc_let_ok hf
  have hm := lh_sm9_trans hm (show lh_sm9 S S1 from by rw [eS1]; exact (lh_sm9N (by decide)))
  obtain ⟨r7, S8, k9, hf⟩ := dc_bd_ok hf
  have hm := lh_sm9_trans hm (show lh_sm9 S1 S8 from k_X6_init k9)
  obtain ⟨S13, eS13, hf⟩ := dc_let_ok hf
  have hm := lh_sm9_trans hm (show lh_sm9 S8 S13 from by rw [eS13]; exact (lh_sm9R (by decide)))
  obtain ⟨S15, eS15, hf⟩ := dc_let_ok hf
  have hm := lh_sm9_trans hm (show lh_sm9 S13 S15 from by rw [eS15]; exact (lh_sm9N (by decide)))
  obtain ⟨S21, eS21, hf⟩ := dc_let_ok hf
  have hm := lh_sm9_trans hm (show lh_sm9 S15 S21 from by rw [eS21]; exact (lh_sm9R (by decide)))
  obtain ⟨S23, eS23, hf⟩ := dc_let_ok hf
  have hm := lh_sm9_trans hm (show lh_sm9 S21 S23 from by rw [eS23]; exact (lh_sm9N (by decide)))
  obtain ⟨S29, eS29, hf⟩ := dc_let_ok hf
  have hm := lh_sm9_trans hm (show lh_sm9 S23 S29 from by rw [eS29]; exact (lh_sm9R (by decide)))
  obtain ⟨S31, eS31, hf⟩ := dc_let_ok hf
  have hm := lh_sm9_trans hm (show lh_sm9 S29 S31 from by rw [eS31]; exact (lh_sm9R (by decide)))
  obtain ⟨_, rfl⟩ := dc_ret hf
  exact hm
set_option maxHeartbeats 4000000 in
set_option maxRecDepth 100000 in
theorem c_X4_init (l : Launch) (D : va_G) (cT : Nat → ClassId) (n : Nat) (S : lh_S) (ad : Nat → Nat → Nat) (A : Nat → Prop) (sz : Nat) (hA : ∀ q, sz ≤ q → A q) (t : Nat) (p1 : Option Nat) (r : Unit) (S' : lh_S) (hf : f_X4_init n S t p1 = some (r, S')) (L_t : ∀ j, some t = some j → j < gvN S 4) (L_p1 : ∀ j, p1 = some j → j < gvN S 3) : Met l yX4_init wsX4_init ({ frames := 2, cells := 4, slots := 395, locals := 40 } : Room) (lh_P D cT S ad A sz [lh_r ad 4 (some t), lh_r ad 3 p1]) (lh_QA D cT S S' ad A ((∀ b, gvN S b ≤ gvN S' b) ∧ True) (fun ad9 => none)) 4 395 A := by
  refine Met.ofW (cc := cX4_init) (maxL := 2) (ret := none) (by decide) rfl ?_
  intro p e s m args below meth c s₁ B hml hv
  obtain ⟨hargs, hsz, hW, hK, hN⟩ := hv
  have hx := B.exec
  have hb := B.bytes
  have hr := B.returns
  have hts := atoms_spec (ws := wsX4_init) B.pre
  have hown : s.vm.findClass RX4 = some m.cls := findClass_of_methodNamed B.named
  have hlocks := B.notSynchronized
  have hin : meth.name = "<init>" := (name_of_methodNamed B.named B.method).1
  have hA : ∀ q, s.heap.size ≤ q → A q := fun q h => hA q (by rw [← hsz]; exact h)
  have ok := lh_W_ok hW
  have hm : ∀ b, gvN S b ≤ gvN S b := fun _ => Nat.le_refl _
  have hE : lh_E S ad ad := lh_E.rf
  obtain ⟨ls, hent, hl⟩ := lh_entry m args [lh_r ad 4 (some t), lh_r ad 3 p1] 2 [(0, lh_r ad 4 (some t)), (1, lh_r ad 3 p1)] hargs (by simp [lv_args, lh_cat_r, lh_cat_i, lh_cat_j]) (by simp [lg_sl, lh_cat_r, lh_cat_i, lh_cat_j])
  rw [hent]
  generalize hH : s.heap = H at hW ⊢
  have hS : va_S A s.heap H [] := by rw [← hH]; exact va_S.rf
  unfold f_X4_init at hf
  refine lh_aload_n hx hb dX4_init_0 rfl (lv_at hl 0 rfl) ?_
  refine W.objInit hx hb hown (hts (.methodLink RX4 3 objectInit) (List.mem_cons_of_mem _ (List.mem_append_left _ (List.mem_append_left _ (List.mem_of_getElem? (i := 0) rfl))))) (hts (.instanceMethod objectInit) (List.mem_cons_of_mem _ (List.mem_append_left _ (List.mem_append_left _ (List.mem_of_getElem? (i := 1) rfl))))) (hts (.code objectInit ⟨#[0xb1]⟩ 1 none) (List.mem_cons_of_mem _ (List.mem_append_left _ (List.mem_append_left _ (List.mem_of_getElem? (i := 2) rfl))))) rfl (by rw [hml]; exact hl.1) rfl dX4_init_1 (Nat.le_of_ble_eq_true rfl) (Nat.le_of_ble_eq_true rfl) ?_
  refine W.eq (g2 := F0 m 4 ls []) rfl ?_
  refine lh_aload_n hx hb dX4_init_4 rfl (lv_at hl 0 rfl) ?_
  obtain ⟨S1, eS1, hf⟩ := dc_let_ok hf
  refine lh_new (a := 6) (N := 4) (C := RX6) (T := TX6) (own := RX4) hx hb hts (fun _ h => (List.mem_cons_of_mem _ (List.mem_append_left _ (List.mem_append_right _ h)))) tyX6 tyX6_ok hown (hts (.classLink RX4 9 RX6) (List.mem_cons_of_mem _ (List.mem_append_left _ (List.mem_append_left _ (List.mem_of_getElem? (i := 3) rfl))))) (hts (.instantiable RX6 4) (List.mem_cons_of_mem _ (List.mem_append_left _ (List.mem_append_left _ (List.mem_of_getElem? (i := 4) rfl))))) (hts (.initialized RX6) (List.mem_cons_of_mem _ (List.mem_append_left _ (List.mem_append_left _ (List.mem_of_getElem? (i := 5) rfl))))) hK hW hS hA rfl rfl rfl (by decide +kernel) (Nat.le_of_ble_eq_true rfl) (Nat.le_of_ble_eq_true rfl) dX4_init_5 (fun ad2 H hE3 hW hS => ?_)
  rw [lh_rE hE3 L_t] at hl
  rw [lh_rE hE3 L_p1] at hl
  rw [lh_rE hE3 L_t]
  have hE : lh_E S ad ad2 := lh_E.trans hE hm hE3
  rw [← eS1] at hW
  have m4 : ∀ b, gvN S b ≤ gvN S1 b := by rw [eS1]; exact lh_mN
  have L_t : ∀ j, some t = some j → j < gvN S1 4 := fun j h => Nat.lt_of_lt_of_le (L_t j h) (m4 _)
  have L_p1 : ∀ j, p1 = some j → j < gvN S1 3 := fun j h => Nat.lt_of_lt_of_le (L_p1 j h) (m4 _)
  have hm : ∀ b, gvN S b ≤ gvN S1 b := lh_le_trans hm m4
  have ok := lh_W_ok hW
  have L5 : ∀ j, some (gvN S 6) = some j → j < gvN S1 6 := lh_ls (by rw [eS1]; exact lh_nN)
  refine lv_dup hx hb dX4_init_8 lh_cat_r ?_
  obtain ⟨r7, S8, k9, hf⟩ := dc_bd_ok hf
  refine lh_callA (S' := S8) (lh_rin ⟨hx, hb, hml, hown, hts⟩ rfl (As := []) (rest := [lh_r ad2 6 (some (gvN S 6)), lh_r ad2 4 (some t)]) (k := 6) (c_X6_init l D cT n S1 ad2 A H.size (fun q9 h9 => hA q9 (Nat.le_trans hS.1 h9)) (gvN S 6) r7 S8 k9 L5) ⟨va_cnB 0 hts gX4_init_X6_init_n11 rfl rfl rfl hN.2.1 (hts (.initialized RX6) (List.mem_cons_of_mem _ (List.mem_append_left _ (List.mem_append_left _ (List.mem_of_getElem? (i := 5) rfl))))) (by decide +kernel) ⟨Nat.le_of_ble_eq_true rfl, Nat.le_of_ble_eq_true rfl⟩, rfl, (hts (.instanceMethod yX6_init) (List.mem_cons_of_mem _ (List.mem_append_left _ (List.mem_append_left _ (List.mem_of_getElem? (i := 12) rfl)))))⟩ hK hN hW rfl hl.1 rfl (by simp [lh_cat_r, lh_cat_i, lh_cat_j]) dX4_init_9 ⟨Nat.le_of_ble_eq_true rfl, Nat.le_of_ble_eq_true rfl⟩) hS (fun ad10 H locs hE11 hX hW hS => ?_)
  refine W.widen (k := 2) (n := 34) (by omega) (by omega) ?_
  show W _ _ _ _ _ _ _ _ _ _ _ _ _ _ _ (F0 m 12 ls [lh_r ad2 6 (some (gvN S 6)), lh_r ad2 4 (some t)])
  rw [lh_rE hE11 L_t] at hl
  rw [lh_rE hE11 L_p1] at hl
  rw [lh_rE hE11 L5]
  rw [lh_rE hE11 L_t]
  have hE : lh_E S ad ad10 := lh_E.trans hE hm hE11
  have m12 : ∀ b, gvN S1 b ≤ gvN S8 b := hX.1
  have L_t : ∀ j, some t = some j → j < gvN S8 4 := fun j h => Nat.lt_of_lt_of_le (L_t j h) (m12 _)
  have L_p1 : ∀ j, p1 = some j → j < gvN S8 3 := fun j h => Nat.lt_of_lt_of_le (L_p1 j h) (m12 _)
  have L5 : ∀ j, some (gvN S 6) = some j → j < gvN S8 6 := fun j h => Nat.lt_of_lt_of_le (L5 j h) (m12 _)
  have hm : ∀ b, gvN S b ≤ gvN S8 b := lh_le_trans hm m12
  have ok := lh_W_ok hW
  obtain ⟨S13, eS13, hf⟩ := dc_let_ok hf
  refine lh_put (S' := S13) (a := 4) (k := 1) (N := 6) (C := RX4) (T := TX4) (own := RX4) (ref := "LoaderModels$Loading") (ty := .object "LoaderModels$Notes") hx hb hts (fun _ h => (List.mem_cons_of_mem _ (List.mem_append_right _ h))) tyX4 tyX4_ok nmX4 hown hK hW hS rfl (L_t _ rfl) rfl rfl rfl (by decide) (hts (.fieldLink RX4 12 "LoaderModels$Loading" "notes" "LLoaderModels$Notes;") (List.mem_cons_of_mem _ (List.mem_append_left _ (List.mem_append_left _ (List.mem_of_getElem? (i := 6) rfl))))) (fun _ h9 => h9) (Or.inr ⟨rfl, hin, rfl⟩) (by decide +kernel) lh_nar_r lh_fit_r (fun q9 => by rw [eS13]; exact lh_chR rfl L5 q9) dX4_init_12 (fun H locs hW hS => ?_)
  have m14 : ∀ b, gvN S8 b ≤ gvN S13 b := by rw [eS13]; exact lh_mR
  have L_t : ∀ j, some t = some j → j < gvN S13 4 := fun j h => Nat.lt_of_lt_of_le (L_t j h) (m14 _)
  have L_p1 : ∀ j, p1 = some j → j < gvN S13 3 := fun j h => Nat.lt_of_lt_of_le (L_p1 j h) (m14 _)
  have hm : ∀ b, gvN S b ≤ gvN S13 b := lh_le_trans hm m14
  have ok := lh_W_ok hW
  refine lh_aload_n hx hb dX4_init_15 rfl (lv_at hl 0 rfl) ?_
  refine lv_bipush (v := 40) hx hb dX4_init_16 (by decide) ?_
  obtain ⟨S15, eS15, hf⟩ := dc_let_ok hf
  refine lh_newq (n := (40 : Int32)) (a := 17) (t0 := 6) (t := 5) (N' := 40) (C := RX5) hx hb hown (hts (.classLink RX4 18 RX5) (List.mem_cons_of_mem _ (List.mem_append_left _ (List.mem_append_left _ (List.mem_of_getElem? (i := 7) rfl))))) hN.2.2.2.2.2.2.2.1 hK hW hS hA rfl rfl rfl (by decide +kernel) (by decide +kernel) (by decide +kernel) (Nat.le_of_ble_eq_true rfl) (Nat.le_of_ble_eq_true rfl) dX4_init_18 (fun ad16 H hE17 hW hS => ?_)
  rw [lh_rE hE17 L_t] at hl
  rw [lh_rE hE17 L_p1] at hl
  rw [lh_rE hE17 L_t]
  have hE : lh_E S ad ad16 := lh_E.trans hE hm hE17
  rw [← eS15] at hW
  have m18 : ∀ b, gvN S13 b ≤ gvN S15 b := by rw [eS15]; exact lh_mN
  have L_t : ∀ j, some t = some j → j < gvN S15 4 := fun j h => Nat.lt_of_lt_of_le (L_t j h) (m18 _)
  have L_p1 : ∀ j, p1 = some j → j < gvN S15 3 := fun j h => Nat.lt_of_lt_of_le (L_p1 j h) (m18 _)
  have hm : ∀ b, gvN S b ≤ gvN S15 b := lh_le_trans hm m18
  have ok := lh_W_ok hW
  have L19 : ∀ j, some (gvN S13 17) = some j → j < gvN S15 17 := lh_ls (by rw [eS15]; exact lh_nN)
  obtain ⟨S21, eS21, hf⟩ := dc_let_ok hf
  refine lh_put (S' := S21) (a := 4) (k := 2) (N := 6) (C := RX4) (T := TX4) (own := RX4) (ref := "LoaderModels$Loading") (ty := .array (.object "LoaderModels$Model")) hx hb hts (fun _ h => (List.mem_cons_of_mem _ (List.mem_append_right _ h))) tyX4 tyX4_ok nmX4 hown hK hW hS rfl (L_t _ rfl) rfl rfl rfl (by decide) (hts (.fieldLink RX4 20 "LoaderModels$Loading" "classes" "[LLoaderModels$Model;") (List.mem_cons_of_mem _ (List.mem_append_left _ (List.mem_append_left _ (List.mem_of_getElem? (i := 8) rfl))))) (fun _ h9 => h9) (Or.inr ⟨rfl, hin, rfl⟩) (by decide +kernel) lh_nar_a lh_fit_a (fun q9 => by rw [eS21]; exact lh_chR rfl L19 q9) dX4_init_21 (fun H locs hW hS => ?_)
  have m22 : ∀ b, gvN S15 b ≤ gvN S21 b := by rw [eS21]; exact lh_mR
  have L_t : ∀ j, some t = some j → j < gvN S21 4 := fun j h => Nat.lt_of_lt_of_le (L_t j h) (m22 _)
  have L_p1 : ∀ j, p1 = some j → j < gvN S21 3 := fun j h => Nat.lt_of_lt_of_le (L_p1 j h) (m22 _)
  have hm : ∀ b, gvN S b ≤ gvN S21 b := lh_le_trans hm m22
  have ok := lh_W_ok hW
  refine lh_aload_n hx hb dX4_init_24 rfl (lv_at hl 0 rfl) ?_
  refine lv_sipush (v := 321) hx hb dX4_init_25 (by decide) ?_
  obtain ⟨S23, eS23, hf⟩ := dc_let_ok hf
  refine lh_newq (n := (321 : Int32)) (a := 18) (t0 := 8) (t := 8) (N' := 321) (C := RX8) hx hb hown (hts (.classLink RX4 24 RX8) (List.mem_cons_of_mem _ (List.mem_append_left _ (List.mem_append_left _ (List.mem_of_getElem? (i := 9) rfl))))) hN.2.2.2.2.2.2.2.2.2 hK hW hS hA rfl rfl rfl (by decide +kernel) (by decide +kernel) (by decide +kernel) (Nat.le_of_ble_eq_true rfl) (Nat.le_of_ble_eq_true rfl) dX4_init_28 (fun ad24 H hE25 hW hS => ?_)
  rw [lh_rE hE25 L_t] at hl
  rw [lh_rE hE25 L_p1] at hl
  rw [lh_rE hE25 L_t]
  have hE : lh_E S ad ad24 := lh_E.trans hE hm hE25
  rw [← eS23] at hW
  have m26 : ∀ b, gvN S21 b ≤ gvN S23 b := by rw [eS23]; exact lh_mN
  have L_t : ∀ j, some t = some j → j < gvN S23 4 := fun j h => Nat.lt_of_lt_of_le (L_t j h) (m26 _)
  have L_p1 : ∀ j, p1 = some j → j < gvN S23 3 := fun j h => Nat.lt_of_lt_of_le (L_p1 j h) (m26 _)
  have hm : ∀ b, gvN S b ≤ gvN S23 b := lh_le_trans hm m26
  have ok := lh_W_ok hW
  have L27 : ∀ j, some (gvN S21 18) = some j → j < gvN S23 18 := lh_ls (by rw [eS23]; exact lh_nN)
  obtain ⟨S29, eS29, hf⟩ := dc_let_ok hf
  refine lh_put (S' := S29) (a := 4) (k := 4) (N := 6) (C := RX4) (T := TX4) (own := RX4) (ref := "LoaderModels$Loading") (ty := .array (.object "LoaderModels$Step")) hx hb hts (fun _ h => (List.mem_cons_of_mem _ (List.mem_append_right _ h))) tyX4 tyX4_ok nmX4 hown hK hW hS rfl (L_t _ rfl) rfl rfl rfl (by decide) (hts (.fieldLink RX4 26 "LoaderModels$Loading" "steps" "[LLoaderModels$Step;") (List.mem_cons_of_mem _ (List.mem_append_left _ (List.mem_append_left _ (List.mem_of_getElem? (i := 10) rfl))))) (fun _ h9 => h9) (Or.inr ⟨rfl, hin, rfl⟩) (by decide +kernel) lh_nar_a lh_fit_a (fun q9 => by rw [eS29]; exact lh_chR rfl L27 q9) dX4_init_31 (fun H locs hW hS => ?_)
  have m30 : ∀ b, gvN S23 b ≤ gvN S29 b := by rw [eS29]; exact lh_mR
  have L_t : ∀ j, some t = some j → j < gvN S29 4 := fun j h => Nat.lt_of_lt_of_le (L_t j h) (m30 _)
  have L_p1 : ∀ j, p1 = some j → j < gvN S29 3 := fun j h => Nat.lt_of_lt_of_le (L_p1 j h) (m30 _)
  have hm : ∀ b, gvN S b ≤ gvN S29 b := lh_le_trans hm m30
  have ok := lh_W_ok hW
  refine lh_aload_n hx hb dX4_init_34 rfl (lv_at hl 0 rfl) ?_
  refine lh_aload_n hx hb dX4_init_35 rfl (lv_at hl 1 rfl) ?_
  obtain ⟨S31, eS31, hf⟩ := dc_let_ok hf
  refine lh_put (S' := S31) (a := 4) (k := 0) (N := 6) (C := RX4) (T := TX4) (own := RX4) (ref := "LoaderModels$Loading") (ty := .object "LoaderModels$Loaders") hx hb hts (fun _ h => (List.mem_cons_of_mem _ (List.mem_append_right _ h))) tyX4 tyX4_ok nmX4 hown hK hW hS rfl (L_t _ rfl) rfl rfl rfl (by decide) (hts (.fieldLink RX4 30 "LoaderModels$Loading" "loaders" "LLoaderModels$Loaders;") (List.mem_cons_of_mem _ (List.mem_append_left _ (List.mem_append_left _ (List.mem_of_getElem? (i := 11) rfl))))) (fun _ h9 => h9) (Or.inr ⟨rfl, hin, rfl⟩) (by decide +kernel) lh_nar_r lh_fit_r (fun q9 => by rw [eS31]; exact lh_chR rfl L_p1 q9) dX4_init_36 (fun H locs hW hS => ?_)
  have m32 : ∀ b, gvN S29 b ≤ gvN S31 b := by rw [eS31]; exact lh_mR
  have L_t : ∀ j, some t = some j → j < gvN S31 4 := fun j h => Nat.lt_of_lt_of_le (L_t j h) (m32 _)
  have L_p1 : ∀ j, p1 = some j → j < gvN S31 3 := fun j h => Nat.lt_of_lt_of_le (L_p1 j h) (m32 _)
  have hm : ∀ b, gvN S b ≤ gvN S31 b := lh_le_trans hm m32
  have ok := lh_W_ok hW
  obtain ⟨rfl, rfl⟩ := dc_ret hf
  exact W.vret hx hb hr (fun t9 ht9 hW9 => ⟨⟨ad24, hE, rfl, ⟨hm, trivial⟩, by rw [ht9]; exact hW⟩, hS.F ht9⟩) hS.2.2 dX4_init_39
def f_X4_classAt (n : Nat) (S : lh_S) (t : Nat) (p1 : Int32) : Option (Option Nat × lh_S) :=
  dc_if (p1 < 0) (
  some ((none : Option Nat), S)) (
  dc_if ((gvI S 4 t 3) ≤ p1) (
  some ((none : Option Nat), S)) (
  dc_nn (gvR S 4 t 2) fun x6 =>
  dc_gd (p1 < 0 ∨ gvL S 17 x6 ≤ (p1).toNatClampNeg) (
  some (gvR S 17 x6 (p1).toNatClampNeg, S))))
set_option maxHeartbeats 1000000 in
theorem m_X4_classAt {n : Nat} {S : lh_S} {t : Nat} {p1 : Int32} {r : Option Nat} {S' : lh_S} (hf : f_X4_classAt n S t p1 = some (r, S')) : ∀ b, gvN S b ≤ gvN S' b := by
  have hm : ∀ b, gvN S b ≤ gvN S b := fun _ => Nat.le_refl _
  unfold f_X4_classAt at hf
  by_cases c1 : p1 < 0
  · replace hf := dc_if_t c1 hf
    obtain ⟨_, rfl⟩ := dc_ret hf
    exact hm
  · replace hf := dc_if_f c1 hf
    by_cases c3 : (gvI S 4 t 3) ≤ p1
    · replace hf := dc_if_t c3 hf
      obtain ⟨_, rfl⟩ := dc_ret hf
      exact hm
    · replace hf := dc_if_f c3 hf
      obtain ⟨x6, hx6, hf⟩ := dc_nn_ok hf
      obtain ⟨g7, hf⟩ := dc_gd_ok hf
      obtain ⟨_, rfl⟩ := dc_ret hf
      exact hm
set_option maxHeartbeats 1000000 in
theorem k_X4_classAt {n : Nat} {S : lh_S} {t : Nat} {p1 : Int32} {r : Option Nat} {S' : lh_S} (hf : f_X4_classAt n S t p1 = some (r, S')) : lh_sm9 S S' := by
  have hm : lh_sm9 S S := lh_sm9_rf
  unfold f_X4_classAt at hf
  by_cases c1 : p1 < 0
  · replace hf := dc_if_t c1 hf
    obtain ⟨_, rfl⟩ := dc_ret hf
    exact hm
  · replace hf := dc_if_f c1 hf
    by_cases c3 : (gvI S 4 t 3) ≤ p1
    · replace hf := dc_if_t c3 hf
      obtain ⟨_, rfl⟩ := dc_ret hf
      exact hm
    · replace hf := dc_if_f c3 hf
      obtain ⟨x6, hx6, hf⟩ := dc_nn_ok hf
      obtain ⟨g7, hf⟩ := dc_gd_ok hf
      obtain ⟨_, rfl⟩ := dc_ret hf
      exact hm
set_option maxHeartbeats 4000000 in
set_option maxRecDepth 100000 in
theorem c_X4_classAt (l : Launch) (D : va_G) (cT : Nat → ClassId) (n : Nat) (S : lh_S) (ad : Nat → Nat → Nat) (A : Nat → Prop) (sz : Nat) (hA : ∀ q, sz ≤ q → A q) (t : Nat) (p1 : Int32) (r : Option Nat) (S' : lh_S) (hf : f_X4_classAt n S t p1 = some (r, S')) (L_t : ∀ j, some t = some j → j < gvN S 4) : Met l yX4_classAt wsX4_classAt ({ frames := 0, cells := 0, slots := 0, locals := 0 } : Room) (lh_P D cT S ad A sz [lh_r ad 4 (some t), .int p1]) (lh_Q D cT S' ad A ((∀ b, gvN S b ≤ gvN S' b) ∧ (∀ j, r = some j → j < gvN S' 5)) (some (lh_r ad 5 r))) 0 0 A := by
  refine Met.ofW (cc := cX4_classAt) (maxL := 2) (ret := (some (.object "LoaderModels$Model"))) (by decide) rfl ?_
  intro p e s m args below meth c s₁ B hml hv
  obtain ⟨hargs, hsz, hW, hK, hN⟩ := hv
  have hx := B.exec
  have hb := B.bytes
  have hr := B.returns
  have hts := atoms_spec (ws := wsX4_classAt) B.pre
  have hown : s.vm.findClass RX4 = some m.cls := findClass_of_methodNamed B.named
  have hlocks := B.notSynchronized
  have hA : ∀ q, s.heap.size ≤ q → A q := fun q h => hA q (by rw [← hsz]; exact h)
  have ok := lh_W_ok hW
  have hm : ∀ b, gvN S b ≤ gvN S b := fun _ => Nat.le_refl _
  obtain ⟨ls, hent, hl⟩ := lh_entry m args [lh_r ad 4 (some t), .int p1] 2 [(0, lh_r ad 4 (some t)), (1, .int p1)] hargs (by simp [lv_args, lh_cat_r, lh_cat_i, lh_cat_j]) (by simp [lg_sl, lh_cat_r, lh_cat_i, lh_cat_j])
  rw [hent]
  generalize hH : s.heap = H at hW ⊢
  have hS : va_S A s.heap H [] := by rw [← hH]; exact va_S.rf
  unfold f_X4_classAt at hf
  refine lv_iload_n hx hb dX4_classAt_0 rfl (lv_at hl 1 rfl) ?_
  refine lv_if_lt (tgt := 21) hx hb dX4_classAt_1 (by decide) (fun c1 => ?_) (fun c1 => ?_)
  · replace hf := dc_if_t c1 hf
    have L2 : ∀ j, (none : Option Nat) = some j → j < gvN S 5 := fun j h => by cases h
    refine lh_null hx hb ad 5 dX4_classAt_21 ?_
    obtain ⟨rfl, rfl⟩ := dc_ret hf
    exact W.aret (v := lh_r ad 5 (none : Option Nat)) hx hb hr (Or.inl ⟨_, rfl⟩) (lh_rf_or) (fun t9 ht9 hW9 => ⟨⟨rfl, ⟨hm, L2⟩, by rw [ht9]; exact hW⟩, hS.F ht9⟩) hS.2.2 dX4_classAt_22
  · replace hf := dc_if_f c1 hf
    refine lv_iload_n hx hb dX4_classAt_4 rfl (lv_at hl 1 rfl) ?_
    refine lh_aload_n hx hb dX4_classAt_5 rfl (lv_at hl 0 rfl) ?_
    refine lh_get (a := 4) (k := 3) (N := 6) (C := RX4) (T := TX4) (own := RX4) (ref := "LoaderModels$Loading") hx hb hts (fun _ h => (List.mem_cons_of_mem _ (List.mem_append_right _ h))) hown hK hW rfl (L_t _ rfl) rfl rfl rfl (by decide) (hts (.fieldLink RX4 34 "LoaderModels$Loading" "classCount" "I") (List.mem_cons_of_mem _ (List.mem_append_left _ (List.mem_of_getElem? (i := 0) rfl)))) (fun _ h9 => h9) dX4_classAt_6 (v := .int (gvI S 4 t 3)) rfl ?_
    refine lv_icmp_ge (tgt := 21) hx hb dX4_classAt_9 (by decide) (fun c3 => ?_) (fun c3 => ?_)
    · replace hf := dc_if_t c3 hf
      have L4 : ∀ j, (none : Option Nat) = some j → j < gvN S 5 := fun j h => by cases h
      refine lh_null hx hb ad 5 dX4_classAt_21 ?_
      obtain ⟨rfl, rfl⟩ := dc_ret hf
      exact W.aret (v := lh_r ad 5 (none : Option Nat)) hx hb hr (Or.inl ⟨_, rfl⟩) (lh_rf_or) (fun t9 ht9 hW9 => ⟨⟨rfl, ⟨hm, L4⟩, by rw [ht9]; exact hW⟩, hS.F ht9⟩) hS.2.2 dX4_classAt_22
    · replace hf := dc_if_f c3 hf
      refine lh_aload_n hx hb dX4_classAt_12 rfl (lv_at hl 0 rfl) ?_
      have L5 : ∀ j, gvR S 4 t 2 = some j → j < gvN S 17 := fun j h => ok _ _ _ _ j (L_t _ rfl) rfl h
      refine lh_get (a := 4) (k := 2) (N := 6) (C := RX4) (T := TX4) (own := RX4) (ref := "LoaderModels$Loading") hx hb hts (fun _ h => (List.mem_cons_of_mem _ (List.mem_append_right _ h))) hown hK hW rfl (L_t _ rfl) rfl rfl rfl (by decide) (hts (.fieldLink RX4 20 "LoaderModels$Loading" "classes" "[LLoaderModels$Model;") (List.mem_cons_of_mem _ (List.mem_append_left _ (List.mem_of_getElem? (i := 1) rfl)))) (fun _ h9 => h9) dX4_classAt_13 (v := lh_r ad 17 (gvR S 4 t 2)) rfl ?_
      refine lv_iload_n hx hb dX4_classAt_16 rfl (lv_at hl 1 rfl) ?_
      obtain ⟨x6, hx6, hf⟩ := dc_nn_ok hf
      obtain ⟨g7, hf⟩ := dc_gd_ok hf
      have L8 : ∀ j, gvR S 17 x6 (p1).toNatClampNeg = some j → j < gvN S 5 := fun j h => ok 17 _ _ 5 j (L5 _ hx6) rfl h
      refine lh_ald_r (a := 17) (t0 := 6) (t := 5) hx hb hK hW hx6 (L5 _ hx6) rfl rfl rfl g7 dX4_classAt_17 ?_
      refine lv_goto (tgt := 22) hx hb dX4_classAt_18 (by decide) ?_
      obtain ⟨rfl, rfl⟩ := dc_ret hf
      exact W.aret (v := lh_r ad 5 (gvR S 17 x6 (p1).toNatClampNeg)) hx hb hr (Or.inl ⟨_, rfl⟩) (lh_rf_or) (fun t9 ht9 hW9 => ⟨⟨rfl, ⟨hm, L8⟩, by rw [ht9]; exact hW⟩, hS.F ht9⟩) hS.2.2 dX4_classAt_22
def f_X4_end (n : Nat) (S : lh_S) (t : Nat) (p1 : Int32) : Option (Int32 × lh_S) :=
  dc_let (pvI S 4 t 5 ((gvI S 4 t 5) - (1 : Int32))) fun S1 =>
  some (p1, S1)
set_option maxHeartbeats 1000000 in
theorem m_X4_end {n : Nat} {S : lh_S} {t : Nat} {p1 : Int32} {r : Int32} {S' : lh_S} (hf : f_X4_end n S t p1 = some (r, S')) : ∀ b, gvN S b ≤ gvN S' b := by
  have hm : ∀ b, gvN S b ≤ gvN S b := fun _ => Nat.le_refl _
  unfold f_X4_end at hf
  obtain ⟨S1, eS1, hf⟩ := dc_let_ok hf
  have hm := lh_le_trans hm (show ∀ b, gvN S b ≤ gvN S1 b from by rw [eS1]; exact lh_mI)
  obtain ⟨_, rfl⟩ := dc_ret hf
  exact hm
set_option maxHeartbeats 1000000 in
theorem k_X4_end {n : Nat} {S : lh_S} {t : Nat} {p1 : Int32} {r : Int32} {S' : lh_S} (hf : f_X4_end n S t p1 = some (r, S')) : lh_sm9 S S' := by
  have hm : lh_sm9 S S := lh_sm9_rf
  unfold f_X4_end at hf
  obtain ⟨S1, eS1, hf⟩ := dc_let_ok hf
  have hm := lh_sm9_trans hm (show lh_sm9 S S1 from by rw [eS1]; exact (lh_sm9I (by decide)))
  obtain ⟨_, rfl⟩ := dc_ret hf
  exact hm
set_option maxHeartbeats 4000000 in
set_option maxRecDepth 100000 in
theorem c_X4_end (l : Launch) (D : va_G) (cT : Nat → ClassId) (n : Nat) (S : lh_S) (ad : Nat → Nat → Nat) (A : Nat → Prop) (sz : Nat) (hA : ∀ q, sz ≤ q → A q) (t : Nat) (p1 : Int32) (r : Int32) (S' : lh_S) (hf : f_X4_end n S t p1 = some (r, S')) (L_t : ∀ j, some t = some j → j < gvN S 4) : Met l yX4_end wsX4_end ({ frames := 0, cells := 0, slots := 0, locals := 0 } : Room) (lh_P D cT S ad A sz [lh_r ad 4 (some t), .int p1]) (lh_Q D cT S' ad A ((∀ b, gvN S b ≤ gvN S' b) ∧ True) (some (.int r))) 0 0 A := by
  refine Met.ofW (cc := cX4_end) (maxL := 2) (ret := (some .int)) (by decide) rfl ?_
  intro p e s m args below meth c s₁ B hml hv
  obtain ⟨hargs, hsz, hW, hK, hN⟩ := hv
  have hx := B.exec
  have hb := B.bytes
  have hr := B.returns
  have hts := atoms_spec (ws := wsX4_end) B.pre
  have hown : s.vm.findClass RX4 = some m.cls := findClass_of_methodNamed B.named
  have hlocks := B.notSynchronized
  have hA : ∀ q, s.heap.size ≤ q → A q := fun q h => hA q (by rw [← hsz]; exact h)
  have ok := lh_W_ok hW
  have hm : ∀ b, gvN S b ≤ gvN S b := fun _ => Nat.le_refl _
  obtain ⟨ls, hent, hl⟩ := lh_entry m args [lh_r ad 4 (some t), .int p1] 2 [(0, lh_r ad 4 (some t)), (1, .int p1)] hargs (by simp [lv_args, lh_cat_r, lh_cat_i, lh_cat_j]) (by simp [lg_sl, lh_cat_r, lh_cat_i, lh_cat_j])
  rw [hent]
  generalize hH : s.heap = H at hW ⊢
  have hS : va_S A s.heap H [] := by rw [← hH]; exact va_S.rf
  unfold f_X4_end at hf
  refine lh_aload_n hx hb dX4_end_0 rfl (lv_at hl 0 rfl) ?_
  refine lv_dup hx hb dX4_end_1 lh_cat_r ?_
  refine lh_get (a := 4) (k := 5) (N := 6) (C := RX4) (T := TX4) (own := RX4) (ref := "LoaderModels$Loading") hx hb hts (fun _ h => (List.mem_cons_of_mem _ (List.mem_append_right _ h))) hown hK hW rfl (L_t _ rfl) rfl rfl rfl (by decide) (hts (.fieldLink RX4 52 "LoaderModels$Loading" "depth" "I") (List.mem_cons_of_mem _ (List.mem_append_left _ (List.mem_of_getElem? (i := 0) rfl)))) (fun _ h9 => h9) dX4_end_2 (v := .int (gvI S 4 t 5)) rfl ?_
  refine lv_iconst (v := 1) hx hb dX4_end_5 (by decide) ?_
  refine lv_isub hx hb dX4_end_6 ?_
  obtain ⟨S1, eS1, hf⟩ := dc_let_ok hf
  refine lh_put (S' := S1) (a := 4) (k := 5) (N := 6) (C := RX4) (T := TX4) (own := RX4) (ref := "LoaderModels$Loading") (ty := .int) hx hb hts (fun _ h => (List.mem_cons_of_mem _ (List.mem_append_right _ h))) tyX4 tyX4_ok nmX4 hown hK hW hS rfl (L_t _ rfl) rfl rfl rfl (by decide) (hts (.fieldLink RX4 52 "LoaderModels$Loading" "depth" "I") (List.mem_cons_of_mem _ (List.mem_append_left _ (List.mem_of_getElem? (i := 0) rfl)))) (fun _ h9 => h9) (Or.inl rfl) (by decide +kernel) rfl rfl (fun q9 => by rw [eS1]; exact lh_chI rfl q9) dX4_end_7 (fun H locs hW hS => ?_)
  have m2 : ∀ b, gvN S b ≤ gvN S1 b := by rw [eS1]; exact lh_mI
  have L_t : ∀ j, some t = some j → j < gvN S1 4 := fun j h => Nat.lt_of_lt_of_le (L_t j h) (m2 _)
  have hm : ∀ b, gvN S b ≤ gvN S1 b := lh_le_trans hm m2
  have ok := lh_W_ok hW
  refine lv_iload_n hx hb dX4_end_10 rfl (lv_at hl 1 rfl) ?_
  obtain ⟨rfl, rfl⟩ := dc_ret hf
  exact W.iret (v := p1) hx hb hr (fun t9 ht9 hW9 => ⟨⟨rfl, ⟨hm, trivial⟩, by rw [ht9]; exact hW⟩, hS.F ht9⟩) hS.2.2 dX4_end_11
def f_X4_failureAtOnce (n : Nat) (S : lh_S) (t : Nat) (p1 : Option Nat) (p2 : Option Nat) : Option (Int32 × lh_S) :=
  dc_nn p2 fun x1 =>
  dc_if ((5 : Int32) ≤ (gvI S 1 x1 1)) (
  dc_if ((gvI S 1 x1 2) = (gvI S 1 x1 1)) (
  dc_nn p1 fun x4 =>
  dc_nn (gvR S 2 x4 4) fun x6 =>
  dc_gd ((gvI S 1 x1 1) < 0 ∨ gvL S 13 x6 ≤ ((gvI S 1 x1 1)).toNatClampNeg) (
  dc_if ((gvR S 13 x6 ((gvI S 1 x1 1)).toNatClampNeg) = none) (
  dc_nn (gvR S 2 x4 5) fun x11 =>
  dc_gd ((gvI S 1 x1 1) < 0 ∨ gvL S 14 x11 ≤ ((gvI S 1 x1 1)).toNatClampNeg) (
  dc_if ((gvI S 14 x11 ((gvI S 1 x1 1)).toNatClampNeg) = 0) (
  some ((0 : Int32), S)) (
  some ((6 : Int32), S)))) (
  some ((3 : Int32), S)))) (
  some ((2 : Int32), S))) (
  dc_nn p1 fun x14 =>
  dc_bd (f_X2_isMachine n S x14) fun r15 S16 =>
  dc_if (r15 = 0) (
  some ((4 : Int32), S16)) (
  dc_if ((gvI S16 1 x1 2) = (gvI S16 1 x1 1)) (
  dc_nn (gvR S16 2 x14 4) fun x23 =>
  dc_gd ((gvI S16 1 x1 1) < 0 ∨ gvL S16 13 x23 ≤ ((gvI S16 1 x1 1)).toNatClampNeg) (
  dc_if ((gvR S16 13 x23 ((gvI S16 1 x1 1)).toNatClampNeg) = none) (
  dc_nn (gvR S16 2 x14 5) fun x28 =>
  dc_gd ((gvI S16 1 x1 1) < 0 ∨ gvL S16 14 x28 ≤ ((gvI S16 1 x1 1)).toNatClampNeg) (
  dc_if ((gvI S16 14 x28 ((gvI S16 1 x1 1)).toNatClampNeg) = 0) (
  some ((0 : Int32), S16)) (
  some ((6 : Int32), S16)))) (
  some ((3 : Int32), S16)))) (
  some ((2 : Int32), S16))))
set_option maxHeartbeats 1000000 in
theorem m_X4_failureAtOnce {n : Nat} {S : lh_S} {t : Nat} {p1 : Option Nat} {p2 : Option Nat} {r : Int32} {S' : lh_S} (hf : f_X4_failureAtOnce n S t p1 p2 = some (r, S')) : ∀ b, gvN S b ≤ gvN S' b := by
  have hm : ∀ b, gvN S b ≤ gvN S b := fun _ => Nat.le_refl _
  unfold f_X4_failureAtOnce at hf
  obtain ⟨x1, hx1, hf⟩ := dc_nn_ok hf
  by_cases c2 : (5 : Int32) ≤ (gvI S 1 x1 1)
  · replace hf := dc_if_t c2 hf
    by_cases c3 : (gvI S 1 x1 2) = (gvI S 1 x1 1)
    · replace hf := dc_if_t c3 hf
      obtain ⟨x4, hx4, hf⟩ := dc_nn_ok hf
      obtain ⟨x6, hx6, hf⟩ := dc_nn_ok hf
      obtain ⟨g7, hf⟩ := dc_gd_ok hf
      by_cases c9 : (gvR S 13 x6 ((gvI S 1 x1 1)).toNatClampNeg) = none
      · replace hf := dc_if_t c9 hf
        obtain ⟨x11, hx11, hf⟩ := dc_nn_ok hf
        obtain ⟨g12, hf⟩ := dc_gd_ok hf
        by_cases c13 : (gvI S 14 x11 ((gvI S 1 x1 1)).toNatClampNeg) = 0
        · replace hf := dc_if_t c13 hf
          obtain ⟨_, rfl⟩ := dc_ret hf
          exact hm
        · replace hf := dc_if_f c13 hf
          obtain ⟨_, rfl⟩ := dc_ret hf
          exact hm
      · replace hf := dc_if_f c9 hf
        obtain ⟨_, rfl⟩ := dc_ret hf
        exact hm
    · replace hf := dc_if_f c3 hf
      obtain ⟨_, rfl⟩ := dc_ret hf
      exact hm
  · replace hf := dc_if_f c2 hf
    obtain ⟨x14, hx14, hf⟩ := dc_nn_ok hf
    obtain ⟨r15, S16, k17, hf⟩ := dc_bd_ok hf
    have hm := lh_le_trans hm (show ∀ b, gvN S b ≤ gvN S16 b from m_X2_isMachine k17)
    by_cases c20 : r15 = 0
    · replace hf := dc_if_t c20 hf
      obtain ⟨_, rfl⟩ := dc_ret hf
      exact hm
    · replace hf := dc_if_f c20 hf
      by_cases c21 : (gvI S16 1 x1 2) = (gvI S16 1 x1 1)
      · replace hf := dc_if_t c21 hf
        obtain ⟨x23, hx23, hf⟩ := dc_nn_ok hf
        obtain ⟨g24, hf⟩ := dc_gd_ok hf
        by_cases c26 : (gvR S16 13 x23 ((gvI S16 1 x1 1)).toNatClampNeg) = none
        · replace hf := dc_if_t c26 hf
          obtain ⟨x28, hx28, hf⟩ := dc_nn_ok hf
          obtain ⟨g29, hf⟩ := dc_gd_ok hf
          by_cases c30 : (gvI S16 14 x28 ((gvI S16 1 x1 1)).toNatClampNeg) = 0
          · replace hf := dc_if_t c30 hf
            obtain ⟨_, rfl⟩ := dc_ret hf
            exact hm
          · replace hf := dc_if_f c30 hf
            obtain ⟨_, rfl⟩ := dc_ret hf
            exact hm
        · replace hf := dc_if_f c26 hf
          obtain ⟨_, rfl⟩ := dc_ret hf
          exact hm
      · replace hf := dc_if_f c21 hf
        obtain ⟨_, rfl⟩ := dc_ret hf
        exact hm
set_option maxHeartbeats 1000000 in
theorem k_X4_failureAtOnce {n : Nat} {S : lh_S} {t : Nat} {p1 : Option Nat} {p2 : Option Nat} {r : Int32} {S' : lh_S} (hf : f_X4_failureAtOnce n S t p1 p2 = some (r, S')) : lh_sm9 S S' := by
  have hm : lh_sm9 S S := lh_sm9_rf
  unfold f_X4_failureAtOnce at hf
  obtain ⟨x1, hx1, hf⟩ := dc_nn_ok hf
  by_cases c2 : (5 : Int32) ≤ (gvI S 1 x1 1)
  · replace hf := dc_if_t c2 hf
    by_cases c3 : (gvI S 1 x1 2) = (gvI S 1 x1 1)
    · replace hf := dc_if_t c3 hf
      obtain ⟨x4, hx4, hf⟩ := dc_nn_ok hf
      obtain ⟨x6, hx6, hf⟩ := dc_nn_ok hf
      obtain ⟨g7, hf⟩ := dc_gd_ok hf
      by_cases c9 : (gvR S 13 x6 ((gvI S 1 x1 1)).toNatClampNeg) = none
      · replace hf := dc_if_t c9 hf
        obtain ⟨x11, hx11, hf⟩ := dc_nn_ok hf
        obtain ⟨g12, hf⟩ := dc_gd_ok hf
        by_cases c13 : (gvI S 14 x11 ((gvI S 1 x1 1)).toNatClampNeg) = 0
        · replace hf := dc_if_t c13 hf
          obtain ⟨_, rfl⟩ := dc_ret hf
          exact hm
        · replace hf := dc_if_f c13 hf
          obtain ⟨_, rfl⟩ := dc_ret hf
          exact hm
      · replace hf := dc_if_f c9 hf
        obtain ⟨_, rfl⟩ := dc_ret hf
        exact hm
    · replace hf := dc_if_f c3 hf
      obtain ⟨_, rfl⟩ := dc_ret hf
      exact hm
  · replace hf := dc_if_f c2 hf
    obtain ⟨x14, hx14, hf⟩ := dc_nn_ok hf
    obtain ⟨r15, S16, k17, hf⟩ := dc_bd_ok hf
    have hm := lh_sm9_trans hm (show lh_sm9 S S16 from k_X2_isMachine k17)
    by_cases c20 : r15 = 0
    · replace hf := dc_if_t c20 hf
      obtain ⟨_, rfl⟩ := dc_ret hf
      exact hm
    · replace hf := dc_if_f c20 hf
      by_cases c21 : (gvI S16 1 x1 2) = (gvI S16 1 x1 1)
      · replace hf := dc_if_t c21 hf
        obtain ⟨x23, hx23, hf⟩ := dc_nn_ok hf
        obtain ⟨g24, hf⟩ := dc_gd_ok hf
        by_cases c26 : (gvR S16 13 x23 ((gvI S16 1 x1 1)).toNatClampNeg) = none
        · replace hf := dc_if_t c26 hf
          obtain ⟨x28, hx28, hf⟩ := dc_nn_ok hf
          obtain ⟨g29, hf⟩ := dc_gd_ok hf
          by_cases c30 : (gvI S16 14 x28 ((gvI S16 1 x1 1)).toNatClampNeg) = 0
          · replace hf := dc_if_t c30 hf
            obtain ⟨_, rfl⟩ := dc_ret hf
            exact hm
          · replace hf := dc_if_f c30 hf
            obtain ⟨_, rfl⟩ := dc_ret hf
            exact hm
        · replace hf := dc_if_f c26 hf
          obtain ⟨_, rfl⟩ := dc_ret hf
          exact hm
      · replace hf := dc_if_f c21 hf
        obtain ⟨_, rfl⟩ := dc_ret hf
        exact hm
set_option maxHeartbeats 4000000 in
set_option maxRecDepth 100000 in
theorem c_X4_failureAtOnce (l : Launch) (D : va_G) (cT : Nat → ClassId) (n : Nat) (S : lh_S) (ad : Nat → Nat → Nat) (A : Nat → Prop) (sz : Nat) (hA : ∀ q, sz ≤ q → A q) (t : Nat) (p1 : Option Nat) (p2 : Option Nat) (r : Int32) (S' : lh_S) (hf : f_X4_failureAtOnce n S t p1 p2 = some (r, S')) (L_t : ∀ j, some t = some j → j < gvN S 4) (L_p1 : ∀ j, p1 = some j → j < gvN S 2) (L_p2 : ∀ j, p2 = some j → j < gvN S 1) : Met l yX4_failureAtOnce wsX4_failureAtOnce ({ frames := 1, cells := 0, slots := 0, locals := 20 } : Room) (lh_P D cT S ad A sz [lh_r ad 4 (some t), lh_r ad 2 p1, lh_r ad 1 p2]) (lh_Q D cT S' ad A ((∀ b, gvN S b ≤ gvN S' b) ∧ True) (some (.int r))) 0 0 A := by
  refine Met.ofW (cc := cX4_failureAtOnce) (maxL := 3) (ret := (some .int)) (by decide) rfl ?_
  intro p e s m args below meth c s₁ B hml hv
  obtain ⟨hargs, hsz, hW, hK, hN⟩ := hv
  have hx := B.exec
  have hb := B.bytes
  have hr := B.returns
  have hts := atoms_spec (ws := wsX4_failureAtOnce) B.pre
  have hown : s.vm.findClass RX4 = some m.cls := findClass_of_methodNamed B.named
  have hlocks := B.notSynchronized
  have hA : ∀ q, s.heap.size ≤ q → A q := fun q h => hA q (by rw [← hsz]; exact h)
  have ok := lh_W_ok hW
  have hm : ∀ b, gvN S b ≤ gvN S b := fun _ => Nat.le_refl _
  obtain ⟨ls, hent, hl⟩ := lh_entry m args [lh_r ad 4 (some t), lh_r ad 2 p1, lh_r ad 1 p2] 3 [(0, lh_r ad 4 (some t)), (1, lh_r ad 2 p1), (2, lh_r ad 1 p2)] hargs (by simp [lv_args, lh_cat_r, lh_cat_i, lh_cat_j]) (by simp [lg_sl, lh_cat_r, lh_cat_i, lh_cat_j])
  rw [hent]
  generalize hH : s.heap = H at hW ⊢
  have hS : va_S A s.heap H [] := by rw [← hH]; exact va_S.rf
  unfold f_X4_failureAtOnce at hf
  refine lh_aload_n hx hb dX4_failureAtOnce_0 rfl (lv_at hl 2 rfl) ?_
  obtain ⟨x1, hx1, hf⟩ := dc_nn_ok hf
  refine lh_get (a := 1) (k := 1) (N := 7) (C := RX1) (T := TX1) (own := RX4) (ref := "LoaderModels$ClassFile") hx hb hts (fun _ h => (List.mem_cons_of_mem _ (List.mem_append_left _ (List.mem_append_right _ h)))) hown hK hW hx1 (L_p2 _ hx1) rfl rfl rfl (by decide) (hts (.fieldLink RX4 46 "LoaderModels$ClassFile" "name" "I") (List.mem_cons_of_mem _ (List.mem_append_left _ (List.mem_append_left _ (List.mem_of_getElem? (i := 0) rfl))))) (fun _ h9 => h9) dX4_failureAtOnce_1 (v := .int (gvI S 1 x1 1)) rfl ?_
  refine lv_iconst (v := 5) hx hb dX4_failureAtOnce_4 (by decide) ?_
  refine lv_icmp_ge (tgt := 17) hx hb dX4_failureAtOnce_5 (by decide) (fun c2 => ?_) (fun c2 => ?_)
  · replace hf := dc_if_t c2 hf
    refine lh_aload_n hx hb dX4_failureAtOnce_17 rfl (lv_at hl 2 rfl) ?_
    refine lh_get (a := 1) (k := 2) (N := 7) (C := RX1) (T := TX1) (own := RX4) (ref := "LoaderModels$ClassFile") hx hb hts (fun _ h => (List.mem_cons_of_mem _ (List.mem_append_left _ (List.mem_append_right _ h)))) hown hK hW hx1 (L_p2 _ hx1) rfl rfl rfl (by decide) (hts (.fieldLink RX4 154 "LoaderModels$ClassFile" "inner" "I") (List.mem_cons_of_mem _ (List.mem_append_left _ (List.mem_append_left _ (List.mem_of_getElem? (i := 1) rfl))))) (fun _ h9 => h9) dX4_failureAtOnce_18 (v := .int (gvI S 1 x1 2)) rfl ?_
    refine lh_aload_n hx hb dX4_failureAtOnce_21 rfl (lv_at hl 2 rfl) ?_
    refine lh_get (a := 1) (k := 1) (N := 7) (C := RX1) (T := TX1) (own := RX4) (ref := "LoaderModels$ClassFile") hx hb hts (fun _ h => (List.mem_cons_of_mem _ (List.mem_append_left _ (List.mem_append_right _ h)))) hown hK hW hx1 (L_p2 _ hx1) rfl rfl rfl (by decide) (hts (.fieldLink RX4 46 "LoaderModels$ClassFile" "name" "I") (List.mem_cons_of_mem _ (List.mem_append_left _ (List.mem_append_left _ (List.mem_of_getElem? (i := 0) rfl))))) (fun _ h9 => h9) dX4_failureAtOnce_22 (v := .int (gvI S 1 x1 1)) rfl ?_
    refine lv_icmp_eq (tgt := 30) hx hb dX4_failureAtOnce_25 (by decide) (fun c3 => ?_) (fun c3 => ?_)
    · replace hf := dc_if_t c3 hf
      refine lh_aload_n hx hb dX4_failureAtOnce_30 rfl (lv_at hl 1 rfl) ?_
      obtain ⟨x4, hx4, hf⟩ := dc_nn_ok hf
      have L5 : ∀ j, gvR S 2 x4 4 = some j → j < gvN S 13 := fun j h => ok _ _ _ _ j (L_p1 _ hx4) rfl h
      refine lh_get (a := 2) (k := 4) (N := 7) (C := RX2) (T := TX2) (own := RX4) (ref := "LoaderModels$Loader") hx hb hts (fun _ h => (List.mem_cons_of_mem _ (List.mem_append_right _ h))) hown hK hW hx4 (L_p1 _ hx4) rfl rfl rfl (by decide) (hts (.fieldLink RX4 104 "LoaderModels$Loader" "knows" "[LLoaderModels$Model;") (List.mem_cons_of_mem _ (List.mem_append_left _ (List.mem_append_left _ (List.mem_of_getElem? (i := 2) rfl))))) (fun _ h9 => h9) dX4_failureAtOnce_31 (v := lh_r ad 13 (gvR S 2 x4 4)) rfl ?_
      refine lh_aload_n hx hb dX4_failureAtOnce_34 rfl (lv_at hl 2 rfl) ?_
      refine lh_get (a := 1) (k := 1) (N := 7) (C := RX1) (T := TX1) (own := RX4) (ref := "LoaderModels$ClassFile") hx hb hts (fun _ h => (List.mem_cons_of_mem _ (List.mem_append_left _ (List.mem_append_right _ h)))) hown hK hW hx1 (L_p2 _ hx1) rfl rfl rfl (by decide) (hts (.fieldLink RX4 46 "LoaderModels$ClassFile" "name" "I") (List.mem_cons_of_mem _ (List.mem_append_left _ (List.mem_append_left _ (List.mem_of_getElem? (i := 0) rfl))))) (fun _ h9 => h9) dX4_failureAtOnce_35 (v := .int (gvI S 1 x1 1)) rfl ?_
      obtain ⟨x6, hx6, hf⟩ := dc_nn_ok hf
      obtain ⟨g7, hf⟩ := dc_gd_ok hf
      have L8 : ∀ j, gvR S 13 x6 ((gvI S 1 x1 1)).toNatClampNeg = some j → j < gvN S 5 := fun j h => ok 13 _ _ 5 j (L5 _ hx6) rfl h
      refine lh_ald_r (a := 13) (t0 := 6) (t := 5) hx hb hK hW hx6 (L5 _ hx6) rfl rfl rfl g7 dX4_failureAtOnce_38 ?_
      refine lh_ifnull (tgt := 44) hx hb dX4_failureAtOnce_39 (by decide) (fun c9 => ?_) (fun c9 => ?_)
      · replace hf := dc_if_t c9 hf
        refine lh_aload_n hx hb dX4_failureAtOnce_44 rfl (lv_at hl 1 rfl) ?_
        have L10 : ∀ j, gvR S 2 x4 5 = some j → j < gvN S 14 := fun j h => ok _ _ _ _ j (L_p1 _ hx4) rfl h
        refine lh_get (a := 2) (k := 5) (N := 7) (C := RX2) (T := TX2) (own := RX4) (ref := "LoaderModels$Loader") hx hb hts (fun _ h => (List.mem_cons_of_mem _ (List.mem_append_right _ h))) hown hK hW hx4 (L_p1 _ hx4) rfl rfl rfl (by decide) (hts (.fieldLink RX4 111 "LoaderModels$Loader" "defining" "[Z") (List.mem_cons_of_mem _ (List.mem_append_left _ (List.mem_append_left _ (List.mem_of_getElem? (i := 3) rfl))))) (fun _ h9 => h9) dX4_failureAtOnce_45 (v := lh_r ad 14 (gvR S 2 x4 5)) rfl ?_
        refine lh_aload_n hx hb dX4_failureAtOnce_48 rfl (lv_at hl 2 rfl) ?_
        refine lh_get (a := 1) (k := 1) (N := 7) (C := RX1) (T := TX1) (own := RX4) (ref := "LoaderModels$ClassFile") hx hb hts (fun _ h => (List.mem_cons_of_mem _ (List.mem_append_left _ (List.mem_append_right _ h)))) hown hK hW hx1 (L_p2 _ hx1) rfl rfl rfl (by decide) (hts (.fieldLink RX4 46 "LoaderModels$ClassFile" "name" "I") (List.mem_cons_of_mem _ (List.mem_append_left _ (List.mem_append_left _ (List.mem_of_getElem? (i := 0) rfl))))) (fun _ h9 => h9) dX4_failureAtOnce_49 (v := .int (gvI S 1 x1 1)) rfl ?_
        obtain ⟨x11, hx11, hf⟩ := dc_nn_ok hf
        obtain ⟨g12, hf⟩ := dc_gd_ok hf
        refine lh_ald_z (a := 14) hx hb hK hW hx11 (L10 _ hx11) rfl rfl g12 dX4_failureAtOnce_52 ?_
        refine lv_if_eq (tgt := 61) hx hb dX4_failureAtOnce_53 (by decide) (fun c13 => ?_) (fun c13 => ?_)
        · replace hf := dc_if_t c13 hf
          refine lv_iconst (v := 0) hx hb dX4_failureAtOnce_61 (by decide) ?_
          obtain ⟨rfl, rfl⟩ := dc_ret hf
          exact W.iret (v := (0 : Int32)) hx hb hr (fun t9 ht9 hW9 => ⟨⟨rfl, ⟨hm, trivial⟩, by rw [ht9]; exact hW⟩, hS.F ht9⟩) hS.2.2 dX4_failureAtOnce_62
        · replace hf := dc_if_f c13 hf
          refine lv_bipush (v := 6) hx hb dX4_failureAtOnce_56 (by decide) ?_
          refine lv_goto (tgt := 62) hx hb dX4_failureAtOnce_58 (by decide) ?_
          obtain ⟨rfl, rfl⟩ := dc_ret hf
          exact W.iret (v := (6 : Int32)) hx hb hr (fun t9 ht9 hW9 => ⟨⟨rfl, ⟨hm, trivial⟩, by rw [ht9]; exact hW⟩, hS.F ht9⟩) hS.2.2 dX4_failureAtOnce_62
      · replace hf := dc_if_f c9 hf
        refine lv_iconst (v := 3) hx hb dX4_failureAtOnce_42 (by decide) ?_
        obtain ⟨rfl, rfl⟩ := dc_ret hf
        exact W.iret (v := (3 : Int32)) hx hb hr (fun t9 ht9 hW9 => ⟨⟨rfl, ⟨hm, trivial⟩, by rw [ht9]; exact hW⟩, hS.F ht9⟩) hS.2.2 dX4_failureAtOnce_43
    · replace hf := dc_if_f c3 hf
      refine lv_iconst (v := 2) hx hb dX4_failureAtOnce_28 (by decide) ?_
      obtain ⟨rfl, rfl⟩ := dc_ret hf
      exact W.iret (v := (2 : Int32)) hx hb hr (fun t9 ht9 hW9 => ⟨⟨rfl, ⟨hm, trivial⟩, by rw [ht9]; exact hW⟩, hS.F ht9⟩) hS.2.2 dX4_failureAtOnce_29
  · replace hf := dc_if_f c2 hf
    refine lh_aload_n hx hb dX4_failureAtOnce_8 rfl (lv_at hl 1 rfl) ?_
    obtain ⟨x14, hx14, hf⟩ := dc_nn_ok hf
    obtain ⟨r15, S16, k17, hf⟩ := dc_bd_ok hf
    refine lh_call (S' := S16) (lh_rv ⟨hx, hb, hml, hown, hts⟩ hx14 (As := []) (rest := []) (k := 2) (c_X2_isMachine l D cT n S ad A H.size (fun q9 h9 => hA q9 (Nat.le_trans hS.1 h9)) x14 r15 S16 k17 (lh_ls (L_p1 _ hx14))) (cwV 0 hts gX4_failureAtOnce_X2_isMachine rfl rfl rfl (by decide +kernel) ⟨Nat.le_of_ble_eq_true rfl, Nat.le_of_ble_eq_true rfl⟩) hK hN hW (L_p1 _ hx14) rfl rfl rfl hl.1 rfl (by simp [lh_cat_r, lh_cat_i, lh_cat_j]) dX4_failureAtOnce_9 ⟨Nat.le_of_ble_eq_true rfl, Nat.le_of_ble_eq_true rfl⟩) hS (fun H locs hX hW hS => ?_)
    refine W.widen (k := 0) (n := 0) (by omega) (by omega) ?_
    show W _ _ _ _ _ _ _ _ _ _ _ _ _ _ _ (F0 m 12 ls [.int r15])
    have m18 : ∀ b, gvN S b ≤ gvN S16 b := hX.1
    have L_t : ∀ j, some t = some j → j < gvN S16 4 := fun j h => Nat.lt_of_lt_of_le (L_t j h) (m18 _)
    have L_p1 : ∀ j, p1 = some j → j < gvN S16 2 := fun j h => Nat.lt_of_lt_of_le (L_p1 j h) (m18 _)
    have L_p2 : ∀ j, p2 = some j → j < gvN S16 1 := fun j h => Nat.lt_of_lt_of_le (L_p2 j h) (m18 _)
    have hm : ∀ b, gvN S b ≤ gvN S16 b := lh_le_trans hm m18
    have ok := lh_W_ok hW
    have z19 := hX.2
    refine lv_if_ne (tgt := 17) hx hb dX4_failureAtOnce_12 (by decide) (fun c20 => ?_) (fun c20 => ?_)
    · replace hf := dc_if_f c20 hf
      refine lh_aload_n hx hb dX4_failureAtOnce_17 rfl (lv_at hl 2 rfl) ?_
      refine lh_get (a := 1) (k := 2) (N := 7) (C := RX1) (T := TX1) (own := RX4) (ref := "LoaderModels$ClassFile") hx hb hts (fun _ h => (List.mem_cons_of_mem _ (List.mem_append_left _ (List.mem_append_right _ h)))) hown hK hW hx1 (L_p2 _ hx1) rfl rfl rfl (by decide) (hts (.fieldLink RX4 154 "LoaderModels$ClassFile" "inner" "I") (List.mem_cons_of_mem _ (List.mem_append_left _ (List.mem_append_left _ (List.mem_of_getElem? (i := 1) rfl))))) (fun _ h9 => h9) dX4_failureAtOnce_18 (v := .int (gvI S16 1 x1 2)) rfl ?_
      refine lh_aload_n hx hb dX4_failureAtOnce_21 rfl (lv_at hl 2 rfl) ?_
      refine lh_get (a := 1) (k := 1) (N := 7) (C := RX1) (T := TX1) (own := RX4) (ref := "LoaderModels$ClassFile") hx hb hts (fun _ h => (List.mem_cons_of_mem _ (List.mem_append_left _ (List.mem_append_right _ h)))) hown hK hW hx1 (L_p2 _ hx1) rfl rfl rfl (by decide) (hts (.fieldLink RX4 46 "LoaderModels$ClassFile" "name" "I") (List.mem_cons_of_mem _ (List.mem_append_left _ (List.mem_append_left _ (List.mem_of_getElem? (i := 0) rfl))))) (fun _ h9 => h9) dX4_failureAtOnce_22 (v := .int (gvI S16 1 x1 1)) rfl ?_
      refine lv_icmp_eq (tgt := 30) hx hb dX4_failureAtOnce_25 (by decide) (fun c21 => ?_) (fun c21 => ?_)
      · replace hf := dc_if_t c21 hf
        refine lh_aload_n hx hb dX4_failureAtOnce_30 rfl (lv_at hl 1 rfl) ?_
        have L22 : ∀ j, gvR S16 2 x14 4 = some j → j < gvN S16 13 := fun j h => ok _ _ _ _ j (L_p1 _ hx14) rfl h
        refine lh_get (a := 2) (k := 4) (N := 7) (C := RX2) (T := TX2) (own := RX4) (ref := "LoaderModels$Loader") hx hb hts (fun _ h => (List.mem_cons_of_mem _ (List.mem_append_right _ h))) hown hK hW hx14 (L_p1 _ hx14) rfl rfl rfl (by decide) (hts (.fieldLink RX4 104 "LoaderModels$Loader" "knows" "[LLoaderModels$Model;") (List.mem_cons_of_mem _ (List.mem_append_left _ (List.mem_append_left _ (List.mem_of_getElem? (i := 2) rfl))))) (fun _ h9 => h9) dX4_failureAtOnce_31 (v := lh_r ad 13 (gvR S16 2 x14 4)) rfl ?_
        refine lh_aload_n hx hb dX4_failureAtOnce_34 rfl (lv_at hl 2 rfl) ?_
        refine lh_get (a := 1) (k := 1) (N := 7) (C := RX1) (T := TX1) (own := RX4) (ref := "LoaderModels$ClassFile") hx hb hts (fun _ h => (List.mem_cons_of_mem _ (List.mem_append_left _ (List.mem_append_right _ h)))) hown hK hW hx1 (L_p2 _ hx1) rfl rfl rfl (by decide) (hts (.fieldLink RX4 46 "LoaderModels$ClassFile" "name" "I") (List.mem_cons_of_mem _ (List.mem_append_left _ (List.mem_append_left _ (List.mem_of_getElem? (i := 0) rfl))))) (fun _ h9 => h9) dX4_failureAtOnce_35 (v := .int (gvI S16 1 x1 1)) rfl ?_
        obtain ⟨x23, hx23, hf⟩ := dc_nn_ok hf
        obtain ⟨g24, hf⟩ := dc_gd_ok hf
        have L25 : ∀ j, gvR S16 13 x23 ((gvI S16 1 x1 1)).toNatClampNeg = some j → j < gvN S16 5 := fun j h => ok 13 _ _ 5 j (L22 _ hx23) rfl h
        refine lh_ald_r (a := 13) (t0 := 6) (t := 5) hx hb hK hW hx23 (L22 _ hx23) rfl rfl rfl g24 dX4_failureAtOnce_38 ?_
        refine lh_ifnull (tgt := 44) hx hb dX4_failureAtOnce_39 (by decide) (fun c26 => ?_) (fun c26 => ?_)
        · replace hf := dc_if_t c26 hf
          refine lh_aload_n hx hb dX4_failureAtOnce_44 rfl (lv_at hl 1 rfl) ?_
          have L27 : ∀ j, gvR S16 2 x14 5 = some j → j < gvN S16 14 := fun j h => ok _ _ _ _ j (L_p1 _ hx14) rfl h
          refine lh_get (a := 2) (k := 5) (N := 7) (C := RX2) (T := TX2) (own := RX4) (ref := "LoaderModels$Loader") hx hb hts (fun _ h => (List.mem_cons_of_mem _ (List.mem_append_right _ h))) hown hK hW hx14 (L_p1 _ hx14) rfl rfl rfl (by decide) (hts (.fieldLink RX4 111 "LoaderModels$Loader" "defining" "[Z") (List.mem_cons_of_mem _ (List.mem_append_left _ (List.mem_append_left _ (List.mem_of_getElem? (i := 3) rfl))))) (fun _ h9 => h9) dX4_failureAtOnce_45 (v := lh_r ad 14 (gvR S16 2 x14 5)) rfl ?_
          refine lh_aload_n hx hb dX4_failureAtOnce_48 rfl (lv_at hl 2 rfl) ?_
          refine lh_get (a := 1) (k := 1) (N := 7) (C := RX1) (T := TX1) (own := RX4) (ref := "LoaderModels$ClassFile") hx hb hts (fun _ h => (List.mem_cons_of_mem _ (List.mem_append_left _ (List.mem_append_right _ h)))) hown hK hW hx1 (L_p2 _ hx1) rfl rfl rfl (by decide) (hts (.fieldLink RX4 46 "LoaderModels$ClassFile" "name" "I") (List.mem_cons_of_mem _ (List.mem_append_left _ (List.mem_append_left _ (List.mem_of_getElem? (i := 0) rfl))))) (fun _ h9 => h9) dX4_failureAtOnce_49 (v := .int (gvI S16 1 x1 1)) rfl ?_
          obtain ⟨x28, hx28, hf⟩ := dc_nn_ok hf
          obtain ⟨g29, hf⟩ := dc_gd_ok hf
          refine lh_ald_z (a := 14) hx hb hK hW hx28 (L27 _ hx28) rfl rfl g29 dX4_failureAtOnce_52 ?_
          refine lv_if_eq (tgt := 61) hx hb dX4_failureAtOnce_53 (by decide) (fun c30 => ?_) (fun c30 => ?_)
          · replace hf := dc_if_t c30 hf
            refine lv_iconst (v := 0) hx hb dX4_failureAtOnce_61 (by decide) ?_
            obtain ⟨rfl, rfl⟩ := dc_ret hf
            exact W.iret (v := (0 : Int32)) hx hb hr (fun t9 ht9 hW9 => ⟨⟨rfl, ⟨hm, trivial⟩, by rw [ht9]; exact hW⟩, hS.F ht9⟩) hS.2.2 dX4_failureAtOnce_62
          · replace hf := dc_if_f c30 hf
            refine lv_bipush (v := 6) hx hb dX4_failureAtOnce_56 (by decide) ?_
            refine lv_goto (tgt := 62) hx hb dX4_failureAtOnce_58 (by decide) ?_
            obtain ⟨rfl, rfl⟩ := dc_ret hf
            exact W.iret (v := (6 : Int32)) hx hb hr (fun t9 ht9 hW9 => ⟨⟨rfl, ⟨hm, trivial⟩, by rw [ht9]; exact hW⟩, hS.F ht9⟩) hS.2.2 dX4_failureAtOnce_62
        · replace hf := dc_if_f c26 hf
          refine lv_iconst (v := 3) hx hb dX4_failureAtOnce_42 (by decide) ?_
          obtain ⟨rfl, rfl⟩ := dc_ret hf
          exact W.iret (v := (3 : Int32)) hx hb hr (fun t9 ht9 hW9 => ⟨⟨rfl, ⟨hm, trivial⟩, by rw [ht9]; exact hW⟩, hS.F ht9⟩) hS.2.2 dX4_failureAtOnce_43
      · replace hf := dc_if_f c21 hf
        refine lv_iconst (v := 2) hx hb dX4_failureAtOnce_28 (by decide) ?_
        obtain ⟨rfl, rfl⟩ := dc_ret hf
        exact W.iret (v := (2 : Int32)) hx hb hr (fun t9 ht9 hW9 => ⟨⟨rfl, ⟨hm, trivial⟩, by rw [ht9]; exact hW⟩, hS.F ht9⟩) hS.2.2 dX4_failureAtOnce_29
    · replace hf := dc_if_t c20 hf
      refine lv_iconst (v := 4) hx hb dX4_failureAtOnce_15 (by decide) ?_
      obtain ⟨rfl, rfl⟩ := dc_ret hf
      exact W.iret (v := (4 : Int32)) hx hb hr (fun t9 ht9 hW9 => ⟨⟨rfl, ⟨hm, trivial⟩, by rw [ht9]; exact hW⟩, hS.F ht9⟩) hS.2.2 dX4_failureAtOnce_16
def f_X4_tryItself (n : Nat) (S : lh_S) (t : Nat) (p1 : Option Nat) : Option (Int32 × lh_S) :=
  dc_nn p1 fun x1 =>
  dc_nn (gvR S 8 x1 0) fun x3 =>
  dc_nn (gvR S 2 x3 3) fun x5 =>
  dc_gd ((gvI S 8 x1 1) < 0 ∨ gvL S 12 x5 ≤ ((gvI S 8 x1 1)).toNatClampNeg) (
  dc_let (pvR S 8 x1 2 (gvR S 12 x5 ((gvI S 8 x1 1)).toNatClampNeg)) fun S8 =>
  dc_if ((gvR S8 8 x1 2) = none) (
  dc_bd (f_X9_failed n S8 (1 : Int32)) fun r14 S15 =>
  dc_bd (f_X4_end n S15 t r14) fun r18 S19 =>
  some (r18, S19)) (
  dc_let (pvI S8 8 x1 3 (5 : Int32)) fun S12 =>
  some ((-1 : Int32), S12)))
set_option maxHeartbeats 1000000 in
theorem m_X4_tryItself {n : Nat} {S : lh_S} {t : Nat} {p1 : Option Nat} {r : Int32} {S' : lh_S} (hf : f_X4_tryItself n S t p1 = some (r, S')) : ∀ b, gvN S b ≤ gvN S' b := by
  have hm : ∀ b, gvN S b ≤ gvN S b := fun _ => Nat.le_refl _
  unfold f_X4_tryItself at hf
  obtain ⟨x1, hx1, hf⟩ := dc_nn_ok hf
  obtain ⟨x3, hx3, hf⟩ := dc_nn_ok hf
  obtain ⟨x5, hx5, hf⟩ := dc_nn_ok hf
  obtain ⟨g6, hf⟩ := dc_gd_ok hf
  obtain ⟨S8, eS8, hf⟩ := dc_let_ok hf
  have hm := lh_le_trans hm (show ∀ b, gvN S b ≤ gvN S8 b from by rw [eS8]; exact lh_mR)
  by_cases c11 : (gvR S8 8 x1 2) = none
  · replace hf := dc_if_t c11 hf
    obtain ⟨r14, S15, k16, hf⟩ := dc_bd_ok hf
    have hm := lh_le_trans hm (show ∀ b, gvN S8 b ≤ gvN S15 b from m_X9_failed k16)
    obtain ⟨r18, S19, k20, hf⟩ := dc_bd_ok hf
    have hm := lh_le_trans hm (show ∀ b, gvN S15 b ≤ gvN S19 b from m_X4_end k20)
    obtain ⟨_, rfl⟩ := dc_ret hf
    exact hm
  · replace hf := dc_if_f c11 hf
    obtain ⟨S12, eS12, hf⟩ := dc_let_ok hf
    have hm := lh_le_trans hm (show ∀ b, gvN S8 b ≤ gvN S12 b from by rw [eS12]; exact lh_mI)
    obtain ⟨_, rfl⟩ := dc_ret hf
    exact hm
set_option maxHeartbeats 1000000 in
theorem k_X4_tryItself {n : Nat} {S : lh_S} {t : Nat} {p1 : Option Nat} {r : Int32} {S' : lh_S} (hf : f_X4_tryItself n S t p1 = some (r, S')) : lh_sm9 S S' := by
  have hm : lh_sm9 S S := lh_sm9_rf
  unfold f_X4_tryItself at hf
  obtain ⟨x1, hx1, hf⟩ := dc_nn_ok hf
  obtain ⟨x3, hx3, hf⟩ := dc_nn_ok hf
  obtain ⟨x5, hx5, hf⟩ := dc_nn_ok hf
  obtain ⟨g6, hf⟩ := dc_gd_ok hf
  obtain ⟨S8, eS8, hf⟩ := dc_let_ok hf
  have hm := lh_sm9_trans hm (show lh_sm9 S S8 from by rw [eS8]; exact (lh_sm9R (by decide)))
  by_cases c11 : (gvR S8 8 x1 2) = none
  · replace hf := dc_if_t c11 hf
    obtain ⟨r14, S15, k16, hf⟩ := dc_bd_ok hf
    have hm := lh_sm9_trans hm (show lh_sm9 S8 S15 from k_X9_failed k16)
    obtain ⟨r18, S19, k20, hf⟩ := dc_bd_ok hf
    have hm := lh_sm9_trans hm (show lh_sm9 S15 S19 from k_X4_end k20)
    obtain ⟨_, rfl⟩ := dc_ret hf
    exact hm
  · replace hf := dc_if_f c11 hf
    obtain ⟨S12, eS12, hf⟩ := dc_let_ok hf
    have hm := lh_sm9_trans hm (show lh_sm9 S8 S12 from by rw [eS12]; exact (lh_sm9I (by decide)))
    obtain ⟨_, rfl⟩ := dc_ret hf
    exact hm
set_option maxHeartbeats 4000000 in
set_option maxRecDepth 100000 in
theorem c_X4_tryItself (l : Launch) (D : va_G) (cT : Nat → ClassId) (n : Nat) (S : lh_S) (ad : Nat → Nat → Nat) (A : Nat → Prop) (sz : Nat) (hA : ∀ q, sz ≤ q → A q) (t : Nat) (p1 : Option Nat) (r : Int32) (S' : lh_S) (hf : f_X4_tryItself n S t p1 = some (r, S')) (L_t : ∀ j, some t = some j → j < gvN S 4) (L_p1 : ∀ j, p1 = some j → j < gvN S 8) : Met l yX4_tryItself wsX4_tryItself ({ frames := 1, cells := 0, slots := 0, locals := 21 } : Room) (lh_P D cT S ad A sz [lh_r ad 4 (some t), lh_r ad 8 p1]) (lh_Q D cT S' ad A ((∀ b, gvN S b ≤ gvN S' b) ∧ True) (some (.int r))) 0 0 A := by
  refine Met.ofW (cc := cX4_tryItself) (maxL := 2) (ret := (some .int)) (by decide) rfl ?_
  intro p e s m args below meth c s₁ B hml hv
  obtain ⟨hargs, hsz, hW, hK, hN⟩ := hv
  have hx := B.exec
  have hb := B.bytes
  have hr := B.returns
  have hts := atoms_spec (ws := wsX4_tryItself) B.pre
  have hown : s.vm.findClass RX4 = some m.cls := findClass_of_methodNamed B.named
  have hlocks := B.notSynchronized
  have hA : ∀ q, s.heap.size ≤ q → A q := fun q h => hA q (by rw [← hsz]; exact h)
  have ok := lh_W_ok hW
  have hm : ∀ b, gvN S b ≤ gvN S b := fun _ => Nat.le_refl _
  obtain ⟨ls, hent, hl⟩ := lh_entry m args [lh_r ad 4 (some t), lh_r ad 8 p1] 2 [(0, lh_r ad 4 (some t)), (1, lh_r ad 8 p1)] hargs (by simp [lv_args, lh_cat_r, lh_cat_i, lh_cat_j]) (by simp [lg_sl, lh_cat_r, lh_cat_i, lh_cat_j])
  rw [hent]
  generalize hH : s.heap = H at hW ⊢
  have hS : va_S A s.heap H [] := by rw [← hH]; exact va_S.rf
  unfold f_X4_tryItself at hf
  refine lh_aload_n hx hb dX4_tryItself_0 rfl (lv_at hl 1 rfl) ?_
  refine lh_aload_n hx hb dX4_tryItself_1 rfl (lv_at hl 1 rfl) ?_
  obtain ⟨x1, hx1, hf⟩ := dc_nn_ok hf
  have L2 : ∀ j, gvR S 8 x1 0 = some j → j < gvN S 2 := fun j h => ok _ _ _ _ j (L_p1 _ hx1) rfl h
  refine lh_get (a := 8) (k := 0) (N := 4) (C := RX8) (T := TX8) (own := RX4) (ref := "LoaderModels$Step") hx hb hts (fun _ h => (List.mem_cons_of_mem _ (List.mem_append_left _ (List.mem_append_left _ (List.mem_append_right _ h))))) hown hK hW hx1 (L_p1 _ hx1) rfl rfl rfl (by decide) (hts (.fieldLink RX4 86 "LoaderModels$Step" "loader" "LLoaderModels$Loader;") (List.mem_cons_of_mem _ (List.mem_append_left _ (List.mem_append_left _ (List.mem_append_left _ (List.mem_of_getElem? (i := 0) rfl)))))) (fun _ h9 => h9) dX4_tryItself_2 (v := lh_r ad 2 (gvR S 8 x1 0)) rfl ?_
  obtain ⟨x3, hx3, hf⟩ := dc_nn_ok hf
  have L4 : ∀ j, gvR S 2 x3 3 = some j → j < gvN S 12 := fun j h => ok _ _ _ _ j (L2 _ hx3) rfl h
  refine lh_get (a := 2) (k := 3) (N := 7) (C := RX2) (T := TX2) (own := RX4) (ref := "LoaderModels$Loader") hx hb hts (fun _ h => (List.mem_cons_of_mem _ (List.mem_append_left _ (List.mem_append_right _ h)))) hown hK hW hx3 (L2 _ hx3) rfl rfl rfl (by decide) (hts (.fieldLink RX4 135 "LoaderModels$Loader" "files" "[LLoaderModels$ClassFile;") (List.mem_cons_of_mem _ (List.mem_append_left _ (List.mem_append_left _ (List.mem_append_left _ (List.mem_of_getElem? (i := 1) rfl)))))) (fun _ h9 => h9) dX4_tryItself_5 (v := lh_r ad 12 (gvR S 2 x3 3)) rfl ?_
  refine lh_aload_n hx hb dX4_tryItself_8 rfl (lv_at hl 1 rfl) ?_
  refine lh_get (a := 8) (k := 1) (N := 4) (C := RX8) (T := TX8) (own := RX4) (ref := "LoaderModels$Step") hx hb hts (fun _ h => (List.mem_cons_of_mem _ (List.mem_append_left _ (List.mem_append_left _ (List.mem_append_right _ h))))) hown hK hW hx1 (L_p1 _ hx1) rfl rfl rfl (by decide) (hts (.fieldLink RX4 90 "LoaderModels$Step" "name" "I") (List.mem_cons_of_mem _ (List.mem_append_left _ (List.mem_append_left _ (List.mem_append_left _ (List.mem_of_getElem? (i := 2) rfl)))))) (fun _ h9 => h9) dX4_tryItself_9 (v := .int (gvI S 8 x1 1)) rfl ?_
  obtain ⟨x5, hx5, hf⟩ := dc_nn_ok hf
  obtain ⟨g6, hf⟩ := dc_gd_ok hf
  have L7 : ∀ j, gvR S 12 x5 ((gvI S 8 x1 1)).toNatClampNeg = some j → j < gvN S 1 := fun j h => ok 12 _ _ 1 j (L4 _ hx5) rfl h
  refine lh_ald_r (a := 12) (t0 := 4) (t := 1) hx hb hK hW hx5 (L4 _ hx5) rfl rfl rfl g6 dX4_tryItself_12 ?_
  obtain ⟨S8, eS8, hf⟩ := dc_let_ok hf
  refine lh_put (S' := S8) (a := 8) (k := 2) (N := 4) (C := RX8) (T := TX8) (own := RX4) (ref := "LoaderModels$Step") (ty := .object "LoaderModels$ClassFile") hx hb hts (fun _ h => (List.mem_cons_of_mem _ (List.mem_append_left _ (List.mem_append_left _ (List.mem_append_right _ h))))) tyX8 tyX8_ok nmX8 hown hK hW hS hx1 (L_p1 _ hx1) rfl rfl rfl (by decide) (hts (.fieldLink RX4 91 "LoaderModels$Step" "file" "LLoaderModels$ClassFile;") (List.mem_cons_of_mem _ (List.mem_append_left _ (List.mem_append_left _ (List.mem_append_left _ (List.mem_of_getElem? (i := 3) rfl)))))) (fun _ h9 => h9) (Or.inl rfl) (by decide +kernel) lh_nar_r lh_fit_r (fun q9 => by rw [eS8]; exact lh_chR rfl L7 q9) dX4_tryItself_13 (fun H locs hW hS => ?_)
  have m9 : ∀ b, gvN S b ≤ gvN S8 b := by rw [eS8]; exact lh_mR
  have L_t : ∀ j, some t = some j → j < gvN S8 4 := fun j h => Nat.lt_of_lt_of_le (L_t j h) (m9 _)
  have L_p1 : ∀ j, p1 = some j → j < gvN S8 8 := fun j h => Nat.lt_of_lt_of_le (L_p1 j h) (m9 _)
  have hm : ∀ b, gvN S b ≤ gvN S8 b := lh_le_trans hm m9
  have ok := lh_W_ok hW
  refine lh_aload_n hx hb dX4_tryItself_16 rfl (lv_at hl 1 rfl) ?_
  have L10 : ∀ j, gvR S8 8 x1 2 = some j → j < gvN S8 1 := fun j h => ok _ _ _ _ j (L_p1 _ hx1) rfl h
  refine lh_get (a := 8) (k := 2) (N := 4) (C := RX8) (T := TX8) (own := RX4) (ref := "LoaderModels$Step") hx hb hts (fun _ h => (List.mem_cons_of_mem _ (List.mem_append_left _ (List.mem_append_left _ (List.mem_append_right _ h))))) hown hK hW hx1 (L_p1 _ hx1) rfl rfl rfl (by decide) (hts (.fieldLink RX4 91 "LoaderModels$Step" "file" "LLoaderModels$ClassFile;") (List.mem_cons_of_mem _ (List.mem_append_left _ (List.mem_append_left _ (List.mem_append_left _ (List.mem_of_getElem? (i := 3) rfl)))))) (fun _ h9 => h9) dX4_tryItself_17 (v := lh_r ad 1 (gvR S8 8 x1 2)) rfl ?_
  refine lh_ifnonnull (tgt := 32) hx hb dX4_tryItself_20 (by decide) (fun c11 => ?_) (fun c11 => ?_)
  · replace hf := dc_if_f c11 hf
    refine lh_aload_n hx hb dX4_tryItself_32 rfl (lv_at hl 1 rfl) ?_
    refine lv_iconst (v := 5) hx hb dX4_tryItself_33 (by decide) ?_
    obtain ⟨S12, eS12, hf⟩ := dc_let_ok hf
    refine lh_put (S' := S12) (a := 8) (k := 3) (N := 4) (C := RX8) (T := TX8) (own := RX4) (ref := "LoaderModels$Step") (ty := .int) hx hb hts (fun _ h => (List.mem_cons_of_mem _ (List.mem_append_left _ (List.mem_append_left _ (List.mem_append_right _ h))))) tyX8 tyX8_ok nmX8 hown hK hW hS hx1 (L_p1 _ hx1) rfl rfl rfl (by decide) (hts (.fieldLink RX4 55 "LoaderModels$Step" "stage" "I") (List.mem_cons_of_mem _ (List.mem_append_left _ (List.mem_append_left _ (List.mem_append_left _ (List.mem_of_getElem? (i := 4) rfl)))))) (fun _ h9 => h9) (Or.inl rfl) (by decide +kernel) rfl rfl (fun q9 => by rw [eS12]; exact lh_chI rfl q9) dX4_tryItself_34 (fun H locs hW hS => ?_)
    have m13 : ∀ b, gvN S8 b ≤ gvN S12 b := by rw [eS12]; exact lh_mI
    have L_t : ∀ j, some t = some j → j < gvN S12 4 := fun j h => Nat.lt_of_lt_of_le (L_t j h) (m13 _)
    have L_p1 : ∀ j, p1 = some j → j < gvN S12 8 := fun j h => Nat.lt_of_lt_of_le (L_p1 j h) (m13 _)
    have hm : ∀ b, gvN S b ≤ gvN S12 b := lh_le_trans hm m13
    have ok := lh_W_ok hW
    refine lv_iconst (v := -1) hx hb dX4_tryItself_37 (by decide) ?_
    obtain ⟨rfl, rfl⟩ := dc_ret hf
    exact W.iret (v := (-1 : Int32)) hx hb hr (fun t9 ht9 hW9 => ⟨⟨rfl, ⟨hm, trivial⟩, by rw [ht9]; exact hW⟩, hS.F ht9⟩) hS.2.2 dX4_tryItself_38
  · replace hf := dc_if_t c11 hf
    refine lh_aload_n hx hb dX4_tryItself_23 rfl (lv_at hl 0 rfl) ?_
    refine lv_iconst (v := 1) hx hb dX4_tryItself_24 (by decide) ?_
    obtain ⟨r14, S15, k16, hf⟩ := dc_bd_ok hf
    refine lh_call (S' := S15) (lh_rsn ⟨hx, hb, hml, hown, hts⟩ (As := [.int (1 : Int32)]) (rest := [lh_r ad 4 (some t)]) (c_X9_failed l D cT n S8 ad A H.size (fun q9 h9 => hA q9 (Nat.le_trans hS.1 h9)) (1 : Int32) r14 S15 k16 ) ⟨va_cnB 1 hts gX4_tryItself_X9_failed_n81 rfl rfl rfl hN.2.2.1 (hts (.initialized RX9) (List.mem_cons_of_mem _ (List.mem_append_left _ (List.mem_append_left _ (List.mem_append_left _ (List.mem_of_getElem? (i := 6) rfl)))))) (by decide +kernel) ⟨Nat.le_of_ble_eq_true rfl, Nat.le_of_ble_eq_true rfl⟩, (hts (.static yX9_failed) (List.mem_cons_of_mem _ (List.mem_append_left _ (List.mem_append_left _ (List.mem_append_left _ (List.mem_of_getElem? (i := 5) rfl)))))), trivial⟩ hK hN hW rfl hl.1 rfl (by simp [lh_cat_r, lh_cat_i, lh_cat_j]) dX4_tryItself_25 ⟨Nat.le_of_ble_eq_true rfl, Nat.le_of_ble_eq_true rfl⟩) hS (fun H locs hX hW hS => ?_)
    refine W.widen (k := 0) (n := 0) (by omega) (by omega) ?_
    show W _ _ _ _ _ _ _ _ _ _ _ _ _ _ _ (F0 m 28 ls [.int r14, lh_r ad 4 (some t)])
    have m17 : ∀ b, gvN S8 b ≤ gvN S15 b := hX.1
    have L_t : ∀ j, some t = some j → j < gvN S15 4 := fun j h => Nat.lt_of_lt_of_le (L_t j h) (m17 _)
    have L_p1 : ∀ j, p1 = some j → j < gvN S15 8 := fun j h => Nat.lt_of_lt_of_le (L_p1 j h) (m17 _)
    have hm : ∀ b, gvN S b ≤ gvN S15 b := lh_le_trans hm m17
    have ok := lh_W_ok hW
    obtain ⟨r18, S19, k20, hf⟩ := dc_bd_ok hf
    refine lh_call (S' := S19) (lh_rv ⟨hx, hb, hml, hown, hts⟩ rfl (As := [.int r14]) (rest := []) (k := 4) (c_X4_end l D cT n S15 ad A H.size (fun q9 h9 => hA q9 (Nat.le_trans hS.1 h9)) t r14 r18 S19 k20 L_t) (cwV 1 hts gX4_tryItself_X4_end rfl rfl rfl (by decide +kernel) ⟨Nat.le_of_ble_eq_true rfl, Nat.le_of_ble_eq_true rfl⟩) hK hN hW (L_t _ rfl) rfl rfl rfl hl.1 rfl (by simp [lh_cat_r, lh_cat_i, lh_cat_j]) dX4_tryItself_28 ⟨Nat.le_of_ble_eq_true rfl, Nat.le_of_ble_eq_true rfl⟩) hS (fun H locs hX hW hS => ?_)
    refine W.widen (k := 0) (n := 0) (by omega) (by omega) ?_
    show W _ _ _ _ _ _ _ _ _ _ _ _ _ _ _ (F0 m 31 ls [.int r18])
    have m21 : ∀ b, gvN S15 b ≤ gvN S19 b := hX.1
    have L_t : ∀ j, some t = some j → j < gvN S19 4 := fun j h => Nat.lt_of_lt_of_le (L_t j h) (m21 _)
    have L_p1 : ∀ j, p1 = some j → j < gvN S19 8 := fun j h => Nat.lt_of_lt_of_le (L_p1 j h) (m21 _)
    have hm : ∀ b, gvN S b ≤ gvN S19 b := lh_le_trans hm m21
    have ok := lh_W_ok hW
    obtain ⟨rfl, rfl⟩ := dc_ret hf
    exact W.iret (v := r18) hx hb hr (fun t9 ht9 hW9 => ⟨⟨rfl, ⟨hm, trivial⟩, by rw [ht9]; exact hW⟩, hS.F ht9⟩) hS.2.2 dX4_tryItself_31
def f_X4_takeFromParent (n : Nat) (S : lh_S) (t : Nat) (p1 : Option Nat) (p2 : Int32) : Option (Int32 × lh_S) :=
  dc_bd (f_X4_classAt n S t p2) fun r1 S2 =>
  dc_if (r1 = none) (
  dc_bd (f_X4_end n S2 t p2) fun r36 S37 =>
  some (r36, S37)) (
  dc_nn p1 fun x8 =>
  dc_nn (gvR S2 4 t 0) fun x10 =>
  dc_bd (f_X3_isBarred n S2 x10 (gvR S2 8 x8 0) (gvI S2 8 x8 1) r1) fun r11 S12 =>
  dc_if (r11 = 0) (
  dc_nn (gvR S12 8 x8 0) fun x18 =>
  dc_nn (gvR S12 2 x18 4) fun x20 =>
  dc_gd ((gvI S12 8 x8 1) < 0 ∨ gvL S12 13 x20 ≤ ((gvI S12 8 x8 1)).toNatClampNeg) (
  dc_let (pvR S12 13 x20 ((gvI S12 8 x8 1)).toNatClampNeg r1) fun S22 =>
  dc_bd (f_X4_end n S22 t p2) fun r24 S25 =>
  some (r24, S25))) (
  dc_bd (f_X9_failed n S12 (3 : Int32)) fun r28 S29 =>
  dc_bd (f_X4_end n S29 t r28) fun r32 S33 =>
  some (r32, S33)))
set_option maxHeartbeats 1000000 in
theorem m_X4_takeFromParent {n : Nat} {S : lh_S} {t : Nat} {p1 : Option Nat} {p2 : Int32} {r : Int32} {S' : lh_S} (hf : f_X4_takeFromParent n S t p1 p2 = some (r, S')) : ∀ b, gvN S b ≤ gvN S' b := by
  have hm : ∀ b, gvN S b ≤ gvN S b := fun _ => Nat.le_refl _
  unfold f_X4_takeFromParent at hf
  obtain ⟨r1, S2, k3, hf⟩ := dc_bd_ok hf
  have hm := lh_le_trans hm (show ∀ b, gvN S b ≤ gvN S2 b from m_X4_classAt k3)
  by_cases c6 : r1 = none
  · replace hf := dc_if_t c6 hf
    obtain ⟨r36, S37, k38, hf⟩ := dc_bd_ok hf
    have hm := lh_le_trans hm (show ∀ b, gvN S2 b ≤ gvN S37 b from m_X4_end k38)
    obtain ⟨_, rfl⟩ := dc_ret hf
    exact hm
  · replace hf := dc_if_f c6 hf
    obtain ⟨x8, hx8, hf⟩ := dc_nn_ok hf
    obtain ⟨x10, hx10, hf⟩ := dc_nn_ok hf
    obtain ⟨r11, S12, k13, hf⟩ := dc_bd_ok hf
    have hm := lh_le_trans hm (show ∀ b, gvN S2 b ≤ gvN S12 b from m_X3_isBarred k13)
    by_cases c16 : r11 = 0
    · replace hf := dc_if_t c16 hf
      obtain ⟨x18, hx18, hf⟩ := dc_nn_ok hf
      obtain ⟨x20, hx20, hf⟩ := dc_nn_ok hf
      obtain ⟨g21, hf⟩ := dc_gd_ok hf
      obtain ⟨S22, eS22, hf⟩ := dc_let_ok hf
      have hm := lh_le_trans hm (show ∀ b, gvN S12 b ≤ gvN S22 b from by rw [eS22]; exact lh_mR)
      obtain ⟨r24, S25, k26, hf⟩ := dc_bd_ok hf
      have hm := lh_le_trans hm (show ∀ b, gvN S22 b ≤ gvN S25 b from m_X4_end k26)
      obtain ⟨_, rfl⟩ := dc_ret hf
      exact hm
    · replace hf := dc_if_f c16 hf
      obtain ⟨r28, S29, k30, hf⟩ := dc_bd_ok hf
      have hm := lh_le_trans hm (show ∀ b, gvN S12 b ≤ gvN S29 b from m_X9_failed k30)
      obtain ⟨r32, S33, k34, hf⟩ := dc_bd_ok hf
      have hm := lh_le_trans hm (show ∀ b, gvN S29 b ≤ gvN S33 b from m_X4_end k34)
      obtain ⟨_, rfl⟩ := dc_ret hf
      exact hm
set_option maxHeartbeats 1000000 in
theorem k_X4_takeFromParent {n : Nat} {S : lh_S} {t : Nat} {p1 : Option Nat} {p2 : Int32} {r : Int32} {S' : lh_S} (hf : f_X4_takeFromParent n S t p1 p2 = some (r, S')) : lh_sm9 S S' := by
  have hm : lh_sm9 S S := lh_sm9_rf
  unfold f_X4_takeFromParent at hf
  obtain ⟨r1, S2, k3, hf⟩ := dc_bd_ok hf
  have hm := lh_sm9_trans hm (show lh_sm9 S S2 from k_X4_classAt k3)
  by_cases c6 : r1 = none
  · replace hf := dc_if_t c6 hf
    obtain ⟨r36, S37, k38, hf⟩ := dc_bd_ok hf
    have hm := lh_sm9_trans hm (show lh_sm9 S2 S37 from k_X4_end k38)
    obtain ⟨_, rfl⟩ := dc_ret hf
    exact hm
  · replace hf := dc_if_f c6 hf
    obtain ⟨x8, hx8, hf⟩ := dc_nn_ok hf
    obtain ⟨x10, hx10, hf⟩ := dc_nn_ok hf
    obtain ⟨r11, S12, k13, hf⟩ := dc_bd_ok hf
    have hm := lh_sm9_trans hm (show lh_sm9 S2 S12 from k_X3_isBarred k13)
    by_cases c16 : r11 = 0
    · replace hf := dc_if_t c16 hf
      obtain ⟨x18, hx18, hf⟩ := dc_nn_ok hf
      obtain ⟨x20, hx20, hf⟩ := dc_nn_ok hf
      obtain ⟨g21, hf⟩ := dc_gd_ok hf
      obtain ⟨S22, eS22, hf⟩ := dc_let_ok hf
      have hm := lh_sm9_trans hm (show lh_sm9 S12 S22 from by rw [eS22]; exact (lh_sm9R (by decide)))
      obtain ⟨r24, S25, k26, hf⟩ := dc_bd_ok hf
      have hm := lh_sm9_trans hm (show lh_sm9 S22 S25 from k_X4_end k26)
      obtain ⟨_, rfl⟩ := dc_ret hf
      exact hm
    · replace hf := dc_if_f c16 hf
      obtain ⟨r28, S29, k30, hf⟩ := dc_bd_ok hf
      have hm := lh_sm9_trans hm (show lh_sm9 S12 S29 from k_X9_failed k30)
      obtain ⟨r32, S33, k34, hf⟩ := dc_bd_ok hf
      have hm := lh_sm9_trans hm (show lh_sm9 S29 S33 from k_X4_end k34)
      obtain ⟨_, rfl⟩ := dc_ret hf
      exact hm
set_option maxHeartbeats 4000000 in
set_option maxRecDepth 100000 in
theorem c_X4_takeFromParent (l : Launch) (D : va_G) (cT : Nat → ClassId) (n : Nat) (S : lh_S) (ad : Nat → Nat → Nat) (A : Nat → Prop) (sz : Nat) (hA : ∀ q, sz ≤ q → A q) (t : Nat) (p1 : Option Nat) (p2 : Int32) (r : Int32) (S' : lh_S) (hf : f_X4_takeFromParent n S t p1 p2 = some (r, S')) (L_t : ∀ j, some t = some j → j < gvN S 4) (L_p1 : ∀ j, p1 = some j → j < gvN S 8) : Met l yX4_takeFromParent wsX4_takeFromParent ({ frames := 2, cells := 0, slots := 0, locals := 48 } : Room) (lh_P D cT S ad A sz [lh_r ad 4 (some t), lh_r ad 8 p1, .int p2]) (lh_Q D cT S' ad A ((∀ b, gvN S b ≤ gvN S' b) ∧ True) (some (.int r))) 0 0 A := by
  refine Met.ofW (cc := cX4_takeFromParent) (maxL := 4) (ret := (some .int)) (by decide) rfl ?_
  intro p e s m args below meth c s₁ B hml hv
  obtain ⟨hargs, hsz, hW, hK, hN⟩ := hv
  have hx := B.exec
  have hb := B.bytes
  have hr := B.returns
  have hts := atoms_spec (ws := wsX4_takeFromParent) B.pre
  have hown : s.vm.findClass RX4 = some m.cls := findClass_of_methodNamed B.named
  have hlocks := B.notSynchronized
  have hA : ∀ q, s.heap.size ≤ q → A q := fun q h => hA q (by rw [← hsz]; exact h)
  have ok := lh_W_ok hW
  have hm : ∀ b, gvN S b ≤ gvN S b := fun _ => Nat.le_refl _
  obtain ⟨ls, hent, hl⟩ := lh_entry m args [lh_r ad 4 (some t), lh_r ad 8 p1, .int p2] 4 [(0, lh_r ad 4 (some t)), (1, lh_r ad 8 p1), (2, .int p2)] hargs (by simp [lv_args, lh_cat_r, lh_cat_i, lh_cat_j]) (by simp [lg_sl, lh_cat_r, lh_cat_i, lh_cat_j])
  rw [hent]
  generalize hH : s.heap = H at hW ⊢
  have hS : va_S A s.heap H [] := by rw [← hH]; exact va_S.rf
  unfold f_X4_takeFromParent at hf
  refine lh_aload_n hx hb dX4_takeFromParent_0 rfl (lv_at hl 0 rfl) ?_
  refine lv_iload_n hx hb dX4_takeFromParent_1 rfl (lv_at hl 2 rfl) ?_
  obtain ⟨r1, S2, k3, hf⟩ := dc_bd_ok hf
  refine lh_call (S' := S2) (lh_rv ⟨hx, hb, hml, hown, hts⟩ rfl (As := [.int p2]) (rest := []) (k := 4) (c_X4_classAt l D cT n S ad A H.size (fun q9 h9 => hA q9 (Nat.le_trans hS.1 h9)) t p2 r1 S2 k3 L_t) (cwV 1 hts gX4_takeFromParent_X4_classAt rfl rfl rfl (by decide +kernel) ⟨Nat.le_of_ble_eq_true rfl, Nat.le_of_ble_eq_true rfl⟩) hK hN hW (L_t _ rfl) rfl rfl rfl hl.1 rfl (by simp [lh_cat_r, lh_cat_i, lh_cat_j]) dX4_takeFromParent_2 ⟨Nat.le_of_ble_eq_true rfl, Nat.le_of_ble_eq_true rfl⟩) hS (fun H locs hX hW hS => ?_)
  refine W.widen (k := 0) (n := 0) (by omega) (by omega) ?_
  show W _ _ _ _ _ _ _ _ _ _ _ _ _ _ _ (F0 m 5 ls [lh_r ad 5 r1])
  have m4 : ∀ b, gvN S b ≤ gvN S2 b := hX.1
  have L_t : ∀ j, some t = some j → j < gvN S2 4 := fun j h => Nat.lt_of_lt_of_le (L_t j h) (m4 _)
  have L_p1 : ∀ j, p1 = some j → j < gvN S2 8 := fun j h => Nat.lt_of_lt_of_le (L_p1 j h) (m4 _)
  have hm : ∀ b, gvN S b ≤ gvN S2 b := lh_le_trans hm m4
  have ok := lh_W_ok hW
  have L5 := hX.2
  refine lh_astore_n (i := 3) (lv' := [(3, lh_r ad 5 r1), (0, lh_r ad 4 (some t)), (1, lh_r ad 8 p1), (2, .int p2)]) hx hb dX4_takeFromParent_5 rfl hl (by decide) (by first | rfl | simp [lh_cat_r, lh_cat_i, lh_cat_j]) (fun ls hl => ?_)
  refine lh_aload_n hx hb dX4_takeFromParent_6 rfl (lv_at hl 0 rfl) ?_
  refine lh_ifnonnull (tgt := 16) hx hb dX4_takeFromParent_7 (by decide) (fun c6 => ?_) (fun c6 => ?_)
  · replace hf := dc_if_f c6 hf
    refine lh_aload_n hx hb dX4_takeFromParent_16 rfl (lv_at hl 1 rfl) ?_
    have L7 : ∀ j, gvR S2 4 t 0 = some j → j < gvN S2 3 := fun j h => ok _ _ _ _ j (L_t _ rfl) rfl h
    refine lh_get (a := 4) (k := 0) (N := 6) (C := RX4) (T := TX4) (own := RX4) (ref := "LoaderModels$Loading") hx hb hts (fun _ h => (List.mem_cons_of_mem _ (List.mem_append_left _ (List.mem_append_left _ (List.mem_append_left _ (List.mem_append_right _ h)))))) hown hK hW rfl (L_t _ rfl) rfl rfl rfl (by decide) (hts (.fieldLink RX4 30 "LoaderModels$Loading" "loaders" "LLoaderModels$Loaders;") (List.mem_cons_of_mem _ (List.mem_append_left _ (List.mem_append_left _ (List.mem_append_left _ (List.mem_append_left _ (List.mem_append_left _ (List.mem_of_getElem? (i := 0) rfl)))))))) (fun _ h9 => h9) dX4_takeFromParent_17 (v := lh_r ad 3 (gvR S2 4 t 0)) rfl ?_
    refine lh_aload_n hx hb dX4_takeFromParent_20 rfl (lv_at hl 2 rfl) ?_
    obtain ⟨x8, hx8, hf⟩ := dc_nn_ok hf
    have L9 : ∀ j, gvR S2 8 x8 0 = some j → j < gvN S2 2 := fun j h => ok _ _ _ _ j (L_p1 _ hx8) rfl h
    refine lh_get (a := 8) (k := 0) (N := 4) (C := RX8) (T := TX8) (own := RX4) (ref := "LoaderModels$Step") hx hb hts (fun _ h => (List.mem_cons_of_mem _ (List.mem_append_left _ (List.mem_append_left _ (List.mem_append_right _ h))))) hown hK hW hx8 (L_p1 _ hx8) rfl rfl rfl (by decide) (hts (.fieldLink RX4 86 "LoaderModels$Step" "loader" "LLoaderModels$Loader;") (List.mem_cons_of_mem _ (List.mem_append_left _ (List.mem_append_left _ (List.mem_append_left _ (List.mem_append_left _ (List.mem_append_left _ (List.mem_of_getElem? (i := 1) rfl)))))))) (fun _ h9 => h9) dX4_takeFromParent_21 (v := lh_r ad 2 (gvR S2 8 x8 0)) rfl ?_
    refine lh_aload_n hx hb dX4_takeFromParent_24 rfl (lv_at hl 2 rfl) ?_
    refine lh_get (a := 8) (k := 1) (N := 4) (C := RX8) (T := TX8) (own := RX4) (ref := "LoaderModels$Step") hx hb hts (fun _ h => (List.mem_cons_of_mem _ (List.mem_append_left _ (List.mem_append_left _ (List.mem_append_right _ h))))) hown hK hW hx8 (L_p1 _ hx8) rfl rfl rfl (by decide) (hts (.fieldLink RX4 90 "LoaderModels$Step" "name" "I") (List.mem_cons_of_mem _ (List.mem_append_left _ (List.mem_append_left _ (List.mem_append_left _ (List.mem_append_left _ (List.mem_append_left _ (List.mem_of_getElem? (i := 2) rfl)))))))) (fun _ h9 => h9) dX4_takeFromParent_25 (v := .int (gvI S2 8 x8 1)) rfl ?_
    refine lh_aload_n hx hb dX4_takeFromParent_28 rfl (lv_at hl 0 rfl) ?_
    obtain ⟨x10, hx10, hf⟩ := dc_nn_ok hf
    obtain ⟨r11, S12, k13, hf⟩ := dc_bd_ok hf
    refine lh_call (S' := S12) (lh_rv ⟨hx, hb, hml, hown, hts⟩ hx10 (As := [lh_r ad 2 (gvR S2 8 x8 0), .int (gvI S2 8 x8 1), lh_r ad 5 r1]) (rest := []) (k := 3) (c_X3_isBarred l D cT n S2 ad A H.size (fun q9 h9 => hA q9 (Nat.le_trans hS.1 h9)) x10 (gvR S2 8 x8 0) (gvI S2 8 x8 1) r1 r11 S12 k13 (lh_ls (L7 _ hx10)) L9 L5) (cwV 3 hts gX4_takeFromParent_X3_isBarred rfl rfl rfl (by decide +kernel) ⟨Nat.le_of_ble_eq_true rfl, Nat.le_of_ble_eq_true rfl⟩) hK hN hW (L7 _ hx10) rfl rfl rfl hl.1 rfl (by simp [lh_cat_r, lh_cat_i, lh_cat_j]) dX4_takeFromParent_29 ⟨Nat.le_of_ble_eq_true rfl, Nat.le_of_ble_eq_true rfl⟩) hS (fun H locs hX hW hS => ?_)
    refine W.widen (k := 0) (n := 0) (by omega) (by omega) ?_
    show W _ _ _ _ _ _ _ _ _ _ _ _ _ _ _ (F0 m 32 ls [.int r11])
    have m14 : ∀ b, gvN S2 b ≤ gvN S12 b := hX.1
    have L5 : ∀ j, r1 = some j → j < gvN S12 5 := fun j h => Nat.lt_of_lt_of_le (L5 j h) (m14 _)
    have L_t : ∀ j, some t = some j → j < gvN S12 4 := fun j h => Nat.lt_of_lt_of_le (L_t j h) (m14 _)
    have L_p1 : ∀ j, p1 = some j → j < gvN S12 8 := fun j h => Nat.lt_of_lt_of_le (L_p1 j h) (m14 _)
    have hm : ∀ b, gvN S b ≤ gvN S12 b := lh_le_trans hm m14
    have ok := lh_W_ok hW
    have z15 := hX.2
    refine lv_if_eq (tgt := 44) hx hb dX4_takeFromParent_32 (by decide) (fun c16 => ?_) (fun c16 => ?_)
    · replace hf := dc_if_t c16 hf
      refine lh_aload_n hx hb dX4_takeFromParent_44 rfl (lv_at hl 2 rfl) ?_
      have L17 : ∀ j, gvR S12 8 x8 0 = some j → j < gvN S12 2 := fun j h => ok _ _ _ _ j (L_p1 _ hx8) rfl h
      refine lh_get (a := 8) (k := 0) (N := 4) (C := RX8) (T := TX8) (own := RX4) (ref := "LoaderModels$Step") hx hb hts (fun _ h => (List.mem_cons_of_mem _ (List.mem_append_left _ (List.mem_append_left _ (List.mem_append_right _ h))))) hown hK hW hx8 (L_p1 _ hx8) rfl rfl rfl (by decide) (hts (.fieldLink RX4 86 "LoaderModels$Step" "loader" "LLoaderModels$Loader;") (List.mem_cons_of_mem _ (List.mem_append_left _ (List.mem_append_left _ (List.mem_append_left _ (List.mem_append_left _ (List.mem_append_left _ (List.mem_of_getElem? (i := 1) rfl)))))))) (fun _ h9 => h9) dX4_takeFromParent_45 (v := lh_r ad 2 (gvR S12 8 x8 0)) rfl ?_
      obtain ⟨x18, hx18, hf⟩ := dc_nn_ok hf
      have L19 : ∀ j, gvR S12 2 x18 4 = some j → j < gvN S12 13 := fun j h => ok _ _ _ _ j (L17 _ hx18) rfl h
      refine lh_get (a := 2) (k := 4) (N := 7) (C := RX2) (T := TX2) (own := RX4) (ref := "LoaderModels$Loader") hx hb hts (fun _ h => (List.mem_cons_of_mem _ (List.mem_append_left _ (List.mem_append_right _ h)))) hown hK hW hx18 (L17 _ hx18) rfl rfl rfl (by decide) (hts (.fieldLink RX4 104 "LoaderModels$Loader" "knows" "[LLoaderModels$Model;") (List.mem_cons_of_mem _ (List.mem_append_left _ (List.mem_append_left _ (List.mem_append_left _ (List.mem_append_left _ (List.mem_append_left _ (List.mem_of_getElem? (i := 3) rfl)))))))) (fun _ h9 => h9) dX4_takeFromParent_48 (v := lh_r ad 13 (gvR S12 2 x18 4)) rfl ?_
      refine lh_aload_n hx hb dX4_takeFromParent_51 rfl (lv_at hl 2 rfl) ?_
      refine lh_get (a := 8) (k := 1) (N := 4) (C := RX8) (T := TX8) (own := RX4) (ref := "LoaderModels$Step") hx hb hts (fun _ h => (List.mem_cons_of_mem _ (List.mem_append_left _ (List.mem_append_left _ (List.mem_append_right _ h))))) hown hK hW hx8 (L_p1 _ hx8) rfl rfl rfl (by decide) (hts (.fieldLink RX4 90 "LoaderModels$Step" "name" "I") (List.mem_cons_of_mem _ (List.mem_append_left _ (List.mem_append_left _ (List.mem_append_left _ (List.mem_append_left _ (List.mem_append_left _ (List.mem_of_getElem? (i := 2) rfl)))))))) (fun _ h9 => h9) dX4_takeFromParent_52 (v := .int (gvI S12 8 x8 1)) rfl ?_
      refine lh_aload_n hx hb dX4_takeFromParent_55 rfl (lv_at hl 0 rfl) ?_
      obtain ⟨x20, hx20, hf⟩ := dc_nn_ok hf
      obtain ⟨g21, hf⟩ := dc_gd_ok hf
      obtain ⟨S22, eS22, hf⟩ := dc_let_ok hf
      refine lh_ast_r (a := 13) (t0 := 6) (t := 5) hx hb hK hW hS hx20 (L19 _ hx20) rfl rfl (fun _ => rfl) rfl rfl L5 g21 dX4_takeFromParent_56 (fun H locs hW hS => ?_)
      rw [← eS22] at hW
      have m23 : ∀ b, gvN S12 b ≤ gvN S22 b := by rw [eS22]; exact lh_mR
      have L5 : ∀ j, r1 = some j → j < gvN S22 5 := fun j h => Nat.lt_of_lt_of_le (L5 j h) (m23 _)
      have L_t : ∀ j, some t = some j → j < gvN S22 4 := fun j h => Nat.lt_of_lt_of_le (L_t j h) (m23 _)
      have L_p1 : ∀ j, p1 = some j → j < gvN S22 8 := fun j h => Nat.lt_of_lt_of_le (L_p1 j h) (m23 _)
      have hm : ∀ b, gvN S b ≤ gvN S22 b := lh_le_trans hm m23
      have ok := lh_W_ok hW
      refine lh_aload_n hx hb dX4_takeFromParent_57 rfl (lv_at hl 1 rfl) ?_
      refine lv_iload_n hx hb dX4_takeFromParent_58 rfl (lv_at hl 3 rfl) ?_
      obtain ⟨r24, S25, k26, hf⟩ := dc_bd_ok hf
      refine lh_call (S' := S25) (lh_rv ⟨hx, hb, hml, hown, hts⟩ rfl (As := [.int p2]) (rest := []) (k := 4) (c_X4_end l D cT n S22 ad A H.size (fun q9 h9 => hA q9 (Nat.le_trans hS.1 h9)) t p2 r24 S25 k26 L_t) (cwV 1 hts gX4_takeFromParent_X4_end rfl rfl rfl (by decide +kernel) ⟨Nat.le_of_ble_eq_true rfl, Nat.le_of_ble_eq_true rfl⟩) hK hN hW (L_t _ rfl) rfl rfl rfl hl.1 rfl (by simp [lh_cat_r, lh_cat_i, lh_cat_j]) dX4_takeFromParent_59 ⟨Nat.le_of_ble_eq_true rfl, Nat.le_of_ble_eq_true rfl⟩) hS (fun H locs hX hW hS => ?_)
      refine W.widen (k := 0) (n := 0) (by omega) (by omega) ?_
      show W _ _ _ _ _ _ _ _ _ _ _ _ _ _ _ (F0 m 62 ls [.int r24])
      have m27 : ∀ b, gvN S22 b ≤ gvN S25 b := hX.1
      have L5 : ∀ j, r1 = some j → j < gvN S25 5 := fun j h => Nat.lt_of_lt_of_le (L5 j h) (m27 _)
      have L_t : ∀ j, some t = some j → j < gvN S25 4 := fun j h => Nat.lt_of_lt_of_le (L_t j h) (m27 _)
      have L_p1 : ∀ j, p1 = some j → j < gvN S25 8 := fun j h => Nat.lt_of_lt_of_le (L_p1 j h) (m27 _)
      have hm : ∀ b, gvN S b ≤ gvN S25 b := lh_le_trans hm m27
      have ok := lh_W_ok hW
      obtain ⟨rfl, rfl⟩ := dc_ret hf
      exact W.iret (v := r24) hx hb hr (fun t9 ht9 hW9 => ⟨⟨rfl, ⟨hm, trivial⟩, by rw [ht9]; exact hW⟩, hS.F ht9⟩) hS.2.2 dX4_takeFromParent_62
    · replace hf := dc_if_f c16 hf
      refine lh_aload_n hx hb dX4_takeFromParent_35 rfl (lv_at hl 1 rfl) ?_
      refine lv_iconst (v := 3) hx hb dX4_takeFromParent_36 (by decide) ?_
      obtain ⟨r28, S29, k30, hf⟩ := dc_bd_ok hf
      refine lh_call (S' := S29) (lh_rsn ⟨hx, hb, hml, hown, hts⟩ (As := [.int (3 : Int32)]) (rest := [lh_r ad 4 (some t)]) (c_X9_failed l D cT n S12 ad A H.size (fun q9 h9 => hA q9 (Nat.le_trans hS.1 h9)) (3 : Int32) r28 S29 k30 ) ⟨va_cnB 1 hts gX4_takeFromParent_X9_failed_n81 rfl rfl rfl hN.2.2.1 (hts (.initialized RX9) (List.mem_cons_of_mem _ (List.mem_append_left _ (List.mem_append_left _ (List.mem_append_left _ (List.mem_append_left _ (List.mem_append_right _ (List.mem_of_getElem? (i := 6) rfl)))))))) (by decide +kernel) ⟨Nat.le_of_ble_eq_true rfl, Nat.le_of_ble_eq_true rfl⟩, (hts (.static yX9_failed) (List.mem_cons_of_mem _ (List.mem_append_left _ (List.mem_append_left _ (List.mem_append_left _ (List.mem_append_left _ (List.mem_append_right _ (List.mem_of_getElem? (i := 5) rfl)))))))), trivial⟩ hK hN hW rfl hl.1 rfl (by simp [lh_cat_r, lh_cat_i, lh_cat_j]) dX4_takeFromParent_37 ⟨Nat.le_of_ble_eq_true rfl, Nat.le_of_ble_eq_true rfl⟩) hS (fun H locs hX hW hS => ?_)
      refine W.widen (k := 0) (n := 0) (by omega) (by omega) ?_
      show W _ _ _ _ _ _ _ _ _ _ _ _ _ _ _ (F0 m 40 ls [.int r28, lh_r ad 4 (some t)])
      have m31 : ∀ b, gvN S12 b ≤ gvN S29 b := hX.1
      have L5 : ∀ j, r1 = some j → j < gvN S29 5 := fun j h => Nat.lt_of_lt_of_le (L5 j h) (m31 _)
      have L_t : ∀ j, some t = some j → j < gvN S29 4 := fun j h => Nat.lt_of_lt_of_le (L_t j h) (m31 _)
      have L_p1 : ∀ j, p1 = some j → j < gvN S29 8 := fun j h => Nat.lt_of_lt_of_le (L_p1 j h) (m31 _)
      have hm : ∀ b, gvN S b ≤ gvN S29 b := lh_le_trans hm m31
      have ok := lh_W_ok hW
      obtain ⟨r32, S33, k34, hf⟩ := dc_bd_ok hf
      refine lh_call (S' := S33) (lh_rv ⟨hx, hb, hml, hown, hts⟩ rfl (As := [.int r28]) (rest := []) (k := 4) (c_X4_end l D cT n S29 ad A H.size (fun q9 h9 => hA q9 (Nat.le_trans hS.1 h9)) t r28 r32 S33 k34 L_t) (cwV 1 hts gX4_takeFromParent_X4_end rfl rfl rfl (by decide +kernel) ⟨Nat.le_of_ble_eq_true rfl, Nat.le_of_ble_eq_true rfl⟩) hK hN hW (L_t _ rfl) rfl rfl rfl hl.1 rfl (by simp [lh_cat_r, lh_cat_i, lh_cat_j]) dX4_takeFromParent_40 ⟨Nat.le_of_ble_eq_true rfl, Nat.le_of_ble_eq_true rfl⟩) hS (fun H locs hX hW hS => ?_)
      refine W.widen (k := 0) (n := 0) (by omega) (by omega) ?_
      show W _ _ _ _ _ _ _ _ _ _ _ _ _ _ _ (F0 m 43 ls [.int r32])
      have m35 : ∀ b, gvN S29 b ≤ gvN S33 b := hX.1
      have L5 : ∀ j, r1 = some j → j < gvN S33 5 := fun j h => Nat.lt_of_lt_of_le (L5 j h) (m35 _)
      have L_t : ∀ j, some t = some j → j < gvN S33 4 := fun j h => Nat.lt_of_lt_of_le (L_t j h) (m35 _)
      have L_p1 : ∀ j, p1 = some j → j < gvN S33 8 := fun j h => Nat.lt_of_lt_of_le (L_p1 j h) (m35 _)
      have hm : ∀ b, gvN S b ≤ gvN S33 b := lh_le_trans hm m35
      have ok := lh_W_ok hW
      obtain ⟨rfl, rfl⟩ := dc_ret hf
      exact W.iret (v := r32) hx hb hr (fun t9 ht9 hW9 => ⟨⟨rfl, ⟨hm, trivial⟩, by rw [ht9]; exact hW⟩, hS.F ht9⟩) hS.2.2 dX4_takeFromParent_43
  · replace hf := dc_if_t c6 hf
    refine lh_aload_n hx hb dX4_takeFromParent_10 rfl (lv_at hl 1 rfl) ?_
    refine lv_iload_n hx hb dX4_takeFromParent_11 rfl (lv_at hl 3 rfl) ?_
    obtain ⟨r36, S37, k38, hf⟩ := dc_bd_ok hf
    refine lh_call (S' := S37) (lh_rv ⟨hx, hb, hml, hown, hts⟩ rfl (As := [.int p2]) (rest := []) (k := 4) (c_X4_end l D cT n S2 ad A H.size (fun q9 h9 => hA q9 (Nat.le_trans hS.1 h9)) t p2 r36 S37 k38 L_t) (cwV 1 hts gX4_takeFromParent_X4_end rfl rfl rfl (by decide +kernel) ⟨Nat.le_of_ble_eq_true rfl, Nat.le_of_ble_eq_true rfl⟩) hK hN hW (L_t _ rfl) rfl rfl rfl hl.1 rfl (by simp [lh_cat_r, lh_cat_i, lh_cat_j]) dX4_takeFromParent_12 ⟨Nat.le_of_ble_eq_true rfl, Nat.le_of_ble_eq_true rfl⟩) hS (fun H locs hX hW hS => ?_)
    refine W.widen (k := 0) (n := 0) (by omega) (by omega) ?_
    show W _ _ _ _ _ _ _ _ _ _ _ _ _ _ _ (F0 m 15 ls [.int r36])
    have m39 : ∀ b, gvN S2 b ≤ gvN S37 b := hX.1
    have L5 : ∀ j, r1 = some j → j < gvN S37 5 := fun j h => Nat.lt_of_lt_of_le (L5 j h) (m39 _)
    have L_t : ∀ j, some t = some j → j < gvN S37 4 := fun j h => Nat.lt_of_lt_of_le (L_t j h) (m39 _)
    have L_p1 : ∀ j, p1 = some j → j < gvN S37 8 := fun j h => Nat.lt_of_lt_of_le (L_p1 j h) (m39 _)
    have hm : ∀ b, gvN S b ≤ gvN S37 b := lh_le_trans hm m39
    have ok := lh_W_ok hW
    obtain ⟨rfl, rfl⟩ := dc_ret hf
    exact W.iret (v := r36) hx hb hr (fun t9 ht9 hW9 => ⟨⟨rfl, ⟨hm, trivial⟩, by rw [ht9]; exact hW⟩, hS.F ht9⟩) hS.2.2 dX4_takeFromParent_15
def f_X4_takeFromFirstParent (n : Nat) (S : lh_S) (t : Nat) (p1 : Option Nat) (p2 : Int32) : Option (Int32 × lh_S) :=
  dc_bd (f_X9_failed n S (1 : Int32)) fun r1 S2 =>
  dc_if (p2 = r1) (
  dc_nn p1 fun x6 =>
  dc_let (pvI S2 8 x6 3 (4 : Int32)) fun S7 =>
  some ((-1 : Int32), S7)) (
  dc_bd (f_X4_takeFromParent n S2 t p1 p2) fun r9 S10 =>
  some (r9, S10))
set_option maxHeartbeats 1000000 in
theorem m_X4_takeFromFirstParent {n : Nat} {S : lh_S} {t : Nat} {p1 : Option Nat} {p2 : Int32} {r : Int32} {S' : lh_S} (hf : f_X4_takeFromFirstParent n S t p1 p2 = some (r, S')) : ∀ b, gvN S b ≤ gvN S' b := by
  have hm : ∀ b, gvN S b ≤ gvN S b := fun _ => Nat.le_refl _
  unfold f_X4_takeFromFirstParent at hf
  obtain ⟨r1, S2, k3, hf⟩ := dc_bd_ok hf
  have hm := lh_le_trans hm (show ∀ b, gvN S b ≤ gvN S2 b from m_X9_failed k3)
  by_cases c5 : p2 = r1
  · replace hf := dc_if_t c5 hf
    obtain ⟨x6, hx6, hf⟩ := dc_nn_ok hf
    obtain ⟨S7, eS7, hf⟩ := dc_let_ok hf
    have hm := lh_le_trans hm (show ∀ b, gvN S2 b ≤ gvN S7 b from by rw [eS7]; exact lh_mI)
    obtain ⟨_, rfl⟩ := dc_ret hf
    exact hm
  · replace hf := dc_if_f c5 hf
    obtain ⟨r9, S10, k11, hf⟩ := dc_bd_ok hf
    have hm := lh_le_trans hm (show ∀ b, gvN S2 b ≤ gvN S10 b from m_X4_takeFromParent k11)
    obtain ⟨_, rfl⟩ := dc_ret hf
    exact hm
set_option maxHeartbeats 1000000 in
theorem k_X4_takeFromFirstParent {n : Nat} {S : lh_S} {t : Nat} {p1 : Option Nat} {p2 : Int32} {r : Int32} {S' : lh_S} (hf : f_X4_takeFromFirstParent n S t p1 p2 = some (r, S')) : lh_sm9 S S' := by
  have hm : lh_sm9 S S := lh_sm9_rf
  unfold f_X4_takeFromFirstParent at hf
  obtain ⟨r1, S2, k3, hf⟩ := dc_bd_ok hf
  have hm := lh_sm9_trans hm (show lh_sm9 S S2 from k_X9_failed k3)
  by_cases c5 : p2 = r1
  · replace hf := dc_if_t c5 hf
    obtain ⟨x6, hx6, hf⟩ := dc_nn_ok hf
    obtain ⟨S7, eS7, hf⟩ := dc_let_ok hf
    have hm := lh_sm9_trans hm (show lh_sm9 S2 S7 from by rw [eS7]; exact (lh_sm9I (by decide)))
    obtain ⟨_, rfl⟩ := dc_ret hf
    exact hm
  · replace hf := dc_if_f c5 hf
    obtain ⟨r9, S10, k11, hf⟩ := dc_bd_ok hf
    have hm := lh_sm9_trans hm (show lh_sm9 S2 S10 from k_X4_takeFromParent k11)
    obtain ⟨_, rfl⟩ := dc_ret hf
    exact hm
set_option maxHeartbeats 4000000 in
set_option maxRecDepth 100000 in
theorem c_X4_takeFromFirstParent (l : Launch) (D : va_G) (cT : Nat → ClassId) (n : Nat) (S : lh_S) (ad : Nat → Nat → Nat) (A : Nat → Prop) (sz : Nat) (hA : ∀ q, sz ≤ q → A q) (t : Nat) (p1 : Option Nat) (p2 : Int32) (r : Int32) (S' : lh_S) (hf : f_X4_takeFromFirstParent n S t p1 p2 = some (r, S')) (L_t : ∀ j, some t = some j → j < gvN S 4) (L_p1 : ∀ j, p1 = some j → j < gvN S 8) : Met l yX4_takeFromFirstParent wsX4_takeFromFirstParent ({ frames := 3, cells := 0, slots := 0, locals := 71 } : Room) (lh_P D cT S ad A sz [lh_r ad 4 (some t), lh_r ad 8 p1, .int p2]) (lh_Q D cT S' ad A ((∀ b, gvN S b ≤ gvN S' b) ∧ True) (some (.int r))) 0 0 A := by
  refine Met.ofW (cc := cX4_takeFromFirstParent) (maxL := 3) (ret := (some .int)) (by decide) rfl ?_
  intro p e s m args below meth c s₁ B hml hv
  obtain ⟨hargs, hsz, hW, hK, hN⟩ := hv
  have hx := B.exec
  have hb := B.bytes
  have hr := B.returns
  have hts := atoms_spec (ws := wsX4_takeFromFirstParent) B.pre
  have hown : s.vm.findClass RX4 = some m.cls := findClass_of_methodNamed B.named
  have hlocks := B.notSynchronized
  have hA : ∀ q, s.heap.size ≤ q → A q := fun q h => hA q (by rw [← hsz]; exact h)
  have ok := lh_W_ok hW
  have hm : ∀ b, gvN S b ≤ gvN S b := fun _ => Nat.le_refl _
  obtain ⟨ls, hent, hl⟩ := lh_entry m args [lh_r ad 4 (some t), lh_r ad 8 p1, .int p2] 3 [(0, lh_r ad 4 (some t)), (1, lh_r ad 8 p1), (2, .int p2)] hargs (by simp [lv_args, lh_cat_r, lh_cat_i, lh_cat_j]) (by simp [lg_sl, lh_cat_r, lh_cat_i, lh_cat_j])
  rw [hent]
  generalize hH : s.heap = H at hW ⊢
  have hS : va_S A s.heap H [] := by rw [← hH]; exact va_S.rf
  unfold f_X4_takeFromFirstParent at hf
  refine lv_iload_n hx hb dX4_takeFromFirstParent_0 rfl (lv_at hl 2 rfl) ?_
  refine lv_iconst (v := 1) hx hb dX4_takeFromFirstParent_1 (by decide) ?_
  obtain ⟨r1, S2, k3, hf⟩ := dc_bd_ok hf
  refine lh_call (S' := S2) (lh_rsn ⟨hx, hb, hml, hown, hts⟩ (As := [.int (1 : Int32)]) (rest := [.int p2]) (c_X9_failed l D cT n S ad A H.size (fun q9 h9 => hA q9 (Nat.le_trans hS.1 h9)) (1 : Int32) r1 S2 k3 ) ⟨va_cnB 1 hts gX4_takeFromFirstParent_X9_failed_n81 rfl rfl rfl hN.2.2.1 (hts (.initialized RX9) (List.mem_cons_of_mem _ (List.mem_append_left _ (List.mem_append_left _ (List.mem_append_left _ (List.mem_append_left _ (List.mem_append_left _ (List.mem_of_getElem? (i := 2) rfl)))))))) (by decide +kernel) ⟨Nat.le_of_ble_eq_true rfl, Nat.le_of_ble_eq_true rfl⟩, (hts (.static yX9_failed) (List.mem_cons_of_mem _ (List.mem_append_left _ (List.mem_append_left _ (List.mem_append_left _ (List.mem_append_left _ (List.mem_append_left _ (List.mem_of_getElem? (i := 1) rfl)))))))), trivial⟩ hK hN hW rfl hl.1 rfl (by simp [lh_cat_r, lh_cat_i, lh_cat_j]) dX4_takeFromFirstParent_2 ⟨Nat.le_of_ble_eq_true rfl, Nat.le_of_ble_eq_true rfl⟩) hS (fun H locs hX hW hS => ?_)
  refine W.widen (k := 0) (n := 0) (by omega) (by omega) ?_
  show W _ _ _ _ _ _ _ _ _ _ _ _ _ _ _ (F0 m 5 ls [.int r1, .int p2])
  have m4 : ∀ b, gvN S b ≤ gvN S2 b := hX.1
  have L_t : ∀ j, some t = some j → j < gvN S2 4 := fun j h => Nat.lt_of_lt_of_le (L_t j h) (m4 _)
  have L_p1 : ∀ j, p1 = some j → j < gvN S2 8 := fun j h => Nat.lt_of_lt_of_le (L_p1 j h) (m4 _)
  have hm : ∀ b, gvN S b ≤ gvN S2 b := lh_le_trans hm m4
  have ok := lh_W_ok hW
  refine lv_icmp_eq (tgt := 15) hx hb dX4_takeFromFirstParent_5 (by decide) (fun c5 => ?_) (fun c5 => ?_)
  · replace hf := dc_if_t c5 hf
    refine lh_aload_n hx hb dX4_takeFromFirstParent_15 rfl (lv_at hl 1 rfl) ?_
    refine lv_iconst (v := 4) hx hb dX4_takeFromFirstParent_16 (by decide) ?_
    obtain ⟨x6, hx6, hf⟩ := dc_nn_ok hf
    obtain ⟨S7, eS7, hf⟩ := dc_let_ok hf
    refine lh_put (S' := S7) (a := 8) (k := 3) (N := 4) (C := RX8) (T := TX8) (own := RX4) (ref := "LoaderModels$Step") (ty := .int) hx hb hts (fun _ h => (List.mem_cons_of_mem _ (List.mem_append_left _ (List.mem_append_left _ (List.mem_append_left _ (List.mem_append_right _ h)))))) tyX8 tyX8_ok nmX8 hown hK hW hS hx6 (L_p1 _ hx6) rfl rfl rfl (by decide) (hts (.fieldLink RX4 55 "LoaderModels$Step" "stage" "I") (List.mem_cons_of_mem _ (List.mem_append_left _ (List.mem_append_left _ (List.mem_append_left _ (List.mem_append_left _ (List.mem_append_left _ (List.mem_of_getElem? (i := 0) rfl)))))))) (fun _ h9 => h9) (Or.inl rfl) (by decide +kernel) rfl rfl (fun q9 => by rw [eS7]; exact lh_chI rfl q9) dX4_takeFromFirstParent_17 (fun H locs hW hS => ?_)
    have m8 : ∀ b, gvN S2 b ≤ gvN S7 b := by rw [eS7]; exact lh_mI
    have L_t : ∀ j, some t = some j → j < gvN S7 4 := fun j h => Nat.lt_of_lt_of_le (L_t j h) (m8 _)
    have L_p1 : ∀ j, p1 = some j → j < gvN S7 8 := fun j h => Nat.lt_of_lt_of_le (L_p1 j h) (m8 _)
    have hm : ∀ b, gvN S b ≤ gvN S7 b := lh_le_trans hm m8
    have ok := lh_W_ok hW
    refine lv_iconst (v := -1) hx hb dX4_takeFromFirstParent_20 (by decide) ?_
    obtain ⟨rfl, rfl⟩ := dc_ret hf
    exact W.iret (v := (-1 : Int32)) hx hb hr (fun t9 ht9 hW9 => ⟨⟨rfl, ⟨hm, trivial⟩, by rw [ht9]; exact hW⟩, hS.F ht9⟩) hS.2.2 dX4_takeFromFirstParent_21
  · replace hf := dc_if_f c5 hf
    refine lh_aload_n hx hb dX4_takeFromFirstParent_8 rfl (lv_at hl 0 rfl) ?_
    refine lh_aload_n hx hb dX4_takeFromFirstParent_9 rfl (lv_at hl 1 rfl) ?_
    refine lv_iload_n hx hb dX4_takeFromFirstParent_10 rfl (lv_at hl 2 rfl) ?_
    obtain ⟨r9, S10, k11, hf⟩ := dc_bd_ok hf
    refine lh_call (S' := S10) (lh_rv ⟨hx, hb, hml, hown, hts⟩ rfl (As := [lh_r ad 8 p1, .int p2]) (rest := []) (k := 4) (c_X4_takeFromParent l D cT n S2 ad A H.size (fun q9 h9 => hA q9 (Nat.le_trans hS.1 h9)) t p1 p2 r9 S10 k11 L_t L_p1) (cwV 2 hts gX4_takeFromFirstParent_X4_takeFromParent rfl rfl rfl (by decide +kernel) ⟨Nat.le_of_ble_eq_true rfl, Nat.le_of_ble_eq_true rfl⟩) hK hN hW (L_t _ rfl) rfl rfl rfl hl.1 rfl (by simp [lh_cat_r, lh_cat_i, lh_cat_j]) dX4_takeFromFirstParent_11 ⟨Nat.le_of_ble_eq_true rfl, Nat.le_of_ble_eq_true rfl⟩) hS (fun H locs hX hW hS => ?_)
    refine W.widen (k := 0) (n := 0) (by omega) (by omega) ?_
    show W _ _ _ _ _ _ _ _ _ _ _ _ _ _ _ (F0 m 14 ls [.int r9])
    have m12 : ∀ b, gvN S2 b ≤ gvN S10 b := hX.1
    have L_t : ∀ j, some t = some j → j < gvN S10 4 := fun j h => Nat.lt_of_lt_of_le (L_t j h) (m12 _)
    have L_p1 : ∀ j, p1 = some j → j < gvN S10 8 := fun j h => Nat.lt_of_lt_of_le (L_p1 j h) (m12 _)
    have hm : ∀ b, gvN S b ≤ gvN S10 b := lh_le_trans hm m12
    have ok := lh_W_ok hW
    obtain ⟨rfl, rfl⟩ := dc_ret hf
    exact W.iret (v := r9) hx hb hr (fun t9 ht9 hW9 => ⟨⟨rfl, ⟨hm, trivial⟩, by rw [ht9]; exact hW⟩, hS.F ht9⟩) hS.2.2 dX4_takeFromFirstParent_14
