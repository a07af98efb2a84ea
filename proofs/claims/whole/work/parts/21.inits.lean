def f_X0_init (n : Nat) (S : lh_S) (t : Nat) (p1 : Int32) (p2 : Int32) (p3 : Int32) : Option (Unit × lh_S) :=
  dc_let (pvI S 0 t 0 p1) fun S1 =>
  dc_let (pvJ S1 0 t 1 p2.toInt64) fun S3 =>
  dc_let (pvJ S3 0 t 2 p3.toInt64) fun S5 =>
  some ((), S5)
set_option maxHeartbeats 1000000 in
theorem m_X0_init {n : Nat} {S : lh_S} {t : Nat} {p1 : Int32} {p2 : Int32} {p3 : Int32} {r : Unit} {S' : lh_S} (hf : f_X0_init n S t p1 p2 p3 = some (r, S')) : ∀ b, gvN S b ≤ gvN S' b := by
  have hm : ∀ b, gvN S b ≤ gvN S b := fun _ => Nat.le_refl _
  unfold f_X0_init at hf
  obtain ⟨S1, eS1, hf⟩ := dc_let_ok hf
  have hm := lh_le_trans hm (show ∀ b, gvN S b ≤ gvN S1 b from by rw [eS1]; exact lh_mI)
  obtain ⟨S3, eS3, hf⟩ := dc_let_ok hf
  have hm := lh_le_trans hm (show ∀ b, gvN S1 b ≤ gvN S3 b from by rw [eS3]; exact lh_mJ)
  obtain ⟨S5, eS5, hf⟩ := dc_let_ok hf
  have hm := lh_le_trans hm (show ∀ b, gvN S3 b ≤ gvN S5 b from by rw [eS5]; exact lh_mJ)
  obtain ⟨_, rfl⟩ := dc_ret hf
  exact hm
set_option maxHeartbeats 1000000 in
theorem k_X0_init {n : Nat} {S : lh_S} {t : Nat} {p1 : Int32} {p2 : Int32} {p3 : Int32} {r : Unit} {S' : lh_S} (hf : f_X0_init n S t p1 p2 p3 = some (r, S')) : lh_sm9 S S' := by
  have hm : lh_sm9 S S := lh_sm9_rf
  unfold f_X0_init at hf
  obtain ⟨S1, eS1, hf⟩ := dc_let_ok hf
  have hm := lh_sm9_trans hm (show lh_sm9 S S1 from by rw [eS1]; exact (lh_sm9I (by decide)))
  obtain ⟨S3, eS3, hf⟩ := dc_let_ok hf
  have hm := lh_sm9_trans hm (show lh_sm9 S1 S3 from by rw [eS3]; exact (lh_sm9J (by decide)))
  obtain ⟨S5, eS5, hf⟩ := dc_let_ok hf
  have hm := lh_sm9_trans hm (show lh_sm9 S3 S5 from by rw [eS5]; exact (lh_sm9J (by decide)))
  obtain ⟨_, rfl⟩ := dc_ret hf
  exact hm
set_option maxHeartbeats 4000000 in
set_option maxRecDepth 100000 in
theorem c_X0_init (l : Launch) (D : va_G) (cT : Nat → ClassId) (n : Nat) (S : lh_S) (ad : Nat → Nat → Nat) (A : Nat → Prop) (sz : Nat) (hA : ∀ q, sz ≤ q → A q) (t : Nat) (p1 : Int32) (p2 : Int32) (p3 : Int32) (r : Unit) (S' : lh_S) (hf : f_X0_init n S t p1 p2 p3 = some (r, S')) (L_t : ∀ j, some t = some j → j < gvN S 0) : Met l yX0_init wsX0_init ({ frames := 1, cells := 0, slots := 0, locals := 20 } : Room) (lh_P D cT S ad A sz [lh_r ad 0 (some t), .int p1, .int p2, .int p3]) (lh_Q D cT S' ad A ((∀ b, gvN S b ≤ gvN S' b) ∧ True) (none)) 0 0 A := by
  refine Met.ofW (cc := cX0_init) (maxL := 4) (ret := none) (by decide) rfl ?_
  intro p e s m args below meth c s₁ B hml hv
  obtain ⟨hargs, hsz, hW, hK, hN⟩ := hv
  have hx := B.exec
  have hb := B.bytes
  have hr := B.returns
  have hts := atoms_spec (ws := wsX0_init) B.pre
  have hown : s.vm.findClass RX0 = some m.cls := findClass_of_methodNamed B.named
  have hlocks := B.notSynchronized
  have hin : meth.name = "<init>" := (name_of_methodNamed B.named B.method).1
  have hA : ∀ q, s.heap.size ≤ q → A q := fun q h => hA q (by rw [← hsz]; exact h)
  have ok := lh_W_ok hW
  have hm : ∀ b, gvN S b ≤ gvN S b := fun _ => Nat.le_refl _
  obtain ⟨ls, hent, hl⟩ := lh_entry m args [lh_r ad 0 (some t), .int p1, .int p2, .int p3] 4 [(0, lh_r ad 0 (some t)), (1, .int p1), (2, .int p2), (3, .int p3)] hargs (by simp [lv_args, lh_cat_r, lh_cat_i, lh_cat_j]) (by simp [lg_sl, lh_cat_r, lh_cat_i, lh_cat_j])
  rw [hent]
  generalize hH : s.heap = H at hW ⊢
  have hS : va_S A s.heap H [] := by rw [← hH]; exact va_S.rf
  unfold f_X0_init at hf
  refine lh_aload_n hx hb dX0_init_0 rfl (lv_at hl 0 rfl) ?_
  refine W.objInit hx hb hown (hts (.methodLink RX0 1 objectInit) (List.mem_cons_of_mem _ (List.mem_append_left _ (List.mem_of_getElem? (i := 0) rfl)))) (hts (.instanceMethod objectInit) (List.mem_cons_of_mem _ (List.mem_append_left _ (List.mem_of_getElem? (i := 1) rfl)))) (hts (.code objectInit ⟨#[0xb1]⟩ 1 none) (List.mem_cons_of_mem _ (List.mem_append_left _ (List.mem_of_getElem? (i := 2) rfl)))) rfl (by rw [hml]; exact hl.1) rfl dX0_init_1 (Nat.le_of_ble_eq_true rfl) (Nat.le_of_ble_eq_true rfl) ?_
  refine W.eq (g2 := F0 m 4 ls []) rfl ?_
  refine lh_aload_n hx hb dX0_init_4 rfl (lv_at hl 0 rfl) ?_
  refine lv_iload_n hx hb dX0_init_5 rfl (lv_at hl 1 rfl) ?_
  obtain ⟨S1, eS1, hf⟩ := dc_let_ok hf
  refine lh_put (S' := S1) (a := 0) (k := 0) (N := 3) (C := RX0) (T := TX0) (own := RX0) (ref := "LoaderModels$Body") (ty := .int) hx hb hts (fun _ h => (List.mem_cons_of_mem _ (List.mem_append_right _ h))) tyX0 tyX0_ok nmX0 hown hK hW hS rfl (L_t _ rfl) rfl rfl rfl (by decide) (hts (.fieldLink RX0 7 "LoaderModels$Body" "kind" "I") (List.mem_cons_of_mem _ (List.mem_append_left _ (List.mem_of_getElem? (i := 3) rfl)))) (fun _ h9 => h9) (Or.inr ⟨rfl, hin, rfl⟩) (by decide +kernel) rfl rfl (fun q9 => by rw [eS1]; exact lh_chI rfl q9) dX0_init_6 (fun H locs hW hS => ?_)
  have m2 : ∀ b, gvN S b ≤ gvN S1 b := by rw [eS1]; exact lh_mI
  have L_t : ∀ j, some t = some j → j < gvN S1 0 := fun j h => Nat.lt_of_lt_of_le (L_t j h) (m2 _)
  have hm : ∀ b, gvN S b ≤ gvN S1 b := lh_le_trans hm m2
  have ok := lh_W_ok hW
  refine lh_aload_n hx hb dX0_init_9 rfl (lv_at hl 0 rfl) ?_
  refine lv_iload_n hx hb dX0_init_10 rfl (lv_at hl 2 rfl) ?_
  refine lv_i2l (v := p2.toInt64) hx hb dX0_init_11 rfl ?_
  obtain ⟨S3, eS3, hf⟩ := dc_let_ok hf
  refine lh_put (S' := S3) (a := 0) (k := 1) (N := 3) (C := RX0) (T := TX0) (own := RX0) (ref := "LoaderModels$Body") (ty := .long) hx hb hts (fun _ h => (List.mem_cons_of_mem _ (List.mem_append_right _ h))) tyX0 tyX0_ok nmX0 hown hK hW hS rfl (L_t _ rfl) rfl rfl rfl (by decide) (hts (.fieldLink RX0 13 "LoaderModels$Body" "a" "J") (List.mem_cons_of_mem _ (List.mem_append_left _ (List.mem_of_getElem? (i := 4) rfl)))) (fun _ h9 => h9) (Or.inr ⟨rfl, hin, rfl⟩) (by decide +kernel) rfl rfl (fun q9 => by rw [eS3]; exact lh_chJ rfl q9) dX0_init_12 (fun H locs hW hS => ?_)
  have m4 : ∀ b, gvN S1 b ≤ gvN S3 b := by rw [eS3]; exact lh_mJ
  have L_t : ∀ j, some t = some j → j < gvN S3 0 := fun j h => Nat.lt_of_lt_of_le (L_t j h) (m4 _)
  have hm : ∀ b, gvN S b ≤ gvN S3 b := lh_le_trans hm m4
  have ok := lh_W_ok hW
  refine lh_aload_n hx hb dX0_init_15 rfl (lv_at hl 0 rfl) ?_
  refine lv_iload_n hx hb dX0_init_16 rfl (lv_at hl 3 rfl) ?_
  refine lv_i2l (v := p3.toInt64) hx hb dX0_init_17 rfl ?_
  obtain ⟨S5, eS5, hf⟩ := dc_let_ok hf
  refine lh_put (S' := S5) (a := 0) (k := 2) (N := 3) (C := RX0) (T := TX0) (own := RX0) (ref := "LoaderModels$Body") (ty := .long) hx hb hts (fun _ h => (List.mem_cons_of_mem _ (List.mem_append_right _ h))) tyX0 tyX0_ok nmX0 hown hK hW hS rfl (L_t _ rfl) rfl rfl rfl (by decide) (hts (.fieldLink RX0 17 "LoaderModels$Body" "b" "J") (List.mem_cons_of_mem _ (List.mem_append_left _ (List.mem_of_getElem? (i := 5) rfl)))) (fun _ h9 => h9) (Or.inr ⟨rfl, hin, rfl⟩) (by decide +kernel) rfl rfl (fun q9 => by rw [eS5]; exact lh_chJ rfl q9) dX0_init_18 (fun H locs hW hS => ?_)
  have m6 : ∀ b, gvN S3 b ≤ gvN S5 b := by rw [eS5]; exact lh_mJ
  have L_t : ∀ j, some t = some j → j < gvN S5 0 := fun j h => Nat.lt_of_lt_of_le (L_t j h) (m6 _)
  have hm : ∀ b, gvN S b ≤ gvN S5 b := lh_le_trans hm m6
  have ok := lh_W_ok hW
  obtain ⟨rfl, rfl⟩ := dc_ret hf
  exact W.vret hx hb hr (fun t9 ht9 hW9 => ⟨⟨rfl, ⟨hm, trivial⟩, by rw [ht9]; exact hW⟩, hS.F ht9⟩) hS.2.2 dX0_init_21
def f_X8_init (n : Nat) (S : lh_S) (t : Nat) : Option (Unit × lh_S) :=
  some ((), S)
set_option maxHeartbeats 1000000 in
theorem m_X8_init {n : Nat} {S : lh_S} {t : Nat} {r : Unit} {S' : lh_S} (hf : f_X8_init n S t = some (r, S')) : ∀ b, gvN S b ≤ gvN S' b := by
  have hm : ∀ b, gvN S b ≤ gvN S b := fun _ => Nat.le_refl _
  unfold f_X8_init at hf
  obtain ⟨_, rfl⟩ := dc_ret hf
  exact hm
set_option maxHeartbeats 1000000 in
theorem k_X8_init {n : Nat} {S : lh_S} {t : Nat} {r : Unit} {S' : lh_S} (hf : f_X8_init n S t = some (r, S')) : lh_sm9 S S' := by
  have hm : lh_sm9 S S := lh_sm9_rf
  unfold f_X8_init at hf
  obtain ⟨_, rfl⟩ := dc_ret hf
  exact hm
set_option maxHeartbeats 4000000 in
set_option maxRecDepth 100000 in
theorem c_X8_init (l : Launch) (D : va_G) (cT : Nat → ClassId) (n : Nat) (S : lh_S) (ad : Nat → Nat → Nat) (A : Nat → Prop) (sz : Nat) (hA : ∀ q, sz ≤ q → A q) (t : Nat) (r : Unit) (S' : lh_S) (hf : f_X8_init n S t = some (r, S')) (L_t : ∀ j, some t = some j → j < gvN S 8) : Met l yX8_init wsX8_init ({ frames := 1, cells := 0, slots := 0, locals := 20 } : Room) (lh_P D cT S ad A sz [lh_r ad 8 (some t)]) (lh_Q D cT S' ad A ((∀ b, gvN S b ≤ gvN S' b) ∧ True) (none)) 0 0 A := by
  refine Met.ofW (cc := cX8_init) (maxL := 1) (ret := none) (by decide) rfl ?_
  intro p e s m args below meth c s₁ B hml hv
  obtain ⟨hargs, hsz, hW, hK, hN⟩ := hv
  have hx := B.exec
  have hb := B.bytes
  have hr := B.returns
  have hts := atoms_spec (ws := wsX8_init) B.pre
  have hown : s.vm.findClass RX8 = some m.cls := findClass_of_methodNamed B.named
  have hlocks := B.notSynchronized
  have hin : meth.name = "<init>" := (name_of_methodNamed B.named B.method).1
  have hA : ∀ q, s.heap.size ≤ q → A q := fun q h => hA q (by rw [← hsz]; exact h)
  have ok := lh_W_ok hW
  have hm : ∀ b, gvN S b ≤ gvN S b := fun _ => Nat.le_refl _
  obtain ⟨ls, hent, hl⟩ := lh_entry m args [lh_r ad 8 (some t)] 1 [(0, lh_r ad 8 (some t))] hargs (by simp [lv_args, lh_cat_r, lh_cat_i, lh_cat_j]) (by simp [lg_sl, lh_cat_r, lh_cat_i, lh_cat_j])
  rw [hent]
  generalize hH : s.heap = H at hW ⊢
  have hS : va_S A s.heap H [] := by rw [← hH]; exact va_S.rf
  unfold f_X8_init at hf
  refine lh_aload_n hx hb dX8_init_0 rfl (lv_at hl 0 rfl) ?_
  refine W.objInit hx hb hown (hts (.methodLink RX8 1 objectInit) (List.mem_cons_of_mem _ (List.mem_of_getElem? (i := 0) rfl))) (hts (.instanceMethod objectInit) (List.mem_cons_of_mem _ (List.mem_of_getElem? (i := 1) rfl))) (hts (.code objectInit ⟨#[0xb1]⟩ 1 none) (List.mem_cons_of_mem _ (List.mem_of_getElem? (i := 2) rfl))) rfl (by rw [hml]; exact hl.1) rfl dX8_init_1 (Nat.le_of_ble_eq_true rfl) (Nat.le_of_ble_eq_true rfl) ?_
  refine W.eq (g2 := F0 m 4 ls []) rfl ?_
  obtain ⟨rfl, rfl⟩ := dc_ret hf
  exact W.vret hx hb hr (fun t9 ht9 hW9 => ⟨⟨rfl, ⟨hm, trivial⟩, by rw [ht9]; exact hW⟩, hS.F ht9⟩) hS.2.2 dX8_init_4
def f_X6_init (n : Nat) (S : lh_S) (t : Nat) : Option (Unit × lh_S) :=
  dc_let (pvN S 19 30) fun S1 =>
  dc_let (pvR S1 6 t 0 (some (gvN S 19))) fun S7 =>
  some ((), S7)
set_option maxHeartbeats 1000000 in
theorem m_X6_init {n : Nat} {S : lh_S} {t : Nat} {r : Unit} {S' : lh_S} (hf : f_X6_init n S t = some (r, S')) : ∀ b, gvN S b ≤ gvN S' b := by
  have hm : ∀ b, gvN S b ≤ gvN S b := fun _ => Nat.le_refl _
  unfold f_X6_init at hf
  obtain ⟨S1, eS1, hf⟩ := dc_let_ok hf
  have hm := lh_le_trans hm (show ∀ b, gvN S b ≤ gvN S1 b from by rw [eS1]; exact lh_mN)
  obtain ⟨S7, eS7, hf⟩ := dc_let_ok hf
  have hm := lh_le_trans hm (show ∀ b, gvN S1 b ≤ gvN S7 b from by rw [eS7]; exact lh_mR)
  obtain ⟨_, rfl⟩ := dc_ret hf
  exact hm
set_option maxHeartbeats 1000000 in
theorem k_X6_init {n : Nat} {S : lh_S} {t : Nat} {r : Unit} {S' : lh_S} (hf : f_X6_init n S t = some (r, S')) : lh_sm9 S S' := by
  have hm : lh_sm9 S S := lh_sm9_rf
  unfold f_X6_init at hf
  obtain ⟨S1, eS1, hf⟩ := dc_let_ok hf
  have hm := lh_sm9_trans hm (show lh_sm9 S S1 from by rw [eS1]; exact (lh_sm9N (by decide)))
  obtain ⟨S7, eS7, hf⟩ := dc_let_ok hf
  have hm := lh_sm9_trans hm (show lh_sm9 S1 S7 from by rw [eS7]; exact (lh_sm9R (by decide)))
  obtain ⟨_, rfl⟩ := dc_ret hf
  exact hm
set_option maxHeartbeats 4000000 in
set_option maxRecDepth 100000 in
theorem c_X6_init (l : Launch) (D : va_G) (cT : Nat → ClassId) (n : Nat) (S : lh_S) (ad : Nat → Nat → Nat) (A : Nat → Prop) (sz : Nat) (hA : ∀ q, sz ≤ q → A q) (t : Nat) (r : Unit) (S' : lh_S) (hf : f_X6_init n S t = some (r, S')) (L_t : ∀ j, some t = some j → j < gvN S 6) : Met l yX6_init wsX6_init ({ frames := 1, cells := 1, slots := 30, locals := 20 } : Room) (lh_P D cT S ad A sz [lh_r ad 6 (some t)]) (lh_QA D cT S S' ad A ((∀ b, gvN S b ≤ gvN S' b) ∧ True) (fun ad9 => none)) 1 30 A := by
  refine Met.ofW (cc := cX6_init) (maxL := 1) (ret := none) (by decide) rfl ?_
  intro p e s m args below meth c s₁ B hml hv
  obtain ⟨hargs, hsz, hW, hK, hN⟩ := hv
  have hx := B.exec
  have hb := B.bytes
  have hr := B.returns
  have hts := atoms_spec (ws := wsX6_init) B.pre
  have hown : s.vm.findClass RX6 = some m.cls := findClass_of_methodNamed B.named
  have hlocks := B.notSynchronized
  have hin : meth.name = "<init>" := (name_of_methodNamed B.named B.method).1
  have hA : ∀ q, s.heap.size ≤ q → A q := fun q h => hA q (by rw [← hsz]; exact h)
  have ok := lh_W_ok hW
  have hm : ∀ b, gvN S b ≤ gvN S b := fun _ => Nat.le_refl _
  have hE : lh_E S ad ad := lh_E.rf
  obtain ⟨ls, hent, hl⟩ := lh_entry m args [lh_r ad 6 (some t)] 1 [(0, lh_r ad 6 (some t))] hargs (by simp [lv_args, lh_cat_r, lh_cat_i, lh_cat_j]) (by simp [lg_sl, lh_cat_r, lh_cat_i, lh_cat_j])
  rw [hent]
  generalize hH : s.heap = H at hW ⊢
  have hS : va_S A s.heap H [] := by rw [← hH]; exact va_S.rf
  unfold f_X6_init at hf
  refine lh_aload_n hx hb dX6_init_0 rfl (lv_at hl 0 rfl) ?_
  refine W.objInit hx hb hown (hts (.methodLink RX6 3 objectInit) (List.mem_cons_of_mem _ (List.mem_append_left _ (List.mem_of_getElem? (i := 0) rfl)))) (hts (.instanceMethod objectInit) (List.mem_cons_of_mem _ (List.mem_append_left _ (List.mem_of_getElem? (i := 1) rfl)))) (hts (.code objectInit ⟨#[0xb1]⟩ 1 none) (List.mem_cons_of_mem _ (List.mem_append_left _ (List.mem_of_getElem? (i := 2) rfl)))) rfl (by rw [hml]; exact hl.1) rfl dX6_init_1 (Nat.le_of_ble_eq_true rfl) (Nat.le_of_ble_eq_true rfl) ?_
  refine W.eq (g2 := F0 m 4 ls []) rfl ?_
  refine lh_aload_n hx hb dX6_init_4 rfl (lv_at hl 0 rfl) ?_
  refine lv_bipush (v := 30) hx hb dX6_init_5 (by decide) ?_
  obtain ⟨S1, eS1, hf⟩ := dc_let_ok hf
  refine lh_newa (ty := .int) (atype := .int) (n := (30 : Int32)) (a := 19) (t0 := 0) (N' := 30) hx hb (hts (.arrayClass .int) (List.mem_cons_of_mem _ (List.mem_append_left _ (List.mem_of_getElem? (i := 3) rfl)))) rfl hK hW hS hA rfl rfl (fun _ _ h => h) (Or.inl ⟨rfl, rfl⟩) (by decide +kernel) (by decide +kernel) (by decide +kernel) (Nat.le_of_ble_eq_true rfl) (Nat.le_of_ble_eq_true rfl) dX6_init_7 (fun ad2 H hE3 hW hS => ?_)
  rw [lh_rE hE3 L_t] at hl
  rw [lh_rE hE3 L_t]
  have hE : lh_E S ad ad2 := lh_E.trans hE hm hE3
  rw [← eS1] at hW
  have m4 : ∀ b, gvN S b ≤ gvN S1 b := by rw [eS1]; exact lh_mN
  have L_t : ∀ j, some t = some j → j < gvN S1 6 := fun j h => Nat.lt_of_lt_of_le (L_t j h) (m4 _)
  have hm : ∀ b, gvN S b ≤ gvN S1 b := lh_le_trans hm m4
  have ok := lh_W_ok hW
  have L5 : ∀ j, some (gvN S 19) = some j → j < gvN S1 19 := lh_ls (by rw [eS1]; exact lh_nN)
  obtain ⟨S7, eS7, hf⟩ := dc_let_ok hf
  refine lh_put (S' := S7) (a := 6) (k := 0) (N := 4) (C := RX6) (T := TX6) (own := RX6) (ref := "LoaderModels$Notes") (ty := .array .int) hx hb hts (fun _ h => (List.mem_cons_of_mem _ (List.mem_append_right _ h))) tyX6 tyX6_ok nmX6 hown hK hW hS rfl (L_t _ rfl) rfl rfl rfl (by decide) (hts (.fieldLink RX6 9 "LoaderModels$Notes" "ring" "[I") (List.mem_cons_of_mem _ (List.mem_append_left _ (List.mem_of_getElem? (i := 4) rfl)))) (fun _ h9 => h9) (Or.inr ⟨rfl, hin, rfl⟩) (by decide +kernel) lh_nar_a lh_fit_a (fun q9 => by rw [eS7]; exact lh_chR rfl L5 q9) dX6_init_9 (fun H locs hW hS => ?_)
  have m8 : ∀ b, gvN S1 b ≤ gvN S7 b := by rw [eS7]; exact lh_mR
  have L_t : ∀ j, some t = some j → j < gvN S7 6 := fun j h => Nat.lt_of_lt_of_le (L_t j h) (m8 _)
  have hm : ∀ b, gvN S b ≤ gvN S7 b := lh_le_trans hm m8
  have ok := lh_W_ok hW
  obtain ⟨rfl, rfl⟩ := dc_ret hf
  exact W.vret hx hb hr (fun t9 ht9 hW9 => ⟨⟨ad2, hE, rfl, ⟨hm, trivial⟩, by rw [ht9]; exact hW⟩, hS.F ht9⟩) hS.2.2 dX6_init_12
def f_X1_init (n : Nat) (S : lh_S) (t : Nat) (p1 : Int32) (p2 : Int32) (p3 : Int32) (p4 : Int32) (p5 : Int32) (p6 : Int32) : Option (Unit × lh_S) :=
  dc_let (pvN S 11 4) fun S1 =>
  dc_let (pvR S1 1 t 6 (some (gvN S 11))) fun S7 =>
  dc_let (pvI S7 1 t 0 p1) fun S9 =>
  dc_let (pvI S9 1 t 1 p2) fun S11 =>
  dc_let (pvI S11 1 t 2 p3) fun S13 =>
  dc_let (pvI S13 1 t 3 p4) fun S15 =>
  dc_let (pvI S15 1 t 4 p5) fun S17 =>
  dc_gd (¬ (p6 = 0 ∨ p6 = 1)) (
  dc_let (pvI S17 1 t 5 p6) fun S19 =>
  some ((), S19))
set_option maxHeartbeats 1000000 in
theorem m_X1_init {n : Nat} {S : lh_S} {t : Nat} {p1 : Int32} {p2 : Int32} {p3 : Int32} {p4 : Int32} {p5 : Int32} {p6 : Int32} {r : Unit} {S' : lh_S} (hf : f_X1_init n S t p1 p2 p3 p4 p5 p6 = some (r, S')) : ∀ b, gvN S b ≤ gvN S' b := by
  have hm : ∀ b, gvN S b ≤ gvN S b := fun _ => Nat.le_refl _
  unfold f_X1_init at hf
  obtain ⟨S1, eS1, hf⟩ := dc_let_ok hf
  have hm := lh_le_trans hm (show ∀ b, gvN S b ≤ gvN S1 b from by rw [eS1]; exact lh_mN)
  obtain ⟨S7, eS7, hf⟩ := dc_let_ok hf
  have hm := lh_le_trans hm (show ∀ b, gvN S1 b ≤ gvN S7 b from by rw [eS7]; exact lh_mR)
  obtain ⟨S9, eS9, hf⟩ := dc_let_ok hf
  have hm := lh_le_trans hm (show ∀ b, gvN S7 b ≤ gvN S9 b from by rw [eS9]; exact lh_mI)
  obtain ⟨S11, eS11, hf⟩ := dc_let_ok hf
  have hm := lh_le_trans hm (show ∀ b, gvN S9 b ≤ gvN S11 b from by rw [eS11]; exact lh_mI)
  obtain ⟨S13, eS13, hf⟩ := dc_let_ok hf
  have hm := lh_le_trans hm (show ∀ b, gvN S11 b ≤ gvN S13 b from by rw [eS13]; exact lh_mI)
  obtain ⟨S15, eS15, hf⟩ := dc_let_ok hf
  have hm := lh_le_trans hm (show ∀ b, gvN S13 b ≤ gvN S15 b from by rw [eS15]; exact lh_mI)
  obtain ⟨S17, eS17, hf⟩ := dc_let_ok hf
  have hm := lh_le_trans hm (show ∀ b, gvN S15 b ≤ gvN S17 b from by rw [eS17]; exact lh_mI)
  obtain ⟨g20, hf⟩ := dc_gd_ok hf
  obtain ⟨S19, eS19, hf⟩ := dc_let_ok hf
  have hm := lh_le_trans hm (show ∀ b, gvN S17 b ≤ gvN S19 b from by rw [eS19]; exact lh_mI)
  obtain ⟨_, rfl⟩ := dc_ret hf
  exact hm
set_option maxHeartbeats 1000000 in
theorem k_X1_init {n : Nat} {S : lh_S} {t : Nat} {p1 : Int32} {p2 : Int32} {p3 : Int32} {p4 : Int32} {p5 : Int32} {p6 : Int32} {r : Unit} {S' : lh_S} (hf : f_X1_init n S t p1 p2 p3 p4 p5 p6 = some (r, S')) : lh_sm9 S S' := by
  have hm : lh_sm9 S S := lh_sm9_rf
  unfold f_X1_init at hf
  obtain ⟨S1, eS1, hf⟩ := dc_let_ok hf
  have hm := lh_sm9_trans hm (show lh_sm9 S S1 from by rw [eS1]; exact (lh_sm9N (by decide)))
  obtain ⟨S7, eS7, hf⟩ := dc_let_ok hf
  have hm := lh_sm9_trans hm (show lh_sm9 S1 S7 from by rw [eS7]; exact (lh_sm9R (by decide)))
  obtain ⟨S9, eS9, hf⟩ := dc_let_ok hf
  have hm := lh_sm9_trans hm (show lh_sm9 S7 S9 from by rw [eS9]; exact (lh_sm9I (by decide)))
  obtain ⟨S11, eS11, hf⟩ := dc_let_ok hf
  have hm := lh_sm9_trans hm (show lh_sm9 S9 S11 from by rw [eS11]; exact (lh_sm9I (by decide)))
  obtain ⟨S13, eS13, hf⟩ := dc_let_ok hf
  have hm := lh_sm9_trans hm (show lh_sm9 S11 S13 from by rw [eS13]; exact (lh_sm9I (by decide)))
  obtain ⟨S15, eS15, hf⟩ := dc_let_ok hf
  have hm := lh_sm9_trans hm (show lh_sm9 S13 S15 from by rw [eS15]; exact (lh_sm9I (by decide)))
  obtain ⟨S17, eS17, hf⟩ := dc_let_ok hf
  have hm := lh_sm9_trans hm (show lh_sm9 S15 S17 from by rw [eS17]; exact (lh_sm9I (by decide)))
  obtain ⟨g20, hf⟩ := dc_gd_ok hf
  obtain ⟨S19, eS19, hf⟩ := dc_let_ok hf
  have hm := lh_sm9_trans hm (show lh_sm9 S17 S19 from by rw [eS19]; exact (lh_sm9I (by decide)))
  obtain ⟨_, rfl⟩ := dc_ret hf
  exact hm
set_option maxHeartbeats 4000000 in
set_option maxRecDepth 100000 in
theorem c_X1_init (l : Launch) (D : va_G) (cT : Nat → ClassId) (n : Nat) (S : lh_S) (ad : Nat → Nat → Nat) (A : Nat → Prop) (sz : Nat) (hA : ∀ q, sz ≤ q → A q) (t : Nat) (p1 : Int32) (p2 : Int32) (p3 : Int32) (p4 : Int32) (p5 : Int32) (p6 : Int32) (r : Unit) (S' : lh_S) (hf : f_X1_init n S t p1 p2 p3 p4 p5 p6 = some (r, S')) (L_t : ∀ j, some t = some j → j < gvN S 1) : Met l yX1_init wsX1_init ({ frames := 1, cells := 1, slots := 4, locals := 20 } : Room) (lh_P D cT S ad A sz [lh_r ad 1 (some t), .int p1, .int p2, .int p3, .int p4, .int p5, .int p6]) (lh_QA D cT S S' ad A ((∀ b, gvN S b ≤ gvN S' b) ∧ True) (fun ad9 => none)) 1 4 A := by
  refine Met.ofW (cc := cX1_init) (maxL := 7) (ret := none) (by decide) rfl ?_
  intro p e s m args below meth c s₁ B hml hv
  obtain ⟨hargs, hsz, hW, hK, hN⟩ := hv
  have hx := B.exec
  have hb := B.bytes
  have hr := B.returns
  have hts := atoms_spec (ws := wsX1_init) B.pre
  have hown : s.vm.findClass RX1 = some m.cls := findClass_of_methodNamed B.named
  have hlocks := B.notSynchronized
  have hin : meth.name = "<init>" := (name_of_methodNamed B.named B.method).1
  have hA : ∀ q, s.heap.size ≤ q → A q := fun q h => hA q (by rw [← hsz]; exact h)
  have ok := lh_W_ok hW
  have hm : ∀ b, gvN S b ≤ gvN S b := fun _ => Nat.le_refl _
  have hE : lh_E S ad ad := lh_E.rf
  obtain ⟨ls, hent, hl⟩ := lh_entry m args [lh_r ad 1 (some t), .int p1, .int p2, .int p3, .int p4, .int p5, .int p6] 7 [(0, lh_r ad 1 (some t)), (1, .int p1), (2, .int p2), (3, .int p3), (4, .int p4), (5, .int p5), (6, .int p6)] hargs (by simp [lv_args, lh_cat_r, lh_cat_i, lh_cat_j]) (by simp [lg_sl, lh_cat_r, lh_cat_i, lh_cat_j])
  rw [hent]
  generalize hH : s.heap = H at hW ⊢
  have hS : va_S A s.heap H [] := by rw [← hH]; exact va_S.rf
  unfold f_X1_init at hf
  refine lh_aload_n hx hb dX1_init_0 rfl (lv_at hl 0 rfl) ?_
  refine W.objInit hx hb hown (hts (.methodLink RX1 3 objectInit) (List.mem_cons_of_mem _ (List.mem_append_left _ (List.mem_of_getElem? (i := 0) rfl)))) (hts (.instanceMethod objectInit) (List.mem_cons_of_mem _ (List.mem_append_left _ (List.mem_of_getElem? (i := 1) rfl)))) (hts (.code objectInit ⟨#[0xb1]⟩ 1 none) (List.mem_cons_of_mem _ (List.mem_append_left _ (List.mem_of_getElem? (i := 2) rfl)))) rfl (by rw [hml]; exact hl.1) rfl dX1_init_1 (Nat.le_of_ble_eq_true rfl) (Nat.le_of_ble_eq_true rfl) ?_
  refine W.eq (g2 := F0 m 4 ls []) rfl ?_
  refine lh_aload_n hx hb dX1_init_4 rfl (lv_at hl 0 rfl) ?_
  refine lv_iconst (v := 4) hx hb dX1_init_5 (by decide) ?_
  obtain ⟨S1, eS1, hf⟩ := dc_let_ok hf
  refine lh_newq (n := (4 : Int32)) (a := 11) (t0 := 3) (t := 0) (N' := 4) (C := RX0) hx hb hown (hts (.classLink RX1 9 RX0) (List.mem_cons_of_mem _ (List.mem_append_left _ (List.mem_of_getElem? (i := 3) rfl)))) hN.2.2.2.2.1 hK hW hS hA rfl rfl rfl (by decide +kernel) (by decide +kernel) (by decide +kernel) (Nat.le_of_ble_eq_true rfl) (Nat.le_of_ble_eq_true rfl) dX1_init_6 (fun ad2 H hE3 hW hS => ?_)
  rw [lh_rE hE3 L_t] at hl
  rw [lh_rE hE3 L_t]
  have hE : lh_E S ad ad2 := lh_E.trans hE hm hE3
  rw [← eS1] at hW
  have m4 : ∀ b, gvN S b ≤ gvN S1 b := by rw [eS1]; exact lh_mN
  have L_t : ∀ j, some t = some j → j < gvN S1 1 := fun j h => Nat.lt_of_lt_of_le (L_t j h) (m4 _)
  have hm : ∀ b, gvN S b ≤ gvN S1 b := lh_le_trans hm m4
  have ok := lh_W_ok hW
  have L5 : ∀ j, some (gvN S 11) = some j → j < gvN S1 11 := lh_ls (by rw [eS1]; exact lh_nN)
  obtain ⟨S7, eS7, hf⟩ := dc_let_ok hf
  refine lh_put (S' := S7) (a := 1) (k := 6) (N := 7) (C := RX1) (T := TX1) (own := RX1) (ref := "LoaderModels$ClassFile") (ty := .array (.object "LoaderModels$Body")) hx hb hts (fun _ h => (List.mem_cons_of_mem _ (List.mem_append_right _ h))) tyX1 tyX1_ok nmX1 hown hK hW hS rfl (L_t _ rfl) rfl rfl rfl (by decide) (hts (.fieldLink RX1 11 "LoaderModels$ClassFile" "bodies" "[LLoaderModels$Body;") (List.mem_cons_of_mem _ (List.mem_append_left _ (List.mem_of_getElem? (i := 4) rfl)))) (fun _ h9 => h9) (Or.inr ⟨rfl, hin, rfl⟩) (by decide +kernel) lh_nar_a lh_fit_a (fun q9 => by rw [eS7]; exact lh_chR rfl L5 q9) dX1_init_9 (fun H locs hW hS => ?_)
  have m8 : ∀ b, gvN S1 b ≤ gvN S7 b := by rw [eS7]; exact lh_mR
  have L_t : ∀ j, some t = some j → j < gvN S7 1 := fun j h => Nat.lt_of_lt_of_le (L_t j h) (m8 _)
  have hm : ∀ b, gvN S b ≤ gvN S7 b := lh_le_trans hm m8
  have ok := lh_W_ok hW
  refine lh_aload_n hx hb dX1_init_12 rfl (lv_at hl 0 rfl) ?_
  refine lv_iload_n hx hb dX1_init_13 rfl (lv_at hl 1 rfl) ?_
  obtain ⟨S9, eS9, hf⟩ := dc_let_ok hf
  refine lh_put (S' := S9) (a := 1) (k := 0) (N := 7) (C := RX1) (T := TX1) (own := RX1) (ref := "LoaderModels$ClassFile") (ty := .int) hx hb hts (fun _ h => (List.mem_cons_of_mem _ (List.mem_append_right _ h))) tyX1 tyX1_ok nmX1 hown hK hW hS rfl (L_t _ rfl) rfl rfl rfl (by decide) (hts (.fieldLink RX1 17 "LoaderModels$ClassFile" "number" "I") (List.mem_cons_of_mem _ (List.mem_append_left _ (List.mem_of_getElem? (i := 5) rfl)))) (fun _ h9 => h9) (Or.inr ⟨rfl, hin, rfl⟩) (by decide +kernel) rfl rfl (fun q9 => by rw [eS9]; exact lh_chI rfl q9) dX1_init_14 (fun H locs hW hS => ?_)
  have m10 : ∀ b, gvN S7 b ≤ gvN S9 b := by rw [eS9]; exact lh_mI
  have L_t : ∀ j, some t = some j → j < gvN S9 1 := fun j h => Nat.lt_of_lt_of_le (L_t j h) (m10 _)
  have hm : ∀ b, gvN S b ≤ gvN S9 b := lh_le_trans hm m10
  have ok := lh_W_ok hW
  refine lh_aload_n hx hb dX1_init_17 rfl (lv_at hl 0 rfl) ?_
  refine lv_iload_n hx hb dX1_init_18 rfl (lv_at hl 2 rfl) ?_
  obtain ⟨S11, eS11, hf⟩ := dc_let_ok hf
  refine lh_put (S' := S11) (a := 1) (k := 1) (N := 7) (C := RX1) (T := TX1) (own := RX1) (ref := "LoaderModels$ClassFile") (ty := .int) hx hb hts (fun _ h => (List.mem_cons_of_mem _ (List.mem_append_right _ h))) tyX1 tyX1_ok nmX1 hown hK hW hS rfl (L_t _ rfl) rfl rfl rfl (by decide) (hts (.fieldLink RX1 21 "LoaderModels$ClassFile" "name" "I") (List.mem_cons_of_mem _ (List.mem_append_left _ (List.mem_of_getElem? (i := 6) rfl)))) (fun _ h9 => h9) (Or.inr ⟨rfl, hin, rfl⟩) (by decide +kernel) rfl rfl (fun q9 => by rw [eS11]; exact lh_chI rfl q9) dX1_init_19 (fun H locs hW hS => ?_)
  have m12 : ∀ b, gvN S9 b ≤ gvN S11 b := by rw [eS11]; exact lh_mI
  have L_t : ∀ j, some t = some j → j < gvN S11 1 := fun j h => Nat.lt_of_lt_of_le (L_t j h) (m12 _)
  have hm : ∀ b, gvN S b ≤ gvN S11 b := lh_le_trans hm m12
  have ok := lh_W_ok hW
  refine lh_aload_n hx hb dX1_init_22 rfl (lv_at hl 0 rfl) ?_
  refine lv_iload_n hx hb dX1_init_23 rfl (lv_at hl 3 rfl) ?_
  obtain ⟨S13, eS13, hf⟩ := dc_let_ok hf
  refine lh_put (S' := S13) (a := 1) (k := 2) (N := 7) (C := RX1) (T := TX1) (own := RX1) (ref := "LoaderModels$ClassFile") (ty := .int) hx hb hts (fun _ h => (List.mem_cons_of_mem _ (List.mem_append_right _ h))) tyX1 tyX1_ok nmX1 hown hK hW hS rfl (L_t _ rfl) rfl rfl rfl (by decide) (hts (.fieldLink RX1 24 "LoaderModels$ClassFile" "inner" "I") (List.mem_cons_of_mem _ (List.mem_append_left _ (List.mem_of_getElem? (i := 7) rfl)))) (fun _ h9 => h9) (Or.inr ⟨rfl, hin, rfl⟩) (by decide +kernel) rfl rfl (fun q9 => by rw [eS13]; exact lh_chI rfl q9) dX1_init_24 (fun H locs hW hS => ?_)
  have m14 : ∀ b, gvN S11 b ≤ gvN S13 b := by rw [eS13]; exact lh_mI
  have L_t : ∀ j, some t = some j → j < gvN S13 1 := fun j h => Nat.lt_of_lt_of_le (L_t j h) (m14 _)
  have hm : ∀ b, gvN S b ≤ gvN S13 b := lh_le_trans hm m14
  have ok := lh_W_ok hW
  refine lh_aload_n hx hb dX1_init_27 rfl (lv_at hl 0 rfl) ?_
  refine lv_iload hx hb dX1_init_28 (lv_at hl 4 rfl) ?_
  obtain ⟨S15, eS15, hf⟩ := dc_let_ok hf
  refine lh_put (S' := S15) (a := 1) (k := 3) (N := 7) (C := RX1) (T := TX1) (own := RX1) (ref := "LoaderModels$ClassFile") (ty := .int) hx hb hts (fun _ h => (List.mem_cons_of_mem _ (List.mem_append_right _ h))) tyX1 tyX1_ok nmX1 hown hK hW hS rfl (L_t _ rfl) rfl rfl rfl (by decide) (hts (.fieldLink RX1 27 "LoaderModels$ClassFile" "above" "I") (List.mem_cons_of_mem _ (List.mem_append_left _ (List.mem_of_getElem? (i := 8) rfl)))) (fun _ h9 => h9) (Or.inr ⟨rfl, hin, rfl⟩) (by decide +kernel) rfl rfl (fun q9 => by rw [eS15]; exact lh_chI rfl q9) dX1_init_30 (fun H locs hW hS => ?_)
  have m16 : ∀ b, gvN S13 b ≤ gvN S15 b := by rw [eS15]; exact lh_mI
  have L_t : ∀ j, some t = some j → j < gvN S15 1 := fun j h => Nat.lt_of_lt_of_le (L_t j h) (m16 _)
  have hm : ∀ b, gvN S b ≤ gvN S15 b := lh_le_trans hm m16
  have ok := lh_W_ok hW
  refine lh_aload_n hx hb dX1_init_33 rfl (lv_at hl 0 rfl) ?_
  refine lv_iload hx hb dX1_init_34 (lv_at hl 5 rfl) ?_
  obtain ⟨S17, eS17, hf⟩ := dc_let_ok hf
  refine lh_put (S' := S17) (a := 1) (k := 4) (N := 7) (C := RX1) (T := TX1) (own := RX1) (ref := "LoaderModels$ClassFile") (ty := .int) hx hb hts (fun _ h => (List.mem_cons_of_mem _ (List.mem_append_right _ h))) tyX1 tyX1_ok nmX1 hown hK hW hS rfl (L_t _ rfl) rfl rfl rfl (by decide) (hts (.fieldLink RX1 30 "LoaderModels$ClassFile" "content" "I") (List.mem_cons_of_mem _ (List.mem_append_left _ (List.mem_of_getElem? (i := 9) rfl)))) (fun _ h9 => h9) (Or.inr ⟨rfl, hin, rfl⟩) (by decide +kernel) rfl rfl (fun q9 => by rw [eS17]; exact lh_chI rfl q9) dX1_init_36 (fun H locs hW hS => ?_)
  have m18 : ∀ b, gvN S15 b ≤ gvN S17 b := by rw [eS17]; exact lh_mI
  have L_t : ∀ j, some t = some j → j < gvN S17 1 := fun j h => Nat.lt_of_lt_of_le (L_t j h) (m18 _)
  have hm : ∀ b, gvN S b ≤ gvN S17 b := lh_le_trans hm m18
  have ok := lh_W_ok hW
  refine lh_aload_n hx hb dX1_init_39 rfl (lv_at hl 0 rfl) ?_
  refine lv_iload hx hb dX1_init_40 (lv_at hl 6 rfl) ?_
  obtain ⟨g20, hf⟩ := dc_gd_ok hf
  have g20 := Decidable.not_not.mp g20
  obtain ⟨S19, eS19, hf⟩ := dc_let_ok hf
  refine lh_put (S' := S19) (a := 1) (k := 5) (N := 7) (C := RX1) (T := TX1) (own := RX1) (ref := "LoaderModels$ClassFile") (ty := .boolean) hx hb hts (fun _ h => (List.mem_cons_of_mem _ (List.mem_append_right _ h))) tyX1 tyX1_ok nmX1 hown hK hW hS rfl (L_t _ rfl) rfl rfl rfl (by decide) (hts (.fieldLink RX1 33 "LoaderModels$ClassFile" "isFinal" "Z") (List.mem_cons_of_mem _ (List.mem_append_left _ (List.mem_of_getElem? (i := 10) rfl)))) (fun _ h9 => h9) (Or.inr ⟨rfl, hin, rfl⟩) (by decide +kernel) (lh_nar_b g20) (lh_fit_b g20) (fun q9 => by rw [eS19]; exact lh_chI rfl q9) dX1_init_42 (fun H locs hW hS => ?_)
  have m21 : ∀ b, gvN S17 b ≤ gvN S19 b := by rw [eS19]; exact lh_mI
  have L_t : ∀ j, some t = some j → j < gvN S19 1 := fun j h => Nat.lt_of_lt_of_le (L_t j h) (m21 _)
  have hm : ∀ b, gvN S b ≤ gvN S19 b := lh_le_trans hm m21
  have ok := lh_W_ok hW
  obtain ⟨rfl, rfl⟩ := dc_ret hf
  exact W.vret hx hb hr (fun t9 ht9 hW9 => ⟨⟨ad2, hE, rfl, ⟨hm, trivial⟩, by rw [ht9]; exact hW⟩, hS.F ht9⟩) hS.2.2 dX1_init_45
def f_X2_init_L50 (n : Nat) (t : Nat) (p1 : Int32) (p2 : Option Nat) : Nat → lh_S → Int32 → Option (Unit × lh_S)
  | 0, _, _ => none
  | g + 1, S37, v39 =>
  dc_if ((40 : Int32) ≤ v39) (
  some ((), S37)) (
  dc_nn (gvR S37 2 t 6) fun x42 =>
  dc_gd (v39 < 0 ∨ gvL S37 15 x42 ≤ (v39).toNatClampNeg) (
  dc_let (pvI S37 15 x42 (v39).toNatClampNeg ((1 : Int32) <<< (p1 &&& 31))) fun S44 =>
  f_X2_init_L50 n t p1 p2 g S44 (v39 + (1 : Int32))))
theorem m_X2_init_L50 {n : Nat} {t : Nat} {p1 : Int32} {p2 : Option Nat} {r : Unit} {S' : lh_S} : ∀ (g : Nat) (S37 : lh_S) (v39 : Int32), f_X2_init_L50 n t p1 p2 g S37 v39 = some (r, S') → ∀ b, gvN S37 b ≤ gvN S' b := by
    intro g
    induction g with
    | zero => intro S37 v39 hf; rw [f_X2_init_L50] at hf; cases hf
    | succ g ih =>
      intro S37 v39 hf
      rw [f_X2_init_L50] at hf
      have hm : ∀ b, gvN S37 b ≤ gvN S37 b := fun _ => Nat.le_refl _
      by_cases c40 : (40 : Int32) ≤ v39
      · replace hf := dc_if_t c40 hf
        obtain ⟨_, rfl⟩ := dc_ret hf
        exact hm
      · replace hf := dc_if_f c40 hf
        obtain ⟨x42, hx42, hf⟩ := dc_nn_ok hf
        obtain ⟨g43, hf⟩ := dc_gd_ok hf
        obtain ⟨S44, eS44, hf⟩ := dc_let_ok hf
        have hm := lh_le_trans hm (show ∀ b, gvN S37 b ≤ gvN S44 b from by rw [eS44]; exact lh_mI)
        exact lh_le_trans hm (ih S44 (v39 + (1 : Int32)) hf)
theorem k_X2_init_L50 {n : Nat} {t : Nat} {p1 : Int32} {p2 : Option Nat} {r : Unit} {S' : lh_S} : ∀ (g : Nat) (S37 : lh_S) (v39 : Int32), f_X2_init_L50 n t p1 p2 g S37 v39 = some (r, S') → lh_sm9 S37 S' := by
    intro g
    induction g with
    | zero => intro S37 v39 hf; rw [f_X2_init_L50] at hf; cases hf
    | succ g ih =>
      intro S37 v39 hf
      rw [f_X2_init_L50] at hf
      have hm : lh_sm9 S37 S37 := lh_sm9_rf
      by_cases c40 : (40 : Int32) ≤ v39
      · replace hf := dc_if_t c40 hf
        obtain ⟨_, rfl⟩ := dc_ret hf
        exact hm
      · replace hf := dc_if_f c40 hf
        obtain ⟨x42, hx42, hf⟩ := dc_nn_ok hf
        obtain ⟨g43, hf⟩ := dc_gd_ok hf
        obtain ⟨S44, eS44, hf⟩ := dc_let_ok hf
        have hm := lh_sm9_trans hm (show lh_sm9 S37 S44 from by rw [eS44]; exact (lh_sm9I (by decide)))
        exact lh_sm9_trans hm (ih S44 (v39 + (1 : Int32)) hf)
def f_X2_init (n : Nat) (S : lh_S) (t : Nat) (p1 : Int32) (p2 : Option Nat) : Option (Unit × lh_S) :=
  dc_let (pvN S 12 40) fun S1 =>
  dc_let (pvR S1 2 t 3 (some (gvN S 12))) fun S7 =>
  dc_let (pvN S7 13 40) fun S9 =>
  dc_let (pvR S9 2 t 4 (some (gvN S7 13))) fun S15 =>
  dc_let (pvN S15 14 40) fun S17 =>
  dc_let (pvR S17 2 t 5 (some (gvN S15 14))) fun S23 =>
  dc_let (pvN S23 15 40) fun S25 =>
  dc_let (pvR S25 2 t 6 (some (gvN S23 15))) fun S31 =>
  dc_let (pvI S31 2 t 0 p1) fun S33 =>
  dc_let (pvR S33 2 t 1 p2) fun S35 =>
  f_X2_init_L50 n t p1 p2 n S35 (0 : Int32)
set_option maxHeartbeats 1000000 in
theorem m_X2_init {n : Nat} {S : lh_S} {t : Nat} {p1 : Int32} {p2 : Option Nat} {r : Unit} {S' : lh_S} (hf : f_X2_init n S t p1 p2 = some (r, S')) : ∀ b, gvN S b ≤ gvN S' b := by
  have hm : ∀ b, gvN S b ≤ gvN S b := fun _ => Nat.le_refl _
  unfold f_X2_init at hf
  obtain ⟨S1, eS1, hf⟩ := dc_let_ok hf
  have hm := lh_le_trans hm (show ∀ b, gvN S b ≤ gvN S1 b from by rw [eS1]; exact lh_mN)
  obtain ⟨S7, eS7, hf⟩ := dc_let_ok hf
  have hm := lh_le_trans hm (show ∀ b, gvN S1 b ≤ gvN S7 b from by rw [eS7]; exact lh_mR)
  obtain ⟨S9, eS9, hf⟩ := dc_let_ok hf
  have hm := lh_le_trans hm (show ∀ b, gvN S7 b ≤ gvN S9 b from by rw [eS9]; exact lh_mN)
  obtain ⟨S15, eS15, hf⟩ := dc_let_ok hf
  have hm := lh_le_trans hm (show ∀ b, gvN S9 b ≤ gvN S15 b from by rw [eS15]; exact lh_mR)
  obtain ⟨S17, eS17, hf⟩ := dc_let_ok hf
  have hm := lh_le_trans hm (show ∀ b, gvN S15 b ≤ gvN S17 b from by rw [eS17]; exact lh_mN)
  obtain ⟨S23, eS23, hf⟩ := dc_let_ok hf
  have hm := lh_le_trans hm (show ∀ b, gvN S17 b ≤ gvN S23 b from by rw [eS23]; exact lh_mR)
  obtain ⟨S25, eS25, hf⟩ := dc_let_ok hf
  have hm := lh_le_trans hm (show ∀ b, gvN S23 b ≤ gvN S25 b from by rw [eS25]; exact lh_mN)
  obtain ⟨S31, eS31, hf⟩ := dc_let_ok hf
  have hm := lh_le_trans hm (show ∀ b, gvN S25 b ≤ gvN S31 b from by rw [eS31]; exact lh_mR)
  obtain ⟨S33, eS33, hf⟩ := dc_let_ok hf
  have hm := lh_le_trans hm (show ∀ b, gvN S31 b ≤ gvN S33 b from by rw [eS33]; exact lh_mI)
  obtain ⟨S35, eS35, hf⟩ := dc_let_ok hf
  have hm := lh_le_trans hm (show ∀ b, gvN S33 b ≤ gvN S35 b from by rw [eS35]; exact lh_mR)
  exact lh_le_trans hm (m_X2_init_L50 n S35 (0 : Int32) hf)
set_option maxHeartbeats 1000000 in
theorem k_X2_init {n : Nat} {S : lh_S} {t : Nat} {p1 : Int32} {p2 : Option Nat} {r : Unit} {S' : lh_S} (hf : f_X2_init n S t p1 p2 = some (r, S')) : lh_sm9 S S' := by
  have hm : lh_sm9 S S := lh_sm9_rf
  unfold f_X2_init at hf
  obtain ⟨S1, eS1, hf⟩ := dc_let_ok hf
  have hm := lh_sm9_trans hm (show lh_sm9 S S1 from by rw [eS1]; exact (lh_sm9N (by decide)))
  obtain ⟨S7, eS7, hf⟩ := dc_let_ok hf
  have hm := lh_sm9_trans hm (show lh_sm9 S1 S7 from by rw [eS7]; exact (lh_sm9R (by decide)))
  obtain ⟨S9, eS9, hf⟩ := dc_let_ok hf
  have hm := lh_sm9_trans hm (show lh_sm9 S7 S9 from by rw [eS9]; exact (lh_sm9N (by decide)))
  obtain ⟨S15, eS15, hf⟩ := dc_let_ok hf
  have hm := lh_sm9_trans hm (show lh_sm9 S9 S15 from by rw [eS15]; exact (lh_sm9R (by decide)))
  obtain ⟨S17, eS17, hf⟩ := dc_let_ok hf
  have hm := lh_sm9_trans hm (show lh_sm9 S15 S17 from by rw [eS17]; exact (lh_sm9N (by decide)))
  obtain ⟨S23, eS23, hf⟩ := dc_let_ok hf
  have hm := lh_sm9_trans hm (show lh_sm9 S17 S23 from by rw [eS23]; exact (lh_sm9R (by decide)))
  obtain ⟨S25, eS25, hf⟩ := dc_let_ok hf
  have hm := lh_sm9_trans hm (show lh_sm9 S23 S25 from by rw [eS25]; exact (lh_sm9N (by decide)))
  obtain ⟨S31, eS31, hf⟩ := dc_let_ok hf
  have hm := lh_sm9_trans hm (show lh_sm9 S25 S31 from by rw [eS31]; exact (lh_sm9R (by decide)))
  obtain ⟨S33, eS33, hf⟩ := dc_let_ok hf
  have hm := lh_sm9_trans hm (show lh_sm9 S31 S33 from by rw [eS33]; exact (lh_sm9I (by decide)))
  obtain ⟨S35, eS35, hf⟩ := dc_let_ok hf
  have hm := lh_sm9_trans hm (show lh_sm9 S33 S35 from by rw [eS35]; exact (lh_sm9R (by decide)))
  exact lh_sm9_trans hm (k_X2_init_L50 n S35 (0 : Int32) hf)
set_option maxHeartbeats 4000000 in
set_option maxRecDepth 100000 in
theorem c_X2_init (l : Launch) (D : va_G) (cT : Nat → ClassId) (n : Nat) (S : lh_S) (ad : Nat → Nat → Nat) (A : Nat → Prop) (sz : Nat) (hA : ∀ q, sz ≤ q → A q) (t : Nat) (p1 : Int32) (p2 : Option Nat) (r : Unit) (S' : lh_S) (hf : f_X2_init n S t p1 p2 = some (r, S')) (L_t : ∀ j, some t = some j → j < gvN S 2) (L_p2 : ∀ j, p2 = some j → j < gvN S 2) : Met l yX2_init wsX2_init ({ frames := 1, cells := 4, slots := 160, locals := 20 } : Room) (lh_P D cT S ad A sz [lh_r ad 2 (some t), .int p1, lh_r ad 2 p2]) (lh_QA D cT S S' ad A ((∀ b, gvN S b ≤ gvN S' b) ∧ True) (fun ad9 => none)) 4 160 A := by
  refine Met.ofW (cc := cX2_init) (maxL := 4) (ret := none) (by decide) rfl ?_
  intro p e s m args below meth c s₁ B hml hv
  obtain ⟨hargs, hsz, hW, hK, hN⟩ := hv
  have hx := B.exec
  have hb := B.bytes
  have hr := B.returns
  have hts := atoms_spec (ws := wsX2_init) B.pre
  have hown : s.vm.findClass RX2 = some m.cls := findClass_of_methodNamed B.named
  have hlocks := B.notSynchronized
  have hin : meth.name = "<init>" := (name_of_methodNamed B.named B.method).1
  have hA : ∀ q, s.heap.size ≤ q → A q := fun q h => hA q (by rw [← hsz]; exact h)
  have L50 : ∀ (g : Nat) (S37 : lh_S) (v39 : Int32) (ad38 : Nat → Nat → Nat), f_X2_init_L50 n t p1 p2 g S37 v39 = some (r, S') → (∀ b, gvN S b ≤ gvN S37 b) → lh_E S ad ad38 → ∀ (H : Heap) (locs : List Loc), lh_W D cT S37 ad38 A H → va_S A s.heap H locs → ∀ (ls : Array Slot), lv_has ls 4 [(0, lh_r ad38 2 (some t)), (1, .int p1), (2, lh_r ad38 2 p2), (3, .int v39)] → W p l e (headSpec wsX2_init ({ frames := 1, cells := 4, slots := 160, locals := 20 } : Room)).room s m args below meth c H locs 4 160 (MQ below (lh_QA D cT S S' ad A ((∀ b, gvN S b ≤ gvN S' b) ∧ True) (fun ad9 => none)) args s 4 160 A) (F0 m 50 ls []) := by
    intro g
    induction g with
    | zero => intro S37 v39 ad38 hf; rw [f_X2_init_L50] at hf; cases hf
    | succ g ih =>
      intro S37 v39 ad38 hf hm hE H locs hW hS ls hl
      rw [f_X2_init_L50] at hf
      have ok := lh_W_ok hW
      have L_t : ∀ j, some t = some j → j < gvN S37 2 := fun j h => Nat.lt_of_lt_of_le (L_t j h) (hm _)
      have L_p2 : ∀ j, p2 = some j → j < gvN S37 2 := fun j h => Nat.lt_of_lt_of_le (L_p2 j h) (hm _)
      refine lv_iload_n hx hb dX2_init_50 rfl (lv_at hl 3 rfl) ?_
      refine lv_bipush (v := 40) hx hb dX2_init_51 (by decide) ?_
      refine lv_icmp_ge (tgt := 71) hx hb dX2_init_53 (by decide) (fun c40 => ?_) (fun c40 => ?_)
      · replace hf := dc_if_t c40 hf
        obtain ⟨rfl, rfl⟩ := dc_ret hf
        exact W.vret hx hb hr (fun t9 ht9 hW9 => ⟨⟨ad38, hE, rfl, ⟨hm, trivial⟩, by rw [ht9]; exact hW⟩, hS.F ht9⟩) hS.2.2 dX2_init_71
      · replace hf := dc_if_f c40 hf
        refine lh_aload_n hx hb dX2_init_56 rfl (lv_at hl 0 rfl) ?_
        have L41 : ∀ j, gvR S37 2 t 6 = some j → j < gvN S37 15 := fun j h => ok _ _ _ _ j (L_t _ rfl) rfl h
        refine lh_get (a := 2) (k := 6) (N := 7) (C := RX2) (T := TX2) (own := RX2) (ref := "LoaderModels$Loader") hx hb hts (fun _ h => (List.mem_cons_of_mem _ (List.mem_append_right _ h))) hown hK hW rfl (L_t _ rfl) rfl rfl rfl (by decide) (hts (.fieldLink RX2 27 "LoaderModels$Loader" "agreed" "[I") (List.mem_cons_of_mem _ (List.mem_append_left _ (List.mem_of_getElem? (i := 10) rfl)))) (fun _ h9 => h9) dX2_init_57 (v := lh_r ad38 15 (gvR S37 2 t 6)) rfl ?_
        refine lv_iload_n hx hb dX2_init_60 rfl (lv_at hl 3 rfl) ?_
        refine lv_iconst (v := 1) hx hb dX2_init_61 (by decide) ?_
        refine lv_iload_n hx hb dX2_init_62 rfl (lv_at hl 1 rfl) ?_
        refine lv_ishl hx hb dX2_init_63 ?_
        obtain ⟨x42, hx42, hf⟩ := dc_nn_ok hf
        obtain ⟨g43, hf⟩ := dc_gd_ok hf
        obtain ⟨S44, eS44, hf⟩ := dc_let_ok hf
        refine lh_ast_i (a := 15) hx hb hK hW hS hx42 (L41 _ hx42) rfl (fun _ => rfl) g43 dX2_init_64 (fun H locs hW hS => ?_)
        rw [← eS44] at hW
        have m45 : ∀ b, gvN S37 b ≤ gvN S44 b := by rw [eS44]; exact lh_mI
        have L_t : ∀ j, some t = some j → j < gvN S44 2 := fun j h => Nat.lt_of_lt_of_le (L_t j h) (m45 _)
        have L_p2 : ∀ j, p2 = some j → j < gvN S44 2 := fun j h => Nat.lt_of_lt_of_le (L_p2 j h) (m45 _)
        have hm : ∀ b, gvN S b ≤ gvN S44 b := lh_le_trans hm m45
        have ok := lh_W_ok hW
        refine lv_iinc (v := v39 + (1 : Int32)) (lv' := [(3, .int (v39 + (1 : Int32))), (0, lh_r ad38 2 (some t)), (1, .int p1), (2, lh_r ad38 2 p2)]) hx hb dX2_init_65 hl (k := 3) rfl (by first | rfl | decide) (by decide) (by first | rfl | simp [lh_cat_r, lh_cat_i, lh_cat_j]) (fun ls hl => ?_)
        refine lv_goto (tgt := 50) hx hb dX2_init_68 (by decide) ?_
        exact ih S44 (v39 + (1 : Int32)) ad38 hf hm hE _ _ hW hS _ (lv_sub hl [1, 2, 3, 0] (by first | rfl | simp [lv_pick]))
  have ok := lh_W_ok hW
  have hm : ∀ b, gvN S b ≤ gvN S b := fun _ => Nat.le_refl _
  have hE : lh_E S ad ad := lh_E.rf
  obtain ⟨ls, hent, hl⟩ := lh_entry m args [lh_r ad 2 (some t), .int p1, lh_r ad 2 p2] 4 [(0, lh_r ad 2 (some t)), (1, .int p1), (2, lh_r ad 2 p2)] hargs (by simp [lv_args, lh_cat_r, lh_cat_i, lh_cat_j]) (by simp [lg_sl, lh_cat_r, lh_cat_i, lh_cat_j])
  rw [hent]
  generalize hH : s.heap = H at hW ⊢
  have hS : va_S A s.heap H [] := by rw [← hH]; exact va_S.rf
  unfold f_X2_init at hf
  refine lh_aload_n hx hb dX2_init_0 rfl (lv_at hl 0 rfl) ?_
  refine W.objInit hx hb hown (hts (.methodLink RX2 3 objectInit) (List.mem_cons_of_mem _ (List.mem_append_left _ (List.mem_of_getElem? (i := 0) rfl)))) (hts (.instanceMethod objectInit) (List.mem_cons_of_mem _ (List.mem_append_left _ (List.mem_of_getElem? (i := 1) rfl)))) (hts (.code objectInit ⟨#[0xb1]⟩ 1 none) (List.mem_cons_of_mem _ (List.mem_append_left _ (List.mem_of_getElem? (i := 2) rfl)))) rfl (by rw [hml]; exact hl.1) rfl dX2_init_1 (Nat.le_of_ble_eq_true rfl) (Nat.le_of_ble_eq_true rfl) ?_
  refine W.eq (g2 := F0 m 4 ls []) rfl ?_
  refine lh_aload_n hx hb dX2_init_4 rfl (lv_at hl 0 rfl) ?_
  refine lv_bipush (v := 40) hx hb dX2_init_5 (by decide) ?_
  obtain ⟨S1, eS1, hf⟩ := dc_let_ok hf
  refine lh_newq (n := (40 : Int32)) (a := 12) (t0 := 4) (t := 1) (N' := 40) (C := RX1) hx hb hown (hts (.classLink RX2 9 RX1) (List.mem_cons_of_mem _ (List.mem_append_left _ (List.mem_of_getElem? (i := 3) rfl)))) hN.2.2.2.2.2.1 hK hW hS hA rfl rfl rfl (by decide +kernel) (by decide +kernel) (by decide +kernel) (Nat.le_of_ble_eq_true rfl) (Nat.le_of_ble_eq_true rfl) dX2_init_7 (fun ad2 H hE3 hW hS => ?_)
  rw [lh_rE hE3 L_t] at hl
  rw [lh_rE hE3 L_p2] at hl
  rw [lh_rE hE3 L_t]
  have hE : lh_E S ad ad2 := lh_E.trans hE hm hE3
  rw [← eS1] at hW
  have m4 : ∀ b, gvN S b ≤ gvN S1 b := by rw [eS1]; exact lh_mN
  have L_t : ∀ j, some t = some j → j < gvN S1 2 := fun j h => Nat.lt_of_lt_of_le (L_t j h) (m4 _)
  have L_p2 : ∀ j, p2 = some j → j < gvN S1 2 := fun j h => Nat.lt_of_lt_of_le (L_p2 j h) (m4 _)
  have hm : ∀ b, gvN S b ≤ gvN S1 b := lh_le_trans hm m4
  have ok := lh_W_ok hW
  have L5 : ∀ j, some (gvN S 12) = some j → j < gvN S1 12 := lh_ls (by rw [eS1]; exact lh_nN)
  obtain ⟨S7, eS7, hf⟩ := dc_let_ok hf
  refine lh_put (S' := S7) (a := 2) (k := 3) (N := 7) (C := RX2) (T := TX2) (own := RX2) (ref := "LoaderModels$Loader") (ty := .array (.object "LoaderModels$ClassFile")) hx hb hts (fun _ h => (List.mem_cons_of_mem _ (List.mem_append_right _ h))) tyX2 tyX2_ok nmX2 hown hK hW hS rfl (L_t _ rfl) rfl rfl rfl (by decide) (hts (.fieldLink RX2 11 "LoaderModels$Loader" "files" "[LLoaderModels$ClassFile;") (List.mem_cons_of_mem _ (List.mem_append_left _ (List.mem_of_getElem? (i := 4) rfl)))) (fun _ h9 => h9) (Or.inr ⟨rfl, hin, rfl⟩) (by decide +kernel) lh_nar_a lh_fit_a (fun q9 => by rw [eS7]; exact lh_chR rfl L5 q9) dX2_init_10 (fun H locs hW hS => ?_)
  have m8 : ∀ b, gvN S1 b ≤ gvN S7 b := by rw [eS7]; exact lh_mR
  have L_t : ∀ j, some t = some j → j < gvN S7 2 := fun j h => Nat.lt_of_lt_of_le (L_t j h) (m8 _)
  have L_p2 : ∀ j, p2 = some j → j < gvN S7 2 := fun j h => Nat.lt_of_lt_of_le (L_p2 j h) (m8 _)
  have hm : ∀ b, gvN S b ≤ gvN S7 b := lh_le_trans hm m8
  have ok := lh_W_ok hW
  refine lh_aload_n hx hb dX2_init_13 rfl (lv_at hl 0 rfl) ?_
  refine lv_bipush (v := 40) hx hb dX2_init_14 (by decide) ?_
  obtain ⟨S9, eS9, hf⟩ := dc_let_ok hf
  refine lh_newq (n := (40 : Int32)) (a := 13) (t0 := 6) (t := 5) (N' := 40) (C := RX5) hx hb hown (hts (.classLink RX2 17 RX5) (List.mem_cons_of_mem _ (List.mem_append_left _ (List.mem_of_getElem? (i := 5) rfl)))) hN.2.2.2.2.2.2.2.1 hK hW hS hA rfl rfl rfl (by decide +kernel) (by decide +kernel) (by decide +kernel) (Nat.le_of_ble_eq_true rfl) (Nat.le_of_ble_eq_true rfl) dX2_init_16 (fun ad10 H hE11 hW hS => ?_)
  rw [lh_rE hE11 L_t] at hl
  rw [lh_rE hE11 L_p2] at hl
  rw [lh_rE hE11 L_t]
  have hE : lh_E S ad ad10 := lh_E.trans hE hm hE11
  rw [← eS9] at hW
  have m12 : ∀ b, gvN S7 b ≤ gvN S9 b := by rw [eS9]; exact lh_mN
  have L_t : ∀ j, some t = some j → j < gvN S9 2 := fun j h => Nat.lt_of_lt_of_le (L_t j h) (m12 _)
  have L_p2 : ∀ j, p2 = some j → j < gvN S9 2 := fun j h => Nat.lt_of_lt_of_le (L_p2 j h) (m12 _)
  have hm : ∀ b, gvN S b ≤ gvN S9 b := lh_le_trans hm m12
  have ok := lh_W_ok hW
  have L13 : ∀ j, some (gvN S7 13) = some j → j < gvN S9 13 := lh_ls (by rw [eS9]; exact lh_nN)
  obtain ⟨S15, eS15, hf⟩ := dc_let_ok hf
  refine lh_put (S' := S15) (a := 2) (k := 4) (N := 7) (C := RX2) (T := TX2) (own := RX2) (ref := "LoaderModels$Loader") (ty := .array (.object "LoaderModels$Model")) hx hb hts (fun _ h => (List.mem_cons_of_mem _ (List.mem_append_right _ h))) tyX2 tyX2_ok nmX2 hown hK hW hS rfl (L_t _ rfl) rfl rfl rfl (by decide) (hts (.fieldLink RX2 19 "LoaderModels$Loader" "knows" "[LLoaderModels$Model;") (List.mem_cons_of_mem _ (List.mem_append_left _ (List.mem_of_getElem? (i := 6) rfl)))) (fun _ h9 => h9) (Or.inr ⟨rfl, hin, rfl⟩) (by decide +kernel) lh_nar_a lh_fit_a (fun q9 => by rw [eS15]; exact lh_chR rfl L13 q9) dX2_init_19 (fun H locs hW hS => ?_)
  have m16 : ∀ b, gvN S9 b ≤ gvN S15 b := by rw [eS15]; exact lh_mR
  have L_t : ∀ j, some t = some j → j < gvN S15 2 := fun j h => Nat.lt_of_lt_of_le (L_t j h) (m16 _)
  have L_p2 : ∀ j, p2 = some j → j < gvN S15 2 := fun j h => Nat.lt_of_lt_of_le (L_p2 j h) (m16 _)
  have hm : ∀ b, gvN S b ≤ gvN S15 b := lh_le_trans hm m16
  have ok := lh_W_ok hW
  refine lh_aload_n hx hb dX2_init_22 rfl (lv_at hl 0 rfl) ?_
  refine lv_bipush (v := 40) hx hb dX2_init_23 (by decide) ?_
  obtain ⟨S17, eS17, hf⟩ := dc_let_ok hf
  refine lh_newa (ty := .boolean) (atype := .boolean) (n := (40 : Int32)) (a := 14) (t0 := 1) (N' := 40) hx hb (hts (.arrayClass .boolean) (List.mem_cons_of_mem _ (List.mem_append_left _ (List.mem_of_getElem? (i := 7) rfl)))) rfl hK hW hS hA rfl rfl (fun _ _ h => h) (Or.inl ⟨rfl, rfl⟩) (by decide +kernel) (by decide +kernel) (by decide +kernel) (Nat.le_of_ble_eq_true rfl) (Nat.le_of_ble_eq_true rfl) dX2_init_25 (fun ad18 H hE19 hW hS => ?_)
  rw [lh_rE hE19 L_t] at hl
  rw [lh_rE hE19 L_p2] at hl
  rw [lh_rE hE19 L_t]
  have hE : lh_E S ad ad18 := lh_E.trans hE hm hE19
  rw [← eS17] at hW
  have m20 : ∀ b, gvN S15 b ≤ gvN S17 b := by rw [eS17]; exact lh_mN
  have L_t : ∀ j, some t = some j → j < gvN S17 2 := fun j h => Nat.lt_of_lt_of_le (L_t j h) (m20 _)
  have L_p2 : ∀ j, p2 = some j → j < gvN S17 2 := fun j h => Nat.lt_of_lt_of_le (L_p2 j h) (m20 _)
  have hm : ∀ b, gvN S b ≤ gvN S17 b := lh_le_trans hm m20
  have ok := lh_W_ok hW
  have L21 : ∀ j, some (gvN S15 14) = some j → j < gvN S17 14 := lh_ls (by rw [eS17]; exact lh_nN)
  obtain ⟨S23, eS23, hf⟩ := dc_let_ok hf
  refine lh_put (S' := S23) (a := 2) (k := 5) (N := 7) (C := RX2) (T := TX2) (own := RX2) (ref := "LoaderModels$Loader") (ty := .array .boolean) hx hb hts (fun _ h => (List.mem_cons_of_mem _ (List.mem_append_right _ h))) tyX2 tyX2_ok nmX2 hown hK hW hS rfl (L_t _ rfl) rfl rfl rfl (by decide) (hts (.fieldLink RX2 23 "LoaderModels$Loader" "defining" "[Z") (List.mem_cons_of_mem _ (List.mem_append_left _ (List.mem_of_getElem? (i := 8) rfl)))) (fun _ h9 => h9) (Or.inr ⟨rfl, hin, rfl⟩) (by decide +kernel) lh_nar_a lh_fit_a (fun q9 => by rw [eS23]; exact lh_chR rfl L21 q9) dX2_init_27 (fun H locs hW hS => ?_)
  have m24 : ∀ b, gvN S17 b ≤ gvN S23 b := by rw [eS23]; exact lh_mR
  have L_t : ∀ j, some t = some j → j < gvN S23 2 := fun j h => Nat.lt_of_lt_of_le (L_t j h) (m24 _)
  have L_p2 : ∀ j, p2 = some j → j < gvN S23 2 := fun j h => Nat.lt_of_lt_of_le (L_p2 j h) (m24 _)
  have hm : ∀ b, gvN S b ≤ gvN S23 b := lh_le_trans hm m24
  have ok := lh_W_ok hW
  refine lh_aload_n hx hb dX2_init_30 rfl (lv_at hl 0 rfl) ?_
  refine lv_bipush (v := 40) hx hb dX2_init_31 (by decide) ?_
  obtain ⟨S25, eS25, hf⟩ := dc_let_ok hf
  refine lh_newa (ty := .int) (atype := .int) (n := (40 : Int32)) (a := 15) (t0 := 0) (N' := 40) hx hb (hts (.arrayClass .int) (List.mem_cons_of_mem _ (List.mem_append_left _ (List.mem_of_getElem? (i := 9) rfl)))) rfl hK hW hS hA rfl rfl (fun _ _ h => h) (Or.inl ⟨rfl, rfl⟩) (by decide +kernel) (by decide +kernel) (by decide +kernel) (Nat.le_of_ble_eq_true rfl) (Nat.le_of_ble_eq_true rfl) dX2_init_33 (fun ad26 H hE27 hW hS => ?_)
  rw [lh_rE hE27 L_t] at hl
  rw [lh_rE hE27 L_p2] at hl
  rw [lh_rE hE27 L_t]
  have hE : lh_E S ad ad26 := lh_E.trans hE hm hE27
  rw [← eS25] at hW
  have m28 : ∀ b, gvN S23 b ≤ gvN S25 b := by rw [eS25]; exact lh_mN
  have L_t : ∀ j, some t = some j → j < gvN S25 2 := fun j h => Nat.lt_of_lt_of_le (L_t j h) (m28 _)
  have L_p2 : ∀ j, p2 = some j → j < gvN S25 2 := fun j h => Nat.lt_of_lt_of_le (L_p2 j h) (m28 _)
  have hm : ∀ b, gvN S b ≤ gvN S25 b := lh_le_trans hm m28
  have ok := lh_W_ok hW
  have L29 : ∀ j, some (gvN S23 15) = some j → j < gvN S25 15 := lh_ls (by rw [eS25]; exact lh_nN)
  obtain ⟨S31, eS31, hf⟩ := dc_let_ok hf
  refine lh_put (S' := S31) (a := 2) (k := 6) (N := 7) (C := RX2) (T := TX2) (own := RX2) (ref := "LoaderModels$Loader") (ty := .array .int) hx hb hts (fun _ h => (List.mem_cons_of_mem _ (List.mem_append_right _ h))) tyX2 tyX2_ok nmX2 hown hK hW hS rfl (L_t _ rfl) rfl rfl rfl (by decide) (hts (.fieldLink RX2 27 "LoaderModels$Loader" "agreed" "[I") (List.mem_cons_of_mem _ (List.mem_append_left _ (List.mem_of_getElem? (i := 10) rfl)))) (fun _ h9 => h9) (Or.inr ⟨rfl, hin, rfl⟩) (by decide +kernel) lh_nar_a lh_fit_a (fun q9 => by rw [eS31]; exact lh_chR rfl L29 q9) dX2_init_35 (fun H locs hW hS => ?_)
  have m32 : ∀ b, gvN S25 b ≤ gvN S31 b := by rw [eS31]; exact lh_mR
  have L_t : ∀ j, some t = some j → j < gvN S31 2 := fun j h => Nat.lt_of_lt_of_le (L_t j h) (m32 _)
  have L_p2 : ∀ j, p2 = some j → j < gvN S31 2 := fun j h => Nat.lt_of_lt_of_le (L_p2 j h) (m32 _)
  have hm : ∀ b, gvN S b ≤ gvN S31 b := lh_le_trans hm m32
  have ok := lh_W_ok hW
  refine lh_aload_n hx hb dX2_init_38 rfl (lv_at hl 0 rfl) ?_
  refine lv_iload_n hx hb dX2_init_39 rfl (lv_at hl 1 rfl) ?_
  obtain ⟨S33, eS33, hf⟩ := dc_let_ok hf
  refine lh_put (S' := S33) (a := 2) (k := 0) (N := 7) (C := RX2) (T := TX2) (own := RX2) (ref := "LoaderModels$Loader") (ty := .int) hx hb hts (fun _ h => (List.mem_cons_of_mem _ (List.mem_append_right _ h))) tyX2 tyX2_ok nmX2 hown hK hW hS rfl (L_t _ rfl) rfl rfl rfl (by decide) (hts (.fieldLink RX2 31 "LoaderModels$Loader" "number" "I") (List.mem_cons_of_mem _ (List.mem_append_left _ (List.mem_of_getElem? (i := 11) rfl)))) (fun _ h9 => h9) (Or.inr ⟨rfl, hin, rfl⟩) (by decide +kernel) rfl rfl (fun q9 => by rw [eS33]; exact lh_chI rfl q9) dX2_init_40 (fun H locs hW hS => ?_)
  have m34 : ∀ b, gvN S31 b ≤ gvN S33 b := by rw [eS33]; exact lh_mI
  have L_t : ∀ j, some t = some j → j < gvN S33 2 := fun j h => Nat.lt_of_lt_of_le (L_t j h) (m34 _)
  have L_p2 : ∀ j, p2 = some j → j < gvN S33 2 := fun j h => Nat.lt_of_lt_of_le (L_p2 j h) (m34 _)
  have hm : ∀ b, gvN S b ≤ gvN S33 b := lh_le_trans hm m34
  have ok := lh_W_ok hW
  refine lh_aload_n hx hb dX2_init_43 rfl (lv_at hl 0 rfl) ?_
  refine lh_aload_n hx hb dX2_init_44 rfl (lv_at hl 2 rfl) ?_
  obtain ⟨S35, eS35, hf⟩ := dc_let_ok hf
  refine lh_put (S' := S35) (a := 2) (k := 1) (N := 7) (C := RX2) (T := TX2) (own := RX2) (ref := "LoaderModels$Loader") (ty := .object "LoaderModels$Loader") hx hb hts (fun _ h => (List.mem_cons_of_mem _ (List.mem_append_right _ h))) tyX2 tyX2_ok nmX2 hown hK hW hS rfl (L_t _ rfl) rfl rfl rfl (by decide) (hts (.fieldLink RX2 35 "LoaderModels$Loader" "parent" "LLoaderModels$Loader;") (List.mem_cons_of_mem _ (List.mem_append_left _ (List.mem_of_getElem? (i := 12) rfl)))) (fun _ h9 => h9) (Or.inr ⟨rfl, hin, rfl⟩) (by decide +kernel) lh_nar_r lh_fit_r (fun q9 => by rw [eS35]; exact lh_chR rfl L_p2 q9) dX2_init_45 (fun H locs hW hS => ?_)
  have m36 : ∀ b, gvN S33 b ≤ gvN S35 b := by rw [eS35]; exact lh_mR
  have L_t : ∀ j, some t = some j → j < gvN S35 2 := fun j h => Nat.lt_of_lt_of_le (L_t j h) (m36 _)
  have L_p2 : ∀ j, p2 = some j → j < gvN S35 2 := fun j h => Nat.lt_of_lt_of_le (L_p2 j h) (m36 _)
  have hm : ∀ b, gvN S b ≤ gvN S35 b := lh_le_trans hm m36
  have ok := lh_W_ok hW
  refine lv_iconst (v := 0) hx hb dX2_init_48 (by decide) ?_
  refine lv_istore_n (i := 3) (lv' := [(3, .int (0 : Int32)), (0, lh_r ad26 2 (some t)), (1, .int p1), (2, lh_r ad26 2 p2)]) hx hb dX2_init_49 rfl hl (by decide) (by first | rfl | simp [lh_cat_r, lh_cat_i, lh_cat_j]) (fun ls hl => ?_)
  exact L50 n S35 (0 : Int32) ad26 hf hm hE _ _ hW hS _ (lv_sub hl [1, 2, 3, 0] (by first | rfl | simp [lv_pick]))
def f_X5_init (n : Nat) (S : lh_S) (t : Nat) (p1 : Int32) (p2 : Option Nat) (p3 : Option Nat) (p4 : Option Nat) : Option (Unit × lh_S) :=
  dc_let (pvI S 5 t 4 (0 : Int32)) fun S1 =>
  dc_let (pvI S1 5 t 0 p1) fun S3 =>
  dc_let (pvR S3 5 t 1 p2) fun S5 =>
  dc_let (pvR S5 5 t 2 p3) fun S7 =>
  dc_let (pvR S7 5 t 3 p4) fun S9 =>
  some ((), S9)
set_option maxHeartbeats 1000000 in
theorem m_X5_init {n : Nat} {S : lh_S} {t : Nat} {p1 : Int32} {p2 : Option Nat} {p3 : Option Nat} {p4 : Option Nat} {r : Unit} {S' : lh_S} (hf : f_X5_init n S t p1 p2 p3 p4 = some (r, S')) : ∀ b, gvN S b ≤ gvN S' b := by
  have hm : ∀ b, gvN S b ≤ gvN S b := fun _ => Nat.le_refl _
  unfold f_X5_init at hf
  obtain ⟨S1, eS1, hf⟩ := dc_let_ok hf
  have hm := lh_le_trans hm (show ∀ b, gvN S b ≤ gvN S1 b from by rw [eS1]; exact lh_mI)
  obtain ⟨S3, eS3, hf⟩ := dc_let_ok hf
  have hm := lh_le_trans hm (show ∀ b, gvN S1 b ≤ gvN S3 b from by rw [eS3]; exact lh_mI)
  obtain ⟨S5, eS5, hf⟩ := dc_let_ok hf
  have hm := lh_le_trans hm (show ∀ b, gvN S3 b ≤ gvN S5 b from by rw [eS5]; exact lh_mR)
  obtain ⟨S7, eS7, hf⟩ := dc_let_ok hf
  have hm := lh_le_trans hm (show ∀ b, gvN S5 b ≤ gvN S7 b from by rw [eS7]; exact lh_mR)
  obtain ⟨S9, eS9, hf⟩ := dc_let_ok hf
  have hm := lh_le_trans hm (show ∀ b, gvN S7 b ≤ gvN S9 b from by rw [eS9]; exact lh_mR)
  obtain ⟨_, rfl⟩ := dc_ret hf
  exact hm
set_option maxHeartbeats 1000000 in
theorem k_X5_init {n : Nat} {S : lh_S} {t : Nat} {p1 : Int32} {p2 : Option Nat} {p3 : Option Nat} {p4 : Option Nat} {r : Unit} {S' : lh_S} (hf : f_X5_init n S t p1 p2 p3 p4 = some (r, S')) : lh_sm9 S S' := by
  have hm : lh_sm9 S S := lh_sm9_rf
  unfold f_X5_init at hf
  obtain ⟨S1, eS1, hf⟩ := dc_let_ok hf
  have hm := lh_sm9_trans hm (show lh_sm9 S S1 from by rw [eS1]; exact (lh_sm9I (by decide)))
  obtain ⟨S3, eS3, hf⟩ := dc_let_ok hf
  have hm := lh_sm9_trans hm (show lh_sm9 S1 S3 from by rw [eS3]; exact (lh_sm9I (by decide)))
  obtain ⟨S5, eS5, hf⟩ := dc_let_ok hf
  have hm := lh_sm9_trans hm (show lh_sm9 S3 S5 from by rw [eS5]; exact (lh_sm9R (by decide)))
  obtain ⟨S7, eS7, hf⟩ := dc_let_ok hf
  have hm := lh_sm9_trans hm (show lh_sm9 S5 S7 from by rw [eS7]; exact (lh_sm9R (by decide)))
  obtain ⟨S9, eS9, hf⟩ := dc_let_ok hf
  have hm := lh_sm9_trans hm (show lh_sm9 S7 S9 from by rw [eS9]; exact (lh_sm9R (by decide)))
  obtain ⟨_, rfl⟩ := dc_ret hf
  exact hm
set_option maxHeartbeats 4000000 in
set_option maxRecDepth 100000 in
theorem c_X5_init (l : Launch) (D : va_G) (cT : Nat → ClassId) (n : Nat) (S : lh_S) (ad : Nat → Nat → Nat) (A : Nat → Prop) (sz : Nat) (hA : ∀ q, sz ≤ q → A q) (t : Nat) (p1 : Int32) (p2 : Option Nat) (p3 : Option Nat) (p4 : Option Nat) (r : Unit) (S' : lh_S) (hf : f_X5_init n S t p1 p2 p3 p4 = some (r, S')) (L_t : ∀ j, some t = some j → j < gvN S 5) (L_p2 : ∀ j, p2 = some j → j < gvN S 2) (L_p3 : ∀ j, p3 = some j → j < gvN S 1) (L_p4 : ∀ j, p4 = some j → j < gvN S 5) : Met l yX5_init wsX5_init ({ frames := 1, cells := 0, slots := 0, locals := 20 } : Room) (lh_P D cT S ad A sz [lh_r ad 5 (some t), .int p1, lh_r ad 2 p2, lh_r ad 1 p3, lh_r ad 5 p4]) (lh_Q D cT S' ad A ((∀ b, gvN S b ≤ gvN S' b) ∧ True) (none)) 0 0 A := by
  refine Met.ofW (cc := cX5_init) (maxL := 5) (ret := none) (by decide) rfl ?_
  intro p e s m args below meth c s₁ B hml hv
  obtain ⟨hargs, hsz, hW, hK, hN⟩ := hv
  have hx := B.exec
  have hb := B.bytes
  have hr := B.returns
  have hts := atoms_spec (ws := wsX5_init) B.pre
  have hown : s.vm.findClass RX5 = some m.cls := findClass_of_methodNamed B.named
  have hlocks := B.notSynchronized
  have hin : meth.name = "<init>" := (name_of_methodNamed B.named B.method).1
  have hA : ∀ q, s.heap.size ≤ q → A q := fun q h => hA q (by rw [← hsz]; exact h)
  have ok := lh_W_ok hW
  have hm : ∀ b, gvN S b ≤ gvN S b := fun _ => Nat.le_refl _
  obtain ⟨ls, hent, hl⟩ := lh_entry m args [lh_r ad 5 (some t), .int p1, lh_r ad 2 p2, lh_r ad 1 p3, lh_r ad 5 p4] 5 [(0, lh_r ad 5 (some t)), (1, .int p1), (2, lh_r ad 2 p2), (3, lh_r ad 1 p3), (4, lh_r ad 5 p4)] hargs (by simp [lv_args, lh_cat_r, lh_cat_i, lh_cat_j]) (by simp [lg_sl, lh_cat_r, lh_cat_i, lh_cat_j])
  rw [hent]
  generalize hH : s.heap = H at hW ⊢
  have hS : va_S A s.heap H [] := by rw [← hH]; exact va_S.rf
  unfold f_X5_init at hf
  refine lh_aload_n hx hb dX5_init_0 rfl (lv_at hl 0 rfl) ?_
  refine W.objInit hx hb hown (hts (.methodLink RX5 3 objectInit) (List.mem_cons_of_mem _ (List.mem_append_left _ (List.mem_of_getElem? (i := 0) rfl)))) (hts (.instanceMethod objectInit) (List.mem_cons_of_mem _ (List.mem_append_left _ (List.mem_of_getElem? (i := 1) rfl)))) (hts (.code objectInit ⟨#[0xb1]⟩ 1 none) (List.mem_cons_of_mem _ (List.mem_append_left _ (List.mem_of_getElem? (i := 2) rfl)))) rfl (by rw [hml]; exact hl.1) rfl dX5_init_1 (Nat.le_of_ble_eq_true rfl) (Nat.le_of_ble_eq_true rfl) ?_
  refine W.eq (g2 := F0 m 4 ls []) rfl ?_
  refine lh_aload_n hx hb dX5_init_4 rfl (lv_at hl 0 rfl) ?_
  refine lv_iconst (v := 0) hx hb dX5_init_5 (by decide) ?_
  obtain ⟨S1, eS1, hf⟩ := dc_let_ok hf
  refine lh_put (S' := S1) (a := 5) (k := 4) (N := 6) (C := RX5) (T := TX5) (own := RX5) (ref := "LoaderModels$Model") (ty := .int) hx hb hts (fun _ h => (List.mem_cons_of_mem _ (List.mem_append_right _ h))) tyX5 tyX5_ok nmX5 hown hK hW hS rfl (L_t _ rfl) rfl rfl rfl (by decide) (hts (.fieldLink RX5 9 "LoaderModels$Model" "state" "I") (List.mem_cons_of_mem _ (List.mem_append_left _ (List.mem_of_getElem? (i := 3) rfl)))) (fun _ h9 => h9) (Or.inl rfl) (by decide +kernel) rfl rfl (fun q9 => by rw [eS1]; exact lh_chI rfl q9) dX5_init_6 (fun H locs hW hS => ?_)
  have m2 : ∀ b, gvN S b ≤ gvN S1 b := by rw [eS1]; exact lh_mI
  have L_t : ∀ j, some t = some j → j < gvN S1 5 := fun j h => Nat.lt_of_lt_of_le (L_t j h) (m2 _)
  have L_p2 : ∀ j, p2 = some j → j < gvN S1 2 := fun j h => Nat.lt_of_lt_of_le (L_p2 j h) (m2 _)
  have L_p3 : ∀ j, p3 = some j → j < gvN S1 1 := fun j h => Nat.lt_of_lt_of_le (L_p3 j h) (m2 _)
  have L_p4 : ∀ j, p4 = some j → j < gvN S1 5 := fun j h => Nat.lt_of_lt_of_le (L_p4 j h) (m2 _)
  have hm : ∀ b, gvN S b ≤ gvN S1 b := lh_le_trans hm m2
  have ok := lh_W_ok hW
  refine lh_aload_n hx hb dX5_init_9 rfl (lv_at hl 0 rfl) ?_
  refine lv_iload_n hx hb dX5_init_10 rfl (lv_at hl 1 rfl) ?_
  obtain ⟨S3, eS3, hf⟩ := dc_let_ok hf
  refine lh_put (S' := S3) (a := 5) (k := 0) (N := 6) (C := RX5) (T := TX5) (own := RX5) (ref := "LoaderModels$Model") (ty := .int) hx hb hts (fun _ h => (List.mem_cons_of_mem _ (List.mem_append_right _ h))) tyX5 tyX5_ok nmX5 hown hK hW hS rfl (L_t _ rfl) rfl rfl rfl (by decide) (hts (.fieldLink RX5 15 "LoaderModels$Model" "number" "I") (List.mem_cons_of_mem _ (List.mem_append_left _ (List.mem_of_getElem? (i := 4) rfl)))) (fun _ h9 => h9) (Or.inr ⟨rfl, hin, rfl⟩) (by decide +kernel) rfl rfl (fun q9 => by rw [eS3]; exact lh_chI rfl q9) dX5_init_11 (fun H locs hW hS => ?_)
  have m4 : ∀ b, gvN S1 b ≤ gvN S3 b := by rw [eS3]; exact lh_mI
  have L_t : ∀ j, some t = some j → j < gvN S3 5 := fun j h => Nat.lt_of_lt_of_le (L_t j h) (m4 _)
  have L_p2 : ∀ j, p2 = some j → j < gvN S3 2 := fun j h => Nat.lt_of_lt_of_le (L_p2 j h) (m4 _)
  have L_p3 : ∀ j, p3 = some j → j < gvN S3 1 := fun j h => Nat.lt_of_lt_of_le (L_p3 j h) (m4 _)
  have L_p4 : ∀ j, p4 = some j → j < gvN S3 5 := fun j h => Nat.lt_of_lt_of_le (L_p4 j h) (m4 _)
  have hm : ∀ b, gvN S b ≤ gvN S3 b := lh_le_trans hm m4
  have ok := lh_W_ok hW
  refine lh_aload_n hx hb dX5_init_14 rfl (lv_at hl 0 rfl) ?_
  refine lh_aload_n hx hb dX5_init_15 rfl (lv_at hl 2 rfl) ?_
  obtain ⟨S5, eS5, hf⟩ := dc_let_ok hf
  refine lh_put (S' := S5) (a := 5) (k := 1) (N := 6) (C := RX5) (T := TX5) (own := RX5) (ref := "LoaderModels$Model") (ty := .object "LoaderModels$Loader") hx hb hts (fun _ h => (List.mem_cons_of_mem _ (List.mem_append_right _ h))) tyX5 tyX5_ok nmX5 hown hK hW hS rfl (L_t _ rfl) rfl rfl rfl (by decide) (hts (.fieldLink RX5 18 "LoaderModels$Model" "definer" "LLoaderModels$Loader;") (List.mem_cons_of_mem _ (List.mem_append_left _ (List.mem_of_getElem? (i := 5) rfl)))) (fun _ h9 => h9) (Or.inr ⟨rfl, hin, rfl⟩) (by decide +kernel) lh_nar_r lh_fit_r (fun q9 => by rw [eS5]; exact lh_chR rfl L_p2 q9) dX5_init_16 (fun H locs hW hS => ?_)
  have m6 : ∀ b, gvN S3 b ≤ gvN S5 b := by rw [eS5]; exact lh_mR
  have L_t : ∀ j, some t = some j → j < gvN S5 5 := fun j h => Nat.lt_of_lt_of_le (L_t j h) (m6 _)
  have L_p2 : ∀ j, p2 = some j → j < gvN S5 2 := fun j h => Nat.lt_of_lt_of_le (L_p2 j h) (m6 _)
  have L_p3 : ∀ j, p3 = some j → j < gvN S5 1 := fun j h => Nat.lt_of_lt_of_le (L_p3 j h) (m6 _)
  have L_p4 : ∀ j, p4 = some j → j < gvN S5 5 := fun j h => Nat.lt_of_lt_of_le (L_p4 j h) (m6 _)
  have hm : ∀ b, gvN S b ≤ gvN S5 b := lh_le_trans hm m6
  have ok := lh_W_ok hW
  refine lh_aload_n hx hb dX5_init_19 rfl (lv_at hl 0 rfl) ?_
  refine lh_aload_n hx hb dX5_init_20 rfl (lv_at hl 3 rfl) ?_
  obtain ⟨S7, eS7, hf⟩ := dc_let_ok hf
  refine lh_put (S' := S7) (a := 5) (k := 2) (N := 6) (C := RX5) (T := TX5) (own := RX5) (ref := "LoaderModels$Model") (ty := .object "LoaderModels$ClassFile") hx hb hts (fun _ h => (List.mem_cons_of_mem _ (List.mem_append_right _ h))) tyX5 tyX5_ok nmX5 hown hK hW hS rfl (L_t _ rfl) rfl rfl rfl (by decide) (hts (.fieldLink RX5 22 "LoaderModels$Model" "file" "LLoaderModels$ClassFile;") (List.mem_cons_of_mem _ (List.mem_append_left _ (List.mem_of_getElem? (i := 6) rfl)))) (fun _ h9 => h9) (Or.inr ⟨rfl, hin, rfl⟩) (by decide +kernel) lh_nar_r lh_fit_r (fun q9 => by rw [eS7]; exact lh_chR rfl L_p3 q9) dX5_init_21 (fun H locs hW hS => ?_)
  have m8 : ∀ b, gvN S5 b ≤ gvN S7 b := by rw [eS7]; exact lh_mR
  have L_t : ∀ j, some t = some j → j < gvN S7 5 := fun j h => Nat.lt_of_lt_of_le (L_t j h) (m8 _)
  have L_p2 : ∀ j, p2 = some j → j < gvN S7 2 := fun j h => Nat.lt_of_lt_of_le (L_p2 j h) (m8 _)
  have L_p3 : ∀ j, p3 = some j → j < gvN S7 1 := fun j h => Nat.lt_of_lt_of_le (L_p3 j h) (m8 _)
  have L_p4 : ∀ j, p4 = some j → j < gvN S7 5 := fun j h => Nat.lt_of_lt_of_le (L_p4 j h) (m8 _)
  have hm : ∀ b, gvN S b ≤ gvN S7 b := lh_le_trans hm m8
  have ok := lh_W_ok hW
  refine lh_aload_n hx hb dX5_init_24 rfl (lv_at hl 0 rfl) ?_
  refine lh_aload hx hb dX5_init_25 (lv_at hl 4 rfl) ?_
  obtain ⟨S9, eS9, hf⟩ := dc_let_ok hf
  refine lh_put (S' := S9) (a := 5) (k := 3) (N := 6) (C := RX5) (T := TX5) (own := RX5) (ref := "LoaderModels$Model") (ty := .object "LoaderModels$Model") hx hb hts (fun _ h => (List.mem_cons_of_mem _ (List.mem_append_right _ h))) tyX5 tyX5_ok nmX5 hown hK hW hS rfl (L_t _ rfl) rfl rfl rfl (by decide) (hts (.fieldLink RX5 26 "LoaderModels$Model" "above" "LLoaderModels$Model;") (List.mem_cons_of_mem _ (List.mem_append_left _ (List.mem_of_getElem? (i := 7) rfl)))) (fun _ h9 => h9) (Or.inr ⟨rfl, hin, rfl⟩) (by decide +kernel) lh_nar_r lh_fit_r (fun q9 => by rw [eS9]; exact lh_chR rfl L_p4 q9) dX5_init_27 (fun H locs hW hS => ?_)
  have m10 : ∀ b, gvN S7 b ≤ gvN S9 b := by rw [eS9]; exact lh_mR
  have L_t : ∀ j, some t = some j → j < gvN S9 5 := fun j h => Nat.lt_of_lt_of_le (L_t j h) (m10 _)
  have L_p2 : ∀ j, p2 = some j → j < gvN S9 2 := fun j h => Nat.lt_of_lt_of_le (L_p2 j h) (m10 _)
  have L_p3 : ∀ j, p3 = some j → j < gvN S9 1 := fun j h => Nat.lt_of_lt_of_le (L_p3 j h) (m10 _)
  have L_p4 : ∀ j, p4 = some j → j < gvN S9 5 := fun j h => Nat.lt_of_lt_of_le (L_p4 j h) (m10 _)
  have hm : ∀ b, gvN S b ≤ gvN S9 b := lh_le_trans hm m10
  have ok := lh_W_ok hW
  obtain ⟨rfl, rfl⟩ := dc_ret hf
  exact W.vret hx hb hr (fun t9 ht9 hW9 => ⟨⟨rfl, ⟨hm, trivial⟩, by rw [ht9]; exact hW⟩, hS.F ht9⟩) hS.2.2 dX5_init_30
def f_X7_init_L18 (n : Nat) (t : Nat) (p1 : Option Nat) (p2 : Int32) : Nat → lh_S → Int32 → Option (Unit × lh_S)
  | 0, _, _ => none
  | g + 1, S12, v14 =>
  dc_if (p2 ≤ v14) (
  some ((), S12)) (
  dc_nn (gvR S12 7 t 1) fun x17 =>
  dc_gd (v14 < 0 ∨ gvL S12 20 x17 ≤ (v14).toNatClampNeg) (
  dc_let (pvI S12 20 x17 (v14).toNatClampNeg (-1 : Int32)) fun S19 =>
  f_X7_init_L18 n t p1 p2 g S19 (v14 + (1 : Int32))))
theorem m_X7_init_L18 {n : Nat} {t : Nat} {p1 : Option Nat} {p2 : Int32} {r : Unit} {S' : lh_S} : ∀ (g : Nat) (S12 : lh_S) (v14 : Int32), f_X7_init_L18 n t p1 p2 g S12 v14 = some (r, S') → ∀ b, gvN S12 b ≤ gvN S' b := by
    intro g
    induction g with
    | zero => intro S12 v14 hf; rw [f_X7_init_L18] at hf; cases hf
    | succ g ih =>
      intro S12 v14 hf
      rw [f_X7_init_L18] at hf
      have hm : ∀ b, gvN S12 b ≤ gvN S12 b := fun _ => Nat.le_refl _
      by_cases c15 : p2 ≤ v14
      · replace hf := dc_if_t c15 hf
        obtain ⟨_, rfl⟩ := dc_ret hf
        exact hm
      · replace hf := dc_if_f c15 hf
        obtain ⟨x17, hx17, hf⟩ := dc_nn_ok hf
        obtain ⟨g18, hf⟩ := dc_gd_ok hf
        obtain ⟨S19, eS19, hf⟩ := dc_let_ok hf
        have hm := lh_le_trans hm (show ∀ b, gvN S12 b ≤ gvN S19 b from by rw [eS19]; exact lh_mI)
        exact lh_le_trans hm (ih S19 (v14 + (1 : Int32)) hf)
theorem k_X7_init_L18 {n : Nat} {t : Nat} {p1 : Option Nat} {p2 : Int32} {r : Unit} {S' : lh_S} : ∀ (g : Nat) (S12 : lh_S) (v14 : Int32), f_X7_init_L18 n t p1 p2 g S12 v14 = some (r, S') → lh_sm9 S12 S' := by
    intro g
    induction g with
    | zero => intro S12 v14 hf; rw [f_X7_init_L18] at hf; cases hf
    | succ g ih =>
      intro S12 v14 hf
      rw [f_X7_init_L18] at hf
      have hm : lh_sm9 S12 S12 := lh_sm9_rf
      by_cases c15 : p2 ≤ v14
      · replace hf := dc_if_t c15 hf
        obtain ⟨_, rfl⟩ := dc_ret hf
        exact hm
      · replace hf := dc_if_f c15 hf
        obtain ⟨x17, hx17, hf⟩ := dc_nn_ok hf
        obtain ⟨g18, hf⟩ := dc_gd_ok hf
        obtain ⟨S19, eS19, hf⟩ := dc_let_ok hf
        have hm := lh_sm9_trans hm (show lh_sm9 S12 S19 from by rw [eS19]; exact (lh_sm9I (by decide)))
        exact lh_sm9_trans hm (ih S19 (v14 + (1 : Int32)) hf)
def f_X7_init (n : Nat) (S : lh_S) (t : Nat) (p1 : Option Nat) (p2 : Int32) : Option (Unit × lh_S) :=
  dc_let (pvR S 7 t 0 p1) fun S1 =>
  dc_gd (p2 < 0 ∨ 8 < (p2).toNatClampNeg) (
  dc_let (pvN S1 20 (p2).toNatClampNeg) fun S3 =>
  dc_let (pvR S3 7 t 1 (some (gvN S1 20))) fun S10 =>
  f_X7_init_L18 n t p1 p2 n S10 (0 : Int32))
set_option maxHeartbeats 1000000 in
theorem m_X7_init {n : Nat} {S : lh_S} {t : Nat} {p1 : Option Nat} {p2 : Int32} {r : Unit} {S' : lh_S} (hf : f_X7_init n S t p1 p2 = some (r, S')) : ∀ b, gvN S b ≤ gvN S' b := by
  have hm : ∀ b, gvN S b ≤ gvN S b := fun _ => Nat.le_refl _
  unfold f_X7_init at hf
  obtain ⟨S1, eS1, hf⟩ := dc_let_ok hf
  have hm := lh_le_trans hm (show ∀ b, gvN S b ≤ gvN S1 b from by rw [eS1]; exact lh_mR)
  obtain ⟨g6, hf⟩ := dc_gd_ok hf
  obtain ⟨S3, eS3, hf⟩ := dc_let_ok hf
  have hm := lh_le_trans hm (show ∀ b, gvN S1 b ≤ gvN S3 b from by rw [eS3]; exact lh_mN)
  obtain ⟨S10, eS10, hf⟩ := dc_let_ok hf
  have hm := lh_le_trans hm (show ∀ b, gvN S3 b ≤ gvN S10 b from by rw [eS10]; exact lh_mR)
  exact lh_le_trans hm (m_X7_init_L18 n S10 (0 : Int32) hf)
set_option maxHeartbeats 1000000 in
theorem k_X7_init {n : Nat} {S : lh_S} {t : Nat} {p1 : Option Nat} {p2 : Int32} {r : Unit} {S' : lh_S} (hf : f_X7_init n S t p1 p2 = some (r, S')) : lh_sm9 S S' := by
  have hm : lh_sm9 S S := lh_sm9_rf
  unfold f_X7_init at hf
  obtain ⟨S1, eS1, hf⟩ := dc_let_ok hf
  have hm := lh_sm9_trans hm (show lh_sm9 S S1 from by rw [eS1]; exact (lh_sm9R (by decide)))
  obtain ⟨g6, hf⟩ := dc_gd_ok hf
  obtain ⟨S3, eS3, hf⟩ := dc_let_ok hf
  have hm := lh_sm9_trans hm (show lh_sm9 S1 S3 from by rw [eS3]; exact (lh_sm9N (by decide)))
  obtain ⟨S10, eS10, hf⟩ := dc_let_ok hf
  have hm := lh_sm9_trans hm (show lh_sm9 S3 S10 from by rw [eS10]; exact (lh_sm9R (by decide)))
  exact lh_sm9_trans hm (k_X7_init_L18 n S10 (0 : Int32) hf)
set_option maxHeartbeats 4000000 in
set_option maxRecDepth 100000 in
theorem c_X7_init (l : Launch) (D : va_G) (cT : Nat → ClassId) (n : Nat) (S : lh_S) (ad : Nat → Nat → Nat) (A : Nat → Prop) (sz : Nat) (hA : ∀ q, sz ≤ q → A q) (t : Nat) (p1 : Option Nat) (p2 : Int32) (r : Unit) (S' : lh_S) (hf : f_X7_init n S t p1 p2 = some (r, S')) (L_t : ∀ j, some t = some j → j < gvN S 7) (L_p1 : ∀ j, p1 = some j → j < gvN S 5) : Met l yX7_init wsX7_init ({ frames := 1, cells := 1, slots := 8, locals := 20 } : Room) (lh_P D cT S ad A sz [lh_r ad 7 (some t), lh_r ad 5 p1, .int p2]) (lh_QA D cT S S' ad A ((∀ b, gvN S b ≤ gvN S' b) ∧ True) (fun ad9 => none)) 1 8 A := by
  refine Met.ofW (cc := cX7_init) (maxL := 4) (ret := none) (by decide) rfl ?_
  intro p e s m args below meth c s₁ B hml hv
  obtain ⟨hargs, hsz, hW, hK, hN⟩ := hv
  have hx := B.exec
  have hb := B.bytes
  have hr := B.returns
  have hts := atoms_spec (ws := wsX7_init) B.pre
  have hown : s.vm.findClass RX7 = some m.cls := findClass_of_methodNamed B.named
  have hlocks := B.notSynchronized
  have hin : meth.name = "<init>" := (name_of_methodNamed B.named B.method).1
  have hA : ∀ q, s.heap.size ≤ q → A q := fun q h => hA q (by rw [← hsz]; exact h)
  have L18 : ∀ (g : Nat) (S12 : lh_S) (v14 : Int32) (ad13 : Nat → Nat → Nat), f_X7_init_L18 n t p1 p2 g S12 v14 = some (r, S') → (∀ b, gvN S b ≤ gvN S12 b) → lh_E S ad ad13 → ∀ (H : Heap) (locs : List Loc), lh_W D cT S12 ad13 A H → va_S A s.heap H locs → ∀ (ls : Array Slot), lv_has ls 4 [(0, lh_r ad13 7 (some t)), (1, lh_r ad13 5 p1), (2, .int p2), (3, .int v14)] → W p l e (headSpec wsX7_init ({ frames := 1, cells := 1, slots := 8, locals := 20 } : Room)).room s m args below meth c H locs 1 8 (MQ below (lh_QA D cT S S' ad A ((∀ b, gvN S b ≤ gvN S' b) ∧ True) (fun ad9 => none)) args s 1 8 A) (F0 m 18 ls []) := by
    intro g
    induction g with
    | zero => intro S12 v14 ad13 hf; rw [f_X7_init_L18] at hf; cases hf
    | succ g ih =>
      intro S12 v14 ad13 hf hm hE H locs hW hS ls hl
      rw [f_X7_init_L18] at hf
      have ok := lh_W_ok hW
      have L_t : ∀ j, some t = some j → j < gvN S12 7 := fun j h => Nat.lt_of_lt_of_le (L_t j h) (hm _)
      have L_p1 : ∀ j, p1 = some j → j < gvN S12 5 := fun j h => Nat.lt_of_lt_of_le (L_p1 j h) (hm _)
      refine lv_iload_n hx hb dX7_init_18 rfl (lv_at hl 3 rfl) ?_
      refine lv_iload_n hx hb dX7_init_19 rfl (lv_at hl 2 rfl) ?_
      refine lv_icmp_ge (tgt := 36) hx hb dX7_init_20 (by decide) (fun c15 => ?_) (fun c15 => ?_)
      · replace hf := dc_if_t c15 hf
        obtain ⟨rfl, rfl⟩ := dc_ret hf
        exact W.vret hx hb hr (fun t9 ht9 hW9 => ⟨⟨ad13, hE, rfl, ⟨hm, trivial⟩, by rw [ht9]; exact hW⟩, hS.F ht9⟩) hS.2.2 dX7_init_36
      · replace hf := dc_if_f c15 hf
        refine lh_aload_n hx hb dX7_init_23 rfl (lv_at hl 0 rfl) ?_
        have L16 : ∀ j, gvR S12 7 t 1 = some j → j < gvN S12 20 := fun j h => ok _ _ _ _ j (L_t _ rfl) rfl h
        refine lh_get (a := 7) (k := 1) (N := 2) (C := RX7) (T := TX7) (own := RX7) (ref := "LoaderModels$Row") hx hb hts (fun _ h => (List.mem_cons_of_mem _ (List.mem_append_right _ h))) hown hK hW rfl (L_t _ rfl) rfl rfl rfl (by decide) (hts (.fieldLink RX7 15 "LoaderModels$Row" "items" "[I") (List.mem_cons_of_mem _ (List.mem_append_left _ (List.mem_of_getElem? (i := 5) rfl)))) (fun _ h9 => h9) dX7_init_24 (v := lh_r ad13 20 (gvR S12 7 t 1)) rfl ?_
        refine lv_iload_n hx hb dX7_init_27 rfl (lv_at hl 3 rfl) ?_
        refine lv_iconst (v := -1) hx hb dX7_init_28 (by decide) ?_
        obtain ⟨x17, hx17, hf⟩ := dc_nn_ok hf
        obtain ⟨g18, hf⟩ := dc_gd_ok hf
        obtain ⟨S19, eS19, hf⟩ := dc_let_ok hf
        refine lh_ast_i (a := 20) hx hb hK hW hS hx17 (L16 _ hx17) rfl (fun _ => rfl) g18 dX7_init_29 (fun H locs hW hS => ?_)
        rw [← eS19] at hW
        have m20 : ∀ b, gvN S12 b ≤ gvN S19 b := by rw [eS19]; exact lh_mI
        have L_t : ∀ j, some t = some j → j < gvN S19 7 := fun j h => Nat.lt_of_lt_of_le (L_t j h) (m20 _)
        have L_p1 : ∀ j, p1 = some j → j < gvN S19 5 := fun j h => Nat.lt_of_lt_of_le (L_p1 j h) (m20 _)
        have hm : ∀ b, gvN S b ≤ gvN S19 b := lh_le_trans hm m20
        have ok := lh_W_ok hW
        refine lv_iinc (v := v14 + (1 : Int32)) (lv' := [(3, .int (v14 + (1 : Int32))), (0, lh_r ad13 7 (some t)), (1, lh_r ad13 5 p1), (2, .int p2)]) hx hb dX7_init_30 hl (k := 3) rfl (by first | rfl | decide) (by decide) (by first | rfl | simp [lh_cat_r, lh_cat_i, lh_cat_j]) (fun ls hl => ?_)
        refine lv_goto (tgt := 18) hx hb dX7_init_33 (by decide) ?_
        exact ih S19 (v14 + (1 : Int32)) ad13 hf hm hE _ _ hW hS _ (lv_sub hl [1, 2, 3, 0] (by first | rfl | simp [lv_pick]))
  have ok := lh_W_ok hW
  have hm : ∀ b, gvN S b ≤ gvN S b := fun _ => Nat.le_refl _
  have hE : lh_E S ad ad := lh_E.rf
  obtain ⟨ls, hent, hl⟩ := lh_entry m args [lh_r ad 7 (some t), lh_r ad 5 p1, .int p2] 4 [(0, lh_r ad 7 (some t)), (1, lh_r ad 5 p1), (2, .int p2)] hargs (by simp [lv_args, lh_cat_r, lh_cat_i, lh_cat_j]) (by simp [lg_sl, lh_cat_r, lh_cat_i, lh_cat_j])
  rw [hent]
  generalize hH : s.heap = H at hW ⊢
  have hS : va_S A s.heap H [] := by rw [← hH]; exact va_S.rf
  unfold f_X7_init at hf
  refine lh_aload_n hx hb dX7_init_0 rfl (lv_at hl 0 rfl) ?_
  refine W.objInit hx hb hown (hts (.methodLink RX7 3 objectInit) (List.mem_cons_of_mem _ (List.mem_append_left _ (List.mem_of_getElem? (i := 0) rfl)))) (hts (.instanceMethod objectInit) (List.mem_cons_of_mem _ (List.mem_append_left _ (List.mem_of_getElem? (i := 1) rfl)))) (hts (.code objectInit ⟨#[0xb1]⟩ 1 none) (List.mem_cons_of_mem _ (List.mem_append_left _ (List.mem_of_getElem? (i := 2) rfl)))) rfl (by rw [hml]; exact hl.1) rfl dX7_init_1 (Nat.le_of_ble_eq_true rfl) (Nat.le_of_ble_eq_true rfl) ?_
  refine W.eq (g2 := F0 m 4 ls []) rfl ?_
  refine lh_aload_n hx hb dX7_init_4 rfl (lv_at hl 0 rfl) ?_
  refine lh_aload_n hx hb dX7_init_5 rfl (lv_at hl 1 rfl) ?_
  obtain ⟨S1, eS1, hf⟩ := dc_let_ok hf
  refine lh_put (S' := S1) (a := 7) (k := 0) (N := 2) (C := RX7) (T := TX7) (own := RX7) (ref := "LoaderModels$Row") (ty := .object "LoaderModels$Model") hx hb hts (fun _ h => (List.mem_cons_of_mem _ (List.mem_append_right _ h))) tyX7 tyX7_ok nmX7 hown hK hW hS rfl (L_t _ rfl) rfl rfl rfl (by decide) (hts (.fieldLink RX7 9 "LoaderModels$Row" "model" "LLoaderModels$Model;") (List.mem_cons_of_mem _ (List.mem_append_left _ (List.mem_of_getElem? (i := 3) rfl)))) (fun _ h9 => h9) (Or.inr ⟨rfl, hin, rfl⟩) (by decide +kernel) lh_nar_r lh_fit_r (fun q9 => by rw [eS1]; exact lh_chR rfl L_p1 q9) dX7_init_6 (fun H locs hW hS => ?_)
  have m2 : ∀ b, gvN S b ≤ gvN S1 b := by rw [eS1]; exact lh_mR
  have L_t : ∀ j, some t = some j → j < gvN S1 7 := fun j h => Nat.lt_of_lt_of_le (L_t j h) (m2 _)
  have L_p1 : ∀ j, p1 = some j → j < gvN S1 5 := fun j h => Nat.lt_of_lt_of_le (L_p1 j h) (m2 _)
  have hm : ∀ b, gvN S b ≤ gvN S1 b := lh_le_trans hm m2
  have ok := lh_W_ok hW
  refine lh_aload_n hx hb dX7_init_9 rfl (lv_at hl 0 rfl) ?_
  refine lv_iload_n hx hb dX7_init_10 rfl (lv_at hl 2 rfl) ?_
  obtain ⟨g6, hf⟩ := dc_gd_ok hf
  have g6l : (p2).toNatClampNeg ≤ 8 := by omega
  obtain ⟨S3, eS3, hf⟩ := dc_let_ok hf
  refine lh_newa (ty := .int) (atype := .int) (n := p2) (a := 20) (t0 := 0) (N' := (p2).toNatClampNeg) hx hb (hts (.arrayClass .int) (List.mem_cons_of_mem _ (List.mem_append_left _ (List.mem_of_getElem? (i := 4) rfl)))) rfl hK hW hS hA rfl rfl (fun _ _ h => h) (Or.inl ⟨rfl, rfl⟩) (fun q9 => g6 (Or.inl q9)) rfl (by simp only [componentBytes]; omega) (Nat.le_of_ble_eq_true rfl) (by show 0 + (p2).toNatClampNeg ≤ 8; omega) dX7_init_11 (fun ad4 H hE5 hW hS => ?_)
  refine W.widen (k := 1) (n := 8) (by omega) (by omega) ?_
  rw [lh_rE hE5 L_t] at hl
  rw [lh_rE hE5 L_p1] at hl
  rw [lh_rE hE5 L_t]
  have hE : lh_E S ad ad4 := lh_E.trans hE hm hE5
  rw [← eS3] at hW
  have m7 : ∀ b, gvN S1 b ≤ gvN S3 b := by rw [eS3]; exact lh_mN
  have L_t : ∀ j, some t = some j → j < gvN S3 7 := fun j h => Nat.lt_of_lt_of_le (L_t j h) (m7 _)
  have L_p1 : ∀ j, p1 = some j → j < gvN S3 5 := fun j h => Nat.lt_of_lt_of_le (L_p1 j h) (m7 _)
  have hm : ∀ b, gvN S b ≤ gvN S3 b := lh_le_trans hm m7
  have ok := lh_W_ok hW
  have L8 : ∀ j, some (gvN S1 20) = some j → j < gvN S3 20 := lh_ls (by rw [eS3]; exact lh_nN)
  obtain ⟨S10, eS10, hf⟩ := dc_let_ok hf
  refine lh_put (S' := S10) (a := 7) (k := 1) (N := 2) (C := RX7) (T := TX7) (own := RX7) (ref := "LoaderModels$Row") (ty := .array .int) hx hb hts (fun _ h => (List.mem_cons_of_mem _ (List.mem_append_right _ h))) tyX7 tyX7_ok nmX7 hown hK hW hS rfl (L_t _ rfl) rfl rfl rfl (by decide) (hts (.fieldLink RX7 15 "LoaderModels$Row" "items" "[I") (List.mem_cons_of_mem _ (List.mem_append_left _ (List.mem_of_getElem? (i := 5) rfl)))) (fun _ h9 => h9) (Or.inr ⟨rfl, hin, rfl⟩) (by decide +kernel) lh_nar_a lh_fit_a (fun q9 => by rw [eS10]; exact lh_chR rfl L8 q9) dX7_init_13 (fun H locs hW hS => ?_)
  have m11 : ∀ b, gvN S3 b ≤ gvN S10 b := by rw [eS10]; exact lh_mR
  have L_t : ∀ j, some t = some j → j < gvN S10 7 := fun j h => Nat.lt_of_lt_of_le (L_t j h) (m11 _)
  have L_p1 : ∀ j, p1 = some j → j < gvN S10 5 := fun j h => Nat.lt_of_lt_of_le (L_p1 j h) (m11 _)
  have hm : ∀ b, gvN S b ≤ gvN S10 b := lh_le_trans hm m11
  have ok := lh_W_ok hW
  refine lv_iconst (v := 0) hx hb dX7_init_16 (by decide) ?_
  refine lv_istore_n (i := 3) (lv' := [(3, .int (0 : Int32)), (0, lh_r ad4 7 (some t)), (1, lh_r ad4 5 p1), (2, .int p2)]) hx hb dX7_init_17 rfl hl (by decide) (by first | rfl | simp [lh_cat_r, lh_cat_i, lh_cat_j]) (fun ls hl => ?_)
  exact L18 n S10 (0 : Int32) ad4 hf hm hE _ _ hW hS _ (lv_sub hl [1, 2, 3, 0] (by first | rfl | simp [lv_pick]))
def f_X3_init (n : Nat) (S : lh_S) (t : Nat) : Option (Unit × lh_S) :=
  dc_let (pvN S 16 8) fun S1 =>
  dc_let (pvR S1 3 t 0 (some (gvN S 16))) fun S7 =>
  some ((), S7)
set_option maxHeartbeats 1000000 in
theorem m_X3_init {n : Nat} {S : lh_S} {t : Nat} {r : Unit} {S' : lh_S} (hf : f_X3_init n S t = some (r, S')) : ∀ b, gvN S b ≤ gvN S' b := by
  have hm : ∀ b, gvN S b ≤ gvN S b := fun _ => Nat.le_refl _
  unfold f_X3_init at hf
  obtain ⟨S1, eS1, hf⟩ := dc_let_ok hf
  have hm := lh_le_trans hm (show ∀ b, gvN S b ≤ gvN S1 b from by rw [eS1]; exact lh_mN)
  obtain ⟨S7, eS7, hf⟩ := dc_let_ok hf
  have hm := lh_le_trans hm (show ∀ b, gvN S1 b ≤ gvN S7 b from by rw [eS7]; exact lh_mR)
  obtain ⟨_, rfl⟩ := dc_ret hf
  exact hm
set_option maxHeartbeats 1000000 in
theorem k_X3_init {n : Nat} {S : lh_S} {t : Nat} {r : Unit} {S' : lh_S} (hf : f_X3_init n S t = some (r, S')) : lh_sm9 S S' := by
  have hm : lh_sm9 S S := lh_sm9_rf
  unfold f_X3_init at hf
  obtain ⟨S1, eS1, hf⟩ := dc_let_ok hf
  have hm := lh_sm9_trans hm (show lh_sm9 S S1 from by rw [eS1]; exact (lh_sm9N (by decide)))
  obtain ⟨S7, eS7, hf⟩ := dc_let_ok hf
  have hm := lh_sm9_trans hm (show lh_sm9 S1 S7 from by rw [eS7]; exact (lh_sm9R (by decide)))
  obtain ⟨_, rfl⟩ := dc_ret hf
  exact hm
set_option maxHeartbeats 4000000 in
set_option maxRecDepth 100000 in
theorem c_X3_init (l : Launch) (D : va_G) (cT : Nat → ClassId) (n : Nat) (S : lh_S) (ad : Nat → Nat → Nat) (A : Nat → Prop) (sz : Nat) (hA : ∀ q, sz ≤ q → A q) (t : Nat) (r : Unit) (S' : lh_S) (hf : f_X3_init n S t = some (r, S')) (L_t : ∀ j, some t = some j → j < gvN S 3) : Met l yX3_init wsX3_init ({ frames := 1, cells := 1, slots := 8, locals := 20 } : Room) (lh_P D cT S ad A sz [lh_r ad 3 (some t)]) (lh_QA D cT S S' ad A ((∀ b, gvN S b ≤ gvN S' b) ∧ True) (fun ad9 => none)) 1 8 A := by
  refine Met.ofW (cc := cX3_init) (maxL := 1) (ret := none) (by decide) rfl ?_
  intro p e s m args below meth c s₁ B hml hv
  obtain ⟨hargs, hsz, hW, hK, hN⟩ := hv
  have hx := B.exec
  have hb := B.bytes
  have hr := B.returns
  have hts := atoms_spec (ws := wsX3_init) B.pre
  have hown : s.vm.findClass RX3 = some m.cls := findClass_of_methodNamed B.named
  have hlocks := B.notSynchronized
  have hin : meth.name = "<init>" := (name_of_methodNamed B.named B.method).1
  have hA : ∀ q, s.heap.size ≤ q → A q := fun q h => hA q (by rw [← hsz]; exact h)
  have ok := lh_W_ok hW
  have hm : ∀ b, gvN S b ≤ gvN S b := fun _ => Nat.le_refl _
  have hE : lh_E S ad ad := lh_E.rf
  obtain ⟨ls, hent, hl⟩ := lh_entry m args [lh_r ad 3 (some t)] 1 [(0, lh_r ad 3 (some t))] hargs (by simp [lv_args, lh_cat_r, lh_cat_i, lh_cat_j]) (by simp [lg_sl, lh_cat_r, lh_cat_i, lh_cat_j])
  rw [hent]
  generalize hH : s.heap = H at hW ⊢
  have hS : va_S A s.heap H [] := by rw [← hH]; exact va_S.rf
  unfold f_X3_init at hf
  refine lh_aload_n hx hb dX3_init_0 rfl (lv_at hl 0 rfl) ?_
  refine W.objInit hx hb hown (hts (.methodLink RX3 3 objectInit) (List.mem_cons_of_mem _ (List.mem_append_left _ (List.mem_of_getElem? (i := 0) rfl)))) (hts (.instanceMethod objectInit) (List.mem_cons_of_mem _ (List.mem_append_left _ (List.mem_of_getElem? (i := 1) rfl)))) (hts (.code objectInit ⟨#[0xb1]⟩ 1 none) (List.mem_cons_of_mem _ (List.mem_append_left _ (List.mem_of_getElem? (i := 2) rfl)))) rfl (by rw [hml]; exact hl.1) rfl dX3_init_1 (Nat.le_of_ble_eq_true rfl) (Nat.le_of_ble_eq_true rfl) ?_
  refine W.eq (g2 := F0 m 4 ls []) rfl ?_
  refine lh_aload_n hx hb dX3_init_4 rfl (lv_at hl 0 rfl) ?_
  refine lv_bipush (v := 8) hx hb dX3_init_5 (by decide) ?_
  obtain ⟨S1, eS1, hf⟩ := dc_let_ok hf
  refine lh_newq (n := (8 : Int32)) (a := 16) (t0 := 5) (t := 2) (N' := 8) (C := RX2) hx hb hown (hts (.classLink RX3 9 RX2) (List.mem_cons_of_mem _ (List.mem_append_left _ (List.mem_of_getElem? (i := 3) rfl)))) hN.2.2.2.2.2.2.1 hK hW hS hA rfl rfl rfl (by decide +kernel) (by decide +kernel) (by decide +kernel) (Nat.le_of_ble_eq_true rfl) (Nat.le_of_ble_eq_true rfl) dX3_init_7 (fun ad2 H hE3 hW hS => ?_)
  rw [lh_rE hE3 L_t] at hl
  rw [lh_rE hE3 L_t]
  have hE : lh_E S ad ad2 := lh_E.trans hE hm hE3
  rw [← eS1] at hW
  have m4 : ∀ b, gvN S b ≤ gvN S1 b := by rw [eS1]; exact lh_mN
  have L_t : ∀ j, some t = some j → j < gvN S1 3 := fun j h => Nat.lt_of_lt_of_le (L_t j h) (m4 _)
  have hm : ∀ b, gvN S b ≤ gvN S1 b := lh_le_trans hm m4
  have ok := lh_W_ok hW
  have L5 : ∀ j, some (gvN S 16) = some j → j < gvN S1 16 := lh_ls (by rw [eS1]; exact lh_nN)
  obtain ⟨S7, eS7, hf⟩ := dc_let_ok hf
  refine lh_put (S' := S7) (a := 3) (k := 0) (N := 2) (C := RX3) (T := TX3) (own := RX3) (ref := "LoaderModels$Loaders") (ty := .array (.object "LoaderModels$Loader")) hx hb hts (fun _ h => (List.mem_cons_of_mem _ (List.mem_append_right _ h))) tyX3 tyX3_ok nmX3 hown hK hW hS rfl (L_t _ rfl) rfl rfl rfl (by decide) (hts (.fieldLink RX3 11 "LoaderModels$Loaders" "items" "[LLoaderModels$Loader;") (List.mem_cons_of_mem _ (List.mem_append_left _ (List.mem_of_getElem? (i := 4) rfl)))) (fun _ h9 => h9) (Or.inr ⟨rfl, hin, rfl⟩) (by decide +kernel) lh_nar_a lh_fit_a (fun q9 => by rw [eS7]; exact lh_chR rfl L5 q9) dX3_init_10 (fun H locs hW hS => ?_)
  have m8 : ∀ b, gvN S1 b ≤ gvN S7 b := by rw [eS7]; exact lh_mR
  have L_t : ∀ j, some t = some j → j < gvN S7 3 := fun j h => Nat.lt_of_lt_of_le (L_t j h) (m8 _)
  have hm : ∀ b, gvN S b ≤ gvN S7 b := lh_le_trans hm m8
  have ok := lh_W_ok hW
  obtain ⟨rfl, rfl⟩ := dc_ret hf
  exact W.vret hx hb hr (fun t9 ht9 hW9 => ⟨⟨ad2, hE, rfl, ⟨hm, trivial⟩, by rw [ht9]; exact hW⟩, hS.F ht9⟩) hS.2.2 dX3_init_13
