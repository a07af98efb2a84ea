def f_X10_in (n : Nat) (S : lh_S) (p1 : Int64) (p2 : Int64) (p3 : Int64) : Option (Int32 × lh_S) :=
  dc_if ((lg_cmp p1 p2) < 0) (
  some ((0 : Int32), S)) (
  dc_if (0 < (lg_cmp p1 p3)) (
  some ((0 : Int32), S)) (
  some ((1 : Int32), S)))
set_option maxHeartbeats 1000000 in
theorem m_X10_in {n : Nat} {S : lh_S} {p1 : Int64} {p2 : Int64} {p3 : Int64} {r : Int32} {S' : lh_S} (hf : f_X10_in n S p1 p2 p3 = some (r, S')) : ∀ b, gvN S b ≤ gvN S' b := by
  have hm : ∀ b, gvN S b ≤ gvN S b := fun _ => Nat.le_refl _
  unfold f_X10_in at hf
  by_cases c1 : (lg_cmp p1 p2) < 0
  · replace hf := dc_if_t c1 hf
    obtain ⟨_, rfl⟩ := dc_ret hf
    exact hm
  · replace hf := dc_if_f c1 hf
    by_cases c2 : 0 < (lg_cmp p1 p3)
    · replace hf := dc_if_t c2 hf
      obtain ⟨_, rfl⟩ := dc_ret hf
      exact hm
    · replace hf := dc_if_f c2 hf
      obtain ⟨_, rfl⟩ := dc_ret hf
      exact hm
set_option maxHeartbeats 1000000 in
theorem k_X10_in {n : Nat} {S : lh_S} {p1 : Int64} {p2 : Int64} {p3 : Int64} {r : Int32} {S' : lh_S} (hf : f_X10_in n S p1 p2 p3 = some (r, S')) : lh_sm10 S S' := by
  have hm : lh_sm10 S S := lh_sm10_rf
  unfold f_X10_in at hf
  by_cases c1 : (lg_cmp p1 p2) < 0
  · replace hf := dc_if_t c1 hf
    obtain ⟨_, rfl⟩ := dc_ret hf
    exact hm
  · replace hf := dc_if_f c1 hf
    by_cases c2 : 0 < (lg_cmp p1 p3)
    · replace hf := dc_if_t c2 hf
      obtain ⟨_, rfl⟩ := dc_ret hf
      exact hm
    · replace hf := dc_if_f c2 hf
      obtain ⟨_, rfl⟩ := dc_ret hf
      exact hm
set_option maxHeartbeats 4000000 in
set_option maxRecDepth 100000 in
theorem c_X10_in (l : Launch) (D : va_G) (cT : Nat → ClassId) (n : Nat) (S : lh_S) (ad : Nat → Nat → Nat) (A : Nat → Prop) (sz : Nat) (hA : ∀ q, sz ≤ q → A q) (p1 : Int64) (p2 : Int64) (p3 : Int64) (r : Int32) (S' : lh_S) (hf : f_X10_in n S p1 p2 p3 = some (r, S')) : Met l yX10_in wsX10_in ({ frames := 0, cells := 0, slots := 0, locals := 0 } : Room) (lh_P D cT S ad A sz [.long p1, .long p2, .long p3]) (lh_Q D cT S' ad A ((∀ b, gvN S b ≤ gvN S' b) ∧ (r = 0 ∨ r = 1)) (some (.int r))) 0 0 A := by
  refine Met.ofW (cc := cX10_in) (maxL := 6) (ret := (some .boolean)) (by decide) rfl ?_
  intro p e s m args below meth c s₁ B hml hv
  obtain ⟨hargs, hsz, hW, hK, hN⟩ := hv
  have hx := B.exec
  have hb := B.bytes
  have hr := B.returns
  have hts := atoms_spec (ws := wsX10_in) B.pre
  have hown : s.vm.findClass RX10 = some m.cls := findClass_of_methodNamed B.named
  have hlocks := B.notSynchronized
  have hA : ∀ q, s.heap.size ≤ q → A q := fun q h => hA q (by rw [← hsz]; exact h)
  have ok := lh_W_ok hW
  have hm : ∀ b, gvN S b ≤ gvN S b := fun _ => Nat.le_refl _
  obtain ⟨ls, hent, hl⟩ := lh_entry m args [.long p1, .long p2, .long p3] 6 [(0, .long p1), (2, .long p2), (4, .long p3)] hargs (by simp [lv_args, lh_cat_r, lh_cat_i, lh_cat_j]) (by simp [lg_sl, lh_cat_r, lh_cat_i, lh_cat_j])
  rw [hent]
  generalize hH : s.heap = H at hW ⊢
  have hS : va_S A s.heap H [] := by rw [← hH]; exact va_S.rf
  unfold f_X10_in at hf
  refine lv_lload_n hx hb dX10_in_0 rfl (lv_at hl 0 rfl) ?_
  refine lv_lload_n hx hb dX10_in_1 rfl (lv_at hl 1 rfl) ?_
  refine W.lcmp hx hb dX10_in_2 ?_
  refine lv_if_lt (tgt := 17) hx hb dX10_in_3 (by decide) (fun c1 => ?_) (fun c1 => ?_)
  · replace hf := dc_if_t c1 hf
    refine lv_iconst (v := 0) hx hb dX10_in_17 (by decide) ?_
    obtain ⟨rfl, rfl⟩ := dc_ret hf
    exact W.zret (v := (0 : Int32)) hx hb hr (lh_nar_z (Or.inl rfl)) (fun t9 ht9 hW9 => ⟨⟨rfl, ⟨hm, (Or.inl rfl)⟩, by rw [ht9]; exact hW⟩, hS.F ht9⟩) hS.2.2 dX10_in_18
  · replace hf := dc_if_f c1 hf
    refine lv_lload_n hx hb dX10_in_6 rfl (lv_at hl 0 rfl) ?_
    refine lv_lload hx hb dX10_in_7 (lv_at hl 2 rfl) ?_
    refine W.lcmp hx hb dX10_in_9 ?_
    refine lv_if_gt (tgt := 17) hx hb dX10_in_10 (by decide) (fun c2 => ?_) (fun c2 => ?_)
    · replace hf := dc_if_t c2 hf
      refine lv_iconst (v := 0) hx hb dX10_in_17 (by decide) ?_
      obtain ⟨rfl, rfl⟩ := dc_ret hf
      exact W.zret (v := (0 : Int32)) hx hb hr (lh_nar_z (Or.inl rfl)) (fun t9 ht9 hW9 => ⟨⟨rfl, ⟨hm, (Or.inl rfl)⟩, by rw [ht9]; exact hW⟩, hS.F ht9⟩) hS.2.2 dX10_in_18
    · replace hf := dc_if_f c2 hf
      refine lv_iconst (v := 1) hx hb dX10_in_13 (by decide) ?_
      refine lv_goto (tgt := 18) hx hb dX10_in_14 (by decide) ?_
      obtain ⟨rfl, rfl⟩ := dc_ret hf
      exact W.zret (v := (1 : Int32)) hx hb hr (lh_nar_z (Or.inr rfl)) (fun t9 ht9 hW9 => ⟨⟨rfl, ⟨hm, (Or.inr rfl)⟩, by rw [ht9]; exact hW⟩, hS.F ht9⟩) hS.2.2 dX10_in_18
def f_X10_fails (n : Nat) (S : lh_S) (t : Nat) (p1 : Int32) : Option (Int32 × lh_S) :=
  dc_let (pvI S 10 t 24 p1) fun S1 =>
  some ((-10 : Int32) - p1, S1)
set_option maxHeartbeats 1000000 in
theorem m_X10_fails {n : Nat} {S : lh_S} {t : Nat} {p1 : Int32} {r : Int32} {S' : lh_S} (hf : f_X10_fails n S t p1 = some (r, S')) : ∀ b, gvN S b ≤ gvN S' b := by
  have hm : ∀ b, gvN S b ≤ gvN S b := fun _ => Nat.le_refl _
  unfold f_X10_fails at hf
  obtain ⟨S1, eS1, hf⟩ := dc_let_ok hf
  have hm := lh_le_trans hm (show ∀ b, gvN S b ≤ gvN S1 b from by rw [eS1]; exact lh_mI)
  obtain ⟨_, rfl⟩ := dc_ret hf
  exact hm
set_option maxHeartbeats 1000000 in
theorem k_X10_fails {n : Nat} {S : lh_S} {t : Nat} {p1 : Int32} {r : Int32} {S' : lh_S} (hf : f_X10_fails n S t p1 = some (r, S')) : lh_sm10 S S' := by
  have hm : lh_sm10 S S := lh_sm10_rf
  unfold f_X10_fails at hf
  obtain ⟨S1, eS1, hf⟩ := dc_let_ok hf
  have hm := lh_sm10_trans hm (show lh_sm10 S S1 from by rw [eS1]; exact (lh_sm10I (by decide)))
  obtain ⟨_, rfl⟩ := dc_ret hf
  exact hm
set_option maxHeartbeats 4000000 in
set_option maxRecDepth 100000 in
theorem c_X10_fails (l : Launch) (D : va_G) (cT : Nat → ClassId) (n : Nat) (S : lh_S) (ad : Nat → Nat → Nat) (A : Nat → Prop) (sz : Nat) (hA : ∀ q, sz ≤ q → A q) (t : Nat) (p1 : Int32) (r : Int32) (S' : lh_S) (hf : f_X10_fails n S t p1 = some (r, S')) (L_t : ∀ j, some t = some j → j < gvN S 10) : Met l yX10_fails wsX10_fails ({ frames := 0, cells := 0, slots := 0, locals := 0 } : Room) (lh_P D cT S ad A sz [lh_r ad 10 (some t), .int p1]) (lh_Q D cT S' ad A ((∀ b, gvN S b ≤ gvN S' b) ∧ True) (some (.int r))) 0 0 A := by
  refine Met.ofW (cc := cX10_fails) (maxL := 2) (ret := (some .int)) (by decide) rfl ?_
  intro p e s m args below meth c s₁ B hml hv
  obtain ⟨hargs, hsz, hW, hK, hN⟩ := hv
  have hx := B.exec
  have hb := B.bytes
  have hr := B.returns
  have hts := atoms_spec (ws := wsX10_fails) B.pre
  have hown : s.vm.findClass RX10 = some m.cls := findClass_of_methodNamed B.named
  have hlocks := B.notSynchronized
  have hA : ∀ q, s.heap.size ≤ q → A q := fun q h => hA q (by rw [← hsz]; exact h)
  have ok := lh_W_ok hW
  have hm : ∀ b, gvN S b ≤ gvN S b := fun _ => Nat.le_refl _
  obtain ⟨ls, hent, hl⟩ := lh_entry m args [lh_r ad 10 (some t), .int p1] 2 [(0, lh_r ad 10 (some t)), (1, .int p1)] hargs (by simp [lv_args, lh_cat_r, lh_cat_i, lh_cat_j]) (by simp [lg_sl, lh_cat_r, lh_cat_i, lh_cat_j])
  rw [hent]
  generalize hH : s.heap = H at hW ⊢
  have hS : va_S A s.heap H [] := by rw [← hH]; exact va_S.rf
  unfold f_X10_fails at hf
  refine lh_aload_n hx hb dX10_fails_0 rfl (lv_at hl 0 rfl) ?_
  refine lv_iload_n hx hb dX10_fails_1 rfl (lv_at hl 1 rfl) ?_
  obtain ⟨S1, eS1, hf⟩ := dc_let_ok hf
  refine lh_put (S' := S1) (a := 10) (k := 24) (N := 42) (C := RX10) (T := TX10) (own := RX10) (ref := "LoaderModelsModel") (ty := .int) hx hb hts (fun _ h => (List.mem_cons_of_mem _ (List.mem_append_right _ h))) tyX10 tyX10_ok nmX10 hown hK hW hS rfl (L_t _ rfl) rfl rfl rfl (by decide) (hts (.fieldLink RX10 117 "LoaderModelsModel" "lastFailure" "I") (List.mem_cons_of_mem _ (List.mem_append_left _ (List.mem_of_getElem? (i := 0) rfl)))) (fun _ h9 => h9) (Or.inl rfl) (by decide +kernel) rfl rfl (fun q9 => by rw [eS1]; exact lh_chI rfl q9) dX10_fails_2 (fun H locs hW hS => ?_)
  have m2 : ∀ b, gvN S b ≤ gvN S1 b := by rw [eS1]; exact lh_mI
  have L_t : ∀ j, some t = some j → j < gvN S1 10 := fun j h => Nat.lt_of_lt_of_le (L_t j h) (m2 _)
  have hm : ∀ b, gvN S b ≤ gvN S1 b := lh_le_trans hm m2
  have ok := lh_W_ok hW
  refine lv_bipush (v := -10) hx hb dX10_fails_5 (by decide) ?_
  refine lv_iload_n hx hb dX10_fails_7 rfl (lv_at hl 1 rfl) ?_
  refine lv_isub hx hb dX10_fails_8 ?_
  obtain ⟨rfl, rfl⟩ := dc_ret hf
  exact W.iret (v := (-10 : Int32) - p1) hx hb hr (fun t9 ht9 hW9 => ⟨⟨rfl, ⟨hm, trivial⟩, by rw [ht9]; exact hW⟩, hS.F ht9⟩) hS.2.2 dX10_fails_9
def f_X10_isLoader (n : Nat) (S : lh_S) (t : Nat) (p1 : Int32) : Option (Int32 × lh_S) :=
  dc_let ((gvI S 10 t 10) - (1 : Int32)) fun v1 =>
  dc_bd (f_X10_in n S p1.toInt64 (0 : Int64) v1.toInt64) fun r2 S3 =>
  some (r2, S3)
set_option maxHeartbeats 1000000 in
theorem m_X10_isLoader {n : Nat} {S : lh_S} {t : Nat} {p1 : Int32} {r : Int32} {S' : lh_S} (hf : f_X10_isLoader n S t p1 = some (r, S')) : ∀ b, gvN S b ≤ gvN S' b := by
  have hm : ∀ b, gvN S b ≤ gvN S b := fun _ => Nat.le_refl _
  unfold f_X10_isLoader at hf
  obtain ⟨v1, hv1, hf⟩ := dc_let_ok hf
  obtain ⟨r2, S3, k4, hf⟩ := dc_bd_ok hf
  have hm := lh_le_trans hm (show ∀ b, gvN S b ≤ gvN S3 b from m_X10_in k4)
  obtain ⟨_, rfl⟩ := dc_ret hf
  exact hm
set_option maxHeartbeats 1000000 in
theorem k_X10_isLoader {n : Nat} {S : lh_S} {t : Nat} {p1 : Int32} {r : Int32} {S' : lh_S} (hf : f_X10_isLoader n S t p1 = some (r, S')) : lh_sm10 S S' := by
  have hm : lh_sm10 S S := lh_sm10_rf
  unfold f_X10_isLoader at hf
  obtain ⟨v1, hv1, hf⟩ := dc_let_ok hf
  obtain ⟨r2, S3, k4, hf⟩ := dc_bd_ok hf
  have hm := lh_sm10_trans hm (show lh_sm10 S S3 from k_X10_in k4)
  obtain ⟨_, rfl⟩ := dc_ret hf
  exact hm
set_option maxHeartbeats 4000000 in
set_option maxRecDepth 100000 in
theorem c_X10_isLoader (l : Launch) (D : va_G) (cT : Nat → ClassId) (n : Nat) (S : lh_S) (ad : Nat → Nat → Nat) (A : Nat → Prop) (sz : Nat) (hA : ∀ q, sz ≤ q → A q) (t : Nat) (p1 : Int32) (r : Int32) (S' : lh_S) (hf : f_X10_isLoader n S t p1 = some (r, S')) (L_t : ∀ j, some t = some j → j < gvN S 10) : Met l yX10_isLoader wsX10_isLoader ({ frames := 1, cells := 0, slots := 0, locals := 25 } : Room) (lh_P D cT S ad A sz [lh_r ad 10 (some t), .int p1]) (lh_Q D cT S' ad A ((∀ b, gvN S b ≤ gvN S' b) ∧ (r = 0 ∨ r = 1)) (some (.int r))) 0 0 A := by
  refine Met.ofW (cc := cX10_isLoader) (maxL := 2) (ret := (some .boolean)) (by decide) rfl ?_
  intro p e s m args below meth c s₁ B hml hv
  obtain ⟨hargs, hsz, hW, hK, hN⟩ := hv
  have hx := B.exec
  have hb := B.bytes
  have hr := B.returns
  have hts := atoms_spec (ws := wsX10_isLoader) B.pre
  have hown : s.vm.findClass RX10 = some m.cls := findClass_of_methodNamed B.named
  have hlocks := B.notSynchronized
  have hA : ∀ q, s.heap.size ≤ q → A q := fun q h => hA q (by rw [← hsz]; exact h)
  have ok := lh_W_ok hW
  have hm : ∀ b, gvN S b ≤ gvN S b := fun _ => Nat.le_refl _
  obtain ⟨ls, hent, hl⟩ := lh_entry m args [lh_r ad 10 (some t), .int p1] 2 [(0, lh_r ad 10 (some t)), (1, .int p1)] hargs (by simp [lv_args, lh_cat_r, lh_cat_i, lh_cat_j]) (by simp [lg_sl, lh_cat_r, lh_cat_i, lh_cat_j])
  rw [hent]
  generalize hH : s.heap = H at hW ⊢
  have hS : va_S A s.heap H [] := by rw [← hH]; exact va_S.rf
  unfold f_X10_isLoader at hf
  refine lv_iload_n hx hb dX10_isLoader_0 rfl (lv_at hl 1 rfl) ?_
  refine lv_i2l (v := p1.toInt64) hx hb dX10_isLoader_1 rfl ?_
  refine lv_lconst (v := 0) hx hb dX10_isLoader_2 (by decide) ?_
  refine lh_aload_n hx hb dX10_isLoader_3 rfl (lv_at hl 0 rfl) ?_
  refine lh_get (a := 10) (k := 10) (N := 42) (C := RX10) (T := TX10) (own := RX10) (ref := "LoaderModelsModel") hx hb hts (fun _ h => (List.mem_cons_of_mem _ (List.mem_append_right _ h))) hown hK hW rfl (L_t _ rfl) rfl rfl rfl (by decide) (hts (.fieldLink RX10 120 "LoaderModelsModel" "loaders" "I") (List.mem_cons_of_mem _ (List.mem_append_left _ (List.mem_of_getElem? (i := 0) rfl)))) (fun _ h9 => h9) dX10_isLoader_4 (v := .int (gvI S 10 t 10)) rfl ?_
  refine lv_iconst (v := 1) hx hb dX10_isLoader_7 (by decide) ?_
  refine lv_isub hx hb dX10_isLoader_8 ?_
  refine lv_topi (fun v1 hv1 => ?_)
  replace hf := dc_let_e hv1 hf
  refine lv_i2l (v := v1.toInt64) hx hb dX10_isLoader_9 rfl ?_
  obtain ⟨r2, S3, k4, hf⟩ := dc_bd_ok hf
  refine lh_call (S' := S3) (lh_rs ⟨hx, hb, hml, hown, hts⟩ (As := [.long p1.toInt64, .long (0 : Int64), .long v1.toInt64]) (rest := []) (c_X10_in l D cT n S ad A H.size (fun q9 h9 => hA q9 (Nat.le_trans hS.1 h9)) p1.toInt64 (0 : Int64) v1.toInt64 r2 S3 k4 ) (va_cwS 3 hts gX10_isLoader_X10_in rfl rfl rfl (by decide +kernel) ⟨Nat.le_of_ble_eq_true rfl, Nat.le_of_ble_eq_true rfl⟩) hK hN hW rfl hl.1 rfl (by simp [lh_cat_r, lh_cat_i, lh_cat_j]) dX10_isLoader_10 ⟨Nat.le_of_ble_eq_true rfl, Nat.le_of_ble_eq_true rfl⟩) hS (fun H locs hX hW hS => ?_)
  refine W.widen (k := 0) (n := 0) (by omega) (by omega) ?_
  show W _ _ _ _ _ _ _ _ _ _ _ _ _ _ _ (F0 m 13 ls [.int r2])
  have m5 : ∀ b, gvN S b ≤ gvN S3 b := hX.1
  have L_t : ∀ j, some t = some j → j < gvN S3 10 := fun j h => Nat.lt_of_lt_of_le (L_t j h) (m5 _)
  have hm : ∀ b, gvN S b ≤ gvN S3 b := lh_le_trans hm m5
  have ok := lh_W_ok hW
  have z6 := hX.2
  obtain ⟨rfl, rfl⟩ := dc_ret hf
  exact W.zret (v := r2) hx hb hr (lh_nar_z z6) (fun t9 ht9 hW9 => ⟨⟨rfl, ⟨hm, z6⟩, by rw [ht9]; exact hW⟩, hS.F ht9⟩) hS.2.2 dX10_isLoader_13
def f_X10_isFile (n : Nat) (S : lh_S) (t : Nat) (p1 : Int32) : Option (Int32 × lh_S) :=
  dc_bd (f_X10_in n S p1.toInt64 (0 : Int64) (((gvI S 10 t 1) - (1 : Int32)).toInt64)) fun r1 S2 =>
  some (r1, S2)
set_option maxHeartbeats 1000000 in
theorem m_X10_isFile {n : Nat} {S : lh_S} {t : Nat} {p1 : Int32} {r : Int32} {S' : lh_S} (hf : f_X10_isFile n S t p1 = some (r, S')) : ∀ b, gvN S b ≤ gvN S' b := by
  have hm : ∀ b, gvN S b ≤ gvN S b := fun _ => Nat.le_refl _
  unfold f_X10_isFile at hf
  obtain ⟨r1, S2, k3, hf⟩ := dc_bd_ok hf
  have hm := lh_le_trans hm (show ∀ b, gvN S b ≤ gvN S2 b from m_X10_in k3)
  obtain ⟨_, rfl⟩ := dc_ret hf
  exact hm
set_option maxHeartbeats 1000000 in
theorem k_X10_isFile {n : Nat} {S : lh_S} {t : Nat} {p1 : Int32} {r : Int32} {S' : lh_S} (hf : f_X10_isFile n S t p1 = some (r, S')) : lh_sm10 S S' := by
  have hm : lh_sm10 S S := lh_sm10_rf
  unfold f_X10_isFile at hf
  obtain ⟨r1, S2, k3, hf⟩ := dc_bd_ok hf
  have hm := lh_sm10_trans hm (show lh_sm10 S S2 from k_X10_in k3)
  obtain ⟨_, rfl⟩ := dc_ret hf
  exact hm
set_option maxHeartbeats 4000000 in
set_option maxRecDepth 100000 in
theorem c_X10_isFile (l : Launch) (D : va_G) (cT : Nat → ClassId) (n : Nat) (S : lh_S) (ad : Nat → Nat → Nat) (A : Nat → Prop) (sz : Nat) (hA : ∀ q, sz ≤ q → A q) (t : Nat) (p1 : Int32) (r : Int32) (S' : lh_S) (hf : f_X10_isFile n S t p1 = some (r, S')) (L_t : ∀ j, some t = some j → j < gvN S 10) : Met l yX10_isFile wsX10_isFile ({ frames := 1, cells := 0, slots := 0, locals := 25 } : Room) (lh_P D cT S ad A sz [lh_r ad 10 (some t), .int p1]) (lh_Q D cT S' ad A ((∀ b, gvN S b ≤ gvN S' b) ∧ (r = 0 ∨ r = 1)) (some (.int r))) 0 0 A := by
  refine Met.ofW (cc := cX10_isFile) (maxL := 2) (ret := (some .boolean)) (by decide) rfl ?_
  intro p e s m args below meth c s₁ B hml hv
  obtain ⟨hargs, hsz, hW, hK, hN⟩ := hv
  have hx := B.exec
  have hb := B.bytes
  have hr := B.returns
  have hts := atoms_spec (ws := wsX10_isFile) B.pre
  have hown : s.vm.findClass RX10 = some m.cls := findClass_of_methodNamed B.named
  have hlocks := B.notSynchronized
  have hA : ∀ q, s.heap.size ≤ q → A q := fun q h => hA q (by rw [← hsz]; exact h)
  have ok := lh_W_ok hW
  have hm : ∀ b, gvN S b ≤ gvN S b := fun _ => Nat.le_refl _
  obtain ⟨ls, hent, hl⟩ := lh_entry m args [lh_r ad 10 (some t), .int p1] 2 [(0, lh_r ad 10 (some t)), (1, .int p1)] hargs (by simp [lv_args, lh_cat_r, lh_cat_i, lh_cat_j]) (by simp [lg_sl, lh_cat_r, lh_cat_i, lh_cat_j])
  rw [hent]
  generalize hH : s.heap = H at hW ⊢
  have hS : va_S A s.heap H [] := by rw [← hH]; exact va_S.rf
  unfold f_X10_isFile at hf
  refine lv_iload_n hx hb dX10_isFile_0 rfl (lv_at hl 1 rfl) ?_
  refine lv_i2l (v := p1.toInt64) hx hb dX10_isFile_1 rfl ?_
  refine lv_lconst (v := 0) hx hb dX10_isFile_2 (by decide) ?_
  refine lh_aload_n hx hb dX10_isFile_3 rfl (lv_at hl 0 rfl) ?_
  refine lh_get (a := 10) (k := 1) (N := 42) (C := RX10) (T := TX10) (own := RX10) (ref := "LoaderModelsModel") hx hb hts (fun _ h => (List.mem_cons_of_mem _ (List.mem_append_right _ h))) hown hK hW rfl (L_t _ rfl) rfl rfl rfl (by decide) (hts (.fieldLink RX10 127 "LoaderModelsModel" "files" "I") (List.mem_cons_of_mem _ (List.mem_append_left _ (List.mem_of_getElem? (i := 0) rfl)))) (fun _ h9 => h9) dX10_isFile_4 (v := .int (gvI S 10 t 1)) rfl ?_
  refine lv_iconst (v := 1) hx hb dX10_isFile_7 (by decide) ?_
  refine lv_isub hx hb dX10_isFile_8 ?_
  refine lv_i2l (v := ((gvI S 10 t 1) - (1 : Int32)).toInt64) hx hb dX10_isFile_9 rfl ?_
  obtain ⟨r1, S2, k3, hf⟩ := dc_bd_ok hf
  refine lh_call (S' := S2) (lh_rs ⟨hx, hb, hml, hown, hts⟩ (As := [.long p1.toInt64, .long (0 : Int64), .long (((gvI S 10 t 1) - (1 : Int32)).toInt64)]) (rest := []) (c_X10_in l D cT n S ad A H.size (fun q9 h9 => hA q9 (Nat.le_trans hS.1 h9)) p1.toInt64 (0 : Int64) (((gvI S 10 t 1) - (1 : Int32)).toInt64) r1 S2 k3 ) (va_cwS 3 hts gX10_isFile_X10_in rfl rfl rfl (by decide +kernel) ⟨Nat.le_of_ble_eq_true rfl, Nat.le_of_ble_eq_true rfl⟩) hK hN hW rfl hl.1 rfl (by simp [lh_cat_r, lh_cat_i, lh_cat_j]) dX10_isFile_10 ⟨Nat.le_of_ble_eq_true rfl, Nat.le_of_ble_eq_true rfl⟩) hS (fun H locs hX hW hS => ?_)
  refine W.widen (k := 0) (n := 0) (by omega) (by omega) ?_
  show W _ _ _ _ _ _ _ _ _ _ _ _ _ _ _ (F0 m 13 ls [.int r1])
  have m4 : ∀ b, gvN S b ≤ gvN S2 b := hX.1
  have L_t : ∀ j, some t = some j → j < gvN S2 10 := fun j h => Nat.lt_of_lt_of_le (L_t j h) (m4 _)
  have hm : ∀ b, gvN S b ≤ gvN S2 b := lh_le_trans hm m4
  have ok := lh_W_ok hW
  have z5 := hX.2
  obtain ⟨rfl, rfl⟩ := dc_ret hf
  exact W.zret (v := r1) hx hb hr (lh_nar_z z5) (fun t9 ht9 hW9 => ⟨⟨rfl, ⟨hm, z5⟩, by rw [ht9]; exact hW⟩, hS.F ht9⟩) hS.2.2 dX10_isFile_13
def f_X10_isName (n : Nat) (S : lh_S) (p1 : Int32) : Option (Int32 × lh_S) :=
  dc_bd (f_X10_in n S p1.toInt64 (0 : Int64) (39 : Int64)) fun r1 S2 =>
  some (r1, S2)
set_option maxHeartbeats 1000000 in
theorem m_X10_isName {n : Nat} {S : lh_S} {p1 : Int32} {r : Int32} {S' : lh_S} (hf : f_X10_isName n S p1 = some (r, S')) : ∀ b, gvN S b ≤ gvN S' b := by
  have hm : ∀ b, gvN S b ≤ gvN S b := fun _ => Nat.le_refl _
  unfold f_X10_isName at hf
  obtain ⟨r1, S2, k3, hf⟩ := dc_bd_ok hf
  have hm := lh_le_trans hm (show ∀ b, gvN S b ≤ gvN S2 b from m_X10_in k3)
  obtain ⟨_, rfl⟩ := dc_ret hf
  exact hm
set_option maxHeartbeats 1000000 in
theorem k_X10_isName {n : Nat} {S : lh_S} {p1 : Int32} {r : Int32} {S' : lh_S} (hf : f_X10_isName n S p1 = some (r, S')) : lh_sm10 S S' := by
  have hm : lh_sm10 S S := lh_sm10_rf
  unfold f_X10_isName at hf
  obtain ⟨r1, S2, k3, hf⟩ := dc_bd_ok hf
  have hm := lh_sm10_trans hm (show lh_sm10 S S2 from k_X10_in k3)
  obtain ⟨_, rfl⟩ := dc_ret hf
  exact hm
set_option maxHeartbeats 4000000 in
set_option maxRecDepth 100000 in
theorem c_X10_isName (l : Launch) (D : va_G) (cT : Nat → ClassId) (n : Nat) (S : lh_S) (ad : Nat → Nat → Nat) (A : Nat → Prop) (sz : Nat) (hA : ∀ q, sz ≤ q → A q) (p1 : Int32) (r : Int32) (S' : lh_S) (hf : f_X10_isName n S p1 = some (r, S')) : Met l yX10_isName wsX10_isName ({ frames := 1, cells := 0, slots := 0, locals := 25 } : Room) (lh_P D cT S ad A sz [.int p1]) (lh_Q D cT S' ad A ((∀ b, gvN S b ≤ gvN S' b) ∧ (r = 0 ∨ r = 1)) (some (.int r))) 0 0 A := by
  refine Met.ofW (cc := cX10_isName) (maxL := 1) (ret := (some .boolean)) (by decide) rfl ?_
  intro p e s m args below meth c s₁ B hml hv
  obtain ⟨hargs, hsz, hW, hK, hN⟩ := hv
  have hx := B.exec
  have hb := B.bytes
  have hr := B.returns
  have hts := atoms_spec (ws := wsX10_isName) B.pre
  have hown : s.vm.findClass RX10 = some m.cls := findClass_of_methodNamed B.named
  have hlocks := B.notSynchronized
  have hA : ∀ q, s.heap.size ≤ q → A q := fun q h => hA q (by rw [← hsz]; exact h)
  have ok := lh_W_ok hW
  have hm : ∀ b, gvN S b ≤ gvN S b := fun _ => Nat.le_refl _
  obtain ⟨ls, hent, hl⟩ := lh_entry m args [.int p1] 1 [(0, .int p1)] hargs (by simp [lv_args, lh_cat_r, lh_cat_i, lh_cat_j]) (by simp [lg_sl, lh_cat_r, lh_cat_i, lh_cat_j])
  rw [hent]
  generalize hH : s.heap = H at hW ⊢
  have hS : va_S A s.heap H [] := by rw [← hH]; exact va_S.rf
  unfold f_X10_isName at hf
  refine lv_iload_n hx hb dX10_isName_0 rfl (lv_at hl 0 rfl) ?_
  refine lv_i2l (v := p1.toInt64) hx hb dX10_isName_1 rfl ?_
  refine lv_lconst (v := 0) hx hb dX10_isName_2 (by decide) ?_
  refine lv_ldc2 (v := 39) hx hb hown (hts (.constantLong RX10 130 (39)) (List.mem_cons_of_mem _ (List.mem_of_getElem? (i := 0) rfl))) dX10_isName_3 ?_
  obtain ⟨r1, S2, k3, hf⟩ := dc_bd_ok hf
  refine lh_call (S' := S2) (lh_rs ⟨hx, hb, hml, hown, hts⟩ (As := [.long p1.toInt64, .long (0 : Int64), .long (39 : Int64)]) (rest := []) (c_X10_in l D cT n S ad A H.size (fun q9 h9 => hA q9 (Nat.le_trans hS.1 h9)) p1.toInt64 (0 : Int64) (39 : Int64) r1 S2 k3 ) (va_cwS 3 hts gX10_isName_X10_in rfl rfl rfl (by decide +kernel) ⟨Nat.le_of_ble_eq_true rfl, Nat.le_of_ble_eq_true rfl⟩) hK hN hW rfl hl.1 rfl (by simp [lh_cat_r, lh_cat_i, lh_cat_j]) dX10_isName_6 ⟨Nat.le_of_ble_eq_true rfl, Nat.le_of_ble_eq_true rfl⟩) hS (fun H locs hX hW hS => ?_)
  refine W.widen (k := 0) (n := 0) (by omega) (by omega) ?_
  show W _ _ _ _ _ _ _ _ _ _ _ _ _ _ _ (F0 m 9 ls [.int r1])
  have m4 : ∀ b, gvN S b ≤ gvN S2 b := hX.1
  have hm : ∀ b, gvN S b ≤ gvN S2 b := lh_le_trans hm m4
  have ok := lh_W_ok hW
  have z5 := hX.2
  obtain ⟨rfl, rfl⟩ := dc_ret hf
  exact W.zret (v := r1) hx hb hr (lh_nar_z z5) (fun t9 ht9 hW9 => ⟨⟨rfl, ⟨hm, z5⟩, by rw [ht9]; exact hW⟩, hS.F ht9⟩) hS.2.2 dX10_isName_9
def f_X10_isClass (n : Nat) (S : lh_S) (t : Nat) (p1 : Int32) : Option (Int32 × lh_S) :=
  dc_let ((gvI S 10 t 17) - (1 : Int32)) fun v1 =>
  dc_bd (f_X10_in n S p1.toInt64 (0 : Int64) v1.toInt64) fun r2 S3 =>
  some (r2, S3)
set_option maxHeartbeats 1000000 in
theorem m_X10_isClass {n : Nat} {S : lh_S} {t : Nat} {p1 : Int32} {r : Int32} {S' : lh_S} (hf : f_X10_isClass n S t p1 = some (r, S')) : ∀ b, gvN S b ≤ gvN S' b := by
  have hm : ∀ b, gvN S b ≤ gvN S b := fun _ => Nat.le_refl _
  unfold f_X10_isClass at hf
  obtain ⟨v1, hv1, hf⟩ := dc_let_ok hf
  obtain ⟨r2, S3, k4, hf⟩ := dc_bd_ok hf
  have hm := lh_le_trans hm (show ∀ b, gvN S b ≤ gvN S3 b from m_X10_in k4)
  obtain ⟨_, rfl⟩ := dc_ret hf
  exact hm
set_option maxHeartbeats 1000000 in
theorem k_X10_isClass {n : Nat} {S : lh_S} {t : Nat} {p1 : Int32} {r : Int32} {S' : lh_S} (hf : f_X10_isClass n S t p1 = some (r, S')) : lh_sm10 S S' := by
  have hm : lh_sm10 S S := lh_sm10_rf
  unfold f_X10_isClass at hf
  obtain ⟨v1, hv1, hf⟩ := dc_let_ok hf
  obtain ⟨r2, S3, k4, hf⟩ := dc_bd_ok hf
  have hm := lh_sm10_trans hm (show lh_sm10 S S3 from k_X10_in k4)
  obtain ⟨_, rfl⟩ := dc_ret hf
  exact hm
set_option maxHeartbeats 4000000 in
set_option maxRecDepth 100000 in
theorem c_X10_isClass (l : Launch) (D : va_G) (cT : Nat → ClassId) (n : Nat) (S : lh_S) (ad : Nat → Nat → Nat) (A : Nat → Prop) (sz : Nat) (hA : ∀ q, sz ≤ q → A q) (t : Nat) (p1 : Int32) (r : Int32) (S' : lh_S) (hf : f_X10_isClass n S t p1 = some (r, S')) (L_t : ∀ j, some t = some j → j < gvN S 10) : Met l yX10_isClass wsX10_isClass ({ frames := 1, cells := 0, slots := 0, locals := 25 } : Room) (lh_P D cT S ad A sz [lh_r ad 10 (some t), .int p1]) (lh_Q D cT S' ad A ((∀ b, gvN S b ≤ gvN S' b) ∧ (r = 0 ∨ r = 1)) (some (.int r))) 0 0 A := by
  refine Met.ofW (cc := cX10_isClass) (maxL := 2) (ret := (some .boolean)) (by decide) rfl ?_
  intro p e s m args below meth c s₁ B hml hv
  obtain ⟨hargs, hsz, hW, hK, hN⟩ := hv
  have hx := B.exec
  have hb := B.bytes
  have hr := B.returns
  have hts := atoms_spec (ws := wsX10_isClass) B.pre
  have hown : s.vm.findClass RX10 = some m.cls := findClass_of_methodNamed B.named
  have hlocks := B.notSynchronized
  have hA : ∀ q, s.heap.size ≤ q → A q := fun q h => hA q (by rw [← hsz]; exact h)
  have ok := lh_W_ok hW
  have hm : ∀ b, gvN S b ≤ gvN S b := fun _ => Nat.le_refl _
  obtain ⟨ls, hent, hl⟩ := lh_entry m args [lh_r ad 10 (some t), .int p1] 2 [(0, lh_r ad 10 (some t)), (1, .int p1)] hargs (by simp [lv_args, lh_cat_r, lh_cat_i, lh_cat_j]) (by simp [lg_sl, lh_cat_r, lh_cat_i, lh_cat_j])
  rw [hent]
  generalize hH : s.heap = H at hW ⊢
  have hS : va_S A s.heap H [] := by rw [← hH]; exact va_S.rf
  unfold f_X10_isClass at hf
  refine lv_iload_n hx hb dX10_isClass_0 rfl (lv_at hl 1 rfl) ?_
  refine lv_i2l (v := p1.toInt64) hx hb dX10_isClass_1 rfl ?_
  refine lv_lconst (v := 0) hx hb dX10_isClass_2 (by decide) ?_
  refine lh_aload_n hx hb dX10_isClass_3 rfl (lv_at hl 0 rfl) ?_
  refine lh_get (a := 10) (k := 17) (N := 42) (C := RX10) (T := TX10) (own := RX10) (ref := "LoaderModelsModel") hx hb hts (fun _ h => (List.mem_cons_of_mem _ (List.mem_append_right _ h))) hown hK hW rfl (L_t _ rfl) rfl rfl rfl (by decide) (hts (.fieldLink RX10 132 "LoaderModelsModel" "classes" "I") (List.mem_cons_of_mem _ (List.mem_append_left _ (List.mem_of_getElem? (i := 0) rfl)))) (fun _ h9 => h9) dX10_isClass_4 (v := .int (gvI S 10 t 17)) rfl ?_
  refine lv_iconst (v := 1) hx hb dX10_isClass_7 (by decide) ?_
  refine lv_isub hx hb dX10_isClass_8 ?_
  refine lv_topi (fun v1 hv1 => ?_)
  replace hf := dc_let_e hv1 hf
  refine lv_i2l (v := v1.toInt64) hx hb dX10_isClass_9 rfl ?_
  obtain ⟨r2, S3, k4, hf⟩ := dc_bd_ok hf
  refine lh_call (S' := S3) (lh_rs ⟨hx, hb, hml, hown, hts⟩ (As := [.long p1.toInt64, .long (0 : Int64), .long v1.toInt64]) (rest := []) (c_X10_in l D cT n S ad A H.size (fun q9 h9 => hA q9 (Nat.le_trans hS.1 h9)) p1.toInt64 (0 : Int64) v1.toInt64 r2 S3 k4 ) (va_cwS 3 hts gX10_isClass_X10_in rfl rfl rfl (by decide +kernel) ⟨Nat.le_of_ble_eq_true rfl, Nat.le_of_ble_eq_true rfl⟩) hK hN hW rfl hl.1 rfl (by simp [lh_cat_r, lh_cat_i, lh_cat_j]) dX10_isClass_10 ⟨Nat.le_of_ble_eq_true rfl, Nat.le_of_ble_eq_true rfl⟩) hS (fun H locs hX hW hS => ?_)
  refine W.widen (k := 0) (n := 0) (by omega) (by omega) ?_
  show W _ _ _ _ _ _ _ _ _ _ _ _ _ _ _ (F0 m 13 ls [.int r2])
  have m5 : ∀ b, gvN S b ≤ gvN S3 b := hX.1
  have L_t : ∀ j, some t = some j → j < gvN S3 10 := fun j h => Nat.lt_of_lt_of_le (L_t j h) (m5 _)
  have hm : ∀ b, gvN S b ≤ gvN S3 b := lh_le_trans hm m5
  have ok := lh_W_ok hW
  have z6 := hX.2
  obtain ⟨rfl, rfl⟩ := dc_ret hf
  exact W.zret (v := r2) hx hb hr (lh_nar_z z6) (fun t9 ht9 hW9 => ⟨⟨rfl, ⟨hm, z6⟩, by rw [ht9]; exact hW⟩, hS.F ht9⟩) hS.2.2 dX10_isClass_13
def f_X10_isObject (n : Nat) (S : lh_S) (t : Nat) (p1 : Int32) : Option (Int32 × lh_S) :=
  dc_let ((gvI S 10 t 36) - (1 : Int32)) fun v1 =>
  dc_bd (f_X10_in n S p1.toInt64 (0 : Int64) v1.toInt64) fun r2 S3 =>
  some (r2, S3)
set_option maxHeartbeats 1000000 in
theorem m_X10_isObject {n : Nat} {S : lh_S} {t : Nat} {p1 : Int32} {r : Int32} {S' : lh_S} (hf : f_X10_isObject n S t p1 = some (r, S')) : ∀ b, gvN S b ≤ gvN S' b := by
  have hm : ∀ b, gvN S b ≤ gvN S b := fun _ => Nat.le_refl _
  unfold f_X10_isObject at hf
  obtain ⟨v1, hv1, hf⟩ := dc_let_ok hf
  obtain ⟨r2, S3, k4, hf⟩ := dc_bd_ok hf
  have hm := lh_le_trans hm (show ∀ b, gvN S b ≤ gvN S3 b from m_X10_in k4)
  obtain ⟨_, rfl⟩ := dc_ret hf
  exact hm
set_option maxHeartbeats 1000000 in
theorem k_X10_isObject {n : Nat} {S : lh_S} {t : Nat} {p1 : Int32} {r : Int32} {S' : lh_S} (hf : f_X10_isObject n S t p1 = some (r, S')) : lh_sm10 S S' := by
  have hm : lh_sm10 S S := lh_sm10_rf
  unfold f_X10_isObject at hf
  obtain ⟨v1, hv1, hf⟩ := dc_let_ok hf
  obtain ⟨r2, S3, k4, hf⟩ := dc_bd_ok hf
  have hm := lh_sm10_trans hm (show lh_sm10 S S3 from k_X10_in k4)
  obtain ⟨_, rfl⟩ := dc_ret hf
  exact hm
set_option maxHeartbeats 4000000 in
set_option maxRecDepth 100000 in
theorem c_X10_isObject (l : Launch) (D : va_G) (cT : Nat → ClassId) (n : Nat) (S : lh_S) (ad : Nat → Nat → Nat) (A : Nat → Prop) (sz : Nat) (hA : ∀ q, sz ≤ q → A q) (t : Nat) (p1 : Int32) (r : Int32) (S' : lh_S) (hf : f_X10_isObject n S t p1 = some (r, S')) (L_t : ∀ j, some t = some j → j < gvN S 10) : Met l yX10_isObject wsX10_isObject ({ frames := 1, cells := 0, slots := 0, locals := 25 } : Room) (lh_P D cT S ad A sz [lh_r ad 10 (some t), .int p1]) (lh_Q D cT S' ad A ((∀ b, gvN S b ≤ gvN S' b) ∧ (r = 0 ∨ r = 1)) (some (.int r))) 0 0 A := by
  refine Met.ofW (cc := cX10_isObject) (maxL := 2) (ret := (some .boolean)) (by decide) rfl ?_
  intro p e s m args below meth c s₁ B hml hv
  obtain ⟨hargs, hsz, hW, hK, hN⟩ := hv
  have hx := B.exec
  have hb := B.bytes
  have hr := B.returns
  have hts := atoms_spec (ws := wsX10_isObject) B.pre
  have hown : s.vm.findClass RX10 = some m.cls := findClass_of_methodNamed B.named
  have hlocks := B.notSynchronized
  have hA : ∀ q, s.heap.size ≤ q → A q := fun q h => hA q (by rw [← hsz]; exact h)
  have ok := lh_W_ok hW
  have hm : ∀ b, gvN S b ≤ gvN S b := fun _ => Nat.le_refl _
  obtain ⟨ls, hent, hl⟩ := lh_entry m args [lh_r ad 10 (some t), .int p1] 2 [(0, lh_r ad 10 (some t)), (1, .int p1)] hargs (by simp [lv_args, lh_cat_r, lh_cat_i, lh_cat_j]) (by simp [lg_sl, lh_cat_r, lh_cat_i, lh_cat_j])
  rw [hent]
  generalize hH : s.heap = H at hW ⊢
  have hS : va_S A s.heap H [] := by rw [← hH]; exact va_S.rf
  unfold f_X10_isObject at hf
  refine lv_iload_n hx hb dX10_isObject_0 rfl (lv_at hl 1 rfl) ?_
  refine lv_i2l (v := p1.toInt64) hx hb dX10_isObject_1 rfl ?_
  refine lv_lconst (v := 0) hx hb dX10_isObject_2 (by decide) ?_
  refine lh_aload_n hx hb dX10_isObject_3 rfl (lv_at hl 0 rfl) ?_
  refine lh_get (a := 10) (k := 36) (N := 42) (C := RX10) (T := TX10) (own := RX10) (ref := "LoaderModelsModel") hx hb hts (fun _ h => (List.mem_cons_of_mem _ (List.mem_append_right _ h))) hown hK hW rfl (L_t _ rfl) rfl rfl rfl (by decide) (hts (.fieldLink RX10 204 "LoaderModelsModel" "objects" "I") (List.mem_cons_of_mem _ (List.mem_append_left _ (List.mem_of_getElem? (i := 0) rfl)))) (fun _ h9 => h9) dX10_isObject_4 (v := .int (gvI S 10 t 36)) rfl ?_
  refine lv_iconst (v := 1) hx hb dX10_isObject_7 (by decide) ?_
  refine lv_isub hx hb dX10_isObject_8 ?_
  refine lv_topi (fun v1 hv1 => ?_)
  replace hf := dc_let_e hv1 hf
  refine lv_i2l (v := v1.toInt64) hx hb dX10_isObject_9 rfl ?_
  obtain ⟨r2, S3, k4, hf⟩ := dc_bd_ok hf
  refine lh_call (S' := S3) (lh_rs ⟨hx, hb, hml, hown, hts⟩ (As := [.long p1.toInt64, .long (0 : Int64), .long v1.toInt64]) (rest := []) (c_X10_in l D cT n S ad A H.size (fun q9 h9 => hA q9 (Nat.le_trans hS.1 h9)) p1.toInt64 (0 : Int64) v1.toInt64 r2 S3 k4 ) (va_cwS 3 hts gX10_isObject_X10_in rfl rfl rfl (by decide +kernel) ⟨Nat.le_of_ble_eq_true rfl, Nat.le_of_ble_eq_true rfl⟩) hK hN hW rfl hl.1 rfl (by simp [lh_cat_r, lh_cat_i, lh_cat_j]) dX10_isObject_10 ⟨Nat.le_of_ble_eq_true rfl, Nat.le_of_ble_eq_true rfl⟩) hS (fun H locs hX hW hS => ?_)
  refine W.widen (k := 0) (n := 0) (by omega) (by omega) ?_
  show W _ _ _ _ _ _ _ _ _ _ _ _ _ _ _ (F0 m 13 ls [.int r2])
  have m5 : ∀ b, gvN S b ≤ gvN S3 b := hX.1
  have L_t : ∀ j, some t = some j → j < gvN S3 10 := fun j h => Nat.lt_of_lt_of_le (L_t j h) (m5 _)
  have hm : ∀ b, gvN S b ≤ gvN S3 b := lh_le_trans hm m5
  have ok := lh_W_ok hW
  have z6 := hX.2
  obtain ⟨rfl, rfl⟩ := dc_ret hf
  exact W.zret (v := r2) hx hb hr (lh_nar_z z6) (fun t9 ht9 hW9 => ⟨⟨rfl, ⟨hm, z6⟩, by rw [ht9]; exact hW⟩, hS.F ht9⟩) hS.2.2 dX10_isObject_13
def f_X10_isRow (n : Nat) (S : lh_S) (t : Nat) (p1 : Int32) : Option (Int32 × lh_S) :=
  dc_let ((gvI S 10 t 38) - (1 : Int32)) fun v1 =>
  dc_bd (f_X10_in n S p1.toInt64 (0 : Int64) v1.toInt64) fun r2 S3 =>
  some (r2, S3)
set_option maxHeartbeats 1000000 in
theorem m_X10_isRow {n : Nat} {S : lh_S} {t : Nat} {p1 : Int32} {r : Int32} {S' : lh_S} (hf : f_X10_isRow n S t p1 = some (r, S')) : ∀ b, gvN S b ≤ gvN S' b := by
  have hm : ∀ b, gvN S b ≤ gvN S b := fun _ => Nat.le_refl _
  unfold f_X10_isRow at hf
  obtain ⟨v1, hv1, hf⟩ := dc_let_ok hf
  obtain ⟨r2, S3, k4, hf⟩ := dc_bd_ok hf
  have hm := lh_le_trans hm (show ∀ b, gvN S b ≤ gvN S3 b from m_X10_in k4)
  obtain ⟨_, rfl⟩ := dc_ret hf
  exact hm
set_option maxHeartbeats 1000000 in
theorem k_X10_isRow {n : Nat} {S : lh_S} {t : Nat} {p1 : Int32} {r : Int32} {S' : lh_S} (hf : f_X10_isRow n S t p1 = some (r, S')) : lh_sm10 S S' := by
  have hm : lh_sm10 S S := lh_sm10_rf
  unfold f_X10_isRow at hf
  obtain ⟨v1, hv1, hf⟩ := dc_let_ok hf
  obtain ⟨r2, S3, k4, hf⟩ := dc_bd_ok hf
  have hm := lh_sm10_trans hm (show lh_sm10 S S3 from k_X10_in k4)
  obtain ⟨_, rfl⟩ := dc_ret hf
  exact hm
set_option maxHeartbeats 4000000 in
set_option maxRecDepth 100000 in
theorem c_X10_isRow (l : Launch) (D : va_G) (cT : Nat → ClassId) (n : Nat) (S : lh_S) (ad : Nat → Nat → Nat) (A : Nat → Prop) (sz : Nat) (hA : ∀ q, sz ≤ q → A q) (t : Nat) (p1 : Int32) (r : Int32) (S' : lh_S) (hf : f_X10_isRow n S t p1 = some (r, S')) (L_t : ∀ j, some t = some j → j < gvN S 10) : Met l yX10_isRow wsX10_isRow ({ frames := 1, cells := 0, slots := 0, locals := 25 } : Room) (lh_P D cT S ad A sz [lh_r ad 10 (some t), .int p1]) (lh_Q D cT S' ad A ((∀ b, gvN S b ≤ gvN S' b) ∧ (r = 0 ∨ r = 1)) (some (.int r))) 0 0 A := by
  refine Met.ofW (cc := cX10_isRow) (maxL := 2) (ret := (some .boolean)) (by decide) rfl ?_
  intro p e s m args below meth c s₁ B hml hv
  obtain ⟨hargs, hsz, hW, hK, hN⟩ := hv
  have hx := B.exec
  have hb := B.bytes
  have hr := B.returns
  have hts := atoms_spec (ws := wsX10_isRow) B.pre
  have hown : s.vm.findClass RX10 = some m.cls := findClass_of_methodNamed B.named
  have hlocks := B.notSynchronized
  have hA : ∀ q, s.heap.size ≤ q → A q := fun q h => hA q (by rw [← hsz]; exact h)
  have ok := lh_W_ok hW
  have hm : ∀ b, gvN S b ≤ gvN S b := fun _ => Nat.le_refl _
  obtain ⟨ls, hent, hl⟩ := lh_entry m args [lh_r ad 10 (some t), .int p1] 2 [(0, lh_r ad 10 (some t)), (1, .int p1)] hargs (by simp [lv_args, lh_cat_r, lh_cat_i, lh_cat_j]) (by simp [lg_sl, lh_cat_r, lh_cat_i, lh_cat_j])
  rw [hent]
  generalize hH : s.heap = H at hW ⊢
  have hS : va_S A s.heap H [] := by rw [← hH]; exact va_S.rf
  unfold f_X10_isRow at hf
  refine lv_iload_n hx hb dX10_isRow_0 rfl (lv_at hl 1 rfl) ?_
  refine lv_i2l (v := p1.toInt64) hx hb dX10_isRow_1 rfl ?_
  refine lv_lconst (v := 0) hx hb dX10_isRow_2 (by decide) ?_
  refine lh_aload_n hx hb dX10_isRow_3 rfl (lv_at hl 0 rfl) ?_
  refine lh_get (a := 10) (k := 38) (N := 42) (C := RX10) (T := TX10) (own := RX10) (ref := "LoaderModelsModel") hx hb hts (fun _ h => (List.mem_cons_of_mem _ (List.mem_append_right _ h))) hown hK hW rfl (L_t _ rfl) rfl rfl rfl (by decide) (hts (.fieldLink RX10 207 "LoaderModelsModel" "rows" "I") (List.mem_cons_of_mem _ (List.mem_append_left _ (List.mem_of_getElem? (i := 0) rfl)))) (fun _ h9 => h9) dX10_isRow_4 (v := .int (gvI S 10 t 38)) rfl ?_
  refine lv_iconst (v := 1) hx hb dX10_isRow_7 (by decide) ?_
  refine lv_isub hx hb dX10_isRow_8 ?_
  refine lv_topi (fun v1 hv1 => ?_)
  replace hf := dc_let_e hv1 hf
  refine lv_i2l (v := v1.toInt64) hx hb dX10_isRow_9 rfl ?_
  obtain ⟨r2, S3, k4, hf⟩ := dc_bd_ok hf
  refine lh_call (S' := S3) (lh_rs ⟨hx, hb, hml, hown, hts⟩ (As := [.long p1.toInt64, .long (0 : Int64), .long v1.toInt64]) (rest := []) (c_X10_in l D cT n S ad A H.size (fun q9 h9 => hA q9 (Nat.le_trans hS.1 h9)) p1.toInt64 (0 : Int64) v1.toInt64 r2 S3 k4 ) (va_cwS 3 hts gX10_isRow_X10_in rfl rfl rfl (by decide +kernel) ⟨Nat.le_of_ble_eq_true rfl, Nat.le_of_ble_eq_true rfl⟩) hK hN hW rfl hl.1 rfl (by simp [lh_cat_r, lh_cat_i, lh_cat_j]) dX10_isRow_10 ⟨Nat.le_of_ble_eq_true rfl, Nat.le_of_ble_eq_true rfl⟩) hS (fun H locs hX hW hS => ?_)
  refine W.widen (k := 0) (n := 0) (by omega) (by omega) ?_
  show W _ _ _ _ _ _ _ _ _ _ _ _ _ _ _ (F0 m 13 ls [.int r2])
  have m5 : ∀ b, gvN S b ≤ gvN S3 b := hX.1
  have L_t : ∀ j, some t = some j → j < gvN S3 10 := fun j h => Nat.lt_of_lt_of_le (L_t j h) (m5 _)
  have hm : ∀ b, gvN S b ≤ gvN S3 b := lh_le_trans hm m5
  have ok := lh_W_ok hW
  have z6 := hX.2
  obtain ⟨rfl, rfl⟩ := dc_ret hf
  exact W.zret (v := r2) hx hb hr (lh_nar_z z6) (fun t9 ht9 hW9 => ⟨⟨rfl, ⟨hm, z6⟩, by rw [ht9]; exact hW⟩, hS.F ht9⟩) hS.2.2 dX10_isRow_13
def f_X10_loader_L59 (n : Nat) (t : Nat) (p1 : Int32) : Nat → lh_S → Int32 → Int32 → Option (Int32 × lh_S)
  | 0, _, _, _ => none
  | g + 1, S13, v14, v15 =>
  dc_if ((40 : Int32) ≤ v15) (
  some (v14, S13)) (
  dc_nn (gvR S13 10 t 16) fun x18 =>
  dc_gd ((((40 : Int32) * v14) + v15) < 0 ∨ gvL S13 46 x18 ≤ ((((40 : Int32) * v14) + v15)).toNatClampNeg) (
  dc_let (pvI S13 46 x18 ((((40 : Int32) * v14) + v15)).toNatClampNeg v14) fun S20 =>
  f_X10_loader_L59 n t p1 g S20 v14 (v15 + (1 : Int32))))
theorem m_X10_loader_L59 {n : Nat} {t : Nat} {p1 : Int32} {r : Int32} {S' : lh_S} : ∀ (g : Nat) (S13 : lh_S) (v14 : Int32) (v15 : Int32), f_X10_loader_L59 n t p1 g S13 v14 v15 = some (r, S') → ∀ b, gvN S13 b ≤ gvN S' b := by
    intro g
    induction g with
    | zero => intro S13 v14 v15 hf; rw [f_X10_loader_L59] at hf; cases hf
    | succ g ih =>
      intro S13 v14 v15 hf
      rw [f_X10_loader_L59] at hf
      have hm : ∀ b, gvN S13 b ≤ gvN S13 b := fun _ => Nat.le_refl _
      by_cases c16 : (40 : Int32) ≤ v15
      · replace hf := dc_if_t c16 hf
        obtain ⟨_, rfl⟩ := dc_ret hf
        exact hm
      · replace hf := dc_if_f c16 hf
        obtain ⟨x18, hx18, hf⟩ := dc_nn_ok hf
        obtain ⟨g19, hf⟩ := dc_gd_ok hf
        obtain ⟨S20, eS20, hf⟩ := dc_let_ok hf
        have hm := lh_le_trans hm (show ∀ b, gvN S13 b ≤ gvN S20 b from by rw [eS20]; exact lh_mI)
        exact lh_le_trans hm (ih S20 v14 (v15 + (1 : Int32)) hf)
theorem k_X10_loader_L59 {n : Nat} {t : Nat} {p1 : Int32} {r : Int32} {S' : lh_S} : ∀ (g : Nat) (S13 : lh_S) (v14 : Int32) (v15 : Int32), f_X10_loader_L59 n t p1 g S13 v14 v15 = some (r, S') → lh_sm10 S13 S' := by
    intro g
    induction g with
    | zero => intro S13 v14 v15 hf; rw [f_X10_loader_L59] at hf; cases hf
    | succ g ih =>
      intro S13 v14 v15 hf
      rw [f_X10_loader_L59] at hf
      have hm : lh_sm10 S13 S13 := lh_sm10_rf
      by_cases c16 : (40 : Int32) ≤ v15
      · replace hf := dc_if_t c16 hf
        obtain ⟨_, rfl⟩ := dc_ret hf
        exact hm
      · replace hf := dc_if_f c16 hf
        obtain ⟨x18, hx18, hf⟩ := dc_nn_ok hf
        obtain ⟨g19, hf⟩ := dc_gd_ok hf
        obtain ⟨S20, eS20, hf⟩ := dc_let_ok hf
        have hm := lh_sm10_trans hm (show lh_sm10 S13 S20 from by rw [eS20]; exact (lh_sm10I (by decide)))
        exact lh_sm10_trans hm (ih S20 v14 (v15 + (1 : Int32)) hf)
def f_X10_loader (n : Nat) (S : lh_S) (t : Nat) (p1 : Int32) : Option (Int32 × lh_S) :=
  dc_let (pvI S 10 t 0 (0 : Int32)) fun S1 =>
  dc_if ((gvI S1 10 t 10) ≤ 0) (
  dc_if ((gvI S1 10 t 10) = (8 : Int32)) (
  some ((-5 : Int32), S1)) (
  dc_let ((gvI S1 10 t 10) + (1 : Int32)) fun v5 =>
  dc_let (pvI S1 10 t 10 v5) fun S6 =>
  dc_nn (gvR S6 10 t 11) fun x9 =>
  dc_gd ((gvI S1 10 t 10) < 0 ∨ gvL S6 41 x9 ≤ ((gvI S1 10 t 10)).toNatClampNeg) (
  dc_let (pvI S6 41 x9 ((gvI S1 10 t 10)).toNatClampNeg p1) fun S11 =>
  f_X10_loader_L59 n t p1 n S11 (gvI S1 10 t 10) (0 : Int32)))) (
  dc_bd (f_X10_isLoader n S1 t p1) fun r22 S23 =>
  dc_if (r22 = 0) (
  some ((-2 : Int32), S23)) (
  dc_if ((gvI S23 10 t 10) = (8 : Int32)) (
  some ((-5 : Int32), S23)) (
  dc_let ((gvI S23 10 t 10) + (1 : Int32)) fun v29 =>
  dc_let (pvI S23 10 t 10 v29) fun S30 =>
  dc_nn (gvR S30 10 t 11) fun x33 =>
  dc_gd ((gvI S23 10 t 10) < 0 ∨ gvL S30 41 x33 ≤ ((gvI S23 10 t 10)).toNatClampNeg) (
  dc_let (pvI S30 41 x33 ((gvI S23 10 t 10)).toNatClampNeg p1) fun S35 =>
  f_X10_loader_L59 n t p1 n S35 (gvI S23 10 t 10) (0 : Int32)))))
set_option maxHeartbeats 1000000 in
theorem m_X10_loader {n : Nat} {S : lh_S} {t : Nat} {p1 : Int32} {r : Int32} {S' : lh_S} (hf : f_X10_loader n S t p1 = some (r, S')) : ∀ b, gvN S b ≤ gvN S' b := by
  have hm : ∀ b, gvN S b ≤ gvN S b := fun _ => Nat.le_refl _
  unfold f_X10_loader at hf
  obtain ⟨S1, eS1, hf⟩ := dc_let_ok hf
  have hm := lh_le_trans hm (show ∀ b, gvN S b ≤ gvN S1 b from by rw [eS1]; exact lh_mI)
  by_cases c3 : (gvI S1 10 t 10) ≤ 0
  · replace hf := dc_if_t c3 hf
    by_cases c4 : (gvI S1 10 t 10) = (8 : Int32)
    · replace hf := dc_if_t c4 hf
      obtain ⟨_, rfl⟩ := dc_ret hf
      exact hm
    · replace hf := dc_if_f c4 hf
      obtain ⟨v5, hv5, hf⟩ := dc_let_ok hf
      obtain ⟨S6, eS6, hf⟩ := dc_let_ok hf
      have hm := lh_le_trans hm (show ∀ b, gvN S1 b ≤ gvN S6 b from by rw [eS6]; exact lh_mI)
      obtain ⟨x9, hx9, hf⟩ := dc_nn_ok hf
      obtain ⟨g10, hf⟩ := dc_gd_ok hf
      obtain ⟨S11, eS11, hf⟩ := dc_let_ok hf
      have hm := lh_le_trans hm (show ∀ b, gvN S6 b ≤ gvN S11 b from by rw [eS11]; exact lh_mI)
      exact lh_le_trans hm (m_X10_loader_L59 n S11 (gvI S1 10 t 10) (0 : Int32) hf)
  · replace hf := dc_if_f c3 hf
    obtain ⟨r22, S23, k24, hf⟩ := dc_bd_ok hf
    have hm := lh_le_trans hm (show ∀ b, gvN S1 b ≤ gvN S23 b from m_X10_isLoader k24)
    by_cases c27 : r22 = 0
    · replace hf := dc_if_t c27 hf
      obtain ⟨_, rfl⟩ := dc_ret hf
      exact hm
    · replace hf := dc_if_f c27 hf
      by_cases c28 : (gvI S23 10 t 10) = (8 : Int32)
      · replace hf := dc_if_t c28 hf
        obtain ⟨_, rfl⟩ := dc_ret hf
        exact hm
      · replace hf := dc_if_f c28 hf
        obtain ⟨v29, hv29, hf⟩ := dc_let_ok hf
        obtain ⟨S30, eS30, hf⟩ := dc_let_ok hf
        have hm := lh_le_trans hm (show ∀ b, gvN S23 b ≤ gvN S30 b from by rw [eS30]; exact lh_mI)
        obtain ⟨x33, hx33, hf⟩ := dc_nn_ok hf
        obtain ⟨g34, hf⟩ := dc_gd_ok hf
        obtain ⟨S35, eS35, hf⟩ := dc_let_ok hf
        have hm := lh_le_trans hm (show ∀ b, gvN S30 b ≤ gvN S35 b from by rw [eS35]; exact lh_mI)
        exact lh_le_trans hm (m_X10_loader_L59 n S35 (gvI S23 10 t 10) (0 : Int32) hf)
set_option maxHeartbeats 1000000 in
theorem k_X10_loader {n : Nat} {S : lh_S} {t : Nat} {p1 : Int32} {r : Int32} {S' : lh_S} (hf : f_X10_loader n S t p1 = some (r, S')) : lh_sm10 S S' := by
  have hm : lh_sm10 S S := lh_sm10_rf
  unfold f_X10_loader at hf
  obtain ⟨S1, eS1, hf⟩ := dc_let_ok hf
  have hm := lh_sm10_trans hm (show lh_sm10 S S1 from by rw [eS1]; exact (lh_sm10I (by decide)))
  by_cases c3 : (gvI S1 10 t 10) ≤ 0
  · replace hf := dc_if_t c3 hf
    by_cases c4 : (gvI S1 10 t 10) = (8 : Int32)
    · replace hf := dc_if_t c4 hf
      obtain ⟨_, rfl⟩ := dc_ret hf
      exact hm
    · replace hf := dc_if_f c4 hf
      obtain ⟨v5, hv5, hf⟩ := dc_let_ok hf
      obtain ⟨S6, eS6, hf⟩ := dc_let_ok hf
      have hm := lh_sm10_trans hm (show lh_sm10 S1 S6 from by rw [eS6]; exact (lh_sm10I (by decide)))
      obtain ⟨x9, hx9, hf⟩ := dc_nn_ok hf
      obtain ⟨g10, hf⟩ := dc_gd_ok hf
      obtain ⟨S11, eS11, hf⟩ := dc_let_ok hf
      have hm := lh_sm10_trans hm (show lh_sm10 S6 S11 from by rw [eS11]; exact (lh_sm10I (by decide)))
      exact lh_sm10_trans hm (k_X10_loader_L59 n S11 (gvI S1 10 t 10) (0 : Int32) hf)
  · replace hf := dc_if_f c3 hf
    obtain ⟨r22, S23, k24, hf⟩ := dc_bd_ok hf
    have hm := lh_sm10_trans hm (show lh_sm10 S1 S23 from k_X10_isLoader k24)
    by_cases c27 : r22 = 0
    · replace hf := dc_if_t c27 hf
      obtain ⟨_, rfl⟩ := dc_ret hf
      exact hm
    · replace hf := dc_if_f c27 hf
      by_cases c28 : (gvI S23 10 t 10) = (8 : Int32)
      · replace hf := dc_if_t c28 hf
        obtain ⟨_, rfl⟩ := dc_ret hf
        exact hm
      · replace hf := dc_if_f c28 hf
        obtain ⟨v29, hv29, hf⟩ := dc_let_ok hf
        obtain ⟨S30, eS30, hf⟩ := dc_let_ok hf
        have hm := lh_sm10_trans hm (show lh_sm10 S23 S30 from by rw [eS30]; exact (lh_sm10I (by decide)))
        obtain ⟨x33, hx33, hf⟩ := dc_nn_ok hf
        obtain ⟨g34, hf⟩ := dc_gd_ok hf
        obtain ⟨S35, eS35, hf⟩ := dc_let_ok hf
        have hm := lh_sm10_trans hm (show lh_sm10 S30 S35 from by rw [eS35]; exact (lh_sm10I (by decide)))
        exact lh_sm10_trans hm (k_X10_loader_L59 n S35 (gvI S23 10 t 10) (0 : Int32) hf)
set_option maxHeartbeats 4000000 in
set_option maxRecDepth 100000 in
theorem c_X10_loader (l : Launch) (D : va_G) (cT : Nat → ClassId) (n : Nat) (S : lh_S) (ad : Nat → Nat → Nat) (A : Nat → Prop) (sz : Nat) (hA : ∀ q, sz ≤ q → A q) (t : Nat) (p1 : Int32) (r : Int32) (S' : lh_S) (hf : f_X10_loader n S t p1 = some (r, S')) (L_t : ∀ j, some t = some j → j < gvN S 10) : Met l yX10_loader wsX10_loader ({ frames := 2, cells := 0, slots := 0, locals := 46 } : Room) (lh_P D cT S ad A sz [lh_r ad 10 (some t), .int p1]) (lh_Q D cT S' ad A ((∀ b, gvN S b ≤ gvN S' b) ∧ True) (some (.int r))) 0 0 A := by
  refine Met.ofW (cc := cX10_loader) (maxL := 4) (ret := (some .int)) (by decide) rfl ?_
  intro p e s m args below meth c s₁ B hml hv
  obtain ⟨hargs, hsz, hW, hK, hN⟩ := hv
  have hx := B.exec
  have hb := B.bytes
  have hr := B.returns
  have hts := atoms_spec (ws := wsX10_loader) B.pre
  have hown : s.vm.findClass RX10 = some m.cls := findClass_of_methodNamed B.named
  have hlocks := B.notSynchronized
  have hA : ∀ q, s.heap.size ≤ q → A q := fun q h => hA q (by rw [← hsz]; exact h)
  have L59 : ∀ (g : Nat) (S13 : lh_S) (v14 : Int32) (v15 : Int32), f_X10_loader_L59 n t p1 g S13 v14 v15 = some (r, S') → (∀ b, gvN S b ≤ gvN S13 b) → ∀ (H : Heap) (locs : List Loc), lh_W D cT S13 ad A H → va_S A s.heap H locs → ∀ (ls : Array Slot), lv_has ls 4 [(0, lh_r ad 10 (some t)), (1, .int p1), (2, .int v14), (3, .int v15)] → W p l e (headSpec wsX10_loader ({ frames := 2, cells := 0, slots := 0, locals := 46 } : Room)).room s m args below meth c H locs 0 0 (MQ below (lh_Q D cT S' ad A ((∀ b, gvN S b ≤ gvN S' b) ∧ True) (some (.int r))) args s 0 0 A) (F0 m 59 ls []) := by
    intro g
    induction g with
    | zero => intro S13 v14 v15 hf; rw [f_X10_loader_L59] at hf; cases hf
    | succ g ih =>
      intro S13 v14 v15 hf hm H locs hW hS ls hl
      rw [f_X10_loader_L59] at hf
      have ok := lh_W_ok hW
      have L_t : ∀ j, some t = some j → j < gvN S13 10 := fun j h => Nat.lt_of_lt_of_le (L_t j h) (hm _)
      refine lv_iload_n hx hb dX10_loader_59 rfl (lv_at hl 3 rfl) ?_
      refine lv_bipush (v := 40) hx hb dX10_loader_60 (by decide) ?_
      refine lv_icmp_ge (tgt := 83) hx hb dX10_loader_62 (by decide) (fun c16 => ?_) (fun c16 => ?_)
      · replace hf := dc_if_t c16 hf
        refine lv_iload_n hx hb dX10_loader_83 rfl (lv_at hl 2 rfl) ?_
        obtain ⟨rfl, rfl⟩ := dc_ret hf
        exact W.iret (v := v14) hx hb hr (fun t9 ht9 hW9 => ⟨⟨rfl, ⟨hm, trivial⟩, by rw [ht9]; exact hW⟩, hS.F ht9⟩) hS.2.2 dX10_loader_84
      · replace hf := dc_if_f c16 hf
        refine lh_aload_n hx hb dX10_loader_65 rfl (lv_at hl 0 rfl) ?_
        have L17 : ∀ j, gvR S13 10 t 16 = some j → j < gvN S13 46 := fun j h => ok _ _ _ _ j (L_t _ rfl) rfl h
        refine lh_get (a := 10) (k := 16) (N := 42) (C := RX10) (T := TX10) (own := RX10) (ref := "LoaderModelsModel") hx hb hts (fun _ h => (List.mem_cons_of_mem _ (List.mem_append_right _ h))) hown hK hW rfl (L_t _ rfl) rfl rfl rfl (by decide) (hts (.fieldLink RX10 54 "LoaderModelsModel" "group" "[I") (List.mem_cons_of_mem _ (List.mem_append_left _ (List.mem_of_getElem? (i := 3) rfl)))) (fun _ h9 => h9) dX10_loader_66 (v := lh_r ad 46 (gvR S13 10 t 16)) rfl ?_
        refine lv_bipush (v := 40) hx hb dX10_loader_69 (by decide) ?_
        refine lv_iload_n hx hb dX10_loader_71 rfl (lv_at hl 2 rfl) ?_
        refine lv_imul hx hb dX10_loader_72 ?_
        refine lv_iload_n hx hb dX10_loader_73 rfl (lv_at hl 3 rfl) ?_
        refine lv_iadd hx hb dX10_loader_74 ?_
        refine lv_iload_n hx hb dX10_loader_75 rfl (lv_at hl 2 rfl) ?_
        obtain ⟨x18, hx18, hf⟩ := dc_nn_ok hf
        obtain ⟨g19, hf⟩ := dc_gd_ok hf
        obtain ⟨S20, eS20, hf⟩ := dc_let_ok hf
        refine lh_ast_i (a := 46) hx hb hK hW hS hx18 (L17 _ hx18) rfl (fun _ => rfl) g19 dX10_loader_76 (fun H locs hW hS => ?_)
        rw [← eS20] at hW
        have m21 : ∀ b, gvN S13 b ≤ gvN S20 b := by rw [eS20]; exact lh_mI
        have L_t : ∀ j, some t = some j → j < gvN S20 10 := fun j h => Nat.lt_of_lt_of_le (L_t j h) (m21 _)
        have hm : ∀ b, gvN S b ≤ gvN S20 b := lh_le_trans hm m21
        have ok := lh_W_ok hW
        refine lv_iinc (v := v15 + (1 : Int32)) (lv' := [(3, .int (v15 + (1 : Int32))), (0, lh_r ad 10 (some t)), (1, .int p1), (2, .int v14)]) hx hb dX10_loader_77 hl (k := 3) rfl (by first | rfl | decide) (by decide) (by first | rfl | simp [lh_cat_r, lh_cat_i, lh_cat_j]) (fun ls hl => ?_)
        refine lv_goto (tgt := 59) hx hb dX10_loader_80 (by decide) ?_
        exact ih S20 v14 (v15 + (1 : Int32)) hf hm _ _ hW hS _ (lv_sub hl [1, 2, 3, 0] (by first | rfl | simp [lv_pick]))
  have ok := lh_W_ok hW
  have hm : ∀ b, gvN S b ≤ gvN S b := fun _ => Nat.le_refl _
  obtain ⟨ls, hent, hl⟩ := lh_entry m args [lh_r ad 10 (some t), .int p1] 4 [(0, lh_r ad 10 (some t)), (1, .int p1)] hargs (by simp [lv_args, lh_cat_r, lh_cat_i, lh_cat_j]) (by simp [lg_sl, lh_cat_r, lh_cat_i, lh_cat_j])
  rw [hent]
  generalize hH : s.heap = H at hW ⊢
  have hS : va_S A s.heap H [] := by rw [← hH]; exact va_S.rf
  unfold f_X10_loader at hf
  refine lh_aload_n hx hb dX10_loader_0 rfl (lv_at hl 0 rfl) ?_
  refine lv_iconst (v := 0) hx hb dX10_loader_1 (by decide) ?_
  obtain ⟨S1, eS1, hf⟩ := dc_let_ok hf
  refine lh_put (S' := S1) (a := 10) (k := 0) (N := 42) (C := RX10) (T := TX10) (own := RX10) (ref := "LoaderModelsModel") (ty := .int) hx hb hts (fun _ h => (List.mem_cons_of_mem _ (List.mem_append_right _ h))) tyX10 tyX10_ok nmX10 hown hK hW hS rfl (L_t _ rfl) rfl rfl rfl (by decide) (hts (.fieldLink RX10 1 "LoaderModelsModel" "thrown" "I") (List.mem_cons_of_mem _ (List.mem_append_left _ (List.mem_of_getElem? (i := 0) rfl)))) (fun _ h9 => h9) (Or.inl rfl) (by decide +kernel) rfl rfl (fun q9 => by rw [eS1]; exact lh_chI rfl q9) dX10_loader_2 (fun H locs hW hS => ?_)
  have m2 : ∀ b, gvN S b ≤ gvN S1 b := by rw [eS1]; exact lh_mI
  have L_t : ∀ j, some t = some j → j < gvN S1 10 := fun j h => Nat.lt_of_lt_of_le (L_t j h) (m2 _)
  have hm : ∀ b, gvN S b ≤ gvN S1 b := lh_le_trans hm m2
  have ok := lh_W_ok hW
  refine lh_aload_n hx hb dX10_loader_5 rfl (lv_at hl 0 rfl) ?_
  refine lh_get (a := 10) (k := 10) (N := 42) (C := RX10) (T := TX10) (own := RX10) (ref := "LoaderModelsModel") hx hb hts (fun _ h => (List.mem_cons_of_mem _ (List.mem_append_right _ h))) hown hK hW rfl (L_t _ rfl) rfl rfl rfl (by decide) (hts (.fieldLink RX10 120 "LoaderModelsModel" "loaders" "I") (List.mem_cons_of_mem _ (List.mem_append_left _ (List.mem_of_getElem? (i := 1) rfl)))) (fun _ h9 => h9) dX10_loader_6 (v := .int (gvI S1 10 t 10)) rfl ?_
  refine lv_if_le (tgt := 23) hx hb dX10_loader_9 (by decide) (fun c3 => ?_) (fun c3 => ?_)
  · replace hf := dc_if_t c3 hf
    refine lh_aload_n hx hb dX10_loader_23 rfl (lv_at hl 0 rfl) ?_
    refine lh_get (a := 10) (k := 10) (N := 42) (C := RX10) (T := TX10) (own := RX10) (ref := "LoaderModelsModel") hx hb hts (fun _ h => (List.mem_cons_of_mem _ (List.mem_append_right _ h))) hown hK hW rfl (L_t _ rfl) rfl rfl rfl (by decide) (hts (.fieldLink RX10 120 "LoaderModelsModel" "loaders" "I") (List.mem_cons_of_mem _ (List.mem_append_left _ (List.mem_of_getElem? (i := 1) rfl)))) (fun _ h9 => h9) dX10_loader_24 (v := .int (gvI S1 10 t 10)) rfl ?_
    refine lv_bipush (v := 8) hx hb dX10_loader_27 (by decide) ?_
    refine lv_icmp_ne (tgt := 35) hx hb dX10_loader_29 (by decide) (fun c4 => ?_) (fun c4 => ?_)
    · replace hf := dc_if_f c4 hf
      refine lh_aload_n hx hb dX10_loader_35 rfl (lv_at hl 0 rfl) ?_
      refine lh_get (a := 10) (k := 10) (N := 42) (C := RX10) (T := TX10) (own := RX10) (ref := "LoaderModelsModel") hx hb hts (fun _ h => (List.mem_cons_of_mem _ (List.mem_append_right _ h))) hown hK hW rfl (L_t _ rfl) rfl rfl rfl (by decide) (hts (.fieldLink RX10 120 "LoaderModelsModel" "loaders" "I") (List.mem_cons_of_mem _ (List.mem_append_left _ (List.mem_of_getElem? (i := 1) rfl)))) (fun _ h9 => h9) dX10_loader_36 (v := .int (gvI S1 10 t 10)) rfl ?_
      refine lv_istore_n (i := 2) (lv' := [(2, .int (gvI S1 10 t 10)), (0, lh_r ad 10 (some t)), (1, .int p1)]) hx hb dX10_loader_39 rfl hl (by decide) (by first | rfl | simp [lh_cat_r, lh_cat_i, lh_cat_j]) (fun ls hl => ?_)
      refine lh_aload_n hx hb dX10_loader_40 rfl (lv_at hl 1 rfl) ?_
      refine lv_dup hx hb dX10_loader_41 lh_cat_r ?_
      refine lh_get (a := 10) (k := 10) (N := 42) (C := RX10) (T := TX10) (own := RX10) (ref := "LoaderModelsModel") hx hb hts (fun _ h => (List.mem_cons_of_mem _ (List.mem_append_right _ h))) hown hK hW rfl (L_t _ rfl) rfl rfl rfl (by decide) (hts (.fieldLink RX10 120 "LoaderModelsModel" "loaders" "I") (List.mem_cons_of_mem _ (List.mem_append_left _ (List.mem_of_getElem? (i := 1) rfl)))) (fun _ h9 => h9) dX10_loader_42 (v := .int (gvI S1 10 t 10)) rfl ?_
      refine lv_iconst (v := 1) hx hb dX10_loader_45 (by decide) ?_
      refine lv_iadd hx hb dX10_loader_46 ?_
      refine lv_topi (fun v5 hv5 => ?_)
      replace hf := dc_let_e hv5 hf
      obtain ⟨S6, eS6, hf⟩ := dc_let_ok hf
      refine lh_put (S' := S6) (a := 10) (k := 10) (N := 42) (C := RX10) (T := TX10) (own := RX10) (ref := "LoaderModelsModel") (ty := .int) hx hb hts (fun _ h => (List.mem_cons_of_mem _ (List.mem_append_right _ h))) tyX10 tyX10_ok nmX10 hown hK hW hS rfl (L_t _ rfl) rfl rfl rfl (by decide) (hts (.fieldLink RX10 120 "LoaderModelsModel" "loaders" "I") (List.mem_cons_of_mem _ (List.mem_append_left _ (List.mem_of_getElem? (i := 1) rfl)))) (fun _ h9 => h9) (Or.inl rfl) (by decide +kernel) rfl rfl (fun q9 => by rw [eS6]; exact lh_chI rfl q9) dX10_loader_47 (fun H locs hW hS => ?_)
      have m7 : ∀ b, gvN S1 b ≤ gvN S6 b := by rw [eS6]; exact lh_mI
      have L_t : ∀ j, some t = some j → j < gvN S6 10 := fun j h => Nat.lt_of_lt_of_le (L_t j h) (m7 _)
      have hm : ∀ b, gvN S b ≤ gvN S6 b := lh_le_trans hm m7
      have ok := lh_W_ok hW
      refine lh_aload_n hx hb dX10_loader_50 rfl (lv_at hl 1 rfl) ?_
      have L8 : ∀ j, gvR S6 10 t 11 = some j → j < gvN S6 41 := fun j h => ok _ _ _ _ j (L_t _ rfl) rfl h
      refine lh_get (a := 10) (k := 11) (N := 42) (C := RX10) (T := TX10) (own := RX10) (ref := "LoaderModelsModel") hx hb hts (fun _ h => (List.mem_cons_of_mem _ (List.mem_append_right _ h))) hown hK hW rfl (L_t _ rfl) rfl rfl rfl (by decide) (hts (.fieldLink RX10 39 "LoaderModelsModel" "parent" "[I") (List.mem_cons_of_mem _ (List.mem_append_left _ (List.mem_of_getElem? (i := 2) rfl)))) (fun _ h9 => h9) dX10_loader_51 (v := lh_r ad 41 (gvR S6 10 t 11)) rfl ?_
      refine lv_iload_n hx hb dX10_loader_54 rfl (lv_at hl 0 rfl) ?_
      refine lv_iload_n hx hb dX10_loader_55 rfl (lv_at hl 2 rfl) ?_
      obtain ⟨x9, hx9, hf⟩ := dc_nn_ok hf
      obtain ⟨g10, hf⟩ := dc_gd_ok hf
      obtain ⟨S11, eS11, hf⟩ := dc_let_ok hf
      refine lh_ast_i (a := 41) hx hb hK hW hS hx9 (L8 _ hx9) rfl (fun _ => rfl) g10 dX10_loader_56 (fun H locs hW hS => ?_)
      rw [← eS11] at hW
      have m12 : ∀ b, gvN S6 b ≤ gvN S11 b := by rw [eS11]; exact lh_mI
      have L_t : ∀ j, some t = some j → j < gvN S11 10 := fun j h => Nat.lt_of_lt_of_le (L_t j h) (m12 _)
      have hm : ∀ b, gvN S b ≤ gvN S11 b := lh_le_trans hm m12
      have ok := lh_W_ok hW
      refine lv_iconst (v := 0) hx hb dX10_loader_57 (by decide) ?_
      refine lv_istore_n (i := 3) (lv' := [(3, .int (0 : Int32)), (2, .int (gvI S1 10 t 10)), (0, lh_r ad 10 (some t)), (1, .int p1)]) hx hb dX10_loader_58 rfl hl (by decide) (by first | rfl | simp [lh_cat_r, lh_cat_i, lh_cat_j]) (fun ls hl => ?_)
      exact L59 n S11 (gvI S1 10 t 10) (0 : Int32) hf hm _ _ hW hS _ (lv_sub hl [2, 3, 1, 0] (by first | rfl | simp [lv_pick]))
    · replace hf := dc_if_t c4 hf
      refine lv_bipush (v := -5) hx hb dX10_loader_32 (by decide) ?_
      obtain ⟨rfl, rfl⟩ := dc_ret hf
      exact W.iret (v := (-5 : Int32)) hx hb hr (fun t9 ht9 hW9 => ⟨⟨rfl, ⟨hm, trivial⟩, by rw [ht9]; exact hW⟩, hS.F ht9⟩) hS.2.2 dX10_loader_34
  · replace hf := dc_if_f c3 hf
    refine lh_aload_n hx hb dX10_loader_12 rfl (lv_at hl 0 rfl) ?_
    refine lv_iload_n hx hb dX10_loader_13 rfl (lv_at hl 1 rfl) ?_
    obtain ⟨r22, S23, k24, hf⟩ := dc_bd_ok hf
    refine lh_call (S' := S23) (lh_rv ⟨hx, hb, hml, hown, hts⟩ rfl (As := [.int p1]) (rest := []) (k := 10) (c_X10_isLoader l D cT n S1 ad A H.size (fun q9 h9 => hA q9 (Nat.le_trans hS.1 h9)) t p1 r22 S23 k24 L_t) (cwV 1 hts gX10_loader_X10_isLoader rfl rfl rfl (by decide +kernel) ⟨Nat.le_of_ble_eq_true rfl, Nat.le_of_ble_eq_true rfl⟩) hK hN hW (L_t _ rfl) rfl rfl rfl hl.1 rfl (by simp [lh_cat_r, lh_cat_i, lh_cat_j]) dX10_loader_14 ⟨Nat.le_of_ble_eq_true rfl, Nat.le_of_ble_eq_true rfl⟩) hS (fun H locs hX hW hS => ?_)
    refine W.widen (k := 0) (n := 0) (by omega) (by omega) ?_
    show W _ _ _ _ _ _ _ _ _ _ _ _ _ _ _ (F0 m 17 ls [.int r22])
    have m25 : ∀ b, gvN S1 b ≤ gvN S23 b := hX.1
    have L_t : ∀ j, some t = some j → j < gvN S23 10 := fun j h => Nat.lt_of_lt_of_le (L_t j h) (m25 _)
    have hm : ∀ b, gvN S b ≤ gvN S23 b := lh_le_trans hm m25
    have ok := lh_W_ok hW
    have z26 := hX.2
    refine lv_if_ne (tgt := 23) hx hb dX10_loader_17 (by decide) (fun c27 => ?_) (fun c27 => ?_)
    · replace hf := dc_if_f c27 hf
      refine lh_aload_n hx hb dX10_loader_23 rfl (lv_at hl 0 rfl) ?_
      refine lh_get (a := 10) (k := 10) (N := 42) (C := RX10) (T := TX10) (own := RX10) (ref := "LoaderModelsModel") hx hb hts (fun _ h => (List.mem_cons_of_mem _ (List.mem_append_right _ h))) hown hK hW rfl (L_t _ rfl) rfl rfl rfl (by decide) (hts (.fieldLink RX10 120 "LoaderModelsModel" "loaders" "I") (List.mem_cons_of_mem _ (List.mem_append_left _ (List.mem_of_getElem? (i := 1) rfl)))) (fun _ h9 => h9) dX10_loader_24 (v := .int (gvI S23 10 t 10)) rfl ?_
      refine lv_bipush (v := 8) hx hb dX10_loader_27 (by decide) ?_
      refine lv_icmp_ne (tgt := 35) hx hb dX10_loader_29 (by decide) (fun c28 => ?_) (fun c28 => ?_)
      · replace hf := dc_if_f c28 hf
        refine lh_aload_n hx hb dX10_loader_35 rfl (lv_at hl 0 rfl) ?_
        refine lh_get (a := 10) (k := 10) (N := 42) (C := RX10) (T := TX10) (own := RX10) (ref := "LoaderModelsModel") hx hb hts (fun _ h => (List.mem_cons_of_mem _ (List.mem_append_right _ h))) hown hK hW rfl (L_t _ rfl) rfl rfl rfl (by decide) (hts (.fieldLink RX10 120 "LoaderModelsModel" "loaders" "I") (List.mem_cons_of_mem _ (List.mem_append_left _ (List.mem_of_getElem? (i := 1) rfl)))) (fun _ h9 => h9) dX10_loader_36 (v := .int (gvI S23 10 t 10)) rfl ?_
        refine lv_istore_n (i := 2) (lv' := [(2, .int (gvI S23 10 t 10)), (0, lh_r ad 10 (some t)), (1, .int p1)]) hx hb dX10_loader_39 rfl hl (by decide) (by first | rfl | simp [lh_cat_r, lh_cat_i, lh_cat_j]) (fun ls hl => ?_)
        refine lh_aload_n hx hb dX10_loader_40 rfl (lv_at hl 1 rfl) ?_
        refine lv_dup hx hb dX10_loader_41 lh_cat_r ?_
        refine lh_get (a := 10) (k := 10) (N := 42) (C := RX10) (T := TX10) (own := RX10) (ref := "LoaderModelsModel") hx hb hts (fun _ h => (List.mem_cons_of_mem _ (List.mem_append_right _ h))) hown hK hW rfl (L_t _ rfl) rfl rfl rfl (by decide) (hts (.fieldLink RX10 120 "LoaderModelsModel" "loaders" "I") (List.mem_cons_of_mem _ (List.mem_append_left _ (List.mem_of_getElem? (i := 1) rfl)))) (fun _ h9 => h9) dX10_loader_42 (v := .int (gvI S23 10 t 10)) rfl ?_
        refine lv_iconst (v := 1) hx hb dX10_loader_45 (by decide) ?_
        refine lv_iadd hx hb dX10_loader_46 ?_
        refine lv_topi (fun v29 hv29 => ?_)
        replace hf := dc_let_e hv29 hf
        obtain ⟨S30, eS30, hf⟩ := dc_let_ok hf
        refine lh_put (S' := S30) (a := 10) (k := 10) (N := 42) (C := RX10) (T := TX10) (own := RX10) (ref := "LoaderModelsModel") (ty := .int) hx hb hts (fun _ h => (List.mem_cons_of_mem _ (List.mem_append_right _ h))) tyX10 tyX10_ok nmX10 hown hK hW hS rfl (L_t _ rfl) rfl rfl rfl (by decide) (hts (.fieldLink RX10 120 "LoaderModelsModel" "loaders" "I") (List.mem_cons_of_mem _ (List.mem_append_left _ (List.mem_of_getElem? (i := 1) rfl)))) (fun _ h9 => h9) (Or.inl rfl) (by decide +kernel) rfl rfl (fun q9 => by rw [eS30]; exact lh_chI rfl q9) dX10_loader_47 (fun H locs hW hS => ?_)
        have m31 : ∀ b, gvN S23 b ≤ gvN S30 b := by rw [eS30]; exact lh_mI
        have L_t : ∀ j, some t = some j → j < gvN S30 10 := fun j h => Nat.lt_of_lt_of_le (L_t j h) (m31 _)
        have hm : ∀ b, gvN S b ≤ gvN S30 b := lh_le_trans hm m31
        have ok := lh_W_ok hW
        refine lh_aload_n hx hb dX10_loader_50 rfl (lv_at hl 1 rfl) ?_
        have L32 : ∀ j, gvR S30 10 t 11 = some j → j < gvN S30 41 := fun j h => ok _ _ _ _ j (L_t _ rfl) rfl h
        refine lh_get (a := 10) (k := 11) (N := 42) (C := RX10) (T := TX10) (own := RX10) (ref := "LoaderModelsModel") hx hb hts (fun _ h => (List.mem_cons_of_mem _ (List.mem_append_right _ h))) hown hK hW rfl (L_t _ rfl) rfl rfl rfl (by decide) (hts (.fieldLink RX10 39 "LoaderModelsModel" "parent" "[I") (List.mem_cons_of_mem _ (List.mem_append_left _ (List.mem_of_getElem? (i := 2) rfl)))) (fun _ h9 => h9) dX10_loader_51 (v := lh_r ad 41 (gvR S30 10 t 11)) rfl ?_
        refine lv_iload_n hx hb dX10_loader_54 rfl (lv_at hl 0 rfl) ?_
        refine lv_iload_n hx hb dX10_loader_55 rfl (lv_at hl 2 rfl) ?_
        obtain ⟨x33, hx33, hf⟩ := dc_nn_ok hf
        obtain ⟨g34, hf⟩ := dc_gd_ok hf
        obtain ⟨S35, eS35, hf⟩ := dc_let_ok hf
        refine lh_ast_i (a := 41) hx hb hK hW hS hx33 (L32 _ hx33) rfl (fun _ => rfl) g34 dX10_loader_56 (fun H locs hW hS => ?_)
        rw [← eS35] at hW
        have m36 : ∀ b, gvN S30 b ≤ gvN S35 b := by rw [eS35]; exact lh_mI
        have L_t : ∀ j, some t = some j → j < gvN S35 10 := fun j h => Nat.lt_of_lt_of_le (L_t j h) (m36 _)
        have hm : ∀ b, gvN S b ≤ gvN S35 b := lh_le_trans hm m36
        have ok := lh_W_ok hW
        refine lv_iconst (v := 0) hx hb dX10_loader_57 (by decide) ?_
        refine lv_istore_n (i := 3) (lv' := [(3, .int (0 : Int32)), (2, .int (gvI S23 10 t 10)), (0, lh_r ad 10 (some t)), (1, .int p1)]) hx hb dX10_loader_58 rfl hl (by decide) (by first | rfl | simp [lh_cat_r, lh_cat_i, lh_cat_j]) (fun ls hl => ?_)
        exact L59 n S35 (gvI S23 10 t 10) (0 : Int32) hf hm _ _ hW hS _ (lv_sub hl [2, 3, 1, 0] (by first | rfl | simp [lv_pick]))
      · replace hf := dc_if_t c28 hf
        refine lv_bipush (v := -5) hx hb dX10_loader_32 (by decide) ?_
        obtain ⟨rfl, rfl⟩ := dc_ret hf
        exact W.iret (v := (-5 : Int32)) hx hb hr (fun t9 ht9 hW9 => ⟨⟨rfl, ⟨hm, trivial⟩, by rw [ht9]; exact hW⟩, hS.F ht9⟩) hS.2.2 dX10_loader_34
    · replace hf := dc_if_t c27 hf
      refine lv_bipush (v := -2) hx hb dX10_loader_20 (by decide) ?_
      obtain ⟨rfl, rfl⟩ := dc_ret hf
      exact W.iret (v := (-2 : Int32)) hx hb hr (fun t9 ht9 hW9 => ⟨⟨rfl, ⟨hm, trivial⟩, by rw [ht9]; exact hW⟩, hS.F ht9⟩) hS.2.2 dX10_loader_22
def f_X10_bound (n : Nat) (S : lh_S) (t : Nat) (p1 : Int32) (p2 : Int32) : Option (Int32 × lh_S) :=
  dc_let (pvI S 10 t 0 (0 : Int32)) fun S1 =>
  dc_bd (f_X10_isLoader n S1 t p1) fun r3 S4 =>
  dc_if (r3 = 0) (
  some ((-2 : Int32), S4)) (
  dc_bd (f_X10_in n S4 p2.toInt64 (0 : Int64) (40 : Int64)) fun r9 S10 =>
  dc_if (r9 = 0) (
  some ((-3 : Int32), S10)) (
  dc_if (p1 = 0) (
  some ((-4 : Int32), S10)) (
  dc_nn (gvR S10 10 t 12) fun x17 =>
  dc_gd (p1 < 0 ∨ gvL S10 42 x17 ≤ (p1).toNatClampNeg) (
  dc_gd (p1 < 0 ∨ gvL S10 42 x17 ≤ (p1).toNatClampNeg) (
  dc_let (pvI S10 42 x17 (p1).toNatClampNeg p2) fun S21 =>
  some (gvI S10 42 x17 (p1).toNatClampNeg, S21))))))
set_option maxHeartbeats 1000000 in
theorem m_X10_bound {n : Nat} {S : lh_S} {t : Nat} {p1 : Int32} {p2 : Int32} {r : Int32} {S' : lh_S} (hf : f_X10_bound n S t p1 p2 = some (r, S')) : ∀ b, gvN S b ≤ gvN S' b := by
  have hm : ∀ b, gvN S b ≤ gvN S b := fun _ => Nat.le_refl _
  unfold f_X10_bound at hf
  obtain ⟨S1, eS1, hf⟩ := dc_let_ok hf
  have hm := lh_le_trans hm (show ∀ b, gvN S b ≤ gvN S1 b from by rw [eS1]; exact lh_mI)
  obtain ⟨r3, S4, k5, hf⟩ := dc_bd_ok hf
  have hm := lh_le_trans hm (show ∀ b, gvN S1 b ≤ gvN S4 b from m_X10_isLoader k5)
  by_cases c8 : r3 = 0
  · replace hf := dc_if_t c8 hf
    obtain ⟨_, rfl⟩ := dc_ret hf
    exact hm
  · replace hf := dc_if_f c8 hf
    obtain ⟨r9, S10, k11, hf⟩ := dc_bd_ok hf
    have hm := lh_le_trans hm (show ∀ b, gvN S4 b ≤ gvN S10 b from m_X10_in k11)
    by_cases c14 : r9 = 0
    · replace hf := dc_if_t c14 hf
      obtain ⟨_, rfl⟩ := dc_ret hf
      exact hm
    · replace hf := dc_if_f c14 hf
      by_cases c15 : p1 = 0
      · replace hf := dc_if_t c15 hf
        obtain ⟨_, rfl⟩ := dc_ret hf
        exact hm
      · replace hf := dc_if_f c15 hf
        obtain ⟨x17, hx17, hf⟩ := dc_nn_ok hf
        obtain ⟨g18, hf⟩ := dc_gd_ok hf
        obtain ⟨g20, hf⟩ := dc_gd_ok hf
        obtain ⟨S21, eS21, hf⟩ := dc_let_ok hf
        have hm := lh_le_trans hm (show ∀ b, gvN S10 b ≤ gvN S21 b from by rw [eS21]; exact lh_mI)
        obtain ⟨_, rfl⟩ := dc_ret hf
        exact hm
set_option maxHeartbeats 1000000 in
theorem k_X10_bound {n : Nat} {S : lh_S} {t : Nat} {p1 : Int32} {p2 : Int32} {r : Int32} {S' : lh_S} (hf : f_X10_bound n S t p1 p2 = some (r, S')) : lh_sm10 S S' := by
  have hm : lh_sm10 S S := lh_sm10_rf
  unfold f_X10_bound at hf
  obtain ⟨S1, eS1, hf⟩ := dc_let_ok hf
  have hm := lh_sm10_trans hm (show lh_sm10 S S1 from by rw [eS1]; exact (lh_sm10I (by decide)))
  obtain ⟨r3, S4, k5, hf⟩ := dc_bd_ok hf
  have hm := lh_sm10_trans hm (show lh_sm10 S1 S4 from k_X10_isLoader k5)
  by_cases c8 : r3 = 0
  · replace hf := dc_if_t c8 hf
    obtain ⟨_, rfl⟩ := dc_ret hf
    exact hm
  · replace hf := dc_if_f c8 hf
    obtain ⟨r9, S10, k11, hf⟩ := dc_bd_ok hf
    have hm := lh_sm10_trans hm (show lh_sm10 S4 S10 from k_X10_in k11)
    by_cases c14 : r9 = 0
    · replace hf := dc_if_t c14 hf
      obtain ⟨_, rfl⟩ := dc_ret hf
      exact hm
    · replace hf := dc_if_f c14 hf
      by_cases c15 : p1 = 0
      · replace hf := dc_if_t c15 hf
        obtain ⟨_, rfl⟩ := dc_ret hf
        exact hm
      · replace hf := dc_if_f c15 hf
        obtain ⟨x17, hx17, hf⟩ := dc_nn_ok hf
        obtain ⟨g18, hf⟩ := dc_gd_ok hf
        obtain ⟨g20, hf⟩ := dc_gd_ok hf
        obtain ⟨S21, eS21, hf⟩ := dc_let_ok hf
        have hm := lh_sm10_trans hm (show lh_sm10 S10 S21 from by rw [eS21]; exact (lh_sm10I (by decide)))
        obtain ⟨_, rfl⟩ := dc_ret hf
        exact hm
set_option maxHeartbeats 4000000 in
set_option maxRecDepth 100000 in
theorem c_X10_bound (l : Launch) (D : va_G) (cT : Nat → ClassId) (n : Nat) (S : lh_S) (ad : Nat → Nat → Nat) (A : Nat → Prop) (sz : Nat) (hA : ∀ q, sz ≤ q → A q) (t : Nat) (p1 : Int32) (p2 : Int32) (r : Int32) (S' : lh_S) (hf : f_X10_bound n S t p1 p2 = some (r, S')) (L_t : ∀ j, some t = some j → j < gvN S 10) : Met l yX10_bound wsX10_bound ({ frames := 2, cells := 0, slots := 0, locals := 46 } : Room) (lh_P D cT S ad A sz [lh_r ad 10 (some t), .int p1, .int p2]) (lh_Q D cT S' ad A ((∀ b, gvN S b ≤ gvN S' b) ∧ True) (some (.int r))) 0 0 A := by
  refine Met.ofW (cc := cX10_bound) (maxL := 4) (ret := (some .int)) (by decide) rfl ?_
  intro p e s m args below meth c s₁ B hml hv
  obtain ⟨hargs, hsz, hW, hK, hN⟩ := hv
  have hx := B.exec
  have hb := B.bytes
  have hr := B.returns
  have hts := atoms_spec (ws := wsX10_bound) B.pre
  have hown : s.vm.findClass RX10 = some m.cls := findClass_of_methodNamed B.named
  have hlocks := B.notSynchronized
  have hA : ∀ q, s.heap.size ≤ q → A q := fun q h => hA q (by rw [← hsz]; exact h)
  have ok := lh_W_ok hW
  have hm : ∀ b, gvN S b ≤ gvN S b := fun _ => Nat.le_refl _
  obtain ⟨ls, hent, hl⟩ := lh_entry m args [lh_r ad 10 (some t), .int p1, .int p2] 4 [(0, lh_r ad 10 (some t)), (1, .int p1), (2, .int p2)] hargs (by simp [lv_args, lh_cat_r, lh_cat_i, lh_cat_j]) (by simp [lg_sl, lh_cat_r, lh_cat_i, lh_cat_j])
  rw [hent]
  generalize hH : s.heap = H at hW ⊢
  have hS : va_S A s.heap H [] := by rw [← hH]; exact va_S.rf
  unfold f_X10_bound at hf
  refine lh_aload_n hx hb dX10_bound_0 rfl (lv_at hl 0 rfl) ?_
  refine lv_iconst (v := 0) hx hb dX10_bound_1 (by decide) ?_
  obtain ⟨S1, eS1, hf⟩ := dc_let_ok hf
  refine lh_put (S' := S1) (a := 10) (k := 0) (N := 42) (C := RX10) (T := TX10) (own := RX10) (ref := "LoaderModelsModel") (ty := .int) hx hb hts (fun _ h => (List.mem_cons_of_mem _ (List.mem_append_right _ h))) tyX10 tyX10_ok nmX10 hown hK hW hS rfl (L_t _ rfl) rfl rfl rfl (by decide) (hts (.fieldLink RX10 1 "LoaderModelsModel" "thrown" "I") (List.mem_cons_of_mem _ (List.mem_append_left _ (List.mem_of_getElem? (i := 0) rfl)))) (fun _ h9 => h9) (Or.inl rfl) (by decide +kernel) rfl rfl (fun q9 => by rw [eS1]; exact lh_chI rfl q9) dX10_bound_2 (fun H locs hW hS => ?_)
  have m2 : ∀ b, gvN S b ≤ gvN S1 b := by rw [eS1]; exact lh_mI
  have L_t : ∀ j, some t = some j → j < gvN S1 10 := fun j h => Nat.lt_of_lt_of_le (L_t j h) (m2 _)
  have hm : ∀ b, gvN S b ≤ gvN S1 b := lh_le_trans hm m2
  have ok := lh_W_ok hW
  refine lh_aload_n hx hb dX10_bound_5 rfl (lv_at hl 0 rfl) ?_
  refine lv_iload_n hx hb dX10_bound_6 rfl (lv_at hl 1 rfl) ?_
  obtain ⟨r3, S4, k5, hf⟩ := dc_bd_ok hf
  refine lh_call (S' := S4) (lh_rv ⟨hx, hb, hml, hown, hts⟩ rfl (As := [.int p1]) (rest := []) (k := 10) (c_X10_isLoader l D cT n S1 ad A H.size (fun q9 h9 => hA q9 (Nat.le_trans hS.1 h9)) t p1 r3 S4 k5 L_t) (cwV 1 hts gX10_bound_X10_isLoader rfl rfl rfl (by decide +kernel) ⟨Nat.le_of_ble_eq_true rfl, Nat.le_of_ble_eq_true rfl⟩) hK hN hW (L_t _ rfl) rfl rfl rfl hl.1 rfl (by simp [lh_cat_r, lh_cat_i, lh_cat_j]) dX10_bound_7 ⟨Nat.le_of_ble_eq_true rfl, Nat.le_of_ble_eq_true rfl⟩) hS (fun H locs hX hW hS => ?_)
  refine W.widen (k := 0) (n := 0) (by omega) (by omega) ?_
  show W _ _ _ _ _ _ _ _ _ _ _ _ _ _ _ (F0 m 10 ls [.int r3])
  have m6 : ∀ b, gvN S1 b ≤ gvN S4 b := hX.1
  have L_t : ∀ j, some t = some j → j < gvN S4 10 := fun j h => Nat.lt_of_lt_of_le (L_t j h) (m6 _)
  have hm : ∀ b, gvN S b ≤ gvN S4 b := lh_le_trans hm m6
  have ok := lh_W_ok hW
  have z7 := hX.2
  refine lv_if_ne (tgt := 16) hx hb dX10_bound_10 (by decide) (fun c8 => ?_) (fun c8 => ?_)
  · replace hf := dc_if_f c8 hf
    refine lv_iload_n hx hb dX10_bound_16 rfl (lv_at hl 2 rfl) ?_
    refine lv_i2l (v := p2.toInt64) hx hb dX10_bound_17 rfl ?_
    refine lv_lconst (v := 0) hx hb dX10_bound_18 (by decide) ?_
    refine lv_ldc2 (v := 40) hx hb hown (hts (.constantLong RX10 139 (40)) (List.mem_cons_of_mem _ (List.mem_append_left _ (List.mem_of_getElem? (i := 1) rfl)))) dX10_bound_19 ?_
    obtain ⟨r9, S10, k11, hf⟩ := dc_bd_ok hf
    refine lh_call (S' := S10) (lh_rs ⟨hx, hb, hml, hown, hts⟩ (As := [.long p2.toInt64, .long (0 : Int64), .long (40 : Int64)]) (rest := []) (c_X10_in l D cT n S4 ad A H.size (fun q9 h9 => hA q9 (Nat.le_trans hS.1 h9)) p2.toInt64 (0 : Int64) (40 : Int64) r9 S10 k11 ) (va_cwS 3 hts gX10_bound_X10_in rfl rfl rfl (by decide +kernel) ⟨Nat.le_of_ble_eq_true rfl, Nat.le_of_ble_eq_true rfl⟩) hK hN hW rfl hl.1 rfl (by simp [lh_cat_r, lh_cat_i, lh_cat_j]) dX10_bound_22 ⟨Nat.le_of_ble_eq_true rfl, Nat.le_of_ble_eq_true rfl⟩) hS (fun H locs hX hW hS => ?_)
    refine W.widen (k := 0) (n := 0) (by omega) (by omega) ?_
    show W _ _ _ _ _ _ _ _ _ _ _ _ _ _ _ (F0 m 25 ls [.int r9])
    have m12 : ∀ b, gvN S4 b ≤ gvN S10 b := hX.1
    have L_t : ∀ j, some t = some j → j < gvN S10 10 := fun j h => Nat.lt_of_lt_of_le (L_t j h) (m12 _)
    have hm : ∀ b, gvN S b ≤ gvN S10 b := lh_le_trans hm m12
    have ok := lh_W_ok hW
    have z13 := hX.2
    refine lv_if_ne (tgt := 31) hx hb dX10_bound_25 (by decide) (fun c14 => ?_) (fun c14 => ?_)
    · replace hf := dc_if_f c14 hf
      refine lv_iload_n hx hb dX10_bound_31 rfl (lv_at hl 1 rfl) ?_
      refine lv_if_ne (tgt := 38) hx hb dX10_bound_32 (by decide) (fun c15 => ?_) (fun c15 => ?_)
      · replace hf := dc_if_f c15 hf
        refine lh_aload_n hx hb dX10_bound_38 rfl (lv_at hl 0 rfl) ?_
        have L16 : ∀ j, gvR S10 10 t 12 = some j → j < gvN S10 42 := fun j h => ok _ _ _ _ j (L_t _ rfl) rfl h
        refine lh_get (a := 10) (k := 12) (N := 42) (C := RX10) (T := TX10) (own := RX10) (ref := "LoaderModelsModel") hx hb hts (fun _ h => (List.mem_cons_of_mem _ (List.mem_append_right _ h))) hown hK hW rfl (L_t _ rfl) rfl rfl rfl (by decide) (hts (.fieldLink RX10 42 "LoaderModelsModel" "bound" "[I") (List.mem_cons_of_mem _ (List.mem_append_left _ (List.mem_of_getElem? (i := 2) rfl)))) (fun _ h9 => h9) dX10_bound_39 (v := lh_r ad 42 (gvR S10 10 t 12)) rfl ?_
        refine lv_iload_n hx hb dX10_bound_42 rfl (lv_at hl 1 rfl) ?_
        obtain ⟨x17, hx17, hf⟩ := dc_nn_ok hf
        obtain ⟨g18, hf⟩ := dc_gd_ok hf
        refine lh_ald_i (a := 42) hx hb hK hW hx17 (L16 _ hx17) rfl rfl g18 dX10_bound_43 ?_
        refine lv_istore_n (i := 3) (lv' := [(3, .int (gvI S10 42 x17 (p1).toNatClampNeg)), (0, lh_r ad 10 (some t)), (1, .int p1), (2, .int p2)]) hx hb dX10_bound_44 rfl hl (by decide) (by first | rfl | simp [lh_cat_r, lh_cat_i, lh_cat_j]) (fun ls hl => ?_)
        refine lh_aload_n hx hb dX10_bound_45 rfl (lv_at hl 1 rfl) ?_
        have L19 : ∀ j, gvR S10 10 t 12 = some j → j < gvN S10 42 := fun j h => ok _ _ _ _ j (L_t _ rfl) rfl h
        refine lh_get (a := 10) (k := 12) (N := 42) (C := RX10) (T := TX10) (own := RX10) (ref := "LoaderModelsModel") hx hb hts (fun _ h => (List.mem_cons_of_mem _ (List.mem_append_right _ h))) hown hK hW rfl (L_t _ rfl) rfl rfl rfl (by decide) (hts (.fieldLink RX10 42 "LoaderModelsModel" "bound" "[I") (List.mem_cons_of_mem _ (List.mem_append_left _ (List.mem_of_getElem? (i := 2) rfl)))) (fun _ h9 => h9) dX10_bound_46 (v := lh_r ad 42 (gvR S10 10 t 12)) rfl ?_
        refine lv_iload_n hx hb dX10_bound_49 rfl (lv_at hl 2 rfl) ?_
        refine lv_iload_n hx hb dX10_bound_50 rfl (lv_at hl 3 rfl) ?_
        obtain ⟨g20, hf⟩ := dc_gd_ok hf
        obtain ⟨S21, eS21, hf⟩ := dc_let_ok hf
        refine lh_ast_i (a := 42) hx hb hK hW hS hx17 (L19 _ hx17) rfl (fun _ => rfl) g20 dX10_bound_51 (fun H locs hW hS => ?_)
        rw [← eS21] at hW
        have m22 : ∀ b, gvN S10 b ≤ gvN S21 b := by rw [eS21]; exact lh_mI
        have L_t : ∀ j, some t = some j → j < gvN S21 10 := fun j h => Nat.lt_of_lt_of_le (L_t j h) (m22 _)
        have hm : ∀ b, gvN S b ≤ gvN S21 b := lh_le_trans hm m22
        have ok := lh_W_ok hW
        refine lv_iload_n hx hb dX10_bound_52 rfl (lv_at hl 0 rfl) ?_
        obtain ⟨rfl, rfl⟩ := dc_ret hf
        exact W.iret (v := gvI S10 42 x17 (p1).toNatClampNeg) hx hb hr (fun t9 ht9 hW9 => ⟨⟨rfl, ⟨hm, trivial⟩, by rw [ht9]; exact hW⟩, hS.F ht9⟩) hS.2.2 dX10_bound_53
      · replace hf := dc_if_t c15 hf
        refine lv_bipush (v := -4) hx hb dX10_bound_35 (by decide) ?_
        obtain ⟨rfl, rfl⟩ := dc_ret hf
        exact W.iret (v := (-4 : Int32)) hx hb hr (fun t9 ht9 hW9 => ⟨⟨rfl, ⟨hm, trivial⟩, by rw [ht9]; exact hW⟩, hS.F ht9⟩) hS.2.2 dX10_bound_37
    · replace hf := dc_if_t c14 hf
      refine lv_bipush (v := -3) hx hb dX10_bound_28 (by decide) ?_
      obtain ⟨rfl, rfl⟩ := dc_ret hf
      exact W.iret (v := (-3 : Int32)) hx hb hr (fun t9 ht9 hW9 => ⟨⟨rfl, ⟨hm, trivial⟩, by rw [ht9]; exact hW⟩, hS.F ht9⟩) hS.2.2 dX10_bound_30
  · replace hf := dc_if_t c8 hf
    refine lv_bipush (v := -2) hx hb dX10_bound_13 (by decide) ?_
    obtain ⟨rfl, rfl⟩ := dc_ret hf
    exact W.iret (v := (-2 : Int32)) hx hb hr (fun t9 ht9 hW9 => ⟨⟨rfl, ⟨hm, trivial⟩, by rw [ht9]; exact hW⟩, hS.F ht9⟩) hS.2.2 dX10_bound_15
def f_X10_file (n : Nat) (S : lh_S) (t : Nat) (p1 : Int32) (p2 : Int32) (p3 : Int32) (p4 : Int32) (p5 : Int32) : Option (Int32 × lh_S) :=
  dc_let (pvI S 10 t 0 (0 : Int32)) fun S1 =>
  dc_bd (f_X10_isName n S1 p1) fun r3 S4 =>
  dc_if (r3 = 0) (
  some ((-3 : Int32), S4)) (
  dc_bd (f_X10_isName n S4 p2) fun r9 S10 =>
  dc_if (r9 = 0) (
  some ((-3 : Int32), S10)) (
  dc_bd (f_X10_isName n S10 p3) fun r15 S16 =>
  dc_if (r15 = 0) (
  some ((-3 : Int32), S16)) (
  dc_if ((gvI S16 10 t 1) = (30 : Int32)) (
  some ((-5 : Int32), S16)) (
  dc_let ((gvI S16 10 t 1) + (1 : Int32)) fun v22 =>
  dc_let (pvI S16 10 t 1 v22) fun S23 =>
  dc_nn (gvR S23 10 t 2) fun x26 =>
  dc_gd ((gvI S16 10 t 1) < 0 ∨ gvL S23 32 x26 ≤ ((gvI S16 10 t 1)).toNatClampNeg) (
  dc_let (pvI S23 32 x26 ((gvI S16 10 t 1)).toNatClampNeg p1) fun S28 =>
  dc_nn (gvR S28 10 t 3) fun x31 =>
  dc_gd ((gvI S16 10 t 1) < 0 ∨ gvL S28 33 x31 ≤ ((gvI S16 10 t 1)).toNatClampNeg) (
  dc_let (pvI S28 33 x31 ((gvI S16 10 t 1)).toNatClampNeg p2) fun S33 =>
  dc_nn (gvR S33 10 t 4) fun x36 =>
  dc_gd ((gvI S16 10 t 1) < 0 ∨ gvL S33 34 x36 ≤ ((gvI S16 10 t 1)).toNatClampNeg) (
  dc_let (pvI S33 34 x36 ((gvI S16 10 t 1)).toNatClampNeg p3) fun S38 =>
  dc_nn (gvR S38 10 t 5) fun x41 =>
  dc_gd ((gvI S16 10 t 1) < 0 ∨ gvL S38 35 x41 ≤ ((gvI S16 10 t 1)).toNatClampNeg) (
  dc_let (pvI S38 35 x41 ((gvI S16 10 t 1)).toNatClampNeg p4) fun S43 =>
  dc_nn (gvR S43 10 t 6) fun x46 =>
  dc_gd ((gvI S16 10 t 1) < 0 ∨ gvL S43 36 x46 ≤ ((gvI S16 10 t 1)).toNatClampNeg) (
  dc_let (pvI S43 36 x46 ((gvI S16 10 t 1)).toNatClampNeg (vp_nar .boolean p5)) fun S48 =>
  some (gvI S16 10 t 1, S48))))))))))
set_option maxHeartbeats 1000000 in
theorem m_X10_file {n : Nat} {S : lh_S} {t : Nat} {p1 : Int32} {p2 : Int32} {p3 : Int32} {p4 : Int32} {p5 : Int32} {r : Int32} {S' : lh_S} (hf : f_X10_file n S t p1 p2 p3 p4 p5 = some (r, S')) : ∀ b, gvN S b ≤ gvN S' b := by
  have hm : ∀ b, gvN S b ≤ gvN S b := fun _ => Nat.le_refl _
  unfold f_X10_file at hf
  obtain ⟨S1, eS1, hf⟩ := dc_let_ok hf
  have hm := lh_le_trans hm (show ∀ b, gvN S b ≤ gvN S1 b from by rw [eS1]; exact lh_mI)
  obtain ⟨r3, S4, k5, hf⟩ := dc_bd_ok hf
  have hm := lh_le_trans hm (show ∀ b, gvN S1 b ≤ gvN S4 b from m_X10_isName k5)
  by_cases c8 : r3 = 0
  · replace hf := dc_if_t c8 hf
    obtain ⟨_, rfl⟩ := dc_ret hf
    exact hm
  · replace hf := dc_if_f c8 hf
    obtain ⟨r9, S10, k11, hf⟩ := dc_bd_ok hf
    have hm := lh_le_trans hm (show ∀ b, gvN S4 b ≤ gvN S10 b from m_X10_isName k11)
    by_cases c14 : r9 = 0
    · replace hf := dc_if_t c14 hf
      obtain ⟨_, rfl⟩ := dc_ret hf
      exact hm
    · replace hf := dc_if_f c14 hf
      obtain ⟨r15, S16, k17, hf⟩ := dc_bd_ok hf
      have hm := lh_le_trans hm (show ∀ b, gvN S10 b ≤ gvN S16 b from m_X10_isName k17)
      by_cases c20 : r15 = 0
      · replace hf := dc_if_t c20 hf
        obtain ⟨_, rfl⟩ := dc_ret hf
        exact hm
      · replace hf := dc_if_f c20 hf
        by_cases c21 : (gvI S16 10 t 1) = (30 : Int32)
        · replace hf := dc_if_t c21 hf
          obtain ⟨_, rfl⟩ := dc_ret hf
          exact hm
        · replace hf := dc_if_f c21 hf
          obtain ⟨v22, hv22, hf⟩ := dc_let_ok hf
          obtain ⟨S23, eS23, hf⟩ := dc_let_ok hf
          have hm := lh_le_trans hm (show ∀ b, gvN S16 b ≤ gvN S23 b from by rw [eS23]; exact lh_mI)
          obtain ⟨x26, hx26, hf⟩ := dc_nn_ok hf
          obtain ⟨g27, hf⟩ := dc_gd_ok hf
          obtain ⟨S28, eS28, hf⟩ := dc_let_ok hf
          have hm := lh_le_trans hm (show ∀ b, gvN S23 b ≤ gvN S28 b from by rw [eS28]; exact lh_mI)
          obtain ⟨x31, hx31, hf⟩ := dc_nn_ok hf
          obtain ⟨g32, hf⟩ := dc_gd_ok hf
          obtain ⟨S33, eS33, hf⟩ := dc_let_ok hf
          have hm := lh_le_trans hm (show ∀ b, gvN S28 b ≤ gvN S33 b from by rw [eS33]; exact lh_mI)
          obtain ⟨x36, hx36, hf⟩ := dc_nn_ok hf
          obtain ⟨g37, hf⟩ := dc_gd_ok hf
          obtain ⟨S38, eS38, hf⟩ := dc_let_ok hf
          have hm := lh_le_trans hm (show ∀ b, gvN S33 b ≤ gvN S38 b from by rw [eS38]; exact lh_mI)
          obtain ⟨x41, hx41, hf⟩ := dc_nn_ok hf
          obtain ⟨g42, hf⟩ := dc_gd_ok hf
          obtain ⟨S43, eS43, hf⟩ := dc_let_ok hf
          have hm := lh_le_trans hm (show ∀ b, gvN S38 b ≤ gvN S43 b from by rw [eS43]; exact lh_mI)
          obtain ⟨x46, hx46, hf⟩ := dc_nn_ok hf
          obtain ⟨g47, hf⟩ := dc_gd_ok hf
          obtain ⟨S48, eS48, hf⟩ := dc_let_ok hf
          have hm := lh_le_trans hm (show ∀ b, gvN S43 b ≤ gvN S48 b from by rw [eS48]; exact lh_mI)
          obtain ⟨_, rfl⟩ := dc_ret hf
          exact hm
set_option maxHeartbeats 1000000 in
theorem k_X10_file {n : Nat} {S : lh_S} {t : Nat} {p1 : Int32} {p2 : Int32} {p3 : Int32} {p4 : Int32} {p5 : Int32} {r : Int32} {S' : lh_S} (hf : f_X10_file n S t p1 p2 p3 p4 p5 = some (r, S')) : lh_sm10 S S' := by
  have hm : lh_sm10 S S := lh_sm10_rf
  unfold f_X10_file at hf
  obtain ⟨S1, eS1, hf⟩ := dc_let_ok hf
  have hm := lh_sm10_trans hm (show lh_sm10 S S1 from by rw [eS1]; exact (lh_sm10I (by decide)))
  obtain ⟨r3, S4, k5, hf⟩ := dc_bd_ok hf
  have hm := lh_sm10_trans hm (show lh_sm10 S1 S4 from k_X10_isName k5)
  by_cases c8 : r3 = 0
  · replace hf := dc_if_t c8 hf
    obtain ⟨_, rfl⟩ := dc_ret hf
    exact hm
  · replace hf := dc_if_f c8 hf
    obtain ⟨r9, S10, k11, hf⟩ := dc_bd_ok hf
    have hm := lh_sm10_trans hm (show lh_sm10 S4 S10 from k_X10_isName k11)
    by_cases c14 : r9 = 0
    · replace hf := dc_if_t c14 hf
      obtain ⟨_, rfl⟩ := dc_ret hf
      exact hm
    · replace hf := dc_if_f c14 hf
      obtain ⟨r15, S16, k17, hf⟩ := dc_bd_ok hf
      have hm := lh_sm10_trans hm (show lh_sm10 S10 S16 from k_X10_isName k17)
      by_cases c20 : r15 = 0
      · replace hf := dc_if_t c20 hf
        obtain ⟨_, rfl⟩ := dc_ret hf
        exact hm
      · replace hf := dc_if_f c20 hf
        by_cases c21 : (gvI S16 10 t 1) = (30 : Int32)
        · replace hf := dc_if_t c21 hf
          obtain ⟨_, rfl⟩ := dc_ret hf
          exact hm
        · replace hf := dc_if_f c21 hf
          obtain ⟨v22, hv22, hf⟩ := dc_let_ok hf
          obtain ⟨S23, eS23, hf⟩ := dc_let_ok hf
          have hm := lh_sm10_trans hm (show lh_sm10 S16 S23 from by rw [eS23]; exact (lh_sm10I (by decide)))
          obtain ⟨x26, hx26, hf⟩ := dc_nn_ok hf
          obtain ⟨g27, hf⟩ := dc_gd_ok hf
          obtain ⟨S28, eS28, hf⟩ := dc_let_ok hf
          have hm := lh_sm10_trans hm (show lh_sm10 S23 S28 from by rw [eS28]; exact (lh_sm10I (by decide)))
          obtain ⟨x31, hx31, hf⟩ := dc_nn_ok hf
          obtain ⟨g32, hf⟩ := dc_gd_ok hf
          obtain ⟨S33, eS33, hf⟩ := dc_let_ok hf
          have hm := lh_sm10_trans hm (show lh_sm10 S28 S33 from by rw [eS33]; exact (lh_sm10I (by decide)))
          obtain ⟨x36, hx36, hf⟩ := dc_nn_ok hf
          obtain ⟨g37, hf⟩ := dc_gd_ok hf
          obtain ⟨S38, eS38, hf⟩ := dc_let_ok hf
          have hm := lh_sm10_trans hm (show lh_sm10 S33 S38 from by rw [eS38]; exact (lh_sm10I (by decide)))
          obtain ⟨x41, hx41, hf⟩ := dc_nn_ok hf
          obtain ⟨g42, hf⟩ := dc_gd_ok hf
          obtain ⟨S43, eS43, hf⟩ := dc_let_ok hf
          have hm := lh_sm10_trans hm (show lh_sm10 S38 S43 from by rw [eS43]; exact (lh_sm10I (by decide)))
          obtain ⟨x46, hx46, hf⟩ := dc_nn_ok hf
          obtain ⟨g47, hf⟩ := dc_gd_ok hf
          obtain ⟨S48, eS48, hf⟩ := dc_let_ok hf
          have hm := lh_sm10_trans hm (show lh_sm10 S43 S48 from by rw [eS48]; exact (lh_sm10I (by decide)))
          obtain ⟨_, rfl⟩ := dc_ret hf
          exact hm
set_option maxHeartbeats 4000000 in
set_option maxRecDepth 100000 in
theorem c_X10_file (l : Launch) (D : va_G) (cT : Nat → ClassId) (n : Nat) (S : lh_S) (ad : Nat → Nat → Nat) (A : Nat → Prop) (sz : Nat) (hA : ∀ q, sz ≤ q → A q) (t : Nat) (p1 : Int32) (p2 : Int32) (p3 : Int32) (p4 : Int32) (p5 : Int32) (r : Int32) (S' : lh_S) (hf : f_X10_file n S t p1 p2 p3 p4 p5 = some (r, S')) (L_t : ∀ j, some t = some j → j < gvN S 10) : Met l yX10_file wsX10_file ({ frames := 2, cells := 0, slots := 0, locals := 45 } : Room) (lh_P D cT S ad A sz [lh_r ad 10 (some t), .int p1, .int p2, .int p3, .int p4, .int p5]) (lh_Q D cT S' ad A ((∀ b, gvN S b ≤ gvN S' b) ∧ True) (some (.int r))) 0 0 A := by
  refine Met.ofW (cc := cX10_file) (maxL := 7) (ret := (some .int)) (by decide) rfl ?_
  intro p e s m args below meth c s₁ B hml hv
  obtain ⟨hargs, hsz, hW, hK, hN⟩ := hv
  have hx := B.exec
  have hb := B.bytes
  have hr := B.returns
  have hts := atoms_spec (ws := wsX10_file) B.pre
  have hown : s.vm.findClass RX10 = some m.cls := findClass_of_methodNamed B.named
  have hlocks := B.notSynchronized
  have hA : ∀ q, s.heap.size ≤ q → A q := fun q h => hA q (by rw [← hsz]; exact h)
  have ok := lh_W_ok hW
  have hm : ∀ b, gvN S b ≤ gvN S b := fun _ => Nat.le_refl _
  obtain ⟨ls, hent, hl⟩ := lh_entry m args [lh_r ad 10 (some t), .int p1, .int p2, .int p3, .int p4, .int p5] 7 [(0, lh_r ad 10 (some t)), (1, .int p1), (2, .int p2), (3, .int p3), (4, .int p4), (5, .int p5)] hargs (by simp [lv_args, lh_cat_r, lh_cat_i, lh_cat_j]) (by simp [lg_sl, lh_cat_r, lh_cat_i, lh_cat_j])
  rw [hent]
  generalize hH : s.heap = H at hW ⊢
  have hS : va_S A s.heap H [] := by rw [← hH]; exact va_S.rf
  unfold f_X10_file at hf
  refine lh_aload_n hx hb dX10_file_0 rfl (lv_at hl 0 rfl) ?_
  refine lv_iconst (v := 0) hx hb dX10_file_1 (by decide) ?_
  obtain ⟨S1, eS1, hf⟩ := dc_let_ok hf
  refine lh_put (S' := S1) (a := 10) (k := 0) (N := 42) (C := RX10) (T := TX10) (own := RX10) (ref := "LoaderModelsModel") (ty := .int) hx hb hts (fun _ h => (List.mem_cons_of_mem _ (List.mem_append_right _ h))) tyX10 tyX10_ok nmX10 hown hK hW hS rfl (L_t _ rfl) rfl rfl rfl (by decide) (hts (.fieldLink RX10 1 "LoaderModelsModel" "thrown" "I") (List.mem_cons_of_mem _ (List.mem_append_left _ (List.mem_of_getElem? (i := 0) rfl)))) (fun _ h9 => h9) (Or.inl rfl) (by decide +kernel) rfl rfl (fun q9 => by rw [eS1]; exact lh_chI rfl q9) dX10_file_2 (fun H locs hW hS => ?_)
  have m2 : ∀ b, gvN S b ≤ gvN S1 b := by rw [eS1]; exact lh_mI
  have L_t : ∀ j, some t = some j → j < gvN S1 10 := fun j h => Nat.lt_of_lt_of_le (L_t j h) (m2 _)
  have hm : ∀ b, gvN S b ≤ gvN S1 b := lh_le_trans hm m2
  have ok := lh_W_ok hW
  refine lv_iload_n hx hb dX10_file_5 rfl (lv_at hl 1 rfl) ?_
  obtain ⟨r3, S4, k5, hf⟩ := dc_bd_ok hf
  refine lh_call (S' := S4) (lh_rs ⟨hx, hb, hml, hown, hts⟩ (As := [.int p1]) (rest := []) (c_X10_isName l D cT n S1 ad A H.size (fun q9 h9 => hA q9 (Nat.le_trans hS.1 h9)) p1 r3 S4 k5 ) (va_cwS 1 hts gX10_file_X10_isName rfl rfl rfl (by decide +kernel) ⟨Nat.le_of_ble_eq_true rfl, Nat.le_of_ble_eq_true rfl⟩) hK hN hW rfl hl.1 rfl (by simp [lh_cat_r, lh_cat_i, lh_cat_j]) dX10_file_6 ⟨Nat.le_of_ble_eq_true rfl, Nat.le_of_ble_eq_true rfl⟩) hS (fun H locs hX hW hS => ?_)
  refine W.widen (k := 0) (n := 0) (by omega) (by omega) ?_
  show W _ _ _ _ _ _ _ _ _ _ _ _ _ _ _ (F0 m 9 ls [.int r3])
  have m6 : ∀ b, gvN S1 b ≤ gvN S4 b := hX.1
  have L_t : ∀ j, some t = some j → j < gvN S4 10 := fun j h => Nat.lt_of_lt_of_le (L_t j h) (m6 _)
  have hm : ∀ b, gvN S b ≤ gvN S4 b := lh_le_trans hm m6
  have ok := lh_W_ok hW
  have z7 := hX.2
  refine lv_if_eq (tgt := 26) hx hb dX10_file_9 (by decide) (fun c8 => ?_) (fun c8 => ?_)
  · replace hf := dc_if_t c8 hf
    refine lv_bipush (v := -3) hx hb dX10_file_26 (by decide) ?_
    obtain ⟨rfl, rfl⟩ := dc_ret hf
    exact W.iret (v := (-3 : Int32)) hx hb hr (fun t9 ht9 hW9 => ⟨⟨rfl, ⟨hm, trivial⟩, by rw [ht9]; exact hW⟩, hS.F ht9⟩) hS.2.2 dX10_file_28
  · replace hf := dc_if_f c8 hf
    refine lv_iload_n hx hb dX10_file_12 rfl (lv_at hl 2 rfl) ?_
    obtain ⟨r9, S10, k11, hf⟩ := dc_bd_ok hf
    refine lh_call (S' := S10) (lh_rs ⟨hx, hb, hml, hown, hts⟩ (As := [.int p2]) (rest := []) (c_X10_isName l D cT n S4 ad A H.size (fun q9 h9 => hA q9 (Nat.le_trans hS.1 h9)) p2 r9 S10 k11 ) (va_cwS 1 hts gX10_file_X10_isName rfl rfl rfl (by decide +kernel) ⟨Nat.le_of_ble_eq_true rfl, Nat.le_of_ble_eq_true rfl⟩) hK hN hW rfl hl.1 rfl (by simp [lh_cat_r, lh_cat_i, lh_cat_j]) dX10_file_13 ⟨Nat.le_of_ble_eq_true rfl, Nat.le_of_ble_eq_true rfl⟩) hS (fun H locs hX hW hS => ?_)
    refine W.widen (k := 0) (n := 0) (by omega) (by omega) ?_
    show W _ _ _ _ _ _ _ _ _ _ _ _ _ _ _ (F0 m 16 ls [.int r9])
    have m12 : ∀ b, gvN S4 b ≤ gvN S10 b := hX.1
    have L_t : ∀ j, some t = some j → j < gvN S10 10 := fun j h => Nat.lt_of_lt_of_le (L_t j h) (m12 _)
    have hm : ∀ b, gvN S b ≤ gvN S10 b := lh_le_trans hm m12
    have ok := lh_W_ok hW
    have z13 := hX.2
    refine lv_if_eq (tgt := 26) hx hb dX10_file_16 (by decide) (fun c14 => ?_) (fun c14 => ?_)
    · replace hf := dc_if_t c14 hf
      refine lv_bipush (v := -3) hx hb dX10_file_26 (by decide) ?_
      obtain ⟨rfl, rfl⟩ := dc_ret hf
      exact W.iret (v := (-3 : Int32)) hx hb hr (fun t9 ht9 hW9 => ⟨⟨rfl, ⟨hm, trivial⟩, by rw [ht9]; exact hW⟩, hS.F ht9⟩) hS.2.2 dX10_file_28
    · replace hf := dc_if_f c14 hf
      refine lv_iload_n hx hb dX10_file_19 rfl (lv_at hl 3 rfl) ?_
      obtain ⟨r15, S16, k17, hf⟩ := dc_bd_ok hf
      refine lh_call (S' := S16) (lh_rs ⟨hx, hb, hml, hown, hts⟩ (As := [.int p3]) (rest := []) (c_X10_isName l D cT n S10 ad A H.size (fun q9 h9 => hA q9 (Nat.le_trans hS.1 h9)) p3 r15 S16 k17 ) (va_cwS 1 hts gX10_file_X10_isName rfl rfl rfl (by decide +kernel) ⟨Nat.le_of_ble_eq_true rfl, Nat.le_of_ble_eq_true rfl⟩) hK hN hW rfl hl.1 rfl (by simp [lh_cat_r, lh_cat_i, lh_cat_j]) dX10_file_20 ⟨Nat.le_of_ble_eq_true rfl, Nat.le_of_ble_eq_true rfl⟩) hS (fun H locs hX hW hS => ?_)
      refine W.widen (k := 0) (n := 0) (by omega) (by omega) ?_
      show W _ _ _ _ _ _ _ _ _ _ _ _ _ _ _ (F0 m 23 ls [.int r15])
      have m18 : ∀ b, gvN S10 b ≤ gvN S16 b := hX.1
      have L_t : ∀ j, some t = some j → j < gvN S16 10 := fun j h => Nat.lt_of_lt_of_le (L_t j h) (m18 _)
      have hm : ∀ b, gvN S b ≤ gvN S16 b := lh_le_trans hm m18
      have ok := lh_W_ok hW
      have z19 := hX.2
      refine lv_if_ne (tgt := 29) hx hb dX10_file_23 (by decide) (fun c20 => ?_) (fun c20 => ?_)
      · replace hf := dc_if_f c20 hf
        refine lh_aload_n hx hb dX10_file_29 rfl (lv_at hl 0 rfl) ?_
        refine lh_get (a := 10) (k := 1) (N := 42) (C := RX10) (T := TX10) (own := RX10) (ref := "LoaderModelsModel") hx hb hts (fun _ h => (List.mem_cons_of_mem _ (List.mem_append_right _ h))) hown hK hW rfl (L_t _ rfl) rfl rfl rfl (by decide) (hts (.fieldLink RX10 127 "LoaderModelsModel" "files" "I") (List.mem_cons_of_mem _ (List.mem_append_left _ (List.mem_of_getElem? (i := 1) rfl)))) (fun _ h9 => h9) dX10_file_30 (v := .int (gvI S16 10 t 1)) rfl ?_
        refine lv_bipush (v := 30) hx hb dX10_file_33 (by decide) ?_
        refine lv_icmp_ne (tgt := 41) hx hb dX10_file_35 (by decide) (fun c21 => ?_) (fun c21 => ?_)
        · replace hf := dc_if_f c21 hf
          refine lh_aload_n hx hb dX10_file_41 rfl (lv_at hl 0 rfl) ?_
          refine lh_get (a := 10) (k := 1) (N := 42) (C := RX10) (T := TX10) (own := RX10) (ref := "LoaderModelsModel") hx hb hts (fun _ h => (List.mem_cons_of_mem _ (List.mem_append_right _ h))) hown hK hW rfl (L_t _ rfl) rfl rfl rfl (by decide) (hts (.fieldLink RX10 127 "LoaderModelsModel" "files" "I") (List.mem_cons_of_mem _ (List.mem_append_left _ (List.mem_of_getElem? (i := 1) rfl)))) (fun _ h9 => h9) dX10_file_42 (v := .int (gvI S16 10 t 1)) rfl ?_
          refine lv_istore (i := 6) (lv' := [(6, .int (gvI S16 10 t 1)), (0, lh_r ad 10 (some t)), (1, .int p1), (2, .int p2), (3, .int p3), (4, .int p4), (5, .int p5)]) hx hb dX10_file_45 hl (by decide) (by first | rfl | simp [lh_cat_r, lh_cat_i, lh_cat_j]) (fun ls hl => ?_)
          refine lh_aload_n hx hb dX10_file_47 rfl (lv_at hl 1 rfl) ?_
          refine lv_dup hx hb dX10_file_48 lh_cat_r ?_
          refine lh_get (a := 10) (k := 1) (N := 42) (C := RX10) (T := TX10) (own := RX10) (ref := "LoaderModelsModel") hx hb hts (fun _ h => (List.mem_cons_of_mem _ (List.mem_append_right _ h))) hown hK hW rfl (L_t _ rfl) rfl rfl rfl (by decide) (hts (.fieldLink RX10 127 "LoaderModelsModel" "files" "I") (List.mem_cons_of_mem _ (List.mem_append_left _ (List.mem_of_getElem? (i := 1) rfl)))) (fun _ h9 => h9) dX10_file_49 (v := .int (gvI S16 10 t 1)) rfl ?_
          refine lv_iconst (v := 1) hx hb dX10_file_52 (by decide) ?_
          refine lv_iadd hx hb dX10_file_53 ?_
          refine lv_topi (fun v22 hv22 => ?_)
          replace hf := dc_let_e hv22 hf
          obtain ⟨S23, eS23, hf⟩ := dc_let_ok hf
          refine lh_put (S' := S23) (a := 10) (k := 1) (N := 42) (C := RX10) (T := TX10) (own := RX10) (ref := "LoaderModelsModel") (ty := .int) hx hb hts (fun _ h => (List.mem_cons_of_mem _ (List.mem_append_right _ h))) tyX10 tyX10_ok nmX10 hown hK hW hS rfl (L_t _ rfl) rfl rfl rfl (by decide) (hts (.fieldLink RX10 127 "LoaderModelsModel" "files" "I") (List.mem_cons_of_mem _ (List.mem_append_left _ (List.mem_of_getElem? (i := 1) rfl)))) (fun _ h9 => h9) (Or.inl rfl) (by decide +kernel) rfl rfl (fun q9 => by rw [eS23]; exact lh_chI rfl q9) dX10_file_54 (fun H locs hW hS => ?_)
          have m24 : ∀ b, gvN S16 b ≤ gvN S23 b := by rw [eS23]; exact lh_mI
          have L_t : ∀ j, some t = some j → j < gvN S23 10 := fun j h => Nat.lt_of_lt_of_le (L_t j h) (m24 _)
          have hm : ∀ b, gvN S b ≤ gvN S23 b := lh_le_trans hm m24
          have ok := lh_W_ok hW
          refine lh_aload_n hx hb dX10_file_57 rfl (lv_at hl 1 rfl) ?_
          have L25 : ∀ j, gvR S23 10 t 2 = some j → j < gvN S23 32 := fun j h => ok _ _ _ _ j (L_t _ rfl) rfl h
          refine lh_get (a := 10) (k := 2) (N := 42) (C := RX10) (T := TX10) (own := RX10) (ref := "LoaderModelsModel") hx hb hts (fun _ h => (List.mem_cons_of_mem _ (List.mem_append_right _ h))) hown hK hW rfl (L_t _ rfl) rfl rfl rfl (by decide) (hts (.fieldLink RX10 13 "LoaderModelsModel" "fileName" "[I") (List.mem_cons_of_mem _ (List.mem_append_left _ (List.mem_of_getElem? (i := 2) rfl)))) (fun _ h9 => h9) dX10_file_58 (v := lh_r ad 32 (gvR S23 10 t 2)) rfl ?_
          refine lv_iload hx hb dX10_file_61 (lv_at hl 0 rfl) ?_
          refine lv_iload_n hx hb dX10_file_63 rfl (lv_at hl 2 rfl) ?_
          obtain ⟨x26, hx26, hf⟩ := dc_nn_ok hf
          obtain ⟨g27, hf⟩ := dc_gd_ok hf
          obtain ⟨S28, eS28, hf⟩ := dc_let_ok hf
          refine lh_ast_i (a := 32) hx hb hK hW hS hx26 (L25 _ hx26) rfl (fun _ => rfl) g27 dX10_file_64 (fun H locs hW hS => ?_)
          rw [← eS28] at hW
          have m29 : ∀ b, gvN S23 b ≤ gvN S28 b := by rw [eS28]; exact lh_mI
          have L_t : ∀ j, some t = some j → j < gvN S28 10 := fun j h => Nat.lt_of_lt_of_le (L_t j h) (m29 _)
          have hm : ∀ b, gvN S b ≤ gvN S28 b := lh_le_trans hm m29
          have ok := lh_W_ok hW
          refine lh_aload_n hx hb dX10_file_65 rfl (lv_at hl 1 rfl) ?_
          have L30 : ∀ j, gvR S28 10 t 3 = some j → j < gvN S28 33 := fun j h => ok _ _ _ _ j (L_t _ rfl) rfl h
          refine lh_get (a := 10) (k := 3) (N := 42) (C := RX10) (T := TX10) (own := RX10) (ref := "LoaderModelsModel") hx hb hts (fun _ h => (List.mem_cons_of_mem _ (List.mem_append_right _ h))) hown hK hW rfl (L_t _ rfl) rfl rfl rfl (by decide) (hts (.fieldLink RX10 17 "LoaderModelsModel" "inner" "[I") (List.mem_cons_of_mem _ (List.mem_append_left _ (List.mem_of_getElem? (i := 3) rfl)))) (fun _ h9 => h9) dX10_file_66 (v := lh_r ad 33 (gvR S28 10 t 3)) rfl ?_
          refine lv_iload hx hb dX10_file_69 (lv_at hl 0 rfl) ?_
          refine lv_iload_n hx hb dX10_file_71 rfl (lv_at hl 3 rfl) ?_
          obtain ⟨x31, hx31, hf⟩ := dc_nn_ok hf
          obtain ⟨g32, hf⟩ := dc_gd_ok hf
          obtain ⟨S33, eS33, hf⟩ := dc_let_ok hf
          refine lh_ast_i (a := 33) hx hb hK hW hS hx31 (L30 _ hx31) rfl (fun _ => rfl) g32 dX10_file_72 (fun H locs hW hS => ?_)
          rw [← eS33] at hW
          have m34 : ∀ b, gvN S28 b ≤ gvN S33 b := by rw [eS33]; exact lh_mI
          have L_t : ∀ j, some t = some j → j < gvN S33 10 := fun j h => Nat.lt_of_lt_of_le (L_t j h) (m34 _)
          have hm : ∀ b, gvN S b ≤ gvN S33 b := lh_le_trans hm m34
          have ok := lh_W_ok hW
          refine lh_aload_n hx hb dX10_file_73 rfl (lv_at hl 1 rfl) ?_
          have L35 : ∀ j, gvR S33 10 t 4 = some j → j < gvN S33 34 := fun j h => ok _ _ _ _ j (L_t _ rfl) rfl h
          refine lh_get (a := 10) (k := 4) (N := 42) (C := RX10) (T := TX10) (own := RX10) (ref := "LoaderModelsModel") hx hb hts (fun _ h => (List.mem_cons_of_mem _ (List.mem_append_right _ h))) hown hK hW rfl (L_t _ rfl) rfl rfl rfl (by decide) (hts (.fieldLink RX10 20 "LoaderModelsModel" "above" "[I") (List.mem_cons_of_mem _ (List.mem_append_left _ (List.mem_of_getElem? (i := 4) rfl)))) (fun _ h9 => h9) dX10_file_74 (v := lh_r ad 34 (gvR S33 10 t 4)) rfl ?_
          refine lv_iload hx hb dX10_file_77 (lv_at hl 0 rfl) ?_
          refine lv_iload_n hx hb dX10_file_79 rfl (lv_at hl 4 rfl) ?_
          obtain ⟨x36, hx36, hf⟩ := dc_nn_ok hf
          obtain ⟨g37, hf⟩ := dc_gd_ok hf
          obtain ⟨S38, eS38, hf⟩ := dc_let_ok hf
          refine lh_ast_i (a := 34) hx hb hK hW hS hx36 (L35 _ hx36) rfl (fun _ => rfl) g37 dX10_file_80 (fun H locs hW hS => ?_)
          rw [← eS38] at hW
          have m39 : ∀ b, gvN S33 b ≤ gvN S38 b := by rw [eS38]; exact lh_mI
          have L_t : ∀ j, some t = some j → j < gvN S38 10 := fun j h => Nat.lt_of_lt_of_le (L_t j h) (m39 _)
          have hm : ∀ b, gvN S b ≤ gvN S38 b := lh_le_trans hm m39
          have ok := lh_W_ok hW
          refine lh_aload_n hx hb dX10_file_81 rfl (lv_at hl 1 rfl) ?_
          have L40 : ∀ j, gvR S38 10 t 5 = some j → j < gvN S38 35 := fun j h => ok _ _ _ _ j (L_t _ rfl) rfl h
          refine lh_get (a := 10) (k := 5) (N := 42) (C := RX10) (T := TX10) (own := RX10) (ref := "LoaderModelsModel") hx hb hts (fun _ h => (List.mem_cons_of_mem _ (List.mem_append_right _ h))) hown hK hW rfl (L_t _ rfl) rfl rfl rfl (by decide) (hts (.fieldLink RX10 23 "LoaderModelsModel" "content" "[I") (List.mem_cons_of_mem _ (List.mem_append_left _ (List.mem_of_getElem? (i := 5) rfl)))) (fun _ h9 => h9) dX10_file_82 (v := lh_r ad 35 (gvR S38 10 t 5)) rfl ?_
          refine lv_iload hx hb dX10_file_85 (lv_at hl 0 rfl) ?_
          refine lv_iload hx hb dX10_file_87 (lv_at hl 5 rfl) ?_
          obtain ⟨x41, hx41, hf⟩ := dc_nn_ok hf
          obtain ⟨g42, hf⟩ := dc_gd_ok hf
          obtain ⟨S43, eS43, hf⟩ := dc_let_ok hf
          refine lh_ast_i (a := 35) hx hb hK hW hS hx41 (L40 _ hx41) rfl (fun _ => rfl) g42 dX10_file_89 (fun H locs hW hS => ?_)
          rw [← eS43] at hW
          have m44 : ∀ b, gvN S38 b ≤ gvN S43 b := by rw [eS43]; exact lh_mI
          have L_t : ∀ j, some t = some j → j < gvN S43 10 := fun j h => Nat.lt_of_lt_of_le (L_t j h) (m44 _)
          have hm : ∀ b, gvN S b ≤ gvN S43 b := lh_le_trans hm m44
          have ok := lh_W_ok hW
          refine lh_aload_n hx hb dX10_file_90 rfl (lv_at hl 1 rfl) ?_
          have L45 : ∀ j, gvR S43 10 t 6 = some j → j < gvN S43 36 := fun j h => ok _ _ _ _ j (L_t _ rfl) rfl h
          refine lh_get (a := 10) (k := 6) (N := 42) (C := RX10) (T := TX10) (own := RX10) (ref := "LoaderModelsModel") hx hb hts (fun _ h => (List.mem_cons_of_mem _ (List.mem_append_right _ h))) hown hK hW rfl (L_t _ rfl) rfl rfl rfl (by decide) (hts (.fieldLink RX10 26 "LoaderModelsModel" "isFinal" "[Z") (List.mem_cons_of_mem _ (List.mem_append_left _ (List.mem_of_getElem? (i := 6) rfl)))) (fun _ h9 => h9) dX10_file_91 (v := lh_r ad 36 (gvR S43 10 t 6)) rfl ?_
          refine lv_iload hx hb dX10_file_94 (lv_at hl 0 rfl) ?_
          refine lv_iload hx hb dX10_file_96 (lv_at hl 6 rfl) ?_
          obtain ⟨x46, hx46, hf⟩ := dc_nn_ok hf
          obtain ⟨g47, hf⟩ := dc_gd_ok hf
          obtain ⟨S48, eS48, hf⟩ := dc_let_ok hf
          refine lh_ast_z (a := 36) hx hb hK hW hS hx46 (L45 _ hx46) rfl (fun _ => rfl) g47 dX10_file_98 (fun H locs hW hS => ?_)
          rw [← eS48] at hW
          have m49 : ∀ b, gvN S43 b ≤ gvN S48 b := by rw [eS48]; exact lh_mI
          have L_t : ∀ j, some t = some j → j < gvN S48 10 := fun j h => Nat.lt_of_lt_of_le (L_t j h) (m49 _)
          have hm : ∀ b, gvN S b ≤ gvN S48 b := lh_le_trans hm m49
          have ok := lh_W_ok hW
          refine lv_iload hx hb dX10_file_99 (lv_at hl 0 rfl) ?_
          obtain ⟨rfl, rfl⟩ := dc_ret hf
          exact W.iret (v := gvI S16 10 t 1) hx hb hr (fun t9 ht9 hW9 => ⟨⟨rfl, ⟨hm, trivial⟩, by rw [ht9]; exact hW⟩, hS.F ht9⟩) hS.2.2 dX10_file_101
        · replace hf := dc_if_t c21 hf
          refine lv_bipush (v := -5) hx hb dX10_file_38 (by decide) ?_
          obtain ⟨rfl, rfl⟩ := dc_ret hf
          exact W.iret (v := (-5 : Int32)) hx hb hr (fun t9 ht9 hW9 => ⟨⟨rfl, ⟨hm, trivial⟩, by rw [ht9]; exact hW⟩, hS.F ht9⟩) hS.2.2 dX10_file_40
      · replace hf := dc_if_t c20 hf
        refine lv_bipush (v := -3) hx hb dX10_file_26 (by decide) ?_
        obtain ⟨rfl, rfl⟩ := dc_ret hf
        exact W.iret (v := (-3 : Int32)) hx hb hr (fun t9 ht9 hW9 => ⟨⟨rfl, ⟨hm, trivial⟩, by rw [ht9]; exact hW⟩, hS.F ht9⟩) hS.2.2 dX10_file_28
def f_X10_method (n : Nat) (S : lh_S) (t : Nat) (p1 : Int32) (p2 : Int32) (p3 : Int32) (p4 : Int32) (p5 : Int32) : Option (Int32 × lh_S) :=
  dc_let (pvI S 10 t 0 (0 : Int32)) fun S1 =>
  dc_bd (f_X10_isFile n S1 t p1) fun r3 S4 =>
  dc_if (r3 = 0) (
  some ((-2 : Int32), S4)) (
  dc_bd (f_X10_in n S4 p2.toInt64 (0 : Int64) (3 : Int64)) fun r9 S10 =>
  dc_if (r9 = 0) (
  some ((-3 : Int32), S10)) (
  dc_bd (f_X10_in n S10 p3.toInt64 (0 : Int64) (2 : Int64)) fun r15 S16 =>
  dc_if (r15 = 0) (
  some ((-3 : Int32), S16)) (
  dc_nn (gvR S16 10 t 7) fun x22 =>
  dc_gd ((((4 : Int32) * p1) + p2) < 0 ∨ gvL S16 37 x22 ≤ ((((4 : Int32) * p1) + p2)).toNatClampNeg) (
  dc_let (pvI S16 37 x22 ((((4 : Int32) * p1) + p2)).toNatClampNeg (p3 + (1 : Int32))) fun S24 =>
  dc_nn (gvR S24 10 t 8) fun x27 =>
  dc_gd ((((4 : Int32) * p1) + p2) < 0 ∨ gvL S24 38 x27 ≤ ((((4 : Int32) * p1) + p2)).toNatClampNeg) (
  dc_let (pvI S24 38 x27 ((((4 : Int32) * p1) + p2)).toNatClampNeg p4) fun S29 =>
  dc_nn (gvR S29 10 t 9) fun x32 =>
  dc_gd ((((4 : Int32) * p1) + p2) < 0 ∨ gvL S29 39 x32 ≤ ((((4 : Int32) * p1) + p2)).toNatClampNeg) (
  dc_let (pvI S29 39 x32 ((((4 : Int32) * p1) + p2)).toNatClampNeg p5) fun S34 =>
  some ((1 : Int32), S34)))))))
set_option maxHeartbeats 1000000 in
theorem m_X10_method {n : Nat} {S : lh_S} {t : Nat} {p1 : Int32} {p2 : Int32} {p3 : Int32} {p4 : Int32} {p5 : Int32} {r : Int32} {S' : lh_S} (hf : f_X10_method n S t p1 p2 p3 p4 p5 = some (r, S')) : ∀ b, gvN S b ≤ gvN S' b := by
  have hm : ∀ b, gvN S b ≤ gvN S b := fun _ => Nat.le_refl _
  unfold f_X10_method at hf
  obtain ⟨S1, eS1, hf⟩ := dc_let_ok hf
  have hm := lh_le_trans hm (show ∀ b, gvN S b ≤ gvN S1 b from by rw [eS1]; exact lh_mI)
  obtain ⟨r3, S4, k5, hf⟩ := dc_bd_ok hf
  have hm := lh_le_trans hm (show ∀ b, gvN S1 b ≤ gvN S4 b from m_X10_isFile k5)
  by_cases c8 : r3 = 0
  · replace hf := dc_if_t c8 hf
    obtain ⟨_, rfl⟩ := dc_ret hf
    exact hm
  · replace hf := dc_if_f c8 hf
    obtain ⟨r9, S10, k11, hf⟩ := dc_bd_ok hf
    have hm := lh_le_trans hm (show ∀ b, gvN S4 b ≤ gvN S10 b from m_X10_in k11)
    by_cases c14 : r9 = 0
    · replace hf := dc_if_t c14 hf
      obtain ⟨_, rfl⟩ := dc_ret hf
      exact hm
    · replace hf := dc_if_f c14 hf
      obtain ⟨r15, S16, k17, hf⟩ := dc_bd_ok hf
      have hm := lh_le_trans hm (show ∀ b, gvN S10 b ≤ gvN S16 b from m_X10_in k17)
      by_cases c20 : r15 = 0
      · replace hf := dc_if_t c20 hf
        obtain ⟨_, rfl⟩ := dc_ret hf
        exact hm
      · replace hf := dc_if_f c20 hf
        obtain ⟨x22, hx22, hf⟩ := dc_nn_ok hf
        obtain ⟨g23, hf⟩ := dc_gd_ok hf
        obtain ⟨S24, eS24, hf⟩ := dc_let_ok hf
        have hm := lh_le_trans hm (show ∀ b, gvN S16 b ≤ gvN S24 b from by rw [eS24]; exact lh_mI)
        obtain ⟨x27, hx27, hf⟩ := dc_nn_ok hf
        obtain ⟨g28, hf⟩ := dc_gd_ok hf
        obtain ⟨S29, eS29, hf⟩ := dc_let_ok hf
        have hm := lh_le_trans hm (show ∀ b, gvN S24 b ≤ gvN S29 b from by rw [eS29]; exact lh_mI)
        obtain ⟨x32, hx32, hf⟩ := dc_nn_ok hf
        obtain ⟨g33, hf⟩ := dc_gd_ok hf
        obtain ⟨S34, eS34, hf⟩ := dc_let_ok hf
        have hm := lh_le_trans hm (show ∀ b, gvN S29 b ≤ gvN S34 b from by rw [eS34]; exact lh_mI)
        obtain ⟨_, rfl⟩ := dc_ret hf
        exact hm
set_option maxHeartbeats 1000000 in
theorem k_X10_method {n : Nat} {S : lh_S} {t : Nat} {p1 : Int32} {p2 : Int32} {p3 : Int32} {p4 : Int32} {p5 : Int32} {r : Int32} {S' : lh_S} (hf : f_X10_method n S t p1 p2 p3 p4 p5 = some (r, S')) : lh_sm10 S S' := by
  have hm : lh_sm10 S S := lh_sm10_rf
  unfold f_X10_method at hf
  obtain ⟨S1, eS1, hf⟩ := dc_let_ok hf
  have hm := lh_sm10_trans hm (show lh_sm10 S S1 from by rw [eS1]; exact (lh_sm10I (by decide)))
  obtain ⟨r3, S4, k5, hf⟩ := dc_bd_ok hf
  have hm := lh_sm10_trans hm (show lh_sm10 S1 S4 from k_X10_isFile k5)
  by_cases c8 : r3 = 0
  · replace hf := dc_if_t c8 hf
    obtain ⟨_, rfl⟩ := dc_ret hf
    exact hm
  · replace hf := dc_if_f c8 hf
    obtain ⟨r9, S10, k11, hf⟩ := dc_bd_ok hf
    have hm := lh_sm10_trans hm (show lh_sm10 S4 S10 from k_X10_in k11)
    by_cases c14 : r9 = 0
    · replace hf := dc_if_t c14 hf
      obtain ⟨_, rfl⟩ := dc_ret hf
      exact hm
    · replace hf := dc_if_f c14 hf
      obtain ⟨r15, S16, k17, hf⟩ := dc_bd_ok hf
      have hm := lh_sm10_trans hm (show lh_sm10 S10 S16 from k_X10_in k17)
      by_cases c20 : r15 = 0
      · replace hf := dc_if_t c20 hf
        obtain ⟨_, rfl⟩ := dc_ret hf
        exact hm
      · replace hf := dc_if_f c20 hf
        obtain ⟨x22, hx22, hf⟩ := dc_nn_ok hf
        obtain ⟨g23, hf⟩ := dc_gd_ok hf
        obtain ⟨S24, eS24, hf⟩ := dc_let_ok hf
        have hm := lh_sm10_trans hm (show lh_sm10 S16 S24 from by rw [eS24]; exact (lh_sm10I (by decide)))
        obtain ⟨x27, hx27, hf⟩ := dc_nn_ok hf
        obtain ⟨g28, hf⟩ := dc_gd_ok hf
        obtain ⟨S29, eS29, hf⟩ := dc_let_ok hf
        have hm := lh_sm10_trans hm (show lh_sm10 S24 S29 from by rw [eS29]; exact (lh_sm10I (by decide)))
        obtain ⟨x32, hx32, hf⟩ := dc_nn_ok hf
        obtain ⟨g33, hf⟩ := dc_gd_ok hf
        obtain ⟨S34, eS34, hf⟩ := dc_let_ok hf
        have hm := lh_sm10_trans hm (show lh_sm10 S29 S34 from by rw [eS34]; exact (lh_sm10I (by decide)))
        obtain ⟨_, rfl⟩ := dc_ret hf
        exact hm
set_option maxHeartbeats 4000000 in
set_option maxRecDepth 100000 in
theorem c_X10_method (l : Launch) (D : va_G) (cT : Nat → ClassId) (n : Nat) (S : lh_S) (ad : Nat → Nat → Nat) (A : Nat → Prop) (sz : Nat) (hA : ∀ q, sz ≤ q → A q) (t : Nat) (p1 : Int32) (p2 : Int32) (p3 : Int32) (p4 : Int32) (p5 : Int32) (r : Int32) (S' : lh_S) (hf : f_X10_method n S t p1 p2 p3 p4 p5 = some (r, S')) (L_t : ∀ j, some t = some j → j < gvN S 10) : Met l yX10_method wsX10_method ({ frames := 2, cells := 0, slots := 0, locals := 46 } : Room) (lh_P D cT S ad A sz [lh_r ad 10 (some t), .int p1, .int p2, .int p3, .int p4, .int p5]) (lh_Q D cT S' ad A ((∀ b, gvN S b ≤ gvN S' b) ∧ True) (some (.int r))) 0 0 A := by
  refine Met.ofW (cc := cX10_method) (maxL := 6) (ret := (some .int)) (by decide) rfl ?_
  intro p e s m args below meth c s₁ B hml hv
  obtain ⟨hargs, hsz, hW, hK, hN⟩ := hv
  have hx := B.exec
  have hb := B.bytes
  have hr := B.returns
  have hts := atoms_spec (ws := wsX10_method) B.pre
  have hown : s.vm.findClass RX10 = some m.cls := findClass_of_methodNamed B.named
  have hlocks := B.notSynchronized
  have hA : ∀ q, s.heap.size ≤ q → A q := fun q h => hA q (by rw [← hsz]; exact h)
  have ok := lh_W_ok hW
  have hm : ∀ b, gvN S b ≤ gvN S b := fun _ => Nat.le_refl _
  obtain ⟨ls, hent, hl⟩ := lh_entry m args [lh_r ad 10 (some t), .int p1, .int p2, .int p3, .int p4, .int p5] 6 [(0, lh_r ad 10 (some t)), (1, .int p1), (2, .int p2), (3, .int p3), (4, .int p4), (5, .int p5)] hargs (by simp [lv_args, lh_cat_r, lh_cat_i, lh_cat_j]) (by simp [lg_sl, lh_cat_r, lh_cat_i, lh_cat_j])
  rw [hent]
  generalize hH : s.heap = H at hW ⊢
  have hS : va_S A s.heap H [] := by rw [← hH]; exact va_S.rf
  unfold f_X10_method at hf
  refine lh_aload_n hx hb dX10_method_0 rfl (lv_at hl 0 rfl) ?_
  refine lv_iconst (v := 0) hx hb dX10_method_1 (by decide) ?_
  obtain ⟨S1, eS1, hf⟩ := dc_let_ok hf
  refine lh_put (S' := S1) (a := 10) (k := 0) (N := 42) (C := RX10) (T := TX10) (own := RX10) (ref := "LoaderModelsModel") (ty := .int) hx hb hts (fun _ h => (List.mem_cons_of_mem _ (List.mem_append_right _ h))) tyX10 tyX10_ok nmX10 hown hK hW hS rfl (L_t _ rfl) rfl rfl rfl (by decide) (hts (.fieldLink RX10 1 "LoaderModelsModel" "thrown" "I") (List.mem_cons_of_mem _ (List.mem_append_left _ (List.mem_of_getElem? (i := 0) rfl)))) (fun _ h9 => h9) (Or.inl rfl) (by decide +kernel) rfl rfl (fun q9 => by rw [eS1]; exact lh_chI rfl q9) dX10_method_2 (fun H locs hW hS => ?_)
  have m2 : ∀ b, gvN S b ≤ gvN S1 b := by rw [eS1]; exact lh_mI
  have L_t : ∀ j, some t = some j → j < gvN S1 10 := fun j h => Nat.lt_of_lt_of_le (L_t j h) (m2 _)
  have hm : ∀ b, gvN S b ≤ gvN S1 b := lh_le_trans hm m2
  have ok := lh_W_ok hW
  refine lh_aload_n hx hb dX10_method_5 rfl (lv_at hl 0 rfl) ?_
  refine lv_iload_n hx hb dX10_method_6 rfl (lv_at hl 1 rfl) ?_
  obtain ⟨r3, S4, k5, hf⟩ := dc_bd_ok hf
  refine lh_call (S' := S4) (lh_rv ⟨hx, hb, hml, hown, hts⟩ rfl (As := [.int p1]) (rest := []) (k := 10) (c_X10_isFile l D cT n S1 ad A H.size (fun q9 h9 => hA q9 (Nat.le_trans hS.1 h9)) t p1 r3 S4 k5 L_t) (cwV 1 hts gX10_method_X10_isFile rfl rfl rfl (by decide +kernel) ⟨Nat.le_of_ble_eq_true rfl, Nat.le_of_ble_eq_true rfl⟩) hK hN hW (L_t _ rfl) rfl rfl rfl hl.1 rfl (by simp [lh_cat_r, lh_cat_i, lh_cat_j]) dX10_method_7 ⟨Nat.le_of_ble_eq_true rfl, Nat.le_of_ble_eq_true rfl⟩) hS (fun H locs hX hW hS => ?_)
  refine W.widen (k := 0) (n := 0) (by omega) (by omega) ?_
  show W _ _ _ _ _ _ _ _ _ _ _ _ _ _ _ (F0 m 10 ls [.int r3])
  have m6 : ∀ b, gvN S1 b ≤ gvN S4 b := hX.1
  have L_t : ∀ j, some t = some j → j < gvN S4 10 := fun j h => Nat.lt_of_lt_of_le (L_t j h) (m6 _)
  have hm : ∀ b, gvN S b ≤ gvN S4 b := lh_le_trans hm m6
  have ok := lh_W_ok hW
  have z7 := hX.2
  refine lv_if_ne (tgt := 16) hx hb dX10_method_10 (by decide) (fun c8 => ?_) (fun c8 => ?_)
  · replace hf := dc_if_f c8 hf
    refine lv_iload_n hx hb dX10_method_16 rfl (lv_at hl 2 rfl) ?_
    refine lv_i2l (v := p2.toInt64) hx hb dX10_method_17 rfl ?_
    refine lv_lconst (v := 0) hx hb dX10_method_18 (by decide) ?_
    refine lv_ldc2 (v := 3) hx hb hown (hts (.constantLong RX10 147 (3)) (List.mem_cons_of_mem _ (List.mem_append_left _ (List.mem_of_getElem? (i := 1) rfl)))) dX10_method_19 ?_
    obtain ⟨r9, S10, k11, hf⟩ := dc_bd_ok hf
    refine lh_call (S' := S10) (lh_rs ⟨hx, hb, hml, hown, hts⟩ (As := [.long p2.toInt64, .long (0 : Int64), .long (3 : Int64)]) (rest := []) (c_X10_in l D cT n S4 ad A H.size (fun q9 h9 => hA q9 (Nat.le_trans hS.1 h9)) p2.toInt64 (0 : Int64) (3 : Int64) r9 S10 k11 ) (va_cwS 3 hts gX10_method_X10_in rfl rfl rfl (by decide +kernel) ⟨Nat.le_of_ble_eq_true rfl, Nat.le_of_ble_eq_true rfl⟩) hK hN hW rfl hl.1 rfl (by simp [lh_cat_r, lh_cat_i, lh_cat_j]) dX10_method_22 ⟨Nat.le_of_ble_eq_true rfl, Nat.le_of_ble_eq_true rfl⟩) hS (fun H locs hX hW hS => ?_)
    refine W.widen (k := 0) (n := 0) (by omega) (by omega) ?_
    show W _ _ _ _ _ _ _ _ _ _ _ _ _ _ _ (F0 m 25 ls [.int r9])
    have m12 : ∀ b, gvN S4 b ≤ gvN S10 b := hX.1
    have L_t : ∀ j, some t = some j → j < gvN S10 10 := fun j h => Nat.lt_of_lt_of_le (L_t j h) (m12 _)
    have hm : ∀ b, gvN S b ≤ gvN S10 b := lh_le_trans hm m12
    have ok := lh_W_ok hW
    have z13 := hX.2
    refine lv_if_eq (tgt := 40) hx hb dX10_method_25 (by decide) (fun c14 => ?_) (fun c14 => ?_)
    · replace hf := dc_if_t c14 hf
      refine lv_bipush (v := -3) hx hb dX10_method_40 (by decide) ?_
      obtain ⟨rfl, rfl⟩ := dc_ret hf
      exact W.iret (v := (-3 : Int32)) hx hb hr (fun t9 ht9 hW9 => ⟨⟨rfl, ⟨hm, trivial⟩, by rw [ht9]; exact hW⟩, hS.F ht9⟩) hS.2.2 dX10_method_42
    · replace hf := dc_if_f c14 hf
      refine lv_iload_n hx hb dX10_method_28 rfl (lv_at hl 3 rfl) ?_
      refine lv_i2l (v := p3.toInt64) hx hb dX10_method_29 rfl ?_
      refine lv_lconst (v := 0) hx hb dX10_method_30 (by decide) ?_
      refine lv_ldc2 (v := 2) hx hb hown (hts (.constantLong RX10 149 (2)) (List.mem_cons_of_mem _ (List.mem_append_left _ (List.mem_of_getElem? (i := 2) rfl)))) dX10_method_31 ?_
      obtain ⟨r15, S16, k17, hf⟩ := dc_bd_ok hf
      refine lh_call (S' := S16) (lh_rs ⟨hx, hb, hml, hown, hts⟩ (As := [.long p3.toInt64, .long (0 : Int64), .long (2 : Int64)]) (rest := []) (c_X10_in l D cT n S10 ad A H.size (fun q9 h9 => hA q9 (Nat.le_trans hS.1 h9)) p3.toInt64 (0 : Int64) (2 : Int64) r15 S16 k17 ) (va_cwS 3 hts gX10_method_X10_in rfl rfl rfl (by decide +kernel) ⟨Nat.le_of_ble_eq_true rfl, Nat.le_of_ble_eq_true rfl⟩) hK hN hW rfl hl.1 rfl (by simp [lh_cat_r, lh_cat_i, lh_cat_j]) dX10_method_34 ⟨Nat.le_of_ble_eq_true rfl, Nat.le_of_ble_eq_true rfl⟩) hS (fun H locs hX hW hS => ?_)
      refine W.widen (k := 0) (n := 0) (by omega) (by omega) ?_
      show W _ _ _ _ _ _ _ _ _ _ _ _ _ _ _ (F0 m 37 ls [.int r15])
      have m18 : ∀ b, gvN S10 b ≤ gvN S16 b := hX.1
      have L_t : ∀ j, some t = some j → j < gvN S16 10 := fun j h => Nat.lt_of_lt_of_le (L_t j h) (m18 _)
      have hm : ∀ b, gvN S b ≤ gvN S16 b := lh_le_trans hm m18
      have ok := lh_W_ok hW
      have z19 := hX.2
      refine lv_if_ne (tgt := 43) hx hb dX10_method_37 (by decide) (fun c20 => ?_) (fun c20 => ?_)
      · replace hf := dc_if_f c20 hf
        refine lh_aload_n hx hb dX10_method_43 rfl (lv_at hl 0 rfl) ?_
        have L21 : ∀ j, gvR S16 10 t 7 = some j → j < gvN S16 37 := fun j h => ok _ _ _ _ j (L_t _ rfl) rfl h
        refine lh_get (a := 10) (k := 7) (N := 42) (C := RX10) (T := TX10) (own := RX10) (ref := "LoaderModelsModel") hx hb hts (fun _ h => (List.mem_cons_of_mem _ (List.mem_append_right _ h))) hown hK hW rfl (L_t _ rfl) rfl rfl rfl (by decide) (hts (.fieldLink RX10 30 "LoaderModelsModel" "kind" "[I") (List.mem_cons_of_mem _ (List.mem_append_left _ (List.mem_of_getElem? (i := 3) rfl)))) (fun _ h9 => h9) dX10_method_44 (v := lh_r ad 37 (gvR S16 10 t 7)) rfl ?_
        refine lv_iconst (v := 4) hx hb dX10_method_47 (by decide) ?_
        refine lv_iload_n hx hb dX10_method_48 rfl (lv_at hl 1 rfl) ?_
        refine lv_imul hx hb dX10_method_49 ?_
        refine lv_iload_n hx hb dX10_method_50 rfl (lv_at hl 2 rfl) ?_
        refine lv_iadd hx hb dX10_method_51 ?_
        refine lv_iload_n hx hb dX10_method_52 rfl (lv_at hl 3 rfl) ?_
        refine lv_iconst (v := 1) hx hb dX10_method_53 (by decide) ?_
        refine lv_iadd hx hb dX10_method_54 ?_
        obtain ⟨x22, hx22, hf⟩ := dc_nn_ok hf
        obtain ⟨g23, hf⟩ := dc_gd_ok hf
        obtain ⟨S24, eS24, hf⟩ := dc_let_ok hf
        refine lh_ast_i (a := 37) hx hb hK hW hS hx22 (L21 _ hx22) rfl (fun _ => rfl) g23 dX10_method_55 (fun H locs hW hS => ?_)
        rw [← eS24] at hW
        have m25 : ∀ b, gvN S16 b ≤ gvN S24 b := by rw [eS24]; exact lh_mI
        have L_t : ∀ j, some t = some j → j < gvN S24 10 := fun j h => Nat.lt_of_lt_of_le (L_t j h) (m25 _)
        have hm : ∀ b, gvN S b ≤ gvN S24 b := lh_le_trans hm m25
        have ok := lh_W_ok hW
        refine lh_aload_n hx hb dX10_method_56 rfl (lv_at hl 0 rfl) ?_
        have L26 : ∀ j, gvR S24 10 t 8 = some j → j < gvN S24 38 := fun j h => ok _ _ _ _ j (L_t _ rfl) rfl h
        refine lh_get (a := 10) (k := 8) (N := 42) (C := RX10) (T := TX10) (own := RX10) (ref := "LoaderModelsModel") hx hb hts (fun _ h => (List.mem_cons_of_mem _ (List.mem_append_right _ h))) hown hK hW rfl (L_t _ rfl) rfl rfl rfl (by decide) (hts (.fieldLink RX10 33 "LoaderModelsModel" "methodA" "[I") (List.mem_cons_of_mem _ (List.mem_append_left _ (List.mem_of_getElem? (i := 4) rfl)))) (fun _ h9 => h9) dX10_method_57 (v := lh_r ad 38 (gvR S24 10 t 8)) rfl ?_
        refine lv_iconst (v := 4) hx hb dX10_method_60 (by decide) ?_
        refine lv_iload_n hx hb dX10_method_61 rfl (lv_at hl 1 rfl) ?_
        refine lv_imul hx hb dX10_method_62 ?_
        refine lv_iload_n hx hb dX10_method_63 rfl (lv_at hl 2 rfl) ?_
        refine lv_iadd hx hb dX10_method_64 ?_
        refine lv_iload hx hb dX10_method_65 (lv_at hl 4 rfl) ?_
        obtain ⟨x27, hx27, hf⟩ := dc_nn_ok hf
        obtain ⟨g28, hf⟩ := dc_gd_ok hf
        obtain ⟨S29, eS29, hf⟩ := dc_let_ok hf
        refine lh_ast_i (a := 38) hx hb hK hW hS hx27 (L26 _ hx27) rfl (fun _ => rfl) g28 dX10_method_67 (fun H locs hW hS => ?_)
        rw [← eS29] at hW
        have m30 : ∀ b, gvN S24 b ≤ gvN S29 b := by rw [eS29]; exact lh_mI
        have L_t : ∀ j, some t = some j → j < gvN S29 10 := fun j h => Nat.lt_of_lt_of_le (L_t j h) (m30 _)
        have hm : ∀ b, gvN S b ≤ gvN S29 b := lh_le_trans hm m30
        have ok := lh_W_ok hW
        refine lh_aload_n hx hb dX10_method_68 rfl (lv_at hl 0 rfl) ?_
        have L31 : ∀ j, gvR S29 10 t 9 = some j → j < gvN S29 39 := fun j h => ok _ _ _ _ j (L_t _ rfl) rfl h
        refine lh_get (a := 10) (k := 9) (N := 42) (C := RX10) (T := TX10) (own := RX10) (ref := "LoaderModelsModel") hx hb hts (fun _ h => (List.mem_cons_of_mem _ (List.mem_append_right _ h))) hown hK hW rfl (L_t _ rfl) rfl rfl rfl (by decide) (hts (.fieldLink RX10 36 "LoaderModelsModel" "methodB" "[I") (List.mem_cons_of_mem _ (List.mem_append_left _ (List.mem_of_getElem? (i := 5) rfl)))) (fun _ h9 => h9) dX10_method_69 (v := lh_r ad 39 (gvR S29 10 t 9)) rfl ?_
        refine lv_iconst (v := 4) hx hb dX10_method_72 (by decide) ?_
        refine lv_iload_n hx hb dX10_method_73 rfl (lv_at hl 1 rfl) ?_
        refine lv_imul hx hb dX10_method_74 ?_
        refine lv_iload_n hx hb dX10_method_75 rfl (lv_at hl 2 rfl) ?_
        refine lv_iadd hx hb dX10_method_76 ?_
        refine lv_iload hx hb dX10_method_77 (lv_at hl 5 rfl) ?_
        obtain ⟨x32, hx32, hf⟩ := dc_nn_ok hf
        obtain ⟨g33, hf⟩ := dc_gd_ok hf
        obtain ⟨S34, eS34, hf⟩ := dc_let_ok hf
        refine lh_ast_i (a := 39) hx hb hK hW hS hx32 (L31 _ hx32) rfl (fun _ => rfl) g33 dX10_method_79 (fun H locs hW hS => ?_)
        rw [← eS34] at hW
        have m35 : ∀ b, gvN S29 b ≤ gvN S34 b := by rw [eS34]; exact lh_mI
        have L_t : ∀ j, some t = some j → j < gvN S34 10 := fun j h => Nat.lt_of_lt_of_le (L_t j h) (m35 _)
        have hm : ∀ b, gvN S b ≤ gvN S34 b := lh_le_trans hm m35
        have ok := lh_W_ok hW
        refine lv_iconst (v := 1) hx hb dX10_method_80 (by decide) ?_
        obtain ⟨rfl, rfl⟩ := dc_ret hf
        exact W.iret (v := (1 : Int32)) hx hb hr (fun t9 ht9 hW9 => ⟨⟨rfl, ⟨hm, trivial⟩, by rw [ht9]; exact hW⟩, hS.F ht9⟩) hS.2.2 dX10_method_81
      · replace hf := dc_if_t c20 hf
        refine lv_bipush (v := -3) hx hb dX10_method_40 (by decide) ?_
        obtain ⟨rfl, rfl⟩ := dc_ret hf
        exact W.iret (v := (-3 : Int32)) hx hb hr (fun t9 ht9 hW9 => ⟨⟨rfl, ⟨hm, trivial⟩, by rw [ht9]; exact hW⟩, hS.F ht9⟩) hS.2.2 dX10_method_42
  · replace hf := dc_if_t c8 hf
    refine lv_bipush (v := -2) hx hb dX10_method_13 (by decide) ?_
    obtain ⟨rfl, rfl⟩ := dc_ret hf
    exact W.iret (v := (-2 : Int32)) hx hb hr (fun t9 ht9 hW9 => ⟨⟨rfl, ⟨hm, trivial⟩, by rw [ht9]; exact hW⟩, hS.F ht9⟩) hS.2.2 dX10_method_15
def f_X10_bear (n : Nat) (S : lh_S) (t : Nat) (p1 : Int32) (p2 : Int32) : Option (Int32 × lh_S) :=
  dc_let (pvI S 10 t 0 (0 : Int32)) fun S1 =>
  dc_bd (f_X10_isLoader n S1 t p1) fun r3 S4 =>
  dc_if (r3 = 0) (
  some ((-2 : Int32), S4)) (
  dc_bd (f_X10_isFile n S4 t p2) fun r9 S10 =>
  dc_if (r9 = 0) (
  some ((-2 : Int32), S10)) (
  dc_if (p1 = 0) (
  some ((-4 : Int32), S10)) (
  dc_nn (gvR S10 10 t 2) fun x18 =>
  dc_gd (p2 < 0 ∨ gvL S10 32 x18 ≤ (p2).toNatClampNeg) (
  dc_let (((40 : Int32) * p1) + (gvI S10 32 x18 (p2).toNatClampNeg)) fun v20 =>
  dc_nn (gvR S10 10 t 13) fun x21 =>
  dc_gd (v20 < 0 ∨ gvL S10 43 x21 ≤ (v20).toNatClampNeg) (
  dc_let (pvI S10 43 x21 (v20).toNatClampNeg (p2 + (1 : Int32))) fun S23 =>
  some ((1 : Int32), S23))))))
set_option maxHeartbeats 1000000 in
theorem m_X10_bear {n : Nat} {S : lh_S} {t : Nat} {p1 : Int32} {p2 : Int32} {r : Int32} {S' : lh_S} (hf : f_X10_bear n S t p1 p2 = some (r, S')) : ∀ b, gvN S b ≤ gvN S' b := by
  have hm : ∀ b, gvN S b ≤ gvN S b := fun _ => Nat.le_refl _
  unfold f_X10_bear at hf
  obtain ⟨S1, eS1, hf⟩ := dc_let_ok hf
  have hm := lh_le_trans hm (show ∀ b, gvN S b ≤ gvN S1 b from by rw [eS1]; exact lh_mI)
  obtain ⟨r3, S4, k5, hf⟩ := dc_bd_ok hf
  have hm := lh_le_trans hm (show ∀ b, gvN S1 b ≤ gvN S4 b from m_X10_isLoader k5)
  by_cases c8 : r3 = 0
  · replace hf := dc_if_t c8 hf
    obtain ⟨_, rfl⟩ := dc_ret hf
    exact hm
  · replace hf := dc_if_f c8 hf
    obtain ⟨r9, S10, k11, hf⟩ := dc_bd_ok hf
    have hm := lh_le_trans hm (show ∀ b, gvN S4 b ≤ gvN S10 b from m_X10_isFile k11)
    by_cases c14 : r9 = 0
    · replace hf := dc_if_t c14 hf
      obtain ⟨_, rfl⟩ := dc_ret hf
      exact hm
    · replace hf := dc_if_f c14 hf
      by_cases c15 : p1 = 0
      · replace hf := dc_if_t c15 hf
        obtain ⟨_, rfl⟩ := dc_ret hf
        exact hm
      · replace hf := dc_if_f c15 hf
        obtain ⟨x18, hx18, hf⟩ := dc_nn_ok hf
        obtain ⟨g19, hf⟩ := dc_gd_ok hf
        obtain ⟨v20, hv20, hf⟩ := dc_let_ok hf
        obtain ⟨x21, hx21, hf⟩ := dc_nn_ok hf
        obtain ⟨g22, hf⟩ := dc_gd_ok hf
        obtain ⟨S23, eS23, hf⟩ := dc_let_ok hf
        have hm := lh_le_trans hm (show ∀ b, gvN S10 b ≤ gvN S23 b from by rw [eS23]; exact lh_mI)
        obtain ⟨_, rfl⟩ := dc_ret hf
        exact hm
set_option maxHeartbeats 1000000 in
theorem k_X10_bear {n : Nat} {S : lh_S} {t : Nat} {p1 : Int32} {p2 : Int32} {r : Int32} {S' : lh_S} (hf : f_X10_bear n S t p1 p2 = some (r, S')) : lh_sm10 S S' := by
  have hm : lh_sm10 S S := lh_sm10_rf
  unfold f_X10_bear at hf
  obtain ⟨S1, eS1, hf⟩ := dc_let_ok hf
  have hm := lh_sm10_trans hm (show lh_sm10 S S1 from by rw [eS1]; exact (lh_sm10I (by decide)))
  obtain ⟨r3, S4, k5, hf⟩ := dc_bd_ok hf
  have hm := lh_sm10_trans hm (show lh_sm10 S1 S4 from k_X10_isLoader k5)
  by_cases c8 : r3 = 0
  · replace hf := dc_if_t c8 hf
    obtain ⟨_, rfl⟩ := dc_ret hf
    exact hm
  · replace hf := dc_if_f c8 hf
    obtain ⟨r9, S10, k11, hf⟩ := dc_bd_ok hf
    have hm := lh_sm10_trans hm (show lh_sm10 S4 S10 from k_X10_isFile k11)
    by_cases c14 : r9 = 0
    · replace hf := dc_if_t c14 hf
      obtain ⟨_, rfl⟩ := dc_ret hf
      exact hm
    · replace hf := dc_if_f c14 hf
      by_cases c15 : p1 = 0
      · replace hf := dc_if_t c15 hf
        obtain ⟨_, rfl⟩ := dc_ret hf
        exact hm
      · replace hf := dc_if_f c15 hf
        obtain ⟨x18, hx18, hf⟩ := dc_nn_ok hf
        obtain ⟨g19, hf⟩ := dc_gd_ok hf
        obtain ⟨v20, hv20, hf⟩ := dc_let_ok hf
        obtain ⟨x21, hx21, hf⟩ := dc_nn_ok hf
        obtain ⟨g22, hf⟩ := dc_gd_ok hf
        obtain ⟨S23, eS23, hf⟩ := dc_let_ok hf
        have hm := lh_sm10_trans hm (show lh_sm10 S10 S23 from by rw [eS23]; exact (lh_sm10I (by decide)))
        obtain ⟨_, rfl⟩ := dc_ret hf
        exact hm
set_option maxHeartbeats 4000000 in
set_option maxRecDepth 100000 in
theorem c_X10_bear (l : Launch) (D : va_G) (cT : Nat → ClassId) (n : Nat) (S : lh_S) (ad : Nat → Nat → Nat) (A : Nat → Prop) (sz : Nat) (hA : ∀ q, sz ≤ q → A q) (t : Nat) (p1 : Int32) (p2 : Int32) (r : Int32) (S' : lh_S) (hf : f_X10_bear n S t p1 p2 = some (r, S')) (L_t : ∀ j, some t = some j → j < gvN S 10) : Met l yX10_bear wsX10_bear ({ frames := 2, cells := 0, slots := 0, locals := 46 } : Room) (lh_P D cT S ad A sz [lh_r ad 10 (some t), .int p1, .int p2]) (lh_Q D cT S' ad A ((∀ b, gvN S b ≤ gvN S' b) ∧ True) (some (.int r))) 0 0 A := by
  refine Met.ofW (cc := cX10_bear) (maxL := 3) (ret := (some .int)) (by decide) rfl ?_
  intro p e s m args below meth c s₁ B hml hv
  obtain ⟨hargs, hsz, hW, hK, hN⟩ := hv
  have hx := B.exec
  have hb := B.bytes
  have hr := B.returns
  have hts := atoms_spec (ws := wsX10_bear) B.pre
  have hown : s.vm.findClass RX10 = some m.cls := findClass_of_methodNamed B.named
  have hlocks := B.notSynchronized
  have hA : ∀ q, s.heap.size ≤ q → A q := fun q h => hA q (by rw [← hsz]; exact h)
  have ok := lh_W_ok hW
  have hm : ∀ b, gvN S b ≤ gvN S b := fun _ => Nat.le_refl _
  obtain ⟨ls, hent, hl⟩ := lh_entry m args [lh_r ad 10 (some t), .int p1, .int p2] 3 [(0, lh_r ad 10 (some t)), (1, .int p1), (2, .int p2)] hargs (by simp [lv_args, lh_cat_r, lh_cat_i, lh_cat_j]) (by simp [lg_sl, lh_cat_r, lh_cat_i, lh_cat_j])
  rw [hent]
  generalize hH : s.heap = H at hW ⊢
  have hS : va_S A s.heap H [] := by rw [← hH]; exact va_S.rf
  unfold f_X10_bear at hf
  refine lh_aload_n hx hb dX10_bear_0 rfl (lv_at hl 0 rfl) ?_
  refine lv_iconst (v := 0) hx hb dX10_bear_1 (by decide) ?_
  obtain ⟨S1, eS1, hf⟩ := dc_let_ok hf
  refine lh_put (S' := S1) (a := 10) (k := 0) (N := 42) (C := RX10) (T := TX10) (own := RX10) (ref := "LoaderModelsModel") (ty := .int) hx hb hts (fun _ h => (List.mem_cons_of_mem _ (List.mem_append_right _ h))) tyX10 tyX10_ok nmX10 hown hK hW hS rfl (L_t _ rfl) rfl rfl rfl (by decide) (hts (.fieldLink RX10 1 "LoaderModelsModel" "thrown" "I") (List.mem_cons_of_mem _ (List.mem_append_left _ (List.mem_of_getElem? (i := 0) rfl)))) (fun _ h9 => h9) (Or.inl rfl) (by decide +kernel) rfl rfl (fun q9 => by rw [eS1]; exact lh_chI rfl q9) dX10_bear_2 (fun H locs hW hS => ?_)
  have m2 : ∀ b, gvN S b ≤ gvN S1 b := by rw [eS1]; exact lh_mI
  have L_t : ∀ j, some t = some j → j < gvN S1 10 := fun j h => Nat.lt_of_lt_of_le (L_t j h) (m2 _)
  have hm : ∀ b, gvN S b ≤ gvN S1 b := lh_le_trans hm m2
  have ok := lh_W_ok hW
  refine lh_aload_n hx hb dX10_bear_5 rfl (lv_at hl 0 rfl) ?_
  refine lv_iload_n hx hb dX10_bear_6 rfl (lv_at hl 1 rfl) ?_
  obtain ⟨r3, S4, k5, hf⟩ := dc_bd_ok hf
  refine lh_call (S' := S4) (lh_rv ⟨hx, hb, hml, hown, hts⟩ rfl (As := [.int p1]) (rest := []) (k := 10) (c_X10_isLoader l D cT n S1 ad A H.size (fun q9 h9 => hA q9 (Nat.le_trans hS.1 h9)) t p1 r3 S4 k5 L_t) (cwV 1 hts gX10_bear_X10_isLoader rfl rfl rfl (by decide +kernel) ⟨Nat.le_of_ble_eq_true rfl, Nat.le_of_ble_eq_true rfl⟩) hK hN hW (L_t _ rfl) rfl rfl rfl hl.1 rfl (by simp [lh_cat_r, lh_cat_i, lh_cat_j]) dX10_bear_7 ⟨Nat.le_of_ble_eq_true rfl, Nat.le_of_ble_eq_true rfl⟩) hS (fun H locs hX hW hS => ?_)
  refine W.widen (k := 0) (n := 0) (by omega) (by omega) ?_
  show W _ _ _ _ _ _ _ _ _ _ _ _ _ _ _ (F0 m 10 ls [.int r3])
  have m6 : ∀ b, gvN S1 b ≤ gvN S4 b := hX.1
  have L_t : ∀ j, some t = some j → j < gvN S4 10 := fun j h => Nat.lt_of_lt_of_le (L_t j h) (m6 _)
  have hm : ∀ b, gvN S b ≤ gvN S4 b := lh_le_trans hm m6
  have ok := lh_W_ok hW
  have z7 := hX.2
  refine lv_if_eq (tgt := 21) hx hb dX10_bear_10 (by decide) (fun c8 => ?_) (fun c8 => ?_)
  · replace hf := dc_if_t c8 hf
    refine lv_bipush (v := -2) hx hb dX10_bear_21 (by decide) ?_
    obtain ⟨rfl, rfl⟩ := dc_ret hf
    exact W.iret (v := (-2 : Int32)) hx hb hr (fun t9 ht9 hW9 => ⟨⟨rfl, ⟨hm, trivial⟩, by rw [ht9]; exact hW⟩, hS.F ht9⟩) hS.2.2 dX10_bear_23
  · replace hf := dc_if_f c8 hf
    refine lh_aload_n hx hb dX10_bear_13 rfl (lv_at hl 0 rfl) ?_
    refine lv_iload_n hx hb dX10_bear_14 rfl (lv_at hl 2 rfl) ?_
    obtain ⟨r9, S10, k11, hf⟩ := dc_bd_ok hf
    refine lh_call (S' := S10) (lh_rv ⟨hx, hb, hml, hown, hts⟩ rfl (As := [.int p2]) (rest := []) (k := 10) (c_X10_isFile l D cT n S4 ad A H.size (fun q9 h9 => hA q9 (Nat.le_trans hS.1 h9)) t p2 r9 S10 k11 L_t) (cwV 1 hts gX10_bear_X10_isFile rfl rfl rfl (by decide +kernel) ⟨Nat.le_of_ble_eq_true rfl, Nat.le_of_ble_eq_true rfl⟩) hK hN hW (L_t _ rfl) rfl rfl rfl hl.1 rfl (by simp [lh_cat_r, lh_cat_i, lh_cat_j]) dX10_bear_15 ⟨Nat.le_of_ble_eq_true rfl, Nat.le_of_ble_eq_true rfl⟩) hS (fun H locs hX hW hS => ?_)
    refine W.widen (k := 0) (n := 0) (by omega) (by omega) ?_
    show W _ _ _ _ _ _ _ _ _ _ _ _ _ _ _ (F0 m 18 ls [.int r9])
    have m12 : ∀ b, gvN S4 b ≤ gvN S10 b := hX.1
    have L_t : ∀ j, some t = some j → j < gvN S10 10 := fun j h => Nat.lt_of_lt_of_le (L_t j h) (m12 _)
    have hm : ∀ b, gvN S b ≤ gvN S10 b := lh_le_trans hm m12
    have ok := lh_W_ok hW
    have z13 := hX.2
    refine lv_if_ne (tgt := 24) hx hb dX10_bear_18 (by decide) (fun c14 => ?_) (fun c14 => ?_)
    · replace hf := dc_if_f c14 hf
      refine lv_iload_n hx hb dX10_bear_24 rfl (lv_at hl 1 rfl) ?_
      refine lv_if_ne (tgt := 31) hx hb dX10_bear_25 (by decide) (fun c15 => ?_) (fun c15 => ?_)
      · replace hf := dc_if_f c15 hf
        refine lh_aload_n hx hb dX10_bear_31 rfl (lv_at hl 0 rfl) ?_
        have L16 : ∀ j, gvR S10 10 t 13 = some j → j < gvN S10 43 := fun j h => ok _ _ _ _ j (L_t _ rfl) rfl h
        refine lh_get (a := 10) (k := 13) (N := 42) (C := RX10) (T := TX10) (own := RX10) (ref := "LoaderModelsModel") hx hb hts (fun _ h => (List.mem_cons_of_mem _ (List.mem_append_right _ h))) hown hK hW rfl (L_t _ rfl) rfl rfl rfl (by decide) (hts (.fieldLink RX10 45 "LoaderModelsModel" "has" "[I") (List.mem_cons_of_mem _ (List.mem_append_left _ (List.mem_of_getElem? (i := 1) rfl)))) (fun _ h9 => h9) dX10_bear_32 (v := lh_r ad 43 (gvR S10 10 t 13)) rfl ?_
        refine lv_bipush (v := 40) hx hb dX10_bear_35 (by decide) ?_
        refine lv_iload_n hx hb dX10_bear_37 rfl (lv_at hl 1 rfl) ?_
        refine lv_imul hx hb dX10_bear_38 ?_
        refine lh_aload_n hx hb dX10_bear_39 rfl (lv_at hl 0 rfl) ?_
        have L17 : ∀ j, gvR S10 10 t 2 = some j → j < gvN S10 32 := fun j h => ok _ _ _ _ j (L_t _ rfl) rfl h
        refine lh_get (a := 10) (k := 2) (N := 42) (C := RX10) (T := TX10) (own := RX10) (ref := "LoaderModelsModel") hx hb hts (fun _ h => (List.mem_cons_of_mem _ (List.mem_append_right _ h))) hown hK hW rfl (L_t _ rfl) rfl rfl rfl (by decide) (hts (.fieldLink RX10 13 "LoaderModelsModel" "fileName" "[I") (List.mem_cons_of_mem _ (List.mem_append_left _ (List.mem_of_getElem? (i := 2) rfl)))) (fun _ h9 => h9) dX10_bear_40 (v := lh_r ad 32 (gvR S10 10 t 2)) rfl ?_
        refine lv_iload_n hx hb dX10_bear_43 rfl (lv_at hl 2 rfl) ?_
        obtain ⟨x18, hx18, hf⟩ := dc_nn_ok hf
        obtain ⟨g19, hf⟩ := dc_gd_ok hf
        refine lh_ald_i (a := 32) hx hb hK hW hx18 (L17 _ hx18) rfl rfl g19 dX10_bear_44 ?_
        refine lv_iadd hx hb dX10_bear_45 ?_
        refine lv_topi (fun v20 hv20 => ?_)
        replace hf := dc_let_e hv20 hf
        refine lv_iload_n hx hb dX10_bear_46 rfl (lv_at hl 2 rfl) ?_
        refine lv_iconst (v := 1) hx hb dX10_bear_47 (by decide) ?_
        refine lv_iadd hx hb dX10_bear_48 ?_
        obtain ⟨x21, hx21, hf⟩ := dc_nn_ok hf
        obtain ⟨g22, hf⟩ := dc_gd_ok hf
        obtain ⟨S23, eS23, hf⟩ := dc_let_ok hf
        refine lh_ast_i (a := 43) hx hb hK hW hS hx21 (L16 _ hx21) rfl (fun _ => rfl) g22 dX10_bear_49 (fun H locs hW hS => ?_)
        rw [← eS23] at hW
        have m24 : ∀ b, gvN S10 b ≤ gvN S23 b := by rw [eS23]; exact lh_mI
        have L_t : ∀ j, some t = some j → j < gvN S23 10 := fun j h => Nat.lt_of_lt_of_le (L_t j h) (m24 _)
        have hm : ∀ b, gvN S b ≤ gvN S23 b := lh_le_trans hm m24
        have ok := lh_W_ok hW
        refine lv_iconst (v := 1) hx hb dX10_bear_50 (by decide) ?_
        obtain ⟨rfl, rfl⟩ := dc_ret hf
        exact W.iret (v := (1 : Int32)) hx hb hr (fun t9 ht9 hW9 => ⟨⟨rfl, ⟨hm, trivial⟩, by rw [ht9]; exact hW⟩, hS.F ht9⟩) hS.2.2 dX10_bear_51
      · replace hf := dc_if_t c15 hf
        refine lv_bipush (v := -4) hx hb dX10_bear_28 (by decide) ?_
        obtain ⟨rfl, rfl⟩ := dc_ret hf
        exact W.iret (v := (-4 : Int32)) hx hb hr (fun t9 ht9 hW9 => ⟨⟨rfl, ⟨hm, trivial⟩, by rw [ht9]; exact hW⟩, hS.F ht9⟩) hS.2.2 dX10_bear_30
    · replace hf := dc_if_t c14 hf
      refine lv_bipush (v := -2) hx hb dX10_bear_21 (by decide) ?_
      obtain ⟨rfl, rfl⟩ := dc_ret hf
      exact W.iret (v := (-2 : Int32)) hx hb hr (fun t9 ht9 hW9 => ⟨⟨rfl, ⟨hm, trivial⟩, by rw [ht9]; exact hW⟩, hS.F ht9⟩) hS.2.2 dX10_bear_23
