def f_X9_start (n : Nat) (S : lh_S) (t : Nat) (p1 : Int32) : Option (Int32 × lh_S) :=
  dc_nn (gvR S 9 t 3) fun x2 =>
  dc_bd (f_X4_classAt n S x2 p1) fun r3 S4 =>
  dc_if (r3 = none) (
  some ((-2 : Int32), S4)) (
  dc_bd (f_X9_started n S4 t r3) fun r9 S10 =>
  dc_bd (f_X9_answered n S10 t r9) fun r13 S14 =>
  some (r13, S14))
set_option maxHeartbeats 1000000 in
theorem m_X9_start {n : Nat} {S : lh_S} {t : Nat} {p1 : Int32} {r : Int32} {S' : lh_S} (hf : f_X9_start n S t p1 = some (r, S')) : ∀ b, gvN S b ≤ gvN S' b := by
  have hm : ∀ b, gvN S b ≤ gvN S b := fun _ => Nat.le_refl _
  unfold f_X9_start at hf
  obtain ⟨x2, hx2, hf⟩ := dc_nn_ok hf
  obtain ⟨r3, S4, k5, hf⟩ := dc_bd_ok hf
  have hm := lh_le_trans hm (show ∀ b, gvN S b ≤ gvN S4 b from m_X4_classAt k5)
  by_cases c8 : r3 = none
  · replace hf := dc_if_t c8 hf
    obtain ⟨_, rfl⟩ := dc_ret hf
    exact hm
  · replace hf := dc_if_f c8 hf
    obtain ⟨r9, S10, k11, hf⟩ := dc_bd_ok hf
    have hm := lh_le_trans hm (show ∀ b, gvN S4 b ≤ gvN S10 b from m_X9_started k11)
    obtain ⟨r13, S14, k15, hf⟩ := dc_bd_ok hf
    have hm := lh_le_trans hm (show ∀ b, gvN S10 b ≤ gvN S14 b from m_X9_answered k15)
    obtain ⟨_, rfl⟩ := dc_ret hf
    exact hm
set_option maxHeartbeats 1000000 in
theorem k_X9_start {n : Nat} {S : lh_S} {t : Nat} {p1 : Int32} {r : Int32} {S' : lh_S} (hf : f_X9_start n S t p1 = some (r, S')) : lh_sm9 S S' := by
  have hm : lh_sm9 S S := lh_sm9_rf
  unfold f_X9_start at hf
  obtain ⟨x2, hx2, hf⟩ := dc_nn_ok hf
  obtain ⟨r3, S4, k5, hf⟩ := dc_bd_ok hf
  have hm := lh_sm9_trans hm (show lh_sm9 S S4 from k_X4_classAt k5)
  by_cases c8 : r3 = none
  · replace hf := dc_if_t c8 hf
    obtain ⟨_, rfl⟩ := dc_ret hf
    exact hm
  · replace hf := dc_if_f c8 hf
    obtain ⟨r9, S10, k11, hf⟩ := dc_bd_ok hf
    have hm := lh_sm9_trans hm (show lh_sm9 S4 S10 from k_X9_started k11)
    obtain ⟨r13, S14, k15, hf⟩ := dc_bd_ok hf
    have hm := lh_sm9_trans hm (show lh_sm9 S10 S14 from k_X9_answered k15)
    obtain ⟨_, rfl⟩ := dc_ret hf
    exact hm
set_option maxHeartbeats 4000000 in
set_option maxRecDepth 100000 in
theorem c_X9_start (l : Launch) (D : va_G) (cT : Nat → ClassId) (n : Nat) (S : lh_S) (ad : Nat → Nat → Nat) (A : Nat → Prop) (sz : Nat) (hA : ∀ q, sz ≤ q → A q) (t : Nat) (p1 : Int32) (r : Int32) (S' : lh_S) (hf : f_X9_start n S t p1 = some (r, S')) (L_t : ∀ j, some t = some j → j < gvN S 9) : Met l yX9_start wsX9_start ({ frames := 2, cells := 0, slots := 0, locals := 47 } : Room) (lh_P D cT S ad A sz [lh_r ad 9 (some t), .int p1]) (lh_Q D cT S' ad A ((∀ b, gvN S b ≤ gvN S' b) ∧ True) (some (.int r))) 0 0 A := by
  refine Met.ofW (cc := cX9_start) (maxL := 3) (ret := (some .int)) (by decide) rfl ?_
  intro p e s m args below meth c s₁ B hml hv
  obtain ⟨hargs, hsz, hW, hK, hN⟩ := hv
  have hx := B.exec
  have hb := B.bytes
  have hr := B.returns
  have hts := atoms_spec (ws := wsX9_start) B.pre
  have hown : s.vm.findClass RX9 = some m.cls := findClass_of_methodNamed B.named
  have hlocks := B.notSynchronized
  have hA : ∀ q, s.heap.size ≤ q → A q := fun q h => hA q (by rw [← hsz]; exact h)
  have ok := lh_W_ok hW
  have hm : ∀ b, gvN S b ≤ gvN S b := fun _ => Nat.le_refl _
  obtain ⟨ls, hent, hl⟩ := lh_entry m args [lh_r ad 9 (some t), .int p1] 3 [(0, lh_r ad 9 (some t)), (1, .int p1)] hargs (by simp [lv_args, lh_cat_r, lh_cat_i, lh_cat_j]) (by simp [lg_sl, lh_cat_r, lh_cat_i, lh_cat_j])
  rw [hent]
  generalize hH : s.heap = H at hW ⊢
  have hS : va_S A s.heap H [] := by rw [← hH]; exact va_S.rf
  unfold f_X9_start at hf
  refine lh_aload_n hx hb dX9_start_0 rfl (lv_at hl 0 rfl) ?_
  have L1 : ∀ j, gvR S 9 t 3 = some j → j < gvN S 4 := fun j h => ok _ _ _ _ j (L_t _ rfl) rfl h
  refine lh_get (a := 9) (k := 3) (N := 10) (C := RX9) (T := TX9) (own := RX9) (ref := "LoaderModels") hx hb hts (fun _ h => (List.mem_cons_of_mem _ (List.mem_append_left _ (List.mem_append_left _ (List.mem_append_left _ (List.mem_append_right _ h)))))) hown hK hW rfl (L_t _ rfl) rfl rfl rfl (by decide) (hts (.fieldLink RX9 29 "LoaderModels" "loading" "LLoaderModels$Loading;") (List.mem_cons_of_mem _ (List.mem_append_left _ (List.mem_append_left _ (List.mem_append_left _ (List.mem_append_left _ (List.mem_append_left _ (List.mem_of_getElem? (i := 0) rfl)))))))) (fun _ h9 => h9) dX9_start_1 (v := lh_r ad 4 (gvR S 9 t 3)) rfl ?_
  refine lv_iload_n hx hb dX9_start_4 rfl (lv_at hl 1 rfl) ?_
  obtain ⟨x2, hx2, hf⟩ := dc_nn_ok hf
  obtain ⟨r3, S4, k5, hf⟩ := dc_bd_ok hf
  refine lh_call (S' := S4) (lh_rv ⟨hx, hb, hml, hown, hts⟩ hx2 (As := [.int p1]) (rest := []) (k := 4) (c_X4_classAt l D cT n S ad A H.size (fun q9 h9 => hA q9 (Nat.le_trans hS.1 h9)) x2 p1 r3 S4 k5 (lh_ls (L1 _ hx2))) (cwV 1 hts gX9_start_X4_classAt rfl rfl rfl (by decide +kernel) ⟨Nat.le_of_ble_eq_true rfl, Nat.le_of_ble_eq_true rfl⟩) hK hN hW (L1 _ hx2) rfl rfl rfl hl.1 rfl (by simp [lh_cat_r, lh_cat_i, lh_cat_j]) dX9_start_5 ⟨Nat.le_of_ble_eq_true rfl, Nat.le_of_ble_eq_true rfl⟩) hS (fun H locs hX hW hS => ?_)
  refine W.widen (k := 0) (n := 0) (by omega) (by omega) ?_
  show W _ _ _ _ _ _ _ _ _ _ _ _ _ _ _ (F0 m 8 ls [lh_r ad 5 r3])
  have m6 : ∀ b, gvN S b ≤ gvN S4 b := hX.1
  have L_t : ∀ j, some t = some j → j < gvN S4 9 := fun j h => Nat.lt_of_lt_of_le (L_t j h) (m6 _)
  have hm : ∀ b, gvN S b ≤ gvN S4 b := lh_le_trans hm m6
  have ok := lh_W_ok hW
  have L7 := hX.2
  refine lh_astore_n (i := 2) (lv' := [(2, lh_r ad 5 r3), (0, lh_r ad 9 (some t)), (1, .int p1)]) hx hb dX9_start_8 rfl hl (by decide) (by first | rfl | simp [lh_cat_r, lh_cat_i, lh_cat_j]) (fun ls hl => ?_)
  refine lh_aload_n hx hb dX9_start_9 rfl (lv_at hl 0 rfl) ?_
  refine lh_ifnonnull (tgt := 16) hx hb dX9_start_10 (by decide) (fun c8 => ?_) (fun c8 => ?_)
  · replace hf := dc_if_f c8 hf
    refine lh_aload_n hx hb dX9_start_16 rfl (lv_at hl 1 rfl) ?_
    refine lh_aload_n hx hb dX9_start_17 rfl (lv_at hl 1 rfl) ?_
    refine lh_aload_n hx hb dX9_start_18 rfl (lv_at hl 0 rfl) ?_
    obtain ⟨r9, S10, k11, hf⟩ := dc_bd_ok hf
    refine lh_call (S' := S10) (lh_rv ⟨hx, hb, hml, hown, hts⟩ rfl (As := [lh_r ad 5 r3]) (rest := [lh_r ad 9 (some t)]) (k := 9) (c_X9_started l D cT n S4 ad A H.size (fun q9 h9 => hA q9 (Nat.le_trans hS.1 h9)) t r3 r9 S10 k11 L_t L7) (cwV 1 hts gX9_start_X9_started rfl rfl rfl (by decide +kernel) ⟨Nat.le_of_ble_eq_true rfl, Nat.le_of_ble_eq_true rfl⟩) hK hN hW (L_t _ rfl) rfl rfl rfl hl.1 rfl (by simp [lh_cat_r, lh_cat_i, lh_cat_j]) dX9_start_19 ⟨Nat.le_of_ble_eq_true rfl, Nat.le_of_ble_eq_true rfl⟩) hS (fun H locs hX hW hS => ?_)
    refine W.widen (k := 0) (n := 0) (by omega) (by omega) ?_
    show W _ _ _ _ _ _ _ _ _ _ _ _ _ _ _ (F0 m 22 ls [.int r9, lh_r ad 9 (some t)])
    have m12 : ∀ b, gvN S4 b ≤ gvN S10 b := hX.1
    have L7 : ∀ j, r3 = some j → j < gvN S10 5 := fun j h => Nat.lt_of_lt_of_le (L7 j h) (m12 _)
    have L_t : ∀ j, some t = some j → j < gvN S10 9 := fun j h => Nat.lt_of_lt_of_le (L_t j h) (m12 _)
    have hm : ∀ b, gvN S b ≤ gvN S10 b := lh_le_trans hm m12
    have ok := lh_W_ok hW
    obtain ⟨r13, S14, k15, hf⟩ := dc_bd_ok hf
    refine lh_call (S' := S14) (lh_rv ⟨hx, hb, hml, hown, hts⟩ rfl (As := [.int r9]) (rest := []) (k := 9) (c_X9_answered l D cT n S10 ad A H.size (fun q9 h9 => hA q9 (Nat.le_trans hS.1 h9)) t r9 r13 S14 k15 L_t) (cwV 1 hts gX9_start_X9_answered rfl rfl rfl (by decide +kernel) ⟨Nat.le_of_ble_eq_true rfl, Nat.le_of_ble_eq_true rfl⟩) hK hN hW (L_t _ rfl) rfl rfl rfl hl.1 rfl (by simp [lh_cat_r, lh_cat_i, lh_cat_j]) dX9_start_22 ⟨Nat.le_of_ble_eq_true rfl, Nat.le_of_ble_eq_true rfl⟩) hS (fun H locs hX hW hS => ?_)
    refine W.widen (k := 0) (n := 0) (by omega) (by omega) ?_
    show W _ _ _ _ _ _ _ _ _ _ _ _ _ _ _ (F0 m 25 ls [.int r13])
    have m16 : ∀ b, gvN S10 b ≤ gvN S14 b := hX.1
    have L7 : ∀ j, r3 = some j → j < gvN S14 5 := fun j h => Nat.lt_of_lt_of_le (L7 j h) (m16 _)
    have L_t : ∀ j, some t = some j → j < gvN S14 9 := fun j h => Nat.lt_of_lt_of_le (L_t j h) (m16 _)
    have hm : ∀ b, gvN S b ≤ gvN S14 b := lh_le_trans hm m16
    have ok := lh_W_ok hW
    obtain ⟨rfl, rfl⟩ := dc_ret hf
    exact W.iret (v := r13) hx hb hr (fun t9 ht9 hW9 => ⟨⟨rfl, ⟨hm, trivial⟩, by rw [ht9]; exact hW⟩, hS.F ht9⟩) hS.2.2 dX9_start_25
  · replace hf := dc_if_t c8 hf
    refine lv_bipush (v := -2) hx hb dX9_start_13 (by decide) ?_
    obtain ⟨rfl, rfl⟩ := dc_ret hf
    exact W.iret (v := (-2 : Int32)) hx hb hr (fun t9 ht9 hW9 => ⟨⟨rfl, ⟨hm, trivial⟩, by rw [ht9]; exact hW⟩, hS.F ht9⟩) hS.2.2 dX9_start_15
def f_X9_value (n : Nat) (S : lh_S) (t : Nat) (p1 : Int32) : Option (Int64 × lh_S) :=
  dc_nn (gvR S 9 t 3) fun x2 =>
  dc_bd (f_X4_classAt n S x2 p1) fun r3 S4 =>
  dc_if (r3 = none) (
  some ((-9223372036854775806 : Int64), S4)) (
  dc_bd (f_X9_started n S4 t r3) fun r9 S10 =>
  dc_bd (f_X9_answered n S10 t r9) fun r13 S14 =>
  dc_if (r13 = (1 : Int32)) (
  dc_nn r3 fun x19 =>
  some (gvJ S14 5 x19 5, S14)) (
  dc_let ((-9223372036854775808 : Int64) - r13.toInt64) fun v18 =>
  some (v18, S14)))
set_option maxHeartbeats 1000000 in
theorem m_X9_value {n : Nat} {S : lh_S} {t : Nat} {p1 : Int32} {r : Int64} {S' : lh_S} (hf : f_X9_value n S t p1 = some (r, S')) : ∀ b, gvN S b ≤ gvN S' b := by
  have hm : ∀ b, gvN S b ≤ gvN S b := fun _ => Nat.le_refl _
  unfold f_X9_value at hf
  obtain ⟨x2, hx2, hf⟩ := dc_nn_ok hf
  obtain ⟨r3, S4, k5, hf⟩ := dc_bd_ok hf
  have hm := lh_le_trans hm (show ∀ b, gvN S b ≤ gvN S4 b from m_X4_classAt k5)
  by_cases c8 : r3 = none
  · replace hf := dc_if_t c8 hf
    obtain ⟨_, rfl⟩ := dc_ret hf
    exact hm
  · replace hf := dc_if_f c8 hf
    obtain ⟨r9, S10, k11, hf⟩ := dc_bd_ok hf
    have hm := lh_le_trans hm (show ∀ b, gvN S4 b ≤ gvN S10 b from m_X9_started k11)
    obtain ⟨r13, S14, k15, hf⟩ := dc_bd_ok hf
    have hm := lh_le_trans hm (show ∀ b, gvN S10 b ≤ gvN S14 b from m_X9_answered k15)
    by_cases c17 : r13 = (1 : Int32)
    · replace hf := dc_if_t c17 hf
      obtain ⟨x19, hx19, hf⟩ := dc_nn_ok hf
      obtain ⟨_, rfl⟩ := dc_ret hf
      exact hm
    · replace hf := dc_if_f c17 hf
      obtain ⟨v18, hv18, hf⟩ := dc_let_ok hf
      obtain ⟨_, rfl⟩ := dc_ret hf
      exact hm
set_option maxHeartbeats 1000000 in
theorem k_X9_value {n : Nat} {S : lh_S} {t : Nat} {p1 : Int32} {r : Int64} {S' : lh_S} (hf : f_X9_value n S t p1 = some (r, S')) : lh_sm9 S S' := by
  have hm : lh_sm9 S S := lh_sm9_rf
  unfold f_X9_value at hf
  obtain ⟨x2, hx2, hf⟩ := dc_nn_ok hf
  obtain ⟨r3, S4, k5, hf⟩ := dc_bd_ok hf
  have hm := lh_sm9_trans hm (show lh_sm9 S S4 from k_X4_classAt k5)
  by_cases c8 : r3 = none
  · replace hf := dc_if_t c8 hf
    obtain ⟨_, rfl⟩ := dc_ret hf
    exact hm
  · replace hf := dc_if_f c8 hf
    obtain ⟨r9, S10, k11, hf⟩ := dc_bd_ok hf
    have hm := lh_sm9_trans hm (show lh_sm9 S4 S10 from k_X9_started k11)
    obtain ⟨r13, S14, k15, hf⟩ := dc_bd_ok hf
    have hm := lh_sm9_trans hm (show lh_sm9 S10 S14 from k_X9_answered k15)
    by_cases c17 : r13 = (1 : Int32)
    · replace hf := dc_if_t c17 hf
      obtain ⟨x19, hx19, hf⟩ := dc_nn_ok hf
      obtain ⟨_, rfl⟩ := dc_ret hf
      exact hm
    · replace hf := dc_if_f c17 hf
      obtain ⟨v18, hv18, hf⟩ := dc_let_ok hf
      obtain ⟨_, rfl⟩ := dc_ret hf
      exact hm
set_option maxHeartbeats 4000000 in
set_option maxRecDepth 100000 in
theorem c_X9_value (l : Launch) (D : va_G) (cT : Nat → ClassId) (n : Nat) (S : lh_S) (ad : Nat → Nat → Nat) (A : Nat → Prop) (sz : Nat) (hA : ∀ q, sz ≤ q → A q) (t : Nat) (p1 : Int32) (r : Int64) (S' : lh_S) (hf : f_X9_value n S t p1 = some (r, S')) (L_t : ∀ j, some t = some j → j < gvN S 9) : Met l yX9_value wsX9_value ({ frames := 2, cells := 0, slots := 0, locals := 47 } : Room) (lh_P D cT S ad A sz [lh_r ad 9 (some t), .int p1]) (lh_Q D cT S' ad A ((∀ b, gvN S b ≤ gvN S' b) ∧ True) (some (.long r))) 0 0 A := by
  refine Met.ofW (cc := cX9_value) (maxL := 4) (ret := (some .long)) (by decide) rfl ?_
  intro p e s m args below meth c s₁ B hml hv
  obtain ⟨hargs, hsz, hW, hK, hN⟩ := hv
  have hx := B.exec
  have hb := B.bytes
  have hr := B.returns
  have hts := atoms_spec (ws := wsX9_value) B.pre
  have hown : s.vm.findClass RX9 = some m.cls := findClass_of_methodNamed B.named
  have hlocks := B.notSynchronized
  have hA : ∀ q, s.heap.size ≤ q → A q := fun q h => hA q (by rw [← hsz]; exact h)
  have ok := lh_W_ok hW
  have hm : ∀ b, gvN S b ≤ gvN S b := fun _ => Nat.le_refl _
  obtain ⟨ls, hent, hl⟩ := lh_entry m args [lh_r ad 9 (some t), .int p1] 4 [(0, lh_r ad 9 (some t)), (1, .int p1)] hargs (by simp [lv_args, lh_cat_r, lh_cat_i, lh_cat_j]) (by simp [lg_sl, lh_cat_r, lh_cat_i, lh_cat_j])
  rw [hent]
  generalize hH : s.heap = H at hW ⊢
  have hS : va_S A s.heap H [] := by rw [← hH]; exact va_S.rf
  unfold f_X9_value at hf
  refine lh_aload_n hx hb dX9_value_0 rfl (lv_at hl 0 rfl) ?_
  have L1 : ∀ j, gvR S 9 t 3 = some j → j < gvN S 4 := fun j h => ok _ _ _ _ j (L_t _ rfl) rfl h
  refine lh_get (a := 9) (k := 3) (N := 10) (C := RX9) (T := TX9) (own := RX9) (ref := "LoaderModels") hx hb hts (fun _ h => (List.mem_cons_of_mem _ (List.mem_append_left _ (List.mem_append_left _ (List.mem_append_left _ (List.mem_append_right _ h)))))) hown hK hW rfl (L_t _ rfl) rfl rfl rfl (by decide) (hts (.fieldLink RX9 29 "LoaderModels" "loading" "LLoaderModels$Loading;") (List.mem_cons_of_mem _ (List.mem_append_left _ (List.mem_append_left _ (List.mem_append_left _ (List.mem_append_left _ (List.mem_append_left _ (List.mem_of_getElem? (i := 0) rfl)))))))) (fun _ h9 => h9) dX9_value_1 (v := lh_r ad 4 (gvR S 9 t 3)) rfl ?_
  refine lv_iload_n hx hb dX9_value_4 rfl (lv_at hl 1 rfl) ?_
  obtain ⟨x2, hx2, hf⟩ := dc_nn_ok hf
  obtain ⟨r3, S4, k5, hf⟩ := dc_bd_ok hf
  refine lh_call (S' := S4) (lh_rv ⟨hx, hb, hml, hown, hts⟩ hx2 (As := [.int p1]) (rest := []) (k := 4) (c_X4_classAt l D cT n S ad A H.size (fun q9 h9 => hA q9 (Nat.le_trans hS.1 h9)) x2 p1 r3 S4 k5 (lh_ls (L1 _ hx2))) (cwV 1 hts gX9_value_X4_classAt rfl rfl rfl (by decide +kernel) ⟨Nat.le_of_ble_eq_true rfl, Nat.le_of_ble_eq_true rfl⟩) hK hN hW (L1 _ hx2) rfl rfl rfl hl.1 rfl (by simp [lh_cat_r, lh_cat_i, lh_cat_j]) dX9_value_5 ⟨Nat.le_of_ble_eq_true rfl, Nat.le_of_ble_eq_true rfl⟩) hS (fun H locs hX hW hS => ?_)
  refine W.widen (k := 0) (n := 0) (by omega) (by omega) ?_
  show W _ _ _ _ _ _ _ _ _ _ _ _ _ _ _ (F0 m 8 ls [lh_r ad 5 r3])
  have m6 : ∀ b, gvN S b ≤ gvN S4 b := hX.1
  have L_t : ∀ j, some t = some j → j < gvN S4 9 := fun j h => Nat.lt_of_lt_of_le (L_t j h) (m6 _)
  have hm : ∀ b, gvN S b ≤ gvN S4 b := lh_le_trans hm m6
  have ok := lh_W_ok hW
  have L7 := hX.2
  refine lh_astore_n (i := 2) (lv' := [(2, lh_r ad 5 r3), (0, lh_r ad 9 (some t)), (1, .int p1)]) hx hb dX9_value_8 rfl hl (by decide) (by first | rfl | simp [lh_cat_r, lh_cat_i, lh_cat_j]) (fun ls hl => ?_)
  refine lh_aload_n hx hb dX9_value_9 rfl (lv_at hl 0 rfl) ?_
  refine lh_ifnonnull (tgt := 17) hx hb dX9_value_10 (by decide) (fun c8 => ?_) (fun c8 => ?_)
  · replace hf := dc_if_f c8 hf
    refine lh_aload_n hx hb dX9_value_17 rfl (lv_at hl 1 rfl) ?_
    refine lh_aload_n hx hb dX9_value_18 rfl (lv_at hl 1 rfl) ?_
    refine lh_aload_n hx hb dX9_value_19 rfl (lv_at hl 0 rfl) ?_
    obtain ⟨r9, S10, k11, hf⟩ := dc_bd_ok hf
    refine lh_call (S' := S10) (lh_rv ⟨hx, hb, hml, hown, hts⟩ rfl (As := [lh_r ad 5 r3]) (rest := [lh_r ad 9 (some t)]) (k := 9) (c_X9_started l D cT n S4 ad A H.size (fun q9 h9 => hA q9 (Nat.le_trans hS.1 h9)) t r3 r9 S10 k11 L_t L7) (cwV 1 hts gX9_value_X9_started rfl rfl rfl (by decide +kernel) ⟨Nat.le_of_ble_eq_true rfl, Nat.le_of_ble_eq_true rfl⟩) hK hN hW (L_t _ rfl) rfl rfl rfl hl.1 rfl (by simp [lh_cat_r, lh_cat_i, lh_cat_j]) dX9_value_20 ⟨Nat.le_of_ble_eq_true rfl, Nat.le_of_ble_eq_true rfl⟩) hS (fun H locs hX hW hS => ?_)
    refine W.widen (k := 0) (n := 0) (by omega) (by omega) ?_
    show W _ _ _ _ _ _ _ _ _ _ _ _ _ _ _ (F0 m 23 ls [.int r9, lh_r ad 9 (some t)])
    have m12 : ∀ b, gvN S4 b ≤ gvN S10 b := hX.1
    have L7 : ∀ j, r3 = some j → j < gvN S10 5 := fun j h => Nat.lt_of_lt_of_le (L7 j h) (m12 _)
    have L_t : ∀ j, some t = some j → j < gvN S10 9 := fun j h => Nat.lt_of_lt_of_le (L_t j h) (m12 _)
    have hm : ∀ b, gvN S b ≤ gvN S10 b := lh_le_trans hm m12
    have ok := lh_W_ok hW
    obtain ⟨r13, S14, k15, hf⟩ := dc_bd_ok hf
    refine lh_call (S' := S14) (lh_rv ⟨hx, hb, hml, hown, hts⟩ rfl (As := [.int r9]) (rest := []) (k := 9) (c_X9_answered l D cT n S10 ad A H.size (fun q9 h9 => hA q9 (Nat.le_trans hS.1 h9)) t r9 r13 S14 k15 L_t) (cwV 1 hts gX9_value_X9_answered rfl rfl rfl (by decide +kernel) ⟨Nat.le_of_ble_eq_true rfl, Nat.le_of_ble_eq_true rfl⟩) hK hN hW (L_t _ rfl) rfl rfl rfl hl.1 rfl (by simp [lh_cat_r, lh_cat_i, lh_cat_j]) dX9_value_23 ⟨Nat.le_of_ble_eq_true rfl, Nat.le_of_ble_eq_true rfl⟩) hS (fun H locs hX hW hS => ?_)
    refine W.widen (k := 0) (n := 0) (by omega) (by omega) ?_
    show W _ _ _ _ _ _ _ _ _ _ _ _ _ _ _ (F0 m 26 ls [.int r13])
    have m16 : ∀ b, gvN S10 b ≤ gvN S14 b := hX.1
    have L7 : ∀ j, r3 = some j → j < gvN S14 5 := fun j h => Nat.lt_of_lt_of_le (L7 j h) (m16 _)
    have L_t : ∀ j, some t = some j → j < gvN S14 9 := fun j h => Nat.lt_of_lt_of_le (L_t j h) (m16 _)
    have hm : ∀ b, gvN S b ≤ gvN S14 b := lh_le_trans hm m16
    have ok := lh_W_ok hW
    refine lv_istore_n (i := 3) (lv' := [(3, .int r13), (2, lh_r ad 5 r3), (0, lh_r ad 9 (some t)), (1, .int p1)]) hx hb dX9_value_26 rfl hl (by decide) (by first | rfl | simp [lh_cat_r, lh_cat_i, lh_cat_j]) (fun ls hl => ?_)
    refine lv_iload_n hx hb dX9_value_27 rfl (lv_at hl 0 rfl) ?_
    refine lv_iconst (v := 1) hx hb dX9_value_28 (by decide) ?_
    refine lv_icmp_ne (tgt := 39) hx hb dX9_value_29 (by decide) (fun c17 => ?_) (fun c17 => ?_)
    · replace hf := dc_if_f c17 hf
      refine lv_ldc2 (v := -9223372036854775808) hx hb hown (hts (.constantLong RX9 149 (-9223372036854775808)) (List.mem_cons_of_mem _ (List.mem_append_left _ (List.mem_append_left _ (List.mem_append_left _ (List.mem_append_left _ (List.mem_append_left _ (List.mem_of_getElem? (i := 3) rfl)))))))) dX9_value_39 ?_
      refine lv_iload_n hx hb dX9_value_42 rfl (lv_at hl 0 rfl) ?_
      refine lv_i2l (v := r13.toInt64) hx hb dX9_value_43 rfl ?_
      refine lv_lsub hx hb dX9_value_44 ?_
      refine lv_topl (fun v18 hv18 => ?_)
      replace hf := dc_let_e hv18 hf
      obtain ⟨rfl, rfl⟩ := dc_ret hf
      exact W.lret (v := v18) hx hb hr (fun t9 ht9 hW9 => ⟨⟨rfl, ⟨hm, trivial⟩, by rw [ht9]; exact hW⟩, hS.F ht9⟩) hS.2.2 dX9_value_45
    · replace hf := dc_if_t c17 hf
      refine lh_aload_n hx hb dX9_value_32 rfl (lv_at hl 1 rfl) ?_
      obtain ⟨x19, hx19, hf⟩ := dc_nn_ok hf
      refine lh_get (a := 5) (k := 5) (N := 6) (C := RX5) (T := TX5) (own := RX9) (ref := "LoaderModels$Model") hx hb hts (fun _ h => (List.mem_cons_of_mem _ (List.mem_append_left _ (List.mem_append_left _ (List.mem_append_right _ h))))) hown hK hW hx19 (L7 _ hx19) rfl rfl rfl (by decide) (hts (.fieldLink RX9 145 "LoaderModels$Model" "held" "J") (List.mem_cons_of_mem _ (List.mem_append_left _ (List.mem_append_left _ (List.mem_append_left _ (List.mem_append_left _ (List.mem_append_left _ (List.mem_of_getElem? (i := 2) rfl)))))))) (fun _ h9 => h9) dX9_value_33 (v := .long (gvJ S14 5 x19 5)) rfl ?_
      refine lv_goto (tgt := 45) hx hb dX9_value_36 (by decide) ?_
      obtain ⟨rfl, rfl⟩ := dc_ret hf
      exact W.lret (v := gvJ S14 5 x19 5) hx hb hr (fun t9 ht9 hW9 => ⟨⟨rfl, ⟨hm, trivial⟩, by rw [ht9]; exact hW⟩, hS.F ht9⟩) hS.2.2 dX9_value_45
  · replace hf := dc_if_t c8 hf
    refine lv_ldc2 (v := -9223372036854775806) hx hb hown (hts (.constantLong RX9 143 (-9223372036854775806)) (List.mem_cons_of_mem _ (List.mem_append_left _ (List.mem_append_left _ (List.mem_append_left _ (List.mem_append_left _ (List.mem_append_left _ (List.mem_of_getElem? (i := 1) rfl)))))))) dX9_value_13 ?_
    obtain ⟨rfl, rfl⟩ := dc_ret hf
    exact W.lret (v := (-9223372036854775806 : Int64)) hx hb hr (fun t9 ht9 hW9 => ⟨⟨rfl, ⟨hm, trivial⟩, by rw [ht9]; exact hW⟩, hS.F ht9⟩) hS.2.2 dX9_value_16
def f_X9_make (n : Nat) (S : lh_S) (t : Nat) (p1 : Int32) : Option (Int32 × lh_S) :=
  dc_nn (gvR S 9 t 3) fun x2 =>
  dc_bd (f_X4_classAt n S x2 p1) fun r3 S4 =>
  dc_if (r3 = none) (
  some ((-2 : Int32), S4)) (
  dc_if ((gvI S4 9 t 5) < (60 : Int32)) (
  dc_bd (f_X9_started n S4 t r3) fun r10 S11 =>
  dc_bd (f_X9_answered n S11 t r10) fun r14 S15 =>
  dc_if (r14 = (1 : Int32)) (
  dc_nn (gvR S15 9 t 4) fun x20 =>
  dc_gd ((gvI S15 9 t 5) < 0 ∨ gvL S15 22 x20 ≤ ((gvI S15 9 t 5)).toNatClampNeg) (
  dc_let (pvR S15 22 x20 ((gvI S15 9 t 5)).toNatClampNeg r3) fun S22 =>
  dc_let ((gvI S22 9 t 5) + (1 : Int32)) fun v24 =>
  dc_let (pvI S22 9 t 5 v24) fun S25 =>
  some (gvI S22 9 t 5, S25))) (
  some (r14, S15))) (
  some ((-5 : Int32), S4)))
set_option maxHeartbeats 1000000 in
theorem m_X9_make {n : Nat} {S : lh_S} {t : Nat} {p1 : Int32} {r : Int32} {S' : lh_S} (hf : f_X9_make n S t p1 = some (r, S')) : ∀ b, gvN S b ≤ gvN S' b := by
  have hm : ∀ b, gvN S b ≤ gvN S b := fun _ => Nat.le_refl _
  unfold f_X9_make at hf
  obtain ⟨x2, hx2, hf⟩ := dc_nn_ok hf
  obtain ⟨r3, S4, k5, hf⟩ := dc_bd_ok hf
  have hm := lh_le_trans hm (show ∀ b, gvN S b ≤ gvN S4 b from m_X4_classAt k5)
  by_cases c8 : r3 = none
  · replace hf := dc_if_t c8 hf
    obtain ⟨_, rfl⟩ := dc_ret hf
    exact hm
  · replace hf := dc_if_f c8 hf
    by_cases c9 : (gvI S4 9 t 5) < (60 : Int32)
    · replace hf := dc_if_t c9 hf
      obtain ⟨r10, S11, k12, hf⟩ := dc_bd_ok hf
      have hm := lh_le_trans hm (show ∀ b, gvN S4 b ≤ gvN S11 b from m_X9_started k12)
      obtain ⟨r14, S15, k16, hf⟩ := dc_bd_ok hf
      have hm := lh_le_trans hm (show ∀ b, gvN S11 b ≤ gvN S15 b from m_X9_answered k16)
      by_cases c18 : r14 = (1 : Int32)
      · replace hf := dc_if_t c18 hf
        obtain ⟨x20, hx20, hf⟩ := dc_nn_ok hf
        obtain ⟨g21, hf⟩ := dc_gd_ok hf
        obtain ⟨S22, eS22, hf⟩ := dc_let_ok hf
        have hm := lh_le_trans hm (show ∀ b, gvN S15 b ≤ gvN S22 b from by rw [eS22]; exact lh_mR)
        obtain ⟨v24, hv24, hf⟩ := dc_let_ok hf
        obtain ⟨S25, eS25, hf⟩ := dc_let_ok hf
        have hm := lh_le_trans hm (show ∀ b, gvN S22 b ≤ gvN S25 b from by rw [eS25]; exact lh_mI)
        obtain ⟨_, rfl⟩ := dc_ret hf
        exact hm
      · replace hf := dc_if_f c18 hf
        obtain ⟨_, rfl⟩ := dc_ret hf
        exact hm
    · replace hf := dc_if_f c9 hf
      obtain ⟨_, rfl⟩ := dc_ret hf
      exact hm
set_option maxHeartbeats 1000000 in
theorem k_X9_make {n : Nat} {S : lh_S} {t : Nat} {p1 : Int32} {r : Int32} {S' : lh_S} (hf : f_X9_make n S t p1 = some (r, S')) : lh_sm9 S S' := by
  have hm : lh_sm9 S S := lh_sm9_rf
  unfold f_X9_make at hf
  obtain ⟨x2, hx2, hf⟩ := dc_nn_ok hf
  obtain ⟨r3, S4, k5, hf⟩ := dc_bd_ok hf
  have hm := lh_sm9_trans hm (show lh_sm9 S S4 from k_X4_classAt k5)
  by_cases c8 : r3 = none
  · replace hf := dc_if_t c8 hf
    obtain ⟨_, rfl⟩ := dc_ret hf
    exact hm
  · replace hf := dc_if_f c8 hf
    by_cases c9 : (gvI S4 9 t 5) < (60 : Int32)
    · replace hf := dc_if_t c9 hf
      obtain ⟨r10, S11, k12, hf⟩ := dc_bd_ok hf
      have hm := lh_sm9_trans hm (show lh_sm9 S4 S11 from k_X9_started k12)
      obtain ⟨r14, S15, k16, hf⟩ := dc_bd_ok hf
      have hm := lh_sm9_trans hm (show lh_sm9 S11 S15 from k_X9_answered k16)
      by_cases c18 : r14 = (1 : Int32)
      · replace hf := dc_if_t c18 hf
        obtain ⟨x20, hx20, hf⟩ := dc_nn_ok hf
        obtain ⟨g21, hf⟩ := dc_gd_ok hf
        obtain ⟨S22, eS22, hf⟩ := dc_let_ok hf
        have hm := lh_sm9_trans hm (show lh_sm9 S15 S22 from by rw [eS22]; exact (lh_sm9R (by decide)))
        obtain ⟨v24, hv24, hf⟩ := dc_let_ok hf
        obtain ⟨S25, eS25, hf⟩ := dc_let_ok hf
        have hm := lh_sm9_trans hm (show lh_sm9 S22 S25 from by rw [eS25]; exact (lh_sm9I (by decide)))
        obtain ⟨_, rfl⟩ := dc_ret hf
        exact hm
      · replace hf := dc_if_f c18 hf
        obtain ⟨_, rfl⟩ := dc_ret hf
        exact hm
    · replace hf := dc_if_f c9 hf
      obtain ⟨_, rfl⟩ := dc_ret hf
      exact hm
set_option maxHeartbeats 4000000 in
set_option maxRecDepth 100000 in
theorem c_X9_make (l : Launch) (D : va_G) (cT : Nat → ClassId) (n : Nat) (S : lh_S) (ad : Nat → Nat → Nat) (A : Nat → Prop) (sz : Nat) (hA : ∀ q, sz ≤ q → A q) (t : Nat) (p1 : Int32) (r : Int32) (S' : lh_S) (hf : f_X9_make n S t p1 = some (r, S')) (L_t : ∀ j, some t = some j → j < gvN S 9) : Met l yX9_make wsX9_make ({ frames := 2, cells := 0, slots := 0, locals := 47 } : Room) (lh_P D cT S ad A sz [lh_r ad 9 (some t), .int p1]) (lh_Q D cT S' ad A ((∀ b, gvN S b ≤ gvN S' b) ∧ True) (some (.int r))) 0 0 A := by
  refine Met.ofW (cc := cX9_make) (maxL := 4) (ret := (some .int)) (by decide) rfl ?_
  intro p e s m args below meth c s₁ B hml hv
  obtain ⟨hargs, hsz, hW, hK, hN⟩ := hv
  have hx := B.exec
  have hb := B.bytes
  have hr := B.returns
  have hts := atoms_spec (ws := wsX9_make) B.pre
  have hown : s.vm.findClass RX9 = some m.cls := findClass_of_methodNamed B.named
  have hlocks := B.notSynchronized
  have hA : ∀ q, s.heap.size ≤ q → A q := fun q h => hA q (by rw [← hsz]; exact h)
  have ok := lh_W_ok hW
  have hm : ∀ b, gvN S b ≤ gvN S b := fun _ => Nat.le_refl _
  obtain ⟨ls, hent, hl⟩ := lh_entry m args [lh_r ad 9 (some t), .int p1] 4 [(0, lh_r ad 9 (some t)), (1, .int p1)] hargs (by simp [lv_args, lh_cat_r, lh_cat_i, lh_cat_j]) (by simp [lg_sl, lh_cat_r, lh_cat_i, lh_cat_j])
  rw [hent]
  generalize hH : s.heap = H at hW ⊢
  have hS : va_S A s.heap H [] := by rw [← hH]; exact va_S.rf
  unfold f_X9_make at hf
  refine lh_aload_n hx hb dX9_make_0 rfl (lv_at hl 0 rfl) ?_
  have L1 : ∀ j, gvR S 9 t 3 = some j → j < gvN S 4 := fun j h => ok _ _ _ _ j (L_t _ rfl) rfl h
  refine lh_get (a := 9) (k := 3) (N := 10) (C := RX9) (T := TX9) (own := RX9) (ref := "LoaderModels") hx hb hts (fun _ h => (List.mem_cons_of_mem _ (List.mem_append_left _ (List.mem_append_left _ (List.mem_append_left _ (List.mem_append_right _ h)))))) hown hK hW rfl (L_t _ rfl) rfl rfl rfl (by decide) (hts (.fieldLink RX9 29 "LoaderModels" "loading" "LLoaderModels$Loading;") (List.mem_cons_of_mem _ (List.mem_append_left _ (List.mem_append_left _ (List.mem_append_left _ (List.mem_append_left _ (List.mem_append_left _ (List.mem_of_getElem? (i := 0) rfl)))))))) (fun _ h9 => h9) dX9_make_1 (v := lh_r ad 4 (gvR S 9 t 3)) rfl ?_
  refine lv_iload_n hx hb dX9_make_4 rfl (lv_at hl 1 rfl) ?_
  obtain ⟨x2, hx2, hf⟩ := dc_nn_ok hf
  obtain ⟨r3, S4, k5, hf⟩ := dc_bd_ok hf
  refine lh_call (S' := S4) (lh_rv ⟨hx, hb, hml, hown, hts⟩ hx2 (As := [.int p1]) (rest := []) (k := 4) (c_X4_classAt l D cT n S ad A H.size (fun q9 h9 => hA q9 (Nat.le_trans hS.1 h9)) x2 p1 r3 S4 k5 (lh_ls (L1 _ hx2))) (cwV 1 hts gX9_make_X4_classAt rfl rfl rfl (by decide +kernel) ⟨Nat.le_of_ble_eq_true rfl, Nat.le_of_ble_eq_true rfl⟩) hK hN hW (L1 _ hx2) rfl rfl rfl hl.1 rfl (by simp [lh_cat_r, lh_cat_i, lh_cat_j]) dX9_make_5 ⟨Nat.le_of_ble_eq_true rfl, Nat.le_of_ble_eq_true rfl⟩) hS (fun H locs hX hW hS => ?_)
  refine W.widen (k := 0) (n := 0) (by omega) (by omega) ?_
  show W _ _ _ _ _ _ _ _ _ _ _ _ _ _ _ (F0 m 8 ls [lh_r ad 5 r3])
  have m6 : ∀ b, gvN S b ≤ gvN S4 b := hX.1
  have L_t : ∀ j, some t = some j → j < gvN S4 9 := fun j h => Nat.lt_of_lt_of_le (L_t j h) (m6 _)
  have hm : ∀ b, gvN S b ≤ gvN S4 b := lh_le_trans hm m6
  have ok := lh_W_ok hW
  have L7 := hX.2
  refine lh_astore_n (i := 2) (lv' := [(2, lh_r ad 5 r3), (0, lh_r ad 9 (some t)), (1, .int p1)]) hx hb dX9_make_8 rfl hl (by decide) (by first | rfl | simp [lh_cat_r, lh_cat_i, lh_cat_j]) (fun ls hl => ?_)
  refine lh_aload_n hx hb dX9_make_9 rfl (lv_at hl 0 rfl) ?_
  refine lh_ifnonnull (tgt := 16) hx hb dX9_make_10 (by decide) (fun c8 => ?_) (fun c8 => ?_)
  · replace hf := dc_if_f c8 hf
    refine lh_aload_n hx hb dX9_make_16 rfl (lv_at hl 1 rfl) ?_
    refine lh_get (a := 9) (k := 5) (N := 10) (C := RX9) (T := TX9) (own := RX9) (ref := "LoaderModels") hx hb hts (fun _ h => (List.mem_cons_of_mem _ (List.mem_append_left _ (List.mem_append_left _ (List.mem_append_left _ (List.mem_append_right _ h)))))) hown hK hW rfl (L_t _ rfl) rfl rfl rfl (by decide) (hts (.fieldLink RX9 151 "LoaderModels" "objectCount" "I") (List.mem_cons_of_mem _ (List.mem_append_left _ (List.mem_append_left _ (List.mem_append_left _ (List.mem_append_left _ (List.mem_append_left _ (List.mem_of_getElem? (i := 1) rfl)))))))) (fun _ h9 => h9) dX9_make_17 (v := .int (gvI S4 9 t 5)) rfl ?_
    refine lv_bipush (v := 60) hx hb dX9_make_20 (by decide) ?_
    refine lv_icmp_lt (tgt := 28) hx hb dX9_make_22 (by decide) (fun c9 => ?_) (fun c9 => ?_)
    · replace hf := dc_if_t c9 hf
      refine lh_aload_n hx hb dX9_make_28 rfl (lv_at hl 1 rfl) ?_
      refine lh_aload_n hx hb dX9_make_29 rfl (lv_at hl 1 rfl) ?_
      refine lh_aload_n hx hb dX9_make_30 rfl (lv_at hl 0 rfl) ?_
      obtain ⟨r10, S11, k12, hf⟩ := dc_bd_ok hf
      refine lh_call (S' := S11) (lh_rv ⟨hx, hb, hml, hown, hts⟩ rfl (As := [lh_r ad 5 r3]) (rest := [lh_r ad 9 (some t)]) (k := 9) (c_X9_started l D cT n S4 ad A H.size (fun q9 h9 => hA q9 (Nat.le_trans hS.1 h9)) t r3 r10 S11 k12 L_t L7) (cwV 1 hts gX9_make_X9_started rfl rfl rfl (by decide +kernel) ⟨Nat.le_of_ble_eq_true rfl, Nat.le_of_ble_eq_true rfl⟩) hK hN hW (L_t _ rfl) rfl rfl rfl hl.1 rfl (by simp [lh_cat_r, lh_cat_i, lh_cat_j]) dX9_make_31 ⟨Nat.le_of_ble_eq_true rfl, Nat.le_of_ble_eq_true rfl⟩) hS (fun H locs hX hW hS => ?_)
      refine W.widen (k := 0) (n := 0) (by omega) (by omega) ?_
      show W _ _ _ _ _ _ _ _ _ _ _ _ _ _ _ (F0 m 34 ls [.int r10, lh_r ad 9 (some t)])
      have m13 : ∀ b, gvN S4 b ≤ gvN S11 b := hX.1
      have L7 : ∀ j, r3 = some j → j < gvN S11 5 := fun j h => Nat.lt_of_lt_of_le (L7 j h) (m13 _)
      have L_t : ∀ j, some t = some j → j < gvN S11 9 := fun j h => Nat.lt_of_lt_of_le (L_t j h) (m13 _)
      have hm : ∀ b, gvN S b ≤ gvN S11 b := lh_le_trans hm m13
      have ok := lh_W_ok hW
      obtain ⟨r14, S15, k16, hf⟩ := dc_bd_ok hf
      refine lh_call (S' := S15) (lh_rv ⟨hx, hb, hml, hown, hts⟩ rfl (As := [.int r10]) (rest := []) (k := 9) (c_X9_answered l D cT n S11 ad A H.size (fun q9 h9 => hA q9 (Nat.le_trans hS.1 h9)) t r10 r14 S15 k16 L_t) (cwV 1 hts gX9_make_X9_answered rfl rfl rfl (by decide +kernel) ⟨Nat.le_of_ble_eq_true rfl, Nat.le_of_ble_eq_true rfl⟩) hK hN hW (L_t _ rfl) rfl rfl rfl hl.1 rfl (by simp [lh_cat_r, lh_cat_i, lh_cat_j]) dX9_make_34 ⟨Nat.le_of_ble_eq_true rfl, Nat.le_of_ble_eq_true rfl⟩) hS (fun H locs hX hW hS => ?_)
      refine W.widen (k := 0) (n := 0) (by omega) (by omega) ?_
      show W _ _ _ _ _ _ _ _ _ _ _ _ _ _ _ (F0 m 37 ls [.int r14])
      have m17 : ∀ b, gvN S11 b ≤ gvN S15 b := hX.1
      have L7 : ∀ j, r3 = some j → j < gvN S15 5 := fun j h => Nat.lt_of_lt_of_le (L7 j h) (m17 _)
      have L_t : ∀ j, some t = some j → j < gvN S15 9 := fun j h => Nat.lt_of_lt_of_le (L_t j h) (m17 _)
      have hm : ∀ b, gvN S b ≤ gvN S15 b := lh_le_trans hm m17
      have ok := lh_W_ok hW
      refine lv_istore_n (i := 3) (lv' := [(3, .int r14), (2, lh_r ad 5 r3), (0, lh_r ad 9 (some t)), (1, .int p1)]) hx hb dX9_make_37 rfl hl (by decide) (by first | rfl | simp [lh_cat_r, lh_cat_i, lh_cat_j]) (fun ls hl => ?_)
      refine lv_iload_n hx hb dX9_make_38 rfl (lv_at hl 0 rfl) ?_
      refine lv_iconst (v := 1) hx hb dX9_make_39 (by decide) ?_
      refine lv_icmp_eq (tgt := 45) hx hb dX9_make_40 (by decide) (fun c18 => ?_) (fun c18 => ?_)
      · replace hf := dc_if_t c18 hf
        refine lh_aload_n hx hb dX9_make_45 rfl (lv_at hl 2 rfl) ?_
        have L19 : ∀ j, gvR S15 9 t 4 = some j → j < gvN S15 22 := fun j h => ok _ _ _ _ j (L_t _ rfl) rfl h
        refine lh_get (a := 9) (k := 4) (N := 10) (C := RX9) (T := TX9) (own := RX9) (ref := "LoaderModels") hx hb hts (fun _ h => (List.mem_cons_of_mem _ (List.mem_append_left _ (List.mem_append_left _ (List.mem_append_left _ (List.mem_append_right _ h)))))) hown hK hW rfl (L_t _ rfl) rfl rfl rfl (by decide) (hts (.fieldLink RX9 35 "LoaderModels" "objects" "[LLoaderModels$Model;") (List.mem_cons_of_mem _ (List.mem_append_left _ (List.mem_append_left _ (List.mem_append_left _ (List.mem_append_left _ (List.mem_append_left _ (List.mem_of_getElem? (i := 2) rfl)))))))) (fun _ h9 => h9) dX9_make_46 (v := lh_r ad 22 (gvR S15 9 t 4)) rfl ?_
        refine lh_aload_n hx hb dX9_make_49 rfl (lv_at hl 2 rfl) ?_
        refine lh_get (a := 9) (k := 5) (N := 10) (C := RX9) (T := TX9) (own := RX9) (ref := "LoaderModels") hx hb hts (fun _ h => (List.mem_cons_of_mem _ (List.mem_append_left _ (List.mem_append_left _ (List.mem_append_left _ (List.mem_append_right _ h)))))) hown hK hW rfl (L_t _ rfl) rfl rfl rfl (by decide) (hts (.fieldLink RX9 151 "LoaderModels" "objectCount" "I") (List.mem_cons_of_mem _ (List.mem_append_left _ (List.mem_append_left _ (List.mem_append_left _ (List.mem_append_left _ (List.mem_append_left _ (List.mem_of_getElem? (i := 1) rfl)))))))) (fun _ h9 => h9) dX9_make_50 (v := .int (gvI S15 9 t 5)) rfl ?_
        refine lh_aload_n hx hb dX9_make_53 rfl (lv_at hl 1 rfl) ?_
        obtain ⟨x20, hx20, hf⟩ := dc_nn_ok hf
        obtain ⟨g21, hf⟩ := dc_gd_ok hf
        obtain ⟨S22, eS22, hf⟩ := dc_let_ok hf
        refine lh_ast_r (a := 22) (t0 := 6) (t := 5) hx hb hK hW hS hx20 (L19 _ hx20) rfl rfl (fun _ => rfl) rfl rfl L7 g21 dX9_make_54 (fun H locs hW hS => ?_)
        rw [← eS22] at hW
        have m23 : ∀ b, gvN S15 b ≤ gvN S22 b := by rw [eS22]; exact lh_mR
        have L7 : ∀ j, r3 = some j → j < gvN S22 5 := fun j h => Nat.lt_of_lt_of_le (L7 j h) (m23 _)
        have L_t : ∀ j, some t = some j → j < gvN S22 9 := fun j h => Nat.lt_of_lt_of_le (L_t j h) (m23 _)
        have hm : ∀ b, gvN S b ≤ gvN S22 b := lh_le_trans hm m23
        have ok := lh_W_ok hW
        refine lh_aload_n hx hb dX9_make_55 rfl (lv_at hl 2 rfl) ?_
        refine lv_dup hx hb dX9_make_56 lh_cat_r ?_
        refine lh_get (a := 9) (k := 5) (N := 10) (C := RX9) (T := TX9) (own := RX9) (ref := "LoaderModels") hx hb hts (fun _ h => (List.mem_cons_of_mem _ (List.mem_append_left _ (List.mem_append_left _ (List.mem_append_left _ (List.mem_append_right _ h)))))) hown hK hW rfl (L_t _ rfl) rfl rfl rfl (by decide) (hts (.fieldLink RX9 151 "LoaderModels" "objectCount" "I") (List.mem_cons_of_mem _ (List.mem_append_left _ (List.mem_append_left _ (List.mem_append_left _ (List.mem_append_left _ (List.mem_append_left _ (List.mem_of_getElem? (i := 1) rfl)))))))) (fun _ h9 => h9) dX9_make_57 (v := .int (gvI S22 9 t 5)) rfl ?_
        refine lv_dup_x1 hx hb dX9_make_60 rfl lh_cat_r ?_
        refine lv_iconst (v := 1) hx hb dX9_make_61 (by decide) ?_
        refine lv_iadd hx hb dX9_make_62 ?_
        refine lv_topi (fun v24 hv24 => ?_)
        replace hf := dc_let_e hv24 hf
        obtain ⟨S25, eS25, hf⟩ := dc_let_ok hf
        refine lh_put (S' := S25) (a := 9) (k := 5) (N := 10) (C := RX9) (T := TX9) (own := RX9) (ref := "LoaderModels") (ty := .int) hx hb hts (fun _ h => (List.mem_cons_of_mem _ (List.mem_append_left _ (List.mem_append_left _ (List.mem_append_left _ (List.mem_append_right _ h)))))) tyX9 tyX9_ok nmX9 hown hK hW hS rfl (L_t _ rfl) rfl rfl rfl (by decide) (hts (.fieldLink RX9 151 "LoaderModels" "objectCount" "I") (List.mem_cons_of_mem _ (List.mem_append_left _ (List.mem_append_left _ (List.mem_append_left _ (List.mem_append_left _ (List.mem_append_left _ (List.mem_of_getElem? (i := 1) rfl)))))))) (fun _ h9 => h9) (Or.inl rfl) (by decide +kernel) rfl rfl (fun q9 => by rw [eS25]; exact lh_chI rfl q9) dX9_make_63 (fun H locs hW hS => ?_)
        have m26 : ∀ b, gvN S22 b ≤ gvN S25 b := by rw [eS25]; exact lh_mI
        have L7 : ∀ j, r3 = some j → j < gvN S25 5 := fun j h => Nat.lt_of_lt_of_le (L7 j h) (m26 _)
        have L_t : ∀ j, some t = some j → j < gvN S25 9 := fun j h => Nat.lt_of_lt_of_le (L_t j h) (m26 _)
        have hm : ∀ b, gvN S b ≤ gvN S25 b := lh_le_trans hm m26
        have ok := lh_W_ok hW
        obtain ⟨rfl, rfl⟩ := dc_ret hf
        exact W.iret (v := gvI S22 9 t 5) hx hb hr (fun t9 ht9 hW9 => ⟨⟨rfl, ⟨hm, trivial⟩, by rw [ht9]; exact hW⟩, hS.F ht9⟩) hS.2.2 dX9_make_66
      · replace hf := dc_if_f c18 hf
        refine lv_iload_n hx hb dX9_make_43 rfl (lv_at hl 0 rfl) ?_
        obtain ⟨rfl, rfl⟩ := dc_ret hf
        exact W.iret (v := r14) hx hb hr (fun t9 ht9 hW9 => ⟨⟨rfl, ⟨hm, trivial⟩, by rw [ht9]; exact hW⟩, hS.F ht9⟩) hS.2.2 dX9_make_44
    · replace hf := dc_if_f c9 hf
      refine lv_bipush (v := -5) hx hb dX9_make_25 (by decide) ?_
      obtain ⟨rfl, rfl⟩ := dc_ret hf
      exact W.iret (v := (-5 : Int32)) hx hb hr (fun t9 ht9 hW9 => ⟨⟨rfl, ⟨hm, trivial⟩, by rw [ht9]; exact hW⟩, hS.F ht9⟩) hS.2.2 dX9_make_27
  · replace hf := dc_if_t c8 hf
    refine lv_bipush (v := -2) hx hb dX9_make_13 (by decide) ?_
    obtain ⟨rfl, rfl⟩ := dc_ret hf
    exact W.iret (v := (-2 : Int32)) hx hb hr (fun t9 ht9 hW9 => ⟨⟨rfl, ⟨hm, trivial⟩, by rw [ht9]; exact hW⟩, hS.F ht9⟩) hS.2.2 dX9_make_15
def f_X9_cast (n : Nat) (S : lh_S) (t : Nat) (p1 : Int32) (p2 : Int32) : Option (Int32 × lh_S) :=
  dc_bd (f_X9_classOfObject n S t p1) fun r1 S2 =>
  dc_nn (gvR S2 9 t 3) fun x7 =>
  dc_bd (f_X4_classAt n S2 x7 p2) fun r8 S9 =>
  dc_if (r1 = none) (
  some ((-2 : Int32), S9)) (
  dc_if (r8 = none) (
  some ((-2 : Int32), S9)) (
  dc_nn r1 fun x15 =>
  dc_bd (f_X5_isOf n S9 x15 r8) fun r16 S17 =>
  dc_if (r16 = 0) (
  dc_bd (f_X9_failed n S17 (5 : Int32)) fun r22 S23 =>
  dc_bd (f_X9_answered n S23 t r22) fun r26 S27 =>
  some (r26, S27)) (
  some ((1 : Int32), S17))))
set_option maxHeartbeats 1000000 in
theorem m_X9_cast {n : Nat} {S : lh_S} {t : Nat} {p1 : Int32} {p2 : Int32} {r : Int32} {S' : lh_S} (hf : f_X9_cast n S t p1 p2 = some (r, S')) : ∀ b, gvN S b ≤ gvN S' b := by
  have hm : ∀ b, gvN S b ≤ gvN S b := fun _ => Nat.le_refl _
  unfold f_X9_cast at hf
  obtain ⟨r1, S2, k3, hf⟩ := dc_bd_ok hf
  have hm := lh_le_trans hm (show ∀ b, gvN S b ≤ gvN S2 b from m_X9_classOfObject k3)
  obtain ⟨x7, hx7, hf⟩ := dc_nn_ok hf
  obtain ⟨r8, S9, k10, hf⟩ := dc_bd_ok hf
  have hm := lh_le_trans hm (show ∀ b, gvN S2 b ≤ gvN S9 b from m_X4_classAt k10)
  by_cases c13 : r1 = none
  · replace hf := dc_if_t c13 hf
    obtain ⟨_, rfl⟩ := dc_ret hf
    exact hm
  · replace hf := dc_if_f c13 hf
    by_cases c14 : r8 = none
    · replace hf := dc_if_t c14 hf
      obtain ⟨_, rfl⟩ := dc_ret hf
      exact hm
    · replace hf := dc_if_f c14 hf
      obtain ⟨x15, hx15, hf⟩ := dc_nn_ok hf
      obtain ⟨r16, S17, k18, hf⟩ := dc_bd_ok hf
      have hm := lh_le_trans hm (show ∀ b, gvN S9 b ≤ gvN S17 b from m_X5_isOf k18)
      by_cases c21 : r16 = 0
      · replace hf := dc_if_t c21 hf
        obtain ⟨r22, S23, k24, hf⟩ := dc_bd_ok hf
        have hm := lh_le_trans hm (show ∀ b, gvN S17 b ≤ gvN S23 b from m_X9_failed k24)
        obtain ⟨r26, S27, k28, hf⟩ := dc_bd_ok hf
        have hm := lh_le_trans hm (show ∀ b, gvN S23 b ≤ gvN S27 b from m_X9_answered k28)
        obtain ⟨_, rfl⟩ := dc_ret hf
        exact hm
      · replace hf := dc_if_f c21 hf
        obtain ⟨_, rfl⟩ := dc_ret hf
        exact hm
set_option maxHeartbeats 1000000 in
theorem k_X9_cast {n : Nat} {S : lh_S} {t : Nat} {p1 : Int32} {p2 : Int32} {r : Int32} {S' : lh_S} (hf : f_X9_cast n S t p1 p2 = some (r, S')) : lh_sm9 S S' := by
  have hm : lh_sm9 S S := lh_sm9_rf
  unfold f_X9_cast at hf
  obtain ⟨r1, S2, k3, hf⟩ := dc_bd_ok hf
  have hm := lh_sm9_trans hm (show lh_sm9 S S2 from k_X9_classOfObject k3)
  obtain ⟨x7, hx7, hf⟩ := dc_nn_ok hf
  obtain ⟨r8, S9, k10, hf⟩ := dc_bd_ok hf
  have hm := lh_sm9_trans hm (show lh_sm9 S2 S9 from k_X4_classAt k10)
  by_cases c13 : r1 = none
  · replace hf := dc_if_t c13 hf
    obtain ⟨_, rfl⟩ := dc_ret hf
    exact hm
  · replace hf := dc_if_f c13 hf
    by_cases c14 : r8 = none
    · replace hf := dc_if_t c14 hf
      obtain ⟨_, rfl⟩ := dc_ret hf
      exact hm
    · replace hf := dc_if_f c14 hf
      obtain ⟨x15, hx15, hf⟩ := dc_nn_ok hf
      obtain ⟨r16, S17, k18, hf⟩ := dc_bd_ok hf
      have hm := lh_sm9_trans hm (show lh_sm9 S9 S17 from k_X5_isOf k18)
      by_cases c21 : r16 = 0
      · replace hf := dc_if_t c21 hf
        obtain ⟨r22, S23, k24, hf⟩ := dc_bd_ok hf
        have hm := lh_sm9_trans hm (show lh_sm9 S17 S23 from k_X9_failed k24)
        obtain ⟨r26, S27, k28, hf⟩ := dc_bd_ok hf
        have hm := lh_sm9_trans hm (show lh_sm9 S23 S27 from k_X9_answered k28)
        obtain ⟨_, rfl⟩ := dc_ret hf
        exact hm
      · replace hf := dc_if_f c21 hf
        obtain ⟨_, rfl⟩ := dc_ret hf
        exact hm
set_option maxHeartbeats 4000000 in
set_option maxRecDepth 100000 in
theorem c_X9_cast (l : Launch) (D : va_G) (cT : Nat → ClassId) (n : Nat) (S : lh_S) (ad : Nat → Nat → Nat) (A : Nat → Prop) (sz : Nat) (hA : ∀ q, sz ≤ q → A q) (t : Nat) (p1 : Int32) (p2 : Int32) (r : Int32) (S' : lh_S) (hf : f_X9_cast n S t p1 p2 = some (r, S')) (L_t : ∀ j, some t = some j → j < gvN S 9) : Met l yX9_cast wsX9_cast ({ frames := 1, cells := 0, slots := 0, locals := 22 } : Room) (lh_P D cT S ad A sz [lh_r ad 9 (some t), .int p1, .int p2]) (lh_Q D cT S' ad A ((∀ b, gvN S b ≤ gvN S' b) ∧ True) (some (.int r))) 0 0 A := by
  refine Met.ofW (cc := cX9_cast) (maxL := 5) (ret := (some .int)) (by decide) rfl ?_
  intro p e s m args below meth c s₁ B hml hv
  obtain ⟨hargs, hsz, hW, hK, hN⟩ := hv
  have hx := B.exec
  have hb := B.bytes
  have hr := B.returns
  have hts := atoms_spec (ws := wsX9_cast) B.pre
  have hown : s.vm.findClass RX9 = some m.cls := findClass_of_methodNamed B.named
  have hlocks := B.notSynchronized
  have hA : ∀ q, s.heap.size ≤ q → A q := fun q h => hA q (by rw [← hsz]; exact h)
  have ok := lh_W_ok hW
  have hm : ∀ b, gvN S b ≤ gvN S b := fun _ => Nat.le_refl _
  obtain ⟨ls, hent, hl⟩ := lh_entry m args [lh_r ad 9 (some t), .int p1, .int p2] 5 [(0, lh_r ad 9 (some t)), (1, .int p1), (2, .int p2)] hargs (by simp [lv_args, lh_cat_r, lh_cat_i, lh_cat_j]) (by simp [lg_sl, lh_cat_r, lh_cat_i, lh_cat_j])
  rw [hent]
  generalize hH : s.heap = H at hW ⊢
  have hS : va_S A s.heap H [] := by rw [← hH]; exact va_S.rf
  unfold f_X9_cast at hf
  refine lh_aload_n hx hb dX9_cast_0 rfl (lv_at hl 0 rfl) ?_
  refine lv_iload_n hx hb dX9_cast_1 rfl (lv_at hl 1 rfl) ?_
  obtain ⟨r1, S2, k3, hf⟩ := dc_bd_ok hf
  refine lh_call (S' := S2) (lh_rv ⟨hx, hb, hml, hown, hts⟩ rfl (As := [.int p1]) (rest := []) (k := 9) (c_X9_classOfObject l D cT n S ad A H.size (fun q9 h9 => hA q9 (Nat.le_trans hS.1 h9)) t p1 r1 S2 k3 L_t) (cwV 1 hts gX9_cast_X9_classOfObject rfl rfl rfl (by decide +kernel) ⟨Nat.le_of_ble_eq_true rfl, Nat.le_of_ble_eq_true rfl⟩) hK hN hW (L_t _ rfl) rfl rfl rfl hl.1 rfl (by simp [lh_cat_r, lh_cat_i, lh_cat_j]) dX9_cast_2 ⟨Nat.le_of_ble_eq_true rfl, Nat.le_of_ble_eq_true rfl⟩) hS (fun H locs hX hW hS => ?_)
  refine W.widen (k := 0) (n := 0) (by omega) (by omega) ?_
  show W _ _ _ _ _ _ _ _ _ _ _ _ _ _ _ (F0 m 5 ls [lh_r ad 5 r1])
  have m4 : ∀ b, gvN S b ≤ gvN S2 b := hX.1
  have L_t : ∀ j, some t = some j → j < gvN S2 9 := fun j h => Nat.lt_of_lt_of_le (L_t j h) (m4 _)
  have hm : ∀ b, gvN S b ≤ gvN S2 b := lh_le_trans hm m4
  have ok := lh_W_ok hW
  have L5 := hX.2
  refine lh_astore_n (i := 3) (lv' := [(3, lh_r ad 5 r1), (0, lh_r ad 9 (some t)), (1, .int p1), (2, .int p2)]) hx hb dX9_cast_5 rfl hl (by decide) (by first | rfl | simp [lh_cat_r, lh_cat_i, lh_cat_j]) (fun ls hl => ?_)
  refine lh_aload_n hx hb dX9_cast_6 rfl (lv_at hl 1 rfl) ?_
  have L6 : ∀ j, gvR S2 9 t 3 = some j → j < gvN S2 4 := fun j h => ok _ _ _ _ j (L_t _ rfl) rfl h
  refine lh_get (a := 9) (k := 3) (N := 10) (C := RX9) (T := TX9) (own := RX9) (ref := "LoaderModels") hx hb hts (fun _ h => (List.mem_cons_of_mem _ (List.mem_append_left _ (List.mem_append_left _ (List.mem_append_right _ h))))) hown hK hW rfl (L_t _ rfl) rfl rfl rfl (by decide) (hts (.fieldLink RX9 29 "LoaderModels" "loading" "LLoaderModels$Loading;") (List.mem_cons_of_mem _ (List.mem_append_left _ (List.mem_append_left _ (List.mem_append_left _ (List.mem_append_left _ (List.mem_of_getElem? (i := 0) rfl))))))) (fun _ h9 => h9) dX9_cast_7 (v := lh_r ad 4 (gvR S2 9 t 3)) rfl ?_
  refine lv_iload_n hx hb dX9_cast_10 rfl (lv_at hl 3 rfl) ?_
  obtain ⟨x7, hx7, hf⟩ := dc_nn_ok hf
  obtain ⟨r8, S9, k10, hf⟩ := dc_bd_ok hf
  refine lh_call (S' := S9) (lh_rv ⟨hx, hb, hml, hown, hts⟩ hx7 (As := [.int p2]) (rest := []) (k := 4) (c_X4_classAt l D cT n S2 ad A H.size (fun q9 h9 => hA q9 (Nat.le_trans hS.1 h9)) x7 p2 r8 S9 k10 (lh_ls (L6 _ hx7))) (cwV 1 hts gX9_cast_X4_classAt rfl rfl rfl (by decide +kernel) ⟨Nat.le_of_ble_eq_true rfl, Nat.le_of_ble_eq_true rfl⟩) hK hN hW (L6 _ hx7) rfl rfl rfl hl.1 rfl (by simp [lh_cat_r, lh_cat_i, lh_cat_j]) dX9_cast_11 ⟨Nat.le_of_ble_eq_true rfl, Nat.le_of_ble_eq_true rfl⟩) hS (fun H locs hX hW hS => ?_)
  refine W.widen (k := 0) (n := 0) (by omega) (by omega) ?_
  show W _ _ _ _ _ _ _ _ _ _ _ _ _ _ _ (F0 m 14 ls [lh_r ad 5 r8])
  have m11 : ∀ b, gvN S2 b ≤ gvN S9 b := hX.1
  have L5 : ∀ j, r1 = some j → j < gvN S9 5 := fun j h => Nat.lt_of_lt_of_le (L5 j h) (m11 _)
  have L_t : ∀ j, some t = some j → j < gvN S9 9 := fun j h => Nat.lt_of_lt_of_le (L_t j h) (m11 _)
  have hm : ∀ b, gvN S b ≤ gvN S9 b := lh_le_trans hm m11
  have ok := lh_W_ok hW
  have L12 := hX.2
  refine lh_astore (i := 4) (lv' := [(4, lh_r ad 5 r8), (3, lh_r ad 5 r1), (0, lh_r ad 9 (some t)), (1, .int p1), (2, .int p2)]) hx hb dX9_cast_14 hl (by decide) (by first | rfl | simp [lh_cat_r, lh_cat_i, lh_cat_j]) (fun ls hl => ?_)
  refine lh_aload_n hx hb dX9_cast_16 rfl (lv_at hl 1 rfl) ?_
  refine lh_ifnull (tgt := 25) hx hb dX9_cast_17 (by decide) (fun c13 => ?_) (fun c13 => ?_)
  · replace hf := dc_if_t c13 hf
    refine lv_bipush (v := -2) hx hb dX9_cast_25 (by decide) ?_
    obtain ⟨rfl, rfl⟩ := dc_ret hf
    exact W.iret (v := (-2 : Int32)) hx hb hr (fun t9 ht9 hW9 => ⟨⟨rfl, ⟨hm, trivial⟩, by rw [ht9]; exact hW⟩, hS.F ht9⟩) hS.2.2 dX9_cast_27
  · replace hf := dc_if_f c13 hf
    refine lh_aload hx hb dX9_cast_20 (lv_at hl 0 rfl) ?_
    refine lh_ifnonnull (tgt := 28) hx hb dX9_cast_22 (by decide) (fun c14 => ?_) (fun c14 => ?_)
    · replace hf := dc_if_f c14 hf
      refine lh_aload_n hx hb dX9_cast_28 rfl (lv_at hl 1 rfl) ?_
      refine lh_aload hx hb dX9_cast_29 (lv_at hl 0 rfl) ?_
      obtain ⟨x15, hx15, hf⟩ := dc_nn_ok hf
      obtain ⟨r16, S17, k18, hf⟩ := dc_bd_ok hf
      refine lh_call (S' := S17) (lh_rv ⟨hx, hb, hml, hown, hts⟩ hx15 (As := [lh_r ad 5 r8]) (rest := []) (k := 5) (c_X5_isOf l D cT n S9 ad A H.size (fun q9 h9 => hA q9 (Nat.le_trans hS.1 h9)) x15 r8 r16 S17 k18 (lh_ls (L5 _ hx15)) L12) (cwV 1 hts gX9_cast_X5_isOf rfl rfl rfl (by decide +kernel) ⟨Nat.le_of_ble_eq_true rfl, Nat.le_of_ble_eq_true rfl⟩) hK hN hW (L5 _ hx15) rfl rfl rfl hl.1 rfl (by simp [lh_cat_r, lh_cat_i, lh_cat_j]) dX9_cast_31 ⟨Nat.le_of_ble_eq_true rfl, Nat.le_of_ble_eq_true rfl⟩) hS (fun H locs hX hW hS => ?_)
      refine W.widen (k := 0) (n := 0) (by omega) (by omega) ?_
      show W _ _ _ _ _ _ _ _ _ _ _ _ _ _ _ (F0 m 34 ls [.int r16])
      have m19 : ∀ b, gvN S9 b ≤ gvN S17 b := hX.1
      have L12 : ∀ j, r8 = some j → j < gvN S17 5 := fun j h => Nat.lt_of_lt_of_le (L12 j h) (m19 _)
      have L5 : ∀ j, r1 = some j → j < gvN S17 5 := fun j h => Nat.lt_of_lt_of_le (L5 j h) (m19 _)
      have L_t : ∀ j, some t = some j → j < gvN S17 9 := fun j h => Nat.lt_of_lt_of_le (L_t j h) (m19 _)
      have hm : ∀ b, gvN S b ≤ gvN S17 b := lh_le_trans hm m19
      have ok := lh_W_ok hW
      have z20 := hX.2
      refine lv_if_eq (tgt := 41) hx hb dX9_cast_34 (by decide) (fun c21 => ?_) (fun c21 => ?_)
      · replace hf := dc_if_t c21 hf
        refine lh_aload_n hx hb dX9_cast_41 rfl (lv_at hl 2 rfl) ?_
        refine lv_iconst (v := 5) hx hb dX9_cast_42 (by decide) ?_
        obtain ⟨r22, S23, k24, hf⟩ := dc_bd_ok hf
        refine lh_call (S' := S23) (lh_rs ⟨hx, hb, hml, hown, hts⟩ (As := [.int (5 : Int32)]) (rest := [lh_r ad 9 (some t)]) (c_X9_failed l D cT n S17 ad A H.size (fun q9 h9 => hA q9 (Nat.le_trans hS.1 h9)) (5 : Int32) r22 S23 k24 ) (va_cwS 1 hts gX9_cast_X9_failed rfl rfl rfl (by decide +kernel) ⟨Nat.le_of_ble_eq_true rfl, Nat.le_of_ble_eq_true rfl⟩) hK hN hW rfl hl.1 rfl (by simp [lh_cat_r, lh_cat_i, lh_cat_j]) dX9_cast_43 ⟨Nat.le_of_ble_eq_true rfl, Nat.le_of_ble_eq_true rfl⟩) hS (fun H locs hX hW hS => ?_)
        refine W.widen (k := 0) (n := 0) (by omega) (by omega) ?_
        show W _ _ _ _ _ _ _ _ _ _ _ _ _ _ _ (F0 m 46 ls [.int r22, lh_r ad 9 (some t)])
        have m25 : ∀ b, gvN S17 b ≤ gvN S23 b := hX.1
        have L12 : ∀ j, r8 = some j → j < gvN S23 5 := fun j h => Nat.lt_of_lt_of_le (L12 j h) (m25 _)
        have L5 : ∀ j, r1 = some j → j < gvN S23 5 := fun j h => Nat.lt_of_lt_of_le (L5 j h) (m25 _)
        have L_t : ∀ j, some t = some j → j < gvN S23 9 := fun j h => Nat.lt_of_lt_of_le (L_t j h) (m25 _)
        have hm : ∀ b, gvN S b ≤ gvN S23 b := lh_le_trans hm m25
        have ok := lh_W_ok hW
        obtain ⟨r26, S27, k28, hf⟩ := dc_bd_ok hf
        refine lh_call (S' := S27) (lh_rv ⟨hx, hb, hml, hown, hts⟩ rfl (As := [.int r22]) (rest := []) (k := 9) (c_X9_answered l D cT n S23 ad A H.size (fun q9 h9 => hA q9 (Nat.le_trans hS.1 h9)) t r22 r26 S27 k28 L_t) (cwV 1 hts gX9_cast_X9_answered rfl rfl rfl (by decide +kernel) ⟨Nat.le_of_ble_eq_true rfl, Nat.le_of_ble_eq_true rfl⟩) hK hN hW (L_t _ rfl) rfl rfl rfl hl.1 rfl (by simp [lh_cat_r, lh_cat_i, lh_cat_j]) dX9_cast_46 ⟨Nat.le_of_ble_eq_true rfl, Nat.le_of_ble_eq_true rfl⟩) hS (fun H locs hX hW hS => ?_)
        refine W.widen (k := 0) (n := 0) (by omega) (by omega) ?_
        show W _ _ _ _ _ _ _ _ _ _ _ _ _ _ _ (F0 m 49 ls [.int r26])
        have m29 : ∀ b, gvN S23 b ≤ gvN S27 b := hX.1
        have L12 : ∀ j, r8 = some j → j < gvN S27 5 := fun j h => Nat.lt_of_lt_of_le (L12 j h) (m29 _)
        have L5 : ∀ j, r1 = some j → j < gvN S27 5 := fun j h => Nat.lt_of_lt_of_le (L5 j h) (m29 _)
        have L_t : ∀ j, some t = some j → j < gvN S27 9 := fun j h => Nat.lt_of_lt_of_le (L_t j h) (m29 _)
        have hm : ∀ b, gvN S b ≤ gvN S27 b := lh_le_trans hm m29
        have ok := lh_W_ok hW
        obtain ⟨rfl, rfl⟩ := dc_ret hf
        exact W.iret (v := r26) hx hb hr (fun t9 ht9 hW9 => ⟨⟨rfl, ⟨hm, trivial⟩, by rw [ht9]; exact hW⟩, hS.F ht9⟩) hS.2.2 dX9_cast_49
      · replace hf := dc_if_f c21 hf
        refine lv_iconst (v := 1) hx hb dX9_cast_37 (by decide) ?_
        refine lv_goto (tgt := 49) hx hb dX9_cast_38 (by decide) ?_
        obtain ⟨rfl, rfl⟩ := dc_ret hf
        exact W.iret (v := (1 : Int32)) hx hb hr (fun t9 ht9 hW9 => ⟨⟨rfl, ⟨hm, trivial⟩, by rw [ht9]; exact hW⟩, hS.F ht9⟩) hS.2.2 dX9_cast_49
    · replace hf := dc_if_t c14 hf
      refine lv_bipush (v := -2) hx hb dX9_cast_25 (by decide) ?_
      obtain ⟨rfl, rfl⟩ := dc_ret hf
      exact W.iret (v := (-2 : Int32)) hx hb hr (fun t9 ht9 hW9 => ⟨⟨rfl, ⟨hm, trivial⟩, by rw [ht9]; exact hW⟩, hS.F ht9⟩) hS.2.2 dX9_cast_27
def f_X9_row (n : Nat) (S : lh_S) (t : Nat) (p1 : Int32) (p2 : Int32) : Option (Int32 × lh_S) :=
  dc_nn (gvR S 9 t 3) fun x2 =>
  dc_bd (f_X4_classAt n S x2 p1) fun r3 S4 =>
  dc_if (r3 = none) (
  some ((-2 : Int32), S4)) (
  dc_if (p2 < 0) (
  some ((-3 : Int32), S4)) (
  dc_if (p2 ≤ (8 : Int32)) (
  dc_if ((gvI S4 9 t 7) < (20 : Int32)) (
  dc_let (pvN S4 7 0) fun S13 =>
  dc_bd (f_X7_init n S13 (gvN S4 7) r3 p2) fun r19 S20 =>
  dc_nn (gvR S4 9 t 6) fun x25 =>
  dc_gd ((gvI S4 9 t 7) < 0 ∨ gvL S20 23 x25 ≤ ((gvI S4 9 t 7)).toNatClampNeg) (
  dc_let (pvR S20 23 x25 ((gvI S4 9 t 7)).toNatClampNeg (some (gvN S4 7))) fun S27 =>
  dc_let ((gvI S27 9 t 7) + (1 : Int32)) fun v29 =>
  dc_let (pvI S27 9 t 7 v29) fun S30 =>
  some (gvI S27 9 t 7, S30))) (
  some ((-5 : Int32), S4))) (
  some ((-3 : Int32), S4))))
set_option maxHeartbeats 1000000 in
theorem m_X9_row {n : Nat} {S : lh_S} {t : Nat} {p1 : Int32} {p2 : Int32} {r : Int32} {S' : lh_S} (hf : f_X9_row n S t p1 p2 = some (r, S')) : ∀ b, gvN S b ≤ gvN S' b := by
  have hm : ∀ b, gvN S b ≤ gvN S b := fun _ => Nat.le_refl _
  unfold f_X9_row at hf
  obtain ⟨x2, hx2, hf⟩ := dc_nn_ok hf
  obtain ⟨r3, S4, k5, hf⟩ := dc_bd_ok hf
  have hm := lh_le_trans hm (show ∀ b, gvN S b ≤ gvN S4 b from m_X4_classAt k5)
  by_cases c8 : r3 = none
  · replace hf := dc_if_t c8 hf
    obtain ⟨_, rfl⟩ := dc_ret hf
    exact hm
  · replace hf := dc_if_f c8 hf
    by_cases c9 : p2 < 0
    · replace hf := dc_if_t c9 hf
      obtain ⟨_, rfl⟩ := dc_ret hf
      exact hm
    · replace hf := dc_if_f c9 hf
      by_cases c10 : p2 ≤ (8 : Int32)
      · replace hf := dc_if_t c10 hf
        by_cases c11 : (gvI S4 9 t 7) < (20 : Int32)
        · replace hf := dc_if_t c11 hf
          obtain ⟨S13, eS13, hf⟩ := dc_let_ok hf
          have hm := lh_le_trans hm (show ∀ b, gvN S4 b ≤ gvN S13 b from by rw [eS13]; exact lh_mN)
          obtain ⟨r19, S20, k21, hf⟩ := dc_bd_ok hf
          have hm := lh_le_trans hm (show ∀ b, gvN S13 b ≤ gvN S20 b from m_X7_init k21)
          obtain ⟨x25, hx25, hf⟩ := dc_nn_ok hf
          obtain ⟨g26, hf⟩ := dc_gd_ok hf
          obtain ⟨S27, eS27, hf⟩ := dc_let_ok hf
          have hm := lh_le_trans hm (show ∀ b, gvN S20 b ≤ gvN S27 b from by rw [eS27]; exact lh_mR)
          obtain ⟨v29, hv29, hf⟩ := dc_let_ok hf
          obtain ⟨S30, eS30, hf⟩ := dc_let_ok hf
          have hm := lh_le_trans hm (show ∀ b, gvN S27 b ≤ gvN S30 b from by rw [eS30]; exact lh_mI)
          obtain ⟨_, rfl⟩ := dc_ret hf
          exact hm
        · replace hf := dc_if_f c11 hf
          obtain ⟨_, rfl⟩ := dc_ret hf
          exact hm
      · replace hf := dc_if_f c10 hf
        obtain ⟨_, rfl⟩ := dc_ret hf
        exact hm
set_option maxHeartbeats 1000000 in
theorem k_X9_row {n : Nat} {S : lh_S} {t : Nat} {p1 : Int32} {p2 : Int32} {r : Int32} {S' : lh_S} (hf : f_X9_row n S t p1 p2 = some (r, S')) : lh_sm9 S S' := by
  have hm : lh_sm9 S S := lh_sm9_rf
  unfold f_X9_row at hf
  obtain ⟨x2, hx2, hf⟩ := dc_nn_ok hf
  obtain ⟨r3, S4, k5, hf⟩ := dc_bd_ok hf
  have hm := lh_sm9_trans hm (show lh_sm9 S S4 from k_X4_classAt k5)
  by_cases c8 : r3 = none
  · replace hf := dc_if_t c8 hf
    obtain ⟨_, rfl⟩ := dc_ret hf
    exact hm
  · replace hf := dc_if_f c8 hf
    by_cases c9 : p2 < 0
    · replace hf := dc_if_t c9 hf
      obtain ⟨_, rfl⟩ := dc_ret hf
      exact hm
    · replace hf := dc_if_f c9 hf
      by_cases c10 : p2 ≤ (8 : Int32)
      · replace hf := dc_if_t c10 hf
        by_cases c11 : (gvI S4 9 t 7) < (20 : Int32)
        · replace hf := dc_if_t c11 hf
          obtain ⟨S13, eS13, hf⟩ := dc_let_ok hf
          have hm := lh_sm9_trans hm (show lh_sm9 S4 S13 from by rw [eS13]; exact (lh_sm9N (by decide)))
          obtain ⟨r19, S20, k21, hf⟩ := dc_bd_ok hf
          have hm := lh_sm9_trans hm (show lh_sm9 S13 S20 from k_X7_init k21)
          obtain ⟨x25, hx25, hf⟩ := dc_nn_ok hf
          obtain ⟨g26, hf⟩ := dc_gd_ok hf
          obtain ⟨S27, eS27, hf⟩ := dc_let_ok hf
          have hm := lh_sm9_trans hm (show lh_sm9 S20 S27 from by rw [eS27]; exact (lh_sm9R (by decide)))
          obtain ⟨v29, hv29, hf⟩ := dc_let_ok hf
          obtain ⟨S30, eS30, hf⟩ := dc_let_ok hf
          have hm := lh_sm9_trans hm (show lh_sm9 S27 S30 from by rw [eS30]; exact (lh_sm9I (by decide)))
          obtain ⟨_, rfl⟩ := dc_ret hf
          exact hm
        · replace hf := dc_if_f c11 hf
          obtain ⟨_, rfl⟩ := dc_ret hf
          exact hm
      · replace hf := dc_if_f c10 hf
        obtain ⟨_, rfl⟩ := dc_ret hf
        exact hm
set_option maxHeartbeats 4000000 in
set_option maxRecDepth 100000 in
theorem c_X9_row (l : Launch) (D : va_G) (cT : Nat → ClassId) (n : Nat) (S : lh_S) (ad : Nat → Nat → Nat) (A : Nat → Prop) (sz : Nat) (hA : ∀ q, sz ≤ q → A q) (t : Nat) (p1 : Int32) (p2 : Int32) (r : Int32) (S' : lh_S) (hf : f_X9_row n S t p1 p2 = some (r, S')) (L_t : ∀ j, some t = some j → j < gvN S 9) : Met l yX9_row wsX9_row ({ frames := 2, cells := 2, slots := 10, locals := 43 } : Room) (lh_P D cT S ad A sz [lh_r ad 9 (some t), .int p1, .int p2]) (lh_QA D cT S S' ad A ((∀ b, gvN S b ≤ gvN S' b) ∧ True) (fun ad9 => some (.int r))) 2 10 A := by
  refine Met.ofW (cc := cX9_row) (maxL := 4) (ret := (some .int)) (by decide) rfl ?_
  intro p e s m args below meth c s₁ B hml hv
  obtain ⟨hargs, hsz, hW, hK, hN⟩ := hv
  have hx := B.exec
  have hb := B.bytes
  have hr := B.returns
  have hts := atoms_spec (ws := wsX9_row) B.pre
  have hown : s.vm.findClass RX9 = some m.cls := findClass_of_methodNamed B.named
  have hlocks := B.notSynchronized
  have hA : ∀ q, s.heap.size ≤ q → A q := fun q h => hA q (by rw [← hsz]; exact h)
  have ok := lh_W_ok hW
  have hm : ∀ b, gvN S b ≤ gvN S b := fun _ => Nat.le_refl _
  have hE : lh_E S ad ad := lh_E.rf
  obtain ⟨ls, hent, hl⟩ := lh_entry m args [lh_r ad 9 (some t), .int p1, .int p2] 4 [(0, lh_r ad 9 (some t)), (1, .int p1), (2, .int p2)] hargs (by simp [lv_args, lh_cat_r, lh_cat_i, lh_cat_j]) (by simp [lg_sl, lh_cat_r, lh_cat_i, lh_cat_j])
  rw [hent]
  generalize hH : s.heap = H at hW ⊢
  have hS : va_S A s.heap H [] := by rw [← hH]; exact va_S.rf
  unfold f_X9_row at hf
  refine lh_aload_n hx hb dX9_row_0 rfl (lv_at hl 0 rfl) ?_
  have L1 : ∀ j, gvR S 9 t 3 = some j → j < gvN S 4 := fun j h => ok _ _ _ _ j (L_t _ rfl) rfl h
  refine lh_get (a := 9) (k := 3) (N := 10) (C := RX9) (T := TX9) (own := RX9) (ref := "LoaderModels") hx hb hts (fun _ h => (List.mem_cons_of_mem _ (List.mem_append_left _ (List.mem_append_left _ (List.mem_append_right _ h))))) hown hK hW rfl (L_t _ rfl) rfl rfl rfl (by decide) (hts (.fieldLink RX9 29 "LoaderModels" "loading" "LLoaderModels$Loading;") (List.mem_cons_of_mem _ (List.mem_append_left _ (List.mem_append_left _ (List.mem_append_left _ (List.mem_of_getElem? (i := 0) rfl)))))) (fun _ h9 => h9) dX9_row_1 (v := lh_r ad 4 (gvR S 9 t 3)) rfl ?_
  refine lv_iload_n hx hb dX9_row_4 rfl (lv_at hl 1 rfl) ?_
  obtain ⟨x2, hx2, hf⟩ := dc_nn_ok hf
  obtain ⟨r3, S4, k5, hf⟩ := dc_bd_ok hf
  refine lh_call (S' := S4) (lh_rv ⟨hx, hb, hml, hown, hts⟩ hx2 (As := [.int p1]) (rest := []) (k := 4) (c_X4_classAt l D cT n S ad A H.size (fun q9 h9 => hA q9 (Nat.le_trans hS.1 h9)) x2 p1 r3 S4 k5 (lh_ls (L1 _ hx2))) (cwV 1 hts gX9_row_X4_classAt rfl rfl rfl (by decide +kernel) ⟨Nat.le_of_ble_eq_true rfl, Nat.le_of_ble_eq_true rfl⟩) hK hN hW (L1 _ hx2) rfl rfl rfl hl.1 rfl (by simp [lh_cat_r, lh_cat_i, lh_cat_j]) dX9_row_5 ⟨Nat.le_of_ble_eq_true rfl, Nat.le_of_ble_eq_true rfl⟩) hS (fun H locs hX hW hS => ?_)
  refine W.widen (k := 0) (n := 0) (by omega) (by omega) ?_
  show W _ _ _ _ _ _ _ _ _ _ _ _ _ _ _ (F0 m 8 ls [lh_r ad 5 r3])
  have m6 : ∀ b, gvN S b ≤ gvN S4 b := hX.1
  have L_t : ∀ j, some t = some j → j < gvN S4 9 := fun j h => Nat.lt_of_lt_of_le (L_t j h) (m6 _)
  have hm : ∀ b, gvN S b ≤ gvN S4 b := lh_le_trans hm m6
  have ok := lh_W_ok hW
  have L7 := hX.2
  refine lh_astore_n (i := 3) (lv' := [(3, lh_r ad 5 r3), (0, lh_r ad 9 (some t)), (1, .int p1), (2, .int p2)]) hx hb dX9_row_8 rfl hl (by decide) (by first | rfl | simp [lh_cat_r, lh_cat_i, lh_cat_j]) (fun ls hl => ?_)
  refine lh_aload_n hx hb dX9_row_9 rfl (lv_at hl 0 rfl) ?_
  refine lh_ifnonnull (tgt := 16) hx hb dX9_row_10 (by decide) (fun c8 => ?_) (fun c8 => ?_)
  · replace hf := dc_if_f c8 hf
    refine lv_iload_n hx hb dX9_row_16 rfl (lv_at hl 3 rfl) ?_
    refine lv_if_lt (tgt := 26) hx hb dX9_row_17 (by decide) (fun c9 => ?_) (fun c9 => ?_)
    · replace hf := dc_if_t c9 hf
      refine lv_bipush (v := -3) hx hb dX9_row_26 (by decide) ?_
      obtain ⟨rfl, rfl⟩ := dc_ret hf
      refine W.widen (k := 2) (n := 10) (by omega) (by omega) ?_
      exact W.iret (v := (-3 : Int32)) hx hb hr (fun t9 ht9 hW9 => ⟨⟨ad, hE, rfl, ⟨hm, trivial⟩, by rw [ht9]; exact hW⟩, hS.F ht9⟩) hS.2.2 dX9_row_28
    · replace hf := dc_if_f c9 hf
      refine lv_iload_n hx hb dX9_row_20 rfl (lv_at hl 3 rfl) ?_
      refine lv_bipush (v := 8) hx hb dX9_row_21 (by decide) ?_
      refine lv_icmp_le (tgt := 29) hx hb dX9_row_23 (by decide) (fun c10 => ?_) (fun c10 => ?_)
      · replace hf := dc_if_t c10 hf
        refine lh_aload_n hx hb dX9_row_29 rfl (lv_at hl 1 rfl) ?_
        refine lh_get (a := 9) (k := 7) (N := 10) (C := RX9) (T := TX9) (own := RX9) (ref := "LoaderModels") hx hb hts (fun _ h => (List.mem_cons_of_mem _ (List.mem_append_left _ (List.mem_append_left _ (List.mem_append_right _ h))))) hown hK hW rfl (L_t _ rfl) rfl rfl rfl (by decide) (hts (.fieldLink RX9 161 "LoaderModels" "rowCount" "I") (List.mem_cons_of_mem _ (List.mem_append_left _ (List.mem_append_left _ (List.mem_append_left _ (List.mem_of_getElem? (i := 1) rfl)))))) (fun _ h9 => h9) dX9_row_30 (v := .int (gvI S4 9 t 7)) rfl ?_
        refine lv_bipush (v := 20) hx hb dX9_row_33 (by decide) ?_
        refine lv_icmp_lt (tgt := 41) hx hb dX9_row_35 (by decide) (fun c11 => ?_) (fun c11 => ?_)
        · replace hf := dc_if_t c11 hf
          refine lh_aload_n hx hb dX9_row_41 rfl (lv_at hl 1 rfl) ?_
          have L12 : ∀ j, gvR S4 9 t 6 = some j → j < gvN S4 23 := fun j h => ok _ _ _ _ j (L_t _ rfl) rfl h
          refine lh_get (a := 9) (k := 6) (N := 10) (C := RX9) (T := TX9) (own := RX9) (ref := "LoaderModels") hx hb hts (fun _ h => (List.mem_cons_of_mem _ (List.mem_append_left _ (List.mem_append_left _ (List.mem_append_right _ h))))) hown hK hW rfl (L_t _ rfl) rfl rfl rfl (by decide) (hts (.fieldLink RX9 41 "LoaderModels" "rows" "[LLoaderModels$Row;") (List.mem_cons_of_mem _ (List.mem_append_left _ (List.mem_append_left _ (List.mem_append_left _ (List.mem_of_getElem? (i := 2) rfl)))))) (fun _ h9 => h9) dX9_row_42 (v := lh_r ad 23 (gvR S4 9 t 6)) rfl ?_
          refine lh_aload_n hx hb dX9_row_45 rfl (lv_at hl 1 rfl) ?_
          refine lh_get (a := 9) (k := 7) (N := 10) (C := RX9) (T := TX9) (own := RX9) (ref := "LoaderModels") hx hb hts (fun _ h => (List.mem_cons_of_mem _ (List.mem_append_left _ (List.mem_append_left _ (List.mem_append_right _ h))))) hown hK hW rfl (L_t _ rfl) rfl rfl rfl (by decide) (hts (.fieldLink RX9 161 "LoaderModels" "rowCount" "I") (List.mem_cons_of_mem _ (List.mem_append_left _ (List.mem_append_left _ (List.mem_append_left _ (List.mem_of_getElem? (i := 1) rfl)))))) (fun _ h9 => h9) dX9_row_46 (v := .int (gvI S4 9 t 7)) rfl ?_
          obtain ⟨S13, eS13, hf⟩ := dc_let_ok hf
          refine lh_new (a := 7) (N := 2) (C := RX7) (T := TX7) (own := RX9) hx hb hts (fun _ h => (List.mem_cons_of_mem _ (List.mem_append_left _ (List.mem_append_right _ h)))) tyX7 tyX7_ok hown (hts (.classLink RX9 39 RX7) (List.mem_cons_of_mem _ (List.mem_append_left _ (List.mem_append_left _ (List.mem_append_left _ (List.mem_of_getElem? (i := 3) rfl)))))) (hts (.instantiable RX7 2) (List.mem_cons_of_mem _ (List.mem_append_left _ (List.mem_append_left _ (List.mem_append_left _ (List.mem_of_getElem? (i := 4) rfl)))))) (hts (.initialized RX7) (List.mem_cons_of_mem _ (List.mem_append_left _ (List.mem_append_left _ (List.mem_append_left _ (List.mem_of_getElem? (i := 5) rfl)))))) hK hW hS hA rfl rfl rfl (by decide +kernel) (Nat.le_of_ble_eq_true rfl) (Nat.le_of_ble_eq_true rfl) dX9_row_49 (fun ad14 H hE15 hW hS => ?_)
          rw [lh_rE hE15 L7] at hl
          rw [lh_rE hE15 L_t] at hl
          rw [lh_rE hE15 L12]
          have hE : lh_E S ad ad14 := lh_E.trans hE hm hE15
          rw [← eS13] at hW
          have m16 : ∀ b, gvN S4 b ≤ gvN S13 b := by rw [eS13]; exact lh_mN
          have L7 : ∀ j, r3 = some j → j < gvN S13 5 := fun j h => Nat.lt_of_lt_of_le (L7 j h) (m16 _)
          have L_t : ∀ j, some t = some j → j < gvN S13 9 := fun j h => Nat.lt_of_lt_of_le (L_t j h) (m16 _)
          have L12 : ∀ j, gvR S4 9 t 6 = some j → j < gvN S13 23 := fun j h => Nat.lt_of_lt_of_le (L12 j h) (m16 _)
          have hm : ∀ b, gvN S b ≤ gvN S13 b := lh_le_trans hm m16
          have ok := lh_W_ok hW
          have L17 : ∀ j, some (gvN S4 7) = some j → j < gvN S13 7 := lh_ls (by rw [eS13]; exact lh_nN)
          refine lv_dup hx hb dX9_row_52 lh_cat_r ?_
          refine lh_aload_n hx hb dX9_row_53 rfl (lv_at hl 0 rfl) ?_
          refine lv_iload_n hx hb dX9_row_54 rfl (lv_at hl 3 rfl) ?_
          obtain ⟨r19, S20, k21, hf⟩ := dc_bd_ok hf
          refine lh_callA (S' := S20) (lh_ri ⟨hx, hb, hml, hown, hts⟩ rfl (As := [lh_r ad14 5 r3, .int p2]) (rest := [lh_r ad14 7 (some (gvN S4 7)), .int (gvI S4 9 t 7), lh_r ad14 23 (gvR S4 9 t 6)]) (k := 7) (c_X7_init l D cT n S13 ad14 A H.size (fun q9 h9 => hA q9 (Nat.le_trans hS.1 h9)) (gvN S4 7) r3 p2 r19 S20 k21 L17 L7) (cwI 2 hts gX9_row_X7_init rfl rfl rfl (hts (.initialized RX7) (List.mem_cons_of_mem _ (List.mem_append_left _ (List.mem_append_left _ (List.mem_append_left _ (List.mem_of_getElem? (i := 5) rfl)))))) (hts (.methodLink RX9 164 yX7_init) (List.mem_cons_of_mem _ (List.mem_append_left _ (List.mem_append_left _ (List.mem_append_left _ (List.mem_of_getElem? (i := 13) rfl)))))) (hts (.instanceMethod yX7_init) (List.mem_cons_of_mem _ (List.mem_append_left _ (List.mem_append_left _ (List.mem_append_left _ (List.mem_of_getElem? (i := 14) rfl)))))) rfl (by decide +kernel) ⟨Nat.le_of_ble_eq_true rfl, Nat.le_of_ble_eq_true rfl⟩) hK hN hW rfl hl.1 rfl (by simp [lh_cat_r, lh_cat_i, lh_cat_j]) dX9_row_55 ⟨Nat.le_of_ble_eq_true rfl, Nat.le_of_ble_eq_true rfl⟩) hS (fun ad22 H locs hE23 hX hW hS => ?_)
          refine W.widen (k := 2) (n := 10) (by omega) (by omega) ?_
          show W _ _ _ _ _ _ _ _ _ _ _ _ _ _ _ (F0 m 58 ls [lh_r ad14 7 (some (gvN S4 7)), .int (gvI S4 9 t 7), lh_r ad14 23 (gvR S4 9 t 6)])
          rw [lh_rE hE23 L7] at hl
          rw [lh_rE hE23 L_t] at hl
          rw [lh_rE hE23 L17]
          rw [lh_rE hE23 L12]
          have hE : lh_E S ad ad22 := lh_E.trans hE hm hE23
          have m24 : ∀ b, gvN S13 b ≤ gvN S20 b := hX.1
          have L7 : ∀ j, r3 = some j → j < gvN S20 5 := fun j h => Nat.lt_of_lt_of_le (L7 j h) (m24 _)
          have L_t : ∀ j, some t = some j → j < gvN S20 9 := fun j h => Nat.lt_of_lt_of_le (L_t j h) (m24 _)
          have L17 : ∀ j, some (gvN S4 7) = some j → j < gvN S20 7 := fun j h => Nat.lt_of_lt_of_le (L17 j h) (m24 _)
          have L12 : ∀ j, gvR S4 9 t 6 = some j → j < gvN S20 23 := fun j h => Nat.lt_of_lt_of_le (L12 j h) (m24 _)
          have hm : ∀ b, gvN S b ≤ gvN S20 b := lh_le_trans hm m24
          have ok := lh_W_ok hW
          obtain ⟨x25, hx25, hf⟩ := dc_nn_ok hf
          obtain ⟨g26, hf⟩ := dc_gd_ok hf
          obtain ⟨S27, eS27, hf⟩ := dc_let_ok hf
          refine lh_ast_r (a := 23) (t0 := 7) (t := 7) hx hb hK hW hS hx25 (L12 _ hx25) rfl rfl (fun _ => rfl) rfl rfl L17 g26 dX9_row_58 (fun H locs hW hS => ?_)
          rw [← eS27] at hW
          have m28 : ∀ b, gvN S20 b ≤ gvN S27 b := by rw [eS27]; exact lh_mR
          have L7 : ∀ j, r3 = some j → j < gvN S27 5 := fun j h => Nat.lt_of_lt_of_le (L7 j h) (m28 _)
          have L_t : ∀ j, some t = some j → j < gvN S27 9 := fun j h => Nat.lt_of_lt_of_le (L_t j h) (m28 _)
          have hm : ∀ b, gvN S b ≤ gvN S27 b := lh_le_trans hm m28
          have ok := lh_W_ok hW
          refine lh_aload_n hx hb dX9_row_59 rfl (lv_at hl 1 rfl) ?_
          refine lv_dup hx hb dX9_row_60 lh_cat_r ?_
          refine lh_get (a := 9) (k := 7) (N := 10) (C := RX9) (T := TX9) (own := RX9) (ref := "LoaderModels") hx hb hts (fun _ h => (List.mem_cons_of_mem _ (List.mem_append_left _ (List.mem_append_left _ (List.mem_append_right _ h))))) hown hK hW rfl (L_t _ rfl) rfl rfl rfl (by decide) (hts (.fieldLink RX9 161 "LoaderModels" "rowCount" "I") (List.mem_cons_of_mem _ (List.mem_append_left _ (List.mem_append_left _ (List.mem_append_left _ (List.mem_of_getElem? (i := 1) rfl)))))) (fun _ h9 => h9) dX9_row_61 (v := .int (gvI S27 9 t 7)) rfl ?_
          refine lv_dup_x1 hx hb dX9_row_64 rfl lh_cat_r ?_
          refine lv_iconst (v := 1) hx hb dX9_row_65 (by decide) ?_
          refine lv_iadd hx hb dX9_row_66 ?_
          refine lv_topi (fun v29 hv29 => ?_)
          replace hf := dc_let_e hv29 hf
          obtain ⟨S30, eS30, hf⟩ := dc_let_ok hf
          refine lh_put (S' := S30) (a := 9) (k := 7) (N := 10) (C := RX9) (T := TX9) (own := RX9) (ref := "LoaderModels") (ty := .int) hx hb hts (fun _ h => (List.mem_cons_of_mem _ (List.mem_append_left _ (List.mem_append_left _ (List.mem_append_right _ h))))) tyX9 tyX9_ok nmX9 hown hK hW hS rfl (L_t _ rfl) rfl rfl rfl (by decide) (hts (.fieldLink RX9 161 "LoaderModels" "rowCount" "I") (List.mem_cons_of_mem _ (List.mem_append_left _ (List.mem_append_left _ (List.mem_append_left _ (List.mem_of_getElem? (i := 1) rfl)))))) (fun _ h9 => h9) (Or.inl rfl) (by decide +kernel) rfl rfl (fun q9 => by rw [eS30]; exact lh_chI rfl q9) dX9_row_67 (fun H locs hW hS => ?_)
          have m31 : ∀ b, gvN S27 b ≤ gvN S30 b := by rw [eS30]; exact lh_mI
          have L7 : ∀ j, r3 = some j → j < gvN S30 5 := fun j h => Nat.lt_of_lt_of_le (L7 j h) (m31 _)
          have L_t : ∀ j, some t = some j → j < gvN S30 9 := fun j h => Nat.lt_of_lt_of_le (L_t j h) (m31 _)
          have hm : ∀ b, gvN S b ≤ gvN S30 b := lh_le_trans hm m31
          have ok := lh_W_ok hW
          obtain ⟨rfl, rfl⟩ := dc_ret hf
          exact W.iret (v := gvI S27 9 t 7) hx hb hr (fun t9 ht9 hW9 => ⟨⟨ad22, hE, rfl, ⟨hm, trivial⟩, by rw [ht9]; exact hW⟩, hS.F ht9⟩) hS.2.2 dX9_row_70
        · replace hf := dc_if_f c11 hf
          refine lv_bipush (v := -5) hx hb dX9_row_38 (by decide) ?_
          obtain ⟨rfl, rfl⟩ := dc_ret hf
          refine W.widen (k := 2) (n := 10) (by omega) (by omega) ?_
          exact W.iret (v := (-5 : Int32)) hx hb hr (fun t9 ht9 hW9 => ⟨⟨ad, hE, rfl, ⟨hm, trivial⟩, by rw [ht9]; exact hW⟩, hS.F ht9⟩) hS.2.2 dX9_row_40
      · replace hf := dc_if_f c10 hf
        refine lv_bipush (v := -3) hx hb dX9_row_26 (by decide) ?_
        obtain ⟨rfl, rfl⟩ := dc_ret hf
        refine W.widen (k := 2) (n := 10) (by omega) (by omega) ?_
        exact W.iret (v := (-3 : Int32)) hx hb hr (fun t9 ht9 hW9 => ⟨⟨ad, hE, rfl, ⟨hm, trivial⟩, by rw [ht9]; exact hW⟩, hS.F ht9⟩) hS.2.2 dX9_row_28
  · replace hf := dc_if_t c8 hf
    refine lv_bipush (v := -2) hx hb dX9_row_13 (by decide) ?_
    obtain ⟨rfl, rfl⟩ := dc_ret hf
    refine W.widen (k := 2) (n := 10) (by omega) (by omega) ?_
    exact W.iret (v := (-2 : Int32)) hx hb hr (fun t9 ht9 hW9 => ⟨⟨ad, hE, rfl, ⟨hm, trivial⟩, by rw [ht9]; exact hW⟩, hS.F ht9⟩) hS.2.2 dX9_row_15
def f_X9_put (n : Nat) (S : lh_S) (t : Nat) (p1 : Int32) (p2 : Int32) (p3 : Int32) : Option (Int32 × lh_S) :=
  dc_bd (f_X9_rowAt n S t p1) fun r1 S2 =>
  dc_bd (f_X9_classOfObject n S2 t p3) fun r6 S7 =>
  dc_if (r1 = none) (
  some ((-2 : Int32), S7)) (
  dc_if (r6 = none) (
  dc_if (p3 = (-1 : Int32)) (
  dc_nn r1 fun x56 =>
  dc_bd (f_X7_hasPlace n S7 x56 p2) fun r57 S58 =>
  dc_if (r57 = 0) (
  dc_bd (f_X9_failed n S58 (11 : Int32)) fun r90 S91 =>
  dc_bd (f_X9_answered n S91 t r90) fun r94 S95 =>
  some (r94, S95)) (
  dc_if (r6 = none) (
  dc_nn (gvR S58 7 x56 1) fun x65 =>
  dc_gd (p2 < 0 ∨ gvL S58 20 x65 ≤ (p2).toNatClampNeg) (
  dc_let (pvI S58 20 x65 (p2).toNatClampNeg p3) fun S67 =>
  some ((1 : Int32), S67))) (
  dc_nn r6 fun x70 =>
  dc_bd (f_X5_isOf n S58 x70 (gvR S58 7 x56 0)) fun r71 S72 =>
  dc_if (r71 = 0) (
  dc_bd (f_X9_failed n S72 (8 : Int32)) fun r82 S83 =>
  dc_bd (f_X9_answered n S83 t r82) fun r86 S87 =>
  some (r86, S87)) (
  dc_nn (gvR S72 7 x56 1) fun x78 =>
  dc_gd (p2 < 0 ∨ gvL S72 20 x78 ≤ (p2).toNatClampNeg) (
  dc_let (pvI S72 20 x78 (p2).toNatClampNeg p3) fun S80 =>
  some ((1 : Int32), S80)))))) (
  some ((-2 : Int32), S7))) (
  dc_nn r1 fun x13 =>
  dc_bd (f_X7_hasPlace n S7 x13 p2) fun r14 S15 =>
  dc_if (r14 = 0) (
  dc_bd (f_X9_failed n S15 (11 : Int32)) fun r47 S48 =>
  dc_bd (f_X9_answered n S48 t r47) fun r51 S52 =>
  some (r51, S52)) (
  dc_if (r6 = none) (
  dc_nn (gvR S15 7 x13 1) fun x22 =>
  dc_gd (p2 < 0 ∨ gvL S15 20 x22 ≤ (p2).toNatClampNeg) (
  dc_let (pvI S15 20 x22 (p2).toNatClampNeg p3) fun S24 =>
  some ((1 : Int32), S24))) (
  dc_nn r6 fun x27 =>
  dc_bd (f_X5_isOf n S15 x27 (gvR S15 7 x13 0)) fun r28 S29 =>
  dc_if (r28 = 0) (
  dc_bd (f_X9_failed n S29 (8 : Int32)) fun r39 S40 =>
  dc_bd (f_X9_answered n S40 t r39) fun r43 S44 =>
  some (r43, S44)) (
  dc_nn (gvR S29 7 x13 1) fun x35 =>
  dc_gd (p2 < 0 ∨ gvL S29 20 x35 ≤ (p2).toNatClampNeg) (
  dc_let (pvI S29 20 x35 (p2).toNatClampNeg p3) fun S37 =>
  some ((1 : Int32), S37)))))))
set_option maxHeartbeats 1000000 in
theorem m_X9_put {n : Nat} {S : lh_S} {t : Nat} {p1 : Int32} {p2 : Int32} {p3 : Int32} {r : Int32} {S' : lh_S} (hf : f_X9_put n S t p1 p2 p3 = some (r, S')) : ∀ b, gvN S b ≤ gvN S' b := by
  have hm : ∀ b, gvN S b ≤ gvN S b := fun _ => Nat.le_refl _
  unfold f_X9_put at hf
  obtain ⟨r1, S2, k3, hf⟩ := dc_bd_ok hf
  have hm := lh_le_trans hm (show ∀ b, gvN S b ≤ gvN S2 b from m_X9_rowAt k3)
  obtain ⟨r6, S7, k8, hf⟩ := dc_bd_ok hf
  have hm := lh_le_trans hm (show ∀ b, gvN S2 b ≤ gvN S7 b from m_X9_classOfObject k8)
  by_cases c11 : r1 = none
  · replace hf := dc_if_t c11 hf
    obtain ⟨_, rfl⟩ := dc_ret hf
    exact hm
  · replace hf := dc_if_f c11 hf
    by_cases c12 : r6 = none
    · replace hf := dc_if_t c12 hf
      by_cases c55 : p3 = (-1 : Int32)
      · replace hf := dc_if_t c55 hf
        obtain ⟨x56, hx56, hf⟩ := dc_nn_ok hf
        obtain ⟨r57, S58, k59, hf⟩ := dc_bd_ok hf
        have hm := lh_le_trans hm (show ∀ b, gvN S7 b ≤ gvN S58 b from m_X7_hasPlace k59)
        by_cases c62 : r57 = 0
        · replace hf := dc_if_t c62 hf
          obtain ⟨r90, S91, k92, hf⟩ := dc_bd_ok hf
          have hm := lh_le_trans hm (show ∀ b, gvN S58 b ≤ gvN S91 b from m_X9_failed k92)
          obtain ⟨r94, S95, k96, hf⟩ := dc_bd_ok hf
          have hm := lh_le_trans hm (show ∀ b, gvN S91 b ≤ gvN S95 b from m_X9_answered k96)
          obtain ⟨_, rfl⟩ := dc_ret hf
          exact hm
        · replace hf := dc_if_f c62 hf
          by_cases c63 : r6 = none
          · replace hf := dc_if_t c63 hf
            obtain ⟨x65, hx65, hf⟩ := dc_nn_ok hf
            obtain ⟨g66, hf⟩ := dc_gd_ok hf
            obtain ⟨S67, eS67, hf⟩ := dc_let_ok hf
            have hm := lh_le_trans hm (show ∀ b, gvN S58 b ≤ gvN S67 b from by rw [eS67]; exact lh_mI)
            obtain ⟨_, rfl⟩ := dc_ret hf
            exact hm
          · replace hf := dc_if_f c63 hf
            obtain ⟨x70, hx70, hf⟩ := dc_nn_ok hf
            obtain ⟨r71, S72, k73, hf⟩ := dc_bd_ok hf
            have hm := lh_le_trans hm (show ∀ b, gvN S58 b ≤ gvN S72 b from m_X5_isOf k73)
            by_cases c76 : r71 = 0
            · replace hf := dc_if_t c76 hf
              obtain ⟨r82, S83, k84, hf⟩ := dc_bd_ok hf
              have hm := lh_le_trans hm (show ∀ b, gvN S72 b ≤ gvN S83 b from m_X9_failed k84)
              obtain ⟨r86, S87, k88, hf⟩ := dc_bd_ok hf
              have hm := lh_le_trans hm (show ∀ b, gvN S83 b ≤ gvN S87 b from m_X9_answered k88)
              obtain ⟨_, rfl⟩ := dc_ret hf
              exact hm
            · replace hf := dc_if_f c76 hf
              obtain ⟨x78, hx78, hf⟩ := dc_nn_ok hf
              obtain ⟨g79, hf⟩ := dc_gd_ok hf
              obtain ⟨S80, eS80, hf⟩ := dc_let_ok hf
              have hm := lh_le_trans hm (show ∀ b, gvN S72 b ≤ gvN S80 b from by rw [eS80]; exact lh_mI)
              obtain ⟨_, rfl⟩ := dc_ret hf
              exact hm
      · replace hf := dc_if_f c55 hf
        obtain ⟨_, rfl⟩ := dc_ret hf
        exact hm
    · replace hf := dc_if_f c12 hf
      obtain ⟨x13, hx13, hf⟩ := dc_nn_ok hf
      obtain ⟨r14, S15, k16, hf⟩ := dc_bd_ok hf
      have hm := lh_le_trans hm (show ∀ b, gvN S7 b ≤ gvN S15 b from m_X7_hasPlace k16)
      by_cases c19 : r14 = 0
      · replace hf := dc_if_t c19 hf
        obtain ⟨r47, S48, k49, hf⟩ := dc_bd_ok hf
        have hm := lh_le_trans hm (show ∀ b, gvN S15 b ≤ gvN S48 b from m_X9_failed k49)
        obtain ⟨r51, S52, k53, hf⟩ := dc_bd_ok hf
        have hm := lh_le_trans hm (show ∀ b, gvN S48 b ≤ gvN S52 b from m_X9_answered k53)
        obtain ⟨_, rfl⟩ := dc_ret hf
        exact hm
      · replace hf := dc_if_f c19 hf
        by_cases c20 : r6 = none
        · replace hf := dc_if_t c20 hf
          obtain ⟨x22, hx22, hf⟩ := dc_nn_ok hf
          obtain ⟨g23, hf⟩ := dc_gd_ok hf
          obtain ⟨S24, eS24, hf⟩ := dc_let_ok hf
          have hm := lh_le_trans hm (show ∀ b, gvN S15 b ≤ gvN S24 b from by rw [eS24]; exact lh_mI)
          obtain ⟨_, rfl⟩ := dc_ret hf
          exact hm
        · replace hf := dc_if_f c20 hf
          obtain ⟨x27, hx27, hf⟩ := dc_nn_ok hf
          obtain ⟨r28, S29, k30, hf⟩ := dc_bd_ok hf
          have hm := lh_le_trans hm (show ∀ b, gvN S15 b ≤ gvN S29 b from m_X5_isOf k30)
          by_cases c33 : r28 = 0
          · replace hf := dc_if_t c33 hf
            obtain ⟨r39, S40, k41, hf⟩ := dc_bd_ok hf
            have hm := lh_le_trans hm (show ∀ b, gvN S29 b ≤ gvN S40 b from m_X9_failed k41)
            obtain ⟨r43, S44, k45, hf⟩ := dc_bd_ok hf
            have hm := lh_le_trans hm (show ∀ b, gvN S40 b ≤ gvN S44 b from m_X9_answered k45)
            obtain ⟨_, rfl⟩ := dc_ret hf
            exact hm
          · replace hf := dc_if_f c33 hf
            obtain ⟨x35, hx35, hf⟩ := dc_nn_ok hf
            obtain ⟨g36, hf⟩ := dc_gd_ok hf
            obtain ⟨S37, eS37, hf⟩ := dc_let_ok hf
            have hm := lh_le_trans hm (show ∀ b, gvN S29 b ≤ gvN S37 b from by rw [eS37]; exact lh_mI)
            obtain ⟨_, rfl⟩ := dc_ret hf
            exact hm
set_option maxHeartbeats 1000000 in
theorem k_X9_put {n : Nat} {S : lh_S} {t : Nat} {p1 : Int32} {p2 : Int32} {p3 : Int32} {r : Int32} {S' : lh_S} (hf : f_X9_put n S t p1 p2 p3 = some (r, S')) : lh_sm9 S S' := by
  have hm : lh_sm9 S S := lh_sm9_rf
  unfold f_X9_put at hf
  obtain ⟨r1, S2, k3, hf⟩ := dc_bd_ok hf
  have hm := lh_sm9_trans hm (show lh_sm9 S S2 from k_X9_rowAt k3)
  obtain ⟨r6, S7, k8, hf⟩ := dc_bd_ok hf
  have hm := lh_sm9_trans hm (show lh_sm9 S2 S7 from k_X9_classOfObject k8)
  by_cases c11 : r1 = none
  · replace hf := dc_if_t c11 hf
    obtain ⟨_, rfl⟩ := dc_ret hf
    exact hm
  · replace hf := dc_if_f c11 hf
    by_cases c12 : r6 = none
    · replace hf := dc_if_t c12 hf
      by_cases c55 : p3 = (-1 : Int32)
      · replace hf := dc_if_t c55 hf
        obtain ⟨x56, hx56, hf⟩ := dc_nn_ok hf
        obtain ⟨r57, S58, k59, hf⟩ := dc_bd_ok hf
        have hm := lh_sm9_trans hm (show lh_sm9 S7 S58 from k_X7_hasPlace k59)
        by_cases c62 : r57 = 0
        · replace hf := dc_if_t c62 hf
          obtain ⟨r90, S91, k92, hf⟩ := dc_bd_ok hf
          have hm := lh_sm9_trans hm (show lh_sm9 S58 S91 from k_X9_failed k92)
          obtain ⟨r94, S95, k96, hf⟩ := dc_bd_ok hf
          have hm := lh_sm9_trans hm (show lh_sm9 S91 S95 from k_X9_answered k96)
          obtain ⟨_, rfl⟩ := dc_ret hf
          exact hm
        · replace hf := dc_if_f c62 hf
          by_cases c63 : r6 = none
          · replace hf := dc_if_t c63 hf
            obtain ⟨x65, hx65, hf⟩ := dc_nn_ok hf
            obtain ⟨g66, hf⟩ := dc_gd_ok hf
            obtain ⟨S67, eS67, hf⟩ := dc_let_ok hf
            have hm := lh_sm9_trans hm (show lh_sm9 S58 S67 from by rw [eS67]; exact (lh_sm9I (by decide)))
            obtain ⟨_, rfl⟩ := dc_ret hf
            exact hm
          · replace hf := dc_if_f c63 hf
            obtain ⟨x70, hx70, hf⟩ := dc_nn_ok hf
            obtain ⟨r71, S72, k73, hf⟩ := dc_bd_ok hf
            have hm := lh_sm9_trans hm (show lh_sm9 S58 S72 from k_X5_isOf k73)
            by_cases c76 : r71 = 0
            · replace hf := dc_if_t c76 hf
              obtain ⟨r82, S83, k84, hf⟩ := dc_bd_ok hf
              have hm := lh_sm9_trans hm (show lh_sm9 S72 S83 from k_X9_failed k84)
              obtain ⟨r86, S87, k88, hf⟩ := dc_bd_ok hf
              have hm := lh_sm9_trans hm (show lh_sm9 S83 S87 from k_X9_answered k88)
              obtain ⟨_, rfl⟩ := dc_ret hf
              exact hm
            · replace hf := dc_if_f c76 hf
              obtain ⟨x78, hx78, hf⟩ := dc_nn_ok hf
              obtain ⟨g79, hf⟩ := dc_gd_ok hf
              obtain ⟨S80, eS80, hf⟩ := dc_let_ok hf
              have hm := lh_sm9_trans hm (show lh_sm9 S72 S80 from by rw [eS80]; exact (lh_sm9I (by decide)))
              obtain ⟨_, rfl⟩ := dc_ret hf
              exact hm
      · replace hf := dc_if_f c55 hf
        obtain ⟨_, rfl⟩ := dc_ret hf
        exact hm
    · replace hf := dc_if_f c12 hf
      obtain ⟨x13, hx13, hf⟩ := dc_nn_ok hf
      obtain ⟨r14, S15, k16, hf⟩ := dc_bd_ok hf
      have hm := lh_sm9_trans hm (show lh_sm9 S7 S15 from k_X7_hasPlace k16)
      by_cases c19 : r14 = 0
      · replace hf := dc_if_t c19 hf
        obtain ⟨r47, S48, k49, hf⟩ := dc_bd_ok hf
        have hm := lh_sm9_trans hm (show lh_sm9 S15 S48 from k_X9_failed k49)
        obtain ⟨r51, S52, k53, hf⟩ := dc_bd_ok hf
        have hm := lh_sm9_trans hm (show lh_sm9 S48 S52 from k_X9_answered k53)
        obtain ⟨_, rfl⟩ := dc_ret hf
        exact hm
      · replace hf := dc_if_f c19 hf
        by_cases c20 : r6 = none
        · replace hf := dc_if_t c20 hf
          obtain ⟨x22, hx22, hf⟩ := dc_nn_ok hf
          obtain ⟨g23, hf⟩ := dc_gd_ok hf
          obtain ⟨S24, eS24, hf⟩ := dc_let_ok hf
          have hm := lh_sm9_trans hm (show lh_sm9 S15 S24 from by rw [eS24]; exact (lh_sm9I (by decide)))
          obtain ⟨_, rfl⟩ := dc_ret hf
          exact hm
        · replace hf := dc_if_f c20 hf
          obtain ⟨x27, hx27, hf⟩ := dc_nn_ok hf
          obtain ⟨r28, S29, k30, hf⟩ := dc_bd_ok hf
          have hm := lh_sm9_trans hm (show lh_sm9 S15 S29 from k_X5_isOf k30)
          by_cases c33 : r28 = 0
          · replace hf := dc_if_t c33 hf
            obtain ⟨r39, S40, k41, hf⟩ := dc_bd_ok hf
            have hm := lh_sm9_trans hm (show lh_sm9 S29 S40 from k_X9_failed k41)
            obtain ⟨r43, S44, k45, hf⟩ := dc_bd_ok hf
            have hm := lh_sm9_trans hm (show lh_sm9 S40 S44 from k_X9_answered k45)
            obtain ⟨_, rfl⟩ := dc_ret hf
            exact hm
          · replace hf := dc_if_f c33 hf
            obtain ⟨x35, hx35, hf⟩ := dc_nn_ok hf
            obtain ⟨g36, hf⟩ := dc_gd_ok hf
            obtain ⟨S37, eS37, hf⟩ := dc_let_ok hf
            have hm := lh_sm9_trans hm (show lh_sm9 S29 S37 from by rw [eS37]; exact (lh_sm9I (by decide)))
            obtain ⟨_, rfl⟩ := dc_ret hf
            exact hm
set_option maxHeartbeats 4000000 in
set_option maxRecDepth 100000 in
theorem c_X9_put (l : Launch) (D : va_G) (cT : Nat → ClassId) (n : Nat) (S : lh_S) (ad : Nat → Nat → Nat) (A : Nat → Prop) (sz : Nat) (hA : ∀ q, sz ≤ q → A q) (t : Nat) (p1 : Int32) (p2 : Int32) (p3 : Int32) (r : Int32) (S' : lh_S) (hf : f_X9_put n S t p1 p2 p3 = some (r, S')) (L_t : ∀ j, some t = some j → j < gvN S 9) : Met l yX9_put wsX9_put ({ frames := 1, cells := 0, slots := 0, locals := 22 } : Room) (lh_P D cT S ad A sz [lh_r ad 9 (some t), .int p1, .int p2, .int p3]) (lh_Q D cT S' ad A ((∀ b, gvN S b ≤ gvN S' b) ∧ True) (some (.int r))) 0 0 A := by
  refine Met.ofW (cc := cX9_put) (maxL := 6) (ret := (some .int)) (by decide) rfl ?_
  intro p e s m args below meth c s₁ B hml hv
  obtain ⟨hargs, hsz, hW, hK, hN⟩ := hv
  have hx := B.exec
  have hb := B.bytes
  have hr := B.returns
  have hts := atoms_spec (ws := wsX9_put) B.pre
  have hown : s.vm.findClass RX9 = some m.cls := findClass_of_methodNamed B.named
  have hlocks := B.notSynchronized
  have hA : ∀ q, s.heap.size ≤ q → A q := fun q h => hA q (by rw [← hsz]; exact h)
  have ok := lh_W_ok hW
  have hm : ∀ b, gvN S b ≤ gvN S b := fun _ => Nat.le_refl _
  obtain ⟨ls, hent, hl⟩ := lh_entry m args [lh_r ad 9 (some t), .int p1, .int p2, .int p3] 6 [(0, lh_r ad 9 (some t)), (1, .int p1), (2, .int p2), (3, .int p3)] hargs (by simp [lv_args, lh_cat_r, lh_cat_i, lh_cat_j]) (by simp [lg_sl, lh_cat_r, lh_cat_i, lh_cat_j])
  rw [hent]
  generalize hH : s.heap = H at hW ⊢
  have hS : va_S A s.heap H [] := by rw [← hH]; exact va_S.rf
  unfold f_X9_put at hf
  refine lh_aload_n hx hb dX9_put_0 rfl (lv_at hl 0 rfl) ?_
  refine lv_iload_n hx hb dX9_put_1 rfl (lv_at hl 1 rfl) ?_
  obtain ⟨r1, S2, k3, hf⟩ := dc_bd_ok hf
  refine lh_call (S' := S2) (lh_rv ⟨hx, hb, hml, hown, hts⟩ rfl (As := [.int p1]) (rest := []) (k := 9) (c_X9_rowAt l D cT n S ad A H.size (fun q9 h9 => hA q9 (Nat.le_trans hS.1 h9)) t p1 r1 S2 k3 L_t) (cwV 1 hts gX9_put_X9_rowAt rfl rfl rfl (by decide +kernel) ⟨Nat.le_of_ble_eq_true rfl, Nat.le_of_ble_eq_true rfl⟩) hK hN hW (L_t _ rfl) rfl rfl rfl hl.1 rfl (by simp [lh_cat_r, lh_cat_i, lh_cat_j]) dX9_put_2 ⟨Nat.le_of_ble_eq_true rfl, Nat.le_of_ble_eq_true rfl⟩) hS (fun H locs hX hW hS => ?_)
  refine W.widen (k := 0) (n := 0) (by omega) (by omega) ?_
  show W _ _ _ _ _ _ _ _ _ _ _ _ _ _ _ (F0 m 5 ls [lh_r ad 7 r1])
  have m4 : ∀ b, gvN S b ≤ gvN S2 b := hX.1
  have L_t : ∀ j, some t = some j → j < gvN S2 9 := fun j h => Nat.lt_of_lt_of_le (L_t j h) (m4 _)
  have hm : ∀ b, gvN S b ≤ gvN S2 b := lh_le_trans hm m4
  have ok := lh_W_ok hW
  have L5 := hX.2
  refine lh_astore (i := 4) (lv' := [(4, lh_r ad 7 r1), (0, lh_r ad 9 (some t)), (1, .int p1), (2, .int p2), (3, .int p3)]) hx hb dX9_put_5 hl (by decide) (by first | rfl | simp [lh_cat_r, lh_cat_i, lh_cat_j]) (fun ls hl => ?_)
  refine lh_aload_n hx hb dX9_put_7 rfl (lv_at hl 1 rfl) ?_
  refine lv_iload_n hx hb dX9_put_8 rfl (lv_at hl 4 rfl) ?_
  obtain ⟨r6, S7, k8, hf⟩ := dc_bd_ok hf
  refine lh_call (S' := S7) (lh_rv ⟨hx, hb, hml, hown, hts⟩ rfl (As := [.int p3]) (rest := []) (k := 9) (c_X9_classOfObject l D cT n S2 ad A H.size (fun q9 h9 => hA q9 (Nat.le_trans hS.1 h9)) t p3 r6 S7 k8 L_t) (cwV 1 hts gX9_put_X9_classOfObject rfl rfl rfl (by decide +kernel) ⟨Nat.le_of_ble_eq_true rfl, Nat.le_of_ble_eq_true rfl⟩) hK hN hW (L_t _ rfl) rfl rfl rfl hl.1 rfl (by simp [lh_cat_r, lh_cat_i, lh_cat_j]) dX9_put_9 ⟨Nat.le_of_ble_eq_true rfl, Nat.le_of_ble_eq_true rfl⟩) hS (fun H locs hX hW hS => ?_)
  refine W.widen (k := 0) (n := 0) (by omega) (by omega) ?_
  show W _ _ _ _ _ _ _ _ _ _ _ _ _ _ _ (F0 m 12 ls [lh_r ad 5 r6])
  have m9 : ∀ b, gvN S2 b ≤ gvN S7 b := hX.1
  have L5 : ∀ j, r1 = some j → j < gvN S7 7 := fun j h => Nat.lt_of_lt_of_le (L5 j h) (m9 _)
  have L_t : ∀ j, some t = some j → j < gvN S7 9 := fun j h => Nat.lt_of_lt_of_le (L_t j h) (m9 _)
  have hm : ∀ b, gvN S b ≤ gvN S7 b := lh_le_trans hm m9
  have ok := lh_W_ok hW
  have L10 := hX.2
  refine lh_astore (i := 5) (lv' := [(5, lh_r ad 5 r6), (4, lh_r ad 7 r1), (0, lh_r ad 9 (some t)), (1, .int p1), (2, .int p2), (3, .int p3)]) hx hb dX9_put_12 hl (by decide) (by first | rfl | simp [lh_cat_r, lh_cat_i, lh_cat_j]) (fun ls hl => ?_)
  refine lh_aload hx hb dX9_put_14 (lv_at hl 1 rfl) ?_
  refine lh_ifnull (tgt := 29) hx hb dX9_put_16 (by decide) (fun c11 => ?_) (fun c11 => ?_)
  · replace hf := dc_if_t c11 hf
    refine lv_bipush (v := -2) hx hb dX9_put_29 (by decide) ?_
    obtain ⟨rfl, rfl⟩ := dc_ret hf
    exact W.iret (v := (-2 : Int32)) hx hb hr (fun t9 ht9 hW9 => ⟨⟨rfl, ⟨hm, trivial⟩, by rw [ht9]; exact hW⟩, hS.F ht9⟩) hS.2.2 dX9_put_31
  · replace hf := dc_if_f c11 hf
    refine lh_aload hx hb dX9_put_19 (lv_at hl 0 rfl) ?_
    refine lh_ifnonnull (tgt := 32) hx hb dX9_put_21 (by decide) (fun c12 => ?_) (fun c12 => ?_)
    · replace hf := dc_if_f c12 hf
      refine lh_aload hx hb dX9_put_32 (lv_at hl 1 rfl) ?_
      refine lv_iload_n hx hb dX9_put_34 rfl (lv_at hl 4 rfl) ?_
      obtain ⟨x13, hx13, hf⟩ := dc_nn_ok hf
      obtain ⟨r14, S15, k16, hf⟩ := dc_bd_ok hf
      refine lh_call (S' := S15) (lh_rv ⟨hx, hb, hml, hown, hts⟩ hx13 (As := [.int p2]) (rest := []) (k := 7) (c_X7_hasPlace l D cT n S7 ad A H.size (fun q9 h9 => hA q9 (Nat.le_trans hS.1 h9)) x13 p2 r14 S15 k16 (lh_ls (L5 _ hx13))) (cwV 1 hts gX9_put_X7_hasPlace rfl rfl rfl (by decide +kernel) ⟨Nat.le_of_ble_eq_true rfl, Nat.le_of_ble_eq_true rfl⟩) hK hN hW (L5 _ hx13) rfl rfl rfl hl.1 rfl (by simp [lh_cat_r, lh_cat_i, lh_cat_j]) dX9_put_35 ⟨Nat.le_of_ble_eq_true rfl, Nat.le_of_ble_eq_true rfl⟩) hS (fun H locs hX hW hS => ?_)
      refine W.widen (k := 0) (n := 0) (by omega) (by omega) ?_
      show W _ _ _ _ _ _ _ _ _ _ _ _ _ _ _ (F0 m 38 ls [.int r14])
      have m17 : ∀ b, gvN S7 b ≤ gvN S15 b := hX.1
      have L10 : ∀ j, r6 = some j → j < gvN S15 5 := fun j h => Nat.lt_of_lt_of_le (L10 j h) (m17 _)
      have L5 : ∀ j, r1 = some j → j < gvN S15 7 := fun j h => Nat.lt_of_lt_of_le (L5 j h) (m17 _)
      have L_t : ∀ j, some t = some j → j < gvN S15 9 := fun j h => Nat.lt_of_lt_of_le (L_t j h) (m17 _)
      have hm : ∀ b, gvN S b ≤ gvN S15 b := lh_le_trans hm m17
      have ok := lh_W_ok hW
      have z18 := hX.2
      refine lv_if_ne (tgt := 51) hx hb dX9_put_38 (by decide) (fun c19 => ?_) (fun c19 => ?_)
      · replace hf := dc_if_f c19 hf
        refine lh_aload hx hb dX9_put_51 (lv_at hl 0 rfl) ?_
        refine lh_ifnull (tgt := 79) hx hb dX9_put_53 (by decide) (fun c20 => ?_) (fun c20 => ?_)
        · replace hf := dc_if_t c20 hf
          refine lh_aload hx hb dX9_put_79 (lv_at hl 1 rfl) ?_
          have L21 : ∀ j, gvR S15 7 x13 1 = some j → j < gvN S15 20 := fun j h => ok _ _ _ _ j (L5 _ hx13) rfl h
          refine lh_get (a := 7) (k := 1) (N := 2) (C := RX7) (T := TX7) (own := RX9) (ref := "LoaderModels$Row") hx hb hts (fun _ h => (List.mem_cons_of_mem _ (List.mem_append_left _ (List.mem_append_left _ (List.mem_append_right _ h))))) hown hK hW hx13 (L5 _ hx13) rfl rfl rfl (by decide) (hts (.fieldLink RX9 178 "LoaderModels$Row" "items" "[I") (List.mem_cons_of_mem _ (List.mem_append_left _ (List.mem_append_left _ (List.mem_append_left _ (List.mem_append_left _ (List.mem_of_getElem? (i := 1) rfl))))))) (fun _ h9 => h9) dX9_put_81 (v := lh_r ad 20 (gvR S15 7 x13 1)) rfl ?_
          refine lv_iload_n hx hb dX9_put_84 rfl (lv_at hl 4 rfl) ?_
          refine lv_iload_n hx hb dX9_put_85 rfl (lv_at hl 5 rfl) ?_
          obtain ⟨x22, hx22, hf⟩ := dc_nn_ok hf
          obtain ⟨g23, hf⟩ := dc_gd_ok hf
          obtain ⟨S24, eS24, hf⟩ := dc_let_ok hf
          refine lh_ast_i (a := 20) hx hb hK hW hS hx22 (L21 _ hx22) rfl (fun _ => rfl) g23 dX9_put_86 (fun H locs hW hS => ?_)
          rw [← eS24] at hW
          have m25 : ∀ b, gvN S15 b ≤ gvN S24 b := by rw [eS24]; exact lh_mI
          have L10 : ∀ j, r6 = some j → j < gvN S24 5 := fun j h => Nat.lt_of_lt_of_le (L10 j h) (m25 _)
          have L5 : ∀ j, r1 = some j → j < gvN S24 7 := fun j h => Nat.lt_of_lt_of_le (L5 j h) (m25 _)
          have L_t : ∀ j, some t = some j → j < gvN S24 9 := fun j h => Nat.lt_of_lt_of_le (L_t j h) (m25 _)
          have hm : ∀ b, gvN S b ≤ gvN S24 b := lh_le_trans hm m25
          have ok := lh_W_ok hW
          refine lv_iconst (v := 1) hx hb dX9_put_87 (by decide) ?_
          obtain ⟨rfl, rfl⟩ := dc_ret hf
          exact W.iret (v := (1 : Int32)) hx hb hr (fun t9 ht9 hW9 => ⟨⟨rfl, ⟨hm, trivial⟩, by rw [ht9]; exact hW⟩, hS.F ht9⟩) hS.2.2 dX9_put_88
        · replace hf := dc_if_f c20 hf
          refine lh_aload hx hb dX9_put_56 (lv_at hl 0 rfl) ?_
          refine lh_aload hx hb dX9_put_58 (lv_at hl 1 rfl) ?_
          have L26 : ∀ j, gvR S15 7 x13 0 = some j → j < gvN S15 5 := fun j h => ok _ _ _ _ j (L5 _ hx13) rfl h
          refine lh_get (a := 7) (k := 0) (N := 2) (C := RX7) (T := TX7) (own := RX9) (ref := "LoaderModels$Row") hx hb hts (fun _ h => (List.mem_cons_of_mem _ (List.mem_append_left _ (List.mem_append_left _ (List.mem_append_right _ h))))) hown hK hW hx13 (L5 _ hx13) rfl rfl rfl (by decide) (hts (.fieldLink RX9 174 "LoaderModels$Row" "model" "LLoaderModels$Model;") (List.mem_cons_of_mem _ (List.mem_append_left _ (List.mem_append_left _ (List.mem_append_left _ (List.mem_append_left _ (List.mem_of_getElem? (i := 0) rfl))))))) (fun _ h9 => h9) dX9_put_60 (v := lh_r ad 5 (gvR S15 7 x13 0)) rfl ?_
          obtain ⟨x27, hx27, hf⟩ := dc_nn_ok hf
          obtain ⟨r28, S29, k30, hf⟩ := dc_bd_ok hf
          refine lh_call (S' := S29) (lh_rv ⟨hx, hb, hml, hown, hts⟩ hx27 (As := [lh_r ad 5 (gvR S15 7 x13 0)]) (rest := []) (k := 5) (c_X5_isOf l D cT n S15 ad A H.size (fun q9 h9 => hA q9 (Nat.le_trans hS.1 h9)) x27 (gvR S15 7 x13 0) r28 S29 k30 (lh_ls (L10 _ hx27)) L26) (cwV 1 hts gX9_put_X5_isOf rfl rfl rfl (by decide +kernel) ⟨Nat.le_of_ble_eq_true rfl, Nat.le_of_ble_eq_true rfl⟩) hK hN hW (L10 _ hx27) rfl rfl rfl hl.1 rfl (by simp [lh_cat_r, lh_cat_i, lh_cat_j]) dX9_put_63 ⟨Nat.le_of_ble_eq_true rfl, Nat.le_of_ble_eq_true rfl⟩) hS (fun H locs hX hW hS => ?_)
          refine W.widen (k := 0) (n := 0) (by omega) (by omega) ?_
          show W _ _ _ _ _ _ _ _ _ _ _ _ _ _ _ (F0 m 66 ls [.int r28])
          have m31 : ∀ b, gvN S15 b ≤ gvN S29 b := hX.1
          have L10 : ∀ j, r6 = some j → j < gvN S29 5 := fun j h => Nat.lt_of_lt_of_le (L10 j h) (m31 _)
          have L5 : ∀ j, r1 = some j → j < gvN S29 7 := fun j h => Nat.lt_of_lt_of_le (L5 j h) (m31 _)
          have L_t : ∀ j, some t = some j → j < gvN S29 9 := fun j h => Nat.lt_of_lt_of_le (L_t j h) (m31 _)
          have hm : ∀ b, gvN S b ≤ gvN S29 b := lh_le_trans hm m31
          have ok := lh_W_ok hW
          have z32 := hX.2
          refine lv_if_ne (tgt := 79) hx hb dX9_put_66 (by decide) (fun c33 => ?_) (fun c33 => ?_)
          · replace hf := dc_if_f c33 hf
            refine lh_aload hx hb dX9_put_79 (lv_at hl 1 rfl) ?_
            have L34 : ∀ j, gvR S29 7 x13 1 = some j → j < gvN S29 20 := fun j h => ok _ _ _ _ j (L5 _ hx13) rfl h
            refine lh_get (a := 7) (k := 1) (N := 2) (C := RX7) (T := TX7) (own := RX9) (ref := "LoaderModels$Row") hx hb hts (fun _ h => (List.mem_cons_of_mem _ (List.mem_append_left _ (List.mem_append_left _ (List.mem_append_right _ h))))) hown hK hW hx13 (L5 _ hx13) rfl rfl rfl (by decide) (hts (.fieldLink RX9 178 "LoaderModels$Row" "items" "[I") (List.mem_cons_of_mem _ (List.mem_append_left _ (List.mem_append_left _ (List.mem_append_left _ (List.mem_append_left _ (List.mem_of_getElem? (i := 1) rfl))))))) (fun _ h9 => h9) dX9_put_81 (v := lh_r ad 20 (gvR S29 7 x13 1)) rfl ?_
            refine lv_iload_n hx hb dX9_put_84 rfl (lv_at hl 4 rfl) ?_
            refine lv_iload_n hx hb dX9_put_85 rfl (lv_at hl 5 rfl) ?_
            obtain ⟨x35, hx35, hf⟩ := dc_nn_ok hf
            obtain ⟨g36, hf⟩ := dc_gd_ok hf
            obtain ⟨S37, eS37, hf⟩ := dc_let_ok hf
            refine lh_ast_i (a := 20) hx hb hK hW hS hx35 (L34 _ hx35) rfl (fun _ => rfl) g36 dX9_put_86 (fun H locs hW hS => ?_)
            rw [← eS37] at hW
            have m38 : ∀ b, gvN S29 b ≤ gvN S37 b := by rw [eS37]; exact lh_mI
            have L10 : ∀ j, r6 = some j → j < gvN S37 5 := fun j h => Nat.lt_of_lt_of_le (L10 j h) (m38 _)
            have L5 : ∀ j, r1 = some j → j < gvN S37 7 := fun j h => Nat.lt_of_lt_of_le (L5 j h) (m38 _)
            have L_t : ∀ j, some t = some j → j < gvN S37 9 := fun j h => Nat.lt_of_lt_of_le (L_t j h) (m38 _)
            have hm : ∀ b, gvN S b ≤ gvN S37 b := lh_le_trans hm m38
            have ok := lh_W_ok hW
            refine lv_iconst (v := 1) hx hb dX9_put_87 (by decide) ?_
            obtain ⟨rfl, rfl⟩ := dc_ret hf
            exact W.iret (v := (1 : Int32)) hx hb hr (fun t9 ht9 hW9 => ⟨⟨rfl, ⟨hm, trivial⟩, by rw [ht9]; exact hW⟩, hS.F ht9⟩) hS.2.2 dX9_put_88
          · replace hf := dc_if_t c33 hf
            refine lh_aload_n hx hb dX9_put_69 rfl (lv_at hl 2 rfl) ?_
            refine lv_bipush (v := 8) hx hb dX9_put_70 (by decide) ?_
            obtain ⟨r39, S40, k41, hf⟩ := dc_bd_ok hf
            refine lh_call (S' := S40) (lh_rs ⟨hx, hb, hml, hown, hts⟩ (As := [.int (8 : Int32)]) (rest := [lh_r ad 9 (some t)]) (c_X9_failed l D cT n S29 ad A H.size (fun q9 h9 => hA q9 (Nat.le_trans hS.1 h9)) (8 : Int32) r39 S40 k41 ) (va_cwS 1 hts gX9_put_X9_failed rfl rfl rfl (by decide +kernel) ⟨Nat.le_of_ble_eq_true rfl, Nat.le_of_ble_eq_true rfl⟩) hK hN hW rfl hl.1 rfl (by simp [lh_cat_r, lh_cat_i, lh_cat_j]) dX9_put_72 ⟨Nat.le_of_ble_eq_true rfl, Nat.le_of_ble_eq_true rfl⟩) hS (fun H locs hX hW hS => ?_)
            refine W.widen (k := 0) (n := 0) (by omega) (by omega) ?_
            show W _ _ _ _ _ _ _ _ _ _ _ _ _ _ _ (F0 m 75 ls [.int r39, lh_r ad 9 (some t)])
            have m42 : ∀ b, gvN S29 b ≤ gvN S40 b := hX.1
            have L10 : ∀ j, r6 = some j → j < gvN S40 5 := fun j h => Nat.lt_of_lt_of_le (L10 j h) (m42 _)
            have L5 : ∀ j, r1 = some j → j < gvN S40 7 := fun j h => Nat.lt_of_lt_of_le (L5 j h) (m42 _)
            have L_t : ∀ j, some t = some j → j < gvN S40 9 := fun j h => Nat.lt_of_lt_of_le (L_t j h) (m42 _)
            have hm : ∀ b, gvN S b ≤ gvN S40 b := lh_le_trans hm m42
            have ok := lh_W_ok hW
            obtain ⟨r43, S44, k45, hf⟩ := dc_bd_ok hf
            refine lh_call (S' := S44) (lh_rv ⟨hx, hb, hml, hown, hts⟩ rfl (As := [.int r39]) (rest := []) (k := 9) (c_X9_answered l D cT n S40 ad A H.size (fun q9 h9 => hA q9 (Nat.le_trans hS.1 h9)) t r39 r43 S44 k45 L_t) (cwV 1 hts gX9_put_X9_answered rfl rfl rfl (by decide +kernel) ⟨Nat.le_of_ble_eq_true rfl, Nat.le_of_ble_eq_true rfl⟩) hK hN hW (L_t _ rfl) rfl rfl rfl hl.1 rfl (by simp [lh_cat_r, lh_cat_i, lh_cat_j]) dX9_put_75 ⟨Nat.le_of_ble_eq_true rfl, Nat.le_of_ble_eq_true rfl⟩) hS (fun H locs hX hW hS => ?_)
            refine W.widen (k := 0) (n := 0) (by omega) (by omega) ?_
            show W _ _ _ _ _ _ _ _ _ _ _ _ _ _ _ (F0 m 78 ls [.int r43])
            have m46 : ∀ b, gvN S40 b ≤ gvN S44 b := hX.1
            have L10 : ∀ j, r6 = some j → j < gvN S44 5 := fun j h => Nat.lt_of_lt_of_le (L10 j h) (m46 _)
            have L5 : ∀ j, r1 = some j → j < gvN S44 7 := fun j h => Nat.lt_of_lt_of_le (L5 j h) (m46 _)
            have L_t : ∀ j, some t = some j → j < gvN S44 9 := fun j h => Nat.lt_of_lt_of_le (L_t j h) (m46 _)
            have hm : ∀ b, gvN S b ≤ gvN S44 b := lh_le_trans hm m46
            have ok := lh_W_ok hW
            obtain ⟨rfl, rfl⟩ := dc_ret hf
            exact W.iret (v := r43) hx hb hr (fun t9 ht9 hW9 => ⟨⟨rfl, ⟨hm, trivial⟩, by rw [ht9]; exact hW⟩, hS.F ht9⟩) hS.2.2 dX9_put_78
      · replace hf := dc_if_t c19 hf
        refine lh_aload_n hx hb dX9_put_41 rfl (lv_at hl 2 rfl) ?_
        refine lv_bipush (v := 11) hx hb dX9_put_42 (by decide) ?_
        obtain ⟨r47, S48, k49, hf⟩ := dc_bd_ok hf
        refine lh_call (S' := S48) (lh_rs ⟨hx, hb, hml, hown, hts⟩ (As := [.int (11 : Int32)]) (rest := [lh_r ad 9 (some t)]) (c_X9_failed l D cT n S15 ad A H.size (fun q9 h9 => hA q9 (Nat.le_trans hS.1 h9)) (11 : Int32) r47 S48 k49 ) (va_cwS 1 hts gX9_put_X9_failed rfl rfl rfl (by decide +kernel) ⟨Nat.le_of_ble_eq_true rfl, Nat.le_of_ble_eq_true rfl⟩) hK hN hW rfl hl.1 rfl (by simp [lh_cat_r, lh_cat_i, lh_cat_j]) dX9_put_44 ⟨Nat.le_of_ble_eq_true rfl, Nat.le_of_ble_eq_true rfl⟩) hS (fun H locs hX hW hS => ?_)
        refine W.widen (k := 0) (n := 0) (by omega) (by omega) ?_
        show W _ _ _ _ _ _ _ _ _ _ _ _ _ _ _ (F0 m 47 ls [.int r47, lh_r ad 9 (some t)])
        have m50 : ∀ b, gvN S15 b ≤ gvN S48 b := hX.1
        have L10 : ∀ j, r6 = some j → j < gvN S48 5 := fun j h => Nat.lt_of_lt_of_le (L10 j h) (m50 _)
        have L5 : ∀ j, r1 = some j → j < gvN S48 7 := fun j h => Nat.lt_of_lt_of_le (L5 j h) (m50 _)
        have L_t : ∀ j, some t = some j → j < gvN S48 9 := fun j h => Nat.lt_of_lt_of_le (L_t j h) (m50 _)
        have hm : ∀ b, gvN S b ≤ gvN S48 b := lh_le_trans hm m50
        have ok := lh_W_ok hW
        obtain ⟨r51, S52, k53, hf⟩ := dc_bd_ok hf
        refine lh_call (S' := S52) (lh_rv ⟨hx, hb, hml, hown, hts⟩ rfl (As := [.int r47]) (rest := []) (k := 9) (c_X9_answered l D cT n S48 ad A H.size (fun q9 h9 => hA q9 (Nat.le_trans hS.1 h9)) t r47 r51 S52 k53 L_t) (cwV 1 hts gX9_put_X9_answered rfl rfl rfl (by decide +kernel) ⟨Nat.le_of_ble_eq_true rfl, Nat.le_of_ble_eq_true rfl⟩) hK hN hW (L_t _ rfl) rfl rfl rfl hl.1 rfl (by simp [lh_cat_r, lh_cat_i, lh_cat_j]) dX9_put_47 ⟨Nat.le_of_ble_eq_true rfl, Nat.le_of_ble_eq_true rfl⟩) hS (fun H locs hX hW hS => ?_)
        refine W.widen (k := 0) (n := 0) (by omega) (by omega) ?_
        show W _ _ _ _ _ _ _ _ _ _ _ _ _ _ _ (F0 m 50 ls [.int r51])
        have m54 : ∀ b, gvN S48 b ≤ gvN S52 b := hX.1
        have L10 : ∀ j, r6 = some j → j < gvN S52 5 := fun j h => Nat.lt_of_lt_of_le (L10 j h) (m54 _)
        have L5 : ∀ j, r1 = some j → j < gvN S52 7 := fun j h => Nat.lt_of_lt_of_le (L5 j h) (m54 _)
        have L_t : ∀ j, some t = some j → j < gvN S52 9 := fun j h => Nat.lt_of_lt_of_le (L_t j h) (m54 _)
        have hm : ∀ b, gvN S b ≤ gvN S52 b := lh_le_trans hm m54
        have ok := lh_W_ok hW
        obtain ⟨rfl, rfl⟩ := dc_ret hf
        exact W.iret (v := r51) hx hb hr (fun t9 ht9 hW9 => ⟨⟨rfl, ⟨hm, trivial⟩, by rw [ht9]; exact hW⟩, hS.F ht9⟩) hS.2.2 dX9_put_50
    · replace hf := dc_if_t c12 hf
      refine lv_iload_n hx hb dX9_put_24 rfl (lv_at hl 5 rfl) ?_
      refine lv_iconst (v := -1) hx hb dX9_put_25 (by decide) ?_
      refine lv_icmp_eq (tgt := 32) hx hb dX9_put_26 (by decide) (fun c55 => ?_) (fun c55 => ?_)
      · replace hf := dc_if_t c55 hf
        refine lh_aload hx hb dX9_put_32 (lv_at hl 1 rfl) ?_
        refine lv_iload_n hx hb dX9_put_34 rfl (lv_at hl 4 rfl) ?_
        obtain ⟨x56, hx56, hf⟩ := dc_nn_ok hf
        obtain ⟨r57, S58, k59, hf⟩ := dc_bd_ok hf
        refine lh_call (S' := S58) (lh_rv ⟨hx, hb, hml, hown, hts⟩ hx56 (As := [.int p2]) (rest := []) (k := 7) (c_X7_hasPlace l D cT n S7 ad A H.size (fun q9 h9 => hA q9 (Nat.le_trans hS.1 h9)) x56 p2 r57 S58 k59 (lh_ls (L5 _ hx56))) (cwV 1 hts gX9_put_X7_hasPlace rfl rfl rfl (by decide +kernel) ⟨Nat.le_of_ble_eq_true rfl, Nat.le_of_ble_eq_true rfl⟩) hK hN hW (L5 _ hx56) rfl rfl rfl hl.1 rfl (by simp [lh_cat_r, lh_cat_i, lh_cat_j]) dX9_put_35 ⟨Nat.le_of_ble_eq_true rfl, Nat.le_of_ble_eq_true rfl⟩) hS (fun H locs hX hW hS => ?_)
        refine W.widen (k := 0) (n := 0) (by omega) (by omega) ?_
        show W _ _ _ _ _ _ _ _ _ _ _ _ _ _ _ (F0 m 38 ls [.int r57])
        have m60 : ∀ b, gvN S7 b ≤ gvN S58 b := hX.1
        have L10 : ∀ j, r6 = some j → j < gvN S58 5 := fun j h => Nat.lt_of_lt_of_le (L10 j h) (m60 _)
        have L5 : ∀ j, r1 = some j → j < gvN S58 7 := fun j h => Nat.lt_of_lt_of_le (L5 j h) (m60 _)
        have L_t : ∀ j, some t = some j → j < gvN S58 9 := fun j h => Nat.lt_of_lt_of_le (L_t j h) (m60 _)
        have hm : ∀ b, gvN S b ≤ gvN S58 b := lh_le_trans hm m60
        have ok := lh_W_ok hW
        have z61 := hX.2
        refine lv_if_ne (tgt := 51) hx hb dX9_put_38 (by decide) (fun c62 => ?_) (fun c62 => ?_)
        · replace hf := dc_if_f c62 hf
          refine lh_aload hx hb dX9_put_51 (lv_at hl 0 rfl) ?_
          refine lh_ifnull (tgt := 79) hx hb dX9_put_53 (by decide) (fun c63 => ?_) (fun c63 => ?_)
          · replace hf := dc_if_t c63 hf
            refine lh_aload hx hb dX9_put_79 (lv_at hl 1 rfl) ?_
            have L64 : ∀ j, gvR S58 7 x56 1 = some j → j < gvN S58 20 := fun j h => ok _ _ _ _ j (L5 _ hx56) rfl h
            refine lh_get (a := 7) (k := 1) (N := 2) (C := RX7) (T := TX7) (own := RX9) (ref := "LoaderModels$Row") hx hb hts (fun _ h => (List.mem_cons_of_mem _ (List.mem_append_left _ (List.mem_append_left _ (List.mem_append_right _ h))))) hown hK hW hx56 (L5 _ hx56) rfl rfl rfl (by decide) (hts (.fieldLink RX9 178 "LoaderModels$Row" "items" "[I") (List.mem_cons_of_mem _ (List.mem_append_left _ (List.mem_append_left _ (List.mem_append_left _ (List.mem_append_left _ (List.mem_of_getElem? (i := 1) rfl))))))) (fun _ h9 => h9) dX9_put_81 (v := lh_r ad 20 (gvR S58 7 x56 1)) rfl ?_
            refine lv_iload_n hx hb dX9_put_84 rfl (lv_at hl 4 rfl) ?_
            refine lv_iload_n hx hb dX9_put_85 rfl (lv_at hl 5 rfl) ?_
            obtain ⟨x65, hx65, hf⟩ := dc_nn_ok hf
            obtain ⟨g66, hf⟩ := dc_gd_ok hf
            obtain ⟨S67, eS67, hf⟩ := dc_let_ok hf
            refine lh_ast_i (a := 20) hx hb hK hW hS hx65 (L64 _ hx65) rfl (fun _ => rfl) g66 dX9_put_86 (fun H locs hW hS => ?_)
            rw [← eS67] at hW
            have m68 : ∀ b, gvN S58 b ≤ gvN S67 b := by rw [eS67]; exact lh_mI
            have L10 : ∀ j, r6 = some j → j < gvN S67 5 := fun j h => Nat.lt_of_lt_of_le (L10 j h) (m68 _)
            have L5 : ∀ j, r1 = some j → j < gvN S67 7 := fun j h => Nat.lt_of_lt_of_le (L5 j h) (m68 _)
            have L_t : ∀ j, some t = some j → j < gvN S67 9 := fun j h => Nat.lt_of_lt_of_le (L_t j h) (m68 _)
            have hm : ∀ b, gvN S b ≤ gvN S67 b := lh_le_trans hm m68
            have ok := lh_W_ok hW
            refine lv_iconst (v := 1) hx hb dX9_put_87 (by decide) ?_
            obtain ⟨rfl, rfl⟩ := dc_ret hf
            exact W.iret (v := (1 : Int32)) hx hb hr (fun t9 ht9 hW9 => ⟨⟨rfl, ⟨hm, trivial⟩, by rw [ht9]; exact hW⟩, hS.F ht9⟩) hS.2.2 dX9_put_88
          · replace hf := dc_if_f c63 hf
            refine lh_aload hx hb dX9_put_56 (lv_at hl 0 rfl) ?_
            refine lh_aload hx hb dX9_put_58 (lv_at hl 1 rfl) ?_
            have L69 : ∀ j, gvR S58 7 x56 0 = some j → j < gvN S58 5 := fun j h => ok _ _ _ _ j (L5 _ hx56) rfl h
            refine lh_get (a := 7) (k := 0) (N := 2) (C := RX7) (T := TX7) (own := RX9) (ref := "LoaderModels$Row") hx hb hts (fun _ h => (List.mem_cons_of_mem _ (List.mem_append_left _ (List.mem_append_left _ (List.mem_append_right _ h))))) hown hK hW hx56 (L5 _ hx56) rfl rfl rfl (by decide) (hts (.fieldLink RX9 174 "LoaderModels$Row" "model" "LLoaderModels$Model;") (List.mem_cons_of_mem _ (List.mem_append_left _ (List.mem_append_left _ (List.mem_append_left _ (List.mem_append_left _ (List.mem_of_getElem? (i := 0) rfl))))))) (fun _ h9 => h9) dX9_put_60 (v := lh_r ad 5 (gvR S58 7 x56 0)) rfl ?_
            obtain ⟨x70, hx70, hf⟩ := dc_nn_ok hf
            obtain ⟨r71, S72, k73, hf⟩ := dc_bd_ok hf
            refine lh_call (S' := S72) (lh_rv ⟨hx, hb, hml, hown, hts⟩ hx70 (As := [lh_r ad 5 (gvR S58 7 x56 0)]) (rest := []) (k := 5) (c_X5_isOf l D cT n S58 ad A H.size (fun q9 h9 => hA q9 (Nat.le_trans hS.1 h9)) x70 (gvR S58 7 x56 0) r71 S72 k73 (lh_ls (L10 _ hx70)) L69) (cwV 1 hts gX9_put_X5_isOf rfl rfl rfl (by decide +kernel) ⟨Nat.le_of_ble_eq_true rfl, Nat.le_of_ble_eq_true rfl⟩) hK hN hW (L10 _ hx70) rfl rfl rfl hl.1 rfl (by simp [lh_cat_r, lh_cat_i, lh_cat_j]) dX9_put_63 ⟨Nat.le_of_ble_eq_true rfl, Nat.le_of_ble_eq_true rfl⟩) hS (fun H locs hX hW hS => ?_)
            refine W.widen (k := 0) (n := 0) (by omega) (by omega) ?_
            show W _ _ _ _ _ _ _ _ _ _ _ _ _ _ _ (F0 m 66 ls [.int r71])
            have m74 : ∀ b, gvN S58 b ≤ gvN S72 b := hX.1
            have L10 : ∀ j, r6 = some j → j < gvN S72 5 := fun j h => Nat.lt_of_lt_of_le (L10 j h) (m74 _)
            have L5 : ∀ j, r1 = some j → j < gvN S72 7 := fun j h => Nat.lt_of_lt_of_le (L5 j h) (m74 _)
            have L_t : ∀ j, some t = some j → j < gvN S72 9 := fun j h => Nat.lt_of_lt_of_le (L_t j h) (m74 _)
            have hm : ∀ b, gvN S b ≤ gvN S72 b := lh_le_trans hm m74
            have ok := lh_W_ok hW
            have z75 := hX.2
            refine lv_if_ne (tgt := 79) hx hb dX9_put_66 (by decide) (fun c76 => ?_) (fun c76 => ?_)
            · replace hf := dc_if_f c76 hf
              refine lh_aload hx hb dX9_put_79 (lv_at hl 1 rfl) ?_
              have L77 : ∀ j, gvR S72 7 x56 1 = some j → j < gvN S72 20 := fun j h => ok _ _ _ _ j (L5 _ hx56) rfl h
              refine lh_get (a := 7) (k := 1) (N := 2) (C := RX7) (T := TX7) (own := RX9) (ref := "LoaderModels$Row") hx hb hts (fun _ h => (List.mem_cons_of_mem _ (List.mem_append_left _ (List.mem_append_left _ (List.mem_append_right _ h))))) hown hK hW hx56 (L5 _ hx56) rfl rfl rfl (by decide) (hts (.fieldLink RX9 178 "LoaderModels$Row" "items" "[I") (List.mem_cons_of_mem _ (List.mem_append_left _ (List.mem_append_left _ (List.mem_append_left _ (List.mem_append_left _ (List.mem_of_getElem? (i := 1) rfl))))))) (fun _ h9 => h9) dX9_put_81 (v := lh_r ad 20 (gvR S72 7 x56 1)) rfl ?_
              refine lv_iload_n hx hb dX9_put_84 rfl (lv_at hl 4 rfl) ?_
              refine lv_iload_n hx hb dX9_put_85 rfl (lv_at hl 5 rfl) ?_
              obtain ⟨x78, hx78, hf⟩ := dc_nn_ok hf
              obtain ⟨g79, hf⟩ := dc_gd_ok hf
              obtain ⟨S80, eS80, hf⟩ := dc_let_ok hf
              refine lh_ast_i (a := 20) hx hb hK hW hS hx78 (L77 _ hx78) rfl (fun _ => rfl) g79 dX9_put_86 (fun H locs hW hS => ?_)
              rw [← eS80] at hW
              have m81 : ∀ b, gvN S72 b ≤ gvN S80 b := by rw [eS80]; exact lh_mI
              have L10 : ∀ j, r6 = some j → j < gvN S80 5 := fun j h => Nat.lt_of_lt_of_le (L10 j h) (m81 _)
              have L5 : ∀ j, r1 = some j → j < gvN S80 7 := fun j h => Nat.lt_of_lt_of_le (L5 j h) (m81 _)
              have L_t : ∀ j, some t = some j → j < gvN S80 9 := fun j h => Nat.lt_of_lt_of_le (L_t j h) (m81 _)
              have hm : ∀ b, gvN S b ≤ gvN S80 b := lh_le_trans hm m81
              have ok := lh_W_ok hW
              refine lv_iconst (v := 1) hx hb dX9_put_87 (by decide) ?_
              obtain ⟨rfl, rfl⟩ := dc_ret hf
              exact W.iret (v := (1 : Int32)) hx hb hr (fun t9 ht9 hW9 => ⟨⟨rfl, ⟨hm, trivial⟩, by rw [ht9]; exact hW⟩, hS.F ht9⟩) hS.2.2 dX9_put_88
            · replace hf := dc_if_t c76 hf
              refine lh_aload_n hx hb dX9_put_69 rfl (lv_at hl 2 rfl) ?_
              refine lv_bipush (v := 8) hx hb dX9_put_70 (by decide) ?_
              obtain ⟨r82, S83, k84, hf⟩ := dc_bd_ok hf
              refine lh_call (S' := S83) (lh_rs ⟨hx, hb, hml, hown, hts⟩ (As := [.int (8 : Int32)]) (rest := [lh_r ad 9 (some t)]) (c_X9_failed l D cT n S72 ad A H.size (fun q9 h9 => hA q9 (Nat.le_trans hS.1 h9)) (8 : Int32) r82 S83 k84 ) (va_cwS 1 hts gX9_put_X9_failed rfl rfl rfl (by decide +kernel) ⟨Nat.le_of_ble_eq_true rfl, Nat.le_of_ble_eq_true rfl⟩) hK hN hW rfl hl.1 rfl (by simp [lh_cat_r, lh_cat_i, lh_cat_j]) dX9_put_72 ⟨Nat.le_of_ble_eq_true rfl, Nat.le_of_ble_eq_true rfl⟩) hS (fun H locs hX hW hS => ?_)
              refine W.widen (k := 0) (n := 0) (by omega) (by omega) ?_
              show W _ _ _ _ _ _ _ _ _ _ _ _ _ _ _ (F0 m 75 ls [.int r82, lh_r ad 9 (some t)])
              have m85 : ∀ b, gvN S72 b ≤ gvN S83 b := hX.1
              have L10 : ∀ j, r6 = some j → j < gvN S83 5 := fun j h => Nat.lt_of_lt_of_le (L10 j h) (m85 _)
              have L5 : ∀ j, r1 = some j → j < gvN S83 7 := fun j h => Nat.lt_of_lt_of_le (L5 j h) (m85 _)
              have L_t : ∀ j, some t = some j → j < gvN S83 9 := fun j h => Nat.lt_of_lt_of_le (L_t j h) (m85 _)
              have hm : ∀ b, gvN S b ≤ gvN S83 b := lh_le_trans hm m85
              have ok := lh_W_ok hW
              obtain ⟨r86, S87, k88, hf⟩ := dc_bd_ok hf
              refine lh_call (S' := S87) (lh_rv ⟨hx, hb, hml, hown, hts⟩ rfl (As := [.int r82]) (rest := []) (k := 9) (c_X9_answered l D cT n S83 ad A H.size (fun q9 h9 => hA q9 (Nat.le_trans hS.1 h9)) t r82 r86 S87 k88 L_t) (cwV 1 hts gX9_put_X9_answered rfl rfl rfl (by decide +kernel) ⟨Nat.le_of_ble_eq_true rfl, Nat.le_of_ble_eq_true rfl⟩) hK hN hW (L_t _ rfl) rfl rfl rfl hl.1 rfl (by simp [lh_cat_r, lh_cat_i, lh_cat_j]) dX9_put_75 ⟨Nat.le_of_ble_eq_true rfl, Nat.le_of_ble_eq_true rfl⟩) hS (fun H locs hX hW hS => ?_)
              refine W.widen (k := 0) (n := 0) (by omega) (by omega) ?_
              show W _ _ _ _ _ _ _ _ _ _ _ _ _ _ _ (F0 m 78 ls [.int r86])
              have m89 : ∀ b, gvN S83 b ≤ gvN S87 b := hX.1
              have L10 : ∀ j, r6 = some j → j < gvN S87 5 := fun j h => Nat.lt_of_lt_of_le (L10 j h) (m89 _)
              have L5 : ∀ j, r1 = some j → j < gvN S87 7 := fun j h => Nat.lt_of_lt_of_le (L5 j h) (m89 _)
              have L_t : ∀ j, some t = some j → j < gvN S87 9 := fun j h => Nat.lt_of_lt_of_le (L_t j h) (m89 _)
              have hm : ∀ b, gvN S b ≤ gvN S87 b := lh_le_trans hm m89
              have ok := lh_W_ok hW
              obtain ⟨rfl, rfl⟩ := dc_ret hf
              exact W.iret (v := r86) hx hb hr (fun t9 ht9 hW9 => ⟨⟨rfl, ⟨hm, trivial⟩, by rw [ht9]; exact hW⟩, hS.F ht9⟩) hS.2.2 dX9_put_78
        · replace hf := dc_if_t c62 hf
          refine lh_aload_n hx hb dX9_put_41 rfl (lv_at hl 2 rfl) ?_
          refine lv_bipush (v := 11) hx hb dX9_put_42 (by decide) ?_
          obtain ⟨r90, S91, k92, hf⟩ := dc_bd_ok hf
          refine lh_call (S' := S91) (lh_rs ⟨hx, hb, hml, hown, hts⟩ (As := [.int (11 : Int32)]) (rest := [lh_r ad 9 (some t)]) (c_X9_failed l D cT n S58 ad A H.size (fun q9 h9 => hA q9 (Nat.le_trans hS.1 h9)) (11 : Int32) r90 S91 k92 ) (va_cwS 1 hts gX9_put_X9_failed rfl rfl rfl (by decide +kernel) ⟨Nat.le_of_ble_eq_true rfl, Nat.le_of_ble_eq_true rfl⟩) hK hN hW rfl hl.1 rfl (by simp [lh_cat_r, lh_cat_i, lh_cat_j]) dX9_put_44 ⟨Nat.le_of_ble_eq_true rfl, Nat.le_of_ble_eq_true rfl⟩) hS (fun H locs hX hW hS => ?_)
          refine W.widen (k := 0) (n := 0) (by omega) (by omega) ?_
          show W _ _ _ _ _ _ _ _ _ _ _ _ _ _ _ (F0 m 47 ls [.int r90, lh_r ad 9 (some t)])
          have m93 : ∀ b, gvN S58 b ≤ gvN S91 b := hX.1
          have L10 : ∀ j, r6 = some j → j < gvN S91 5 := fun j h => Nat.lt_of_lt_of_le (L10 j h) (m93 _)
          have L5 : ∀ j, r1 = some j → j < gvN S91 7 := fun j h => Nat.lt_of_lt_of_le (L5 j h) (m93 _)
          have L_t : ∀ j, some t = some j → j < gvN S91 9 := fun j h => Nat.lt_of_lt_of_le (L_t j h) (m93 _)
          have hm : ∀ b, gvN S b ≤ gvN S91 b := lh_le_trans hm m93
          have ok := lh_W_ok hW
          obtain ⟨r94, S95, k96, hf⟩ := dc_bd_ok hf
          refine lh_call (S' := S95) (lh_rv ⟨hx, hb, hml, hown, hts⟩ rfl (As := [.int r90]) (rest := []) (k := 9) (c_X9_answered l D cT n S91 ad A H.size (fun q9 h9 => hA q9 (Nat.le_trans hS.1 h9)) t r90 r94 S95 k96 L_t) (cwV 1 hts gX9_put_X9_answered rfl rfl rfl (by decide +kernel) ⟨Nat.le_of_ble_eq_true rfl, Nat.le_of_ble_eq_true rfl⟩) hK hN hW (L_t _ rfl) rfl rfl rfl hl.1 rfl (by simp [lh_cat_r, lh_cat_i, lh_cat_j]) dX9_put_47 ⟨Nat.le_of_ble_eq_true rfl, Nat.le_of_ble_eq_true rfl⟩) hS (fun H locs hX hW hS => ?_)
          refine W.widen (k := 0) (n := 0) (by omega) (by omega) ?_
          show W _ _ _ _ _ _ _ _ _ _ _ _ _ _ _ (F0 m 50 ls [.int r94])
          have m97 : ∀ b, gvN S91 b ≤ gvN S95 b := hX.1
          have L10 : ∀ j, r6 = some j → j < gvN S95 5 := fun j h => Nat.lt_of_lt_of_le (L10 j h) (m97 _)
          have L5 : ∀ j, r1 = some j → j < gvN S95 7 := fun j h => Nat.lt_of_lt_of_le (L5 j h) (m97 _)
          have L_t : ∀ j, some t = some j → j < gvN S95 9 := fun j h => Nat.lt_of_lt_of_le (L_t j h) (m97 _)
          have hm : ∀ b, gvN S b ≤ gvN S95 b := lh_le_trans hm m97
          have ok := lh_W_ok hW
          obtain ⟨rfl, rfl⟩ := dc_ret hf
          exact W.iret (v := r94) hx hb hr (fun t9 ht9 hW9 => ⟨⟨rfl, ⟨hm, trivial⟩, by rw [ht9]; exact hW⟩, hS.F ht9⟩) hS.2.2 dX9_put_50
      · replace hf := dc_if_f c55 hf
        refine lv_bipush (v := -2) hx hb dX9_put_29 (by decide) ?_
        obtain ⟨rfl, rfl⟩ := dc_ret hf
        exact W.iret (v := (-2 : Int32)) hx hb hr (fun t9 ht9 hW9 => ⟨⟨rfl, ⟨hm, trivial⟩, by rw [ht9]; exact hW⟩, hS.F ht9⟩) hS.2.2 dX9_put_31
def f_X9_get (n : Nat) (S : lh_S) (t : Nat) (p1 : Int32) (p2 : Int32) : Option (Int32 × lh_S) :=
  dc_bd (f_X9_rowAt n S t p1) fun r1 S2 =>
  dc_if (r1 = none) (
  some ((-2 : Int32), S2)) (
  dc_nn r1 fun x7 =>
  dc_bd (f_X7_hasPlace n S2 x7 p2) fun r8 S9 =>
  dc_if (r8 = 0) (
  dc_bd (f_X9_failed n S9 (11 : Int32)) fun r14 S15 =>
  dc_bd (f_X9_answered n S15 t r14) fun r18 S19 =>
  some (r18, S19)) (
  dc_nn (gvR S9 7 x7 1) fun x23 =>
  dc_gd (p2 < 0 ∨ gvL S9 20 x23 ≤ (p2).toNatClampNeg) (
  some (gvI S9 20 x23 (p2).toNatClampNeg, S9))))
set_option maxHeartbeats 1000000 in
theorem m_X9_get {n : Nat} {S : lh_S} {t : Nat} {p1 : Int32} {p2 : Int32} {r : Int32} {S' : lh_S} (hf : f_X9_get n S t p1 p2 = some (r, S')) : ∀ b, gvN S b ≤ gvN S' b := by
  have hm : ∀ b, gvN S b ≤ gvN S b := fun _ => Nat.le_refl _
  unfold f_X9_get at hf
  obtain ⟨r1, S2, k3, hf⟩ := dc_bd_ok hf
  have hm := lh_le_trans hm (show ∀ b, gvN S b ≤ gvN S2 b from m_X9_rowAt k3)
  by_cases c6 : r1 = none
  · replace hf := dc_if_t c6 hf
    obtain ⟨_, rfl⟩ := dc_ret hf
    exact hm
  · replace hf := dc_if_f c6 hf
    obtain ⟨x7, hx7, hf⟩ := dc_nn_ok hf
    obtain ⟨r8, S9, k10, hf⟩ := dc_bd_ok hf
    have hm := lh_le_trans hm (show ∀ b, gvN S2 b ≤ gvN S9 b from m_X7_hasPlace k10)
    by_cases c13 : r8 = 0
    · replace hf := dc_if_t c13 hf
      obtain ⟨r14, S15, k16, hf⟩ := dc_bd_ok hf
      have hm := lh_le_trans hm (show ∀ b, gvN S9 b ≤ gvN S15 b from m_X9_failed k16)
      obtain ⟨r18, S19, k20, hf⟩ := dc_bd_ok hf
      have hm := lh_le_trans hm (show ∀ b, gvN S15 b ≤ gvN S19 b from m_X9_answered k20)
      obtain ⟨_, rfl⟩ := dc_ret hf
      exact hm
    · replace hf := dc_if_f c13 hf
      obtain ⟨x23, hx23, hf⟩ := dc_nn_ok hf
      obtain ⟨g24, hf⟩ := dc_gd_ok hf
      obtain ⟨_, rfl⟩ := dc_ret hf
      exact hm
set_option maxHeartbeats 1000000 in
theorem k_X9_get {n : Nat} {S : lh_S} {t : Nat} {p1 : Int32} {p2 : Int32} {r : Int32} {S' : lh_S} (hf : f_X9_get n S t p1 p2 = some (r, S')) : lh_sm9 S S' := by
  have hm : lh_sm9 S S := lh_sm9_rf
  unfold f_X9_get at hf
  obtain ⟨r1, S2, k3, hf⟩ := dc_bd_ok hf
  have hm := lh_sm9_trans hm (show lh_sm9 S S2 from k_X9_rowAt k3)
  by_cases c6 : r1 = none
  · replace hf := dc_if_t c6 hf
    obtain ⟨_, rfl⟩ := dc_ret hf
    exact hm
  · replace hf := dc_if_f c6 hf
    obtain ⟨x7, hx7, hf⟩ := dc_nn_ok hf
    obtain ⟨r8, S9, k10, hf⟩ := dc_bd_ok hf
    have hm := lh_sm9_trans hm (show lh_sm9 S2 S9 from k_X7_hasPlace k10)
    by_cases c13 : r8 = 0
    · replace hf := dc_if_t c13 hf
      obtain ⟨r14, S15, k16, hf⟩ := dc_bd_ok hf
      have hm := lh_sm9_trans hm (show lh_sm9 S9 S15 from k_X9_failed k16)
      obtain ⟨r18, S19, k20, hf⟩ := dc_bd_ok hf
      have hm := lh_sm9_trans hm (show lh_sm9 S15 S19 from k_X9_answered k20)
      obtain ⟨_, rfl⟩ := dc_ret hf
      exact hm
    · replace hf := dc_if_f c13 hf
      obtain ⟨x23, hx23, hf⟩ := dc_nn_ok hf
      obtain ⟨g24, hf⟩ := dc_gd_ok hf
      obtain ⟨_, rfl⟩ := dc_ret hf
      exact hm
set_option maxHeartbeats 4000000 in
set_option maxRecDepth 100000 in
theorem c_X9_get (l : Launch) (D : va_G) (cT : Nat → ClassId) (n : Nat) (S : lh_S) (ad : Nat → Nat → Nat) (A : Nat → Prop) (sz : Nat) (hA : ∀ q, sz ≤ q → A q) (t : Nat) (p1 : Int32) (p2 : Int32) (r : Int32) (S' : lh_S) (hf : f_X9_get n S t p1 p2 = some (r, S')) (L_t : ∀ j, some t = some j → j < gvN S 9) : Met l yX9_get wsX9_get ({ frames := 1, cells := 0, slots := 0, locals := 21 } : Room) (lh_P D cT S ad A sz [lh_r ad 9 (some t), .int p1, .int p2]) (lh_Q D cT S' ad A ((∀ b, gvN S b ≤ gvN S' b) ∧ True) (some (.int r))) 0 0 A := by
  refine Met.ofW (cc := cX9_get) (maxL := 4) (ret := (some .int)) (by decide) rfl ?_
  intro p e s m args below meth c s₁ B hml hv
  obtain ⟨hargs, hsz, hW, hK, hN⟩ := hv
  have hx := B.exec
  have hb := B.bytes
  have hr := B.returns
  have hts := atoms_spec (ws := wsX9_get) B.pre
  have hown : s.vm.findClass RX9 = some m.cls := findClass_of_methodNamed B.named
  have hlocks := B.notSynchronized
  have hA : ∀ q, s.heap.size ≤ q → A q := fun q h => hA q (by rw [← hsz]; exact h)
  have ok := lh_W_ok hW
  have hm : ∀ b, gvN S b ≤ gvN S b := fun _ => Nat.le_refl _
  obtain ⟨ls, hent, hl⟩ := lh_entry m args [lh_r ad 9 (some t), .int p1, .int p2] 4 [(0, lh_r ad 9 (some t)), (1, .int p1), (2, .int p2)] hargs (by simp [lv_args, lh_cat_r, lh_cat_i, lh_cat_j]) (by simp [lg_sl, lh_cat_r, lh_cat_i, lh_cat_j])
  rw [hent]
  generalize hH : s.heap = H at hW ⊢
  have hS : va_S A s.heap H [] := by rw [← hH]; exact va_S.rf
  unfold f_X9_get at hf
  refine lh_aload_n hx hb dX9_get_0 rfl (lv_at hl 0 rfl) ?_
  refine lv_iload_n hx hb dX9_get_1 rfl (lv_at hl 1 rfl) ?_
  obtain ⟨r1, S2, k3, hf⟩ := dc_bd_ok hf
  refine lh_call (S' := S2) (lh_rv ⟨hx, hb, hml, hown, hts⟩ rfl (As := [.int p1]) (rest := []) (k := 9) (c_X9_rowAt l D cT n S ad A H.size (fun q9 h9 => hA q9 (Nat.le_trans hS.1 h9)) t p1 r1 S2 k3 L_t) (cwV 1 hts gX9_get_X9_rowAt rfl rfl rfl (by decide +kernel) ⟨Nat.le_of_ble_eq_true rfl, Nat.le_of_ble_eq_true rfl⟩) hK hN hW (L_t _ rfl) rfl rfl rfl hl.1 rfl (by simp [lh_cat_r, lh_cat_i, lh_cat_j]) dX9_get_2 ⟨Nat.le_of_ble_eq_true rfl, Nat.le_of_ble_eq_true rfl⟩) hS (fun H locs hX hW hS => ?_)
  refine W.widen (k := 0) (n := 0) (by omega) (by omega) ?_
  show W _ _ _ _ _ _ _ _ _ _ _ _ _ _ _ (F0 m 5 ls [lh_r ad 7 r1])
  have m4 : ∀ b, gvN S b ≤ gvN S2 b := hX.1
  have L_t : ∀ j, some t = some j → j < gvN S2 9 := fun j h => Nat.lt_of_lt_of_le (L_t j h) (m4 _)
  have hm : ∀ b, gvN S b ≤ gvN S2 b := lh_le_trans hm m4
  have ok := lh_W_ok hW
  have L5 := hX.2
  refine lh_astore_n (i := 3) (lv' := [(3, lh_r ad 7 r1), (0, lh_r ad 9 (some t)), (1, .int p1), (2, .int p2)]) hx hb dX9_get_5 rfl hl (by decide) (by first | rfl | simp [lh_cat_r, lh_cat_i, lh_cat_j]) (fun ls hl => ?_)
  refine lh_aload_n hx hb dX9_get_6 rfl (lv_at hl 0 rfl) ?_
  refine lh_ifnonnull (tgt := 13) hx hb dX9_get_7 (by decide) (fun c6 => ?_) (fun c6 => ?_)
  · replace hf := dc_if_f c6 hf
    refine lh_aload_n hx hb dX9_get_13 rfl (lv_at hl 0 rfl) ?_
    refine lv_iload_n hx hb dX9_get_14 rfl (lv_at hl 3 rfl) ?_
    obtain ⟨x7, hx7, hf⟩ := dc_nn_ok hf
    obtain ⟨r8, S9, k10, hf⟩ := dc_bd_ok hf
    refine lh_call (S' := S9) (lh_rv ⟨hx, hb, hml, hown, hts⟩ hx7 (As := [.int p2]) (rest := []) (k := 7) (c_X7_hasPlace l D cT n S2 ad A H.size (fun q9 h9 => hA q9 (Nat.le_trans hS.1 h9)) x7 p2 r8 S9 k10 (lh_ls (L5 _ hx7))) (cwV 1 hts gX9_get_X7_hasPlace rfl rfl rfl (by decide +kernel) ⟨Nat.le_of_ble_eq_true rfl, Nat.le_of_ble_eq_true rfl⟩) hK hN hW (L5 _ hx7) rfl rfl rfl hl.1 rfl (by simp [lh_cat_r, lh_cat_i, lh_cat_j]) dX9_get_15 ⟨Nat.le_of_ble_eq_true rfl, Nat.le_of_ble_eq_true rfl⟩) hS (fun H locs hX hW hS => ?_)
    refine W.widen (k := 0) (n := 0) (by omega) (by omega) ?_
    show W _ _ _ _ _ _ _ _ _ _ _ _ _ _ _ (F0 m 18 ls [.int r8])
    have m11 : ∀ b, gvN S2 b ≤ gvN S9 b := hX.1
    have L5 : ∀ j, r1 = some j → j < gvN S9 7 := fun j h => Nat.lt_of_lt_of_le (L5 j h) (m11 _)
    have L_t : ∀ j, some t = some j → j < gvN S9 9 := fun j h => Nat.lt_of_lt_of_le (L_t j h) (m11 _)
    have hm : ∀ b, gvN S b ≤ gvN S9 b := lh_le_trans hm m11
    have ok := lh_W_ok hW
    have z12 := hX.2
    refine lv_if_eq (tgt := 30) hx hb dX9_get_18 (by decide) (fun c13 => ?_) (fun c13 => ?_)
    · replace hf := dc_if_t c13 hf
      refine lh_aload_n hx hb dX9_get_30 rfl (lv_at hl 1 rfl) ?_
      refine lv_bipush (v := 11) hx hb dX9_get_31 (by decide) ?_
      obtain ⟨r14, S15, k16, hf⟩ := dc_bd_ok hf
      refine lh_call (S' := S15) (lh_rs ⟨hx, hb, hml, hown, hts⟩ (As := [.int (11 : Int32)]) (rest := [lh_r ad 9 (some t)]) (c_X9_failed l D cT n S9 ad A H.size (fun q9 h9 => hA q9 (Nat.le_trans hS.1 h9)) (11 : Int32) r14 S15 k16 ) (va_cwS 1 hts gX9_get_X9_failed rfl rfl rfl (by decide +kernel) ⟨Nat.le_of_ble_eq_true rfl, Nat.le_of_ble_eq_true rfl⟩) hK hN hW rfl hl.1 rfl (by simp [lh_cat_r, lh_cat_i, lh_cat_j]) dX9_get_33 ⟨Nat.le_of_ble_eq_true rfl, Nat.le_of_ble_eq_true rfl⟩) hS (fun H locs hX hW hS => ?_)
      refine W.widen (k := 0) (n := 0) (by omega) (by omega) ?_
      show W _ _ _ _ _ _ _ _ _ _ _ _ _ _ _ (F0 m 36 ls [.int r14, lh_r ad 9 (some t)])
      have m17 : ∀ b, gvN S9 b ≤ gvN S15 b := hX.1
      have L5 : ∀ j, r1 = some j → j < gvN S15 7 := fun j h => Nat.lt_of_lt_of_le (L5 j h) (m17 _)
      have L_t : ∀ j, some t = some j → j < gvN S15 9 := fun j h => Nat.lt_of_lt_of_le (L_t j h) (m17 _)
      have hm : ∀ b, gvN S b ≤ gvN S15 b := lh_le_trans hm m17
      have ok := lh_W_ok hW
      obtain ⟨r18, S19, k20, hf⟩ := dc_bd_ok hf
      refine lh_call (S' := S19) (lh_rv ⟨hx, hb, hml, hown, hts⟩ rfl (As := [.int r14]) (rest := []) (k := 9) (c_X9_answered l D cT n S15 ad A H.size (fun q9 h9 => hA q9 (Nat.le_trans hS.1 h9)) t r14 r18 S19 k20 L_t) (cwV 1 hts gX9_get_X9_answered rfl rfl rfl (by decide +kernel) ⟨Nat.le_of_ble_eq_true rfl, Nat.le_of_ble_eq_true rfl⟩) hK hN hW (L_t _ rfl) rfl rfl rfl hl.1 rfl (by simp [lh_cat_r, lh_cat_i, lh_cat_j]) dX9_get_36 ⟨Nat.le_of_ble_eq_true rfl, Nat.le_of_ble_eq_true rfl⟩) hS (fun H locs hX hW hS => ?_)
      refine W.widen (k := 0) (n := 0) (by omega) (by omega) ?_
      show W _ _ _ _ _ _ _ _ _ _ _ _ _ _ _ (F0 m 39 ls [.int r18])
      have m21 : ∀ b, gvN S15 b ≤ gvN S19 b := hX.1
      have L5 : ∀ j, r1 = some j → j < gvN S19 7 := fun j h => Nat.lt_of_lt_of_le (L5 j h) (m21 _)
      have L_t : ∀ j, some t = some j → j < gvN S19 9 := fun j h => Nat.lt_of_lt_of_le (L_t j h) (m21 _)
      have hm : ∀ b, gvN S b ≤ gvN S19 b := lh_le_trans hm m21
      have ok := lh_W_ok hW
      obtain ⟨rfl, rfl⟩ := dc_ret hf
      exact W.iret (v := r18) hx hb hr (fun t9 ht9 hW9 => ⟨⟨rfl, ⟨hm, trivial⟩, by rw [ht9]; exact hW⟩, hS.F ht9⟩) hS.2.2 dX9_get_39
    · replace hf := dc_if_f c13 hf
      refine lh_aload_n hx hb dX9_get_21 rfl (lv_at hl 0 rfl) ?_
      have L22 : ∀ j, gvR S9 7 x7 1 = some j → j < gvN S9 20 := fun j h => ok _ _ _ _ j (L5 _ hx7) rfl h
      refine lh_get (a := 7) (k := 1) (N := 2) (C := RX7) (T := TX7) (own := RX9) (ref := "LoaderModels$Row") hx hb hts (fun _ h => (List.mem_cons_of_mem _ (List.mem_append_left _ (List.mem_append_right _ h)))) hown hK hW hx7 (L5 _ hx7) rfl rfl rfl (by decide) (hts (.fieldLink RX9 178 "LoaderModels$Row" "items" "[I") (List.mem_cons_of_mem _ (List.mem_append_left _ (List.mem_append_left _ (List.mem_of_getElem? (i := 0) rfl))))) (fun _ h9 => h9) dX9_get_22 (v := lh_r ad 20 (gvR S9 7 x7 1)) rfl ?_
      refine lv_iload_n hx hb dX9_get_25 rfl (lv_at hl 3 rfl) ?_
      obtain ⟨x23, hx23, hf⟩ := dc_nn_ok hf
      obtain ⟨g24, hf⟩ := dc_gd_ok hf
      refine lh_ald_i (a := 20) hx hb hK hW hx23 (L22 _ hx23) rfl rfl g24 dX9_get_26 ?_
      refine lv_goto (tgt := 39) hx hb dX9_get_27 (by decide) ?_
      obtain ⟨rfl, rfl⟩ := dc_ret hf
      exact W.iret (v := gvI S9 20 x23 (p2).toNatClampNeg) hx hb hr (fun t9 ht9 hW9 => ⟨⟨rfl, ⟨hm, trivial⟩, by rw [ht9]; exact hW⟩, hS.F ht9⟩) hS.2.2 dX9_get_39
  · replace hf := dc_if_t c6 hf
    refine lv_bipush (v := -2) hx hb dX9_get_10 (by decide) ?_
    obtain ⟨rfl, rfl⟩ := dc_ret hf
    exact W.iret (v := (-2 : Int32)) hx hb hr (fun t9 ht9 hW9 => ⟨⟨rfl, ⟨hm, trivial⟩, by rw [ht9]; exact hW⟩, hS.F ht9⟩) hS.2.2 dX9_get_12
def f_X9_castRow (n : Nat) (S : lh_S) (t : Nat) (p1 : Int32) (p2 : Int32) : Option (Int32 × lh_S) :=
  dc_bd (f_X9_rowAt n S t p1) fun r1 S2 =>
  dc_nn (gvR S2 9 t 3) fun x7 =>
  dc_bd (f_X4_classAt n S2 x7 p2) fun r8 S9 =>
  dc_if (r1 = none) (
  some ((-2 : Int32), S9)) (
  dc_if (r8 = none) (
  some ((-2 : Int32), S9)) (
  dc_nn r1 fun x15 =>
  dc_nn (gvR S9 7 x15 0) fun x17 =>
  dc_bd (f_X5_isOf n S9 x17 r8) fun r18 S19 =>
  dc_if (r18 = 0) (
  dc_bd (f_X9_failed n S19 (5 : Int32)) fun r24 S25 =>
  dc_bd (f_X9_answered n S25 t r24) fun r28 S29 =>
  some (r28, S29)) (
  some ((1 : Int32), S19))))
set_option maxHeartbeats 1000000 in
theorem m_X9_castRow {n : Nat} {S : lh_S} {t : Nat} {p1 : Int32} {p2 : Int32} {r : Int32} {S' : lh_S} (hf : f_X9_castRow n S t p1 p2 = some (r, S')) : ∀ b, gvN S b ≤ gvN S' b := by
  have hm : ∀ b, gvN S b ≤ gvN S b := fun _ => Nat.le_refl _
  unfold f_X9_castRow at hf
  obtain ⟨r1, S2, k3, hf⟩ := dc_bd_ok hf
  have hm := lh_le_trans hm (show ∀ b, gvN S b ≤ gvN S2 b from m_X9_rowAt k3)
  obtain ⟨x7, hx7, hf⟩ := dc_nn_ok hf
  obtain ⟨r8, S9, k10, hf⟩ := dc_bd_ok hf
  have hm := lh_le_trans hm (show ∀ b, gvN S2 b ≤ gvN S9 b from m_X4_classAt k10)
  by_cases c13 : r1 = none
  · replace hf := dc_if_t c13 hf
    obtain ⟨_, rfl⟩ := dc_ret hf
    exact hm
  · replace hf := dc_if_f c13 hf
    by_cases c14 : r8 = none
    · replace hf := dc_if_t c14 hf
      obtain ⟨_, rfl⟩ := dc_ret hf
      exact hm
    · replace hf := dc_if_f c14 hf
      obtain ⟨x15, hx15, hf⟩ := dc_nn_ok hf
      obtain ⟨x17, hx17, hf⟩ := dc_nn_ok hf
      obtain ⟨r18, S19, k20, hf⟩ := dc_bd_ok hf
      have hm := lh_le_trans hm (show ∀ b, gvN S9 b ≤ gvN S19 b from m_X5_isOf k20)
      by_cases c23 : r18 = 0
      · replace hf := dc_if_t c23 hf
        obtain ⟨r24, S25, k26, hf⟩ := dc_bd_ok hf
        have hm := lh_le_trans hm (show ∀ b, gvN S19 b ≤ gvN S25 b from m_X9_failed k26)
        obtain ⟨r28, S29, k30, hf⟩ := dc_bd_ok hf
        have hm := lh_le_trans hm (show ∀ b, gvN S25 b ≤ gvN S29 b from m_X9_answered k30)
        obtain ⟨_, rfl⟩ := dc_ret hf
        exact hm
      · replace hf := dc_if_f c23 hf
        obtain ⟨_, rfl⟩ := dc_ret hf
        exact hm
set_option maxHeartbeats 1000000 in
theorem k_X9_castRow {n : Nat} {S : lh_S} {t : Nat} {p1 : Int32} {p2 : Int32} {r : Int32} {S' : lh_S} (hf : f_X9_castRow n S t p1 p2 = some (r, S')) : lh_sm9 S S' := by
  have hm : lh_sm9 S S := lh_sm9_rf
  unfold f_X9_castRow at hf
  obtain ⟨r1, S2, k3, hf⟩ := dc_bd_ok hf
  have hm := lh_sm9_trans hm (show lh_sm9 S S2 from k_X9_rowAt k3)
  obtain ⟨x7, hx7, hf⟩ := dc_nn_ok hf
  obtain ⟨r8, S9, k10, hf⟩ := dc_bd_ok hf
  have hm := lh_sm9_trans hm (show lh_sm9 S2 S9 from k_X4_classAt k10)
  by_cases c13 : r1 = none
  · replace hf := dc_if_t c13 hf
    obtain ⟨_, rfl⟩ := dc_ret hf
    exact hm
  · replace hf := dc_if_f c13 hf
    by_cases c14 : r8 = none
    · replace hf := dc_if_t c14 hf
      obtain ⟨_, rfl⟩ := dc_ret hf
      exact hm
    · replace hf := dc_if_f c14 hf
      obtain ⟨x15, hx15, hf⟩ := dc_nn_ok hf
      obtain ⟨x17, hx17, hf⟩ := dc_nn_ok hf
      obtain ⟨r18, S19, k20, hf⟩ := dc_bd_ok hf
      have hm := lh_sm9_trans hm (show lh_sm9 S9 S19 from k_X5_isOf k20)
      by_cases c23 : r18 = 0
      · replace hf := dc_if_t c23 hf
        obtain ⟨r24, S25, k26, hf⟩ := dc_bd_ok hf
        have hm := lh_sm9_trans hm (show lh_sm9 S19 S25 from k_X9_failed k26)
        obtain ⟨r28, S29, k30, hf⟩ := dc_bd_ok hf
        have hm := lh_sm9_trans hm (show lh_sm9 S25 S29 from k_X9_answered k30)
        obtain ⟨_, rfl⟩ := dc_ret hf
        exact hm
      · replace hf := dc_if_f c23 hf
        obtain ⟨_, rfl⟩ := dc_ret hf
        exact hm
set_option maxHeartbeats 4000000 in
set_option maxRecDepth 100000 in
theorem c_X9_castRow (l : Launch) (D : va_G) (cT : Nat → ClassId) (n : Nat) (S : lh_S) (ad : Nat → Nat → Nat) (A : Nat → Prop) (sz : Nat) (hA : ∀ q, sz ≤ q → A q) (t : Nat) (p1 : Int32) (p2 : Int32) (r : Int32) (S' : lh_S) (hf : f_X9_castRow n S t p1 p2 = some (r, S')) (L_t : ∀ j, some t = some j → j < gvN S 9) : Met l yX9_castRow wsX9_castRow ({ frames := 1, cells := 0, slots := 0, locals := 22 } : Room) (lh_P D cT S ad A sz [lh_r ad 9 (some t), .int p1, .int p2]) (lh_Q D cT S' ad A ((∀ b, gvN S b ≤ gvN S' b) ∧ True) (some (.int r))) 0 0 A := by
  refine Met.ofW (cc := cX9_castRow) (maxL := 5) (ret := (some .int)) (by decide) rfl ?_
  intro p e s m args below meth c s₁ B hml hv
  obtain ⟨hargs, hsz, hW, hK, hN⟩ := hv
  have hx := B.exec
  have hb := B.bytes
  have hr := B.returns
  have hts := atoms_spec (ws := wsX9_castRow) B.pre
  have hown : s.vm.findClass RX9 = some m.cls := findClass_of_methodNamed B.named
  have hlocks := B.notSynchronized
  have hA : ∀ q, s.heap.size ≤ q → A q := fun q h => hA q (by rw [← hsz]; exact h)
  have ok := lh_W_ok hW
  have hm : ∀ b, gvN S b ≤ gvN S b := fun _ => Nat.le_refl _
  obtain ⟨ls, hent, hl⟩ := lh_entry m args [lh_r ad 9 (some t), .int p1, .int p2] 5 [(0, lh_r ad 9 (some t)), (1, .int p1), (2, .int p2)] hargs (by simp [lv_args, lh_cat_r, lh_cat_i, lh_cat_j]) (by simp [lg_sl, lh_cat_r, lh_cat_i, lh_cat_j])
  rw [hent]
  generalize hH : s.heap = H at hW ⊢
  have hS : va_S A s.heap H [] := by rw [← hH]; exact va_S.rf
  unfold f_X9_castRow at hf
  refine lh_aload_n hx hb dX9_castRow_0 rfl (lv_at hl 0 rfl) ?_
  refine lv_iload_n hx hb dX9_castRow_1 rfl (lv_at hl 1 rfl) ?_
  obtain ⟨r1, S2, k3, hf⟩ := dc_bd_ok hf
  refine lh_call (S' := S2) (lh_rv ⟨hx, hb, hml, hown, hts⟩ rfl (As := [.int p1]) (rest := []) (k := 9) (c_X9_rowAt l D cT n S ad A H.size (fun q9 h9 => hA q9 (Nat.le_trans hS.1 h9)) t p1 r1 S2 k3 L_t) (cwV 1 hts gX9_castRow_X9_rowAt rfl rfl rfl (by decide +kernel) ⟨Nat.le_of_ble_eq_true rfl, Nat.le_of_ble_eq_true rfl⟩) hK hN hW (L_t _ rfl) rfl rfl rfl hl.1 rfl (by simp [lh_cat_r, lh_cat_i, lh_cat_j]) dX9_castRow_2 ⟨Nat.le_of_ble_eq_true rfl, Nat.le_of_ble_eq_true rfl⟩) hS (fun H locs hX hW hS => ?_)
  refine W.widen (k := 0) (n := 0) (by omega) (by omega) ?_
  show W _ _ _ _ _ _ _ _ _ _ _ _ _ _ _ (F0 m 5 ls [lh_r ad 7 r1])
  have m4 : ∀ b, gvN S b ≤ gvN S2 b := hX.1
  have L_t : ∀ j, some t = some j → j < gvN S2 9 := fun j h => Nat.lt_of_lt_of_le (L_t j h) (m4 _)
  have hm : ∀ b, gvN S b ≤ gvN S2 b := lh_le_trans hm m4
  have ok := lh_W_ok hW
  have L5 := hX.2
  refine lh_astore_n (i := 3) (lv' := [(3, lh_r ad 7 r1), (0, lh_r ad 9 (some t)), (1, .int p1), (2, .int p2)]) hx hb dX9_castRow_5 rfl hl (by decide) (by first | rfl | simp [lh_cat_r, lh_cat_i, lh_cat_j]) (fun ls hl => ?_)
  refine lh_aload_n hx hb dX9_castRow_6 rfl (lv_at hl 1 rfl) ?_
  have L6 : ∀ j, gvR S2 9 t 3 = some j → j < gvN S2 4 := fun j h => ok _ _ _ _ j (L_t _ rfl) rfl h
  refine lh_get (a := 9) (k := 3) (N := 10) (C := RX9) (T := TX9) (own := RX9) (ref := "LoaderModels") hx hb hts (fun _ h => (List.mem_cons_of_mem _ (List.mem_append_left _ (List.mem_append_left _ (List.mem_append_left _ (List.mem_append_right _ h)))))) hown hK hW rfl (L_t _ rfl) rfl rfl rfl (by decide) (hts (.fieldLink RX9 29 "LoaderModels" "loading" "LLoaderModels$Loading;") (List.mem_cons_of_mem _ (List.mem_append_left _ (List.mem_append_left _ (List.mem_append_left _ (List.mem_append_left _ (List.mem_append_left _ (List.mem_of_getElem? (i := 0) rfl)))))))) (fun _ h9 => h9) dX9_castRow_7 (v := lh_r ad 4 (gvR S2 9 t 3)) rfl ?_
  refine lv_iload_n hx hb dX9_castRow_10 rfl (lv_at hl 3 rfl) ?_
  obtain ⟨x7, hx7, hf⟩ := dc_nn_ok hf
  obtain ⟨r8, S9, k10, hf⟩ := dc_bd_ok hf
  refine lh_call (S' := S9) (lh_rv ⟨hx, hb, hml, hown, hts⟩ hx7 (As := [.int p2]) (rest := []) (k := 4) (c_X4_classAt l D cT n S2 ad A H.size (fun q9 h9 => hA q9 (Nat.le_trans hS.1 h9)) x7 p2 r8 S9 k10 (lh_ls (L6 _ hx7))) (cwV 1 hts gX9_castRow_X4_classAt rfl rfl rfl (by decide +kernel) ⟨Nat.le_of_ble_eq_true rfl, Nat.le_of_ble_eq_true rfl⟩) hK hN hW (L6 _ hx7) rfl rfl rfl hl.1 rfl (by simp [lh_cat_r, lh_cat_i, lh_cat_j]) dX9_castRow_11 ⟨Nat.le_of_ble_eq_true rfl, Nat.le_of_ble_eq_true rfl⟩) hS (fun H locs hX hW hS => ?_)
  refine W.widen (k := 0) (n := 0) (by omega) (by omega) ?_
  show W _ _ _ _ _ _ _ _ _ _ _ _ _ _ _ (F0 m 14 ls [lh_r ad 5 r8])
  have m11 : ∀ b, gvN S2 b ≤ gvN S9 b := hX.1
  have L5 : ∀ j, r1 = some j → j < gvN S9 7 := fun j h => Nat.lt_of_lt_of_le (L5 j h) (m11 _)
  have L_t : ∀ j, some t = some j → j < gvN S9 9 := fun j h => Nat.lt_of_lt_of_le (L_t j h) (m11 _)
  have hm : ∀ b, gvN S b ≤ gvN S9 b := lh_le_trans hm m11
  have ok := lh_W_ok hW
  have L12 := hX.2
  refine lh_astore (i := 4) (lv' := [(4, lh_r ad 5 r8), (3, lh_r ad 7 r1), (0, lh_r ad 9 (some t)), (1, .int p1), (2, .int p2)]) hx hb dX9_castRow_14 hl (by decide) (by first | rfl | simp [lh_cat_r, lh_cat_i, lh_cat_j]) (fun ls hl => ?_)
  refine lh_aload_n hx hb dX9_castRow_16 rfl (lv_at hl 1 rfl) ?_
  refine lh_ifnull (tgt := 25) hx hb dX9_castRow_17 (by decide) (fun c13 => ?_) (fun c13 => ?_)
  · replace hf := dc_if_t c13 hf
    refine lv_bipush (v := -2) hx hb dX9_castRow_25 (by decide) ?_
    obtain ⟨rfl, rfl⟩ := dc_ret hf
    exact W.iret (v := (-2 : Int32)) hx hb hr (fun t9 ht9 hW9 => ⟨⟨rfl, ⟨hm, trivial⟩, by rw [ht9]; exact hW⟩, hS.F ht9⟩) hS.2.2 dX9_castRow_27
  · replace hf := dc_if_f c13 hf
    refine lh_aload hx hb dX9_castRow_20 (lv_at hl 0 rfl) ?_
    refine lh_ifnonnull (tgt := 28) hx hb dX9_castRow_22 (by decide) (fun c14 => ?_) (fun c14 => ?_)
    · replace hf := dc_if_f c14 hf
      refine lh_aload_n hx hb dX9_castRow_28 rfl (lv_at hl 1 rfl) ?_
      obtain ⟨x15, hx15, hf⟩ := dc_nn_ok hf
      have L16 : ∀ j, gvR S9 7 x15 0 = some j → j < gvN S9 5 := fun j h => ok _ _ _ _ j (L5 _ hx15) rfl h
      refine lh_get (a := 7) (k := 0) (N := 2) (C := RX7) (T := TX7) (own := RX9) (ref := "LoaderModels$Row") hx hb hts (fun _ h => (List.mem_cons_of_mem _ (List.mem_append_left _ (List.mem_append_left _ (List.mem_append_right _ h))))) hown hK hW hx15 (L5 _ hx15) rfl rfl rfl (by decide) (hts (.fieldLink RX9 174 "LoaderModels$Row" "model" "LLoaderModels$Model;") (List.mem_cons_of_mem _ (List.mem_append_left _ (List.mem_append_left _ (List.mem_append_left _ (List.mem_append_left _ (List.mem_append_left _ (List.mem_of_getElem? (i := 1) rfl)))))))) (fun _ h9 => h9) dX9_castRow_29 (v := lh_r ad 5 (gvR S9 7 x15 0)) rfl ?_
      refine lh_aload hx hb dX9_castRow_32 (lv_at hl 0 rfl) ?_
      obtain ⟨x17, hx17, hf⟩ := dc_nn_ok hf
      obtain ⟨r18, S19, k20, hf⟩ := dc_bd_ok hf
      refine lh_call (S' := S19) (lh_rv ⟨hx, hb, hml, hown, hts⟩ hx17 (As := [lh_r ad 5 r8]) (rest := []) (k := 5) (c_X5_isOf l D cT n S9 ad A H.size (fun q9 h9 => hA q9 (Nat.le_trans hS.1 h9)) x17 r8 r18 S19 k20 (lh_ls (L16 _ hx17)) L12) (cwV 1 hts gX9_castRow_X5_isOf rfl rfl rfl (by decide +kernel) ⟨Nat.le_of_ble_eq_true rfl, Nat.le_of_ble_eq_true rfl⟩) hK hN hW (L16 _ hx17) rfl rfl rfl hl.1 rfl (by simp [lh_cat_r, lh_cat_i, lh_cat_j]) dX9_castRow_34 ⟨Nat.le_of_ble_eq_true rfl, Nat.le_of_ble_eq_true rfl⟩) hS (fun H locs hX hW hS => ?_)
      refine W.widen (k := 0) (n := 0) (by omega) (by omega) ?_
      show W _ _ _ _ _ _ _ _ _ _ _ _ _ _ _ (F0 m 37 ls [.int r18])
      have m21 : ∀ b, gvN S9 b ≤ gvN S19 b := hX.1
      have L12 : ∀ j, r8 = some j → j < gvN S19 5 := fun j h => Nat.lt_of_lt_of_le (L12 j h) (m21 _)
      have L5 : ∀ j, r1 = some j → j < gvN S19 7 := fun j h => Nat.lt_of_lt_of_le (L5 j h) (m21 _)
      have L_t : ∀ j, some t = some j → j < gvN S19 9 := fun j h => Nat.lt_of_lt_of_le (L_t j h) (m21 _)
      have hm : ∀ b, gvN S b ≤ gvN S19 b := lh_le_trans hm m21
      have ok := lh_W_ok hW
      have z22 := hX.2
      refine lv_if_eq (tgt := 44) hx hb dX9_castRow_37 (by decide) (fun c23 => ?_) (fun c23 => ?_)
      · replace hf := dc_if_t c23 hf
        refine lh_aload_n hx hb dX9_castRow_44 rfl (lv_at hl 2 rfl) ?_
        refine lv_iconst (v := 5) hx hb dX9_castRow_45 (by decide) ?_
        obtain ⟨r24, S25, k26, hf⟩ := dc_bd_ok hf
        refine lh_call (S' := S25) (lh_rs ⟨hx, hb, hml, hown, hts⟩ (As := [.int (5 : Int32)]) (rest := [lh_r ad 9 (some t)]) (c_X9_failed l D cT n S19 ad A H.size (fun q9 h9 => hA q9 (Nat.le_trans hS.1 h9)) (5 : Int32) r24 S25 k26 ) (va_cwS 1 hts gX9_castRow_X9_failed rfl rfl rfl (by decide +kernel) ⟨Nat.le_of_ble_eq_true rfl, Nat.le_of_ble_eq_true rfl⟩) hK hN hW rfl hl.1 rfl (by simp [lh_cat_r, lh_cat_i, lh_cat_j]) dX9_castRow_46 ⟨Nat.le_of_ble_eq_true rfl, Nat.le_of_ble_eq_true rfl⟩) hS (fun H locs hX hW hS => ?_)
        refine W.widen (k := 0) (n := 0) (by omega) (by omega) ?_
        show W _ _ _ _ _ _ _ _ _ _ _ _ _ _ _ (F0 m 49 ls [.int r24, lh_r ad 9 (some t)])
        have m27 : ∀ b, gvN S19 b ≤ gvN S25 b := hX.1
        have L12 : ∀ j, r8 = some j → j < gvN S25 5 := fun j h => Nat.lt_of_lt_of_le (L12 j h) (m27 _)
        have L5 : ∀ j, r1 = some j → j < gvN S25 7 := fun j h => Nat.lt_of_lt_of_le (L5 j h) (m27 _)
        have L_t : ∀ j, some t = some j → j < gvN S25 9 := fun j h => Nat.lt_of_lt_of_le (L_t j h) (m27 _)
        have hm : ∀ b, gvN S b ≤ gvN S25 b := lh_le_trans hm m27
        have ok := lh_W_ok hW
        obtain ⟨r28, S29, k30, hf⟩ := dc_bd_ok hf
        refine lh_call (S' := S29) (lh_rv ⟨hx, hb, hml, hown, hts⟩ rfl (As := [.int r24]) (rest := []) (k := 9) (c_X9_answered l D cT n S25 ad A H.size (fun q9 h9 => hA q9 (Nat.le_trans hS.1 h9)) t r24 r28 S29 k30 L_t) (cwV 1 hts gX9_castRow_X9_answered rfl rfl rfl (by decide +kernel) ⟨Nat.le_of_ble_eq_true rfl, Nat.le_of_ble_eq_true rfl⟩) hK hN hW (L_t _ rfl) rfl rfl rfl hl.1 rfl (by simp [lh_cat_r, lh_cat_i, lh_cat_j]) dX9_castRow_49 ⟨Nat.le_of_ble_eq_true rfl, Nat.le_of_ble_eq_true rfl⟩) hS (fun H locs hX hW hS => ?_)
        refine W.widen (k := 0) (n := 0) (by omega) (by omega) ?_
        show W _ _ _ _ _ _ _ _ _ _ _ _ _ _ _ (F0 m 52 ls [.int r28])
        have m31 : ∀ b, gvN S25 b ≤ gvN S29 b := hX.1
        have L12 : ∀ j, r8 = some j → j < gvN S29 5 := fun j h => Nat.lt_of_lt_of_le (L12 j h) (m31 _)
        have L5 : ∀ j, r1 = some j → j < gvN S29 7 := fun j h => Nat.lt_of_lt_of_le (L5 j h) (m31 _)
        have L_t : ∀ j, some t = some j → j < gvN S29 9 := fun j h => Nat.lt_of_lt_of_le (L_t j h) (m31 _)
        have hm : ∀ b, gvN S b ≤ gvN S29 b := lh_le_trans hm m31
        have ok := lh_W_ok hW
        obtain ⟨rfl, rfl⟩ := dc_ret hf
        exact W.iret (v := r28) hx hb hr (fun t9 ht9 hW9 => ⟨⟨rfl, ⟨hm, trivial⟩, by rw [ht9]; exact hW⟩, hS.F ht9⟩) hS.2.2 dX9_castRow_52
      · replace hf := dc_if_f c23 hf
        refine lv_iconst (v := 1) hx hb dX9_castRow_40 (by decide) ?_
        refine lv_goto (tgt := 52) hx hb dX9_castRow_41 (by decide) ?_
        obtain ⟨rfl, rfl⟩ := dc_ret hf
        exact W.iret (v := (1 : Int32)) hx hb hr (fun t9 ht9 hW9 => ⟨⟨rfl, ⟨hm, trivial⟩, by rw [ht9]; exact hW⟩, hS.F ht9⟩) hS.2.2 dX9_castRow_52
    · replace hf := dc_if_t c14 hf
      refine lv_bipush (v := -2) hx hb dX9_castRow_25 (by decide) ?_
      obtain ⟨rfl, rfl⟩ := dc_ret hf
      exact W.iret (v := (-2 : Int32)) hx hb hr (fun t9 ht9 hW9 => ⟨⟨rfl, ⟨hm, trivial⟩, by rw [ht9]; exact hW⟩, hS.F ht9⟩) hS.2.2 dX9_castRow_27
def f_X9_call_L34 (n : Nat) (t : Nat) (p1 : Int32) (p2 : Int32) (p3 : Int64) : Nat → lh_S → Option Nat → Int64 → Option Nat → Option (Int64 × lh_S)
  | 0, _, _, _, _ => none
  | g + 1, S13, o14, w16, o17 =>
  dc_if (o17 = none) (
  dc_bd (f_X9_failed n S13 (10 : Int32)) fun r20 S21 =>
  dc_bd (f_X9_answered n S21 t r20) fun r24 S25 =>
  dc_let ((-9223372036854775808 : Int64) - r24.toInt64) fun v28 =>
  some (v28, S25)) (
  dc_nn o17 fun x29 =>
  dc_nn (gvR S13 5 x29 2) fun x31 =>
  dc_nn (gvR S13 1 x31 6) fun x33 =>
  dc_gd (p2 < 0 ∨ gvL S13 11 x33 ≤ (p2).toNatClampNeg) (
  dc_if ((gvR S13 11 x33 (p2).toNatClampNeg) = none) (
  f_X9_call_L34 n t p1 p2 p3 g S13 o14 w16 (gvR S13 5 x29 3)) (
  dc_nn (gvR S13 11 x33 (p2).toNatClampNeg) fun x37 =>
  dc_if ((gvI S13 0 x37 0) = (1 : Int32)) (
  f_X9_call_L34 n t p1 p2 p3 g S13 o14 (w16 + (gvJ S13 0 x37 2)) (gvR S13 5 x29 3)) (
  dc_bd (f_X9_product n S13 o17 (gvR S13 11 x33 (p2).toNatClampNeg) p3) fun r40 S41 =>
  dc_let ((w16 + (gvJ S13 0 x37 2)) + r40) fun v44 =>
  some (v44, S41)))))
theorem m_X9_call_L34 {n : Nat} {t : Nat} {p1 : Int32} {p2 : Int32} {p3 : Int64} {r : Int64} {S' : lh_S} : ∀ (g : Nat) (S13 : lh_S) (o14 : Option Nat) (w16 : Int64) (o17 : Option Nat), f_X9_call_L34 n t p1 p2 p3 g S13 o14 w16 o17 = some (r, S') → ∀ b, gvN S13 b ≤ gvN S' b := by
    intro g
    induction g with
    | zero => intro S13 o14 w16 o17 hf; rw [f_X9_call_L34] at hf; cases hf
    | succ g ih =>
      intro S13 o14 w16 o17 hf
      rw [f_X9_call_L34] at hf
      have hm : ∀ b, gvN S13 b ≤ gvN S13 b := fun _ => Nat.le_refl _
      by_cases c19 : o17 = none
      · replace hf := dc_if_t c19 hf
        obtain ⟨r20, S21, k22, hf⟩ := dc_bd_ok hf
        have hm := lh_le_trans hm (show ∀ b, gvN S13 b ≤ gvN S21 b from m_X9_failed k22)
        obtain ⟨r24, S25, k26, hf⟩ := dc_bd_ok hf
        have hm := lh_le_trans hm (show ∀ b, gvN S21 b ≤ gvN S25 b from m_X9_answered k26)
        obtain ⟨v28, hv28, hf⟩ := dc_let_ok hf
        obtain ⟨_, rfl⟩ := dc_ret hf
        exact hm
      · replace hf := dc_if_f c19 hf
        obtain ⟨x29, hx29, hf⟩ := dc_nn_ok hf
        obtain ⟨x31, hx31, hf⟩ := dc_nn_ok hf
        obtain ⟨x33, hx33, hf⟩ := dc_nn_ok hf
        obtain ⟨g34, hf⟩ := dc_gd_ok hf
        by_cases c36 : (gvR S13 11 x33 (p2).toNatClampNeg) = none
        · replace hf := dc_if_t c36 hf
          exact lh_le_trans hm (ih S13 o14 w16 (gvR S13 5 x29 3) hf)
        · replace hf := dc_if_f c36 hf
          obtain ⟨x37, hx37, hf⟩ := dc_nn_ok hf
          by_cases c38 : (gvI S13 0 x37 0) = (1 : Int32)
          · replace hf := dc_if_t c38 hf
            exact lh_le_trans hm (ih S13 o14 (w16 + (gvJ S13 0 x37 2)) (gvR S13 5 x29 3) hf)
          · replace hf := dc_if_f c38 hf
            obtain ⟨r40, S41, k42, hf⟩ := dc_bd_ok hf
            have hm := lh_le_trans hm (show ∀ b, gvN S13 b ≤ gvN S41 b from m_X9_product k42)
            obtain ⟨v44, hv44, hf⟩ := dc_let_ok hf
            obtain ⟨_, rfl⟩ := dc_ret hf
            exact hm
theorem k_X9_call_L34 {n : Nat} {t : Nat} {p1 : Int32} {p2 : Int32} {p3 : Int64} {r : Int64} {S' : lh_S} : ∀ (g : Nat) (S13 : lh_S) (o14 : Option Nat) (w16 : Int64) (o17 : Option Nat), f_X9_call_L34 n t p1 p2 p3 g S13 o14 w16 o17 = some (r, S') → lh_sm9 S13 S' := by
    intro g
    induction g with
    | zero => intro S13 o14 w16 o17 hf; rw [f_X9_call_L34] at hf; cases hf
    | succ g ih =>
      intro S13 o14 w16 o17 hf
      rw [f_X9_call_L34] at hf
      have hm : lh_sm9 S13 S13 := lh_sm9_rf
      by_cases c19 : o17 = none
      · replace hf := dc_if_t c19 hf
        obtain ⟨r20, S21, k22, hf⟩ := dc_bd_ok hf
        have hm := lh_sm9_trans hm (show lh_sm9 S13 S21 from k_X9_failed k22)
        obtain ⟨r24, S25, k26, hf⟩ := dc_bd_ok hf
        have hm := lh_sm9_trans hm (show lh_sm9 S21 S25 from k_X9_answered k26)
        obtain ⟨v28, hv28, hf⟩ := dc_let_ok hf
        obtain ⟨_, rfl⟩ := dc_ret hf
        exact hm
      · replace hf := dc_if_f c19 hf
        obtain ⟨x29, hx29, hf⟩ := dc_nn_ok hf
        obtain ⟨x31, hx31, hf⟩ := dc_nn_ok hf
        obtain ⟨x33, hx33, hf⟩ := dc_nn_ok hf
        obtain ⟨g34, hf⟩ := dc_gd_ok hf
        by_cases c36 : (gvR S13 11 x33 (p2).toNatClampNeg) = none
        · replace hf := dc_if_t c36 hf
          exact lh_sm9_trans hm (ih S13 o14 w16 (gvR S13 5 x29 3) hf)
        · replace hf := dc_if_f c36 hf
          obtain ⟨x37, hx37, hf⟩ := dc_nn_ok hf
          by_cases c38 : (gvI S13 0 x37 0) = (1 : Int32)
          · replace hf := dc_if_t c38 hf
            exact lh_sm9_trans hm (ih S13 o14 (w16 + (gvJ S13 0 x37 2)) (gvR S13 5 x29 3) hf)
          · replace hf := dc_if_f c38 hf
            obtain ⟨r40, S41, k42, hf⟩ := dc_bd_ok hf
            have hm := lh_sm9_trans hm (show lh_sm9 S13 S41 from k_X9_product k42)
            obtain ⟨v44, hv44, hf⟩ := dc_let_ok hf
            obtain ⟨_, rfl⟩ := dc_ret hf
            exact hm
def f_X9_call (n : Nat) (S : lh_S) (t : Nat) (p1 : Int32) (p2 : Int32) (p3 : Int64) : Option (Int64 × lh_S) :=
  dc_bd (f_X9_classOfObject n S t p1) fun r1 S2 =>
  dc_if (r1 = none) (
  some ((-9223372036854775806 : Int64), S2)) (
  dc_bd (f_X9_isMethod n S2 p2) fun r7 S8 =>
  dc_if (r7 = 0) (
  some ((-9223372036854775805 : Int64), S8)) (
  f_X9_call_L34 n t p1 p2 p3 n S8 r1 (0 : Int64) r1))
set_option maxHeartbeats 1000000 in
theorem m_X9_call {n : Nat} {S : lh_S} {t : Nat} {p1 : Int32} {p2 : Int32} {p3 : Int64} {r : Int64} {S' : lh_S} (hf : f_X9_call n S t p1 p2 p3 = some (r, S')) : ∀ b, gvN S b ≤ gvN S' b := by
  have hm : ∀ b, gvN S b ≤ gvN S b := fun _ => Nat.le_refl _
  unfold f_X9_call at hf
  obtain ⟨r1, S2, k3, hf⟩ := dc_bd_ok hf
  have hm := lh_le_trans hm (show ∀ b, gvN S b ≤ gvN S2 b from m_X9_classOfObject k3)
  by_cases c6 : r1 = none
  · replace hf := dc_if_t c6 hf
    obtain ⟨_, rfl⟩ := dc_ret hf
    exact hm
  · replace hf := dc_if_f c6 hf
    obtain ⟨r7, S8, k9, hf⟩ := dc_bd_ok hf
    have hm := lh_le_trans hm (show ∀ b, gvN S2 b ≤ gvN S8 b from m_X9_isMethod k9)
    by_cases c12 : r7 = 0
    · replace hf := dc_if_t c12 hf
      obtain ⟨_, rfl⟩ := dc_ret hf
      exact hm
    · replace hf := dc_if_f c12 hf
      exact lh_le_trans hm (m_X9_call_L34 n S8 r1 (0 : Int64) r1 hf)
set_option maxHeartbeats 1000000 in
theorem k_X9_call {n : Nat} {S : lh_S} {t : Nat} {p1 : Int32} {p2 : Int32} {p3 : Int64} {r : Int64} {S' : lh_S} (hf : f_X9_call n S t p1 p2 p3 = some (r, S')) : lh_sm9 S S' := by
  have hm : lh_sm9 S S := lh_sm9_rf
  unfold f_X9_call at hf
  obtain ⟨r1, S2, k3, hf⟩ := dc_bd_ok hf
  have hm := lh_sm9_trans hm (show lh_sm9 S S2 from k_X9_classOfObject k3)
  by_cases c6 : r1 = none
  · replace hf := dc_if_t c6 hf
    obtain ⟨_, rfl⟩ := dc_ret hf
    exact hm
  · replace hf := dc_if_f c6 hf
    obtain ⟨r7, S8, k9, hf⟩ := dc_bd_ok hf
    have hm := lh_sm9_trans hm (show lh_sm9 S2 S8 from k_X9_isMethod k9)
    by_cases c12 : r7 = 0
    · replace hf := dc_if_t c12 hf
      obtain ⟨_, rfl⟩ := dc_ret hf
      exact hm
    · replace hf := dc_if_f c12 hf
      exact lh_sm9_trans hm (k_X9_call_L34 n S8 r1 (0 : Int64) r1 hf)
set_option maxHeartbeats 4000000 in
set_option maxRecDepth 100000 in
theorem c_X9_call (l : Launch) (D : va_G) (cT : Nat → ClassId) (n : Nat) (S : lh_S) (ad : Nat → Nat → Nat) (A : Nat → Prop) (sz : Nat) (hA : ∀ q, sz ≤ q → A q) (t : Nat) (p1 : Int32) (p2 : Int32) (p3 : Int64) (r : Int64) (S' : lh_S) (hf : f_X9_call n S t p1 p2 p3 = some (r, S')) (L_t : ∀ j, some t = some j → j < gvN S 9) : Met l yX9_call wsX9_call ({ frames := 1, cells := 0, slots := 0, locals := 23 } : Room) (lh_P D cT S ad A sz [lh_r ad 9 (some t), .int p1, .int p2, .long p3]) (lh_Q D cT S' ad A ((∀ b, gvN S b ≤ gvN S' b) ∧ True) (some (.long r))) 0 0 A := by
  refine Met.ofW (cc := cX9_call) (maxL := 10) (ret := (some .long)) (by decide) rfl ?_
  intro p e s m args below meth c s₁ B hml hv
  obtain ⟨hargs, hsz, hW, hK, hN⟩ := hv
  have hx := B.exec
  have hb := B.bytes
  have hr := B.returns
  have hts := atoms_spec (ws := wsX9_call) B.pre
  have hown : s.vm.findClass RX9 = some m.cls := findClass_of_methodNamed B.named
  have hlocks := B.notSynchronized
  have hA : ∀ q, s.heap.size ≤ q → A q := fun q h => hA q (by rw [← hsz]; exact h)
  have L34 : ∀ (g : Nat) (S13 : lh_S) (o14 : Option Nat) (w16 : Int64) (o17 : Option Nat), f_X9_call_L34 n t p1 p2 p3 g S13 o14 w16 o17 = some (r, S') → (∀ b, gvN S b ≤ gvN S13 b) → (∀ j, o14 = some j → j < gvN S13 5) → (∀ j, o17 = some j → j < gvN S13 5) → ∀ (H : Heap) (locs : List Loc), lh_W D cT S13 ad A H → va_S A s.heap H locs → ∀ (ls : Array Slot), lv_has ls 10 [(0, lh_r ad 9 (some t)), (1, .int p1), (2, .int p2), (3, .long p3), (5, lh_r ad 5 o14), (6, .long w16), (8, lh_r ad 5 o17)] → W p l e (headSpec wsX9_call ({ frames := 1, cells := 0, slots := 0, locals := 23 } : Room)).room s m args below meth c H locs 0 0 (MQ below (lh_Q D cT S' ad A ((∀ b, gvN S b ≤ gvN S' b) ∧ True) (some (.long r))) args s 0 0 A) (F0 m 34 ls []) := by
    intro g
    induction g with
    | zero => intro S13 o14 w16 o17 hf; rw [f_X9_call_L34] at hf; cases hf
    | succ g ih =>
      intro S13 o14 w16 o17 hf hm L15 L18 H locs hW hS ls hl
      rw [f_X9_call_L34] at hf
      have ok := lh_W_ok hW
      have L_t : ∀ j, some t = some j → j < gvN S13 9 := fun j h => Nat.lt_of_lt_of_le (L_t j h) (hm _)
      refine lh_aload hx hb dX9_call_34 (lv_at hl 6 rfl) ?_
      refine lh_ifnull (tgt := 100) hx hb dX9_call_36 (by decide) (fun c19 => ?_) (fun c19 => ?_)
      · replace hf := dc_if_t c19 hf
        refine lv_ldc2 (v := -9223372036854775808) hx hb hown (hts (.constantLong RX9 149 (-9223372036854775808)) (List.mem_cons_of_mem _ (List.mem_append_left _ (List.mem_append_left _ (List.mem_append_left _ (List.mem_append_left _ (List.mem_append_left _ (List.mem_of_getElem? (i := 7) rfl)))))))) dX9_call_100 ?_
        refine lh_aload_n hx hb dX9_call_103 rfl (lv_at hl 0 rfl) ?_
        refine lv_bipush (v := 10) hx hb dX9_call_104 (by decide) ?_
        obtain ⟨r20, S21, k22, hf⟩ := dc_bd_ok hf
        refine lh_call (S' := S21) (lh_rs ⟨hx, hb, hml, hown, hts⟩ (As := [.int (10 : Int32)]) (rest := [lh_r ad 9 (some t), .long (-9223372036854775808 : Int64)]) (c_X9_failed l D cT n S13 ad A H.size (fun q9 h9 => hA q9 (Nat.le_trans hS.1 h9)) (10 : Int32) r20 S21 k22 ) (va_cwS 1 hts gX9_call_X9_failed rfl rfl rfl (by decide +kernel) ⟨Nat.le_of_ble_eq_true rfl, Nat.le_of_ble_eq_true rfl⟩) hK hN hW rfl hl.1 rfl (by simp [lh_cat_r, lh_cat_i, lh_cat_j]) dX9_call_106 ⟨Nat.le_of_ble_eq_true rfl, Nat.le_of_ble_eq_true rfl⟩) hS (fun H locs hX hW hS => ?_)
        refine W.widen (k := 0) (n := 0) (by omega) (by omega) ?_
        show W _ _ _ _ _ _ _ _ _ _ _ _ _ _ _ (F0 m 109 ls [.int r20, lh_r ad 9 (some t), .long (-9223372036854775808 : Int64)])
        have m23 : ∀ b, gvN S13 b ≤ gvN S21 b := hX.1
        have L_t : ∀ j, some t = some j → j < gvN S21 9 := fun j h => Nat.lt_of_lt_of_le (L_t j h) (m23 _)
        have L15 : ∀ j, o14 = some j → j < gvN S21 5 := fun j h => Nat.lt_of_lt_of_le (L15 j h) (m23 _)
        have L18 : ∀ j, o17 = some j → j < gvN S21 5 := fun j h => Nat.lt_of_lt_of_le (L18 j h) (m23 _)
        have hm : ∀ b, gvN S b ≤ gvN S21 b := lh_le_trans hm m23
        have ok := lh_W_ok hW
        obtain ⟨r24, S25, k26, hf⟩ := dc_bd_ok hf
        refine lh_call (S' := S25) (lh_rv ⟨hx, hb, hml, hown, hts⟩ rfl (As := [.int r20]) (rest := [.long (-9223372036854775808 : Int64)]) (k := 9) (c_X9_answered l D cT n S21 ad A H.size (fun q9 h9 => hA q9 (Nat.le_trans hS.1 h9)) t r20 r24 S25 k26 L_t) (cwV 1 hts gX9_call_X9_answered rfl rfl rfl (by decide +kernel) ⟨Nat.le_of_ble_eq_true rfl, Nat.le_of_ble_eq_true rfl⟩) hK hN hW (L_t _ rfl) rfl rfl rfl hl.1 rfl (by simp [lh_cat_r, lh_cat_i, lh_cat_j]) dX9_call_109 ⟨Nat.le_of_ble_eq_true rfl, Nat.le_of_ble_eq_true rfl⟩) hS (fun H locs hX hW hS => ?_)
        refine W.widen (k := 0) (n := 0) (by omega) (by omega) ?_
        show W _ _ _ _ _ _ _ _ _ _ _ _ _ _ _ (F0 m 112 ls [.int r24, .long (-9223372036854775808 : Int64)])
        have m27 : ∀ b, gvN S21 b ≤ gvN S25 b := hX.1
        have L_t : ∀ j, some t = some j → j < gvN S25 9 := fun j h => Nat.lt_of_lt_of_le (L_t j h) (m27 _)
        have L15 : ∀ j, o14 = some j → j < gvN S25 5 := fun j h => Nat.lt_of_lt_of_le (L15 j h) (m27 _)
        have L18 : ∀ j, o17 = some j → j < gvN S25 5 := fun j h => Nat.lt_of_lt_of_le (L18 j h) (m27 _)
        have hm : ∀ b, gvN S b ≤ gvN S25 b := lh_le_trans hm m27
        have ok := lh_W_ok hW
        refine lv_i2l (v := r24.toInt64) hx hb dX9_call_112 rfl ?_
        refine lv_lsub hx hb dX9_call_113 ?_
        refine lv_topl (fun v28 hv28 => ?_)
        replace hf := dc_let_e hv28 hf
        obtain ⟨rfl, rfl⟩ := dc_ret hf
        exact W.lret (v := v28) hx hb hr (fun t9 ht9 hW9 => ⟨⟨rfl, ⟨hm, trivial⟩, by rw [ht9]; exact hW⟩, hS.F ht9⟩) hS.2.2 dX9_call_114
      · replace hf := dc_if_f c19 hf
        refine lh_aload hx hb dX9_call_39 (lv_at hl 6 rfl) ?_
        obtain ⟨x29, hx29, hf⟩ := dc_nn_ok hf
        have L30 : ∀ j, gvR S13 5 x29 2 = some j → j < gvN S13 1 := fun j h => ok _ _ _ _ j (L18 _ hx29) rfl h
        refine lh_get (a := 5) (k := 2) (N := 6) (C := RX5) (T := TX5) (own := RX9) (ref := "LoaderModels$Model") hx hb hts (fun _ h => (List.mem_cons_of_mem _ (List.mem_append_left _ (List.mem_append_left _ (List.mem_append_left _ (List.mem_append_right _ h)))))) hown hK hW hx29 (L18 _ hx29) rfl rfl rfl (by decide) (hts (.fieldLink RX9 136 "LoaderModels$Model" "file" "LLoaderModels$ClassFile;") (List.mem_cons_of_mem _ (List.mem_append_left _ (List.mem_append_left _ (List.mem_append_left _ (List.mem_append_left _ (List.mem_append_left _ (List.mem_of_getElem? (i := 2) rfl)))))))) (fun _ h9 => h9) dX9_call_41 (v := lh_r ad 1 (gvR S13 5 x29 2)) rfl ?_
        obtain ⟨x31, hx31, hf⟩ := dc_nn_ok hf
        have L32 : ∀ j, gvR S13 1 x31 6 = some j → j < gvN S13 11 := fun j h => ok _ _ _ _ j (L30 _ hx31) rfl h
        refine lh_get (a := 1) (k := 6) (N := 7) (C := RX1) (T := TX1) (own := RX9) (ref := "LoaderModels$ClassFile") hx hb hts (fun _ h => (List.mem_cons_of_mem _ (List.mem_append_left _ (List.mem_append_left _ (List.mem_append_right _ h))))) hown hK hW hx31 (L30 _ hx31) rfl rfl rfl (by decide) (hts (.fieldLink RX9 90 "LoaderModels$ClassFile" "bodies" "[LLoaderModels$Body;") (List.mem_cons_of_mem _ (List.mem_append_left _ (List.mem_append_left _ (List.mem_append_left _ (List.mem_append_left _ (List.mem_append_left _ (List.mem_of_getElem? (i := 3) rfl)))))))) (fun _ h9 => h9) dX9_call_44 (v := lh_r ad 11 (gvR S13 1 x31 6)) rfl ?_
        refine lv_iload_n hx hb dX9_call_47 rfl (lv_at hl 2 rfl) ?_
        obtain ⟨x33, hx33, hf⟩ := dc_nn_ok hf
        obtain ⟨g34, hf⟩ := dc_gd_ok hf
        have L35 : ∀ j, gvR S13 11 x33 (p2).toNatClampNeg = some j → j < gvN S13 0 := fun j h => ok 11 _ _ 0 j (L32 _ hx33) rfl h
        refine lh_ald_r (a := 11) (t0 := 3) (t := 0) hx hb hK hW hx33 (L32 _ hx33) rfl rfl rfl g34 dX9_call_48 ?_
        refine lh_astore (i := 9) (lv' := [(9, lh_r ad 0 (gvR S13 11 x33 (p2).toNatClampNeg)), (0, lh_r ad 9 (some t)), (1, .int p1), (2, .int p2), (3, .long p3), (5, lh_r ad 5 o14), (6, .long w16), (8, lh_r ad 5 o17)]) hx hb dX9_call_49 hl (by decide) (by first | rfl | simp [lh_cat_r, lh_cat_i, lh_cat_j]) (fun ls hl => ?_)
        refine lh_aload hx hb dX9_call_51 (lv_at hl 0 rfl) ?_
        refine lh_ifnonnull (tgt := 59) hx hb dX9_call_53 (by decide) (fun c36 => ?_) (fun c36 => ?_)
        · replace hf := dc_if_f c36 hf
          refine lv_lload hx hb dX9_call_59 (lv_at hl 6 rfl) ?_
          refine lh_aload hx hb dX9_call_61 (lv_at hl 0 rfl) ?_
          obtain ⟨x37, hx37, hf⟩ := dc_nn_ok hf
          refine lh_get (a := 0) (k := 2) (N := 3) (C := RX0) (T := TX0) (own := RX9) (ref := "LoaderModels$Body") hx hb hts (fun _ h => (List.mem_cons_of_mem _ (List.mem_append_left _ (List.mem_append_right _ h)))) hown hK hW hx37 (L35 _ hx37) rfl rfl rfl (by decide) (hts (.fieldLink RX9 184 "LoaderModels$Body" "b" "J") (List.mem_cons_of_mem _ (List.mem_append_left _ (List.mem_append_left _ (List.mem_append_left _ (List.mem_append_left _ (List.mem_append_left _ (List.mem_of_getElem? (i := 4) rfl)))))))) (fun _ h9 => h9) dX9_call_63 (v := .long (gvJ S13 0 x37 2)) rfl ?_
          refine lv_ladd hx hb dX9_call_66 ?_
          refine lv_lstore (i := 6) (lv' := [(6, .long (w16 + (gvJ S13 0 x37 2))), (9, lh_r ad 0 (gvR S13 11 x33 (p2).toNatClampNeg)), (0, lh_r ad 9 (some t)), (1, .int p1), (2, .int p2), (3, .long p3), (5, lh_r ad 5 o14), (8, lh_r ad 5 o17)]) hx hb dX9_call_67 hl (by decide) (by first | rfl | simp [lh_cat_r, lh_cat_i, lh_cat_j]) (fun ls hl => ?_)
          refine lh_aload hx hb dX9_call_69 (lv_at hl 1 rfl) ?_
          refine lh_get (a := 0) (k := 0) (N := 3) (C := RX0) (T := TX0) (own := RX9) (ref := "LoaderModels$Body") hx hb hts (fun _ h => (List.mem_cons_of_mem _ (List.mem_append_left _ (List.mem_append_right _ h)))) hown hK hW hx37 (L35 _ hx37) rfl rfl rfl (by decide) (hts (.fieldLink RX9 187 "LoaderModels$Body" "kind" "I") (List.mem_cons_of_mem _ (List.mem_append_left _ (List.mem_append_left _ (List.mem_append_left _ (List.mem_append_left _ (List.mem_append_left _ (List.mem_of_getElem? (i := 5) rfl)))))))) (fun _ h9 => h9) dX9_call_71 (v := .int (gvI S13 0 x37 0)) rfl ?_
          refine lv_iconst (v := 1) hx hb dX9_call_74 (by decide) ?_
          refine lv_icmp_eq (tgt := 90) hx hb dX9_call_75 (by decide) (fun c38 => ?_) (fun c38 => ?_)
          · replace hf := dc_if_t c38 hf
            refine lh_aload hx hb dX9_call_90 (lv_at hl 7 rfl) ?_
            have L39 : ∀ j, gvR S13 5 x29 3 = some j → j < gvN S13 5 := fun j h => ok _ _ _ _ j (L18 _ hx29) rfl h
            refine lh_get (a := 5) (k := 3) (N := 6) (C := RX5) (T := TX5) (own := RX9) (ref := "LoaderModels$Model") hx hb hts (fun _ h => (List.mem_cons_of_mem _ (List.mem_append_left _ (List.mem_append_left _ (List.mem_append_left _ (List.mem_append_right _ h)))))) hown hK hW hx29 (L18 _ hx29) rfl rfl rfl (by decide) (hts (.fieldLink RX9 194 "LoaderModels$Model" "above" "LLoaderModels$Model;") (List.mem_cons_of_mem _ (List.mem_append_left _ (List.mem_append_left _ (List.mem_append_left _ (List.mem_append_left _ (List.mem_append_left _ (List.mem_of_getElem? (i := 6) rfl)))))))) (fun _ h9 => h9) dX9_call_92 (v := lh_r ad 5 (gvR S13 5 x29 3)) rfl ?_
            refine lh_astore (i := 8) (lv' := [(8, lh_r ad 5 (gvR S13 5 x29 3)), (6, .long (w16 + (gvJ S13 0 x37 2))), (9, lh_r ad 0 (gvR S13 11 x33 (p2).toNatClampNeg)), (0, lh_r ad 9 (some t)), (1, .int p1), (2, .int p2), (3, .long p3), (5, lh_r ad 5 o14)]) hx hb dX9_call_95 hl (by decide) (by first | rfl | simp [lh_cat_r, lh_cat_i, lh_cat_j]) (fun ls hl => ?_)
            refine lv_goto (tgt := 34) hx hb dX9_call_97 (by decide) ?_
            exact ih S13 o14 (w16 + (gvJ S13 0 x37 2)) (gvR S13 5 x29 3) hf hm L15 L39 _ _ hW hS _ (lv_sub hl [3, 4, 5, 6, 7, 1, 0] (by first | rfl | simp [lv_pick]))
          · replace hf := dc_if_f c38 hf
            refine lv_lload hx hb dX9_call_78 (lv_at hl 0 rfl) ?_
            refine lh_aload hx hb dX9_call_80 (lv_at hl 7 rfl) ?_
            refine lh_aload hx hb dX9_call_82 (lv_at hl 1 rfl) ?_
            refine lv_lload_n hx hb dX9_call_84 rfl (lv_at hl 5 rfl) ?_
            obtain ⟨r40, S41, k42, hf⟩ := dc_bd_ok hf
            refine lh_call (S' := S41) (lh_rs ⟨hx, hb, hml, hown, hts⟩ (As := [lh_r ad 5 o17, lh_r ad 0 (gvR S13 11 x33 (p2).toNatClampNeg), .long p3]) (rest := [.long (w16 + (gvJ S13 0 x37 2))]) (c_X9_product l D cT n S13 ad A H.size (fun q9 h9 => hA q9 (Nat.le_trans hS.1 h9)) o17 (gvR S13 11 x33 (p2).toNatClampNeg) p3 r40 S41 k42 L18 L35) (va_cwS 3 hts gX9_call_X9_product rfl rfl rfl (by decide +kernel) ⟨Nat.le_of_ble_eq_true rfl, Nat.le_of_ble_eq_true rfl⟩) hK hN hW rfl hl.1 rfl (by simp [lh_cat_r, lh_cat_i, lh_cat_j]) dX9_call_85 ⟨Nat.le_of_ble_eq_true rfl, Nat.le_of_ble_eq_true rfl⟩) hS (fun H locs hX hW hS => ?_)
            refine W.widen (k := 0) (n := 0) (by omega) (by omega) ?_
            show W _ _ _ _ _ _ _ _ _ _ _ _ _ _ _ (F0 m 88 ls [.long r40, .long (w16 + (gvJ S13 0 x37 2))])
            have m43 : ∀ b, gvN S13 b ≤ gvN S41 b := hX.1
            have L35 : ∀ j, gvR S13 11 x33 (p2).toNatClampNeg = some j → j < gvN S41 0 := fun j h => Nat.lt_of_lt_of_le (L35 j h) (m43 _)
            have L_t : ∀ j, some t = some j → j < gvN S41 9 := fun j h => Nat.lt_of_lt_of_le (L_t j h) (m43 _)
            have L15 : ∀ j, o14 = some j → j < gvN S41 5 := fun j h => Nat.lt_of_lt_of_le (L15 j h) (m43 _)
            have L18 : ∀ j, o17 = some j → j < gvN S41 5 := fun j h => Nat.lt_of_lt_of_le (L18 j h) (m43 _)
            have hm : ∀ b, gvN S b ≤ gvN S41 b := lh_le_trans hm m43
            have ok := lh_W_ok hW
            refine lv_ladd hx hb dX9_call_88 ?_
            refine lv_topl (fun v44 hv44 => ?_)
            replace hf := dc_let_e hv44 hf
            obtain ⟨rfl, rfl⟩ := dc_ret hf
            exact W.lret (v := v44) hx hb hr (fun t9 ht9 hW9 => ⟨⟨rfl, ⟨hm, trivial⟩, by rw [ht9]; exact hW⟩, hS.F ht9⟩) hS.2.2 dX9_call_89
        · replace hf := dc_if_t c36 hf
          refine lv_goto (tgt := 90) hx hb dX9_call_56 (by decide) ?_
          refine lh_aload hx hb dX9_call_90 (lv_at hl 7 rfl) ?_
          have L45 : ∀ j, gvR S13 5 x29 3 = some j → j < gvN S13 5 := fun j h => ok _ _ _ _ j (L18 _ hx29) rfl h
          refine lh_get (a := 5) (k := 3) (N := 6) (C := RX5) (T := TX5) (own := RX9) (ref := "LoaderModels$Model") hx hb hts (fun _ h => (List.mem_cons_of_mem _ (List.mem_append_left _ (List.mem_append_left _ (List.mem_append_left _ (List.mem_append_right _ h)))))) hown hK hW hx29 (L18 _ hx29) rfl rfl rfl (by decide) (hts (.fieldLink RX9 194 "LoaderModels$Model" "above" "LLoaderModels$Model;") (List.mem_cons_of_mem _ (List.mem_append_left _ (List.mem_append_left _ (List.mem_append_left _ (List.mem_append_left _ (List.mem_append_left _ (List.mem_of_getElem? (i := 6) rfl)))))))) (fun _ h9 => h9) dX9_call_92 (v := lh_r ad 5 (gvR S13 5 x29 3)) rfl ?_
          refine lh_astore (i := 8) (lv' := [(8, lh_r ad 5 (gvR S13 5 x29 3)), (9, lh_r ad 0 (gvR S13 11 x33 (p2).toNatClampNeg)), (0, lh_r ad 9 (some t)), (1, .int p1), (2, .int p2), (3, .long p3), (5, lh_r ad 5 o14), (6, .long w16)]) hx hb dX9_call_95 hl (by decide) (by first | rfl | simp [lh_cat_r, lh_cat_i, lh_cat_j]) (fun ls hl => ?_)
          refine lv_goto (tgt := 34) hx hb dX9_call_97 (by decide) ?_
          exact ih S13 o14 w16 (gvR S13 5 x29 3) hf hm L15 L45 _ _ hW hS _ (lv_sub hl [2, 3, 4, 5, 6, 7, 0] (by first | rfl | simp [lv_pick]))
  have ok := lh_W_ok hW
  have hm : ∀ b, gvN S b ≤ gvN S b := fun _ => Nat.le_refl _
  obtain ⟨ls, hent, hl⟩ := lh_entry m args [lh_r ad 9 (some t), .int p1, .int p2, .long p3] 10 [(0, lh_r ad 9 (some t)), (1, .int p1), (2, .int p2), (3, .long p3)] hargs (by simp [lv_args, lh_cat_r, lh_cat_i, lh_cat_j]) (by simp [lg_sl, lh_cat_r, lh_cat_i, lh_cat_j])
  rw [hent]
  generalize hH : s.heap = H at hW ⊢
  have hS : va_S A s.heap H [] := by rw [← hH]; exact va_S.rf
  unfold f_X9_call at hf
  refine lh_aload_n hx hb dX9_call_0 rfl (lv_at hl 0 rfl) ?_
  refine lv_iload_n hx hb dX9_call_1 rfl (lv_at hl 1 rfl) ?_
  obtain ⟨r1, S2, k3, hf⟩ := dc_bd_ok hf
  refine lh_call (S' := S2) (lh_rv ⟨hx, hb, hml, hown, hts⟩ rfl (As := [.int p1]) (rest := []) (k := 9) (c_X9_classOfObject l D cT n S ad A H.size (fun q9 h9 => hA q9 (Nat.le_trans hS.1 h9)) t p1 r1 S2 k3 L_t) (cwV 1 hts gX9_call_X9_classOfObject rfl rfl rfl (by decide +kernel) ⟨Nat.le_of_ble_eq_true rfl, Nat.le_of_ble_eq_true rfl⟩) hK hN hW (L_t _ rfl) rfl rfl rfl hl.1 rfl (by simp [lh_cat_r, lh_cat_i, lh_cat_j]) dX9_call_2 ⟨Nat.le_of_ble_eq_true rfl, Nat.le_of_ble_eq_true rfl⟩) hS (fun H locs hX hW hS => ?_)
  refine W.widen (k := 0) (n := 0) (by omega) (by omega) ?_
  show W _ _ _ _ _ _ _ _ _ _ _ _ _ _ _ (F0 m 5 ls [lh_r ad 5 r1])
  have m4 : ∀ b, gvN S b ≤ gvN S2 b := hX.1
  have L_t : ∀ j, some t = some j → j < gvN S2 9 := fun j h => Nat.lt_of_lt_of_le (L_t j h) (m4 _)
  have hm : ∀ b, gvN S b ≤ gvN S2 b := lh_le_trans hm m4
  have ok := lh_W_ok hW
  have L5 := hX.2
  refine lh_astore (i := 5) (lv' := [(5, lh_r ad 5 r1), (0, lh_r ad 9 (some t)), (1, .int p1), (2, .int p2), (3, .long p3)]) hx hb dX9_call_5 hl (by decide) (by first | rfl | simp [lh_cat_r, lh_cat_i, lh_cat_j]) (fun ls hl => ?_)
  refine lh_aload hx hb dX9_call_7 (lv_at hl 0 rfl) ?_
  refine lh_ifnonnull (tgt := 16) hx hb dX9_call_9 (by decide) (fun c6 => ?_) (fun c6 => ?_)
  · replace hf := dc_if_f c6 hf
    refine lv_iload_n hx hb dX9_call_16 rfl (lv_at hl 3 rfl) ?_
    obtain ⟨r7, S8, k9, hf⟩ := dc_bd_ok hf
    refine lh_call (S' := S8) (lh_rs ⟨hx, hb, hml, hown, hts⟩ (As := [.int p2]) (rest := []) (c_X9_isMethod l D cT n S2 ad A H.size (fun q9 h9 => hA q9 (Nat.le_trans hS.1 h9)) p2 r7 S8 k9 ) (va_cwS 1 hts gX9_call_X9_isMethod rfl rfl rfl (by decide +kernel) ⟨Nat.le_of_ble_eq_true rfl, Nat.le_of_ble_eq_true rfl⟩) hK hN hW rfl hl.1 rfl (by simp [lh_cat_r, lh_cat_i, lh_cat_j]) dX9_call_17 ⟨Nat.le_of_ble_eq_true rfl, Nat.le_of_ble_eq_true rfl⟩) hS (fun H locs hX hW hS => ?_)
    refine W.widen (k := 0) (n := 0) (by omega) (by omega) ?_
    show W _ _ _ _ _ _ _ _ _ _ _ _ _ _ _ (F0 m 20 ls [.int r7])
    have m10 : ∀ b, gvN S2 b ≤ gvN S8 b := hX.1
    have L5 : ∀ j, r1 = some j → j < gvN S8 5 := fun j h => Nat.lt_of_lt_of_le (L5 j h) (m10 _)
    have L_t : ∀ j, some t = some j → j < gvN S8 9 := fun j h => Nat.lt_of_lt_of_le (L_t j h) (m10 _)
    have hm : ∀ b, gvN S b ≤ gvN S8 b := lh_le_trans hm m10
    have ok := lh_W_ok hW
    have z11 := hX.2
    refine lv_if_ne (tgt := 27) hx hb dX9_call_20 (by decide) (fun c12 => ?_) (fun c12 => ?_)
    · replace hf := dc_if_f c12 hf
      refine lv_lconst (v := 0) hx hb dX9_call_27 (by decide) ?_
      refine lv_lstore (i := 6) (lv' := [(6, .long (0 : Int64)), (5, lh_r ad 5 r1), (0, lh_r ad 9 (some t)), (1, .int p1), (2, .int p2), (3, .long p3)]) hx hb dX9_call_28 hl (by decide) (by first | rfl | simp [lh_cat_r, lh_cat_i, lh_cat_j]) (fun ls hl => ?_)
      refine lh_aload hx hb dX9_call_30 (lv_at hl 1 rfl) ?_
      refine lh_astore (i := 8) (lv' := [(8, lh_r ad 5 r1), (6, .long (0 : Int64)), (5, lh_r ad 5 r1), (0, lh_r ad 9 (some t)), (1, .int p1), (2, .int p2), (3, .long p3)]) hx hb dX9_call_32 hl (by decide) (by first | rfl | simp [lh_cat_r, lh_cat_i, lh_cat_j]) (fun ls hl => ?_)
      exact L34 n S8 r1 (0 : Int64) r1 hf hm L5 L5 _ _ hW hS _ (lv_sub hl [3, 4, 5, 6, 2, 1, 0] (by first | rfl | simp [lv_pick]))
    · replace hf := dc_if_t c12 hf
      refine lv_ldc2 (v := -9223372036854775805) hx hb hown (hts (.constantLong RX9 182 (-9223372036854775805)) (List.mem_cons_of_mem _ (List.mem_append_left _ (List.mem_append_left _ (List.mem_append_left _ (List.mem_append_left _ (List.mem_append_left _ (List.mem_of_getElem? (i := 1) rfl)))))))) dX9_call_23 ?_
      obtain ⟨rfl, rfl⟩ := dc_ret hf
      exact W.lret (v := (-9223372036854775805 : Int64)) hx hb hr (fun t9 ht9 hW9 => ⟨⟨rfl, ⟨hm, trivial⟩, by rw [ht9]; exact hW⟩, hS.F ht9⟩) hS.2.2 dX9_call_26
  · replace hf := dc_if_t c6 hf
    refine lv_ldc2 (v := -9223372036854775806) hx hb hown (hts (.constantLong RX9 143 (-9223372036854775806)) (List.mem_cons_of_mem _ (List.mem_append_left _ (List.mem_append_left _ (List.mem_append_left _ (List.mem_append_left _ (List.mem_append_left _ (List.mem_of_getElem? (i := 0) rfl)))))))) dX9_call_12 ?_
    obtain ⟨rfl, rfl⟩ := dc_ret hf
    exact W.lret (v := (-9223372036854775806 : Int64)) hx hb hr (fun t9 ht9 hW9 => ⟨⟨rfl, ⟨hm, trivial⟩, by rw [ht9]; exact hW⟩, hS.F ht9⟩) hS.2.2 dX9_call_15
def f_X9_about (n : Nat) (S : lh_S) (t : Nat) (p1 : Int32) (p2 : Int32) : Option (Int32 × lh_S) :=
  dc_nn (gvR S 9 t 3) fun x2 =>
  dc_bd (f_X4_classAt n S x2 p1) fun r3 S4 =>
  dc_if (r3 = none) (
  some ((-2 : Int32), S4)) (
  dc_if (p2 = 0) (
  dc_nn r3 fun x10 =>
  dc_nn (gvR S4 5 x10 2) fun x12 =>
  some (gvI S4 1 x12 1, S4)) (
  dc_if (p2 = 1) (
  dc_nn r3 fun x14 =>
  dc_nn (gvR S4 5 x14 1) fun x16 =>
  some (gvI S4 2 x16 0, S4)) (
  dc_if (p2 = 2) (
  dc_nn r3 fun x18 =>
  dc_bd (f_X9_numberOf n S4 (gvR S4 5 x18 3)) fun r20 S21 =>
  some (r20, S21)) (
  dc_if (p2 = 3) (
  dc_nn r3 fun x25 =>
  dc_nn (gvR S4 5 x25 2) fun x27 =>
  some (gvI S4 1 x27 0, S4)) (
  dc_if (p2 = 4) (
  dc_nn r3 fun x29 =>
  some (gvI S4 5 x29 4, S4)) (
  some ((-3 : Int32), S4)))))))
set_option maxHeartbeats 1000000 in
theorem m_X9_about {n : Nat} {S : lh_S} {t : Nat} {p1 : Int32} {p2 : Int32} {r : Int32} {S' : lh_S} (hf : f_X9_about n S t p1 p2 = some (r, S')) : ∀ b, gvN S b ≤ gvN S' b := by
  have hm : ∀ b, gvN S b ≤ gvN S b := fun _ => Nat.le_refl _
  unfold f_X9_about at hf
  obtain ⟨x2, hx2, hf⟩ := dc_nn_ok hf
  obtain ⟨r3, S4, k5, hf⟩ := dc_bd_ok hf
  have hm := lh_le_trans hm (show ∀ b, gvN S b ≤ gvN S4 b from m_X4_classAt k5)
  by_cases c8 : r3 = none
  · replace hf := dc_if_t c8 hf
    obtain ⟨_, rfl⟩ := dc_ret hf
    exact hm
  · replace hf := dc_if_f c8 hf
    by_cases c9 : p2 = 0
    · replace hf := dc_if_t c9 hf
      obtain ⟨x10, hx10, hf⟩ := dc_nn_ok hf
      obtain ⟨x12, hx12, hf⟩ := dc_nn_ok hf
      obtain ⟨_, rfl⟩ := dc_ret hf
      exact hm
    replace hf := dc_if_f c9 hf
    by_cases c13 : p2 = 1
    · replace hf := dc_if_t c13 hf
      obtain ⟨x14, hx14, hf⟩ := dc_nn_ok hf
      obtain ⟨x16, hx16, hf⟩ := dc_nn_ok hf
      obtain ⟨_, rfl⟩ := dc_ret hf
      exact hm
    replace hf := dc_if_f c13 hf
    by_cases c17 : p2 = 2
    · replace hf := dc_if_t c17 hf
      obtain ⟨x18, hx18, hf⟩ := dc_nn_ok hf
      obtain ⟨r20, S21, k22, hf⟩ := dc_bd_ok hf
      have hm := lh_le_trans hm (show ∀ b, gvN S4 b ≤ gvN S21 b from m_X9_numberOf k22)
      obtain ⟨_, rfl⟩ := dc_ret hf
      exact hm
    replace hf := dc_if_f c17 hf
    by_cases c24 : p2 = 3
    · replace hf := dc_if_t c24 hf
      obtain ⟨x25, hx25, hf⟩ := dc_nn_ok hf
      obtain ⟨x27, hx27, hf⟩ := dc_nn_ok hf
      obtain ⟨_, rfl⟩ := dc_ret hf
      exact hm
    replace hf := dc_if_f c24 hf
    by_cases c28 : p2 = 4
    · replace hf := dc_if_t c28 hf
      obtain ⟨x29, hx29, hf⟩ := dc_nn_ok hf
      obtain ⟨_, rfl⟩ := dc_ret hf
      exact hm
    replace hf := dc_if_f c28 hf
    obtain ⟨_, rfl⟩ := dc_ret hf
    exact hm
set_option maxHeartbeats 1000000 in
theorem k_X9_about {n : Nat} {S : lh_S} {t : Nat} {p1 : Int32} {p2 : Int32} {r : Int32} {S' : lh_S} (hf : f_X9_about n S t p1 p2 = some (r, S')) : lh_sm9 S S' := by
  have hm : lh_sm9 S S := lh_sm9_rf
  unfold f_X9_about at hf
  obtain ⟨x2, hx2, hf⟩ := dc_nn_ok hf
  obtain ⟨r3, S4, k5, hf⟩ := dc_bd_ok hf
  have hm := lh_sm9_trans hm (show lh_sm9 S S4 from k_X4_classAt k5)
  by_cases c8 : r3 = none
  · replace hf := dc_if_t c8 hf
    obtain ⟨_, rfl⟩ := dc_ret hf
    exact hm
  · replace hf := dc_if_f c8 hf
    by_cases c9 : p2 = 0
    · replace hf := dc_if_t c9 hf
      obtain ⟨x10, hx10, hf⟩ := dc_nn_ok hf
      obtain ⟨x12, hx12, hf⟩ := dc_nn_ok hf
      obtain ⟨_, rfl⟩ := dc_ret hf
      exact hm
    replace hf := dc_if_f c9 hf
    by_cases c13 : p2 = 1
    · replace hf := dc_if_t c13 hf
      obtain ⟨x14, hx14, hf⟩ := dc_nn_ok hf
      obtain ⟨x16, hx16, hf⟩ := dc_nn_ok hf
      obtain ⟨_, rfl⟩ := dc_ret hf
      exact hm
    replace hf := dc_if_f c13 hf
    by_cases c17 : p2 = 2
    · replace hf := dc_if_t c17 hf
      obtain ⟨x18, hx18, hf⟩ := dc_nn_ok hf
      obtain ⟨r20, S21, k22, hf⟩ := dc_bd_ok hf
      have hm := lh_sm9_trans hm (show lh_sm9 S4 S21 from k_X9_numberOf k22)
      obtain ⟨_, rfl⟩ := dc_ret hf
      exact hm
    replace hf := dc_if_f c17 hf
    by_cases c24 : p2 = 3
    · replace hf := dc_if_t c24 hf
      obtain ⟨x25, hx25, hf⟩ := dc_nn_ok hf
      obtain ⟨x27, hx27, hf⟩ := dc_nn_ok hf
      obtain ⟨_, rfl⟩ := dc_ret hf
      exact hm
    replace hf := dc_if_f c24 hf
    by_cases c28 : p2 = 4
    · replace hf := dc_if_t c28 hf
      obtain ⟨x29, hx29, hf⟩ := dc_nn_ok hf
      obtain ⟨_, rfl⟩ := dc_ret hf
      exact hm
    replace hf := dc_if_f c28 hf
    obtain ⟨_, rfl⟩ := dc_ret hf
    exact hm
set_option maxHeartbeats 4000000 in
set_option maxRecDepth 100000 in
theorem c_X9_about (l : Launch) (D : va_G) (cT : Nat → ClassId) (n : Nat) (S : lh_S) (ad : Nat → Nat → Nat) (A : Nat → Prop) (sz : Nat) (hA : ∀ q, sz ≤ q → A q) (t : Nat) (p1 : Int32) (p2 : Int32) (r : Int32) (S' : lh_S) (hf : f_X9_about n S t p1 p2 = some (r, S')) (L_t : ∀ j, some t = some j → j < gvN S 9) : Met l yX9_about wsX9_about ({ frames := 1, cells := 0, slots := 0, locals := 21 } : Room) (lh_P D cT S ad A sz [lh_r ad 9 (some t), .int p1, .int p2]) (lh_Q D cT S' ad A ((∀ b, gvN S b ≤ gvN S' b) ∧ True) (some (.int r))) 0 0 A := by
  refine Met.ofW (cc := cX9_about) (maxL := 4) (ret := (some .int)) (by decide) rfl ?_
  intro p e s m args below meth c s₁ B hml hv
  obtain ⟨hargs, hsz, hW, hK, hN⟩ := hv
  have hx := B.exec
  have hb := B.bytes
  have hr := B.returns
  have hts := atoms_spec (ws := wsX9_about) B.pre
  have hown : s.vm.findClass RX9 = some m.cls := findClass_of_methodNamed B.named
  have hlocks := B.notSynchronized
  have hA : ∀ q, s.heap.size ≤ q → A q := fun q h => hA q (by rw [← hsz]; exact h)
  have ok := lh_W_ok hW
  have hm : ∀ b, gvN S b ≤ gvN S b := fun _ => Nat.le_refl _
  obtain ⟨ls, hent, hl⟩ := lh_entry m args [lh_r ad 9 (some t), .int p1, .int p2] 4 [(0, lh_r ad 9 (some t)), (1, .int p1), (2, .int p2)] hargs (by simp [lv_args, lh_cat_r, lh_cat_i, lh_cat_j]) (by simp [lg_sl, lh_cat_r, lh_cat_i, lh_cat_j])
  rw [hent]
  generalize hH : s.heap = H at hW ⊢
  have hS : va_S A s.heap H [] := by rw [← hH]; exact va_S.rf
  unfold f_X9_about at hf
  refine lh_aload_n hx hb dX9_about_0 rfl (lv_at hl 0 rfl) ?_
  have L1 : ∀ j, gvR S 9 t 3 = some j → j < gvN S 4 := fun j h => ok _ _ _ _ j (L_t _ rfl) rfl h
  refine lh_get (a := 9) (k := 3) (N := 10) (C := RX9) (T := TX9) (own := RX9) (ref := "LoaderModels") hx hb hts (fun _ h => (List.mem_cons_of_mem _ (List.mem_append_left _ (List.mem_append_left _ (List.mem_append_left _ (List.mem_append_left _ (List.mem_append_right _ h))))))) hown hK hW rfl (L_t _ rfl) rfl rfl rfl (by decide) (hts (.fieldLink RX9 29 "LoaderModels" "loading" "LLoaderModels$Loading;") (List.mem_cons_of_mem _ (List.mem_append_left _ (List.mem_append_left _ (List.mem_append_left _ (List.mem_append_left _ (List.mem_append_left _ (List.mem_of_getElem? (i := 0) rfl)))))))) (fun _ h9 => h9) dX9_about_1 (v := lh_r ad 4 (gvR S 9 t 3)) rfl ?_
  refine lv_iload_n hx hb dX9_about_4 rfl (lv_at hl 1 rfl) ?_
  obtain ⟨x2, hx2, hf⟩ := dc_nn_ok hf
  obtain ⟨r3, S4, k5, hf⟩ := dc_bd_ok hf
  refine lh_call (S' := S4) (lh_rv ⟨hx, hb, hml, hown, hts⟩ hx2 (As := [.int p1]) (rest := []) (k := 4) (c_X4_classAt l D cT n S ad A H.size (fun q9 h9 => hA q9 (Nat.le_trans hS.1 h9)) x2 p1 r3 S4 k5 (lh_ls (L1 _ hx2))) (cwV 1 hts gX9_about_X4_classAt rfl rfl rfl (by decide +kernel) ⟨Nat.le_of_ble_eq_true rfl, Nat.le_of_ble_eq_true rfl⟩) hK hN hW (L1 _ hx2) rfl rfl rfl hl.1 rfl (by simp [lh_cat_r, lh_cat_i, lh_cat_j]) dX9_about_5 ⟨Nat.le_of_ble_eq_true rfl, Nat.le_of_ble_eq_true rfl⟩) hS (fun H locs hX hW hS => ?_)
  refine W.widen (k := 0) (n := 0) (by omega) (by omega) ?_
  show W _ _ _ _ _ _ _ _ _ _ _ _ _ _ _ (F0 m 8 ls [lh_r ad 5 r3])
  have m6 : ∀ b, gvN S b ≤ gvN S4 b := hX.1
  have L_t : ∀ j, some t = some j → j < gvN S4 9 := fun j h => Nat.lt_of_lt_of_le (L_t j h) (m6 _)
  have hm : ∀ b, gvN S b ≤ gvN S4 b := lh_le_trans hm m6
  have ok := lh_W_ok hW
  have L7 := hX.2
  refine lh_astore_n (i := 3) (lv' := [(3, lh_r ad 5 r3), (0, lh_r ad 9 (some t)), (1, .int p1), (2, .int p2)]) hx hb dX9_about_8 rfl hl (by decide) (by first | rfl | simp [lh_cat_r, lh_cat_i, lh_cat_j]) (fun ls hl => ?_)
  refine lh_aload_n hx hb dX9_about_9 rfl (lv_at hl 0 rfl) ?_
  refine lh_ifnonnull (tgt := 16) hx hb dX9_about_10 (by decide) (fun c8 => ?_) (fun c8 => ?_)
  · replace hf := dc_if_f c8 hf
    refine lv_iload_n hx hb dX9_about_16 rfl (lv_at hl 3 rfl) ?_
    by_cases c9 : p2 = 0
    · refine lv_tableIn (tgt := 52) hx hb dX9_about_17 (by rw [c9]; decide) (by rw [c9]; decide) (by rw [c9]; rfl) (by decide) ?_
      replace hf := dc_if_t c9 hf
      refine lh_aload_n hx hb dX9_about_52 rfl (lv_at hl 0 rfl) ?_
      obtain ⟨x10, hx10, hf⟩ := dc_nn_ok hf
      have L11 : ∀ j, gvR S4 5 x10 2 = some j → j < gvN S4 1 := fun j h => ok _ _ _ _ j (L7 _ hx10) rfl h
      refine lh_get (a := 5) (k := 2) (N := 6) (C := RX5) (T := TX5) (own := RX9) (ref := "LoaderModels$Model") hx hb hts (fun _ h => (List.mem_cons_of_mem _ (List.mem_append_left _ (List.mem_append_left _ (List.mem_append_left _ (List.mem_append_right _ h)))))) hown hK hW hx10 (L7 _ hx10) rfl rfl rfl (by decide) (hts (.fieldLink RX9 136 "LoaderModels$Model" "file" "LLoaderModels$ClassFile;") (List.mem_cons_of_mem _ (List.mem_append_left _ (List.mem_append_left _ (List.mem_append_left _ (List.mem_append_left _ (List.mem_append_left _ (List.mem_of_getElem? (i := 1) rfl)))))))) (fun _ h9 => h9) dX9_about_53 (v := lh_r ad 1 (gvR S4 5 x10 2)) rfl ?_
      obtain ⟨x12, hx12, hf⟩ := dc_nn_ok hf
      refine lh_get (a := 1) (k := 1) (N := 7) (C := RX1) (T := TX1) (own := RX9) (ref := "LoaderModels$ClassFile") hx hb hts (fun _ h => (List.mem_cons_of_mem _ (List.mem_append_left _ (List.mem_append_left _ (List.mem_append_right _ h))))) hown hK hW hx12 (L11 _ hx12) rfl rfl rfl (by decide) (hts (.fieldLink RX9 99 "LoaderModels$ClassFile" "name" "I") (List.mem_cons_of_mem _ (List.mem_append_left _ (List.mem_append_left _ (List.mem_append_left _ (List.mem_append_left _ (List.mem_append_left _ (List.mem_of_getElem? (i := 2) rfl)))))))) (fun _ h9 => h9) dX9_about_56 (v := .int (gvI S4 1 x12 1)) rfl ?_
      obtain ⟨rfl, rfl⟩ := dc_ret hf
      exact W.iret (v := gvI S4 1 x12 1) hx hb hr (fun t9 ht9 hW9 => ⟨⟨rfl, ⟨hm, trivial⟩, by rw [ht9]; exact hW⟩, hS.F ht9⟩) hS.2.2 dX9_about_59
    replace hf := dc_if_f c9 hf
    by_cases c13 : p2 = 1
    · refine lv_tableIn (tgt := 60) hx hb dX9_about_17 (by rw [c13]; decide) (by rw [c13]; decide) (by rw [c13]; rfl) (by decide) ?_
      replace hf := dc_if_t c13 hf
      refine lh_aload_n hx hb dX9_about_60 rfl (lv_at hl 0 rfl) ?_
      obtain ⟨x14, hx14, hf⟩ := dc_nn_ok hf
      have L15 : ∀ j, gvR S4 5 x14 1 = some j → j < gvN S4 2 := fun j h => ok _ _ _ _ j (L7 _ hx14) rfl h
      refine lh_get (a := 5) (k := 1) (N := 6) (C := RX5) (T := TX5) (own := RX9) (ref := "LoaderModels$Model") hx hb hts (fun _ h => (List.mem_cons_of_mem _ (List.mem_append_left _ (List.mem_append_left _ (List.mem_append_left _ (List.mem_append_right _ h)))))) hown hK hW hx14 (L7 _ hx14) rfl rfl rfl (by decide) (hts (.fieldLink RX9 125 "LoaderModels$Model" "definer" "LLoaderModels$Loader;") (List.mem_cons_of_mem _ (List.mem_append_left _ (List.mem_append_left _ (List.mem_append_left _ (List.mem_append_left _ (List.mem_append_left _ (List.mem_of_getElem? (i := 3) rfl)))))))) (fun _ h9 => h9) dX9_about_61 (v := lh_r ad 2 (gvR S4 5 x14 1)) rfl ?_
      obtain ⟨x16, hx16, hf⟩ := dc_nn_ok hf
      refine lh_get (a := 2) (k := 0) (N := 7) (C := RX2) (T := TX2) (own := RX9) (ref := "LoaderModels$Loader") hx hb hts (fun _ h => (List.mem_cons_of_mem _ (List.mem_append_left _ (List.mem_append_right _ h)))) hown hK hW hx16 (L15 _ hx16) rfl rfl rfl (by decide) (hts (.fieldLink RX9 69 "LoaderModels$Loader" "number" "I") (List.mem_cons_of_mem _ (List.mem_append_left _ (List.mem_append_left _ (List.mem_append_left _ (List.mem_append_left _ (List.mem_append_left _ (List.mem_of_getElem? (i := 4) rfl)))))))) (fun _ h9 => h9) dX9_about_64 (v := .int (gvI S4 2 x16 0)) rfl ?_
      obtain ⟨rfl, rfl⟩ := dc_ret hf
      exact W.iret (v := gvI S4 2 x16 0) hx hb hr (fun t9 ht9 hW9 => ⟨⟨rfl, ⟨hm, trivial⟩, by rw [ht9]; exact hW⟩, hS.F ht9⟩) hS.2.2 dX9_about_67
    replace hf := dc_if_f c13 hf
    by_cases c17 : p2 = 2
    · refine lv_tableIn (tgt := 68) hx hb dX9_about_17 (by rw [c17]; decide) (by rw [c17]; decide) (by rw [c17]; rfl) (by decide) ?_
      replace hf := dc_if_t c17 hf
      refine lh_aload_n hx hb dX9_about_68 rfl (lv_at hl 0 rfl) ?_
      obtain ⟨x18, hx18, hf⟩ := dc_nn_ok hf
      have L19 : ∀ j, gvR S4 5 x18 3 = some j → j < gvN S4 5 := fun j h => ok _ _ _ _ j (L7 _ hx18) rfl h
      refine lh_get (a := 5) (k := 3) (N := 6) (C := RX5) (T := TX5) (own := RX9) (ref := "LoaderModels$Model") hx hb hts (fun _ h => (List.mem_cons_of_mem _ (List.mem_append_left _ (List.mem_append_left _ (List.mem_append_left _ (List.mem_append_right _ h)))))) hown hK hW hx18 (L7 _ hx18) rfl rfl rfl (by decide) (hts (.fieldLink RX9 194 "LoaderModels$Model" "above" "LLoaderModels$Model;") (List.mem_cons_of_mem _ (List.mem_append_left _ (List.mem_append_left _ (List.mem_append_left _ (List.mem_append_left _ (List.mem_append_left _ (List.mem_of_getElem? (i := 5) rfl)))))))) (fun _ h9 => h9) dX9_about_69 (v := lh_r ad 5 (gvR S4 5 x18 3)) rfl ?_
      obtain ⟨r20, S21, k22, hf⟩ := dc_bd_ok hf
      refine lh_call (S' := S21) (lh_rs ⟨hx, hb, hml, hown, hts⟩ (As := [lh_r ad 5 (gvR S4 5 x18 3)]) (rest := []) (c_X9_numberOf l D cT n S4 ad A H.size (fun q9 h9 => hA q9 (Nat.le_trans hS.1 h9)) (gvR S4 5 x18 3) r20 S21 k22 L19) (va_cwS 1 hts gX9_about_X9_numberOf rfl rfl rfl (by decide +kernel) ⟨Nat.le_of_ble_eq_true rfl, Nat.le_of_ble_eq_true rfl⟩) hK hN hW rfl hl.1 rfl (by simp [lh_cat_r, lh_cat_i, lh_cat_j]) dX9_about_72 ⟨Nat.le_of_ble_eq_true rfl, Nat.le_of_ble_eq_true rfl⟩) hS (fun H locs hX hW hS => ?_)
      refine W.widen (k := 0) (n := 0) (by omega) (by omega) ?_
      show W _ _ _ _ _ _ _ _ _ _ _ _ _ _ _ (F0 m 75 ls [.int r20])
      have m23 : ∀ b, gvN S4 b ≤ gvN S21 b := hX.1
      have L7 : ∀ j, r3 = some j → j < gvN S21 5 := fun j h => Nat.lt_of_lt_of_le (L7 j h) (m23 _)
      have L_t : ∀ j, some t = some j → j < gvN S21 9 := fun j h => Nat.lt_of_lt_of_le (L_t j h) (m23 _)
      have hm : ∀ b, gvN S b ≤ gvN S21 b := lh_le_trans hm m23
      have ok := lh_W_ok hW
      obtain ⟨rfl, rfl⟩ := dc_ret hf
      exact W.iret (v := r20) hx hb hr (fun t9 ht9 hW9 => ⟨⟨rfl, ⟨hm, trivial⟩, by rw [ht9]; exact hW⟩, hS.F ht9⟩) hS.2.2 dX9_about_75
    replace hf := dc_if_f c17 hf
    by_cases c24 : p2 = 3
    · refine lv_tableIn (tgt := 76) hx hb dX9_about_17 (by rw [c24]; decide) (by rw [c24]; decide) (by rw [c24]; rfl) (by decide) ?_
      replace hf := dc_if_t c24 hf
      refine lh_aload_n hx hb dX9_about_76 rfl (lv_at hl 0 rfl) ?_
      obtain ⟨x25, hx25, hf⟩ := dc_nn_ok hf
      have L26 : ∀ j, gvR S4 5 x25 2 = some j → j < gvN S4 1 := fun j h => ok _ _ _ _ j (L7 _ hx25) rfl h
      refine lh_get (a := 5) (k := 2) (N := 6) (C := RX5) (T := TX5) (own := RX9) (ref := "LoaderModels$Model") hx hb hts (fun _ h => (List.mem_cons_of_mem _ (List.mem_append_left _ (List.mem_append_left _ (List.mem_append_left _ (List.mem_append_right _ h)))))) hown hK hW hx25 (L7 _ hx25) rfl rfl rfl (by decide) (hts (.fieldLink RX9 136 "LoaderModels$Model" "file" "LLoaderModels$ClassFile;") (List.mem_cons_of_mem _ (List.mem_append_left _ (List.mem_append_left _ (List.mem_append_left _ (List.mem_append_left _ (List.mem_append_left _ (List.mem_of_getElem? (i := 1) rfl)))))))) (fun _ h9 => h9) dX9_about_77 (v := lh_r ad 1 (gvR S4 5 x25 2)) rfl ?_
      obtain ⟨x27, hx27, hf⟩ := dc_nn_ok hf
      refine lh_get (a := 1) (k := 0) (N := 7) (C := RX1) (T := TX1) (own := RX9) (ref := "LoaderModels$ClassFile") hx hb hts (fun _ h => (List.mem_cons_of_mem _ (List.mem_append_left _ (List.mem_append_left _ (List.mem_append_right _ h))))) hown hK hW hx27 (L26 _ hx27) rfl rfl rfl (by decide) (hts (.fieldLink RX9 197 "LoaderModels$ClassFile" "number" "I") (List.mem_cons_of_mem _ (List.mem_append_left _ (List.mem_append_left _ (List.mem_append_left _ (List.mem_append_left _ (List.mem_append_left _ (List.mem_of_getElem? (i := 6) rfl)))))))) (fun _ h9 => h9) dX9_about_80 (v := .int (gvI S4 1 x27 0)) rfl ?_
      obtain ⟨rfl, rfl⟩ := dc_ret hf
      exact W.iret (v := gvI S4 1 x27 0) hx hb hr (fun t9 ht9 hW9 => ⟨⟨rfl, ⟨hm, trivial⟩, by rw [ht9]; exact hW⟩, hS.F ht9⟩) hS.2.2 dX9_about_83
    replace hf := dc_if_f c24 hf
    by_cases c28 : p2 = 4
    · refine lv_tableIn (tgt := 84) hx hb dX9_about_17 (by rw [c28]; decide) (by rw [c28]; decide) (by rw [c28]; rfl) (by decide) ?_
      replace hf := dc_if_t c28 hf
      refine lh_aload_n hx hb dX9_about_84 rfl (lv_at hl 0 rfl) ?_
      obtain ⟨x29, hx29, hf⟩ := dc_nn_ok hf
      refine lh_get (a := 5) (k := 4) (N := 6) (C := RX5) (T := TX5) (own := RX9) (ref := "LoaderModels$Model") hx hb hts (fun _ h => (List.mem_cons_of_mem _ (List.mem_append_left _ (List.mem_append_left _ (List.mem_append_left _ (List.mem_append_right _ h)))))) hown hK hW hx29 (L7 _ hx29) rfl rfl rfl (by decide) (hts (.fieldLink RX9 198 "LoaderModels$Model" "state" "I") (List.mem_cons_of_mem _ (List.mem_append_left _ (List.mem_append_left _ (List.mem_append_left _ (List.mem_append_left _ (List.mem_append_left _ (List.mem_of_getElem? (i := 7) rfl)))))))) (fun _ h9 => h9) dX9_about_85 (v := .int (gvI S4 5 x29 4)) rfl ?_
      obtain ⟨rfl, rfl⟩ := dc_ret hf
      exact W.iret (v := gvI S4 5 x29 4) hx hb hr (fun t9 ht9 hW9 => ⟨⟨rfl, ⟨hm, trivial⟩, by rw [ht9]; exact hW⟩, hS.F ht9⟩) hS.2.2 dX9_about_88
    replace hf := dc_if_f c28 hf
    have tc9 := lv_neT (a := 0) c9 (by decide)
    have tc13 := lv_neT (a := 1) c13 (by decide)
    have tc17 := lv_neT (a := 2) c17 (by decide)
    have tc24 := lv_neT (a := 3) c24 (by decide)
    have tc28 := lv_neT (a := 4) c28 (by decide)
    refine lv_tableOut (tgt := 89) hx hb dX9_about_17 (by omega) (by decide) ?_
    refine lv_bipush (v := -3) hx hb dX9_about_89 (by decide) ?_
    obtain ⟨rfl, rfl⟩ := dc_ret hf
    exact W.iret (v := (-3 : Int32)) hx hb hr (fun t9 ht9 hW9 => ⟨⟨rfl, ⟨hm, trivial⟩, by rw [ht9]; exact hW⟩, hS.F ht9⟩) hS.2.2 dX9_about_91
  · replace hf := dc_if_t c8 hf
    refine lv_bipush (v := -2) hx hb dX9_about_13 (by decide) ?_
    obtain ⟨rfl, rfl⟩ := dc_ret hf
    exact W.iret (v := (-2 : Int32)) hx hb hr (fun t9 ht9 hW9 => ⟨⟨rfl, ⟨hm, trivial⟩, by rw [ht9]; exact hW⟩, hS.F ht9⟩) hS.2.2 dX9_about_15
def f_X9_noted (n : Nat) (S : lh_S) (t : Nat) (p1 : Int32) : Option (Int32 × lh_S) :=
  dc_nn (gvR S 9 t 3) fun x2 =>
  dc_nn (gvR S 4 x2 1) fun x4 =>
  dc_bd (f_X6_latest n S x4 p1) fun r5 S6 =>
  some (r5, S6)
set_option maxHeartbeats 1000000 in
theorem m_X9_noted {n : Nat} {S : lh_S} {t : Nat} {p1 : Int32} {r : Int32} {S' : lh_S} (hf : f_X9_noted n S t p1 = some (r, S')) : ∀ b, gvN S b ≤ gvN S' b := by
  have hm : ∀ b, gvN S b ≤ gvN S b := fun _ => Nat.le_refl _
  unfold f_X9_noted at hf
  obtain ⟨x2, hx2, hf⟩ := dc_nn_ok hf
  obtain ⟨x4, hx4, hf⟩ := dc_nn_ok hf
  obtain ⟨r5, S6, k7, hf⟩ := dc_bd_ok hf
  have hm := lh_le_trans hm (show ∀ b, gvN S b ≤ gvN S6 b from m_X6_latest k7)
  obtain ⟨_, rfl⟩ := dc_ret hf
  exact hm
set_option maxHeartbeats 1000000 in
theorem k_X9_noted {n : Nat} {S : lh_S} {t : Nat} {p1 : Int32} {r : Int32} {S' : lh_S} (hf : f_X9_noted n S t p1 = some (r, S')) : lh_sm9 S S' := by
  have hm : lh_sm9 S S := lh_sm9_rf
  unfold f_X9_noted at hf
  obtain ⟨x2, hx2, hf⟩ := dc_nn_ok hf
  obtain ⟨x4, hx4, hf⟩ := dc_nn_ok hf
  obtain ⟨r5, S6, k7, hf⟩ := dc_bd_ok hf
  have hm := lh_sm9_trans hm (show lh_sm9 S S6 from k_X6_latest k7)
  obtain ⟨_, rfl⟩ := dc_ret hf
  exact hm
set_option maxHeartbeats 4000000 in
set_option maxRecDepth 100000 in
theorem c_X9_noted (l : Launch) (D : va_G) (cT : Nat → ClassId) (n : Nat) (S : lh_S) (ad : Nat → Nat → Nat) (A : Nat → Prop) (sz : Nat) (hA : ∀ q, sz ≤ q → A q) (t : Nat) (p1 : Int32) (r : Int32) (S' : lh_S) (hf : f_X9_noted n S t p1 = some (r, S')) (L_t : ∀ j, some t = some j → j < gvN S 9) : Met l yX9_noted wsX9_noted ({ frames := 1, cells := 0, slots := 0, locals := 21 } : Room) (lh_P D cT S ad A sz [lh_r ad 9 (some t), .int p1]) (lh_Q D cT S' ad A ((∀ b, gvN S b ≤ gvN S' b) ∧ True) (some (.int r))) 0 0 A := by
  refine Met.ofW (cc := cX9_noted) (maxL := 2) (ret := (some .int)) (by decide) rfl ?_
  intro p e s m args below meth c s₁ B hml hv
  obtain ⟨hargs, hsz, hW, hK, hN⟩ := hv
  have hx := B.exec
  have hb := B.bytes
  have hr := B.returns
  have hts := atoms_spec (ws := wsX9_noted) B.pre
  have hown : s.vm.findClass RX9 = some m.cls := findClass_of_methodNamed B.named
  have hlocks := B.notSynchronized
  have hA : ∀ q, s.heap.size ≤ q → A q := fun q h => hA q (by rw [← hsz]; exact h)
  have ok := lh_W_ok hW
  have hm : ∀ b, gvN S b ≤ gvN S b := fun _ => Nat.le_refl _
  obtain ⟨ls, hent, hl⟩ := lh_entry m args [lh_r ad 9 (some t), .int p1] 2 [(0, lh_r ad 9 (some t)), (1, .int p1)] hargs (by simp [lv_args, lh_cat_r, lh_cat_i, lh_cat_j]) (by simp [lg_sl, lh_cat_r, lh_cat_i, lh_cat_j])
  rw [hent]
  generalize hH : s.heap = H at hW ⊢
  have hS : va_S A s.heap H [] := by rw [← hH]; exact va_S.rf
  unfold f_X9_noted at hf
  refine lh_aload_n hx hb dX9_noted_0 rfl (lv_at hl 0 rfl) ?_
  have L1 : ∀ j, gvR S 9 t 3 = some j → j < gvN S 4 := fun j h => ok _ _ _ _ j (L_t _ rfl) rfl h
  refine lh_get (a := 9) (k := 3) (N := 10) (C := RX9) (T := TX9) (own := RX9) (ref := "LoaderModels") hx hb hts (fun _ h => (List.mem_cons_of_mem _ (List.mem_append_left _ (List.mem_append_left _ (List.mem_append_right _ h))))) hown hK hW rfl (L_t _ rfl) rfl rfl rfl (by decide) (hts (.fieldLink RX9 29 "LoaderModels" "loading" "LLoaderModels$Loading;") (List.mem_cons_of_mem _ (List.mem_append_left _ (List.mem_append_left _ (List.mem_append_left _ (List.mem_of_getElem? (i := 0) rfl)))))) (fun _ h9 => h9) dX9_noted_1 (v := lh_r ad 4 (gvR S 9 t 3)) rfl ?_
  obtain ⟨x2, hx2, hf⟩ := dc_nn_ok hf
  have L3 : ∀ j, gvR S 4 x2 1 = some j → j < gvN S 6 := fun j h => ok _ _ _ _ j (L1 _ hx2) rfl h
  refine lh_get (a := 4) (k := 1) (N := 6) (C := RX4) (T := TX4) (own := RX9) (ref := "LoaderModels$Loading") hx hb hts (fun _ h => (List.mem_cons_of_mem _ (List.mem_append_left _ (List.mem_append_right _ h)))) hown hK hW hx2 (L1 _ hx2) rfl rfl rfl (by decide) (hts (.fieldLink RX9 201 "LoaderModels$Loading" "notes" "LLoaderModels$Notes;") (List.mem_cons_of_mem _ (List.mem_append_left _ (List.mem_append_left _ (List.mem_append_left _ (List.mem_of_getElem? (i := 1) rfl)))))) (fun _ h9 => h9) dX9_noted_4 (v := lh_r ad 6 (gvR S 4 x2 1)) rfl ?_
  refine lv_iload_n hx hb dX9_noted_7 rfl (lv_at hl 1 rfl) ?_
  obtain ⟨x4, hx4, hf⟩ := dc_nn_ok hf
  obtain ⟨r5, S6, k7, hf⟩ := dc_bd_ok hf
  refine lh_call (S' := S6) (lh_rv ⟨hx, hb, hml, hown, hts⟩ hx4 (As := [.int p1]) (rest := []) (k := 6) (c_X6_latest l D cT n S ad A H.size (fun q9 h9 => hA q9 (Nat.le_trans hS.1 h9)) x4 p1 r5 S6 k7 (lh_ls (L3 _ hx4))) (cwV 1 hts gX9_noted_X6_latest rfl rfl rfl (by decide +kernel) ⟨Nat.le_of_ble_eq_true rfl, Nat.le_of_ble_eq_true rfl⟩) hK hN hW (L3 _ hx4) rfl rfl rfl hl.1 rfl (by simp [lh_cat_r, lh_cat_i, lh_cat_j]) dX9_noted_8 ⟨Nat.le_of_ble_eq_true rfl, Nat.le_of_ble_eq_true rfl⟩) hS (fun H locs hX hW hS => ?_)
  refine W.widen (k := 0) (n := 0) (by omega) (by omega) ?_
  show W _ _ _ _ _ _ _ _ _ _ _ _ _ _ _ (F0 m 11 ls [.int r5])
  have m8 : ∀ b, gvN S b ≤ gvN S6 b := hX.1
  have L_t : ∀ j, some t = some j → j < gvN S6 9 := fun j h => Nat.lt_of_lt_of_le (L_t j h) (m8 _)
  have hm : ∀ b, gvN S b ≤ gvN S6 b := lh_le_trans hm m8
  have ok := lh_W_ok hW
  obtain ⟨rfl, rfl⟩ := dc_ret hf
  exact W.iret (v := r5) hx hb hr (fun t9 ht9 hW9 => ⟨⟨rfl, ⟨hm, trivial⟩, by rw [ht9]; exact hW⟩, hS.F ht9⟩) hS.2.2 dX9_noted_11
def f_X9_told (n : Nat) (S : lh_S) (t : Nat) (p1 : Int32) : Option (Int32 × lh_S) :=
  dc_if (p1 = 0) (
  dc_nn (gvR S 9 t 2) fun x3 =>
  some (gvI S 3 x3 1, S)) (
  dc_if (p1 = 1) (
  some (gvI S 9 t 1, S)) (
  dc_if (p1 = 2) (
  dc_nn (gvR S 9 t 3) fun x7 =>
  some (gvI S 4 x7 3, S)) (
  dc_if (p1 = 3) (
  some (gvI S 9 t 5, S)) (
  dc_if (p1 = 4) (
  some (gvI S 9 t 7, S)) (
  dc_if (p1 = 5) (
  dc_nn (gvR S 9 t 3) fun x12 =>
  dc_nn (gvR S 4 x12 1) fun x14 =>
  some (gvI S 6 x14 3, S)) (
  dc_if (p1 = 6) (
  some (gvI S 9 t 9, S)) (
  some ((-3 : Int32), S))))))))
set_option maxHeartbeats 1000000 in
theorem m_X9_told {n : Nat} {S : lh_S} {t : Nat} {p1 : Int32} {r : Int32} {S' : lh_S} (hf : f_X9_told n S t p1 = some (r, S')) : ∀ b, gvN S b ≤ gvN S' b := by
  have hm : ∀ b, gvN S b ≤ gvN S b := fun _ => Nat.le_refl _
  unfold f_X9_told at hf
  by_cases c1 : p1 = 0
  · replace hf := dc_if_t c1 hf
    obtain ⟨x3, hx3, hf⟩ := dc_nn_ok hf
    obtain ⟨_, rfl⟩ := dc_ret hf
    exact hm
  replace hf := dc_if_f c1 hf
  by_cases c4 : p1 = 1
  · replace hf := dc_if_t c4 hf
    obtain ⟨_, rfl⟩ := dc_ret hf
    exact hm
  replace hf := dc_if_f c4 hf
  by_cases c5 : p1 = 2
  · replace hf := dc_if_t c5 hf
    obtain ⟨x7, hx7, hf⟩ := dc_nn_ok hf
    obtain ⟨_, rfl⟩ := dc_ret hf
    exact hm
  replace hf := dc_if_f c5 hf
  by_cases c8 : p1 = 3
  · replace hf := dc_if_t c8 hf
    obtain ⟨_, rfl⟩ := dc_ret hf
    exact hm
  replace hf := dc_if_f c8 hf
  by_cases c9 : p1 = 4
  · replace hf := dc_if_t c9 hf
    obtain ⟨_, rfl⟩ := dc_ret hf
    exact hm
  replace hf := dc_if_f c9 hf
  by_cases c10 : p1 = 5
  · replace hf := dc_if_t c10 hf
    obtain ⟨x12, hx12, hf⟩ := dc_nn_ok hf
    obtain ⟨x14, hx14, hf⟩ := dc_nn_ok hf
    obtain ⟨_, rfl⟩ := dc_ret hf
    exact hm
  replace hf := dc_if_f c10 hf
  by_cases c15 : p1 = 6
  · replace hf := dc_if_t c15 hf
    obtain ⟨_, rfl⟩ := dc_ret hf
    exact hm
  replace hf := dc_if_f c15 hf
  obtain ⟨_, rfl⟩ := dc_ret hf
  exact hm
set_option maxHeartbeats 1000000 in
theorem k_X9_told {n : Nat} {S : lh_S} {t : Nat} {p1 : Int32} {r : Int32} {S' : lh_S} (hf : f_X9_told n S t p1 = some (r, S')) : lh_sm9 S S' := by
  have hm : lh_sm9 S S := lh_sm9_rf
  unfold f_X9_told at hf
  by_cases c1 : p1 = 0
  · replace hf := dc_if_t c1 hf
    obtain ⟨x3, hx3, hf⟩ := dc_nn_ok hf
    obtain ⟨_, rfl⟩ := dc_ret hf
    exact hm
  replace hf := dc_if_f c1 hf
  by_cases c4 : p1 = 1
  · replace hf := dc_if_t c4 hf
    obtain ⟨_, rfl⟩ := dc_ret hf
    exact hm
  replace hf := dc_if_f c4 hf
  by_cases c5 : p1 = 2
  · replace hf := dc_if_t c5 hf
    obtain ⟨x7, hx7, hf⟩ := dc_nn_ok hf
    obtain ⟨_, rfl⟩ := dc_ret hf
    exact hm
  replace hf := dc_if_f c5 hf
  by_cases c8 : p1 = 3
  · replace hf := dc_if_t c8 hf
    obtain ⟨_, rfl⟩ := dc_ret hf
    exact hm
  replace hf := dc_if_f c8 hf
  by_cases c9 : p1 = 4
  · replace hf := dc_if_t c9 hf
    obtain ⟨_, rfl⟩ := dc_ret hf
    exact hm
  replace hf := dc_if_f c9 hf
  by_cases c10 : p1 = 5
  · replace hf := dc_if_t c10 hf
    obtain ⟨x12, hx12, hf⟩ := dc_nn_ok hf
    obtain ⟨x14, hx14, hf⟩ := dc_nn_ok hf
    obtain ⟨_, rfl⟩ := dc_ret hf
    exact hm
  replace hf := dc_if_f c10 hf
  by_cases c15 : p1 = 6
  · replace hf := dc_if_t c15 hf
    obtain ⟨_, rfl⟩ := dc_ret hf
    exact hm
  replace hf := dc_if_f c15 hf
  obtain ⟨_, rfl⟩ := dc_ret hf
  exact hm
set_option maxHeartbeats 4000000 in
set_option maxRecDepth 100000 in
theorem c_X9_told (l : Launch) (D : va_G) (cT : Nat → ClassId) (n : Nat) (S : lh_S) (ad : Nat → Nat → Nat) (A : Nat → Prop) (sz : Nat) (hA : ∀ q, sz ≤ q → A q) (t : Nat) (p1 : Int32) (r : Int32) (S' : lh_S) (hf : f_X9_told n S t p1 = some (r, S')) (L_t : ∀ j, some t = some j → j < gvN S 9) : Met l yX9_told wsX9_told ({ frames := 0, cells := 0, slots := 0, locals := 0 } : Room) (lh_P D cT S ad A sz [lh_r ad 9 (some t), .int p1]) (lh_Q D cT S' ad A ((∀ b, gvN S b ≤ gvN S' b) ∧ True) (some (.int r))) 0 0 A := by
  refine Met.ofW (cc := cX9_told) (maxL := 2) (ret := (some .int)) (by decide) rfl ?_
  intro p e s m args below meth c s₁ B hml hv
  obtain ⟨hargs, hsz, hW, hK, hN⟩ := hv
  have hx := B.exec
  have hb := B.bytes
  have hr := B.returns
  have hts := atoms_spec (ws := wsX9_told) B.pre
  have hown : s.vm.findClass RX9 = some m.cls := findClass_of_methodNamed B.named
  have hlocks := B.notSynchronized
  have hA : ∀ q, s.heap.size ≤ q → A q := fun q h => hA q (by rw [← hsz]; exact h)
  have ok := lh_W_ok hW
  have hm : ∀ b, gvN S b ≤ gvN S b := fun _ => Nat.le_refl _
  obtain ⟨ls, hent, hl⟩ := lh_entry m args [lh_r ad 9 (some t), .int p1] 2 [(0, lh_r ad 9 (some t)), (1, .int p1)] hargs (by simp [lv_args, lh_cat_r, lh_cat_i, lh_cat_j]) (by simp [lg_sl, lh_cat_r, lh_cat_i, lh_cat_j])
  rw [hent]
  generalize hH : s.heap = H at hW ⊢
  have hS : va_S A s.heap H [] := by rw [← hH]; exact va_S.rf
  unfold f_X9_told at hf
  refine lv_iload_n hx hb dX9_told_0 rfl (lv_at hl 1 rfl) ?_
  by_cases c1 : p1 = 0
  · refine lv_tableIn (tgt := 44) hx hb dX9_told_1 (by rw [c1]; decide) (by rw [c1]; decide) (by rw [c1]; rfl) (by decide) ?_
    replace hf := dc_if_t c1 hf
    refine lh_aload_n hx hb dX9_told_44 rfl (lv_at hl 0 rfl) ?_
    have L2 : ∀ j, gvR S 9 t 2 = some j → j < gvN S 3 := fun j h => ok _ _ _ _ j (L_t _ rfl) rfl h
    refine lh_get (a := 9) (k := 2) (N := 10) (C := RX9) (T := TX9) (own := RX9) (ref := "LoaderModels") hx hb hts (fun _ h => (List.mem_cons_of_mem _ (List.mem_append_left _ (List.mem_append_left _ (List.mem_append_left _ (List.mem_append_right _ h)))))) hown hK hW rfl (L_t _ rfl) rfl rfl rfl (by decide) (hts (.fieldLink RX9 20 "LoaderModels" "loaders" "LLoaderModels$Loaders;") (List.mem_cons_of_mem _ (List.mem_append_left _ (List.mem_append_left _ (List.mem_append_left _ (List.mem_append_left _ (List.mem_of_getElem? (i := 0) rfl))))))) (fun _ h9 => h9) dX9_told_45 (v := lh_r ad 3 (gvR S 9 t 2)) rfl ?_
    obtain ⟨x3, hx3, hf⟩ := dc_nn_ok hf
    refine lh_get (a := 3) (k := 1) (N := 2) (C := RX3) (T := TX3) (own := RX9) (ref := "LoaderModels$Loaders") hx hb hts (fun _ h => (List.mem_cons_of_mem _ (List.mem_append_left _ (List.mem_append_left _ (List.mem_append_right _ h))))) hown hK hW hx3 (L2 _ hx3) rfl rfl rfl (by decide) (hts (.fieldLink RX9 66 "LoaderModels$Loaders" "count" "I") (List.mem_cons_of_mem _ (List.mem_append_left _ (List.mem_append_left _ (List.mem_append_left _ (List.mem_append_left _ (List.mem_of_getElem? (i := 1) rfl))))))) (fun _ h9 => h9) dX9_told_48 (v := .int (gvI S 3 x3 1)) rfl ?_
    obtain ⟨rfl, rfl⟩ := dc_ret hf
    exact W.iret (v := gvI S 3 x3 1) hx hb hr (fun t9 ht9 hW9 => ⟨⟨rfl, ⟨hm, trivial⟩, by rw [ht9]; exact hW⟩, hS.F ht9⟩) hS.2.2 dX9_told_51
  replace hf := dc_if_f c1 hf
  by_cases c4 : p1 = 1
  · refine lv_tableIn (tgt := 52) hx hb dX9_told_1 (by rw [c4]; decide) (by rw [c4]; decide) (by rw [c4]; rfl) (by decide) ?_
    replace hf := dc_if_t c4 hf
    refine lh_aload_n hx hb dX9_told_52 rfl (lv_at hl 0 rfl) ?_
    refine lh_get (a := 9) (k := 1) (N := 10) (C := RX9) (T := TX9) (own := RX9) (ref := "LoaderModels") hx hb hts (fun _ h => (List.mem_cons_of_mem _ (List.mem_append_left _ (List.mem_append_left _ (List.mem_append_left _ (List.mem_append_right _ h)))))) hown hK hW rfl (L_t _ rfl) rfl rfl rfl (by decide) (hts (.fieldLink RX9 58 "LoaderModels" "fileCount" "I") (List.mem_cons_of_mem _ (List.mem_append_left _ (List.mem_append_left _ (List.mem_append_left _ (List.mem_append_left _ (List.mem_of_getElem? (i := 2) rfl))))))) (fun _ h9 => h9) dX9_told_53 (v := .int (gvI S 9 t 1)) rfl ?_
    obtain ⟨rfl, rfl⟩ := dc_ret hf
    exact W.iret (v := gvI S 9 t 1) hx hb hr (fun t9 ht9 hW9 => ⟨⟨rfl, ⟨hm, trivial⟩, by rw [ht9]; exact hW⟩, hS.F ht9⟩) hS.2.2 dX9_told_56
  replace hf := dc_if_f c4 hf
  by_cases c5 : p1 = 2
  · refine lv_tableIn (tgt := 57) hx hb dX9_told_1 (by rw [c5]; decide) (by rw [c5]; decide) (by rw [c5]; rfl) (by decide) ?_
    replace hf := dc_if_t c5 hf
    refine lh_aload_n hx hb dX9_told_57 rfl (lv_at hl 0 rfl) ?_
    have L6 : ∀ j, gvR S 9 t 3 = some j → j < gvN S 4 := fun j h => ok _ _ _ _ j (L_t _ rfl) rfl h
    refine lh_get (a := 9) (k := 3) (N := 10) (C := RX9) (T := TX9) (own := RX9) (ref := "LoaderModels") hx hb hts (fun _ h => (List.mem_cons_of_mem _ (List.mem_append_left _ (List.mem_append_left _ (List.mem_append_left _ (List.mem_append_right _ h)))))) hown hK hW rfl (L_t _ rfl) rfl rfl rfl (by decide) (hts (.fieldLink RX9 29 "LoaderModels" "loading" "LLoaderModels$Loading;") (List.mem_cons_of_mem _ (List.mem_append_left _ (List.mem_append_left _ (List.mem_append_left _ (List.mem_append_left _ (List.mem_of_getElem? (i := 3) rfl))))))) (fun _ h9 => h9) dX9_told_58 (v := lh_r ad 4 (gvR S 9 t 3)) rfl ?_
    obtain ⟨x7, hx7, hf⟩ := dc_nn_ok hf
    refine lh_get (a := 4) (k := 3) (N := 6) (C := RX4) (T := TX4) (own := RX9) (ref := "LoaderModels$Loading") hx hb hts (fun _ h => (List.mem_cons_of_mem _ (List.mem_append_left _ (List.mem_append_right _ h)))) hown hK hW hx7 (L6 _ hx7) rfl rfl rfl (by decide) (hts (.fieldLink RX9 210 "LoaderModels$Loading" "classCount" "I") (List.mem_cons_of_mem _ (List.mem_append_left _ (List.mem_append_left _ (List.mem_append_left _ (List.mem_append_left _ (List.mem_of_getElem? (i := 4) rfl))))))) (fun _ h9 => h9) dX9_told_61 (v := .int (gvI S 4 x7 3)) rfl ?_
    obtain ⟨rfl, rfl⟩ := dc_ret hf
    exact W.iret (v := gvI S 4 x7 3) hx hb hr (fun t9 ht9 hW9 => ⟨⟨rfl, ⟨hm, trivial⟩, by rw [ht9]; exact hW⟩, hS.F ht9⟩) hS.2.2 dX9_told_64
  replace hf := dc_if_f c5 hf
  by_cases c8 : p1 = 3
  · refine lv_tableIn (tgt := 65) hx hb dX9_told_1 (by rw [c8]; decide) (by rw [c8]; decide) (by rw [c8]; rfl) (by decide) ?_
    replace hf := dc_if_t c8 hf
    refine lh_aload_n hx hb dX9_told_65 rfl (lv_at hl 0 rfl) ?_
    refine lh_get (a := 9) (k := 5) (N := 10) (C := RX9) (T := TX9) (own := RX9) (ref := "LoaderModels") hx hb hts (fun _ h => (List.mem_cons_of_mem _ (List.mem_append_left _ (List.mem_append_left _ (List.mem_append_left _ (List.mem_append_right _ h)))))) hown hK hW rfl (L_t _ rfl) rfl rfl rfl (by decide) (hts (.fieldLink RX9 151 "LoaderModels" "objectCount" "I") (List.mem_cons_of_mem _ (List.mem_append_left _ (List.mem_append_left _ (List.mem_append_left _ (List.mem_append_left _ (List.mem_of_getElem? (i := 5) rfl))))))) (fun _ h9 => h9) dX9_told_66 (v := .int (gvI S 9 t 5)) rfl ?_
    obtain ⟨rfl, rfl⟩ := dc_ret hf
    exact W.iret (v := gvI S 9 t 5) hx hb hr (fun t9 ht9 hW9 => ⟨⟨rfl, ⟨hm, trivial⟩, by rw [ht9]; exact hW⟩, hS.F ht9⟩) hS.2.2 dX9_told_69
  replace hf := dc_if_f c8 hf
  by_cases c9 : p1 = 4
  · refine lv_tableIn (tgt := 70) hx hb dX9_told_1 (by rw [c9]; decide) (by rw [c9]; decide) (by rw [c9]; rfl) (by decide) ?_
    replace hf := dc_if_t c9 hf
    refine lh_aload_n hx hb dX9_told_70 rfl (lv_at hl 0 rfl) ?_
    refine lh_get (a := 9) (k := 7) (N := 10) (C := RX9) (T := TX9) (own := RX9) (ref := "LoaderModels") hx hb hts (fun _ h => (List.mem_cons_of_mem _ (List.mem_append_left _ (List.mem_append_left _ (List.mem_append_left _ (List.mem_append_right _ h)))))) hown hK hW rfl (L_t _ rfl) rfl rfl rfl (by decide) (hts (.fieldLink RX9 161 "LoaderModels" "rowCount" "I") (List.mem_cons_of_mem _ (List.mem_append_left _ (List.mem_append_left _ (List.mem_append_left _ (List.mem_append_left _ (List.mem_of_getElem? (i := 6) rfl))))))) (fun _ h9 => h9) dX9_told_71 (v := .int (gvI S 9 t 7)) rfl ?_
    obtain ⟨rfl, rfl⟩ := dc_ret hf
    exact W.iret (v := gvI S 9 t 7) hx hb hr (fun t9 ht9 hW9 => ⟨⟨rfl, ⟨hm, trivial⟩, by rw [ht9]; exact hW⟩, hS.F ht9⟩) hS.2.2 dX9_told_74
  replace hf := dc_if_f c9 hf
  by_cases c10 : p1 = 5
  · refine lv_tableIn (tgt := 75) hx hb dX9_told_1 (by rw [c10]; decide) (by rw [c10]; decide) (by rw [c10]; rfl) (by decide) ?_
    replace hf := dc_if_t c10 hf
    refine lh_aload_n hx hb dX9_told_75 rfl (lv_at hl 0 rfl) ?_
    have L11 : ∀ j, gvR S 9 t 3 = some j → j < gvN S 4 := fun j h => ok _ _ _ _ j (L_t _ rfl) rfl h
    refine lh_get (a := 9) (k := 3) (N := 10) (C := RX9) (T := TX9) (own := RX9) (ref := "LoaderModels") hx hb hts (fun _ h => (List.mem_cons_of_mem _ (List.mem_append_left _ (List.mem_append_left _ (List.mem_append_left _ (List.mem_append_right _ h)))))) hown hK hW rfl (L_t _ rfl) rfl rfl rfl (by decide) (hts (.fieldLink RX9 29 "LoaderModels" "loading" "LLoaderModels$Loading;") (List.mem_cons_of_mem _ (List.mem_append_left _ (List.mem_append_left _ (List.mem_append_left _ (List.mem_append_left _ (List.mem_of_getElem? (i := 3) rfl))))))) (fun _ h9 => h9) dX9_told_76 (v := lh_r ad 4 (gvR S 9 t 3)) rfl ?_
    obtain ⟨x12, hx12, hf⟩ := dc_nn_ok hf
    have L13 : ∀ j, gvR S 4 x12 1 = some j → j < gvN S 6 := fun j h => ok _ _ _ _ j (L11 _ hx12) rfl h
    refine lh_get (a := 4) (k := 1) (N := 6) (C := RX4) (T := TX4) (own := RX9) (ref := "LoaderModels$Loading") hx hb hts (fun _ h => (List.mem_cons_of_mem _ (List.mem_append_left _ (List.mem_append_right _ h)))) hown hK hW hx12 (L11 _ hx12) rfl rfl rfl (by decide) (hts (.fieldLink RX9 201 "LoaderModels$Loading" "notes" "LLoaderModels$Notes;") (List.mem_cons_of_mem _ (List.mem_append_left _ (List.mem_append_left _ (List.mem_append_left _ (List.mem_append_left _ (List.mem_of_getElem? (i := 7) rfl))))))) (fun _ h9 => h9) dX9_told_79 (v := lh_r ad 6 (gvR S 4 x12 1)) rfl ?_
    obtain ⟨x14, hx14, hf⟩ := dc_nn_ok hf
    refine lh_get (a := 6) (k := 3) (N := 4) (C := RX6) (T := TX6) (own := RX9) (ref := "LoaderModels$Notes") hx hb hts (fun _ h => (List.mem_cons_of_mem _ (List.mem_append_right _ h))) hown hK hW hx14 (L13 _ hx14) rfl rfl rfl (by decide) (hts (.fieldLink RX9 213 "LoaderModels$Notes" "ever" "I") (List.mem_cons_of_mem _ (List.mem_append_left _ (List.mem_append_left _ (List.mem_append_left _ (List.mem_append_left _ (List.mem_of_getElem? (i := 8) rfl))))))) (fun _ h9 => h9) dX9_told_82 (v := .int (gvI S 6 x14 3)) rfl ?_
    obtain ⟨rfl, rfl⟩ := dc_ret hf
    exact W.iret (v := gvI S 6 x14 3) hx hb hr (fun t9 ht9 hW9 => ⟨⟨rfl, ⟨hm, trivial⟩, by rw [ht9]; exact hW⟩, hS.F ht9⟩) hS.2.2 dX9_told_85
  replace hf := dc_if_f c10 hf
  by_cases c15 : p1 = 6
  · refine lv_tableIn (tgt := 86) hx hb dX9_told_1 (by rw [c15]; decide) (by rw [c15]; decide) (by rw [c15]; rfl) (by decide) ?_
    replace hf := dc_if_t c15 hf
    refine lh_aload_n hx hb dX9_told_86 rfl (lv_at hl 0 rfl) ?_
    refine lh_get (a := 9) (k := 9) (N := 10) (C := RX9) (T := TX9) (own := RX9) (ref := "LoaderModels") hx hb hts (fun _ h => (List.mem_cons_of_mem _ (List.mem_append_left _ (List.mem_append_left _ (List.mem_append_left _ (List.mem_append_right _ h)))))) hown hK hW rfl (L_t _ rfl) rfl rfl rfl (by decide) (hts (.fieldLink RX9 216 "LoaderModels" "latestFailure" "I") (List.mem_cons_of_mem _ (List.mem_append_left _ (List.mem_append_left _ (List.mem_append_left _ (List.mem_append_left _ (List.mem_of_getElem? (i := 9) rfl))))))) (fun _ h9 => h9) dX9_told_87 (v := .int (gvI S 9 t 9)) rfl ?_
    obtain ⟨rfl, rfl⟩ := dc_ret hf
    exact W.iret (v := gvI S 9 t 9) hx hb hr (fun t9 ht9 hW9 => ⟨⟨rfl, ⟨hm, trivial⟩, by rw [ht9]; exact hW⟩, hS.F ht9⟩) hS.2.2 dX9_told_90
  replace hf := dc_if_f c15 hf
  have tc1 := lv_neT (a := 0) c1 (by decide)
  have tc4 := lv_neT (a := 1) c4 (by decide)
  have tc5 := lv_neT (a := 2) c5 (by decide)
  have tc8 := lv_neT (a := 3) c8 (by decide)
  have tc9 := lv_neT (a := 4) c9 (by decide)
  have tc10 := lv_neT (a := 5) c10 (by decide)
  have tc15 := lv_neT (a := 6) c15 (by decide)
  refine lv_tableOut (tgt := 91) hx hb dX9_told_1 (by omega) (by decide) ?_
  refine lv_bipush (v := -3) hx hb dX9_told_91 (by decide) ?_
  obtain ⟨rfl, rfl⟩ := dc_ret hf
  exact W.iret (v := (-3 : Int32)) hx hb hr (fun t9 ht9 hW9 => ⟨⟨rfl, ⟨hm, trivial⟩, by rw [ht9]; exact hW⟩, hS.F ht9⟩) hS.2.2 dX9_told_93
