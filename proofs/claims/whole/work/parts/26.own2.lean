def f_X9_loader (n : Nat) (S : lh_S) (t : Nat) (p1 : Int32) : Option (Int32 × lh_S) :=
  dc_nn (gvR S 9 t 2) fun x2 =>
  dc_bd (f_X3_at n S x2 p1) fun r3 S4 =>
  dc_if (r3 = none) (
  some ((-2 : Int32), S4)) (
  dc_nn (gvR S4 9 t 2) fun x10 =>
  dc_if ((gvI S4 3 x10 1) < (8 : Int32)) (
  dc_bd (f_X3_add n S4 x10 r3) fun r13 S14 =>
  dc_nn r13 fun x20 =>
  some (gvI S14 2 x20 0, S14)) (
  some ((-5 : Int32), S4)))
set_option maxHeartbeats 1000000 in
theorem m_X9_loader {n : Nat} {S : lh_S} {t : Nat} {p1 : Int32} {r : Int32} {S' : lh_S} (hf : f_X9_loader n S t p1 = some (r, S')) : ∀ b, gvN S b ≤ gvN S' b := by
  have hm : ∀ b, gvN S b ≤ gvN S b := fun _ => Nat.le_refl _
  unfold f_X9_loader at hf
  obtain ⟨x2, hx2, hf⟩ := dc_nn_ok hf
  obtain ⟨r3, S4, k5, hf⟩ := dc_bd_ok hf
  have hm := lh_le_trans hm (show ∀ b, gvN S b ≤ gvN S4 b from m_X3_at k5)
  by_cases c8 : r3 = none
  · replace hf := dc_if_t c8 hf
    obtain ⟨_, rfl⟩ := dc_ret hf
    exact hm
  · replace hf := dc_if_f c8 hf
    obtain ⟨x10, hx10, hf⟩ := dc_nn_ok hf
    by_cases c11 : (gvI S4 3 x10 1) < (8 : Int32)
    · replace hf := dc_if_t c11 hf
      obtain ⟨r13, S14, k15, hf⟩ := dc_bd_ok hf
      have hm := lh_le_trans hm (show ∀ b, gvN S4 b ≤ gvN S14 b from m_X3_add k15)
      obtain ⟨x20, hx20, hf⟩ := dc_nn_ok hf
      obtain ⟨_, rfl⟩ := dc_ret hf
      exact hm
    · replace hf := dc_if_f c11 hf
      obtain ⟨_, rfl⟩ := dc_ret hf
      exact hm
set_option maxHeartbeats 1000000 in
theorem k_X9_loader {n : Nat} {S : lh_S} {t : Nat} {p1 : Int32} {r : Int32} {S' : lh_S} (hf : f_X9_loader n S t p1 = some (r, S')) : lh_sm9 S S' := by
  have hm : lh_sm9 S S := lh_sm9_rf
  unfold f_X9_loader at hf
  obtain ⟨x2, hx2, hf⟩ := dc_nn_ok hf
  obtain ⟨r3, S4, k5, hf⟩ := dc_bd_ok hf
  have hm := lh_sm9_trans hm (show lh_sm9 S S4 from k_X3_at k5)
  by_cases c8 : r3 = none
  · replace hf := dc_if_t c8 hf
    obtain ⟨_, rfl⟩ := dc_ret hf
    exact hm
  · replace hf := dc_if_f c8 hf
    obtain ⟨x10, hx10, hf⟩ := dc_nn_ok hf
    by_cases c11 : (gvI S4 3 x10 1) < (8 : Int32)
    · replace hf := dc_if_t c11 hf
      obtain ⟨r13, S14, k15, hf⟩ := dc_bd_ok hf
      have hm := lh_sm9_trans hm (show lh_sm9 S4 S14 from k_X3_add k15)
      obtain ⟨x20, hx20, hf⟩ := dc_nn_ok hf
      obtain ⟨_, rfl⟩ := dc_ret hf
      exact hm
    · replace hf := dc_if_f c11 hf
      obtain ⟨_, rfl⟩ := dc_ret hf
      exact hm
set_option maxHeartbeats 4000000 in
set_option maxRecDepth 100000 in
theorem c_X9_loader (l : Launch) (D : va_G) (cT : Nat → ClassId) (n : Nat) (S : lh_S) (ad : Nat → Nat → Nat) (A : Nat → Prop) (sz : Nat) (hA : ∀ q, sz ≤ q → A q) (t : Nat) (p1 : Int32) (r : Int32) (S' : lh_S) (hf : f_X9_loader n S t p1 = some (r, S')) (L_t : ∀ j, some t = some j → j < gvN S 9) : Met l yX9_loader wsX9_loader ({ frames := 3, cells := 5, slots := 167, locals := 65 } : Room) (lh_P D cT S ad A sz [lh_r ad 9 (some t), .int p1]) (lh_QA D cT S S' ad A ((∀ b, gvN S b ≤ gvN S' b) ∧ True) (fun ad9 => some (.int r))) 5 167 A := by
  refine Met.ofW (cc := cX9_loader) (maxL := 3) (ret := (some .int)) (by decide) rfl ?_
  intro p e s m args below meth c s₁ B hml hv
  obtain ⟨hargs, hsz, hW, hK, hN⟩ := hv
  have hx := B.exec
  have hb := B.bytes
  have hr := B.returns
  have hts := atoms_spec (ws := wsX9_loader) B.pre
  have hown : s.vm.findClass RX9 = some m.cls := findClass_of_methodNamed B.named
  have hlocks := B.notSynchronized
  have hA : ∀ q, s.heap.size ≤ q → A q := fun q h => hA q (by rw [← hsz]; exact h)
  have ok := lh_W_ok hW
  have hm : ∀ b, gvN S b ≤ gvN S b := fun _ => Nat.le_refl _
  have hE : lh_E S ad ad := lh_E.rf
  obtain ⟨ls, hent, hl⟩ := lh_entry m args [lh_r ad 9 (some t), .int p1] 3 [(0, lh_r ad 9 (some t)), (1, .int p1)] hargs (by simp [lv_args, lh_cat_r, lh_cat_i, lh_cat_j]) (by simp [lg_sl, lh_cat_r, lh_cat_i, lh_cat_j])
  rw [hent]
  generalize hH : s.heap = H at hW ⊢
  have hS : va_S A s.heap H [] := by rw [← hH]; exact va_S.rf
  unfold f_X9_loader at hf
  refine lh_aload_n hx hb dX9_loader_0 rfl (lv_at hl 0 rfl) ?_
  have L1 : ∀ j, gvR S 9 t 2 = some j → j < gvN S 3 := fun j h => ok _ _ _ _ j (L_t _ rfl) rfl h
  refine lh_get (a := 9) (k := 2) (N := 10) (C := RX9) (T := TX9) (own := RX9) (ref := "LoaderModels") hx hb hts (fun _ h => (List.mem_cons_of_mem _ (List.mem_append_left _ (List.mem_append_left _ (List.mem_append_right _ h))))) hown hK hW rfl (L_t _ rfl) rfl rfl rfl (by decide) (hts (.fieldLink RX9 20 "LoaderModels" "loaders" "LLoaderModels$Loaders;") (List.mem_cons_of_mem _ (List.mem_append_left _ (List.mem_append_left _ (List.mem_append_left _ (List.mem_append_left _ (List.mem_of_getElem? (i := 0) rfl))))))) (fun _ h9 => h9) dX9_loader_1 (v := lh_r ad 3 (gvR S 9 t 2)) rfl ?_
  refine lv_iload_n hx hb dX9_loader_4 rfl (lv_at hl 1 rfl) ?_
  obtain ⟨x2, hx2, hf⟩ := dc_nn_ok hf
  obtain ⟨r3, S4, k5, hf⟩ := dc_bd_ok hf
  refine lh_call (S' := S4) (lh_rv ⟨hx, hb, hml, hown, hts⟩ hx2 (As := [.int p1]) (rest := []) (k := 3) (c_X3_at l D cT n S ad A H.size (fun q9 h9 => hA q9 (Nat.le_trans hS.1 h9)) x2 p1 r3 S4 k5 (lh_ls (L1 _ hx2))) (cwV 1 hts gX9_loader_X3_at rfl rfl rfl (by decide +kernel) ⟨Nat.le_of_ble_eq_true rfl, Nat.le_of_ble_eq_true rfl⟩) hK hN hW (L1 _ hx2) rfl rfl rfl hl.1 rfl (by simp [lh_cat_r, lh_cat_i, lh_cat_j]) dX9_loader_5 ⟨Nat.le_of_ble_eq_true rfl, Nat.le_of_ble_eq_true rfl⟩) hS (fun H locs hX hW hS => ?_)
  refine W.widen (k := 0) (n := 0) (by omega) (by omega) ?_
  show W _ _ _ _ _ _ _ _ _ _ _ _ _ _ _ (F0 m 8 ls [lh_r ad 2 r3])
  have m6 : ∀ b, gvN S b ≤ gvN S4 b := hX.1
  have L_t : ∀ j, some t = some j → j < gvN S4 9 := fun j h => Nat.lt_of_lt_of_le (L_t j h) (m6 _)
  have hm : ∀ b, gvN S b ≤ gvN S4 b := lh_le_trans hm m6
  have ok := lh_W_ok hW
  have L7 := hX.2
  refine lh_astore_n (i := 2) (lv' := [(2, lh_r ad 2 r3), (0, lh_r ad 9 (some t)), (1, .int p1)]) hx hb dX9_loader_8 rfl hl (by decide) (by first | rfl | simp [lh_cat_r, lh_cat_i, lh_cat_j]) (fun ls hl => ?_)
  refine lh_aload_n hx hb dX9_loader_9 rfl (lv_at hl 0 rfl) ?_
  refine lh_ifnonnull (tgt := 16) hx hb dX9_loader_10 (by decide) (fun c8 => ?_) (fun c8 => ?_)
  · replace hf := dc_if_f c8 hf
    refine lh_aload_n hx hb dX9_loader_16 rfl (lv_at hl 1 rfl) ?_
    have L9 : ∀ j, gvR S4 9 t 2 = some j → j < gvN S4 3 := fun j h => ok _ _ _ _ j (L_t _ rfl) rfl h
    refine lh_get (a := 9) (k := 2) (N := 10) (C := RX9) (T := TX9) (own := RX9) (ref := "LoaderModels") hx hb hts (fun _ h => (List.mem_cons_of_mem _ (List.mem_append_left _ (List.mem_append_left _ (List.mem_append_right _ h))))) hown hK hW rfl (L_t _ rfl) rfl rfl rfl (by decide) (hts (.fieldLink RX9 20 "LoaderModels" "loaders" "LLoaderModels$Loaders;") (List.mem_cons_of_mem _ (List.mem_append_left _ (List.mem_append_left _ (List.mem_append_left _ (List.mem_append_left _ (List.mem_of_getElem? (i := 0) rfl))))))) (fun _ h9 => h9) dX9_loader_17 (v := lh_r ad 3 (gvR S4 9 t 2)) rfl ?_
    obtain ⟨x10, hx10, hf⟩ := dc_nn_ok hf
    refine lh_get (a := 3) (k := 1) (N := 2) (C := RX3) (T := TX3) (own := RX9) (ref := "LoaderModels$Loaders") hx hb hts (fun _ h => (List.mem_cons_of_mem _ (List.mem_append_left _ (List.mem_append_right _ h)))) hown hK hW hx10 (L9 _ hx10) rfl rfl rfl (by decide) (hts (.fieldLink RX9 66 "LoaderModels$Loaders" "count" "I") (List.mem_cons_of_mem _ (List.mem_append_left _ (List.mem_append_left _ (List.mem_append_left _ (List.mem_append_left _ (List.mem_of_getElem? (i := 1) rfl))))))) (fun _ h9 => h9) dX9_loader_20 (v := .int (gvI S4 3 x10 1)) rfl ?_
    refine lv_bipush (v := 8) hx hb dX9_loader_23 (by decide) ?_
    refine lv_icmp_lt (tgt := 31) hx hb dX9_loader_25 (by decide) (fun c11 => ?_) (fun c11 => ?_)
    · replace hf := dc_if_t c11 hf
      refine lh_aload_n hx hb dX9_loader_31 rfl (lv_at hl 1 rfl) ?_
      have L12 : ∀ j, gvR S4 9 t 2 = some j → j < gvN S4 3 := fun j h => ok _ _ _ _ j (L_t _ rfl) rfl h
      refine lh_get (a := 9) (k := 2) (N := 10) (C := RX9) (T := TX9) (own := RX9) (ref := "LoaderModels") hx hb hts (fun _ h => (List.mem_cons_of_mem _ (List.mem_append_left _ (List.mem_append_left _ (List.mem_append_right _ h))))) hown hK hW rfl (L_t _ rfl) rfl rfl rfl (by decide) (hts (.fieldLink RX9 20 "LoaderModels" "loaders" "LLoaderModels$Loaders;") (List.mem_cons_of_mem _ (List.mem_append_left _ (List.mem_append_left _ (List.mem_append_left _ (List.mem_append_left _ (List.mem_of_getElem? (i := 0) rfl))))))) (fun _ h9 => h9) dX9_loader_32 (v := lh_r ad 3 (gvR S4 9 t 2)) rfl ?_
      refine lh_aload_n hx hb dX9_loader_35 rfl (lv_at hl 0 rfl) ?_
      obtain ⟨r13, S14, k15, hf⟩ := dc_bd_ok hf
      refine lh_callA (S' := S14) (lh_rv ⟨hx, hb, hml, hown, hts⟩ hx10 (As := [lh_r ad 2 r3]) (rest := []) (k := 3) (c_X3_add l D cT n S4 ad A H.size (fun q9 h9 => hA q9 (Nat.le_trans hS.1 h9)) x10 r3 r13 S14 k15 (lh_ls (L12 _ hx10)) L7) (cwV 1 hts gX9_loader_X3_add rfl rfl rfl (by decide +kernel) ⟨Nat.le_of_ble_eq_true rfl, Nat.le_of_ble_eq_true rfl⟩) hK hN hW (L12 _ hx10) rfl rfl rfl hl.1 rfl (by simp [lh_cat_r, lh_cat_i, lh_cat_j]) dX9_loader_36 ⟨Nat.le_of_ble_eq_true rfl, Nat.le_of_ble_eq_true rfl⟩) hS (fun ad16 H locs hE17 hX hW hS => ?_)
      refine W.widen (k := 5) (n := 167) (by omega) (by omega) ?_
      show W _ _ _ _ _ _ _ _ _ _ _ _ _ _ _ (F0 m 39 ls [lh_r ad16 2 r13])
      rw [lh_rE hE17 L7] at hl
      rw [lh_rE hE17 L_t] at hl
      have hE : lh_E S ad ad16 := lh_E.trans hE hm hE17
      have m18 : ∀ b, gvN S4 b ≤ gvN S14 b := hX.1
      have L7 : ∀ j, r3 = some j → j < gvN S14 2 := fun j h => Nat.lt_of_lt_of_le (L7 j h) (m18 _)
      have L_t : ∀ j, some t = some j → j < gvN S14 9 := fun j h => Nat.lt_of_lt_of_le (L_t j h) (m18 _)
      have hm : ∀ b, gvN S b ≤ gvN S14 b := lh_le_trans hm m18
      have ok := lh_W_ok hW
      have L19 := hX.2
      obtain ⟨x20, hx20, hf⟩ := dc_nn_ok hf
      refine lh_get (a := 2) (k := 0) (N := 7) (C := RX2) (T := TX2) (own := RX9) (ref := "LoaderModels$Loader") hx hb hts (fun _ h => (List.mem_cons_of_mem _ (List.mem_append_right _ h))) hown hK hW hx20 (L19 _ hx20) rfl rfl rfl (by decide) (hts (.fieldLink RX9 69 "LoaderModels$Loader" "number" "I") (List.mem_cons_of_mem _ (List.mem_append_left _ (List.mem_append_left _ (List.mem_append_left _ (List.mem_append_left _ (List.mem_of_getElem? (i := 2) rfl))))))) (fun _ h9 => h9) dX9_loader_39 (v := .int (gvI S14 2 x20 0)) rfl ?_
      obtain ⟨rfl, rfl⟩ := dc_ret hf
      exact W.iret (v := gvI S14 2 x20 0) hx hb hr (fun t9 ht9 hW9 => ⟨⟨ad16, hE, rfl, ⟨hm, trivial⟩, by rw [ht9]; exact hW⟩, hS.F ht9⟩) hS.2.2 dX9_loader_42
    · replace hf := dc_if_f c11 hf
      refine lv_bipush (v := -5) hx hb dX9_loader_28 (by decide) ?_
      obtain ⟨rfl, rfl⟩ := dc_ret hf
      refine W.widen (k := 5) (n := 167) (by omega) (by omega) ?_
      exact W.iret (v := (-5 : Int32)) hx hb hr (fun t9 ht9 hW9 => ⟨⟨ad, hE, rfl, ⟨hm, trivial⟩, by rw [ht9]; exact hW⟩, hS.F ht9⟩) hS.2.2 dX9_loader_30
  · replace hf := dc_if_t c8 hf
    refine lv_bipush (v := -2) hx hb dX9_loader_13 (by decide) ?_
    obtain ⟨rfl, rfl⟩ := dc_ret hf
    refine W.widen (k := 5) (n := 167) (by omega) (by omega) ?_
    exact W.iret (v := (-2 : Int32)) hx hb hr (fun t9 ht9 hW9 => ⟨⟨ad, hE, rfl, ⟨hm, trivial⟩, by rw [ht9]; exact hW⟩, hS.F ht9⟩) hS.2.2 dX9_loader_15
def f_X9_bound (n : Nat) (S : lh_S) (t : Nat) (p1 : Int32) (p2 : Int32) : Option (Int32 × lh_S) :=
  dc_nn (gvR S 9 t 2) fun x2 =>
  dc_bd (f_X3_at n S x2 p1) fun r3 S4 =>
  dc_if (r3 = none) (
  some ((-2 : Int32), S4)) (
  dc_if (p2 < 0) (
  some ((-3 : Int32), S4)) (
  dc_if (p2 ≤ (40 : Int32)) (
  dc_nn r3 fun x11 =>
  dc_bd (f_X2_isMachine n S4 x11) fun r12 S13 =>
  dc_if (r12 = 0) (
  dc_let (pvI S13 2 x11 2 p2) fun S18 =>
  some (gvI S13 2 x11 2, S18)) (
  some ((-4 : Int32), S13))) (
  some ((-3 : Int32), S4))))
set_option maxHeartbeats 1000000 in
theorem m_X9_bound {n : Nat} {S : lh_S} {t : Nat} {p1 : Int32} {p2 : Int32} {r : Int32} {S' : lh_S} (hf : f_X9_bound n S t p1 p2 = some (r, S')) : ∀ b, gvN S b ≤ gvN S' b := by
  have hm : ∀ b, gvN S b ≤ gvN S b := fun _ => Nat.le_refl _
  unfold f_X9_bound at hf
  obtain ⟨x2, hx2, hf⟩ := dc_nn_ok hf
  obtain ⟨r3, S4, k5, hf⟩ := dc_bd_ok hf
  have hm := lh_le_trans hm (show ∀ b, gvN S b ≤ gvN S4 b from m_X3_at k5)
  by_cases c8 : r3 = none
  · replace hf := dc_if_t c8 hf
    obtain ⟨_, rfl⟩ := dc_ret hf
    exact hm
  · replace hf := dc_if_f c8 hf
    by_cases c9 : p2 < 0
    · replace hf := dc_if_t c9 hf
      obtain ⟨_, rfl⟩ := dc_ret hf
      exact hm
    · replace hf := dc_if_f c9 hf
      by_cases c10 : p2 ≤ (40 : Int32)
      · replace hf := dc_if_t c10 hf
        obtain ⟨x11, hx11, hf⟩ := dc_nn_ok hf
        obtain ⟨r12, S13, k14, hf⟩ := dc_bd_ok hf
        have hm := lh_le_trans hm (show ∀ b, gvN S4 b ≤ gvN S13 b from m_X2_isMachine k14)
        by_cases c17 : r12 = 0
        · replace hf := dc_if_t c17 hf
          obtain ⟨S18, eS18, hf⟩ := dc_let_ok hf
          have hm := lh_le_trans hm (show ∀ b, gvN S13 b ≤ gvN S18 b from by rw [eS18]; exact lh_mI)
          obtain ⟨_, rfl⟩ := dc_ret hf
          exact hm
        · replace hf := dc_if_f c17 hf
          obtain ⟨_, rfl⟩ := dc_ret hf
          exact hm
      · replace hf := dc_if_f c10 hf
        obtain ⟨_, rfl⟩ := dc_ret hf
        exact hm
set_option maxHeartbeats 1000000 in
theorem k_X9_bound {n : Nat} {S : lh_S} {t : Nat} {p1 : Int32} {p2 : Int32} {r : Int32} {S' : lh_S} (hf : f_X9_bound n S t p1 p2 = some (r, S')) : lh_sm9 S S' := by
  have hm : lh_sm9 S S := lh_sm9_rf
  unfold f_X9_bound at hf
  obtain ⟨x2, hx2, hf⟩ := dc_nn_ok hf
  obtain ⟨r3, S4, k5, hf⟩ := dc_bd_ok hf
  have hm := lh_sm9_trans hm (show lh_sm9 S S4 from k_X3_at k5)
  by_cases c8 : r3 = none
  · replace hf := dc_if_t c8 hf
    obtain ⟨_, rfl⟩ := dc_ret hf
    exact hm
  · replace hf := dc_if_f c8 hf
    by_cases c9 : p2 < 0
    · replace hf := dc_if_t c9 hf
      obtain ⟨_, rfl⟩ := dc_ret hf
      exact hm
    · replace hf := dc_if_f c9 hf
      by_cases c10 : p2 ≤ (40 : Int32)
      · replace hf := dc_if_t c10 hf
        obtain ⟨x11, hx11, hf⟩ := dc_nn_ok hf
        obtain ⟨r12, S13, k14, hf⟩ := dc_bd_ok hf
        have hm := lh_sm9_trans hm (show lh_sm9 S4 S13 from k_X2_isMachine k14)
        by_cases c17 : r12 = 0
        · replace hf := dc_if_t c17 hf
          obtain ⟨S18, eS18, hf⟩ := dc_let_ok hf
          have hm := lh_sm9_trans hm (show lh_sm9 S13 S18 from by rw [eS18]; exact (lh_sm9I (by decide)))
          obtain ⟨_, rfl⟩ := dc_ret hf
          exact hm
        · replace hf := dc_if_f c17 hf
          obtain ⟨_, rfl⟩ := dc_ret hf
          exact hm
      · replace hf := dc_if_f c10 hf
        obtain ⟨_, rfl⟩ := dc_ret hf
        exact hm
set_option maxHeartbeats 4000000 in
set_option maxRecDepth 100000 in
theorem c_X9_bound (l : Launch) (D : va_G) (cT : Nat → ClassId) (n : Nat) (S : lh_S) (ad : Nat → Nat → Nat) (A : Nat → Prop) (sz : Nat) (hA : ∀ q, sz ≤ q → A q) (t : Nat) (p1 : Int32) (p2 : Int32) (r : Int32) (S' : lh_S) (hf : f_X9_bound n S t p1 p2 = some (r, S')) (L_t : ∀ j, some t = some j → j < gvN S 9) : Met l yX9_bound wsX9_bound ({ frames := 1, cells := 0, slots := 0, locals := 21 } : Room) (lh_P D cT S ad A sz [lh_r ad 9 (some t), .int p1, .int p2]) (lh_Q D cT S' ad A ((∀ b, gvN S b ≤ gvN S' b) ∧ True) (some (.int r))) 0 0 A := by
  refine Met.ofW (cc := cX9_bound) (maxL := 5) (ret := (some .int)) (by decide) rfl ?_
  intro p e s m args below meth c s₁ B hml hv
  obtain ⟨hargs, hsz, hW, hK, hN⟩ := hv
  have hx := B.exec
  have hb := B.bytes
  have hr := B.returns
  have hts := atoms_spec (ws := wsX9_bound) B.pre
  have hown : s.vm.findClass RX9 = some m.cls := findClass_of_methodNamed B.named
  have hlocks := B.notSynchronized
  have hA : ∀ q, s.heap.size ≤ q → A q := fun q h => hA q (by rw [← hsz]; exact h)
  have ok := lh_W_ok hW
  have hm : ∀ b, gvN S b ≤ gvN S b := fun _ => Nat.le_refl _
  obtain ⟨ls, hent, hl⟩ := lh_entry m args [lh_r ad 9 (some t), .int p1, .int p2] 5 [(0, lh_r ad 9 (some t)), (1, .int p1), (2, .int p2)] hargs (by simp [lv_args, lh_cat_r, lh_cat_i, lh_cat_j]) (by simp [lg_sl, lh_cat_r, lh_cat_i, lh_cat_j])
  rw [hent]
  generalize hH : s.heap = H at hW ⊢
  have hS : va_S A s.heap H [] := by rw [← hH]; exact va_S.rf
  unfold f_X9_bound at hf
  refine lh_aload_n hx hb dX9_bound_0 rfl (lv_at hl 0 rfl) ?_
  have L1 : ∀ j, gvR S 9 t 2 = some j → j < gvN S 3 := fun j h => ok _ _ _ _ j (L_t _ rfl) rfl h
  refine lh_get (a := 9) (k := 2) (N := 10) (C := RX9) (T := TX9) (own := RX9) (ref := "LoaderModels") hx hb hts (fun _ h => (List.mem_cons_of_mem _ (List.mem_append_left _ (List.mem_append_left _ (List.mem_append_right _ h))))) hown hK hW rfl (L_t _ rfl) rfl rfl rfl (by decide) (hts (.fieldLink RX9 20 "LoaderModels" "loaders" "LLoaderModels$Loaders;") (List.mem_cons_of_mem _ (List.mem_append_left _ (List.mem_append_left _ (List.mem_append_left _ (List.mem_of_getElem? (i := 0) rfl)))))) (fun _ h9 => h9) dX9_bound_1 (v := lh_r ad 3 (gvR S 9 t 2)) rfl ?_
  refine lv_iload_n hx hb dX9_bound_4 rfl (lv_at hl 1 rfl) ?_
  obtain ⟨x2, hx2, hf⟩ := dc_nn_ok hf
  obtain ⟨r3, S4, k5, hf⟩ := dc_bd_ok hf
  refine lh_call (S' := S4) (lh_rv ⟨hx, hb, hml, hown, hts⟩ hx2 (As := [.int p1]) (rest := []) (k := 3) (c_X3_at l D cT n S ad A H.size (fun q9 h9 => hA q9 (Nat.le_trans hS.1 h9)) x2 p1 r3 S4 k5 (lh_ls (L1 _ hx2))) (cwV 1 hts gX9_bound_X3_at rfl rfl rfl (by decide +kernel) ⟨Nat.le_of_ble_eq_true rfl, Nat.le_of_ble_eq_true rfl⟩) hK hN hW (L1 _ hx2) rfl rfl rfl hl.1 rfl (by simp [lh_cat_r, lh_cat_i, lh_cat_j]) dX9_bound_5 ⟨Nat.le_of_ble_eq_true rfl, Nat.le_of_ble_eq_true rfl⟩) hS (fun H locs hX hW hS => ?_)
  refine W.widen (k := 0) (n := 0) (by omega) (by omega) ?_
  show W _ _ _ _ _ _ _ _ _ _ _ _ _ _ _ (F0 m 8 ls [lh_r ad 2 r3])
  have m6 : ∀ b, gvN S b ≤ gvN S4 b := hX.1
  have L_t : ∀ j, some t = some j → j < gvN S4 9 := fun j h => Nat.lt_of_lt_of_le (L_t j h) (m6 _)
  have hm : ∀ b, gvN S b ≤ gvN S4 b := lh_le_trans hm m6
  have ok := lh_W_ok hW
  have L7 := hX.2
  refine lh_astore_n (i := 3) (lv' := [(3, lh_r ad 2 r3), (0, lh_r ad 9 (some t)), (1, .int p1), (2, .int p2)]) hx hb dX9_bound_8 rfl hl (by decide) (by first | rfl | simp [lh_cat_r, lh_cat_i, lh_cat_j]) (fun ls hl => ?_)
  refine lh_aload_n hx hb dX9_bound_9 rfl (lv_at hl 0 rfl) ?_
  refine lh_ifnonnull (tgt := 16) hx hb dX9_bound_10 (by decide) (fun c8 => ?_) (fun c8 => ?_)
  · replace hf := dc_if_f c8 hf
    refine lv_iload_n hx hb dX9_bound_16 rfl (lv_at hl 3 rfl) ?_
    refine lv_if_lt (tgt := 26) hx hb dX9_bound_17 (by decide) (fun c9 => ?_) (fun c9 => ?_)
    · replace hf := dc_if_t c9 hf
      refine lv_bipush (v := -3) hx hb dX9_bound_26 (by decide) ?_
      obtain ⟨rfl, rfl⟩ := dc_ret hf
      exact W.iret (v := (-3 : Int32)) hx hb hr (fun t9 ht9 hW9 => ⟨⟨rfl, ⟨hm, trivial⟩, by rw [ht9]; exact hW⟩, hS.F ht9⟩) hS.2.2 dX9_bound_28
    · replace hf := dc_if_f c9 hf
      refine lv_iload_n hx hb dX9_bound_20 rfl (lv_at hl 3 rfl) ?_
      refine lv_bipush (v := 40) hx hb dX9_bound_21 (by decide) ?_
      refine lv_icmp_le (tgt := 29) hx hb dX9_bound_23 (by decide) (fun c10 => ?_) (fun c10 => ?_)
      · replace hf := dc_if_t c10 hf
        refine lh_aload_n hx hb dX9_bound_29 rfl (lv_at hl 0 rfl) ?_
        obtain ⟨x11, hx11, hf⟩ := dc_nn_ok hf
        obtain ⟨r12, S13, k14, hf⟩ := dc_bd_ok hf
        refine lh_call (S' := S13) (lh_rv ⟨hx, hb, hml, hown, hts⟩ hx11 (As := []) (rest := []) (k := 2) (c_X2_isMachine l D cT n S4 ad A H.size (fun q9 h9 => hA q9 (Nat.le_trans hS.1 h9)) x11 r12 S13 k14 (lh_ls (L7 _ hx11))) (cwV 0 hts gX9_bound_X2_isMachine rfl rfl rfl (by decide +kernel) ⟨Nat.le_of_ble_eq_true rfl, Nat.le_of_ble_eq_true rfl⟩) hK hN hW (L7 _ hx11) rfl rfl rfl hl.1 rfl (by simp [lh_cat_r, lh_cat_i, lh_cat_j]) dX9_bound_30 ⟨Nat.le_of_ble_eq_true rfl, Nat.le_of_ble_eq_true rfl⟩) hS (fun H locs hX hW hS => ?_)
        refine W.widen (k := 0) (n := 0) (by omega) (by omega) ?_
        show W _ _ _ _ _ _ _ _ _ _ _ _ _ _ _ (F0 m 33 ls [.int r12])
        have m15 : ∀ b, gvN S4 b ≤ gvN S13 b := hX.1
        have L7 : ∀ j, r3 = some j → j < gvN S13 2 := fun j h => Nat.lt_of_lt_of_le (L7 j h) (m15 _)
        have L_t : ∀ j, some t = some j → j < gvN S13 9 := fun j h => Nat.lt_of_lt_of_le (L_t j h) (m15 _)
        have hm : ∀ b, gvN S b ≤ gvN S13 b := lh_le_trans hm m15
        have ok := lh_W_ok hW
        have z16 := hX.2
        refine lv_if_eq (tgt := 39) hx hb dX9_bound_33 (by decide) (fun c17 => ?_) (fun c17 => ?_)
        · replace hf := dc_if_t c17 hf
          refine lh_aload_n hx hb dX9_bound_39 rfl (lv_at hl 0 rfl) ?_
          refine lh_get (a := 2) (k := 2) (N := 7) (C := RX2) (T := TX2) (own := RX9) (ref := "LoaderModels$Loader") hx hb hts (fun _ h => (List.mem_cons_of_mem _ (List.mem_append_left _ (List.mem_append_right _ h)))) hown hK hW hx11 (L7 _ hx11) rfl rfl rfl (by decide) (hts (.fieldLink RX9 76 "LoaderModels$Loader" "bound" "I") (List.mem_cons_of_mem _ (List.mem_append_left _ (List.mem_append_left _ (List.mem_append_left _ (List.mem_of_getElem? (i := 1) rfl)))))) (fun _ h9 => h9) dX9_bound_40 (v := .int (gvI S13 2 x11 2)) rfl ?_
          refine lv_istore (i := 4) (lv' := [(4, .int (gvI S13 2 x11 2)), (3, lh_r ad 2 r3), (0, lh_r ad 9 (some t)), (1, .int p1), (2, .int p2)]) hx hb dX9_bound_43 hl (by decide) (by first | rfl | simp [lh_cat_r, lh_cat_i, lh_cat_j]) (fun ls hl => ?_)
          refine lh_aload_n hx hb dX9_bound_45 rfl (lv_at hl 1 rfl) ?_
          refine lv_iload_n hx hb dX9_bound_46 rfl (lv_at hl 4 rfl) ?_
          obtain ⟨S18, eS18, hf⟩ := dc_let_ok hf
          refine lh_put (S' := S18) (a := 2) (k := 2) (N := 7) (C := RX2) (T := TX2) (own := RX9) (ref := "LoaderModels$Loader") (ty := .int) hx hb hts (fun _ h => (List.mem_cons_of_mem _ (List.mem_append_left _ (List.mem_append_right _ h)))) tyX2 tyX2_ok nmX2 hown hK hW hS hx11 (L7 _ hx11) rfl rfl rfl (by decide) (hts (.fieldLink RX9 76 "LoaderModels$Loader" "bound" "I") (List.mem_cons_of_mem _ (List.mem_append_left _ (List.mem_append_left _ (List.mem_append_left _ (List.mem_of_getElem? (i := 1) rfl)))))) (fun _ h9 => h9) (Or.inl rfl) (by decide +kernel) rfl rfl (fun q9 => by rw [eS18]; exact lh_chI rfl q9) dX9_bound_47 (fun H locs hW hS => ?_)
          have m19 : ∀ b, gvN S13 b ≤ gvN S18 b := by rw [eS18]; exact lh_mI
          have L7 : ∀ j, r3 = some j → j < gvN S18 2 := fun j h => Nat.lt_of_lt_of_le (L7 j h) (m19 _)
          have L_t : ∀ j, some t = some j → j < gvN S18 9 := fun j h => Nat.lt_of_lt_of_le (L_t j h) (m19 _)
          have hm : ∀ b, gvN S b ≤ gvN S18 b := lh_le_trans hm m19
          have ok := lh_W_ok hW
          refine lv_iload hx hb dX9_bound_50 (lv_at hl 0 rfl) ?_
          obtain ⟨rfl, rfl⟩ := dc_ret hf
          exact W.iret (v := gvI S13 2 x11 2) hx hb hr (fun t9 ht9 hW9 => ⟨⟨rfl, ⟨hm, trivial⟩, by rw [ht9]; exact hW⟩, hS.F ht9⟩) hS.2.2 dX9_bound_52
        · replace hf := dc_if_f c17 hf
          refine lv_bipush (v := -4) hx hb dX9_bound_36 (by decide) ?_
          obtain ⟨rfl, rfl⟩ := dc_ret hf
          exact W.iret (v := (-4 : Int32)) hx hb hr (fun t9 ht9 hW9 => ⟨⟨rfl, ⟨hm, trivial⟩, by rw [ht9]; exact hW⟩, hS.F ht9⟩) hS.2.2 dX9_bound_38
      · replace hf := dc_if_f c10 hf
        refine lv_bipush (v := -3) hx hb dX9_bound_26 (by decide) ?_
        obtain ⟨rfl, rfl⟩ := dc_ret hf
        exact W.iret (v := (-3 : Int32)) hx hb hr (fun t9 ht9 hW9 => ⟨⟨rfl, ⟨hm, trivial⟩, by rw [ht9]; exact hW⟩, hS.F ht9⟩) hS.2.2 dX9_bound_28
  · replace hf := dc_if_t c8 hf
    refine lv_bipush (v := -2) hx hb dX9_bound_13 (by decide) ?_
    obtain ⟨rfl, rfl⟩ := dc_ret hf
    exact W.iret (v := (-2 : Int32)) hx hb hr (fun t9 ht9 hW9 => ⟨⟨rfl, ⟨hm, trivial⟩, by rw [ht9]; exact hW⟩, hS.F ht9⟩) hS.2.2 dX9_bound_15
def f_X9_file (n : Nat) (S : lh_S) (t : Nat) (p1 : Int32) (p2 : Int32) (p3 : Int32) (p4 : Int32) (p5 : Int32) : Option (Int32 × lh_S) :=
  dc_bd (f_X9_isName n S p1) fun r1 S2 =>
  dc_if (r1 = 0) (
  some ((-3 : Int32), S2)) (
  dc_bd (f_X9_isName n S2 p2) fun r7 S8 =>
  dc_if (r7 = 0) (
  some ((-3 : Int32), S8)) (
  dc_bd (f_X9_isName n S8 p3) fun r13 S14 =>
  dc_if (r13 = 0) (
  some ((-3 : Int32), S14)) (
  dc_if ((gvI S14 9 t 1) < (30 : Int32)) (
  dc_let (pvN S14 1 0) fun S21 =>
  dc_bd (f_X1_init n S21 (gvN S14 1) (gvI S21 9 t 1) p1 p2 p3 p4 p5) fun r27 S28 =>
  dc_nn (gvR S14 9 t 0) fun x33 =>
  dc_gd ((gvI S14 9 t 1) < 0 ∨ gvL S28 21 x33 ≤ ((gvI S14 9 t 1)).toNatClampNeg) (
  dc_let (pvR S28 21 x33 ((gvI S14 9 t 1)).toNatClampNeg (some (gvN S14 1))) fun S35 =>
  dc_let ((gvI S35 9 t 1) + (1 : Int32)) fun v37 =>
  dc_let (pvI S35 9 t 1 v37) fun S38 =>
  some (gvI S35 9 t 1, S38))) (
  some ((-5 : Int32), S14)))))
set_option maxHeartbeats 1000000 in
theorem m_X9_file {n : Nat} {S : lh_S} {t : Nat} {p1 : Int32} {p2 : Int32} {p3 : Int32} {p4 : Int32} {p5 : Int32} {r : Int32} {S' : lh_S} (hf : f_X9_file n S t p1 p2 p3 p4 p5 = some (r, S')) : ∀ b, gvN S b ≤ gvN S' b := by
  have hm : ∀ b, gvN S b ≤ gvN S b := fun _ => Nat.le_refl _
  unfold f_X9_file at hf
  obtain ⟨r1, S2, k3, hf⟩ := dc_bd_ok hf
  have hm := lh_le_trans hm (show ∀ b, gvN S b ≤ gvN S2 b from m_X9_isName k3)
  by_cases c6 : r1 = 0
  · replace hf := dc_if_t c6 hf
    obtain ⟨_, rfl⟩ := dc_ret hf
    exact hm
  · replace hf := dc_if_f c6 hf
    obtain ⟨r7, S8, k9, hf⟩ := dc_bd_ok hf
    have hm := lh_le_trans hm (show ∀ b, gvN S2 b ≤ gvN S8 b from m_X9_isName k9)
    by_cases c12 : r7 = 0
    · replace hf := dc_if_t c12 hf
      obtain ⟨_, rfl⟩ := dc_ret hf
      exact hm
    · replace hf := dc_if_f c12 hf
      obtain ⟨r13, S14, k15, hf⟩ := dc_bd_ok hf
      have hm := lh_le_trans hm (show ∀ b, gvN S8 b ≤ gvN S14 b from m_X9_isName k15)
      by_cases c18 : r13 = 0
      · replace hf := dc_if_t c18 hf
        obtain ⟨_, rfl⟩ := dc_ret hf
        exact hm
      · replace hf := dc_if_f c18 hf
        by_cases c19 : (gvI S14 9 t 1) < (30 : Int32)
        · replace hf := dc_if_t c19 hf
          obtain ⟨S21, eS21, hf⟩ := dc_let_ok hf
          have hm := lh_le_trans hm (show ∀ b, gvN S14 b ≤ gvN S21 b from by rw [eS21]; exact lh_mN)
          obtain ⟨r27, S28, k29, hf⟩ := dc_bd_ok hf
          have hm := lh_le_trans hm (show ∀ b, gvN S21 b ≤ gvN S28 b from m_X1_init k29)
          obtain ⟨x33, hx33, hf⟩ := dc_nn_ok hf
          obtain ⟨g34, hf⟩ := dc_gd_ok hf
          obtain ⟨S35, eS35, hf⟩ := dc_let_ok hf
          have hm := lh_le_trans hm (show ∀ b, gvN S28 b ≤ gvN S35 b from by rw [eS35]; exact lh_mR)
          obtain ⟨v37, hv37, hf⟩ := dc_let_ok hf
          obtain ⟨S38, eS38, hf⟩ := dc_let_ok hf
          have hm := lh_le_trans hm (show ∀ b, gvN S35 b ≤ gvN S38 b from by rw [eS38]; exact lh_mI)
          obtain ⟨_, rfl⟩ := dc_ret hf
          exact hm
        · replace hf := dc_if_f c19 hf
          obtain ⟨_, rfl⟩ := dc_ret hf
          exact hm
set_option maxHeartbeats 1000000 in
theorem k_X9_file {n : Nat} {S : lh_S} {t : Nat} {p1 : Int32} {p2 : Int32} {p3 : Int32} {p4 : Int32} {p5 : Int32} {r : Int32} {S' : lh_S} (hf : f_X9_file n S t p1 p2 p3 p4 p5 = some (r, S')) : lh_sm9 S S' := by
  have hm : lh_sm9 S S := lh_sm9_rf
  unfold f_X9_file at hf
  obtain ⟨r1, S2, k3, hf⟩ := dc_bd_ok hf
  have hm := lh_sm9_trans hm (show lh_sm9 S S2 from k_X9_isName k3)
  by_cases c6 : r1 = 0
  · replace hf := dc_if_t c6 hf
    obtain ⟨_, rfl⟩ := dc_ret hf
    exact hm
  · replace hf := dc_if_f c6 hf
    obtain ⟨r7, S8, k9, hf⟩ := dc_bd_ok hf
    have hm := lh_sm9_trans hm (show lh_sm9 S2 S8 from k_X9_isName k9)
    by_cases c12 : r7 = 0
    · replace hf := dc_if_t c12 hf
      obtain ⟨_, rfl⟩ := dc_ret hf
      exact hm
    · replace hf := dc_if_f c12 hf
      obtain ⟨r13, S14, k15, hf⟩ := dc_bd_ok hf
      have hm := lh_sm9_trans hm (show lh_sm9 S8 S14 from k_X9_isName k15)
      by_cases c18 : r13 = 0
      · replace hf := dc_if_t c18 hf
        obtain ⟨_, rfl⟩ := dc_ret hf
        exact hm
      · replace hf := dc_if_f c18 hf
        by_cases c19 : (gvI S14 9 t 1) < (30 : Int32)
        · replace hf := dc_if_t c19 hf
          obtain ⟨S21, eS21, hf⟩ := dc_let_ok hf
          have hm := lh_sm9_trans hm (show lh_sm9 S14 S21 from by rw [eS21]; exact (lh_sm9N (by decide)))
          obtain ⟨r27, S28, k29, hf⟩ := dc_bd_ok hf
          have hm := lh_sm9_trans hm (show lh_sm9 S21 S28 from k_X1_init k29)
          obtain ⟨x33, hx33, hf⟩ := dc_nn_ok hf
          obtain ⟨g34, hf⟩ := dc_gd_ok hf
          obtain ⟨S35, eS35, hf⟩ := dc_let_ok hf
          have hm := lh_sm9_trans hm (show lh_sm9 S28 S35 from by rw [eS35]; exact (lh_sm9R (by decide)))
          obtain ⟨v37, hv37, hf⟩ := dc_let_ok hf
          obtain ⟨S38, eS38, hf⟩ := dc_let_ok hf
          have hm := lh_sm9_trans hm (show lh_sm9 S35 S38 from by rw [eS38]; exact (lh_sm9I (by decide)))
          obtain ⟨_, rfl⟩ := dc_ret hf
          exact hm
        · replace hf := dc_if_f c19 hf
          obtain ⟨_, rfl⟩ := dc_ret hf
          exact hm
set_option maxHeartbeats 4000000 in
set_option maxRecDepth 100000 in
theorem c_X9_file (l : Launch) (D : va_G) (cT : Nat → ClassId) (n : Nat) (S : lh_S) (ad : Nat → Nat → Nat) (A : Nat → Prop) (sz : Nat) (hA : ∀ q, sz ≤ q → A q) (t : Nat) (p1 : Int32) (p2 : Int32) (p3 : Int32) (p4 : Int32) (p5 : Int32) (r : Int32) (S' : lh_S) (hf : f_X9_file n S t p1 p2 p3 p4 p5 = some (r, S')) (L_t : ∀ j, some t = some j → j < gvN S 9) : Met l yX9_file wsX9_file ({ frames := 2, cells := 2, slots := 11, locals := 46 } : Room) (lh_P D cT S ad A sz [lh_r ad 9 (some t), .int p1, .int p2, .int p3, .int p4, .int p5]) (lh_QA D cT S S' ad A ((∀ b, gvN S b ≤ gvN S' b) ∧ True) (fun ad9 => some (.int r))) 2 11 A := by
  refine Met.ofW (cc := cX9_file) (maxL := 6) (ret := (some .int)) (by decide) rfl ?_
  intro p e s m args below meth c s₁ B hml hv
  obtain ⟨hargs, hsz, hW, hK, hN⟩ := hv
  have hx := B.exec
  have hb := B.bytes
  have hr := B.returns
  have hts := atoms_spec (ws := wsX9_file) B.pre
  have hown : s.vm.findClass RX9 = some m.cls := findClass_of_methodNamed B.named
  have hlocks := B.notSynchronized
  have hA : ∀ q, s.heap.size ≤ q → A q := fun q h => hA q (by rw [← hsz]; exact h)
  have ok := lh_W_ok hW
  have hm : ∀ b, gvN S b ≤ gvN S b := fun _ => Nat.le_refl _
  have hE : lh_E S ad ad := lh_E.rf
  obtain ⟨ls, hent, hl⟩ := lh_entry m args [lh_r ad 9 (some t), .int p1, .int p2, .int p3, .int p4, .int p5] 6 [(0, lh_r ad 9 (some t)), (1, .int p1), (2, .int p2), (3, .int p3), (4, .int p4), (5, .int p5)] hargs (by simp [lv_args, lh_cat_r, lh_cat_i, lh_cat_j]) (by simp [lg_sl, lh_cat_r, lh_cat_i, lh_cat_j])
  rw [hent]
  generalize hH : s.heap = H at hW ⊢
  have hS : va_S A s.heap H [] := by rw [← hH]; exact va_S.rf
  unfold f_X9_file at hf
  refine lv_iload_n hx hb dX9_file_0 rfl (lv_at hl 1 rfl) ?_
  obtain ⟨r1, S2, k3, hf⟩ := dc_bd_ok hf
  refine lh_call (S' := S2) (lh_rs ⟨hx, hb, hml, hown, hts⟩ (As := [.int p1]) (rest := []) (c_X9_isName l D cT n S ad A H.size (fun q9 h9 => hA q9 (Nat.le_trans hS.1 h9)) p1 r1 S2 k3 ) (va_cwS 1 hts gX9_file_X9_isName rfl rfl rfl (by decide +kernel) ⟨Nat.le_of_ble_eq_true rfl, Nat.le_of_ble_eq_true rfl⟩) hK hN hW rfl hl.1 rfl (by simp [lh_cat_r, lh_cat_i, lh_cat_j]) dX9_file_1 ⟨Nat.le_of_ble_eq_true rfl, Nat.le_of_ble_eq_true rfl⟩) hS (fun H locs hX hW hS => ?_)
  refine W.widen (k := 0) (n := 0) (by omega) (by omega) ?_
  show W _ _ _ _ _ _ _ _ _ _ _ _ _ _ _ (F0 m 4 ls [.int r1])
  have m4 : ∀ b, gvN S b ≤ gvN S2 b := hX.1
  have L_t : ∀ j, some t = some j → j < gvN S2 9 := fun j h => Nat.lt_of_lt_of_le (L_t j h) (m4 _)
  have hm : ∀ b, gvN S b ≤ gvN S2 b := lh_le_trans hm m4
  have ok := lh_W_ok hW
  have z5 := hX.2
  refine lv_if_eq (tgt := 21) hx hb dX9_file_4 (by decide) (fun c6 => ?_) (fun c6 => ?_)
  · replace hf := dc_if_t c6 hf
    refine lv_bipush (v := -3) hx hb dX9_file_21 (by decide) ?_
    obtain ⟨rfl, rfl⟩ := dc_ret hf
    refine W.widen (k := 2) (n := 11) (by omega) (by omega) ?_
    exact W.iret (v := (-3 : Int32)) hx hb hr (fun t9 ht9 hW9 => ⟨⟨ad, hE, rfl, ⟨hm, trivial⟩, by rw [ht9]; exact hW⟩, hS.F ht9⟩) hS.2.2 dX9_file_23
  · replace hf := dc_if_f c6 hf
    refine lv_iload_n hx hb dX9_file_7 rfl (lv_at hl 2 rfl) ?_
    obtain ⟨r7, S8, k9, hf⟩ := dc_bd_ok hf
    refine lh_call (S' := S8) (lh_rs ⟨hx, hb, hml, hown, hts⟩ (As := [.int p2]) (rest := []) (c_X9_isName l D cT n S2 ad A H.size (fun q9 h9 => hA q9 (Nat.le_trans hS.1 h9)) p2 r7 S8 k9 ) (va_cwS 1 hts gX9_file_X9_isName rfl rfl rfl (by decide +kernel) ⟨Nat.le_of_ble_eq_true rfl, Nat.le_of_ble_eq_true rfl⟩) hK hN hW rfl hl.1 rfl (by simp [lh_cat_r, lh_cat_i, lh_cat_j]) dX9_file_8 ⟨Nat.le_of_ble_eq_true rfl, Nat.le_of_ble_eq_true rfl⟩) hS (fun H locs hX hW hS => ?_)
    refine W.widen (k := 0) (n := 0) (by omega) (by omega) ?_
    show W _ _ _ _ _ _ _ _ _ _ _ _ _ _ _ (F0 m 11 ls [.int r7])
    have m10 : ∀ b, gvN S2 b ≤ gvN S8 b := hX.1
    have L_t : ∀ j, some t = some j → j < gvN S8 9 := fun j h => Nat.lt_of_lt_of_le (L_t j h) (m10 _)
    have hm : ∀ b, gvN S b ≤ gvN S8 b := lh_le_trans hm m10
    have ok := lh_W_ok hW
    have z11 := hX.2
    refine lv_if_eq (tgt := 21) hx hb dX9_file_11 (by decide) (fun c12 => ?_) (fun c12 => ?_)
    · replace hf := dc_if_t c12 hf
      refine lv_bipush (v := -3) hx hb dX9_file_21 (by decide) ?_
      obtain ⟨rfl, rfl⟩ := dc_ret hf
      refine W.widen (k := 2) (n := 11) (by omega) (by omega) ?_
      exact W.iret (v := (-3 : Int32)) hx hb hr (fun t9 ht9 hW9 => ⟨⟨ad, hE, rfl, ⟨hm, trivial⟩, by rw [ht9]; exact hW⟩, hS.F ht9⟩) hS.2.2 dX9_file_23
    · replace hf := dc_if_f c12 hf
      refine lv_iload_n hx hb dX9_file_14 rfl (lv_at hl 3 rfl) ?_
      obtain ⟨r13, S14, k15, hf⟩ := dc_bd_ok hf
      refine lh_call (S' := S14) (lh_rs ⟨hx, hb, hml, hown, hts⟩ (As := [.int p3]) (rest := []) (c_X9_isName l D cT n S8 ad A H.size (fun q9 h9 => hA q9 (Nat.le_trans hS.1 h9)) p3 r13 S14 k15 ) (va_cwS 1 hts gX9_file_X9_isName rfl rfl rfl (by decide +kernel) ⟨Nat.le_of_ble_eq_true rfl, Nat.le_of_ble_eq_true rfl⟩) hK hN hW rfl hl.1 rfl (by simp [lh_cat_r, lh_cat_i, lh_cat_j]) dX9_file_15 ⟨Nat.le_of_ble_eq_true rfl, Nat.le_of_ble_eq_true rfl⟩) hS (fun H locs hX hW hS => ?_)
      refine W.widen (k := 0) (n := 0) (by omega) (by omega) ?_
      show W _ _ _ _ _ _ _ _ _ _ _ _ _ _ _ (F0 m 18 ls [.int r13])
      have m16 : ∀ b, gvN S8 b ≤ gvN S14 b := hX.1
      have L_t : ∀ j, some t = some j → j < gvN S14 9 := fun j h => Nat.lt_of_lt_of_le (L_t j h) (m16 _)
      have hm : ∀ b, gvN S b ≤ gvN S14 b := lh_le_trans hm m16
      have ok := lh_W_ok hW
      have z17 := hX.2
      refine lv_if_ne (tgt := 24) hx hb dX9_file_18 (by decide) (fun c18 => ?_) (fun c18 => ?_)
      · replace hf := dc_if_f c18 hf
        refine lh_aload_n hx hb dX9_file_24 rfl (lv_at hl 0 rfl) ?_
        refine lh_get (a := 9) (k := 1) (N := 10) (C := RX9) (T := TX9) (own := RX9) (ref := "LoaderModels") hx hb hts (fun _ h => (List.mem_cons_of_mem _ (List.mem_append_left _ (List.mem_append_right _ h)))) hown hK hW rfl (L_t _ rfl) rfl rfl rfl (by decide) (hts (.fieldLink RX9 58 "LoaderModels" "fileCount" "I") (List.mem_cons_of_mem _ (List.mem_append_left _ (List.mem_append_left _ (List.mem_of_getElem? (i := 0) rfl))))) (fun _ h9 => h9) dX9_file_25 (v := .int (gvI S14 9 t 1)) rfl ?_
        refine lv_bipush (v := 30) hx hb dX9_file_28 (by decide) ?_
        refine lv_icmp_lt (tgt := 36) hx hb dX9_file_30 (by decide) (fun c19 => ?_) (fun c19 => ?_)
        · replace hf := dc_if_t c19 hf
          refine lh_aload_n hx hb dX9_file_36 rfl (lv_at hl 0 rfl) ?_
          have L20 : ∀ j, gvR S14 9 t 0 = some j → j < gvN S14 21 := fun j h => ok _ _ _ _ j (L_t _ rfl) rfl h
          refine lh_get (a := 9) (k := 0) (N := 10) (C := RX9) (T := TX9) (own := RX9) (ref := "LoaderModels") hx hb hts (fun _ h => (List.mem_cons_of_mem _ (List.mem_append_left _ (List.mem_append_right _ h)))) hown hK hW rfl (L_t _ rfl) rfl rfl rfl (by decide) (hts (.fieldLink RX9 13 "LoaderModels" "files" "[LLoaderModels$ClassFile;") (List.mem_cons_of_mem _ (List.mem_append_left _ (List.mem_append_left _ (List.mem_of_getElem? (i := 1) rfl))))) (fun _ h9 => h9) dX9_file_37 (v := lh_r ad 21 (gvR S14 9 t 0)) rfl ?_
          refine lh_aload_n hx hb dX9_file_40 rfl (lv_at hl 0 rfl) ?_
          refine lh_get (a := 9) (k := 1) (N := 10) (C := RX9) (T := TX9) (own := RX9) (ref := "LoaderModels") hx hb hts (fun _ h => (List.mem_cons_of_mem _ (List.mem_append_left _ (List.mem_append_right _ h)))) hown hK hW rfl (L_t _ rfl) rfl rfl rfl (by decide) (hts (.fieldLink RX9 58 "LoaderModels" "fileCount" "I") (List.mem_cons_of_mem _ (List.mem_append_left _ (List.mem_append_left _ (List.mem_of_getElem? (i := 0) rfl))))) (fun _ h9 => h9) dX9_file_41 (v := .int (gvI S14 9 t 1)) rfl ?_
          obtain ⟨S21, eS21, hf⟩ := dc_let_ok hf
          refine lh_new (a := 1) (N := 7) (C := RX1) (T := TX1) (own := RX9) hx hb hts (fun _ h => (List.mem_cons_of_mem _ (List.mem_append_right _ h))) tyX1 tyX1_ok hown (hts (.classLink RX9 11 RX1) (List.mem_cons_of_mem _ (List.mem_append_left _ (List.mem_append_left _ (List.mem_of_getElem? (i := 2) rfl))))) (hts (.instantiable RX1 7) (List.mem_cons_of_mem _ (List.mem_append_left _ (List.mem_append_left _ (List.mem_of_getElem? (i := 3) rfl))))) (hts (.initialized RX1) (List.mem_cons_of_mem _ (List.mem_append_left _ (List.mem_append_left _ (List.mem_of_getElem? (i := 4) rfl))))) hK hW hS hA rfl rfl rfl (by decide +kernel) (Nat.le_of_ble_eq_true rfl) (Nat.le_of_ble_eq_true rfl) dX9_file_44 (fun ad22 H hE23 hW hS => ?_)
          rw [lh_rE hE23 L_t] at hl
          rw [lh_rE hE23 L20]
          have hE : lh_E S ad ad22 := lh_E.trans hE hm hE23
          rw [← eS21] at hW
          have m24 : ∀ b, gvN S14 b ≤ gvN S21 b := by rw [eS21]; exact lh_mN
          have L_t : ∀ j, some t = some j → j < gvN S21 9 := fun j h => Nat.lt_of_lt_of_le (L_t j h) (m24 _)
          have L20 : ∀ j, gvR S14 9 t 0 = some j → j < gvN S21 21 := fun j h => Nat.lt_of_lt_of_le (L20 j h) (m24 _)
          have hm : ∀ b, gvN S b ≤ gvN S21 b := lh_le_trans hm m24
          have ok := lh_W_ok hW
          have L25 : ∀ j, some (gvN S14 1) = some j → j < gvN S21 1 := lh_ls (by rw [eS21]; exact lh_nN)
          refine lv_dup hx hb dX9_file_47 lh_cat_r ?_
          refine lh_aload_n hx hb dX9_file_48 rfl (lv_at hl 0 rfl) ?_
          refine lh_get (a := 9) (k := 1) (N := 10) (C := RX9) (T := TX9) (own := RX9) (ref := "LoaderModels") hx hb hts (fun _ h => (List.mem_cons_of_mem _ (List.mem_append_left _ (List.mem_append_right _ h)))) hown hK hW rfl (L_t _ rfl) rfl rfl rfl (by decide) (hts (.fieldLink RX9 58 "LoaderModels" "fileCount" "I") (List.mem_cons_of_mem _ (List.mem_append_left _ (List.mem_append_left _ (List.mem_of_getElem? (i := 0) rfl))))) (fun _ h9 => h9) dX9_file_49 (v := .int (gvI S21 9 t 1)) rfl ?_
          refine lv_iload_n hx hb dX9_file_52 rfl (lv_at hl 1 rfl) ?_
          refine lv_iload_n hx hb dX9_file_53 rfl (lv_at hl 2 rfl) ?_
          refine lv_iload_n hx hb dX9_file_54 rfl (lv_at hl 3 rfl) ?_
          refine lv_iload hx hb dX9_file_55 (lv_at hl 4 rfl) ?_
          refine lv_iload hx hb dX9_file_57 (lv_at hl 5 rfl) ?_
          obtain ⟨r27, S28, k29, hf⟩ := dc_bd_ok hf
          refine lh_callA (S' := S28) (lh_ri ⟨hx, hb, hml, hown, hts⟩ rfl (As := [.int (gvI S21 9 t 1), .int p1, .int p2, .int p3, .int p4, .int p5]) (rest := [lh_r ad22 1 (some (gvN S14 1)), .int (gvI S14 9 t 1), lh_r ad22 21 (gvR S14 9 t 0)]) (k := 1) (c_X1_init l D cT n S21 ad22 A H.size (fun q9 h9 => hA q9 (Nat.le_trans hS.1 h9)) (gvN S14 1) (gvI S21 9 t 1) p1 p2 p3 p4 p5 r27 S28 k29 L25) (cwI 6 hts gX9_file_X1_init rfl rfl rfl (hts (.initialized RX1) (List.mem_cons_of_mem _ (List.mem_append_left _ (List.mem_append_left _ (List.mem_of_getElem? (i := 4) rfl))))) (hts (.methodLink RX9 52 yX1_init) (List.mem_cons_of_mem _ (List.mem_append_left _ (List.mem_append_left _ (List.mem_of_getElem? (i := 9) rfl))))) (hts (.instanceMethod yX1_init) (List.mem_cons_of_mem _ (List.mem_append_left _ (List.mem_append_left _ (List.mem_of_getElem? (i := 10) rfl))))) rfl (by decide +kernel) ⟨Nat.le_of_ble_eq_true rfl, Nat.le_of_ble_eq_true rfl⟩) hK hN hW rfl hl.1 rfl (by simp [lh_cat_r, lh_cat_i, lh_cat_j]) dX9_file_59 ⟨Nat.le_of_ble_eq_true rfl, Nat.le_of_ble_eq_true rfl⟩) hS (fun ad30 H locs hE31 hX hW hS => ?_)
          refine W.widen (k := 2) (n := 11) (by omega) (by omega) ?_
          show W _ _ _ _ _ _ _ _ _ _ _ _ _ _ _ (F0 m 62 ls [lh_r ad22 1 (some (gvN S14 1)), .int (gvI S14 9 t 1), lh_r ad22 21 (gvR S14 9 t 0)])
          rw [lh_rE hE31 L_t] at hl
          rw [lh_rE hE31 L25]
          rw [lh_rE hE31 L20]
          have hE : lh_E S ad ad30 := lh_E.trans hE hm hE31
          have m32 : ∀ b, gvN S21 b ≤ gvN S28 b := hX.1
          have L_t : ∀ j, some t = some j → j < gvN S28 9 := fun j h => Nat.lt_of_lt_of_le (L_t j h) (m32 _)
          have L25 : ∀ j, some (gvN S14 1) = some j → j < gvN S28 1 := fun j h => Nat.lt_of_lt_of_le (L25 j h) (m32 _)
          have L20 : ∀ j, gvR S14 9 t 0 = some j → j < gvN S28 21 := fun j h => Nat.lt_of_lt_of_le (L20 j h) (m32 _)
          have hm : ∀ b, gvN S b ≤ gvN S28 b := lh_le_trans hm m32
          have ok := lh_W_ok hW
          obtain ⟨x33, hx33, hf⟩ := dc_nn_ok hf
          obtain ⟨g34, hf⟩ := dc_gd_ok hf
          obtain ⟨S35, eS35, hf⟩ := dc_let_ok hf
          refine lh_ast_r (a := 21) (t0 := 4) (t := 1) hx hb hK hW hS hx33 (L20 _ hx33) rfl rfl (fun _ => rfl) rfl rfl L25 g34 dX9_file_62 (fun H locs hW hS => ?_)
          rw [← eS35] at hW
          have m36 : ∀ b, gvN S28 b ≤ gvN S35 b := by rw [eS35]; exact lh_mR
          have L_t : ∀ j, some t = some j → j < gvN S35 9 := fun j h => Nat.lt_of_lt_of_le (L_t j h) (m36 _)
          have hm : ∀ b, gvN S b ≤ gvN S35 b := lh_le_trans hm m36
          have ok := lh_W_ok hW
          refine lh_aload_n hx hb dX9_file_63 rfl (lv_at hl 0 rfl) ?_
          refine lv_dup hx hb dX9_file_64 lh_cat_r ?_
          refine lh_get (a := 9) (k := 1) (N := 10) (C := RX9) (T := TX9) (own := RX9) (ref := "LoaderModels") hx hb hts (fun _ h => (List.mem_cons_of_mem _ (List.mem_append_left _ (List.mem_append_right _ h)))) hown hK hW rfl (L_t _ rfl) rfl rfl rfl (by decide) (hts (.fieldLink RX9 58 "LoaderModels" "fileCount" "I") (List.mem_cons_of_mem _ (List.mem_append_left _ (List.mem_append_left _ (List.mem_of_getElem? (i := 0) rfl))))) (fun _ h9 => h9) dX9_file_65 (v := .int (gvI S35 9 t 1)) rfl ?_
          refine lv_dup_x1 hx hb dX9_file_68 rfl lh_cat_r ?_
          refine lv_iconst (v := 1) hx hb dX9_file_69 (by decide) ?_
          refine lv_iadd hx hb dX9_file_70 ?_
          refine lv_topi (fun v37 hv37 => ?_)
          replace hf := dc_let_e hv37 hf
          obtain ⟨S38, eS38, hf⟩ := dc_let_ok hf
          refine lh_put (S' := S38) (a := 9) (k := 1) (N := 10) (C := RX9) (T := TX9) (own := RX9) (ref := "LoaderModels") (ty := .int) hx hb hts (fun _ h => (List.mem_cons_of_mem _ (List.mem_append_left _ (List.mem_append_right _ h)))) tyX9 tyX9_ok nmX9 hown hK hW hS rfl (L_t _ rfl) rfl rfl rfl (by decide) (hts (.fieldLink RX9 58 "LoaderModels" "fileCount" "I") (List.mem_cons_of_mem _ (List.mem_append_left _ (List.mem_append_left _ (List.mem_of_getElem? (i := 0) rfl))))) (fun _ h9 => h9) (Or.inl rfl) (by decide +kernel) rfl rfl (fun q9 => by rw [eS38]; exact lh_chI rfl q9) dX9_file_71 (fun H locs hW hS => ?_)
          have m39 : ∀ b, gvN S35 b ≤ gvN S38 b := by rw [eS38]; exact lh_mI
          have L_t : ∀ j, some t = some j → j < gvN S38 9 := fun j h => Nat.lt_of_lt_of_le (L_t j h) (m39 _)
          have hm : ∀ b, gvN S b ≤ gvN S38 b := lh_le_trans hm m39
          have ok := lh_W_ok hW
          obtain ⟨rfl, rfl⟩ := dc_ret hf
          exact W.iret (v := gvI S35 9 t 1) hx hb hr (fun t9 ht9 hW9 => ⟨⟨ad30, hE, rfl, ⟨hm, trivial⟩, by rw [ht9]; exact hW⟩, hS.F ht9⟩) hS.2.2 dX9_file_74
        · replace hf := dc_if_f c19 hf
          refine lv_bipush (v := -5) hx hb dX9_file_33 (by decide) ?_
          obtain ⟨rfl, rfl⟩ := dc_ret hf
          refine W.widen (k := 2) (n := 11) (by omega) (by omega) ?_
          exact W.iret (v := (-5 : Int32)) hx hb hr (fun t9 ht9 hW9 => ⟨⟨ad, hE, rfl, ⟨hm, trivial⟩, by rw [ht9]; exact hW⟩, hS.F ht9⟩) hS.2.2 dX9_file_35
      · replace hf := dc_if_t c18 hf
        refine lv_bipush (v := -3) hx hb dX9_file_21 (by decide) ?_
        obtain ⟨rfl, rfl⟩ := dc_ret hf
        refine W.widen (k := 2) (n := 11) (by omega) (by omega) ?_
        exact W.iret (v := (-3 : Int32)) hx hb hr (fun t9 ht9 hW9 => ⟨⟨ad, hE, rfl, ⟨hm, trivial⟩, by rw [ht9]; exact hW⟩, hS.F ht9⟩) hS.2.2 dX9_file_23
def f_X9_method (n : Nat) (S : lh_S) (t : Nat) (p1 : Int32) (p2 : Int32) (p3 : Int32) (p4 : Int32) (p5 : Int32) : Option (Int32 × lh_S) :=
  dc_bd (f_X9_fileAt n S t p1) fun r1 S2 =>
  dc_if (r1 = none) (
  some ((-2 : Int32), S2)) (
  dc_bd (f_X9_isMethod n S2 p2) fun r7 S8 =>
  dc_if (r7 = 0) (
  some ((-3 : Int32), S8)) (
  dc_if (p3 < 0) (
  some ((-3 : Int32), S8)) (
  dc_if (p3 ≤ (2 : Int32)) (
  dc_nn r1 fun x15 =>
  dc_let (pvN S8 0 0) fun S17 =>
  dc_bd (f_X0_init n S17 (gvN S8 0) p3 p4 p5) fun r23 S24 =>
  dc_nn (gvR S8 1 x15 6) fun x27 =>
  dc_gd (p2 < 0 ∨ gvL S24 11 x27 ≤ (p2).toNatClampNeg) (
  dc_let (pvR S24 11 x27 (p2).toNatClampNeg (some (gvN S8 0))) fun S29 =>
  some ((1 : Int32), S29))) (
  some ((-3 : Int32), S8)))))
set_option maxHeartbeats 1000000 in
theorem m_X9_method {n : Nat} {S : lh_S} {t : Nat} {p1 : Int32} {p2 : Int32} {p3 : Int32} {p4 : Int32} {p5 : Int32} {r : Int32} {S' : lh_S} (hf : f_X9_method n S t p1 p2 p3 p4 p5 = some (r, S')) : ∀ b, gvN S b ≤ gvN S' b := by
  have hm : ∀ b, gvN S b ≤ gvN S b := fun _ => Nat.le_refl _
  unfold f_X9_method at hf
  obtain ⟨r1, S2, k3, hf⟩ := dc_bd_ok hf
  have hm := lh_le_trans hm (show ∀ b, gvN S b ≤ gvN S2 b from m_X9_fileAt k3)
  by_cases c6 : r1 = none
  · replace hf := dc_if_t c6 hf
    obtain ⟨_, rfl⟩ := dc_ret hf
    exact hm
  · replace hf := dc_if_f c6 hf
    obtain ⟨r7, S8, k9, hf⟩ := dc_bd_ok hf
    have hm := lh_le_trans hm (show ∀ b, gvN S2 b ≤ gvN S8 b from m_X9_isMethod k9)
    by_cases c12 : r7 = 0
    · replace hf := dc_if_t c12 hf
      obtain ⟨_, rfl⟩ := dc_ret hf
      exact hm
    · replace hf := dc_if_f c12 hf
      by_cases c13 : p3 < 0
      · replace hf := dc_if_t c13 hf
        obtain ⟨_, rfl⟩ := dc_ret hf
        exact hm
      · replace hf := dc_if_f c13 hf
        by_cases c14 : p3 ≤ (2 : Int32)
        · replace hf := dc_if_t c14 hf
          obtain ⟨x15, hx15, hf⟩ := dc_nn_ok hf
          obtain ⟨S17, eS17, hf⟩ := dc_let_ok hf
          have hm := lh_le_trans hm (show ∀ b, gvN S8 b ≤ gvN S17 b from by rw [eS17]; exact lh_mN)
          obtain ⟨r23, S24, k25, hf⟩ := dc_bd_ok hf
          have hm := lh_le_trans hm (show ∀ b, gvN S17 b ≤ gvN S24 b from m_X0_init k25)
          obtain ⟨x27, hx27, hf⟩ := dc_nn_ok hf
          obtain ⟨g28, hf⟩ := dc_gd_ok hf
          obtain ⟨S29, eS29, hf⟩ := dc_let_ok hf
          have hm := lh_le_trans hm (show ∀ b, gvN S24 b ≤ gvN S29 b from by rw [eS29]; exact lh_mR)
          obtain ⟨_, rfl⟩ := dc_ret hf
          exact hm
        · replace hf := dc_if_f c14 hf
          obtain ⟨_, rfl⟩ := dc_ret hf
          exact hm
set_option maxHeartbeats 1000000 in
theorem k_X9_method {n : Nat} {S : lh_S} {t : Nat} {p1 : Int32} {p2 : Int32} {p3 : Int32} {p4 : Int32} {p5 : Int32} {r : Int32} {S' : lh_S} (hf : f_X9_method n S t p1 p2 p3 p4 p5 = some (r, S')) : lh_sm9 S S' := by
  have hm : lh_sm9 S S := lh_sm9_rf
  unfold f_X9_method at hf
  obtain ⟨r1, S2, k3, hf⟩ := dc_bd_ok hf
  have hm := lh_sm9_trans hm (show lh_sm9 S S2 from k_X9_fileAt k3)
  by_cases c6 : r1 = none
  · replace hf := dc_if_t c6 hf
    obtain ⟨_, rfl⟩ := dc_ret hf
    exact hm
  · replace hf := dc_if_f c6 hf
    obtain ⟨r7, S8, k9, hf⟩ := dc_bd_ok hf
    have hm := lh_sm9_trans hm (show lh_sm9 S2 S8 from k_X9_isMethod k9)
    by_cases c12 : r7 = 0
    · replace hf := dc_if_t c12 hf
      obtain ⟨_, rfl⟩ := dc_ret hf
      exact hm
    · replace hf := dc_if_f c12 hf
      by_cases c13 : p3 < 0
      · replace hf := dc_if_t c13 hf
        obtain ⟨_, rfl⟩ := dc_ret hf
        exact hm
      · replace hf := dc_if_f c13 hf
        by_cases c14 : p3 ≤ (2 : Int32)
        · replace hf := dc_if_t c14 hf
          obtain ⟨x15, hx15, hf⟩ := dc_nn_ok hf
          obtain ⟨S17, eS17, hf⟩ := dc_let_ok hf
          have hm := lh_sm9_trans hm (show lh_sm9 S8 S17 from by rw [eS17]; exact (lh_sm9N (by decide)))
          obtain ⟨r23, S24, k25, hf⟩ := dc_bd_ok hf
          have hm := lh_sm9_trans hm (show lh_sm9 S17 S24 from k_X0_init k25)
          obtain ⟨x27, hx27, hf⟩ := dc_nn_ok hf
          obtain ⟨g28, hf⟩ := dc_gd_ok hf
          obtain ⟨S29, eS29, hf⟩ := dc_let_ok hf
          have hm := lh_sm9_trans hm (show lh_sm9 S24 S29 from by rw [eS29]; exact (lh_sm9R (by decide)))
          obtain ⟨_, rfl⟩ := dc_ret hf
          exact hm
        · replace hf := dc_if_f c14 hf
          obtain ⟨_, rfl⟩ := dc_ret hf
          exact hm
set_option maxHeartbeats 4000000 in
set_option maxRecDepth 100000 in
theorem c_X9_method (l : Launch) (D : va_G) (cT : Nat → ClassId) (n : Nat) (S : lh_S) (ad : Nat → Nat → Nat) (A : Nat → Prop) (sz : Nat) (hA : ∀ q, sz ≤ q → A q) (t : Nat) (p1 : Int32) (p2 : Int32) (p3 : Int32) (p4 : Int32) (p5 : Int32) (r : Int32) (S' : lh_S) (hf : f_X9_method n S t p1 p2 p3 p4 p5 = some (r, S')) (L_t : ∀ j, some t = some j → j < gvN S 9) : Met l yX9_method wsX9_method ({ frames := 2, cells := 1, slots := 3, locals := 43 } : Room) (lh_P D cT S ad A sz [lh_r ad 9 (some t), .int p1, .int p2, .int p3, .int p4, .int p5]) (lh_QA D cT S S' ad A ((∀ b, gvN S b ≤ gvN S' b) ∧ True) (fun ad9 => some (.int r))) 1 3 A := by
  refine Met.ofW (cc := cX9_method) (maxL := 7) (ret := (some .int)) (by decide) rfl ?_
  intro p e s m args below meth c s₁ B hml hv
  obtain ⟨hargs, hsz, hW, hK, hN⟩ := hv
  have hx := B.exec
  have hb := B.bytes
  have hr := B.returns
  have hts := atoms_spec (ws := wsX9_method) B.pre
  have hown : s.vm.findClass RX9 = some m.cls := findClass_of_methodNamed B.named
  have hlocks := B.notSynchronized
  have hA : ∀ q, s.heap.size ≤ q → A q := fun q h => hA q (by rw [← hsz]; exact h)
  have ok := lh_W_ok hW
  have hm : ∀ b, gvN S b ≤ gvN S b := fun _ => Nat.le_refl _
  have hE : lh_E S ad ad := lh_E.rf
  obtain ⟨ls, hent, hl⟩ := lh_entry m args [lh_r ad 9 (some t), .int p1, .int p2, .int p3, .int p4, .int p5] 7 [(0, lh_r ad 9 (some t)), (1, .int p1), (2, .int p2), (3, .int p3), (4, .int p4), (5, .int p5)] hargs (by simp [lv_args, lh_cat_r, lh_cat_i, lh_cat_j]) (by simp [lg_sl, lh_cat_r, lh_cat_i, lh_cat_j])
  rw [hent]
  generalize hH : s.heap = H at hW ⊢
  have hS : va_S A s.heap H [] := by rw [← hH]; exact va_S.rf
  unfold f_X9_method at hf
  refine lh_aload_n hx hb dX9_method_0 rfl (lv_at hl 0 rfl) ?_
  refine lv_iload_n hx hb dX9_method_1 rfl (lv_at hl 1 rfl) ?_
  obtain ⟨r1, S2, k3, hf⟩ := dc_bd_ok hf
  refine lh_call (S' := S2) (lh_rv ⟨hx, hb, hml, hown, hts⟩ rfl (As := [.int p1]) (rest := []) (k := 9) (c_X9_fileAt l D cT n S ad A H.size (fun q9 h9 => hA q9 (Nat.le_trans hS.1 h9)) t p1 r1 S2 k3 L_t) (cwV 1 hts gX9_method_X9_fileAt rfl rfl rfl (by decide +kernel) ⟨Nat.le_of_ble_eq_true rfl, Nat.le_of_ble_eq_true rfl⟩) hK hN hW (L_t _ rfl) rfl rfl rfl hl.1 rfl (by simp [lh_cat_r, lh_cat_i, lh_cat_j]) dX9_method_2 ⟨Nat.le_of_ble_eq_true rfl, Nat.le_of_ble_eq_true rfl⟩) hS (fun H locs hX hW hS => ?_)
  refine W.widen (k := 0) (n := 0) (by omega) (by omega) ?_
  show W _ _ _ _ _ _ _ _ _ _ _ _ _ _ _ (F0 m 5 ls [lh_r ad 1 r1])
  have m4 : ∀ b, gvN S b ≤ gvN S2 b := hX.1
  have L_t : ∀ j, some t = some j → j < gvN S2 9 := fun j h => Nat.lt_of_lt_of_le (L_t j h) (m4 _)
  have hm : ∀ b, gvN S b ≤ gvN S2 b := lh_le_trans hm m4
  have ok := lh_W_ok hW
  have L5 := hX.2
  refine lh_astore (i := 6) (lv' := [(6, lh_r ad 1 r1), (0, lh_r ad 9 (some t)), (1, .int p1), (2, .int p2), (3, .int p3), (4, .int p4), (5, .int p5)]) hx hb dX9_method_5 hl (by decide) (by first | rfl | simp [lh_cat_r, lh_cat_i, lh_cat_j]) (fun ls hl => ?_)
  refine lh_aload hx hb dX9_method_7 (lv_at hl 0 rfl) ?_
  refine lh_ifnonnull (tgt := 15) hx hb dX9_method_9 (by decide) (fun c6 => ?_) (fun c6 => ?_)
  · replace hf := dc_if_f c6 hf
    refine lv_iload_n hx hb dX9_method_15 rfl (lv_at hl 3 rfl) ?_
    obtain ⟨r7, S8, k9, hf⟩ := dc_bd_ok hf
    refine lh_call (S' := S8) (lh_rs ⟨hx, hb, hml, hown, hts⟩ (As := [.int p2]) (rest := []) (c_X9_isMethod l D cT n S2 ad A H.size (fun q9 h9 => hA q9 (Nat.le_trans hS.1 h9)) p2 r7 S8 k9 ) (va_cwS 1 hts gX9_method_X9_isMethod rfl rfl rfl (by decide +kernel) ⟨Nat.le_of_ble_eq_true rfl, Nat.le_of_ble_eq_true rfl⟩) hK hN hW rfl hl.1 rfl (by simp [lh_cat_r, lh_cat_i, lh_cat_j]) dX9_method_16 ⟨Nat.le_of_ble_eq_true rfl, Nat.le_of_ble_eq_true rfl⟩) hS (fun H locs hX hW hS => ?_)
    refine W.widen (k := 0) (n := 0) (by omega) (by omega) ?_
    show W _ _ _ _ _ _ _ _ _ _ _ _ _ _ _ (F0 m 19 ls [.int r7])
    have m10 : ∀ b, gvN S2 b ≤ gvN S8 b := hX.1
    have L5 : ∀ j, r1 = some j → j < gvN S8 1 := fun j h => Nat.lt_of_lt_of_le (L5 j h) (m10 _)
    have L_t : ∀ j, some t = some j → j < gvN S8 9 := fun j h => Nat.lt_of_lt_of_le (L_t j h) (m10 _)
    have hm : ∀ b, gvN S b ≤ gvN S8 b := lh_le_trans hm m10
    have ok := lh_W_ok hW
    have z11 := hX.2
    refine lv_if_eq (tgt := 31) hx hb dX9_method_19 (by decide) (fun c12 => ?_) (fun c12 => ?_)
    · replace hf := dc_if_t c12 hf
      refine lv_bipush (v := -3) hx hb dX9_method_31 (by decide) ?_
      obtain ⟨rfl, rfl⟩ := dc_ret hf
      refine W.widen (k := 1) (n := 3) (by omega) (by omega) ?_
      exact W.iret (v := (-3 : Int32)) hx hb hr (fun t9 ht9 hW9 => ⟨⟨ad, hE, rfl, ⟨hm, trivial⟩, by rw [ht9]; exact hW⟩, hS.F ht9⟩) hS.2.2 dX9_method_33
    · replace hf := dc_if_f c12 hf
      refine lv_iload_n hx hb dX9_method_22 rfl (lv_at hl 4 rfl) ?_
      refine lv_if_lt (tgt := 31) hx hb dX9_method_23 (by decide) (fun c13 => ?_) (fun c13 => ?_)
      · replace hf := dc_if_t c13 hf
        refine lv_bipush (v := -3) hx hb dX9_method_31 (by decide) ?_
        obtain ⟨rfl, rfl⟩ := dc_ret hf
        refine W.widen (k := 1) (n := 3) (by omega) (by omega) ?_
        exact W.iret (v := (-3 : Int32)) hx hb hr (fun t9 ht9 hW9 => ⟨⟨ad, hE, rfl, ⟨hm, trivial⟩, by rw [ht9]; exact hW⟩, hS.F ht9⟩) hS.2.2 dX9_method_33
      · replace hf := dc_if_f c13 hf
        refine lv_iload_n hx hb dX9_method_26 rfl (lv_at hl 4 rfl) ?_
        refine lv_iconst (v := 2) hx hb dX9_method_27 (by decide) ?_
        refine lv_icmp_le (tgt := 34) hx hb dX9_method_28 (by decide) (fun c14 => ?_) (fun c14 => ?_)
        · replace hf := dc_if_t c14 hf
          refine lh_aload hx hb dX9_method_34 (lv_at hl 0 rfl) ?_
          obtain ⟨x15, hx15, hf⟩ := dc_nn_ok hf
          have L16 : ∀ j, gvR S8 1 x15 6 = some j → j < gvN S8 11 := fun j h => ok _ _ _ _ j (L5 _ hx15) rfl h
          refine lh_get (a := 1) (k := 6) (N := 7) (C := RX1) (T := TX1) (own := RX9) (ref := "LoaderModels$ClassFile") hx hb hts (fun _ h => (List.mem_cons_of_mem _ (List.mem_append_left _ (List.mem_append_left _ (List.mem_append_right _ h))))) hown hK hW hx15 (L5 _ hx15) rfl rfl rfl (by decide) (hts (.fieldLink RX9 90 "LoaderModels$ClassFile" "bodies" "[LLoaderModels$Body;") (List.mem_cons_of_mem _ (List.mem_append_left _ (List.mem_append_left _ (List.mem_append_left _ (List.mem_of_getElem? (i := 0) rfl)))))) (fun _ h9 => h9) dX9_method_36 (v := lh_r ad 11 (gvR S8 1 x15 6)) rfl ?_
          refine lv_iload_n hx hb dX9_method_39 rfl (lv_at hl 3 rfl) ?_
          obtain ⟨S17, eS17, hf⟩ := dc_let_ok hf
          refine lh_new (a := 0) (N := 3) (C := RX0) (T := TX0) (own := RX9) hx hb hts (fun _ h => (List.mem_cons_of_mem _ (List.mem_append_left _ (List.mem_append_right _ h)))) tyX0 tyX0_ok hown (hts (.classLink RX9 94 RX0) (List.mem_cons_of_mem _ (List.mem_append_left _ (List.mem_append_left _ (List.mem_append_left _ (List.mem_of_getElem? (i := 1) rfl)))))) (hts (.instantiable RX0 3) (List.mem_cons_of_mem _ (List.mem_append_left _ (List.mem_append_left _ (List.mem_append_left _ (List.mem_of_getElem? (i := 2) rfl)))))) (hts (.initialized RX0) (List.mem_cons_of_mem _ (List.mem_append_left _ (List.mem_append_left _ (List.mem_append_left _ (List.mem_of_getElem? (i := 3) rfl)))))) hK hW hS hA rfl rfl rfl (by decide +kernel) (Nat.le_of_ble_eq_true rfl) (Nat.le_of_ble_eq_true rfl) dX9_method_40 (fun ad18 H hE19 hW hS => ?_)
          rw [lh_rE hE19 L5] at hl
          rw [lh_rE hE19 L_t] at hl
          rw [lh_rE hE19 L16]
          have hE : lh_E S ad ad18 := lh_E.trans hE hm hE19
          rw [← eS17] at hW
          have m20 : ∀ b, gvN S8 b ≤ gvN S17 b := by rw [eS17]; exact lh_mN
          have L5 : ∀ j, r1 = some j → j < gvN S17 1 := fun j h => Nat.lt_of_lt_of_le (L5 j h) (m20 _)
          have L_t : ∀ j, some t = some j → j < gvN S17 9 := fun j h => Nat.lt_of_lt_of_le (L_t j h) (m20 _)
          have L16 : ∀ j, gvR S8 1 x15 6 = some j → j < gvN S17 11 := fun j h => Nat.lt_of_lt_of_le (L16 j h) (m20 _)
          have hm : ∀ b, gvN S b ≤ gvN S17 b := lh_le_trans hm m20
          have ok := lh_W_ok hW
          have L21 : ∀ j, some (gvN S8 0) = some j → j < gvN S17 0 := lh_ls (by rw [eS17]; exact lh_nN)
          refine lv_dup hx hb dX9_method_43 lh_cat_r ?_
          refine lv_iload_n hx hb dX9_method_44 rfl (lv_at hl 4 rfl) ?_
          refine lv_iload hx hb dX9_method_45 (lv_at hl 5 rfl) ?_
          refine lv_iload hx hb dX9_method_47 (lv_at hl 6 rfl) ?_
          obtain ⟨r23, S24, k25, hf⟩ := dc_bd_ok hf
          refine lh_call (S' := S24) (lh_ri ⟨hx, hb, hml, hown, hts⟩ rfl (As := [.int p3, .int p4, .int p5]) (rest := [lh_r ad18 0 (some (gvN S8 0)), .int p2, lh_r ad18 11 (gvR S8 1 x15 6)]) (k := 0) (c_X0_init l D cT n S17 ad18 A H.size (fun q9 h9 => hA q9 (Nat.le_trans hS.1 h9)) (gvN S8 0) p3 p4 p5 r23 S24 k25 L21) (cwI 3 hts gX9_method_X0_init rfl rfl rfl (hts (.initialized RX0) (List.mem_cons_of_mem _ (List.mem_append_left _ (List.mem_append_left _ (List.mem_append_left _ (List.mem_of_getElem? (i := 3) rfl)))))) (hts (.methodLink RX9 96 yX0_init) (List.mem_cons_of_mem _ (List.mem_append_left _ (List.mem_append_left _ (List.mem_append_left _ (List.mem_of_getElem? (i := 14) rfl)))))) (hts (.instanceMethod yX0_init) (List.mem_cons_of_mem _ (List.mem_append_left _ (List.mem_append_left _ (List.mem_append_left _ (List.mem_of_getElem? (i := 15) rfl)))))) rfl (by decide +kernel) ⟨Nat.le_of_ble_eq_true rfl, Nat.le_of_ble_eq_true rfl⟩) hK hN hW rfl hl.1 rfl (by simp [lh_cat_r, lh_cat_i, lh_cat_j]) dX9_method_49 ⟨Nat.le_of_ble_eq_true rfl, Nat.le_of_ble_eq_true rfl⟩) hS (fun H locs hX hW hS => ?_)
          refine W.widen (k := 1) (n := 3) (by omega) (by omega) ?_
          show W _ _ _ _ _ _ _ _ _ _ _ _ _ _ _ (F0 m 52 ls [lh_r ad18 0 (some (gvN S8 0)), .int p2, lh_r ad18 11 (gvR S8 1 x15 6)])
          have m26 : ∀ b, gvN S17 b ≤ gvN S24 b := hX.1
          have L5 : ∀ j, r1 = some j → j < gvN S24 1 := fun j h => Nat.lt_of_lt_of_le (L5 j h) (m26 _)
          have L_t : ∀ j, some t = some j → j < gvN S24 9 := fun j h => Nat.lt_of_lt_of_le (L_t j h) (m26 _)
          have L21 : ∀ j, some (gvN S8 0) = some j → j < gvN S24 0 := fun j h => Nat.lt_of_lt_of_le (L21 j h) (m26 _)
          have L16 : ∀ j, gvR S8 1 x15 6 = some j → j < gvN S24 11 := fun j h => Nat.lt_of_lt_of_le (L16 j h) (m26 _)
          have hm : ∀ b, gvN S b ≤ gvN S24 b := lh_le_trans hm m26
          have ok := lh_W_ok hW
          obtain ⟨x27, hx27, hf⟩ := dc_nn_ok hf
          obtain ⟨g28, hf⟩ := dc_gd_ok hf
          obtain ⟨S29, eS29, hf⟩ := dc_let_ok hf
          refine lh_ast_r (a := 11) (t0 := 3) (t := 0) hx hb hK hW hS hx27 (L16 _ hx27) rfl rfl (fun _ => rfl) rfl rfl L21 g28 dX9_method_52 (fun H locs hW hS => ?_)
          rw [← eS29] at hW
          have m30 : ∀ b, gvN S24 b ≤ gvN S29 b := by rw [eS29]; exact lh_mR
          have L5 : ∀ j, r1 = some j → j < gvN S29 1 := fun j h => Nat.lt_of_lt_of_le (L5 j h) (m30 _)
          have L_t : ∀ j, some t = some j → j < gvN S29 9 := fun j h => Nat.lt_of_lt_of_le (L_t j h) (m30 _)
          have hm : ∀ b, gvN S b ≤ gvN S29 b := lh_le_trans hm m30
          have ok := lh_W_ok hW
          refine lv_iconst (v := 1) hx hb dX9_method_53 (by decide) ?_
          obtain ⟨rfl, rfl⟩ := dc_ret hf
          exact W.iret (v := (1 : Int32)) hx hb hr (fun t9 ht9 hW9 => ⟨⟨ad18, hE, rfl, ⟨hm, trivial⟩, by rw [ht9]; exact hW⟩, hS.F ht9⟩) hS.2.2 dX9_method_54
        · replace hf := dc_if_f c14 hf
          refine lv_bipush (v := -3) hx hb dX9_method_31 (by decide) ?_
          obtain ⟨rfl, rfl⟩ := dc_ret hf
          refine W.widen (k := 1) (n := 3) (by omega) (by omega) ?_
          exact W.iret (v := (-3 : Int32)) hx hb hr (fun t9 ht9 hW9 => ⟨⟨ad, hE, rfl, ⟨hm, trivial⟩, by rw [ht9]; exact hW⟩, hS.F ht9⟩) hS.2.2 dX9_method_33
  · replace hf := dc_if_t c6 hf
    refine lv_bipush (v := -2) hx hb dX9_method_12 (by decide) ?_
    obtain ⟨rfl, rfl⟩ := dc_ret hf
    refine W.widen (k := 1) (n := 3) (by omega) (by omega) ?_
    exact W.iret (v := (-2 : Int32)) hx hb hr (fun t9 ht9 hW9 => ⟨⟨ad, hE, rfl, ⟨hm, trivial⟩, by rw [ht9]; exact hW⟩, hS.F ht9⟩) hS.2.2 dX9_method_14
def f_X9_bear (n : Nat) (S : lh_S) (t : Nat) (p1 : Int32) (p2 : Int32) : Option (Int32 × lh_S) :=
  dc_nn (gvR S 9 t 2) fun x2 =>
  dc_bd (f_X3_at n S x2 p1) fun r3 S4 =>
  dc_bd (f_X9_fileAt n S4 t p2) fun r8 S9 =>
  dc_if (r3 = none) (
  some ((-2 : Int32), S9)) (
  dc_if (r8 = none) (
  some ((-2 : Int32), S9)) (
  dc_nn r3 fun x15 =>
  dc_bd (f_X2_isMachine n S9 x15) fun r16 S17 =>
  dc_if (r16 = 0) (
  dc_nn r8 fun x23 =>
  dc_nn (gvR S17 2 x15 3) fun x24 =>
  dc_gd ((gvI S17 1 x23 1) < 0 ∨ gvL S17 12 x24 ≤ ((gvI S17 1 x23 1)).toNatClampNeg) (
  dc_let (pvR S17 12 x24 ((gvI S17 1 x23 1)).toNatClampNeg r8) fun S26 =>
  some ((1 : Int32), S26))) (
  some ((-4 : Int32), S17))))
set_option maxHeartbeats 1000000 in
theorem m_X9_bear {n : Nat} {S : lh_S} {t : Nat} {p1 : Int32} {p2 : Int32} {r : Int32} {S' : lh_S} (hf : f_X9_bear n S t p1 p2 = some (r, S')) : ∀ b, gvN S b ≤ gvN S' b := by
  have hm : ∀ b, gvN S b ≤ gvN S b := fun _ => Nat.le_refl _
  unfold f_X9_bear at hf
  obtain ⟨x2, hx2, hf⟩ := dc_nn_ok hf
  obtain ⟨r3, S4, k5, hf⟩ := dc_bd_ok hf
  have hm := lh_le_trans hm (show ∀ b, gvN S b ≤ gvN S4 b from m_X3_at k5)
  obtain ⟨r8, S9, k10, hf⟩ := dc_bd_ok hf
  have hm := lh_le_trans hm (show ∀ b, gvN S4 b ≤ gvN S9 b from m_X9_fileAt k10)
  by_cases c13 : r3 = none
  · replace hf := dc_if_t c13 hf
    obtain ⟨_, rfl⟩ := dc_ret hf
    exact hm
  · replace hf := dc_if_f c13 hf
    by_cases c14 : r8 = none
    · replace hf := dc_if_t c14 hf
      obtain ⟨_, rfl⟩ := dc_ret hf
      exact hm
    · replace hf := dc_if_f c14 hf
      obtain ⟨x15, hx15, hf⟩ := dc_nn_ok hf
      obtain ⟨r16, S17, k18, hf⟩ := dc_bd_ok hf
      have hm := lh_le_trans hm (show ∀ b, gvN S9 b ≤ gvN S17 b from m_X2_isMachine k18)
      by_cases c21 : r16 = 0
      · replace hf := dc_if_t c21 hf
        obtain ⟨x23, hx23, hf⟩ := dc_nn_ok hf
        obtain ⟨x24, hx24, hf⟩ := dc_nn_ok hf
        obtain ⟨g25, hf⟩ := dc_gd_ok hf
        obtain ⟨S26, eS26, hf⟩ := dc_let_ok hf
        have hm := lh_le_trans hm (show ∀ b, gvN S17 b ≤ gvN S26 b from by rw [eS26]; exact lh_mR)
        obtain ⟨_, rfl⟩ := dc_ret hf
        exact hm
      · replace hf := dc_if_f c21 hf
        obtain ⟨_, rfl⟩ := dc_ret hf
        exact hm
set_option maxHeartbeats 1000000 in
theorem k_X9_bear {n : Nat} {S : lh_S} {t : Nat} {p1 : Int32} {p2 : Int32} {r : Int32} {S' : lh_S} (hf : f_X9_bear n S t p1 p2 = some (r, S')) : lh_sm9 S S' := by
  have hm : lh_sm9 S S := lh_sm9_rf
  unfold f_X9_bear at hf
  obtain ⟨x2, hx2, hf⟩ := dc_nn_ok hf
  obtain ⟨r3, S4, k5, hf⟩ := dc_bd_ok hf
  have hm := lh_sm9_trans hm (show lh_sm9 S S4 from k_X3_at k5)
  obtain ⟨r8, S9, k10, hf⟩ := dc_bd_ok hf
  have hm := lh_sm9_trans hm (show lh_sm9 S4 S9 from k_X9_fileAt k10)
  by_cases c13 : r3 = none
  · replace hf := dc_if_t c13 hf
    obtain ⟨_, rfl⟩ := dc_ret hf
    exact hm
  · replace hf := dc_if_f c13 hf
    by_cases c14 : r8 = none
    · replace hf := dc_if_t c14 hf
      obtain ⟨_, rfl⟩ := dc_ret hf
      exact hm
    · replace hf := dc_if_f c14 hf
      obtain ⟨x15, hx15, hf⟩ := dc_nn_ok hf
      obtain ⟨r16, S17, k18, hf⟩ := dc_bd_ok hf
      have hm := lh_sm9_trans hm (show lh_sm9 S9 S17 from k_X2_isMachine k18)
      by_cases c21 : r16 = 0
      · replace hf := dc_if_t c21 hf
        obtain ⟨x23, hx23, hf⟩ := dc_nn_ok hf
        obtain ⟨x24, hx24, hf⟩ := dc_nn_ok hf
        obtain ⟨g25, hf⟩ := dc_gd_ok hf
        obtain ⟨S26, eS26, hf⟩ := dc_let_ok hf
        have hm := lh_sm9_trans hm (show lh_sm9 S17 S26 from by rw [eS26]; exact (lh_sm9R (by decide)))
        obtain ⟨_, rfl⟩ := dc_ret hf
        exact hm
      · replace hf := dc_if_f c21 hf
        obtain ⟨_, rfl⟩ := dc_ret hf
        exact hm
set_option maxHeartbeats 4000000 in
set_option maxRecDepth 100000 in
theorem c_X9_bear (l : Launch) (D : va_G) (cT : Nat → ClassId) (n : Nat) (S : lh_S) (ad : Nat → Nat → Nat) (A : Nat → Prop) (sz : Nat) (hA : ∀ q, sz ≤ q → A q) (t : Nat) (p1 : Int32) (p2 : Int32) (r : Int32) (S' : lh_S) (hf : f_X9_bear n S t p1 p2 = some (r, S')) (L_t : ∀ j, some t = some j → j < gvN S 9) : Met l yX9_bear wsX9_bear ({ frames := 1, cells := 0, slots := 0, locals := 21 } : Room) (lh_P D cT S ad A sz [lh_r ad 9 (some t), .int p1, .int p2]) (lh_Q D cT S' ad A ((∀ b, gvN S b ≤ gvN S' b) ∧ True) (some (.int r))) 0 0 A := by
  refine Met.ofW (cc := cX9_bear) (maxL := 5) (ret := (some .int)) (by decide) rfl ?_
  intro p e s m args below meth c s₁ B hml hv
  obtain ⟨hargs, hsz, hW, hK, hN⟩ := hv
  have hx := B.exec
  have hb := B.bytes
  have hr := B.returns
  have hts := atoms_spec (ws := wsX9_bear) B.pre
  have hown : s.vm.findClass RX9 = some m.cls := findClass_of_methodNamed B.named
  have hlocks := B.notSynchronized
  have hA : ∀ q, s.heap.size ≤ q → A q := fun q h => hA q (by rw [← hsz]; exact h)
  have ok := lh_W_ok hW
  have hm : ∀ b, gvN S b ≤ gvN S b := fun _ => Nat.le_refl _
  obtain ⟨ls, hent, hl⟩ := lh_entry m args [lh_r ad 9 (some t), .int p1, .int p2] 5 [(0, lh_r ad 9 (some t)), (1, .int p1), (2, .int p2)] hargs (by simp [lv_args, lh_cat_r, lh_cat_i, lh_cat_j]) (by simp [lg_sl, lh_cat_r, lh_cat_i, lh_cat_j])
  rw [hent]
  generalize hH : s.heap = H at hW ⊢
  have hS : va_S A s.heap H [] := by rw [← hH]; exact va_S.rf
  unfold f_X9_bear at hf
  refine lh_aload_n hx hb dX9_bear_0 rfl (lv_at hl 0 rfl) ?_
  have L1 : ∀ j, gvR S 9 t 2 = some j → j < gvN S 3 := fun j h => ok _ _ _ _ j (L_t _ rfl) rfl h
  refine lh_get (a := 9) (k := 2) (N := 10) (C := RX9) (T := TX9) (own := RX9) (ref := "LoaderModels") hx hb hts (fun _ h => (List.mem_cons_of_mem _ (List.mem_append_left _ (List.mem_append_left _ (List.mem_append_left _ (List.mem_append_right _ h)))))) hown hK hW rfl (L_t _ rfl) rfl rfl rfl (by decide) (hts (.fieldLink RX9 20 "LoaderModels" "loaders" "LLoaderModels$Loaders;") (List.mem_cons_of_mem _ (List.mem_append_left _ (List.mem_append_left _ (List.mem_append_left _ (List.mem_append_left _ (List.mem_of_getElem? (i := 0) rfl))))))) (fun _ h9 => h9) dX9_bear_1 (v := lh_r ad 3 (gvR S 9 t 2)) rfl ?_
  refine lv_iload_n hx hb dX9_bear_4 rfl (lv_at hl 1 rfl) ?_
  obtain ⟨x2, hx2, hf⟩ := dc_nn_ok hf
  obtain ⟨r3, S4, k5, hf⟩ := dc_bd_ok hf
  refine lh_call (S' := S4) (lh_rv ⟨hx, hb, hml, hown, hts⟩ hx2 (As := [.int p1]) (rest := []) (k := 3) (c_X3_at l D cT n S ad A H.size (fun q9 h9 => hA q9 (Nat.le_trans hS.1 h9)) x2 p1 r3 S4 k5 (lh_ls (L1 _ hx2))) (cwV 1 hts gX9_bear_X3_at rfl rfl rfl (by decide +kernel) ⟨Nat.le_of_ble_eq_true rfl, Nat.le_of_ble_eq_true rfl⟩) hK hN hW (L1 _ hx2) rfl rfl rfl hl.1 rfl (by simp [lh_cat_r, lh_cat_i, lh_cat_j]) dX9_bear_5 ⟨Nat.le_of_ble_eq_true rfl, Nat.le_of_ble_eq_true rfl⟩) hS (fun H locs hX hW hS => ?_)
  refine W.widen (k := 0) (n := 0) (by omega) (by omega) ?_
  show W _ _ _ _ _ _ _ _ _ _ _ _ _ _ _ (F0 m 8 ls [lh_r ad 2 r3])
  have m6 : ∀ b, gvN S b ≤ gvN S4 b := hX.1
  have L_t : ∀ j, some t = some j → j < gvN S4 9 := fun j h => Nat.lt_of_lt_of_le (L_t j h) (m6 _)
  have hm : ∀ b, gvN S b ≤ gvN S4 b := lh_le_trans hm m6
  have ok := lh_W_ok hW
  have L7 := hX.2
  refine lh_astore_n (i := 3) (lv' := [(3, lh_r ad 2 r3), (0, lh_r ad 9 (some t)), (1, .int p1), (2, .int p2)]) hx hb dX9_bear_8 rfl hl (by decide) (by first | rfl | simp [lh_cat_r, lh_cat_i, lh_cat_j]) (fun ls hl => ?_)
  refine lh_aload_n hx hb dX9_bear_9 rfl (lv_at hl 1 rfl) ?_
  refine lv_iload_n hx hb dX9_bear_10 rfl (lv_at hl 3 rfl) ?_
  obtain ⟨r8, S9, k10, hf⟩ := dc_bd_ok hf
  refine lh_call (S' := S9) (lh_rv ⟨hx, hb, hml, hown, hts⟩ rfl (As := [.int p2]) (rest := []) (k := 9) (c_X9_fileAt l D cT n S4 ad A H.size (fun q9 h9 => hA q9 (Nat.le_trans hS.1 h9)) t p2 r8 S9 k10 L_t) (cwV 1 hts gX9_bear_X9_fileAt rfl rfl rfl (by decide +kernel) ⟨Nat.le_of_ble_eq_true rfl, Nat.le_of_ble_eq_true rfl⟩) hK hN hW (L_t _ rfl) rfl rfl rfl hl.1 rfl (by simp [lh_cat_r, lh_cat_i, lh_cat_j]) dX9_bear_11 ⟨Nat.le_of_ble_eq_true rfl, Nat.le_of_ble_eq_true rfl⟩) hS (fun H locs hX hW hS => ?_)
  refine W.widen (k := 0) (n := 0) (by omega) (by omega) ?_
  show W _ _ _ _ _ _ _ _ _ _ _ _ _ _ _ (F0 m 14 ls [lh_r ad 1 r8])
  have m11 : ∀ b, gvN S4 b ≤ gvN S9 b := hX.1
  have L7 : ∀ j, r3 = some j → j < gvN S9 2 := fun j h => Nat.lt_of_lt_of_le (L7 j h) (m11 _)
  have L_t : ∀ j, some t = some j → j < gvN S9 9 := fun j h => Nat.lt_of_lt_of_le (L_t j h) (m11 _)
  have hm : ∀ b, gvN S b ≤ gvN S9 b := lh_le_trans hm m11
  have ok := lh_W_ok hW
  have L12 := hX.2
  refine lh_astore (i := 4) (lv' := [(4, lh_r ad 1 r8), (3, lh_r ad 2 r3), (0, lh_r ad 9 (some t)), (1, .int p1), (2, .int p2)]) hx hb dX9_bear_14 hl (by decide) (by first | rfl | simp [lh_cat_r, lh_cat_i, lh_cat_j]) (fun ls hl => ?_)
  refine lh_aload_n hx hb dX9_bear_16 rfl (lv_at hl 1 rfl) ?_
  refine lh_ifnull (tgt := 25) hx hb dX9_bear_17 (by decide) (fun c13 => ?_) (fun c13 => ?_)
  · replace hf := dc_if_t c13 hf
    refine lv_bipush (v := -2) hx hb dX9_bear_25 (by decide) ?_
    obtain ⟨rfl, rfl⟩ := dc_ret hf
    exact W.iret (v := (-2 : Int32)) hx hb hr (fun t9 ht9 hW9 => ⟨⟨rfl, ⟨hm, trivial⟩, by rw [ht9]; exact hW⟩, hS.F ht9⟩) hS.2.2 dX9_bear_27
  · replace hf := dc_if_f c13 hf
    refine lh_aload hx hb dX9_bear_20 (lv_at hl 0 rfl) ?_
    refine lh_ifnonnull (tgt := 28) hx hb dX9_bear_22 (by decide) (fun c14 => ?_) (fun c14 => ?_)
    · replace hf := dc_if_f c14 hf
      refine lh_aload_n hx hb dX9_bear_28 rfl (lv_at hl 1 rfl) ?_
      obtain ⟨x15, hx15, hf⟩ := dc_nn_ok hf
      obtain ⟨r16, S17, k18, hf⟩ := dc_bd_ok hf
      refine lh_call (S' := S17) (lh_rv ⟨hx, hb, hml, hown, hts⟩ hx15 (As := []) (rest := []) (k := 2) (c_X2_isMachine l D cT n S9 ad A H.size (fun q9 h9 => hA q9 (Nat.le_trans hS.1 h9)) x15 r16 S17 k18 (lh_ls (L7 _ hx15))) (cwV 0 hts gX9_bear_X2_isMachine rfl rfl rfl (by decide +kernel) ⟨Nat.le_of_ble_eq_true rfl, Nat.le_of_ble_eq_true rfl⟩) hK hN hW (L7 _ hx15) rfl rfl rfl hl.1 rfl (by simp [lh_cat_r, lh_cat_i, lh_cat_j]) dX9_bear_29 ⟨Nat.le_of_ble_eq_true rfl, Nat.le_of_ble_eq_true rfl⟩) hS (fun H locs hX hW hS => ?_)
      refine W.widen (k := 0) (n := 0) (by omega) (by omega) ?_
      show W _ _ _ _ _ _ _ _ _ _ _ _ _ _ _ (F0 m 32 ls [.int r16])
      have m19 : ∀ b, gvN S9 b ≤ gvN S17 b := hX.1
      have L12 : ∀ j, r8 = some j → j < gvN S17 1 := fun j h => Nat.lt_of_lt_of_le (L12 j h) (m19 _)
      have L7 : ∀ j, r3 = some j → j < gvN S17 2 := fun j h => Nat.lt_of_lt_of_le (L7 j h) (m19 _)
      have L_t : ∀ j, some t = some j → j < gvN S17 9 := fun j h => Nat.lt_of_lt_of_le (L_t j h) (m19 _)
      have hm : ∀ b, gvN S b ≤ gvN S17 b := lh_le_trans hm m19
      have ok := lh_W_ok hW
      have z20 := hX.2
      refine lv_if_eq (tgt := 38) hx hb dX9_bear_32 (by decide) (fun c21 => ?_) (fun c21 => ?_)
      · replace hf := dc_if_t c21 hf
        refine lh_aload_n hx hb dX9_bear_38 rfl (lv_at hl 1 rfl) ?_
        have L22 : ∀ j, gvR S17 2 x15 3 = some j → j < gvN S17 12 := fun j h => ok _ _ _ _ j (L7 _ hx15) rfl h
        refine lh_get (a := 2) (k := 3) (N := 7) (C := RX2) (T := TX2) (own := RX9) (ref := "LoaderModels$Loader") hx hb hts (fun _ h => (List.mem_cons_of_mem _ (List.mem_append_left _ (List.mem_append_left _ (List.mem_append_right _ h))))) hown hK hW hx15 (L7 _ hx15) rfl rfl rfl (by decide) (hts (.fieldLink RX9 55 "LoaderModels$Loader" "files" "[LLoaderModels$ClassFile;") (List.mem_cons_of_mem _ (List.mem_append_left _ (List.mem_append_left _ (List.mem_append_left _ (List.mem_append_left _ (List.mem_of_getElem? (i := 1) rfl))))))) (fun _ h9 => h9) dX9_bear_39 (v := lh_r ad 12 (gvR S17 2 x15 3)) rfl ?_
        refine lh_aload hx hb dX9_bear_42 (lv_at hl 0 rfl) ?_
        obtain ⟨x23, hx23, hf⟩ := dc_nn_ok hf
        refine lh_get (a := 1) (k := 1) (N := 7) (C := RX1) (T := TX1) (own := RX9) (ref := "LoaderModels$ClassFile") hx hb hts (fun _ h => (List.mem_cons_of_mem _ (List.mem_append_left _ (List.mem_append_right _ h)))) hown hK hW hx23 (L12 _ hx23) rfl rfl rfl (by decide) (hts (.fieldLink RX9 99 "LoaderModels$ClassFile" "name" "I") (List.mem_cons_of_mem _ (List.mem_append_left _ (List.mem_append_left _ (List.mem_append_left _ (List.mem_append_left _ (List.mem_of_getElem? (i := 2) rfl))))))) (fun _ h9 => h9) dX9_bear_44 (v := .int (gvI S17 1 x23 1)) rfl ?_
        refine lh_aload hx hb dX9_bear_47 (lv_at hl 0 rfl) ?_
        obtain ⟨x24, hx24, hf⟩ := dc_nn_ok hf
        obtain ⟨g25, hf⟩ := dc_gd_ok hf
        obtain ⟨S26, eS26, hf⟩ := dc_let_ok hf
        refine lh_ast_r (a := 12) (t0 := 4) (t := 1) hx hb hK hW hS hx24 (L22 _ hx24) rfl rfl (fun _ => rfl) rfl rfl L12 g25 dX9_bear_49 (fun H locs hW hS => ?_)
        rw [← eS26] at hW
        have m27 : ∀ b, gvN S17 b ≤ gvN S26 b := by rw [eS26]; exact lh_mR
        have L12 : ∀ j, r8 = some j → j < gvN S26 1 := fun j h => Nat.lt_of_lt_of_le (L12 j h) (m27 _)
        have L7 : ∀ j, r3 = some j → j < gvN S26 2 := fun j h => Nat.lt_of_lt_of_le (L7 j h) (m27 _)
        have L_t : ∀ j, some t = some j → j < gvN S26 9 := fun j h => Nat.lt_of_lt_of_le (L_t j h) (m27 _)
        have hm : ∀ b, gvN S b ≤ gvN S26 b := lh_le_trans hm m27
        have ok := lh_W_ok hW
        refine lv_iconst (v := 1) hx hb dX9_bear_50 (by decide) ?_
        obtain ⟨rfl, rfl⟩ := dc_ret hf
        exact W.iret (v := (1 : Int32)) hx hb hr (fun t9 ht9 hW9 => ⟨⟨rfl, ⟨hm, trivial⟩, by rw [ht9]; exact hW⟩, hS.F ht9⟩) hS.2.2 dX9_bear_51
      · replace hf := dc_if_f c21 hf
        refine lv_bipush (v := -4) hx hb dX9_bear_35 (by decide) ?_
        obtain ⟨rfl, rfl⟩ := dc_ret hf
        exact W.iret (v := (-4 : Int32)) hx hb hr (fun t9 ht9 hW9 => ⟨⟨rfl, ⟨hm, trivial⟩, by rw [ht9]; exact hW⟩, hS.F ht9⟩) hS.2.2 dX9_bear_37
    · replace hf := dc_if_t c14 hf
      refine lv_bipush (v := -2) hx hb dX9_bear_25 (by decide) ?_
      obtain ⟨rfl, rfl⟩ := dc_ret hf
      exact W.iret (v := (-2 : Int32)) hx hb hr (fun t9 ht9 hW9 => ⟨⟨rfl, ⟨hm, trivial⟩, by rw [ht9]; exact hW⟩, hS.F ht9⟩) hS.2.2 dX9_bear_27
def f_X9_known (n : Nat) (S : lh_S) (t : Nat) (p1 : Int32) (p2 : Int32) : Option (Int32 × lh_S) :=
  dc_nn (gvR S 9 t 2) fun x2 =>
  dc_bd (f_X3_at n S x2 p1) fun r3 S4 =>
  dc_if (r3 = none) (
  some ((-2 : Int32), S4)) (
  dc_bd (f_X9_isName n S4 p2) fun r9 S10 =>
  dc_if (r9 = 0) (
  some ((-3 : Int32), S10)) (
  dc_nn r3 fun x15 =>
  dc_nn (gvR S10 2 x15 4) fun x17 =>
  dc_gd (p2 < 0 ∨ gvL S10 13 x17 ≤ (p2).toNatClampNeg) (
  dc_bd (f_X9_numberOf n S10 (gvR S10 13 x17 (p2).toNatClampNeg)) fun r20 S21 =>
  some (r20, S21))))
set_option maxHeartbeats 1000000 in
theorem m_X9_known {n : Nat} {S : lh_S} {t : Nat} {p1 : Int32} {p2 : Int32} {r : Int32} {S' : lh_S} (hf : f_X9_known n S t p1 p2 = some (r, S')) : ∀ b, gvN S b ≤ gvN S' b := by
  have hm : ∀ b, gvN S b ≤ gvN S b := fun _ => Nat.le_refl _
  unfold f_X9_known at hf
  obtain ⟨x2, hx2, hf⟩ := dc_nn_ok hf
  obtain ⟨r3, S4, k5, hf⟩ := dc_bd_ok hf
  have hm := lh_le_trans hm (show ∀ b, gvN S b ≤ gvN S4 b from m_X3_at k5)
  by_cases c8 : r3 = none
  · replace hf := dc_if_t c8 hf
    obtain ⟨_, rfl⟩ := dc_ret hf
    exact hm
  · replace hf := dc_if_f c8 hf
    obtain ⟨r9, S10, k11, hf⟩ := dc_bd_ok hf
    have hm := lh_le_trans hm (show ∀ b, gvN S4 b ≤ gvN S10 b from m_X9_isName k11)
    by_cases c14 : r9 = 0
    · replace hf := dc_if_t c14 hf
      obtain ⟨_, rfl⟩ := dc_ret hf
      exact hm
    · replace hf := dc_if_f c14 hf
      obtain ⟨x15, hx15, hf⟩ := dc_nn_ok hf
      obtain ⟨x17, hx17, hf⟩ := dc_nn_ok hf
      obtain ⟨g18, hf⟩ := dc_gd_ok hf
      obtain ⟨r20, S21, k22, hf⟩ := dc_bd_ok hf
      have hm := lh_le_trans hm (show ∀ b, gvN S10 b ≤ gvN S21 b from m_X9_numberOf k22)
      obtain ⟨_, rfl⟩ := dc_ret hf
      exact hm
set_option maxHeartbeats 1000000 in
theorem k_X9_known {n : Nat} {S : lh_S} {t : Nat} {p1 : Int32} {p2 : Int32} {r : Int32} {S' : lh_S} (hf : f_X9_known n S t p1 p2 = some (r, S')) : lh_sm9 S S' := by
  have hm : lh_sm9 S S := lh_sm9_rf
  unfold f_X9_known at hf
  obtain ⟨x2, hx2, hf⟩ := dc_nn_ok hf
  obtain ⟨r3, S4, k5, hf⟩ := dc_bd_ok hf
  have hm := lh_sm9_trans hm (show lh_sm9 S S4 from k_X3_at k5)
  by_cases c8 : r3 = none
  · replace hf := dc_if_t c8 hf
    obtain ⟨_, rfl⟩ := dc_ret hf
    exact hm
  · replace hf := dc_if_f c8 hf
    obtain ⟨r9, S10, k11, hf⟩ := dc_bd_ok hf
    have hm := lh_sm9_trans hm (show lh_sm9 S4 S10 from k_X9_isName k11)
    by_cases c14 : r9 = 0
    · replace hf := dc_if_t c14 hf
      obtain ⟨_, rfl⟩ := dc_ret hf
      exact hm
    · replace hf := dc_if_f c14 hf
      obtain ⟨x15, hx15, hf⟩ := dc_nn_ok hf
      obtain ⟨x17, hx17, hf⟩ := dc_nn_ok hf
      obtain ⟨g18, hf⟩ := dc_gd_ok hf
      obtain ⟨r20, S21, k22, hf⟩ := dc_bd_ok hf
      have hm := lh_sm9_trans hm (show lh_sm9 S10 S21 from k_X9_numberOf k22)
      obtain ⟨_, rfl⟩ := dc_ret hf
      exact hm
set_option maxHeartbeats 4000000 in
set_option maxRecDepth 100000 in
theorem c_X9_known (l : Launch) (D : va_G) (cT : Nat → ClassId) (n : Nat) (S : lh_S) (ad : Nat → Nat → Nat) (A : Nat → Prop) (sz : Nat) (hA : ∀ q, sz ≤ q → A q) (t : Nat) (p1 : Int32) (p2 : Int32) (r : Int32) (S' : lh_S) (hf : f_X9_known n S t p1 p2 = some (r, S')) (L_t : ∀ j, some t = some j → j < gvN S 9) : Met l yX9_known wsX9_known ({ frames := 1, cells := 0, slots := 0, locals := 21 } : Room) (lh_P D cT S ad A sz [lh_r ad 9 (some t), .int p1, .int p2]) (lh_Q D cT S' ad A ((∀ b, gvN S b ≤ gvN S' b) ∧ True) (some (.int r))) 0 0 A := by
  refine Met.ofW (cc := cX9_known) (maxL := 4) (ret := (some .int)) (by decide) rfl ?_
  intro p e s m args below meth c s₁ B hml hv
  obtain ⟨hargs, hsz, hW, hK, hN⟩ := hv
  have hx := B.exec
  have hb := B.bytes
  have hr := B.returns
  have hts := atoms_spec (ws := wsX9_known) B.pre
  have hown : s.vm.findClass RX9 = some m.cls := findClass_of_methodNamed B.named
  have hlocks := B.notSynchronized
  have hA : ∀ q, s.heap.size ≤ q → A q := fun q h => hA q (by rw [← hsz]; exact h)
  have ok := lh_W_ok hW
  have hm : ∀ b, gvN S b ≤ gvN S b := fun _ => Nat.le_refl _
  obtain ⟨ls, hent, hl⟩ := lh_entry m args [lh_r ad 9 (some t), .int p1, .int p2] 4 [(0, lh_r ad 9 (some t)), (1, .int p1), (2, .int p2)] hargs (by simp [lv_args, lh_cat_r, lh_cat_i, lh_cat_j]) (by simp [lg_sl, lh_cat_r, lh_cat_i, lh_cat_j])
  rw [hent]
  generalize hH : s.heap = H at hW ⊢
  have hS : va_S A s.heap H [] := by rw [← hH]; exact va_S.rf
  unfold f_X9_known at hf
  refine lh_aload_n hx hb dX9_known_0 rfl (lv_at hl 0 rfl) ?_
  have L1 : ∀ j, gvR S 9 t 2 = some j → j < gvN S 3 := fun j h => ok _ _ _ _ j (L_t _ rfl) rfl h
  refine lh_get (a := 9) (k := 2) (N := 10) (C := RX9) (T := TX9) (own := RX9) (ref := "LoaderModels") hx hb hts (fun _ h => (List.mem_cons_of_mem _ (List.mem_append_left _ (List.mem_append_left _ (List.mem_append_left _ (List.mem_append_right _ h)))))) hown hK hW rfl (L_t _ rfl) rfl rfl rfl (by decide) (hts (.fieldLink RX9 20 "LoaderModels" "loaders" "LLoaderModels$Loaders;") (List.mem_cons_of_mem _ (List.mem_append_left _ (List.mem_append_left _ (List.mem_append_left _ (List.mem_append_left _ (List.mem_of_getElem? (i := 0) rfl))))))) (fun _ h9 => h9) dX9_known_1 (v := lh_r ad 3 (gvR S 9 t 2)) rfl ?_
  refine lv_iload_n hx hb dX9_known_4 rfl (lv_at hl 1 rfl) ?_
  obtain ⟨x2, hx2, hf⟩ := dc_nn_ok hf
  obtain ⟨r3, S4, k5, hf⟩ := dc_bd_ok hf
  refine lh_call (S' := S4) (lh_rv ⟨hx, hb, hml, hown, hts⟩ hx2 (As := [.int p1]) (rest := []) (k := 3) (c_X3_at l D cT n S ad A H.size (fun q9 h9 => hA q9 (Nat.le_trans hS.1 h9)) x2 p1 r3 S4 k5 (lh_ls (L1 _ hx2))) (cwV 1 hts gX9_known_X3_at rfl rfl rfl (by decide +kernel) ⟨Nat.le_of_ble_eq_true rfl, Nat.le_of_ble_eq_true rfl⟩) hK hN hW (L1 _ hx2) rfl rfl rfl hl.1 rfl (by simp [lh_cat_r, lh_cat_i, lh_cat_j]) dX9_known_5 ⟨Nat.le_of_ble_eq_true rfl, Nat.le_of_ble_eq_true rfl⟩) hS (fun H locs hX hW hS => ?_)
  refine W.widen (k := 0) (n := 0) (by omega) (by omega) ?_
  show W _ _ _ _ _ _ _ _ _ _ _ _ _ _ _ (F0 m 8 ls [lh_r ad 2 r3])
  have m6 : ∀ b, gvN S b ≤ gvN S4 b := hX.1
  have L_t : ∀ j, some t = some j → j < gvN S4 9 := fun j h => Nat.lt_of_lt_of_le (L_t j h) (m6 _)
  have hm : ∀ b, gvN S b ≤ gvN S4 b := lh_le_trans hm m6
  have ok := lh_W_ok hW
  have L7 := hX.2
  refine lh_astore_n (i := 3) (lv' := [(3, lh_r ad 2 r3), (0, lh_r ad 9 (some t)), (1, .int p1), (2, .int p2)]) hx hb dX9_known_8 rfl hl (by decide) (by first | rfl | simp [lh_cat_r, lh_cat_i, lh_cat_j]) (fun ls hl => ?_)
  refine lh_aload_n hx hb dX9_known_9 rfl (lv_at hl 0 rfl) ?_
  refine lh_ifnonnull (tgt := 16) hx hb dX9_known_10 (by decide) (fun c8 => ?_) (fun c8 => ?_)
  · replace hf := dc_if_f c8 hf
    refine lv_iload_n hx hb dX9_known_16 rfl (lv_at hl 3 rfl) ?_
    obtain ⟨r9, S10, k11, hf⟩ := dc_bd_ok hf
    refine lh_call (S' := S10) (lh_rs ⟨hx, hb, hml, hown, hts⟩ (As := [.int p2]) (rest := []) (c_X9_isName l D cT n S4 ad A H.size (fun q9 h9 => hA q9 (Nat.le_trans hS.1 h9)) p2 r9 S10 k11 ) (va_cwS 1 hts gX9_known_X9_isName rfl rfl rfl (by decide +kernel) ⟨Nat.le_of_ble_eq_true rfl, Nat.le_of_ble_eq_true rfl⟩) hK hN hW rfl hl.1 rfl (by simp [lh_cat_r, lh_cat_i, lh_cat_j]) dX9_known_17 ⟨Nat.le_of_ble_eq_true rfl, Nat.le_of_ble_eq_true rfl⟩) hS (fun H locs hX hW hS => ?_)
    refine W.widen (k := 0) (n := 0) (by omega) (by omega) ?_
    show W _ _ _ _ _ _ _ _ _ _ _ _ _ _ _ (F0 m 20 ls [.int r9])
    have m12 : ∀ b, gvN S4 b ≤ gvN S10 b := hX.1
    have L7 : ∀ j, r3 = some j → j < gvN S10 2 := fun j h => Nat.lt_of_lt_of_le (L7 j h) (m12 _)
    have L_t : ∀ j, some t = some j → j < gvN S10 9 := fun j h => Nat.lt_of_lt_of_le (L_t j h) (m12 _)
    have hm : ∀ b, gvN S b ≤ gvN S10 b := lh_le_trans hm m12
    have ok := lh_W_ok hW
    have z13 := hX.2
    refine lv_if_ne (tgt := 26) hx hb dX9_known_20 (by decide) (fun c14 => ?_) (fun c14 => ?_)
    · replace hf := dc_if_f c14 hf
      refine lh_aload_n hx hb dX9_known_26 rfl (lv_at hl 0 rfl) ?_
      obtain ⟨x15, hx15, hf⟩ := dc_nn_ok hf
      have L16 : ∀ j, gvR S10 2 x15 4 = some j → j < gvN S10 13 := fun j h => ok _ _ _ _ j (L7 _ hx15) rfl h
      refine lh_get (a := 2) (k := 4) (N := 7) (C := RX2) (T := TX2) (own := RX9) (ref := "LoaderModels$Loader") hx hb hts (fun _ h => (List.mem_cons_of_mem _ (List.mem_append_left _ (List.mem_append_left _ (List.mem_append_right _ h))))) hown hK hW hx15 (L7 _ hx15) rfl rfl rfl (by decide) (hts (.fieldLink RX9 114 "LoaderModels$Loader" "knows" "[LLoaderModels$Model;") (List.mem_cons_of_mem _ (List.mem_append_left _ (List.mem_append_left _ (List.mem_append_left _ (List.mem_append_left _ (List.mem_of_getElem? (i := 1) rfl))))))) (fun _ h9 => h9) dX9_known_27 (v := lh_r ad 13 (gvR S10 2 x15 4)) rfl ?_
      refine lv_iload_n hx hb dX9_known_30 rfl (lv_at hl 3 rfl) ?_
      obtain ⟨x17, hx17, hf⟩ := dc_nn_ok hf
      obtain ⟨g18, hf⟩ := dc_gd_ok hf
      have L19 : ∀ j, gvR S10 13 x17 (p2).toNatClampNeg = some j → j < gvN S10 5 := fun j h => ok 13 _ _ 5 j (L16 _ hx17) rfl h
      refine lh_ald_r (a := 13) (t0 := 6) (t := 5) hx hb hK hW hx17 (L16 _ hx17) rfl rfl rfl g18 dX9_known_31 ?_
      obtain ⟨r20, S21, k22, hf⟩ := dc_bd_ok hf
      refine lh_call (S' := S21) (lh_rs ⟨hx, hb, hml, hown, hts⟩ (As := [lh_r ad 5 (gvR S10 13 x17 (p2).toNatClampNeg)]) (rest := []) (c_X9_numberOf l D cT n S10 ad A H.size (fun q9 h9 => hA q9 (Nat.le_trans hS.1 h9)) (gvR S10 13 x17 (p2).toNatClampNeg) r20 S21 k22 L19) (va_cwS 1 hts gX9_known_X9_numberOf rfl rfl rfl (by decide +kernel) ⟨Nat.le_of_ble_eq_true rfl, Nat.le_of_ble_eq_true rfl⟩) hK hN hW rfl hl.1 rfl (by simp [lh_cat_r, lh_cat_i, lh_cat_j]) dX9_known_32 ⟨Nat.le_of_ble_eq_true rfl, Nat.le_of_ble_eq_true rfl⟩) hS (fun H locs hX hW hS => ?_)
      refine W.widen (k := 0) (n := 0) (by omega) (by omega) ?_
      show W _ _ _ _ _ _ _ _ _ _ _ _ _ _ _ (F0 m 35 ls [.int r20])
      have m23 : ∀ b, gvN S10 b ≤ gvN S21 b := hX.1
      have L7 : ∀ j, r3 = some j → j < gvN S21 2 := fun j h => Nat.lt_of_lt_of_le (L7 j h) (m23 _)
      have L_t : ∀ j, some t = some j → j < gvN S21 9 := fun j h => Nat.lt_of_lt_of_le (L_t j h) (m23 _)
      have hm : ∀ b, gvN S b ≤ gvN S21 b := lh_le_trans hm m23
      have ok := lh_W_ok hW
      obtain ⟨rfl, rfl⟩ := dc_ret hf
      exact W.iret (v := r20) hx hb hr (fun t9 ht9 hW9 => ⟨⟨rfl, ⟨hm, trivial⟩, by rw [ht9]; exact hW⟩, hS.F ht9⟩) hS.2.2 dX9_known_35
    · replace hf := dc_if_t c14 hf
      refine lv_bipush (v := -3) hx hb dX9_known_23 (by decide) ?_
      obtain ⟨rfl, rfl⟩ := dc_ret hf
      exact W.iret (v := (-3 : Int32)) hx hb hr (fun t9 ht9 hW9 => ⟨⟨rfl, ⟨hm, trivial⟩, by rw [ht9]; exact hW⟩, hS.F ht9⟩) hS.2.2 dX9_known_25
  · replace hf := dc_if_t c8 hf
    refine lv_bipush (v := -2) hx hb dX9_known_13 (by decide) ?_
    obtain ⟨rfl, rfl⟩ := dc_ret hf
    exact W.iret (v := (-2 : Int32)) hx hb hr (fun t9 ht9 hW9 => ⟨⟨rfl, ⟨hm, trivial⟩, by rw [ht9]; exact hW⟩, hS.F ht9⟩) hS.2.2 dX9_known_15
def f_X9_agree (n : Nat) (S : lh_S) (t : Nat) (p1 : Int32) (p2 : Int32) (p3 : Int32) : Option (Int32 × lh_S) :=
  dc_nn (gvR S 9 t 3) fun x2 =>
  dc_bd (f_X4_classAt n S x2 p1) fun r3 S4 =>
  dc_nn (gvR S4 9 t 3) fun x9 =>
  dc_bd (f_X4_classAt n S4 x9 p2) fun r10 S11 =>
  dc_if (r3 = none) (
  some ((-2 : Int32), S11)) (
  dc_if (r10 = none) (
  some ((-2 : Int32), S11)) (
  dc_bd (f_X9_isName n S11 p3) fun r17 S18 =>
  dc_if (r17 = 0) (
  some ((-3 : Int32), S18)) (
  dc_nn r3 fun x24 =>
  dc_nn r10 fun x26 =>
  dc_nn (gvR S18 9 t 2) fun x28 =>
  dc_bd (f_X3_bind n S18 x28 (gvR S18 5 x24 1) (gvR S18 5 x26 1) p3) fun r29 S30 =>
  dc_if (r29 = 0) (
  dc_bd (f_X9_failed n S30 (3 : Int32)) fun r35 S36 =>
  dc_bd (f_X9_answered n S36 t r35) fun r39 S40 =>
  some (r39, S40)) (
  some ((1 : Int32), S30)))))
set_option maxHeartbeats 1000000 in
theorem m_X9_agree {n : Nat} {S : lh_S} {t : Nat} {p1 : Int32} {p2 : Int32} {p3 : Int32} {r : Int32} {S' : lh_S} (hf : f_X9_agree n S t p1 p2 p3 = some (r, S')) : ∀ b, gvN S b ≤ gvN S' b := by
  have hm : ∀ b, gvN S b ≤ gvN S b := fun _ => Nat.le_refl _
  unfold f_X9_agree at hf
  obtain ⟨x2, hx2, hf⟩ := dc_nn_ok hf
  obtain ⟨r3, S4, k5, hf⟩ := dc_bd_ok hf
  have hm := lh_le_trans hm (show ∀ b, gvN S b ≤ gvN S4 b from m_X4_classAt k5)
  obtain ⟨x9, hx9, hf⟩ := dc_nn_ok hf
  obtain ⟨r10, S11, k12, hf⟩ := dc_bd_ok hf
  have hm := lh_le_trans hm (show ∀ b, gvN S4 b ≤ gvN S11 b from m_X4_classAt k12)
  by_cases c15 : r3 = none
  · replace hf := dc_if_t c15 hf
    obtain ⟨_, rfl⟩ := dc_ret hf
    exact hm
  · replace hf := dc_if_f c15 hf
    by_cases c16 : r10 = none
    · replace hf := dc_if_t c16 hf
      obtain ⟨_, rfl⟩ := dc_ret hf
      exact hm
    · replace hf := dc_if_f c16 hf
      obtain ⟨r17, S18, k19, hf⟩ := dc_bd_ok hf
      have hm := lh_le_trans hm (show ∀ b, gvN S11 b ≤ gvN S18 b from m_X9_isName k19)
      by_cases c22 : r17 = 0
      · replace hf := dc_if_t c22 hf
        obtain ⟨_, rfl⟩ := dc_ret hf
        exact hm
      · replace hf := dc_if_f c22 hf
        obtain ⟨x24, hx24, hf⟩ := dc_nn_ok hf
        obtain ⟨x26, hx26, hf⟩ := dc_nn_ok hf
        obtain ⟨x28, hx28, hf⟩ := dc_nn_ok hf
        obtain ⟨r29, S30, k31, hf⟩ := dc_bd_ok hf
        have hm := lh_le_trans hm (show ∀ b, gvN S18 b ≤ gvN S30 b from m_X3_bind k31)
        by_cases c34 : r29 = 0
        · replace hf := dc_if_t c34 hf
          obtain ⟨r35, S36, k37, hf⟩ := dc_bd_ok hf
          have hm := lh_le_trans hm (show ∀ b, gvN S30 b ≤ gvN S36 b from m_X9_failed k37)
          obtain ⟨r39, S40, k41, hf⟩ := dc_bd_ok hf
          have hm := lh_le_trans hm (show ∀ b, gvN S36 b ≤ gvN S40 b from m_X9_answered k41)
          obtain ⟨_, rfl⟩ := dc_ret hf
          exact hm
        · replace hf := dc_if_f c34 hf
          obtain ⟨_, rfl⟩ := dc_ret hf
          exact hm
set_option maxHeartbeats 1000000 in
theorem k_X9_agree {n : Nat} {S : lh_S} {t : Nat} {p1 : Int32} {p2 : Int32} {p3 : Int32} {r : Int32} {S' : lh_S} (hf : f_X9_agree n S t p1 p2 p3 = some (r, S')) : lh_sm9 S S' := by
  have hm : lh_sm9 S S := lh_sm9_rf
  unfold f_X9_agree at hf
  obtain ⟨x2, hx2, hf⟩ := dc_nn_ok hf
  obtain ⟨r3, S4, k5, hf⟩ := dc_bd_ok hf
  have hm := lh_sm9_trans hm (show lh_sm9 S S4 from k_X4_classAt k5)
  obtain ⟨x9, hx9, hf⟩ := dc_nn_ok hf
  obtain ⟨r10, S11, k12, hf⟩ := dc_bd_ok hf
  have hm := lh_sm9_trans hm (show lh_sm9 S4 S11 from k_X4_classAt k12)
  by_cases c15 : r3 = none
  · replace hf := dc_if_t c15 hf
    obtain ⟨_, rfl⟩ := dc_ret hf
    exact hm
  · replace hf := dc_if_f c15 hf
    by_cases c16 : r10 = none
    · replace hf := dc_if_t c16 hf
      obtain ⟨_, rfl⟩ := dc_ret hf
      exact hm
    · replace hf := dc_if_f c16 hf
      obtain ⟨r17, S18, k19, hf⟩ := dc_bd_ok hf
      have hm := lh_sm9_trans hm (show lh_sm9 S11 S18 from k_X9_isName k19)
      by_cases c22 : r17 = 0
      · replace hf := dc_if_t c22 hf
        obtain ⟨_, rfl⟩ := dc_ret hf
        exact hm
      · replace hf := dc_if_f c22 hf
        obtain ⟨x24, hx24, hf⟩ := dc_nn_ok hf
        obtain ⟨x26, hx26, hf⟩ := dc_nn_ok hf
        obtain ⟨x28, hx28, hf⟩ := dc_nn_ok hf
        obtain ⟨r29, S30, k31, hf⟩ := dc_bd_ok hf
        have hm := lh_sm9_trans hm (show lh_sm9 S18 S30 from k_X3_bind k31)
        by_cases c34 : r29 = 0
        · replace hf := dc_if_t c34 hf
          obtain ⟨r35, S36, k37, hf⟩ := dc_bd_ok hf
          have hm := lh_sm9_trans hm (show lh_sm9 S30 S36 from k_X9_failed k37)
          obtain ⟨r39, S40, k41, hf⟩ := dc_bd_ok hf
          have hm := lh_sm9_trans hm (show lh_sm9 S36 S40 from k_X9_answered k41)
          obtain ⟨_, rfl⟩ := dc_ret hf
          exact hm
        · replace hf := dc_if_f c34 hf
          obtain ⟨_, rfl⟩ := dc_ret hf
          exact hm
set_option maxHeartbeats 4000000 in
set_option maxRecDepth 100000 in
theorem c_X9_agree (l : Launch) (D : va_G) (cT : Nat → ClassId) (n : Nat) (S : lh_S) (ad : Nat → Nat → Nat) (A : Nat → Prop) (sz : Nat) (hA : ∀ q, sz ≤ q → A q) (t : Nat) (p1 : Int32) (p2 : Int32) (p3 : Int32) (r : Int32) (S' : lh_S) (hf : f_X9_agree n S t p1 p2 p3 = some (r, S')) (L_t : ∀ j, some t = some j → j < gvN S 9) : Met l yX9_agree wsX9_agree ({ frames := 2, cells := 0, slots := 0, locals := 50 } : Room) (lh_P D cT S ad A sz [lh_r ad 9 (some t), .int p1, .int p2, .int p3]) (lh_Q D cT S' ad A ((∀ b, gvN S b ≤ gvN S' b) ∧ True) (some (.int r))) 0 0 A := by
  refine Met.ofW (cc := cX9_agree) (maxL := 7) (ret := (some .int)) (by decide) rfl ?_
  intro p e s m args below meth c s₁ B hml hv
  obtain ⟨hargs, hsz, hW, hK, hN⟩ := hv
  have hx := B.exec
  have hb := B.bytes
  have hr := B.returns
  have hts := atoms_spec (ws := wsX9_agree) B.pre
  have hown : s.vm.findClass RX9 = some m.cls := findClass_of_methodNamed B.named
  have hlocks := B.notSynchronized
  have hA : ∀ q, s.heap.size ≤ q → A q := fun q h => hA q (by rw [← hsz]; exact h)
  have ok := lh_W_ok hW
  have hm : ∀ b, gvN S b ≤ gvN S b := fun _ => Nat.le_refl _
  obtain ⟨ls, hent, hl⟩ := lh_entry m args [lh_r ad 9 (some t), .int p1, .int p2, .int p3] 7 [(0, lh_r ad 9 (some t)), (1, .int p1), (2, .int p2), (3, .int p3)] hargs (by simp [lv_args, lh_cat_r, lh_cat_i, lh_cat_j]) (by simp [lg_sl, lh_cat_r, lh_cat_i, lh_cat_j])
  rw [hent]
  generalize hH : s.heap = H at hW ⊢
  have hS : va_S A s.heap H [] := by rw [← hH]; exact va_S.rf
  unfold f_X9_agree at hf
  refine lh_aload_n hx hb dX9_agree_0 rfl (lv_at hl 0 rfl) ?_
  have L1 : ∀ j, gvR S 9 t 3 = some j → j < gvN S 4 := fun j h => ok _ _ _ _ j (L_t _ rfl) rfl h
  refine lh_get (a := 9) (k := 3) (N := 10) (C := RX9) (T := TX9) (own := RX9) (ref := "LoaderModels") hx hb hts (fun _ h => (List.mem_cons_of_mem _ (List.mem_append_left _ (List.mem_append_left _ (List.mem_append_left _ (List.mem_append_left _ (List.mem_append_right _ h))))))) hown hK hW rfl (L_t _ rfl) rfl rfl rfl (by decide) (hts (.fieldLink RX9 29 "LoaderModels" "loading" "LLoaderModels$Loading;") (List.mem_cons_of_mem _ (List.mem_append_left _ (List.mem_append_left _ (List.mem_append_left _ (List.mem_append_left _ (List.mem_append_left _ (List.mem_append_left _ (List.mem_of_getElem? (i := 0) rfl))))))))) (fun _ h9 => h9) dX9_agree_1 (v := lh_r ad 4 (gvR S 9 t 3)) rfl ?_
  refine lv_iload_n hx hb dX9_agree_4 rfl (lv_at hl 1 rfl) ?_
  obtain ⟨x2, hx2, hf⟩ := dc_nn_ok hf
  obtain ⟨r3, S4, k5, hf⟩ := dc_bd_ok hf
  refine lh_call (S' := S4) (lh_rv ⟨hx, hb, hml, hown, hts⟩ hx2 (As := [.int p1]) (rest := []) (k := 4) (c_X4_classAt l D cT n S ad A H.size (fun q9 h9 => hA q9 (Nat.le_trans hS.1 h9)) x2 p1 r3 S4 k5 (lh_ls (L1 _ hx2))) (cwV 1 hts gX9_agree_X4_classAt rfl rfl rfl (by decide +kernel) ⟨Nat.le_of_ble_eq_true rfl, Nat.le_of_ble_eq_true rfl⟩) hK hN hW (L1 _ hx2) rfl rfl rfl hl.1 rfl (by simp [lh_cat_r, lh_cat_i, lh_cat_j]) dX9_agree_5 ⟨Nat.le_of_ble_eq_true rfl, Nat.le_of_ble_eq_true rfl⟩) hS (fun H locs hX hW hS => ?_)
  refine W.widen (k := 0) (n := 0) (by omega) (by omega) ?_
  show W _ _ _ _ _ _ _ _ _ _ _ _ _ _ _ (F0 m 8 ls [lh_r ad 5 r3])
  have m6 : ∀ b, gvN S b ≤ gvN S4 b := hX.1
  have L_t : ∀ j, some t = some j → j < gvN S4 9 := fun j h => Nat.lt_of_lt_of_le (L_t j h) (m6 _)
  have hm : ∀ b, gvN S b ≤ gvN S4 b := lh_le_trans hm m6
  have ok := lh_W_ok hW
  have L7 := hX.2
  refine lh_astore (i := 4) (lv' := [(4, lh_r ad 5 r3), (0, lh_r ad 9 (some t)), (1, .int p1), (2, .int p2), (3, .int p3)]) hx hb dX9_agree_8 hl (by decide) (by first | rfl | simp [lh_cat_r, lh_cat_i, lh_cat_j]) (fun ls hl => ?_)
  refine lh_aload_n hx hb dX9_agree_10 rfl (lv_at hl 1 rfl) ?_
  have L8 : ∀ j, gvR S4 9 t 3 = some j → j < gvN S4 4 := fun j h => ok _ _ _ _ j (L_t _ rfl) rfl h
  refine lh_get (a := 9) (k := 3) (N := 10) (C := RX9) (T := TX9) (own := RX9) (ref := "LoaderModels") hx hb hts (fun _ h => (List.mem_cons_of_mem _ (List.mem_append_left _ (List.mem_append_left _ (List.mem_append_left _ (List.mem_append_left _ (List.mem_append_right _ h))))))) hown hK hW rfl (L_t _ rfl) rfl rfl rfl (by decide) (hts (.fieldLink RX9 29 "LoaderModels" "loading" "LLoaderModels$Loading;") (List.mem_cons_of_mem _ (List.mem_append_left _ (List.mem_append_left _ (List.mem_append_left _ (List.mem_append_left _ (List.mem_append_left _ (List.mem_append_left _ (List.mem_of_getElem? (i := 0) rfl))))))))) (fun _ h9 => h9) dX9_agree_11 (v := lh_r ad 4 (gvR S4 9 t 3)) rfl ?_
  refine lv_iload_n hx hb dX9_agree_14 rfl (lv_at hl 3 rfl) ?_
  obtain ⟨x9, hx9, hf⟩ := dc_nn_ok hf
  obtain ⟨r10, S11, k12, hf⟩ := dc_bd_ok hf
  refine lh_call (S' := S11) (lh_rv ⟨hx, hb, hml, hown, hts⟩ hx9 (As := [.int p2]) (rest := []) (k := 4) (c_X4_classAt l D cT n S4 ad A H.size (fun q9 h9 => hA q9 (Nat.le_trans hS.1 h9)) x9 p2 r10 S11 k12 (lh_ls (L8 _ hx9))) (cwV 1 hts gX9_agree_X4_classAt rfl rfl rfl (by decide +kernel) ⟨Nat.le_of_ble_eq_true rfl, Nat.le_of_ble_eq_true rfl⟩) hK hN hW (L8 _ hx9) rfl rfl rfl hl.1 rfl (by simp [lh_cat_r, lh_cat_i, lh_cat_j]) dX9_agree_15 ⟨Nat.le_of_ble_eq_true rfl, Nat.le_of_ble_eq_true rfl⟩) hS (fun H locs hX hW hS => ?_)
  refine W.widen (k := 0) (n := 0) (by omega) (by omega) ?_
  show W _ _ _ _ _ _ _ _ _ _ _ _ _ _ _ (F0 m 18 ls [lh_r ad 5 r10])
  have m13 : ∀ b, gvN S4 b ≤ gvN S11 b := hX.1
  have L7 : ∀ j, r3 = some j → j < gvN S11 5 := fun j h => Nat.lt_of_lt_of_le (L7 j h) (m13 _)
  have L_t : ∀ j, some t = some j → j < gvN S11 9 := fun j h => Nat.lt_of_lt_of_le (L_t j h) (m13 _)
  have hm : ∀ b, gvN S b ≤ gvN S11 b := lh_le_trans hm m13
  have ok := lh_W_ok hW
  have L14 := hX.2
  refine lh_astore (i := 5) (lv' := [(5, lh_r ad 5 r10), (4, lh_r ad 5 r3), (0, lh_r ad 9 (some t)), (1, .int p1), (2, .int p2), (3, .int p3)]) hx hb dX9_agree_18 hl (by decide) (by first | rfl | simp [lh_cat_r, lh_cat_i, lh_cat_j]) (fun ls hl => ?_)
  refine lh_aload hx hb dX9_agree_20 (lv_at hl 1 rfl) ?_
  refine lh_ifnull (tgt := 30) hx hb dX9_agree_22 (by decide) (fun c15 => ?_) (fun c15 => ?_)
  · replace hf := dc_if_t c15 hf
    refine lv_bipush (v := -2) hx hb dX9_agree_30 (by decide) ?_
    obtain ⟨rfl, rfl⟩ := dc_ret hf
    exact W.iret (v := (-2 : Int32)) hx hb hr (fun t9 ht9 hW9 => ⟨⟨rfl, ⟨hm, trivial⟩, by rw [ht9]; exact hW⟩, hS.F ht9⟩) hS.2.2 dX9_agree_32
  · replace hf := dc_if_f c15 hf
    refine lh_aload hx hb dX9_agree_25 (lv_at hl 0 rfl) ?_
    refine lh_ifnonnull (tgt := 33) hx hb dX9_agree_27 (by decide) (fun c16 => ?_) (fun c16 => ?_)
    · replace hf := dc_if_f c16 hf
      refine lv_iload_n hx hb dX9_agree_33 rfl (lv_at hl 5 rfl) ?_
      obtain ⟨r17, S18, k19, hf⟩ := dc_bd_ok hf
      refine lh_call (S' := S18) (lh_rs ⟨hx, hb, hml, hown, hts⟩ (As := [.int p3]) (rest := []) (c_X9_isName l D cT n S11 ad A H.size (fun q9 h9 => hA q9 (Nat.le_trans hS.1 h9)) p3 r17 S18 k19 ) (va_cwS 1 hts gX9_agree_X9_isName rfl rfl rfl (by decide +kernel) ⟨Nat.le_of_ble_eq_true rfl, Nat.le_of_ble_eq_true rfl⟩) hK hN hW rfl hl.1 rfl (by simp [lh_cat_r, lh_cat_i, lh_cat_j]) dX9_agree_34 ⟨Nat.le_of_ble_eq_true rfl, Nat.le_of_ble_eq_true rfl⟩) hS (fun H locs hX hW hS => ?_)
      refine W.widen (k := 0) (n := 0) (by omega) (by omega) ?_
      show W _ _ _ _ _ _ _ _ _ _ _ _ _ _ _ (F0 m 37 ls [.int r17])
      have m20 : ∀ b, gvN S11 b ≤ gvN S18 b := hX.1
      have L14 : ∀ j, r10 = some j → j < gvN S18 5 := fun j h => Nat.lt_of_lt_of_le (L14 j h) (m20 _)
      have L7 : ∀ j, r3 = some j → j < gvN S18 5 := fun j h => Nat.lt_of_lt_of_le (L7 j h) (m20 _)
      have L_t : ∀ j, some t = some j → j < gvN S18 9 := fun j h => Nat.lt_of_lt_of_le (L_t j h) (m20 _)
      have hm : ∀ b, gvN S b ≤ gvN S18 b := lh_le_trans hm m20
      have ok := lh_W_ok hW
      have z21 := hX.2
      refine lv_if_ne (tgt := 43) hx hb dX9_agree_37 (by decide) (fun c22 => ?_) (fun c22 => ?_)
      · replace hf := dc_if_f c22 hf
        refine lh_aload_n hx hb dX9_agree_43 rfl (lv_at hl 2 rfl) ?_
        have L23 : ∀ j, gvR S18 9 t 2 = some j → j < gvN S18 3 := fun j h => ok _ _ _ _ j (L_t _ rfl) rfl h
        refine lh_get (a := 9) (k := 2) (N := 10) (C := RX9) (T := TX9) (own := RX9) (ref := "LoaderModels") hx hb hts (fun _ h => (List.mem_cons_of_mem _ (List.mem_append_left _ (List.mem_append_left _ (List.mem_append_left _ (List.mem_append_left _ (List.mem_append_right _ h))))))) hown hK hW rfl (L_t _ rfl) rfl rfl rfl (by decide) (hts (.fieldLink RX9 20 "LoaderModels" "loaders" "LLoaderModels$Loaders;") (List.mem_cons_of_mem _ (List.mem_append_left _ (List.mem_append_left _ (List.mem_append_left _ (List.mem_append_left _ (List.mem_append_left _ (List.mem_append_left _ (List.mem_of_getElem? (i := 1) rfl))))))))) (fun _ h9 => h9) dX9_agree_44 (v := lh_r ad 3 (gvR S18 9 t 2)) rfl ?_
        refine lh_aload hx hb dX9_agree_47 (lv_at hl 1 rfl) ?_
        obtain ⟨x24, hx24, hf⟩ := dc_nn_ok hf
        have L25 : ∀ j, gvR S18 5 x24 1 = some j → j < gvN S18 2 := fun j h => ok _ _ _ _ j (L7 _ hx24) rfl h
        refine lh_get (a := 5) (k := 1) (N := 6) (C := RX5) (T := TX5) (own := RX9) (ref := "LoaderModels$Model") hx hb hts (fun _ h => (List.mem_cons_of_mem _ (List.mem_append_left _ (List.mem_append_left _ (List.mem_append_left _ (List.mem_append_right _ h)))))) hown hK hW hx24 (L7 _ hx24) rfl rfl rfl (by decide) (hts (.fieldLink RX9 125 "LoaderModels$Model" "definer" "LLoaderModels$Loader;") (List.mem_cons_of_mem _ (List.mem_append_left _ (List.mem_append_left _ (List.mem_append_left _ (List.mem_append_left _ (List.mem_append_left _ (List.mem_append_left _ (List.mem_of_getElem? (i := 2) rfl))))))))) (fun _ h9 => h9) dX9_agree_49 (v := lh_r ad 2 (gvR S18 5 x24 1)) rfl ?_
        refine lh_aload hx hb dX9_agree_52 (lv_at hl 0 rfl) ?_
        obtain ⟨x26, hx26, hf⟩ := dc_nn_ok hf
        have L27 : ∀ j, gvR S18 5 x26 1 = some j → j < gvN S18 2 := fun j h => ok _ _ _ _ j (L14 _ hx26) rfl h
        refine lh_get (a := 5) (k := 1) (N := 6) (C := RX5) (T := TX5) (own := RX9) (ref := "LoaderModels$Model") hx hb hts (fun _ h => (List.mem_cons_of_mem _ (List.mem_append_left _ (List.mem_append_left _ (List.mem_append_left _ (List.mem_append_right _ h)))))) hown hK hW hx26 (L14 _ hx26) rfl rfl rfl (by decide) (hts (.fieldLink RX9 125 "LoaderModels$Model" "definer" "LLoaderModels$Loader;") (List.mem_cons_of_mem _ (List.mem_append_left _ (List.mem_append_left _ (List.mem_append_left _ (List.mem_append_left _ (List.mem_append_left _ (List.mem_append_left _ (List.mem_of_getElem? (i := 2) rfl))))))))) (fun _ h9 => h9) dX9_agree_54 (v := lh_r ad 2 (gvR S18 5 x26 1)) rfl ?_
        refine lv_iload_n hx hb dX9_agree_57 rfl (lv_at hl 5 rfl) ?_
        obtain ⟨x28, hx28, hf⟩ := dc_nn_ok hf
        obtain ⟨r29, S30, k31, hf⟩ := dc_bd_ok hf
        refine lh_call (S' := S30) (lh_rv ⟨hx, hb, hml, hown, hts⟩ hx28 (As := [lh_r ad 2 (gvR S18 5 x24 1), lh_r ad 2 (gvR S18 5 x26 1), .int p3]) (rest := []) (k := 3) (c_X3_bind l D cT n S18 ad A H.size (fun q9 h9 => hA q9 (Nat.le_trans hS.1 h9)) x28 (gvR S18 5 x24 1) (gvR S18 5 x26 1) p3 r29 S30 k31 (lh_ls (L23 _ hx28)) L25 L27) (cwV 3 hts gX9_agree_X3_bind rfl rfl rfl (by decide +kernel) ⟨Nat.le_of_ble_eq_true rfl, Nat.le_of_ble_eq_true rfl⟩) hK hN hW (L23 _ hx28) rfl rfl rfl hl.1 rfl (by simp [lh_cat_r, lh_cat_i, lh_cat_j]) dX9_agree_58 ⟨Nat.le_of_ble_eq_true rfl, Nat.le_of_ble_eq_true rfl⟩) hS (fun H locs hX hW hS => ?_)
        refine W.widen (k := 0) (n := 0) (by omega) (by omega) ?_
        show W _ _ _ _ _ _ _ _ _ _ _ _ _ _ _ (F0 m 61 ls [.int r29])
        have m32 : ∀ b, gvN S18 b ≤ gvN S30 b := hX.1
        have L14 : ∀ j, r10 = some j → j < gvN S30 5 := fun j h => Nat.lt_of_lt_of_le (L14 j h) (m32 _)
        have L7 : ∀ j, r3 = some j → j < gvN S30 5 := fun j h => Nat.lt_of_lt_of_le (L7 j h) (m32 _)
        have L_t : ∀ j, some t = some j → j < gvN S30 9 := fun j h => Nat.lt_of_lt_of_le (L_t j h) (m32 _)
        have hm : ∀ b, gvN S b ≤ gvN S30 b := lh_le_trans hm m32
        have ok := lh_W_ok hW
        have z33 := hX.2
        refine lv_istore (i := 6) (lv' := [(6, .int r29), (5, lh_r ad 5 r10), (4, lh_r ad 5 r3), (0, lh_r ad 9 (some t)), (1, .int p1), (2, .int p2), (3, .int p3)]) hx hb dX9_agree_61 hl (by decide) (by first | rfl | simp [lh_cat_r, lh_cat_i, lh_cat_j]) (fun ls hl => ?_)
        refine lv_iload hx hb dX9_agree_63 (lv_at hl 0 rfl) ?_
        refine lv_if_eq (tgt := 72) hx hb dX9_agree_65 (by decide) (fun c34 => ?_) (fun c34 => ?_)
        · replace hf := dc_if_t c34 hf
          refine lh_aload_n hx hb dX9_agree_72 rfl (lv_at hl 3 rfl) ?_
          refine lv_iconst (v := 3) hx hb dX9_agree_73 (by decide) ?_
          obtain ⟨r35, S36, k37, hf⟩ := dc_bd_ok hf
          refine lh_call (S' := S36) (lh_rs ⟨hx, hb, hml, hown, hts⟩ (As := [.int (3 : Int32)]) (rest := [lh_r ad 9 (some t)]) (c_X9_failed l D cT n S30 ad A H.size (fun q9 h9 => hA q9 (Nat.le_trans hS.1 h9)) (3 : Int32) r35 S36 k37 ) (va_cwS 1 hts gX9_agree_X9_failed rfl rfl rfl (by decide +kernel) ⟨Nat.le_of_ble_eq_true rfl, Nat.le_of_ble_eq_true rfl⟩) hK hN hW rfl hl.1 rfl (by simp [lh_cat_r, lh_cat_i, lh_cat_j]) dX9_agree_74 ⟨Nat.le_of_ble_eq_true rfl, Nat.le_of_ble_eq_true rfl⟩) hS (fun H locs hX hW hS => ?_)
          refine W.widen (k := 0) (n := 0) (by omega) (by omega) ?_
          show W _ _ _ _ _ _ _ _ _ _ _ _ _ _ _ (F0 m 77 ls [.int r35, lh_r ad 9 (some t)])
          have m38 : ∀ b, gvN S30 b ≤ gvN S36 b := hX.1
          have L14 : ∀ j, r10 = some j → j < gvN S36 5 := fun j h => Nat.lt_of_lt_of_le (L14 j h) (m38 _)
          have L7 : ∀ j, r3 = some j → j < gvN S36 5 := fun j h => Nat.lt_of_lt_of_le (L7 j h) (m38 _)
          have L_t : ∀ j, some t = some j → j < gvN S36 9 := fun j h => Nat.lt_of_lt_of_le (L_t j h) (m38 _)
          have hm : ∀ b, gvN S b ≤ gvN S36 b := lh_le_trans hm m38
          have ok := lh_W_ok hW
          obtain ⟨r39, S40, k41, hf⟩ := dc_bd_ok hf
          refine lh_call (S' := S40) (lh_rv ⟨hx, hb, hml, hown, hts⟩ rfl (As := [.int r35]) (rest := []) (k := 9) (c_X9_answered l D cT n S36 ad A H.size (fun q9 h9 => hA q9 (Nat.le_trans hS.1 h9)) t r35 r39 S40 k41 L_t) (cwV 1 hts gX9_agree_X9_answered rfl rfl rfl (by decide +kernel) ⟨Nat.le_of_ble_eq_true rfl, Nat.le_of_ble_eq_true rfl⟩) hK hN hW (L_t _ rfl) rfl rfl rfl hl.1 rfl (by simp [lh_cat_r, lh_cat_i, lh_cat_j]) dX9_agree_77 ⟨Nat.le_of_ble_eq_true rfl, Nat.le_of_ble_eq_true rfl⟩) hS (fun H locs hX hW hS => ?_)
          refine W.widen (k := 0) (n := 0) (by omega) (by omega) ?_
          show W _ _ _ _ _ _ _ _ _ _ _ _ _ _ _ (F0 m 80 ls [.int r39])
          have m42 : ∀ b, gvN S36 b ≤ gvN S40 b := hX.1
          have L14 : ∀ j, r10 = some j → j < gvN S40 5 := fun j h => Nat.lt_of_lt_of_le (L14 j h) (m42 _)
          have L7 : ∀ j, r3 = some j → j < gvN S40 5 := fun j h => Nat.lt_of_lt_of_le (L7 j h) (m42 _)
          have L_t : ∀ j, some t = some j → j < gvN S40 9 := fun j h => Nat.lt_of_lt_of_le (L_t j h) (m42 _)
          have hm : ∀ b, gvN S b ≤ gvN S40 b := lh_le_trans hm m42
          have ok := lh_W_ok hW
          obtain ⟨rfl, rfl⟩ := dc_ret hf
          exact W.iret (v := r39) hx hb hr (fun t9 ht9 hW9 => ⟨⟨rfl, ⟨hm, trivial⟩, by rw [ht9]; exact hW⟩, hS.F ht9⟩) hS.2.2 dX9_agree_80
        · replace hf := dc_if_f c34 hf
          refine lv_iconst (v := 1) hx hb dX9_agree_68 (by decide) ?_
          refine lv_goto (tgt := 80) hx hb dX9_agree_69 (by decide) ?_
          obtain ⟨rfl, rfl⟩ := dc_ret hf
          exact W.iret (v := (1 : Int32)) hx hb hr (fun t9 ht9 hW9 => ⟨⟨rfl, ⟨hm, trivial⟩, by rw [ht9]; exact hW⟩, hS.F ht9⟩) hS.2.2 dX9_agree_80
      · replace hf := dc_if_t c22 hf
        refine lv_bipush (v := -3) hx hb dX9_agree_40 (by decide) ?_
        obtain ⟨rfl, rfl⟩ := dc_ret hf
        exact W.iret (v := (-3 : Int32)) hx hb hr (fun t9 ht9 hW9 => ⟨⟨rfl, ⟨hm, trivial⟩, by rw [ht9]; exact hW⟩, hS.F ht9⟩) hS.2.2 dX9_agree_42
    · replace hf := dc_if_t c16 hf
      refine lv_bipush (v := -2) hx hb dX9_agree_30 (by decide) ?_
      obtain ⟨rfl, rfl⟩ := dc_ret hf
      exact W.iret (v := (-2 : Int32)) hx hb hr (fun t9 ht9 hW9 => ⟨⟨rfl, ⟨hm, trivial⟩, by rw [ht9]; exact hW⟩, hS.F ht9⟩) hS.2.2 dX9_agree_32
def f_X9_apart (n : Nat) (S : lh_S) (t : Nat) (p1 : Int32) (p2 : Int32) : Option (Int32 × lh_S) :=
  dc_nn (gvR S 9 t 3) fun x2 =>
  dc_bd (f_X4_classAt n S x2 p1) fun r3 S4 =>
  dc_nn (gvR S4 9 t 3) fun x9 =>
  dc_bd (f_X4_classAt n S4 x9 p2) fun r10 S11 =>
  dc_if (r3 = none) (
  some ((-2 : Int32), S11)) (
  dc_if (r10 = none) (
  some ((-2 : Int32), S11)) (
  dc_if (r3 = r10) (
  some ((0 : Int32), S11)) (
  dc_nn r3 fun x18 =>
  dc_nn (gvR S11 5 x18 2) fun x20 =>
  dc_nn r10 fun x21 =>
  dc_nn (gvR S11 5 x21 2) fun x23 =>
  dc_if ((gvI S11 1 x20 1) = (gvI S11 1 x23 1)) (
  some ((1 : Int32), S11)) (
  some ((0 : Int32), S11)))))
set_option maxHeartbeats 1000000 in
theorem m_X9_apart {n : Nat} {S : lh_S} {t : Nat} {p1 : Int32} {p2 : Int32} {r : Int32} {S' : lh_S} (hf : f_X9_apart n S t p1 p2 = some (r, S')) : ∀ b, gvN S b ≤ gvN S' b := by
  have hm : ∀ b, gvN S b ≤ gvN S b := fun _ => Nat.le_refl _
  unfold f_X9_apart at hf
  obtain ⟨x2, hx2, hf⟩ := dc_nn_ok hf
  obtain ⟨r3, S4, k5, hf⟩ := dc_bd_ok hf
  have hm := lh_le_trans hm (show ∀ b, gvN S b ≤ gvN S4 b from m_X4_classAt k5)
  obtain ⟨x9, hx9, hf⟩ := dc_nn_ok hf
  obtain ⟨r10, S11, k12, hf⟩ := dc_bd_ok hf
  have hm := lh_le_trans hm (show ∀ b, gvN S4 b ≤ gvN S11 b from m_X4_classAt k12)
  by_cases c15 : r3 = none
  · replace hf := dc_if_t c15 hf
    obtain ⟨_, rfl⟩ := dc_ret hf
    exact hm
  · replace hf := dc_if_f c15 hf
    by_cases c16 : r10 = none
    · replace hf := dc_if_t c16 hf
      obtain ⟨_, rfl⟩ := dc_ret hf
      exact hm
    · replace hf := dc_if_f c16 hf
      by_cases c17 : r3 = r10
      · replace hf := dc_if_t c17 hf
        obtain ⟨_, rfl⟩ := dc_ret hf
        exact hm
      · replace hf := dc_if_f c17 hf
        obtain ⟨x18, hx18, hf⟩ := dc_nn_ok hf
        obtain ⟨x20, hx20, hf⟩ := dc_nn_ok hf
        obtain ⟨x21, hx21, hf⟩ := dc_nn_ok hf
        obtain ⟨x23, hx23, hf⟩ := dc_nn_ok hf
        by_cases c24 : (gvI S11 1 x20 1) = (gvI S11 1 x23 1)
        · replace hf := dc_if_t c24 hf
          obtain ⟨_, rfl⟩ := dc_ret hf
          exact hm
        · replace hf := dc_if_f c24 hf
          obtain ⟨_, rfl⟩ := dc_ret hf
          exact hm
set_option maxHeartbeats 1000000 in
theorem k_X9_apart {n : Nat} {S : lh_S} {t : Nat} {p1 : Int32} {p2 : Int32} {r : Int32} {S' : lh_S} (hf : f_X9_apart n S t p1 p2 = some (r, S')) : lh_sm9 S S' := by
  have hm : lh_sm9 S S := lh_sm9_rf
  unfold f_X9_apart at hf
  obtain ⟨x2, hx2, hf⟩ := dc_nn_ok hf
  obtain ⟨r3, S4, k5, hf⟩ := dc_bd_ok hf
  have hm := lh_sm9_trans hm (show lh_sm9 S S4 from k_X4_classAt k5)
  obtain ⟨x9, hx9, hf⟩ := dc_nn_ok hf
  obtain ⟨r10, S11, k12, hf⟩ := dc_bd_ok hf
  have hm := lh_sm9_trans hm (show lh_sm9 S4 S11 from k_X4_classAt k12)
  by_cases c15 : r3 = none
  · replace hf := dc_if_t c15 hf
    obtain ⟨_, rfl⟩ := dc_ret hf
    exact hm
  · replace hf := dc_if_f c15 hf
    by_cases c16 : r10 = none
    · replace hf := dc_if_t c16 hf
      obtain ⟨_, rfl⟩ := dc_ret hf
      exact hm
    · replace hf := dc_if_f c16 hf
      by_cases c17 : r3 = r10
      · replace hf := dc_if_t c17 hf
        obtain ⟨_, rfl⟩ := dc_ret hf
        exact hm
      · replace hf := dc_if_f c17 hf
        obtain ⟨x18, hx18, hf⟩ := dc_nn_ok hf
        obtain ⟨x20, hx20, hf⟩ := dc_nn_ok hf
        obtain ⟨x21, hx21, hf⟩ := dc_nn_ok hf
        obtain ⟨x23, hx23, hf⟩ := dc_nn_ok hf
        by_cases c24 : (gvI S11 1 x20 1) = (gvI S11 1 x23 1)
        · replace hf := dc_if_t c24 hf
          obtain ⟨_, rfl⟩ := dc_ret hf
          exact hm
        · replace hf := dc_if_f c24 hf
          obtain ⟨_, rfl⟩ := dc_ret hf
          exact hm
set_option maxHeartbeats 4000000 in
set_option maxRecDepth 100000 in
theorem c_X9_apart (l : Launch) (D : va_G) (cT : Nat → ClassId) (n : Nat) (S : lh_S) (ad : Nat → Nat → Nat) (A : Nat → Prop) (sz : Nat) (hA : ∀ q, sz ≤ q → A q) (t : Nat) (p1 : Int32) (p2 : Int32) (r : Int32) (S' : lh_S) (hf : f_X9_apart n S t p1 p2 = some (r, S')) (L_t : ∀ j, some t = some j → j < gvN S 9) : Met l yX9_apart wsX9_apart ({ frames := 1, cells := 0, slots := 0, locals := 21 } : Room) (lh_P D cT S ad A sz [lh_r ad 9 (some t), .int p1, .int p2]) (lh_Q D cT S' ad A ((∀ b, gvN S b ≤ gvN S' b) ∧ True) (some (.int r))) 0 0 A := by
  refine Met.ofW (cc := cX9_apart) (maxL := 5) (ret := (some .int)) (by decide) rfl ?_
  intro p e s m args below meth c s₁ B hml hv
  obtain ⟨hargs, hsz, hW, hK, hN⟩ := hv
  have hx := B.exec
  have hb := B.bytes
  have hr := B.returns
  have hts := atoms_spec (ws := wsX9_apart) B.pre
  have hown : s.vm.findClass RX9 = some m.cls := findClass_of_methodNamed B.named
  have hlocks := B.notSynchronized
  have hA : ∀ q, s.heap.size ≤ q → A q := fun q h => hA q (by rw [← hsz]; exact h)
  have ok := lh_W_ok hW
  have hm : ∀ b, gvN S b ≤ gvN S b := fun _ => Nat.le_refl _
  obtain ⟨ls, hent, hl⟩ := lh_entry m args [lh_r ad 9 (some t), .int p1, .int p2] 5 [(0, lh_r ad 9 (some t)), (1, .int p1), (2, .int p2)] hargs (by simp [lv_args, lh_cat_r, lh_cat_i, lh_cat_j]) (by simp [lg_sl, lh_cat_r, lh_cat_i, lh_cat_j])
  rw [hent]
  generalize hH : s.heap = H at hW ⊢
  have hS : va_S A s.heap H [] := by rw [← hH]; exact va_S.rf
  unfold f_X9_apart at hf
  refine lh_aload_n hx hb dX9_apart_0 rfl (lv_at hl 0 rfl) ?_
  have L1 : ∀ j, gvR S 9 t 3 = some j → j < gvN S 4 := fun j h => ok _ _ _ _ j (L_t _ rfl) rfl h
  refine lh_get (a := 9) (k := 3) (N := 10) (C := RX9) (T := TX9) (own := RX9) (ref := "LoaderModels") hx hb hts (fun _ h => (List.mem_cons_of_mem _ (List.mem_append_left _ (List.mem_append_left _ (List.mem_append_left _ (List.mem_append_right _ h)))))) hown hK hW rfl (L_t _ rfl) rfl rfl rfl (by decide) (hts (.fieldLink RX9 29 "LoaderModels" "loading" "LLoaderModels$Loading;") (List.mem_cons_of_mem _ (List.mem_append_left _ (List.mem_append_left _ (List.mem_append_left _ (List.mem_append_left _ (List.mem_of_getElem? (i := 0) rfl))))))) (fun _ h9 => h9) dX9_apart_1 (v := lh_r ad 4 (gvR S 9 t 3)) rfl ?_
  refine lv_iload_n hx hb dX9_apart_4 rfl (lv_at hl 1 rfl) ?_
  obtain ⟨x2, hx2, hf⟩ := dc_nn_ok hf
  obtain ⟨r3, S4, k5, hf⟩ := dc_bd_ok hf
  refine lh_call (S' := S4) (lh_rv ⟨hx, hb, hml, hown, hts⟩ hx2 (As := [.int p1]) (rest := []) (k := 4) (c_X4_classAt l D cT n S ad A H.size (fun q9 h9 => hA q9 (Nat.le_trans hS.1 h9)) x2 p1 r3 S4 k5 (lh_ls (L1 _ hx2))) (cwV 1 hts gX9_apart_X4_classAt rfl rfl rfl (by decide +kernel) ⟨Nat.le_of_ble_eq_true rfl, Nat.le_of_ble_eq_true rfl⟩) hK hN hW (L1 _ hx2) rfl rfl rfl hl.1 rfl (by simp [lh_cat_r, lh_cat_i, lh_cat_j]) dX9_apart_5 ⟨Nat.le_of_ble_eq_true rfl, Nat.le_of_ble_eq_true rfl⟩) hS (fun H locs hX hW hS => ?_)
  refine W.widen (k := 0) (n := 0) (by omega) (by omega) ?_
  show W _ _ _ _ _ _ _ _ _ _ _ _ _ _ _ (F0 m 8 ls [lh_r ad 5 r3])
  have m6 : ∀ b, gvN S b ≤ gvN S4 b := hX.1
  have L_t : ∀ j, some t = some j → j < gvN S4 9 := fun j h => Nat.lt_of_lt_of_le (L_t j h) (m6 _)
  have hm : ∀ b, gvN S b ≤ gvN S4 b := lh_le_trans hm m6
  have ok := lh_W_ok hW
  have L7 := hX.2
  refine lh_astore_n (i := 3) (lv' := [(3, lh_r ad 5 r3), (0, lh_r ad 9 (some t)), (1, .int p1), (2, .int p2)]) hx hb dX9_apart_8 rfl hl (by decide) (by first | rfl | simp [lh_cat_r, lh_cat_i, lh_cat_j]) (fun ls hl => ?_)
  refine lh_aload_n hx hb dX9_apart_9 rfl (lv_at hl 1 rfl) ?_
  have L8 : ∀ j, gvR S4 9 t 3 = some j → j < gvN S4 4 := fun j h => ok _ _ _ _ j (L_t _ rfl) rfl h
  refine lh_get (a := 9) (k := 3) (N := 10) (C := RX9) (T := TX9) (own := RX9) (ref := "LoaderModels") hx hb hts (fun _ h => (List.mem_cons_of_mem _ (List.mem_append_left _ (List.mem_append_left _ (List.mem_append_left _ (List.mem_append_right _ h)))))) hown hK hW rfl (L_t _ rfl) rfl rfl rfl (by decide) (hts (.fieldLink RX9 29 "LoaderModels" "loading" "LLoaderModels$Loading;") (List.mem_cons_of_mem _ (List.mem_append_left _ (List.mem_append_left _ (List.mem_append_left _ (List.mem_append_left _ (List.mem_of_getElem? (i := 0) rfl))))))) (fun _ h9 => h9) dX9_apart_10 (v := lh_r ad 4 (gvR S4 9 t 3)) rfl ?_
  refine lv_iload_n hx hb dX9_apart_13 rfl (lv_at hl 3 rfl) ?_
  obtain ⟨x9, hx9, hf⟩ := dc_nn_ok hf
  obtain ⟨r10, S11, k12, hf⟩ := dc_bd_ok hf
  refine lh_call (S' := S11) (lh_rv ⟨hx, hb, hml, hown, hts⟩ hx9 (As := [.int p2]) (rest := []) (k := 4) (c_X4_classAt l D cT n S4 ad A H.size (fun q9 h9 => hA q9 (Nat.le_trans hS.1 h9)) x9 p2 r10 S11 k12 (lh_ls (L8 _ hx9))) (cwV 1 hts gX9_apart_X4_classAt rfl rfl rfl (by decide +kernel) ⟨Nat.le_of_ble_eq_true rfl, Nat.le_of_ble_eq_true rfl⟩) hK hN hW (L8 _ hx9) rfl rfl rfl hl.1 rfl (by simp [lh_cat_r, lh_cat_i, lh_cat_j]) dX9_apart_14 ⟨Nat.le_of_ble_eq_true rfl, Nat.le_of_ble_eq_true rfl⟩) hS (fun H locs hX hW hS => ?_)
  refine W.widen (k := 0) (n := 0) (by omega) (by omega) ?_
  show W _ _ _ _ _ _ _ _ _ _ _ _ _ _ _ (F0 m 17 ls [lh_r ad 5 r10])
  have m13 : ∀ b, gvN S4 b ≤ gvN S11 b := hX.1
  have L7 : ∀ j, r3 = some j → j < gvN S11 5 := fun j h => Nat.lt_of_lt_of_le (L7 j h) (m13 _)
  have L_t : ∀ j, some t = some j → j < gvN S11 9 := fun j h => Nat.lt_of_lt_of_le (L_t j h) (m13 _)
  have hm : ∀ b, gvN S b ≤ gvN S11 b := lh_le_trans hm m13
  have ok := lh_W_ok hW
  have L14 := hX.2
  refine lh_astore (i := 4) (lv' := [(4, lh_r ad 5 r10), (3, lh_r ad 5 r3), (0, lh_r ad 9 (some t)), (1, .int p1), (2, .int p2)]) hx hb dX9_apart_17 hl (by decide) (by first | rfl | simp [lh_cat_r, lh_cat_i, lh_cat_j]) (fun ls hl => ?_)
  refine lh_aload_n hx hb dX9_apart_19 rfl (lv_at hl 1 rfl) ?_
  refine lh_ifnull (tgt := 28) hx hb dX9_apart_20 (by decide) (fun c15 => ?_) (fun c15 => ?_)
  · replace hf := dc_if_t c15 hf
    refine lv_bipush (v := -2) hx hb dX9_apart_28 (by decide) ?_
    obtain ⟨rfl, rfl⟩ := dc_ret hf
    exact W.iret (v := (-2 : Int32)) hx hb hr (fun t9 ht9 hW9 => ⟨⟨rfl, ⟨hm, trivial⟩, by rw [ht9]; exact hW⟩, hS.F ht9⟩) hS.2.2 dX9_apart_30
  · replace hf := dc_if_f c15 hf
    refine lh_aload hx hb dX9_apart_23 (lv_at hl 0 rfl) ?_
    refine lh_ifnonnull (tgt := 31) hx hb dX9_apart_25 (by decide) (fun c16 => ?_) (fun c16 => ?_)
    · replace hf := dc_if_f c16 hf
      refine lh_aload_n hx hb dX9_apart_31 rfl (lv_at hl 1 rfl) ?_
      refine lh_aload hx hb dX9_apart_32 (lv_at hl 0 rfl) ?_
      refine lh_acmp_eq (tgt := 59) hx hb hW L7 L14 dX9_apart_34 (by decide) (fun c17 => ?_) (fun c17 => ?_)
      · replace hf := dc_if_t c17 hf
        refine lv_iconst (v := 0) hx hb dX9_apart_59 (by decide) ?_
        obtain ⟨rfl, rfl⟩ := dc_ret hf
        exact W.iret (v := (0 : Int32)) hx hb hr (fun t9 ht9 hW9 => ⟨⟨rfl, ⟨hm, trivial⟩, by rw [ht9]; exact hW⟩, hS.F ht9⟩) hS.2.2 dX9_apart_60
      · replace hf := dc_if_f c17 hf
        refine lh_aload_n hx hb dX9_apart_37 rfl (lv_at hl 1 rfl) ?_
        obtain ⟨x18, hx18, hf⟩ := dc_nn_ok hf
        have L19 : ∀ j, gvR S11 5 x18 2 = some j → j < gvN S11 1 := fun j h => ok _ _ _ _ j (L7 _ hx18) rfl h
        refine lh_get (a := 5) (k := 2) (N := 6) (C := RX5) (T := TX5) (own := RX9) (ref := "LoaderModels$Model") hx hb hts (fun _ h => (List.mem_cons_of_mem _ (List.mem_append_left _ (List.mem_append_left _ (List.mem_append_right _ h))))) hown hK hW hx18 (L7 _ hx18) rfl rfl rfl (by decide) (hts (.fieldLink RX9 136 "LoaderModels$Model" "file" "LLoaderModels$ClassFile;") (List.mem_cons_of_mem _ (List.mem_append_left _ (List.mem_append_left _ (List.mem_append_left _ (List.mem_append_left _ (List.mem_of_getElem? (i := 1) rfl))))))) (fun _ h9 => h9) dX9_apart_38 (v := lh_r ad 1 (gvR S11 5 x18 2)) rfl ?_
        obtain ⟨x20, hx20, hf⟩ := dc_nn_ok hf
        refine lh_get (a := 1) (k := 1) (N := 7) (C := RX1) (T := TX1) (own := RX9) (ref := "LoaderModels$ClassFile") hx hb hts (fun _ h => (List.mem_cons_of_mem _ (List.mem_append_left _ (List.mem_append_right _ h)))) hown hK hW hx20 (L19 _ hx20) rfl rfl rfl (by decide) (hts (.fieldLink RX9 99 "LoaderModels$ClassFile" "name" "I") (List.mem_cons_of_mem _ (List.mem_append_left _ (List.mem_append_left _ (List.mem_append_left _ (List.mem_append_left _ (List.mem_of_getElem? (i := 2) rfl))))))) (fun _ h9 => h9) dX9_apart_41 (v := .int (gvI S11 1 x20 1)) rfl ?_
        refine lh_aload hx hb dX9_apart_44 (lv_at hl 0 rfl) ?_
        obtain ⟨x21, hx21, hf⟩ := dc_nn_ok hf
        have L22 : ∀ j, gvR S11 5 x21 2 = some j → j < gvN S11 1 := fun j h => ok _ _ _ _ j (L14 _ hx21) rfl h
        refine lh_get (a := 5) (k := 2) (N := 6) (C := RX5) (T := TX5) (own := RX9) (ref := "LoaderModels$Model") hx hb hts (fun _ h => (List.mem_cons_of_mem _ (List.mem_append_left _ (List.mem_append_left _ (List.mem_append_right _ h))))) hown hK hW hx21 (L14 _ hx21) rfl rfl rfl (by decide) (hts (.fieldLink RX9 136 "LoaderModels$Model" "file" "LLoaderModels$ClassFile;") (List.mem_cons_of_mem _ (List.mem_append_left _ (List.mem_append_left _ (List.mem_append_left _ (List.mem_append_left _ (List.mem_of_getElem? (i := 1) rfl))))))) (fun _ h9 => h9) dX9_apart_46 (v := lh_r ad 1 (gvR S11 5 x21 2)) rfl ?_
        obtain ⟨x23, hx23, hf⟩ := dc_nn_ok hf
        refine lh_get (a := 1) (k := 1) (N := 7) (C := RX1) (T := TX1) (own := RX9) (ref := "LoaderModels$ClassFile") hx hb hts (fun _ h => (List.mem_cons_of_mem _ (List.mem_append_left _ (List.mem_append_right _ h)))) hown hK hW hx23 (L22 _ hx23) rfl rfl rfl (by decide) (hts (.fieldLink RX9 99 "LoaderModels$ClassFile" "name" "I") (List.mem_cons_of_mem _ (List.mem_append_left _ (List.mem_append_left _ (List.mem_append_left _ (List.mem_append_left _ (List.mem_of_getElem? (i := 2) rfl))))))) (fun _ h9 => h9) dX9_apart_49 (v := .int (gvI S11 1 x23 1)) rfl ?_
        refine lv_icmp_ne (tgt := 59) hx hb dX9_apart_52 (by decide) (fun c24 => ?_) (fun c24 => ?_)
        · replace hf := dc_if_f c24 hf
          refine lv_iconst (v := 0) hx hb dX9_apart_59 (by decide) ?_
          obtain ⟨rfl, rfl⟩ := dc_ret hf
          exact W.iret (v := (0 : Int32)) hx hb hr (fun t9 ht9 hW9 => ⟨⟨rfl, ⟨hm, trivial⟩, by rw [ht9]; exact hW⟩, hS.F ht9⟩) hS.2.2 dX9_apart_60
        · replace hf := dc_if_t c24 hf
          refine lv_iconst (v := 1) hx hb dX9_apart_55 (by decide) ?_
          refine lv_goto (tgt := 60) hx hb dX9_apart_56 (by decide) ?_
          obtain ⟨rfl, rfl⟩ := dc_ret hf
          exact W.iret (v := (1 : Int32)) hx hb hr (fun t9 ht9 hW9 => ⟨⟨rfl, ⟨hm, trivial⟩, by rw [ht9]; exact hW⟩, hS.F ht9⟩) hS.2.2 dX9_apart_60
    · replace hf := dc_if_t c16 hf
      refine lv_bipush (v := -2) hx hb dX9_apart_28 (by decide) ?_
      obtain ⟨rfl, rfl⟩ := dc_ret hf
      exact W.iret (v := (-2 : Int32)) hx hb hr (fun t9 ht9 hW9 => ⟨⟨rfl, ⟨hm, trivial⟩, by rw [ht9]; exact hW⟩, hS.F ht9⟩) hS.2.2 dX9_apart_30
