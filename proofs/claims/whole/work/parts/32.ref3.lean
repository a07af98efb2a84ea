def f_X10_goes_L17 (n : Nat) (t : Nat) (p1 : Int32) (p2 : Int32) (p3 : Int32) : Nat → lh_S → Option (Int32 × lh_S)
  | 0, _ => none
  | g + 1, S9 =>
  dc_if ((gvI S9 10 t 32) ≤ 0) (
  dc_if ((gvI S9 10 t 34) ≤ 0) (
  some (gvI S9 10 t 33, S9)) (
  dc_bd (f_X10_fails n S9 t (gvI S9 10 t 34)) fun r12 S13 =>
  some (r12, S13))) (
  dc_let ((gvI S9 10 t 32) - (1 : Int32)) fun v17 =>
  dc_nn (gvR S9 10 t 27) fun x18 =>
  dc_gd (v17 < 0 ∨ gvL S9 57 x18 ≤ (v17).toNatClampNeg) (
  dc_if ((gvI S9 57 x18 (v17).toNatClampNeg) = 0) (
  dc_let ((gvI S9 10 t 32) - (1 : Int32)) fun v26 =>
  dc_bd (f_X10_oneLoad n S9 t v26) fun r27 S28 =>
  f_X10_goes_L17 n t p1 p2 p3 g S28) (
  dc_let ((gvI S9 10 t 32) - (1 : Int32)) fun v21 =>
  dc_bd (f_X10_oneDefining n S9 t v21) fun r22 S23 =>
  f_X10_goes_L17 n t p1 p2 p3 g S23)))
theorem m_X10_goes_L17 {n : Nat} {t : Nat} {p1 : Int32} {p2 : Int32} {p3 : Int32} {r : Int32} {S' : lh_S} : ∀ (g : Nat) (S9 : lh_S), f_X10_goes_L17 n t p1 p2 p3 g S9 = some (r, S') → ∀ b, gvN S9 b ≤ gvN S' b := by
    intro g
    induction g with
    | zero => intro S9 hf; rw [f_X10_goes_L17] at hf; cases hf
    | succ g ih =>
      intro S9 hf
      rw [f_X10_goes_L17] at hf
      have hm : ∀ b, gvN S9 b ≤ gvN S9 b := fun _ => Nat.le_refl _
      by_cases c10 : (gvI S9 10 t 32) ≤ 0
      · replace hf := dc_if_t c10 hf
        by_cases c11 : (gvI S9 10 t 34) ≤ 0
        · replace hf := dc_if_t c11 hf
          obtain ⟨_, rfl⟩ := dc_ret hf
          exact hm
        · replace hf := dc_if_f c11 hf
          obtain ⟨r12, S13, k14, hf⟩ := dc_bd_ok hf
          have hm := lh_le_trans hm (show ∀ b, gvN S9 b ≤ gvN S13 b from m_X10_fails k14)
          obtain ⟨_, rfl⟩ := dc_ret hf
          exact hm
      · replace hf := dc_if_f c10 hf
        obtain ⟨v17, hv17, hf⟩ := dc_let_ok hf
        obtain ⟨x18, hx18, hf⟩ := dc_nn_ok hf
        obtain ⟨g19, hf⟩ := dc_gd_ok hf
        by_cases c20 : (gvI S9 57 x18 (v17).toNatClampNeg) = 0
        · replace hf := dc_if_t c20 hf
          obtain ⟨v26, hv26, hf⟩ := dc_let_ok hf
          obtain ⟨r27, S28, k29, hf⟩ := dc_bd_ok hf
          have hm := lh_le_trans hm (show ∀ b, gvN S9 b ≤ gvN S28 b from m_X10_oneLoad k29)
          exact lh_le_trans hm (ih S28 hf)
        · replace hf := dc_if_f c20 hf
          obtain ⟨v21, hv21, hf⟩ := dc_let_ok hf
          obtain ⟨r22, S23, k24, hf⟩ := dc_bd_ok hf
          have hm := lh_le_trans hm (show ∀ b, gvN S9 b ≤ gvN S23 b from m_X10_oneDefining k24)
          exact lh_le_trans hm (ih S23 hf)
theorem k_X10_goes_L17 {n : Nat} {t : Nat} {p1 : Int32} {p2 : Int32} {p3 : Int32} {r : Int32} {S' : lh_S} : ∀ (g : Nat) (S9 : lh_S), f_X10_goes_L17 n t p1 p2 p3 g S9 = some (r, S') → lh_sm10 S9 S' := by
    intro g
    induction g with
    | zero => intro S9 hf; rw [f_X10_goes_L17] at hf; cases hf
    | succ g ih =>
      intro S9 hf
      rw [f_X10_goes_L17] at hf
      have hm : lh_sm10 S9 S9 := lh_sm10_rf
      by_cases c10 : (gvI S9 10 t 32) ≤ 0
      · replace hf := dc_if_t c10 hf
        by_cases c11 : (gvI S9 10 t 34) ≤ 0
        · replace hf := dc_if_t c11 hf
          obtain ⟨_, rfl⟩ := dc_ret hf
          exact hm
        · replace hf := dc_if_f c11 hf
          obtain ⟨r12, S13, k14, hf⟩ := dc_bd_ok hf
          have hm := lh_sm10_trans hm (show lh_sm10 S9 S13 from k_X10_fails k14)
          obtain ⟨_, rfl⟩ := dc_ret hf
          exact hm
      · replace hf := dc_if_f c10 hf
        obtain ⟨v17, hv17, hf⟩ := dc_let_ok hf
        obtain ⟨x18, hx18, hf⟩ := dc_nn_ok hf
        obtain ⟨g19, hf⟩ := dc_gd_ok hf
        by_cases c20 : (gvI S9 57 x18 (v17).toNatClampNeg) = 0
        · replace hf := dc_if_t c20 hf
          obtain ⟨v26, hv26, hf⟩ := dc_let_ok hf
          obtain ⟨r27, S28, k29, hf⟩ := dc_bd_ok hf
          have hm := lh_sm10_trans hm (show lh_sm10 S9 S28 from k_X10_oneLoad k29)
          exact lh_sm10_trans hm (ih S28 hf)
        · replace hf := dc_if_f c20 hf
          obtain ⟨v21, hv21, hf⟩ := dc_let_ok hf
          obtain ⟨r22, S23, k24, hf⟩ := dc_bd_ok hf
          have hm := lh_sm10_trans hm (show lh_sm10 S9 S23 from k_X10_oneDefining k24)
          exact lh_sm10_trans hm (ih S23 hf)
def f_X10_goes (n : Nat) (S : lh_S) (t : Nat) (p1 : Int32) (p2 : Int32) (p3 : Int32) : Option (Int32 × lh_S) :=
  dc_let (pvI S 10 t 32 (0 : Int32)) fun S1 =>
  dc_let (pvI S1 10 t 34 (0 : Int32)) fun S3 =>
  dc_bd (f_X10_push n S3 t p1 p2 p3) fun r5 S6 =>
  f_X10_goes_L17 n t p1 p2 p3 n S6
set_option maxHeartbeats 1000000 in
theorem m_X10_goes {n : Nat} {S : lh_S} {t : Nat} {p1 : Int32} {p2 : Int32} {p3 : Int32} {r : Int32} {S' : lh_S} (hf : f_X10_goes n S t p1 p2 p3 = some (r, S')) : ∀ b, gvN S b ≤ gvN S' b := by
  have hm : ∀ b, gvN S b ≤ gvN S b := fun _ => Nat.le_refl _
  unfold f_X10_goes at hf
  obtain ⟨S1, eS1, hf⟩ := dc_let_ok hf
  have hm := lh_le_trans hm (show ∀ b, gvN S b ≤ gvN S1 b from by rw [eS1]; exact lh_mI)
  obtain ⟨S3, eS3, hf⟩ := dc_let_ok hf
  have hm := lh_le_trans hm (show ∀ b, gvN S1 b ≤ gvN S3 b from by rw [eS3]; exact lh_mI)
  obtain ⟨r5, S6, k7, hf⟩ := dc_bd_ok hf
  have hm := lh_le_trans hm (show ∀ b, gvN S3 b ≤ gvN S6 b from m_X10_push k7)
  exact lh_le_trans hm (m_X10_goes_L17 n S6 hf)
set_option maxHeartbeats 1000000 in
theorem k_X10_goes {n : Nat} {S : lh_S} {t : Nat} {p1 : Int32} {p2 : Int32} {p3 : Int32} {r : Int32} {S' : lh_S} (hf : f_X10_goes n S t p1 p2 p3 = some (r, S')) : lh_sm10 S S' := by
  have hm : lh_sm10 S S := lh_sm10_rf
  unfold f_X10_goes at hf
  obtain ⟨S1, eS1, hf⟩ := dc_let_ok hf
  have hm := lh_sm10_trans hm (show lh_sm10 S S1 from by rw [eS1]; exact (lh_sm10I (by decide)))
  obtain ⟨S3, eS3, hf⟩ := dc_let_ok hf
  have hm := lh_sm10_trans hm (show lh_sm10 S1 S3 from by rw [eS3]; exact (lh_sm10I (by decide)))
  obtain ⟨r5, S6, k7, hf⟩ := dc_bd_ok hf
  have hm := lh_sm10_trans hm (show lh_sm10 S3 S6 from k_X10_push k7)
  exact lh_sm10_trans hm (k_X10_goes_L17 n S6 hf)
set_option maxHeartbeats 4000000 in
set_option maxRecDepth 100000 in
theorem c_X10_goes (l : Launch) (D : va_G) (cT : Nat → ClassId) (n : Nat) (S : lh_S) (ad : Nat → Nat → Nat) (A : Nat → Prop) (sz : Nat) (hA : ∀ q, sz ≤ q → A q) (t : Nat) (p1 : Int32) (p2 : Int32) (p3 : Int32) (r : Int32) (S' : lh_S) (hf : f_X10_goes n S t p1 p2 p3 = some (r, S')) (L_t : ∀ j, some t = some j → j < gvN S 10) : Met l yX10_goes wsX10_goes ({ frames := 3, cells := 0, slots := 0, locals := 76 } : Room) (lh_P D cT S ad A sz [lh_r ad 10 (some t), .int p1, .int p2, .int p3]) (lh_Q D cT S' ad A ((∀ b, gvN S b ≤ gvN S' b) ∧ True) (some (.int r))) 0 0 A := by
  refine Met.ofW (cc := cX10_goes) (maxL := 4) (ret := (some .int)) (by decide) rfl ?_
  intro p e s m args below meth c s₁ B hml hv
  obtain ⟨hargs, hsz, hW, hK, hN⟩ := hv
  have hx := B.exec
  have hb := B.bytes
  have hr := B.returns
  have hts := atoms_spec (ws := wsX10_goes) B.pre
  have hown : s.vm.findClass RX10 = some m.cls := findClass_of_methodNamed B.named
  have hlocks := B.notSynchronized
  have hA : ∀ q, s.heap.size ≤ q → A q := fun q h => hA q (by rw [← hsz]; exact h)
  have L17 : ∀ (g : Nat) (S9 : lh_S), f_X10_goes_L17 n t p1 p2 p3 g S9 = some (r, S') → (∀ b, gvN S b ≤ gvN S9 b) → ∀ (H : Heap) (locs : List Loc), lh_W D cT S9 ad A H → va_S A s.heap H locs → ∀ (ls : Array Slot), lv_has ls 4 [(0, lh_r ad 10 (some t)), (1, .int p1), (2, .int p2), (3, .int p3)] → W p l e (headSpec wsX10_goes ({ frames := 3, cells := 0, slots := 0, locals := 76 } : Room)).room s m args below meth c H locs 0 0 (MQ below (lh_Q D cT S' ad A ((∀ b, gvN S b ≤ gvN S' b) ∧ True) (some (.int r))) args s 0 0 A) (F0 m 17 ls []) := by
    intro g
    induction g with
    | zero => intro S9 hf; rw [f_X10_goes_L17] at hf; cases hf
    | succ g ih =>
      intro S9 hf hm H locs hW hS ls hl
      rw [f_X10_goes_L17] at hf
      have ok := lh_W_ok hW
      have L_t : ∀ j, some t = some j → j < gvN S9 10 := fun j h => Nat.lt_of_lt_of_le (L_t j h) (hm _)
      refine lh_aload_n hx hb dX10_goes_17 rfl (lv_at hl 0 rfl) ?_
      refine lh_get (a := 10) (k := 32) (N := 42) (C := RX10) (T := TX10) (own := RX10) (ref := "LoaderModelsModel") hx hb hts (fun _ h => (List.mem_cons_of_mem _ (List.mem_append_right _ h))) hown hK hW rfl (L_t _ rfl) rfl rfl rfl (by decide) (hts (.fieldLink RX10 151 "LoaderModelsModel" "open" "I") (List.mem_cons_of_mem _ (List.mem_append_left _ (List.mem_append_left _ (List.mem_of_getElem? (i := 0) rfl))))) (fun _ h9 => h9) dX10_goes_18 (v := .int (gvI S9 10 t 32)) rfl ?_
      refine lv_if_le (tgt := 64) hx hb dX10_goes_21 (by decide) (fun c10 => ?_) (fun c10 => ?_)
      · replace hf := dc_if_t c10 hf
        refine lh_aload_n hx hb dX10_goes_64 rfl (lv_at hl 0 rfl) ?_
        refine lh_get (a := 10) (k := 34) (N := 42) (C := RX10) (T := TX10) (own := RX10) (ref := "LoaderModelsModel") hx hb hts (fun _ h => (List.mem_cons_of_mem _ (List.mem_append_right _ h))) hown hK hW rfl (L_t _ rfl) rfl rfl rfl (by decide) (hts (.fieldLink RX10 154 "LoaderModelsModel" "failure" "I") (List.mem_cons_of_mem _ (List.mem_append_left _ (List.mem_append_left _ (List.mem_of_getElem? (i := 1) rfl))))) (fun _ h9 => h9) dX10_goes_65 (v := .int (gvI S9 10 t 34)) rfl ?_
        refine lv_if_le (tgt := 82) hx hb dX10_goes_68 (by decide) (fun c11 => ?_) (fun c11 => ?_)
        · replace hf := dc_if_t c11 hf
          refine lh_aload_n hx hb dX10_goes_82 rfl (lv_at hl 0 rfl) ?_
          refine lh_get (a := 10) (k := 33) (N := 42) (C := RX10) (T := TX10) (own := RX10) (ref := "LoaderModelsModel") hx hb hts (fun _ h => (List.mem_cons_of_mem _ (List.mem_append_right _ h))) hown hK hW rfl (L_t _ rfl) rfl rfl rfl (by decide) (hts (.fieldLink RX10 157 "LoaderModelsModel" "came" "I") (List.mem_cons_of_mem _ (List.mem_append_left _ (List.mem_append_left _ (List.mem_of_getElem? (i := 3) rfl))))) (fun _ h9 => h9) dX10_goes_83 (v := .int (gvI S9 10 t 33)) rfl ?_
          obtain ⟨rfl, rfl⟩ := dc_ret hf
          exact W.iret (v := gvI S9 10 t 33) hx hb hr (fun t9 ht9 hW9 => ⟨⟨rfl, ⟨hm, trivial⟩, by rw [ht9]; exact hW⟩, hS.F ht9⟩) hS.2.2 dX10_goes_86
        · replace hf := dc_if_f c11 hf
          refine lh_aload_n hx hb dX10_goes_71 rfl (lv_at hl 0 rfl) ?_
          refine lh_aload_n hx hb dX10_goes_72 rfl (lv_at hl 0 rfl) ?_
          refine lh_get (a := 10) (k := 34) (N := 42) (C := RX10) (T := TX10) (own := RX10) (ref := "LoaderModelsModel") hx hb hts (fun _ h => (List.mem_cons_of_mem _ (List.mem_append_right _ h))) hown hK hW rfl (L_t _ rfl) rfl rfl rfl (by decide) (hts (.fieldLink RX10 154 "LoaderModelsModel" "failure" "I") (List.mem_cons_of_mem _ (List.mem_append_left _ (List.mem_append_left _ (List.mem_of_getElem? (i := 1) rfl))))) (fun _ h9 => h9) dX10_goes_73 (v := .int (gvI S9 10 t 34)) rfl ?_
          obtain ⟨r12, S13, k14, hf⟩ := dc_bd_ok hf
          refine lh_call (S' := S13) (lh_rv ⟨hx, hb, hml, hown, hts⟩ rfl (As := [.int (gvI S9 10 t 34)]) (rest := []) (k := 10) (c_X10_fails l D cT n S9 ad A H.size (fun q9 h9 => hA q9 (Nat.le_trans hS.1 h9)) t (gvI S9 10 t 34) r12 S13 k14 L_t) (cwV 1 hts gX10_goes_X10_fails rfl rfl rfl (by decide +kernel) ⟨Nat.le_of_ble_eq_true rfl, Nat.le_of_ble_eq_true rfl⟩) hK hN hW (L_t _ rfl) rfl rfl rfl hl.1 rfl (by simp [lh_cat_r, lh_cat_i, lh_cat_j]) dX10_goes_76 ⟨Nat.le_of_ble_eq_true rfl, Nat.le_of_ble_eq_true rfl⟩) hS (fun H locs hX hW hS => ?_)
          refine W.widen (k := 0) (n := 0) (by omega) (by omega) ?_
          show W _ _ _ _ _ _ _ _ _ _ _ _ _ _ _ (F0 m 79 ls [.int r12])
          have m15 : ∀ b, gvN S9 b ≤ gvN S13 b := hX.1
          have L_t : ∀ j, some t = some j → j < gvN S13 10 := fun j h => Nat.lt_of_lt_of_le (L_t j h) (m15 _)
          have hm : ∀ b, gvN S b ≤ gvN S13 b := lh_le_trans hm m15
          have ok := lh_W_ok hW
          refine lv_goto (tgt := 86) hx hb dX10_goes_79 (by decide) ?_
          obtain ⟨rfl, rfl⟩ := dc_ret hf
          exact W.iret (v := r12) hx hb hr (fun t9 ht9 hW9 => ⟨⟨rfl, ⟨hm, trivial⟩, by rw [ht9]; exact hW⟩, hS.F ht9⟩) hS.2.2 dX10_goes_86
      · replace hf := dc_if_f c10 hf
        refine lh_aload_n hx hb dX10_goes_24 rfl (lv_at hl 0 rfl) ?_
        have L16 : ∀ j, gvR S9 10 t 27 = some j → j < gvN S9 57 := fun j h => ok _ _ _ _ j (L_t _ rfl) rfl h
        refine lh_get (a := 10) (k := 27) (N := 42) (C := RX10) (T := TX10) (own := RX10) (ref := "LoaderModelsModel") hx hb hts (fun _ h => (List.mem_cons_of_mem _ (List.mem_append_right _ h))) hown hK hW rfl (L_t _ rfl) rfl rfl rfl (by decide) (hts (.fieldLink RX10 79 "LoaderModelsModel" "sort" "[I") (List.mem_cons_of_mem _ (List.mem_append_left _ (List.mem_append_left _ (List.mem_of_getElem? (i := 2) rfl))))) (fun _ h9 => h9) dX10_goes_25 (v := lh_r ad 57 (gvR S9 10 t 27)) rfl ?_
        refine lh_aload_n hx hb dX10_goes_28 rfl (lv_at hl 0 rfl) ?_
        refine lh_get (a := 10) (k := 32) (N := 42) (C := RX10) (T := TX10) (own := RX10) (ref := "LoaderModelsModel") hx hb hts (fun _ h => (List.mem_cons_of_mem _ (List.mem_append_right _ h))) hown hK hW rfl (L_t _ rfl) rfl rfl rfl (by decide) (hts (.fieldLink RX10 151 "LoaderModelsModel" "open" "I") (List.mem_cons_of_mem _ (List.mem_append_left _ (List.mem_append_left _ (List.mem_of_getElem? (i := 0) rfl))))) (fun _ h9 => h9) dX10_goes_29 (v := .int (gvI S9 10 t 32)) rfl ?_
        refine lv_iconst (v := 1) hx hb dX10_goes_32 (by decide) ?_
        refine lv_isub hx hb dX10_goes_33 ?_
        refine lv_topi (fun v17 hv17 => ?_)
        replace hf := dc_let_e hv17 hf
        obtain ⟨x18, hx18, hf⟩ := dc_nn_ok hf
        obtain ⟨g19, hf⟩ := dc_gd_ok hf
        refine lh_ald_i (a := 57) hx hb hK hW hx18 (L16 _ hx18) rfl rfl g19 dX10_goes_34 ?_
        refine lv_if_ne (tgt := 51) hx hb dX10_goes_35 (by decide) (fun c20 => ?_) (fun c20 => ?_)
        · replace hf := dc_if_f c20 hf
          refine lh_aload_n hx hb dX10_goes_51 rfl (lv_at hl 0 rfl) ?_
          refine lh_aload_n hx hb dX10_goes_52 rfl (lv_at hl 0 rfl) ?_
          refine lh_get (a := 10) (k := 32) (N := 42) (C := RX10) (T := TX10) (own := RX10) (ref := "LoaderModelsModel") hx hb hts (fun _ h => (List.mem_cons_of_mem _ (List.mem_append_right _ h))) hown hK hW rfl (L_t _ rfl) rfl rfl rfl (by decide) (hts (.fieldLink RX10 151 "LoaderModelsModel" "open" "I") (List.mem_cons_of_mem _ (List.mem_append_left _ (List.mem_append_left _ (List.mem_of_getElem? (i := 0) rfl))))) (fun _ h9 => h9) dX10_goes_53 (v := .int (gvI S9 10 t 32)) rfl ?_
          refine lv_iconst (v := 1) hx hb dX10_goes_56 (by decide) ?_
          refine lv_isub hx hb dX10_goes_57 ?_
          refine lv_topi (fun v21 hv21 => ?_)
          replace hf := dc_let_e hv21 hf
          obtain ⟨r22, S23, k24, hf⟩ := dc_bd_ok hf
          refine lh_call (S' := S23) (lh_rv ⟨hx, hb, hml, hown, hts⟩ rfl (As := [.int v21]) (rest := []) (k := 10) (c_X10_oneDefining l D cT n S9 ad A H.size (fun q9 h9 => hA q9 (Nat.le_trans hS.1 h9)) t v21 r22 S23 k24 L_t) (cwV 1 hts gX10_goes_X10_oneDefining rfl rfl rfl (by decide +kernel) ⟨Nat.le_of_ble_eq_true rfl, Nat.le_of_ble_eq_true rfl⟩) hK hN hW (L_t _ rfl) rfl rfl rfl hl.1 rfl (by simp [lh_cat_r, lh_cat_i, lh_cat_j]) dX10_goes_58 ⟨Nat.le_of_ble_eq_true rfl, Nat.le_of_ble_eq_true rfl⟩) hS (fun H locs hX hW hS => ?_)
          refine W.widen (k := 0) (n := 0) (by omega) (by omega) ?_
          show W _ _ _ _ _ _ _ _ _ _ _ _ _ _ _ (F0 m 61 ls [])
          have m25 : ∀ b, gvN S9 b ≤ gvN S23 b := hX.1
          have L_t : ∀ j, some t = some j → j < gvN S23 10 := fun j h => Nat.lt_of_lt_of_le (L_t j h) (m25 _)
          have hm : ∀ b, gvN S b ≤ gvN S23 b := lh_le_trans hm m25
          have ok := lh_W_ok hW
          refine lv_goto (tgt := 17) hx hb dX10_goes_61 (by decide) ?_
          exact ih S23 hf hm _ _ hW hS _ (lv_sub hl [0, 1, 2, 3] (by first | rfl | simp [lv_pick]))
        · replace hf := dc_if_t c20 hf
          refine lh_aload_n hx hb dX10_goes_38 rfl (lv_at hl 0 rfl) ?_
          refine lh_aload_n hx hb dX10_goes_39 rfl (lv_at hl 0 rfl) ?_
          refine lh_get (a := 10) (k := 32) (N := 42) (C := RX10) (T := TX10) (own := RX10) (ref := "LoaderModelsModel") hx hb hts (fun _ h => (List.mem_cons_of_mem _ (List.mem_append_right _ h))) hown hK hW rfl (L_t _ rfl) rfl rfl rfl (by decide) (hts (.fieldLink RX10 151 "LoaderModelsModel" "open" "I") (List.mem_cons_of_mem _ (List.mem_append_left _ (List.mem_append_left _ (List.mem_of_getElem? (i := 0) rfl))))) (fun _ h9 => h9) dX10_goes_40 (v := .int (gvI S9 10 t 32)) rfl ?_
          refine lv_iconst (v := 1) hx hb dX10_goes_43 (by decide) ?_
          refine lv_isub hx hb dX10_goes_44 ?_
          refine lv_topi (fun v26 hv26 => ?_)
          replace hf := dc_let_e hv26 hf
          obtain ⟨r27, S28, k29, hf⟩ := dc_bd_ok hf
          refine lh_call (S' := S28) (lh_rv ⟨hx, hb, hml, hown, hts⟩ rfl (As := [.int v26]) (rest := []) (k := 10) (c_X10_oneLoad l D cT n S9 ad A H.size (fun q9 h9 => hA q9 (Nat.le_trans hS.1 h9)) t v26 r27 S28 k29 L_t) (cwV 1 hts gX10_goes_X10_oneLoad rfl rfl rfl (by decide +kernel) ⟨Nat.le_of_ble_eq_true rfl, Nat.le_of_ble_eq_true rfl⟩) hK hN hW (L_t _ rfl) rfl rfl rfl hl.1 rfl (by simp [lh_cat_r, lh_cat_i, lh_cat_j]) dX10_goes_45 ⟨Nat.le_of_ble_eq_true rfl, Nat.le_of_ble_eq_true rfl⟩) hS (fun H locs hX hW hS => ?_)
          refine W.widen (k := 0) (n := 0) (by omega) (by omega) ?_
          show W _ _ _ _ _ _ _ _ _ _ _ _ _ _ _ (F0 m 48 ls [])
          have m30 : ∀ b, gvN S9 b ≤ gvN S28 b := hX.1
          have L_t : ∀ j, some t = some j → j < gvN S28 10 := fun j h => Nat.lt_of_lt_of_le (L_t j h) (m30 _)
          have hm : ∀ b, gvN S b ≤ gvN S28 b := lh_le_trans hm m30
          have ok := lh_W_ok hW
          refine lv_goto (tgt := 17) hx hb dX10_goes_48 (by decide) ?_
          exact ih S28 hf hm _ _ hW hS _ (lv_sub hl [0, 1, 2, 3] (by first | rfl | simp [lv_pick]))
  have ok := lh_W_ok hW
  have hm : ∀ b, gvN S b ≤ gvN S b := fun _ => Nat.le_refl _
  obtain ⟨ls, hent, hl⟩ := lh_entry m args [lh_r ad 10 (some t), .int p1, .int p2, .int p3] 4 [(0, lh_r ad 10 (some t)), (1, .int p1), (2, .int p2), (3, .int p3)] hargs (by simp [lv_args, lh_cat_r, lh_cat_i, lh_cat_j]) (by simp [lg_sl, lh_cat_r, lh_cat_i, lh_cat_j])
  rw [hent]
  generalize hH : s.heap = H at hW ⊢
  have hS : va_S A s.heap H [] := by rw [← hH]; exact va_S.rf
  unfold f_X10_goes at hf
  refine lh_aload_n hx hb dX10_goes_0 rfl (lv_at hl 0 rfl) ?_
  refine lv_iconst (v := 0) hx hb dX10_goes_1 (by decide) ?_
  obtain ⟨S1, eS1, hf⟩ := dc_let_ok hf
  refine lh_put (S' := S1) (a := 10) (k := 32) (N := 42) (C := RX10) (T := TX10) (own := RX10) (ref := "LoaderModelsModel") (ty := .int) hx hb hts (fun _ h => (List.mem_cons_of_mem _ (List.mem_append_right _ h))) tyX10 tyX10_ok nmX10 hown hK hW hS rfl (L_t _ rfl) rfl rfl rfl (by decide) (hts (.fieldLink RX10 151 "LoaderModelsModel" "open" "I") (List.mem_cons_of_mem _ (List.mem_append_left _ (List.mem_append_left _ (List.mem_of_getElem? (i := 0) rfl))))) (fun _ h9 => h9) (Or.inl rfl) (by decide +kernel) rfl rfl (fun q9 => by rw [eS1]; exact lh_chI rfl q9) dX10_goes_2 (fun H locs hW hS => ?_)
  have m2 : ∀ b, gvN S b ≤ gvN S1 b := by rw [eS1]; exact lh_mI
  have L_t : ∀ j, some t = some j → j < gvN S1 10 := fun j h => Nat.lt_of_lt_of_le (L_t j h) (m2 _)
  have hm : ∀ b, gvN S b ≤ gvN S1 b := lh_le_trans hm m2
  have ok := lh_W_ok hW
  refine lh_aload_n hx hb dX10_goes_5 rfl (lv_at hl 0 rfl) ?_
  refine lv_iconst (v := 0) hx hb dX10_goes_6 (by decide) ?_
  obtain ⟨S3, eS3, hf⟩ := dc_let_ok hf
  refine lh_put (S' := S3) (a := 10) (k := 34) (N := 42) (C := RX10) (T := TX10) (own := RX10) (ref := "LoaderModelsModel") (ty := .int) hx hb hts (fun _ h => (List.mem_cons_of_mem _ (List.mem_append_right _ h))) tyX10 tyX10_ok nmX10 hown hK hW hS rfl (L_t _ rfl) rfl rfl rfl (by decide) (hts (.fieldLink RX10 154 "LoaderModelsModel" "failure" "I") (List.mem_cons_of_mem _ (List.mem_append_left _ (List.mem_append_left _ (List.mem_of_getElem? (i := 1) rfl))))) (fun _ h9 => h9) (Or.inl rfl) (by decide +kernel) rfl rfl (fun q9 => by rw [eS3]; exact lh_chI rfl q9) dX10_goes_7 (fun H locs hW hS => ?_)
  have m4 : ∀ b, gvN S1 b ≤ gvN S3 b := by rw [eS3]; exact lh_mI
  have L_t : ∀ j, some t = some j → j < gvN S3 10 := fun j h => Nat.lt_of_lt_of_le (L_t j h) (m4 _)
  have hm : ∀ b, gvN S b ≤ gvN S3 b := lh_le_trans hm m4
  have ok := lh_W_ok hW
  refine lh_aload_n hx hb dX10_goes_10 rfl (lv_at hl 0 rfl) ?_
  refine lv_iload_n hx hb dX10_goes_11 rfl (lv_at hl 1 rfl) ?_
  refine lv_iload_n hx hb dX10_goes_12 rfl (lv_at hl 2 rfl) ?_
  refine lv_iload_n hx hb dX10_goes_13 rfl (lv_at hl 3 rfl) ?_
  obtain ⟨r5, S6, k7, hf⟩ := dc_bd_ok hf
  refine lh_call (S' := S6) (lh_rv ⟨hx, hb, hml, hown, hts⟩ rfl (As := [.int p1, .int p2, .int p3]) (rest := []) (k := 10) (c_X10_push l D cT n S3 ad A H.size (fun q9 h9 => hA q9 (Nat.le_trans hS.1 h9)) t p1 p2 p3 r5 S6 k7 L_t) (cwV 3 hts gX10_goes_X10_push rfl rfl rfl (by decide +kernel) ⟨Nat.le_of_ble_eq_true rfl, Nat.le_of_ble_eq_true rfl⟩) hK hN hW (L_t _ rfl) rfl rfl rfl hl.1 rfl (by simp [lh_cat_r, lh_cat_i, lh_cat_j]) dX10_goes_14 ⟨Nat.le_of_ble_eq_true rfl, Nat.le_of_ble_eq_true rfl⟩) hS (fun H locs hX hW hS => ?_)
  refine W.widen (k := 0) (n := 0) (by omega) (by omega) ?_
  show W _ _ _ _ _ _ _ _ _ _ _ _ _ _ _ (F0 m 17 ls [])
  have m8 : ∀ b, gvN S3 b ≤ gvN S6 b := hX.1
  have L_t : ∀ j, some t = some j → j < gvN S6 10 := fun j h => Nat.lt_of_lt_of_le (L_t j h) (m8 _)
  have hm : ∀ b, gvN S b ≤ gvN S6 b := lh_le_trans hm m8
  have ok := lh_W_ok hW
  exact L17 n S6 hf hm _ _ hW hS _ (lv_sub hl [0, 1, 2, 3] (by first | rfl | simp [lv_pick]))
def f_X10_load (n : Nat) (S : lh_S) (t : Nat) (p1 : Int32) (p2 : Int32) : Option (Int32 × lh_S) :=
  dc_let (pvI S 10 t 0 (0 : Int32)) fun S1 =>
  dc_bd (f_X10_isLoader n S1 t p1) fun r3 S4 =>
  dc_if (r3 = 0) (
  some ((-2 : Int32), S4)) (
  dc_bd (f_X10_isName n S4 p2) fun r9 S10 =>
  dc_if (r9 = 0) (
  some ((-3 : Int32), S10)) (
  dc_bd (f_X10_goes n S10 t (0 : Int32) p1 p2) fun r15 S16 =>
  some (r15, S16)))
set_option maxHeartbeats 1000000 in
theorem m_X10_load {n : Nat} {S : lh_S} {t : Nat} {p1 : Int32} {p2 : Int32} {r : Int32} {S' : lh_S} (hf : f_X10_load n S t p1 p2 = some (r, S')) : ∀ b, gvN S b ≤ gvN S' b := by
  have hm : ∀ b, gvN S b ≤ gvN S b := fun _ => Nat.le_refl _
  unfold f_X10_load at hf
  obtain ⟨S1, eS1, hf⟩ := dc_let_ok hf
  have hm := lh_le_trans hm (show ∀ b, gvN S b ≤ gvN S1 b from by rw [eS1]; exact lh_mI)
  obtain ⟨r3, S4, k5, hf⟩ := dc_bd_ok hf
  have hm := lh_le_trans hm (show ∀ b, gvN S1 b ≤ gvN S4 b from m_X10_isLoader k5)
  by_cases c8 : r3 = 0
  · replace hf := dc_if_t c8 hf
    obtain ⟨_, rfl⟩ := dc_ret hf
    exact hm
  · replace hf := dc_if_f c8 hf
    obtain ⟨r9, S10, k11, hf⟩ := dc_bd_ok hf
    have hm := lh_le_trans hm (show ∀ b, gvN S4 b ≤ gvN S10 b from m_X10_isName k11)
    by_cases c14 : r9 = 0
    · replace hf := dc_if_t c14 hf
      obtain ⟨_, rfl⟩ := dc_ret hf
      exact hm
    · replace hf := dc_if_f c14 hf
      obtain ⟨r15, S16, k17, hf⟩ := dc_bd_ok hf
      have hm := lh_le_trans hm (show ∀ b, gvN S10 b ≤ gvN S16 b from m_X10_goes k17)
      obtain ⟨_, rfl⟩ := dc_ret hf
      exact hm
set_option maxHeartbeats 1000000 in
theorem k_X10_load {n : Nat} {S : lh_S} {t : Nat} {p1 : Int32} {p2 : Int32} {r : Int32} {S' : lh_S} (hf : f_X10_load n S t p1 p2 = some (r, S')) : lh_sm10 S S' := by
  have hm : lh_sm10 S S := lh_sm10_rf
  unfold f_X10_load at hf
  obtain ⟨S1, eS1, hf⟩ := dc_let_ok hf
  have hm := lh_sm10_trans hm (show lh_sm10 S S1 from by rw [eS1]; exact (lh_sm10I (by decide)))
  obtain ⟨r3, S4, k5, hf⟩ := dc_bd_ok hf
  have hm := lh_sm10_trans hm (show lh_sm10 S1 S4 from k_X10_isLoader k5)
  by_cases c8 : r3 = 0
  · replace hf := dc_if_t c8 hf
    obtain ⟨_, rfl⟩ := dc_ret hf
    exact hm
  · replace hf := dc_if_f c8 hf
    obtain ⟨r9, S10, k11, hf⟩ := dc_bd_ok hf
    have hm := lh_sm10_trans hm (show lh_sm10 S4 S10 from k_X10_isName k11)
    by_cases c14 : r9 = 0
    · replace hf := dc_if_t c14 hf
      obtain ⟨_, rfl⟩ := dc_ret hf
      exact hm
    · replace hf := dc_if_f c14 hf
      obtain ⟨r15, S16, k17, hf⟩ := dc_bd_ok hf
      have hm := lh_sm10_trans hm (show lh_sm10 S10 S16 from k_X10_goes k17)
      obtain ⟨_, rfl⟩ := dc_ret hf
      exact hm
set_option maxHeartbeats 4000000 in
set_option maxRecDepth 100000 in
theorem c_X10_load (l : Launch) (D : va_G) (cT : Nat → ClassId) (n : Nat) (S : lh_S) (ad : Nat → Nat → Nat) (A : Nat → Prop) (sz : Nat) (hA : ∀ q, sz ≤ q → A q) (t : Nat) (p1 : Int32) (p2 : Int32) (r : Int32) (S' : lh_S) (hf : f_X10_load n S t p1 p2 = some (r, S')) (L_t : ∀ j, some t = some j → j < gvN S 10) : Met l yX10_load wsX10_load ({ frames := 4, cells := 0, slots := 0, locals := 99 } : Room) (lh_P D cT S ad A sz [lh_r ad 10 (some t), .int p1, .int p2]) (lh_Q D cT S' ad A ((∀ b, gvN S b ≤ gvN S' b) ∧ True) (some (.int r))) 0 0 A := by
  refine Met.ofW (cc := cX10_load) (maxL := 3) (ret := (some .int)) (by decide) rfl ?_
  intro p e s m args below meth c s₁ B hml hv
  obtain ⟨hargs, hsz, hW, hK, hN⟩ := hv
  have hx := B.exec
  have hb := B.bytes
  have hr := B.returns
  have hts := atoms_spec (ws := wsX10_load) B.pre
  have hown : s.vm.findClass RX10 = some m.cls := findClass_of_methodNamed B.named
  have hlocks := B.notSynchronized
  have hA : ∀ q, s.heap.size ≤ q → A q := fun q h => hA q (by rw [← hsz]; exact h)
  have ok := lh_W_ok hW
  have hm : ∀ b, gvN S b ≤ gvN S b := fun _ => Nat.le_refl _
  obtain ⟨ls, hent, hl⟩ := lh_entry m args [lh_r ad 10 (some t), .int p1, .int p2] 3 [(0, lh_r ad 10 (some t)), (1, .int p1), (2, .int p2)] hargs (by simp [lv_args, lh_cat_r, lh_cat_i, lh_cat_j]) (by simp [lg_sl, lh_cat_r, lh_cat_i, lh_cat_j])
  rw [hent]
  generalize hH : s.heap = H at hW ⊢
  have hS : va_S A s.heap H [] := by rw [← hH]; exact va_S.rf
  unfold f_X10_load at hf
  refine lh_aload_n hx hb dX10_load_0 rfl (lv_at hl 0 rfl) ?_
  refine lv_iconst (v := 0) hx hb dX10_load_1 (by decide) ?_
  obtain ⟨S1, eS1, hf⟩ := dc_let_ok hf
  refine lh_put (S' := S1) (a := 10) (k := 0) (N := 42) (C := RX10) (T := TX10) (own := RX10) (ref := "LoaderModelsModel") (ty := .int) hx hb hts (fun _ h => (List.mem_cons_of_mem _ (List.mem_append_right _ h))) tyX10 tyX10_ok nmX10 hown hK hW hS rfl (L_t _ rfl) rfl rfl rfl (by decide) (hts (.fieldLink RX10 1 "LoaderModelsModel" "thrown" "I") (List.mem_cons_of_mem _ (List.mem_append_left _ (List.mem_append_left _ (List.mem_of_getElem? (i := 0) rfl))))) (fun _ h9 => h9) (Or.inl rfl) (by decide +kernel) rfl rfl (fun q9 => by rw [eS1]; exact lh_chI rfl q9) dX10_load_2 (fun H locs hW hS => ?_)
  have m2 : ∀ b, gvN S b ≤ gvN S1 b := by rw [eS1]; exact lh_mI
  have L_t : ∀ j, some t = some j → j < gvN S1 10 := fun j h => Nat.lt_of_lt_of_le (L_t j h) (m2 _)
  have hm : ∀ b, gvN S b ≤ gvN S1 b := lh_le_trans hm m2
  have ok := lh_W_ok hW
  refine lh_aload_n hx hb dX10_load_5 rfl (lv_at hl 0 rfl) ?_
  refine lv_iload_n hx hb dX10_load_6 rfl (lv_at hl 1 rfl) ?_
  obtain ⟨r3, S4, k5, hf⟩ := dc_bd_ok hf
  refine lh_call (S' := S4) (lh_rv ⟨hx, hb, hml, hown, hts⟩ rfl (As := [.int p1]) (rest := []) (k := 10) (c_X10_isLoader l D cT n S1 ad A H.size (fun q9 h9 => hA q9 (Nat.le_trans hS.1 h9)) t p1 r3 S4 k5 L_t) (cwV 1 hts gX10_load_X10_isLoader rfl rfl rfl (by decide +kernel) ⟨Nat.le_of_ble_eq_true rfl, Nat.le_of_ble_eq_true rfl⟩) hK hN hW (L_t _ rfl) rfl rfl rfl hl.1 rfl (by simp [lh_cat_r, lh_cat_i, lh_cat_j]) dX10_load_7 ⟨Nat.le_of_ble_eq_true rfl, Nat.le_of_ble_eq_true rfl⟩) hS (fun H locs hX hW hS => ?_)
  refine W.widen (k := 0) (n := 0) (by omega) (by omega) ?_
  show W _ _ _ _ _ _ _ _ _ _ _ _ _ _ _ (F0 m 10 ls [.int r3])
  have m6 : ∀ b, gvN S1 b ≤ gvN S4 b := hX.1
  have L_t : ∀ j, some t = some j → j < gvN S4 10 := fun j h => Nat.lt_of_lt_of_le (L_t j h) (m6 _)
  have hm : ∀ b, gvN S b ≤ gvN S4 b := lh_le_trans hm m6
  have ok := lh_W_ok hW
  have z7 := hX.2
  refine lv_if_ne (tgt := 16) hx hb dX10_load_10 (by decide) (fun c8 => ?_) (fun c8 => ?_)
  · replace hf := dc_if_f c8 hf
    refine lv_iload_n hx hb dX10_load_16 rfl (lv_at hl 2 rfl) ?_
    obtain ⟨r9, S10, k11, hf⟩ := dc_bd_ok hf
    refine lh_call (S' := S10) (lh_rs ⟨hx, hb, hml, hown, hts⟩ (As := [.int p2]) (rest := []) (c_X10_isName l D cT n S4 ad A H.size (fun q9 h9 => hA q9 (Nat.le_trans hS.1 h9)) p2 r9 S10 k11 ) (va_cwS 1 hts gX10_load_X10_isName rfl rfl rfl (by decide +kernel) ⟨Nat.le_of_ble_eq_true rfl, Nat.le_of_ble_eq_true rfl⟩) hK hN hW rfl hl.1 rfl (by simp [lh_cat_r, lh_cat_i, lh_cat_j]) dX10_load_17 ⟨Nat.le_of_ble_eq_true rfl, Nat.le_of_ble_eq_true rfl⟩) hS (fun H locs hX hW hS => ?_)
    refine W.widen (k := 0) (n := 0) (by omega) (by omega) ?_
    show W _ _ _ _ _ _ _ _ _ _ _ _ _ _ _ (F0 m 20 ls [.int r9])
    have m12 : ∀ b, gvN S4 b ≤ gvN S10 b := hX.1
    have L_t : ∀ j, some t = some j → j < gvN S10 10 := fun j h => Nat.lt_of_lt_of_le (L_t j h) (m12 _)
    have hm : ∀ b, gvN S b ≤ gvN S10 b := lh_le_trans hm m12
    have ok := lh_W_ok hW
    have z13 := hX.2
    refine lv_if_eq (tgt := 33) hx hb dX10_load_20 (by decide) (fun c14 => ?_) (fun c14 => ?_)
    · replace hf := dc_if_t c14 hf
      refine lv_bipush (v := -3) hx hb dX10_load_33 (by decide) ?_
      obtain ⟨rfl, rfl⟩ := dc_ret hf
      exact W.iret (v := (-3 : Int32)) hx hb hr (fun t9 ht9 hW9 => ⟨⟨rfl, ⟨hm, trivial⟩, by rw [ht9]; exact hW⟩, hS.F ht9⟩) hS.2.2 dX10_load_35
    · replace hf := dc_if_f c14 hf
      refine lh_aload_n hx hb dX10_load_23 rfl (lv_at hl 0 rfl) ?_
      refine lv_iconst (v := 0) hx hb dX10_load_24 (by decide) ?_
      refine lv_iload_n hx hb dX10_load_25 rfl (lv_at hl 1 rfl) ?_
      refine lv_iload_n hx hb dX10_load_26 rfl (lv_at hl 2 rfl) ?_
      obtain ⟨r15, S16, k17, hf⟩ := dc_bd_ok hf
      refine lh_call (S' := S16) (lh_rv ⟨hx, hb, hml, hown, hts⟩ rfl (As := [.int (0 : Int32), .int p1, .int p2]) (rest := []) (k := 10) (c_X10_goes l D cT n S10 ad A H.size (fun q9 h9 => hA q9 (Nat.le_trans hS.1 h9)) t (0 : Int32) p1 p2 r15 S16 k17 L_t) (cwV 3 hts gX10_load_X10_goes rfl rfl rfl (by decide +kernel) ⟨Nat.le_of_ble_eq_true rfl, Nat.le_of_ble_eq_true rfl⟩) hK hN hW (L_t _ rfl) rfl rfl rfl hl.1 rfl (by simp [lh_cat_r, lh_cat_i, lh_cat_j]) dX10_load_27 ⟨Nat.le_of_ble_eq_true rfl, Nat.le_of_ble_eq_true rfl⟩) hS (fun H locs hX hW hS => ?_)
      refine W.widen (k := 0) (n := 0) (by omega) (by omega) ?_
      show W _ _ _ _ _ _ _ _ _ _ _ _ _ _ _ (F0 m 30 ls [.int r15])
      have m18 : ∀ b, gvN S10 b ≤ gvN S16 b := hX.1
      have L_t : ∀ j, some t = some j → j < gvN S16 10 := fun j h => Nat.lt_of_lt_of_le (L_t j h) (m18 _)
      have hm : ∀ b, gvN S b ≤ gvN S16 b := lh_le_trans hm m18
      have ok := lh_W_ok hW
      refine lv_goto (tgt := 35) hx hb dX10_load_30 (by decide) ?_
      obtain ⟨rfl, rfl⟩ := dc_ret hf
      exact W.iret (v := r15) hx hb hr (fun t9 ht9 hW9 => ⟨⟨rfl, ⟨hm, trivial⟩, by rw [ht9]; exact hW⟩, hS.F ht9⟩) hS.2.2 dX10_load_35
  · replace hf := dc_if_t c8 hf
    refine lv_bipush (v := -2) hx hb dX10_load_13 (by decide) ?_
    obtain ⟨rfl, rfl⟩ := dc_ret hf
    exact W.iret (v := (-2 : Int32)) hx hb hr (fun t9 ht9 hW9 => ⟨⟨rfl, ⟨hm, trivial⟩, by rw [ht9]; exact hW⟩, hS.F ht9⟩) hS.2.2 dX10_load_15
def f_X10_define (n : Nat) (S : lh_S) (t : Nat) (p1 : Int32) (p2 : Int32) : Option (Int32 × lh_S) :=
  dc_let (pvI S 10 t 0 (0 : Int32)) fun S1 =>
  dc_bd (f_X10_isLoader n S1 t p1) fun r3 S4 =>
  dc_if (r3 = 0) (
  some ((-2 : Int32), S4)) (
  dc_bd (f_X10_isFile n S4 t p2) fun r9 S10 =>
  dc_if (r9 = 0) (
  some ((-2 : Int32), S10)) (
  dc_bd (f_X10_goes n S10 t (1 : Int32) p1 p2) fun r15 S16 =>
  some (r15, S16)))
set_option maxHeartbeats 1000000 in
theorem m_X10_define {n : Nat} {S : lh_S} {t : Nat} {p1 : Int32} {p2 : Int32} {r : Int32} {S' : lh_S} (hf : f_X10_define n S t p1 p2 = some (r, S')) : ∀ b, gvN S b ≤ gvN S' b := by
  have hm : ∀ b, gvN S b ≤ gvN S b := fun _ => Nat.le_refl _
  unfold f_X10_define at hf
  obtain ⟨S1, eS1, hf⟩ := dc_let_ok hf
  have hm := lh_le_trans hm (show ∀ b, gvN S b ≤ gvN S1 b from by rw [eS1]; exact lh_mI)
  obtain ⟨r3, S4, k5, hf⟩ := dc_bd_ok hf
  have hm := lh_le_trans hm (show ∀ b, gvN S1 b ≤ gvN S4 b from m_X10_isLoader k5)
  by_cases c8 : r3 = 0
  · replace hf := dc_if_t c8 hf
    obtain ⟨_, rfl⟩ := dc_ret hf
    exact hm
  · replace hf := dc_if_f c8 hf
    obtain ⟨r9, S10, k11, hf⟩ := dc_bd_ok hf
    have hm := lh_le_trans hm (show ∀ b, gvN S4 b ≤ gvN S10 b from m_X10_isFile k11)
    by_cases c14 : r9 = 0
    · replace hf := dc_if_t c14 hf
      obtain ⟨_, rfl⟩ := dc_ret hf
      exact hm
    · replace hf := dc_if_f c14 hf
      obtain ⟨r15, S16, k17, hf⟩ := dc_bd_ok hf
      have hm := lh_le_trans hm (show ∀ b, gvN S10 b ≤ gvN S16 b from m_X10_goes k17)
      obtain ⟨_, rfl⟩ := dc_ret hf
      exact hm
set_option maxHeartbeats 1000000 in
theorem k_X10_define {n : Nat} {S : lh_S} {t : Nat} {p1 : Int32} {p2 : Int32} {r : Int32} {S' : lh_S} (hf : f_X10_define n S t p1 p2 = some (r, S')) : lh_sm10 S S' := by
  have hm : lh_sm10 S S := lh_sm10_rf
  unfold f_X10_define at hf
  obtain ⟨S1, eS1, hf⟩ := dc_let_ok hf
  have hm := lh_sm10_trans hm (show lh_sm10 S S1 from by rw [eS1]; exact (lh_sm10I (by decide)))
  obtain ⟨r3, S4, k5, hf⟩ := dc_bd_ok hf
  have hm := lh_sm10_trans hm (show lh_sm10 S1 S4 from k_X10_isLoader k5)
  by_cases c8 : r3 = 0
  · replace hf := dc_if_t c8 hf
    obtain ⟨_, rfl⟩ := dc_ret hf
    exact hm
  · replace hf := dc_if_f c8 hf
    obtain ⟨r9, S10, k11, hf⟩ := dc_bd_ok hf
    have hm := lh_sm10_trans hm (show lh_sm10 S4 S10 from k_X10_isFile k11)
    by_cases c14 : r9 = 0
    · replace hf := dc_if_t c14 hf
      obtain ⟨_, rfl⟩ := dc_ret hf
      exact hm
    · replace hf := dc_if_f c14 hf
      obtain ⟨r15, S16, k17, hf⟩ := dc_bd_ok hf
      have hm := lh_sm10_trans hm (show lh_sm10 S10 S16 from k_X10_goes k17)
      obtain ⟨_, rfl⟩ := dc_ret hf
      exact hm
set_option maxHeartbeats 4000000 in
set_option maxRecDepth 100000 in
theorem c_X10_define (l : Launch) (D : va_G) (cT : Nat → ClassId) (n : Nat) (S : lh_S) (ad : Nat → Nat → Nat) (A : Nat → Prop) (sz : Nat) (hA : ∀ q, sz ≤ q → A q) (t : Nat) (p1 : Int32) (p2 : Int32) (r : Int32) (S' : lh_S) (hf : f_X10_define n S t p1 p2 = some (r, S')) (L_t : ∀ j, some t = some j → j < gvN S 10) : Met l yX10_define wsX10_define ({ frames := 4, cells := 0, slots := 0, locals := 99 } : Room) (lh_P D cT S ad A sz [lh_r ad 10 (some t), .int p1, .int p2]) (lh_Q D cT S' ad A ((∀ b, gvN S b ≤ gvN S' b) ∧ True) (some (.int r))) 0 0 A := by
  refine Met.ofW (cc := cX10_define) (maxL := 3) (ret := (some .int)) (by decide) rfl ?_
  intro p e s m args below meth c s₁ B hml hv
  obtain ⟨hargs, hsz, hW, hK, hN⟩ := hv
  have hx := B.exec
  have hb := B.bytes
  have hr := B.returns
  have hts := atoms_spec (ws := wsX10_define) B.pre
  have hown : s.vm.findClass RX10 = some m.cls := findClass_of_methodNamed B.named
  have hlocks := B.notSynchronized
  have hA : ∀ q, s.heap.size ≤ q → A q := fun q h => hA q (by rw [← hsz]; exact h)
  have ok := lh_W_ok hW
  have hm : ∀ b, gvN S b ≤ gvN S b := fun _ => Nat.le_refl _
  obtain ⟨ls, hent, hl⟩ := lh_entry m args [lh_r ad 10 (some t), .int p1, .int p2] 3 [(0, lh_r ad 10 (some t)), (1, .int p1), (2, .int p2)] hargs (by simp [lv_args, lh_cat_r, lh_cat_i, lh_cat_j]) (by simp [lg_sl, lh_cat_r, lh_cat_i, lh_cat_j])
  rw [hent]
  generalize hH : s.heap = H at hW ⊢
  have hS : va_S A s.heap H [] := by rw [← hH]; exact va_S.rf
  unfold f_X10_define at hf
  refine lh_aload_n hx hb dX10_define_0 rfl (lv_at hl 0 rfl) ?_
  refine lv_iconst (v := 0) hx hb dX10_define_1 (by decide) ?_
  obtain ⟨S1, eS1, hf⟩ := dc_let_ok hf
  refine lh_put (S' := S1) (a := 10) (k := 0) (N := 42) (C := RX10) (T := TX10) (own := RX10) (ref := "LoaderModelsModel") (ty := .int) hx hb hts (fun _ h => (List.mem_cons_of_mem _ (List.mem_append_right _ h))) tyX10 tyX10_ok nmX10 hown hK hW hS rfl (L_t _ rfl) rfl rfl rfl (by decide) (hts (.fieldLink RX10 1 "LoaderModelsModel" "thrown" "I") (List.mem_cons_of_mem _ (List.mem_append_left _ (List.mem_append_left _ (List.mem_of_getElem? (i := 0) rfl))))) (fun _ h9 => h9) (Or.inl rfl) (by decide +kernel) rfl rfl (fun q9 => by rw [eS1]; exact lh_chI rfl q9) dX10_define_2 (fun H locs hW hS => ?_)
  have m2 : ∀ b, gvN S b ≤ gvN S1 b := by rw [eS1]; exact lh_mI
  have L_t : ∀ j, some t = some j → j < gvN S1 10 := fun j h => Nat.lt_of_lt_of_le (L_t j h) (m2 _)
  have hm : ∀ b, gvN S b ≤ gvN S1 b := lh_le_trans hm m2
  have ok := lh_W_ok hW
  refine lh_aload_n hx hb dX10_define_5 rfl (lv_at hl 0 rfl) ?_
  refine lv_iload_n hx hb dX10_define_6 rfl (lv_at hl 1 rfl) ?_
  obtain ⟨r3, S4, k5, hf⟩ := dc_bd_ok hf
  refine lh_call (S' := S4) (lh_rv ⟨hx, hb, hml, hown, hts⟩ rfl (As := [.int p1]) (rest := []) (k := 10) (c_X10_isLoader l D cT n S1 ad A H.size (fun q9 h9 => hA q9 (Nat.le_trans hS.1 h9)) t p1 r3 S4 k5 L_t) (cwV 1 hts gX10_define_X10_isLoader rfl rfl rfl (by decide +kernel) ⟨Nat.le_of_ble_eq_true rfl, Nat.le_of_ble_eq_true rfl⟩) hK hN hW (L_t _ rfl) rfl rfl rfl hl.1 rfl (by simp [lh_cat_r, lh_cat_i, lh_cat_j]) dX10_define_7 ⟨Nat.le_of_ble_eq_true rfl, Nat.le_of_ble_eq_true rfl⟩) hS (fun H locs hX hW hS => ?_)
  refine W.widen (k := 0) (n := 0) (by omega) (by omega) ?_
  show W _ _ _ _ _ _ _ _ _ _ _ _ _ _ _ (F0 m 10 ls [.int r3])
  have m6 : ∀ b, gvN S1 b ≤ gvN S4 b := hX.1
  have L_t : ∀ j, some t = some j → j < gvN S4 10 := fun j h => Nat.lt_of_lt_of_le (L_t j h) (m6 _)
  have hm : ∀ b, gvN S b ≤ gvN S4 b := lh_le_trans hm m6
  have ok := lh_W_ok hW
  have z7 := hX.2
  refine lv_if_eq (tgt := 31) hx hb dX10_define_10 (by decide) (fun c8 => ?_) (fun c8 => ?_)
  · replace hf := dc_if_t c8 hf
    refine lv_bipush (v := -2) hx hb dX10_define_31 (by decide) ?_
    obtain ⟨rfl, rfl⟩ := dc_ret hf
    exact W.iret (v := (-2 : Int32)) hx hb hr (fun t9 ht9 hW9 => ⟨⟨rfl, ⟨hm, trivial⟩, by rw [ht9]; exact hW⟩, hS.F ht9⟩) hS.2.2 dX10_define_33
  · replace hf := dc_if_f c8 hf
    refine lh_aload_n hx hb dX10_define_13 rfl (lv_at hl 0 rfl) ?_
    refine lv_iload_n hx hb dX10_define_14 rfl (lv_at hl 2 rfl) ?_
    obtain ⟨r9, S10, k11, hf⟩ := dc_bd_ok hf
    refine lh_call (S' := S10) (lh_rv ⟨hx, hb, hml, hown, hts⟩ rfl (As := [.int p2]) (rest := []) (k := 10) (c_X10_isFile l D cT n S4 ad A H.size (fun q9 h9 => hA q9 (Nat.le_trans hS.1 h9)) t p2 r9 S10 k11 L_t) (cwV 1 hts gX10_define_X10_isFile rfl rfl rfl (by decide +kernel) ⟨Nat.le_of_ble_eq_true rfl, Nat.le_of_ble_eq_true rfl⟩) hK hN hW (L_t _ rfl) rfl rfl rfl hl.1 rfl (by simp [lh_cat_r, lh_cat_i, lh_cat_j]) dX10_define_15 ⟨Nat.le_of_ble_eq_true rfl, Nat.le_of_ble_eq_true rfl⟩) hS (fun H locs hX hW hS => ?_)
    refine W.widen (k := 0) (n := 0) (by omega) (by omega) ?_
    show W _ _ _ _ _ _ _ _ _ _ _ _ _ _ _ (F0 m 18 ls [.int r9])
    have m12 : ∀ b, gvN S4 b ≤ gvN S10 b := hX.1
    have L_t : ∀ j, some t = some j → j < gvN S10 10 := fun j h => Nat.lt_of_lt_of_le (L_t j h) (m12 _)
    have hm : ∀ b, gvN S b ≤ gvN S10 b := lh_le_trans hm m12
    have ok := lh_W_ok hW
    have z13 := hX.2
    refine lv_if_eq (tgt := 31) hx hb dX10_define_18 (by decide) (fun c14 => ?_) (fun c14 => ?_)
    · replace hf := dc_if_t c14 hf
      refine lv_bipush (v := -2) hx hb dX10_define_31 (by decide) ?_
      obtain ⟨rfl, rfl⟩ := dc_ret hf
      exact W.iret (v := (-2 : Int32)) hx hb hr (fun t9 ht9 hW9 => ⟨⟨rfl, ⟨hm, trivial⟩, by rw [ht9]; exact hW⟩, hS.F ht9⟩) hS.2.2 dX10_define_33
    · replace hf := dc_if_f c14 hf
      refine lh_aload_n hx hb dX10_define_21 rfl (lv_at hl 0 rfl) ?_
      refine lv_iconst (v := 1) hx hb dX10_define_22 (by decide) ?_
      refine lv_iload_n hx hb dX10_define_23 rfl (lv_at hl 1 rfl) ?_
      refine lv_iload_n hx hb dX10_define_24 rfl (lv_at hl 2 rfl) ?_
      obtain ⟨r15, S16, k17, hf⟩ := dc_bd_ok hf
      refine lh_call (S' := S16) (lh_rv ⟨hx, hb, hml, hown, hts⟩ rfl (As := [.int (1 : Int32), .int p1, .int p2]) (rest := []) (k := 10) (c_X10_goes l D cT n S10 ad A H.size (fun q9 h9 => hA q9 (Nat.le_trans hS.1 h9)) t (1 : Int32) p1 p2 r15 S16 k17 L_t) (cwV 3 hts gX10_define_X10_goes rfl rfl rfl (by decide +kernel) ⟨Nat.le_of_ble_eq_true rfl, Nat.le_of_ble_eq_true rfl⟩) hK hN hW (L_t _ rfl) rfl rfl rfl hl.1 rfl (by simp [lh_cat_r, lh_cat_i, lh_cat_j]) dX10_define_25 ⟨Nat.le_of_ble_eq_true rfl, Nat.le_of_ble_eq_true rfl⟩) hS (fun H locs hX hW hS => ?_)
      refine W.widen (k := 0) (n := 0) (by omega) (by omega) ?_
      show W _ _ _ _ _ _ _ _ _ _ _ _ _ _ _ (F0 m 28 ls [.int r15])
      have m18 : ∀ b, gvN S10 b ≤ gvN S16 b := hX.1
      have L_t : ∀ j, some t = some j → j < gvN S16 10 := fun j h => Nat.lt_of_lt_of_le (L_t j h) (m18 _)
      have hm : ∀ b, gvN S b ≤ gvN S16 b := lh_le_trans hm m18
      have ok := lh_W_ok hW
      refine lv_goto (tgt := 33) hx hb dX10_define_28 (by decide) ?_
      obtain ⟨rfl, rfl⟩ := dc_ret hf
      exact W.iret (v := r15) hx hb hr (fun t9 ht9 hW9 => ⟨⟨rfl, ⟨hm, trivial⟩, by rw [ht9]; exact hW⟩, hS.F ht9⟩) hS.2.2 dX10_define_33
def f_X10_known (n : Nat) (S : lh_S) (t : Nat) (p1 : Int32) (p2 : Int32) : Option (Int32 × lh_S) :=
  dc_let (pvI S 10 t 0 (0 : Int32)) fun S1 =>
  dc_bd (f_X10_isLoader n S1 t p1) fun r3 S4 =>
  dc_if (r3 = 0) (
  some ((-2 : Int32), S4)) (
  dc_bd (f_X10_isName n S4 p2) fun r9 S10 =>
  dc_if (r9 = 0) (
  some ((-3 : Int32), S10)) (
  dc_nn (gvR S10 10 t 14) fun x16 =>
  dc_gd ((((40 : Int32) * p1) + p2) < 0 ∨ gvL S10 44 x16 ≤ ((((40 : Int32) * p1) + p2)).toNatClampNeg) (
  dc_let ((gvI S10 44 x16 ((((40 : Int32) * p1) + p2)).toNatClampNeg) - (1 : Int32)) fun v18 =>
  some (v18, S10))))
set_option maxHeartbeats 1000000 in
theorem m_X10_known {n : Nat} {S : lh_S} {t : Nat} {p1 : Int32} {p2 : Int32} {r : Int32} {S' : lh_S} (hf : f_X10_known n S t p1 p2 = some (r, S')) : ∀ b, gvN S b ≤ gvN S' b := by
  have hm : ∀ b, gvN S b ≤ gvN S b := fun _ => Nat.le_refl _
  unfold f_X10_known at hf
  obtain ⟨S1, eS1, hf⟩ := dc_let_ok hf
  have hm := lh_le_trans hm (show ∀ b, gvN S b ≤ gvN S1 b from by rw [eS1]; exact lh_mI)
  obtain ⟨r3, S4, k5, hf⟩ := dc_bd_ok hf
  have hm := lh_le_trans hm (show ∀ b, gvN S1 b ≤ gvN S4 b from m_X10_isLoader k5)
  by_cases c8 : r3 = 0
  · replace hf := dc_if_t c8 hf
    obtain ⟨_, rfl⟩ := dc_ret hf
    exact hm
  · replace hf := dc_if_f c8 hf
    obtain ⟨r9, S10, k11, hf⟩ := dc_bd_ok hf
    have hm := lh_le_trans hm (show ∀ b, gvN S4 b ≤ gvN S10 b from m_X10_isName k11)
    by_cases c14 : r9 = 0
    · replace hf := dc_if_t c14 hf
      obtain ⟨_, rfl⟩ := dc_ret hf
      exact hm
    · replace hf := dc_if_f c14 hf
      obtain ⟨x16, hx16, hf⟩ := dc_nn_ok hf
      obtain ⟨g17, hf⟩ := dc_gd_ok hf
      obtain ⟨v18, hv18, hf⟩ := dc_let_ok hf
      obtain ⟨_, rfl⟩ := dc_ret hf
      exact hm
set_option maxHeartbeats 1000000 in
theorem k_X10_known {n : Nat} {S : lh_S} {t : Nat} {p1 : Int32} {p2 : Int32} {r : Int32} {S' : lh_S} (hf : f_X10_known n S t p1 p2 = some (r, S')) : lh_sm10 S S' := by
  have hm : lh_sm10 S S := lh_sm10_rf
  unfold f_X10_known at hf
  obtain ⟨S1, eS1, hf⟩ := dc_let_ok hf
  have hm := lh_sm10_trans hm (show lh_sm10 S S1 from by rw [eS1]; exact (lh_sm10I (by decide)))
  obtain ⟨r3, S4, k5, hf⟩ := dc_bd_ok hf
  have hm := lh_sm10_trans hm (show lh_sm10 S1 S4 from k_X10_isLoader k5)
  by_cases c8 : r3 = 0
  · replace hf := dc_if_t c8 hf
    obtain ⟨_, rfl⟩ := dc_ret hf
    exact hm
  · replace hf := dc_if_f c8 hf
    obtain ⟨r9, S10, k11, hf⟩ := dc_bd_ok hf
    have hm := lh_sm10_trans hm (show lh_sm10 S4 S10 from k_X10_isName k11)
    by_cases c14 : r9 = 0
    · replace hf := dc_if_t c14 hf
      obtain ⟨_, rfl⟩ := dc_ret hf
      exact hm
    · replace hf := dc_if_f c14 hf
      obtain ⟨x16, hx16, hf⟩ := dc_nn_ok hf
      obtain ⟨g17, hf⟩ := dc_gd_ok hf
      obtain ⟨v18, hv18, hf⟩ := dc_let_ok hf
      obtain ⟨_, rfl⟩ := dc_ret hf
      exact hm
set_option maxHeartbeats 4000000 in
set_option maxRecDepth 100000 in
theorem c_X10_known (l : Launch) (D : va_G) (cT : Nat → ClassId) (n : Nat) (S : lh_S) (ad : Nat → Nat → Nat) (A : Nat → Prop) (sz : Nat) (hA : ∀ q, sz ≤ q → A q) (t : Nat) (p1 : Int32) (p2 : Int32) (r : Int32) (S' : lh_S) (hf : f_X10_known n S t p1 p2 = some (r, S')) (L_t : ∀ j, some t = some j → j < gvN S 10) : Met l yX10_known wsX10_known ({ frames := 2, cells := 0, slots := 0, locals := 46 } : Room) (lh_P D cT S ad A sz [lh_r ad 10 (some t), .int p1, .int p2]) (lh_Q D cT S' ad A ((∀ b, gvN S b ≤ gvN S' b) ∧ True) (some (.int r))) 0 0 A := by
  refine Met.ofW (cc := cX10_known) (maxL := 3) (ret := (some .int)) (by decide) rfl ?_
  intro p e s m args below meth c s₁ B hml hv
  obtain ⟨hargs, hsz, hW, hK, hN⟩ := hv
  have hx := B.exec
  have hb := B.bytes
  have hr := B.returns
  have hts := atoms_spec (ws := wsX10_known) B.pre
  have hown : s.vm.findClass RX10 = some m.cls := findClass_of_methodNamed B.named
  have hlocks := B.notSynchronized
  have hA : ∀ q, s.heap.size ≤ q → A q := fun q h => hA q (by rw [← hsz]; exact h)
  have ok := lh_W_ok hW
  have hm : ∀ b, gvN S b ≤ gvN S b := fun _ => Nat.le_refl _
  obtain ⟨ls, hent, hl⟩ := lh_entry m args [lh_r ad 10 (some t), .int p1, .int p2] 3 [(0, lh_r ad 10 (some t)), (1, .int p1), (2, .int p2)] hargs (by simp [lv_args, lh_cat_r, lh_cat_i, lh_cat_j]) (by simp [lg_sl, lh_cat_r, lh_cat_i, lh_cat_j])
  rw [hent]
  generalize hH : s.heap = H at hW ⊢
  have hS : va_S A s.heap H [] := by rw [← hH]; exact va_S.rf
  unfold f_X10_known at hf
  refine lh_aload_n hx hb dX10_known_0 rfl (lv_at hl 0 rfl) ?_
  refine lv_iconst (v := 0) hx hb dX10_known_1 (by decide) ?_
  obtain ⟨S1, eS1, hf⟩ := dc_let_ok hf
  refine lh_put (S' := S1) (a := 10) (k := 0) (N := 42) (C := RX10) (T := TX10) (own := RX10) (ref := "LoaderModelsModel") (ty := .int) hx hb hts (fun _ h => (List.mem_cons_of_mem _ (List.mem_append_right _ h))) tyX10 tyX10_ok nmX10 hown hK hW hS rfl (L_t _ rfl) rfl rfl rfl (by decide) (hts (.fieldLink RX10 1 "LoaderModelsModel" "thrown" "I") (List.mem_cons_of_mem _ (List.mem_append_left _ (List.mem_of_getElem? (i := 0) rfl)))) (fun _ h9 => h9) (Or.inl rfl) (by decide +kernel) rfl rfl (fun q9 => by rw [eS1]; exact lh_chI rfl q9) dX10_known_2 (fun H locs hW hS => ?_)
  have m2 : ∀ b, gvN S b ≤ gvN S1 b := by rw [eS1]; exact lh_mI
  have L_t : ∀ j, some t = some j → j < gvN S1 10 := fun j h => Nat.lt_of_lt_of_le (L_t j h) (m2 _)
  have hm : ∀ b, gvN S b ≤ gvN S1 b := lh_le_trans hm m2
  have ok := lh_W_ok hW
  refine lh_aload_n hx hb dX10_known_5 rfl (lv_at hl 0 rfl) ?_
  refine lv_iload_n hx hb dX10_known_6 rfl (lv_at hl 1 rfl) ?_
  obtain ⟨r3, S4, k5, hf⟩ := dc_bd_ok hf
  refine lh_call (S' := S4) (lh_rv ⟨hx, hb, hml, hown, hts⟩ rfl (As := [.int p1]) (rest := []) (k := 10) (c_X10_isLoader l D cT n S1 ad A H.size (fun q9 h9 => hA q9 (Nat.le_trans hS.1 h9)) t p1 r3 S4 k5 L_t) (cwV 1 hts gX10_known_X10_isLoader rfl rfl rfl (by decide +kernel) ⟨Nat.le_of_ble_eq_true rfl, Nat.le_of_ble_eq_true rfl⟩) hK hN hW (L_t _ rfl) rfl rfl rfl hl.1 rfl (by simp [lh_cat_r, lh_cat_i, lh_cat_j]) dX10_known_7 ⟨Nat.le_of_ble_eq_true rfl, Nat.le_of_ble_eq_true rfl⟩) hS (fun H locs hX hW hS => ?_)
  refine W.widen (k := 0) (n := 0) (by omega) (by omega) ?_
  show W _ _ _ _ _ _ _ _ _ _ _ _ _ _ _ (F0 m 10 ls [.int r3])
  have m6 : ∀ b, gvN S1 b ≤ gvN S4 b := hX.1
  have L_t : ∀ j, some t = some j → j < gvN S4 10 := fun j h => Nat.lt_of_lt_of_le (L_t j h) (m6 _)
  have hm : ∀ b, gvN S b ≤ gvN S4 b := lh_le_trans hm m6
  have ok := lh_W_ok hW
  have z7 := hX.2
  refine lv_if_ne (tgt := 16) hx hb dX10_known_10 (by decide) (fun c8 => ?_) (fun c8 => ?_)
  · replace hf := dc_if_f c8 hf
    refine lv_iload_n hx hb dX10_known_16 rfl (lv_at hl 2 rfl) ?_
    obtain ⟨r9, S10, k11, hf⟩ := dc_bd_ok hf
    refine lh_call (S' := S10) (lh_rs ⟨hx, hb, hml, hown, hts⟩ (As := [.int p2]) (rest := []) (c_X10_isName l D cT n S4 ad A H.size (fun q9 h9 => hA q9 (Nat.le_trans hS.1 h9)) p2 r9 S10 k11 ) (va_cwS 1 hts gX10_known_X10_isName rfl rfl rfl (by decide +kernel) ⟨Nat.le_of_ble_eq_true rfl, Nat.le_of_ble_eq_true rfl⟩) hK hN hW rfl hl.1 rfl (by simp [lh_cat_r, lh_cat_i, lh_cat_j]) dX10_known_17 ⟨Nat.le_of_ble_eq_true rfl, Nat.le_of_ble_eq_true rfl⟩) hS (fun H locs hX hW hS => ?_)
    refine W.widen (k := 0) (n := 0) (by omega) (by omega) ?_
    show W _ _ _ _ _ _ _ _ _ _ _ _ _ _ _ (F0 m 20 ls [.int r9])
    have m12 : ∀ b, gvN S4 b ≤ gvN S10 b := hX.1
    have L_t : ∀ j, some t = some j → j < gvN S10 10 := fun j h => Nat.lt_of_lt_of_le (L_t j h) (m12 _)
    have hm : ∀ b, gvN S b ≤ gvN S10 b := lh_le_trans hm m12
    have ok := lh_W_ok hW
    have z13 := hX.2
    refine lv_if_eq (tgt := 39) hx hb dX10_known_20 (by decide) (fun c14 => ?_) (fun c14 => ?_)
    · replace hf := dc_if_t c14 hf
      refine lv_bipush (v := -3) hx hb dX10_known_39 (by decide) ?_
      obtain ⟨rfl, rfl⟩ := dc_ret hf
      exact W.iret (v := (-3 : Int32)) hx hb hr (fun t9 ht9 hW9 => ⟨⟨rfl, ⟨hm, trivial⟩, by rw [ht9]; exact hW⟩, hS.F ht9⟩) hS.2.2 dX10_known_41
    · replace hf := dc_if_f c14 hf
      refine lh_aload_n hx hb dX10_known_23 rfl (lv_at hl 0 rfl) ?_
      have L15 : ∀ j, gvR S10 10 t 14 = some j → j < gvN S10 44 := fun j h => ok _ _ _ _ j (L_t _ rfl) rfl h
      refine lh_get (a := 10) (k := 14) (N := 42) (C := RX10) (T := TX10) (own := RX10) (ref := "LoaderModelsModel") hx hb hts (fun _ h => (List.mem_cons_of_mem _ (List.mem_append_right _ h))) hown hK hW rfl (L_t _ rfl) rfl rfl rfl (by decide) (hts (.fieldLink RX10 48 "LoaderModelsModel" "knows" "[I") (List.mem_cons_of_mem _ (List.mem_append_left _ (List.mem_of_getElem? (i := 1) rfl)))) (fun _ h9 => h9) dX10_known_24 (v := lh_r ad 44 (gvR S10 10 t 14)) rfl ?_
      refine lv_bipush (v := 40) hx hb dX10_known_27 (by decide) ?_
      refine lv_iload_n hx hb dX10_known_29 rfl (lv_at hl 1 rfl) ?_
      refine lv_imul hx hb dX10_known_30 ?_
      refine lv_iload_n hx hb dX10_known_31 rfl (lv_at hl 2 rfl) ?_
      refine lv_iadd hx hb dX10_known_32 ?_
      obtain ⟨x16, hx16, hf⟩ := dc_nn_ok hf
      obtain ⟨g17, hf⟩ := dc_gd_ok hf
      refine lh_ald_i (a := 44) hx hb hK hW hx16 (L15 _ hx16) rfl rfl g17 dX10_known_33 ?_
      refine lv_iconst (v := 1) hx hb dX10_known_34 (by decide) ?_
      refine lv_isub hx hb dX10_known_35 ?_
      refine lv_topi (fun v18 hv18 => ?_)
      replace hf := dc_let_e hv18 hf
      refine lv_goto (tgt := 41) hx hb dX10_known_36 (by decide) ?_
      obtain ⟨rfl, rfl⟩ := dc_ret hf
      exact W.iret (v := v18) hx hb hr (fun t9 ht9 hW9 => ⟨⟨rfl, ⟨hm, trivial⟩, by rw [ht9]; exact hW⟩, hS.F ht9⟩) hS.2.2 dX10_known_41
  · replace hf := dc_if_t c8 hf
    refine lv_bipush (v := -2) hx hb dX10_known_13 (by decide) ?_
    obtain ⟨rfl, rfl⟩ := dc_ret hf
    exact W.iret (v := (-2 : Int32)) hx hb hr (fun t9 ht9 hW9 => ⟨⟨rfl, ⟨hm, trivial⟩, by rw [ht9]; exact hW⟩, hS.F ht9⟩) hS.2.2 dX10_known_15
def f_X10_agree_L169 (n : Nat) (t : Nat) (p1 : Int32) (p2 : Int32) (p3 : Int32) : Nat → lh_S → Int32 → Int32 → Int32 → Int32 → Option (Int32 × lh_S)
  | 0, _, _, _, _, _ => none
  | g + 1, S39, v40, v41, v42, v43 =>
  dc_if ((gvI S39 10 t 10) ≤ v43) (
  some ((1 : Int32), S39)) (
  dc_nn (gvR S39 10 t 16) fun x47 =>
  dc_gd ((((40 : Int32) * v43) + p3) < 0 ∨ gvL S39 46 x47 ≤ ((((40 : Int32) * v43) + p3)).toNatClampNeg) (
  dc_if ((gvI S39 46 x47 ((((40 : Int32) * v43) + p3)).toNatClampNeg) = v41) (
  dc_gd ((((40 : Int32) * v43) + p3) < 0 ∨ gvL S39 46 x47 ≤ ((((40 : Int32) * v43) + p3)).toNatClampNeg) (
  dc_let (pvI S39 46 x47 ((((40 : Int32) * v43) + p3)).toNatClampNeg v40) fun S56 =>
  f_X10_agree_L169 n t p1 p2 p3 g S56 v40 v41 v42 (v43 + (1 : Int32)))) (
  dc_gd ((((40 : Int32) * v43) + p3) < 0 ∨ gvL S39 46 x47 ≤ ((((40 : Int32) * v43) + p3)).toNatClampNeg) (
  dc_gd ((((40 : Int32) * v43) + p3) < 0 ∨ gvL S39 46 x47 ≤ ((((40 : Int32) * v43) + p3)).toNatClampNeg) (
  dc_let (pvI S39 46 x47 ((((40 : Int32) * v43) + p3)).toNatClampNeg (gvI S39 46 x47 ((((40 : Int32) * v43) + p3)).toNatClampNeg)) fun S53 =>
  f_X10_agree_L169 n t p1 p2 p3 g S53 v40 v41 v42 (v43 + (1 : Int32)))))))
theorem m_X10_agree_L169 {n : Nat} {t : Nat} {p1 : Int32} {p2 : Int32} {p3 : Int32} {r : Int32} {S' : lh_S} : ∀ (g : Nat) (S39 : lh_S) (v40 : Int32) (v41 : Int32) (v42 : Int32) (v43 : Int32), f_X10_agree_L169 n t p1 p2 p3 g S39 v40 v41 v42 v43 = some (r, S') → ∀ b, gvN S39 b ≤ gvN S' b := by
    intro g
    induction g with
    | zero => intro S39 v40 v41 v42 v43 hf; rw [f_X10_agree_L169] at hf; cases hf
    | succ g ih =>
      intro S39 v40 v41 v42 v43 hf
      rw [f_X10_agree_L169] at hf
      have hm : ∀ b, gvN S39 b ≤ gvN S39 b := fun _ => Nat.le_refl _
      by_cases c44 : (gvI S39 10 t 10) ≤ v43
      · replace hf := dc_if_t c44 hf
        obtain ⟨_, rfl⟩ := dc_ret hf
        exact hm
      · replace hf := dc_if_f c44 hf
        obtain ⟨x47, hx47, hf⟩ := dc_nn_ok hf
        obtain ⟨g48, hf⟩ := dc_gd_ok hf
        by_cases c49 : (gvI S39 46 x47 ((((40 : Int32) * v43) + p3)).toNatClampNeg) = v41
        · replace hf := dc_if_t c49 hf
          obtain ⟨g55, hf⟩ := dc_gd_ok hf
          obtain ⟨S56, eS56, hf⟩ := dc_let_ok hf
          have hm := lh_le_trans hm (show ∀ b, gvN S39 b ≤ gvN S56 b from by rw [eS56]; exact lh_mI)
          exact lh_le_trans hm (ih S56 v40 v41 v42 (v43 + (1 : Int32)) hf)
        · replace hf := dc_if_f c49 hf
          obtain ⟨g51, hf⟩ := dc_gd_ok hf
          obtain ⟨g52, hf⟩ := dc_gd_ok hf
          obtain ⟨S53, eS53, hf⟩ := dc_let_ok hf
          have hm := lh_le_trans hm (show ∀ b, gvN S39 b ≤ gvN S53 b from by rw [eS53]; exact lh_mI)
          exact lh_le_trans hm (ih S53 v40 v41 v42 (v43 + (1 : Int32)) hf)
theorem k_X10_agree_L169 {n : Nat} {t : Nat} {p1 : Int32} {p2 : Int32} {p3 : Int32} {r : Int32} {S' : lh_S} : ∀ (g : Nat) (S39 : lh_S) (v40 : Int32) (v41 : Int32) (v42 : Int32) (v43 : Int32), f_X10_agree_L169 n t p1 p2 p3 g S39 v40 v41 v42 v43 = some (r, S') → lh_sm10 S39 S' := by
    intro g
    induction g with
    | zero => intro S39 v40 v41 v42 v43 hf; rw [f_X10_agree_L169] at hf; cases hf
    | succ g ih =>
      intro S39 v40 v41 v42 v43 hf
      rw [f_X10_agree_L169] at hf
      have hm : lh_sm10 S39 S39 := lh_sm10_rf
      by_cases c44 : (gvI S39 10 t 10) ≤ v43
      · replace hf := dc_if_t c44 hf
        obtain ⟨_, rfl⟩ := dc_ret hf
        exact hm
      · replace hf := dc_if_f c44 hf
        obtain ⟨x47, hx47, hf⟩ := dc_nn_ok hf
        obtain ⟨g48, hf⟩ := dc_gd_ok hf
        by_cases c49 : (gvI S39 46 x47 ((((40 : Int32) * v43) + p3)).toNatClampNeg) = v41
        · replace hf := dc_if_t c49 hf
          obtain ⟨g55, hf⟩ := dc_gd_ok hf
          obtain ⟨S56, eS56, hf⟩ := dc_let_ok hf
          have hm := lh_sm10_trans hm (show lh_sm10 S39 S56 from by rw [eS56]; exact (lh_sm10I (by decide)))
          exact lh_sm10_trans hm (ih S56 v40 v41 v42 (v43 + (1 : Int32)) hf)
        · replace hf := dc_if_f c49 hf
          obtain ⟨g51, hf⟩ := dc_gd_ok hf
          obtain ⟨g52, hf⟩ := dc_gd_ok hf
          obtain ⟨S53, eS53, hf⟩ := dc_let_ok hf
          have hm := lh_sm10_trans hm (show lh_sm10 S39 S53 from by rw [eS53]; exact (lh_sm10I (by decide)))
          exact lh_sm10_trans hm (ih S53 v40 v41 v42 (v43 + (1 : Int32)) hf)
def f_X10_agree_L76 (n : Nat) (t : Nat) (p1 : Int32) (p2 : Int32) (p3 : Int32) : Nat → lh_S → Int32 → Int32 → Int32 → Int32 → Option (Int32 × lh_S)
  | 0, _, _, _, _, _ => none
  | g + 1, S33, v34, v35, v36, v37 =>
  dc_if ((gvI S33 10 t 10) ≤ v37) (
  f_X10_agree_L169 n t p1 p2 p3 n S33 v34 v35 v36 (0 : Int32)) (
  dc_nn (gvR S33 10 t 16) fun x59 =>
  dc_gd ((((40 : Int32) * v37) + p3) < 0 ∨ gvL S33 46 x59 ≤ ((((40 : Int32) * v37) + p3)).toNatClampNeg) (
  dc_if ((gvI S33 46 x59 ((((40 : Int32) * v37) + p3)).toNatClampNeg) = v34) (
  dc_nn (gvR S33 10 t 14) fun x63 =>
  dc_gd ((((40 : Int32) * v37) + p3) < 0 ∨ gvL S33 44 x63 ≤ ((((40 : Int32) * v37) + p3)).toNatClampNeg) (
  dc_if ((gvI S33 44 x63 ((((40 : Int32) * v37) + p3)).toNatClampNeg) ≤ 0) (
  f_X10_agree_L76 n t p1 p2 p3 g S33 v34 v35 v36 (v37 + (1 : Int32))) (
  dc_if (v36 ≤ 0) (
  dc_gd ((((40 : Int32) * v37) + p3) < 0 ∨ gvL S33 44 x63 ≤ ((((40 : Int32) * v37) + p3)).toNatClampNeg) (
  f_X10_agree_L76 n t p1 p2 p3 g S33 v34 v35 (gvI S33 44 x63 ((((40 : Int32) * v37) + p3)).toNatClampNeg) (v37 + (1 : Int32)))) (
  dc_gd ((((40 : Int32) * v37) + p3) < 0 ∨ gvL S33 44 x63 ≤ ((((40 : Int32) * v37) + p3)).toNatClampNeg) (
  dc_if ((gvI S33 44 x63 ((((40 : Int32) * v37) + p3)).toNatClampNeg) = v36) (
  dc_gd ((((40 : Int32) * v37) + p3) < 0 ∨ gvL S33 44 x63 ≤ ((((40 : Int32) * v37) + p3)).toNatClampNeg) (
  f_X10_agree_L76 n t p1 p2 p3 g S33 v34 v35 (gvI S33 44 x63 ((((40 : Int32) * v37) + p3)).toNatClampNeg) (v37 + (1 : Int32)))) (
  dc_bd (f_X10_fails n S33 t (3 : Int32)) fun r74 S75 =>
  some (r74, S75))))))) (
  dc_gd ((((40 : Int32) * v37) + p3) < 0 ∨ gvL S33 46 x59 ≤ ((((40 : Int32) * v37) + p3)).toNatClampNeg) (
  dc_if ((gvI S33 46 x59 ((((40 : Int32) * v37) + p3)).toNatClampNeg) = v35) (
  dc_nn (gvR S33 10 t 14) fun x82 =>
  dc_gd ((((40 : Int32) * v37) + p3) < 0 ∨ gvL S33 44 x82 ≤ ((((40 : Int32) * v37) + p3)).toNatClampNeg) (
  dc_if ((gvI S33 44 x82 ((((40 : Int32) * v37) + p3)).toNatClampNeg) ≤ 0) (
  f_X10_agree_L76 n t p1 p2 p3 g S33 v34 v35 v36 (v37 + (1 : Int32))) (
  dc_if (v36 ≤ 0) (
  dc_gd ((((40 : Int32) * v37) + p3) < 0 ∨ gvL S33 44 x82 ≤ ((((40 : Int32) * v37) + p3)).toNatClampNeg) (
  f_X10_agree_L76 n t p1 p2 p3 g S33 v34 v35 (gvI S33 44 x82 ((((40 : Int32) * v37) + p3)).toNatClampNeg) (v37 + (1 : Int32)))) (
  dc_gd ((((40 : Int32) * v37) + p3) < 0 ∨ gvL S33 44 x82 ≤ ((((40 : Int32) * v37) + p3)).toNatClampNeg) (
  dc_if ((gvI S33 44 x82 ((((40 : Int32) * v37) + p3)).toNatClampNeg) = v36) (
  dc_gd ((((40 : Int32) * v37) + p3) < 0 ∨ gvL S33 44 x82 ≤ ((((40 : Int32) * v37) + p3)).toNatClampNeg) (
  f_X10_agree_L76 n t p1 p2 p3 g S33 v34 v35 (gvI S33 44 x82 ((((40 : Int32) * v37) + p3)).toNatClampNeg) (v37 + (1 : Int32)))) (
  dc_bd (f_X10_fails n S33 t (3 : Int32)) fun r93 S94 =>
  some (r93, S94))))))) (
  f_X10_agree_L76 n t p1 p2 p3 g S33 v34 v35 v36 (v37 + (1 : Int32)))))))
theorem m_X10_agree_L76 {n : Nat} {t : Nat} {p1 : Int32} {p2 : Int32} {p3 : Int32} {r : Int32} {S' : lh_S} : ∀ (g : Nat) (S33 : lh_S) (v34 : Int32) (v35 : Int32) (v36 : Int32) (v37 : Int32), f_X10_agree_L76 n t p1 p2 p3 g S33 v34 v35 v36 v37 = some (r, S') → ∀ b, gvN S33 b ≤ gvN S' b := by
    intro g
    induction g with
    | zero => intro S33 v34 v35 v36 v37 hf; rw [f_X10_agree_L76] at hf; cases hf
    | succ g ih =>
      intro S33 v34 v35 v36 v37 hf
      rw [f_X10_agree_L76] at hf
      have hm : ∀ b, gvN S33 b ≤ gvN S33 b := fun _ => Nat.le_refl _
      by_cases c38 : (gvI S33 10 t 10) ≤ v37
      · replace hf := dc_if_t c38 hf
        exact lh_le_trans hm (m_X10_agree_L169 n S33 v34 v35 v36 (0 : Int32) hf)
      · replace hf := dc_if_f c38 hf
        obtain ⟨x59, hx59, hf⟩ := dc_nn_ok hf
        obtain ⟨g60, hf⟩ := dc_gd_ok hf
        by_cases c61 : (gvI S33 46 x59 ((((40 : Int32) * v37) + p3)).toNatClampNeg) = v34
        · replace hf := dc_if_t c61 hf
          obtain ⟨x63, hx63, hf⟩ := dc_nn_ok hf
          obtain ⟨g64, hf⟩ := dc_gd_ok hf
          by_cases c65 : (gvI S33 44 x63 ((((40 : Int32) * v37) + p3)).toNatClampNeg) ≤ 0
          · replace hf := dc_if_t c65 hf
            exact lh_le_trans hm (ih S33 v34 v35 v36 (v37 + (1 : Int32)) hf)
          · replace hf := dc_if_f c65 hf
            by_cases c66 : v36 ≤ 0
            · replace hf := dc_if_t c66 hf
              obtain ⟨g68, hf⟩ := dc_gd_ok hf
              exact lh_le_trans hm (ih S33 v34 v35 (gvI S33 44 x63 ((((40 : Int32) * v37) + p3)).toNatClampNeg) (v37 + (1 : Int32)) hf)
            · replace hf := dc_if_f c66 hf
              obtain ⟨g70, hf⟩ := dc_gd_ok hf
              by_cases c71 : (gvI S33 44 x63 ((((40 : Int32) * v37) + p3)).toNatClampNeg) = v36
              · replace hf := dc_if_t c71 hf
                obtain ⟨g73, hf⟩ := dc_gd_ok hf
                exact lh_le_trans hm (ih S33 v34 v35 (gvI S33 44 x63 ((((40 : Int32) * v37) + p3)).toNatClampNeg) (v37 + (1 : Int32)) hf)
              · replace hf := dc_if_f c71 hf
                obtain ⟨r74, S75, k76, hf⟩ := dc_bd_ok hf
                have hm := lh_le_trans hm (show ∀ b, gvN S33 b ≤ gvN S75 b from m_X10_fails k76)
                obtain ⟨_, rfl⟩ := dc_ret hf
                exact hm
        · replace hf := dc_if_f c61 hf
          obtain ⟨g79, hf⟩ := dc_gd_ok hf
          by_cases c80 : (gvI S33 46 x59 ((((40 : Int32) * v37) + p3)).toNatClampNeg) = v35
          · replace hf := dc_if_t c80 hf
            obtain ⟨x82, hx82, hf⟩ := dc_nn_ok hf
            obtain ⟨g83, hf⟩ := dc_gd_ok hf
            by_cases c84 : (gvI S33 44 x82 ((((40 : Int32) * v37) + p3)).toNatClampNeg) ≤ 0
            · replace hf := dc_if_t c84 hf
              exact lh_le_trans hm (ih S33 v34 v35 v36 (v37 + (1 : Int32)) hf)
            · replace hf := dc_if_f c84 hf
              by_cases c85 : v36 ≤ 0
              · replace hf := dc_if_t c85 hf
                obtain ⟨g87, hf⟩ := dc_gd_ok hf
                exact lh_le_trans hm (ih S33 v34 v35 (gvI S33 44 x82 ((((40 : Int32) * v37) + p3)).toNatClampNeg) (v37 + (1 : Int32)) hf)
              · replace hf := dc_if_f c85 hf
                obtain ⟨g89, hf⟩ := dc_gd_ok hf
                by_cases c90 : (gvI S33 44 x82 ((((40 : Int32) * v37) + p3)).toNatClampNeg) = v36
                · replace hf := dc_if_t c90 hf
                  obtain ⟨g92, hf⟩ := dc_gd_ok hf
                  exact lh_le_trans hm (ih S33 v34 v35 (gvI S33 44 x82 ((((40 : Int32) * v37) + p3)).toNatClampNeg) (v37 + (1 : Int32)) hf)
                · replace hf := dc_if_f c90 hf
                  obtain ⟨r93, S94, k95, hf⟩ := dc_bd_ok hf
                  have hm := lh_le_trans hm (show ∀ b, gvN S33 b ≤ gvN S94 b from m_X10_fails k95)
                  obtain ⟨_, rfl⟩ := dc_ret hf
                  exact hm
          · replace hf := dc_if_f c80 hf
            exact lh_le_trans hm (ih S33 v34 v35 v36 (v37 + (1 : Int32)) hf)
theorem k_X10_agree_L76 {n : Nat} {t : Nat} {p1 : Int32} {p2 : Int32} {p3 : Int32} {r : Int32} {S' : lh_S} : ∀ (g : Nat) (S33 : lh_S) (v34 : Int32) (v35 : Int32) (v36 : Int32) (v37 : Int32), f_X10_agree_L76 n t p1 p2 p3 g S33 v34 v35 v36 v37 = some (r, S') → lh_sm10 S33 S' := by
    intro g
    induction g with
    | zero => intro S33 v34 v35 v36 v37 hf; rw [f_X10_agree_L76] at hf; cases hf
    | succ g ih =>
      intro S33 v34 v35 v36 v37 hf
      rw [f_X10_agree_L76] at hf
      have hm : lh_sm10 S33 S33 := lh_sm10_rf
      by_cases c38 : (gvI S33 10 t 10) ≤ v37
      · replace hf := dc_if_t c38 hf
        exact lh_sm10_trans hm (k_X10_agree_L169 n S33 v34 v35 v36 (0 : Int32) hf)
      · replace hf := dc_if_f c38 hf
        obtain ⟨x59, hx59, hf⟩ := dc_nn_ok hf
        obtain ⟨g60, hf⟩ := dc_gd_ok hf
        by_cases c61 : (gvI S33 46 x59 ((((40 : Int32) * v37) + p3)).toNatClampNeg) = v34
        · replace hf := dc_if_t c61 hf
          obtain ⟨x63, hx63, hf⟩ := dc_nn_ok hf
          obtain ⟨g64, hf⟩ := dc_gd_ok hf
          by_cases c65 : (gvI S33 44 x63 ((((40 : Int32) * v37) + p3)).toNatClampNeg) ≤ 0
          · replace hf := dc_if_t c65 hf
            exact lh_sm10_trans hm (ih S33 v34 v35 v36 (v37 + (1 : Int32)) hf)
          · replace hf := dc_if_f c65 hf
            by_cases c66 : v36 ≤ 0
            · replace hf := dc_if_t c66 hf
              obtain ⟨g68, hf⟩ := dc_gd_ok hf
              exact lh_sm10_trans hm (ih S33 v34 v35 (gvI S33 44 x63 ((((40 : Int32) * v37) + p3)).toNatClampNeg) (v37 + (1 : Int32)) hf)
            · replace hf := dc_if_f c66 hf
              obtain ⟨g70, hf⟩ := dc_gd_ok hf
              by_cases c71 : (gvI S33 44 x63 ((((40 : Int32) * v37) + p3)).toNatClampNeg) = v36
              · replace hf := dc_if_t c71 hf
                obtain ⟨g73, hf⟩ := dc_gd_ok hf
                exact lh_sm10_trans hm (ih S33 v34 v35 (gvI S33 44 x63 ((((40 : Int32) * v37) + p3)).toNatClampNeg) (v37 + (1 : Int32)) hf)
              · replace hf := dc_if_f c71 hf
                obtain ⟨r74, S75, k76, hf⟩ := dc_bd_ok hf
                have hm := lh_sm10_trans hm (show lh_sm10 S33 S75 from k_X10_fails k76)
                obtain ⟨_, rfl⟩ := dc_ret hf
                exact hm
        · replace hf := dc_if_f c61 hf
          obtain ⟨g79, hf⟩ := dc_gd_ok hf
          by_cases c80 : (gvI S33 46 x59 ((((40 : Int32) * v37) + p3)).toNatClampNeg) = v35
          · replace hf := dc_if_t c80 hf
            obtain ⟨x82, hx82, hf⟩ := dc_nn_ok hf
            obtain ⟨g83, hf⟩ := dc_gd_ok hf
            by_cases c84 : (gvI S33 44 x82 ((((40 : Int32) * v37) + p3)).toNatClampNeg) ≤ 0
            · replace hf := dc_if_t c84 hf
              exact lh_sm10_trans hm (ih S33 v34 v35 v36 (v37 + (1 : Int32)) hf)
            · replace hf := dc_if_f c84 hf
              by_cases c85 : v36 ≤ 0
              · replace hf := dc_if_t c85 hf
                obtain ⟨g87, hf⟩ := dc_gd_ok hf
                exact lh_sm10_trans hm (ih S33 v34 v35 (gvI S33 44 x82 ((((40 : Int32) * v37) + p3)).toNatClampNeg) (v37 + (1 : Int32)) hf)
              · replace hf := dc_if_f c85 hf
                obtain ⟨g89, hf⟩ := dc_gd_ok hf
                by_cases c90 : (gvI S33 44 x82 ((((40 : Int32) * v37) + p3)).toNatClampNeg) = v36
                · replace hf := dc_if_t c90 hf
                  obtain ⟨g92, hf⟩ := dc_gd_ok hf
                  exact lh_sm10_trans hm (ih S33 v34 v35 (gvI S33 44 x82 ((((40 : Int32) * v37) + p3)).toNatClampNeg) (v37 + (1 : Int32)) hf)
                · replace hf := dc_if_f c90 hf
                  obtain ⟨r93, S94, k95, hf⟩ := dc_bd_ok hf
                  have hm := lh_sm10_trans hm (show lh_sm10 S33 S94 from k_X10_fails k95)
                  obtain ⟨_, rfl⟩ := dc_ret hf
                  exact hm
          · replace hf := dc_if_f c80 hf
            exact lh_sm10_trans hm (ih S33 v34 v35 v36 (v37 + (1 : Int32)) hf)
def f_X10_agree (n : Nat) (S : lh_S) (t : Nat) (p1 : Int32) (p2 : Int32) (p3 : Int32) : Option (Int32 × lh_S) :=
  dc_let (pvI S 10 t 0 (0 : Int32)) fun S1 =>
  dc_bd (f_X10_isClass n S1 t p1) fun r3 S4 =>
  dc_if (r3 = 0) (
  some ((-2 : Int32), S4)) (
  dc_bd (f_X10_isClass n S4 t p2) fun r9 S10 =>
  dc_if (r9 = 0) (
  some ((-2 : Int32), S10)) (
  dc_bd (f_X10_isName n S10 p3) fun r15 S16 =>
  dc_if (r15 = 0) (
  some ((-3 : Int32), S16)) (
  dc_nn (gvR S16 10 t 19) fun x23 =>
  dc_gd (p1 < 0 ∨ gvL S16 49 x23 ≤ (p1).toNatClampNeg) (
  dc_let ((40 : Int32) * (gvI S16 49 x23 (p1).toNatClampNeg)) fun v25 =>
  dc_nn (gvR S16 10 t 16) fun x26 =>
  dc_gd ((v25 + p3) < 0 ∨ gvL S16 46 x26 ≤ ((v25 + p3)).toNatClampNeg) (
  dc_gd (p2 < 0 ∨ gvL S16 49 x23 ≤ (p2).toNatClampNeg) (
  dc_let ((40 : Int32) * (gvI S16 49 x23 (p2).toNatClampNeg)) fun v31 =>
  dc_gd ((v31 + p3) < 0 ∨ gvL S16 46 x26 ≤ ((v31 + p3)).toNatClampNeg) (
  f_X10_agree_L76 n t p1 p2 p3 n S16 (gvI S16 46 x26 ((v25 + p3)).toNatClampNeg) (gvI S16 46 x26 ((v31 + p3)).toNatClampNeg) (0 : Int32) (0 : Int32))))))))
set_option maxHeartbeats 1000000 in
theorem m_X10_agree {n : Nat} {S : lh_S} {t : Nat} {p1 : Int32} {p2 : Int32} {p3 : Int32} {r : Int32} {S' : lh_S} (hf : f_X10_agree n S t p1 p2 p3 = some (r, S')) : ∀ b, gvN S b ≤ gvN S' b := by
  have hm : ∀ b, gvN S b ≤ gvN S b := fun _ => Nat.le_refl _
  unfold f_X10_agree at hf
  obtain ⟨S1, eS1, hf⟩ := dc_let_ok hf
  have hm := lh_le_trans hm (show ∀ b, gvN S b ≤ gvN S1 b from by rw [eS1]; exact lh_mI)
  obtain ⟨r3, S4, k5, hf⟩ := dc_bd_ok hf
  have hm := lh_le_trans hm (show ∀ b, gvN S1 b ≤ gvN S4 b from m_X10_isClass k5)
  by_cases c8 : r3 = 0
  · replace hf := dc_if_t c8 hf
    obtain ⟨_, rfl⟩ := dc_ret hf
    exact hm
  · replace hf := dc_if_f c8 hf
    obtain ⟨r9, S10, k11, hf⟩ := dc_bd_ok hf
    have hm := lh_le_trans hm (show ∀ b, gvN S4 b ≤ gvN S10 b from m_X10_isClass k11)
    by_cases c14 : r9 = 0
    · replace hf := dc_if_t c14 hf
      obtain ⟨_, rfl⟩ := dc_ret hf
      exact hm
    · replace hf := dc_if_f c14 hf
      obtain ⟨r15, S16, k17, hf⟩ := dc_bd_ok hf
      have hm := lh_le_trans hm (show ∀ b, gvN S10 b ≤ gvN S16 b from m_X10_isName k17)
      by_cases c20 : r15 = 0
      · replace hf := dc_if_t c20 hf
        obtain ⟨_, rfl⟩ := dc_ret hf
        exact hm
      · replace hf := dc_if_f c20 hf
        obtain ⟨x23, hx23, hf⟩ := dc_nn_ok hf
        obtain ⟨g24, hf⟩ := dc_gd_ok hf
        obtain ⟨v25, hv25, hf⟩ := dc_let_ok hf
        obtain ⟨x26, hx26, hf⟩ := dc_nn_ok hf
        obtain ⟨g27, hf⟩ := dc_gd_ok hf
        obtain ⟨g30, hf⟩ := dc_gd_ok hf
        obtain ⟨v31, hv31, hf⟩ := dc_let_ok hf
        obtain ⟨g32, hf⟩ := dc_gd_ok hf
        exact lh_le_trans hm (m_X10_agree_L76 n S16 (gvI S16 46 x26 ((v25 + p3)).toNatClampNeg) (gvI S16 46 x26 ((v31 + p3)).toNatClampNeg) (0 : Int32) (0 : Int32) hf)
set_option maxHeartbeats 1000000 in
theorem k_X10_agree {n : Nat} {S : lh_S} {t : Nat} {p1 : Int32} {p2 : Int32} {p3 : Int32} {r : Int32} {S' : lh_S} (hf : f_X10_agree n S t p1 p2 p3 = some (r, S')) : lh_sm10 S S' := by
  have hm : lh_sm10 S S := lh_sm10_rf
  unfold f_X10_agree at hf
  obtain ⟨S1, eS1, hf⟩ := dc_let_ok hf
  have hm := lh_sm10_trans hm (show lh_sm10 S S1 from by rw [eS1]; exact (lh_sm10I (by decide)))
  obtain ⟨r3, S4, k5, hf⟩ := dc_bd_ok hf
  have hm := lh_sm10_trans hm (show lh_sm10 S1 S4 from k_X10_isClass k5)
  by_cases c8 : r3 = 0
  · replace hf := dc_if_t c8 hf
    obtain ⟨_, rfl⟩ := dc_ret hf
    exact hm
  · replace hf := dc_if_f c8 hf
    obtain ⟨r9, S10, k11, hf⟩ := dc_bd_ok hf
    have hm := lh_sm10_trans hm (show lh_sm10 S4 S10 from k_X10_isClass k11)
    by_cases c14 : r9 = 0
    · replace hf := dc_if_t c14 hf
      obtain ⟨_, rfl⟩ := dc_ret hf
      exact hm
    · replace hf := dc_if_f c14 hf
      obtain ⟨r15, S16, k17, hf⟩ := dc_bd_ok hf
      have hm := lh_sm10_trans hm (show lh_sm10 S10 S16 from k_X10_isName k17)
      by_cases c20 : r15 = 0
      · replace hf := dc_if_t c20 hf
        obtain ⟨_, rfl⟩ := dc_ret hf
        exact hm
      · replace hf := dc_if_f c20 hf
        obtain ⟨x23, hx23, hf⟩ := dc_nn_ok hf
        obtain ⟨g24, hf⟩ := dc_gd_ok hf
        obtain ⟨v25, hv25, hf⟩ := dc_let_ok hf
        obtain ⟨x26, hx26, hf⟩ := dc_nn_ok hf
        obtain ⟨g27, hf⟩ := dc_gd_ok hf
        obtain ⟨g30, hf⟩ := dc_gd_ok hf
        obtain ⟨v31, hv31, hf⟩ := dc_let_ok hf
        obtain ⟨g32, hf⟩ := dc_gd_ok hf
        exact lh_sm10_trans hm (k_X10_agree_L76 n S16 (gvI S16 46 x26 ((v25 + p3)).toNatClampNeg) (gvI S16 46 x26 ((v31 + p3)).toNatClampNeg) (0 : Int32) (0 : Int32) hf)
set_option maxHeartbeats 4000000 in
set_option maxRecDepth 100000 in
theorem c_X10_agree (l : Launch) (D : va_G) (cT : Nat → ClassId) (n : Nat) (S : lh_S) (ad : Nat → Nat → Nat) (A : Nat → Prop) (sz : Nat) (hA : ∀ q, sz ≤ q → A q) (t : Nat) (p1 : Int32) (p2 : Int32) (p3 : Int32) (r : Int32) (S' : lh_S) (hf : f_X10_agree n S t p1 p2 p3 = some (r, S')) (L_t : ∀ j, some t = some j → j < gvN S 10) : Met l yX10_agree wsX10_agree ({ frames := 2, cells := 0, slots := 0, locals := 46 } : Room) (lh_P D cT S ad A sz [lh_r ad 10 (some t), .int p1, .int p2, .int p3]) (lh_Q D cT S' ad A ((∀ b, gvN S b ≤ gvN S' b) ∧ True) (some (.int r))) 0 0 A := by
  refine Met.ofW (cc := cX10_agree) (maxL := 9) (ret := (some .int)) (by decide) rfl ?_
  intro p e s m args below meth c s₁ B hml hv
  obtain ⟨hargs, hsz, hW, hK, hN⟩ := hv
  have hx := B.exec
  have hb := B.bytes
  have hr := B.returns
  have hts := atoms_spec (ws := wsX10_agree) B.pre
  have hown : s.vm.findClass RX10 = some m.cls := findClass_of_methodNamed B.named
  have hlocks := B.notSynchronized
  have hA : ∀ q, s.heap.size ≤ q → A q := fun q h => hA q (by rw [← hsz]; exact h)
  have L169 : ∀ (g : Nat) (S39 : lh_S) (v40 : Int32) (v41 : Int32) (v42 : Int32) (v43 : Int32), f_X10_agree_L169 n t p1 p2 p3 g S39 v40 v41 v42 v43 = some (r, S') → (∀ b, gvN S b ≤ gvN S39 b) → ∀ (H : Heap) (locs : List Loc), lh_W D cT S39 ad A H → va_S A s.heap H locs → ∀ (ls : Array Slot), lv_has ls 9 [(0, lh_r ad 10 (some t)), (1, .int p1), (2, .int p2), (3, .int p3), (4, .int v40), (5, .int v41), (6, .int v42), (7, .int v43)] → W p l e (headSpec wsX10_agree ({ frames := 2, cells := 0, slots := 0, locals := 46 } : Room)).room s m args below meth c H locs 0 0 (MQ below (lh_Q D cT S' ad A ((∀ b, gvN S b ≤ gvN S' b) ∧ True) (some (.int r))) args s 0 0 A) (F0 m 169 ls []) := by
    intro g
    induction g with
    | zero => intro S39 v40 v41 v42 v43 hf; rw [f_X10_agree_L169] at hf; cases hf
    | succ g ih =>
      intro S39 v40 v41 v42 v43 hf hm H locs hW hS ls hl
      rw [f_X10_agree_L169] at hf
      have ok := lh_W_ok hW
      have L_t : ∀ j, some t = some j → j < gvN S39 10 := fun j h => Nat.lt_of_lt_of_le (L_t j h) (hm _)
      refine lv_iload hx hb dX10_agree_169 (lv_at hl 7 rfl) ?_
      refine lh_aload_n hx hb dX10_agree_171 rfl (lv_at hl 0 rfl) ?_
      refine lh_get (a := 10) (k := 10) (N := 42) (C := RX10) (T := TX10) (own := RX10) (ref := "LoaderModelsModel") hx hb hts (fun _ h => (List.mem_cons_of_mem _ (List.mem_append_right _ h))) hown hK hW rfl (L_t _ rfl) rfl rfl rfl (by decide) (hts (.fieldLink RX10 120 "LoaderModelsModel" "loaders" "I") (List.mem_cons_of_mem _ (List.mem_append_left _ (List.mem_of_getElem? (i := 3) rfl)))) (fun _ h9 => h9) dX10_agree_172 (v := .int (gvI S39 10 t 10)) rfl ?_
      refine lv_icmp_ge (tgt := 224) hx hb dX10_agree_175 (by decide) (fun c44 => ?_) (fun c44 => ?_)
      · replace hf := dc_if_t c44 hf
        refine lv_iconst (v := 1) hx hb dX10_agree_224 (by decide) ?_
        obtain ⟨rfl, rfl⟩ := dc_ret hf
        exact W.iret (v := (1 : Int32)) hx hb hr (fun t9 ht9 hW9 => ⟨⟨rfl, ⟨hm, trivial⟩, by rw [ht9]; exact hW⟩, hS.F ht9⟩) hS.2.2 dX10_agree_225
      · replace hf := dc_if_f c44 hf
        refine lv_bipush (v := 40) hx hb dX10_agree_178 (by decide) ?_
        refine lv_iload hx hb dX10_agree_180 (lv_at hl 7 rfl) ?_
        refine lv_imul hx hb dX10_agree_182 ?_
        refine lv_iload_n hx hb dX10_agree_183 rfl (lv_at hl 3 rfl) ?_
        refine lv_iadd hx hb dX10_agree_184 ?_
        refine lv_istore (i := 8) (lv' := [(8, .int (((40 : Int32) * v43) + p3)), (0, lh_r ad 10 (some t)), (1, .int p1), (2, .int p2), (3, .int p3), (4, .int v40), (5, .int v41), (6, .int v42), (7, .int v43)]) hx hb dX10_agree_185 hl (by decide) (by first | rfl | simp [lh_cat_r, lh_cat_i, lh_cat_j]) (fun ls hl => ?_)
        refine lh_aload_n hx hb dX10_agree_187 rfl (lv_at hl 1 rfl) ?_
        have L45 : ∀ j, gvR S39 10 t 16 = some j → j < gvN S39 46 := fun j h => ok _ _ _ _ j (L_t _ rfl) rfl h
        refine lh_get (a := 10) (k := 16) (N := 42) (C := RX10) (T := TX10) (own := RX10) (ref := "LoaderModelsModel") hx hb hts (fun _ h => (List.mem_cons_of_mem _ (List.mem_append_right _ h))) hown hK hW rfl (L_t _ rfl) rfl rfl rfl (by decide) (hts (.fieldLink RX10 54 "LoaderModelsModel" "group" "[I") (List.mem_cons_of_mem _ (List.mem_append_left _ (List.mem_of_getElem? (i := 1) rfl)))) (fun _ h9 => h9) dX10_agree_188 (v := lh_r ad 46 (gvR S39 10 t 16)) rfl ?_
        refine lv_iload hx hb dX10_agree_191 (lv_at hl 0 rfl) ?_
        refine lh_aload_n hx hb dX10_agree_193 rfl (lv_at hl 1 rfl) ?_
        have L46 : ∀ j, gvR S39 10 t 16 = some j → j < gvN S39 46 := fun j h => ok _ _ _ _ j (L_t _ rfl) rfl h
        refine lh_get (a := 10) (k := 16) (N := 42) (C := RX10) (T := TX10) (own := RX10) (ref := "LoaderModelsModel") hx hb hts (fun _ h => (List.mem_cons_of_mem _ (List.mem_append_right _ h))) hown hK hW rfl (L_t _ rfl) rfl rfl rfl (by decide) (hts (.fieldLink RX10 54 "LoaderModelsModel" "group" "[I") (List.mem_cons_of_mem _ (List.mem_append_left _ (List.mem_of_getElem? (i := 1) rfl)))) (fun _ h9 => h9) dX10_agree_194 (v := lh_r ad 46 (gvR S39 10 t 16)) rfl ?_
        refine lv_iload hx hb dX10_agree_197 (lv_at hl 0 rfl) ?_
        obtain ⟨x47, hx47, hf⟩ := dc_nn_ok hf
        obtain ⟨g48, hf⟩ := dc_gd_ok hf
        refine lh_ald_i (a := 46) hx hb hK hW hx47 (L46 _ hx47) rfl rfl g48 dX10_agree_199 ?_
        refine lv_iload hx hb dX10_agree_200 (lv_at hl 6 rfl) ?_
        refine lv_icmp_ne (tgt := 210) hx hb dX10_agree_202 (by decide) (fun c49 => ?_) (fun c49 => ?_)
        · replace hf := dc_if_f c49 hf
          refine lh_aload_n hx hb dX10_agree_210 rfl (lv_at hl 1 rfl) ?_
          have L50 : ∀ j, gvR S39 10 t 16 = some j → j < gvN S39 46 := fun j h => ok _ _ _ _ j (L_t _ rfl) rfl h
          refine lh_get (a := 10) (k := 16) (N := 42) (C := RX10) (T := TX10) (own := RX10) (ref := "LoaderModelsModel") hx hb hts (fun _ h => (List.mem_cons_of_mem _ (List.mem_append_right _ h))) hown hK hW rfl (L_t _ rfl) rfl rfl rfl (by decide) (hts (.fieldLink RX10 54 "LoaderModelsModel" "group" "[I") (List.mem_cons_of_mem _ (List.mem_append_left _ (List.mem_of_getElem? (i := 1) rfl)))) (fun _ h9 => h9) dX10_agree_211 (v := lh_r ad 46 (gvR S39 10 t 16)) rfl ?_
          refine lv_iload hx hb dX10_agree_214 (lv_at hl 0 rfl) ?_
          obtain ⟨g51, hf⟩ := dc_gd_ok hf
          refine lh_ald_i (a := 46) hx hb hK hW hx47 (L50 _ hx47) rfl rfl g51 dX10_agree_216 ?_
          obtain ⟨g52, hf⟩ := dc_gd_ok hf
          obtain ⟨S53, eS53, hf⟩ := dc_let_ok hf
          refine lh_ast_i (a := 46) hx hb hK hW hS hx47 (L45 _ hx47) rfl (fun _ => rfl) g52 dX10_agree_217 (fun H locs hW hS => ?_)
          rw [← eS53] at hW
          have m54 : ∀ b, gvN S39 b ≤ gvN S53 b := by rw [eS53]; exact lh_mI
          have L_t : ∀ j, some t = some j → j < gvN S53 10 := fun j h => Nat.lt_of_lt_of_le (L_t j h) (m54 _)
          have hm : ∀ b, gvN S b ≤ gvN S53 b := lh_le_trans hm m54
          have ok := lh_W_ok hW
          refine lv_iinc (v := v43 + (1 : Int32)) (lv' := [(7, .int (v43 + (1 : Int32))), (8, .int (((40 : Int32) * v43) + p3)), (0, lh_r ad 10 (some t)), (1, .int p1), (2, .int p2), (3, .int p3), (4, .int v40), (5, .int v41), (6, .int v42)]) hx hb dX10_agree_218 hl (k := 8) rfl (by first | rfl | decide) (by decide) (by first | rfl | simp [lh_cat_r, lh_cat_i, lh_cat_j]) (fun ls hl => ?_)
          refine lv_goto (tgt := 169) hx hb dX10_agree_221 (by decide) ?_
          exact ih S53 v40 v41 v42 (v43 + (1 : Int32)) hf hm _ _ hW hS _ (lv_sub hl [2, 3, 4, 5, 6, 7, 8, 0] (by first | rfl | simp [lv_pick]))
        · replace hf := dc_if_t c49 hf
          refine lv_iload hx hb dX10_agree_205 (lv_at hl 5 rfl) ?_
          refine lv_goto (tgt := 217) hx hb dX10_agree_207 (by decide) ?_
          obtain ⟨g55, hf⟩ := dc_gd_ok hf
          obtain ⟨S56, eS56, hf⟩ := dc_let_ok hf
          refine lh_ast_i (a := 46) hx hb hK hW hS hx47 (L45 _ hx47) rfl (fun _ => rfl) g55 dX10_agree_217 (fun H locs hW hS => ?_)
          rw [← eS56] at hW
          have m57 : ∀ b, gvN S39 b ≤ gvN S56 b := by rw [eS56]; exact lh_mI
          have L_t : ∀ j, some t = some j → j < gvN S56 10 := fun j h => Nat.lt_of_lt_of_le (L_t j h) (m57 _)
          have hm : ∀ b, gvN S b ≤ gvN S56 b := lh_le_trans hm m57
          have ok := lh_W_ok hW
          refine lv_iinc (v := v43 + (1 : Int32)) (lv' := [(7, .int (v43 + (1 : Int32))), (8, .int (((40 : Int32) * v43) + p3)), (0, lh_r ad 10 (some t)), (1, .int p1), (2, .int p2), (3, .int p3), (4, .int v40), (5, .int v41), (6, .int v42)]) hx hb dX10_agree_218 hl (k := 8) rfl (by first | rfl | decide) (by decide) (by first | rfl | simp [lh_cat_r, lh_cat_i, lh_cat_j]) (fun ls hl => ?_)
          refine lv_goto (tgt := 169) hx hb dX10_agree_221 (by decide) ?_
          exact ih S56 v40 v41 v42 (v43 + (1 : Int32)) hf hm _ _ hW hS _ (lv_sub hl [2, 3, 4, 5, 6, 7, 8, 0] (by first | rfl | simp [lv_pick]))
  have L76 : ∀ (g : Nat) (S33 : lh_S) (v34 : Int32) (v35 : Int32) (v36 : Int32) (v37 : Int32), f_X10_agree_L76 n t p1 p2 p3 g S33 v34 v35 v36 v37 = some (r, S') → (∀ b, gvN S b ≤ gvN S33 b) → ∀ (H : Heap) (locs : List Loc), lh_W D cT S33 ad A H → va_S A s.heap H locs → ∀ (ls : Array Slot), lv_has ls 9 [(0, lh_r ad 10 (some t)), (1, .int p1), (2, .int p2), (3, .int p3), (4, .int v34), (5, .int v35), (6, .int v36), (7, .int v37)] → W p l e (headSpec wsX10_agree ({ frames := 2, cells := 0, slots := 0, locals := 46 } : Room)).room s m args below meth c H locs 0 0 (MQ below (lh_Q D cT S' ad A ((∀ b, gvN S b ≤ gvN S' b) ∧ True) (some (.int r))) args s 0 0 A) (F0 m 76 ls []) := by
    intro g
    induction g with
    | zero => intro S33 v34 v35 v36 v37 hf; rw [f_X10_agree_L76] at hf; cases hf
    | succ g ih =>
      intro S33 v34 v35 v36 v37 hf hm H locs hW hS ls hl
      rw [f_X10_agree_L76] at hf
      have ok := lh_W_ok hW
      have L_t : ∀ j, some t = some j → j < gvN S33 10 := fun j h => Nat.lt_of_lt_of_le (L_t j h) (hm _)
      refine lv_iload hx hb dX10_agree_76 (lv_at hl 7 rfl) ?_
      refine lh_aload_n hx hb dX10_agree_78 rfl (lv_at hl 0 rfl) ?_
      refine lh_get (a := 10) (k := 10) (N := 42) (C := RX10) (T := TX10) (own := RX10) (ref := "LoaderModelsModel") hx hb hts (fun _ h => (List.mem_cons_of_mem _ (List.mem_append_right _ h))) hown hK hW rfl (L_t _ rfl) rfl rfl rfl (by decide) (hts (.fieldLink RX10 120 "LoaderModelsModel" "loaders" "I") (List.mem_cons_of_mem _ (List.mem_append_left _ (List.mem_of_getElem? (i := 3) rfl)))) (fun _ h9 => h9) dX10_agree_79 (v := .int (gvI S33 10 t 10)) rfl ?_
      refine lv_icmp_ge (tgt := 166) hx hb dX10_agree_82 (by decide) (fun c38 => ?_) (fun c38 => ?_)
      · replace hf := dc_if_t c38 hf
        refine lv_iconst (v := 0) hx hb dX10_agree_166 (by decide) ?_
        refine lv_istore (i := 7) (lv' := [(7, .int (0 : Int32)), (0, lh_r ad 10 (some t)), (1, .int p1), (2, .int p2), (3, .int p3), (4, .int v34), (5, .int v35), (6, .int v36)]) hx hb dX10_agree_167 hl (by decide) (by first | rfl | simp [lh_cat_r, lh_cat_i, lh_cat_j]) (fun ls hl => ?_)
        exact L169 n S33 v34 v35 v36 (0 : Int32) hf hm _ _ hW hS _ (lv_sub hl [1, 2, 3, 4, 5, 6, 7, 0] (by first | rfl | simp [lv_pick]))
      · replace hf := dc_if_f c38 hf
        refine lv_bipush (v := 40) hx hb dX10_agree_85 (by decide) ?_
        refine lv_iload hx hb dX10_agree_87 (lv_at hl 7 rfl) ?_
        refine lv_imul hx hb dX10_agree_89 ?_
        refine lv_iload_n hx hb dX10_agree_90 rfl (lv_at hl 3 rfl) ?_
        refine lv_iadd hx hb dX10_agree_91 ?_
        refine lv_istore (i := 8) (lv' := [(8, .int (((40 : Int32) * v37) + p3)), (0, lh_r ad 10 (some t)), (1, .int p1), (2, .int p2), (3, .int p3), (4, .int v34), (5, .int v35), (6, .int v36), (7, .int v37)]) hx hb dX10_agree_92 hl (by decide) (by first | rfl | simp [lh_cat_r, lh_cat_i, lh_cat_j]) (fun ls hl => ?_)
        refine lh_aload_n hx hb dX10_agree_94 rfl (lv_at hl 1 rfl) ?_
        have L58 : ∀ j, gvR S33 10 t 16 = some j → j < gvN S33 46 := fun j h => ok _ _ _ _ j (L_t _ rfl) rfl h
        refine lh_get (a := 10) (k := 16) (N := 42) (C := RX10) (T := TX10) (own := RX10) (ref := "LoaderModelsModel") hx hb hts (fun _ h => (List.mem_cons_of_mem _ (List.mem_append_right _ h))) hown hK hW rfl (L_t _ rfl) rfl rfl rfl (by decide) (hts (.fieldLink RX10 54 "LoaderModelsModel" "group" "[I") (List.mem_cons_of_mem _ (List.mem_append_left _ (List.mem_of_getElem? (i := 1) rfl)))) (fun _ h9 => h9) dX10_agree_95 (v := lh_r ad 46 (gvR S33 10 t 16)) rfl ?_
        refine lv_iload hx hb dX10_agree_98 (lv_at hl 0 rfl) ?_
        obtain ⟨x59, hx59, hf⟩ := dc_nn_ok hf
        obtain ⟨g60, hf⟩ := dc_gd_ok hf
        refine lh_ald_i (a := 46) hx hb hK hW hx59 (L58 _ hx59) rfl rfl g60 dX10_agree_100 ?_
        refine lv_iload hx hb dX10_agree_101 (lv_at hl 5 rfl) ?_
        refine lv_icmp_eq (tgt := 118) hx hb dX10_agree_103 (by decide) (fun c61 => ?_) (fun c61 => ?_)
        · replace hf := dc_if_t c61 hf
          refine lh_aload_n hx hb dX10_agree_118 rfl (lv_at hl 1 rfl) ?_
          have L62 : ∀ j, gvR S33 10 t 14 = some j → j < gvN S33 44 := fun j h => ok _ _ _ _ j (L_t _ rfl) rfl h
          refine lh_get (a := 10) (k := 14) (N := 42) (C := RX10) (T := TX10) (own := RX10) (ref := "LoaderModelsModel") hx hb hts (fun _ h => (List.mem_cons_of_mem _ (List.mem_append_right _ h))) hown hK hW rfl (L_t _ rfl) rfl rfl rfl (by decide) (hts (.fieldLink RX10 48 "LoaderModelsModel" "knows" "[I") (List.mem_cons_of_mem _ (List.mem_append_left _ (List.mem_of_getElem? (i := 4) rfl)))) (fun _ h9 => h9) dX10_agree_119 (v := lh_r ad 44 (gvR S33 10 t 14)) rfl ?_
          refine lv_iload hx hb dX10_agree_122 (lv_at hl 0 rfl) ?_
          obtain ⟨x63, hx63, hf⟩ := dc_nn_ok hf
          obtain ⟨g64, hf⟩ := dc_gd_ok hf
          refine lh_ald_i (a := 44) hx hb hK hW hx63 (L62 _ hx63) rfl rfl g64 dX10_agree_124 ?_
          refine lv_if_le (tgt := 160) hx hb dX10_agree_125 (by decide) (fun c65 => ?_) (fun c65 => ?_)
          · replace hf := dc_if_t c65 hf
            refine lv_iinc (v := v37 + (1 : Int32)) (lv' := [(7, .int (v37 + (1 : Int32))), (8, .int (((40 : Int32) * v37) + p3)), (0, lh_r ad 10 (some t)), (1, .int p1), (2, .int p2), (3, .int p3), (4, .int v34), (5, .int v35), (6, .int v36)]) hx hb dX10_agree_160 hl (k := 8) rfl (by first | rfl | decide) (by decide) (by first | rfl | simp [lh_cat_r, lh_cat_i, lh_cat_j]) (fun ls hl => ?_)
            refine lv_goto (tgt := 76) hx hb dX10_agree_163 (by decide) ?_
            exact ih S33 v34 v35 v36 (v37 + (1 : Int32)) hf hm _ _ hW hS _ (lv_sub hl [2, 3, 4, 5, 6, 7, 8, 0] (by first | rfl | simp [lv_pick]))
          · replace hf := dc_if_f c65 hf
            refine lv_iload hx hb dX10_agree_128 (lv_at hl 7 rfl) ?_
            refine lv_if_le (tgt := 151) hx hb dX10_agree_130 (by decide) (fun c66 => ?_) (fun c66 => ?_)
            · replace hf := dc_if_t c66 hf
              refine lh_aload_n hx hb dX10_agree_151 rfl (lv_at hl 1 rfl) ?_
              have L67 : ∀ j, gvR S33 10 t 14 = some j → j < gvN S33 44 := fun j h => ok _ _ _ _ j (L_t _ rfl) rfl h
              refine lh_get (a := 10) (k := 14) (N := 42) (C := RX10) (T := TX10) (own := RX10) (ref := "LoaderModelsModel") hx hb hts (fun _ h => (List.mem_cons_of_mem _ (List.mem_append_right _ h))) hown hK hW rfl (L_t _ rfl) rfl rfl rfl (by decide) (hts (.fieldLink RX10 48 "LoaderModelsModel" "knows" "[I") (List.mem_cons_of_mem _ (List.mem_append_left _ (List.mem_of_getElem? (i := 4) rfl)))) (fun _ h9 => h9) dX10_agree_152 (v := lh_r ad 44 (gvR S33 10 t 14)) rfl ?_
              refine lv_iload hx hb dX10_agree_155 (lv_at hl 0 rfl) ?_
              obtain ⟨g68, hf⟩ := dc_gd_ok hf
              refine lh_ald_i (a := 44) hx hb hK hW hx63 (L67 _ hx63) rfl rfl g68 dX10_agree_157 ?_
              refine lv_istore (i := 6) (lv' := [(6, .int (gvI S33 44 x63 ((((40 : Int32) * v37) + p3)).toNatClampNeg)), (8, .int (((40 : Int32) * v37) + p3)), (0, lh_r ad 10 (some t)), (1, .int p1), (2, .int p2), (3, .int p3), (4, .int v34), (5, .int v35), (7, .int v37)]) hx hb dX10_agree_158 hl (by decide) (by first | rfl | simp [lh_cat_r, lh_cat_i, lh_cat_j]) (fun ls hl => ?_)
              refine lv_iinc (v := v37 + (1 : Int32)) (lv' := [(7, .int (v37 + (1 : Int32))), (6, .int (gvI S33 44 x63 ((((40 : Int32) * v37) + p3)).toNatClampNeg)), (8, .int (((40 : Int32) * v37) + p3)), (0, lh_r ad 10 (some t)), (1, .int p1), (2, .int p2), (3, .int p3), (4, .int v34), (5, .int v35)]) hx hb dX10_agree_160 hl (k := 8) rfl (by first | rfl | decide) (by decide) (by first | rfl | simp [lh_cat_r, lh_cat_i, lh_cat_j]) (fun ls hl => ?_)
              refine lv_goto (tgt := 76) hx hb dX10_agree_163 (by decide) ?_
              exact ih S33 v34 v35 (gvI S33 44 x63 ((((40 : Int32) * v37) + p3)).toNatClampNeg) (v37 + (1 : Int32)) hf hm _ _ hW hS _ (lv_sub hl [3, 4, 5, 6, 7, 8, 1, 0] (by first | rfl | simp [lv_pick]))
            · replace hf := dc_if_f c66 hf
              refine lh_aload_n hx hb dX10_agree_133 rfl (lv_at hl 1 rfl) ?_
              have L69 : ∀ j, gvR S33 10 t 14 = some j → j < gvN S33 44 := fun j h => ok _ _ _ _ j (L_t _ rfl) rfl h
              refine lh_get (a := 10) (k := 14) (N := 42) (C := RX10) (T := TX10) (own := RX10) (ref := "LoaderModelsModel") hx hb hts (fun _ h => (List.mem_cons_of_mem _ (List.mem_append_right _ h))) hown hK hW rfl (L_t _ rfl) rfl rfl rfl (by decide) (hts (.fieldLink RX10 48 "LoaderModelsModel" "knows" "[I") (List.mem_cons_of_mem _ (List.mem_append_left _ (List.mem_of_getElem? (i := 4) rfl)))) (fun _ h9 => h9) dX10_agree_134 (v := lh_r ad 44 (gvR S33 10 t 14)) rfl ?_
              refine lv_iload hx hb dX10_agree_137 (lv_at hl 0 rfl) ?_
              obtain ⟨g70, hf⟩ := dc_gd_ok hf
              refine lh_ald_i (a := 44) hx hb hK hW hx63 (L69 _ hx63) rfl rfl g70 dX10_agree_139 ?_
              refine lv_iload hx hb dX10_agree_140 (lv_at hl 7 rfl) ?_
              refine lv_icmp_eq (tgt := 151) hx hb dX10_agree_142 (by decide) (fun c71 => ?_) (fun c71 => ?_)
              · replace hf := dc_if_t c71 hf
                refine lh_aload_n hx hb dX10_agree_151 rfl (lv_at hl 1 rfl) ?_
                have L72 : ∀ j, gvR S33 10 t 14 = some j → j < gvN S33 44 := fun j h => ok _ _ _ _ j (L_t _ rfl) rfl h
                refine lh_get (a := 10) (k := 14) (N := 42) (C := RX10) (T := TX10) (own := RX10) (ref := "LoaderModelsModel") hx hb hts (fun _ h => (List.mem_cons_of_mem _ (List.mem_append_right _ h))) hown hK hW rfl (L_t _ rfl) rfl rfl rfl (by decide) (hts (.fieldLink RX10 48 "LoaderModelsModel" "knows" "[I") (List.mem_cons_of_mem _ (List.mem_append_left _ (List.mem_of_getElem? (i := 4) rfl)))) (fun _ h9 => h9) dX10_agree_152 (v := lh_r ad 44 (gvR S33 10 t 14)) rfl ?_
                refine lv_iload hx hb dX10_agree_155 (lv_at hl 0 rfl) ?_
                obtain ⟨g73, hf⟩ := dc_gd_ok hf
                refine lh_ald_i (a := 44) hx hb hK hW hx63 (L72 _ hx63) rfl rfl g73 dX10_agree_157 ?_
                refine lv_istore (i := 6) (lv' := [(6, .int (gvI S33 44 x63 ((((40 : Int32) * v37) + p3)).toNatClampNeg)), (8, .int (((40 : Int32) * v37) + p3)), (0, lh_r ad 10 (some t)), (1, .int p1), (2, .int p2), (3, .int p3), (4, .int v34), (5, .int v35), (7, .int v37)]) hx hb dX10_agree_158 hl (by decide) (by first | rfl | simp [lh_cat_r, lh_cat_i, lh_cat_j]) (fun ls hl => ?_)
                refine lv_iinc (v := v37 + (1 : Int32)) (lv' := [(7, .int (v37 + (1 : Int32))), (6, .int (gvI S33 44 x63 ((((40 : Int32) * v37) + p3)).toNatClampNeg)), (8, .int (((40 : Int32) * v37) + p3)), (0, lh_r ad 10 (some t)), (1, .int p1), (2, .int p2), (3, .int p3), (4, .int v34), (5, .int v35)]) hx hb dX10_agree_160 hl (k := 8) rfl (by first | rfl | decide) (by decide) (by first | rfl | simp [lh_cat_r, lh_cat_i, lh_cat_j]) (fun ls hl => ?_)
                refine lv_goto (tgt := 76) hx hb dX10_agree_163 (by decide) ?_
                exact ih S33 v34 v35 (gvI S33 44 x63 ((((40 : Int32) * v37) + p3)).toNatClampNeg) (v37 + (1 : Int32)) hf hm _ _ hW hS _ (lv_sub hl [3, 4, 5, 6, 7, 8, 1, 0] (by first | rfl | simp [lv_pick]))
              · replace hf := dc_if_f c71 hf
                refine lh_aload_n hx hb dX10_agree_145 rfl (lv_at hl 1 rfl) ?_
                refine lv_iconst (v := 3) hx hb dX10_agree_146 (by decide) ?_
                obtain ⟨r74, S75, k76, hf⟩ := dc_bd_ok hf
                refine lh_call (S' := S75) (lh_rv ⟨hx, hb, hml, hown, hts⟩ rfl (As := [.int (3 : Int32)]) (rest := []) (k := 10) (c_X10_fails l D cT n S33 ad A H.size (fun q9 h9 => hA q9 (Nat.le_trans hS.1 h9)) t (3 : Int32) r74 S75 k76 L_t) (cwV 1 hts gX10_agree_X10_fails rfl rfl rfl (by decide +kernel) ⟨Nat.le_of_ble_eq_true rfl, Nat.le_of_ble_eq_true rfl⟩) hK hN hW (L_t _ rfl) rfl rfl rfl hl.1 rfl (by simp [lh_cat_r, lh_cat_i, lh_cat_j]) dX10_agree_147 ⟨Nat.le_of_ble_eq_true rfl, Nat.le_of_ble_eq_true rfl⟩) hS (fun H locs hX hW hS => ?_)
                refine W.widen (k := 0) (n := 0) (by omega) (by omega) ?_
                show W _ _ _ _ _ _ _ _ _ _ _ _ _ _ _ (F0 m 150 ls [.int r74])
                have m77 : ∀ b, gvN S33 b ≤ gvN S75 b := hX.1
                have L_t : ∀ j, some t = some j → j < gvN S75 10 := fun j h => Nat.lt_of_lt_of_le (L_t j h) (m77 _)
                have hm : ∀ b, gvN S b ≤ gvN S75 b := lh_le_trans hm m77
                have ok := lh_W_ok hW
                obtain ⟨rfl, rfl⟩ := dc_ret hf
                exact W.iret (v := r74) hx hb hr (fun t9 ht9 hW9 => ⟨⟨rfl, ⟨hm, trivial⟩, by rw [ht9]; exact hW⟩, hS.F ht9⟩) hS.2.2 dX10_agree_150
        · replace hf := dc_if_f c61 hf
          refine lh_aload_n hx hb dX10_agree_106 rfl (lv_at hl 1 rfl) ?_
          have L78 : ∀ j, gvR S33 10 t 16 = some j → j < gvN S33 46 := fun j h => ok _ _ _ _ j (L_t _ rfl) rfl h
          refine lh_get (a := 10) (k := 16) (N := 42) (C := RX10) (T := TX10) (own := RX10) (ref := "LoaderModelsModel") hx hb hts (fun _ h => (List.mem_cons_of_mem _ (List.mem_append_right _ h))) hown hK hW rfl (L_t _ rfl) rfl rfl rfl (by decide) (hts (.fieldLink RX10 54 "LoaderModelsModel" "group" "[I") (List.mem_cons_of_mem _ (List.mem_append_left _ (List.mem_of_getElem? (i := 1) rfl)))) (fun _ h9 => h9) dX10_agree_107 (v := lh_r ad 46 (gvR S33 10 t 16)) rfl ?_
          refine lv_iload hx hb dX10_agree_110 (lv_at hl 0 rfl) ?_
          obtain ⟨g79, hf⟩ := dc_gd_ok hf
          refine lh_ald_i (a := 46) hx hb hK hW hx59 (L78 _ hx59) rfl rfl g79 dX10_agree_112 ?_
          refine lv_iload hx hb dX10_agree_113 (lv_at hl 6 rfl) ?_
          refine lv_icmp_ne (tgt := 160) hx hb dX10_agree_115 (by decide) (fun c80 => ?_) (fun c80 => ?_)
          · replace hf := dc_if_f c80 hf
            refine lv_iinc (v := v37 + (1 : Int32)) (lv' := [(7, .int (v37 + (1 : Int32))), (8, .int (((40 : Int32) * v37) + p3)), (0, lh_r ad 10 (some t)), (1, .int p1), (2, .int p2), (3, .int p3), (4, .int v34), (5, .int v35), (6, .int v36)]) hx hb dX10_agree_160 hl (k := 8) rfl (by first | rfl | decide) (by decide) (by first | rfl | simp [lh_cat_r, lh_cat_i, lh_cat_j]) (fun ls hl => ?_)
            refine lv_goto (tgt := 76) hx hb dX10_agree_163 (by decide) ?_
            exact ih S33 v34 v35 v36 (v37 + (1 : Int32)) hf hm _ _ hW hS _ (lv_sub hl [2, 3, 4, 5, 6, 7, 8, 0] (by first | rfl | simp [lv_pick]))
          · replace hf := dc_if_t c80 hf
            refine lh_aload_n hx hb dX10_agree_118 rfl (lv_at hl 1 rfl) ?_
            have L81 : ∀ j, gvR S33 10 t 14 = some j → j < gvN S33 44 := fun j h => ok _ _ _ _ j (L_t _ rfl) rfl h
            refine lh_get (a := 10) (k := 14) (N := 42) (C := RX10) (T := TX10) (own := RX10) (ref := "LoaderModelsModel") hx hb hts (fun _ h => (List.mem_cons_of_mem _ (List.mem_append_right _ h))) hown hK hW rfl (L_t _ rfl) rfl rfl rfl (by decide) (hts (.fieldLink RX10 48 "LoaderModelsModel" "knows" "[I") (List.mem_cons_of_mem _ (List.mem_append_left _ (List.mem_of_getElem? (i := 4) rfl)))) (fun _ h9 => h9) dX10_agree_119 (v := lh_r ad 44 (gvR S33 10 t 14)) rfl ?_
            refine lv_iload hx hb dX10_agree_122 (lv_at hl 0 rfl) ?_
            obtain ⟨x82, hx82, hf⟩ := dc_nn_ok hf
            obtain ⟨g83, hf⟩ := dc_gd_ok hf
            refine lh_ald_i (a := 44) hx hb hK hW hx82 (L81 _ hx82) rfl rfl g83 dX10_agree_124 ?_
            refine lv_if_le (tgt := 160) hx hb dX10_agree_125 (by decide) (fun c84 => ?_) (fun c84 => ?_)
            · replace hf := dc_if_t c84 hf
              refine lv_iinc (v := v37 + (1 : Int32)) (lv' := [(7, .int (v37 + (1 : Int32))), (8, .int (((40 : Int32) * v37) + p3)), (0, lh_r ad 10 (some t)), (1, .int p1), (2, .int p2), (3, .int p3), (4, .int v34), (5, .int v35), (6, .int v36)]) hx hb dX10_agree_160 hl (k := 8) rfl (by first | rfl | decide) (by decide) (by first | rfl | simp [lh_cat_r, lh_cat_i, lh_cat_j]) (fun ls hl => ?_)
              refine lv_goto (tgt := 76) hx hb dX10_agree_163 (by decide) ?_
              exact ih S33 v34 v35 v36 (v37 + (1 : Int32)) hf hm _ _ hW hS _ (lv_sub hl [2, 3, 4, 5, 6, 7, 8, 0] (by first | rfl | simp [lv_pick]))
            · replace hf := dc_if_f c84 hf
              refine lv_iload hx hb dX10_agree_128 (lv_at hl 7 rfl) ?_
              refine lv_if_le (tgt := 151) hx hb dX10_agree_130 (by decide) (fun c85 => ?_) (fun c85 => ?_)
              · replace hf := dc_if_t c85 hf
                refine lh_aload_n hx hb dX10_agree_151 rfl (lv_at hl 1 rfl) ?_
                have L86 : ∀ j, gvR S33 10 t 14 = some j → j < gvN S33 44 := fun j h => ok _ _ _ _ j (L_t _ rfl) rfl h
                refine lh_get (a := 10) (k := 14) (N := 42) (C := RX10) (T := TX10) (own := RX10) (ref := "LoaderModelsModel") hx hb hts (fun _ h => (List.mem_cons_of_mem _ (List.mem_append_right _ h))) hown hK hW rfl (L_t _ rfl) rfl rfl rfl (by decide) (hts (.fieldLink RX10 48 "LoaderModelsModel" "knows" "[I") (List.mem_cons_of_mem _ (List.mem_append_left _ (List.mem_of_getElem? (i := 4) rfl)))) (fun _ h9 => h9) dX10_agree_152 (v := lh_r ad 44 (gvR S33 10 t 14)) rfl ?_
                refine lv_iload hx hb dX10_agree_155 (lv_at hl 0 rfl) ?_
                obtain ⟨g87, hf⟩ := dc_gd_ok hf
                refine lh_ald_i (a := 44) hx hb hK hW hx82 (L86 _ hx82) rfl rfl g87 dX10_agree_157 ?_
                refine lv_istore (i := 6) (lv' := [(6, .int (gvI S33 44 x82 ((((40 : Int32) * v37) + p3)).toNatClampNeg)), (8, .int (((40 : Int32) * v37) + p3)), (0, lh_r ad 10 (some t)), (1, .int p1), (2, .int p2), (3, .int p3), (4, .int v34), (5, .int v35), (7, .int v37)]) hx hb dX10_agree_158 hl (by decide) (by first | rfl | simp [lh_cat_r, lh_cat_i, lh_cat_j]) (fun ls hl => ?_)
                refine lv_iinc (v := v37 + (1 : Int32)) (lv' := [(7, .int (v37 + (1 : Int32))), (6, .int (gvI S33 44 x82 ((((40 : Int32) * v37) + p3)).toNatClampNeg)), (8, .int (((40 : Int32) * v37) + p3)), (0, lh_r ad 10 (some t)), (1, .int p1), (2, .int p2), (3, .int p3), (4, .int v34), (5, .int v35)]) hx hb dX10_agree_160 hl (k := 8) rfl (by first | rfl | decide) (by decide) (by first | rfl | simp [lh_cat_r, lh_cat_i, lh_cat_j]) (fun ls hl => ?_)
                refine lv_goto (tgt := 76) hx hb dX10_agree_163 (by decide) ?_
                exact ih S33 v34 v35 (gvI S33 44 x82 ((((40 : Int32) * v37) + p3)).toNatClampNeg) (v37 + (1 : Int32)) hf hm _ _ hW hS _ (lv_sub hl [3, 4, 5, 6, 7, 8, 1, 0] (by first | rfl | simp [lv_pick]))
              · replace hf := dc_if_f c85 hf
                refine lh_aload_n hx hb dX10_agree_133 rfl (lv_at hl 1 rfl) ?_
                have L88 : ∀ j, gvR S33 10 t 14 = some j → j < gvN S33 44 := fun j h => ok _ _ _ _ j (L_t _ rfl) rfl h
                refine lh_get (a := 10) (k := 14) (N := 42) (C := RX10) (T := TX10) (own := RX10) (ref := "LoaderModelsModel") hx hb hts (fun _ h => (List.mem_cons_of_mem _ (List.mem_append_right _ h))) hown hK hW rfl (L_t _ rfl) rfl rfl rfl (by decide) (hts (.fieldLink RX10 48 "LoaderModelsModel" "knows" "[I") (List.mem_cons_of_mem _ (List.mem_append_left _ (List.mem_of_getElem? (i := 4) rfl)))) (fun _ h9 => h9) dX10_agree_134 (v := lh_r ad 44 (gvR S33 10 t 14)) rfl ?_
                refine lv_iload hx hb dX10_agree_137 (lv_at hl 0 rfl) ?_
                obtain ⟨g89, hf⟩ := dc_gd_ok hf
                refine lh_ald_i (a := 44) hx hb hK hW hx82 (L88 _ hx82) rfl rfl g89 dX10_agree_139 ?_
                refine lv_iload hx hb dX10_agree_140 (lv_at hl 7 rfl) ?_
                refine lv_icmp_eq (tgt := 151) hx hb dX10_agree_142 (by decide) (fun c90 => ?_) (fun c90 => ?_)
                · replace hf := dc_if_t c90 hf
                  refine lh_aload_n hx hb dX10_agree_151 rfl (lv_at hl 1 rfl) ?_
                  have L91 : ∀ j, gvR S33 10 t 14 = some j → j < gvN S33 44 := fun j h => ok _ _ _ _ j (L_t _ rfl) rfl h
                  refine lh_get (a := 10) (k := 14) (N := 42) (C := RX10) (T := TX10) (own := RX10) (ref := "LoaderModelsModel") hx hb hts (fun _ h => (List.mem_cons_of_mem _ (List.mem_append_right _ h))) hown hK hW rfl (L_t _ rfl) rfl rfl rfl (by decide) (hts (.fieldLink RX10 48 "LoaderModelsModel" "knows" "[I") (List.mem_cons_of_mem _ (List.mem_append_left _ (List.mem_of_getElem? (i := 4) rfl)))) (fun _ h9 => h9) dX10_agree_152 (v := lh_r ad 44 (gvR S33 10 t 14)) rfl ?_
                  refine lv_iload hx hb dX10_agree_155 (lv_at hl 0 rfl) ?_
                  obtain ⟨g92, hf⟩ := dc_gd_ok hf
                  refine lh_ald_i (a := 44) hx hb hK hW hx82 (L91 _ hx82) rfl rfl g92 dX10_agree_157 ?_
                  refine lv_istore (i := 6) (lv' := [(6, .int (gvI S33 44 x82 ((((40 : Int32) * v37) + p3)).toNatClampNeg)), (8, .int (((40 : Int32) * v37) + p3)), (0, lh_r ad 10 (some t)), (1, .int p1), (2, .int p2), (3, .int p3), (4, .int v34), (5, .int v35), (7, .int v37)]) hx hb dX10_agree_158 hl (by decide) (by first | rfl | simp [lh_cat_r, lh_cat_i, lh_cat_j]) (fun ls hl => ?_)
                  refine lv_iinc (v := v37 + (1 : Int32)) (lv' := [(7, .int (v37 + (1 : Int32))), (6, .int (gvI S33 44 x82 ((((40 : Int32) * v37) + p3)).toNatClampNeg)), (8, .int (((40 : Int32) * v37) + p3)), (0, lh_r ad 10 (some t)), (1, .int p1), (2, .int p2), (3, .int p3), (4, .int v34), (5, .int v35)]) hx hb dX10_agree_160 hl (k := 8) rfl (by first | rfl | decide) (by decide) (by first | rfl | simp [lh_cat_r, lh_cat_i, lh_cat_j]) (fun ls hl => ?_)
                  refine lv_goto (tgt := 76) hx hb dX10_agree_163 (by decide) ?_
                  exact ih S33 v34 v35 (gvI S33 44 x82 ((((40 : Int32) * v37) + p3)).toNatClampNeg) (v37 + (1 : Int32)) hf hm _ _ hW hS _ (lv_sub hl [3, 4, 5, 6, 7, 8, 1, 0] (by first | rfl | simp [lv_pick]))
                · replace hf := dc_if_f c90 hf
                  refine lh_aload_n hx hb dX10_agree_145 rfl (lv_at hl 1 rfl) ?_
                  refine lv_iconst (v := 3) hx hb dX10_agree_146 (by decide) ?_
                  obtain ⟨r93, S94, k95, hf⟩ := dc_bd_ok hf
                  refine lh_call (S' := S94) (lh_rv ⟨hx, hb, hml, hown, hts⟩ rfl (As := [.int (3 : Int32)]) (rest := []) (k := 10) (c_X10_fails l D cT n S33 ad A H.size (fun q9 h9 => hA q9 (Nat.le_trans hS.1 h9)) t (3 : Int32) r93 S94 k95 L_t) (cwV 1 hts gX10_agree_X10_fails rfl rfl rfl (by decide +kernel) ⟨Nat.le_of_ble_eq_true rfl, Nat.le_of_ble_eq_true rfl⟩) hK hN hW (L_t _ rfl) rfl rfl rfl hl.1 rfl (by simp [lh_cat_r, lh_cat_i, lh_cat_j]) dX10_agree_147 ⟨Nat.le_of_ble_eq_true rfl, Nat.le_of_ble_eq_true rfl⟩) hS (fun H locs hX hW hS => ?_)
                  refine W.widen (k := 0) (n := 0) (by omega) (by omega) ?_
                  show W _ _ _ _ _ _ _ _ _ _ _ _ _ _ _ (F0 m 150 ls [.int r93])
                  have m96 : ∀ b, gvN S33 b ≤ gvN S94 b := hX.1
                  have L_t : ∀ j, some t = some j → j < gvN S94 10 := fun j h => Nat.lt_of_lt_of_le (L_t j h) (m96 _)
                  have hm : ∀ b, gvN S b ≤ gvN S94 b := lh_le_trans hm m96
                  have ok := lh_W_ok hW
                  obtain ⟨rfl, rfl⟩ := dc_ret hf
                  exact W.iret (v := r93) hx hb hr (fun t9 ht9 hW9 => ⟨⟨rfl, ⟨hm, trivial⟩, by rw [ht9]; exact hW⟩, hS.F ht9⟩) hS.2.2 dX10_agree_150
  have ok := lh_W_ok hW
  have hm : ∀ b, gvN S b ≤ gvN S b := fun _ => Nat.le_refl _
  obtain ⟨ls, hent, hl⟩ := lh_entry m args [lh_r ad 10 (some t), .int p1, .int p2, .int p3] 9 [(0, lh_r ad 10 (some t)), (1, .int p1), (2, .int p2), (3, .int p3)] hargs (by simp [lv_args, lh_cat_r, lh_cat_i, lh_cat_j]) (by simp [lg_sl, lh_cat_r, lh_cat_i, lh_cat_j])
  rw [hent]
  generalize hH : s.heap = H at hW ⊢
  have hS : va_S A s.heap H [] := by rw [← hH]; exact va_S.rf
  unfold f_X10_agree at hf
  refine lh_aload_n hx hb dX10_agree_0 rfl (lv_at hl 0 rfl) ?_
  refine lv_iconst (v := 0) hx hb dX10_agree_1 (by decide) ?_
  obtain ⟨S1, eS1, hf⟩ := dc_let_ok hf
  refine lh_put (S' := S1) (a := 10) (k := 0) (N := 42) (C := RX10) (T := TX10) (own := RX10) (ref := "LoaderModelsModel") (ty := .int) hx hb hts (fun _ h => (List.mem_cons_of_mem _ (List.mem_append_right _ h))) tyX10 tyX10_ok nmX10 hown hK hW hS rfl (L_t _ rfl) rfl rfl rfl (by decide) (hts (.fieldLink RX10 1 "LoaderModelsModel" "thrown" "I") (List.mem_cons_of_mem _ (List.mem_append_left _ (List.mem_of_getElem? (i := 0) rfl)))) (fun _ h9 => h9) (Or.inl rfl) (by decide +kernel) rfl rfl (fun q9 => by rw [eS1]; exact lh_chI rfl q9) dX10_agree_2 (fun H locs hW hS => ?_)
  have m2 : ∀ b, gvN S b ≤ gvN S1 b := by rw [eS1]; exact lh_mI
  have L_t : ∀ j, some t = some j → j < gvN S1 10 := fun j h => Nat.lt_of_lt_of_le (L_t j h) (m2 _)
  have hm : ∀ b, gvN S b ≤ gvN S1 b := lh_le_trans hm m2
  have ok := lh_W_ok hW
  refine lh_aload_n hx hb dX10_agree_5 rfl (lv_at hl 0 rfl) ?_
  refine lv_iload_n hx hb dX10_agree_6 rfl (lv_at hl 1 rfl) ?_
  obtain ⟨r3, S4, k5, hf⟩ := dc_bd_ok hf
  refine lh_call (S' := S4) (lh_rv ⟨hx, hb, hml, hown, hts⟩ rfl (As := [.int p1]) (rest := []) (k := 10) (c_X10_isClass l D cT n S1 ad A H.size (fun q9 h9 => hA q9 (Nat.le_trans hS.1 h9)) t p1 r3 S4 k5 L_t) (cwV 1 hts gX10_agree_X10_isClass rfl rfl rfl (by decide +kernel) ⟨Nat.le_of_ble_eq_true rfl, Nat.le_of_ble_eq_true rfl⟩) hK hN hW (L_t _ rfl) rfl rfl rfl hl.1 rfl (by simp [lh_cat_r, lh_cat_i, lh_cat_j]) dX10_agree_7 ⟨Nat.le_of_ble_eq_true rfl, Nat.le_of_ble_eq_true rfl⟩) hS (fun H locs hX hW hS => ?_)
  refine W.widen (k := 0) (n := 0) (by omega) (by omega) ?_
  show W _ _ _ _ _ _ _ _ _ _ _ _ _ _ _ (F0 m 10 ls [.int r3])
  have m6 : ∀ b, gvN S1 b ≤ gvN S4 b := hX.1
  have L_t : ∀ j, some t = some j → j < gvN S4 10 := fun j h => Nat.lt_of_lt_of_le (L_t j h) (m6 _)
  have hm : ∀ b, gvN S b ≤ gvN S4 b := lh_le_trans hm m6
  have ok := lh_W_ok hW
  have z7 := hX.2
  refine lv_if_eq (tgt := 21) hx hb dX10_agree_10 (by decide) (fun c8 => ?_) (fun c8 => ?_)
  · replace hf := dc_if_t c8 hf
    refine lv_bipush (v := -2) hx hb dX10_agree_21 (by decide) ?_
    obtain ⟨rfl, rfl⟩ := dc_ret hf
    exact W.iret (v := (-2 : Int32)) hx hb hr (fun t9 ht9 hW9 => ⟨⟨rfl, ⟨hm, trivial⟩, by rw [ht9]; exact hW⟩, hS.F ht9⟩) hS.2.2 dX10_agree_23
  · replace hf := dc_if_f c8 hf
    refine lh_aload_n hx hb dX10_agree_13 rfl (lv_at hl 0 rfl) ?_
    refine lv_iload_n hx hb dX10_agree_14 rfl (lv_at hl 2 rfl) ?_
    obtain ⟨r9, S10, k11, hf⟩ := dc_bd_ok hf
    refine lh_call (S' := S10) (lh_rv ⟨hx, hb, hml, hown, hts⟩ rfl (As := [.int p2]) (rest := []) (k := 10) (c_X10_isClass l D cT n S4 ad A H.size (fun q9 h9 => hA q9 (Nat.le_trans hS.1 h9)) t p2 r9 S10 k11 L_t) (cwV 1 hts gX10_agree_X10_isClass rfl rfl rfl (by decide +kernel) ⟨Nat.le_of_ble_eq_true rfl, Nat.le_of_ble_eq_true rfl⟩) hK hN hW (L_t _ rfl) rfl rfl rfl hl.1 rfl (by simp [lh_cat_r, lh_cat_i, lh_cat_j]) dX10_agree_15 ⟨Nat.le_of_ble_eq_true rfl, Nat.le_of_ble_eq_true rfl⟩) hS (fun H locs hX hW hS => ?_)
    refine W.widen (k := 0) (n := 0) (by omega) (by omega) ?_
    show W _ _ _ _ _ _ _ _ _ _ _ _ _ _ _ (F0 m 18 ls [.int r9])
    have m12 : ∀ b, gvN S4 b ≤ gvN S10 b := hX.1
    have L_t : ∀ j, some t = some j → j < gvN S10 10 := fun j h => Nat.lt_of_lt_of_le (L_t j h) (m12 _)
    have hm : ∀ b, gvN S b ≤ gvN S10 b := lh_le_trans hm m12
    have ok := lh_W_ok hW
    have z13 := hX.2
    refine lv_if_ne (tgt := 24) hx hb dX10_agree_18 (by decide) (fun c14 => ?_) (fun c14 => ?_)
    · replace hf := dc_if_f c14 hf
      refine lv_iload_n hx hb dX10_agree_24 rfl (lv_at hl 3 rfl) ?_
      obtain ⟨r15, S16, k17, hf⟩ := dc_bd_ok hf
      refine lh_call (S' := S16) (lh_rs ⟨hx, hb, hml, hown, hts⟩ (As := [.int p3]) (rest := []) (c_X10_isName l D cT n S10 ad A H.size (fun q9 h9 => hA q9 (Nat.le_trans hS.1 h9)) p3 r15 S16 k17 ) (va_cwS 1 hts gX10_agree_X10_isName rfl rfl rfl (by decide +kernel) ⟨Nat.le_of_ble_eq_true rfl, Nat.le_of_ble_eq_true rfl⟩) hK hN hW rfl hl.1 rfl (by simp [lh_cat_r, lh_cat_i, lh_cat_j]) dX10_agree_25 ⟨Nat.le_of_ble_eq_true rfl, Nat.le_of_ble_eq_true rfl⟩) hS (fun H locs hX hW hS => ?_)
      refine W.widen (k := 0) (n := 0) (by omega) (by omega) ?_
      show W _ _ _ _ _ _ _ _ _ _ _ _ _ _ _ (F0 m 28 ls [.int r15])
      have m18 : ∀ b, gvN S10 b ≤ gvN S16 b := hX.1
      have L_t : ∀ j, some t = some j → j < gvN S16 10 := fun j h => Nat.lt_of_lt_of_le (L_t j h) (m18 _)
      have hm : ∀ b, gvN S b ≤ gvN S16 b := lh_le_trans hm m18
      have ok := lh_W_ok hW
      have z19 := hX.2
      refine lv_if_ne (tgt := 34) hx hb dX10_agree_28 (by decide) (fun c20 => ?_) (fun c20 => ?_)
      · replace hf := dc_if_f c20 hf
        refine lh_aload_n hx hb dX10_agree_34 rfl (lv_at hl 0 rfl) ?_
        have L21 : ∀ j, gvR S16 10 t 16 = some j → j < gvN S16 46 := fun j h => ok _ _ _ _ j (L_t _ rfl) rfl h
        refine lh_get (a := 10) (k := 16) (N := 42) (C := RX10) (T := TX10) (own := RX10) (ref := "LoaderModelsModel") hx hb hts (fun _ h => (List.mem_cons_of_mem _ (List.mem_append_right _ h))) hown hK hW rfl (L_t _ rfl) rfl rfl rfl (by decide) (hts (.fieldLink RX10 54 "LoaderModelsModel" "group" "[I") (List.mem_cons_of_mem _ (List.mem_append_left _ (List.mem_of_getElem? (i := 1) rfl)))) (fun _ h9 => h9) dX10_agree_35 (v := lh_r ad 46 (gvR S16 10 t 16)) rfl ?_
        refine lv_bipush (v := 40) hx hb dX10_agree_38 (by decide) ?_
        refine lh_aload_n hx hb dX10_agree_40 rfl (lv_at hl 0 rfl) ?_
        have L22 : ∀ j, gvR S16 10 t 19 = some j → j < gvN S16 49 := fun j h => ok _ _ _ _ j (L_t _ rfl) rfl h
        refine lh_get (a := 10) (k := 19) (N := 42) (C := RX10) (T := TX10) (own := RX10) (ref := "LoaderModelsModel") hx hb hts (fun _ h => (List.mem_cons_of_mem _ (List.mem_append_right _ h))) hown hK hW rfl (L_t _ rfl) rfl rfl rfl (by decide) (hts (.fieldLink RX10 60 "LoaderModelsModel" "classLoader" "[I") (List.mem_cons_of_mem _ (List.mem_append_left _ (List.mem_of_getElem? (i := 2) rfl)))) (fun _ h9 => h9) dX10_agree_41 (v := lh_r ad 49 (gvR S16 10 t 19)) rfl ?_
        refine lv_iload_n hx hb dX10_agree_44 rfl (lv_at hl 1 rfl) ?_
        obtain ⟨x23, hx23, hf⟩ := dc_nn_ok hf
        obtain ⟨g24, hf⟩ := dc_gd_ok hf
        refine lh_ald_i (a := 49) hx hb hK hW hx23 (L22 _ hx23) rfl rfl g24 dX10_agree_45 ?_
        refine lv_imul hx hb dX10_agree_46 ?_
        refine lv_topi (fun v25 hv25 => ?_)
        replace hf := dc_let_e hv25 hf
        refine lv_iload_n hx hb dX10_agree_47 rfl (lv_at hl 3 rfl) ?_
        refine lv_iadd hx hb dX10_agree_48 ?_
        obtain ⟨x26, hx26, hf⟩ := dc_nn_ok hf
        obtain ⟨g27, hf⟩ := dc_gd_ok hf
        refine lh_ald_i (a := 46) hx hb hK hW hx26 (L21 _ hx26) rfl rfl g27 dX10_agree_49 ?_
        refine lv_istore (i := 4) (lv' := [(4, .int (gvI S16 46 x26 ((v25 + p3)).toNatClampNeg)), (0, lh_r ad 10 (some t)), (1, .int p1), (2, .int p2), (3, .int p3)]) hx hb dX10_agree_50 hl (by decide) (by first | rfl | simp [lh_cat_r, lh_cat_i, lh_cat_j]) (fun ls hl => ?_)
        refine lh_aload_n hx hb dX10_agree_52 rfl (lv_at hl 1 rfl) ?_
        have L28 : ∀ j, gvR S16 10 t 16 = some j → j < gvN S16 46 := fun j h => ok _ _ _ _ j (L_t _ rfl) rfl h
        refine lh_get (a := 10) (k := 16) (N := 42) (C := RX10) (T := TX10) (own := RX10) (ref := "LoaderModelsModel") hx hb hts (fun _ h => (List.mem_cons_of_mem _ (List.mem_append_right _ h))) hown hK hW rfl (L_t _ rfl) rfl rfl rfl (by decide) (hts (.fieldLink RX10 54 "LoaderModelsModel" "group" "[I") (List.mem_cons_of_mem _ (List.mem_append_left _ (List.mem_of_getElem? (i := 1) rfl)))) (fun _ h9 => h9) dX10_agree_53 (v := lh_r ad 46 (gvR S16 10 t 16)) rfl ?_
        refine lv_bipush (v := 40) hx hb dX10_agree_56 (by decide) ?_
        refine lh_aload_n hx hb dX10_agree_58 rfl (lv_at hl 1 rfl) ?_
        have L29 : ∀ j, gvR S16 10 t 19 = some j → j < gvN S16 49 := fun j h => ok _ _ _ _ j (L_t _ rfl) rfl h
        refine lh_get (a := 10) (k := 19) (N := 42) (C := RX10) (T := TX10) (own := RX10) (ref := "LoaderModelsModel") hx hb hts (fun _ h => (List.mem_cons_of_mem _ (List.mem_append_right _ h))) hown hK hW rfl (L_t _ rfl) rfl rfl rfl (by decide) (hts (.fieldLink RX10 60 "LoaderModelsModel" "classLoader" "[I") (List.mem_cons_of_mem _ (List.mem_append_left _ (List.mem_of_getElem? (i := 2) rfl)))) (fun _ h9 => h9) dX10_agree_59 (v := lh_r ad 49 (gvR S16 10 t 19)) rfl ?_
        refine lv_iload_n hx hb dX10_agree_62 rfl (lv_at hl 3 rfl) ?_
        obtain ⟨g30, hf⟩ := dc_gd_ok hf
        refine lh_ald_i (a := 49) hx hb hK hW hx23 (L29 _ hx23) rfl rfl g30 dX10_agree_63 ?_
        refine lv_imul hx hb dX10_agree_64 ?_
        refine lv_topi (fun v31 hv31 => ?_)
        replace hf := dc_let_e hv31 hf
        refine lv_iload_n hx hb dX10_agree_65 rfl (lv_at hl 4 rfl) ?_
        refine lv_iadd hx hb dX10_agree_66 ?_
        obtain ⟨g32, hf⟩ := dc_gd_ok hf
        refine lh_ald_i (a := 46) hx hb hK hW hx26 (L28 _ hx26) rfl rfl g32 dX10_agree_67 ?_
        refine lv_istore (i := 5) (lv' := [(5, .int (gvI S16 46 x26 ((v31 + p3)).toNatClampNeg)), (4, .int (gvI S16 46 x26 ((v25 + p3)).toNatClampNeg)), (0, lh_r ad 10 (some t)), (1, .int p1), (2, .int p2), (3, .int p3)]) hx hb dX10_agree_68 hl (by decide) (by first | rfl | simp [lh_cat_r, lh_cat_i, lh_cat_j]) (fun ls hl => ?_)
        refine lv_iconst (v := 0) hx hb dX10_agree_70 (by decide) ?_
        refine lv_istore (i := 6) (lv' := [(6, .int (0 : Int32)), (5, .int (gvI S16 46 x26 ((v31 + p3)).toNatClampNeg)), (4, .int (gvI S16 46 x26 ((v25 + p3)).toNatClampNeg)), (0, lh_r ad 10 (some t)), (1, .int p1), (2, .int p2), (3, .int p3)]) hx hb dX10_agree_71 hl (by decide) (by first | rfl | simp [lh_cat_r, lh_cat_i, lh_cat_j]) (fun ls hl => ?_)
        refine lv_iconst (v := 0) hx hb dX10_agree_73 (by decide) ?_
        refine lv_istore (i := 7) (lv' := [(7, .int (0 : Int32)), (6, .int (0 : Int32)), (5, .int (gvI S16 46 x26 ((v31 + p3)).toNatClampNeg)), (4, .int (gvI S16 46 x26 ((v25 + p3)).toNatClampNeg)), (0, lh_r ad 10 (some t)), (1, .int p1), (2, .int p2), (3, .int p3)]) hx hb dX10_agree_74 hl (by decide) (by first | rfl | simp [lh_cat_r, lh_cat_i, lh_cat_j]) (fun ls hl => ?_)
        exact L76 n S16 (gvI S16 46 x26 ((v25 + p3)).toNatClampNeg) (gvI S16 46 x26 ((v31 + p3)).toNatClampNeg) (0 : Int32) (0 : Int32) hf hm _ _ hW hS _ (lv_sub hl [4, 5, 6, 7, 3, 2, 1, 0] (by first | rfl | simp [lv_pick]))
      · replace hf := dc_if_t c20 hf
        refine lv_bipush (v := -3) hx hb dX10_agree_31 (by decide) ?_
        obtain ⟨rfl, rfl⟩ := dc_ret hf
        exact W.iret (v := (-3 : Int32)) hx hb hr (fun t9 ht9 hW9 => ⟨⟨rfl, ⟨hm, trivial⟩, by rw [ht9]; exact hW⟩, hS.F ht9⟩) hS.2.2 dX10_agree_33
    · replace hf := dc_if_t c14 hf
      refine lv_bipush (v := -2) hx hb dX10_agree_21 (by decide) ?_
      obtain ⟨rfl, rfl⟩ := dc_ret hf
      exact W.iret (v := (-2 : Int32)) hx hb hr (fun t9 ht9 hW9 => ⟨⟨rfl, ⟨hm, trivial⟩, by rw [ht9]; exact hW⟩, hS.F ht9⟩) hS.2.2 dX10_agree_23
def f_X10_apart (n : Nat) (S : lh_S) (t : Nat) (p1 : Int32) (p2 : Int32) : Option (Int32 × lh_S) :=
  dc_let (pvI S 10 t 0 (0 : Int32)) fun S1 =>
  dc_bd (f_X10_isClass n S1 t p1) fun r3 S4 =>
  dc_if (r3 = 0) (
  some ((-2 : Int32), S4)) (
  dc_bd (f_X10_isClass n S4 t p2) fun r9 S10 =>
  dc_if (r9 = 0) (
  some ((-2 : Int32), S10)) (
  dc_if (p1 = p2) (
  some ((0 : Int32), S10)) (
  dc_nn (gvR S10 10 t 18) fun x17 =>
  dc_gd (p1 < 0 ∨ gvL S10 48 x17 ≤ (p1).toNatClampNeg) (
  dc_gd (p2 < 0 ∨ gvL S10 48 x17 ≤ (p2).toNatClampNeg) (
  dc_if ((gvI S10 48 x17 (p1).toNatClampNeg) = (gvI S10 48 x17 (p2).toNatClampNeg)) (
  some ((1 : Int32), S10)) (
  some ((0 : Int32), S10)))))))
set_option maxHeartbeats 1000000 in
theorem m_X10_apart {n : Nat} {S : lh_S} {t : Nat} {p1 : Int32} {p2 : Int32} {r : Int32} {S' : lh_S} (hf : f_X10_apart n S t p1 p2 = some (r, S')) : ∀ b, gvN S b ≤ gvN S' b := by
  have hm : ∀ b, gvN S b ≤ gvN S b := fun _ => Nat.le_refl _
  unfold f_X10_apart at hf
  obtain ⟨S1, eS1, hf⟩ := dc_let_ok hf
  have hm := lh_le_trans hm (show ∀ b, gvN S b ≤ gvN S1 b from by rw [eS1]; exact lh_mI)
  obtain ⟨r3, S4, k5, hf⟩ := dc_bd_ok hf
  have hm := lh_le_trans hm (show ∀ b, gvN S1 b ≤ gvN S4 b from m_X10_isClass k5)
  by_cases c8 : r3 = 0
  · replace hf := dc_if_t c8 hf
    obtain ⟨_, rfl⟩ := dc_ret hf
    exact hm
  · replace hf := dc_if_f c8 hf
    obtain ⟨r9, S10, k11, hf⟩ := dc_bd_ok hf
    have hm := lh_le_trans hm (show ∀ b, gvN S4 b ≤ gvN S10 b from m_X10_isClass k11)
    by_cases c14 : r9 = 0
    · replace hf := dc_if_t c14 hf
      obtain ⟨_, rfl⟩ := dc_ret hf
      exact hm
    · replace hf := dc_if_f c14 hf
      by_cases c15 : p1 = p2
      · replace hf := dc_if_t c15 hf
        obtain ⟨_, rfl⟩ := dc_ret hf
        exact hm
      · replace hf := dc_if_f c15 hf
        obtain ⟨x17, hx17, hf⟩ := dc_nn_ok hf
        obtain ⟨g18, hf⟩ := dc_gd_ok hf
        obtain ⟨g20, hf⟩ := dc_gd_ok hf
        by_cases c21 : (gvI S10 48 x17 (p1).toNatClampNeg) = (gvI S10 48 x17 (p2).toNatClampNeg)
        · replace hf := dc_if_t c21 hf
          obtain ⟨_, rfl⟩ := dc_ret hf
          exact hm
        · replace hf := dc_if_f c21 hf
          obtain ⟨_, rfl⟩ := dc_ret hf
          exact hm
set_option maxHeartbeats 1000000 in
theorem k_X10_apart {n : Nat} {S : lh_S} {t : Nat} {p1 : Int32} {p2 : Int32} {r : Int32} {S' : lh_S} (hf : f_X10_apart n S t p1 p2 = some (r, S')) : lh_sm10 S S' := by
  have hm : lh_sm10 S S := lh_sm10_rf
  unfold f_X10_apart at hf
  obtain ⟨S1, eS1, hf⟩ := dc_let_ok hf
  have hm := lh_sm10_trans hm (show lh_sm10 S S1 from by rw [eS1]; exact (lh_sm10I (by decide)))
  obtain ⟨r3, S4, k5, hf⟩ := dc_bd_ok hf
  have hm := lh_sm10_trans hm (show lh_sm10 S1 S4 from k_X10_isClass k5)
  by_cases c8 : r3 = 0
  · replace hf := dc_if_t c8 hf
    obtain ⟨_, rfl⟩ := dc_ret hf
    exact hm
  · replace hf := dc_if_f c8 hf
    obtain ⟨r9, S10, k11, hf⟩ := dc_bd_ok hf
    have hm := lh_sm10_trans hm (show lh_sm10 S4 S10 from k_X10_isClass k11)
    by_cases c14 : r9 = 0
    · replace hf := dc_if_t c14 hf
      obtain ⟨_, rfl⟩ := dc_ret hf
      exact hm
    · replace hf := dc_if_f c14 hf
      by_cases c15 : p1 = p2
      · replace hf := dc_if_t c15 hf
        obtain ⟨_, rfl⟩ := dc_ret hf
        exact hm
      · replace hf := dc_if_f c15 hf
        obtain ⟨x17, hx17, hf⟩ := dc_nn_ok hf
        obtain ⟨g18, hf⟩ := dc_gd_ok hf
        obtain ⟨g20, hf⟩ := dc_gd_ok hf
        by_cases c21 : (gvI S10 48 x17 (p1).toNatClampNeg) = (gvI S10 48 x17 (p2).toNatClampNeg)
        · replace hf := dc_if_t c21 hf
          obtain ⟨_, rfl⟩ := dc_ret hf
          exact hm
        · replace hf := dc_if_f c21 hf
          obtain ⟨_, rfl⟩ := dc_ret hf
          exact hm
set_option maxHeartbeats 4000000 in
set_option maxRecDepth 100000 in
theorem c_X10_apart (l : Launch) (D : va_G) (cT : Nat → ClassId) (n : Nat) (S : lh_S) (ad : Nat → Nat → Nat) (A : Nat → Prop) (sz : Nat) (hA : ∀ q, sz ≤ q → A q) (t : Nat) (p1 : Int32) (p2 : Int32) (r : Int32) (S' : lh_S) (hf : f_X10_apart n S t p1 p2 = some (r, S')) (L_t : ∀ j, some t = some j → j < gvN S 10) : Met l yX10_apart wsX10_apart ({ frames := 2, cells := 0, slots := 0, locals := 46 } : Room) (lh_P D cT S ad A sz [lh_r ad 10 (some t), .int p1, .int p2]) (lh_Q D cT S' ad A ((∀ b, gvN S b ≤ gvN S' b) ∧ True) (some (.int r))) 0 0 A := by
  refine Met.ofW (cc := cX10_apart) (maxL := 3) (ret := (some .int)) (by decide) rfl ?_
  intro p e s m args below meth c s₁ B hml hv
  obtain ⟨hargs, hsz, hW, hK, hN⟩ := hv
  have hx := B.exec
  have hb := B.bytes
  have hr := B.returns
  have hts := atoms_spec (ws := wsX10_apart) B.pre
  have hown : s.vm.findClass RX10 = some m.cls := findClass_of_methodNamed B.named
  have hlocks := B.notSynchronized
  have hA : ∀ q, s.heap.size ≤ q → A q := fun q h => hA q (by rw [← hsz]; exact h)
  have ok := lh_W_ok hW
  have hm : ∀ b, gvN S b ≤ gvN S b := fun _ => Nat.le_refl _
  obtain ⟨ls, hent, hl⟩ := lh_entry m args [lh_r ad 10 (some t), .int p1, .int p2] 3 [(0, lh_r ad 10 (some t)), (1, .int p1), (2, .int p2)] hargs (by simp [lv_args, lh_cat_r, lh_cat_i, lh_cat_j]) (by simp [lg_sl, lh_cat_r, lh_cat_i, lh_cat_j])
  rw [hent]
  generalize hH : s.heap = H at hW ⊢
  have hS : va_S A s.heap H [] := by rw [← hH]; exact va_S.rf
  unfold f_X10_apart at hf
  refine lh_aload_n hx hb dX10_apart_0 rfl (lv_at hl 0 rfl) ?_
  refine lv_iconst (v := 0) hx hb dX10_apart_1 (by decide) ?_
  obtain ⟨S1, eS1, hf⟩ := dc_let_ok hf
  refine lh_put (S' := S1) (a := 10) (k := 0) (N := 42) (C := RX10) (T := TX10) (own := RX10) (ref := "LoaderModelsModel") (ty := .int) hx hb hts (fun _ h => (List.mem_cons_of_mem _ (List.mem_append_right _ h))) tyX10 tyX10_ok nmX10 hown hK hW hS rfl (L_t _ rfl) rfl rfl rfl (by decide) (hts (.fieldLink RX10 1 "LoaderModelsModel" "thrown" "I") (List.mem_cons_of_mem _ (List.mem_append_left _ (List.mem_of_getElem? (i := 0) rfl)))) (fun _ h9 => h9) (Or.inl rfl) (by decide +kernel) rfl rfl (fun q9 => by rw [eS1]; exact lh_chI rfl q9) dX10_apart_2 (fun H locs hW hS => ?_)
  have m2 : ∀ b, gvN S b ≤ gvN S1 b := by rw [eS1]; exact lh_mI
  have L_t : ∀ j, some t = some j → j < gvN S1 10 := fun j h => Nat.lt_of_lt_of_le (L_t j h) (m2 _)
  have hm : ∀ b, gvN S b ≤ gvN S1 b := lh_le_trans hm m2
  have ok := lh_W_ok hW
  refine lh_aload_n hx hb dX10_apart_5 rfl (lv_at hl 0 rfl) ?_
  refine lv_iload_n hx hb dX10_apart_6 rfl (lv_at hl 1 rfl) ?_
  obtain ⟨r3, S4, k5, hf⟩ := dc_bd_ok hf
  refine lh_call (S' := S4) (lh_rv ⟨hx, hb, hml, hown, hts⟩ rfl (As := [.int p1]) (rest := []) (k := 10) (c_X10_isClass l D cT n S1 ad A H.size (fun q9 h9 => hA q9 (Nat.le_trans hS.1 h9)) t p1 r3 S4 k5 L_t) (cwV 1 hts gX10_apart_X10_isClass rfl rfl rfl (by decide +kernel) ⟨Nat.le_of_ble_eq_true rfl, Nat.le_of_ble_eq_true rfl⟩) hK hN hW (L_t _ rfl) rfl rfl rfl hl.1 rfl (by simp [lh_cat_r, lh_cat_i, lh_cat_j]) dX10_apart_7 ⟨Nat.le_of_ble_eq_true rfl, Nat.le_of_ble_eq_true rfl⟩) hS (fun H locs hX hW hS => ?_)
  refine W.widen (k := 0) (n := 0) (by omega) (by omega) ?_
  show W _ _ _ _ _ _ _ _ _ _ _ _ _ _ _ (F0 m 10 ls [.int r3])
  have m6 : ∀ b, gvN S1 b ≤ gvN S4 b := hX.1
  have L_t : ∀ j, some t = some j → j < gvN S4 10 := fun j h => Nat.lt_of_lt_of_le (L_t j h) (m6 _)
  have hm : ∀ b, gvN S b ≤ gvN S4 b := lh_le_trans hm m6
  have ok := lh_W_ok hW
  have z7 := hX.2
  refine lv_if_eq (tgt := 21) hx hb dX10_apart_10 (by decide) (fun c8 => ?_) (fun c8 => ?_)
  · replace hf := dc_if_t c8 hf
    refine lv_bipush (v := -2) hx hb dX10_apart_21 (by decide) ?_
    obtain ⟨rfl, rfl⟩ := dc_ret hf
    exact W.iret (v := (-2 : Int32)) hx hb hr (fun t9 ht9 hW9 => ⟨⟨rfl, ⟨hm, trivial⟩, by rw [ht9]; exact hW⟩, hS.F ht9⟩) hS.2.2 dX10_apart_23
  · replace hf := dc_if_f c8 hf
    refine lh_aload_n hx hb dX10_apart_13 rfl (lv_at hl 0 rfl) ?_
    refine lv_iload_n hx hb dX10_apart_14 rfl (lv_at hl 2 rfl) ?_
    obtain ⟨r9, S10, k11, hf⟩ := dc_bd_ok hf
    refine lh_call (S' := S10) (lh_rv ⟨hx, hb, hml, hown, hts⟩ rfl (As := [.int p2]) (rest := []) (k := 10) (c_X10_isClass l D cT n S4 ad A H.size (fun q9 h9 => hA q9 (Nat.le_trans hS.1 h9)) t p2 r9 S10 k11 L_t) (cwV 1 hts gX10_apart_X10_isClass rfl rfl rfl (by decide +kernel) ⟨Nat.le_of_ble_eq_true rfl, Nat.le_of_ble_eq_true rfl⟩) hK hN hW (L_t _ rfl) rfl rfl rfl hl.1 rfl (by simp [lh_cat_r, lh_cat_i, lh_cat_j]) dX10_apart_15 ⟨Nat.le_of_ble_eq_true rfl, Nat.le_of_ble_eq_true rfl⟩) hS (fun H locs hX hW hS => ?_)
    refine W.widen (k := 0) (n := 0) (by omega) (by omega) ?_
    show W _ _ _ _ _ _ _ _ _ _ _ _ _ _ _ (F0 m 18 ls [.int r9])
    have m12 : ∀ b, gvN S4 b ≤ gvN S10 b := hX.1
    have L_t : ∀ j, some t = some j → j < gvN S10 10 := fun j h => Nat.lt_of_lt_of_le (L_t j h) (m12 _)
    have hm : ∀ b, gvN S b ≤ gvN S10 b := lh_le_trans hm m12
    have ok := lh_W_ok hW
    have z13 := hX.2
    refine lv_if_ne (tgt := 24) hx hb dX10_apart_18 (by decide) (fun c14 => ?_) (fun c14 => ?_)
    · replace hf := dc_if_f c14 hf
      refine lv_iload_n hx hb dX10_apart_24 rfl (lv_at hl 1 rfl) ?_
      refine lv_iload_n hx hb dX10_apart_25 rfl (lv_at hl 2 rfl) ?_
      refine lv_icmp_eq (tgt := 48) hx hb dX10_apart_26 (by decide) (fun c15 => ?_) (fun c15 => ?_)
      · replace hf := dc_if_t c15 hf
        refine lv_iconst (v := 0) hx hb dX10_apart_48 (by decide) ?_
        obtain ⟨rfl, rfl⟩ := dc_ret hf
        exact W.iret (v := (0 : Int32)) hx hb hr (fun t9 ht9 hW9 => ⟨⟨rfl, ⟨hm, trivial⟩, by rw [ht9]; exact hW⟩, hS.F ht9⟩) hS.2.2 dX10_apart_49
      · replace hf := dc_if_f c15 hf
        refine lh_aload_n hx hb dX10_apart_29 rfl (lv_at hl 0 rfl) ?_
        have L16 : ∀ j, gvR S10 10 t 18 = some j → j < gvN S10 48 := fun j h => ok _ _ _ _ j (L_t _ rfl) rfl h
        refine lh_get (a := 10) (k := 18) (N := 42) (C := RX10) (T := TX10) (own := RX10) (ref := "LoaderModelsModel") hx hb hts (fun _ h => (List.mem_cons_of_mem _ (List.mem_append_right _ h))) hown hK hW rfl (L_t _ rfl) rfl rfl rfl (by decide) (hts (.fieldLink RX10 57 "LoaderModelsModel" "className" "[I") (List.mem_cons_of_mem _ (List.mem_append_left _ (List.mem_of_getElem? (i := 1) rfl)))) (fun _ h9 => h9) dX10_apart_30 (v := lh_r ad 48 (gvR S10 10 t 18)) rfl ?_
        refine lv_iload_n hx hb dX10_apart_33 rfl (lv_at hl 1 rfl) ?_
        obtain ⟨x17, hx17, hf⟩ := dc_nn_ok hf
        obtain ⟨g18, hf⟩ := dc_gd_ok hf
        refine lh_ald_i (a := 48) hx hb hK hW hx17 (L16 _ hx17) rfl rfl g18 dX10_apart_34 ?_
        refine lh_aload_n hx hb dX10_apart_35 rfl (lv_at hl 0 rfl) ?_
        have L19 : ∀ j, gvR S10 10 t 18 = some j → j < gvN S10 48 := fun j h => ok _ _ _ _ j (L_t _ rfl) rfl h
        refine lh_get (a := 10) (k := 18) (N := 42) (C := RX10) (T := TX10) (own := RX10) (ref := "LoaderModelsModel") hx hb hts (fun _ h => (List.mem_cons_of_mem _ (List.mem_append_right _ h))) hown hK hW rfl (L_t _ rfl) rfl rfl rfl (by decide) (hts (.fieldLink RX10 57 "LoaderModelsModel" "className" "[I") (List.mem_cons_of_mem _ (List.mem_append_left _ (List.mem_of_getElem? (i := 1) rfl)))) (fun _ h9 => h9) dX10_apart_36 (v := lh_r ad 48 (gvR S10 10 t 18)) rfl ?_
        refine lv_iload_n hx hb dX10_apart_39 rfl (lv_at hl 2 rfl) ?_
        obtain ⟨g20, hf⟩ := dc_gd_ok hf
        refine lh_ald_i (a := 48) hx hb hK hW hx17 (L19 _ hx17) rfl rfl g20 dX10_apart_40 ?_
        refine lv_icmp_ne (tgt := 48) hx hb dX10_apart_41 (by decide) (fun c21 => ?_) (fun c21 => ?_)
        · replace hf := dc_if_f c21 hf
          refine lv_iconst (v := 0) hx hb dX10_apart_48 (by decide) ?_
          obtain ⟨rfl, rfl⟩ := dc_ret hf
          exact W.iret (v := (0 : Int32)) hx hb hr (fun t9 ht9 hW9 => ⟨⟨rfl, ⟨hm, trivial⟩, by rw [ht9]; exact hW⟩, hS.F ht9⟩) hS.2.2 dX10_apart_49
        · replace hf := dc_if_t c21 hf
          refine lv_iconst (v := 1) hx hb dX10_apart_44 (by decide) ?_
          refine lv_goto (tgt := 49) hx hb dX10_apart_45 (by decide) ?_
          obtain ⟨rfl, rfl⟩ := dc_ret hf
          exact W.iret (v := (1 : Int32)) hx hb hr (fun t9 ht9 hW9 => ⟨⟨rfl, ⟨hm, trivial⟩, by rw [ht9]; exact hW⟩, hS.F ht9⟩) hS.2.2 dX10_apart_49
    · replace hf := dc_if_t c14 hf
      refine lv_bipush (v := -2) hx hb dX10_apart_21 (by decide) ?_
      obtain ⟨rfl, rfl⟩ := dc_ret hf
      exact W.iret (v := (-2 : Int32)) hx hb hr (fun t9 ht9 hW9 => ⟨⟨rfl, ⟨hm, trivial⟩, by rw [ht9]; exact hW⟩, hS.F ht9⟩) hS.2.2 dX10_apart_23
def f_X10_started_L63 (n : Nat) (t : Nat) (p1 : Int32) : Nat → lh_S → Int32 → Int32 → Int32 → Int32 → Option (Int32 × lh_S)
  | 0, _, _, _, _, _ => none
  | g + 1, S6, v7, v8, v9, v10 =>
  dc_if (v10 < 0) (
  some (v9, S6)) (
  dc_nn (gvR S6 10 t 35) fun x13 =>
  dc_gd (v10 < 0 ∨ gvL S6 65 x13 ≤ (v10).toNatClampNeg) (
  dc_nn (gvR S6 10 t 20) fun x17 =>
  dc_gd ((gvI S6 65 x13 (v10).toNatClampNeg) < 0 ∨ gvL S6 50 x17 ≤ ((gvI S6 65 x13 (v10).toNatClampNeg)).toNatClampNeg) (
  dc_nn (gvR S6 10 t 5) fun x19 =>
  dc_gd ((gvI S6 50 x17 ((gvI S6 65 x13 (v10).toNatClampNeg)).toNatClampNeg) < 0 ∨ gvL S6 35 x19 ≤ ((gvI S6 50 x17 ((gvI S6 65 x13 (v10).toNatClampNeg)).toNatClampNeg)).toNatClampNeg) (
  dc_if (v9 = 0) (
  dc_if ((gvI S6 35 x19 ((gvI S6 50 x17 ((gvI S6 65 x13 (v10).toNatClampNeg)).toNatClampNeg)).toNatClampNeg) = 0) (
  dc_nn (gvR S6 10 t 22) fun x101 =>
  dc_gd ((gvI S6 65 x13 (v10).toNatClampNeg) < 0 ∨ gvL S6 52 x101 ≤ ((gvI S6 65 x13 (v10).toNatClampNeg)).toNatClampNeg) (
  dc_let (pvI S6 52 x101 ((gvI S6 65 x13 (v10).toNatClampNeg)).toNatClampNeg (2 : Int32)) fun S103 =>
  dc_nn (gvR S103 10 t 23) fun x108 =>
  dc_gd ((gvI S6 65 x13 (v10).toNatClampNeg) < 0 ∨ gvL S103 53 x108 ≤ ((gvI S6 65 x13 (v10).toNatClampNeg)).toNatClampNeg) (
  dc_gd ((gvI S6 65 x13 (v10).toNatClampNeg) < 0 ∨ gvL S103 53 x108 ≤ ((gvI S6 65 x13 (v10).toNatClampNeg)).toNatClampNeg) (
  dc_let (pvJ S103 53 x108 ((gvI S6 65 x13 (v10).toNatClampNeg)).toNatClampNeg (gvJ S103 53 x108 ((gvI S6 65 x13 (v10).toNatClampNeg)).toNatClampNeg)) fun S111 =>
  f_X10_started_L63 n t p1 g S111 v7 v8 (9 : Int32) (v10 + (-1 : Int32)))))) (
  dc_if (v9 = 0) (
  dc_nn (gvR S6 10 t 22) fun x81 =>
  dc_gd ((gvI S6 65 x13 (v10).toNatClampNeg) < 0 ∨ gvL S6 52 x81 ≤ ((gvI S6 65 x13 (v10).toNatClampNeg)).toNatClampNeg) (
  dc_let (pvI S6 52 x81 ((gvI S6 65 x13 (v10).toNatClampNeg)).toNatClampNeg (1 : Int32)) fun S83 =>
  dc_if (v9 = 0) (
  dc_gd ((gvI S6 35 x19 ((gvI S6 50 x17 ((gvI S6 65 x13 (v10).toNatClampNeg)).toNatClampNeg)).toNatClampNeg) = 0) (
  dc_let ((1000 : Int32) / (gvI S6 35 x19 ((gvI S6 50 x17 ((gvI S6 65 x13 (v10).toNatClampNeg)).toNatClampNeg)).toNatClampNeg)) fun v94 =>
  dc_nn (gvR S83 10 t 23) fun x95 =>
  dc_gd ((gvI S6 65 x13 (v10).toNatClampNeg) < 0 ∨ gvL S83 53 x95 ≤ ((gvI S6 65 x13 (v10).toNatClampNeg)).toNatClampNeg) (
  dc_let (pvJ S83 53 x95 ((gvI S6 65 x13 (v10).toNatClampNeg)).toNatClampNeg v94.toInt64) fun S97 =>
  f_X10_started_L63 n t p1 g S97 v7 v8 v9 (v10 + (-1 : Int32))))) (
  dc_nn (gvR S83 10 t 23) fun x88 =>
  dc_gd ((gvI S6 65 x13 (v10).toNatClampNeg) < 0 ∨ gvL S83 53 x88 ≤ ((gvI S6 65 x13 (v10).toNatClampNeg)).toNatClampNeg) (
  dc_gd ((gvI S6 65 x13 (v10).toNatClampNeg) < 0 ∨ gvL S83 53 x88 ≤ ((gvI S6 65 x13 (v10).toNatClampNeg)).toNatClampNeg) (
  dc_let (pvJ S83 53 x88 ((gvI S6 65 x13 (v10).toNatClampNeg)).toNatClampNeg (gvJ S83 53 x88 ((gvI S6 65 x13 (v10).toNatClampNeg)).toNatClampNeg)) fun S91 =>
  f_X10_started_L63 n t p1 g S91 v7 v8 v9 (v10 + (-1 : Int32))))))) (
  dc_nn (gvR S6 10 t 22) fun x63 =>
  dc_gd ((gvI S6 65 x13 (v10).toNatClampNeg) < 0 ∨ gvL S6 52 x63 ≤ ((gvI S6 65 x13 (v10).toNatClampNeg)).toNatClampNeg) (
  dc_let (pvI S6 52 x63 ((gvI S6 65 x13 (v10).toNatClampNeg)).toNatClampNeg (2 : Int32)) fun S65 =>
  dc_if (v9 = 0) (
  dc_gd ((gvI S6 35 x19 ((gvI S6 50 x17 ((gvI S6 65 x13 (v10).toNatClampNeg)).toNatClampNeg)).toNatClampNeg) = 0) (
  dc_let ((1000 : Int32) / (gvI S6 35 x19 ((gvI S6 50 x17 ((gvI S6 65 x13 (v10).toNatClampNeg)).toNatClampNeg)).toNatClampNeg)) fun v76 =>
  dc_nn (gvR S65 10 t 23) fun x77 =>
  dc_gd ((gvI S6 65 x13 (v10).toNatClampNeg) < 0 ∨ gvL S65 53 x77 ≤ ((gvI S6 65 x13 (v10).toNatClampNeg)).toNatClampNeg) (
  dc_let (pvJ S65 53 x77 ((gvI S6 65 x13 (v10).toNatClampNeg)).toNatClampNeg v76.toInt64) fun S79 =>
  f_X10_started_L63 n t p1 g S79 v7 v8 v9 (v10 + (-1 : Int32))))) (
  dc_nn (gvR S65 10 t 23) fun x70 =>
  dc_gd ((gvI S6 65 x13 (v10).toNatClampNeg) < 0 ∨ gvL S65 53 x70 ≤ ((gvI S6 65 x13 (v10).toNatClampNeg)).toNatClampNeg) (
  dc_gd ((gvI S6 65 x13 (v10).toNatClampNeg) < 0 ∨ gvL S65 53 x70 ≤ ((gvI S6 65 x13 (v10).toNatClampNeg)).toNatClampNeg) (
  dc_let (pvJ S65 53 x70 ((gvI S6 65 x13 (v10).toNatClampNeg)).toNatClampNeg (gvJ S65 53 x70 ((gvI S6 65 x13 (v10).toNatClampNeg)).toNatClampNeg)) fun S73 =>
  f_X10_started_L63 n t p1 g S73 v7 v8 v9 (v10 + (-1 : Int32))))))))) (
  dc_if (v9 = 0) (
  dc_nn (gvR S6 10 t 22) fun x42 =>
  dc_gd ((gvI S6 65 x13 (v10).toNatClampNeg) < 0 ∨ gvL S6 52 x42 ≤ ((gvI S6 65 x13 (v10).toNatClampNeg)).toNatClampNeg) (
  dc_let (pvI S6 52 x42 ((gvI S6 65 x13 (v10).toNatClampNeg)).toNatClampNeg (1 : Int32)) fun S44 =>
  dc_if (v9 = 0) (
  dc_gd ((gvI S6 35 x19 ((gvI S6 50 x17 ((gvI S6 65 x13 (v10).toNatClampNeg)).toNatClampNeg)).toNatClampNeg) = 0) (
  dc_let ((1000 : Int32) / (gvI S6 35 x19 ((gvI S6 50 x17 ((gvI S6 65 x13 (v10).toNatClampNeg)).toNatClampNeg)).toNatClampNeg)) fun v55 =>
  dc_nn (gvR S44 10 t 23) fun x56 =>
  dc_gd ((gvI S6 65 x13 (v10).toNatClampNeg) < 0 ∨ gvL S44 53 x56 ≤ ((gvI S6 65 x13 (v10).toNatClampNeg)).toNatClampNeg) (
  dc_let (pvJ S44 53 x56 ((gvI S6 65 x13 (v10).toNatClampNeg)).toNatClampNeg v55.toInt64) fun S58 =>
  f_X10_started_L63 n t p1 g S58 v7 v8 v9 (v10 + (-1 : Int32))))) (
  dc_nn (gvR S44 10 t 23) fun x49 =>
  dc_gd ((gvI S6 65 x13 (v10).toNatClampNeg) < 0 ∨ gvL S44 53 x49 ≤ ((gvI S6 65 x13 (v10).toNatClampNeg)).toNatClampNeg) (
  dc_gd ((gvI S6 65 x13 (v10).toNatClampNeg) < 0 ∨ gvL S44 53 x49 ≤ ((gvI S6 65 x13 (v10).toNatClampNeg)).toNatClampNeg) (
  dc_let (pvJ S44 53 x49 ((gvI S6 65 x13 (v10).toNatClampNeg)).toNatClampNeg (gvJ S44 53 x49 ((gvI S6 65 x13 (v10).toNatClampNeg)).toNatClampNeg)) fun S52 =>
  f_X10_started_L63 n t p1 g S52 v7 v8 v9 (v10 + (-1 : Int32))))))) (
  dc_nn (gvR S6 10 t 22) fun x24 =>
  dc_gd ((gvI S6 65 x13 (v10).toNatClampNeg) < 0 ∨ gvL S6 52 x24 ≤ ((gvI S6 65 x13 (v10).toNatClampNeg)).toNatClampNeg) (
  dc_let (pvI S6 52 x24 ((gvI S6 65 x13 (v10).toNatClampNeg)).toNatClampNeg (2 : Int32)) fun S26 =>
  dc_if (v9 = 0) (
  dc_gd ((gvI S6 35 x19 ((gvI S6 50 x17 ((gvI S6 65 x13 (v10).toNatClampNeg)).toNatClampNeg)).toNatClampNeg) = 0) (
  dc_let ((1000 : Int32) / (gvI S6 35 x19 ((gvI S6 50 x17 ((gvI S6 65 x13 (v10).toNatClampNeg)).toNatClampNeg)).toNatClampNeg)) fun v37 =>
  dc_nn (gvR S26 10 t 23) fun x38 =>
  dc_gd ((gvI S6 65 x13 (v10).toNatClampNeg) < 0 ∨ gvL S26 53 x38 ≤ ((gvI S6 65 x13 (v10).toNatClampNeg)).toNatClampNeg) (
  dc_let (pvJ S26 53 x38 ((gvI S6 65 x13 (v10).toNatClampNeg)).toNatClampNeg v37.toInt64) fun S40 =>
  f_X10_started_L63 n t p1 g S40 v7 v8 v9 (v10 + (-1 : Int32))))) (
  dc_nn (gvR S26 10 t 23) fun x31 =>
  dc_gd ((gvI S6 65 x13 (v10).toNatClampNeg) < 0 ∨ gvL S26 53 x31 ≤ ((gvI S6 65 x13 (v10).toNatClampNeg)).toNatClampNeg) (
  dc_gd ((gvI S6 65 x13 (v10).toNatClampNeg) < 0 ∨ gvL S26 53 x31 ≤ ((gvI S6 65 x13 (v10).toNatClampNeg)).toNatClampNeg) (
  dc_let (pvJ S26 53 x31 ((gvI S6 65 x13 (v10).toNatClampNeg)).toNatClampNeg (gvJ S26 53 x31 ((gvI S6 65 x13 (v10).toNatClampNeg)).toNatClampNeg)) fun S34 =>
  f_X10_started_L63 n t p1 g S34 v7 v8 v9 (v10 + (-1 : Int32))))))))))))
theorem m_X10_started_L63 {n : Nat} {t : Nat} {p1 : Int32} {r : Int32} {S' : lh_S} : ∀ (g : Nat) (S6 : lh_S) (v7 : Int32) (v8 : Int32) (v9 : Int32) (v10 : Int32), f_X10_started_L63 n t p1 g S6 v7 v8 v9 v10 = some (r, S') → ∀ b, gvN S6 b ≤ gvN S' b := by
    intro g
    induction g with
    | zero => intro S6 v7 v8 v9 v10 hf; rw [f_X10_started_L63] at hf; cases hf
    | succ g ih =>
      intro S6 v7 v8 v9 v10 hf
      rw [f_X10_started_L63] at hf
      have hm : ∀ b, gvN S6 b ≤ gvN S6 b := fun _ => Nat.le_refl _
      by_cases c11 : v10 < 0
      · replace hf := dc_if_t c11 hf
        obtain ⟨_, rfl⟩ := dc_ret hf
        exact hm
      · replace hf := dc_if_f c11 hf
        obtain ⟨x13, hx13, hf⟩ := dc_nn_ok hf
        obtain ⟨g14, hf⟩ := dc_gd_ok hf
        obtain ⟨x17, hx17, hf⟩ := dc_nn_ok hf
        obtain ⟨g18, hf⟩ := dc_gd_ok hf
        obtain ⟨x19, hx19, hf⟩ := dc_nn_ok hf
        obtain ⟨g20, hf⟩ := dc_gd_ok hf
        by_cases c21 : v9 = 0
        · replace hf := dc_if_t c21 hf
          by_cases c60 : (gvI S6 35 x19 ((gvI S6 50 x17 ((gvI S6 65 x13 (v10).toNatClampNeg)).toNatClampNeg)).toNatClampNeg) = 0
          · replace hf := dc_if_t c60 hf
            obtain ⟨x101, hx101, hf⟩ := dc_nn_ok hf
            obtain ⟨g102, hf⟩ := dc_gd_ok hf
            obtain ⟨S103, eS103, hf⟩ := dc_let_ok hf
            have hm := lh_le_trans hm (show ∀ b, gvN S6 b ≤ gvN S103 b from by rw [eS103]; exact lh_mI)
            obtain ⟨x108, hx108, hf⟩ := dc_nn_ok hf
            obtain ⟨g109, hf⟩ := dc_gd_ok hf
            obtain ⟨g110, hf⟩ := dc_gd_ok hf
            obtain ⟨S111, eS111, hf⟩ := dc_let_ok hf
            have hm := lh_le_trans hm (show ∀ b, gvN S103 b ≤ gvN S111 b from by rw [eS111]; exact lh_mJ)
            exact lh_le_trans hm (ih S111 v7 v8 (9 : Int32) (v10 + (-1 : Int32)) hf)
          · replace hf := dc_if_f c60 hf
            by_cases c62 : v9 = 0
            · replace hf := dc_if_t c62 hf
              obtain ⟨x81, hx81, hf⟩ := dc_nn_ok hf
              obtain ⟨g82, hf⟩ := dc_gd_ok hf
              obtain ⟨S83, eS83, hf⟩ := dc_let_ok hf
              have hm := lh_le_trans hm (show ∀ b, gvN S6 b ≤ gvN S83 b from by rw [eS83]; exact lh_mI)
              by_cases c86 : v9 = 0
              · replace hf := dc_if_t c86 hf
                obtain ⟨g93, hf⟩ := dc_gd_ok hf
                obtain ⟨v94, hv94, hf⟩ := dc_let_ok hf
                obtain ⟨x95, hx95, hf⟩ := dc_nn_ok hf
                obtain ⟨g96, hf⟩ := dc_gd_ok hf
                obtain ⟨S97, eS97, hf⟩ := dc_let_ok hf
                have hm := lh_le_trans hm (show ∀ b, gvN S83 b ≤ gvN S97 b from by rw [eS97]; exact lh_mJ)
                exact lh_le_trans hm (ih S97 v7 v8 v9 (v10 + (-1 : Int32)) hf)
              · replace hf := dc_if_f c86 hf
                obtain ⟨x88, hx88, hf⟩ := dc_nn_ok hf
                obtain ⟨g89, hf⟩ := dc_gd_ok hf
                obtain ⟨g90, hf⟩ := dc_gd_ok hf
                obtain ⟨S91, eS91, hf⟩ := dc_let_ok hf
                have hm := lh_le_trans hm (show ∀ b, gvN S83 b ≤ gvN S91 b from by rw [eS91]; exact lh_mJ)
                exact lh_le_trans hm (ih S91 v7 v8 v9 (v10 + (-1 : Int32)) hf)
            · replace hf := dc_if_f c62 hf
              obtain ⟨x63, hx63, hf⟩ := dc_nn_ok hf
              obtain ⟨g64, hf⟩ := dc_gd_ok hf
              obtain ⟨S65, eS65, hf⟩ := dc_let_ok hf
              have hm := lh_le_trans hm (show ∀ b, gvN S6 b ≤ gvN S65 b from by rw [eS65]; exact lh_mI)
              by_cases c68 : v9 = 0
              · replace hf := dc_if_t c68 hf
                obtain ⟨g75, hf⟩ := dc_gd_ok hf
                obtain ⟨v76, hv76, hf⟩ := dc_let_ok hf
                obtain ⟨x77, hx77, hf⟩ := dc_nn_ok hf
                obtain ⟨g78, hf⟩ := dc_gd_ok hf
                obtain ⟨S79, eS79, hf⟩ := dc_let_ok hf
                have hm := lh_le_trans hm (show ∀ b, gvN S65 b ≤ gvN S79 b from by rw [eS79]; exact lh_mJ)
                exact lh_le_trans hm (ih S79 v7 v8 v9 (v10 + (-1 : Int32)) hf)
              · replace hf := dc_if_f c68 hf
                obtain ⟨x70, hx70, hf⟩ := dc_nn_ok hf
                obtain ⟨g71, hf⟩ := dc_gd_ok hf
                obtain ⟨g72, hf⟩ := dc_gd_ok hf
                obtain ⟨S73, eS73, hf⟩ := dc_let_ok hf
                have hm := lh_le_trans hm (show ∀ b, gvN S65 b ≤ gvN S73 b from by rw [eS73]; exact lh_mJ)
                exact lh_le_trans hm (ih S73 v7 v8 v9 (v10 + (-1 : Int32)) hf)
        · replace hf := dc_if_f c21 hf
          by_cases c23 : v9 = 0
          · replace hf := dc_if_t c23 hf
            obtain ⟨x42, hx42, hf⟩ := dc_nn_ok hf
            obtain ⟨g43, hf⟩ := dc_gd_ok hf
            obtain ⟨S44, eS44, hf⟩ := dc_let_ok hf
            have hm := lh_le_trans hm (show ∀ b, gvN S6 b ≤ gvN S44 b from by rw [eS44]; exact lh_mI)
            by_cases c47 : v9 = 0
            · replace hf := dc_if_t c47 hf
              obtain ⟨g54, hf⟩ := dc_gd_ok hf
              obtain ⟨v55, hv55, hf⟩ := dc_let_ok hf
              obtain ⟨x56, hx56, hf⟩ := dc_nn_ok hf
              obtain ⟨g57, hf⟩ := dc_gd_ok hf
              obtain ⟨S58, eS58, hf⟩ := dc_let_ok hf
              have hm := lh_le_trans hm (show ∀ b, gvN S44 b ≤ gvN S58 b from by rw [eS58]; exact lh_mJ)
              exact lh_le_trans hm (ih S58 v7 v8 v9 (v10 + (-1 : Int32)) hf)
            · replace hf := dc_if_f c47 hf
              obtain ⟨x49, hx49, hf⟩ := dc_nn_ok hf
              obtain ⟨g50, hf⟩ := dc_gd_ok hf
              obtain ⟨g51, hf⟩ := dc_gd_ok hf
              obtain ⟨S52, eS52, hf⟩ := dc_let_ok hf
              have hm := lh_le_trans hm (show ∀ b, gvN S44 b ≤ gvN S52 b from by rw [eS52]; exact lh_mJ)
              exact lh_le_trans hm (ih S52 v7 v8 v9 (v10 + (-1 : Int32)) hf)
          · replace hf := dc_if_f c23 hf
            obtain ⟨x24, hx24, hf⟩ := dc_nn_ok hf
            obtain ⟨g25, hf⟩ := dc_gd_ok hf
            obtain ⟨S26, eS26, hf⟩ := dc_let_ok hf
            have hm := lh_le_trans hm (show ∀ b, gvN S6 b ≤ gvN S26 b from by rw [eS26]; exact lh_mI)
            by_cases c29 : v9 = 0
            · replace hf := dc_if_t c29 hf
              obtain ⟨g36, hf⟩ := dc_gd_ok hf
              obtain ⟨v37, hv37, hf⟩ := dc_let_ok hf
              obtain ⟨x38, hx38, hf⟩ := dc_nn_ok hf
              obtain ⟨g39, hf⟩ := dc_gd_ok hf
              obtain ⟨S40, eS40, hf⟩ := dc_let_ok hf
              have hm := lh_le_trans hm (show ∀ b, gvN S26 b ≤ gvN S40 b from by rw [eS40]; exact lh_mJ)
              exact lh_le_trans hm (ih S40 v7 v8 v9 (v10 + (-1 : Int32)) hf)
            · replace hf := dc_if_f c29 hf
              obtain ⟨x31, hx31, hf⟩ := dc_nn_ok hf
              obtain ⟨g32, hf⟩ := dc_gd_ok hf
              obtain ⟨g33, hf⟩ := dc_gd_ok hf
              obtain ⟨S34, eS34, hf⟩ := dc_let_ok hf
              have hm := lh_le_trans hm (show ∀ b, gvN S26 b ≤ gvN S34 b from by rw [eS34]; exact lh_mJ)
              exact lh_le_trans hm (ih S34 v7 v8 v9 (v10 + (-1 : Int32)) hf)
theorem k_X10_started_L63 {n : Nat} {t : Nat} {p1 : Int32} {r : Int32} {S' : lh_S} : ∀ (g : Nat) (S6 : lh_S) (v7 : Int32) (v8 : Int32) (v9 : Int32) (v10 : Int32), f_X10_started_L63 n t p1 g S6 v7 v8 v9 v10 = some (r, S') → lh_sm10 S6 S' := by
    intro g
    induction g with
    | zero => intro S6 v7 v8 v9 v10 hf; rw [f_X10_started_L63] at hf; cases hf
    | succ g ih =>
      intro S6 v7 v8 v9 v10 hf
      rw [f_X10_started_L63] at hf
      have hm : lh_sm10 S6 S6 := lh_sm10_rf
      by_cases c11 : v10 < 0
      · replace hf := dc_if_t c11 hf
        obtain ⟨_, rfl⟩ := dc_ret hf
        exact hm
      · replace hf := dc_if_f c11 hf
        obtain ⟨x13, hx13, hf⟩ := dc_nn_ok hf
        obtain ⟨g14, hf⟩ := dc_gd_ok hf
        obtain ⟨x17, hx17, hf⟩ := dc_nn_ok hf
        obtain ⟨g18, hf⟩ := dc_gd_ok hf
        obtain ⟨x19, hx19, hf⟩ := dc_nn_ok hf
        obtain ⟨g20, hf⟩ := dc_gd_ok hf
        by_cases c21 : v9 = 0
        · replace hf := dc_if_t c21 hf
          by_cases c60 : (gvI S6 35 x19 ((gvI S6 50 x17 ((gvI S6 65 x13 (v10).toNatClampNeg)).toNatClampNeg)).toNatClampNeg) = 0
          · replace hf := dc_if_t c60 hf
            obtain ⟨x101, hx101, hf⟩ := dc_nn_ok hf
            obtain ⟨g102, hf⟩ := dc_gd_ok hf
            obtain ⟨S103, eS103, hf⟩ := dc_let_ok hf
            have hm := lh_sm10_trans hm (show lh_sm10 S6 S103 from by rw [eS103]; exact (lh_sm10I (by decide)))
            obtain ⟨x108, hx108, hf⟩ := dc_nn_ok hf
            obtain ⟨g109, hf⟩ := dc_gd_ok hf
            obtain ⟨g110, hf⟩ := dc_gd_ok hf
            obtain ⟨S111, eS111, hf⟩ := dc_let_ok hf
            have hm := lh_sm10_trans hm (show lh_sm10 S103 S111 from by rw [eS111]; exact (lh_sm10J (by decide)))
            exact lh_sm10_trans hm (ih S111 v7 v8 (9 : Int32) (v10 + (-1 : Int32)) hf)
          · replace hf := dc_if_f c60 hf
            by_cases c62 : v9 = 0
            · replace hf := dc_if_t c62 hf
              obtain ⟨x81, hx81, hf⟩ := dc_nn_ok hf
              obtain ⟨g82, hf⟩ := dc_gd_ok hf
              obtain ⟨S83, eS83, hf⟩ := dc_let_ok hf
              have hm := lh_sm10_trans hm (show lh_sm10 S6 S83 from by rw [eS83]; exact (lh_sm10I (by decide)))
              by_cases c86 : v9 = 0
              · replace hf := dc_if_t c86 hf
                obtain ⟨g93, hf⟩ := dc_gd_ok hf
                obtain ⟨v94, hv94, hf⟩ := dc_let_ok hf
                obtain ⟨x95, hx95, hf⟩ := dc_nn_ok hf
                obtain ⟨g96, hf⟩ := dc_gd_ok hf
                obtain ⟨S97, eS97, hf⟩ := dc_let_ok hf
                have hm := lh_sm10_trans hm (show lh_sm10 S83 S97 from by rw [eS97]; exact (lh_sm10J (by decide)))
                exact lh_sm10_trans hm (ih S97 v7 v8 v9 (v10 + (-1 : Int32)) hf)
              · replace hf := dc_if_f c86 hf
                obtain ⟨x88, hx88, hf⟩ := dc_nn_ok hf
                obtain ⟨g89, hf⟩ := dc_gd_ok hf
                obtain ⟨g90, hf⟩ := dc_gd_ok hf
                obtain ⟨S91, eS91, hf⟩ := dc_let_ok hf
                have hm := lh_sm10_trans hm (show lh_sm10 S83 S91 from by rw [eS91]; exact (lh_sm10J (by decide)))
                exact lh_sm10_trans hm (ih S91 v7 v8 v9 (v10 + (-1 : Int32)) hf)
            · replace hf := dc_if_f c62 hf
              obtain ⟨x63, hx63, hf⟩ := dc_nn_ok hf
              obtain ⟨g64, hf⟩ := dc_gd_ok hf
              obtain ⟨S65, eS65, hf⟩ := dc_let_ok hf
              have hm := lh_sm10_trans hm (show lh_sm10 S6 S65 from by rw [eS65]; exact (lh_sm10I (by decide)))
              by_cases c68 : v9 = 0
              · replace hf := dc_if_t c68 hf
                obtain ⟨g75, hf⟩ := dc_gd_ok hf
                obtain ⟨v76, hv76, hf⟩ := dc_let_ok hf
                obtain ⟨x77, hx77, hf⟩ := dc_nn_ok hf
                obtain ⟨g78, hf⟩ := dc_gd_ok hf
                obtain ⟨S79, eS79, hf⟩ := dc_let_ok hf
                have hm := lh_sm10_trans hm (show lh_sm10 S65 S79 from by rw [eS79]; exact (lh_sm10J (by decide)))
                exact lh_sm10_trans hm (ih S79 v7 v8 v9 (v10 + (-1 : Int32)) hf)
              · replace hf := dc_if_f c68 hf
                obtain ⟨x70, hx70, hf⟩ := dc_nn_ok hf
                obtain ⟨g71, hf⟩ := dc_gd_ok hf
                obtain ⟨g72, hf⟩ := dc_gd_ok hf
                obtain ⟨S73, eS73, hf⟩ := dc_let_ok hf
                have hm := lh_sm10_trans hm (show lh_sm10 S65 S73 from by rw [eS73]; exact (lh_sm10J (by decide)))
                exact lh_sm10_trans hm (ih S73 v7 v8 v9 (v10 + (-1 : Int32)) hf)
        · replace hf := dc_if_f c21 hf
          by_cases c23 : v9 = 0
          · replace hf := dc_if_t c23 hf
            obtain ⟨x42, hx42, hf⟩ := dc_nn_ok hf
            obtain ⟨g43, hf⟩ := dc_gd_ok hf
            obtain ⟨S44, eS44, hf⟩ := dc_let_ok hf
            have hm := lh_sm10_trans hm (show lh_sm10 S6 S44 from by rw [eS44]; exact (lh_sm10I (by decide)))
            by_cases c47 : v9 = 0
            · replace hf := dc_if_t c47 hf
              obtain ⟨g54, hf⟩ := dc_gd_ok hf
              obtain ⟨v55, hv55, hf⟩ := dc_let_ok hf
              obtain ⟨x56, hx56, hf⟩ := dc_nn_ok hf
              obtain ⟨g57, hf⟩ := dc_gd_ok hf
              obtain ⟨S58, eS58, hf⟩ := dc_let_ok hf
              have hm := lh_sm10_trans hm (show lh_sm10 S44 S58 from by rw [eS58]; exact (lh_sm10J (by decide)))
              exact lh_sm10_trans hm (ih S58 v7 v8 v9 (v10 + (-1 : Int32)) hf)
            · replace hf := dc_if_f c47 hf
              obtain ⟨x49, hx49, hf⟩ := dc_nn_ok hf
              obtain ⟨g50, hf⟩ := dc_gd_ok hf
              obtain ⟨g51, hf⟩ := dc_gd_ok hf
              obtain ⟨S52, eS52, hf⟩ := dc_let_ok hf
              have hm := lh_sm10_trans hm (show lh_sm10 S44 S52 from by rw [eS52]; exact (lh_sm10J (by decide)))
              exact lh_sm10_trans hm (ih S52 v7 v8 v9 (v10 + (-1 : Int32)) hf)
          · replace hf := dc_if_f c23 hf
            obtain ⟨x24, hx24, hf⟩ := dc_nn_ok hf
            obtain ⟨g25, hf⟩ := dc_gd_ok hf
            obtain ⟨S26, eS26, hf⟩ := dc_let_ok hf
            have hm := lh_sm10_trans hm (show lh_sm10 S6 S26 from by rw [eS26]; exact (lh_sm10I (by decide)))
            by_cases c29 : v9 = 0
            · replace hf := dc_if_t c29 hf
              obtain ⟨g36, hf⟩ := dc_gd_ok hf
              obtain ⟨v37, hv37, hf⟩ := dc_let_ok hf
              obtain ⟨x38, hx38, hf⟩ := dc_nn_ok hf
              obtain ⟨g39, hf⟩ := dc_gd_ok hf
              obtain ⟨S40, eS40, hf⟩ := dc_let_ok hf
              have hm := lh_sm10_trans hm (show lh_sm10 S26 S40 from by rw [eS40]; exact (lh_sm10J (by decide)))
              exact lh_sm10_trans hm (ih S40 v7 v8 v9 (v10 + (-1 : Int32)) hf)
            · replace hf := dc_if_f c29 hf
              obtain ⟨x31, hx31, hf⟩ := dc_nn_ok hf
              obtain ⟨g32, hf⟩ := dc_gd_ok hf
              obtain ⟨g33, hf⟩ := dc_gd_ok hf
              obtain ⟨S34, eS34, hf⟩ := dc_let_ok hf
              have hm := lh_sm10_trans hm (show lh_sm10 S26 S34 from by rw [eS34]; exact (lh_sm10J (by decide)))
              exact lh_sm10_trans hm (ih S34 v7 v8 v9 (v10 + (-1 : Int32)) hf)
def f_X10_started_L4 (n : Nat) (t : Nat) (p1 : Int32) : Nat → lh_S → Int32 → Int32 → Option (Int32 × lh_S)
  | 0, _, _, _ => none
  | g + 1, S1, v2, v3 =>
  dc_if (v3 < 0) (
  dc_if (v3 < 0) (
  f_X10_started_L63 n t p1 n S1 v2 v3 (0 : Int32) (v2 - (1 : Int32))) (
  dc_nn (gvR S1 10 t 22) fun x114 =>
  dc_gd (v3 < 0 ∨ gvL S1 52 x114 ≤ (v3).toNatClampNeg) (
  dc_if ((gvI S1 52 x114 (v3).toNatClampNeg) = (2 : Int32)) (
  f_X10_started_L63 n t p1 n S1 v2 v3 (2 : Int32) (v2 - (1 : Int32))) (
  f_X10_started_L63 n t p1 n S1 v2 v3 (0 : Int32) (v2 - (1 : Int32)))))) (
  dc_nn (gvR S1 10 t 22) fun x118 =>
  dc_gd (v3 < 0 ∨ gvL S1 52 x118 ≤ (v3).toNatClampNeg) (
  dc_if ((gvI S1 52 x118 (v3).toNatClampNeg) = 0) (
  dc_nn (gvR S1 10 t 35) fun x126 =>
  dc_gd (v2 < 0 ∨ gvL S1 65 x126 ≤ (v2).toNatClampNeg) (
  dc_let (pvI S1 65 x126 (v2).toNatClampNeg v3) fun S128 =>
  dc_nn (gvR S128 10 t 21) fun x131 =>
  dc_gd (v3 < 0 ∨ gvL S128 51 x131 ≤ (v3).toNatClampNeg) (
  f_X10_started_L4 n t p1 g S128 (v2 + (1 : Int32)) (gvI S128 51 x131 (v3).toNatClampNeg)))) (
  dc_if (v3 < 0) (
  f_X10_started_L63 n t p1 n S1 v2 v3 (0 : Int32) (v2 - (1 : Int32))) (
  dc_gd (v3 < 0 ∨ gvL S1 52 x118 ≤ (v3).toNatClampNeg) (
  dc_if ((gvI S1 52 x118 (v3).toNatClampNeg) = (2 : Int32)) (
  f_X10_started_L63 n t p1 n S1 v2 v3 (2 : Int32) (v2 - (1 : Int32))) (
  f_X10_started_L63 n t p1 n S1 v2 v3 (0 : Int32) (v2 - (1 : Int32))))))))
theorem m_X10_started_L4 {n : Nat} {t : Nat} {p1 : Int32} {r : Int32} {S' : lh_S} : ∀ (g : Nat) (S1 : lh_S) (v2 : Int32) (v3 : Int32), f_X10_started_L4 n t p1 g S1 v2 v3 = some (r, S') → ∀ b, gvN S1 b ≤ gvN S' b := by
    intro g
    induction g with
    | zero => intro S1 v2 v3 hf; rw [f_X10_started_L4] at hf; cases hf
    | succ g ih =>
      intro S1 v2 v3 hf
      rw [f_X10_started_L4] at hf
      have hm : ∀ b, gvN S1 b ≤ gvN S1 b := fun _ => Nat.le_refl _
      by_cases c4 : v3 < 0
      · replace hf := dc_if_t c4 hf
        by_cases c5 : v3 < 0
        · replace hf := dc_if_t c5 hf
          exact lh_le_trans hm (m_X10_started_L63 n S1 v2 v3 (0 : Int32) (v2 - (1 : Int32)) hf)
        · replace hf := dc_if_f c5 hf
          obtain ⟨x114, hx114, hf⟩ := dc_nn_ok hf
          obtain ⟨g115, hf⟩ := dc_gd_ok hf
          by_cases c116 : (gvI S1 52 x114 (v3).toNatClampNeg) = (2 : Int32)
          · replace hf := dc_if_t c116 hf
            exact lh_le_trans hm (m_X10_started_L63 n S1 v2 v3 (2 : Int32) (v2 - (1 : Int32)) hf)
          · replace hf := dc_if_f c116 hf
            exact lh_le_trans hm (m_X10_started_L63 n S1 v2 v3 (0 : Int32) (v2 - (1 : Int32)) hf)
      · replace hf := dc_if_f c4 hf
        obtain ⟨x118, hx118, hf⟩ := dc_nn_ok hf
        obtain ⟨g119, hf⟩ := dc_gd_ok hf
        by_cases c120 : (gvI S1 52 x118 (v3).toNatClampNeg) = 0
        · replace hf := dc_if_t c120 hf
          obtain ⟨x126, hx126, hf⟩ := dc_nn_ok hf
          obtain ⟨g127, hf⟩ := dc_gd_ok hf
          obtain ⟨S128, eS128, hf⟩ := dc_let_ok hf
          have hm := lh_le_trans hm (show ∀ b, gvN S1 b ≤ gvN S128 b from by rw [eS128]; exact lh_mI)
          obtain ⟨x131, hx131, hf⟩ := dc_nn_ok hf
          obtain ⟨g132, hf⟩ := dc_gd_ok hf
          exact lh_le_trans hm (ih S128 (v2 + (1 : Int32)) (gvI S128 51 x131 (v3).toNatClampNeg) hf)
        · replace hf := dc_if_f c120 hf
          by_cases c121 : v3 < 0
          · replace hf := dc_if_t c121 hf
            exact lh_le_trans hm (m_X10_started_L63 n S1 v2 v3 (0 : Int32) (v2 - (1 : Int32)) hf)
          · replace hf := dc_if_f c121 hf
            obtain ⟨g123, hf⟩ := dc_gd_ok hf
            by_cases c124 : (gvI S1 52 x118 (v3).toNatClampNeg) = (2 : Int32)
            · replace hf := dc_if_t c124 hf
              exact lh_le_trans hm (m_X10_started_L63 n S1 v2 v3 (2 : Int32) (v2 - (1 : Int32)) hf)
            · replace hf := dc_if_f c124 hf
              exact lh_le_trans hm (m_X10_started_L63 n S1 v2 v3 (0 : Int32) (v2 - (1 : Int32)) hf)
theorem k_X10_started_L4 {n : Nat} {t : Nat} {p1 : Int32} {r : Int32} {S' : lh_S} : ∀ (g : Nat) (S1 : lh_S) (v2 : Int32) (v3 : Int32), f_X10_started_L4 n t p1 g S1 v2 v3 = some (r, S') → lh_sm10 S1 S' := by
    intro g
    induction g with
    | zero => intro S1 v2 v3 hf; rw [f_X10_started_L4] at hf; cases hf
    | succ g ih =>
      intro S1 v2 v3 hf
      rw [f_X10_started_L4] at hf
      have hm : lh_sm10 S1 S1 := lh_sm10_rf
      by_cases c4 : v3 < 0
      · replace hf := dc_if_t c4 hf
        by_cases c5 : v3 < 0
        · replace hf := dc_if_t c5 hf
          exact lh_sm10_trans hm (k_X10_started_L63 n S1 v2 v3 (0 : Int32) (v2 - (1 : Int32)) hf)
        · replace hf := dc_if_f c5 hf
          obtain ⟨x114, hx114, hf⟩ := dc_nn_ok hf
          obtain ⟨g115, hf⟩ := dc_gd_ok hf
          by_cases c116 : (gvI S1 52 x114 (v3).toNatClampNeg) = (2 : Int32)
          · replace hf := dc_if_t c116 hf
            exact lh_sm10_trans hm (k_X10_started_L63 n S1 v2 v3 (2 : Int32) (v2 - (1 : Int32)) hf)
          · replace hf := dc_if_f c116 hf
            exact lh_sm10_trans hm (k_X10_started_L63 n S1 v2 v3 (0 : Int32) (v2 - (1 : Int32)) hf)
      · replace hf := dc_if_f c4 hf
        obtain ⟨x118, hx118, hf⟩ := dc_nn_ok hf
        obtain ⟨g119, hf⟩ := dc_gd_ok hf
        by_cases c120 : (gvI S1 52 x118 (v3).toNatClampNeg) = 0
        · replace hf := dc_if_t c120 hf
          obtain ⟨x126, hx126, hf⟩ := dc_nn_ok hf
          obtain ⟨g127, hf⟩ := dc_gd_ok hf
          obtain ⟨S128, eS128, hf⟩ := dc_let_ok hf
          have hm := lh_sm10_trans hm (show lh_sm10 S1 S128 from by rw [eS128]; exact (lh_sm10I (by decide)))
          obtain ⟨x131, hx131, hf⟩ := dc_nn_ok hf
          obtain ⟨g132, hf⟩ := dc_gd_ok hf
          exact lh_sm10_trans hm (ih S128 (v2 + (1 : Int32)) (gvI S128 51 x131 (v3).toNatClampNeg) hf)
        · replace hf := dc_if_f c120 hf
          by_cases c121 : v3 < 0
          · replace hf := dc_if_t c121 hf
            exact lh_sm10_trans hm (k_X10_started_L63 n S1 v2 v3 (0 : Int32) (v2 - (1 : Int32)) hf)
          · replace hf := dc_if_f c121 hf
            obtain ⟨g123, hf⟩ := dc_gd_ok hf
            by_cases c124 : (gvI S1 52 x118 (v3).toNatClampNeg) = (2 : Int32)
            · replace hf := dc_if_t c124 hf
              exact lh_sm10_trans hm (k_X10_started_L63 n S1 v2 v3 (2 : Int32) (v2 - (1 : Int32)) hf)
            · replace hf := dc_if_f c124 hf
              exact lh_sm10_trans hm (k_X10_started_L63 n S1 v2 v3 (0 : Int32) (v2 - (1 : Int32)) hf)
def f_X10_started (n : Nat) (S : lh_S) (t : Nat) (p1 : Int32) : Option (Int32 × lh_S) :=
  f_X10_started_L4 n t p1 n S (0 : Int32) p1
set_option maxHeartbeats 1000000 in
theorem m_X10_started {n : Nat} {S : lh_S} {t : Nat} {p1 : Int32} {r : Int32} {S' : lh_S} (hf : f_X10_started n S t p1 = some (r, S')) : ∀ b, gvN S b ≤ gvN S' b := by
  have hm : ∀ b, gvN S b ≤ gvN S b := fun _ => Nat.le_refl _
  unfold f_X10_started at hf
  exact lh_le_trans hm (m_X10_started_L4 n S (0 : Int32) p1 hf)
set_option maxHeartbeats 1000000 in
theorem k_X10_started {n : Nat} {S : lh_S} {t : Nat} {p1 : Int32} {r : Int32} {S' : lh_S} (hf : f_X10_started n S t p1 = some (r, S')) : lh_sm10 S S' := by
  have hm : lh_sm10 S S := lh_sm10_rf
  unfold f_X10_started at hf
  exact lh_sm10_trans hm (k_X10_started_L4 n S (0 : Int32) p1 hf)
set_option maxHeartbeats 4000000 in
set_option maxRecDepth 100000 in
theorem c_X10_started (l : Launch) (D : va_G) (cT : Nat → ClassId) (n : Nat) (S : lh_S) (ad : Nat → Nat → Nat) (A : Nat → Prop) (sz : Nat) (hA : ∀ q, sz ≤ q → A q) (t : Nat) (p1 : Int32) (r : Int32) (S' : lh_S) (hf : f_X10_started n S t p1 = some (r, S')) (L_t : ∀ j, some t = some j → j < gvN S 10) : Met l yX10_started wsX10_started ({ frames := 0, cells := 0, slots := 0, locals := 0 } : Room) (lh_P D cT S ad A sz [lh_r ad 10 (some t), .int p1]) (lh_Q D cT S' ad A ((∀ b, gvN S b ≤ gvN S' b) ∧ True) (some (.int r))) 0 0 A := by
  refine Met.ofW (cc := cX10_started) (maxL := 8) (ret := (some .int)) (by decide) rfl ?_
  intro p e s m args below meth c s₁ B hml hv
  obtain ⟨hargs, hsz, hW, hK, hN⟩ := hv
  have hx := B.exec
  have hb := B.bytes
  have hr := B.returns
  have hts := atoms_spec (ws := wsX10_started) B.pre
  have hown : s.vm.findClass RX10 = some m.cls := findClass_of_methodNamed B.named
  have hlocks := B.notSynchronized
  have hA : ∀ q, s.heap.size ≤ q → A q := fun q h => hA q (by rw [← hsz]; exact h)
  have L63 : ∀ (g : Nat) (S6 : lh_S) (v7 : Int32) (v8 : Int32) (v9 : Int32) (v10 : Int32), f_X10_started_L63 n t p1 g S6 v7 v8 v9 v10 = some (r, S') → (∀ b, gvN S b ≤ gvN S6 b) → ∀ (H : Heap) (locs : List Loc), lh_W D cT S6 ad A H → va_S A s.heap H locs → ∀ (ls : Array Slot), lv_has ls 8 [(0, lh_r ad 10 (some t)), (1, .int p1), (2, .int v7), (3, .int v8), (4, .int v9), (5, .int v10)] → W p l e (headSpec wsX10_started ({ frames := 0, cells := 0, slots := 0, locals := 0 } : Room)).room s m args below meth c H locs 0 0 (MQ below (lh_Q D cT S' ad A ((∀ b, gvN S b ≤ gvN S' b) ∧ True) (some (.int r))) args s 0 0 A) (F0 m 63 ls []) := by
    intro g
    induction g with
    | zero => intro S6 v7 v8 v9 v10 hf; rw [f_X10_started_L63] at hf; cases hf
    | succ g ih =>
      intro S6 v7 v8 v9 v10 hf hm H locs hW hS ls hl
      rw [f_X10_started_L63] at hf
      have ok := lh_W_ok hW
      have L_t : ∀ j, some t = some j → j < gvN S6 10 := fun j h => Nat.lt_of_lt_of_le (L_t j h) (hm _)
      refine lv_iload hx hb dX10_started_63 (lv_at hl 5 rfl) ?_
      refine lv_if_lt (tgt := 162) hx hb dX10_started_65 (by decide) (fun c11 => ?_) (fun c11 => ?_)
      · replace hf := dc_if_t c11 hf
        refine lv_iload hx hb dX10_started_162 (lv_at hl 4 rfl) ?_
        obtain ⟨rfl, rfl⟩ := dc_ret hf
        exact W.iret (v := v9) hx hb hr (fun t9 ht9 hW9 => ⟨⟨rfl, ⟨hm, trivial⟩, by rw [ht9]; exact hW⟩, hS.F ht9⟩) hS.2.2 dX10_started_164
      · replace hf := dc_if_f c11 hf
        refine lh_aload_n hx hb dX10_started_68 rfl (lv_at hl 0 rfl) ?_
        have L12 : ∀ j, gvR S6 10 t 35 = some j → j < gvN S6 65 := fun j h => ok _ _ _ _ j (L_t _ rfl) rfl h
        refine lh_get (a := 10) (k := 35) (N := 42) (C := RX10) (T := TX10) (own := RX10) (ref := "LoaderModelsModel") hx hb hts (fun _ h => (List.mem_cons_of_mem _ (List.mem_append_right _ h))) hown hK hW rfl (L_t _ rfl) rfl rfl rfl (by decide) (hts (.fieldLink RX10 94 "LoaderModelsModel" "chain" "[I") (List.mem_cons_of_mem _ (List.mem_append_left _ (List.mem_of_getElem? (i := 1) rfl)))) (fun _ h9 => h9) dX10_started_69 (v := lh_r ad 65 (gvR S6 10 t 35)) rfl ?_
        refine lv_iload hx hb dX10_started_72 (lv_at hl 5 rfl) ?_
        obtain ⟨x13, hx13, hf⟩ := dc_nn_ok hf
        obtain ⟨g14, hf⟩ := dc_gd_ok hf
        refine lh_ald_i (a := 65) hx hb hK hW hx13 (L12 _ hx13) rfl rfl g14 dX10_started_74 ?_
        refine lv_istore (i := 6) (lv' := [(6, .int (gvI S6 65 x13 (v10).toNatClampNeg)), (0, lh_r ad 10 (some t)), (1, .int p1), (2, .int v7), (3, .int v8), (4, .int v9), (5, .int v10)]) hx hb dX10_started_75 hl (by decide) (by first | rfl | simp [lh_cat_r, lh_cat_i, lh_cat_j]) (fun ls hl => ?_)
        refine lh_aload_n hx hb dX10_started_77 rfl (lv_at hl 1 rfl) ?_
        have L15 : ∀ j, gvR S6 10 t 5 = some j → j < gvN S6 35 := fun j h => ok _ _ _ _ j (L_t _ rfl) rfl h
        refine lh_get (a := 10) (k := 5) (N := 42) (C := RX10) (T := TX10) (own := RX10) (ref := "LoaderModelsModel") hx hb hts (fun _ h => (List.mem_cons_of_mem _ (List.mem_append_right _ h))) hown hK hW rfl (L_t _ rfl) rfl rfl rfl (by decide) (hts (.fieldLink RX10 23 "LoaderModelsModel" "content" "[I") (List.mem_cons_of_mem _ (List.mem_append_left _ (List.mem_of_getElem? (i := 3) rfl)))) (fun _ h9 => h9) dX10_started_78 (v := lh_r ad 35 (gvR S6 10 t 5)) rfl ?_
        refine lh_aload_n hx hb dX10_started_81 rfl (lv_at hl 1 rfl) ?_
        have L16 : ∀ j, gvR S6 10 t 20 = some j → j < gvN S6 50 := fun j h => ok _ _ _ _ j (L_t _ rfl) rfl h
        refine lh_get (a := 10) (k := 20) (N := 42) (C := RX10) (T := TX10) (own := RX10) (ref := "LoaderModelsModel") hx hb hts (fun _ h => (List.mem_cons_of_mem _ (List.mem_append_right _ h))) hown hK hW rfl (L_t _ rfl) rfl rfl rfl (by decide) (hts (.fieldLink RX10 63 "LoaderModelsModel" "classFile" "[I") (List.mem_cons_of_mem _ (List.mem_append_left _ (List.mem_of_getElem? (i := 4) rfl)))) (fun _ h9 => h9) dX10_started_82 (v := lh_r ad 50 (gvR S6 10 t 20)) rfl ?_
        refine lv_iload hx hb dX10_started_85 (lv_at hl 0 rfl) ?_
        obtain ⟨x17, hx17, hf⟩ := dc_nn_ok hf
        obtain ⟨g18, hf⟩ := dc_gd_ok hf
        refine lh_ald_i (a := 50) hx hb hK hW hx17 (L16 _ hx17) rfl rfl g18 dX10_started_87 ?_
        obtain ⟨x19, hx19, hf⟩ := dc_nn_ok hf
        obtain ⟨g20, hf⟩ := dc_gd_ok hf
        refine lh_ald_i (a := 35) hx hb hK hW hx19 (L15 _ hx19) rfl rfl g20 dX10_started_88 ?_
        refine lv_istore (i := 7) (lv' := [(7, .int (gvI S6 35 x19 ((gvI S6 50 x17 ((gvI S6 65 x13 (v10).toNatClampNeg)).toNatClampNeg)).toNatClampNeg)), (6, .int (gvI S6 65 x13 (v10).toNatClampNeg)), (0, lh_r ad 10 (some t)), (1, .int p1), (2, .int v7), (3, .int v8), (4, .int v9), (5, .int v10)]) hx hb dX10_started_89 hl (by decide) (by first | rfl | simp [lh_cat_r, lh_cat_i, lh_cat_j]) (fun ls hl => ?_)
        refine lv_iload hx hb dX10_started_91 (lv_at hl 6 rfl) ?_
        refine lv_if_ne (tgt := 106) hx hb dX10_started_93 (by decide) (fun c21 => ?_) (fun c21 => ?_)
        · replace hf := dc_if_f c21 hf
          refine lv_iload hx hb dX10_started_106 (lv_at hl 6 rfl) ?_
          refine lv_istore (i := 4) (lv' := [(4, .int v9), (7, .int (gvI S6 35 x19 ((gvI S6 50 x17 ((gvI S6 65 x13 (v10).toNatClampNeg)).toNatClampNeg)).toNatClampNeg)), (6, .int (gvI S6 65 x13 (v10).toNatClampNeg)), (0, lh_r ad 10 (some t)), (1, .int p1), (2, .int v7), (3, .int v8), (5, .int v10)]) hx hb dX10_started_108 hl (by decide) (by first | rfl | simp [lh_cat_r, lh_cat_i, lh_cat_j]) (fun ls hl => ?_)
          refine lh_aload_n hx hb dX10_started_110 rfl (lv_at hl 3 rfl) ?_
          have L22 : ∀ j, gvR S6 10 t 22 = some j → j < gvN S6 52 := fun j h => ok _ _ _ _ j (L_t _ rfl) rfl h
          refine lh_get (a := 10) (k := 22) (N := 42) (C := RX10) (T := TX10) (own := RX10) (ref := "LoaderModelsModel") hx hb hts (fun _ h => (List.mem_cons_of_mem _ (List.mem_append_right _ h))) hown hK hW rfl (L_t _ rfl) rfl rfl rfl (by decide) (hts (.fieldLink RX10 69 "LoaderModelsModel" "classState" "[I") (List.mem_cons_of_mem _ (List.mem_append_left _ (List.mem_of_getElem? (i := 0) rfl)))) (fun _ h9 => h9) dX10_started_111 (v := lh_r ad 52 (gvR S6 10 t 22)) rfl ?_
          refine lv_iload hx hb dX10_started_114 (lv_at hl 2 rfl) ?_
          refine lv_iload hx hb dX10_started_116 (lv_at hl 0 rfl) ?_
          refine lv_if_ne (tgt := 125) hx hb dX10_started_118 (by decide) (fun c23 => ?_) (fun c23 => ?_)
          · replace hf := dc_if_f c23 hf
            refine lv_iconst (v := 2) hx hb dX10_started_125 (by decide) ?_
            obtain ⟨x24, hx24, hf⟩ := dc_nn_ok hf
            obtain ⟨g25, hf⟩ := dc_gd_ok hf
            obtain ⟨S26, eS26, hf⟩ := dc_let_ok hf
            refine lh_ast_i (a := 52) hx hb hK hW hS hx24 (L22 _ hx24) rfl (fun _ => rfl) g25 dX10_started_126 (fun H locs hW hS => ?_)
            rw [← eS26] at hW
            have m27 : ∀ b, gvN S6 b ≤ gvN S26 b := by rw [eS26]; exact lh_mI
            have L_t : ∀ j, some t = some j → j < gvN S26 10 := fun j h => Nat.lt_of_lt_of_le (L_t j h) (m27 _)
            have hm : ∀ b, gvN S b ≤ gvN S26 b := lh_le_trans hm m27
            have ok := lh_W_ok hW
            refine lh_aload_n hx hb dX10_started_127 rfl (lv_at hl 3 rfl) ?_
            have L28 : ∀ j, gvR S26 10 t 23 = some j → j < gvN S26 53 := fun j h => ok _ _ _ _ j (L_t _ rfl) rfl h
            refine lh_get (a := 10) (k := 23) (N := 42) (C := RX10) (T := TX10) (own := RX10) (ref := "LoaderModelsModel") hx hb hts (fun _ h => (List.mem_cons_of_mem _ (List.mem_append_right _ h))) hown hK hW rfl (L_t _ rfl) rfl rfl rfl (by decide) (hts (.fieldLink RX10 72 "LoaderModelsModel" "fixed" "[J") (List.mem_cons_of_mem _ (List.mem_append_left _ (List.mem_of_getElem? (i := 5) rfl)))) (fun _ h9 => h9) dX10_started_128 (v := lh_r ad 53 (gvR S26 10 t 23)) rfl ?_
            refine lv_iload hx hb dX10_started_131 (lv_at hl 2 rfl) ?_
            refine lv_iload hx hb dX10_started_133 (lv_at hl 0 rfl) ?_
            refine lv_if_ne (tgt := 148) hx hb dX10_started_135 (by decide) (fun c29 => ?_) (fun c29 => ?_)
            · replace hf := dc_if_f c29 hf
              refine lh_aload_n hx hb dX10_started_148 rfl (lv_at hl 3 rfl) ?_
              have L30 : ∀ j, gvR S26 10 t 23 = some j → j < gvN S26 53 := fun j h => ok _ _ _ _ j (L_t _ rfl) rfl h
              refine lh_get (a := 10) (k := 23) (N := 42) (C := RX10) (T := TX10) (own := RX10) (ref := "LoaderModelsModel") hx hb hts (fun _ h => (List.mem_cons_of_mem _ (List.mem_append_right _ h))) hown hK hW rfl (L_t _ rfl) rfl rfl rfl (by decide) (hts (.fieldLink RX10 72 "LoaderModelsModel" "fixed" "[J") (List.mem_cons_of_mem _ (List.mem_append_left _ (List.mem_of_getElem? (i := 5) rfl)))) (fun _ h9 => h9) dX10_started_149 (v := lh_r ad 53 (gvR S26 10 t 23)) rfl ?_
              refine lv_iload hx hb dX10_started_152 (lv_at hl 2 rfl) ?_
              obtain ⟨x31, hx31, hf⟩ := dc_nn_ok hf
              obtain ⟨g32, hf⟩ := dc_gd_ok hf
              refine lh_ald_l (a := 53) hx hb hK hW hx31 (L30 _ hx31) rfl rfl g32 dX10_started_154 ?_
              obtain ⟨g33, hf⟩ := dc_gd_ok hf
              obtain ⟨S34, eS34, hf⟩ := dc_let_ok hf
              refine lh_ast_l (a := 53) hx hb hK hW hS hx31 (L28 _ hx31) rfl (fun _ => rfl) g33 dX10_started_155 (fun H locs hW hS => ?_)
              rw [← eS34] at hW
              have m35 : ∀ b, gvN S26 b ≤ gvN S34 b := by rw [eS34]; exact lh_mJ
              have L_t : ∀ j, some t = some j → j < gvN S34 10 := fun j h => Nat.lt_of_lt_of_le (L_t j h) (m35 _)
              have hm : ∀ b, gvN S b ≤ gvN S34 b := lh_le_trans hm m35
              have ok := lh_W_ok hW
              refine lv_iinc (v := v10 + (-1 : Int32)) (lv' := [(5, .int (v10 + (-1 : Int32))), (4, .int v9), (7, .int (gvI S6 35 x19 ((gvI S6 50 x17 ((gvI S6 65 x13 (v10).toNatClampNeg)).toNatClampNeg)).toNatClampNeg)), (6, .int (gvI S6 65 x13 (v10).toNatClampNeg)), (0, lh_r ad 10 (some t)), (1, .int p1), (2, .int v7), (3, .int v8)]) hx hb dX10_started_156 hl (k := 7) rfl (by first | rfl | decide) (by decide) (by first | rfl | simp [lh_cat_r, lh_cat_i, lh_cat_j]) (fun ls hl => ?_)
              refine lv_goto (tgt := 63) hx hb dX10_started_159 (by decide) ?_
              exact ih S34 v7 v8 v9 (v10 + (-1 : Int32)) hf hm _ _ hW hS _ (lv_sub hl [4, 5, 6, 7, 1, 0] (by first | rfl | simp [lv_pick]))
            · replace hf := dc_if_t c29 hf
              refine lv_sipush (v := 1000) hx hb dX10_started_138 (by decide) ?_
              refine lv_iload hx hb dX10_started_141 (lv_at hl 1 rfl) ?_
              obtain ⟨g36, hf⟩ := dc_gd_ok hf
              refine lv_idiv hx hb dX10_started_143 g36 ?_
              refine lv_topi (fun v37 hv37 => ?_)
              replace hf := dc_let_e hv37 hf
              refine lv_i2l (v := v37.toInt64) hx hb dX10_started_144 rfl ?_
              refine lv_goto (tgt := 155) hx hb dX10_started_145 (by decide) ?_
              obtain ⟨x38, hx38, hf⟩ := dc_nn_ok hf
              obtain ⟨g39, hf⟩ := dc_gd_ok hf
              obtain ⟨S40, eS40, hf⟩ := dc_let_ok hf
              refine lh_ast_l (a := 53) hx hb hK hW hS hx38 (L28 _ hx38) rfl (fun _ => rfl) g39 dX10_started_155 (fun H locs hW hS => ?_)
              rw [← eS40] at hW
              have m41 : ∀ b, gvN S26 b ≤ gvN S40 b := by rw [eS40]; exact lh_mJ
              have L_t : ∀ j, some t = some j → j < gvN S40 10 := fun j h => Nat.lt_of_lt_of_le (L_t j h) (m41 _)
              have hm : ∀ b, gvN S b ≤ gvN S40 b := lh_le_trans hm m41
              have ok := lh_W_ok hW
              refine lv_iinc (v := v10 + (-1 : Int32)) (lv' := [(5, .int (v10 + (-1 : Int32))), (4, .int v9), (7, .int (gvI S6 35 x19 ((gvI S6 50 x17 ((gvI S6 65 x13 (v10).toNatClampNeg)).toNatClampNeg)).toNatClampNeg)), (6, .int (gvI S6 65 x13 (v10).toNatClampNeg)), (0, lh_r ad 10 (some t)), (1, .int p1), (2, .int v7), (3, .int v8)]) hx hb dX10_started_156 hl (k := 7) rfl (by first | rfl | decide) (by decide) (by first | rfl | simp [lh_cat_r, lh_cat_i, lh_cat_j]) (fun ls hl => ?_)
              refine lv_goto (tgt := 63) hx hb dX10_started_159 (by decide) ?_
              exact ih S40 v7 v8 v9 (v10 + (-1 : Int32)) hf hm _ _ hW hS _ (lv_sub hl [4, 5, 6, 7, 1, 0] (by first | rfl | simp [lv_pick]))
          · replace hf := dc_if_t c23 hf
            refine lv_iconst (v := 1) hx hb dX10_started_121 (by decide) ?_
            refine lv_goto (tgt := 126) hx hb dX10_started_122 (by decide) ?_
            obtain ⟨x42, hx42, hf⟩ := dc_nn_ok hf
            obtain ⟨g43, hf⟩ := dc_gd_ok hf
            obtain ⟨S44, eS44, hf⟩ := dc_let_ok hf
            refine lh_ast_i (a := 52) hx hb hK hW hS hx42 (L22 _ hx42) rfl (fun _ => rfl) g43 dX10_started_126 (fun H locs hW hS => ?_)
            rw [← eS44] at hW
            have m45 : ∀ b, gvN S6 b ≤ gvN S44 b := by rw [eS44]; exact lh_mI
            have L_t : ∀ j, some t = some j → j < gvN S44 10 := fun j h => Nat.lt_of_lt_of_le (L_t j h) (m45 _)
            have hm : ∀ b, gvN S b ≤ gvN S44 b := lh_le_trans hm m45
            have ok := lh_W_ok hW
            refine lh_aload_n hx hb dX10_started_127 rfl (lv_at hl 3 rfl) ?_
            have L46 : ∀ j, gvR S44 10 t 23 = some j → j < gvN S44 53 := fun j h => ok _ _ _ _ j (L_t _ rfl) rfl h
            refine lh_get (a := 10) (k := 23) (N := 42) (C := RX10) (T := TX10) (own := RX10) (ref := "LoaderModelsModel") hx hb hts (fun _ h => (List.mem_cons_of_mem _ (List.mem_append_right _ h))) hown hK hW rfl (L_t _ rfl) rfl rfl rfl (by decide) (hts (.fieldLink RX10 72 "LoaderModelsModel" "fixed" "[J") (List.mem_cons_of_mem _ (List.mem_append_left _ (List.mem_of_getElem? (i := 5) rfl)))) (fun _ h9 => h9) dX10_started_128 (v := lh_r ad 53 (gvR S44 10 t 23)) rfl ?_
            refine lv_iload hx hb dX10_started_131 (lv_at hl 2 rfl) ?_
            refine lv_iload hx hb dX10_started_133 (lv_at hl 0 rfl) ?_
            refine lv_if_ne (tgt := 148) hx hb dX10_started_135 (by decide) (fun c47 => ?_) (fun c47 => ?_)
            · replace hf := dc_if_f c47 hf
              refine lh_aload_n hx hb dX10_started_148 rfl (lv_at hl 3 rfl) ?_
              have L48 : ∀ j, gvR S44 10 t 23 = some j → j < gvN S44 53 := fun j h => ok _ _ _ _ j (L_t _ rfl) rfl h
              refine lh_get (a := 10) (k := 23) (N := 42) (C := RX10) (T := TX10) (own := RX10) (ref := "LoaderModelsModel") hx hb hts (fun _ h => (List.mem_cons_of_mem _ (List.mem_append_right _ h))) hown hK hW rfl (L_t _ rfl) rfl rfl rfl (by decide) (hts (.fieldLink RX10 72 "LoaderModelsModel" "fixed" "[J") (List.mem_cons_of_mem _ (List.mem_append_left _ (List.mem_of_getElem? (i := 5) rfl)))) (fun _ h9 => h9) dX10_started_149 (v := lh_r ad 53 (gvR S44 10 t 23)) rfl ?_
              refine lv_iload hx hb dX10_started_152 (lv_at hl 2 rfl) ?_
              obtain ⟨x49, hx49, hf⟩ := dc_nn_ok hf
              obtain ⟨g50, hf⟩ := dc_gd_ok hf
              refine lh_ald_l (a := 53) hx hb hK hW hx49 (L48 _ hx49) rfl rfl g50 dX10_started_154 ?_
              obtain ⟨g51, hf⟩ := dc_gd_ok hf
              obtain ⟨S52, eS52, hf⟩ := dc_let_ok hf
              refine lh_ast_l (a := 53) hx hb hK hW hS hx49 (L46 _ hx49) rfl (fun _ => rfl) g51 dX10_started_155 (fun H locs hW hS => ?_)
              rw [← eS52] at hW
              have m53 : ∀ b, gvN S44 b ≤ gvN S52 b := by rw [eS52]; exact lh_mJ
              have L_t : ∀ j, some t = some j → j < gvN S52 10 := fun j h => Nat.lt_of_lt_of_le (L_t j h) (m53 _)
              have hm : ∀ b, gvN S b ≤ gvN S52 b := lh_le_trans hm m53
              have ok := lh_W_ok hW
              refine lv_iinc (v := v10 + (-1 : Int32)) (lv' := [(5, .int (v10 + (-1 : Int32))), (4, .int v9), (7, .int (gvI S6 35 x19 ((gvI S6 50 x17 ((gvI S6 65 x13 (v10).toNatClampNeg)).toNatClampNeg)).toNatClampNeg)), (6, .int (gvI S6 65 x13 (v10).toNatClampNeg)), (0, lh_r ad 10 (some t)), (1, .int p1), (2, .int v7), (3, .int v8)]) hx hb dX10_started_156 hl (k := 7) rfl (by first | rfl | decide) (by decide) (by first | rfl | simp [lh_cat_r, lh_cat_i, lh_cat_j]) (fun ls hl => ?_)
              refine lv_goto (tgt := 63) hx hb dX10_started_159 (by decide) ?_
              exact ih S52 v7 v8 v9 (v10 + (-1 : Int32)) hf hm _ _ hW hS _ (lv_sub hl [4, 5, 6, 7, 1, 0] (by first | rfl | simp [lv_pick]))
            · replace hf := dc_if_t c47 hf
              refine lv_sipush (v := 1000) hx hb dX10_started_138 (by decide) ?_
              refine lv_iload hx hb dX10_started_141 (lv_at hl 1 rfl) ?_
              obtain ⟨g54, hf⟩ := dc_gd_ok hf
              refine lv_idiv hx hb dX10_started_143 g54 ?_
              refine lv_topi (fun v55 hv55 => ?_)
              replace hf := dc_let_e hv55 hf
              refine lv_i2l (v := v55.toInt64) hx hb dX10_started_144 rfl ?_
              refine lv_goto (tgt := 155) hx hb dX10_started_145 (by decide) ?_
              obtain ⟨x56, hx56, hf⟩ := dc_nn_ok hf
              obtain ⟨g57, hf⟩ := dc_gd_ok hf
              obtain ⟨S58, eS58, hf⟩ := dc_let_ok hf
              refine lh_ast_l (a := 53) hx hb hK hW hS hx56 (L46 _ hx56) rfl (fun _ => rfl) g57 dX10_started_155 (fun H locs hW hS => ?_)
              rw [← eS58] at hW
              have m59 : ∀ b, gvN S44 b ≤ gvN S58 b := by rw [eS58]; exact lh_mJ
              have L_t : ∀ j, some t = some j → j < gvN S58 10 := fun j h => Nat.lt_of_lt_of_le (L_t j h) (m59 _)
              have hm : ∀ b, gvN S b ≤ gvN S58 b := lh_le_trans hm m59
              have ok := lh_W_ok hW
              refine lv_iinc (v := v10 + (-1 : Int32)) (lv' := [(5, .int (v10 + (-1 : Int32))), (4, .int v9), (7, .int (gvI S6 35 x19 ((gvI S6 50 x17 ((gvI S6 65 x13 (v10).toNatClampNeg)).toNatClampNeg)).toNatClampNeg)), (6, .int (gvI S6 65 x13 (v10).toNatClampNeg)), (0, lh_r ad 10 (some t)), (1, .int p1), (2, .int v7), (3, .int v8)]) hx hb dX10_started_156 hl (k := 7) rfl (by first | rfl | decide) (by decide) (by first | rfl | simp [lh_cat_r, lh_cat_i, lh_cat_j]) (fun ls hl => ?_)
              refine lv_goto (tgt := 63) hx hb dX10_started_159 (by decide) ?_
              exact ih S58 v7 v8 v9 (v10 + (-1 : Int32)) hf hm _ _ hW hS _ (lv_sub hl [4, 5, 6, 7, 1, 0] (by first | rfl | simp [lv_pick]))
        · replace hf := dc_if_t c21 hf
          refine lv_iload hx hb dX10_started_96 (lv_at hl 0 rfl) ?_
          refine lv_if_ne (tgt := 106) hx hb dX10_started_98 (by decide) (fun c60 => ?_) (fun c60 => ?_)
          · replace hf := dc_if_f c60 hf
            refine lv_iload hx hb dX10_started_106 (lv_at hl 6 rfl) ?_
            refine lv_istore (i := 4) (lv' := [(4, .int v9), (7, .int (gvI S6 35 x19 ((gvI S6 50 x17 ((gvI S6 65 x13 (v10).toNatClampNeg)).toNatClampNeg)).toNatClampNeg)), (6, .int (gvI S6 65 x13 (v10).toNatClampNeg)), (0, lh_r ad 10 (some t)), (1, .int p1), (2, .int v7), (3, .int v8), (5, .int v10)]) hx hb dX10_started_108 hl (by decide) (by first | rfl | simp [lh_cat_r, lh_cat_i, lh_cat_j]) (fun ls hl => ?_)
            refine lh_aload_n hx hb dX10_started_110 rfl (lv_at hl 3 rfl) ?_
            have L61 : ∀ j, gvR S6 10 t 22 = some j → j < gvN S6 52 := fun j h => ok _ _ _ _ j (L_t _ rfl) rfl h
            refine lh_get (a := 10) (k := 22) (N := 42) (C := RX10) (T := TX10) (own := RX10) (ref := "LoaderModelsModel") hx hb hts (fun _ h => (List.mem_cons_of_mem _ (List.mem_append_right _ h))) hown hK hW rfl (L_t _ rfl) rfl rfl rfl (by decide) (hts (.fieldLink RX10 69 "LoaderModelsModel" "classState" "[I") (List.mem_cons_of_mem _ (List.mem_append_left _ (List.mem_of_getElem? (i := 0) rfl)))) (fun _ h9 => h9) dX10_started_111 (v := lh_r ad 52 (gvR S6 10 t 22)) rfl ?_
            refine lv_iload hx hb dX10_started_114 (lv_at hl 2 rfl) ?_
            refine lv_iload hx hb dX10_started_116 (lv_at hl 0 rfl) ?_
            refine lv_if_ne (tgt := 125) hx hb dX10_started_118 (by decide) (fun c62 => ?_) (fun c62 => ?_)
            · replace hf := dc_if_f c62 hf
              refine lv_iconst (v := 2) hx hb dX10_started_125 (by decide) ?_
              obtain ⟨x63, hx63, hf⟩ := dc_nn_ok hf
              obtain ⟨g64, hf⟩ := dc_gd_ok hf
              obtain ⟨S65, eS65, hf⟩ := dc_let_ok hf
              refine lh_ast_i (a := 52) hx hb hK hW hS hx63 (L61 _ hx63) rfl (fun _ => rfl) g64 dX10_started_126 (fun H locs hW hS => ?_)
              rw [← eS65] at hW
              have m66 : ∀ b, gvN S6 b ≤ gvN S65 b := by rw [eS65]; exact lh_mI
              have L_t : ∀ j, some t = some j → j < gvN S65 10 := fun j h => Nat.lt_of_lt_of_le (L_t j h) (m66 _)
              have hm : ∀ b, gvN S b ≤ gvN S65 b := lh_le_trans hm m66
              have ok := lh_W_ok hW
              refine lh_aload_n hx hb dX10_started_127 rfl (lv_at hl 3 rfl) ?_
              have L67 : ∀ j, gvR S65 10 t 23 = some j → j < gvN S65 53 := fun j h => ok _ _ _ _ j (L_t _ rfl) rfl h
              refine lh_get (a := 10) (k := 23) (N := 42) (C := RX10) (T := TX10) (own := RX10) (ref := "LoaderModelsModel") hx hb hts (fun _ h => (List.mem_cons_of_mem _ (List.mem_append_right _ h))) hown hK hW rfl (L_t _ rfl) rfl rfl rfl (by decide) (hts (.fieldLink RX10 72 "LoaderModelsModel" "fixed" "[J") (List.mem_cons_of_mem _ (List.mem_append_left _ (List.mem_of_getElem? (i := 5) rfl)))) (fun _ h9 => h9) dX10_started_128 (v := lh_r ad 53 (gvR S65 10 t 23)) rfl ?_
              refine lv_iload hx hb dX10_started_131 (lv_at hl 2 rfl) ?_
              refine lv_iload hx hb dX10_started_133 (lv_at hl 0 rfl) ?_
              refine lv_if_ne (tgt := 148) hx hb dX10_started_135 (by decide) (fun c68 => ?_) (fun c68 => ?_)
              · replace hf := dc_if_f c68 hf
                refine lh_aload_n hx hb dX10_started_148 rfl (lv_at hl 3 rfl) ?_
                have L69 : ∀ j, gvR S65 10 t 23 = some j → j < gvN S65 53 := fun j h => ok _ _ _ _ j (L_t _ rfl) rfl h
                refine lh_get (a := 10) (k := 23) (N := 42) (C := RX10) (T := TX10) (own := RX10) (ref := "LoaderModelsModel") hx hb hts (fun _ h => (List.mem_cons_of_mem _ (List.mem_append_right _ h))) hown hK hW rfl (L_t _ rfl) rfl rfl rfl (by decide) (hts (.fieldLink RX10 72 "LoaderModelsModel" "fixed" "[J") (List.mem_cons_of_mem _ (List.mem_append_left _ (List.mem_of_getElem? (i := 5) rfl)))) (fun _ h9 => h9) dX10_started_149 (v := lh_r ad 53 (gvR S65 10 t 23)) rfl ?_
                refine lv_iload hx hb dX10_started_152 (lv_at hl 2 rfl) ?_
                obtain ⟨x70, hx70, hf⟩ := dc_nn_ok hf
                obtain ⟨g71, hf⟩ := dc_gd_ok hf
                refine lh_ald_l (a := 53) hx hb hK hW hx70 (L69 _ hx70) rfl rfl g71 dX10_started_154 ?_
                obtain ⟨g72, hf⟩ := dc_gd_ok hf
                obtain ⟨S73, eS73, hf⟩ := dc_let_ok hf
                refine lh_ast_l (a := 53) hx hb hK hW hS hx70 (L67 _ hx70) rfl (fun _ => rfl) g72 dX10_started_155 (fun H locs hW hS => ?_)
                rw [← eS73] at hW
                have m74 : ∀ b, gvN S65 b ≤ gvN S73 b := by rw [eS73]; exact lh_mJ
                have L_t : ∀ j, some t = some j → j < gvN S73 10 := fun j h => Nat.lt_of_lt_of_le (L_t j h) (m74 _)
                have hm : ∀ b, gvN S b ≤ gvN S73 b := lh_le_trans hm m74
                have ok := lh_W_ok hW
                refine lv_iinc (v := v10 + (-1 : Int32)) (lv' := [(5, .int (v10 + (-1 : Int32))), (4, .int v9), (7, .int (gvI S6 35 x19 ((gvI S6 50 x17 ((gvI S6 65 x13 (v10).toNatClampNeg)).toNatClampNeg)).toNatClampNeg)), (6, .int (gvI S6 65 x13 (v10).toNatClampNeg)), (0, lh_r ad 10 (some t)), (1, .int p1), (2, .int v7), (3, .int v8)]) hx hb dX10_started_156 hl (k := 7) rfl (by first | rfl | decide) (by decide) (by first | rfl | simp [lh_cat_r, lh_cat_i, lh_cat_j]) (fun ls hl => ?_)
                refine lv_goto (tgt := 63) hx hb dX10_started_159 (by decide) ?_
                exact ih S73 v7 v8 v9 (v10 + (-1 : Int32)) hf hm _ _ hW hS _ (lv_sub hl [4, 5, 6, 7, 1, 0] (by first | rfl | simp [lv_pick]))
              · replace hf := dc_if_t c68 hf
                refine lv_sipush (v := 1000) hx hb dX10_started_138 (by decide) ?_
                refine lv_iload hx hb dX10_started_141 (lv_at hl 1 rfl) ?_
                obtain ⟨g75, hf⟩ := dc_gd_ok hf
                refine lv_idiv hx hb dX10_started_143 g75 ?_
                refine lv_topi (fun v76 hv76 => ?_)
                replace hf := dc_let_e hv76 hf
                refine lv_i2l (v := v76.toInt64) hx hb dX10_started_144 rfl ?_
                refine lv_goto (tgt := 155) hx hb dX10_started_145 (by decide) ?_
                obtain ⟨x77, hx77, hf⟩ := dc_nn_ok hf
                obtain ⟨g78, hf⟩ := dc_gd_ok hf
                obtain ⟨S79, eS79, hf⟩ := dc_let_ok hf
                refine lh_ast_l (a := 53) hx hb hK hW hS hx77 (L67 _ hx77) rfl (fun _ => rfl) g78 dX10_started_155 (fun H locs hW hS => ?_)
                rw [← eS79] at hW
                have m80 : ∀ b, gvN S65 b ≤ gvN S79 b := by rw [eS79]; exact lh_mJ
                have L_t : ∀ j, some t = some j → j < gvN S79 10 := fun j h => Nat.lt_of_lt_of_le (L_t j h) (m80 _)
                have hm : ∀ b, gvN S b ≤ gvN S79 b := lh_le_trans hm m80
                have ok := lh_W_ok hW
                refine lv_iinc (v := v10 + (-1 : Int32)) (lv' := [(5, .int (v10 + (-1 : Int32))), (4, .int v9), (7, .int (gvI S6 35 x19 ((gvI S6 50 x17 ((gvI S6 65 x13 (v10).toNatClampNeg)).toNatClampNeg)).toNatClampNeg)), (6, .int (gvI S6 65 x13 (v10).toNatClampNeg)), (0, lh_r ad 10 (some t)), (1, .int p1), (2, .int v7), (3, .int v8)]) hx hb dX10_started_156 hl (k := 7) rfl (by first | rfl | decide) (by decide) (by first | rfl | simp [lh_cat_r, lh_cat_i, lh_cat_j]) (fun ls hl => ?_)
                refine lv_goto (tgt := 63) hx hb dX10_started_159 (by decide) ?_
                exact ih S79 v7 v8 v9 (v10 + (-1 : Int32)) hf hm _ _ hW hS _ (lv_sub hl [4, 5, 6, 7, 1, 0] (by first | rfl | simp [lv_pick]))
            · replace hf := dc_if_t c62 hf
              refine lv_iconst (v := 1) hx hb dX10_started_121 (by decide) ?_
              refine lv_goto (tgt := 126) hx hb dX10_started_122 (by decide) ?_
              obtain ⟨x81, hx81, hf⟩ := dc_nn_ok hf
              obtain ⟨g82, hf⟩ := dc_gd_ok hf
              obtain ⟨S83, eS83, hf⟩ := dc_let_ok hf
              refine lh_ast_i (a := 52) hx hb hK hW hS hx81 (L61 _ hx81) rfl (fun _ => rfl) g82 dX10_started_126 (fun H locs hW hS => ?_)
              rw [← eS83] at hW
              have m84 : ∀ b, gvN S6 b ≤ gvN S83 b := by rw [eS83]; exact lh_mI
              have L_t : ∀ j, some t = some j → j < gvN S83 10 := fun j h => Nat.lt_of_lt_of_le (L_t j h) (m84 _)
              have hm : ∀ b, gvN S b ≤ gvN S83 b := lh_le_trans hm m84
              have ok := lh_W_ok hW
              refine lh_aload_n hx hb dX10_started_127 rfl (lv_at hl 3 rfl) ?_
              have L85 : ∀ j, gvR S83 10 t 23 = some j → j < gvN S83 53 := fun j h => ok _ _ _ _ j (L_t _ rfl) rfl h
              refine lh_get (a := 10) (k := 23) (N := 42) (C := RX10) (T := TX10) (own := RX10) (ref := "LoaderModelsModel") hx hb hts (fun _ h => (List.mem_cons_of_mem _ (List.mem_append_right _ h))) hown hK hW rfl (L_t _ rfl) rfl rfl rfl (by decide) (hts (.fieldLink RX10 72 "LoaderModelsModel" "fixed" "[J") (List.mem_cons_of_mem _ (List.mem_append_left _ (List.mem_of_getElem? (i := 5) rfl)))) (fun _ h9 => h9) dX10_started_128 (v := lh_r ad 53 (gvR S83 10 t 23)) rfl ?_
              refine lv_iload hx hb dX10_started_131 (lv_at hl 2 rfl) ?_
              refine lv_iload hx hb dX10_started_133 (lv_at hl 0 rfl) ?_
              refine lv_if_ne (tgt := 148) hx hb dX10_started_135 (by decide) (fun c86 => ?_) (fun c86 => ?_)
              · replace hf := dc_if_f c86 hf
                refine lh_aload_n hx hb dX10_started_148 rfl (lv_at hl 3 rfl) ?_
                have L87 : ∀ j, gvR S83 10 t 23 = some j → j < gvN S83 53 := fun j h => ok _ _ _ _ j (L_t _ rfl) rfl h
                refine lh_get (a := 10) (k := 23) (N := 42) (C := RX10) (T := TX10) (own := RX10) (ref := "LoaderModelsModel") hx hb hts (fun _ h => (List.mem_cons_of_mem _ (List.mem_append_right _ h))) hown hK hW rfl (L_t _ rfl) rfl rfl rfl (by decide) (hts (.fieldLink RX10 72 "LoaderModelsModel" "fixed" "[J") (List.mem_cons_of_mem _ (List.mem_append_left _ (List.mem_of_getElem? (i := 5) rfl)))) (fun _ h9 => h9) dX10_started_149 (v := lh_r ad 53 (gvR S83 10 t 23)) rfl ?_
                refine lv_iload hx hb dX10_started_152 (lv_at hl 2 rfl) ?_
                obtain ⟨x88, hx88, hf⟩ := dc_nn_ok hf
                obtain ⟨g89, hf⟩ := dc_gd_ok hf
                refine lh_ald_l (a := 53) hx hb hK hW hx88 (L87 _ hx88) rfl rfl g89 dX10_started_154 ?_
                obtain ⟨g90, hf⟩ := dc_gd_ok hf
                obtain ⟨S91, eS91, hf⟩ := dc_let_ok hf
                refine lh_ast_l (a := 53) hx hb hK hW hS hx88 (L85 _ hx88) rfl (fun _ => rfl) g90 dX10_started_155 (fun H locs hW hS => ?_)
                rw [← eS91] at hW
                have m92 : ∀ b, gvN S83 b ≤ gvN S91 b := by rw [eS91]; exact lh_mJ
                have L_t : ∀ j, some t = some j → j < gvN S91 10 := fun j h => Nat.lt_of_lt_of_le (L_t j h) (m92 _)
                have hm : ∀ b, gvN S b ≤ gvN S91 b := lh_le_trans hm m92
                have ok := lh_W_ok hW
                refine lv_iinc (v := v10 + (-1 : Int32)) (lv' := [(5, .int (v10 + (-1 : Int32))), (4, .int v9), (7, .int (gvI S6 35 x19 ((gvI S6 50 x17 ((gvI S6 65 x13 (v10).toNatClampNeg)).toNatClampNeg)).toNatClampNeg)), (6, .int (gvI S6 65 x13 (v10).toNatClampNeg)), (0, lh_r ad 10 (some t)), (1, .int p1), (2, .int v7), (3, .int v8)]) hx hb dX10_started_156 hl (k := 7) rfl (by first | rfl | decide) (by decide) (by first | rfl | simp [lh_cat_r, lh_cat_i, lh_cat_j]) (fun ls hl => ?_)
                refine lv_goto (tgt := 63) hx hb dX10_started_159 (by decide) ?_
                exact ih S91 v7 v8 v9 (v10 + (-1 : Int32)) hf hm _ _ hW hS _ (lv_sub hl [4, 5, 6, 7, 1, 0] (by first | rfl | simp [lv_pick]))
              · replace hf := dc_if_t c86 hf
                refine lv_sipush (v := 1000) hx hb dX10_started_138 (by decide) ?_
                refine lv_iload hx hb dX10_started_141 (lv_at hl 1 rfl) ?_
                obtain ⟨g93, hf⟩ := dc_gd_ok hf
                refine lv_idiv hx hb dX10_started_143 g93 ?_
                refine lv_topi (fun v94 hv94 => ?_)
                replace hf := dc_let_e hv94 hf
                refine lv_i2l (v := v94.toInt64) hx hb dX10_started_144 rfl ?_
                refine lv_goto (tgt := 155) hx hb dX10_started_145 (by decide) ?_
                obtain ⟨x95, hx95, hf⟩ := dc_nn_ok hf
                obtain ⟨g96, hf⟩ := dc_gd_ok hf
                obtain ⟨S97, eS97, hf⟩ := dc_let_ok hf
                refine lh_ast_l (a := 53) hx hb hK hW hS hx95 (L85 _ hx95) rfl (fun _ => rfl) g96 dX10_started_155 (fun H locs hW hS => ?_)
                rw [← eS97] at hW
                have m98 : ∀ b, gvN S83 b ≤ gvN S97 b := by rw [eS97]; exact lh_mJ
                have L_t : ∀ j, some t = some j → j < gvN S97 10 := fun j h => Nat.lt_of_lt_of_le (L_t j h) (m98 _)
                have hm : ∀ b, gvN S b ≤ gvN S97 b := lh_le_trans hm m98
                have ok := lh_W_ok hW
                refine lv_iinc (v := v10 + (-1 : Int32)) (lv' := [(5, .int (v10 + (-1 : Int32))), (4, .int v9), (7, .int (gvI S6 35 x19 ((gvI S6 50 x17 ((gvI S6 65 x13 (v10).toNatClampNeg)).toNatClampNeg)).toNatClampNeg)), (6, .int (gvI S6 65 x13 (v10).toNatClampNeg)), (0, lh_r ad 10 (some t)), (1, .int p1), (2, .int v7), (3, .int v8)]) hx hb dX10_started_156 hl (k := 7) rfl (by first | rfl | decide) (by decide) (by first | rfl | simp [lh_cat_r, lh_cat_i, lh_cat_j]) (fun ls hl => ?_)
                refine lv_goto (tgt := 63) hx hb dX10_started_159 (by decide) ?_
                exact ih S97 v7 v8 v9 (v10 + (-1 : Int32)) hf hm _ _ hW hS _ (lv_sub hl [4, 5, 6, 7, 1, 0] (by first | rfl | simp [lv_pick]))
          · replace hf := dc_if_t c60 hf
            refine lv_bipush (v := 9) hx hb dX10_started_101 (by decide) ?_
            refine lv_goto (tgt := 108) hx hb dX10_started_103 (by decide) ?_
            refine lv_istore (i := 4) (lv' := [(4, .int (9 : Int32)), (7, .int (gvI S6 35 x19 ((gvI S6 50 x17 ((gvI S6 65 x13 (v10).toNatClampNeg)).toNatClampNeg)).toNatClampNeg)), (6, .int (gvI S6 65 x13 (v10).toNatClampNeg)), (0, lh_r ad 10 (some t)), (1, .int p1), (2, .int v7), (3, .int v8), (5, .int v10)]) hx hb dX10_started_108 hl (by decide) (by first | rfl | simp [lh_cat_r, lh_cat_i, lh_cat_j]) (fun ls hl => ?_)
            refine lh_aload_n hx hb dX10_started_110 rfl (lv_at hl 3 rfl) ?_
            have L99 : ∀ j, gvR S6 10 t 22 = some j → j < gvN S6 52 := fun j h => ok _ _ _ _ j (L_t _ rfl) rfl h
            refine lh_get (a := 10) (k := 22) (N := 42) (C := RX10) (T := TX10) (own := RX10) (ref := "LoaderModelsModel") hx hb hts (fun _ h => (List.mem_cons_of_mem _ (List.mem_append_right _ h))) hown hK hW rfl (L_t _ rfl) rfl rfl rfl (by decide) (hts (.fieldLink RX10 69 "LoaderModelsModel" "classState" "[I") (List.mem_cons_of_mem _ (List.mem_append_left _ (List.mem_of_getElem? (i := 0) rfl)))) (fun _ h9 => h9) dX10_started_111 (v := lh_r ad 52 (gvR S6 10 t 22)) rfl ?_
            refine lv_iload hx hb dX10_started_114 (lv_at hl 2 rfl) ?_
            refine lv_iload hx hb dX10_started_116 (lv_at hl 0 rfl) ?_
            refine lv_if_ne (tgt := 125) hx hb dX10_started_118 (by decide) (fun c100 => ?_) (fun c100 => ?_)
            · refine lv_iconst (v := 2) hx hb dX10_started_125 (by decide) ?_
              obtain ⟨x101, hx101, hf⟩ := dc_nn_ok hf
              obtain ⟨g102, hf⟩ := dc_gd_ok hf
              obtain ⟨S103, eS103, hf⟩ := dc_let_ok hf
              refine lh_ast_i (a := 52) hx hb hK hW hS hx101 (L99 _ hx101) rfl (fun _ => rfl) g102 dX10_started_126 (fun H locs hW hS => ?_)
              rw [← eS103] at hW
              have m104 : ∀ b, gvN S6 b ≤ gvN S103 b := by rw [eS103]; exact lh_mI
              have L_t : ∀ j, some t = some j → j < gvN S103 10 := fun j h => Nat.lt_of_lt_of_le (L_t j h) (m104 _)
              have hm : ∀ b, gvN S b ≤ gvN S103 b := lh_le_trans hm m104
              have ok := lh_W_ok hW
              refine lh_aload_n hx hb dX10_started_127 rfl (lv_at hl 3 rfl) ?_
              have L105 : ∀ j, gvR S103 10 t 23 = some j → j < gvN S103 53 := fun j h => ok _ _ _ _ j (L_t _ rfl) rfl h
              refine lh_get (a := 10) (k := 23) (N := 42) (C := RX10) (T := TX10) (own := RX10) (ref := "LoaderModelsModel") hx hb hts (fun _ h => (List.mem_cons_of_mem _ (List.mem_append_right _ h))) hown hK hW rfl (L_t _ rfl) rfl rfl rfl (by decide) (hts (.fieldLink RX10 72 "LoaderModelsModel" "fixed" "[J") (List.mem_cons_of_mem _ (List.mem_append_left _ (List.mem_of_getElem? (i := 5) rfl)))) (fun _ h9 => h9) dX10_started_128 (v := lh_r ad 53 (gvR S103 10 t 23)) rfl ?_
              refine lv_iload hx hb dX10_started_131 (lv_at hl 2 rfl) ?_
              refine lv_iload hx hb dX10_started_133 (lv_at hl 0 rfl) ?_
              refine lv_if_ne (tgt := 148) hx hb dX10_started_135 (by decide) (fun c106 => ?_) (fun c106 => ?_)
              · refine lh_aload_n hx hb dX10_started_148 rfl (lv_at hl 3 rfl) ?_
                have L107 : ∀ j, gvR S103 10 t 23 = some j → j < gvN S103 53 := fun j h => ok _ _ _ _ j (L_t _ rfl) rfl h
                refine lh_get (a := 10) (k := 23) (N := 42) (C := RX10) (T := TX10) (own := RX10) (ref := "LoaderModelsModel") hx hb hts (fun _ h => (List.mem_cons_of_mem _ (List.mem_append_right _ h))) hown hK hW rfl (L_t _ rfl) rfl rfl rfl (by decide) (hts (.fieldLink RX10 72 "LoaderModelsModel" "fixed" "[J") (List.mem_cons_of_mem _ (List.mem_append_left _ (List.mem_of_getElem? (i := 5) rfl)))) (fun _ h9 => h9) dX10_started_149 (v := lh_r ad 53 (gvR S103 10 t 23)) rfl ?_
                refine lv_iload hx hb dX10_started_152 (lv_at hl 2 rfl) ?_
                obtain ⟨x108, hx108, hf⟩ := dc_nn_ok hf
                obtain ⟨g109, hf⟩ := dc_gd_ok hf
                refine lh_ald_l (a := 53) hx hb hK hW hx108 (L107 _ hx108) rfl rfl g109 dX10_started_154 ?_
                obtain ⟨g110, hf⟩ := dc_gd_ok hf
                obtain ⟨S111, eS111, hf⟩ := dc_let_ok hf
                refine lh_ast_l (a := 53) hx hb hK hW hS hx108 (L105 _ hx108) rfl (fun _ => rfl) g110 dX10_started_155 (fun H locs hW hS => ?_)
                rw [← eS111] at hW
                have m112 : ∀ b, gvN S103 b ≤ gvN S111 b := by rw [eS111]; exact lh_mJ
                have L_t : ∀ j, some t = some j → j < gvN S111 10 := fun j h => Nat.lt_of_lt_of_le (L_t j h) (m112 _)
                have hm : ∀ b, gvN S b ≤ gvN S111 b := lh_le_trans hm m112
                have ok := lh_W_ok hW
                refine lv_iinc (v := v10 + (-1 : Int32)) (lv' := [(5, .int (v10 + (-1 : Int32))), (4, .int (9 : Int32)), (7, .int (gvI S6 35 x19 ((gvI S6 50 x17 ((gvI S6 65 x13 (v10).toNatClampNeg)).toNatClampNeg)).toNatClampNeg)), (6, .int (gvI S6 65 x13 (v10).toNatClampNeg)), (0, lh_r ad 10 (some t)), (1, .int p1), (2, .int v7), (3, .int v8)]) hx hb dX10_started_156 hl (k := 7) rfl (by first | rfl | decide) (by decide) (by first | rfl | simp [lh_cat_r, lh_cat_i, lh_cat_j]) (fun ls hl => ?_)
                refine lv_goto (tgt := 63) hx hb dX10_started_159 (by decide) ?_
                exact ih S111 v7 v8 (9 : Int32) (v10 + (-1 : Int32)) hf hm _ _ hW hS _ (lv_sub hl [4, 5, 6, 7, 1, 0] (by first | rfl | simp [lv_pick]))
              · exact absurd c106 (by decide)
            · exact absurd c100 (by decide)
  have L4 : ∀ (g : Nat) (S1 : lh_S) (v2 : Int32) (v3 : Int32), f_X10_started_L4 n t p1 g S1 v2 v3 = some (r, S') → (∀ b, gvN S b ≤ gvN S1 b) → ∀ (H : Heap) (locs : List Loc), lh_W D cT S1 ad A H → va_S A s.heap H locs → ∀ (ls : Array Slot), lv_has ls 8 [(0, lh_r ad 10 (some t)), (1, .int p1), (2, .int v2), (3, .int v3)] → W p l e (headSpec wsX10_started ({ frames := 0, cells := 0, slots := 0, locals := 0 } : Room)).room s m args below meth c H locs 0 0 (MQ below (lh_Q D cT S' ad A ((∀ b, gvN S b ≤ gvN S' b) ∧ True) (some (.int r))) args s 0 0 A) (F0 m 4 ls []) := by
    intro g
    induction g with
    | zero => intro S1 v2 v3 hf; rw [f_X10_started_L4] at hf; cases hf
    | succ g ih =>
      intro S1 v2 v3 hf hm H locs hW hS ls hl
      rw [f_X10_started_L4] at hf
      have ok := lh_W_ok hW
      have L_t : ∀ j, some t = some j → j < gvN S1 10 := fun j h => Nat.lt_of_lt_of_le (L_t j h) (hm _)
      refine lv_iload_n hx hb dX10_started_4 rfl (lv_at hl 3 rfl) ?_
      refine lv_if_lt (tgt := 37) hx hb dX10_started_5 (by decide) (fun c4 => ?_) (fun c4 => ?_)
      · replace hf := dc_if_t c4 hf
        refine lv_iload_n hx hb dX10_started_37 rfl (lv_at hl 3 rfl) ?_
        refine lv_if_lt (tgt := 55) hx hb dX10_started_38 (by decide) (fun c5 => ?_) (fun c5 => ?_)
        · replace hf := dc_if_t c5 hf
          refine lv_iconst (v := 0) hx hb dX10_started_55 (by decide) ?_
          refine lv_istore (i := 4) (lv' := [(4, .int (0 : Int32)), (0, lh_r ad 10 (some t)), (1, .int p1), (2, .int v2), (3, .int v3)]) hx hb dX10_started_56 hl (by decide) (by first | rfl | simp [lh_cat_r, lh_cat_i, lh_cat_j]) (fun ls hl => ?_)
          refine lv_iload_n hx hb dX10_started_58 rfl (lv_at hl 3 rfl) ?_
          refine lv_iconst (v := 1) hx hb dX10_started_59 (by decide) ?_
          refine lv_isub hx hb dX10_started_60 ?_
          refine lv_istore (i := 5) (lv' := [(5, .int (v2 - (1 : Int32))), (4, .int (0 : Int32)), (0, lh_r ad 10 (some t)), (1, .int p1), (2, .int v2), (3, .int v3)]) hx hb dX10_started_61 hl (by decide) (by first | rfl | simp [lh_cat_r, lh_cat_i, lh_cat_j]) (fun ls hl => ?_)
          exact L63 n S1 v2 v3 (0 : Int32) (v2 - (1 : Int32)) hf hm _ _ hW hS _ (lv_sub hl [2, 3, 4, 5, 1, 0] (by first | rfl | simp [lv_pick]))
        · replace hf := dc_if_f c5 hf
          refine lh_aload_n hx hb dX10_started_41 rfl (lv_at hl 0 rfl) ?_
          have L113 : ∀ j, gvR S1 10 t 22 = some j → j < gvN S1 52 := fun j h => ok _ _ _ _ j (L_t _ rfl) rfl h
          refine lh_get (a := 10) (k := 22) (N := 42) (C := RX10) (T := TX10) (own := RX10) (ref := "LoaderModelsModel") hx hb hts (fun _ h => (List.mem_cons_of_mem _ (List.mem_append_right _ h))) hown hK hW rfl (L_t _ rfl) rfl rfl rfl (by decide) (hts (.fieldLink RX10 69 "LoaderModelsModel" "classState" "[I") (List.mem_cons_of_mem _ (List.mem_append_left _ (List.mem_of_getElem? (i := 0) rfl)))) (fun _ h9 => h9) dX10_started_42 (v := lh_r ad 52 (gvR S1 10 t 22)) rfl ?_
          refine lv_iload_n hx hb dX10_started_45 rfl (lv_at hl 3 rfl) ?_
          obtain ⟨x114, hx114, hf⟩ := dc_nn_ok hf
          obtain ⟨g115, hf⟩ := dc_gd_ok hf
          refine lh_ald_i (a := 52) hx hb hK hW hx114 (L113 _ hx114) rfl rfl g115 dX10_started_46 ?_
          refine lv_iconst (v := 2) hx hb dX10_started_47 (by decide) ?_
          refine lv_icmp_ne (tgt := 55) hx hb dX10_started_48 (by decide) (fun c116 => ?_) (fun c116 => ?_)
          · replace hf := dc_if_f c116 hf
            refine lv_iconst (v := 0) hx hb dX10_started_55 (by decide) ?_
            refine lv_istore (i := 4) (lv' := [(4, .int (0 : Int32)), (0, lh_r ad 10 (some t)), (1, .int p1), (2, .int v2), (3, .int v3)]) hx hb dX10_started_56 hl (by decide) (by first | rfl | simp [lh_cat_r, lh_cat_i, lh_cat_j]) (fun ls hl => ?_)
            refine lv_iload_n hx hb dX10_started_58 rfl (lv_at hl 3 rfl) ?_
            refine lv_iconst (v := 1) hx hb dX10_started_59 (by decide) ?_
            refine lv_isub hx hb dX10_started_60 ?_
            refine lv_istore (i := 5) (lv' := [(5, .int (v2 - (1 : Int32))), (4, .int (0 : Int32)), (0, lh_r ad 10 (some t)), (1, .int p1), (2, .int v2), (3, .int v3)]) hx hb dX10_started_61 hl (by decide) (by first | rfl | simp [lh_cat_r, lh_cat_i, lh_cat_j]) (fun ls hl => ?_)
            exact L63 n S1 v2 v3 (0 : Int32) (v2 - (1 : Int32)) hf hm _ _ hW hS _ (lv_sub hl [2, 3, 4, 5, 1, 0] (by first | rfl | simp [lv_pick]))
          · replace hf := dc_if_t c116 hf
            refine lv_iconst (v := 2) hx hb dX10_started_51 (by decide) ?_
            refine lv_goto (tgt := 56) hx hb dX10_started_52 (by decide) ?_
            refine lv_istore (i := 4) (lv' := [(4, .int (2 : Int32)), (0, lh_r ad 10 (some t)), (1, .int p1), (2, .int v2), (3, .int v3)]) hx hb dX10_started_56 hl (by decide) (by first | rfl | simp [lh_cat_r, lh_cat_i, lh_cat_j]) (fun ls hl => ?_)
            refine lv_iload_n hx hb dX10_started_58 rfl (lv_at hl 3 rfl) ?_
            refine lv_iconst (v := 1) hx hb dX10_started_59 (by decide) ?_
            refine lv_isub hx hb dX10_started_60 ?_
            refine lv_istore (i := 5) (lv' := [(5, .int (v2 - (1 : Int32))), (4, .int (2 : Int32)), (0, lh_r ad 10 (some t)), (1, .int p1), (2, .int v2), (3, .int v3)]) hx hb dX10_started_61 hl (by decide) (by first | rfl | simp [lh_cat_r, lh_cat_i, lh_cat_j]) (fun ls hl => ?_)
            exact L63 n S1 v2 v3 (2 : Int32) (v2 - (1 : Int32)) hf hm _ _ hW hS _ (lv_sub hl [2, 3, 4, 5, 1, 0] (by first | rfl | simp [lv_pick]))
      · replace hf := dc_if_f c4 hf
        refine lh_aload_n hx hb dX10_started_8 rfl (lv_at hl 0 rfl) ?_
        have L117 : ∀ j, gvR S1 10 t 22 = some j → j < gvN S1 52 := fun j h => ok _ _ _ _ j (L_t _ rfl) rfl h
        refine lh_get (a := 10) (k := 22) (N := 42) (C := RX10) (T := TX10) (own := RX10) (ref := "LoaderModelsModel") hx hb hts (fun _ h => (List.mem_cons_of_mem _ (List.mem_append_right _ h))) hown hK hW rfl (L_t _ rfl) rfl rfl rfl (by decide) (hts (.fieldLink RX10 69 "LoaderModelsModel" "classState" "[I") (List.mem_cons_of_mem _ (List.mem_append_left _ (List.mem_of_getElem? (i := 0) rfl)))) (fun _ h9 => h9) dX10_started_9 (v := lh_r ad 52 (gvR S1 10 t 22)) rfl ?_
        refine lv_iload_n hx hb dX10_started_12 rfl (lv_at hl 3 rfl) ?_
        obtain ⟨x118, hx118, hf⟩ := dc_nn_ok hf
        obtain ⟨g119, hf⟩ := dc_gd_ok hf
        refine lh_ald_i (a := 52) hx hb hK hW hx118 (L117 _ hx118) rfl rfl g119 dX10_started_13 ?_
        refine lv_if_ne (tgt := 37) hx hb dX10_started_14 (by decide) (fun c120 => ?_) (fun c120 => ?_)
        · replace hf := dc_if_f c120 hf
          refine lv_iload_n hx hb dX10_started_37 rfl (lv_at hl 3 rfl) ?_
          refine lv_if_lt (tgt := 55) hx hb dX10_started_38 (by decide) (fun c121 => ?_) (fun c121 => ?_)
          · replace hf := dc_if_t c121 hf
            refine lv_iconst (v := 0) hx hb dX10_started_55 (by decide) ?_
            refine lv_istore (i := 4) (lv' := [(4, .int (0 : Int32)), (0, lh_r ad 10 (some t)), (1, .int p1), (2, .int v2), (3, .int v3)]) hx hb dX10_started_56 hl (by decide) (by first | rfl | simp [lh_cat_r, lh_cat_i, lh_cat_j]) (fun ls hl => ?_)
            refine lv_iload_n hx hb dX10_started_58 rfl (lv_at hl 3 rfl) ?_
            refine lv_iconst (v := 1) hx hb dX10_started_59 (by decide) ?_
            refine lv_isub hx hb dX10_started_60 ?_
            refine lv_istore (i := 5) (lv' := [(5, .int (v2 - (1 : Int32))), (4, .int (0 : Int32)), (0, lh_r ad 10 (some t)), (1, .int p1), (2, .int v2), (3, .int v3)]) hx hb dX10_started_61 hl (by decide) (by first | rfl | simp [lh_cat_r, lh_cat_i, lh_cat_j]) (fun ls hl => ?_)
            exact L63 n S1 v2 v3 (0 : Int32) (v2 - (1 : Int32)) hf hm _ _ hW hS _ (lv_sub hl [2, 3, 4, 5, 1, 0] (by first | rfl | simp [lv_pick]))
          · replace hf := dc_if_f c121 hf
            refine lh_aload_n hx hb dX10_started_41 rfl (lv_at hl 0 rfl) ?_
            have L122 : ∀ j, gvR S1 10 t 22 = some j → j < gvN S1 52 := fun j h => ok _ _ _ _ j (L_t _ rfl) rfl h
            refine lh_get (a := 10) (k := 22) (N := 42) (C := RX10) (T := TX10) (own := RX10) (ref := "LoaderModelsModel") hx hb hts (fun _ h => (List.mem_cons_of_mem _ (List.mem_append_right _ h))) hown hK hW rfl (L_t _ rfl) rfl rfl rfl (by decide) (hts (.fieldLink RX10 69 "LoaderModelsModel" "classState" "[I") (List.mem_cons_of_mem _ (List.mem_append_left _ (List.mem_of_getElem? (i := 0) rfl)))) (fun _ h9 => h9) dX10_started_42 (v := lh_r ad 52 (gvR S1 10 t 22)) rfl ?_
            refine lv_iload_n hx hb dX10_started_45 rfl (lv_at hl 3 rfl) ?_
            obtain ⟨g123, hf⟩ := dc_gd_ok hf
            refine lh_ald_i (a := 52) hx hb hK hW hx118 (L122 _ hx118) rfl rfl g123 dX10_started_46 ?_
            refine lv_iconst (v := 2) hx hb dX10_started_47 (by decide) ?_
            refine lv_icmp_ne (tgt := 55) hx hb dX10_started_48 (by decide) (fun c124 => ?_) (fun c124 => ?_)
            · replace hf := dc_if_f c124 hf
              refine lv_iconst (v := 0) hx hb dX10_started_55 (by decide) ?_
              refine lv_istore (i := 4) (lv' := [(4, .int (0 : Int32)), (0, lh_r ad 10 (some t)), (1, .int p1), (2, .int v2), (3, .int v3)]) hx hb dX10_started_56 hl (by decide) (by first | rfl | simp [lh_cat_r, lh_cat_i, lh_cat_j]) (fun ls hl => ?_)
              refine lv_iload_n hx hb dX10_started_58 rfl (lv_at hl 3 rfl) ?_
              refine lv_iconst (v := 1) hx hb dX10_started_59 (by decide) ?_
              refine lv_isub hx hb dX10_started_60 ?_
              refine lv_istore (i := 5) (lv' := [(5, .int (v2 - (1 : Int32))), (4, .int (0 : Int32)), (0, lh_r ad 10 (some t)), (1, .int p1), (2, .int v2), (3, .int v3)]) hx hb dX10_started_61 hl (by decide) (by first | rfl | simp [lh_cat_r, lh_cat_i, lh_cat_j]) (fun ls hl => ?_)
              exact L63 n S1 v2 v3 (0 : Int32) (v2 - (1 : Int32)) hf hm _ _ hW hS _ (lv_sub hl [2, 3, 4, 5, 1, 0] (by first | rfl | simp [lv_pick]))
            · replace hf := dc_if_t c124 hf
              refine lv_iconst (v := 2) hx hb dX10_started_51 (by decide) ?_
              refine lv_goto (tgt := 56) hx hb dX10_started_52 (by decide) ?_
              refine lv_istore (i := 4) (lv' := [(4, .int (2 : Int32)), (0, lh_r ad 10 (some t)), (1, .int p1), (2, .int v2), (3, .int v3)]) hx hb dX10_started_56 hl (by decide) (by first | rfl | simp [lh_cat_r, lh_cat_i, lh_cat_j]) (fun ls hl => ?_)
              refine lv_iload_n hx hb dX10_started_58 rfl (lv_at hl 3 rfl) ?_
              refine lv_iconst (v := 1) hx hb dX10_started_59 (by decide) ?_
              refine lv_isub hx hb dX10_started_60 ?_
              refine lv_istore (i := 5) (lv' := [(5, .int (v2 - (1 : Int32))), (4, .int (2 : Int32)), (0, lh_r ad 10 (some t)), (1, .int p1), (2, .int v2), (3, .int v3)]) hx hb dX10_started_61 hl (by decide) (by first | rfl | simp [lh_cat_r, lh_cat_i, lh_cat_j]) (fun ls hl => ?_)
              exact L63 n S1 v2 v3 (2 : Int32) (v2 - (1 : Int32)) hf hm _ _ hW hS _ (lv_sub hl [2, 3, 4, 5, 1, 0] (by first | rfl | simp [lv_pick]))
        · replace hf := dc_if_t c120 hf
          refine lh_aload_n hx hb dX10_started_17 rfl (lv_at hl 0 rfl) ?_
          have L125 : ∀ j, gvR S1 10 t 35 = some j → j < gvN S1 65 := fun j h => ok _ _ _ _ j (L_t _ rfl) rfl h
          refine lh_get (a := 10) (k := 35) (N := 42) (C := RX10) (T := TX10) (own := RX10) (ref := "LoaderModelsModel") hx hb hts (fun _ h => (List.mem_cons_of_mem _ (List.mem_append_right _ h))) hown hK hW rfl (L_t _ rfl) rfl rfl rfl (by decide) (hts (.fieldLink RX10 94 "LoaderModelsModel" "chain" "[I") (List.mem_cons_of_mem _ (List.mem_append_left _ (List.mem_of_getElem? (i := 1) rfl)))) (fun _ h9 => h9) dX10_started_18 (v := lh_r ad 65 (gvR S1 10 t 35)) rfl ?_
          refine lv_iload_n hx hb dX10_started_21 rfl (lv_at hl 2 rfl) ?_
          refine lv_iload_n hx hb dX10_started_22 rfl (lv_at hl 3 rfl) ?_
          obtain ⟨x126, hx126, hf⟩ := dc_nn_ok hf
          obtain ⟨g127, hf⟩ := dc_gd_ok hf
          obtain ⟨S128, eS128, hf⟩ := dc_let_ok hf
          refine lh_ast_i (a := 65) hx hb hK hW hS hx126 (L125 _ hx126) rfl (fun _ => rfl) g127 dX10_started_23 (fun H locs hW hS => ?_)
          rw [← eS128] at hW
          have m129 : ∀ b, gvN S1 b ≤ gvN S128 b := by rw [eS128]; exact lh_mI
          have L_t : ∀ j, some t = some j → j < gvN S128 10 := fun j h => Nat.lt_of_lt_of_le (L_t j h) (m129 _)
          have hm : ∀ b, gvN S b ≤ gvN S128 b := lh_le_trans hm m129
          have ok := lh_W_ok hW
          refine lv_iinc (v := v2 + (1 : Int32)) (lv' := [(2, .int (v2 + (1 : Int32))), (0, lh_r ad 10 (some t)), (1, .int p1), (3, .int v3)]) hx hb dX10_started_24 hl (k := 2) rfl (by first | rfl | decide) (by decide) (by first | rfl | simp [lh_cat_r, lh_cat_i, lh_cat_j]) (fun ls hl => ?_)
          refine lh_aload_n hx hb dX10_started_27 rfl (lv_at hl 1 rfl) ?_
          have L130 : ∀ j, gvR S128 10 t 21 = some j → j < gvN S128 51 := fun j h => ok _ _ _ _ j (L_t _ rfl) rfl h
          refine lh_get (a := 10) (k := 21) (N := 42) (C := RX10) (T := TX10) (own := RX10) (ref := "LoaderModelsModel") hx hb hts (fun _ h => (List.mem_cons_of_mem _ (List.mem_append_right _ h))) hown hK hW rfl (L_t _ rfl) rfl rfl rfl (by decide) (hts (.fieldLink RX10 66 "LoaderModelsModel" "classAbove" "[I") (List.mem_cons_of_mem _ (List.mem_append_left _ (List.mem_of_getElem? (i := 2) rfl)))) (fun _ h9 => h9) dX10_started_28 (v := lh_r ad 51 (gvR S128 10 t 21)) rfl ?_
          refine lv_iload_n hx hb dX10_started_31 rfl (lv_at hl 3 rfl) ?_
          obtain ⟨x131, hx131, hf⟩ := dc_nn_ok hf
          obtain ⟨g132, hf⟩ := dc_gd_ok hf
          refine lh_ald_i (a := 51) hx hb hK hW hx131 (L130 _ hx131) rfl rfl g132 dX10_started_32 ?_
          refine lv_istore_n (i := 3) (lv' := [(3, .int (gvI S128 51 x131 (v3).toNatClampNeg)), (2, .int (v2 + (1 : Int32))), (0, lh_r ad 10 (some t)), (1, .int p1)]) hx hb dX10_started_33 rfl hl (by decide) (by first | rfl | simp [lh_cat_r, lh_cat_i, lh_cat_j]) (fun ls hl => ?_)
          refine lv_goto (tgt := 4) hx hb dX10_started_34 (by decide) ?_
          exact ih S128 (v2 + (1 : Int32)) (gvI S128 51 x131 (v3).toNatClampNeg) hf hm _ _ hW hS _ (lv_sub hl [2, 3, 1, 0] (by first | rfl | simp [lv_pick]))
  have ok := lh_W_ok hW
  have hm : ∀ b, gvN S b ≤ gvN S b := fun _ => Nat.le_refl _
  obtain ⟨ls, hent, hl⟩ := lh_entry m args [lh_r ad 10 (some t), .int p1] 8 [(0, lh_r ad 10 (some t)), (1, .int p1)] hargs (by simp [lv_args, lh_cat_r, lh_cat_i, lh_cat_j]) (by simp [lg_sl, lh_cat_r, lh_cat_i, lh_cat_j])
  rw [hent]
  generalize hH : s.heap = H at hW ⊢
  have hS : va_S A s.heap H [] := by rw [← hH]; exact va_S.rf
  unfold f_X10_started at hf
  refine lv_iconst (v := 0) hx hb dX10_started_0 (by decide) ?_
  refine lv_istore_n (i := 2) (lv' := [(2, .int (0 : Int32)), (0, lh_r ad 10 (some t)), (1, .int p1)]) hx hb dX10_started_1 rfl hl (by decide) (by first | rfl | simp [lh_cat_r, lh_cat_i, lh_cat_j]) (fun ls hl => ?_)
  refine lv_iload_n hx hb dX10_started_2 rfl (lv_at hl 2 rfl) ?_
  refine lv_istore_n (i := 3) (lv' := [(3, .int p1), (2, .int (0 : Int32)), (0, lh_r ad 10 (some t)), (1, .int p1)]) hx hb dX10_started_3 rfl hl (by decide) (by first | rfl | simp [lh_cat_r, lh_cat_i, lh_cat_j]) (fun ls hl => ?_)
  exact L4 n S (0 : Int32) p1 hf hm _ _ hW hS _ (lv_sub hl [2, 3, 1, 0] (by first | rfl | simp [lv_pick]))
def f_X10_start (n : Nat) (S : lh_S) (t : Nat) (p1 : Int32) : Option (Int32 × lh_S) :=
  dc_let (pvI S 10 t 0 (0 : Int32)) fun S1 =>
  dc_bd (f_X10_isClass n S1 t p1) fun r3 S4 =>
  dc_if (r3 = 0) (
  some ((-2 : Int32), S4)) (
  dc_bd (f_X10_started n S4 t p1) fun r9 S10 =>
  dc_if (r9 ≤ 0) (
  some ((1 : Int32), S10)) (
  dc_bd (f_X10_fails n S10 t r9) fun r14 S15 =>
  some (r14, S15)))
set_option maxHeartbeats 1000000 in
theorem m_X10_start {n : Nat} {S : lh_S} {t : Nat} {p1 : Int32} {r : Int32} {S' : lh_S} (hf : f_X10_start n S t p1 = some (r, S')) : ∀ b, gvN S b ≤ gvN S' b := by
  have hm : ∀ b, gvN S b ≤ gvN S b := fun _ => Nat.le_refl _
  unfold f_X10_start at hf
  obtain ⟨S1, eS1, hf⟩ := dc_let_ok hf
  have hm := lh_le_trans hm (show ∀ b, gvN S b ≤ gvN S1 b from by rw [eS1]; exact lh_mI)
  obtain ⟨r3, S4, k5, hf⟩ := dc_bd_ok hf
  have hm := lh_le_trans hm (show ∀ b, gvN S1 b ≤ gvN S4 b from m_X10_isClass k5)
  by_cases c8 : r3 = 0
  · replace hf := dc_if_t c8 hf
    obtain ⟨_, rfl⟩ := dc_ret hf
    exact hm
  · replace hf := dc_if_f c8 hf
    obtain ⟨r9, S10, k11, hf⟩ := dc_bd_ok hf
    have hm := lh_le_trans hm (show ∀ b, gvN S4 b ≤ gvN S10 b from m_X10_started k11)
    by_cases c13 : r9 ≤ 0
    · replace hf := dc_if_t c13 hf
      obtain ⟨_, rfl⟩ := dc_ret hf
      exact hm
    · replace hf := dc_if_f c13 hf
      obtain ⟨r14, S15, k16, hf⟩ := dc_bd_ok hf
      have hm := lh_le_trans hm (show ∀ b, gvN S10 b ≤ gvN S15 b from m_X10_fails k16)
      obtain ⟨_, rfl⟩ := dc_ret hf
      exact hm
set_option maxHeartbeats 1000000 in
theorem k_X10_start {n : Nat} {S : lh_S} {t : Nat} {p1 : Int32} {r : Int32} {S' : lh_S} (hf : f_X10_start n S t p1 = some (r, S')) : lh_sm10 S S' := by
  have hm : lh_sm10 S S := lh_sm10_rf
  unfold f_X10_start at hf
  obtain ⟨S1, eS1, hf⟩ := dc_let_ok hf
  have hm := lh_sm10_trans hm (show lh_sm10 S S1 from by rw [eS1]; exact (lh_sm10I (by decide)))
  obtain ⟨r3, S4, k5, hf⟩ := dc_bd_ok hf
  have hm := lh_sm10_trans hm (show lh_sm10 S1 S4 from k_X10_isClass k5)
  by_cases c8 : r3 = 0
  · replace hf := dc_if_t c8 hf
    obtain ⟨_, rfl⟩ := dc_ret hf
    exact hm
  · replace hf := dc_if_f c8 hf
    obtain ⟨r9, S10, k11, hf⟩ := dc_bd_ok hf
    have hm := lh_sm10_trans hm (show lh_sm10 S4 S10 from k_X10_started k11)
    by_cases c13 : r9 ≤ 0
    · replace hf := dc_if_t c13 hf
      obtain ⟨_, rfl⟩ := dc_ret hf
      exact hm
    · replace hf := dc_if_f c13 hf
      obtain ⟨r14, S15, k16, hf⟩ := dc_bd_ok hf
      have hm := lh_sm10_trans hm (show lh_sm10 S10 S15 from k_X10_fails k16)
      obtain ⟨_, rfl⟩ := dc_ret hf
      exact hm
set_option maxHeartbeats 4000000 in
set_option maxRecDepth 100000 in
theorem c_X10_start (l : Launch) (D : va_G) (cT : Nat → ClassId) (n : Nat) (S : lh_S) (ad : Nat → Nat → Nat) (A : Nat → Prop) (sz : Nat) (hA : ∀ q, sz ≤ q → A q) (t : Nat) (p1 : Int32) (r : Int32) (S' : lh_S) (hf : f_X10_start n S t p1 = some (r, S')) (L_t : ∀ j, some t = some j → j < gvN S 10) : Met l yX10_start wsX10_start ({ frames := 2, cells := 0, slots := 0, locals := 46 } : Room) (lh_P D cT S ad A sz [lh_r ad 10 (some t), .int p1]) (lh_Q D cT S' ad A ((∀ b, gvN S b ≤ gvN S' b) ∧ True) (some (.int r))) 0 0 A := by
  refine Met.ofW (cc := cX10_start) (maxL := 3) (ret := (some .int)) (by decide) rfl ?_
  intro p e s m args below meth c s₁ B hml hv
  obtain ⟨hargs, hsz, hW, hK, hN⟩ := hv
  have hx := B.exec
  have hb := B.bytes
  have hr := B.returns
  have hts := atoms_spec (ws := wsX10_start) B.pre
  have hown : s.vm.findClass RX10 = some m.cls := findClass_of_methodNamed B.named
  have hlocks := B.notSynchronized
  have hA : ∀ q, s.heap.size ≤ q → A q := fun q h => hA q (by rw [← hsz]; exact h)
  have ok := lh_W_ok hW
  have hm : ∀ b, gvN S b ≤ gvN S b := fun _ => Nat.le_refl _
  obtain ⟨ls, hent, hl⟩ := lh_entry m args [lh_r ad 10 (some t), .int p1] 3 [(0, lh_r ad 10 (some t)), (1, .int p1)] hargs (by simp [lv_args, lh_cat_r, lh_cat_i, lh_cat_j]) (by simp [lg_sl, lh_cat_r, lh_cat_i, lh_cat_j])
  rw [hent]
  generalize hH : s.heap = H at hW ⊢
  have hS : va_S A s.heap H [] := by rw [← hH]; exact va_S.rf
  unfold f_X10_start at hf
  refine lh_aload_n hx hb dX10_start_0 rfl (lv_at hl 0 rfl) ?_
  refine lv_iconst (v := 0) hx hb dX10_start_1 (by decide) ?_
  obtain ⟨S1, eS1, hf⟩ := dc_let_ok hf
  refine lh_put (S' := S1) (a := 10) (k := 0) (N := 42) (C := RX10) (T := TX10) (own := RX10) (ref := "LoaderModelsModel") (ty := .int) hx hb hts (fun _ h => (List.mem_cons_of_mem _ (List.mem_append_right _ h))) tyX10 tyX10_ok nmX10 hown hK hW hS rfl (L_t _ rfl) rfl rfl rfl (by decide) (hts (.fieldLink RX10 1 "LoaderModelsModel" "thrown" "I") (List.mem_cons_of_mem _ (List.mem_append_left _ (List.mem_append_left _ (List.mem_of_getElem? (i := 0) rfl))))) (fun _ h9 => h9) (Or.inl rfl) (by decide +kernel) rfl rfl (fun q9 => by rw [eS1]; exact lh_chI rfl q9) dX10_start_2 (fun H locs hW hS => ?_)
  have m2 : ∀ b, gvN S b ≤ gvN S1 b := by rw [eS1]; exact lh_mI
  have L_t : ∀ j, some t = some j → j < gvN S1 10 := fun j h => Nat.lt_of_lt_of_le (L_t j h) (m2 _)
  have hm : ∀ b, gvN S b ≤ gvN S1 b := lh_le_trans hm m2
  have ok := lh_W_ok hW
  refine lh_aload_n hx hb dX10_start_5 rfl (lv_at hl 0 rfl) ?_
  refine lv_iload_n hx hb dX10_start_6 rfl (lv_at hl 1 rfl) ?_
  obtain ⟨r3, S4, k5, hf⟩ := dc_bd_ok hf
  refine lh_call (S' := S4) (lh_rv ⟨hx, hb, hml, hown, hts⟩ rfl (As := [.int p1]) (rest := []) (k := 10) (c_X10_isClass l D cT n S1 ad A H.size (fun q9 h9 => hA q9 (Nat.le_trans hS.1 h9)) t p1 r3 S4 k5 L_t) (cwV 1 hts gX10_start_X10_isClass rfl rfl rfl (by decide +kernel) ⟨Nat.le_of_ble_eq_true rfl, Nat.le_of_ble_eq_true rfl⟩) hK hN hW (L_t _ rfl) rfl rfl rfl hl.1 rfl (by simp [lh_cat_r, lh_cat_i, lh_cat_j]) dX10_start_7 ⟨Nat.le_of_ble_eq_true rfl, Nat.le_of_ble_eq_true rfl⟩) hS (fun H locs hX hW hS => ?_)
  refine W.widen (k := 0) (n := 0) (by omega) (by omega) ?_
  show W _ _ _ _ _ _ _ _ _ _ _ _ _ _ _ (F0 m 10 ls [.int r3])
  have m6 : ∀ b, gvN S1 b ≤ gvN S4 b := hX.1
  have L_t : ∀ j, some t = some j → j < gvN S4 10 := fun j h => Nat.lt_of_lt_of_le (L_t j h) (m6 _)
  have hm : ∀ b, gvN S b ≤ gvN S4 b := lh_le_trans hm m6
  have ok := lh_W_ok hW
  have z7 := hX.2
  refine lv_if_ne (tgt := 16) hx hb dX10_start_10 (by decide) (fun c8 => ?_) (fun c8 => ?_)
  · replace hf := dc_if_f c8 hf
    refine lh_aload_n hx hb dX10_start_16 rfl (lv_at hl 0 rfl) ?_
    refine lv_iload_n hx hb dX10_start_17 rfl (lv_at hl 1 rfl) ?_
    obtain ⟨r9, S10, k11, hf⟩ := dc_bd_ok hf
    refine lh_call (S' := S10) (lh_rv ⟨hx, hb, hml, hown, hts⟩ rfl (As := [.int p1]) (rest := []) (k := 10) (c_X10_started l D cT n S4 ad A H.size (fun q9 h9 => hA q9 (Nat.le_trans hS.1 h9)) t p1 r9 S10 k11 L_t) (cwV 1 hts gX10_start_X10_started rfl rfl rfl (by decide +kernel) ⟨Nat.le_of_ble_eq_true rfl, Nat.le_of_ble_eq_true rfl⟩) hK hN hW (L_t _ rfl) rfl rfl rfl hl.1 rfl (by simp [lh_cat_r, lh_cat_i, lh_cat_j]) dX10_start_18 ⟨Nat.le_of_ble_eq_true rfl, Nat.le_of_ble_eq_true rfl⟩) hS (fun H locs hX hW hS => ?_)
    refine W.widen (k := 0) (n := 0) (by omega) (by omega) ?_
    show W _ _ _ _ _ _ _ _ _ _ _ _ _ _ _ (F0 m 21 ls [.int r9])
    have m12 : ∀ b, gvN S4 b ≤ gvN S10 b := hX.1
    have L_t : ∀ j, some t = some j → j < gvN S10 10 := fun j h => Nat.lt_of_lt_of_le (L_t j h) (m12 _)
    have hm : ∀ b, gvN S b ≤ gvN S10 b := lh_le_trans hm m12
    have ok := lh_W_ok hW
    refine lv_istore_n (i := 2) (lv' := [(2, .int r9), (0, lh_r ad 10 (some t)), (1, .int p1)]) hx hb dX10_start_21 rfl hl (by decide) (by first | rfl | simp [lh_cat_r, lh_cat_i, lh_cat_j]) (fun ls hl => ?_)
    refine lv_iload_n hx hb dX10_start_22 rfl (lv_at hl 0 rfl) ?_
    refine lv_if_le (tgt := 34) hx hb dX10_start_23 (by decide) (fun c13 => ?_) (fun c13 => ?_)
    · replace hf := dc_if_t c13 hf
      refine lv_iconst (v := 1) hx hb dX10_start_34 (by decide) ?_
      obtain ⟨rfl, rfl⟩ := dc_ret hf
      exact W.iret (v := (1 : Int32)) hx hb hr (fun t9 ht9 hW9 => ⟨⟨rfl, ⟨hm, trivial⟩, by rw [ht9]; exact hW⟩, hS.F ht9⟩) hS.2.2 dX10_start_35
    · replace hf := dc_if_f c13 hf
      refine lh_aload_n hx hb dX10_start_26 rfl (lv_at hl 1 rfl) ?_
      refine lv_iload_n hx hb dX10_start_27 rfl (lv_at hl 0 rfl) ?_
      obtain ⟨r14, S15, k16, hf⟩ := dc_bd_ok hf
      refine lh_call (S' := S15) (lh_rv ⟨hx, hb, hml, hown, hts⟩ rfl (As := [.int r9]) (rest := []) (k := 10) (c_X10_fails l D cT n S10 ad A H.size (fun q9 h9 => hA q9 (Nat.le_trans hS.1 h9)) t r9 r14 S15 k16 L_t) (cwV 1 hts gX10_start_X10_fails rfl rfl rfl (by decide +kernel) ⟨Nat.le_of_ble_eq_true rfl, Nat.le_of_ble_eq_true rfl⟩) hK hN hW (L_t _ rfl) rfl rfl rfl hl.1 rfl (by simp [lh_cat_r, lh_cat_i, lh_cat_j]) dX10_start_28 ⟨Nat.le_of_ble_eq_true rfl, Nat.le_of_ble_eq_true rfl⟩) hS (fun H locs hX hW hS => ?_)
      refine W.widen (k := 0) (n := 0) (by omega) (by omega) ?_
      show W _ _ _ _ _ _ _ _ _ _ _ _ _ _ _ (F0 m 31 ls [.int r14])
      have m17 : ∀ b, gvN S10 b ≤ gvN S15 b := hX.1
      have L_t : ∀ j, some t = some j → j < gvN S15 10 := fun j h => Nat.lt_of_lt_of_le (L_t j h) (m17 _)
      have hm : ∀ b, gvN S b ≤ gvN S15 b := lh_le_trans hm m17
      have ok := lh_W_ok hW
      refine lv_goto (tgt := 35) hx hb dX10_start_31 (by decide) ?_
      obtain ⟨rfl, rfl⟩ := dc_ret hf
      exact W.iret (v := r14) hx hb hr (fun t9 ht9 hW9 => ⟨⟨rfl, ⟨hm, trivial⟩, by rw [ht9]; exact hW⟩, hS.F ht9⟩) hS.2.2 dX10_start_35
  · replace hf := dc_if_t c8 hf
    refine lv_bipush (v := -2) hx hb dX10_start_13 (by decide) ?_
    obtain ⟨rfl, rfl⟩ := dc_ret hf
    exact W.iret (v := (-2 : Int32)) hx hb hr (fun t9 ht9 hW9 => ⟨⟨rfl, ⟨hm, trivial⟩, by rw [ht9]; exact hW⟩, hS.F ht9⟩) hS.2.2 dX10_start_15
def f_X10_value (n : Nat) (S : lh_S) (t : Nat) (p1 : Int32) : Option (Int64 × lh_S) :=
  dc_let (pvI S 10 t 0 (0 : Int32)) fun S1 =>
  dc_bd (f_X10_isClass n S1 t p1) fun r3 S4 =>
  dc_if (r3 = 0) (
  some ((-9223372036854775806 : Int64), S4)) (
  dc_bd (f_X10_started n S4 t p1) fun r9 S10 =>
  dc_if (r9 ≤ 0) (
  dc_nn (gvR S10 10 t 23) fun x15 =>
  dc_gd (p1 < 0 ∨ gvL S10 53 x15 ≤ (p1).toNatClampNeg) (
  some (gvJ S10 53 x15 (p1).toNatClampNeg, S10))) (
  dc_bd (f_X10_fails n S10 t r9) fun r17 S18 =>
  dc_let ((-9223372036854775808 : Int64) - r17.toInt64) fun v21 =>
  some (v21, S18)))
set_option maxHeartbeats 1000000 in
theorem m_X10_value {n : Nat} {S : lh_S} {t : Nat} {p1 : Int32} {r : Int64} {S' : lh_S} (hf : f_X10_value n S t p1 = some (r, S')) : ∀ b, gvN S b ≤ gvN S' b := by
  have hm : ∀ b, gvN S b ≤ gvN S b := fun _ => Nat.le_refl _
  unfold f_X10_value at hf
  obtain ⟨S1, eS1, hf⟩ := dc_let_ok hf
  have hm := lh_le_trans hm (show ∀ b, gvN S b ≤ gvN S1 b from by rw [eS1]; exact lh_mI)
  obtain ⟨r3, S4, k5, hf⟩ := dc_bd_ok hf
  have hm := lh_le_trans hm (show ∀ b, gvN S1 b ≤ gvN S4 b from m_X10_isClass k5)
  by_cases c8 : r3 = 0
  · replace hf := dc_if_t c8 hf
    obtain ⟨_, rfl⟩ := dc_ret hf
    exact hm
  · replace hf := dc_if_f c8 hf
    obtain ⟨r9, S10, k11, hf⟩ := dc_bd_ok hf
    have hm := lh_le_trans hm (show ∀ b, gvN S4 b ≤ gvN S10 b from m_X10_started k11)
    by_cases c13 : r9 ≤ 0
    · replace hf := dc_if_t c13 hf
      obtain ⟨x15, hx15, hf⟩ := dc_nn_ok hf
      obtain ⟨g16, hf⟩ := dc_gd_ok hf
      obtain ⟨_, rfl⟩ := dc_ret hf
      exact hm
    · replace hf := dc_if_f c13 hf
      obtain ⟨r17, S18, k19, hf⟩ := dc_bd_ok hf
      have hm := lh_le_trans hm (show ∀ b, gvN S10 b ≤ gvN S18 b from m_X10_fails k19)
      obtain ⟨v21, hv21, hf⟩ := dc_let_ok hf
      obtain ⟨_, rfl⟩ := dc_ret hf
      exact hm
set_option maxHeartbeats 1000000 in
theorem k_X10_value {n : Nat} {S : lh_S} {t : Nat} {p1 : Int32} {r : Int64} {S' : lh_S} (hf : f_X10_value n S t p1 = some (r, S')) : lh_sm10 S S' := by
  have hm : lh_sm10 S S := lh_sm10_rf
  unfold f_X10_value at hf
  obtain ⟨S1, eS1, hf⟩ := dc_let_ok hf
  have hm := lh_sm10_trans hm (show lh_sm10 S S1 from by rw [eS1]; exact (lh_sm10I (by decide)))
  obtain ⟨r3, S4, k5, hf⟩ := dc_bd_ok hf
  have hm := lh_sm10_trans hm (show lh_sm10 S1 S4 from k_X10_isClass k5)
  by_cases c8 : r3 = 0
  · replace hf := dc_if_t c8 hf
    obtain ⟨_, rfl⟩ := dc_ret hf
    exact hm
  · replace hf := dc_if_f c8 hf
    obtain ⟨r9, S10, k11, hf⟩ := dc_bd_ok hf
    have hm := lh_sm10_trans hm (show lh_sm10 S4 S10 from k_X10_started k11)
    by_cases c13 : r9 ≤ 0
    · replace hf := dc_if_t c13 hf
      obtain ⟨x15, hx15, hf⟩ := dc_nn_ok hf
      obtain ⟨g16, hf⟩ := dc_gd_ok hf
      obtain ⟨_, rfl⟩ := dc_ret hf
      exact hm
    · replace hf := dc_if_f c13 hf
      obtain ⟨r17, S18, k19, hf⟩ := dc_bd_ok hf
      have hm := lh_sm10_trans hm (show lh_sm10 S10 S18 from k_X10_fails k19)
      obtain ⟨v21, hv21, hf⟩ := dc_let_ok hf
      obtain ⟨_, rfl⟩ := dc_ret hf
      exact hm
set_option maxHeartbeats 4000000 in
set_option maxRecDepth 100000 in
theorem c_X10_value (l : Launch) (D : va_G) (cT : Nat → ClassId) (n : Nat) (S : lh_S) (ad : Nat → Nat → Nat) (A : Nat → Prop) (sz : Nat) (hA : ∀ q, sz ≤ q → A q) (t : Nat) (p1 : Int32) (r : Int64) (S' : lh_S) (hf : f_X10_value n S t p1 = some (r, S')) (L_t : ∀ j, some t = some j → j < gvN S 10) : Met l yX10_value wsX10_value ({ frames := 2, cells := 0, slots := 0, locals := 46 } : Room) (lh_P D cT S ad A sz [lh_r ad 10 (some t), .int p1]) (lh_Q D cT S' ad A ((∀ b, gvN S b ≤ gvN S' b) ∧ True) (some (.long r))) 0 0 A := by
  refine Met.ofW (cc := cX10_value) (maxL := 3) (ret := (some .long)) (by decide) rfl ?_
  intro p e s m args below meth c s₁ B hml hv
  obtain ⟨hargs, hsz, hW, hK, hN⟩ := hv
  have hx := B.exec
  have hb := B.bytes
  have hr := B.returns
  have hts := atoms_spec (ws := wsX10_value) B.pre
  have hown : s.vm.findClass RX10 = some m.cls := findClass_of_methodNamed B.named
  have hlocks := B.notSynchronized
  have hA : ∀ q, s.heap.size ≤ q → A q := fun q h => hA q (by rw [← hsz]; exact h)
  have ok := lh_W_ok hW
  have hm : ∀ b, gvN S b ≤ gvN S b := fun _ => Nat.le_refl _
  obtain ⟨ls, hent, hl⟩ := lh_entry m args [lh_r ad 10 (some t), .int p1] 3 [(0, lh_r ad 10 (some t)), (1, .int p1)] hargs (by simp [lv_args, lh_cat_r, lh_cat_i, lh_cat_j]) (by simp [lg_sl, lh_cat_r, lh_cat_i, lh_cat_j])
  rw [hent]
  generalize hH : s.heap = H at hW ⊢
  have hS : va_S A s.heap H [] := by rw [← hH]; exact va_S.rf
  unfold f_X10_value at hf
  refine lh_aload_n hx hb dX10_value_0 rfl (lv_at hl 0 rfl) ?_
  refine lv_iconst (v := 0) hx hb dX10_value_1 (by decide) ?_
  obtain ⟨S1, eS1, hf⟩ := dc_let_ok hf
  refine lh_put (S' := S1) (a := 10) (k := 0) (N := 42) (C := RX10) (T := TX10) (own := RX10) (ref := "LoaderModelsModel") (ty := .int) hx hb hts (fun _ h => (List.mem_cons_of_mem _ (List.mem_append_right _ h))) tyX10 tyX10_ok nmX10 hown hK hW hS rfl (L_t _ rfl) rfl rfl rfl (by decide) (hts (.fieldLink RX10 1 "LoaderModelsModel" "thrown" "I") (List.mem_cons_of_mem _ (List.mem_append_left _ (List.mem_append_left _ (List.mem_of_getElem? (i := 0) rfl))))) (fun _ h9 => h9) (Or.inl rfl) (by decide +kernel) rfl rfl (fun q9 => by rw [eS1]; exact lh_chI rfl q9) dX10_value_2 (fun H locs hW hS => ?_)
  have m2 : ∀ b, gvN S b ≤ gvN S1 b := by rw [eS1]; exact lh_mI
  have L_t : ∀ j, some t = some j → j < gvN S1 10 := fun j h => Nat.lt_of_lt_of_le (L_t j h) (m2 _)
  have hm : ∀ b, gvN S b ≤ gvN S1 b := lh_le_trans hm m2
  have ok := lh_W_ok hW
  refine lh_aload_n hx hb dX10_value_5 rfl (lv_at hl 0 rfl) ?_
  refine lv_iload_n hx hb dX10_value_6 rfl (lv_at hl 1 rfl) ?_
  obtain ⟨r3, S4, k5, hf⟩ := dc_bd_ok hf
  refine lh_call (S' := S4) (lh_rv ⟨hx, hb, hml, hown, hts⟩ rfl (As := [.int p1]) (rest := []) (k := 10) (c_X10_isClass l D cT n S1 ad A H.size (fun q9 h9 => hA q9 (Nat.le_trans hS.1 h9)) t p1 r3 S4 k5 L_t) (cwV 1 hts gX10_value_X10_isClass rfl rfl rfl (by decide +kernel) ⟨Nat.le_of_ble_eq_true rfl, Nat.le_of_ble_eq_true rfl⟩) hK hN hW (L_t _ rfl) rfl rfl rfl hl.1 rfl (by simp [lh_cat_r, lh_cat_i, lh_cat_j]) dX10_value_7 ⟨Nat.le_of_ble_eq_true rfl, Nat.le_of_ble_eq_true rfl⟩) hS (fun H locs hX hW hS => ?_)
  refine W.widen (k := 0) (n := 0) (by omega) (by omega) ?_
  show W _ _ _ _ _ _ _ _ _ _ _ _ _ _ _ (F0 m 10 ls [.int r3])
  have m6 : ∀ b, gvN S1 b ≤ gvN S4 b := hX.1
  have L_t : ∀ j, some t = some j → j < gvN S4 10 := fun j h => Nat.lt_of_lt_of_le (L_t j h) (m6 _)
  have hm : ∀ b, gvN S b ≤ gvN S4 b := lh_le_trans hm m6
  have ok := lh_W_ok hW
  have z7 := hX.2
  refine lv_if_ne (tgt := 17) hx hb dX10_value_10 (by decide) (fun c8 => ?_) (fun c8 => ?_)
  · replace hf := dc_if_f c8 hf
    refine lh_aload_n hx hb dX10_value_17 rfl (lv_at hl 0 rfl) ?_
    refine lv_iload_n hx hb dX10_value_18 rfl (lv_at hl 1 rfl) ?_
    obtain ⟨r9, S10, k11, hf⟩ := dc_bd_ok hf
    refine lh_call (S' := S10) (lh_rv ⟨hx, hb, hml, hown, hts⟩ rfl (As := [.int p1]) (rest := []) (k := 10) (c_X10_started l D cT n S4 ad A H.size (fun q9 h9 => hA q9 (Nat.le_trans hS.1 h9)) t p1 r9 S10 k11 L_t) (cwV 1 hts gX10_value_X10_started rfl rfl rfl (by decide +kernel) ⟨Nat.le_of_ble_eq_true rfl, Nat.le_of_ble_eq_true rfl⟩) hK hN hW (L_t _ rfl) rfl rfl rfl hl.1 rfl (by simp [lh_cat_r, lh_cat_i, lh_cat_j]) dX10_value_19 ⟨Nat.le_of_ble_eq_true rfl, Nat.le_of_ble_eq_true rfl⟩) hS (fun H locs hX hW hS => ?_)
    refine W.widen (k := 0) (n := 0) (by omega) (by omega) ?_
    show W _ _ _ _ _ _ _ _ _ _ _ _ _ _ _ (F0 m 22 ls [.int r9])
    have m12 : ∀ b, gvN S4 b ≤ gvN S10 b := hX.1
    have L_t : ∀ j, some t = some j → j < gvN S10 10 := fun j h => Nat.lt_of_lt_of_le (L_t j h) (m12 _)
    have hm : ∀ b, gvN S b ≤ gvN S10 b := lh_le_trans hm m12
    have ok := lh_W_ok hW
    refine lv_istore_n (i := 2) (lv' := [(2, .int r9), (0, lh_r ad 10 (some t)), (1, .int p1)]) hx hb dX10_value_22 rfl hl (by decide) (by first | rfl | simp [lh_cat_r, lh_cat_i, lh_cat_j]) (fun ls hl => ?_)
    refine lv_iload_n hx hb dX10_value_23 rfl (lv_at hl 0 rfl) ?_
    refine lv_if_le (tgt := 40) hx hb dX10_value_24 (by decide) (fun c13 => ?_) (fun c13 => ?_)
    · replace hf := dc_if_t c13 hf
      refine lh_aload_n hx hb dX10_value_40 rfl (lv_at hl 1 rfl) ?_
      have L14 : ∀ j, gvR S10 10 t 23 = some j → j < gvN S10 53 := fun j h => ok _ _ _ _ j (L_t _ rfl) rfl h
      refine lh_get (a := 10) (k := 23) (N := 42) (C := RX10) (T := TX10) (own := RX10) (ref := "LoaderModelsModel") hx hb hts (fun _ h => (List.mem_cons_of_mem _ (List.mem_append_right _ h))) hown hK hW rfl (L_t _ rfl) rfl rfl rfl (by decide) (hts (.fieldLink RX10 72 "LoaderModelsModel" "fixed" "[J") (List.mem_cons_of_mem _ (List.mem_append_left _ (List.mem_append_left _ (List.mem_of_getElem? (i := 3) rfl))))) (fun _ h9 => h9) dX10_value_41 (v := lh_r ad 53 (gvR S10 10 t 23)) rfl ?_
      refine lv_iload_n hx hb dX10_value_44 rfl (lv_at hl 2 rfl) ?_
      obtain ⟨x15, hx15, hf⟩ := dc_nn_ok hf
      obtain ⟨g16, hf⟩ := dc_gd_ok hf
      refine lh_ald_l (a := 53) hx hb hK hW hx15 (L14 _ hx15) rfl rfl g16 dX10_value_45 ?_
      obtain ⟨rfl, rfl⟩ := dc_ret hf
      exact W.lret (v := gvJ S10 53 x15 (p1).toNatClampNeg) hx hb hr (fun t9 ht9 hW9 => ⟨⟨rfl, ⟨hm, trivial⟩, by rw [ht9]; exact hW⟩, hS.F ht9⟩) hS.2.2 dX10_value_46
    · replace hf := dc_if_f c13 hf
      refine lv_ldc2 (v := -9223372036854775808) hx hb hown (hts (.constantLong RX10 202 (-9223372036854775808)) (List.mem_cons_of_mem _ (List.mem_append_left _ (List.mem_append_left _ (List.mem_of_getElem? (i := 2) rfl))))) dX10_value_27 ?_
      refine lh_aload_n hx hb dX10_value_30 rfl (lv_at hl 1 rfl) ?_
      refine lv_iload_n hx hb dX10_value_31 rfl (lv_at hl 0 rfl) ?_
      obtain ⟨r17, S18, k19, hf⟩ := dc_bd_ok hf
      refine lh_call (S' := S18) (lh_rv ⟨hx, hb, hml, hown, hts⟩ rfl (As := [.int r9]) (rest := [.long (-9223372036854775808 : Int64)]) (k := 10) (c_X10_fails l D cT n S10 ad A H.size (fun q9 h9 => hA q9 (Nat.le_trans hS.1 h9)) t r9 r17 S18 k19 L_t) (cwV 1 hts gX10_value_X10_fails rfl rfl rfl (by decide +kernel) ⟨Nat.le_of_ble_eq_true rfl, Nat.le_of_ble_eq_true rfl⟩) hK hN hW (L_t _ rfl) rfl rfl rfl hl.1 rfl (by simp [lh_cat_r, lh_cat_i, lh_cat_j]) dX10_value_32 ⟨Nat.le_of_ble_eq_true rfl, Nat.le_of_ble_eq_true rfl⟩) hS (fun H locs hX hW hS => ?_)
      refine W.widen (k := 0) (n := 0) (by omega) (by omega) ?_
      show W _ _ _ _ _ _ _ _ _ _ _ _ _ _ _ (F0 m 35 ls [.int r17, .long (-9223372036854775808 : Int64)])
      have m20 : ∀ b, gvN S10 b ≤ gvN S18 b := hX.1
      have L_t : ∀ j, some t = some j → j < gvN S18 10 := fun j h => Nat.lt_of_lt_of_le (L_t j h) (m20 _)
      have hm : ∀ b, gvN S b ≤ gvN S18 b := lh_le_trans hm m20
      have ok := lh_W_ok hW
      refine lv_i2l (v := r17.toInt64) hx hb dX10_value_35 rfl ?_
      refine lv_lsub hx hb dX10_value_36 ?_
      refine lv_topl (fun v21 hv21 => ?_)
      replace hf := dc_let_e hv21 hf
      refine lv_goto (tgt := 46) hx hb dX10_value_37 (by decide) ?_
      obtain ⟨rfl, rfl⟩ := dc_ret hf
      exact W.lret (v := v21) hx hb hr (fun t9 ht9 hW9 => ⟨⟨rfl, ⟨hm, trivial⟩, by rw [ht9]; exact hW⟩, hS.F ht9⟩) hS.2.2 dX10_value_46
  · replace hf := dc_if_t c8 hf
    refine lv_ldc2 (v := -9223372036854775806) hx hb hown (hts (.constantLong RX10 200 (-9223372036854775806)) (List.mem_cons_of_mem _ (List.mem_append_left _ (List.mem_append_left _ (List.mem_of_getElem? (i := 1) rfl))))) dX10_value_13 ?_
    obtain ⟨rfl, rfl⟩ := dc_ret hf
    exact W.lret (v := (-9223372036854775806 : Int64)) hx hb hr (fun t9 ht9 hW9 => ⟨⟨rfl, ⟨hm, trivial⟩, by rw [ht9]; exact hW⟩, hS.F ht9⟩) hS.2.2 dX10_value_16
