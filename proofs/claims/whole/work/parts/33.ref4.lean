def f_X10_isOf_L2 (n : Nat) (t : Nat) (p1 : Int32) (p2 : Int32) : Nat → lh_S → Int32 → Option (Int32 × lh_S)
  | 0, _, _ => none
  | g + 1, S1, v2 =>
  dc_if (v2 < 0) (
  dc_if (v2 = p2) (
  some ((1 : Int32), S1)) (
  some ((0 : Int32), S1))) (
  dc_if (v2 = p2) (
  dc_if (v2 = p2) (
  some ((1 : Int32), S1)) (
  some ((0 : Int32), S1))) (
  dc_nn (gvR S1 10 t 21) fun x8 =>
  dc_gd (v2 < 0 ∨ gvL S1 51 x8 ≤ (v2).toNatClampNeg) (
  f_X10_isOf_L2 n t p1 p2 g S1 (gvI S1 51 x8 (v2).toNatClampNeg))))
theorem m_X10_isOf_L2 {n : Nat} {t : Nat} {p1 : Int32} {p2 : Int32} {r : Int32} {S' : lh_S} : ∀ (g : Nat) (S1 : lh_S) (v2 : Int32), f_X10_isOf_L2 n t p1 p2 g S1 v2 = some (r, S') → ∀ b, gvN S1 b ≤ gvN S' b := by
    intro g
    induction g with
    | zero => intro S1 v2 hf; rw [f_X10_isOf_L2] at hf; cases hf
    | succ g ih =>
      intro S1 v2 hf
      rw [f_X10_isOf_L2] at hf
      have hm : ∀ b, gvN S1 b ≤ gvN S1 b := fun _ => Nat.le_refl _
      by_cases c3 : v2 < 0
      · replace hf := dc_if_t c3 hf
        by_cases c4 : v2 = p2
        · replace hf := dc_if_t c4 hf
          obtain ⟨_, rfl⟩ := dc_ret hf
          exact hm
        · replace hf := dc_if_f c4 hf
          obtain ⟨_, rfl⟩ := dc_ret hf
          exact hm
      · replace hf := dc_if_f c3 hf
        by_cases c5 : v2 = p2
        · replace hf := dc_if_t c5 hf
          by_cases c6 : v2 = p2
          · replace hf := dc_if_t c6 hf
            obtain ⟨_, rfl⟩ := dc_ret hf
            exact hm
          · replace hf := dc_if_f c6 hf
            obtain ⟨_, rfl⟩ := dc_ret hf
            exact hm
        · replace hf := dc_if_f c5 hf
          obtain ⟨x8, hx8, hf⟩ := dc_nn_ok hf
          obtain ⟨g9, hf⟩ := dc_gd_ok hf
          exact lh_le_trans hm (ih S1 (gvI S1 51 x8 (v2).toNatClampNeg) hf)
theorem k_X10_isOf_L2 {n : Nat} {t : Nat} {p1 : Int32} {p2 : Int32} {r : Int32} {S' : lh_S} : ∀ (g : Nat) (S1 : lh_S) (v2 : Int32), f_X10_isOf_L2 n t p1 p2 g S1 v2 = some (r, S') → lh_sm10 S1 S' := by
    intro g
    induction g with
    | zero => intro S1 v2 hf; rw [f_X10_isOf_L2] at hf; cases hf
    | succ g ih =>
      intro S1 v2 hf
      rw [f_X10_isOf_L2] at hf
      have hm : lh_sm10 S1 S1 := lh_sm10_rf
      by_cases c3 : v2 < 0
      · replace hf := dc_if_t c3 hf
        by_cases c4 : v2 = p2
        · replace hf := dc_if_t c4 hf
          obtain ⟨_, rfl⟩ := dc_ret hf
          exact hm
        · replace hf := dc_if_f c4 hf
          obtain ⟨_, rfl⟩ := dc_ret hf
          exact hm
      · replace hf := dc_if_f c3 hf
        by_cases c5 : v2 = p2
        · replace hf := dc_if_t c5 hf
          by_cases c6 : v2 = p2
          · replace hf := dc_if_t c6 hf
            obtain ⟨_, rfl⟩ := dc_ret hf
            exact hm
          · replace hf := dc_if_f c6 hf
            obtain ⟨_, rfl⟩ := dc_ret hf
            exact hm
        · replace hf := dc_if_f c5 hf
          obtain ⟨x8, hx8, hf⟩ := dc_nn_ok hf
          obtain ⟨g9, hf⟩ := dc_gd_ok hf
          exact lh_sm10_trans hm (ih S1 (gvI S1 51 x8 (v2).toNatClampNeg) hf)
def f_X10_isOf (n : Nat) (S : lh_S) (t : Nat) (p1 : Int32) (p2 : Int32) : Option (Int32 × lh_S) :=
  f_X10_isOf_L2 n t p1 p2 n S p1
set_option maxHeartbeats 1000000 in
theorem m_X10_isOf {n : Nat} {S : lh_S} {t : Nat} {p1 : Int32} {p2 : Int32} {r : Int32} {S' : lh_S} (hf : f_X10_isOf n S t p1 p2 = some (r, S')) : ∀ b, gvN S b ≤ gvN S' b := by
  have hm : ∀ b, gvN S b ≤ gvN S b := fun _ => Nat.le_refl _
  unfold f_X10_isOf at hf
  exact lh_le_trans hm (m_X10_isOf_L2 n S p1 hf)
set_option maxHeartbeats 1000000 in
theorem k_X10_isOf {n : Nat} {S : lh_S} {t : Nat} {p1 : Int32} {p2 : Int32} {r : Int32} {S' : lh_S} (hf : f_X10_isOf n S t p1 p2 = some (r, S')) : lh_sm10 S S' := by
  have hm : lh_sm10 S S := lh_sm10_rf
  unfold f_X10_isOf at hf
  exact lh_sm10_trans hm (k_X10_isOf_L2 n S p1 hf)
set_option maxHeartbeats 4000000 in
set_option maxRecDepth 100000 in
theorem c_X10_isOf (l : Launch) (D : va_G) (cT : Nat → ClassId) (n : Nat) (S : lh_S) (ad : Nat → Nat → Nat) (A : Nat → Prop) (sz : Nat) (hA : ∀ q, sz ≤ q → A q) (t : Nat) (p1 : Int32) (p2 : Int32) (r : Int32) (S' : lh_S) (hf : f_X10_isOf n S t p1 p2 = some (r, S')) (L_t : ∀ j, some t = some j → j < gvN S 10) : Met l yX10_isOf wsX10_isOf ({ frames := 0, cells := 0, slots := 0, locals := 0 } : Room) (lh_P D cT S ad A sz [lh_r ad 10 (some t), .int p1, .int p2]) (lh_Q D cT S' ad A ((∀ b, gvN S b ≤ gvN S' b) ∧ (r = 0 ∨ r = 1)) (some (.int r))) 0 0 A := by
  refine Met.ofW (cc := cX10_isOf) (maxL := 4) (ret := (some .boolean)) (by decide) rfl ?_
  intro p e s m args below meth c s₁ B hml hv
  obtain ⟨hargs, hsz, hW, hK, hN⟩ := hv
  have hx := B.exec
  have hb := B.bytes
  have hr := B.returns
  have hts := atoms_spec (ws := wsX10_isOf) B.pre
  have hown : s.vm.findClass RX10 = some m.cls := findClass_of_methodNamed B.named
  have hlocks := B.notSynchronized
  have hA : ∀ q, s.heap.size ≤ q → A q := fun q h => hA q (by rw [← hsz]; exact h)
  have L2 : ∀ (g : Nat) (S1 : lh_S) (v2 : Int32), f_X10_isOf_L2 n t p1 p2 g S1 v2 = some (r, S') → (∀ b, gvN S b ≤ gvN S1 b) → ∀ (H : Heap) (locs : List Loc), lh_W D cT S1 ad A H → va_S A s.heap H locs → ∀ (ls : Array Slot), lv_has ls 4 [(0, lh_r ad 10 (some t)), (1, .int p1), (2, .int p2), (3, .int v2)] → W p l e (headSpec wsX10_isOf ({ frames := 0, cells := 0, slots := 0, locals := 0 } : Room)).room s m args below meth c H locs 0 0 (MQ below (lh_Q D cT S' ad A ((∀ b, gvN S b ≤ gvN S' b) ∧ (r = 0 ∨ r = 1)) (some (.int r))) args s 0 0 A) (F0 m 2 ls []) := by
    intro g
    induction g with
    | zero => intro S1 v2 hf; rw [f_X10_isOf_L2] at hf; cases hf
    | succ g ih =>
      intro S1 v2 hf hm H locs hW hS ls hl
      rw [f_X10_isOf_L2] at hf
      have ok := lh_W_ok hW
      have L_t : ∀ j, some t = some j → j < gvN S1 10 := fun j h => Nat.lt_of_lt_of_le (L_t j h) (hm _)
      refine lv_iload_n hx hb dX10_isOf_2 rfl (lv_at hl 3 rfl) ?_
      refine lv_if_lt (tgt := 21) hx hb dX10_isOf_3 (by decide) (fun c3 => ?_) (fun c3 => ?_)
      · replace hf := dc_if_t c3 hf
        refine lv_iload_n hx hb dX10_isOf_21 rfl (lv_at hl 3 rfl) ?_
        refine lv_iload_n hx hb dX10_isOf_22 rfl (lv_at hl 2 rfl) ?_
        refine lv_icmp_ne (tgt := 30) hx hb dX10_isOf_23 (by decide) (fun c4 => ?_) (fun c4 => ?_)
        · replace hf := dc_if_f c4 hf
          refine lv_iconst (v := 0) hx hb dX10_isOf_30 (by decide) ?_
          obtain ⟨rfl, rfl⟩ := dc_ret hf
          exact W.zret (v := (0 : Int32)) hx hb hr (lh_nar_z (Or.inl rfl)) (fun t9 ht9 hW9 => ⟨⟨rfl, ⟨hm, (Or.inl rfl)⟩, by rw [ht9]; exact hW⟩, hS.F ht9⟩) hS.2.2 dX10_isOf_31
        · replace hf := dc_if_t c4 hf
          refine lv_iconst (v := 1) hx hb dX10_isOf_26 (by decide) ?_
          refine lv_goto (tgt := 31) hx hb dX10_isOf_27 (by decide) ?_
          obtain ⟨rfl, rfl⟩ := dc_ret hf
          exact W.zret (v := (1 : Int32)) hx hb hr (lh_nar_z (Or.inr rfl)) (fun t9 ht9 hW9 => ⟨⟨rfl, ⟨hm, (Or.inr rfl)⟩, by rw [ht9]; exact hW⟩, hS.F ht9⟩) hS.2.2 dX10_isOf_31
      · replace hf := dc_if_f c3 hf
        refine lv_iload_n hx hb dX10_isOf_6 rfl (lv_at hl 3 rfl) ?_
        refine lv_iload_n hx hb dX10_isOf_7 rfl (lv_at hl 2 rfl) ?_
        refine lv_icmp_eq (tgt := 21) hx hb dX10_isOf_8 (by decide) (fun c5 => ?_) (fun c5 => ?_)
        · replace hf := dc_if_t c5 hf
          refine lv_iload_n hx hb dX10_isOf_21 rfl (lv_at hl 3 rfl) ?_
          refine lv_iload_n hx hb dX10_isOf_22 rfl (lv_at hl 2 rfl) ?_
          refine lv_icmp_ne (tgt := 30) hx hb dX10_isOf_23 (by decide) (fun c6 => ?_) (fun c6 => ?_)
          · replace hf := dc_if_f c6 hf
            refine lv_iconst (v := 0) hx hb dX10_isOf_30 (by decide) ?_
            obtain ⟨rfl, rfl⟩ := dc_ret hf
            exact W.zret (v := (0 : Int32)) hx hb hr (lh_nar_z (Or.inl rfl)) (fun t9 ht9 hW9 => ⟨⟨rfl, ⟨hm, (Or.inl rfl)⟩, by rw [ht9]; exact hW⟩, hS.F ht9⟩) hS.2.2 dX10_isOf_31
          · replace hf := dc_if_t c6 hf
            refine lv_iconst (v := 1) hx hb dX10_isOf_26 (by decide) ?_
            refine lv_goto (tgt := 31) hx hb dX10_isOf_27 (by decide) ?_
            obtain ⟨rfl, rfl⟩ := dc_ret hf
            exact W.zret (v := (1 : Int32)) hx hb hr (lh_nar_z (Or.inr rfl)) (fun t9 ht9 hW9 => ⟨⟨rfl, ⟨hm, (Or.inr rfl)⟩, by rw [ht9]; exact hW⟩, hS.F ht9⟩) hS.2.2 dX10_isOf_31
        · replace hf := dc_if_f c5 hf
          refine lh_aload_n hx hb dX10_isOf_11 rfl (lv_at hl 0 rfl) ?_
          have L7 : ∀ j, gvR S1 10 t 21 = some j → j < gvN S1 51 := fun j h => ok _ _ _ _ j (L_t _ rfl) rfl h
          refine lh_get (a := 10) (k := 21) (N := 42) (C := RX10) (T := TX10) (own := RX10) (ref := "LoaderModelsModel") hx hb hts (fun _ h => (List.mem_cons_of_mem _ (List.mem_append_right _ h))) hown hK hW rfl (L_t _ rfl) rfl rfl rfl (by decide) (hts (.fieldLink RX10 66 "LoaderModelsModel" "classAbove" "[I") (List.mem_cons_of_mem _ (List.mem_append_left _ (List.mem_of_getElem? (i := 0) rfl)))) (fun _ h9 => h9) dX10_isOf_12 (v := lh_r ad 51 (gvR S1 10 t 21)) rfl ?_
          refine lv_iload_n hx hb dX10_isOf_15 rfl (lv_at hl 3 rfl) ?_
          obtain ⟨x8, hx8, hf⟩ := dc_nn_ok hf
          obtain ⟨g9, hf⟩ := dc_gd_ok hf
          refine lh_ald_i (a := 51) hx hb hK hW hx8 (L7 _ hx8) rfl rfl g9 dX10_isOf_16 ?_
          refine lv_istore_n (i := 3) (lv' := [(3, .int (gvI S1 51 x8 (v2).toNatClampNeg)), (0, lh_r ad 10 (some t)), (1, .int p1), (2, .int p2)]) hx hb dX10_isOf_17 rfl hl (by decide) (by first | rfl | simp [lh_cat_r, lh_cat_i, lh_cat_j]) (fun ls hl => ?_)
          refine lv_goto (tgt := 2) hx hb dX10_isOf_18 (by decide) ?_
          exact ih S1 (gvI S1 51 x8 (v2).toNatClampNeg) hf hm _ _ hW hS _ (lv_sub hl [1, 2, 3, 0] (by first | rfl | simp [lv_pick]))
  have ok := lh_W_ok hW
  have hm : ∀ b, gvN S b ≤ gvN S b := fun _ => Nat.le_refl _
  obtain ⟨ls, hent, hl⟩ := lh_entry m args [lh_r ad 10 (some t), .int p1, .int p2] 4 [(0, lh_r ad 10 (some t)), (1, .int p1), (2, .int p2)] hargs (by simp [lv_args, lh_cat_r, lh_cat_i, lh_cat_j]) (by simp [lg_sl, lh_cat_r, lh_cat_i, lh_cat_j])
  rw [hent]
  generalize hH : s.heap = H at hW ⊢
  have hS : va_S A s.heap H [] := by rw [← hH]; exact va_S.rf
  unfold f_X10_isOf at hf
  refine lv_iload_n hx hb dX10_isOf_0 rfl (lv_at hl 1 rfl) ?_
  refine lv_istore_n (i := 3) (lv' := [(3, .int p1), (0, lh_r ad 10 (some t)), (1, .int p1), (2, .int p2)]) hx hb dX10_isOf_1 rfl hl (by decide) (by first | rfl | simp [lh_cat_r, lh_cat_i, lh_cat_j]) (fun ls hl => ?_)
  exact L2 n S p1 hf hm _ _ hW hS _ (lv_sub hl [1, 2, 3, 0] (by first | rfl | simp [lv_pick]))
def f_X10_make (n : Nat) (S : lh_S) (t : Nat) (p1 : Int32) : Option (Int32 × lh_S) :=
  dc_let (pvI S 10 t 0 (0 : Int32)) fun S1 =>
  dc_bd (f_X10_isClass n S1 t p1) fun r3 S4 =>
  dc_if (r3 = 0) (
  some ((-2 : Int32), S4)) (
  dc_if ((gvI S4 10 t 36) = (60 : Int32)) (
  some ((-5 : Int32), S4)) (
  dc_bd (f_X10_started n S4 t p1) fun r10 S11 =>
  dc_if (r10 ≤ 0) (
  dc_nn (gvR S11 10 t 37) fun x16 =>
  dc_gd ((gvI S11 10 t 36) < 0 ∨ gvL S11 67 x16 ≤ ((gvI S11 10 t 36)).toNatClampNeg) (
  dc_let (pvI S11 67 x16 ((gvI S11 10 t 36)).toNatClampNeg p1) fun S18 =>
  dc_let ((gvI S18 10 t 36) + (1 : Int32)) fun v20 =>
  dc_let (pvI S18 10 t 36 v20) fun S21 =>
  dc_let ((gvI S21 10 t 36) - (1 : Int32)) fun v23 =>
  some (v23, S21))) (
  dc_bd (f_X10_fails n S11 t r10) fun r24 S25 =>
  some (r24, S25))))
set_option maxHeartbeats 1000000 in
theorem m_X10_make {n : Nat} {S : lh_S} {t : Nat} {p1 : Int32} {r : Int32} {S' : lh_S} (hf : f_X10_make n S t p1 = some (r, S')) : ∀ b, gvN S b ≤ gvN S' b := by
  have hm : ∀ b, gvN S b ≤ gvN S b := fun _ => Nat.le_refl _
  unfold f_X10_make at hf
  obtain ⟨S1, eS1, hf⟩ := dc_let_ok hf
  have hm := lh_le_trans hm (show ∀ b, gvN S b ≤ gvN S1 b from by rw [eS1]; exact lh_mI)
  obtain ⟨r3, S4, k5, hf⟩ := dc_bd_ok hf
  have hm := lh_le_trans hm (show ∀ b, gvN S1 b ≤ gvN S4 b from m_X10_isClass k5)
  by_cases c8 : r3 = 0
  · replace hf := dc_if_t c8 hf
    obtain ⟨_, rfl⟩ := dc_ret hf
    exact hm
  · replace hf := dc_if_f c8 hf
    by_cases c9 : (gvI S4 10 t 36) = (60 : Int32)
    · replace hf := dc_if_t c9 hf
      obtain ⟨_, rfl⟩ := dc_ret hf
      exact hm
    · replace hf := dc_if_f c9 hf
      obtain ⟨r10, S11, k12, hf⟩ := dc_bd_ok hf
      have hm := lh_le_trans hm (show ∀ b, gvN S4 b ≤ gvN S11 b from m_X10_started k12)
      by_cases c14 : r10 ≤ 0
      · replace hf := dc_if_t c14 hf
        obtain ⟨x16, hx16, hf⟩ := dc_nn_ok hf
        obtain ⟨g17, hf⟩ := dc_gd_ok hf
        obtain ⟨S18, eS18, hf⟩ := dc_let_ok hf
        have hm := lh_le_trans hm (show ∀ b, gvN S11 b ≤ gvN S18 b from by rw [eS18]; exact lh_mI)
        obtain ⟨v20, hv20, hf⟩ := dc_let_ok hf
        obtain ⟨S21, eS21, hf⟩ := dc_let_ok hf
        have hm := lh_le_trans hm (show ∀ b, gvN S18 b ≤ gvN S21 b from by rw [eS21]; exact lh_mI)
        obtain ⟨v23, hv23, hf⟩ := dc_let_ok hf
        obtain ⟨_, rfl⟩ := dc_ret hf
        exact hm
      · replace hf := dc_if_f c14 hf
        obtain ⟨r24, S25, k26, hf⟩ := dc_bd_ok hf
        have hm := lh_le_trans hm (show ∀ b, gvN S11 b ≤ gvN S25 b from m_X10_fails k26)
        obtain ⟨_, rfl⟩ := dc_ret hf
        exact hm
set_option maxHeartbeats 1000000 in
theorem k_X10_make {n : Nat} {S : lh_S} {t : Nat} {p1 : Int32} {r : Int32} {S' : lh_S} (hf : f_X10_make n S t p1 = some (r, S')) : lh_sm10 S S' := by
  have hm : lh_sm10 S S := lh_sm10_rf
  unfold f_X10_make at hf
  obtain ⟨S1, eS1, hf⟩ := dc_let_ok hf
  have hm := lh_sm10_trans hm (show lh_sm10 S S1 from by rw [eS1]; exact (lh_sm10I (by decide)))
  obtain ⟨r3, S4, k5, hf⟩ := dc_bd_ok hf
  have hm := lh_sm10_trans hm (show lh_sm10 S1 S4 from k_X10_isClass k5)
  by_cases c8 : r3 = 0
  · replace hf := dc_if_t c8 hf
    obtain ⟨_, rfl⟩ := dc_ret hf
    exact hm
  · replace hf := dc_if_f c8 hf
    by_cases c9 : (gvI S4 10 t 36) = (60 : Int32)
    · replace hf := dc_if_t c9 hf
      obtain ⟨_, rfl⟩ := dc_ret hf
      exact hm
    · replace hf := dc_if_f c9 hf
      obtain ⟨r10, S11, k12, hf⟩ := dc_bd_ok hf
      have hm := lh_sm10_trans hm (show lh_sm10 S4 S11 from k_X10_started k12)
      by_cases c14 : r10 ≤ 0
      · replace hf := dc_if_t c14 hf
        obtain ⟨x16, hx16, hf⟩ := dc_nn_ok hf
        obtain ⟨g17, hf⟩ := dc_gd_ok hf
        obtain ⟨S18, eS18, hf⟩ := dc_let_ok hf
        have hm := lh_sm10_trans hm (show lh_sm10 S11 S18 from by rw [eS18]; exact (lh_sm10I (by decide)))
        obtain ⟨v20, hv20, hf⟩ := dc_let_ok hf
        obtain ⟨S21, eS21, hf⟩ := dc_let_ok hf
        have hm := lh_sm10_trans hm (show lh_sm10 S18 S21 from by rw [eS21]; exact (lh_sm10I (by decide)))
        obtain ⟨v23, hv23, hf⟩ := dc_let_ok hf
        obtain ⟨_, rfl⟩ := dc_ret hf
        exact hm
      · replace hf := dc_if_f c14 hf
        obtain ⟨r24, S25, k26, hf⟩ := dc_bd_ok hf
        have hm := lh_sm10_trans hm (show lh_sm10 S11 S25 from k_X10_fails k26)
        obtain ⟨_, rfl⟩ := dc_ret hf
        exact hm
set_option maxHeartbeats 4000000 in
set_option maxRecDepth 100000 in
theorem c_X10_make (l : Launch) (D : va_G) (cT : Nat → ClassId) (n : Nat) (S : lh_S) (ad : Nat → Nat → Nat) (A : Nat → Prop) (sz : Nat) (hA : ∀ q, sz ≤ q → A q) (t : Nat) (p1 : Int32) (r : Int32) (S' : lh_S) (hf : f_X10_make n S t p1 = some (r, S')) (L_t : ∀ j, some t = some j → j < gvN S 10) : Met l yX10_make wsX10_make ({ frames := 2, cells := 0, slots := 0, locals := 46 } : Room) (lh_P D cT S ad A sz [lh_r ad 10 (some t), .int p1]) (lh_Q D cT S' ad A ((∀ b, gvN S b ≤ gvN S' b) ∧ True) (some (.int r))) 0 0 A := by
  refine Met.ofW (cc := cX10_make) (maxL := 3) (ret := (some .int)) (by decide) rfl ?_
  intro p e s m args below meth c s₁ B hml hv
  obtain ⟨hargs, hsz, hW, hK, hN⟩ := hv
  have hx := B.exec
  have hb := B.bytes
  have hr := B.returns
  have hts := atoms_spec (ws := wsX10_make) B.pre
  have hown : s.vm.findClass RX10 = some m.cls := findClass_of_methodNamed B.named
  have hlocks := B.notSynchronized
  have hA : ∀ q, s.heap.size ≤ q → A q := fun q h => hA q (by rw [← hsz]; exact h)
  have ok := lh_W_ok hW
  have hm : ∀ b, gvN S b ≤ gvN S b := fun _ => Nat.le_refl _
  obtain ⟨ls, hent, hl⟩ := lh_entry m args [lh_r ad 10 (some t), .int p1] 3 [(0, lh_r ad 10 (some t)), (1, .int p1)] hargs (by simp [lv_args, lh_cat_r, lh_cat_i, lh_cat_j]) (by simp [lg_sl, lh_cat_r, lh_cat_i, lh_cat_j])
  rw [hent]
  generalize hH : s.heap = H at hW ⊢
  have hS : va_S A s.heap H [] := by rw [← hH]; exact va_S.rf
  unfold f_X10_make at hf
  refine lh_aload_n hx hb dX10_make_0 rfl (lv_at hl 0 rfl) ?_
  refine lv_iconst (v := 0) hx hb dX10_make_1 (by decide) ?_
  obtain ⟨S1, eS1, hf⟩ := dc_let_ok hf
  refine lh_put (S' := S1) (a := 10) (k := 0) (N := 42) (C := RX10) (T := TX10) (own := RX10) (ref := "LoaderModelsModel") (ty := .int) hx hb hts (fun _ h => (List.mem_cons_of_mem _ (List.mem_append_right _ h))) tyX10 tyX10_ok nmX10 hown hK hW hS rfl (L_t _ rfl) rfl rfl rfl (by decide) (hts (.fieldLink RX10 1 "LoaderModelsModel" "thrown" "I") (List.mem_cons_of_mem _ (List.mem_append_left _ (List.mem_append_left _ (List.mem_of_getElem? (i := 0) rfl))))) (fun _ h9 => h9) (Or.inl rfl) (by decide +kernel) rfl rfl (fun q9 => by rw [eS1]; exact lh_chI rfl q9) dX10_make_2 (fun H locs hW hS => ?_)
  have m2 : ∀ b, gvN S b ≤ gvN S1 b := by rw [eS1]; exact lh_mI
  have L_t : ∀ j, some t = some j → j < gvN S1 10 := fun j h => Nat.lt_of_lt_of_le (L_t j h) (m2 _)
  have hm : ∀ b, gvN S b ≤ gvN S1 b := lh_le_trans hm m2
  have ok := lh_W_ok hW
  refine lh_aload_n hx hb dX10_make_5 rfl (lv_at hl 0 rfl) ?_
  refine lv_iload_n hx hb dX10_make_6 rfl (lv_at hl 1 rfl) ?_
  obtain ⟨r3, S4, k5, hf⟩ := dc_bd_ok hf
  refine lh_call (S' := S4) (lh_rv ⟨hx, hb, hml, hown, hts⟩ rfl (As := [.int p1]) (rest := []) (k := 10) (c_X10_isClass l D cT n S1 ad A H.size (fun q9 h9 => hA q9 (Nat.le_trans hS.1 h9)) t p1 r3 S4 k5 L_t) (cwV 1 hts gX10_make_X10_isClass rfl rfl rfl (by decide +kernel) ⟨Nat.le_of_ble_eq_true rfl, Nat.le_of_ble_eq_true rfl⟩) hK hN hW (L_t _ rfl) rfl rfl rfl hl.1 rfl (by simp [lh_cat_r, lh_cat_i, lh_cat_j]) dX10_make_7 ⟨Nat.le_of_ble_eq_true rfl, Nat.le_of_ble_eq_true rfl⟩) hS (fun H locs hX hW hS => ?_)
  refine W.widen (k := 0) (n := 0) (by omega) (by omega) ?_
  show W _ _ _ _ _ _ _ _ _ _ _ _ _ _ _ (F0 m 10 ls [.int r3])
  have m6 : ∀ b, gvN S1 b ≤ gvN S4 b := hX.1
  have L_t : ∀ j, some t = some j → j < gvN S4 10 := fun j h => Nat.lt_of_lt_of_le (L_t j h) (m6 _)
  have hm : ∀ b, gvN S b ≤ gvN S4 b := lh_le_trans hm m6
  have ok := lh_W_ok hW
  have z7 := hX.2
  refine lv_if_ne (tgt := 16) hx hb dX10_make_10 (by decide) (fun c8 => ?_) (fun c8 => ?_)
  · replace hf := dc_if_f c8 hf
    refine lh_aload_n hx hb dX10_make_16 rfl (lv_at hl 0 rfl) ?_
    refine lh_get (a := 10) (k := 36) (N := 42) (C := RX10) (T := TX10) (own := RX10) (ref := "LoaderModelsModel") hx hb hts (fun _ h => (List.mem_cons_of_mem _ (List.mem_append_right _ h))) hown hK hW rfl (L_t _ rfl) rfl rfl rfl (by decide) (hts (.fieldLink RX10 204 "LoaderModelsModel" "objects" "I") (List.mem_cons_of_mem _ (List.mem_append_left _ (List.mem_append_left _ (List.mem_of_getElem? (i := 1) rfl))))) (fun _ h9 => h9) dX10_make_17 (v := .int (gvI S4 10 t 36)) rfl ?_
    refine lv_bipush (v := 60) hx hb dX10_make_20 (by decide) ?_
    refine lv_icmp_ne (tgt := 28) hx hb dX10_make_22 (by decide) (fun c9 => ?_) (fun c9 => ?_)
    · replace hf := dc_if_f c9 hf
      refine lh_aload_n hx hb dX10_make_28 rfl (lv_at hl 0 rfl) ?_
      refine lv_iload_n hx hb dX10_make_29 rfl (lv_at hl 1 rfl) ?_
      obtain ⟨r10, S11, k12, hf⟩ := dc_bd_ok hf
      refine lh_call (S' := S11) (lh_rv ⟨hx, hb, hml, hown, hts⟩ rfl (As := [.int p1]) (rest := []) (k := 10) (c_X10_started l D cT n S4 ad A H.size (fun q9 h9 => hA q9 (Nat.le_trans hS.1 h9)) t p1 r10 S11 k12 L_t) (cwV 1 hts gX10_make_X10_started rfl rfl rfl (by decide +kernel) ⟨Nat.le_of_ble_eq_true rfl, Nat.le_of_ble_eq_true rfl⟩) hK hN hW (L_t _ rfl) rfl rfl rfl hl.1 rfl (by simp [lh_cat_r, lh_cat_i, lh_cat_j]) dX10_make_30 ⟨Nat.le_of_ble_eq_true rfl, Nat.le_of_ble_eq_true rfl⟩) hS (fun H locs hX hW hS => ?_)
      refine W.widen (k := 0) (n := 0) (by omega) (by omega) ?_
      show W _ _ _ _ _ _ _ _ _ _ _ _ _ _ _ (F0 m 33 ls [.int r10])
      have m13 : ∀ b, gvN S4 b ≤ gvN S11 b := hX.1
      have L_t : ∀ j, some t = some j → j < gvN S11 10 := fun j h => Nat.lt_of_lt_of_le (L_t j h) (m13 _)
      have hm : ∀ b, gvN S b ≤ gvN S11 b := lh_le_trans hm m13
      have ok := lh_W_ok hW
      refine lv_istore_n (i := 2) (lv' := [(2, .int r10), (0, lh_r ad 10 (some t)), (1, .int p1)]) hx hb dX10_make_33 rfl hl (by decide) (by first | rfl | simp [lh_cat_r, lh_cat_i, lh_cat_j]) (fun ls hl => ?_)
      refine lv_iload_n hx hb dX10_make_34 rfl (lv_at hl 0 rfl) ?_
      refine lv_if_le (tgt := 44) hx hb dX10_make_35 (by decide) (fun c14 => ?_) (fun c14 => ?_)
      · replace hf := dc_if_t c14 hf
        refine lh_aload_n hx hb dX10_make_44 rfl (lv_at hl 1 rfl) ?_
        have L15 : ∀ j, gvR S11 10 t 37 = some j → j < gvN S11 67 := fun j h => ok _ _ _ _ j (L_t _ rfl) rfl h
        refine lh_get (a := 10) (k := 37) (N := 42) (C := RX10) (T := TX10) (own := RX10) (ref := "LoaderModelsModel") hx hb hts (fun _ h => (List.mem_cons_of_mem _ (List.mem_append_right _ h))) hown hK hW rfl (L_t _ rfl) rfl rfl rfl (by decide) (hts (.fieldLink RX10 97 "LoaderModelsModel" "objectClass" "[I") (List.mem_cons_of_mem _ (List.mem_append_left _ (List.mem_append_left _ (List.mem_of_getElem? (i := 2) rfl))))) (fun _ h9 => h9) dX10_make_45 (v := lh_r ad 67 (gvR S11 10 t 37)) rfl ?_
        refine lh_aload_n hx hb dX10_make_48 rfl (lv_at hl 1 rfl) ?_
        refine lh_get (a := 10) (k := 36) (N := 42) (C := RX10) (T := TX10) (own := RX10) (ref := "LoaderModelsModel") hx hb hts (fun _ h => (List.mem_cons_of_mem _ (List.mem_append_right _ h))) hown hK hW rfl (L_t _ rfl) rfl rfl rfl (by decide) (hts (.fieldLink RX10 204 "LoaderModelsModel" "objects" "I") (List.mem_cons_of_mem _ (List.mem_append_left _ (List.mem_append_left _ (List.mem_of_getElem? (i := 1) rfl))))) (fun _ h9 => h9) dX10_make_49 (v := .int (gvI S11 10 t 36)) rfl ?_
        refine lv_iload_n hx hb dX10_make_52 rfl (lv_at hl 2 rfl) ?_
        obtain ⟨x16, hx16, hf⟩ := dc_nn_ok hf
        obtain ⟨g17, hf⟩ := dc_gd_ok hf
        obtain ⟨S18, eS18, hf⟩ := dc_let_ok hf
        refine lh_ast_i (a := 67) hx hb hK hW hS hx16 (L15 _ hx16) rfl (fun _ => rfl) g17 dX10_make_53 (fun H locs hW hS => ?_)
        rw [← eS18] at hW
        have m19 : ∀ b, gvN S11 b ≤ gvN S18 b := by rw [eS18]; exact lh_mI
        have L_t : ∀ j, some t = some j → j < gvN S18 10 := fun j h => Nat.lt_of_lt_of_le (L_t j h) (m19 _)
        have hm : ∀ b, gvN S b ≤ gvN S18 b := lh_le_trans hm m19
        have ok := lh_W_ok hW
        refine lh_aload_n hx hb dX10_make_54 rfl (lv_at hl 1 rfl) ?_
        refine lv_dup hx hb dX10_make_55 lh_cat_r ?_
        refine lh_get (a := 10) (k := 36) (N := 42) (C := RX10) (T := TX10) (own := RX10) (ref := "LoaderModelsModel") hx hb hts (fun _ h => (List.mem_cons_of_mem _ (List.mem_append_right _ h))) hown hK hW rfl (L_t _ rfl) rfl rfl rfl (by decide) (hts (.fieldLink RX10 204 "LoaderModelsModel" "objects" "I") (List.mem_cons_of_mem _ (List.mem_append_left _ (List.mem_append_left _ (List.mem_of_getElem? (i := 1) rfl))))) (fun _ h9 => h9) dX10_make_56 (v := .int (gvI S18 10 t 36)) rfl ?_
        refine lv_iconst (v := 1) hx hb dX10_make_59 (by decide) ?_
        refine lv_iadd hx hb dX10_make_60 ?_
        refine lv_topi (fun v20 hv20 => ?_)
        replace hf := dc_let_e hv20 hf
        obtain ⟨S21, eS21, hf⟩ := dc_let_ok hf
        refine lh_put (S' := S21) (a := 10) (k := 36) (N := 42) (C := RX10) (T := TX10) (own := RX10) (ref := "LoaderModelsModel") (ty := .int) hx hb hts (fun _ h => (List.mem_cons_of_mem _ (List.mem_append_right _ h))) tyX10 tyX10_ok nmX10 hown hK hW hS rfl (L_t _ rfl) rfl rfl rfl (by decide) (hts (.fieldLink RX10 204 "LoaderModelsModel" "objects" "I") (List.mem_cons_of_mem _ (List.mem_append_left _ (List.mem_append_left _ (List.mem_of_getElem? (i := 1) rfl))))) (fun _ h9 => h9) (Or.inl rfl) (by decide +kernel) rfl rfl (fun q9 => by rw [eS21]; exact lh_chI rfl q9) dX10_make_61 (fun H locs hW hS => ?_)
        have m22 : ∀ b, gvN S18 b ≤ gvN S21 b := by rw [eS21]; exact lh_mI
        have L_t : ∀ j, some t = some j → j < gvN S21 10 := fun j h => Nat.lt_of_lt_of_le (L_t j h) (m22 _)
        have hm : ∀ b, gvN S b ≤ gvN S21 b := lh_le_trans hm m22
        have ok := lh_W_ok hW
        refine lh_aload_n hx hb dX10_make_64 rfl (lv_at hl 1 rfl) ?_
        refine lh_get (a := 10) (k := 36) (N := 42) (C := RX10) (T := TX10) (own := RX10) (ref := "LoaderModelsModel") hx hb hts (fun _ h => (List.mem_cons_of_mem _ (List.mem_append_right _ h))) hown hK hW rfl (L_t _ rfl) rfl rfl rfl (by decide) (hts (.fieldLink RX10 204 "LoaderModelsModel" "objects" "I") (List.mem_cons_of_mem _ (List.mem_append_left _ (List.mem_append_left _ (List.mem_of_getElem? (i := 1) rfl))))) (fun _ h9 => h9) dX10_make_65 (v := .int (gvI S21 10 t 36)) rfl ?_
        refine lv_iconst (v := 1) hx hb dX10_make_68 (by decide) ?_
        refine lv_isub hx hb dX10_make_69 ?_
        refine lv_topi (fun v23 hv23 => ?_)
        replace hf := dc_let_e hv23 hf
        obtain ⟨rfl, rfl⟩ := dc_ret hf
        exact W.iret (v := v23) hx hb hr (fun t9 ht9 hW9 => ⟨⟨rfl, ⟨hm, trivial⟩, by rw [ht9]; exact hW⟩, hS.F ht9⟩) hS.2.2 dX10_make_70
      · replace hf := dc_if_f c14 hf
        refine lh_aload_n hx hb dX10_make_38 rfl (lv_at hl 1 rfl) ?_
        refine lv_iload_n hx hb dX10_make_39 rfl (lv_at hl 0 rfl) ?_
        obtain ⟨r24, S25, k26, hf⟩ := dc_bd_ok hf
        refine lh_call (S' := S25) (lh_rv ⟨hx, hb, hml, hown, hts⟩ rfl (As := [.int r10]) (rest := []) (k := 10) (c_X10_fails l D cT n S11 ad A H.size (fun q9 h9 => hA q9 (Nat.le_trans hS.1 h9)) t r10 r24 S25 k26 L_t) (cwV 1 hts gX10_make_X10_fails rfl rfl rfl (by decide +kernel) ⟨Nat.le_of_ble_eq_true rfl, Nat.le_of_ble_eq_true rfl⟩) hK hN hW (L_t _ rfl) rfl rfl rfl hl.1 rfl (by simp [lh_cat_r, lh_cat_i, lh_cat_j]) dX10_make_40 ⟨Nat.le_of_ble_eq_true rfl, Nat.le_of_ble_eq_true rfl⟩) hS (fun H locs hX hW hS => ?_)
        refine W.widen (k := 0) (n := 0) (by omega) (by omega) ?_
        show W _ _ _ _ _ _ _ _ _ _ _ _ _ _ _ (F0 m 43 ls [.int r24])
        have m27 : ∀ b, gvN S11 b ≤ gvN S25 b := hX.1
        have L_t : ∀ j, some t = some j → j < gvN S25 10 := fun j h => Nat.lt_of_lt_of_le (L_t j h) (m27 _)
        have hm : ∀ b, gvN S b ≤ gvN S25 b := lh_le_trans hm m27
        have ok := lh_W_ok hW
        obtain ⟨rfl, rfl⟩ := dc_ret hf
        exact W.iret (v := r24) hx hb hr (fun t9 ht9 hW9 => ⟨⟨rfl, ⟨hm, trivial⟩, by rw [ht9]; exact hW⟩, hS.F ht9⟩) hS.2.2 dX10_make_43
    · replace hf := dc_if_t c9 hf
      refine lv_bipush (v := -5) hx hb dX10_make_25 (by decide) ?_
      obtain ⟨rfl, rfl⟩ := dc_ret hf
      exact W.iret (v := (-5 : Int32)) hx hb hr (fun t9 ht9 hW9 => ⟨⟨rfl, ⟨hm, trivial⟩, by rw [ht9]; exact hW⟩, hS.F ht9⟩) hS.2.2 dX10_make_27
  · replace hf := dc_if_t c8 hf
    refine lv_bipush (v := -2) hx hb dX10_make_13 (by decide) ?_
    obtain ⟨rfl, rfl⟩ := dc_ret hf
    exact W.iret (v := (-2 : Int32)) hx hb hr (fun t9 ht9 hW9 => ⟨⟨rfl, ⟨hm, trivial⟩, by rw [ht9]; exact hW⟩, hS.F ht9⟩) hS.2.2 dX10_make_15
def f_X10_cast (n : Nat) (S : lh_S) (t : Nat) (p1 : Int32) (p2 : Int32) : Option (Int32 × lh_S) :=
  dc_let (pvI S 10 t 0 (0 : Int32)) fun S1 =>
  dc_bd (f_X10_isObject n S1 t p1) fun r3 S4 =>
  dc_if (r3 = 0) (
  some ((-2 : Int32), S4)) (
  dc_bd (f_X10_isClass n S4 t p2) fun r9 S10 =>
  dc_if (r9 = 0) (
  some ((-2 : Int32), S10)) (
  dc_nn (gvR S10 10 t 37) fun x16 =>
  dc_gd (p1 < 0 ∨ gvL S10 67 x16 ≤ (p1).toNatClampNeg) (
  dc_bd (f_X10_isOf n S10 t (gvI S10 67 x16 (p1).toNatClampNeg) p2) fun r18 S19 =>
  dc_if (r18 = 0) (
  dc_bd (f_X10_fails n S19 t (5 : Int32)) fun r24 S25 =>
  some (r24, S25)) (
  some ((1 : Int32), S19)))))
set_option maxHeartbeats 1000000 in
theorem m_X10_cast {n : Nat} {S : lh_S} {t : Nat} {p1 : Int32} {p2 : Int32} {r : Int32} {S' : lh_S} (hf : f_X10_cast n S t p1 p2 = some (r, S')) : ∀ b, gvN S b ≤ gvN S' b := by
  have hm : ∀ b, gvN S b ≤ gvN S b := fun _ => Nat.le_refl _
  unfold f_X10_cast at hf
  obtain ⟨S1, eS1, hf⟩ := dc_let_ok hf
  have hm := lh_le_trans hm (show ∀ b, gvN S b ≤ gvN S1 b from by rw [eS1]; exact lh_mI)
  obtain ⟨r3, S4, k5, hf⟩ := dc_bd_ok hf
  have hm := lh_le_trans hm (show ∀ b, gvN S1 b ≤ gvN S4 b from m_X10_isObject k5)
  by_cases c8 : r3 = 0
  · replace hf := dc_if_t c8 hf
    obtain ⟨_, rfl⟩ := dc_ret hf
    exact hm
  · replace hf := dc_if_f c8 hf
    obtain ⟨r9, S10, k11, hf⟩ := dc_bd_ok hf
    have hm := lh_le_trans hm (show ∀ b, gvN S4 b ≤ gvN S10 b from m_X10_isClass k11)
    by_cases c14 : r9 = 0
    · replace hf := dc_if_t c14 hf
      obtain ⟨_, rfl⟩ := dc_ret hf
      exact hm
    · replace hf := dc_if_f c14 hf
      obtain ⟨x16, hx16, hf⟩ := dc_nn_ok hf
      obtain ⟨g17, hf⟩ := dc_gd_ok hf
      obtain ⟨r18, S19, k20, hf⟩ := dc_bd_ok hf
      have hm := lh_le_trans hm (show ∀ b, gvN S10 b ≤ gvN S19 b from m_X10_isOf k20)
      by_cases c23 : r18 = 0
      · replace hf := dc_if_t c23 hf
        obtain ⟨r24, S25, k26, hf⟩ := dc_bd_ok hf
        have hm := lh_le_trans hm (show ∀ b, gvN S19 b ≤ gvN S25 b from m_X10_fails k26)
        obtain ⟨_, rfl⟩ := dc_ret hf
        exact hm
      · replace hf := dc_if_f c23 hf
        obtain ⟨_, rfl⟩ := dc_ret hf
        exact hm
set_option maxHeartbeats 1000000 in
theorem k_X10_cast {n : Nat} {S : lh_S} {t : Nat} {p1 : Int32} {p2 : Int32} {r : Int32} {S' : lh_S} (hf : f_X10_cast n S t p1 p2 = some (r, S')) : lh_sm10 S S' := by
  have hm : lh_sm10 S S := lh_sm10_rf
  unfold f_X10_cast at hf
  obtain ⟨S1, eS1, hf⟩ := dc_let_ok hf
  have hm := lh_sm10_trans hm (show lh_sm10 S S1 from by rw [eS1]; exact (lh_sm10I (by decide)))
  obtain ⟨r3, S4, k5, hf⟩ := dc_bd_ok hf
  have hm := lh_sm10_trans hm (show lh_sm10 S1 S4 from k_X10_isObject k5)
  by_cases c8 : r3 = 0
  · replace hf := dc_if_t c8 hf
    obtain ⟨_, rfl⟩ := dc_ret hf
    exact hm
  · replace hf := dc_if_f c8 hf
    obtain ⟨r9, S10, k11, hf⟩ := dc_bd_ok hf
    have hm := lh_sm10_trans hm (show lh_sm10 S4 S10 from k_X10_isClass k11)
    by_cases c14 : r9 = 0
    · replace hf := dc_if_t c14 hf
      obtain ⟨_, rfl⟩ := dc_ret hf
      exact hm
    · replace hf := dc_if_f c14 hf
      obtain ⟨x16, hx16, hf⟩ := dc_nn_ok hf
      obtain ⟨g17, hf⟩ := dc_gd_ok hf
      obtain ⟨r18, S19, k20, hf⟩ := dc_bd_ok hf
      have hm := lh_sm10_trans hm (show lh_sm10 S10 S19 from k_X10_isOf k20)
      by_cases c23 : r18 = 0
      · replace hf := dc_if_t c23 hf
        obtain ⟨r24, S25, k26, hf⟩ := dc_bd_ok hf
        have hm := lh_sm10_trans hm (show lh_sm10 S19 S25 from k_X10_fails k26)
        obtain ⟨_, rfl⟩ := dc_ret hf
        exact hm
      · replace hf := dc_if_f c23 hf
        obtain ⟨_, rfl⟩ := dc_ret hf
        exact hm
set_option maxHeartbeats 4000000 in
set_option maxRecDepth 100000 in
theorem c_X10_cast (l : Launch) (D : va_G) (cT : Nat → ClassId) (n : Nat) (S : lh_S) (ad : Nat → Nat → Nat) (A : Nat → Prop) (sz : Nat) (hA : ∀ q, sz ≤ q → A q) (t : Nat) (p1 : Int32) (p2 : Int32) (r : Int32) (S' : lh_S) (hf : f_X10_cast n S t p1 p2 = some (r, S')) (L_t : ∀ j, some t = some j → j < gvN S 10) : Met l yX10_cast wsX10_cast ({ frames := 2, cells := 0, slots := 0, locals := 46 } : Room) (lh_P D cT S ad A sz [lh_r ad 10 (some t), .int p1, .int p2]) (lh_Q D cT S' ad A ((∀ b, gvN S b ≤ gvN S' b) ∧ True) (some (.int r))) 0 0 A := by
  refine Met.ofW (cc := cX10_cast) (maxL := 3) (ret := (some .int)) (by decide) rfl ?_
  intro p e s m args below meth c s₁ B hml hv
  obtain ⟨hargs, hsz, hW, hK, hN⟩ := hv
  have hx := B.exec
  have hb := B.bytes
  have hr := B.returns
  have hts := atoms_spec (ws := wsX10_cast) B.pre
  have hown : s.vm.findClass RX10 = some m.cls := findClass_of_methodNamed B.named
  have hlocks := B.notSynchronized
  have hA : ∀ q, s.heap.size ≤ q → A q := fun q h => hA q (by rw [← hsz]; exact h)
  have ok := lh_W_ok hW
  have hm : ∀ b, gvN S b ≤ gvN S b := fun _ => Nat.le_refl _
  obtain ⟨ls, hent, hl⟩ := lh_entry m args [lh_r ad 10 (some t), .int p1, .int p2] 3 [(0, lh_r ad 10 (some t)), (1, .int p1), (2, .int p2)] hargs (by simp [lv_args, lh_cat_r, lh_cat_i, lh_cat_j]) (by simp [lg_sl, lh_cat_r, lh_cat_i, lh_cat_j])
  rw [hent]
  generalize hH : s.heap = H at hW ⊢
  have hS : va_S A s.heap H [] := by rw [← hH]; exact va_S.rf
  unfold f_X10_cast at hf
  refine lh_aload_n hx hb dX10_cast_0 rfl (lv_at hl 0 rfl) ?_
  refine lv_iconst (v := 0) hx hb dX10_cast_1 (by decide) ?_
  obtain ⟨S1, eS1, hf⟩ := dc_let_ok hf
  refine lh_put (S' := S1) (a := 10) (k := 0) (N := 42) (C := RX10) (T := TX10) (own := RX10) (ref := "LoaderModelsModel") (ty := .int) hx hb hts (fun _ h => (List.mem_cons_of_mem _ (List.mem_append_right _ h))) tyX10 tyX10_ok nmX10 hown hK hW hS rfl (L_t _ rfl) rfl rfl rfl (by decide) (hts (.fieldLink RX10 1 "LoaderModelsModel" "thrown" "I") (List.mem_cons_of_mem _ (List.mem_append_left _ (List.mem_append_left _ (List.mem_of_getElem? (i := 0) rfl))))) (fun _ h9 => h9) (Or.inl rfl) (by decide +kernel) rfl rfl (fun q9 => by rw [eS1]; exact lh_chI rfl q9) dX10_cast_2 (fun H locs hW hS => ?_)
  have m2 : ∀ b, gvN S b ≤ gvN S1 b := by rw [eS1]; exact lh_mI
  have L_t : ∀ j, some t = some j → j < gvN S1 10 := fun j h => Nat.lt_of_lt_of_le (L_t j h) (m2 _)
  have hm : ∀ b, gvN S b ≤ gvN S1 b := lh_le_trans hm m2
  have ok := lh_W_ok hW
  refine lh_aload_n hx hb dX10_cast_5 rfl (lv_at hl 0 rfl) ?_
  refine lv_iload_n hx hb dX10_cast_6 rfl (lv_at hl 1 rfl) ?_
  obtain ⟨r3, S4, k5, hf⟩ := dc_bd_ok hf
  refine lh_call (S' := S4) (lh_rv ⟨hx, hb, hml, hown, hts⟩ rfl (As := [.int p1]) (rest := []) (k := 10) (c_X10_isObject l D cT n S1 ad A H.size (fun q9 h9 => hA q9 (Nat.le_trans hS.1 h9)) t p1 r3 S4 k5 L_t) (cwV 1 hts gX10_cast_X10_isObject rfl rfl rfl (by decide +kernel) ⟨Nat.le_of_ble_eq_true rfl, Nat.le_of_ble_eq_true rfl⟩) hK hN hW (L_t _ rfl) rfl rfl rfl hl.1 rfl (by simp [lh_cat_r, lh_cat_i, lh_cat_j]) dX10_cast_7 ⟨Nat.le_of_ble_eq_true rfl, Nat.le_of_ble_eq_true rfl⟩) hS (fun H locs hX hW hS => ?_)
  refine W.widen (k := 0) (n := 0) (by omega) (by omega) ?_
  show W _ _ _ _ _ _ _ _ _ _ _ _ _ _ _ (F0 m 10 ls [.int r3])
  have m6 : ∀ b, gvN S1 b ≤ gvN S4 b := hX.1
  have L_t : ∀ j, some t = some j → j < gvN S4 10 := fun j h => Nat.lt_of_lt_of_le (L_t j h) (m6 _)
  have hm : ∀ b, gvN S b ≤ gvN S4 b := lh_le_trans hm m6
  have ok := lh_W_ok hW
  have z7 := hX.2
  refine lv_if_eq (tgt := 21) hx hb dX10_cast_10 (by decide) (fun c8 => ?_) (fun c8 => ?_)
  · replace hf := dc_if_t c8 hf
    refine lv_bipush (v := -2) hx hb dX10_cast_21 (by decide) ?_
    obtain ⟨rfl, rfl⟩ := dc_ret hf
    exact W.iret (v := (-2 : Int32)) hx hb hr (fun t9 ht9 hW9 => ⟨⟨rfl, ⟨hm, trivial⟩, by rw [ht9]; exact hW⟩, hS.F ht9⟩) hS.2.2 dX10_cast_23
  · replace hf := dc_if_f c8 hf
    refine lh_aload_n hx hb dX10_cast_13 rfl (lv_at hl 0 rfl) ?_
    refine lv_iload_n hx hb dX10_cast_14 rfl (lv_at hl 2 rfl) ?_
    obtain ⟨r9, S10, k11, hf⟩ := dc_bd_ok hf
    refine lh_call (S' := S10) (lh_rv ⟨hx, hb, hml, hown, hts⟩ rfl (As := [.int p2]) (rest := []) (k := 10) (c_X10_isClass l D cT n S4 ad A H.size (fun q9 h9 => hA q9 (Nat.le_trans hS.1 h9)) t p2 r9 S10 k11 L_t) (cwV 1 hts gX10_cast_X10_isClass rfl rfl rfl (by decide +kernel) ⟨Nat.le_of_ble_eq_true rfl, Nat.le_of_ble_eq_true rfl⟩) hK hN hW (L_t _ rfl) rfl rfl rfl hl.1 rfl (by simp [lh_cat_r, lh_cat_i, lh_cat_j]) dX10_cast_15 ⟨Nat.le_of_ble_eq_true rfl, Nat.le_of_ble_eq_true rfl⟩) hS (fun H locs hX hW hS => ?_)
    refine W.widen (k := 0) (n := 0) (by omega) (by omega) ?_
    show W _ _ _ _ _ _ _ _ _ _ _ _ _ _ _ (F0 m 18 ls [.int r9])
    have m12 : ∀ b, gvN S4 b ≤ gvN S10 b := hX.1
    have L_t : ∀ j, some t = some j → j < gvN S10 10 := fun j h => Nat.lt_of_lt_of_le (L_t j h) (m12 _)
    have hm : ∀ b, gvN S b ≤ gvN S10 b := lh_le_trans hm m12
    have ok := lh_W_ok hW
    have z13 := hX.2
    refine lv_if_ne (tgt := 24) hx hb dX10_cast_18 (by decide) (fun c14 => ?_) (fun c14 => ?_)
    · replace hf := dc_if_f c14 hf
      refine lh_aload_n hx hb dX10_cast_24 rfl (lv_at hl 0 rfl) ?_
      refine lh_aload_n hx hb dX10_cast_25 rfl (lv_at hl 0 rfl) ?_
      have L15 : ∀ j, gvR S10 10 t 37 = some j → j < gvN S10 67 := fun j h => ok _ _ _ _ j (L_t _ rfl) rfl h
      refine lh_get (a := 10) (k := 37) (N := 42) (C := RX10) (T := TX10) (own := RX10) (ref := "LoaderModelsModel") hx hb hts (fun _ h => (List.mem_cons_of_mem _ (List.mem_append_right _ h))) hown hK hW rfl (L_t _ rfl) rfl rfl rfl (by decide) (hts (.fieldLink RX10 97 "LoaderModelsModel" "objectClass" "[I") (List.mem_cons_of_mem _ (List.mem_append_left _ (List.mem_append_left _ (List.mem_of_getElem? (i := 1) rfl))))) (fun _ h9 => h9) dX10_cast_26 (v := lh_r ad 67 (gvR S10 10 t 37)) rfl ?_
      refine lv_iload_n hx hb dX10_cast_29 rfl (lv_at hl 1 rfl) ?_
      obtain ⟨x16, hx16, hf⟩ := dc_nn_ok hf
      obtain ⟨g17, hf⟩ := dc_gd_ok hf
      refine lh_ald_i (a := 67) hx hb hK hW hx16 (L15 _ hx16) rfl rfl g17 dX10_cast_30 ?_
      refine lv_iload_n hx hb dX10_cast_31 rfl (lv_at hl 2 rfl) ?_
      obtain ⟨r18, S19, k20, hf⟩ := dc_bd_ok hf
      refine lh_call (S' := S19) (lh_rv ⟨hx, hb, hml, hown, hts⟩ rfl (As := [.int (gvI S10 67 x16 (p1).toNatClampNeg), .int p2]) (rest := []) (k := 10) (c_X10_isOf l D cT n S10 ad A H.size (fun q9 h9 => hA q9 (Nat.le_trans hS.1 h9)) t (gvI S10 67 x16 (p1).toNatClampNeg) p2 r18 S19 k20 L_t) (cwV 2 hts gX10_cast_X10_isOf rfl rfl rfl (by decide +kernel) ⟨Nat.le_of_ble_eq_true rfl, Nat.le_of_ble_eq_true rfl⟩) hK hN hW (L_t _ rfl) rfl rfl rfl hl.1 rfl (by simp [lh_cat_r, lh_cat_i, lh_cat_j]) dX10_cast_32 ⟨Nat.le_of_ble_eq_true rfl, Nat.le_of_ble_eq_true rfl⟩) hS (fun H locs hX hW hS => ?_)
      refine W.widen (k := 0) (n := 0) (by omega) (by omega) ?_
      show W _ _ _ _ _ _ _ _ _ _ _ _ _ _ _ (F0 m 35 ls [.int r18])
      have m21 : ∀ b, gvN S10 b ≤ gvN S19 b := hX.1
      have L_t : ∀ j, some t = some j → j < gvN S19 10 := fun j h => Nat.lt_of_lt_of_le (L_t j h) (m21 _)
      have hm : ∀ b, gvN S b ≤ gvN S19 b := lh_le_trans hm m21
      have ok := lh_W_ok hW
      have z22 := hX.2
      refine lv_if_eq (tgt := 42) hx hb dX10_cast_35 (by decide) (fun c23 => ?_) (fun c23 => ?_)
      · replace hf := dc_if_t c23 hf
        refine lh_aload_n hx hb dX10_cast_42 rfl (lv_at hl 0 rfl) ?_
        refine lv_iconst (v := 5) hx hb dX10_cast_43 (by decide) ?_
        obtain ⟨r24, S25, k26, hf⟩ := dc_bd_ok hf
        refine lh_call (S' := S25) (lh_rv ⟨hx, hb, hml, hown, hts⟩ rfl (As := [.int (5 : Int32)]) (rest := []) (k := 10) (c_X10_fails l D cT n S19 ad A H.size (fun q9 h9 => hA q9 (Nat.le_trans hS.1 h9)) t (5 : Int32) r24 S25 k26 L_t) (cwV 1 hts gX10_cast_X10_fails rfl rfl rfl (by decide +kernel) ⟨Nat.le_of_ble_eq_true rfl, Nat.le_of_ble_eq_true rfl⟩) hK hN hW (L_t _ rfl) rfl rfl rfl hl.1 rfl (by simp [lh_cat_r, lh_cat_i, lh_cat_j]) dX10_cast_44 ⟨Nat.le_of_ble_eq_true rfl, Nat.le_of_ble_eq_true rfl⟩) hS (fun H locs hX hW hS => ?_)
        refine W.widen (k := 0) (n := 0) (by omega) (by omega) ?_
        show W _ _ _ _ _ _ _ _ _ _ _ _ _ _ _ (F0 m 47 ls [.int r24])
        have m27 : ∀ b, gvN S19 b ≤ gvN S25 b := hX.1
        have L_t : ∀ j, some t = some j → j < gvN S25 10 := fun j h => Nat.lt_of_lt_of_le (L_t j h) (m27 _)
        have hm : ∀ b, gvN S b ≤ gvN S25 b := lh_le_trans hm m27
        have ok := lh_W_ok hW
        obtain ⟨rfl, rfl⟩ := dc_ret hf
        exact W.iret (v := r24) hx hb hr (fun t9 ht9 hW9 => ⟨⟨rfl, ⟨hm, trivial⟩, by rw [ht9]; exact hW⟩, hS.F ht9⟩) hS.2.2 dX10_cast_47
      · replace hf := dc_if_f c23 hf
        refine lv_iconst (v := 1) hx hb dX10_cast_38 (by decide) ?_
        refine lv_goto (tgt := 47) hx hb dX10_cast_39 (by decide) ?_
        obtain ⟨rfl, rfl⟩ := dc_ret hf
        exact W.iret (v := (1 : Int32)) hx hb hr (fun t9 ht9 hW9 => ⟨⟨rfl, ⟨hm, trivial⟩, by rw [ht9]; exact hW⟩, hS.F ht9⟩) hS.2.2 dX10_cast_47
    · replace hf := dc_if_t c14 hf
      refine lv_bipush (v := -2) hx hb dX10_cast_21 (by decide) ?_
      obtain ⟨rfl, rfl⟩ := dc_ret hf
      exact W.iret (v := (-2 : Int32)) hx hb hr (fun t9 ht9 hW9 => ⟨⟨rfl, ⟨hm, trivial⟩, by rw [ht9]; exact hW⟩, hS.F ht9⟩) hS.2.2 dX10_cast_23
def f_X10_row (n : Nat) (S : lh_S) (t : Nat) (p1 : Int32) (p2 : Int32) : Option (Int32 × lh_S) :=
  dc_let (pvI S 10 t 0 (0 : Int32)) fun S1 =>
  dc_bd (f_X10_isClass n S1 t p1) fun r3 S4 =>
  dc_if (r3 = 0) (
  some ((-2 : Int32), S4)) (
  dc_bd (f_X10_in n S4 p2.toInt64 (0 : Int64) (8 : Int64)) fun r9 S10 =>
  dc_if (r9 = 0) (
  some ((-3 : Int32), S10)) (
  dc_if ((gvI S10 10 t 38) = (20 : Int32)) (
  some ((-5 : Int32), S10)) (
  dc_nn (gvR S10 10 t 39) fun x17 =>
  dc_gd ((gvI S10 10 t 38) < 0 ∨ gvL S10 69 x17 ≤ ((gvI S10 10 t 38)).toNatClampNeg) (
  dc_let (pvI S10 69 x17 ((gvI S10 10 t 38)).toNatClampNeg p1) fun S19 =>
  dc_nn (gvR S19 10 t 40) fun x22 =>
  dc_gd ((gvI S19 10 t 38) < 0 ∨ gvL S19 70 x22 ≤ ((gvI S19 10 t 38)).toNatClampNeg) (
  dc_let (pvI S19 70 x22 ((gvI S19 10 t 38)).toNatClampNeg p2) fun S24 =>
  dc_let ((gvI S24 10 t 38) + (1 : Int32)) fun v26 =>
  dc_let (pvI S24 10 t 38 v26) fun S27 =>
  dc_let ((gvI S27 10 t 38) - (1 : Int32)) fun v29 =>
  some (v29, S27))))))
set_option maxHeartbeats 1000000 in
theorem m_X10_row {n : Nat} {S : lh_S} {t : Nat} {p1 : Int32} {p2 : Int32} {r : Int32} {S' : lh_S} (hf : f_X10_row n S t p1 p2 = some (r, S')) : ∀ b, gvN S b ≤ gvN S' b := by
  have hm : ∀ b, gvN S b ≤ gvN S b := fun _ => Nat.le_refl _
  unfold f_X10_row at hf
  obtain ⟨S1, eS1, hf⟩ := dc_let_ok hf
  have hm := lh_le_trans hm (show ∀ b, gvN S b ≤ gvN S1 b from by rw [eS1]; exact lh_mI)
  obtain ⟨r3, S4, k5, hf⟩ := dc_bd_ok hf
  have hm := lh_le_trans hm (show ∀ b, gvN S1 b ≤ gvN S4 b from m_X10_isClass k5)
  by_cases c8 : r3 = 0
  · replace hf := dc_if_t c8 hf
    obtain ⟨_, rfl⟩ := dc_ret hf
    exact hm
  · replace hf := dc_if_f c8 hf
    obtain ⟨r9, S10, k11, hf⟩ := dc_bd_ok hf
    have hm := lh_le_trans hm (show ∀ b, gvN S4 b ≤ gvN S10 b from m_X10_in k11)
    by_cases c14 : r9 = 0
    · replace hf := dc_if_t c14 hf
      obtain ⟨_, rfl⟩ := dc_ret hf
      exact hm
    · replace hf := dc_if_f c14 hf
      by_cases c15 : (gvI S10 10 t 38) = (20 : Int32)
      · replace hf := dc_if_t c15 hf
        obtain ⟨_, rfl⟩ := dc_ret hf
        exact hm
      · replace hf := dc_if_f c15 hf
        obtain ⟨x17, hx17, hf⟩ := dc_nn_ok hf
        obtain ⟨g18, hf⟩ := dc_gd_ok hf
        obtain ⟨S19, eS19, hf⟩ := dc_let_ok hf
        have hm := lh_le_trans hm (show ∀ b, gvN S10 b ≤ gvN S19 b from by rw [eS19]; exact lh_mI)
        obtain ⟨x22, hx22, hf⟩ := dc_nn_ok hf
        obtain ⟨g23, hf⟩ := dc_gd_ok hf
        obtain ⟨S24, eS24, hf⟩ := dc_let_ok hf
        have hm := lh_le_trans hm (show ∀ b, gvN S19 b ≤ gvN S24 b from by rw [eS24]; exact lh_mI)
        obtain ⟨v26, hv26, hf⟩ := dc_let_ok hf
        obtain ⟨S27, eS27, hf⟩ := dc_let_ok hf
        have hm := lh_le_trans hm (show ∀ b, gvN S24 b ≤ gvN S27 b from by rw [eS27]; exact lh_mI)
        obtain ⟨v29, hv29, hf⟩ := dc_let_ok hf
        obtain ⟨_, rfl⟩ := dc_ret hf
        exact hm
set_option maxHeartbeats 1000000 in
theorem k_X10_row {n : Nat} {S : lh_S} {t : Nat} {p1 : Int32} {p2 : Int32} {r : Int32} {S' : lh_S} (hf : f_X10_row n S t p1 p2 = some (r, S')) : lh_sm10 S S' := by
  have hm : lh_sm10 S S := lh_sm10_rf
  unfold f_X10_row at hf
  obtain ⟨S1, eS1, hf⟩ := dc_let_ok hf
  have hm := lh_sm10_trans hm (show lh_sm10 S S1 from by rw [eS1]; exact (lh_sm10I (by decide)))
  obtain ⟨r3, S4, k5, hf⟩ := dc_bd_ok hf
  have hm := lh_sm10_trans hm (show lh_sm10 S1 S4 from k_X10_isClass k5)
  by_cases c8 : r3 = 0
  · replace hf := dc_if_t c8 hf
    obtain ⟨_, rfl⟩ := dc_ret hf
    exact hm
  · replace hf := dc_if_f c8 hf
    obtain ⟨r9, S10, k11, hf⟩ := dc_bd_ok hf
    have hm := lh_sm10_trans hm (show lh_sm10 S4 S10 from k_X10_in k11)
    by_cases c14 : r9 = 0
    · replace hf := dc_if_t c14 hf
      obtain ⟨_, rfl⟩ := dc_ret hf
      exact hm
    · replace hf := dc_if_f c14 hf
      by_cases c15 : (gvI S10 10 t 38) = (20 : Int32)
      · replace hf := dc_if_t c15 hf
        obtain ⟨_, rfl⟩ := dc_ret hf
        exact hm
      · replace hf := dc_if_f c15 hf
        obtain ⟨x17, hx17, hf⟩ := dc_nn_ok hf
        obtain ⟨g18, hf⟩ := dc_gd_ok hf
        obtain ⟨S19, eS19, hf⟩ := dc_let_ok hf
        have hm := lh_sm10_trans hm (show lh_sm10 S10 S19 from by rw [eS19]; exact (lh_sm10I (by decide)))
        obtain ⟨x22, hx22, hf⟩ := dc_nn_ok hf
        obtain ⟨g23, hf⟩ := dc_gd_ok hf
        obtain ⟨S24, eS24, hf⟩ := dc_let_ok hf
        have hm := lh_sm10_trans hm (show lh_sm10 S19 S24 from by rw [eS24]; exact (lh_sm10I (by decide)))
        obtain ⟨v26, hv26, hf⟩ := dc_let_ok hf
        obtain ⟨S27, eS27, hf⟩ := dc_let_ok hf
        have hm := lh_sm10_trans hm (show lh_sm10 S24 S27 from by rw [eS27]; exact (lh_sm10I (by decide)))
        obtain ⟨v29, hv29, hf⟩ := dc_let_ok hf
        obtain ⟨_, rfl⟩ := dc_ret hf
        exact hm
set_option maxHeartbeats 4000000 in
set_option maxRecDepth 100000 in
theorem c_X10_row (l : Launch) (D : va_G) (cT : Nat → ClassId) (n : Nat) (S : lh_S) (ad : Nat → Nat → Nat) (A : Nat → Prop) (sz : Nat) (hA : ∀ q, sz ≤ q → A q) (t : Nat) (p1 : Int32) (p2 : Int32) (r : Int32) (S' : lh_S) (hf : f_X10_row n S t p1 p2 = some (r, S')) (L_t : ∀ j, some t = some j → j < gvN S 10) : Met l yX10_row wsX10_row ({ frames := 2, cells := 0, slots := 0, locals := 46 } : Room) (lh_P D cT S ad A sz [lh_r ad 10 (some t), .int p1, .int p2]) (lh_Q D cT S' ad A ((∀ b, gvN S b ≤ gvN S' b) ∧ True) (some (.int r))) 0 0 A := by
  refine Met.ofW (cc := cX10_row) (maxL := 3) (ret := (some .int)) (by decide) rfl ?_
  intro p e s m args below meth c s₁ B hml hv
  obtain ⟨hargs, hsz, hW, hK, hN⟩ := hv
  have hx := B.exec
  have hb := B.bytes
  have hr := B.returns
  have hts := atoms_spec (ws := wsX10_row) B.pre
  have hown : s.vm.findClass RX10 = some m.cls := findClass_of_methodNamed B.named
  have hlocks := B.notSynchronized
  have hA : ∀ q, s.heap.size ≤ q → A q := fun q h => hA q (by rw [← hsz]; exact h)
  have ok := lh_W_ok hW
  have hm : ∀ b, gvN S b ≤ gvN S b := fun _ => Nat.le_refl _
  obtain ⟨ls, hent, hl⟩ := lh_entry m args [lh_r ad 10 (some t), .int p1, .int p2] 3 [(0, lh_r ad 10 (some t)), (1, .int p1), (2, .int p2)] hargs (by simp [lv_args, lh_cat_r, lh_cat_i, lh_cat_j]) (by simp [lg_sl, lh_cat_r, lh_cat_i, lh_cat_j])
  rw [hent]
  generalize hH : s.heap = H at hW ⊢
  have hS : va_S A s.heap H [] := by rw [← hH]; exact va_S.rf
  unfold f_X10_row at hf
  refine lh_aload_n hx hb dX10_row_0 rfl (lv_at hl 0 rfl) ?_
  refine lv_iconst (v := 0) hx hb dX10_row_1 (by decide) ?_
  obtain ⟨S1, eS1, hf⟩ := dc_let_ok hf
  refine lh_put (S' := S1) (a := 10) (k := 0) (N := 42) (C := RX10) (T := TX10) (own := RX10) (ref := "LoaderModelsModel") (ty := .int) hx hb hts (fun _ h => (List.mem_cons_of_mem _ (List.mem_append_right _ h))) tyX10 tyX10_ok nmX10 hown hK hW hS rfl (L_t _ rfl) rfl rfl rfl (by decide) (hts (.fieldLink RX10 1 "LoaderModelsModel" "thrown" "I") (List.mem_cons_of_mem _ (List.mem_append_left _ (List.mem_of_getElem? (i := 0) rfl)))) (fun _ h9 => h9) (Or.inl rfl) (by decide +kernel) rfl rfl (fun q9 => by rw [eS1]; exact lh_chI rfl q9) dX10_row_2 (fun H locs hW hS => ?_)
  have m2 : ∀ b, gvN S b ≤ gvN S1 b := by rw [eS1]; exact lh_mI
  have L_t : ∀ j, some t = some j → j < gvN S1 10 := fun j h => Nat.lt_of_lt_of_le (L_t j h) (m2 _)
  have hm : ∀ b, gvN S b ≤ gvN S1 b := lh_le_trans hm m2
  have ok := lh_W_ok hW
  refine lh_aload_n hx hb dX10_row_5 rfl (lv_at hl 0 rfl) ?_
  refine lv_iload_n hx hb dX10_row_6 rfl (lv_at hl 1 rfl) ?_
  obtain ⟨r3, S4, k5, hf⟩ := dc_bd_ok hf
  refine lh_call (S' := S4) (lh_rv ⟨hx, hb, hml, hown, hts⟩ rfl (As := [.int p1]) (rest := []) (k := 10) (c_X10_isClass l D cT n S1 ad A H.size (fun q9 h9 => hA q9 (Nat.le_trans hS.1 h9)) t p1 r3 S4 k5 L_t) (cwV 1 hts gX10_row_X10_isClass rfl rfl rfl (by decide +kernel) ⟨Nat.le_of_ble_eq_true rfl, Nat.le_of_ble_eq_true rfl⟩) hK hN hW (L_t _ rfl) rfl rfl rfl hl.1 rfl (by simp [lh_cat_r, lh_cat_i, lh_cat_j]) dX10_row_7 ⟨Nat.le_of_ble_eq_true rfl, Nat.le_of_ble_eq_true rfl⟩) hS (fun H locs hX hW hS => ?_)
  refine W.widen (k := 0) (n := 0) (by omega) (by omega) ?_
  show W _ _ _ _ _ _ _ _ _ _ _ _ _ _ _ (F0 m 10 ls [.int r3])
  have m6 : ∀ b, gvN S1 b ≤ gvN S4 b := hX.1
  have L_t : ∀ j, some t = some j → j < gvN S4 10 := fun j h => Nat.lt_of_lt_of_le (L_t j h) (m6 _)
  have hm : ∀ b, gvN S b ≤ gvN S4 b := lh_le_trans hm m6
  have ok := lh_W_ok hW
  have z7 := hX.2
  refine lv_if_ne (tgt := 16) hx hb dX10_row_10 (by decide) (fun c8 => ?_) (fun c8 => ?_)
  · replace hf := dc_if_f c8 hf
    refine lv_iload_n hx hb dX10_row_16 rfl (lv_at hl 2 rfl) ?_
    refine lv_i2l (v := p2.toInt64) hx hb dX10_row_17 rfl ?_
    refine lv_lconst (v := 0) hx hb dX10_row_18 (by decide) ?_
    refine lv_ldc2 (v := 8) hx hb hown (hts (.constantLong RX10 217 (8)) (List.mem_cons_of_mem _ (List.mem_append_left _ (List.mem_of_getElem? (i := 1) rfl)))) dX10_row_19 ?_
    obtain ⟨r9, S10, k11, hf⟩ := dc_bd_ok hf
    refine lh_call (S' := S10) (lh_rs ⟨hx, hb, hml, hown, hts⟩ (As := [.long p2.toInt64, .long (0 : Int64), .long (8 : Int64)]) (rest := []) (c_X10_in l D cT n S4 ad A H.size (fun q9 h9 => hA q9 (Nat.le_trans hS.1 h9)) p2.toInt64 (0 : Int64) (8 : Int64) r9 S10 k11 ) (va_cwS 3 hts gX10_row_X10_in rfl rfl rfl (by decide +kernel) ⟨Nat.le_of_ble_eq_true rfl, Nat.le_of_ble_eq_true rfl⟩) hK hN hW rfl hl.1 rfl (by simp [lh_cat_r, lh_cat_i, lh_cat_j]) dX10_row_22 ⟨Nat.le_of_ble_eq_true rfl, Nat.le_of_ble_eq_true rfl⟩) hS (fun H locs hX hW hS => ?_)
    refine W.widen (k := 0) (n := 0) (by omega) (by omega) ?_
    show W _ _ _ _ _ _ _ _ _ _ _ _ _ _ _ (F0 m 25 ls [.int r9])
    have m12 : ∀ b, gvN S4 b ≤ gvN S10 b := hX.1
    have L_t : ∀ j, some t = some j → j < gvN S10 10 := fun j h => Nat.lt_of_lt_of_le (L_t j h) (m12 _)
    have hm : ∀ b, gvN S b ≤ gvN S10 b := lh_le_trans hm m12
    have ok := lh_W_ok hW
    have z13 := hX.2
    refine lv_if_ne (tgt := 31) hx hb dX10_row_25 (by decide) (fun c14 => ?_) (fun c14 => ?_)
    · replace hf := dc_if_f c14 hf
      refine lh_aload_n hx hb dX10_row_31 rfl (lv_at hl 0 rfl) ?_
      refine lh_get (a := 10) (k := 38) (N := 42) (C := RX10) (T := TX10) (own := RX10) (ref := "LoaderModelsModel") hx hb hts (fun _ h => (List.mem_cons_of_mem _ (List.mem_append_right _ h))) hown hK hW rfl (L_t _ rfl) rfl rfl rfl (by decide) (hts (.fieldLink RX10 207 "LoaderModelsModel" "rows" "I") (List.mem_cons_of_mem _ (List.mem_append_left _ (List.mem_of_getElem? (i := 2) rfl)))) (fun _ h9 => h9) dX10_row_32 (v := .int (gvI S10 10 t 38)) rfl ?_
      refine lv_bipush (v := 20) hx hb dX10_row_35 (by decide) ?_
      refine lv_icmp_ne (tgt := 43) hx hb dX10_row_37 (by decide) (fun c15 => ?_) (fun c15 => ?_)
      · replace hf := dc_if_f c15 hf
        refine lh_aload_n hx hb dX10_row_43 rfl (lv_at hl 0 rfl) ?_
        have L16 : ∀ j, gvR S10 10 t 39 = some j → j < gvN S10 69 := fun j h => ok _ _ _ _ j (L_t _ rfl) rfl h
        refine lh_get (a := 10) (k := 39) (N := 42) (C := RX10) (T := TX10) (own := RX10) (ref := "LoaderModelsModel") hx hb hts (fun _ h => (List.mem_cons_of_mem _ (List.mem_append_right _ h))) hown hK hW rfl (L_t _ rfl) rfl rfl rfl (by decide) (hts (.fieldLink RX10 100 "LoaderModelsModel" "rowClass" "[I") (List.mem_cons_of_mem _ (List.mem_append_left _ (List.mem_of_getElem? (i := 3) rfl)))) (fun _ h9 => h9) dX10_row_44 (v := lh_r ad 69 (gvR S10 10 t 39)) rfl ?_
        refine lh_aload_n hx hb dX10_row_47 rfl (lv_at hl 0 rfl) ?_
        refine lh_get (a := 10) (k := 38) (N := 42) (C := RX10) (T := TX10) (own := RX10) (ref := "LoaderModelsModel") hx hb hts (fun _ h => (List.mem_cons_of_mem _ (List.mem_append_right _ h))) hown hK hW rfl (L_t _ rfl) rfl rfl rfl (by decide) (hts (.fieldLink RX10 207 "LoaderModelsModel" "rows" "I") (List.mem_cons_of_mem _ (List.mem_append_left _ (List.mem_of_getElem? (i := 2) rfl)))) (fun _ h9 => h9) dX10_row_48 (v := .int (gvI S10 10 t 38)) rfl ?_
        refine lv_iload_n hx hb dX10_row_51 rfl (lv_at hl 1 rfl) ?_
        obtain ⟨x17, hx17, hf⟩ := dc_nn_ok hf
        obtain ⟨g18, hf⟩ := dc_gd_ok hf
        obtain ⟨S19, eS19, hf⟩ := dc_let_ok hf
        refine lh_ast_i (a := 69) hx hb hK hW hS hx17 (L16 _ hx17) rfl (fun _ => rfl) g18 dX10_row_52 (fun H locs hW hS => ?_)
        rw [← eS19] at hW
        have m20 : ∀ b, gvN S10 b ≤ gvN S19 b := by rw [eS19]; exact lh_mI
        have L_t : ∀ j, some t = some j → j < gvN S19 10 := fun j h => Nat.lt_of_lt_of_le (L_t j h) (m20 _)
        have hm : ∀ b, gvN S b ≤ gvN S19 b := lh_le_trans hm m20
        have ok := lh_W_ok hW
        refine lh_aload_n hx hb dX10_row_53 rfl (lv_at hl 0 rfl) ?_
        have L21 : ∀ j, gvR S19 10 t 40 = some j → j < gvN S19 70 := fun j h => ok _ _ _ _ j (L_t _ rfl) rfl h
        refine lh_get (a := 10) (k := 40) (N := 42) (C := RX10) (T := TX10) (own := RX10) (ref := "LoaderModelsModel") hx hb hts (fun _ h => (List.mem_cons_of_mem _ (List.mem_append_right _ h))) hown hK hW rfl (L_t _ rfl) rfl rfl rfl (by decide) (hts (.fieldLink RX10 103 "LoaderModelsModel" "rowSize" "[I") (List.mem_cons_of_mem _ (List.mem_append_left _ (List.mem_of_getElem? (i := 4) rfl)))) (fun _ h9 => h9) dX10_row_54 (v := lh_r ad 70 (gvR S19 10 t 40)) rfl ?_
        refine lh_aload_n hx hb dX10_row_57 rfl (lv_at hl 0 rfl) ?_
        refine lh_get (a := 10) (k := 38) (N := 42) (C := RX10) (T := TX10) (own := RX10) (ref := "LoaderModelsModel") hx hb hts (fun _ h => (List.mem_cons_of_mem _ (List.mem_append_right _ h))) hown hK hW rfl (L_t _ rfl) rfl rfl rfl (by decide) (hts (.fieldLink RX10 207 "LoaderModelsModel" "rows" "I") (List.mem_cons_of_mem _ (List.mem_append_left _ (List.mem_of_getElem? (i := 2) rfl)))) (fun _ h9 => h9) dX10_row_58 (v := .int (gvI S19 10 t 38)) rfl ?_
        refine lv_iload_n hx hb dX10_row_61 rfl (lv_at hl 2 rfl) ?_
        obtain ⟨x22, hx22, hf⟩ := dc_nn_ok hf
        obtain ⟨g23, hf⟩ := dc_gd_ok hf
        obtain ⟨S24, eS24, hf⟩ := dc_let_ok hf
        refine lh_ast_i (a := 70) hx hb hK hW hS hx22 (L21 _ hx22) rfl (fun _ => rfl) g23 dX10_row_62 (fun H locs hW hS => ?_)
        rw [← eS24] at hW
        have m25 : ∀ b, gvN S19 b ≤ gvN S24 b := by rw [eS24]; exact lh_mI
        have L_t : ∀ j, some t = some j → j < gvN S24 10 := fun j h => Nat.lt_of_lt_of_le (L_t j h) (m25 _)
        have hm : ∀ b, gvN S b ≤ gvN S24 b := lh_le_trans hm m25
        have ok := lh_W_ok hW
        refine lh_aload_n hx hb dX10_row_63 rfl (lv_at hl 0 rfl) ?_
        refine lv_dup hx hb dX10_row_64 lh_cat_r ?_
        refine lh_get (a := 10) (k := 38) (N := 42) (C := RX10) (T := TX10) (own := RX10) (ref := "LoaderModelsModel") hx hb hts (fun _ h => (List.mem_cons_of_mem _ (List.mem_append_right _ h))) hown hK hW rfl (L_t _ rfl) rfl rfl rfl (by decide) (hts (.fieldLink RX10 207 "LoaderModelsModel" "rows" "I") (List.mem_cons_of_mem _ (List.mem_append_left _ (List.mem_of_getElem? (i := 2) rfl)))) (fun _ h9 => h9) dX10_row_65 (v := .int (gvI S24 10 t 38)) rfl ?_
        refine lv_iconst (v := 1) hx hb dX10_row_68 (by decide) ?_
        refine lv_iadd hx hb dX10_row_69 ?_
        refine lv_topi (fun v26 hv26 => ?_)
        replace hf := dc_let_e hv26 hf
        obtain ⟨S27, eS27, hf⟩ := dc_let_ok hf
        refine lh_put (S' := S27) (a := 10) (k := 38) (N := 42) (C := RX10) (T := TX10) (own := RX10) (ref := "LoaderModelsModel") (ty := .int) hx hb hts (fun _ h => (List.mem_cons_of_mem _ (List.mem_append_right _ h))) tyX10 tyX10_ok nmX10 hown hK hW hS rfl (L_t _ rfl) rfl rfl rfl (by decide) (hts (.fieldLink RX10 207 "LoaderModelsModel" "rows" "I") (List.mem_cons_of_mem _ (List.mem_append_left _ (List.mem_of_getElem? (i := 2) rfl)))) (fun _ h9 => h9) (Or.inl rfl) (by decide +kernel) rfl rfl (fun q9 => by rw [eS27]; exact lh_chI rfl q9) dX10_row_70 (fun H locs hW hS => ?_)
        have m28 : ∀ b, gvN S24 b ≤ gvN S27 b := by rw [eS27]; exact lh_mI
        have L_t : ∀ j, some t = some j → j < gvN S27 10 := fun j h => Nat.lt_of_lt_of_le (L_t j h) (m28 _)
        have hm : ∀ b, gvN S b ≤ gvN S27 b := lh_le_trans hm m28
        have ok := lh_W_ok hW
        refine lh_aload_n hx hb dX10_row_73 rfl (lv_at hl 0 rfl) ?_
        refine lh_get (a := 10) (k := 38) (N := 42) (C := RX10) (T := TX10) (own := RX10) (ref := "LoaderModelsModel") hx hb hts (fun _ h => (List.mem_cons_of_mem _ (List.mem_append_right _ h))) hown hK hW rfl (L_t _ rfl) rfl rfl rfl (by decide) (hts (.fieldLink RX10 207 "LoaderModelsModel" "rows" "I") (List.mem_cons_of_mem _ (List.mem_append_left _ (List.mem_of_getElem? (i := 2) rfl)))) (fun _ h9 => h9) dX10_row_74 (v := .int (gvI S27 10 t 38)) rfl ?_
        refine lv_iconst (v := 1) hx hb dX10_row_77 (by decide) ?_
        refine lv_isub hx hb dX10_row_78 ?_
        refine lv_topi (fun v29 hv29 => ?_)
        replace hf := dc_let_e hv29 hf
        obtain ⟨rfl, rfl⟩ := dc_ret hf
        exact W.iret (v := v29) hx hb hr (fun t9 ht9 hW9 => ⟨⟨rfl, ⟨hm, trivial⟩, by rw [ht9]; exact hW⟩, hS.F ht9⟩) hS.2.2 dX10_row_79
      · replace hf := dc_if_t c15 hf
        refine lv_bipush (v := -5) hx hb dX10_row_40 (by decide) ?_
        obtain ⟨rfl, rfl⟩ := dc_ret hf
        exact W.iret (v := (-5 : Int32)) hx hb hr (fun t9 ht9 hW9 => ⟨⟨rfl, ⟨hm, trivial⟩, by rw [ht9]; exact hW⟩, hS.F ht9⟩) hS.2.2 dX10_row_42
    · replace hf := dc_if_t c14 hf
      refine lv_bipush (v := -3) hx hb dX10_row_28 (by decide) ?_
      obtain ⟨rfl, rfl⟩ := dc_ret hf
      exact W.iret (v := (-3 : Int32)) hx hb hr (fun t9 ht9 hW9 => ⟨⟨rfl, ⟨hm, trivial⟩, by rw [ht9]; exact hW⟩, hS.F ht9⟩) hS.2.2 dX10_row_30
  · replace hf := dc_if_t c8 hf
    refine lv_bipush (v := -2) hx hb dX10_row_13 (by decide) ?_
    obtain ⟨rfl, rfl⟩ := dc_ret hf
    exact W.iret (v := (-2 : Int32)) hx hb hr (fun t9 ht9 hW9 => ⟨⟨rfl, ⟨hm, trivial⟩, by rw [ht9]; exact hW⟩, hS.F ht9⟩) hS.2.2 dX10_row_15
def f_X10_put (n : Nat) (S : lh_S) (t : Nat) (p1 : Int32) (p2 : Int32) (p3 : Int32) : Option (Int32 × lh_S) :=
  dc_let (pvI S 10 t 0 (0 : Int32)) fun S1 =>
  dc_bd (f_X10_isRow n S1 t p1) fun r3 S4 =>
  dc_if (r3 = 0) (
  some ((-2 : Int32), S4)) (
  dc_if (p3 = (-1 : Int32)) (
  dc_nn (gvR S4 10 t 40) fun x11 =>
  dc_gd (p1 < 0 ∨ gvL S4 70 x11 ≤ (p1).toNatClampNeg) (
  dc_let ((gvI S4 70 x11 (p1).toNatClampNeg) - (1 : Int32)) fun v13 =>
  dc_bd (f_X10_in n S4 p2.toInt64 (0 : Int64) v13.toInt64) fun r14 S15 =>
  dc_if (r14 = 0) (
  dc_bd (f_X10_fails n S15 t (11 : Int32)) fun r47 S48 =>
  some (r47, S48)) (
  dc_if (p3 < 0) (
  dc_nn (gvR S15 10 t 41) fun x22 =>
  dc_gd ((((8 : Int32) * p1) + p2) < 0 ∨ gvL S15 71 x22 ≤ ((((8 : Int32) * p1) + p2)).toNatClampNeg) (
  dc_let (pvI S15 71 x22 ((((8 : Int32) * p1) + p2)).toNatClampNeg (p3 + (1 : Int32))) fun S24 =>
  some ((1 : Int32), S24))) (
  dc_nn (gvR S15 10 t 37) fun x27 =>
  dc_gd (p3 < 0 ∨ gvL S15 67 x27 ≤ (p3).toNatClampNeg) (
  dc_nn (gvR S15 10 t 39) fun x30 =>
  dc_gd (p1 < 0 ∨ gvL S15 69 x30 ≤ (p1).toNatClampNeg) (
  dc_bd (f_X10_isOf n S15 t (gvI S15 67 x27 (p3).toNatClampNeg) (gvI S15 69 x30 (p1).toNatClampNeg)) fun r32 S33 =>
  dc_if (r32 = 0) (
  dc_bd (f_X10_fails n S33 t (8 : Int32)) fun r43 S44 =>
  some (r43, S44)) (
  dc_nn (gvR S33 10 t 41) fun x39 =>
  dc_gd ((((8 : Int32) * p1) + p2) < 0 ∨ gvL S33 71 x39 ≤ ((((8 : Int32) * p1) + p2)).toNatClampNeg) (
  dc_let (pvI S33 71 x39 ((((8 : Int32) * p1) + p2)).toNatClampNeg (p3 + (1 : Int32))) fun S41 =>
  some ((1 : Int32), S41))))))))) (
  dc_bd (f_X10_isObject n S4 t p3) fun r51 S52 =>
  dc_if (r51 = 0) (
  some ((-2 : Int32), S52)) (
  dc_nn (gvR S52 10 t 40) fun x58 =>
  dc_gd (p1 < 0 ∨ gvL S52 70 x58 ≤ (p1).toNatClampNeg) (
  dc_let ((gvI S52 70 x58 (p1).toNatClampNeg) - (1 : Int32)) fun v60 =>
  dc_bd (f_X10_in n S52 p2.toInt64 (0 : Int64) v60.toInt64) fun r61 S62 =>
  dc_if (r61 = 0) (
  dc_bd (f_X10_fails n S62 t (11 : Int32)) fun r94 S95 =>
  some (r94, S95)) (
  dc_if (p3 < 0) (
  dc_nn (gvR S62 10 t 41) fun x69 =>
  dc_gd ((((8 : Int32) * p1) + p2) < 0 ∨ gvL S62 71 x69 ≤ ((((8 : Int32) * p1) + p2)).toNatClampNeg) (
  dc_let (pvI S62 71 x69 ((((8 : Int32) * p1) + p2)).toNatClampNeg (p3 + (1 : Int32))) fun S71 =>
  some ((1 : Int32), S71))) (
  dc_nn (gvR S62 10 t 37) fun x74 =>
  dc_gd (p3 < 0 ∨ gvL S62 67 x74 ≤ (p3).toNatClampNeg) (
  dc_nn (gvR S62 10 t 39) fun x77 =>
  dc_gd (p1 < 0 ∨ gvL S62 69 x77 ≤ (p1).toNatClampNeg) (
  dc_bd (f_X10_isOf n S62 t (gvI S62 67 x74 (p3).toNatClampNeg) (gvI S62 69 x77 (p1).toNatClampNeg)) fun r79 S80 =>
  dc_if (r79 = 0) (
  dc_bd (f_X10_fails n S80 t (8 : Int32)) fun r90 S91 =>
  some (r90, S91)) (
  dc_nn (gvR S80 10 t 41) fun x86 =>
  dc_gd ((((8 : Int32) * p1) + p2) < 0 ∨ gvL S80 71 x86 ≤ ((((8 : Int32) * p1) + p2)).toNatClampNeg) (
  dc_let (pvI S80 71 x86 ((((8 : Int32) * p1) + p2)).toNatClampNeg (p3 + (1 : Int32))) fun S88 =>
  some ((1 : Int32), S88)))))))))))
set_option maxHeartbeats 1000000 in
theorem m_X10_put {n : Nat} {S : lh_S} {t : Nat} {p1 : Int32} {p2 : Int32} {p3 : Int32} {r : Int32} {S' : lh_S} (hf : f_X10_put n S t p1 p2 p3 = some (r, S')) : ∀ b, gvN S b ≤ gvN S' b := by
  have hm : ∀ b, gvN S b ≤ gvN S b := fun _ => Nat.le_refl _
  unfold f_X10_put at hf
  obtain ⟨S1, eS1, hf⟩ := dc_let_ok hf
  have hm := lh_le_trans hm (show ∀ b, gvN S b ≤ gvN S1 b from by rw [eS1]; exact lh_mI)
  obtain ⟨r3, S4, k5, hf⟩ := dc_bd_ok hf
  have hm := lh_le_trans hm (show ∀ b, gvN S1 b ≤ gvN S4 b from m_X10_isRow k5)
  by_cases c8 : r3 = 0
  · replace hf := dc_if_t c8 hf
    obtain ⟨_, rfl⟩ := dc_ret hf
    exact hm
  · replace hf := dc_if_f c8 hf
    by_cases c9 : p3 = (-1 : Int32)
    · replace hf := dc_if_t c9 hf
      obtain ⟨x11, hx11, hf⟩ := dc_nn_ok hf
      obtain ⟨g12, hf⟩ := dc_gd_ok hf
      obtain ⟨v13, hv13, hf⟩ := dc_let_ok hf
      obtain ⟨r14, S15, k16, hf⟩ := dc_bd_ok hf
      have hm := lh_le_trans hm (show ∀ b, gvN S4 b ≤ gvN S15 b from m_X10_in k16)
      by_cases c19 : r14 = 0
      · replace hf := dc_if_t c19 hf
        obtain ⟨r47, S48, k49, hf⟩ := dc_bd_ok hf
        have hm := lh_le_trans hm (show ∀ b, gvN S15 b ≤ gvN S48 b from m_X10_fails k49)
        obtain ⟨_, rfl⟩ := dc_ret hf
        exact hm
      · replace hf := dc_if_f c19 hf
        by_cases c20 : p3 < 0
        · replace hf := dc_if_t c20 hf
          obtain ⟨x22, hx22, hf⟩ := dc_nn_ok hf
          obtain ⟨g23, hf⟩ := dc_gd_ok hf
          obtain ⟨S24, eS24, hf⟩ := dc_let_ok hf
          have hm := lh_le_trans hm (show ∀ b, gvN S15 b ≤ gvN S24 b from by rw [eS24]; exact lh_mI)
          obtain ⟨_, rfl⟩ := dc_ret hf
          exact hm
        · replace hf := dc_if_f c20 hf
          obtain ⟨x27, hx27, hf⟩ := dc_nn_ok hf
          obtain ⟨g28, hf⟩ := dc_gd_ok hf
          obtain ⟨x30, hx30, hf⟩ := dc_nn_ok hf
          obtain ⟨g31, hf⟩ := dc_gd_ok hf
          obtain ⟨r32, S33, k34, hf⟩ := dc_bd_ok hf
          have hm := lh_le_trans hm (show ∀ b, gvN S15 b ≤ gvN S33 b from m_X10_isOf k34)
          by_cases c37 : r32 = 0
          · replace hf := dc_if_t c37 hf
            obtain ⟨r43, S44, k45, hf⟩ := dc_bd_ok hf
            have hm := lh_le_trans hm (show ∀ b, gvN S33 b ≤ gvN S44 b from m_X10_fails k45)
            obtain ⟨_, rfl⟩ := dc_ret hf
            exact hm
          · replace hf := dc_if_f c37 hf
            obtain ⟨x39, hx39, hf⟩ := dc_nn_ok hf
            obtain ⟨g40, hf⟩ := dc_gd_ok hf
            obtain ⟨S41, eS41, hf⟩ := dc_let_ok hf
            have hm := lh_le_trans hm (show ∀ b, gvN S33 b ≤ gvN S41 b from by rw [eS41]; exact lh_mI)
            obtain ⟨_, rfl⟩ := dc_ret hf
            exact hm
    · replace hf := dc_if_f c9 hf
      obtain ⟨r51, S52, k53, hf⟩ := dc_bd_ok hf
      have hm := lh_le_trans hm (show ∀ b, gvN S4 b ≤ gvN S52 b from m_X10_isObject k53)
      by_cases c56 : r51 = 0
      · replace hf := dc_if_t c56 hf
        obtain ⟨_, rfl⟩ := dc_ret hf
        exact hm
      · replace hf := dc_if_f c56 hf
        obtain ⟨x58, hx58, hf⟩ := dc_nn_ok hf
        obtain ⟨g59, hf⟩ := dc_gd_ok hf
        obtain ⟨v60, hv60, hf⟩ := dc_let_ok hf
        obtain ⟨r61, S62, k63, hf⟩ := dc_bd_ok hf
        have hm := lh_le_trans hm (show ∀ b, gvN S52 b ≤ gvN S62 b from m_X10_in k63)
        by_cases c66 : r61 = 0
        · replace hf := dc_if_t c66 hf
          obtain ⟨r94, S95, k96, hf⟩ := dc_bd_ok hf
          have hm := lh_le_trans hm (show ∀ b, gvN S62 b ≤ gvN S95 b from m_X10_fails k96)
          obtain ⟨_, rfl⟩ := dc_ret hf
          exact hm
        · replace hf := dc_if_f c66 hf
          by_cases c67 : p3 < 0
          · replace hf := dc_if_t c67 hf
            obtain ⟨x69, hx69, hf⟩ := dc_nn_ok hf
            obtain ⟨g70, hf⟩ := dc_gd_ok hf
            obtain ⟨S71, eS71, hf⟩ := dc_let_ok hf
            have hm := lh_le_trans hm (show ∀ b, gvN S62 b ≤ gvN S71 b from by rw [eS71]; exact lh_mI)
            obtain ⟨_, rfl⟩ := dc_ret hf
            exact hm
          · replace hf := dc_if_f c67 hf
            obtain ⟨x74, hx74, hf⟩ := dc_nn_ok hf
            obtain ⟨g75, hf⟩ := dc_gd_ok hf
            obtain ⟨x77, hx77, hf⟩ := dc_nn_ok hf
            obtain ⟨g78, hf⟩ := dc_gd_ok hf
            obtain ⟨r79, S80, k81, hf⟩ := dc_bd_ok hf
            have hm := lh_le_trans hm (show ∀ b, gvN S62 b ≤ gvN S80 b from m_X10_isOf k81)
            by_cases c84 : r79 = 0
            · replace hf := dc_if_t c84 hf
              obtain ⟨r90, S91, k92, hf⟩ := dc_bd_ok hf
              have hm := lh_le_trans hm (show ∀ b, gvN S80 b ≤ gvN S91 b from m_X10_fails k92)
              obtain ⟨_, rfl⟩ := dc_ret hf
              exact hm
            · replace hf := dc_if_f c84 hf
              obtain ⟨x86, hx86, hf⟩ := dc_nn_ok hf
              obtain ⟨g87, hf⟩ := dc_gd_ok hf
              obtain ⟨S88, eS88, hf⟩ := dc_let_ok hf
              have hm := lh_le_trans hm (show ∀ b, gvN S80 b ≤ gvN S88 b from by rw [eS88]; exact lh_mI)
              obtain ⟨_, rfl⟩ := dc_ret hf
              exact hm
set_option maxHeartbeats 1000000 in
theorem k_X10_put {n : Nat} {S : lh_S} {t : Nat} {p1 : Int32} {p2 : Int32} {p3 : Int32} {r : Int32} {S' : lh_S} (hf : f_X10_put n S t p1 p2 p3 = some (r, S')) : lh_sm10 S S' := by
  have hm : lh_sm10 S S := lh_sm10_rf
  unfold f_X10_put at hf
  obtain ⟨S1, eS1, hf⟩ := dc_let_ok hf
  have hm := lh_sm10_trans hm (show lh_sm10 S S1 from by rw [eS1]; exact (lh_sm10I (by decide)))
  obtain ⟨r3, S4, k5, hf⟩ := dc_bd_ok hf
  have hm := lh_sm10_trans hm (show lh_sm10 S1 S4 from k_X10_isRow k5)
  by_cases c8 : r3 = 0
  · replace hf := dc_if_t c8 hf
    obtain ⟨_, rfl⟩ := dc_ret hf
    exact hm
  · replace hf := dc_if_f c8 hf
    by_cases c9 : p3 = (-1 : Int32)
    · replace hf := dc_if_t c9 hf
      obtain ⟨x11, hx11, hf⟩ := dc_nn_ok hf
      obtain ⟨g12, hf⟩ := dc_gd_ok hf
      obtain ⟨v13, hv13, hf⟩ := dc_let_ok hf
      obtain ⟨r14, S15, k16, hf⟩ := dc_bd_ok hf
      have hm := lh_sm10_trans hm (show lh_sm10 S4 S15 from k_X10_in k16)
      by_cases c19 : r14 = 0
      · replace hf := dc_if_t c19 hf
        obtain ⟨r47, S48, k49, hf⟩ := dc_bd_ok hf
        have hm := lh_sm10_trans hm (show lh_sm10 S15 S48 from k_X10_fails k49)
        obtain ⟨_, rfl⟩ := dc_ret hf
        exact hm
      · replace hf := dc_if_f c19 hf
        by_cases c20 : p3 < 0
        · replace hf := dc_if_t c20 hf
          obtain ⟨x22, hx22, hf⟩ := dc_nn_ok hf
          obtain ⟨g23, hf⟩ := dc_gd_ok hf
          obtain ⟨S24, eS24, hf⟩ := dc_let_ok hf
          have hm := lh_sm10_trans hm (show lh_sm10 S15 S24 from by rw [eS24]; exact (lh_sm10I (by decide)))
          obtain ⟨_, rfl⟩ := dc_ret hf
          exact hm
        · replace hf := dc_if_f c20 hf
          obtain ⟨x27, hx27, hf⟩ := dc_nn_ok hf
          obtain ⟨g28, hf⟩ := dc_gd_ok hf
          obtain ⟨x30, hx30, hf⟩ := dc_nn_ok hf
          obtain ⟨g31, hf⟩ := dc_gd_ok hf
          obtain ⟨r32, S33, k34, hf⟩ := dc_bd_ok hf
          have hm := lh_sm10_trans hm (show lh_sm10 S15 S33 from k_X10_isOf k34)
          by_cases c37 : r32 = 0
          · replace hf := dc_if_t c37 hf
            obtain ⟨r43, S44, k45, hf⟩ := dc_bd_ok hf
            have hm := lh_sm10_trans hm (show lh_sm10 S33 S44 from k_X10_fails k45)
            obtain ⟨_, rfl⟩ := dc_ret hf
            exact hm
          · replace hf := dc_if_f c37 hf
            obtain ⟨x39, hx39, hf⟩ := dc_nn_ok hf
            obtain ⟨g40, hf⟩ := dc_gd_ok hf
            obtain ⟨S41, eS41, hf⟩ := dc_let_ok hf
            have hm := lh_sm10_trans hm (show lh_sm10 S33 S41 from by rw [eS41]; exact (lh_sm10I (by decide)))
            obtain ⟨_, rfl⟩ := dc_ret hf
            exact hm
    · replace hf := dc_if_f c9 hf
      obtain ⟨r51, S52, k53, hf⟩ := dc_bd_ok hf
      have hm := lh_sm10_trans hm (show lh_sm10 S4 S52 from k_X10_isObject k53)
      by_cases c56 : r51 = 0
      · replace hf := dc_if_t c56 hf
        obtain ⟨_, rfl⟩ := dc_ret hf
        exact hm
      · replace hf := dc_if_f c56 hf
        obtain ⟨x58, hx58, hf⟩ := dc_nn_ok hf
        obtain ⟨g59, hf⟩ := dc_gd_ok hf
        obtain ⟨v60, hv60, hf⟩ := dc_let_ok hf
        obtain ⟨r61, S62, k63, hf⟩ := dc_bd_ok hf
        have hm := lh_sm10_trans hm (show lh_sm10 S52 S62 from k_X10_in k63)
        by_cases c66 : r61 = 0
        · replace hf := dc_if_t c66 hf
          obtain ⟨r94, S95, k96, hf⟩ := dc_bd_ok hf
          have hm := lh_sm10_trans hm (show lh_sm10 S62 S95 from k_X10_fails k96)
          obtain ⟨_, rfl⟩ := dc_ret hf
          exact hm
        · replace hf := dc_if_f c66 hf
          by_cases c67 : p3 < 0
          · replace hf := dc_if_t c67 hf
            obtain ⟨x69, hx69, hf⟩ := dc_nn_ok hf
            obtain ⟨g70, hf⟩ := dc_gd_ok hf
            obtain ⟨S71, eS71, hf⟩ := dc_let_ok hf
            have hm := lh_sm10_trans hm (show lh_sm10 S62 S71 from by rw [eS71]; exact (lh_sm10I (by decide)))
            obtain ⟨_, rfl⟩ := dc_ret hf
            exact hm
          · replace hf := dc_if_f c67 hf
            obtain ⟨x74, hx74, hf⟩ := dc_nn_ok hf
            obtain ⟨g75, hf⟩ := dc_gd_ok hf
            obtain ⟨x77, hx77, hf⟩ := dc_nn_ok hf
            obtain ⟨g78, hf⟩ := dc_gd_ok hf
            obtain ⟨r79, S80, k81, hf⟩ := dc_bd_ok hf
            have hm := lh_sm10_trans hm (show lh_sm10 S62 S80 from k_X10_isOf k81)
            by_cases c84 : r79 = 0
            · replace hf := dc_if_t c84 hf
              obtain ⟨r90, S91, k92, hf⟩ := dc_bd_ok hf
              have hm := lh_sm10_trans hm (show lh_sm10 S80 S91 from k_X10_fails k92)
              obtain ⟨_, rfl⟩ := dc_ret hf
              exact hm
            · replace hf := dc_if_f c84 hf
              obtain ⟨x86, hx86, hf⟩ := dc_nn_ok hf
              obtain ⟨g87, hf⟩ := dc_gd_ok hf
              obtain ⟨S88, eS88, hf⟩ := dc_let_ok hf
              have hm := lh_sm10_trans hm (show lh_sm10 S80 S88 from by rw [eS88]; exact (lh_sm10I (by decide)))
              obtain ⟨_, rfl⟩ := dc_ret hf
              exact hm
set_option maxHeartbeats 4000000 in
set_option maxRecDepth 100000 in
theorem c_X10_put (l : Launch) (D : va_G) (cT : Nat → ClassId) (n : Nat) (S : lh_S) (ad : Nat → Nat → Nat) (A : Nat → Prop) (sz : Nat) (hA : ∀ q, sz ≤ q → A q) (t : Nat) (p1 : Int32) (p2 : Int32) (p3 : Int32) (r : Int32) (S' : lh_S) (hf : f_X10_put n S t p1 p2 p3 = some (r, S')) (L_t : ∀ j, some t = some j → j < gvN S 10) : Met l yX10_put wsX10_put ({ frames := 2, cells := 0, slots := 0, locals := 46 } : Room) (lh_P D cT S ad A sz [lh_r ad 10 (some t), .int p1, .int p2, .int p3]) (lh_Q D cT S' ad A ((∀ b, gvN S b ≤ gvN S' b) ∧ True) (some (.int r))) 0 0 A := by
  refine Met.ofW (cc := cX10_put) (maxL := 4) (ret := (some .int)) (by decide) rfl ?_
  intro p e s m args below meth c s₁ B hml hv
  obtain ⟨hargs, hsz, hW, hK, hN⟩ := hv
  have hx := B.exec
  have hb := B.bytes
  have hr := B.returns
  have hts := atoms_spec (ws := wsX10_put) B.pre
  have hown : s.vm.findClass RX10 = some m.cls := findClass_of_methodNamed B.named
  have hlocks := B.notSynchronized
  have hA : ∀ q, s.heap.size ≤ q → A q := fun q h => hA q (by rw [← hsz]; exact h)
  have ok := lh_W_ok hW
  have hm : ∀ b, gvN S b ≤ gvN S b := fun _ => Nat.le_refl _
  obtain ⟨ls, hent, hl⟩ := lh_entry m args [lh_r ad 10 (some t), .int p1, .int p2, .int p3] 4 [(0, lh_r ad 10 (some t)), (1, .int p1), (2, .int p2), (3, .int p3)] hargs (by simp [lv_args, lh_cat_r, lh_cat_i, lh_cat_j]) (by simp [lg_sl, lh_cat_r, lh_cat_i, lh_cat_j])
  rw [hent]
  generalize hH : s.heap = H at hW ⊢
  have hS : va_S A s.heap H [] := by rw [← hH]; exact va_S.rf
  unfold f_X10_put at hf
  refine lh_aload_n hx hb dX10_put_0 rfl (lv_at hl 0 rfl) ?_
  refine lv_iconst (v := 0) hx hb dX10_put_1 (by decide) ?_
  obtain ⟨S1, eS1, hf⟩ := dc_let_ok hf
  refine lh_put (S' := S1) (a := 10) (k := 0) (N := 42) (C := RX10) (T := TX10) (own := RX10) (ref := "LoaderModelsModel") (ty := .int) hx hb hts (fun _ h => (List.mem_cons_of_mem _ (List.mem_append_right _ h))) tyX10 tyX10_ok nmX10 hown hK hW hS rfl (L_t _ rfl) rfl rfl rfl (by decide) (hts (.fieldLink RX10 1 "LoaderModelsModel" "thrown" "I") (List.mem_cons_of_mem _ (List.mem_append_left _ (List.mem_append_left _ (List.mem_of_getElem? (i := 0) rfl))))) (fun _ h9 => h9) (Or.inl rfl) (by decide +kernel) rfl rfl (fun q9 => by rw [eS1]; exact lh_chI rfl q9) dX10_put_2 (fun H locs hW hS => ?_)
  have m2 : ∀ b, gvN S b ≤ gvN S1 b := by rw [eS1]; exact lh_mI
  have L_t : ∀ j, some t = some j → j < gvN S1 10 := fun j h => Nat.lt_of_lt_of_le (L_t j h) (m2 _)
  have hm : ∀ b, gvN S b ≤ gvN S1 b := lh_le_trans hm m2
  have ok := lh_W_ok hW
  refine lh_aload_n hx hb dX10_put_5 rfl (lv_at hl 0 rfl) ?_
  refine lv_iload_n hx hb dX10_put_6 rfl (lv_at hl 1 rfl) ?_
  obtain ⟨r3, S4, k5, hf⟩ := dc_bd_ok hf
  refine lh_call (S' := S4) (lh_rv ⟨hx, hb, hml, hown, hts⟩ rfl (As := [.int p1]) (rest := []) (k := 10) (c_X10_isRow l D cT n S1 ad A H.size (fun q9 h9 => hA q9 (Nat.le_trans hS.1 h9)) t p1 r3 S4 k5 L_t) (cwV 1 hts gX10_put_X10_isRow rfl rfl rfl (by decide +kernel) ⟨Nat.le_of_ble_eq_true rfl, Nat.le_of_ble_eq_true rfl⟩) hK hN hW (L_t _ rfl) rfl rfl rfl hl.1 rfl (by simp [lh_cat_r, lh_cat_i, lh_cat_j]) dX10_put_7 ⟨Nat.le_of_ble_eq_true rfl, Nat.le_of_ble_eq_true rfl⟩) hS (fun H locs hX hW hS => ?_)
  refine W.widen (k := 0) (n := 0) (by omega) (by omega) ?_
  show W _ _ _ _ _ _ _ _ _ _ _ _ _ _ _ (F0 m 10 ls [.int r3])
  have m6 : ∀ b, gvN S1 b ≤ gvN S4 b := hX.1
  have L_t : ∀ j, some t = some j → j < gvN S4 10 := fun j h => Nat.lt_of_lt_of_le (L_t j h) (m6 _)
  have hm : ∀ b, gvN S b ≤ gvN S4 b := lh_le_trans hm m6
  have ok := lh_W_ok hW
  have z7 := hX.2
  refine lv_if_eq (tgt := 26) hx hb dX10_put_10 (by decide) (fun c8 => ?_) (fun c8 => ?_)
  · replace hf := dc_if_t c8 hf
    refine lv_bipush (v := -2) hx hb dX10_put_26 (by decide) ?_
    obtain ⟨rfl, rfl⟩ := dc_ret hf
    exact W.iret (v := (-2 : Int32)) hx hb hr (fun t9 ht9 hW9 => ⟨⟨rfl, ⟨hm, trivial⟩, by rw [ht9]; exact hW⟩, hS.F ht9⟩) hS.2.2 dX10_put_28
  · replace hf := dc_if_f c8 hf
    refine lv_iload_n hx hb dX10_put_13 rfl (lv_at hl 3 rfl) ?_
    refine lv_iconst (v := -1) hx hb dX10_put_14 (by decide) ?_
    refine lv_icmp_eq (tgt := 29) hx hb dX10_put_15 (by decide) (fun c9 => ?_) (fun c9 => ?_)
    · replace hf := dc_if_t c9 hf
      refine lv_iload_n hx hb dX10_put_29 rfl (lv_at hl 2 rfl) ?_
      refine lv_i2l (v := p2.toInt64) hx hb dX10_put_30 rfl ?_
      refine lv_lconst (v := 0) hx hb dX10_put_31 (by decide) ?_
      refine lh_aload_n hx hb dX10_put_32 rfl (lv_at hl 0 rfl) ?_
      have L10 : ∀ j, gvR S4 10 t 40 = some j → j < gvN S4 70 := fun j h => ok _ _ _ _ j (L_t _ rfl) rfl h
      refine lh_get (a := 10) (k := 40) (N := 42) (C := RX10) (T := TX10) (own := RX10) (ref := "LoaderModelsModel") hx hb hts (fun _ h => (List.mem_cons_of_mem _ (List.mem_append_right _ h))) hown hK hW rfl (L_t _ rfl) rfl rfl rfl (by decide) (hts (.fieldLink RX10 103 "LoaderModelsModel" "rowSize" "[I") (List.mem_cons_of_mem _ (List.mem_append_left _ (List.mem_append_left _ (List.mem_of_getElem? (i := 1) rfl))))) (fun _ h9 => h9) dX10_put_33 (v := lh_r ad 70 (gvR S4 10 t 40)) rfl ?_
      refine lv_iload_n hx hb dX10_put_36 rfl (lv_at hl 1 rfl) ?_
      obtain ⟨x11, hx11, hf⟩ := dc_nn_ok hf
      obtain ⟨g12, hf⟩ := dc_gd_ok hf
      refine lh_ald_i (a := 70) hx hb hK hW hx11 (L10 _ hx11) rfl rfl g12 dX10_put_37 ?_
      refine lv_iconst (v := 1) hx hb dX10_put_38 (by decide) ?_
      refine lv_isub hx hb dX10_put_39 ?_
      refine lv_topi (fun v13 hv13 => ?_)
      replace hf := dc_let_e hv13 hf
      refine lv_i2l (v := v13.toInt64) hx hb dX10_put_40 rfl ?_
      obtain ⟨r14, S15, k16, hf⟩ := dc_bd_ok hf
      refine lh_call (S' := S15) (lh_rs ⟨hx, hb, hml, hown, hts⟩ (As := [.long p2.toInt64, .long (0 : Int64), .long v13.toInt64]) (rest := []) (c_X10_in l D cT n S4 ad A H.size (fun q9 h9 => hA q9 (Nat.le_trans hS.1 h9)) p2.toInt64 (0 : Int64) v13.toInt64 r14 S15 k16 ) (va_cwS 3 hts gX10_put_X10_in rfl rfl rfl (by decide +kernel) ⟨Nat.le_of_ble_eq_true rfl, Nat.le_of_ble_eq_true rfl⟩) hK hN hW rfl hl.1 rfl (by simp [lh_cat_r, lh_cat_i, lh_cat_j]) dX10_put_41 ⟨Nat.le_of_ble_eq_true rfl, Nat.le_of_ble_eq_true rfl⟩) hS (fun H locs hX hW hS => ?_)
      refine W.widen (k := 0) (n := 0) (by omega) (by omega) ?_
      show W _ _ _ _ _ _ _ _ _ _ _ _ _ _ _ (F0 m 44 ls [.int r14])
      have m17 : ∀ b, gvN S4 b ≤ gvN S15 b := hX.1
      have L_t : ∀ j, some t = some j → j < gvN S15 10 := fun j h => Nat.lt_of_lt_of_le (L_t j h) (m17 _)
      have hm : ∀ b, gvN S b ≤ gvN S15 b := lh_le_trans hm m17
      have ok := lh_W_ok hW
      have z18 := hX.2
      refine lv_if_ne (tgt := 54) hx hb dX10_put_44 (by decide) (fun c19 => ?_) (fun c19 => ?_)
      · replace hf := dc_if_f c19 hf
        refine lv_iload_n hx hb dX10_put_54 rfl (lv_at hl 3 rfl) ?_
        refine lv_if_lt (tgt := 84) hx hb dX10_put_55 (by decide) (fun c20 => ?_) (fun c20 => ?_)
        · replace hf := dc_if_t c20 hf
          refine lh_aload_n hx hb dX10_put_84 rfl (lv_at hl 0 rfl) ?_
          have L21 : ∀ j, gvR S15 10 t 41 = some j → j < gvN S15 71 := fun j h => ok _ _ _ _ j (L_t _ rfl) rfl h
          refine lh_get (a := 10) (k := 41) (N := 42) (C := RX10) (T := TX10) (own := RX10) (ref := "LoaderModelsModel") hx hb hts (fun _ h => (List.mem_cons_of_mem _ (List.mem_append_right _ h))) hown hK hW rfl (L_t _ rfl) rfl rfl rfl (by decide) (hts (.fieldLink RX10 106 "LoaderModelsModel" "rowItem" "[I") (List.mem_cons_of_mem _ (List.mem_append_left _ (List.mem_append_left _ (List.mem_of_getElem? (i := 4) rfl))))) (fun _ h9 => h9) dX10_put_85 (v := lh_r ad 71 (gvR S15 10 t 41)) rfl ?_
          refine lv_bipush (v := 8) hx hb dX10_put_88 (by decide) ?_
          refine lv_iload_n hx hb dX10_put_90 rfl (lv_at hl 1 rfl) ?_
          refine lv_imul hx hb dX10_put_91 ?_
          refine lv_iload_n hx hb dX10_put_92 rfl (lv_at hl 2 rfl) ?_
          refine lv_iadd hx hb dX10_put_93 ?_
          refine lv_iload_n hx hb dX10_put_94 rfl (lv_at hl 3 rfl) ?_
          refine lv_iconst (v := 1) hx hb dX10_put_95 (by decide) ?_
          refine lv_iadd hx hb dX10_put_96 ?_
          obtain ⟨x22, hx22, hf⟩ := dc_nn_ok hf
          obtain ⟨g23, hf⟩ := dc_gd_ok hf
          obtain ⟨S24, eS24, hf⟩ := dc_let_ok hf
          refine lh_ast_i (a := 71) hx hb hK hW hS hx22 (L21 _ hx22) rfl (fun _ => rfl) g23 dX10_put_97 (fun H locs hW hS => ?_)
          rw [← eS24] at hW
          have m25 : ∀ b, gvN S15 b ≤ gvN S24 b := by rw [eS24]; exact lh_mI
          have L_t : ∀ j, some t = some j → j < gvN S24 10 := fun j h => Nat.lt_of_lt_of_le (L_t j h) (m25 _)
          have hm : ∀ b, gvN S b ≤ gvN S24 b := lh_le_trans hm m25
          have ok := lh_W_ok hW
          refine lv_iconst (v := 1) hx hb dX10_put_98 (by decide) ?_
          obtain ⟨rfl, rfl⟩ := dc_ret hf
          exact W.iret (v := (1 : Int32)) hx hb hr (fun t9 ht9 hW9 => ⟨⟨rfl, ⟨hm, trivial⟩, by rw [ht9]; exact hW⟩, hS.F ht9⟩) hS.2.2 dX10_put_99
        · replace hf := dc_if_f c20 hf
          refine lh_aload_n hx hb dX10_put_58 rfl (lv_at hl 0 rfl) ?_
          refine lh_aload_n hx hb dX10_put_59 rfl (lv_at hl 0 rfl) ?_
          have L26 : ∀ j, gvR S15 10 t 37 = some j → j < gvN S15 67 := fun j h => ok _ _ _ _ j (L_t _ rfl) rfl h
          refine lh_get (a := 10) (k := 37) (N := 42) (C := RX10) (T := TX10) (own := RX10) (ref := "LoaderModelsModel") hx hb hts (fun _ h => (List.mem_cons_of_mem _ (List.mem_append_right _ h))) hown hK hW rfl (L_t _ rfl) rfl rfl rfl (by decide) (hts (.fieldLink RX10 97 "LoaderModelsModel" "objectClass" "[I") (List.mem_cons_of_mem _ (List.mem_append_left _ (List.mem_append_left _ (List.mem_of_getElem? (i := 2) rfl))))) (fun _ h9 => h9) dX10_put_60 (v := lh_r ad 67 (gvR S15 10 t 37)) rfl ?_
          refine lv_iload_n hx hb dX10_put_63 rfl (lv_at hl 3 rfl) ?_
          obtain ⟨x27, hx27, hf⟩ := dc_nn_ok hf
          obtain ⟨g28, hf⟩ := dc_gd_ok hf
          refine lh_ald_i (a := 67) hx hb hK hW hx27 (L26 _ hx27) rfl rfl g28 dX10_put_64 ?_
          refine lh_aload_n hx hb dX10_put_65 rfl (lv_at hl 0 rfl) ?_
          have L29 : ∀ j, gvR S15 10 t 39 = some j → j < gvN S15 69 := fun j h => ok _ _ _ _ j (L_t _ rfl) rfl h
          refine lh_get (a := 10) (k := 39) (N := 42) (C := RX10) (T := TX10) (own := RX10) (ref := "LoaderModelsModel") hx hb hts (fun _ h => (List.mem_cons_of_mem _ (List.mem_append_right _ h))) hown hK hW rfl (L_t _ rfl) rfl rfl rfl (by decide) (hts (.fieldLink RX10 100 "LoaderModelsModel" "rowClass" "[I") (List.mem_cons_of_mem _ (List.mem_append_left _ (List.mem_append_left _ (List.mem_of_getElem? (i := 3) rfl))))) (fun _ h9 => h9) dX10_put_66 (v := lh_r ad 69 (gvR S15 10 t 39)) rfl ?_
          refine lv_iload_n hx hb dX10_put_69 rfl (lv_at hl 1 rfl) ?_
          obtain ⟨x30, hx30, hf⟩ := dc_nn_ok hf
          obtain ⟨g31, hf⟩ := dc_gd_ok hf
          refine lh_ald_i (a := 69) hx hb hK hW hx30 (L29 _ hx30) rfl rfl g31 dX10_put_70 ?_
          obtain ⟨r32, S33, k34, hf⟩ := dc_bd_ok hf
          refine lh_call (S' := S33) (lh_rv ⟨hx, hb, hml, hown, hts⟩ rfl (As := [.int (gvI S15 67 x27 (p3).toNatClampNeg), .int (gvI S15 69 x30 (p1).toNatClampNeg)]) (rest := []) (k := 10) (c_X10_isOf l D cT n S15 ad A H.size (fun q9 h9 => hA q9 (Nat.le_trans hS.1 h9)) t (gvI S15 67 x27 (p3).toNatClampNeg) (gvI S15 69 x30 (p1).toNatClampNeg) r32 S33 k34 L_t) (cwV 2 hts gX10_put_X10_isOf rfl rfl rfl (by decide +kernel) ⟨Nat.le_of_ble_eq_true rfl, Nat.le_of_ble_eq_true rfl⟩) hK hN hW (L_t _ rfl) rfl rfl rfl hl.1 rfl (by simp [lh_cat_r, lh_cat_i, lh_cat_j]) dX10_put_71 ⟨Nat.le_of_ble_eq_true rfl, Nat.le_of_ble_eq_true rfl⟩) hS (fun H locs hX hW hS => ?_)
          refine W.widen (k := 0) (n := 0) (by omega) (by omega) ?_
          show W _ _ _ _ _ _ _ _ _ _ _ _ _ _ _ (F0 m 74 ls [.int r32])
          have m35 : ∀ b, gvN S15 b ≤ gvN S33 b := hX.1
          have L_t : ∀ j, some t = some j → j < gvN S33 10 := fun j h => Nat.lt_of_lt_of_le (L_t j h) (m35 _)
          have hm : ∀ b, gvN S b ≤ gvN S33 b := lh_le_trans hm m35
          have ok := lh_W_ok hW
          have z36 := hX.2
          refine lv_if_ne (tgt := 84) hx hb dX10_put_74 (by decide) (fun c37 => ?_) (fun c37 => ?_)
          · replace hf := dc_if_f c37 hf
            refine lh_aload_n hx hb dX10_put_84 rfl (lv_at hl 0 rfl) ?_
            have L38 : ∀ j, gvR S33 10 t 41 = some j → j < gvN S33 71 := fun j h => ok _ _ _ _ j (L_t _ rfl) rfl h
            refine lh_get (a := 10) (k := 41) (N := 42) (C := RX10) (T := TX10) (own := RX10) (ref := "LoaderModelsModel") hx hb hts (fun _ h => (List.mem_cons_of_mem _ (List.mem_append_right _ h))) hown hK hW rfl (L_t _ rfl) rfl rfl rfl (by decide) (hts (.fieldLink RX10 106 "LoaderModelsModel" "rowItem" "[I") (List.mem_cons_of_mem _ (List.mem_append_left _ (List.mem_append_left _ (List.mem_of_getElem? (i := 4) rfl))))) (fun _ h9 => h9) dX10_put_85 (v := lh_r ad 71 (gvR S33 10 t 41)) rfl ?_
            refine lv_bipush (v := 8) hx hb dX10_put_88 (by decide) ?_
            refine lv_iload_n hx hb dX10_put_90 rfl (lv_at hl 1 rfl) ?_
            refine lv_imul hx hb dX10_put_91 ?_
            refine lv_iload_n hx hb dX10_put_92 rfl (lv_at hl 2 rfl) ?_
            refine lv_iadd hx hb dX10_put_93 ?_
            refine lv_iload_n hx hb dX10_put_94 rfl (lv_at hl 3 rfl) ?_
            refine lv_iconst (v := 1) hx hb dX10_put_95 (by decide) ?_
            refine lv_iadd hx hb dX10_put_96 ?_
            obtain ⟨x39, hx39, hf⟩ := dc_nn_ok hf
            obtain ⟨g40, hf⟩ := dc_gd_ok hf
            obtain ⟨S41, eS41, hf⟩ := dc_let_ok hf
            refine lh_ast_i (a := 71) hx hb hK hW hS hx39 (L38 _ hx39) rfl (fun _ => rfl) g40 dX10_put_97 (fun H locs hW hS => ?_)
            rw [← eS41] at hW
            have m42 : ∀ b, gvN S33 b ≤ gvN S41 b := by rw [eS41]; exact lh_mI
            have L_t : ∀ j, some t = some j → j < gvN S41 10 := fun j h => Nat.lt_of_lt_of_le (L_t j h) (m42 _)
            have hm : ∀ b, gvN S b ≤ gvN S41 b := lh_le_trans hm m42
            have ok := lh_W_ok hW
            refine lv_iconst (v := 1) hx hb dX10_put_98 (by decide) ?_
            obtain ⟨rfl, rfl⟩ := dc_ret hf
            exact W.iret (v := (1 : Int32)) hx hb hr (fun t9 ht9 hW9 => ⟨⟨rfl, ⟨hm, trivial⟩, by rw [ht9]; exact hW⟩, hS.F ht9⟩) hS.2.2 dX10_put_99
          · replace hf := dc_if_t c37 hf
            refine lh_aload_n hx hb dX10_put_77 rfl (lv_at hl 0 rfl) ?_
            refine lv_bipush (v := 8) hx hb dX10_put_78 (by decide) ?_
            obtain ⟨r43, S44, k45, hf⟩ := dc_bd_ok hf
            refine lh_call (S' := S44) (lh_rv ⟨hx, hb, hml, hown, hts⟩ rfl (As := [.int (8 : Int32)]) (rest := []) (k := 10) (c_X10_fails l D cT n S33 ad A H.size (fun q9 h9 => hA q9 (Nat.le_trans hS.1 h9)) t (8 : Int32) r43 S44 k45 L_t) (cwV 1 hts gX10_put_X10_fails rfl rfl rfl (by decide +kernel) ⟨Nat.le_of_ble_eq_true rfl, Nat.le_of_ble_eq_true rfl⟩) hK hN hW (L_t _ rfl) rfl rfl rfl hl.1 rfl (by simp [lh_cat_r, lh_cat_i, lh_cat_j]) dX10_put_80 ⟨Nat.le_of_ble_eq_true rfl, Nat.le_of_ble_eq_true rfl⟩) hS (fun H locs hX hW hS => ?_)
            refine W.widen (k := 0) (n := 0) (by omega) (by omega) ?_
            show W _ _ _ _ _ _ _ _ _ _ _ _ _ _ _ (F0 m 83 ls [.int r43])
            have m46 : ∀ b, gvN S33 b ≤ gvN S44 b := hX.1
            have L_t : ∀ j, some t = some j → j < gvN S44 10 := fun j h => Nat.lt_of_lt_of_le (L_t j h) (m46 _)
            have hm : ∀ b, gvN S b ≤ gvN S44 b := lh_le_trans hm m46
            have ok := lh_W_ok hW
            obtain ⟨rfl, rfl⟩ := dc_ret hf
            exact W.iret (v := r43) hx hb hr (fun t9 ht9 hW9 => ⟨⟨rfl, ⟨hm, trivial⟩, by rw [ht9]; exact hW⟩, hS.F ht9⟩) hS.2.2 dX10_put_83
      · replace hf := dc_if_t c19 hf
        refine lh_aload_n hx hb dX10_put_47 rfl (lv_at hl 0 rfl) ?_
        refine lv_bipush (v := 11) hx hb dX10_put_48 (by decide) ?_
        obtain ⟨r47, S48, k49, hf⟩ := dc_bd_ok hf
        refine lh_call (S' := S48) (lh_rv ⟨hx, hb, hml, hown, hts⟩ rfl (As := [.int (11 : Int32)]) (rest := []) (k := 10) (c_X10_fails l D cT n S15 ad A H.size (fun q9 h9 => hA q9 (Nat.le_trans hS.1 h9)) t (11 : Int32) r47 S48 k49 L_t) (cwV 1 hts gX10_put_X10_fails rfl rfl rfl (by decide +kernel) ⟨Nat.le_of_ble_eq_true rfl, Nat.le_of_ble_eq_true rfl⟩) hK hN hW (L_t _ rfl) rfl rfl rfl hl.1 rfl (by simp [lh_cat_r, lh_cat_i, lh_cat_j]) dX10_put_50 ⟨Nat.le_of_ble_eq_true rfl, Nat.le_of_ble_eq_true rfl⟩) hS (fun H locs hX hW hS => ?_)
        refine W.widen (k := 0) (n := 0) (by omega) (by omega) ?_
        show W _ _ _ _ _ _ _ _ _ _ _ _ _ _ _ (F0 m 53 ls [.int r47])
        have m50 : ∀ b, gvN S15 b ≤ gvN S48 b := hX.1
        have L_t : ∀ j, some t = some j → j < gvN S48 10 := fun j h => Nat.lt_of_lt_of_le (L_t j h) (m50 _)
        have hm : ∀ b, gvN S b ≤ gvN S48 b := lh_le_trans hm m50
        have ok := lh_W_ok hW
        obtain ⟨rfl, rfl⟩ := dc_ret hf
        exact W.iret (v := r47) hx hb hr (fun t9 ht9 hW9 => ⟨⟨rfl, ⟨hm, trivial⟩, by rw [ht9]; exact hW⟩, hS.F ht9⟩) hS.2.2 dX10_put_53
    · replace hf := dc_if_f c9 hf
      refine lh_aload_n hx hb dX10_put_18 rfl (lv_at hl 0 rfl) ?_
      refine lv_iload_n hx hb dX10_put_19 rfl (lv_at hl 3 rfl) ?_
      obtain ⟨r51, S52, k53, hf⟩ := dc_bd_ok hf
      refine lh_call (S' := S52) (lh_rv ⟨hx, hb, hml, hown, hts⟩ rfl (As := [.int p3]) (rest := []) (k := 10) (c_X10_isObject l D cT n S4 ad A H.size (fun q9 h9 => hA q9 (Nat.le_trans hS.1 h9)) t p3 r51 S52 k53 L_t) (cwV 1 hts gX10_put_X10_isObject rfl rfl rfl (by decide +kernel) ⟨Nat.le_of_ble_eq_true rfl, Nat.le_of_ble_eq_true rfl⟩) hK hN hW (L_t _ rfl) rfl rfl rfl hl.1 rfl (by simp [lh_cat_r, lh_cat_i, lh_cat_j]) dX10_put_20 ⟨Nat.le_of_ble_eq_true rfl, Nat.le_of_ble_eq_true rfl⟩) hS (fun H locs hX hW hS => ?_)
      refine W.widen (k := 0) (n := 0) (by omega) (by omega) ?_
      show W _ _ _ _ _ _ _ _ _ _ _ _ _ _ _ (F0 m 23 ls [.int r51])
      have m54 : ∀ b, gvN S4 b ≤ gvN S52 b := hX.1
      have L_t : ∀ j, some t = some j → j < gvN S52 10 := fun j h => Nat.lt_of_lt_of_le (L_t j h) (m54 _)
      have hm : ∀ b, gvN S b ≤ gvN S52 b := lh_le_trans hm m54
      have ok := lh_W_ok hW
      have z55 := hX.2
      refine lv_if_ne (tgt := 29) hx hb dX10_put_23 (by decide) (fun c56 => ?_) (fun c56 => ?_)
      · replace hf := dc_if_f c56 hf
        refine lv_iload_n hx hb dX10_put_29 rfl (lv_at hl 2 rfl) ?_
        refine lv_i2l (v := p2.toInt64) hx hb dX10_put_30 rfl ?_
        refine lv_lconst (v := 0) hx hb dX10_put_31 (by decide) ?_
        refine lh_aload_n hx hb dX10_put_32 rfl (lv_at hl 0 rfl) ?_
        have L57 : ∀ j, gvR S52 10 t 40 = some j → j < gvN S52 70 := fun j h => ok _ _ _ _ j (L_t _ rfl) rfl h
        refine lh_get (a := 10) (k := 40) (N := 42) (C := RX10) (T := TX10) (own := RX10) (ref := "LoaderModelsModel") hx hb hts (fun _ h => (List.mem_cons_of_mem _ (List.mem_append_right _ h))) hown hK hW rfl (L_t _ rfl) rfl rfl rfl (by decide) (hts (.fieldLink RX10 103 "LoaderModelsModel" "rowSize" "[I") (List.mem_cons_of_mem _ (List.mem_append_left _ (List.mem_append_left _ (List.mem_of_getElem? (i := 1) rfl))))) (fun _ h9 => h9) dX10_put_33 (v := lh_r ad 70 (gvR S52 10 t 40)) rfl ?_
        refine lv_iload_n hx hb dX10_put_36 rfl (lv_at hl 1 rfl) ?_
        obtain ⟨x58, hx58, hf⟩ := dc_nn_ok hf
        obtain ⟨g59, hf⟩ := dc_gd_ok hf
        refine lh_ald_i (a := 70) hx hb hK hW hx58 (L57 _ hx58) rfl rfl g59 dX10_put_37 ?_
        refine lv_iconst (v := 1) hx hb dX10_put_38 (by decide) ?_
        refine lv_isub hx hb dX10_put_39 ?_
        refine lv_topi (fun v60 hv60 => ?_)
        replace hf := dc_let_e hv60 hf
        refine lv_i2l (v := v60.toInt64) hx hb dX10_put_40 rfl ?_
        obtain ⟨r61, S62, k63, hf⟩ := dc_bd_ok hf
        refine lh_call (S' := S62) (lh_rs ⟨hx, hb, hml, hown, hts⟩ (As := [.long p2.toInt64, .long (0 : Int64), .long v60.toInt64]) (rest := []) (c_X10_in l D cT n S52 ad A H.size (fun q9 h9 => hA q9 (Nat.le_trans hS.1 h9)) p2.toInt64 (0 : Int64) v60.toInt64 r61 S62 k63 ) (va_cwS 3 hts gX10_put_X10_in rfl rfl rfl (by decide +kernel) ⟨Nat.le_of_ble_eq_true rfl, Nat.le_of_ble_eq_true rfl⟩) hK hN hW rfl hl.1 rfl (by simp [lh_cat_r, lh_cat_i, lh_cat_j]) dX10_put_41 ⟨Nat.le_of_ble_eq_true rfl, Nat.le_of_ble_eq_true rfl⟩) hS (fun H locs hX hW hS => ?_)
        refine W.widen (k := 0) (n := 0) (by omega) (by omega) ?_
        show W _ _ _ _ _ _ _ _ _ _ _ _ _ _ _ (F0 m 44 ls [.int r61])
        have m64 : ∀ b, gvN S52 b ≤ gvN S62 b := hX.1
        have L_t : ∀ j, some t = some j → j < gvN S62 10 := fun j h => Nat.lt_of_lt_of_le (L_t j h) (m64 _)
        have hm : ∀ b, gvN S b ≤ gvN S62 b := lh_le_trans hm m64
        have ok := lh_W_ok hW
        have z65 := hX.2
        refine lv_if_ne (tgt := 54) hx hb dX10_put_44 (by decide) (fun c66 => ?_) (fun c66 => ?_)
        · replace hf := dc_if_f c66 hf
          refine lv_iload_n hx hb dX10_put_54 rfl (lv_at hl 3 rfl) ?_
          refine lv_if_lt (tgt := 84) hx hb dX10_put_55 (by decide) (fun c67 => ?_) (fun c67 => ?_)
          · replace hf := dc_if_t c67 hf
            refine lh_aload_n hx hb dX10_put_84 rfl (lv_at hl 0 rfl) ?_
            have L68 : ∀ j, gvR S62 10 t 41 = some j → j < gvN S62 71 := fun j h => ok _ _ _ _ j (L_t _ rfl) rfl h
            refine lh_get (a := 10) (k := 41) (N := 42) (C := RX10) (T := TX10) (own := RX10) (ref := "LoaderModelsModel") hx hb hts (fun _ h => (List.mem_cons_of_mem _ (List.mem_append_right _ h))) hown hK hW rfl (L_t _ rfl) rfl rfl rfl (by decide) (hts (.fieldLink RX10 106 "LoaderModelsModel" "rowItem" "[I") (List.mem_cons_of_mem _ (List.mem_append_left _ (List.mem_append_left _ (List.mem_of_getElem? (i := 4) rfl))))) (fun _ h9 => h9) dX10_put_85 (v := lh_r ad 71 (gvR S62 10 t 41)) rfl ?_
            refine lv_bipush (v := 8) hx hb dX10_put_88 (by decide) ?_
            refine lv_iload_n hx hb dX10_put_90 rfl (lv_at hl 1 rfl) ?_
            refine lv_imul hx hb dX10_put_91 ?_
            refine lv_iload_n hx hb dX10_put_92 rfl (lv_at hl 2 rfl) ?_
            refine lv_iadd hx hb dX10_put_93 ?_
            refine lv_iload_n hx hb dX10_put_94 rfl (lv_at hl 3 rfl) ?_
            refine lv_iconst (v := 1) hx hb dX10_put_95 (by decide) ?_
            refine lv_iadd hx hb dX10_put_96 ?_
            obtain ⟨x69, hx69, hf⟩ := dc_nn_ok hf
            obtain ⟨g70, hf⟩ := dc_gd_ok hf
            obtain ⟨S71, eS71, hf⟩ := dc_let_ok hf
            refine lh_ast_i (a := 71) hx hb hK hW hS hx69 (L68 _ hx69) rfl (fun _ => rfl) g70 dX10_put_97 (fun H locs hW hS => ?_)
            rw [← eS71] at hW
            have m72 : ∀ b, gvN S62 b ≤ gvN S71 b := by rw [eS71]; exact lh_mI
            have L_t : ∀ j, some t = some j → j < gvN S71 10 := fun j h => Nat.lt_of_lt_of_le (L_t j h) (m72 _)
            have hm : ∀ b, gvN S b ≤ gvN S71 b := lh_le_trans hm m72
            have ok := lh_W_ok hW
            refine lv_iconst (v := 1) hx hb dX10_put_98 (by decide) ?_
            obtain ⟨rfl, rfl⟩ := dc_ret hf
            exact W.iret (v := (1 : Int32)) hx hb hr (fun t9 ht9 hW9 => ⟨⟨rfl, ⟨hm, trivial⟩, by rw [ht9]; exact hW⟩, hS.F ht9⟩) hS.2.2 dX10_put_99
          · replace hf := dc_if_f c67 hf
            refine lh_aload_n hx hb dX10_put_58 rfl (lv_at hl 0 rfl) ?_
            refine lh_aload_n hx hb dX10_put_59 rfl (lv_at hl 0 rfl) ?_
            have L73 : ∀ j, gvR S62 10 t 37 = some j → j < gvN S62 67 := fun j h => ok _ _ _ _ j (L_t _ rfl) rfl h
            refine lh_get (a := 10) (k := 37) (N := 42) (C := RX10) (T := TX10) (own := RX10) (ref := "LoaderModelsModel") hx hb hts (fun _ h => (List.mem_cons_of_mem _ (List.mem_append_right _ h))) hown hK hW rfl (L_t _ rfl) rfl rfl rfl (by decide) (hts (.fieldLink RX10 97 "LoaderModelsModel" "objectClass" "[I") (List.mem_cons_of_mem _ (List.mem_append_left _ (List.mem_append_left _ (List.mem_of_getElem? (i := 2) rfl))))) (fun _ h9 => h9) dX10_put_60 (v := lh_r ad 67 (gvR S62 10 t 37)) rfl ?_
            refine lv_iload_n hx hb dX10_put_63 rfl (lv_at hl 3 rfl) ?_
            obtain ⟨x74, hx74, hf⟩ := dc_nn_ok hf
            obtain ⟨g75, hf⟩ := dc_gd_ok hf
            refine lh_ald_i (a := 67) hx hb hK hW hx74 (L73 _ hx74) rfl rfl g75 dX10_put_64 ?_
            refine lh_aload_n hx hb dX10_put_65 rfl (lv_at hl 0 rfl) ?_
            have L76 : ∀ j, gvR S62 10 t 39 = some j → j < gvN S62 69 := fun j h => ok _ _ _ _ j (L_t _ rfl) rfl h
            refine lh_get (a := 10) (k := 39) (N := 42) (C := RX10) (T := TX10) (own := RX10) (ref := "LoaderModelsModel") hx hb hts (fun _ h => (List.mem_cons_of_mem _ (List.mem_append_right _ h))) hown hK hW rfl (L_t _ rfl) rfl rfl rfl (by decide) (hts (.fieldLink RX10 100 "LoaderModelsModel" "rowClass" "[I") (List.mem_cons_of_mem _ (List.mem_append_left _ (List.mem_append_left _ (List.mem_of_getElem? (i := 3) rfl))))) (fun _ h9 => h9) dX10_put_66 (v := lh_r ad 69 (gvR S62 10 t 39)) rfl ?_
            refine lv_iload_n hx hb dX10_put_69 rfl (lv_at hl 1 rfl) ?_
            obtain ⟨x77, hx77, hf⟩ := dc_nn_ok hf
            obtain ⟨g78, hf⟩ := dc_gd_ok hf
            refine lh_ald_i (a := 69) hx hb hK hW hx77 (L76 _ hx77) rfl rfl g78 dX10_put_70 ?_
            obtain ⟨r79, S80, k81, hf⟩ := dc_bd_ok hf
            refine lh_call (S' := S80) (lh_rv ⟨hx, hb, hml, hown, hts⟩ rfl (As := [.int (gvI S62 67 x74 (p3).toNatClampNeg), .int (gvI S62 69 x77 (p1).toNatClampNeg)]) (rest := []) (k := 10) (c_X10_isOf l D cT n S62 ad A H.size (fun q9 h9 => hA q9 (Nat.le_trans hS.1 h9)) t (gvI S62 67 x74 (p3).toNatClampNeg) (gvI S62 69 x77 (p1).toNatClampNeg) r79 S80 k81 L_t) (cwV 2 hts gX10_put_X10_isOf rfl rfl rfl (by decide +kernel) ⟨Nat.le_of_ble_eq_true rfl, Nat.le_of_ble_eq_true rfl⟩) hK hN hW (L_t _ rfl) rfl rfl rfl hl.1 rfl (by simp [lh_cat_r, lh_cat_i, lh_cat_j]) dX10_put_71 ⟨Nat.le_of_ble_eq_true rfl, Nat.le_of_ble_eq_true rfl⟩) hS (fun H locs hX hW hS => ?_)
            refine W.widen (k := 0) (n := 0) (by omega) (by omega) ?_
            show W _ _ _ _ _ _ _ _ _ _ _ _ _ _ _ (F0 m 74 ls [.int r79])
            have m82 : ∀ b, gvN S62 b ≤ gvN S80 b := hX.1
            have L_t : ∀ j, some t = some j → j < gvN S80 10 := fun j h => Nat.lt_of_lt_of_le (L_t j h) (m82 _)
            have hm : ∀ b, gvN S b ≤ gvN S80 b := lh_le_trans hm m82
            have ok := lh_W_ok hW
            have z83 := hX.2
            refine lv_if_ne (tgt := 84) hx hb dX10_put_74 (by decide) (fun c84 => ?_) (fun c84 => ?_)
            · replace hf := dc_if_f c84 hf
              refine lh_aload_n hx hb dX10_put_84 rfl (lv_at hl 0 rfl) ?_
              have L85 : ∀ j, gvR S80 10 t 41 = some j → j < gvN S80 71 := fun j h => ok _ _ _ _ j (L_t _ rfl) rfl h
              refine lh_get (a := 10) (k := 41) (N := 42) (C := RX10) (T := TX10) (own := RX10) (ref := "LoaderModelsModel") hx hb hts (fun _ h => (List.mem_cons_of_mem _ (List.mem_append_right _ h))) hown hK hW rfl (L_t _ rfl) rfl rfl rfl (by decide) (hts (.fieldLink RX10 106 "LoaderModelsModel" "rowItem" "[I") (List.mem_cons_of_mem _ (List.mem_append_left _ (List.mem_append_left _ (List.mem_of_getElem? (i := 4) rfl))))) (fun _ h9 => h9) dX10_put_85 (v := lh_r ad 71 (gvR S80 10 t 41)) rfl ?_
              refine lv_bipush (v := 8) hx hb dX10_put_88 (by decide) ?_
              refine lv_iload_n hx hb dX10_put_90 rfl (lv_at hl 1 rfl) ?_
              refine lv_imul hx hb dX10_put_91 ?_
              refine lv_iload_n hx hb dX10_put_92 rfl (lv_at hl 2 rfl) ?_
              refine lv_iadd hx hb dX10_put_93 ?_
              refine lv_iload_n hx hb dX10_put_94 rfl (lv_at hl 3 rfl) ?_
              refine lv_iconst (v := 1) hx hb dX10_put_95 (by decide) ?_
              refine lv_iadd hx hb dX10_put_96 ?_
              obtain ⟨x86, hx86, hf⟩ := dc_nn_ok hf
              obtain ⟨g87, hf⟩ := dc_gd_ok hf
              obtain ⟨S88, eS88, hf⟩ := dc_let_ok hf
              refine lh_ast_i (a := 71) hx hb hK hW hS hx86 (L85 _ hx86) rfl (fun _ => rfl) g87 dX10_put_97 (fun H locs hW hS => ?_)
              rw [← eS88] at hW
              have m89 : ∀ b, gvN S80 b ≤ gvN S88 b := by rw [eS88]; exact lh_mI
              have L_t : ∀ j, some t = some j → j < gvN S88 10 := fun j h => Nat.lt_of_lt_of_le (L_t j h) (m89 _)
              have hm : ∀ b, gvN S b ≤ gvN S88 b := lh_le_trans hm m89
              have ok := lh_W_ok hW
              refine lv_iconst (v := 1) hx hb dX10_put_98 (by decide) ?_
              obtain ⟨rfl, rfl⟩ := dc_ret hf
              exact W.iret (v := (1 : Int32)) hx hb hr (fun t9 ht9 hW9 => ⟨⟨rfl, ⟨hm, trivial⟩, by rw [ht9]; exact hW⟩, hS.F ht9⟩) hS.2.2 dX10_put_99
            · replace hf := dc_if_t c84 hf
              refine lh_aload_n hx hb dX10_put_77 rfl (lv_at hl 0 rfl) ?_
              refine lv_bipush (v := 8) hx hb dX10_put_78 (by decide) ?_
              obtain ⟨r90, S91, k92, hf⟩ := dc_bd_ok hf
              refine lh_call (S' := S91) (lh_rv ⟨hx, hb, hml, hown, hts⟩ rfl (As := [.int (8 : Int32)]) (rest := []) (k := 10) (c_X10_fails l D cT n S80 ad A H.size (fun q9 h9 => hA q9 (Nat.le_trans hS.1 h9)) t (8 : Int32) r90 S91 k92 L_t) (cwV 1 hts gX10_put_X10_fails rfl rfl rfl (by decide +kernel) ⟨Nat.le_of_ble_eq_true rfl, Nat.le_of_ble_eq_true rfl⟩) hK hN hW (L_t _ rfl) rfl rfl rfl hl.1 rfl (by simp [lh_cat_r, lh_cat_i, lh_cat_j]) dX10_put_80 ⟨Nat.le_of_ble_eq_true rfl, Nat.le_of_ble_eq_true rfl⟩) hS (fun H locs hX hW hS => ?_)
              refine W.widen (k := 0) (n := 0) (by omega) (by omega) ?_
              show W _ _ _ _ _ _ _ _ _ _ _ _ _ _ _ (F0 m 83 ls [.int r90])
              have m93 : ∀ b, gvN S80 b ≤ gvN S91 b := hX.1
              have L_t : ∀ j, some t = some j → j < gvN S91 10 := fun j h => Nat.lt_of_lt_of_le (L_t j h) (m93 _)
              have hm : ∀ b, gvN S b ≤ gvN S91 b := lh_le_trans hm m93
              have ok := lh_W_ok hW
              obtain ⟨rfl, rfl⟩ := dc_ret hf
              exact W.iret (v := r90) hx hb hr (fun t9 ht9 hW9 => ⟨⟨rfl, ⟨hm, trivial⟩, by rw [ht9]; exact hW⟩, hS.F ht9⟩) hS.2.2 dX10_put_83
        · replace hf := dc_if_t c66 hf
          refine lh_aload_n hx hb dX10_put_47 rfl (lv_at hl 0 rfl) ?_
          refine lv_bipush (v := 11) hx hb dX10_put_48 (by decide) ?_
          obtain ⟨r94, S95, k96, hf⟩ := dc_bd_ok hf
          refine lh_call (S' := S95) (lh_rv ⟨hx, hb, hml, hown, hts⟩ rfl (As := [.int (11 : Int32)]) (rest := []) (k := 10) (c_X10_fails l D cT n S62 ad A H.size (fun q9 h9 => hA q9 (Nat.le_trans hS.1 h9)) t (11 : Int32) r94 S95 k96 L_t) (cwV 1 hts gX10_put_X10_fails rfl rfl rfl (by decide +kernel) ⟨Nat.le_of_ble_eq_true rfl, Nat.le_of_ble_eq_true rfl⟩) hK hN hW (L_t _ rfl) rfl rfl rfl hl.1 rfl (by simp [lh_cat_r, lh_cat_i, lh_cat_j]) dX10_put_50 ⟨Nat.le_of_ble_eq_true rfl, Nat.le_of_ble_eq_true rfl⟩) hS (fun H locs hX hW hS => ?_)
          refine W.widen (k := 0) (n := 0) (by omega) (by omega) ?_
          show W _ _ _ _ _ _ _ _ _ _ _ _ _ _ _ (F0 m 53 ls [.int r94])
          have m97 : ∀ b, gvN S62 b ≤ gvN S95 b := hX.1
          have L_t : ∀ j, some t = some j → j < gvN S95 10 := fun j h => Nat.lt_of_lt_of_le (L_t j h) (m97 _)
          have hm : ∀ b, gvN S b ≤ gvN S95 b := lh_le_trans hm m97
          have ok := lh_W_ok hW
          obtain ⟨rfl, rfl⟩ := dc_ret hf
          exact W.iret (v := r94) hx hb hr (fun t9 ht9 hW9 => ⟨⟨rfl, ⟨hm, trivial⟩, by rw [ht9]; exact hW⟩, hS.F ht9⟩) hS.2.2 dX10_put_53
      · replace hf := dc_if_t c56 hf
        refine lv_bipush (v := -2) hx hb dX10_put_26 (by decide) ?_
        obtain ⟨rfl, rfl⟩ := dc_ret hf
        exact W.iret (v := (-2 : Int32)) hx hb hr (fun t9 ht9 hW9 => ⟨⟨rfl, ⟨hm, trivial⟩, by rw [ht9]; exact hW⟩, hS.F ht9⟩) hS.2.2 dX10_put_28
def f_X10_get (n : Nat) (S : lh_S) (t : Nat) (p1 : Int32) (p2 : Int32) : Option (Int32 × lh_S) :=
  dc_let (pvI S 10 t 0 (0 : Int32)) fun S1 =>
  dc_bd (f_X10_isRow n S1 t p1) fun r3 S4 =>
  dc_if (r3 = 0) (
  some ((-2 : Int32), S4)) (
  dc_nn (gvR S4 10 t 40) fun x10 =>
  dc_gd (p1 < 0 ∨ gvL S4 70 x10 ≤ (p1).toNatClampNeg) (
  dc_let ((gvI S4 70 x10 (p1).toNatClampNeg) - (1 : Int32)) fun v12 =>
  dc_bd (f_X10_in n S4 p2.toInt64 (0 : Int64) v12.toInt64) fun r13 S14 =>
  dc_if (r13 = 0) (
  dc_bd (f_X10_fails n S14 t (11 : Int32)) fun r19 S20 =>
  some (r19, S20)) (
  dc_nn (gvR S14 10 t 41) fun x24 =>
  dc_gd ((((8 : Int32) * p1) + p2) < 0 ∨ gvL S14 71 x24 ≤ ((((8 : Int32) * p1) + p2)).toNatClampNeg) (
  dc_let ((gvI S14 71 x24 ((((8 : Int32) * p1) + p2)).toNatClampNeg) - (1 : Int32)) fun v26 =>
  some (v26, S14)))))
set_option maxHeartbeats 1000000 in
theorem m_X10_get {n : Nat} {S : lh_S} {t : Nat} {p1 : Int32} {p2 : Int32} {r : Int32} {S' : lh_S} (hf : f_X10_get n S t p1 p2 = some (r, S')) : ∀ b, gvN S b ≤ gvN S' b := by
  have hm : ∀ b, gvN S b ≤ gvN S b := fun _ => Nat.le_refl _
  unfold f_X10_get at hf
  obtain ⟨S1, eS1, hf⟩ := dc_let_ok hf
  have hm := lh_le_trans hm (show ∀ b, gvN S b ≤ gvN S1 b from by rw [eS1]; exact lh_mI)
  obtain ⟨r3, S4, k5, hf⟩ := dc_bd_ok hf
  have hm := lh_le_trans hm (show ∀ b, gvN S1 b ≤ gvN S4 b from m_X10_isRow k5)
  by_cases c8 : r3 = 0
  · replace hf := dc_if_t c8 hf
    obtain ⟨_, rfl⟩ := dc_ret hf
    exact hm
  · replace hf := dc_if_f c8 hf
    obtain ⟨x10, hx10, hf⟩ := dc_nn_ok hf
    obtain ⟨g11, hf⟩ := dc_gd_ok hf
    obtain ⟨v12, hv12, hf⟩ := dc_let_ok hf
    obtain ⟨r13, S14, k15, hf⟩ := dc_bd_ok hf
    have hm := lh_le_trans hm (show ∀ b, gvN S4 b ≤ gvN S14 b from m_X10_in k15)
    by_cases c18 : r13 = 0
    · replace hf := dc_if_t c18 hf
      obtain ⟨r19, S20, k21, hf⟩ := dc_bd_ok hf
      have hm := lh_le_trans hm (show ∀ b, gvN S14 b ≤ gvN S20 b from m_X10_fails k21)
      obtain ⟨_, rfl⟩ := dc_ret hf
      exact hm
    · replace hf := dc_if_f c18 hf
      obtain ⟨x24, hx24, hf⟩ := dc_nn_ok hf
      obtain ⟨g25, hf⟩ := dc_gd_ok hf
      obtain ⟨v26, hv26, hf⟩ := dc_let_ok hf
      obtain ⟨_, rfl⟩ := dc_ret hf
      exact hm
set_option maxHeartbeats 1000000 in
theorem k_X10_get {n : Nat} {S : lh_S} {t : Nat} {p1 : Int32} {p2 : Int32} {r : Int32} {S' : lh_S} (hf : f_X10_get n S t p1 p2 = some (r, S')) : lh_sm10 S S' := by
  have hm : lh_sm10 S S := lh_sm10_rf
  unfold f_X10_get at hf
  obtain ⟨S1, eS1, hf⟩ := dc_let_ok hf
  have hm := lh_sm10_trans hm (show lh_sm10 S S1 from by rw [eS1]; exact (lh_sm10I (by decide)))
  obtain ⟨r3, S4, k5, hf⟩ := dc_bd_ok hf
  have hm := lh_sm10_trans hm (show lh_sm10 S1 S4 from k_X10_isRow k5)
  by_cases c8 : r3 = 0
  · replace hf := dc_if_t c8 hf
    obtain ⟨_, rfl⟩ := dc_ret hf
    exact hm
  · replace hf := dc_if_f c8 hf
    obtain ⟨x10, hx10, hf⟩ := dc_nn_ok hf
    obtain ⟨g11, hf⟩ := dc_gd_ok hf
    obtain ⟨v12, hv12, hf⟩ := dc_let_ok hf
    obtain ⟨r13, S14, k15, hf⟩ := dc_bd_ok hf
    have hm := lh_sm10_trans hm (show lh_sm10 S4 S14 from k_X10_in k15)
    by_cases c18 : r13 = 0
    · replace hf := dc_if_t c18 hf
      obtain ⟨r19, S20, k21, hf⟩ := dc_bd_ok hf
      have hm := lh_sm10_trans hm (show lh_sm10 S14 S20 from k_X10_fails k21)
      obtain ⟨_, rfl⟩ := dc_ret hf
      exact hm
    · replace hf := dc_if_f c18 hf
      obtain ⟨x24, hx24, hf⟩ := dc_nn_ok hf
      obtain ⟨g25, hf⟩ := dc_gd_ok hf
      obtain ⟨v26, hv26, hf⟩ := dc_let_ok hf
      obtain ⟨_, rfl⟩ := dc_ret hf
      exact hm
set_option maxHeartbeats 4000000 in
set_option maxRecDepth 100000 in
theorem c_X10_get (l : Launch) (D : va_G) (cT : Nat → ClassId) (n : Nat) (S : lh_S) (ad : Nat → Nat → Nat) (A : Nat → Prop) (sz : Nat) (hA : ∀ q, sz ≤ q → A q) (t : Nat) (p1 : Int32) (p2 : Int32) (r : Int32) (S' : lh_S) (hf : f_X10_get n S t p1 p2 = some (r, S')) (L_t : ∀ j, some t = some j → j < gvN S 10) : Met l yX10_get wsX10_get ({ frames := 2, cells := 0, slots := 0, locals := 46 } : Room) (lh_P D cT S ad A sz [lh_r ad 10 (some t), .int p1, .int p2]) (lh_Q D cT S' ad A ((∀ b, gvN S b ≤ gvN S' b) ∧ True) (some (.int r))) 0 0 A := by
  refine Met.ofW (cc := cX10_get) (maxL := 3) (ret := (some .int)) (by decide) rfl ?_
  intro p e s m args below meth c s₁ B hml hv
  obtain ⟨hargs, hsz, hW, hK, hN⟩ := hv
  have hx := B.exec
  have hb := B.bytes
  have hr := B.returns
  have hts := atoms_spec (ws := wsX10_get) B.pre
  have hown : s.vm.findClass RX10 = some m.cls := findClass_of_methodNamed B.named
  have hlocks := B.notSynchronized
  have hA : ∀ q, s.heap.size ≤ q → A q := fun q h => hA q (by rw [← hsz]; exact h)
  have ok := lh_W_ok hW
  have hm : ∀ b, gvN S b ≤ gvN S b := fun _ => Nat.le_refl _
  obtain ⟨ls, hent, hl⟩ := lh_entry m args [lh_r ad 10 (some t), .int p1, .int p2] 3 [(0, lh_r ad 10 (some t)), (1, .int p1), (2, .int p2)] hargs (by simp [lv_args, lh_cat_r, lh_cat_i, lh_cat_j]) (by simp [lg_sl, lh_cat_r, lh_cat_i, lh_cat_j])
  rw [hent]
  generalize hH : s.heap = H at hW ⊢
  have hS : va_S A s.heap H [] := by rw [← hH]; exact va_S.rf
  unfold f_X10_get at hf
  refine lh_aload_n hx hb dX10_get_0 rfl (lv_at hl 0 rfl) ?_
  refine lv_iconst (v := 0) hx hb dX10_get_1 (by decide) ?_
  obtain ⟨S1, eS1, hf⟩ := dc_let_ok hf
  refine lh_put (S' := S1) (a := 10) (k := 0) (N := 42) (C := RX10) (T := TX10) (own := RX10) (ref := "LoaderModelsModel") (ty := .int) hx hb hts (fun _ h => (List.mem_cons_of_mem _ (List.mem_append_right _ h))) tyX10 tyX10_ok nmX10 hown hK hW hS rfl (L_t _ rfl) rfl rfl rfl (by decide) (hts (.fieldLink RX10 1 "LoaderModelsModel" "thrown" "I") (List.mem_cons_of_mem _ (List.mem_append_left _ (List.mem_of_getElem? (i := 0) rfl)))) (fun _ h9 => h9) (Or.inl rfl) (by decide +kernel) rfl rfl (fun q9 => by rw [eS1]; exact lh_chI rfl q9) dX10_get_2 (fun H locs hW hS => ?_)
  have m2 : ∀ b, gvN S b ≤ gvN S1 b := by rw [eS1]; exact lh_mI
  have L_t : ∀ j, some t = some j → j < gvN S1 10 := fun j h => Nat.lt_of_lt_of_le (L_t j h) (m2 _)
  have hm : ∀ b, gvN S b ≤ gvN S1 b := lh_le_trans hm m2
  have ok := lh_W_ok hW
  refine lh_aload_n hx hb dX10_get_5 rfl (lv_at hl 0 rfl) ?_
  refine lv_iload_n hx hb dX10_get_6 rfl (lv_at hl 1 rfl) ?_
  obtain ⟨r3, S4, k5, hf⟩ := dc_bd_ok hf
  refine lh_call (S' := S4) (lh_rv ⟨hx, hb, hml, hown, hts⟩ rfl (As := [.int p1]) (rest := []) (k := 10) (c_X10_isRow l D cT n S1 ad A H.size (fun q9 h9 => hA q9 (Nat.le_trans hS.1 h9)) t p1 r3 S4 k5 L_t) (cwV 1 hts gX10_get_X10_isRow rfl rfl rfl (by decide +kernel) ⟨Nat.le_of_ble_eq_true rfl, Nat.le_of_ble_eq_true rfl⟩) hK hN hW (L_t _ rfl) rfl rfl rfl hl.1 rfl (by simp [lh_cat_r, lh_cat_i, lh_cat_j]) dX10_get_7 ⟨Nat.le_of_ble_eq_true rfl, Nat.le_of_ble_eq_true rfl⟩) hS (fun H locs hX hW hS => ?_)
  refine W.widen (k := 0) (n := 0) (by omega) (by omega) ?_
  show W _ _ _ _ _ _ _ _ _ _ _ _ _ _ _ (F0 m 10 ls [.int r3])
  have m6 : ∀ b, gvN S1 b ≤ gvN S4 b := hX.1
  have L_t : ∀ j, some t = some j → j < gvN S4 10 := fun j h => Nat.lt_of_lt_of_le (L_t j h) (m6 _)
  have hm : ∀ b, gvN S b ≤ gvN S4 b := lh_le_trans hm m6
  have ok := lh_W_ok hW
  have z7 := hX.2
  refine lv_if_ne (tgt := 16) hx hb dX10_get_10 (by decide) (fun c8 => ?_) (fun c8 => ?_)
  · replace hf := dc_if_f c8 hf
    refine lv_iload_n hx hb dX10_get_16 rfl (lv_at hl 2 rfl) ?_
    refine lv_i2l (v := p2.toInt64) hx hb dX10_get_17 rfl ?_
    refine lv_lconst (v := 0) hx hb dX10_get_18 (by decide) ?_
    refine lh_aload_n hx hb dX10_get_19 rfl (lv_at hl 0 rfl) ?_
    have L9 : ∀ j, gvR S4 10 t 40 = some j → j < gvN S4 70 := fun j h => ok _ _ _ _ j (L_t _ rfl) rfl h
    refine lh_get (a := 10) (k := 40) (N := 42) (C := RX10) (T := TX10) (own := RX10) (ref := "LoaderModelsModel") hx hb hts (fun _ h => (List.mem_cons_of_mem _ (List.mem_append_right _ h))) hown hK hW rfl (L_t _ rfl) rfl rfl rfl (by decide) (hts (.fieldLink RX10 103 "LoaderModelsModel" "rowSize" "[I") (List.mem_cons_of_mem _ (List.mem_append_left _ (List.mem_of_getElem? (i := 1) rfl)))) (fun _ h9 => h9) dX10_get_20 (v := lh_r ad 70 (gvR S4 10 t 40)) rfl ?_
    refine lv_iload_n hx hb dX10_get_23 rfl (lv_at hl 1 rfl) ?_
    obtain ⟨x10, hx10, hf⟩ := dc_nn_ok hf
    obtain ⟨g11, hf⟩ := dc_gd_ok hf
    refine lh_ald_i (a := 70) hx hb hK hW hx10 (L9 _ hx10) rfl rfl g11 dX10_get_24 ?_
    refine lv_iconst (v := 1) hx hb dX10_get_25 (by decide) ?_
    refine lv_isub hx hb dX10_get_26 ?_
    refine lv_topi (fun v12 hv12 => ?_)
    replace hf := dc_let_e hv12 hf
    refine lv_i2l (v := v12.toInt64) hx hb dX10_get_27 rfl ?_
    obtain ⟨r13, S14, k15, hf⟩ := dc_bd_ok hf
    refine lh_call (S' := S14) (lh_rs ⟨hx, hb, hml, hown, hts⟩ (As := [.long p2.toInt64, .long (0 : Int64), .long v12.toInt64]) (rest := []) (c_X10_in l D cT n S4 ad A H.size (fun q9 h9 => hA q9 (Nat.le_trans hS.1 h9)) p2.toInt64 (0 : Int64) v12.toInt64 r13 S14 k15 ) (va_cwS 3 hts gX10_get_X10_in rfl rfl rfl (by decide +kernel) ⟨Nat.le_of_ble_eq_true rfl, Nat.le_of_ble_eq_true rfl⟩) hK hN hW rfl hl.1 rfl (by simp [lh_cat_r, lh_cat_i, lh_cat_j]) dX10_get_28 ⟨Nat.le_of_ble_eq_true rfl, Nat.le_of_ble_eq_true rfl⟩) hS (fun H locs hX hW hS => ?_)
    refine W.widen (k := 0) (n := 0) (by omega) (by omega) ?_
    show W _ _ _ _ _ _ _ _ _ _ _ _ _ _ _ (F0 m 31 ls [.int r13])
    have m16 : ∀ b, gvN S4 b ≤ gvN S14 b := hX.1
    have L_t : ∀ j, some t = some j → j < gvN S14 10 := fun j h => Nat.lt_of_lt_of_le (L_t j h) (m16 _)
    have hm : ∀ b, gvN S b ≤ gvN S14 b := lh_le_trans hm m16
    have ok := lh_W_ok hW
    have z17 := hX.2
    refine lv_if_eq (tgt := 50) hx hb dX10_get_31 (by decide) (fun c18 => ?_) (fun c18 => ?_)
    · replace hf := dc_if_t c18 hf
      refine lh_aload_n hx hb dX10_get_50 rfl (lv_at hl 0 rfl) ?_
      refine lv_bipush (v := 11) hx hb dX10_get_51 (by decide) ?_
      obtain ⟨r19, S20, k21, hf⟩ := dc_bd_ok hf
      refine lh_call (S' := S20) (lh_rv ⟨hx, hb, hml, hown, hts⟩ rfl (As := [.int (11 : Int32)]) (rest := []) (k := 10) (c_X10_fails l D cT n S14 ad A H.size (fun q9 h9 => hA q9 (Nat.le_trans hS.1 h9)) t (11 : Int32) r19 S20 k21 L_t) (cwV 1 hts gX10_get_X10_fails rfl rfl rfl (by decide +kernel) ⟨Nat.le_of_ble_eq_true rfl, Nat.le_of_ble_eq_true rfl⟩) hK hN hW (L_t _ rfl) rfl rfl rfl hl.1 rfl (by simp [lh_cat_r, lh_cat_i, lh_cat_j]) dX10_get_53 ⟨Nat.le_of_ble_eq_true rfl, Nat.le_of_ble_eq_true rfl⟩) hS (fun H locs hX hW hS => ?_)
      refine W.widen (k := 0) (n := 0) (by omega) (by omega) ?_
      show W _ _ _ _ _ _ _ _ _ _ _ _ _ _ _ (F0 m 56 ls [.int r19])
      have m22 : ∀ b, gvN S14 b ≤ gvN S20 b := hX.1
      have L_t : ∀ j, some t = some j → j < gvN S20 10 := fun j h => Nat.lt_of_lt_of_le (L_t j h) (m22 _)
      have hm : ∀ b, gvN S b ≤ gvN S20 b := lh_le_trans hm m22
      have ok := lh_W_ok hW
      obtain ⟨rfl, rfl⟩ := dc_ret hf
      exact W.iret (v := r19) hx hb hr (fun t9 ht9 hW9 => ⟨⟨rfl, ⟨hm, trivial⟩, by rw [ht9]; exact hW⟩, hS.F ht9⟩) hS.2.2 dX10_get_56
    · replace hf := dc_if_f c18 hf
      refine lh_aload_n hx hb dX10_get_34 rfl (lv_at hl 0 rfl) ?_
      have L23 : ∀ j, gvR S14 10 t 41 = some j → j < gvN S14 71 := fun j h => ok _ _ _ _ j (L_t _ rfl) rfl h
      refine lh_get (a := 10) (k := 41) (N := 42) (C := RX10) (T := TX10) (own := RX10) (ref := "LoaderModelsModel") hx hb hts (fun _ h => (List.mem_cons_of_mem _ (List.mem_append_right _ h))) hown hK hW rfl (L_t _ rfl) rfl rfl rfl (by decide) (hts (.fieldLink RX10 106 "LoaderModelsModel" "rowItem" "[I") (List.mem_cons_of_mem _ (List.mem_append_left _ (List.mem_of_getElem? (i := 2) rfl)))) (fun _ h9 => h9) dX10_get_35 (v := lh_r ad 71 (gvR S14 10 t 41)) rfl ?_
      refine lv_bipush (v := 8) hx hb dX10_get_38 (by decide) ?_
      refine lv_iload_n hx hb dX10_get_40 rfl (lv_at hl 1 rfl) ?_
      refine lv_imul hx hb dX10_get_41 ?_
      refine lv_iload_n hx hb dX10_get_42 rfl (lv_at hl 2 rfl) ?_
      refine lv_iadd hx hb dX10_get_43 ?_
      obtain ⟨x24, hx24, hf⟩ := dc_nn_ok hf
      obtain ⟨g25, hf⟩ := dc_gd_ok hf
      refine lh_ald_i (a := 71) hx hb hK hW hx24 (L23 _ hx24) rfl rfl g25 dX10_get_44 ?_
      refine lv_iconst (v := 1) hx hb dX10_get_45 (by decide) ?_
      refine lv_isub hx hb dX10_get_46 ?_
      refine lv_topi (fun v26 hv26 => ?_)
      replace hf := dc_let_e hv26 hf
      refine lv_goto (tgt := 56) hx hb dX10_get_47 (by decide) ?_
      obtain ⟨rfl, rfl⟩ := dc_ret hf
      exact W.iret (v := v26) hx hb hr (fun t9 ht9 hW9 => ⟨⟨rfl, ⟨hm, trivial⟩, by rw [ht9]; exact hW⟩, hS.F ht9⟩) hS.2.2 dX10_get_56
  · replace hf := dc_if_t c8 hf
    refine lv_bipush (v := -2) hx hb dX10_get_13 (by decide) ?_
    obtain ⟨rfl, rfl⟩ := dc_ret hf
    exact W.iret (v := (-2 : Int32)) hx hb hr (fun t9 ht9 hW9 => ⟨⟨rfl, ⟨hm, trivial⟩, by rw [ht9]; exact hW⟩, hS.F ht9⟩) hS.2.2 dX10_get_15
def f_X10_castRow (n : Nat) (S : lh_S) (t : Nat) (p1 : Int32) (p2 : Int32) : Option (Int32 × lh_S) :=
  dc_let (pvI S 10 t 0 (0 : Int32)) fun S1 =>
  dc_bd (f_X10_isRow n S1 t p1) fun r3 S4 =>
  dc_if (r3 = 0) (
  some ((-2 : Int32), S4)) (
  dc_bd (f_X10_isClass n S4 t p2) fun r9 S10 =>
  dc_if (r9 = 0) (
  some ((-2 : Int32), S10)) (
  dc_nn (gvR S10 10 t 39) fun x16 =>
  dc_gd (p1 < 0 ∨ gvL S10 69 x16 ≤ (p1).toNatClampNeg) (
  dc_bd (f_X10_isOf n S10 t (gvI S10 69 x16 (p1).toNatClampNeg) p2) fun r18 S19 =>
  dc_if (r18 = 0) (
  dc_bd (f_X10_fails n S19 t (5 : Int32)) fun r24 S25 =>
  some (r24, S25)) (
  some ((1 : Int32), S19)))))
set_option maxHeartbeats 1000000 in
theorem m_X10_castRow {n : Nat} {S : lh_S} {t : Nat} {p1 : Int32} {p2 : Int32} {r : Int32} {S' : lh_S} (hf : f_X10_castRow n S t p1 p2 = some (r, S')) : ∀ b, gvN S b ≤ gvN S' b := by
  have hm : ∀ b, gvN S b ≤ gvN S b := fun _ => Nat.le_refl _
  unfold f_X10_castRow at hf
  obtain ⟨S1, eS1, hf⟩ := dc_let_ok hf
  have hm := lh_le_trans hm (show ∀ b, gvN S b ≤ gvN S1 b from by rw [eS1]; exact lh_mI)
  obtain ⟨r3, S4, k5, hf⟩ := dc_bd_ok hf
  have hm := lh_le_trans hm (show ∀ b, gvN S1 b ≤ gvN S4 b from m_X10_isRow k5)
  by_cases c8 : r3 = 0
  · replace hf := dc_if_t c8 hf
    obtain ⟨_, rfl⟩ := dc_ret hf
    exact hm
  · replace hf := dc_if_f c8 hf
    obtain ⟨r9, S10, k11, hf⟩ := dc_bd_ok hf
    have hm := lh_le_trans hm (show ∀ b, gvN S4 b ≤ gvN S10 b from m_X10_isClass k11)
    by_cases c14 : r9 = 0
    · replace hf := dc_if_t c14 hf
      obtain ⟨_, rfl⟩ := dc_ret hf
      exact hm
    · replace hf := dc_if_f c14 hf
      obtain ⟨x16, hx16, hf⟩ := dc_nn_ok hf
      obtain ⟨g17, hf⟩ := dc_gd_ok hf
      obtain ⟨r18, S19, k20, hf⟩ := dc_bd_ok hf
      have hm := lh_le_trans hm (show ∀ b, gvN S10 b ≤ gvN S19 b from m_X10_isOf k20)
      by_cases c23 : r18 = 0
      · replace hf := dc_if_t c23 hf
        obtain ⟨r24, S25, k26, hf⟩ := dc_bd_ok hf
        have hm := lh_le_trans hm (show ∀ b, gvN S19 b ≤ gvN S25 b from m_X10_fails k26)
        obtain ⟨_, rfl⟩ := dc_ret hf
        exact hm
      · replace hf := dc_if_f c23 hf
        obtain ⟨_, rfl⟩ := dc_ret hf
        exact hm
set_option maxHeartbeats 1000000 in
theorem k_X10_castRow {n : Nat} {S : lh_S} {t : Nat} {p1 : Int32} {p2 : Int32} {r : Int32} {S' : lh_S} (hf : f_X10_castRow n S t p1 p2 = some (r, S')) : lh_sm10 S S' := by
  have hm : lh_sm10 S S := lh_sm10_rf
  unfold f_X10_castRow at hf
  obtain ⟨S1, eS1, hf⟩ := dc_let_ok hf
  have hm := lh_sm10_trans hm (show lh_sm10 S S1 from by rw [eS1]; exact (lh_sm10I (by decide)))
  obtain ⟨r3, S4, k5, hf⟩ := dc_bd_ok hf
  have hm := lh_sm10_trans hm (show lh_sm10 S1 S4 from k_X10_isRow k5)
  by_cases c8 : r3 = 0
  · replace hf := dc_if_t c8 hf
    obtain ⟨_, rfl⟩ := dc_ret hf
    exact hm
  · replace hf := dc_if_f c8 hf
    obtain ⟨r9, S10, k11, hf⟩ := dc_bd_ok hf
    have hm := lh_sm10_trans hm (show lh_sm10 S4 S10 from k_X10_isClass k11)
    by_cases c14 : r9 = 0
    · replace hf := dc_if_t c14 hf
      obtain ⟨_, rfl⟩ := dc_ret hf
      exact hm
    · replace hf := dc_if_f c14 hf
      obtain ⟨x16, hx16, hf⟩ := dc_nn_ok hf
      obtain ⟨g17, hf⟩ := dc_gd_ok hf
      obtain ⟨r18, S19, k20, hf⟩ := dc_bd_ok hf
      have hm := lh_sm10_trans hm (show lh_sm10 S10 S19 from k_X10_isOf k20)
      by_cases c23 : r18 = 0
      · replace hf := dc_if_t c23 hf
        obtain ⟨r24, S25, k26, hf⟩ := dc_bd_ok hf
        have hm := lh_sm10_trans hm (show lh_sm10 S19 S25 from k_X10_fails k26)
        obtain ⟨_, rfl⟩ := dc_ret hf
        exact hm
      · replace hf := dc_if_f c23 hf
        obtain ⟨_, rfl⟩ := dc_ret hf
        exact hm
set_option maxHeartbeats 4000000 in
set_option maxRecDepth 100000 in
theorem c_X10_castRow (l : Launch) (D : va_G) (cT : Nat → ClassId) (n : Nat) (S : lh_S) (ad : Nat → Nat → Nat) (A : Nat → Prop) (sz : Nat) (hA : ∀ q, sz ≤ q → A q) (t : Nat) (p1 : Int32) (p2 : Int32) (r : Int32) (S' : lh_S) (hf : f_X10_castRow n S t p1 p2 = some (r, S')) (L_t : ∀ j, some t = some j → j < gvN S 10) : Met l yX10_castRow wsX10_castRow ({ frames := 2, cells := 0, slots := 0, locals := 46 } : Room) (lh_P D cT S ad A sz [lh_r ad 10 (some t), .int p1, .int p2]) (lh_Q D cT S' ad A ((∀ b, gvN S b ≤ gvN S' b) ∧ True) (some (.int r))) 0 0 A := by
  refine Met.ofW (cc := cX10_castRow) (maxL := 3) (ret := (some .int)) (by decide) rfl ?_
  intro p e s m args below meth c s₁ B hml hv
  obtain ⟨hargs, hsz, hW, hK, hN⟩ := hv
  have hx := B.exec
  have hb := B.bytes
  have hr := B.returns
  have hts := atoms_spec (ws := wsX10_castRow) B.pre
  have hown : s.vm.findClass RX10 = some m.cls := findClass_of_methodNamed B.named
  have hlocks := B.notSynchronized
  have hA : ∀ q, s.heap.size ≤ q → A q := fun q h => hA q (by rw [← hsz]; exact h)
  have ok := lh_W_ok hW
  have hm : ∀ b, gvN S b ≤ gvN S b := fun _ => Nat.le_refl _
  obtain ⟨ls, hent, hl⟩ := lh_entry m args [lh_r ad 10 (some t), .int p1, .int p2] 3 [(0, lh_r ad 10 (some t)), (1, .int p1), (2, .int p2)] hargs (by simp [lv_args, lh_cat_r, lh_cat_i, lh_cat_j]) (by simp [lg_sl, lh_cat_r, lh_cat_i, lh_cat_j])
  rw [hent]
  generalize hH : s.heap = H at hW ⊢
  have hS : va_S A s.heap H [] := by rw [← hH]; exact va_S.rf
  unfold f_X10_castRow at hf
  refine lh_aload_n hx hb dX10_castRow_0 rfl (lv_at hl 0 rfl) ?_
  refine lv_iconst (v := 0) hx hb dX10_castRow_1 (by decide) ?_
  obtain ⟨S1, eS1, hf⟩ := dc_let_ok hf
  refine lh_put (S' := S1) (a := 10) (k := 0) (N := 42) (C := RX10) (T := TX10) (own := RX10) (ref := "LoaderModelsModel") (ty := .int) hx hb hts (fun _ h => (List.mem_cons_of_mem _ (List.mem_append_right _ h))) tyX10 tyX10_ok nmX10 hown hK hW hS rfl (L_t _ rfl) rfl rfl rfl (by decide) (hts (.fieldLink RX10 1 "LoaderModelsModel" "thrown" "I") (List.mem_cons_of_mem _ (List.mem_append_left _ (List.mem_append_left _ (List.mem_of_getElem? (i := 0) rfl))))) (fun _ h9 => h9) (Or.inl rfl) (by decide +kernel) rfl rfl (fun q9 => by rw [eS1]; exact lh_chI rfl q9) dX10_castRow_2 (fun H locs hW hS => ?_)
  have m2 : ∀ b, gvN S b ≤ gvN S1 b := by rw [eS1]; exact lh_mI
  have L_t : ∀ j, some t = some j → j < gvN S1 10 := fun j h => Nat.lt_of_lt_of_le (L_t j h) (m2 _)
  have hm : ∀ b, gvN S b ≤ gvN S1 b := lh_le_trans hm m2
  have ok := lh_W_ok hW
  refine lh_aload_n hx hb dX10_castRow_5 rfl (lv_at hl 0 rfl) ?_
  refine lv_iload_n hx hb dX10_castRow_6 rfl (lv_at hl 1 rfl) ?_
  obtain ⟨r3, S4, k5, hf⟩ := dc_bd_ok hf
  refine lh_call (S' := S4) (lh_rv ⟨hx, hb, hml, hown, hts⟩ rfl (As := [.int p1]) (rest := []) (k := 10) (c_X10_isRow l D cT n S1 ad A H.size (fun q9 h9 => hA q9 (Nat.le_trans hS.1 h9)) t p1 r3 S4 k5 L_t) (cwV 1 hts gX10_castRow_X10_isRow rfl rfl rfl (by decide +kernel) ⟨Nat.le_of_ble_eq_true rfl, Nat.le_of_ble_eq_true rfl⟩) hK hN hW (L_t _ rfl) rfl rfl rfl hl.1 rfl (by simp [lh_cat_r, lh_cat_i, lh_cat_j]) dX10_castRow_7 ⟨Nat.le_of_ble_eq_true rfl, Nat.le_of_ble_eq_true rfl⟩) hS (fun H locs hX hW hS => ?_)
  refine W.widen (k := 0) (n := 0) (by omega) (by omega) ?_
  show W _ _ _ _ _ _ _ _ _ _ _ _ _ _ _ (F0 m 10 ls [.int r3])
  have m6 : ∀ b, gvN S1 b ≤ gvN S4 b := hX.1
  have L_t : ∀ j, some t = some j → j < gvN S4 10 := fun j h => Nat.lt_of_lt_of_le (L_t j h) (m6 _)
  have hm : ∀ b, gvN S b ≤ gvN S4 b := lh_le_trans hm m6
  have ok := lh_W_ok hW
  have z7 := hX.2
  refine lv_if_eq (tgt := 21) hx hb dX10_castRow_10 (by decide) (fun c8 => ?_) (fun c8 => ?_)
  · replace hf := dc_if_t c8 hf
    refine lv_bipush (v := -2) hx hb dX10_castRow_21 (by decide) ?_
    obtain ⟨rfl, rfl⟩ := dc_ret hf
    exact W.iret (v := (-2 : Int32)) hx hb hr (fun t9 ht9 hW9 => ⟨⟨rfl, ⟨hm, trivial⟩, by rw [ht9]; exact hW⟩, hS.F ht9⟩) hS.2.2 dX10_castRow_23
  · replace hf := dc_if_f c8 hf
    refine lh_aload_n hx hb dX10_castRow_13 rfl (lv_at hl 0 rfl) ?_
    refine lv_iload_n hx hb dX10_castRow_14 rfl (lv_at hl 2 rfl) ?_
    obtain ⟨r9, S10, k11, hf⟩ := dc_bd_ok hf
    refine lh_call (S' := S10) (lh_rv ⟨hx, hb, hml, hown, hts⟩ rfl (As := [.int p2]) (rest := []) (k := 10) (c_X10_isClass l D cT n S4 ad A H.size (fun q9 h9 => hA q9 (Nat.le_trans hS.1 h9)) t p2 r9 S10 k11 L_t) (cwV 1 hts gX10_castRow_X10_isClass rfl rfl rfl (by decide +kernel) ⟨Nat.le_of_ble_eq_true rfl, Nat.le_of_ble_eq_true rfl⟩) hK hN hW (L_t _ rfl) rfl rfl rfl hl.1 rfl (by simp [lh_cat_r, lh_cat_i, lh_cat_j]) dX10_castRow_15 ⟨Nat.le_of_ble_eq_true rfl, Nat.le_of_ble_eq_true rfl⟩) hS (fun H locs hX hW hS => ?_)
    refine W.widen (k := 0) (n := 0) (by omega) (by omega) ?_
    show W _ _ _ _ _ _ _ _ _ _ _ _ _ _ _ (F0 m 18 ls [.int r9])
    have m12 : ∀ b, gvN S4 b ≤ gvN S10 b := hX.1
    have L_t : ∀ j, some t = some j → j < gvN S10 10 := fun j h => Nat.lt_of_lt_of_le (L_t j h) (m12 _)
    have hm : ∀ b, gvN S b ≤ gvN S10 b := lh_le_trans hm m12
    have ok := lh_W_ok hW
    have z13 := hX.2
    refine lv_if_ne (tgt := 24) hx hb dX10_castRow_18 (by decide) (fun c14 => ?_) (fun c14 => ?_)
    · replace hf := dc_if_f c14 hf
      refine lh_aload_n hx hb dX10_castRow_24 rfl (lv_at hl 0 rfl) ?_
      refine lh_aload_n hx hb dX10_castRow_25 rfl (lv_at hl 0 rfl) ?_
      have L15 : ∀ j, gvR S10 10 t 39 = some j → j < gvN S10 69 := fun j h => ok _ _ _ _ j (L_t _ rfl) rfl h
      refine lh_get (a := 10) (k := 39) (N := 42) (C := RX10) (T := TX10) (own := RX10) (ref := "LoaderModelsModel") hx hb hts (fun _ h => (List.mem_cons_of_mem _ (List.mem_append_right _ h))) hown hK hW rfl (L_t _ rfl) rfl rfl rfl (by decide) (hts (.fieldLink RX10 100 "LoaderModelsModel" "rowClass" "[I") (List.mem_cons_of_mem _ (List.mem_append_left _ (List.mem_append_left _ (List.mem_of_getElem? (i := 1) rfl))))) (fun _ h9 => h9) dX10_castRow_26 (v := lh_r ad 69 (gvR S10 10 t 39)) rfl ?_
      refine lv_iload_n hx hb dX10_castRow_29 rfl (lv_at hl 1 rfl) ?_
      obtain ⟨x16, hx16, hf⟩ := dc_nn_ok hf
      obtain ⟨g17, hf⟩ := dc_gd_ok hf
      refine lh_ald_i (a := 69) hx hb hK hW hx16 (L15 _ hx16) rfl rfl g17 dX10_castRow_30 ?_
      refine lv_iload_n hx hb dX10_castRow_31 rfl (lv_at hl 2 rfl) ?_
      obtain ⟨r18, S19, k20, hf⟩ := dc_bd_ok hf
      refine lh_call (S' := S19) (lh_rv ⟨hx, hb, hml, hown, hts⟩ rfl (As := [.int (gvI S10 69 x16 (p1).toNatClampNeg), .int p2]) (rest := []) (k := 10) (c_X10_isOf l D cT n S10 ad A H.size (fun q9 h9 => hA q9 (Nat.le_trans hS.1 h9)) t (gvI S10 69 x16 (p1).toNatClampNeg) p2 r18 S19 k20 L_t) (cwV 2 hts gX10_castRow_X10_isOf rfl rfl rfl (by decide +kernel) ⟨Nat.le_of_ble_eq_true rfl, Nat.le_of_ble_eq_true rfl⟩) hK hN hW (L_t _ rfl) rfl rfl rfl hl.1 rfl (by simp [lh_cat_r, lh_cat_i, lh_cat_j]) dX10_castRow_32 ⟨Nat.le_of_ble_eq_true rfl, Nat.le_of_ble_eq_true rfl⟩) hS (fun H locs hX hW hS => ?_)
      refine W.widen (k := 0) (n := 0) (by omega) (by omega) ?_
      show W _ _ _ _ _ _ _ _ _ _ _ _ _ _ _ (F0 m 35 ls [.int r18])
      have m21 : ∀ b, gvN S10 b ≤ gvN S19 b := hX.1
      have L_t : ∀ j, some t = some j → j < gvN S19 10 := fun j h => Nat.lt_of_lt_of_le (L_t j h) (m21 _)
      have hm : ∀ b, gvN S b ≤ gvN S19 b := lh_le_trans hm m21
      have ok := lh_W_ok hW
      have z22 := hX.2
      refine lv_if_eq (tgt := 42) hx hb dX10_castRow_35 (by decide) (fun c23 => ?_) (fun c23 => ?_)
      · replace hf := dc_if_t c23 hf
        refine lh_aload_n hx hb dX10_castRow_42 rfl (lv_at hl 0 rfl) ?_
        refine lv_iconst (v := 5) hx hb dX10_castRow_43 (by decide) ?_
        obtain ⟨r24, S25, k26, hf⟩ := dc_bd_ok hf
        refine lh_call (S' := S25) (lh_rv ⟨hx, hb, hml, hown, hts⟩ rfl (As := [.int (5 : Int32)]) (rest := []) (k := 10) (c_X10_fails l D cT n S19 ad A H.size (fun q9 h9 => hA q9 (Nat.le_trans hS.1 h9)) t (5 : Int32) r24 S25 k26 L_t) (cwV 1 hts gX10_castRow_X10_fails rfl rfl rfl (by decide +kernel) ⟨Nat.le_of_ble_eq_true rfl, Nat.le_of_ble_eq_true rfl⟩) hK hN hW (L_t _ rfl) rfl rfl rfl hl.1 rfl (by simp [lh_cat_r, lh_cat_i, lh_cat_j]) dX10_castRow_44 ⟨Nat.le_of_ble_eq_true rfl, Nat.le_of_ble_eq_true rfl⟩) hS (fun H locs hX hW hS => ?_)
        refine W.widen (k := 0) (n := 0) (by omega) (by omega) ?_
        show W _ _ _ _ _ _ _ _ _ _ _ _ _ _ _ (F0 m 47 ls [.int r24])
        have m27 : ∀ b, gvN S19 b ≤ gvN S25 b := hX.1
        have L_t : ∀ j, some t = some j → j < gvN S25 10 := fun j h => Nat.lt_of_lt_of_le (L_t j h) (m27 _)
        have hm : ∀ b, gvN S b ≤ gvN S25 b := lh_le_trans hm m27
        have ok := lh_W_ok hW
        obtain ⟨rfl, rfl⟩ := dc_ret hf
        exact W.iret (v := r24) hx hb hr (fun t9 ht9 hW9 => ⟨⟨rfl, ⟨hm, trivial⟩, by rw [ht9]; exact hW⟩, hS.F ht9⟩) hS.2.2 dX10_castRow_47
      · replace hf := dc_if_f c23 hf
        refine lv_iconst (v := 1) hx hb dX10_castRow_38 (by decide) ?_
        refine lv_goto (tgt := 47) hx hb dX10_castRow_39 (by decide) ?_
        obtain ⟨rfl, rfl⟩ := dc_ret hf
        exact W.iret (v := (1 : Int32)) hx hb hr (fun t9 ht9 hW9 => ⟨⟨rfl, ⟨hm, trivial⟩, by rw [ht9]; exact hW⟩, hS.F ht9⟩) hS.2.2 dX10_castRow_47
    · replace hf := dc_if_t c14 hf
      refine lv_bipush (v := -2) hx hb dX10_castRow_21 (by decide) ?_
      obtain ⟨rfl, rfl⟩ := dc_ret hf
      exact W.iret (v := (-2 : Int32)) hx hb hr (fun t9 ht9 hW9 => ⟨⟨rfl, ⟨hm, trivial⟩, by rw [ht9]; exact hW⟩, hS.F ht9⟩) hS.2.2 dX10_castRow_23
def f_X10_call_L44 (n : Nat) (t : Nat) (p1 : Int32) (p2 : Int32) (p3 : Int64) : Nat → lh_S → Int64 → Int32 → Option (Int64 × lh_S)
  | 0, _, _, _ => none
  | g + 1, S18, w19, v20 =>
  dc_if (v20 < 0) (
  dc_bd (f_X10_fails n S18 t (10 : Int32)) fun r22 S23 =>
  dc_let ((-9223372036854775808 : Int64) - r22.toInt64) fun v26 =>
  some (v26, S23)) (
  dc_nn (gvR S18 10 t 20) fun x28 =>
  dc_gd (v20 < 0 ∨ gvL S18 50 x28 ≤ (v20).toNatClampNeg) (
  dc_let ((4 : Int32) * (gvI S18 50 x28 (v20).toNatClampNeg)) fun v30 =>
  dc_nn (gvR S18 10 t 7) fun x32 =>
  dc_gd ((v30 + p2) < 0 ∨ gvL S18 37 x32 ≤ ((v30 + p2)).toNatClampNeg) (
  dc_if ((gvI S18 37 x32 ((v30 + p2)).toNatClampNeg) = (2 : Int32)) (
  dc_nn (gvR S18 10 t 9) fun x71 =>
  dc_gd ((v30 + p2) < 0 ∨ gvL S18 39 x71 ≤ ((v30 + p2)).toNatClampNeg) (
  dc_let (w19 + ((gvI S18 39 x71 ((v30 + p2)).toNatClampNeg).toInt64)) fun v73 =>
  dc_nn (gvR S18 10 t 21) fun x75 =>
  dc_gd (v20 < 0 ∨ gvL S18 51 x75 ≤ (v20).toNatClampNeg) (
  f_X10_call_L44 n t p1 p2 p3 g S18 v73 (gvI S18 51 x75 (v20).toNatClampNeg)))) (
  dc_gd ((v30 + p2) < 0 ∨ gvL S18 37 x32 ≤ ((v30 + p2)).toNatClampNeg) (
  dc_if ((gvI S18 37 x32 ((v30 + p2)).toNatClampNeg) = (1 : Int32)) (
  dc_nn (gvR S18 10 t 8) fun x63 =>
  dc_gd ((v30 + p2) < 0 ∨ gvL S18 38 x63 ≤ ((v30 + p2)).toNatClampNeg) (
  dc_let (((gvI S18 38 x63 ((v30 + p2)).toNatClampNeg).toInt64) * p3) fun v65 =>
  dc_nn (gvR S18 10 t 9) fun x67 =>
  dc_gd ((v30 + p2) < 0 ∨ gvL S18 39 x67 ≤ ((v30 + p2)).toNatClampNeg) (
  dc_let (v65 + ((gvI S18 39 x67 ((v30 + p2)).toNatClampNeg).toInt64)) fun v69 =>
  some (v69 + w19, S18)))) (
  dc_gd ((v30 + p2) < 0 ∨ gvL S18 37 x32 ≤ ((v30 + p2)).toNatClampNeg) (
  dc_if ((gvI S18 37 x32 ((v30 + p2)).toNatClampNeg) = (3 : Int32)) (
  dc_nn (gvR S18 10 t 23) fun x45 =>
  dc_gd (v20 < 0 ∨ gvL S18 53 x45 ≤ (v20).toNatClampNeg) (
  dc_nn (gvR S18 10 t 8) fun x48 =>
  dc_gd ((v30 + p2) < 0 ∨ gvL S18 38 x48 ≤ ((v30 + p2)).toNatClampNeg) (
  dc_let (((gvI S18 38 x48 ((v30 + p2)).toNatClampNeg).toInt64) * p3) fun v50 =>
  dc_let ((gvJ S18 53 x45 (v20).toNatClampNeg) + v50) fun v51 =>
  dc_gd (v20 < 0 ∨ gvL S18 53 x45 ≤ (v20).toNatClampNeg) (
  dc_let (pvJ S18 53 x45 (v20).toNatClampNeg v51) fun S53 =>
  dc_nn (gvR S53 10 t 23) fun x56 =>
  dc_gd (v20 < 0 ∨ gvL S53 53 x56 ≤ (v20).toNatClampNeg) (
  dc_nn (gvR S53 10 t 9) fun x59 =>
  dc_gd ((v30 + p2) < 0 ∨ gvL S53 39 x59 ≤ ((v30 + p2)).toNatClampNeg) (
  dc_let ((gvJ S53 53 x56 (v20).toNatClampNeg) + ((gvI S53 39 x59 ((v30 + p2)).toNatClampNeg).toInt64)) fun v61 =>
  some (v61 + w19, S53))))))) (
  dc_nn (gvR S18 10 t 21) fun x42 =>
  dc_gd (v20 < 0 ∨ gvL S18 51 x42 ≤ (v20).toNatClampNeg) (
  f_X10_call_L44 n t p1 p2 p3 g S18 w19 (gvI S18 51 x42 (v20).toNatClampNeg))))))))))
theorem m_X10_call_L44 {n : Nat} {t : Nat} {p1 : Int32} {p2 : Int32} {p3 : Int64} {r : Int64} {S' : lh_S} : ∀ (g : Nat) (S18 : lh_S) (w19 : Int64) (v20 : Int32), f_X10_call_L44 n t p1 p2 p3 g S18 w19 v20 = some (r, S') → ∀ b, gvN S18 b ≤ gvN S' b := by
    intro g
    induction g with
    | zero => intro S18 w19 v20 hf; rw [f_X10_call_L44] at hf; cases hf
    | succ g ih =>
      intro S18 w19 v20 hf
      rw [f_X10_call_L44] at hf
      have hm : ∀ b, gvN S18 b ≤ gvN S18 b := fun _ => Nat.le_refl _
      by_cases c21 : v20 < 0
      · replace hf := dc_if_t c21 hf
        obtain ⟨r22, S23, k24, hf⟩ := dc_bd_ok hf
        have hm := lh_le_trans hm (show ∀ b, gvN S18 b ≤ gvN S23 b from m_X10_fails k24)
        obtain ⟨v26, hv26, hf⟩ := dc_let_ok hf
        obtain ⟨_, rfl⟩ := dc_ret hf
        exact hm
      · replace hf := dc_if_f c21 hf
        obtain ⟨x28, hx28, hf⟩ := dc_nn_ok hf
        obtain ⟨g29, hf⟩ := dc_gd_ok hf
        obtain ⟨v30, hv30, hf⟩ := dc_let_ok hf
        obtain ⟨x32, hx32, hf⟩ := dc_nn_ok hf
        obtain ⟨g33, hf⟩ := dc_gd_ok hf
        by_cases c34 : (gvI S18 37 x32 ((v30 + p2)).toNatClampNeg) = (2 : Int32)
        · replace hf := dc_if_t c34 hf
          obtain ⟨x71, hx71, hf⟩ := dc_nn_ok hf
          obtain ⟨g72, hf⟩ := dc_gd_ok hf
          obtain ⟨v73, hv73, hf⟩ := dc_let_ok hf
          obtain ⟨x75, hx75, hf⟩ := dc_nn_ok hf
          obtain ⟨g76, hf⟩ := dc_gd_ok hf
          exact lh_le_trans hm (ih S18 v73 (gvI S18 51 x75 (v20).toNatClampNeg) hf)
        · replace hf := dc_if_f c34 hf
          obtain ⟨g36, hf⟩ := dc_gd_ok hf
          by_cases c37 : (gvI S18 37 x32 ((v30 + p2)).toNatClampNeg) = (1 : Int32)
          · replace hf := dc_if_t c37 hf
            obtain ⟨x63, hx63, hf⟩ := dc_nn_ok hf
            obtain ⟨g64, hf⟩ := dc_gd_ok hf
            obtain ⟨v65, hv65, hf⟩ := dc_let_ok hf
            obtain ⟨x67, hx67, hf⟩ := dc_nn_ok hf
            obtain ⟨g68, hf⟩ := dc_gd_ok hf
            obtain ⟨v69, hv69, hf⟩ := dc_let_ok hf
            obtain ⟨_, rfl⟩ := dc_ret hf
            exact hm
          · replace hf := dc_if_f c37 hf
            obtain ⟨g39, hf⟩ := dc_gd_ok hf
            by_cases c40 : (gvI S18 37 x32 ((v30 + p2)).toNatClampNeg) = (3 : Int32)
            · replace hf := dc_if_t c40 hf
              obtain ⟨x45, hx45, hf⟩ := dc_nn_ok hf
              obtain ⟨g46, hf⟩ := dc_gd_ok hf
              obtain ⟨x48, hx48, hf⟩ := dc_nn_ok hf
              obtain ⟨g49, hf⟩ := dc_gd_ok hf
              obtain ⟨v50, hv50, hf⟩ := dc_let_ok hf
              obtain ⟨v51, hv51, hf⟩ := dc_let_ok hf
              obtain ⟨g52, hf⟩ := dc_gd_ok hf
              obtain ⟨S53, eS53, hf⟩ := dc_let_ok hf
              have hm := lh_le_trans hm (show ∀ b, gvN S18 b ≤ gvN S53 b from by rw [eS53]; exact lh_mJ)
              obtain ⟨x56, hx56, hf⟩ := dc_nn_ok hf
              obtain ⟨g57, hf⟩ := dc_gd_ok hf
              obtain ⟨x59, hx59, hf⟩ := dc_nn_ok hf
              obtain ⟨g60, hf⟩ := dc_gd_ok hf
              obtain ⟨v61, hv61, hf⟩ := dc_let_ok hf
              obtain ⟨_, rfl⟩ := dc_ret hf
              exact hm
            · replace hf := dc_if_f c40 hf
              obtain ⟨x42, hx42, hf⟩ := dc_nn_ok hf
              obtain ⟨g43, hf⟩ := dc_gd_ok hf
              exact lh_le_trans hm (ih S18 w19 (gvI S18 51 x42 (v20).toNatClampNeg) hf)
theorem k_X10_call_L44 {n : Nat} {t : Nat} {p1 : Int32} {p2 : Int32} {p3 : Int64} {r : Int64} {S' : lh_S} : ∀ (g : Nat) (S18 : lh_S) (w19 : Int64) (v20 : Int32), f_X10_call_L44 n t p1 p2 p3 g S18 w19 v20 = some (r, S') → lh_sm10 S18 S' := by
    intro g
    induction g with
    | zero => intro S18 w19 v20 hf; rw [f_X10_call_L44] at hf; cases hf
    | succ g ih =>
      intro S18 w19 v20 hf
      rw [f_X10_call_L44] at hf
      have hm : lh_sm10 S18 S18 := lh_sm10_rf
      by_cases c21 : v20 < 0
      · replace hf := dc_if_t c21 hf
        obtain ⟨r22, S23, k24, hf⟩ := dc_bd_ok hf
        have hm := lh_sm10_trans hm (show lh_sm10 S18 S23 from k_X10_fails k24)
        obtain ⟨v26, hv26, hf⟩ := dc_let_ok hf
        obtain ⟨_, rfl⟩ := dc_ret hf
        exact hm
      · replace hf := dc_if_f c21 hf
        obtain ⟨x28, hx28, hf⟩ := dc_nn_ok hf
        obtain ⟨g29, hf⟩ := dc_gd_ok hf
        obtain ⟨v30, hv30, hf⟩ := dc_let_ok hf
        obtain ⟨x32, hx32, hf⟩ := dc_nn_ok hf
        obtain ⟨g33, hf⟩ := dc_gd_ok hf
        by_cases c34 : (gvI S18 37 x32 ((v30 + p2)).toNatClampNeg) = (2 : Int32)
        · replace hf := dc_if_t c34 hf
          obtain ⟨x71, hx71, hf⟩ := dc_nn_ok hf
          obtain ⟨g72, hf⟩ := dc_gd_ok hf
          obtain ⟨v73, hv73, hf⟩ := dc_let_ok hf
          obtain ⟨x75, hx75, hf⟩ := dc_nn_ok hf
          obtain ⟨g76, hf⟩ := dc_gd_ok hf
          exact lh_sm10_trans hm (ih S18 v73 (gvI S18 51 x75 (v20).toNatClampNeg) hf)
        · replace hf := dc_if_f c34 hf
          obtain ⟨g36, hf⟩ := dc_gd_ok hf
          by_cases c37 : (gvI S18 37 x32 ((v30 + p2)).toNatClampNeg) = (1 : Int32)
          · replace hf := dc_if_t c37 hf
            obtain ⟨x63, hx63, hf⟩ := dc_nn_ok hf
            obtain ⟨g64, hf⟩ := dc_gd_ok hf
            obtain ⟨v65, hv65, hf⟩ := dc_let_ok hf
            obtain ⟨x67, hx67, hf⟩ := dc_nn_ok hf
            obtain ⟨g68, hf⟩ := dc_gd_ok hf
            obtain ⟨v69, hv69, hf⟩ := dc_let_ok hf
            obtain ⟨_, rfl⟩ := dc_ret hf
            exact hm
          · replace hf := dc_if_f c37 hf
            obtain ⟨g39, hf⟩ := dc_gd_ok hf
            by_cases c40 : (gvI S18 37 x32 ((v30 + p2)).toNatClampNeg) = (3 : Int32)
            · replace hf := dc_if_t c40 hf
              obtain ⟨x45, hx45, hf⟩ := dc_nn_ok hf
              obtain ⟨g46, hf⟩ := dc_gd_ok hf
              obtain ⟨x48, hx48, hf⟩ := dc_nn_ok hf
              obtain ⟨g49, hf⟩ := dc_gd_ok hf
              obtain ⟨v50, hv50, hf⟩ := dc_let_ok hf
              obtain ⟨v51, hv51, hf⟩ := dc_let_ok hf
              obtain ⟨g52, hf⟩ := dc_gd_ok hf
              obtain ⟨S53, eS53, hf⟩ := dc_let_ok hf
              have hm := lh_sm10_trans hm (show lh_sm10 S18 S53 from by rw [eS53]; exact (lh_sm10J (by decide)))
              obtain ⟨x56, hx56, hf⟩ := dc_nn_ok hf
              obtain ⟨g57, hf⟩ := dc_gd_ok hf
              obtain ⟨x59, hx59, hf⟩ := dc_nn_ok hf
              obtain ⟨g60, hf⟩ := dc_gd_ok hf
              obtain ⟨v61, hv61, hf⟩ := dc_let_ok hf
              obtain ⟨_, rfl⟩ := dc_ret hf
              exact hm
            · replace hf := dc_if_f c40 hf
              obtain ⟨x42, hx42, hf⟩ := dc_nn_ok hf
              obtain ⟨g43, hf⟩ := dc_gd_ok hf
              exact lh_sm10_trans hm (ih S18 w19 (gvI S18 51 x42 (v20).toNatClampNeg) hf)
def f_X10_call (n : Nat) (S : lh_S) (t : Nat) (p1 : Int32) (p2 : Int32) (p3 : Int64) : Option (Int64 × lh_S) :=
  dc_let (pvI S 10 t 0 (0 : Int32)) fun S1 =>
  dc_bd (f_X10_isObject n S1 t p1) fun r3 S4 =>
  dc_if (r3 = 0) (
  some ((-9223372036854775806 : Int64), S4)) (
  dc_bd (f_X10_in n S4 p2.toInt64 (0 : Int64) (3 : Int64)) fun r9 S10 =>
  dc_if (r9 = 0) (
  some ((-9223372036854775805 : Int64), S10)) (
  dc_nn (gvR S10 10 t 37) fun x16 =>
  dc_gd (p1 < 0 ∨ gvL S10 67 x16 ≤ (p1).toNatClampNeg) (
  f_X10_call_L44 n t p1 p2 p3 n S10 (0 : Int64) (gvI S10 67 x16 (p1).toNatClampNeg))))
set_option maxHeartbeats 1000000 in
theorem m_X10_call {n : Nat} {S : lh_S} {t : Nat} {p1 : Int32} {p2 : Int32} {p3 : Int64} {r : Int64} {S' : lh_S} (hf : f_X10_call n S t p1 p2 p3 = some (r, S')) : ∀ b, gvN S b ≤ gvN S' b := by
  have hm : ∀ b, gvN S b ≤ gvN S b := fun _ => Nat.le_refl _
  unfold f_X10_call at hf
  obtain ⟨S1, eS1, hf⟩ := dc_let_ok hf
  have hm := lh_le_trans hm (show ∀ b, gvN S b ≤ gvN S1 b from by rw [eS1]; exact lh_mI)
  obtain ⟨r3, S4, k5, hf⟩ := dc_bd_ok hf
  have hm := lh_le_trans hm (show ∀ b, gvN S1 b ≤ gvN S4 b from m_X10_isObject k5)
  by_cases c8 : r3 = 0
  · replace hf := dc_if_t c8 hf
    obtain ⟨_, rfl⟩ := dc_ret hf
    exact hm
  · replace hf := dc_if_f c8 hf
    obtain ⟨r9, S10, k11, hf⟩ := dc_bd_ok hf
    have hm := lh_le_trans hm (show ∀ b, gvN S4 b ≤ gvN S10 b from m_X10_in k11)
    by_cases c14 : r9 = 0
    · replace hf := dc_if_t c14 hf
      obtain ⟨_, rfl⟩ := dc_ret hf
      exact hm
    · replace hf := dc_if_f c14 hf
      obtain ⟨x16, hx16, hf⟩ := dc_nn_ok hf
      obtain ⟨g17, hf⟩ := dc_gd_ok hf
      exact lh_le_trans hm (m_X10_call_L44 n S10 (0 : Int64) (gvI S10 67 x16 (p1).toNatClampNeg) hf)
set_option maxHeartbeats 1000000 in
theorem k_X10_call {n : Nat} {S : lh_S} {t : Nat} {p1 : Int32} {p2 : Int32} {p3 : Int64} {r : Int64} {S' : lh_S} (hf : f_X10_call n S t p1 p2 p3 = some (r, S')) : lh_sm10 S S' := by
  have hm : lh_sm10 S S := lh_sm10_rf
  unfold f_X10_call at hf
  obtain ⟨S1, eS1, hf⟩ := dc_let_ok hf
  have hm := lh_sm10_trans hm (show lh_sm10 S S1 from by rw [eS1]; exact (lh_sm10I (by decide)))
  obtain ⟨r3, S4, k5, hf⟩ := dc_bd_ok hf
  have hm := lh_sm10_trans hm (show lh_sm10 S1 S4 from k_X10_isObject k5)
  by_cases c8 : r3 = 0
  · replace hf := dc_if_t c8 hf
    obtain ⟨_, rfl⟩ := dc_ret hf
    exact hm
  · replace hf := dc_if_f c8 hf
    obtain ⟨r9, S10, k11, hf⟩ := dc_bd_ok hf
    have hm := lh_sm10_trans hm (show lh_sm10 S4 S10 from k_X10_in k11)
    by_cases c14 : r9 = 0
    · replace hf := dc_if_t c14 hf
      obtain ⟨_, rfl⟩ := dc_ret hf
      exact hm
    · replace hf := dc_if_f c14 hf
      obtain ⟨x16, hx16, hf⟩ := dc_nn_ok hf
      obtain ⟨g17, hf⟩ := dc_gd_ok hf
      exact lh_sm10_trans hm (k_X10_call_L44 n S10 (0 : Int64) (gvI S10 67 x16 (p1).toNatClampNeg) hf)
set_option maxHeartbeats 4000000 in
set_option maxRecDepth 100000 in
theorem c_X10_call (l : Launch) (D : va_G) (cT : Nat → ClassId) (n : Nat) (S : lh_S) (ad : Nat → Nat → Nat) (A : Nat → Prop) (sz : Nat) (hA : ∀ q, sz ≤ q → A q) (t : Nat) (p1 : Int32) (p2 : Int32) (p3 : Int64) (r : Int64) (S' : lh_S) (hf : f_X10_call n S t p1 p2 p3 = some (r, S')) (L_t : ∀ j, some t = some j → j < gvN S 10) : Met l yX10_call wsX10_call ({ frames := 2, cells := 0, slots := 0, locals := 46 } : Room) (lh_P D cT S ad A sz [lh_r ad 10 (some t), .int p1, .int p2, .long p3]) (lh_Q D cT S' ad A ((∀ b, gvN S b ≤ gvN S' b) ∧ True) (some (.long r))) 0 0 A := by
  refine Met.ofW (cc := cX10_call) (maxL := 9) (ret := (some .long)) (by decide) rfl ?_
  intro p e s m args below meth c s₁ B hml hv
  obtain ⟨hargs, hsz, hW, hK, hN⟩ := hv
  have hx := B.exec
  have hb := B.bytes
  have hr := B.returns
  have hts := atoms_spec (ws := wsX10_call) B.pre
  have hown : s.vm.findClass RX10 = some m.cls := findClass_of_methodNamed B.named
  have hlocks := B.notSynchronized
  have hA : ∀ q, s.heap.size ≤ q → A q := fun q h => hA q (by rw [← hsz]; exact h)
  have L44 : ∀ (g : Nat) (S18 : lh_S) (w19 : Int64) (v20 : Int32), f_X10_call_L44 n t p1 p2 p3 g S18 w19 v20 = some (r, S') → (∀ b, gvN S b ≤ gvN S18 b) → ∀ (H : Heap) (locs : List Loc), lh_W D cT S18 ad A H → va_S A s.heap H locs → ∀ (ls : Array Slot), lv_has ls 9 [(0, lh_r ad 10 (some t)), (1, .int p1), (2, .int p2), (3, .long p3), (5, .long w19), (7, .int v20)] → W p l e (headSpec wsX10_call ({ frames := 2, cells := 0, slots := 0, locals := 46 } : Room)).room s m args below meth c H locs 0 0 (MQ below (lh_Q D cT S' ad A ((∀ b, gvN S b ≤ gvN S' b) ∧ True) (some (.long r))) args s 0 0 A) (F0 m 44 ls []) := by
    intro g
    induction g with
    | zero => intro S18 w19 v20 hf; rw [f_X10_call_L44] at hf; cases hf
    | succ g ih =>
      intro S18 w19 v20 hf hm H locs hW hS ls hl
      rw [f_X10_call_L44] at hf
      have ok := lh_W_ok hW
      have L_t : ∀ j, some t = some j → j < gvN S18 10 := fun j h => Nat.lt_of_lt_of_le (L_t j h) (hm _)
      refine lv_iload hx hb dX10_call_44 (lv_at hl 5 rfl) ?_
      refine lv_if_lt (tgt := 186) hx hb dX10_call_46 (by decide) (fun c21 => ?_) (fun c21 => ?_)
      · replace hf := dc_if_t c21 hf
        refine lv_ldc2 (v := -9223372036854775808) hx hb hown (hts (.constantLong RX10 202 (-9223372036854775808)) (List.mem_cons_of_mem _ (List.mem_append_left _ (List.mem_append_left _ (List.mem_of_getElem? (i := 11) rfl))))) dX10_call_186 ?_
        refine lh_aload_n hx hb dX10_call_189 rfl (lv_at hl 0 rfl) ?_
        refine lv_bipush (v := 10) hx hb dX10_call_190 (by decide) ?_
        obtain ⟨r22, S23, k24, hf⟩ := dc_bd_ok hf
        refine lh_call (S' := S23) (lh_rv ⟨hx, hb, hml, hown, hts⟩ rfl (As := [.int (10 : Int32)]) (rest := [.long (-9223372036854775808 : Int64)]) (k := 10) (c_X10_fails l D cT n S18 ad A H.size (fun q9 h9 => hA q9 (Nat.le_trans hS.1 h9)) t (10 : Int32) r22 S23 k24 L_t) (cwV 1 hts gX10_call_X10_fails rfl rfl rfl (by decide +kernel) ⟨Nat.le_of_ble_eq_true rfl, Nat.le_of_ble_eq_true rfl⟩) hK hN hW (L_t _ rfl) rfl rfl rfl hl.1 rfl (by simp [lh_cat_r, lh_cat_i, lh_cat_j]) dX10_call_192 ⟨Nat.le_of_ble_eq_true rfl, Nat.le_of_ble_eq_true rfl⟩) hS (fun H locs hX hW hS => ?_)
        refine W.widen (k := 0) (n := 0) (by omega) (by omega) ?_
        show W _ _ _ _ _ _ _ _ _ _ _ _ _ _ _ (F0 m 195 ls [.int r22, .long (-9223372036854775808 : Int64)])
        have m25 : ∀ b, gvN S18 b ≤ gvN S23 b := hX.1
        have L_t : ∀ j, some t = some j → j < gvN S23 10 := fun j h => Nat.lt_of_lt_of_le (L_t j h) (m25 _)
        have hm : ∀ b, gvN S b ≤ gvN S23 b := lh_le_trans hm m25
        have ok := lh_W_ok hW
        refine lv_i2l (v := r22.toInt64) hx hb dX10_call_195 rfl ?_
        refine lv_lsub hx hb dX10_call_196 ?_
        refine lv_topl (fun v26 hv26 => ?_)
        replace hf := dc_let_e hv26 hf
        obtain ⟨rfl, rfl⟩ := dc_ret hf
        exact W.lret (v := v26) hx hb hr (fun t9 ht9 hW9 => ⟨⟨rfl, ⟨hm, trivial⟩, by rw [ht9]; exact hW⟩, hS.F ht9⟩) hS.2.2 dX10_call_197
      · replace hf := dc_if_f c21 hf
        refine lv_iconst (v := 4) hx hb dX10_call_49 (by decide) ?_
        refine lh_aload_n hx hb dX10_call_50 rfl (lv_at hl 0 rfl) ?_
        have L27 : ∀ j, gvR S18 10 t 20 = some j → j < gvN S18 50 := fun j h => ok _ _ _ _ j (L_t _ rfl) rfl h
        refine lh_get (a := 10) (k := 20) (N := 42) (C := RX10) (T := TX10) (own := RX10) (ref := "LoaderModelsModel") hx hb hts (fun _ h => (List.mem_cons_of_mem _ (List.mem_append_right _ h))) hown hK hW rfl (L_t _ rfl) rfl rfl rfl (by decide) (hts (.fieldLink RX10 63 "LoaderModelsModel" "classFile" "[I") (List.mem_cons_of_mem _ (List.mem_append_left _ (List.mem_append_left _ (List.mem_of_getElem? (i := 5) rfl))))) (fun _ h9 => h9) dX10_call_51 (v := lh_r ad 50 (gvR S18 10 t 20)) rfl ?_
        refine lv_iload hx hb dX10_call_54 (lv_at hl 5 rfl) ?_
        obtain ⟨x28, hx28, hf⟩ := dc_nn_ok hf
        obtain ⟨g29, hf⟩ := dc_gd_ok hf
        refine lh_ald_i (a := 50) hx hb hK hW hx28 (L27 _ hx28) rfl rfl g29 dX10_call_56 ?_
        refine lv_imul hx hb dX10_call_57 ?_
        refine lv_topi (fun v30 hv30 => ?_)
        replace hf := dc_let_e hv30 hf
        refine lv_iload_n hx hb dX10_call_58 rfl (lv_at hl 2 rfl) ?_
        refine lv_iadd hx hb dX10_call_59 ?_
        refine lv_istore (i := 8) (lv' := [(8, .int (v30 + p2)), (0, lh_r ad 10 (some t)), (1, .int p1), (2, .int p2), (3, .long p3), (5, .long w19), (7, .int v20)]) hx hb dX10_call_60 hl (by decide) (by first | rfl | simp [lh_cat_r, lh_cat_i, lh_cat_j]) (fun ls hl => ?_)
        refine lh_aload_n hx hb dX10_call_62 rfl (lv_at hl 1 rfl) ?_
        have L31 : ∀ j, gvR S18 10 t 7 = some j → j < gvN S18 37 := fun j h => ok _ _ _ _ j (L_t _ rfl) rfl h
        refine lh_get (a := 10) (k := 7) (N := 42) (C := RX10) (T := TX10) (own := RX10) (ref := "LoaderModelsModel") hx hb hts (fun _ h => (List.mem_cons_of_mem _ (List.mem_append_right _ h))) hown hK hW rfl (L_t _ rfl) rfl rfl rfl (by decide) (hts (.fieldLink RX10 30 "LoaderModelsModel" "kind" "[I") (List.mem_cons_of_mem _ (List.mem_append_left _ (List.mem_append_left _ (List.mem_of_getElem? (i := 6) rfl))))) (fun _ h9 => h9) dX10_call_63 (v := lh_r ad 37 (gvR S18 10 t 7)) rfl ?_
        refine lv_iload hx hb dX10_call_66 (lv_at hl 0 rfl) ?_
        obtain ⟨x32, hx32, hf⟩ := dc_nn_ok hf
        obtain ⟨g33, hf⟩ := dc_gd_ok hf
        refine lh_ald_i (a := 37) hx hb hK hW hx32 (L31 _ hx32) rfl rfl g33 dX10_call_68 ?_
        refine lv_iconst (v := 2) hx hb dX10_call_69 (by decide) ?_
        refine lv_icmp_ne (tgt := 89) hx hb dX10_call_70 (by decide) (fun c34 => ?_) (fun c34 => ?_)
        · replace hf := dc_if_f c34 hf
          refine lh_aload_n hx hb dX10_call_89 rfl (lv_at hl 1 rfl) ?_
          have L35 : ∀ j, gvR S18 10 t 7 = some j → j < gvN S18 37 := fun j h => ok _ _ _ _ j (L_t _ rfl) rfl h
          refine lh_get (a := 10) (k := 7) (N := 42) (C := RX10) (T := TX10) (own := RX10) (ref := "LoaderModelsModel") hx hb hts (fun _ h => (List.mem_cons_of_mem _ (List.mem_append_right _ h))) hown hK hW rfl (L_t _ rfl) rfl rfl rfl (by decide) (hts (.fieldLink RX10 30 "LoaderModelsModel" "kind" "[I") (List.mem_cons_of_mem _ (List.mem_append_left _ (List.mem_append_left _ (List.mem_of_getElem? (i := 6) rfl))))) (fun _ h9 => h9) dX10_call_90 (v := lh_r ad 37 (gvR S18 10 t 7)) rfl ?_
          refine lv_iload hx hb dX10_call_93 (lv_at hl 0 rfl) ?_
          obtain ⟨g36, hf⟩ := dc_gd_ok hf
          refine lh_ald_i (a := 37) hx hb hK hW hx32 (L35 _ hx32) rfl rfl g36 dX10_call_95 ?_
          refine lv_iconst (v := 1) hx hb dX10_call_96 (by decide) ?_
          refine lv_icmp_ne (tgt := 123) hx hb dX10_call_97 (by decide) (fun c37 => ?_) (fun c37 => ?_)
          · replace hf := dc_if_f c37 hf
            refine lh_aload_n hx hb dX10_call_123 rfl (lv_at hl 1 rfl) ?_
            have L38 : ∀ j, gvR S18 10 t 7 = some j → j < gvN S18 37 := fun j h => ok _ _ _ _ j (L_t _ rfl) rfl h
            refine lh_get (a := 10) (k := 7) (N := 42) (C := RX10) (T := TX10) (own := RX10) (ref := "LoaderModelsModel") hx hb hts (fun _ h => (List.mem_cons_of_mem _ (List.mem_append_right _ h))) hown hK hW rfl (L_t _ rfl) rfl rfl rfl (by decide) (hts (.fieldLink RX10 30 "LoaderModelsModel" "kind" "[I") (List.mem_cons_of_mem _ (List.mem_append_left _ (List.mem_append_left _ (List.mem_of_getElem? (i := 6) rfl))))) (fun _ h9 => h9) dX10_call_124 (v := lh_r ad 37 (gvR S18 10 t 7)) rfl ?_
            refine lv_iload hx hb dX10_call_127 (lv_at hl 0 rfl) ?_
            obtain ⟨g39, hf⟩ := dc_gd_ok hf
            refine lh_ald_i (a := 37) hx hb hK hW hx32 (L38 _ hx32) rfl rfl g39 dX10_call_129 ?_
            refine lv_iconst (v := 3) hx hb dX10_call_130 (by decide) ?_
            refine lv_icmp_ne (tgt := 174) hx hb dX10_call_131 (by decide) (fun c40 => ?_) (fun c40 => ?_)
            · replace hf := dc_if_f c40 hf
              refine lh_aload_n hx hb dX10_call_174 rfl (lv_at hl 1 rfl) ?_
              have L41 : ∀ j, gvR S18 10 t 21 = some j → j < gvN S18 51 := fun j h => ok _ _ _ _ j (L_t _ rfl) rfl h
              refine lh_get (a := 10) (k := 21) (N := 42) (C := RX10) (T := TX10) (own := RX10) (ref := "LoaderModelsModel") hx hb hts (fun _ h => (List.mem_cons_of_mem _ (List.mem_append_right _ h))) hown hK hW rfl (L_t _ rfl) rfl rfl rfl (by decide) (hts (.fieldLink RX10 66 "LoaderModelsModel" "classAbove" "[I") (List.mem_cons_of_mem _ (List.mem_append_left _ (List.mem_append_left _ (List.mem_of_getElem? (i := 10) rfl))))) (fun _ h9 => h9) dX10_call_175 (v := lh_r ad 51 (gvR S18 10 t 21)) rfl ?_
              refine lv_iload hx hb dX10_call_178 (lv_at hl 6 rfl) ?_
              obtain ⟨x42, hx42, hf⟩ := dc_nn_ok hf
              obtain ⟨g43, hf⟩ := dc_gd_ok hf
              refine lh_ald_i (a := 51) hx hb hK hW hx42 (L41 _ hx42) rfl rfl g43 dX10_call_180 ?_
              refine lv_istore (i := 7) (lv' := [(7, .int (gvI S18 51 x42 (v20).toNatClampNeg)), (8, .int (v30 + p2)), (0, lh_r ad 10 (some t)), (1, .int p1), (2, .int p2), (3, .long p3), (5, .long w19)]) hx hb dX10_call_181 hl (by decide) (by first | rfl | simp [lh_cat_r, lh_cat_i, lh_cat_j]) (fun ls hl => ?_)
              refine lv_goto (tgt := 44) hx hb dX10_call_183 (by decide) ?_
              exact ih S18 w19 (gvI S18 51 x42 (v20).toNatClampNeg) hf hm _ _ hW hS _ (lv_sub hl [2, 3, 4, 5, 6, 0] (by first | rfl | simp [lv_pick]))
            · replace hf := dc_if_t c40 hf
              refine lh_aload_n hx hb dX10_call_134 rfl (lv_at hl 1 rfl) ?_
              have L44 : ∀ j, gvR S18 10 t 23 = some j → j < gvN S18 53 := fun j h => ok _ _ _ _ j (L_t _ rfl) rfl h
              refine lh_get (a := 10) (k := 23) (N := 42) (C := RX10) (T := TX10) (own := RX10) (ref := "LoaderModelsModel") hx hb hts (fun _ h => (List.mem_cons_of_mem _ (List.mem_append_right _ h))) hown hK hW rfl (L_t _ rfl) rfl rfl rfl (by decide) (hts (.fieldLink RX10 72 "LoaderModelsModel" "fixed" "[J") (List.mem_cons_of_mem _ (List.mem_append_left _ (List.mem_append_left _ (List.mem_of_getElem? (i := 9) rfl))))) (fun _ h9 => h9) dX10_call_135 (v := lh_r ad 53 (gvR S18 10 t 23)) rfl ?_
              refine lv_iload hx hb dX10_call_138 (lv_at hl 6 rfl) ?_
              refine lv_dup2_11 hx hb dX10_call_140 rfl lh_cat_r ?_
              obtain ⟨x45, hx45, hf⟩ := dc_nn_ok hf
              obtain ⟨g46, hf⟩ := dc_gd_ok hf
              refine lh_ald_l (a := 53) hx hb hK hW hx45 (L44 _ hx45) rfl rfl g46 dX10_call_141 ?_
              refine lh_aload_n hx hb dX10_call_142 rfl (lv_at hl 1 rfl) ?_
              have L47 : ∀ j, gvR S18 10 t 8 = some j → j < gvN S18 38 := fun j h => ok _ _ _ _ j (L_t _ rfl) rfl h
              refine lh_get (a := 10) (k := 8) (N := 42) (C := RX10) (T := TX10) (own := RX10) (ref := "LoaderModelsModel") hx hb hts (fun _ h => (List.mem_cons_of_mem _ (List.mem_append_right _ h))) hown hK hW rfl (L_t _ rfl) rfl rfl rfl (by decide) (hts (.fieldLink RX10 33 "LoaderModelsModel" "methodA" "[I") (List.mem_cons_of_mem _ (List.mem_append_left _ (List.mem_append_left _ (List.mem_of_getElem? (i := 8) rfl))))) (fun _ h9 => h9) dX10_call_143 (v := lh_r ad 38 (gvR S18 10 t 8)) rfl ?_
              refine lv_iload hx hb dX10_call_146 (lv_at hl 0 rfl) ?_
              obtain ⟨x48, hx48, hf⟩ := dc_nn_ok hf
              obtain ⟨g49, hf⟩ := dc_gd_ok hf
              refine lh_ald_i (a := 38) hx hb hK hW hx48 (L47 _ hx48) rfl rfl g49 dX10_call_148 ?_
              refine lv_i2l (v := (gvI S18 38 x48 ((v30 + p2)).toNatClampNeg).toInt64) hx hb dX10_call_149 rfl ?_
              refine lv_lload_n hx hb dX10_call_150 rfl (lv_at hl 4 rfl) ?_
              refine lv_lmul hx hb dX10_call_151 ?_
              refine lv_topl (fun v50 hv50 => ?_)
              replace hf := dc_let_e hv50 hf
              refine lv_ladd hx hb dX10_call_152 ?_
              refine lv_topl (fun v51 hv51 => ?_)
              replace hf := dc_let_e hv51 hf
              obtain ⟨g52, hf⟩ := dc_gd_ok hf
              obtain ⟨S53, eS53, hf⟩ := dc_let_ok hf
              refine lh_ast_l (a := 53) hx hb hK hW hS hx45 (L44 _ hx45) rfl (fun _ => rfl) g52 dX10_call_153 (fun H locs hW hS => ?_)
              rw [← eS53] at hW
              have m54 : ∀ b, gvN S18 b ≤ gvN S53 b := by rw [eS53]; exact lh_mJ
              have L_t : ∀ j, some t = some j → j < gvN S53 10 := fun j h => Nat.lt_of_lt_of_le (L_t j h) (m54 _)
              have hm : ∀ b, gvN S b ≤ gvN S53 b := lh_le_trans hm m54
              have ok := lh_W_ok hW
              refine lh_aload_n hx hb dX10_call_154 rfl (lv_at hl 1 rfl) ?_
              have L55 : ∀ j, gvR S53 10 t 23 = some j → j < gvN S53 53 := fun j h => ok _ _ _ _ j (L_t _ rfl) rfl h
              refine lh_get (a := 10) (k := 23) (N := 42) (C := RX10) (T := TX10) (own := RX10) (ref := "LoaderModelsModel") hx hb hts (fun _ h => (List.mem_cons_of_mem _ (List.mem_append_right _ h))) hown hK hW rfl (L_t _ rfl) rfl rfl rfl (by decide) (hts (.fieldLink RX10 72 "LoaderModelsModel" "fixed" "[J") (List.mem_cons_of_mem _ (List.mem_append_left _ (List.mem_append_left _ (List.mem_of_getElem? (i := 9) rfl))))) (fun _ h9 => h9) dX10_call_155 (v := lh_r ad 53 (gvR S53 10 t 23)) rfl ?_
              refine lv_iload hx hb dX10_call_158 (lv_at hl 6 rfl) ?_
              obtain ⟨x56, hx56, hf⟩ := dc_nn_ok hf
              obtain ⟨g57, hf⟩ := dc_gd_ok hf
              refine lh_ald_l (a := 53) hx hb hK hW hx56 (L55 _ hx56) rfl rfl g57 dX10_call_160 ?_
              refine lh_aload_n hx hb dX10_call_161 rfl (lv_at hl 1 rfl) ?_
              have L58 : ∀ j, gvR S53 10 t 9 = some j → j < gvN S53 39 := fun j h => ok _ _ _ _ j (L_t _ rfl) rfl h
              refine lh_get (a := 10) (k := 9) (N := 42) (C := RX10) (T := TX10) (own := RX10) (ref := "LoaderModelsModel") hx hb hts (fun _ h => (List.mem_cons_of_mem _ (List.mem_append_right _ h))) hown hK hW rfl (L_t _ rfl) rfl rfl rfl (by decide) (hts (.fieldLink RX10 36 "LoaderModelsModel" "methodB" "[I") (List.mem_cons_of_mem _ (List.mem_append_left _ (List.mem_append_left _ (List.mem_of_getElem? (i := 7) rfl))))) (fun _ h9 => h9) dX10_call_162 (v := lh_r ad 39 (gvR S53 10 t 9)) rfl ?_
              refine lv_iload hx hb dX10_call_165 (lv_at hl 0 rfl) ?_
              obtain ⟨x59, hx59, hf⟩ := dc_nn_ok hf
              obtain ⟨g60, hf⟩ := dc_gd_ok hf
              refine lh_ald_i (a := 39) hx hb hK hW hx59 (L58 _ hx59) rfl rfl g60 dX10_call_167 ?_
              refine lv_i2l (v := (gvI S53 39 x59 ((v30 + p2)).toNatClampNeg).toInt64) hx hb dX10_call_168 rfl ?_
              refine lv_ladd hx hb dX10_call_169 ?_
              refine lv_topl (fun v61 hv61 => ?_)
              replace hf := dc_let_e hv61 hf
              refine lv_lload hx hb dX10_call_170 (lv_at hl 5 rfl) ?_
              refine lv_ladd hx hb dX10_call_172 ?_
              obtain ⟨rfl, rfl⟩ := dc_ret hf
              exact W.lret (v := v61 + w19) hx hb hr (fun t9 ht9 hW9 => ⟨⟨rfl, ⟨hm, trivial⟩, by rw [ht9]; exact hW⟩, hS.F ht9⟩) hS.2.2 dX10_call_173
          · replace hf := dc_if_t c37 hf
            refine lh_aload_n hx hb dX10_call_100 rfl (lv_at hl 1 rfl) ?_
            have L62 : ∀ j, gvR S18 10 t 8 = some j → j < gvN S18 38 := fun j h => ok _ _ _ _ j (L_t _ rfl) rfl h
            refine lh_get (a := 10) (k := 8) (N := 42) (C := RX10) (T := TX10) (own := RX10) (ref := "LoaderModelsModel") hx hb hts (fun _ h => (List.mem_cons_of_mem _ (List.mem_append_right _ h))) hown hK hW rfl (L_t _ rfl) rfl rfl rfl (by decide) (hts (.fieldLink RX10 33 "LoaderModelsModel" "methodA" "[I") (List.mem_cons_of_mem _ (List.mem_append_left _ (List.mem_append_left _ (List.mem_of_getElem? (i := 8) rfl))))) (fun _ h9 => h9) dX10_call_101 (v := lh_r ad 38 (gvR S18 10 t 8)) rfl ?_
            refine lv_iload hx hb dX10_call_104 (lv_at hl 0 rfl) ?_
            obtain ⟨x63, hx63, hf⟩ := dc_nn_ok hf
            obtain ⟨g64, hf⟩ := dc_gd_ok hf
            refine lh_ald_i (a := 38) hx hb hK hW hx63 (L62 _ hx63) rfl rfl g64 dX10_call_106 ?_
            refine lv_i2l (v := (gvI S18 38 x63 ((v30 + p2)).toNatClampNeg).toInt64) hx hb dX10_call_107 rfl ?_
            refine lv_lload_n hx hb dX10_call_108 rfl (lv_at hl 4 rfl) ?_
            refine lv_lmul hx hb dX10_call_109 ?_
            refine lv_topl (fun v65 hv65 => ?_)
            replace hf := dc_let_e hv65 hf
            refine lh_aload_n hx hb dX10_call_110 rfl (lv_at hl 1 rfl) ?_
            have L66 : ∀ j, gvR S18 10 t 9 = some j → j < gvN S18 39 := fun j h => ok _ _ _ _ j (L_t _ rfl) rfl h
            refine lh_get (a := 10) (k := 9) (N := 42) (C := RX10) (T := TX10) (own := RX10) (ref := "LoaderModelsModel") hx hb hts (fun _ h => (List.mem_cons_of_mem _ (List.mem_append_right _ h))) hown hK hW rfl (L_t _ rfl) rfl rfl rfl (by decide) (hts (.fieldLink RX10 36 "LoaderModelsModel" "methodB" "[I") (List.mem_cons_of_mem _ (List.mem_append_left _ (List.mem_append_left _ (List.mem_of_getElem? (i := 7) rfl))))) (fun _ h9 => h9) dX10_call_111 (v := lh_r ad 39 (gvR S18 10 t 9)) rfl ?_
            refine lv_iload hx hb dX10_call_114 (lv_at hl 0 rfl) ?_
            obtain ⟨x67, hx67, hf⟩ := dc_nn_ok hf
            obtain ⟨g68, hf⟩ := dc_gd_ok hf
            refine lh_ald_i (a := 39) hx hb hK hW hx67 (L66 _ hx67) rfl rfl g68 dX10_call_116 ?_
            refine lv_i2l (v := (gvI S18 39 x67 ((v30 + p2)).toNatClampNeg).toInt64) hx hb dX10_call_117 rfl ?_
            refine lv_ladd hx hb dX10_call_118 ?_
            refine lv_topl (fun v69 hv69 => ?_)
            replace hf := dc_let_e hv69 hf
            refine lv_lload hx hb dX10_call_119 (lv_at hl 5 rfl) ?_
            refine lv_ladd hx hb dX10_call_121 ?_
            obtain ⟨rfl, rfl⟩ := dc_ret hf
            exact W.lret (v := v69 + w19) hx hb hr (fun t9 ht9 hW9 => ⟨⟨rfl, ⟨hm, trivial⟩, by rw [ht9]; exact hW⟩, hS.F ht9⟩) hS.2.2 dX10_call_122
        · replace hf := dc_if_t c34 hf
          refine lv_lload hx hb dX10_call_73 (lv_at hl 5 rfl) ?_
          refine lh_aload_n hx hb dX10_call_75 rfl (lv_at hl 1 rfl) ?_
          have L70 : ∀ j, gvR S18 10 t 9 = some j → j < gvN S18 39 := fun j h => ok _ _ _ _ j (L_t _ rfl) rfl h
          refine lh_get (a := 10) (k := 9) (N := 42) (C := RX10) (T := TX10) (own := RX10) (ref := "LoaderModelsModel") hx hb hts (fun _ h => (List.mem_cons_of_mem _ (List.mem_append_right _ h))) hown hK hW rfl (L_t _ rfl) rfl rfl rfl (by decide) (hts (.fieldLink RX10 36 "LoaderModelsModel" "methodB" "[I") (List.mem_cons_of_mem _ (List.mem_append_left _ (List.mem_append_left _ (List.mem_of_getElem? (i := 7) rfl))))) (fun _ h9 => h9) dX10_call_76 (v := lh_r ad 39 (gvR S18 10 t 9)) rfl ?_
          refine lv_iload hx hb dX10_call_79 (lv_at hl 0 rfl) ?_
          obtain ⟨x71, hx71, hf⟩ := dc_nn_ok hf
          obtain ⟨g72, hf⟩ := dc_gd_ok hf
          refine lh_ald_i (a := 39) hx hb hK hW hx71 (L70 _ hx71) rfl rfl g72 dX10_call_81 ?_
          refine lv_i2l (v := (gvI S18 39 x71 ((v30 + p2)).toNatClampNeg).toInt64) hx hb dX10_call_82 rfl ?_
          refine lv_ladd hx hb dX10_call_83 ?_
          refine lv_topl (fun v73 hv73 => ?_)
          replace hf := dc_let_e hv73 hf
          refine lv_lstore (i := 5) (lv' := [(5, .long v73), (8, .int (v30 + p2)), (0, lh_r ad 10 (some t)), (1, .int p1), (2, .int p2), (3, .long p3), (7, .int v20)]) hx hb dX10_call_84 hl (by decide) (by first | rfl | simp [lh_cat_r, lh_cat_i, lh_cat_j]) (fun ls hl => ?_)
          refine lv_goto (tgt := 174) hx hb dX10_call_86 (by decide) ?_
          refine lh_aload_n hx hb dX10_call_174 rfl (lv_at hl 2 rfl) ?_
          have L74 : ∀ j, gvR S18 10 t 21 = some j → j < gvN S18 51 := fun j h => ok _ _ _ _ j (L_t _ rfl) rfl h
          refine lh_get (a := 10) (k := 21) (N := 42) (C := RX10) (T := TX10) (own := RX10) (ref := "LoaderModelsModel") hx hb hts (fun _ h => (List.mem_cons_of_mem _ (List.mem_append_right _ h))) hown hK hW rfl (L_t _ rfl) rfl rfl rfl (by decide) (hts (.fieldLink RX10 66 "LoaderModelsModel" "classAbove" "[I") (List.mem_cons_of_mem _ (List.mem_append_left _ (List.mem_append_left _ (List.mem_of_getElem? (i := 10) rfl))))) (fun _ h9 => h9) dX10_call_175 (v := lh_r ad 51 (gvR S18 10 t 21)) rfl ?_
          refine lv_iload hx hb dX10_call_178 (lv_at hl 6 rfl) ?_
          obtain ⟨x75, hx75, hf⟩ := dc_nn_ok hf
          obtain ⟨g76, hf⟩ := dc_gd_ok hf
          refine lh_ald_i (a := 51) hx hb hK hW hx75 (L74 _ hx75) rfl rfl g76 dX10_call_180 ?_
          refine lv_istore (i := 7) (lv' := [(7, .int (gvI S18 51 x75 (v20).toNatClampNeg)), (5, .long v73), (8, .int (v30 + p2)), (0, lh_r ad 10 (some t)), (1, .int p1), (2, .int p2), (3, .long p3)]) hx hb dX10_call_181 hl (by decide) (by first | rfl | simp [lh_cat_r, lh_cat_i, lh_cat_j]) (fun ls hl => ?_)
          refine lv_goto (tgt := 44) hx hb dX10_call_183 (by decide) ?_
          exact ih S18 v73 (gvI S18 51 x75 (v20).toNatClampNeg) hf hm _ _ hW hS _ (lv_sub hl [3, 4, 5, 6, 1, 0] (by first | rfl | simp [lv_pick]))
  have ok := lh_W_ok hW
  have hm : ∀ b, gvN S b ≤ gvN S b := fun _ => Nat.le_refl _
  obtain ⟨ls, hent, hl⟩ := lh_entry m args [lh_r ad 10 (some t), .int p1, .int p2, .long p3] 9 [(0, lh_r ad 10 (some t)), (1, .int p1), (2, .int p2), (3, .long p3)] hargs (by simp [lv_args, lh_cat_r, lh_cat_i, lh_cat_j]) (by simp [lg_sl, lh_cat_r, lh_cat_i, lh_cat_j])
  rw [hent]
  generalize hH : s.heap = H at hW ⊢
  have hS : va_S A s.heap H [] := by rw [← hH]; exact va_S.rf
  unfold f_X10_call at hf
  refine lh_aload_n hx hb dX10_call_0 rfl (lv_at hl 0 rfl) ?_
  refine lv_iconst (v := 0) hx hb dX10_call_1 (by decide) ?_
  obtain ⟨S1, eS1, hf⟩ := dc_let_ok hf
  refine lh_put (S' := S1) (a := 10) (k := 0) (N := 42) (C := RX10) (T := TX10) (own := RX10) (ref := "LoaderModelsModel") (ty := .int) hx hb hts (fun _ h => (List.mem_cons_of_mem _ (List.mem_append_right _ h))) tyX10 tyX10_ok nmX10 hown hK hW hS rfl (L_t _ rfl) rfl rfl rfl (by decide) (hts (.fieldLink RX10 1 "LoaderModelsModel" "thrown" "I") (List.mem_cons_of_mem _ (List.mem_append_left _ (List.mem_append_left _ (List.mem_of_getElem? (i := 0) rfl))))) (fun _ h9 => h9) (Or.inl rfl) (by decide +kernel) rfl rfl (fun q9 => by rw [eS1]; exact lh_chI rfl q9) dX10_call_2 (fun H locs hW hS => ?_)
  have m2 : ∀ b, gvN S b ≤ gvN S1 b := by rw [eS1]; exact lh_mI
  have L_t : ∀ j, some t = some j → j < gvN S1 10 := fun j h => Nat.lt_of_lt_of_le (L_t j h) (m2 _)
  have hm : ∀ b, gvN S b ≤ gvN S1 b := lh_le_trans hm m2
  have ok := lh_W_ok hW
  refine lh_aload_n hx hb dX10_call_5 rfl (lv_at hl 0 rfl) ?_
  refine lv_iload_n hx hb dX10_call_6 rfl (lv_at hl 1 rfl) ?_
  obtain ⟨r3, S4, k5, hf⟩ := dc_bd_ok hf
  refine lh_call (S' := S4) (lh_rv ⟨hx, hb, hml, hown, hts⟩ rfl (As := [.int p1]) (rest := []) (k := 10) (c_X10_isObject l D cT n S1 ad A H.size (fun q9 h9 => hA q9 (Nat.le_trans hS.1 h9)) t p1 r3 S4 k5 L_t) (cwV 1 hts gX10_call_X10_isObject rfl rfl rfl (by decide +kernel) ⟨Nat.le_of_ble_eq_true rfl, Nat.le_of_ble_eq_true rfl⟩) hK hN hW (L_t _ rfl) rfl rfl rfl hl.1 rfl (by simp [lh_cat_r, lh_cat_i, lh_cat_j]) dX10_call_7 ⟨Nat.le_of_ble_eq_true rfl, Nat.le_of_ble_eq_true rfl⟩) hS (fun H locs hX hW hS => ?_)
  refine W.widen (k := 0) (n := 0) (by omega) (by omega) ?_
  show W _ _ _ _ _ _ _ _ _ _ _ _ _ _ _ (F0 m 10 ls [.int r3])
  have m6 : ∀ b, gvN S1 b ≤ gvN S4 b := hX.1
  have L_t : ∀ j, some t = some j → j < gvN S4 10 := fun j h => Nat.lt_of_lt_of_le (L_t j h) (m6 _)
  have hm : ∀ b, gvN S b ≤ gvN S4 b := lh_le_trans hm m6
  have ok := lh_W_ok hW
  have z7 := hX.2
  refine lv_if_ne (tgt := 17) hx hb dX10_call_10 (by decide) (fun c8 => ?_) (fun c8 => ?_)
  · replace hf := dc_if_f c8 hf
    refine lv_iload_n hx hb dX10_call_17 rfl (lv_at hl 2 rfl) ?_
    refine lv_i2l (v := p2.toInt64) hx hb dX10_call_18 rfl ?_
    refine lv_lconst (v := 0) hx hb dX10_call_19 (by decide) ?_
    refine lv_ldc2 (v := 3) hx hb hown (hts (.constantLong RX10 147 (3)) (List.mem_cons_of_mem _ (List.mem_append_left _ (List.mem_append_left _ (List.mem_of_getElem? (i := 2) rfl))))) dX10_call_20 ?_
    obtain ⟨r9, S10, k11, hf⟩ := dc_bd_ok hf
    refine lh_call (S' := S10) (lh_rs ⟨hx, hb, hml, hown, hts⟩ (As := [.long p2.toInt64, .long (0 : Int64), .long (3 : Int64)]) (rest := []) (c_X10_in l D cT n S4 ad A H.size (fun q9 h9 => hA q9 (Nat.le_trans hS.1 h9)) p2.toInt64 (0 : Int64) (3 : Int64) r9 S10 k11 ) (va_cwS 3 hts gX10_call_X10_in rfl rfl rfl (by decide +kernel) ⟨Nat.le_of_ble_eq_true rfl, Nat.le_of_ble_eq_true rfl⟩) hK hN hW rfl hl.1 rfl (by simp [lh_cat_r, lh_cat_i, lh_cat_j]) dX10_call_23 ⟨Nat.le_of_ble_eq_true rfl, Nat.le_of_ble_eq_true rfl⟩) hS (fun H locs hX hW hS => ?_)
    refine W.widen (k := 0) (n := 0) (by omega) (by omega) ?_
    show W _ _ _ _ _ _ _ _ _ _ _ _ _ _ _ (F0 m 26 ls [.int r9])
    have m12 : ∀ b, gvN S4 b ≤ gvN S10 b := hX.1
    have L_t : ∀ j, some t = some j → j < gvN S10 10 := fun j h => Nat.lt_of_lt_of_le (L_t j h) (m12 _)
    have hm : ∀ b, gvN S b ≤ gvN S10 b := lh_le_trans hm m12
    have ok := lh_W_ok hW
    have z13 := hX.2
    refine lv_if_ne (tgt := 33) hx hb dX10_call_26 (by decide) (fun c14 => ?_) (fun c14 => ?_)
    · replace hf := dc_if_f c14 hf
      refine lv_lconst (v := 0) hx hb dX10_call_33 (by decide) ?_
      refine lv_lstore (i := 5) (lv' := [(5, .long (0 : Int64)), (0, lh_r ad 10 (some t)), (1, .int p1), (2, .int p2), (3, .long p3)]) hx hb dX10_call_34 hl (by decide) (by first | rfl | simp [lh_cat_r, lh_cat_i, lh_cat_j]) (fun ls hl => ?_)
      refine lh_aload_n hx hb dX10_call_36 rfl (lv_at hl 1 rfl) ?_
      have L15 : ∀ j, gvR S10 10 t 37 = some j → j < gvN S10 67 := fun j h => ok _ _ _ _ j (L_t _ rfl) rfl h
      refine lh_get (a := 10) (k := 37) (N := 42) (C := RX10) (T := TX10) (own := RX10) (ref := "LoaderModelsModel") hx hb hts (fun _ h => (List.mem_cons_of_mem _ (List.mem_append_right _ h))) hown hK hW rfl (L_t _ rfl) rfl rfl rfl (by decide) (hts (.fieldLink RX10 97 "LoaderModelsModel" "objectClass" "[I") (List.mem_cons_of_mem _ (List.mem_append_left _ (List.mem_append_left _ (List.mem_of_getElem? (i := 4) rfl))))) (fun _ h9 => h9) dX10_call_37 (v := lh_r ad 67 (gvR S10 10 t 37)) rfl ?_
      refine lv_iload_n hx hb dX10_call_40 rfl (lv_at hl 2 rfl) ?_
      obtain ⟨x16, hx16, hf⟩ := dc_nn_ok hf
      obtain ⟨g17, hf⟩ := dc_gd_ok hf
      refine lh_ald_i (a := 67) hx hb hK hW hx16 (L15 _ hx16) rfl rfl g17 dX10_call_41 ?_
      refine lv_istore (i := 7) (lv' := [(7, .int (gvI S10 67 x16 (p1).toNatClampNeg)), (5, .long (0 : Int64)), (0, lh_r ad 10 (some t)), (1, .int p1), (2, .int p2), (3, .long p3)]) hx hb dX10_call_42 hl (by decide) (by first | rfl | simp [lh_cat_r, lh_cat_i, lh_cat_j]) (fun ls hl => ?_)
      exact L44 n S10 (0 : Int64) (gvI S10 67 x16 (p1).toNatClampNeg) hf hm _ _ hW hS _ (lv_sub hl [2, 3, 4, 5, 1, 0] (by first | rfl | simp [lv_pick]))
    · replace hf := dc_if_t c14 hf
      refine lv_ldc2 (v := -9223372036854775805) hx hb hown (hts (.constantLong RX10 222 (-9223372036854775805)) (List.mem_cons_of_mem _ (List.mem_append_left _ (List.mem_append_left _ (List.mem_of_getElem? (i := 3) rfl))))) dX10_call_29 ?_
      obtain ⟨rfl, rfl⟩ := dc_ret hf
      exact W.lret (v := (-9223372036854775805 : Int64)) hx hb hr (fun t9 ht9 hW9 => ⟨⟨rfl, ⟨hm, trivial⟩, by rw [ht9]; exact hW⟩, hS.F ht9⟩) hS.2.2 dX10_call_32
  · replace hf := dc_if_t c8 hf
    refine lv_ldc2 (v := -9223372036854775806) hx hb hown (hts (.constantLong RX10 200 (-9223372036854775806)) (List.mem_cons_of_mem _ (List.mem_append_left _ (List.mem_append_left _ (List.mem_of_getElem? (i := 1) rfl))))) dX10_call_13 ?_
    obtain ⟨rfl, rfl⟩ := dc_ret hf
    exact W.lret (v := (-9223372036854775806 : Int64)) hx hb hr (fun t9 ht9 hW9 => ⟨⟨rfl, ⟨hm, trivial⟩, by rw [ht9]; exact hW⟩, hS.F ht9⟩) hS.2.2 dX10_call_16
def f_X10_about (n : Nat) (S : lh_S) (t : Nat) (p1 : Int32) (p2 : Int32) : Option (Int32 × lh_S) :=
  dc_let (pvI S 10 t 0 (0 : Int32)) fun S1 =>
  dc_bd (f_X10_isClass n S1 t p1) fun r3 S4 =>
  dc_if (r3 = 0) (
  some ((-2 : Int32), S4)) (
  dc_if (p2 = 0) (
  dc_nn (gvR S4 10 t 18) fun x27 =>
  dc_gd (p1 < 0 ∨ gvL S4 48 x27 ≤ (p1).toNatClampNeg) (
  some (gvI S4 48 x27 (p1).toNatClampNeg, S4))) (
  dc_if (p2 = (1 : Int32)) (
  dc_nn (gvR S4 10 t 19) fun x24 =>
  dc_gd (p1 < 0 ∨ gvL S4 49 x24 ≤ (p1).toNatClampNeg) (
  some (gvI S4 49 x24 (p1).toNatClampNeg, S4))) (
  dc_if (p2 = (2 : Int32)) (
  dc_nn (gvR S4 10 t 21) fun x21 =>
  dc_gd (p1 < 0 ∨ gvL S4 51 x21 ≤ (p1).toNatClampNeg) (
  some (gvI S4 51 x21 (p1).toNatClampNeg, S4))) (
  dc_if (p2 = (3 : Int32)) (
  dc_nn (gvR S4 10 t 20) fun x18 =>
  dc_gd (p1 < 0 ∨ gvL S4 50 x18 ≤ (p1).toNatClampNeg) (
  some (gvI S4 50 x18 (p1).toNatClampNeg, S4))) (
  dc_if (p2 = (4 : Int32)) (
  dc_nn (gvR S4 10 t 22) fun x15 =>
  dc_gd (p1 < 0 ∨ gvL S4 52 x15 ≤ (p1).toNatClampNeg) (
  some (gvI S4 52 x15 (p1).toNatClampNeg, S4))) (
  some ((-3 : Int32), S4)))))))
set_option maxHeartbeats 1000000 in
theorem m_X10_about {n : Nat} {S : lh_S} {t : Nat} {p1 : Int32} {p2 : Int32} {r : Int32} {S' : lh_S} (hf : f_X10_about n S t p1 p2 = some (r, S')) : ∀ b, gvN S b ≤ gvN S' b := by
  have hm : ∀ b, gvN S b ≤ gvN S b := fun _ => Nat.le_refl _
  unfold f_X10_about at hf
  obtain ⟨S1, eS1, hf⟩ := dc_let_ok hf
  have hm := lh_le_trans hm (show ∀ b, gvN S b ≤ gvN S1 b from by rw [eS1]; exact lh_mI)
  obtain ⟨r3, S4, k5, hf⟩ := dc_bd_ok hf
  have hm := lh_le_trans hm (show ∀ b, gvN S1 b ≤ gvN S4 b from m_X10_isClass k5)
  by_cases c8 : r3 = 0
  · replace hf := dc_if_t c8 hf
    obtain ⟨_, rfl⟩ := dc_ret hf
    exact hm
  · replace hf := dc_if_f c8 hf
    by_cases c9 : p2 = 0
    · replace hf := dc_if_t c9 hf
      obtain ⟨x27, hx27, hf⟩ := dc_nn_ok hf
      obtain ⟨g28, hf⟩ := dc_gd_ok hf
      obtain ⟨_, rfl⟩ := dc_ret hf
      exact hm
    · replace hf := dc_if_f c9 hf
      by_cases c10 : p2 = (1 : Int32)
      · replace hf := dc_if_t c10 hf
        obtain ⟨x24, hx24, hf⟩ := dc_nn_ok hf
        obtain ⟨g25, hf⟩ := dc_gd_ok hf
        obtain ⟨_, rfl⟩ := dc_ret hf
        exact hm
      · replace hf := dc_if_f c10 hf
        by_cases c11 : p2 = (2 : Int32)
        · replace hf := dc_if_t c11 hf
          obtain ⟨x21, hx21, hf⟩ := dc_nn_ok hf
          obtain ⟨g22, hf⟩ := dc_gd_ok hf
          obtain ⟨_, rfl⟩ := dc_ret hf
          exact hm
        · replace hf := dc_if_f c11 hf
          by_cases c12 : p2 = (3 : Int32)
          · replace hf := dc_if_t c12 hf
            obtain ⟨x18, hx18, hf⟩ := dc_nn_ok hf
            obtain ⟨g19, hf⟩ := dc_gd_ok hf
            obtain ⟨_, rfl⟩ := dc_ret hf
            exact hm
          · replace hf := dc_if_f c12 hf
            by_cases c13 : p2 = (4 : Int32)
            · replace hf := dc_if_t c13 hf
              obtain ⟨x15, hx15, hf⟩ := dc_nn_ok hf
              obtain ⟨g16, hf⟩ := dc_gd_ok hf
              obtain ⟨_, rfl⟩ := dc_ret hf
              exact hm
            · replace hf := dc_if_f c13 hf
              obtain ⟨_, rfl⟩ := dc_ret hf
              exact hm
set_option maxHeartbeats 1000000 in
theorem k_X10_about {n : Nat} {S : lh_S} {t : Nat} {p1 : Int32} {p2 : Int32} {r : Int32} {S' : lh_S} (hf : f_X10_about n S t p1 p2 = some (r, S')) : lh_sm10 S S' := by
  have hm : lh_sm10 S S := lh_sm10_rf
  unfold f_X10_about at hf
  obtain ⟨S1, eS1, hf⟩ := dc_let_ok hf
  have hm := lh_sm10_trans hm (show lh_sm10 S S1 from by rw [eS1]; exact (lh_sm10I (by decide)))
  obtain ⟨r3, S4, k5, hf⟩ := dc_bd_ok hf
  have hm := lh_sm10_trans hm (show lh_sm10 S1 S4 from k_X10_isClass k5)
  by_cases c8 : r3 = 0
  · replace hf := dc_if_t c8 hf
    obtain ⟨_, rfl⟩ := dc_ret hf
    exact hm
  · replace hf := dc_if_f c8 hf
    by_cases c9 : p2 = 0
    · replace hf := dc_if_t c9 hf
      obtain ⟨x27, hx27, hf⟩ := dc_nn_ok hf
      obtain ⟨g28, hf⟩ := dc_gd_ok hf
      obtain ⟨_, rfl⟩ := dc_ret hf
      exact hm
    · replace hf := dc_if_f c9 hf
      by_cases c10 : p2 = (1 : Int32)
      · replace hf := dc_if_t c10 hf
        obtain ⟨x24, hx24, hf⟩ := dc_nn_ok hf
        obtain ⟨g25, hf⟩ := dc_gd_ok hf
        obtain ⟨_, rfl⟩ := dc_ret hf
        exact hm
      · replace hf := dc_if_f c10 hf
        by_cases c11 : p2 = (2 : Int32)
        · replace hf := dc_if_t c11 hf
          obtain ⟨x21, hx21, hf⟩ := dc_nn_ok hf
          obtain ⟨g22, hf⟩ := dc_gd_ok hf
          obtain ⟨_, rfl⟩ := dc_ret hf
          exact hm
        · replace hf := dc_if_f c11 hf
          by_cases c12 : p2 = (3 : Int32)
          · replace hf := dc_if_t c12 hf
            obtain ⟨x18, hx18, hf⟩ := dc_nn_ok hf
            obtain ⟨g19, hf⟩ := dc_gd_ok hf
            obtain ⟨_, rfl⟩ := dc_ret hf
            exact hm
          · replace hf := dc_if_f c12 hf
            by_cases c13 : p2 = (4 : Int32)
            · replace hf := dc_if_t c13 hf
              obtain ⟨x15, hx15, hf⟩ := dc_nn_ok hf
              obtain ⟨g16, hf⟩ := dc_gd_ok hf
              obtain ⟨_, rfl⟩ := dc_ret hf
              exact hm
            · replace hf := dc_if_f c13 hf
              obtain ⟨_, rfl⟩ := dc_ret hf
              exact hm
set_option maxHeartbeats 4000000 in
set_option maxRecDepth 100000 in
theorem c_X10_about (l : Launch) (D : va_G) (cT : Nat → ClassId) (n : Nat) (S : lh_S) (ad : Nat → Nat → Nat) (A : Nat → Prop) (sz : Nat) (hA : ∀ q, sz ≤ q → A q) (t : Nat) (p1 : Int32) (p2 : Int32) (r : Int32) (S' : lh_S) (hf : f_X10_about n S t p1 p2 = some (r, S')) (L_t : ∀ j, some t = some j → j < gvN S 10) : Met l yX10_about wsX10_about ({ frames := 2, cells := 0, slots := 0, locals := 46 } : Room) (lh_P D cT S ad A sz [lh_r ad 10 (some t), .int p1, .int p2]) (lh_Q D cT S' ad A ((∀ b, gvN S b ≤ gvN S' b) ∧ True) (some (.int r))) 0 0 A := by
  refine Met.ofW (cc := cX10_about) (maxL := 3) (ret := (some .int)) (by decide) rfl ?_
  intro p e s m args below meth c s₁ B hml hv
  obtain ⟨hargs, hsz, hW, hK, hN⟩ := hv
  have hx := B.exec
  have hb := B.bytes
  have hr := B.returns
  have hts := atoms_spec (ws := wsX10_about) B.pre
  have hown : s.vm.findClass RX10 = some m.cls := findClass_of_methodNamed B.named
  have hlocks := B.notSynchronized
  have hA : ∀ q, s.heap.size ≤ q → A q := fun q h => hA q (by rw [← hsz]; exact h)
  have ok := lh_W_ok hW
  have hm : ∀ b, gvN S b ≤ gvN S b := fun _ => Nat.le_refl _
  obtain ⟨ls, hent, hl⟩ := lh_entry m args [lh_r ad 10 (some t), .int p1, .int p2] 3 [(0, lh_r ad 10 (some t)), (1, .int p1), (2, .int p2)] hargs (by simp [lv_args, lh_cat_r, lh_cat_i, lh_cat_j]) (by simp [lg_sl, lh_cat_r, lh_cat_i, lh_cat_j])
  rw [hent]
  generalize hH : s.heap = H at hW ⊢
  have hS : va_S A s.heap H [] := by rw [← hH]; exact va_S.rf
  unfold f_X10_about at hf
  refine lh_aload_n hx hb dX10_about_0 rfl (lv_at hl 0 rfl) ?_
  refine lv_iconst (v := 0) hx hb dX10_about_1 (by decide) ?_
  obtain ⟨S1, eS1, hf⟩ := dc_let_ok hf
  refine lh_put (S' := S1) (a := 10) (k := 0) (N := 42) (C := RX10) (T := TX10) (own := RX10) (ref := "LoaderModelsModel") (ty := .int) hx hb hts (fun _ h => (List.mem_cons_of_mem _ (List.mem_append_right _ h))) tyX10 tyX10_ok nmX10 hown hK hW hS rfl (L_t _ rfl) rfl rfl rfl (by decide) (hts (.fieldLink RX10 1 "LoaderModelsModel" "thrown" "I") (List.mem_cons_of_mem _ (List.mem_append_left _ (List.mem_of_getElem? (i := 0) rfl)))) (fun _ h9 => h9) (Or.inl rfl) (by decide +kernel) rfl rfl (fun q9 => by rw [eS1]; exact lh_chI rfl q9) dX10_about_2 (fun H locs hW hS => ?_)
  have m2 : ∀ b, gvN S b ≤ gvN S1 b := by rw [eS1]; exact lh_mI
  have L_t : ∀ j, some t = some j → j < gvN S1 10 := fun j h => Nat.lt_of_lt_of_le (L_t j h) (m2 _)
  have hm : ∀ b, gvN S b ≤ gvN S1 b := lh_le_trans hm m2
  have ok := lh_W_ok hW
  refine lh_aload_n hx hb dX10_about_5 rfl (lv_at hl 0 rfl) ?_
  refine lv_iload_n hx hb dX10_about_6 rfl (lv_at hl 1 rfl) ?_
  obtain ⟨r3, S4, k5, hf⟩ := dc_bd_ok hf
  refine lh_call (S' := S4) (lh_rv ⟨hx, hb, hml, hown, hts⟩ rfl (As := [.int p1]) (rest := []) (k := 10) (c_X10_isClass l D cT n S1 ad A H.size (fun q9 h9 => hA q9 (Nat.le_trans hS.1 h9)) t p1 r3 S4 k5 L_t) (cwV 1 hts gX10_about_X10_isClass rfl rfl rfl (by decide +kernel) ⟨Nat.le_of_ble_eq_true rfl, Nat.le_of_ble_eq_true rfl⟩) hK hN hW (L_t _ rfl) rfl rfl rfl hl.1 rfl (by simp [lh_cat_r, lh_cat_i, lh_cat_j]) dX10_about_7 ⟨Nat.le_of_ble_eq_true rfl, Nat.le_of_ble_eq_true rfl⟩) hS (fun H locs hX hW hS => ?_)
  refine W.widen (k := 0) (n := 0) (by omega) (by omega) ?_
  show W _ _ _ _ _ _ _ _ _ _ _ _ _ _ _ (F0 m 10 ls [.int r3])
  have m6 : ∀ b, gvN S1 b ≤ gvN S4 b := hX.1
  have L_t : ∀ j, some t = some j → j < gvN S4 10 := fun j h => Nat.lt_of_lt_of_le (L_t j h) (m6 _)
  have hm : ∀ b, gvN S b ≤ gvN S4 b := lh_le_trans hm m6
  have ok := lh_W_ok hW
  have z7 := hX.2
  refine lv_if_ne (tgt := 16) hx hb dX10_about_10 (by decide) (fun c8 => ?_) (fun c8 => ?_)
  · replace hf := dc_if_f c8 hf
    refine lv_iload_n hx hb dX10_about_16 rfl (lv_at hl 2 rfl) ?_
    refine lv_if_ne (tgt := 29) hx hb dX10_about_17 (by decide) (fun c9 => ?_) (fun c9 => ?_)
    · replace hf := dc_if_f c9 hf
      refine lv_iload_n hx hb dX10_about_29 rfl (lv_at hl 2 rfl) ?_
      refine lv_iconst (v := 1) hx hb dX10_about_30 (by decide) ?_
      refine lv_icmp_ne (tgt := 43) hx hb dX10_about_31 (by decide) (fun c10 => ?_) (fun c10 => ?_)
      · replace hf := dc_if_f c10 hf
        refine lv_iload_n hx hb dX10_about_43 rfl (lv_at hl 2 rfl) ?_
        refine lv_iconst (v := 2) hx hb dX10_about_44 (by decide) ?_
        refine lv_icmp_ne (tgt := 57) hx hb dX10_about_45 (by decide) (fun c11 => ?_) (fun c11 => ?_)
        · replace hf := dc_if_f c11 hf
          refine lv_iload_n hx hb dX10_about_57 rfl (lv_at hl 2 rfl) ?_
          refine lv_iconst (v := 3) hx hb dX10_about_58 (by decide) ?_
          refine lv_icmp_ne (tgt := 71) hx hb dX10_about_59 (by decide) (fun c12 => ?_) (fun c12 => ?_)
          · replace hf := dc_if_f c12 hf
            refine lv_iload_n hx hb dX10_about_71 rfl (lv_at hl 2 rfl) ?_
            refine lv_iconst (v := 4) hx hb dX10_about_72 (by decide) ?_
            refine lv_icmp_ne (tgt := 85) hx hb dX10_about_73 (by decide) (fun c13 => ?_) (fun c13 => ?_)
            · replace hf := dc_if_f c13 hf
              refine lv_bipush (v := -3) hx hb dX10_about_85 (by decide) ?_
              obtain ⟨rfl, rfl⟩ := dc_ret hf
              exact W.iret (v := (-3 : Int32)) hx hb hr (fun t9 ht9 hW9 => ⟨⟨rfl, ⟨hm, trivial⟩, by rw [ht9]; exact hW⟩, hS.F ht9⟩) hS.2.2 dX10_about_87
            · replace hf := dc_if_t c13 hf
              refine lh_aload_n hx hb dX10_about_76 rfl (lv_at hl 0 rfl) ?_
              have L14 : ∀ j, gvR S4 10 t 22 = some j → j < gvN S4 52 := fun j h => ok _ _ _ _ j (L_t _ rfl) rfl h
              refine lh_get (a := 10) (k := 22) (N := 42) (C := RX10) (T := TX10) (own := RX10) (ref := "LoaderModelsModel") hx hb hts (fun _ h => (List.mem_cons_of_mem _ (List.mem_append_right _ h))) hown hK hW rfl (L_t _ rfl) rfl rfl rfl (by decide) (hts (.fieldLink RX10 69 "LoaderModelsModel" "classState" "[I") (List.mem_cons_of_mem _ (List.mem_append_left _ (List.mem_of_getElem? (i := 5) rfl)))) (fun _ h9 => h9) dX10_about_77 (v := lh_r ad 52 (gvR S4 10 t 22)) rfl ?_
              refine lv_iload_n hx hb dX10_about_80 rfl (lv_at hl 1 rfl) ?_
              obtain ⟨x15, hx15, hf⟩ := dc_nn_ok hf
              obtain ⟨g16, hf⟩ := dc_gd_ok hf
              refine lh_ald_i (a := 52) hx hb hK hW hx15 (L14 _ hx15) rfl rfl g16 dX10_about_81 ?_
              refine lv_goto (tgt := 87) hx hb dX10_about_82 (by decide) ?_
              obtain ⟨rfl, rfl⟩ := dc_ret hf
              exact W.iret (v := gvI S4 52 x15 (p1).toNatClampNeg) hx hb hr (fun t9 ht9 hW9 => ⟨⟨rfl, ⟨hm, trivial⟩, by rw [ht9]; exact hW⟩, hS.F ht9⟩) hS.2.2 dX10_about_87
          · replace hf := dc_if_t c12 hf
            refine lh_aload_n hx hb dX10_about_62 rfl (lv_at hl 0 rfl) ?_
            have L17 : ∀ j, gvR S4 10 t 20 = some j → j < gvN S4 50 := fun j h => ok _ _ _ _ j (L_t _ rfl) rfl h
            refine lh_get (a := 10) (k := 20) (N := 42) (C := RX10) (T := TX10) (own := RX10) (ref := "LoaderModelsModel") hx hb hts (fun _ h => (List.mem_cons_of_mem _ (List.mem_append_right _ h))) hown hK hW rfl (L_t _ rfl) rfl rfl rfl (by decide) (hts (.fieldLink RX10 63 "LoaderModelsModel" "classFile" "[I") (List.mem_cons_of_mem _ (List.mem_append_left _ (List.mem_of_getElem? (i := 4) rfl)))) (fun _ h9 => h9) dX10_about_63 (v := lh_r ad 50 (gvR S4 10 t 20)) rfl ?_
            refine lv_iload_n hx hb dX10_about_66 rfl (lv_at hl 1 rfl) ?_
            obtain ⟨x18, hx18, hf⟩ := dc_nn_ok hf
            obtain ⟨g19, hf⟩ := dc_gd_ok hf
            refine lh_ald_i (a := 50) hx hb hK hW hx18 (L17 _ hx18) rfl rfl g19 dX10_about_67 ?_
            refine lv_goto (tgt := 87) hx hb dX10_about_68 (by decide) ?_
            obtain ⟨rfl, rfl⟩ := dc_ret hf
            exact W.iret (v := gvI S4 50 x18 (p1).toNatClampNeg) hx hb hr (fun t9 ht9 hW9 => ⟨⟨rfl, ⟨hm, trivial⟩, by rw [ht9]; exact hW⟩, hS.F ht9⟩) hS.2.2 dX10_about_87
        · replace hf := dc_if_t c11 hf
          refine lh_aload_n hx hb dX10_about_48 rfl (lv_at hl 0 rfl) ?_
          have L20 : ∀ j, gvR S4 10 t 21 = some j → j < gvN S4 51 := fun j h => ok _ _ _ _ j (L_t _ rfl) rfl h
          refine lh_get (a := 10) (k := 21) (N := 42) (C := RX10) (T := TX10) (own := RX10) (ref := "LoaderModelsModel") hx hb hts (fun _ h => (List.mem_cons_of_mem _ (List.mem_append_right _ h))) hown hK hW rfl (L_t _ rfl) rfl rfl rfl (by decide) (hts (.fieldLink RX10 66 "LoaderModelsModel" "classAbove" "[I") (List.mem_cons_of_mem _ (List.mem_append_left _ (List.mem_of_getElem? (i := 3) rfl)))) (fun _ h9 => h9) dX10_about_49 (v := lh_r ad 51 (gvR S4 10 t 21)) rfl ?_
          refine lv_iload_n hx hb dX10_about_52 rfl (lv_at hl 1 rfl) ?_
          obtain ⟨x21, hx21, hf⟩ := dc_nn_ok hf
          obtain ⟨g22, hf⟩ := dc_gd_ok hf
          refine lh_ald_i (a := 51) hx hb hK hW hx21 (L20 _ hx21) rfl rfl g22 dX10_about_53 ?_
          refine lv_goto (tgt := 87) hx hb dX10_about_54 (by decide) ?_
          obtain ⟨rfl, rfl⟩ := dc_ret hf
          exact W.iret (v := gvI S4 51 x21 (p1).toNatClampNeg) hx hb hr (fun t9 ht9 hW9 => ⟨⟨rfl, ⟨hm, trivial⟩, by rw [ht9]; exact hW⟩, hS.F ht9⟩) hS.2.2 dX10_about_87
      · replace hf := dc_if_t c10 hf
        refine lh_aload_n hx hb dX10_about_34 rfl (lv_at hl 0 rfl) ?_
        have L23 : ∀ j, gvR S4 10 t 19 = some j → j < gvN S4 49 := fun j h => ok _ _ _ _ j (L_t _ rfl) rfl h
        refine lh_get (a := 10) (k := 19) (N := 42) (C := RX10) (T := TX10) (own := RX10) (ref := "LoaderModelsModel") hx hb hts (fun _ h => (List.mem_cons_of_mem _ (List.mem_append_right _ h))) hown hK hW rfl (L_t _ rfl) rfl rfl rfl (by decide) (hts (.fieldLink RX10 60 "LoaderModelsModel" "classLoader" "[I") (List.mem_cons_of_mem _ (List.mem_append_left _ (List.mem_of_getElem? (i := 2) rfl)))) (fun _ h9 => h9) dX10_about_35 (v := lh_r ad 49 (gvR S4 10 t 19)) rfl ?_
        refine lv_iload_n hx hb dX10_about_38 rfl (lv_at hl 1 rfl) ?_
        obtain ⟨x24, hx24, hf⟩ := dc_nn_ok hf
        obtain ⟨g25, hf⟩ := dc_gd_ok hf
        refine lh_ald_i (a := 49) hx hb hK hW hx24 (L23 _ hx24) rfl rfl g25 dX10_about_39 ?_
        refine lv_goto (tgt := 87) hx hb dX10_about_40 (by decide) ?_
        obtain ⟨rfl, rfl⟩ := dc_ret hf
        exact W.iret (v := gvI S4 49 x24 (p1).toNatClampNeg) hx hb hr (fun t9 ht9 hW9 => ⟨⟨rfl, ⟨hm, trivial⟩, by rw [ht9]; exact hW⟩, hS.F ht9⟩) hS.2.2 dX10_about_87
    · replace hf := dc_if_t c9 hf
      refine lh_aload_n hx hb dX10_about_20 rfl (lv_at hl 0 rfl) ?_
      have L26 : ∀ j, gvR S4 10 t 18 = some j → j < gvN S4 48 := fun j h => ok _ _ _ _ j (L_t _ rfl) rfl h
      refine lh_get (a := 10) (k := 18) (N := 42) (C := RX10) (T := TX10) (own := RX10) (ref := "LoaderModelsModel") hx hb hts (fun _ h => (List.mem_cons_of_mem _ (List.mem_append_right _ h))) hown hK hW rfl (L_t _ rfl) rfl rfl rfl (by decide) (hts (.fieldLink RX10 57 "LoaderModelsModel" "className" "[I") (List.mem_cons_of_mem _ (List.mem_append_left _ (List.mem_of_getElem? (i := 1) rfl)))) (fun _ h9 => h9) dX10_about_21 (v := lh_r ad 48 (gvR S4 10 t 18)) rfl ?_
      refine lv_iload_n hx hb dX10_about_24 rfl (lv_at hl 1 rfl) ?_
      obtain ⟨x27, hx27, hf⟩ := dc_nn_ok hf
      obtain ⟨g28, hf⟩ := dc_gd_ok hf
      refine lh_ald_i (a := 48) hx hb hK hW hx27 (L26 _ hx27) rfl rfl g28 dX10_about_25 ?_
      refine lv_goto (tgt := 87) hx hb dX10_about_26 (by decide) ?_
      obtain ⟨rfl, rfl⟩ := dc_ret hf
      exact W.iret (v := gvI S4 48 x27 (p1).toNatClampNeg) hx hb hr (fun t9 ht9 hW9 => ⟨⟨rfl, ⟨hm, trivial⟩, by rw [ht9]; exact hW⟩, hS.F ht9⟩) hS.2.2 dX10_about_87
  · replace hf := dc_if_t c8 hf
    refine lv_bipush (v := -2) hx hb dX10_about_13 (by decide) ?_
    obtain ⟨rfl, rfl⟩ := dc_ret hf
    exact W.iret (v := (-2 : Int32)) hx hb hr (fun t9 ht9 hW9 => ⟨⟨rfl, ⟨hm, trivial⟩, by rw [ht9]; exact hW⟩, hS.F ht9⟩) hS.2.2 dX10_about_15
def f_X10_noted (n : Nat) (S : lh_S) (t : Nat) (p1 : Int32) : Option (Int32 × lh_S) :=
  dc_let (pvI S 10 t 0 (0 : Int32)) fun S1 =>
  dc_if ((30 : Int32) ≤ (gvI S1 10 t 25)) (
  dc_bd (f_X10_in n S1 p1.toInt64 (0 : Int64) (((30 : Int32) - (1 : Int32)).toInt64)) fun r4 S5 =>
  dc_if (r4 = 0) (
  some ((-1 : Int32), S5)) (
  dc_let ((gvI S5 10 t 25) - (1 : Int32)) fun v11 =>
  dc_let ((v11 - p1) - (v11 - p1) / (30 : Int32) * (30 : Int32)) fun v12 =>
  dc_nn (gvR S5 10 t 26) fun x13 =>
  dc_gd (v12 < 0 ∨ gvL S5 56 x13 ≤ (v12).toNatClampNeg) (
  some (gvI S5 56 x13 (v12).toNatClampNeg, S5)))) (
  dc_let ((gvI S1 10 t 25) - (1 : Int32)) fun v15 =>
  dc_bd (f_X10_in n S1 p1.toInt64 (0 : Int64) v15.toInt64) fun r16 S17 =>
  dc_if (r16 = 0) (
  some ((-1 : Int32), S17)) (
  dc_let ((gvI S17 10 t 25) - (1 : Int32)) fun v23 =>
  dc_let ((v23 - p1) - (v23 - p1) / (30 : Int32) * (30 : Int32)) fun v24 =>
  dc_nn (gvR S17 10 t 26) fun x25 =>
  dc_gd (v24 < 0 ∨ gvL S17 56 x25 ≤ (v24).toNatClampNeg) (
  some (gvI S17 56 x25 (v24).toNatClampNeg, S17))))
set_option maxHeartbeats 1000000 in
theorem m_X10_noted {n : Nat} {S : lh_S} {t : Nat} {p1 : Int32} {r : Int32} {S' : lh_S} (hf : f_X10_noted n S t p1 = some (r, S')) : ∀ b, gvN S b ≤ gvN S' b := by
  have hm : ∀ b, gvN S b ≤ gvN S b := fun _ => Nat.le_refl _
  unfold f_X10_noted at hf
  obtain ⟨S1, eS1, hf⟩ := dc_let_ok hf
  have hm := lh_le_trans hm (show ∀ b, gvN S b ≤ gvN S1 b from by rw [eS1]; exact lh_mI)
  by_cases c3 : (30 : Int32) ≤ (gvI S1 10 t 25)
  · replace hf := dc_if_t c3 hf
    obtain ⟨r4, S5, k6, hf⟩ := dc_bd_ok hf
    have hm := lh_le_trans hm (show ∀ b, gvN S1 b ≤ gvN S5 b from m_X10_in k6)
    by_cases c9 : r4 = 0
    · replace hf := dc_if_t c9 hf
      obtain ⟨_, rfl⟩ := dc_ret hf
      exact hm
    · replace hf := dc_if_f c9 hf
      obtain ⟨v11, hv11, hf⟩ := dc_let_ok hf
      obtain ⟨v12, hv12, hf⟩ := dc_let_ok hf
      obtain ⟨x13, hx13, hf⟩ := dc_nn_ok hf
      obtain ⟨g14, hf⟩ := dc_gd_ok hf
      obtain ⟨_, rfl⟩ := dc_ret hf
      exact hm
  · replace hf := dc_if_f c3 hf
    obtain ⟨v15, hv15, hf⟩ := dc_let_ok hf
    obtain ⟨r16, S17, k18, hf⟩ := dc_bd_ok hf
    have hm := lh_le_trans hm (show ∀ b, gvN S1 b ≤ gvN S17 b from m_X10_in k18)
    by_cases c21 : r16 = 0
    · replace hf := dc_if_t c21 hf
      obtain ⟨_, rfl⟩ := dc_ret hf
      exact hm
    · replace hf := dc_if_f c21 hf
      obtain ⟨v23, hv23, hf⟩ := dc_let_ok hf
      obtain ⟨v24, hv24, hf⟩ := dc_let_ok hf
      obtain ⟨x25, hx25, hf⟩ := dc_nn_ok hf
      obtain ⟨g26, hf⟩ := dc_gd_ok hf
      obtain ⟨_, rfl⟩ := dc_ret hf
      exact hm
set_option maxHeartbeats 1000000 in
theorem k_X10_noted {n : Nat} {S : lh_S} {t : Nat} {p1 : Int32} {r : Int32} {S' : lh_S} (hf : f_X10_noted n S t p1 = some (r, S')) : lh_sm10 S S' := by
  have hm : lh_sm10 S S := lh_sm10_rf
  unfold f_X10_noted at hf
  obtain ⟨S1, eS1, hf⟩ := dc_let_ok hf
  have hm := lh_sm10_trans hm (show lh_sm10 S S1 from by rw [eS1]; exact (lh_sm10I (by decide)))
  by_cases c3 : (30 : Int32) ≤ (gvI S1 10 t 25)
  · replace hf := dc_if_t c3 hf
    obtain ⟨r4, S5, k6, hf⟩ := dc_bd_ok hf
    have hm := lh_sm10_trans hm (show lh_sm10 S1 S5 from k_X10_in k6)
    by_cases c9 : r4 = 0
    · replace hf := dc_if_t c9 hf
      obtain ⟨_, rfl⟩ := dc_ret hf
      exact hm
    · replace hf := dc_if_f c9 hf
      obtain ⟨v11, hv11, hf⟩ := dc_let_ok hf
      obtain ⟨v12, hv12, hf⟩ := dc_let_ok hf
      obtain ⟨x13, hx13, hf⟩ := dc_nn_ok hf
      obtain ⟨g14, hf⟩ := dc_gd_ok hf
      obtain ⟨_, rfl⟩ := dc_ret hf
      exact hm
  · replace hf := dc_if_f c3 hf
    obtain ⟨v15, hv15, hf⟩ := dc_let_ok hf
    obtain ⟨r16, S17, k18, hf⟩ := dc_bd_ok hf
    have hm := lh_sm10_trans hm (show lh_sm10 S1 S17 from k_X10_in k18)
    by_cases c21 : r16 = 0
    · replace hf := dc_if_t c21 hf
      obtain ⟨_, rfl⟩ := dc_ret hf
      exact hm
    · replace hf := dc_if_f c21 hf
      obtain ⟨v23, hv23, hf⟩ := dc_let_ok hf
      obtain ⟨v24, hv24, hf⟩ := dc_let_ok hf
      obtain ⟨x25, hx25, hf⟩ := dc_nn_ok hf
      obtain ⟨g26, hf⟩ := dc_gd_ok hf
      obtain ⟨_, rfl⟩ := dc_ret hf
      exact hm
set_option maxHeartbeats 4000000 in
set_option maxRecDepth 100000 in
theorem c_X10_noted (l : Launch) (D : va_G) (cT : Nat → ClassId) (n : Nat) (S : lh_S) (ad : Nat → Nat → Nat) (A : Nat → Prop) (sz : Nat) (hA : ∀ q, sz ≤ q → A q) (t : Nat) (p1 : Int32) (r : Int32) (S' : lh_S) (hf : f_X10_noted n S t p1 = some (r, S')) (L_t : ∀ j, some t = some j → j < gvN S 10) : Met l yX10_noted wsX10_noted ({ frames := 1, cells := 0, slots := 0, locals := 25 } : Room) (lh_P D cT S ad A sz [lh_r ad 10 (some t), .int p1]) (lh_Q D cT S' ad A ((∀ b, gvN S b ≤ gvN S' b) ∧ True) (some (.int r))) 0 0 A := by
  refine Met.ofW (cc := cX10_noted) (maxL := 2) (ret := (some .int)) (by decide) rfl ?_
  intro p e s m args below meth c s₁ B hml hv
  obtain ⟨hargs, hsz, hW, hK, hN⟩ := hv
  have hx := B.exec
  have hb := B.bytes
  have hr := B.returns
  have hts := atoms_spec (ws := wsX10_noted) B.pre
  have hown : s.vm.findClass RX10 = some m.cls := findClass_of_methodNamed B.named
  have hlocks := B.notSynchronized
  have hA : ∀ q, s.heap.size ≤ q → A q := fun q h => hA q (by rw [← hsz]; exact h)
  have ok := lh_W_ok hW
  have hm : ∀ b, gvN S b ≤ gvN S b := fun _ => Nat.le_refl _
  obtain ⟨ls, hent, hl⟩ := lh_entry m args [lh_r ad 10 (some t), .int p1] 2 [(0, lh_r ad 10 (some t)), (1, .int p1)] hargs (by simp [lv_args, lh_cat_r, lh_cat_i, lh_cat_j]) (by simp [lg_sl, lh_cat_r, lh_cat_i, lh_cat_j])
  rw [hent]
  generalize hH : s.heap = H at hW ⊢
  have hS : va_S A s.heap H [] := by rw [← hH]; exact va_S.rf
  unfold f_X10_noted at hf
  refine lh_aload_n hx hb dX10_noted_0 rfl (lv_at hl 0 rfl) ?_
  refine lv_iconst (v := 0) hx hb dX10_noted_1 (by decide) ?_
  obtain ⟨S1, eS1, hf⟩ := dc_let_ok hf
  refine lh_put (S' := S1) (a := 10) (k := 0) (N := 42) (C := RX10) (T := TX10) (own := RX10) (ref := "LoaderModelsModel") (ty := .int) hx hb hts (fun _ h => (List.mem_cons_of_mem _ (List.mem_append_right _ h))) tyX10 tyX10_ok nmX10 hown hK hW hS rfl (L_t _ rfl) rfl rfl rfl (by decide) (hts (.fieldLink RX10 1 "LoaderModelsModel" "thrown" "I") (List.mem_cons_of_mem _ (List.mem_append_left _ (List.mem_of_getElem? (i := 0) rfl)))) (fun _ h9 => h9) (Or.inl rfl) (by decide +kernel) rfl rfl (fun q9 => by rw [eS1]; exact lh_chI rfl q9) dX10_noted_2 (fun H locs hW hS => ?_)
  have m2 : ∀ b, gvN S b ≤ gvN S1 b := by rw [eS1]; exact lh_mI
  have L_t : ∀ j, some t = some j → j < gvN S1 10 := fun j h => Nat.lt_of_lt_of_le (L_t j h) (m2 _)
  have hm : ∀ b, gvN S b ≤ gvN S1 b := lh_le_trans hm m2
  have ok := lh_W_ok hW
  refine lv_iload_n hx hb dX10_noted_5 rfl (lv_at hl 1 rfl) ?_
  refine lv_i2l (v := p1.toInt64) hx hb dX10_noted_6 rfl ?_
  refine lv_lconst (v := 0) hx hb dX10_noted_7 (by decide) ?_
  refine lh_aload_n hx hb dX10_noted_8 rfl (lv_at hl 0 rfl) ?_
  refine lh_get (a := 10) (k := 25) (N := 42) (C := RX10) (T := TX10) (own := RX10) (ref := "LoaderModelsModel") hx hb hts (fun _ h => (List.mem_cons_of_mem _ (List.mem_append_right _ h))) hown hK hW rfl (L_t _ rfl) rfl rfl rfl (by decide) (hts (.fieldLink RX10 160 "LoaderModelsModel" "loads" "I") (List.mem_cons_of_mem _ (List.mem_append_left _ (List.mem_of_getElem? (i := 1) rfl)))) (fun _ h9 => h9) dX10_noted_9 (v := .int (gvI S1 10 t 25)) rfl ?_
  refine lv_bipush (v := 30) hx hb dX10_noted_12 (by decide) ?_
  refine lv_icmp_ge (tgt := 24) hx hb dX10_noted_14 (by decide) (fun c3 => ?_) (fun c3 => ?_)
  · replace hf := dc_if_t c3 hf
    refine lv_bipush (v := 30) hx hb dX10_noted_24 (by decide) ?_
    refine lv_iconst (v := 1) hx hb dX10_noted_26 (by decide) ?_
    refine lv_isub hx hb dX10_noted_27 ?_
    refine lv_i2l (v := ((30 : Int32) - (1 : Int32)).toInt64) hx hb dX10_noted_28 rfl ?_
    obtain ⟨r4, S5, k6, hf⟩ := dc_bd_ok hf
    refine lh_call (S' := S5) (lh_rs ⟨hx, hb, hml, hown, hts⟩ (As := [.long p1.toInt64, .long (0 : Int64), .long (((30 : Int32) - (1 : Int32)).toInt64)]) (rest := []) (c_X10_in l D cT n S1 ad A H.size (fun q9 h9 => hA q9 (Nat.le_trans hS.1 h9)) p1.toInt64 (0 : Int64) (((30 : Int32) - (1 : Int32)).toInt64) r4 S5 k6 ) (va_cwS 3 hts gX10_noted_X10_in rfl rfl rfl (by decide +kernel) ⟨Nat.le_of_ble_eq_true rfl, Nat.le_of_ble_eq_true rfl⟩) hK hN hW rfl hl.1 rfl (by simp [lh_cat_r, lh_cat_i, lh_cat_j]) dX10_noted_29 ⟨Nat.le_of_ble_eq_true rfl, Nat.le_of_ble_eq_true rfl⟩) hS (fun H locs hX hW hS => ?_)
    refine W.widen (k := 0) (n := 0) (by omega) (by omega) ?_
    show W _ _ _ _ _ _ _ _ _ _ _ _ _ _ _ (F0 m 32 ls [.int r4])
    have m7 : ∀ b, gvN S1 b ≤ gvN S5 b := hX.1
    have L_t : ∀ j, some t = some j → j < gvN S5 10 := fun j h => Nat.lt_of_lt_of_le (L_t j h) (m7 _)
    have hm : ∀ b, gvN S b ≤ gvN S5 b := lh_le_trans hm m7
    have ok := lh_W_ok hW
    have z8 := hX.2
    refine lv_if_eq (tgt := 54) hx hb dX10_noted_32 (by decide) (fun c9 => ?_) (fun c9 => ?_)
    · replace hf := dc_if_t c9 hf
      refine lv_iconst (v := -1) hx hb dX10_noted_54 (by decide) ?_
      obtain ⟨rfl, rfl⟩ := dc_ret hf
      exact W.iret (v := (-1 : Int32)) hx hb hr (fun t9 ht9 hW9 => ⟨⟨rfl, ⟨hm, trivial⟩, by rw [ht9]; exact hW⟩, hS.F ht9⟩) hS.2.2 dX10_noted_55
    · replace hf := dc_if_f c9 hf
      refine lh_aload_n hx hb dX10_noted_35 rfl (lv_at hl 0 rfl) ?_
      have L10 : ∀ j, gvR S5 10 t 26 = some j → j < gvN S5 56 := fun j h => ok _ _ _ _ j (L_t _ rfl) rfl h
      refine lh_get (a := 10) (k := 26) (N := 42) (C := RX10) (T := TX10) (own := RX10) (ref := "LoaderModelsModel") hx hb hts (fun _ h => (List.mem_cons_of_mem _ (List.mem_append_right _ h))) hown hK hW rfl (L_t _ rfl) rfl rfl rfl (by decide) (hts (.fieldLink RX10 76 "LoaderModelsModel" "noted" "[I") (List.mem_cons_of_mem _ (List.mem_append_left _ (List.mem_of_getElem? (i := 2) rfl)))) (fun _ h9 => h9) dX10_noted_36 (v := lh_r ad 56 (gvR S5 10 t 26)) rfl ?_
      refine lh_aload_n hx hb dX10_noted_39 rfl (lv_at hl 0 rfl) ?_
      refine lh_get (a := 10) (k := 25) (N := 42) (C := RX10) (T := TX10) (own := RX10) (ref := "LoaderModelsModel") hx hb hts (fun _ h => (List.mem_cons_of_mem _ (List.mem_append_right _ h))) hown hK hW rfl (L_t _ rfl) rfl rfl rfl (by decide) (hts (.fieldLink RX10 160 "LoaderModelsModel" "loads" "I") (List.mem_cons_of_mem _ (List.mem_append_left _ (List.mem_of_getElem? (i := 1) rfl)))) (fun _ h9 => h9) dX10_noted_40 (v := .int (gvI S5 10 t 25)) rfl ?_
      refine lv_iconst (v := 1) hx hb dX10_noted_43 (by decide) ?_
      refine lv_isub hx hb dX10_noted_44 ?_
      refine lv_topi (fun v11 hv11 => ?_)
      replace hf := dc_let_e hv11 hf
      refine lv_iload_n hx hb dX10_noted_45 rfl (lv_at hl 1 rfl) ?_
      refine lv_isub hx hb dX10_noted_46 ?_
      refine lv_bipush (v := 30) hx hb dX10_noted_47 (by decide) ?_
      refine lv_irem hx hb dX10_noted_49 (by decide) ?_
      refine lv_topi (fun v12 hv12 => ?_)
      replace hf := dc_let_e hv12 hf
      obtain ⟨x13, hx13, hf⟩ := dc_nn_ok hf
      obtain ⟨g14, hf⟩ := dc_gd_ok hf
      refine lh_ald_i (a := 56) hx hb hK hW hx13 (L10 _ hx13) rfl rfl g14 dX10_noted_50 ?_
      refine lv_goto (tgt := 55) hx hb dX10_noted_51 (by decide) ?_
      obtain ⟨rfl, rfl⟩ := dc_ret hf
      exact W.iret (v := gvI S5 56 x13 (v12).toNatClampNeg) hx hb hr (fun t9 ht9 hW9 => ⟨⟨rfl, ⟨hm, trivial⟩, by rw [ht9]; exact hW⟩, hS.F ht9⟩) hS.2.2 dX10_noted_55
  · replace hf := dc_if_f c3 hf
    refine lh_aload_n hx hb dX10_noted_17 rfl (lv_at hl 0 rfl) ?_
    refine lh_get (a := 10) (k := 25) (N := 42) (C := RX10) (T := TX10) (own := RX10) (ref := "LoaderModelsModel") hx hb hts (fun _ h => (List.mem_cons_of_mem _ (List.mem_append_right _ h))) hown hK hW rfl (L_t _ rfl) rfl rfl rfl (by decide) (hts (.fieldLink RX10 160 "LoaderModelsModel" "loads" "I") (List.mem_cons_of_mem _ (List.mem_append_left _ (List.mem_of_getElem? (i := 1) rfl)))) (fun _ h9 => h9) dX10_noted_18 (v := .int (gvI S1 10 t 25)) rfl ?_
    refine lv_goto (tgt := 26) hx hb dX10_noted_21 (by decide) ?_
    refine lv_iconst (v := 1) hx hb dX10_noted_26 (by decide) ?_
    refine lv_isub hx hb dX10_noted_27 ?_
    refine lv_topi (fun v15 hv15 => ?_)
    replace hf := dc_let_e hv15 hf
    refine lv_i2l (v := v15.toInt64) hx hb dX10_noted_28 rfl ?_
    obtain ⟨r16, S17, k18, hf⟩ := dc_bd_ok hf
    refine lh_call (S' := S17) (lh_rs ⟨hx, hb, hml, hown, hts⟩ (As := [.long p1.toInt64, .long (0 : Int64), .long v15.toInt64]) (rest := []) (c_X10_in l D cT n S1 ad A H.size (fun q9 h9 => hA q9 (Nat.le_trans hS.1 h9)) p1.toInt64 (0 : Int64) v15.toInt64 r16 S17 k18 ) (va_cwS 3 hts gX10_noted_X10_in rfl rfl rfl (by decide +kernel) ⟨Nat.le_of_ble_eq_true rfl, Nat.le_of_ble_eq_true rfl⟩) hK hN hW rfl hl.1 rfl (by simp [lh_cat_r, lh_cat_i, lh_cat_j]) dX10_noted_29 ⟨Nat.le_of_ble_eq_true rfl, Nat.le_of_ble_eq_true rfl⟩) hS (fun H locs hX hW hS => ?_)
    refine W.widen (k := 0) (n := 0) (by omega) (by omega) ?_
    show W _ _ _ _ _ _ _ _ _ _ _ _ _ _ _ (F0 m 32 ls [.int r16])
    have m19 : ∀ b, gvN S1 b ≤ gvN S17 b := hX.1
    have L_t : ∀ j, some t = some j → j < gvN S17 10 := fun j h => Nat.lt_of_lt_of_le (L_t j h) (m19 _)
    have hm : ∀ b, gvN S b ≤ gvN S17 b := lh_le_trans hm m19
    have ok := lh_W_ok hW
    have z20 := hX.2
    refine lv_if_eq (tgt := 54) hx hb dX10_noted_32 (by decide) (fun c21 => ?_) (fun c21 => ?_)
    · replace hf := dc_if_t c21 hf
      refine lv_iconst (v := -1) hx hb dX10_noted_54 (by decide) ?_
      obtain ⟨rfl, rfl⟩ := dc_ret hf
      exact W.iret (v := (-1 : Int32)) hx hb hr (fun t9 ht9 hW9 => ⟨⟨rfl, ⟨hm, trivial⟩, by rw [ht9]; exact hW⟩, hS.F ht9⟩) hS.2.2 dX10_noted_55
    · replace hf := dc_if_f c21 hf
      refine lh_aload_n hx hb dX10_noted_35 rfl (lv_at hl 0 rfl) ?_
      have L22 : ∀ j, gvR S17 10 t 26 = some j → j < gvN S17 56 := fun j h => ok _ _ _ _ j (L_t _ rfl) rfl h
      refine lh_get (a := 10) (k := 26) (N := 42) (C := RX10) (T := TX10) (own := RX10) (ref := "LoaderModelsModel") hx hb hts (fun _ h => (List.mem_cons_of_mem _ (List.mem_append_right _ h))) hown hK hW rfl (L_t _ rfl) rfl rfl rfl (by decide) (hts (.fieldLink RX10 76 "LoaderModelsModel" "noted" "[I") (List.mem_cons_of_mem _ (List.mem_append_left _ (List.mem_of_getElem? (i := 2) rfl)))) (fun _ h9 => h9) dX10_noted_36 (v := lh_r ad 56 (gvR S17 10 t 26)) rfl ?_
      refine lh_aload_n hx hb dX10_noted_39 rfl (lv_at hl 0 rfl) ?_
      refine lh_get (a := 10) (k := 25) (N := 42) (C := RX10) (T := TX10) (own := RX10) (ref := "LoaderModelsModel") hx hb hts (fun _ h => (List.mem_cons_of_mem _ (List.mem_append_right _ h))) hown hK hW rfl (L_t _ rfl) rfl rfl rfl (by decide) (hts (.fieldLink RX10 160 "LoaderModelsModel" "loads" "I") (List.mem_cons_of_mem _ (List.mem_append_left _ (List.mem_of_getElem? (i := 1) rfl)))) (fun _ h9 => h9) dX10_noted_40 (v := .int (gvI S17 10 t 25)) rfl ?_
      refine lv_iconst (v := 1) hx hb dX10_noted_43 (by decide) ?_
      refine lv_isub hx hb dX10_noted_44 ?_
      refine lv_topi (fun v23 hv23 => ?_)
      replace hf := dc_let_e hv23 hf
      refine lv_iload_n hx hb dX10_noted_45 rfl (lv_at hl 1 rfl) ?_
      refine lv_isub hx hb dX10_noted_46 ?_
      refine lv_bipush (v := 30) hx hb dX10_noted_47 (by decide) ?_
      refine lv_irem hx hb dX10_noted_49 (by decide) ?_
      refine lv_topi (fun v24 hv24 => ?_)
      replace hf := dc_let_e hv24 hf
      obtain ⟨x25, hx25, hf⟩ := dc_nn_ok hf
      obtain ⟨g26, hf⟩ := dc_gd_ok hf
      refine lh_ald_i (a := 56) hx hb hK hW hx25 (L22 _ hx25) rfl rfl g26 dX10_noted_50 ?_
      refine lv_goto (tgt := 55) hx hb dX10_noted_51 (by decide) ?_
      obtain ⟨rfl, rfl⟩ := dc_ret hf
      exact W.iret (v := gvI S17 56 x25 (v24).toNatClampNeg) hx hb hr (fun t9 ht9 hW9 => ⟨⟨rfl, ⟨hm, trivial⟩, by rw [ht9]; exact hW⟩, hS.F ht9⟩) hS.2.2 dX10_noted_55
def f_X10_told (n : Nat) (S : lh_S) (t : Nat) (p1 : Int32) : Option (Int32 × lh_S) :=
  dc_let (pvI S 10 t 0 (0 : Int32)) fun S1 =>
  dc_if (p1 = 0) (
  some (gvI S1 10 t 10, S1)) (
  dc_if (p1 = 1) (
  some (gvI S1 10 t 1, S1)) (
  dc_if (p1 = 2) (
  some (gvI S1 10 t 17, S1)) (
  dc_if (p1 = 3) (
  some (gvI S1 10 t 36, S1)) (
  dc_if (p1 = 4) (
  some (gvI S1 10 t 38, S1)) (
  dc_if (p1 = 5) (
  some (gvI S1 10 t 25, S1)) (
  dc_if (p1 = 6) (
  some (gvI S1 10 t 24, S1)) (
  some ((-3 : Int32), S1))))))))
set_option maxHeartbeats 1000000 in
theorem m_X10_told {n : Nat} {S : lh_S} {t : Nat} {p1 : Int32} {r : Int32} {S' : lh_S} (hf : f_X10_told n S t p1 = some (r, S')) : ∀ b, gvN S b ≤ gvN S' b := by
  have hm : ∀ b, gvN S b ≤ gvN S b := fun _ => Nat.le_refl _
  unfold f_X10_told at hf
  obtain ⟨S1, eS1, hf⟩ := dc_let_ok hf
  have hm := lh_le_trans hm (show ∀ b, gvN S b ≤ gvN S1 b from by rw [eS1]; exact lh_mI)
  by_cases c3 : p1 = 0
  · replace hf := dc_if_t c3 hf
    obtain ⟨_, rfl⟩ := dc_ret hf
    exact hm
  replace hf := dc_if_f c3 hf
  by_cases c4 : p1 = 1
  · replace hf := dc_if_t c4 hf
    obtain ⟨_, rfl⟩ := dc_ret hf
    exact hm
  replace hf := dc_if_f c4 hf
  by_cases c5 : p1 = 2
  · replace hf := dc_if_t c5 hf
    obtain ⟨_, rfl⟩ := dc_ret hf
    exact hm
  replace hf := dc_if_f c5 hf
  by_cases c6 : p1 = 3
  · replace hf := dc_if_t c6 hf
    obtain ⟨_, rfl⟩ := dc_ret hf
    exact hm
  replace hf := dc_if_f c6 hf
  by_cases c7 : p1 = 4
  · replace hf := dc_if_t c7 hf
    obtain ⟨_, rfl⟩ := dc_ret hf
    exact hm
  replace hf := dc_if_f c7 hf
  by_cases c8 : p1 = 5
  · replace hf := dc_if_t c8 hf
    obtain ⟨_, rfl⟩ := dc_ret hf
    exact hm
  replace hf := dc_if_f c8 hf
  by_cases c9 : p1 = 6
  · replace hf := dc_if_t c9 hf
    obtain ⟨_, rfl⟩ := dc_ret hf
    exact hm
  replace hf := dc_if_f c9 hf
  obtain ⟨_, rfl⟩ := dc_ret hf
  exact hm
set_option maxHeartbeats 1000000 in
theorem k_X10_told {n : Nat} {S : lh_S} {t : Nat} {p1 : Int32} {r : Int32} {S' : lh_S} (hf : f_X10_told n S t p1 = some (r, S')) : lh_sm10 S S' := by
  have hm : lh_sm10 S S := lh_sm10_rf
  unfold f_X10_told at hf
  obtain ⟨S1, eS1, hf⟩ := dc_let_ok hf
  have hm := lh_sm10_trans hm (show lh_sm10 S S1 from by rw [eS1]; exact (lh_sm10I (by decide)))
  by_cases c3 : p1 = 0
  · replace hf := dc_if_t c3 hf
    obtain ⟨_, rfl⟩ := dc_ret hf
    exact hm
  replace hf := dc_if_f c3 hf
  by_cases c4 : p1 = 1
  · replace hf := dc_if_t c4 hf
    obtain ⟨_, rfl⟩ := dc_ret hf
    exact hm
  replace hf := dc_if_f c4 hf
  by_cases c5 : p1 = 2
  · replace hf := dc_if_t c5 hf
    obtain ⟨_, rfl⟩ := dc_ret hf
    exact hm
  replace hf := dc_if_f c5 hf
  by_cases c6 : p1 = 3
  · replace hf := dc_if_t c6 hf
    obtain ⟨_, rfl⟩ := dc_ret hf
    exact hm
  replace hf := dc_if_f c6 hf
  by_cases c7 : p1 = 4
  · replace hf := dc_if_t c7 hf
    obtain ⟨_, rfl⟩ := dc_ret hf
    exact hm
  replace hf := dc_if_f c7 hf
  by_cases c8 : p1 = 5
  · replace hf := dc_if_t c8 hf
    obtain ⟨_, rfl⟩ := dc_ret hf
    exact hm
  replace hf := dc_if_f c8 hf
  by_cases c9 : p1 = 6
  · replace hf := dc_if_t c9 hf
    obtain ⟨_, rfl⟩ := dc_ret hf
    exact hm
  replace hf := dc_if_f c9 hf
  obtain ⟨_, rfl⟩ := dc_ret hf
  exact hm
set_option maxHeartbeats 4000000 in
set_option maxRecDepth 100000 in
theorem c_X10_told (l : Launch) (D : va_G) (cT : Nat → ClassId) (n : Nat) (S : lh_S) (ad : Nat → Nat → Nat) (A : Nat → Prop) (sz : Nat) (hA : ∀ q, sz ≤ q → A q) (t : Nat) (p1 : Int32) (r : Int32) (S' : lh_S) (hf : f_X10_told n S t p1 = some (r, S')) (L_t : ∀ j, some t = some j → j < gvN S 10) : Met l yX10_told wsX10_told ({ frames := 0, cells := 0, slots := 0, locals := 0 } : Room) (lh_P D cT S ad A sz [lh_r ad 10 (some t), .int p1]) (lh_Q D cT S' ad A ((∀ b, gvN S b ≤ gvN S' b) ∧ True) (some (.int r))) 0 0 A := by
  refine Met.ofW (cc := cX10_told) (maxL := 2) (ret := (some .int)) (by decide) rfl ?_
  intro p e s m args below meth c s₁ B hml hv
  obtain ⟨hargs, hsz, hW, hK, hN⟩ := hv
  have hx := B.exec
  have hb := B.bytes
  have hr := B.returns
  have hts := atoms_spec (ws := wsX10_told) B.pre
  have hown : s.vm.findClass RX10 = some m.cls := findClass_of_methodNamed B.named
  have hlocks := B.notSynchronized
  have hA : ∀ q, s.heap.size ≤ q → A q := fun q h => hA q (by rw [← hsz]; exact h)
  have ok := lh_W_ok hW
  have hm : ∀ b, gvN S b ≤ gvN S b := fun _ => Nat.le_refl _
  obtain ⟨ls, hent, hl⟩ := lh_entry m args [lh_r ad 10 (some t), .int p1] 2 [(0, lh_r ad 10 (some t)), (1, .int p1)] hargs (by simp [lv_args, lh_cat_r, lh_cat_i, lh_cat_j]) (by simp [lg_sl, lh_cat_r, lh_cat_i, lh_cat_j])
  rw [hent]
  generalize hH : s.heap = H at hW ⊢
  have hS : va_S A s.heap H [] := by rw [← hH]; exact va_S.rf
  unfold f_X10_told at hf
  refine lh_aload_n hx hb dX10_told_0 rfl (lv_at hl 0 rfl) ?_
  refine lv_iconst (v := 0) hx hb dX10_told_1 (by decide) ?_
  obtain ⟨S1, eS1, hf⟩ := dc_let_ok hf
  refine lh_put (S' := S1) (a := 10) (k := 0) (N := 42) (C := RX10) (T := TX10) (own := RX10) (ref := "LoaderModelsModel") (ty := .int) hx hb hts (fun _ h => (List.mem_cons_of_mem _ (List.mem_append_right _ h))) tyX10 tyX10_ok nmX10 hown hK hW hS rfl (L_t _ rfl) rfl rfl rfl (by decide) (hts (.fieldLink RX10 1 "LoaderModelsModel" "thrown" "I") (List.mem_cons_of_mem _ (List.mem_append_left _ (List.mem_of_getElem? (i := 0) rfl)))) (fun _ h9 => h9) (Or.inl rfl) (by decide +kernel) rfl rfl (fun q9 => by rw [eS1]; exact lh_chI rfl q9) dX10_told_2 (fun H locs hW hS => ?_)
  have m2 : ∀ b, gvN S b ≤ gvN S1 b := by rw [eS1]; exact lh_mI
  have L_t : ∀ j, some t = some j → j < gvN S1 10 := fun j h => Nat.lt_of_lt_of_le (L_t j h) (m2 _)
  have hm : ∀ b, gvN S b ≤ gvN S1 b := lh_le_trans hm m2
  have ok := lh_W_ok hW
  refine lv_iload_n hx hb dX10_told_5 rfl (lv_at hl 1 rfl) ?_
  by_cases c3 : p1 = 0
  · refine lv_tableIn (tgt := 48) hx hb dX10_told_6 (by rw [c3]; decide) (by rw [c3]; decide) (by rw [c3]; rfl) (by decide) ?_
    replace hf := dc_if_t c3 hf
    refine lh_aload_n hx hb dX10_told_48 rfl (lv_at hl 0 rfl) ?_
    refine lh_get (a := 10) (k := 10) (N := 42) (C := RX10) (T := TX10) (own := RX10) (ref := "LoaderModelsModel") hx hb hts (fun _ h => (List.mem_cons_of_mem _ (List.mem_append_right _ h))) hown hK hW rfl (L_t _ rfl) rfl rfl rfl (by decide) (hts (.fieldLink RX10 120 "LoaderModelsModel" "loaders" "I") (List.mem_cons_of_mem _ (List.mem_append_left _ (List.mem_of_getElem? (i := 1) rfl)))) (fun _ h9 => h9) dX10_told_49 (v := .int (gvI S1 10 t 10)) rfl ?_
    obtain ⟨rfl, rfl⟩ := dc_ret hf
    exact W.iret (v := gvI S1 10 t 10) hx hb hr (fun t9 ht9 hW9 => ⟨⟨rfl, ⟨hm, trivial⟩, by rw [ht9]; exact hW⟩, hS.F ht9⟩) hS.2.2 dX10_told_52
  replace hf := dc_if_f c3 hf
  by_cases c4 : p1 = 1
  · refine lv_tableIn (tgt := 53) hx hb dX10_told_6 (by rw [c4]; decide) (by rw [c4]; decide) (by rw [c4]; rfl) (by decide) ?_
    replace hf := dc_if_t c4 hf
    refine lh_aload_n hx hb dX10_told_53 rfl (lv_at hl 0 rfl) ?_
    refine lh_get (a := 10) (k := 1) (N := 42) (C := RX10) (T := TX10) (own := RX10) (ref := "LoaderModelsModel") hx hb hts (fun _ h => (List.mem_cons_of_mem _ (List.mem_append_right _ h))) hown hK hW rfl (L_t _ rfl) rfl rfl rfl (by decide) (hts (.fieldLink RX10 127 "LoaderModelsModel" "files" "I") (List.mem_cons_of_mem _ (List.mem_append_left _ (List.mem_of_getElem? (i := 2) rfl)))) (fun _ h9 => h9) dX10_told_54 (v := .int (gvI S1 10 t 1)) rfl ?_
    obtain ⟨rfl, rfl⟩ := dc_ret hf
    exact W.iret (v := gvI S1 10 t 1) hx hb hr (fun t9 ht9 hW9 => ⟨⟨rfl, ⟨hm, trivial⟩, by rw [ht9]; exact hW⟩, hS.F ht9⟩) hS.2.2 dX10_told_57
  replace hf := dc_if_f c4 hf
  by_cases c5 : p1 = 2
  · refine lv_tableIn (tgt := 58) hx hb dX10_told_6 (by rw [c5]; decide) (by rw [c5]; decide) (by rw [c5]; rfl) (by decide) ?_
    replace hf := dc_if_t c5 hf
    refine lh_aload_n hx hb dX10_told_58 rfl (lv_at hl 0 rfl) ?_
    refine lh_get (a := 10) (k := 17) (N := 42) (C := RX10) (T := TX10) (own := RX10) (ref := "LoaderModelsModel") hx hb hts (fun _ h => (List.mem_cons_of_mem _ (List.mem_append_right _ h))) hown hK hW rfl (L_t _ rfl) rfl rfl rfl (by decide) (hts (.fieldLink RX10 132 "LoaderModelsModel" "classes" "I") (List.mem_cons_of_mem _ (List.mem_append_left _ (List.mem_of_getElem? (i := 3) rfl)))) (fun _ h9 => h9) dX10_told_59 (v := .int (gvI S1 10 t 17)) rfl ?_
    obtain ⟨rfl, rfl⟩ := dc_ret hf
    exact W.iret (v := gvI S1 10 t 17) hx hb hr (fun t9 ht9 hW9 => ⟨⟨rfl, ⟨hm, trivial⟩, by rw [ht9]; exact hW⟩, hS.F ht9⟩) hS.2.2 dX10_told_62
  replace hf := dc_if_f c5 hf
  by_cases c6 : p1 = 3
  · refine lv_tableIn (tgt := 63) hx hb dX10_told_6 (by rw [c6]; decide) (by rw [c6]; decide) (by rw [c6]; rfl) (by decide) ?_
    replace hf := dc_if_t c6 hf
    refine lh_aload_n hx hb dX10_told_63 rfl (lv_at hl 0 rfl) ?_
    refine lh_get (a := 10) (k := 36) (N := 42) (C := RX10) (T := TX10) (own := RX10) (ref := "LoaderModelsModel") hx hb hts (fun _ h => (List.mem_cons_of_mem _ (List.mem_append_right _ h))) hown hK hW rfl (L_t _ rfl) rfl rfl rfl (by decide) (hts (.fieldLink RX10 204 "LoaderModelsModel" "objects" "I") (List.mem_cons_of_mem _ (List.mem_append_left _ (List.mem_of_getElem? (i := 4) rfl)))) (fun _ h9 => h9) dX10_told_64 (v := .int (gvI S1 10 t 36)) rfl ?_
    obtain ⟨rfl, rfl⟩ := dc_ret hf
    exact W.iret (v := gvI S1 10 t 36) hx hb hr (fun t9 ht9 hW9 => ⟨⟨rfl, ⟨hm, trivial⟩, by rw [ht9]; exact hW⟩, hS.F ht9⟩) hS.2.2 dX10_told_67
  replace hf := dc_if_f c6 hf
  by_cases c7 : p1 = 4
  · refine lv_tableIn (tgt := 68) hx hb dX10_told_6 (by rw [c7]; decide) (by rw [c7]; decide) (by rw [c7]; rfl) (by decide) ?_
    replace hf := dc_if_t c7 hf
    refine lh_aload_n hx hb dX10_told_68 rfl (lv_at hl 0 rfl) ?_
    refine lh_get (a := 10) (k := 38) (N := 42) (C := RX10) (T := TX10) (own := RX10) (ref := "LoaderModelsModel") hx hb hts (fun _ h => (List.mem_cons_of_mem _ (List.mem_append_right _ h))) hown hK hW rfl (L_t _ rfl) rfl rfl rfl (by decide) (hts (.fieldLink RX10 207 "LoaderModelsModel" "rows" "I") (List.mem_cons_of_mem _ (List.mem_append_left _ (List.mem_of_getElem? (i := 5) rfl)))) (fun _ h9 => h9) dX10_told_69 (v := .int (gvI S1 10 t 38)) rfl ?_
    obtain ⟨rfl, rfl⟩ := dc_ret hf
    exact W.iret (v := gvI S1 10 t 38) hx hb hr (fun t9 ht9 hW9 => ⟨⟨rfl, ⟨hm, trivial⟩, by rw [ht9]; exact hW⟩, hS.F ht9⟩) hS.2.2 dX10_told_72
  replace hf := dc_if_f c7 hf
  by_cases c8 : p1 = 5
  · refine lv_tableIn (tgt := 73) hx hb dX10_told_6 (by rw [c8]; decide) (by rw [c8]; decide) (by rw [c8]; rfl) (by decide) ?_
    replace hf := dc_if_t c8 hf
    refine lh_aload_n hx hb dX10_told_73 rfl (lv_at hl 0 rfl) ?_
    refine lh_get (a := 10) (k := 25) (N := 42) (C := RX10) (T := TX10) (own := RX10) (ref := "LoaderModelsModel") hx hb hts (fun _ h => (List.mem_cons_of_mem _ (List.mem_append_right _ h))) hown hK hW rfl (L_t _ rfl) rfl rfl rfl (by decide) (hts (.fieldLink RX10 160 "LoaderModelsModel" "loads" "I") (List.mem_cons_of_mem _ (List.mem_append_left _ (List.mem_of_getElem? (i := 6) rfl)))) (fun _ h9 => h9) dX10_told_74 (v := .int (gvI S1 10 t 25)) rfl ?_
    obtain ⟨rfl, rfl⟩ := dc_ret hf
    exact W.iret (v := gvI S1 10 t 25) hx hb hr (fun t9 ht9 hW9 => ⟨⟨rfl, ⟨hm, trivial⟩, by rw [ht9]; exact hW⟩, hS.F ht9⟩) hS.2.2 dX10_told_77
  replace hf := dc_if_f c8 hf
  by_cases c9 : p1 = 6
  · refine lv_tableIn (tgt := 78) hx hb dX10_told_6 (by rw [c9]; decide) (by rw [c9]; decide) (by rw [c9]; rfl) (by decide) ?_
    replace hf := dc_if_t c9 hf
    refine lh_aload_n hx hb dX10_told_78 rfl (lv_at hl 0 rfl) ?_
    refine lh_get (a := 10) (k := 24) (N := 42) (C := RX10) (T := TX10) (own := RX10) (ref := "LoaderModelsModel") hx hb hts (fun _ h => (List.mem_cons_of_mem _ (List.mem_append_right _ h))) hown hK hW rfl (L_t _ rfl) rfl rfl rfl (by decide) (hts (.fieldLink RX10 117 "LoaderModelsModel" "lastFailure" "I") (List.mem_cons_of_mem _ (List.mem_append_left _ (List.mem_of_getElem? (i := 7) rfl)))) (fun _ h9 => h9) dX10_told_79 (v := .int (gvI S1 10 t 24)) rfl ?_
    obtain ⟨rfl, rfl⟩ := dc_ret hf
    exact W.iret (v := gvI S1 10 t 24) hx hb hr (fun t9 ht9 hW9 => ⟨⟨rfl, ⟨hm, trivial⟩, by rw [ht9]; exact hW⟩, hS.F ht9⟩) hS.2.2 dX10_told_82
  replace hf := dc_if_f c9 hf
  have tc3 := lv_neT (a := 0) c3 (by decide)
  have tc4 := lv_neT (a := 1) c4 (by decide)
  have tc5 := lv_neT (a := 2) c5 (by decide)
  have tc6 := lv_neT (a := 3) c6 (by decide)
  have tc7 := lv_neT (a := 4) c7 (by decide)
  have tc8 := lv_neT (a := 5) c8 (by decide)
  have tc9 := lv_neT (a := 6) c9 (by decide)
  refine lv_tableOut (tgt := 83) hx hb dX10_told_6 (by omega) (by decide) ?_
  refine lv_bipush (v := -3) hx hb dX10_told_83 (by decide) ?_
  obtain ⟨rfl, rfl⟩ := dc_ret hf
  exact W.iret (v := (-3 : Int32)) hx hb hr (fun t9 ht9 hW9 => ⟨⟨rfl, ⟨hm, trivial⟩, by rw [ht9]; exact hW⟩, hS.F ht9⟩) hS.2.2 dX10_told_85
