theorem cx_r90 {S : lh_S} (h : CX S) : gvR S 9 0 0 = some 0 := h.1
theorem cx_r92 {S : lh_S} (h : CX S) : gvR S 9 0 2 = some 0 := h.2.1
theorem cx_r93 {S : lh_S} (h : CX S) : gvR S 9 0 3 = some 0 := h.2.2.1
theorem cx_r94 {S : lh_S} (h : CX S) : gvR S 9 0 4 = some 0 := h.2.2.2.1
theorem cx_r96 {S : lh_S} (h : CX S) : gvR S 9 0 6 = some 0 := h.2.2.2.2.1
theorem cx_r98 {S : lh_S} (h : CX S) : gvR S 9 0 8 = some 0 := h.2.2.2.2.2.1
theorem cx_r30 {S : lh_S} (h : CX S) : gvR S 3 0 0 = some 0 := h.2.2.2.2.2.2.1
theorem cx_r40 {S : lh_S} (h : CX S) : gvR S 4 0 0 = some 0 := h.2.2.2.2.2.2.2.1
theorem cx_r41 {S : lh_S} (h : CX S) : gvR S 4 0 1 = some 0 := h.2.2.2.2.2.2.2.2.1
theorem cx_r42 {S : lh_S} (h : CX S) : gvR S 4 0 2 = some 0 := h.2.2.2.2.2.2.2.2.2.1
theorem cx_r44 {S : lh_S} (h : CX S) : gvR S 4 0 4 = some 0 := h.2.2.2.2.2.2.2.2.2.2.1
theorem cx_r60 {S : lh_S} (h : CX S) : gvR S 6 0 0 = some 0 := h.2.2.2.2.2.2.2.2.2.2.2.1
theorem cx_l21 {S : lh_S} (h : CX S) : gvL S 21 0 = 30 := h.2.2.2.2.2.2.2.2.2.2.2.2.1
theorem cx_l22 {S : lh_S} (h : CX S) : gvL S 22 0 = 60 := h.2.2.2.2.2.2.2.2.2.2.2.2.2.1
theorem cx_l23 {S : lh_S} (h : CX S) : gvL S 23 0 = 20 := h.2.2.2.2.2.2.2.2.2.2.2.2.2.2.1
theorem cx_l24 {S : lh_S} (h : CX S) : gvL S 24 0 = 40 := h.2.2.2.2.2.2.2.2.2.2.2.2.2.2.2.1
theorem cx_l16 {S : lh_S} (h : CX S) : gvL S 16 0 = 8 := h.2.2.2.2.2.2.2.2.2.2.2.2.2.2.2.2.1
theorem cx_l17 {S : lh_S} (h : CX S) : gvL S 17 0 = 40 := h.2.2.2.2.2.2.2.2.2.2.2.2.2.2.2.2.2.1
theorem cx_l18 {S : lh_S} (h : CX S) : gvL S 18 0 = 321 := h.2.2.2.2.2.2.2.2.2.2.2.2.2.2.2.2.2.2.1
theorem cx_l19 {S : lh_S} (h : CX S) : gvL S 19 0 = 30 := h.2.2.2.2.2.2.2.2.2.2.2.2.2.2.2.2.2.2.2
theorem qx_2 {S : lh_S} (h : QX S) : gvR S 10 0 2 = some 0 := h.1 2 (by decide)
theorem qx_3 {S : lh_S} (h : QX S) : gvR S 10 0 3 = some 0 := h.1 3 (by decide)
theorem qx_4 {S : lh_S} (h : QX S) : gvR S 10 0 4 = some 0 := h.1 4 (by decide)
theorem qx_5 {S : lh_S} (h : QX S) : gvR S 10 0 5 = some 0 := h.1 5 (by decide)
theorem qx_6 {S : lh_S} (h : QX S) : gvR S 10 0 6 = some 0 := h.1 6 (by decide)
theorem qx_7 {S : lh_S} (h : QX S) : gvR S 10 0 7 = some 0 := h.1 7 (by decide)
theorem qx_8 {S : lh_S} (h : QX S) : gvR S 10 0 8 = some 0 := h.1 8 (by decide)
theorem qx_9 {S : lh_S} (h : QX S) : gvR S 10 0 9 = some 0 := h.1 9 (by decide)
theorem qx_11 {S : lh_S} (h : QX S) : gvR S 10 0 11 = some 0 := h.1 11 (by decide)
theorem qx_12 {S : lh_S} (h : QX S) : gvR S 10 0 12 = some 0 := h.1 12 (by decide)
theorem qx_13 {S : lh_S} (h : QX S) : gvR S 10 0 13 = some 0 := h.1 13 (by decide)
theorem qx_14 {S : lh_S} (h : QX S) : gvR S 10 0 14 = some 0 := h.1 14 (by decide)
theorem qx_15 {S : lh_S} (h : QX S) : gvR S 10 0 15 = some 0 := h.1 15 (by decide)
theorem qx_16 {S : lh_S} (h : QX S) : gvR S 10 0 16 = some 0 := h.1 16 (by decide)
theorem qx_18 {S : lh_S} (h : QX S) : gvR S 10 0 18 = some 0 := h.1 18 (by decide)
theorem qx_19 {S : lh_S} (h : QX S) : gvR S 10 0 19 = some 0 := h.1 19 (by decide)
theorem qx_20 {S : lh_S} (h : QX S) : gvR S 10 0 20 = some 0 := h.1 20 (by decide)
theorem qx_21 {S : lh_S} (h : QX S) : gvR S 10 0 21 = some 0 := h.1 21 (by decide)
theorem qx_22 {S : lh_S} (h : QX S) : gvR S 10 0 22 = some 0 := h.1 22 (by decide)
theorem qx_23 {S : lh_S} (h : QX S) : gvR S 10 0 23 = some 0 := h.1 23 (by decide)
theorem qx_26 {S : lh_S} (h : QX S) : gvR S 10 0 26 = some 0 := h.1 26 (by decide)
theorem qx_27 {S : lh_S} (h : QX S) : gvR S 10 0 27 = some 0 := h.1 27 (by decide)
theorem qx_28 {S : lh_S} (h : QX S) : gvR S 10 0 28 = some 0 := h.1 28 (by decide)
theorem qx_29 {S : lh_S} (h : QX S) : gvR S 10 0 29 = some 0 := h.1 29 (by decide)
theorem qx_30 {S : lh_S} (h : QX S) : gvR S 10 0 30 = some 0 := h.1 30 (by decide)
theorem qx_31 {S : lh_S} (h : QX S) : gvR S 10 0 31 = some 0 := h.1 31 (by decide)
theorem qx_35 {S : lh_S} (h : QX S) : gvR S 10 0 35 = some 0 := h.1 35 (by decide)
theorem qx_37 {S : lh_S} (h : QX S) : gvR S 10 0 37 = some 0 := h.1 37 (by decide)
theorem qx_39 {S : lh_S} (h : QX S) : gvR S 10 0 39 = some 0 := h.1 39 (by decide)
theorem qx_40 {S : lh_S} (h : QX S) : gvR S 10 0 40 = some 0 := h.1 40 (by decide)
theorem qx_41 {S : lh_S} (h : QX S) : gvR S 10 0 41 = some 0 := h.1 41 (by decide)
theorem ql_32 {S : lh_S} (h : QX S) : gvL S 32 0 = 30 := h.2.1 32 (by decide)
theorem ql_33 {S : lh_S} (h : QX S) : gvL S 33 0 = 30 := h.2.1 33 (by decide)
theorem ql_34 {S : lh_S} (h : QX S) : gvL S 34 0 = 30 := h.2.1 34 (by decide)
theorem ql_35 {S : lh_S} (h : QX S) : gvL S 35 0 = 30 := h.2.1 35 (by decide)
theorem ql_36 {S : lh_S} (h : QX S) : gvL S 36 0 = 30 := h.2.1 36 (by decide)
theorem ql_56 {S : lh_S} (h : QX S) : gvL S 56 0 = 30 := h.2.1 56 (by decide)
theorem ql_37 {S : lh_S} (h : QX S) : gvL S 37 0 = 120 := h.2.2.1 37 (by decide)
theorem ql_38 {S : lh_S} (h : QX S) : gvL S 38 0 = 120 := h.2.2.1 38 (by decide)
theorem ql_39 {S : lh_S} (h : QX S) : gvL S 39 0 = 120 := h.2.2.1 39 (by decide)
theorem ql_41 {S : lh_S} (h : QX S) : gvL S 41 0 = 8 := h.2.2.2.1 41 (by decide)
theorem ql_42 {S : lh_S} (h : QX S) : gvL S 42 0 = 8 := h.2.2.2.1 42 (by decide)
theorem ql_43 {S : lh_S} (h : QX S) : gvL S 43 0 = 320 := h.2.2.2.2.1 43 (by decide)
theorem ql_44 {S : lh_S} (h : QX S) : gvL S 44 0 = 320 := h.2.2.2.2.1 44 (by decide)
theorem ql_45 {S : lh_S} (h : QX S) : gvL S 45 0 = 320 := h.2.2.2.2.1 45 (by decide)
theorem ql_46 {S : lh_S} (h : QX S) : gvL S 46 0 = 320 := h.2.2.2.2.1 46 (by decide)
theorem ql_48 {S : lh_S} (h : QX S) : gvL S 48 0 = 40 := h.2.2.2.2.2.1 48 (by decide)
theorem ql_49 {S : lh_S} (h : QX S) : gvL S 49 0 = 40 := h.2.2.2.2.2.1 49 (by decide)
theorem ql_50 {S : lh_S} (h : QX S) : gvL S 50 0 = 40 := h.2.2.2.2.2.1 50 (by decide)
theorem ql_51 {S : lh_S} (h : QX S) : gvL S 51 0 = 40 := h.2.2.2.2.2.1 51 (by decide)
theorem ql_52 {S : lh_S} (h : QX S) : gvL S 52 0 = 40 := h.2.2.2.2.2.1 52 (by decide)
theorem ql_53 {S : lh_S} (h : QX S) : gvL S 53 0 = 40 := h.2.2.2.2.2.1 53 (by decide)
theorem ql_57 {S : lh_S} (h : QX S) : gvL S 57 0 = 700 := h.2.2.2.2.2.2.1 57 (by decide)
theorem ql_58 {S : lh_S} (h : QX S) : gvL S 58 0 = 700 := h.2.2.2.2.2.2.1 58 (by decide)
theorem ql_59 {S : lh_S} (h : QX S) : gvL S 59 0 = 700 := h.2.2.2.2.2.2.1 59 (by decide)
theorem ql_60 {S : lh_S} (h : QX S) : gvL S 60 0 = 700 := h.2.2.2.2.2.2.1 60 (by decide)
theorem ql_61 {S : lh_S} (h : QX S) : gvL S 61 0 = 700 := h.2.2.2.2.2.2.1 61 (by decide)
theorem ql_65 {S : lh_S} (h : QX S) : gvL S 65 0 = 41 := h.2.2.2.2.2.2.2.1
theorem ql_67 {S : lh_S} (h : QX S) : gvL S 67 0 = 60 := h.2.2.2.2.2.2.2.2.1
theorem ql_69 {S : lh_S} (h : QX S) : gvL S 69 0 = 20 := h.2.2.2.2.2.2.2.2.2.1
theorem ql_70 {S : lh_S} (h : QX S) : gvL S 70 0 = 20 := h.2.2.2.2.2.2.2.2.2.2.1
theorem ql_71 {S : lh_S} (h : QX S) : gvL S 71 0 = 160 := h.2.2.2.2.2.2.2.2.2.2.2
theorem ev_at_t {S : lh_S} {L : GL} (n : Nat) (hX : CX S) (h : CL S L) {j : Nat} (hj : j < tl_n L) : f_X3_at n S 0 (nI j) = some (some j, S) := by
  have hb : tl_n L ≤ 8 := h.2.1
  unfold f_X3_at
  rw [dc_if_n (nI_pos (by omega)), h.2.2.2.1, dc_if_n (nI_ge hj (by omega)), dc_nn_e (cx_r30 hX), dc_gd_n (by rw [cx_l16 hX]; exact ix_in (by omega) (by omega)), ix_c (by omega), h.2.2.2.2.1 j hj]
theorem ev_at_f {S : lh_S} {L : GL} (n : Nat) (h : CL S L) {x : Int32} (hx : x < 0 ∨ nI (tl_n L) ≤ x) : f_X3_at n S 0 x = some (none, S) := by
  unfold f_X3_at
  rcases hx with hx | hx
  · rw [dc_if_p hx]
  · by_cases h0 : x < 0
    · rw [dc_if_p h0]
    · rw [dc_if_n h0, h.2.2.2.1, dc_if_p hx]
theorem ev_fileAt_t {S : lh_S} {F : GF} (n : Nat) (hX : CX S) (h : CF S F) {j : Nat} (hj : j < tf_n F) : f_X9_fileAt n S 0 (nI j) = some (some j, S) := by
  have hb : tf_n F ≤ 30 := h.1
  unfold f_X9_fileAt
  rw [dc_if_n (nI_pos (by omega)), h.2.2.1, dc_if_n (nI_ge hj (by omega)), dc_nn_e (cx_r90 hX), dc_gd_n (by rw [cx_l21 hX]; exact ix_in (by omega) (by omega)), ix_c (by omega), h.2.2.2.1 j hj]
theorem ev_fileAt_f {S : lh_S} {F : GF} (n : Nat) (h : CF S F) {x : Int32} (hx : x < 0 ∨ nI (tf_n F) ≤ x) : f_X9_fileAt n S 0 x = some (none, S) := by
  unfold f_X9_fileAt
  rcases hx with hx | hx
  · rw [dc_if_p hx]
  · by_cases h0 : x < 0
    · rw [dc_if_p h0]
    · rw [dc_if_n h0, h.2.2.1, dc_if_p hx]
theorem ev_classAt_t {S : lh_S} {C : GC} (n : Nat) (hX : CX S) (h : CC S C) {j : Nat} (hj : j < tc_n C) : f_X4_classAt n S 0 (nI j) = some (some j, S) := by
  have hb : tc_n C ≤ 40 := h.1
  unfold f_X4_classAt
  rw [dc_if_n (nI_pos (by omega)), h.2.2.1, dc_if_n (nI_ge hj (by omega)), dc_nn_e (cx_r42 hX), dc_gd_n (by rw [cx_l17 hX]; exact ix_in (by omega) (by omega)), ix_c (by omega), h.2.2.2.1 j hj]
theorem ev_classAt_f {S : lh_S} {C : GC} (n : Nat) (h : CC S C) {x : Int32} (hx : x < 0 ∨ nI (tc_n C) ≤ x) : f_X4_classAt n S 0 x = some (none, S) := by
  unfold f_X4_classAt
  rcases hx with hx | hx
  · rw [dc_if_p hx]
  · by_cases h0 : x < 0
    · rw [dc_if_p h0]
    · rw [dc_if_n h0, h.2.2.1, dc_if_p hx]
theorem ev_classOfObject_t {S : lh_S} {O : GO} (n : Nat) (hX : CX S) (h : CO S O) {j : Nat} (hj : j < to_n O) : f_X9_classOfObject n S 0 (nI j) = some (some (to_cl O j), S) := by
  have hb : to_n O ≤ 60 := h.1
  unfold f_X9_classOfObject
  rw [dc_if_n (nI_pos (by omega)), h.2.1, dc_if_n (nI_ge hj (by omega)), dc_nn_e (cx_r94 hX), dc_gd_n (by rw [cx_l22 hX]; exact ix_in (by omega) (by omega)), ix_c (by omega), h.2.2.1 j hj]
theorem ev_classOfObject_f {S : lh_S} {O : GO} (n : Nat) (h : CO S O) {x : Int32} (hx : x < 0 ∨ nI (to_n O) ≤ x) : f_X9_classOfObject n S 0 x = some (none, S) := by
  unfold f_X9_classOfObject
  rcases hx with hx | hx
  · rw [dc_if_p hx]
  · by_cases h0 : x < 0
    · rw [dc_if_p h0]
    · rw [dc_if_n h0, h.2.1, dc_if_p hx]
theorem ev_rowAt_t {S : lh_S} {O : GO} (n : Nat) (hX : CX S) (h : CO S O) {j : Nat} (hj : j < to_r O) : f_X9_rowAt n S 0 (nI j) = some (some j, S) := by
  have hb : to_r O ≤ 20 := h.2.2.2.1
  unfold f_X9_rowAt
  rw [dc_if_n (nI_pos (by omega)), h.2.2.2.2.2.1, dc_if_n (nI_ge hj (by omega)), dc_nn_e (cx_r96 hX), dc_gd_n (by rw [cx_l23 hX]; exact ix_in (by omega) (by omega)), ix_c (by omega), (h.2.2.2.2.2.2 j hj).1]
theorem ev_rowAt_f {S : lh_S} {O : GO} (n : Nat) (h : CO S O) {x : Int32} (hx : x < 0 ∨ nI (to_r O) ≤ x) : f_X9_rowAt n S 0 x = some (none, S) := by
  unfold f_X9_rowAt
  rcases hx with hx | hx
  · rw [dc_if_p hx]
  · by_cases h0 : x < 0
    · rw [dc_if_p h0]
    · rw [dc_if_n h0, h.2.2.2.2.2.1, dc_if_p hx]
theorem ev_isName_t {S : lh_S} (n : Nat) {m : Nat} (hm : m < 40) : f_X9_isName n S (nI m) = some (1, S) := by
  unfold f_X9_isName
  rw [dc_if_n (nI_pos (by omega)), dc_if_n (show ¬ (40 : Int32) ≤ nI m from nI_ge (b := 40) hm (by omega))]
theorem ev_isName_f {S : lh_S} (n : Nat) {x : Int32} (hx : x < 0 ∨ nI 40 ≤ x) : f_X9_isName n S x = some (0, S) := by
  unfold f_X9_isName
  rcases hx with hx | hx
  · rw [dc_if_p hx]
  · by_cases h0 : x < 0
    · rw [dc_if_p h0]
    · rw [dc_if_n h0, dc_if_p (show (40 : Int32) ≤ x from hx)]
theorem ev_isMethod_t {S : lh_S} (n : Nat) {m : Nat} (hm : m < 4) : f_X9_isMethod n S (nI m) = some (1, S) := by
  unfold f_X9_isMethod
  rw [dc_if_n (nI_pos (by omega)), dc_if_n (show ¬ (4 : Int32) ≤ nI m from nI_ge (b := 4) hm (by omega))]
theorem ev_isMethod_f {S : lh_S} (n : Nat) {x : Int32} (hx : x < 0 ∨ nI 4 ≤ x) : f_X9_isMethod n S x = some (0, S) := by
  unfold f_X9_isMethod
  rcases hx with hx | hx
  · rw [dc_if_p hx]
  · by_cases h0 : x < 0
    · rw [dc_if_p h0]
    · rw [dc_if_n h0, dc_if_p (show (4 : Int32) ≤ x from hx)]
theorem ev_isMachine {S : lh_S} {L : GL} (n : Nat) (h : CL S L) {l : Nat} (hl : l < tl_n L) : f_X2_isMachine n S l = some (if l = 0 then 1 else 0, S) := by
  unfold f_X2_isMachine
  rw [(h.2.2.2.2.2.1 l hl).2.1]
  by_cases h0 : l = 0
  · rw [if_pos h0, if_pos h0, dc_if_p rfl]
  · rw [if_neg h0, if_neg h0, dc_if_n (fun q => by cases q)]
theorem ev_numberOf {S : lh_S} {C : GC} (n : Nat) (h : CC S C) {o : Option Nat} (ho : ∀ c, o = some c → c < tc_n C) : f_X9_numberOf n S o = some (nI (oc o) - 1, S) := by
  unfold f_X9_numberOf
  cases o with
  | none => rw [dc_if_p rfl]; rfl
  | some c =>
    rw [dc_if_n (fun q => by cases q), dc_nn_s, (h.2.2.2.2 c (ho c rfl)).1]
    show some (nI c, S) = some (nI (c + 1) - 1, S)
    rw [nI_pred]
theorem qv_isLoader_t {S : lh_S} (n : Nat) {k j : Nat} (h : gvI S 10 0 10 = nI k) (hj : j < k) (hk : k ≤ 100000) : f_X10_isLoader n S 0 (nI j) = some (1, S) := by
  unfold f_X10_isLoader
  try rw [dc_let_q]
  rw [h, in_ct n S hj hk, dc_bd_s]
theorem qv_isLoader_f {S : lh_S} (n : Nat) {k : Nat} {x : Int32} (h : gvI S 10 0 10 = nI k) (hx : x < 0 ∨ nI k ≤ x) (hk : k ≤ 100000) : f_X10_isLoader n S 0 x = some (0, S) := by
  unfold f_X10_isLoader
  try rw [dc_let_q]
  rw [h, in_cf n S hx hk, dc_bd_s]
theorem qv_isFile_t {S : lh_S} (n : Nat) {k j : Nat} (h : gvI S 10 0 1 = nI k) (hj : j < k) (hk : k ≤ 100000) : f_X10_isFile n S 0 (nI j) = some (1, S) := by
  unfold f_X10_isFile
  try rw [dc_let_q]
  rw [h, in_ct n S hj hk, dc_bd_s]
theorem qv_isFile_f {S : lh_S} (n : Nat) {k : Nat} {x : Int32} (h : gvI S 10 0 1 = nI k) (hx : x < 0 ∨ nI k ≤ x) (hk : k ≤ 100000) : f_X10_isFile n S 0 x = some (0, S) := by
  unfold f_X10_isFile
  try rw [dc_let_q]
  rw [h, in_cf n S hx hk, dc_bd_s]
theorem qv_isClass_t {S : lh_S} (n : Nat) {k j : Nat} (h : gvI S 10 0 17 = nI k) (hj : j < k) (hk : k ≤ 100000) : f_X10_isClass n S 0 (nI j) = some (1, S) := by
  unfold f_X10_isClass
  try rw [dc_let_q]
  rw [h, in_ct n S hj hk, dc_bd_s]
theorem qv_isClass_f {S : lh_S} (n : Nat) {k : Nat} {x : Int32} (h : gvI S 10 0 17 = nI k) (hx : x < 0 ∨ nI k ≤ x) (hk : k ≤ 100000) : f_X10_isClass n S 0 x = some (0, S) := by
  unfold f_X10_isClass
  try rw [dc_let_q]
  rw [h, in_cf n S hx hk, dc_bd_s]
theorem qv_isObject_t {S : lh_S} (n : Nat) {k j : Nat} (h : gvI S 10 0 36 = nI k) (hj : j < k) (hk : k ≤ 100000) : f_X10_isObject n S 0 (nI j) = some (1, S) := by
  unfold f_X10_isObject
  try rw [dc_let_q]
  rw [h, in_ct n S hj hk, dc_bd_s]
theorem qv_isObject_f {S : lh_S} (n : Nat) {k : Nat} {x : Int32} (h : gvI S 10 0 36 = nI k) (hx : x < 0 ∨ nI k ≤ x) (hk : k ≤ 100000) : f_X10_isObject n S 0 x = some (0, S) := by
  unfold f_X10_isObject
  try rw [dc_let_q]
  rw [h, in_cf n S hx hk, dc_bd_s]
theorem qv_isRow_t {S : lh_S} (n : Nat) {k j : Nat} (h : gvI S 10 0 38 = nI k) (hj : j < k) (hk : k ≤ 100000) : f_X10_isRow n S 0 (nI j) = some (1, S) := by
  unfold f_X10_isRow
  try rw [dc_let_q]
  rw [h, in_ct n S hj hk, dc_bd_s]
theorem qv_isRow_f {S : lh_S} (n : Nat) {k : Nat} {x : Int32} (h : gvI S 10 0 38 = nI k) (hx : x < 0 ∨ nI k ≤ x) (hk : k ≤ 100000) : f_X10_isRow n S 0 x = some (0, S) := by
  unfold f_X10_isRow
  try rw [dc_let_q]
  rw [h, in_cf n S hx hk, dc_bd_s]
theorem qv_isName_t {S : lh_S} (n : Nat) {m : Nat} (hm : m < 40) : f_X10_isName n S (nI m) = some (1, S) := by
  unfold f_X10_isName
  rw [in_kt n S (k := 39) rfl (by omega) (by omega), dc_bd_s]
theorem qv_isName_f {S : lh_S} (n : Nat) {x : Int32} (hx : x < 0 ∨ nI 40 ≤ x) : f_X10_isName n S x = some (0, S) := by
  unfold f_X10_isName
  rw [in_kf n S (k := 39) rfl hx (by omega), dc_bd_s]
theorem at40 (l m : Nat) : (40 : Int32) * nI l + nI m = nI (40 * l + m) := by
  have h := pk_mul 40 l
  rw [show (40 : Int32) = nI 40 from rfl, h, nI_add]
theorem at4 (l m : Nat) : (4 : Int32) * nI l + nI m = nI (4 * l + m) := by
  have h := pk_mul 4 l
  rw [show (4 : Int32) = nI 4 from rfl, h, nI_add]
theorem at8 (l m : Nat) : (8 : Int32) * nI l + nI m = nI (8 * l + m) := by
  have h := pk_mul 8 l
  rw [show (8 : Int32) = nI 8 from rfl, h, nI_add]
