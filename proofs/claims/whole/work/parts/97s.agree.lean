theorem b_ext {x y : Int32} (h : ∀ i, i < 32 → bt x i = bt y i) : x = y := Int32.toBitVec_inj.mp (BitVec.eq_of_getLsbD_eq (fun i hi => h i hi))
theorem b_or (x y : Int32) (i : Nat) : bt (x ||| y) i = (bt x i || bt y i) := by unfold bt; rw [Int32.toBitVec_or, BitVec.getLsbD_or]
theorem b_and (x y : Int32) (i : Nat) : bt (x &&& y) i = (bt x i && bt y i) := by unfold bt; rw [Int32.toBitVec_and, BitVec.getLsbD_and]
theorem s_l : ∀ n, n < 32 → ((nI n &&& 31).toBitVec.smod 32).toNat = n := by decide +kernel
theorem b_sshr (n : Nat) (hn : n < 32) (x : Int32) {i : Nat} (hi : i < 32) : bt (x >>> (nI n &&& 31)) i = if n + i < 32 then bt x (n + i) else bt x 31 := by
  unfold bt
  rw [Int32.toBitVec_shiftRight]
  show (x.toBitVec.sshiftRight ((nI n &&& 31).toBitVec.smod 32).toNat).getLsbD i = _
  rw [s_l n hn, BitVec.getLsbD_sshiftRight, BitVec.msb_eq_getLsbD_last]
  simp [hi]
theorem b_1 : ∀ i, i < 32 → bt 1 i = decide (i = 0) := by decide +kernel
/-- the test of one bit -/
theorem b_test (x : Int32) {i : Nat} (hi : i < 32) : ((x >>> (nI i &&& 31)) &&& 1) = 1 ↔ bt x i = true := by
  have h0 : bt ((x >>> (nI i &&& 31)) &&& 1) 0 = bt x i := by
    rw [b_and, b_sshr i hi x (by omega), b_1 0 (by omega), if_pos (by omega)]
    simp
  constructor
  · intro h
    rw [h, b_1 0 (by omega)] at h0
    exact h0.symm
  · intro h
    refine b_ext (fun j hj => ?_)
    by_cases hj0 : j = 0
    · subst hj0
      rw [h0, h, b_1 0 (by omega)]
      rfl
    · rw [b_and, b_1 j hj, decide_eq_false hj0]
      simp
/-- the first class that one of the loaders i, i + 1 .. in P knows by the name -/
def akn (L : GL) (P : Nat → Bool) (nm : Nat) : Nat → Nat → Option Nat
  | 0, _ => none
  | d + 1, i => if P i = true then (match tl_kn L i nm with
      | none => akn L P nm d (i + 1)
      | some c => some c) else akn L P nm d (i + 1)
/-- one of them knows another than m -/
def oth (L : GL) (P : Nat → Bool) (nm : Nat) (m : Option Nat) : Nat → Nat → Bool
  | 0, _ => false
  | d + 1, i => if P i = true ∧ tl_kn L i nm ≠ none ∧ tl_kn L i nm ≠ m then true else oth L P nm m d (i + 1)
/-- the reference's way: v is 0, or the first found and 1 -/
def rth (L : GL) (P : Nat → Bool) (nm : Nat) : Nat → Nat → Nat → Bool
  | 0, _, _ => false
  | d + 1, i, v => if P i = true then (if oc (tl_kn L i nm) = 0 then rth L P nm d (i + 1) v else if v = 0 then rth L P nm d (i + 1) (oc (tl_kn L i nm)) else if oc (tl_kn L i nm) = v then rth L P nm d (i + 1) (oc (tl_kn L i nm)) else true) else rth L P nm d (i + 1) v
theorem rth_s (L : GL) (P : Nat → Bool) (nm c : Nat) : ∀ d i, rth L P nm d i (c + 1) = oth L P nm (some c) d i := by
  intro d
  induction d with
  | zero => intro i; rfl
  | succ d ih =>
    intro i
    rw [rth, oth]
    by_cases hP : P i = true
    · rw [if_pos hP]
      cases hk : tl_kn L i nm with
      | none =>
        rw [if_pos (show oc none = 0 from rfl), ih, if_neg (show ¬ (P i = true ∧ (none : Option Nat) ≠ none ∧ (none : Option Nat) ≠ some c) from fun q => q.2.1 rfl)]
      | some c' =>
        rw [if_neg (show ¬ oc (some c') = 0 by simp [oc]), if_neg (show ¬ c + 1 = 0 by omega)]
        by_cases hc : c' = c
        · subst hc
          rw [if_pos (show oc (some c') = c' + 1 from rfl), if_neg (show ¬ (P i = true ∧ some c' ≠ none ∧ some c' ≠ some c') from fun q => q.2.2 rfl)]
          exact ih (i + 1)
        · have z : P i = true ∧ some c' ≠ none ∧ some c' ≠ some c := ⟨hP, ⟨Option.some_ne_none c', fun q => hc (Option.some.inj q)⟩⟩
          rw [if_neg (show ¬ oc (some c') = c + 1 by simp [oc, hc]), if_pos z]
    · rw [if_neg hP, if_neg (fun q => hP q.1)]
      exact ih (i + 1)
theorem rth_0 (L : GL) (P : Nat → Bool) (nm : Nat) : ∀ d i, rth L P nm d i 0 = oth L P nm (akn L P nm d i) d i := by
  intro d
  induction d with
  | zero => intro i; rfl
  | succ d ih =>
    intro i
    rw [rth, oth, akn]
    by_cases hP : P i = true
    · rw [if_pos hP, if_pos hP]
      cases hk : tl_kn L i nm with
      | none =>
        rw [if_pos (show oc none = 0 from rfl), ih]
        exact (if_neg (fun q => q.2.1 rfl)).symm
      | some c' =>
        rw [if_neg (show ¬ oc (some c') = 0 by simp [oc]), if_pos (show 0 = 0 from rfl)]
        exact (rth_s L P nm c' d (i + 1)).trans (if_neg (fun q => q.2.2 rfl)).symm
    · rw [if_neg hP, if_neg hP, if_neg (fun q => hP q.1)]
      exact ih (i + 1)
theorem ev_ka {S : lh_S} {L : GL} (n : Nat) (hX : CX S) (hL : CL S L) {set : Int32} {P : Nat → Bool} (hs : ∀ j, j < tl_n L → bt set j = P j) {nm : Nat} (hnm : nm < 40) (m : Option Nat) : ∀ (d g i : Nat), tl_n L - i = d → i ≤ tl_n L → d + 1 ≤ g → f_X3_knowsAnother_L3 n 0 set (nI nm) m g S (nI i) = some (if oth L P nm m d i = true then 1 else 0, S) := by
  have h8 := hL.2.1
  intro d
  induction d with
  | zero =>
    intro g i hd hi hg
    obtain ⟨g, rfl⟩ : ∃ q, g = q + 1 := ⟨g - 1, by omega⟩
    have : i = tl_n L := by omega
    subst this
    rw [f_X3_knowsAnother_L3, hL.2.2.2.1, dc_if_p (nI_le (by omega) (by omega)), oth, if_neg (by decide)]
  | succ d ih =>
    intro g i hd hi hg
    obtain ⟨g, rfl⟩ : ∃ q, g = q + 1 := ⟨g - 1, by omega⟩
    have hi2 : i < tl_n L := by omega
    have h5 := hL.2.2.2.2.2.1 i hi2
    have h6 := hL.2.2.2.2.2.2 i nm hi2 hnm
    have hr := ih g (i + 1) (by omega) (by omega) (by omega)
    rw [f_X3_knowsAnother_L3, hL.2.2.2.1, dc_if_n (nI_ge hi2 (by omega)), dc_nn_e (cx_r30 hX), dc_gd_n (by rw [cx_l16 hX]; exact ix_in (by omega) (by omega)), ix_c (by omega), dc_nn_e (hL.2.2.2.2.1 i hi2), dc_nn_e h5.2.2.2.2.1, dc_gd_n (by rw [h5.2.2.2.2.2.2.2.2.1]; exact ix_in hnm (by omega)), ix_c (by omega), dc_let_q, h6.2.1, nI_1, hr, oth]
    by_cases hP : P i = true
    · rw [dc_if_p ((b_test set (by omega)).mpr (by rw [hs i hi2]; exact hP))]
      by_cases hk : tl_kn L i nm = none
      · rw [dc_if_p hk, if_neg (c := P i = true ∧ tl_kn L i nm ≠ none ∧ tl_kn L i nm ≠ m) (fun q => q.2.1 hk)]
      · rw [dc_if_n hk]
        by_cases hm : tl_kn L i nm = m
        · rw [dc_if_p hm, if_neg (c := P i = true ∧ tl_kn L i nm ≠ none ∧ tl_kn L i nm ≠ m) (fun q => q.2.2 hm)]
        · rw [dc_if_n hm, if_pos (c := P i = true ∧ tl_kn L i nm ≠ none ∧ tl_kn L i nm ≠ m) ⟨hP, hk, hm⟩, if_pos rfl]
    · rw [dc_if_n (fun q => hP (by rw [← hs i hi2]; exact (b_test set (by omega)).mp q)), if_neg (c := P i = true ∧ tl_kn L i nm ≠ none ∧ tl_kn L i nm ≠ m) (fun q => hP q.1)]
theorem ev_ak {S : lh_S} {L : GL} (n : Nat) (hX : CX S) (hL : CL S L) {set : Int32} {P : Nat → Bool} (hs : ∀ j, j < tl_n L → bt set j = P j) {nm : Nat} (hnm : nm < 40) : ∀ (d g i : Nat), tl_n L - i = d → i ≤ tl_n L → d + 1 ≤ g → f_X3_anyKnown_L2 n 0 set (nI nm) g S (nI i) = some (akn L P nm d i, S) := by
  have h8 := hL.2.1
  intro d
  induction d with
  | zero =>
    intro g i hd hi hg
    obtain ⟨g, rfl⟩ : ∃ q, g = q + 1 := ⟨g - 1, by omega⟩
    have : i = tl_n L := by omega
    subst this
    rw [f_X3_anyKnown_L2, hL.2.2.2.1, dc_if_p (nI_le (by omega) (by omega)), akn]
  | succ d ih =>
    intro g i hd hi hg
    obtain ⟨g, rfl⟩ : ∃ q, g = q + 1 := ⟨g - 1, by omega⟩
    have hi2 : i < tl_n L := by omega
    have h5 := hL.2.2.2.2.2.1 i hi2
    have h6 := hL.2.2.2.2.2.2 i nm hi2 hnm
    have hr := ih g (i + 1) (by omega) (by omega) (by omega)
    rw [f_X3_anyKnown_L2, hL.2.2.2.1, dc_if_n (nI_ge hi2 (by omega)), dc_nn_e (cx_r30 hX), dc_gd_n (by rw [cx_l16 hX]; exact ix_in (by omega) (by omega)), ix_c (by omega), dc_nn_e (hL.2.2.2.2.1 i hi2), dc_nn_e h5.2.2.2.2.1, dc_gd_n (by rw [h5.2.2.2.2.2.2.2.2.1]; exact ix_in hnm (by omega)), ix_c (by omega), dc_let_q, h6.2.1, nI_1, hr, akn]
    by_cases hP : P i = true
    · rw [dc_if_p ((b_test set (by omega)).mpr (by rw [hs i hi2]; exact hP)), if_pos hP]
      cases hk : tl_kn L i nm with
      | none => rw [dc_if_p rfl]
      | some c => rw [dc_if_n (fun q => by cases q)]
    · rw [dc_if_n (fun q => hP (by rw [← hs i hi2]; exact (b_test set (by omega)).mp q)), if_neg hP]
/-- the class's mark of a bond -/
def bindS (S : lh_S) (nm i : Nat) (set : Int32) : lh_S := (S.1, S.2.1, fun b j q => if b = 15 ∧ j < i ∧ q = nm ∧ bt set j = true then set else S.2.2.1 b j q, S.2.2.2)
theorem bindS_0 (S : lh_S) (nm : Nat) (set : Int32) : bindS S nm 0 set = S := by
  have : (fun b j q => if b = 15 ∧ j < 0 ∧ q = nm ∧ bt set j = true then set else S.2.2.1 b j q) = S.2.2.1 := by
    funext b j q
    rw [if_neg (by omega)]
  unfold bindS
  rw [this]
theorem bindS_f (S : lh_S) (nm i : Nat) (set : Int32) (h : ¬ bt set i = true) : bindS S nm (i + 1) set = bindS S nm i set := by
  have : (fun b j q => if b = 15 ∧ j < i + 1 ∧ q = nm ∧ bt set j = true then set else S.2.2.1 b j q) = (fun b j q => if b = 15 ∧ j < i ∧ q = nm ∧ bt set j = true then set else S.2.2.1 b j q) := by
    funext b j q
    by_cases h2 : b = 15 ∧ j < i ∧ q = nm ∧ bt set j = true
    · rw [if_pos h2, if_pos ⟨h2.1, by omega, h2.2.2⟩]
    · rw [if_neg h2, if_neg]
      rintro ⟨y1, y2, y3, y4⟩
      by_cases hj : j = i
      · subst hj
        exact h y4
      · exact h2 ⟨y1, by omega, y3, y4⟩
  unfold bindS
  rw [this]
theorem bindS_t (S : lh_S) (nm i : Nat) (set : Int32) (h : bt set i = true) : pvI (bindS S nm i set) 15 i nm set = bindS S nm (i + 1) set := by
  have : lh_u3 (fun b j q => if b = 15 ∧ j < i ∧ q = nm ∧ bt set j = true then set else S.2.2.1 b j q) 15 i nm set = (fun b j q => if b = 15 ∧ j < i + 1 ∧ q = nm ∧ bt set j = true then set else S.2.2.1 b j q) := by
    funext b j q
    unfold lh_u3
    by_cases h1 : b = 15 ∧ j = i ∧ q = nm
    · rw [if_pos h1, if_pos ⟨h1.1, by omega, h1.2.2, by rw [h1.2.1]; exact h⟩]
    · rw [if_neg h1]
      show (if b = 15 ∧ j < i ∧ q = nm ∧ bt set j = true then set else S.2.2.1 b j q) = _
      by_cases h2 : b = 15 ∧ j < i ∧ q = nm ∧ bt set j = true
      · rw [if_pos h2, if_pos ⟨h2.1, by omega, h2.2.2⟩]
      · rw [if_neg h2, if_neg]
        rintro ⟨y1, y2, y3, y4⟩
        by_cases hj : j = i
        · exact h1 ⟨y1, hj, y3⟩
        · exact h2 ⟨y1, by omega, y3, y4⟩
  unfold bindS pvI
  rw [← this]
theorem ev_L37 {S : lh_S} {L : GL} (n : Nat) (p1 p2 : Option Nat) (hX : CX S) (hL : CL S L) (set : Int32) {nm : Nat} (hnm : nm < 40) : ∀ (d g i : Nat), tl_n L - i = d → i ≤ tl_n L → d + 1 ≤ g → f_X3_bind_L37 n 0 p1 p2 (nI nm) g (bindS S nm i set) set (nI i) = some (1, bindS S nm (tl_n L) set) := by
  have h8 := hL.2.1
  intro d
  induction d with
  | zero =>
    intro g i hd hi hg
    obtain ⟨g, rfl⟩ : ∃ q, g = q + 1 := ⟨g - 1, by omega⟩
    have : i = tl_n L := by omega
    subst this
    rw [f_X3_bind_L37, show gvI (bindS S nm (tl_n L) set) 3 0 1 = nI (tl_n L) from hL.2.2.2.1, dc_if_p (nI_le (by omega) (by omega))]
  | succ d ih =>
    intro g i hd hi hg
    obtain ⟨g, rfl⟩ : ∃ q, g = q + 1 := ⟨g - 1, by omega⟩
    have hi2 : i < tl_n L := by omega
    have h5 := hL.2.2.2.2.2.1 i hi2
    have hr := ih g (i + 1) (by omega) (by omega) (by omega)
    rw [f_X3_bind_L37, show gvI (bindS S nm i set) 3 0 1 = nI (tl_n L) from hL.2.2.2.1, dc_if_n (nI_ge hi2 (by omega)), dc_let_q, nI_1]
    by_cases hP : bt set i = true
    · rw [dc_if_p ((b_test set (by omega)).mpr hP), dc_nn_e (show gvR (bindS S nm i set) 3 0 0 = some 0 from cx_r30 hX), dc_gd_n (by rw [show gvL (bindS S nm i set) 16 0 = 8 from cx_l16 hX]; exact ix_in (by omega) (by omega)), ix_c (by omega), dc_nn_e (show gvR (bindS S nm i set) 16 0 i = some i from hL.2.2.2.2.1 i hi2), dc_nn_e (show gvR (bindS S nm i set) 2 i 6 = some i from h5.2.2.2.2.2.2.1), dc_gd_n (by rw [show gvL (bindS S nm i set) 15 i = 40 from h5.2.2.2.2.2.2.2.2.2.2]; exact ix_in hnm (by omega)), ix_c (by omega), dc_let_q, bindS_t S nm i set hP, hr]
    · rw [dc_if_n (fun q => hP ((b_test set (by omega)).mp q)), ← bindS_f S nm i set hP, hr]
def grpB (L : GL) (nm ga gb : Nat) : GL := (tl_n L, tl_par L, tl_bnd L, tl_has L, tl_kn L, tl_dg L, fun j n => if n = nm ∧ tl_grp L j n = gb then ga else tl_grp L j n)
theorem CL_bind {S : lh_S} {L : GL} {nm ga gb : Nat} {set : Int32} (hL : CL S L) (hs : ∀ j, j < 32 → bt set j = decide (j < tl_n L ∧ (tl_grp L j nm = ga ∨ tl_grp L j nm = gb))) : CL (bindS S nm (tl_n L) set) (grpB L nm ga gb) := by
  obtain ⟨l1, l2, l3, l4, l5, l6, l7⟩ := hL
  refine ⟨l1, l2, l3, l4, l5, l6, fun l n hl hn => ?_⟩
  have hl : l < tl_n L := hl
  obtain ⟨a1, a2, a3, a4⟩ := l7 l n hl hn
  refine ⟨a1, a2, a3, fun j hj => ?_⟩
  have en : tl_n (grpB L nm ga gb) = tl_n L := rfl
  have eg : ∀ j, tl_grp (grpB L nm ga gb) j n = if n = nm ∧ tl_grp L j n = gb then ga else tl_grp L j n := fun j => rfl
  rw [en, eg, eg]
  show bt (if 15 = 15 ∧ l < tl_n L ∧ n = nm ∧ bt set l = true then set else gvI S 15 l n) j = _
  by_cases hnn : n = nm
  · subst hnn
    by_cases hbl : bt set l = true
    · rw [if_pos ⟨rfl, hl, rfl, hbl⟩, hs j hj]
      rw [hs l (by omega)] at hbl
      have hbl := of_decide_eq_true hbl
      have e : (if n = n ∧ tl_grp L l n = gb then ga else tl_grp L l n) = ga := by
        by_cases h2 : tl_grp L l n = gb
        · rw [if_pos ⟨rfl, h2⟩]
        · rw [if_neg (fun q => h2 q.2)]
          rcases hbl.2 with h3 | h3
          · exact h3
          · exact absurd h3 h2
      rw [e]
      by_cases h2 : tl_grp L j n = gb
      · rw [if_pos ⟨rfl, h2⟩]
        simp [h2]
      · rw [if_neg (fun q => h2 q.2)]
        simp [h2]
    · rw [if_neg (fun q => hbl q.2.2.2), a4 j hj]
      rw [hs l (by omega)] at hbl
      have hbl : ¬ (l < tl_n L ∧ (tl_grp L l n = ga ∨ tl_grp L l n = gb)) := fun q => hbl (decide_eq_true q)
      have n1 : ¬ tl_grp L l n = ga := fun q => hbl ⟨hl, Or.inl q⟩
      have n2 : ¬ tl_grp L l n = gb := fun q => hbl ⟨hl, Or.inr q⟩
      rw [if_neg (c := n = n ∧ tl_grp L l n = gb) (fun q => n2 q.2)]
      by_cases h2 : tl_grp L j n = gb
      · rw [if_pos ⟨rfl, h2⟩, decide_eq_false, decide_eq_false]
        · rintro ⟨-, q⟩
          exact n1 q.symm
        · rintro ⟨-, q⟩
          exact n2 (q.symm.trans h2)
      · rw [if_neg (fun q => h2 q.2)]
  · rw [if_neg (fun q => hnn q.2.2.1), if_neg (fun q => hnn q.1), if_neg (fun q => hnn q.1)]
    exact a4 j hj
/-- the reference's mark of a bond -/
def remap (S : lh_S) (nm i ga gb : Nat) : lh_S := (S.1, S.2.1, fun b j q => if b = 46 ∧ j = 0 ∧ q % 40 = nm ∧ q / 40 < i ∧ S.2.2.1 46 0 q = nI gb then nI ga else S.2.2.1 b j q, S.2.2.2)
theorem remap_0 (S : lh_S) (nm ga gb : Nat) : remap S nm 0 ga gb = S := by
  have : (fun b j q => if b = 46 ∧ j = 0 ∧ q % 40 = nm ∧ q / 40 < 0 ∧ S.2.2.1 46 0 q = nI gb then nI ga else S.2.2.1 b j q) = S.2.2.1 := by
    funext b j q
    rw [if_neg (fun z => Nat.not_lt_zero _ z.2.2.2.1)]
  unfold remap
  rw [this]
theorem remap_1 (S : lh_S) (nm i ga gb : Nat) (hnm : nm < 40) (v : Int32) (hv : v = if gvI S 46 0 (40 * i + nm) = nI gb then nI ga else gvI S 46 0 (40 * i + nm)) : pvI (remap S nm i ga gb) 46 0 (40 * i + nm) v = remap S nm (i + 1) ga gb := by
  have : lh_u3 (fun b j q => if b = 46 ∧ j = 0 ∧ q % 40 = nm ∧ q / 40 < i ∧ S.2.2.1 46 0 q = nI gb then nI ga else S.2.2.1 b j q) 46 0 (40 * i + nm) v = (fun b j q => if b = 46 ∧ j = 0 ∧ q % 40 = nm ∧ q / 40 < i + 1 ∧ S.2.2.1 46 0 q = nI gb then nI ga else S.2.2.1 b j q) := by
    funext b j q
    unfold lh_u3
    by_cases h1 : b = 46 ∧ j = 0 ∧ q = 40 * i + nm
    · obtain ⟨rfl, rfl, rfl⟩ := h1
      rw [if_pos ⟨rfl, rfl, rfl⟩, hv]
      show (if S.2.2.1 46 0 (40 * i + nm) = nI gb then nI ga else S.2.2.1 46 0 (40 * i + nm)) = _
      by_cases h2 : S.2.2.1 46 0 (40 * i + nm) = nI gb
      · rw [if_pos h2, if_pos ⟨rfl, rfl, by omega, by omega, h2⟩]
      · rw [if_neg h2, if_neg (fun z => h2 z.2.2.2.2)]
    · rw [if_neg h1]
      show (if b = 46 ∧ j = 0 ∧ q % 40 = nm ∧ q / 40 < i ∧ S.2.2.1 46 0 q = nI gb then nI ga else S.2.2.1 b j q) = _
      by_cases h2 : b = 46 ∧ j = 0 ∧ q % 40 = nm ∧ q / 40 < i ∧ S.2.2.1 46 0 q = nI gb
      · rw [if_pos h2, if_pos ⟨h2.1, h2.2.1, h2.2.2.1, by omega, h2.2.2.2.2⟩]
      · rw [if_neg h2, if_neg]
        rintro ⟨y1, y2, y3, y4, y5⟩
        by_cases hq : q / 40 < i
        · exact h2 ⟨y1, y2, y3, hq, y5⟩
        · exact h1 ⟨y1, y2, by omega⟩
  unfold remap pvI
  rw [← this]
theorem ev_L169 {S : lh_S} {k : Nat} (n : Nat) (p1 p2 : Int32) (v42 : Int32) (qX : QX S) (hk : gvI S 10 0 10 = nI k) (h8 : k ≤ 8) (ga gb : Nat) {nm : Nat} (hnm : nm < 40) : ∀ (d g i : Nat), k - i = d → i ≤ k → d + 1 ≤ g → f_X10_agree_L169 n 0 p1 p2 (nI nm) g (remap S nm i ga gb) (nI ga) (nI gb) v42 (nI i) = some (1, remap S nm k ga gb) := by
  intro d
  induction d with
  | zero =>
    intro g i hd hi hg
    obtain ⟨g, rfl⟩ : ∃ q, g = q + 1 := ⟨g - 1, by omega⟩
    have : i = k := by omega
    subst this
    rw [f_X10_agree_L169, show gvI (remap S nm i ga gb) 10 0 10 = nI i from hk, dc_if_p (nI_le (by omega) (by omega))]
  | succ d ih =>
    intro g i hd hi hg
    obtain ⟨g, rfl⟩ : ∃ q, g = q + 1 := ⟨g - 1, by omega⟩
    have hr := ih g (i + 1) (by omega) (by omega) (by omega)
    have e46 : gvI (remap S nm i ga gb) 46 0 (40 * i + nm) = gvI S 46 0 (40 * i + nm) := by
      show (if 46 = 46 ∧ 0 = 0 ∧ (40 * i + nm) % 40 = nm ∧ (40 * i + nm) / 40 < i ∧ S.2.2.1 46 0 (40 * i + nm) = nI gb then nI ga else S.2.2.1 46 0 (40 * i + nm)) = _
      rw [if_neg (by omega)]
      rfl
    have g1 : ¬ (nI (40 * i + nm) < 0 ∨ gvL (remap S nm i ga gb) 46 0 ≤ 40 * i + nm) := by
      rw [show gvL (remap S nm i ga gb) 46 0 = 320 from ql_46 qX]
      rintro (q | q)
      · exact nI_pos (by omega) q
      · omega
    rw [f_X10_agree_L169, show gvI (remap S nm i ga gb) 10 0 10 = nI k from hk, dc_if_n (nI_ge (by omega) (by omega)), dc_nn_e (show gvR (remap S nm i ga gb) 10 0 16 = some 0 from qx_16 qX), at40, ix_c (by omega), dc_gd_n g1, e46, nI_1]
    by_cases h2 : gvI S 46 0 (40 * i + nm) = nI gb
    · rw [dc_if_p h2, dc_gd_n g1, dc_let_q, remap_1 S nm i ga gb hnm _ (by rw [if_pos h2]), hr]
    · rw [dc_if_n h2, dc_gd_n g1, dc_gd_n g1, dc_let_q, remap_1 S nm i ga gb hnm _ (by rw [if_neg h2]), hr]
theorem QL_bind {S : lh_S} {L : GL} {nm ga gb : Nat} (qL : QL S L) (h8 : tl_n L ≤ 8) (hg : ∀ l n, l < tl_n L → n < 40 → tl_grp L l n < tl_n L) (hgb : gb < 8) : QL (remap S nm (tl_n L) ga gb) (grpB L nm ga gb) := by
  obtain ⟨l1, l2, l3, l4⟩ := qL
  refine ⟨l1, l2, l3, fun l n hl hn => ?_⟩
  obtain ⟨a1, a2, a3, a4⟩ := l4 l n hl hn
  refine ⟨a1, a2, a3, fun h => ?_⟩
  have h : l < tl_n L := h
  have a4 := a4 h
  have hgl := hg l n h hn
  show (if 46 = 46 ∧ 0 = 0 ∧ (40 * l + n) % 40 = nm ∧ (40 * l + n) / 40 < tl_n L ∧ gvI S 46 0 (40 * l + n) = nI gb then nI ga else gvI S 46 0 (40 * l + n)) = nI (if n = nm ∧ tl_grp L l n = gb then ga else tl_grp L l n)
  by_cases h2 : n = nm ∧ tl_grp L l n = gb
  · rw [if_pos h2]
    exact if_pos ⟨rfl, rfl, by omega, by omega, a4.trans (by rw [h2.2])⟩
  · rw [if_neg h2]
    refine (if_neg ?_).trans a4
    rintro ⟨-, -, y1, -, y2⟩
    exact h2 ⟨by omega, (nI_eq (by omega) (by omega)).mp (a4.symm.trans y2)⟩
theorem IV_bind {L : GL} {F : GF} {C : GC} {O : GO} {nm ga gb : Nat} (h : IV L F C O) (hga : ga < tl_n L) : IV (grpB L nm ga gb) F C O := by
  obtain ⟨i1, i2, i3, i4, i5⟩ := h
  refine ⟨i1, i2, i3, fun l n hl hn => ?_, i5⟩
  show (if n = nm ∧ tl_grp L l n = gb then ga else tl_grp L l n) < tl_n L
  split
  · exact hga
  · exact i4 l n hl hn
theorem ev_L76 {S : lh_S} {L : GL} (n : Nat) (hn : 100 ≤ n) (p1 p2 : Int32) (qX : QX S) (qL : QL S L) (h8 : tl_n L ≤ 8) (hg : ∀ l n, l < tl_n L → n < 40 → tl_grp L l n < tl_n L) (hk : ∀ l n c, l < tl_n L → n < 40 → tl_kn L l n = some c → c < 40) {ga gb nm : Nat} (hga : ga < 8) (hgb : gb < 8) (hnm : nm < 40) : ∀ (d g i v : Nat), tl_n L - i = d → i ≤ tl_n L → d + 1 ≤ g → v ≤ 40 → f_X10_agree_L76 n 0 p1 p2 (nI nm) g S (nI ga) (nI gb) (nI v) (nI i) = if rth L (fun j => decide (tl_grp L j nm = ga ∨ tl_grp L j nm = gb)) nm d i v = true then some (-13, pvI S 10 0 24 3) else some (1, remap S nm (tl_n L) ga gb) := by
  intro d
  induction d with
  | zero =>
    intro g i v hd hi hg hv
    obtain ⟨g, rfl⟩ : ∃ q, g = q + 1 := ⟨g - 1, by omega⟩
    have : i = tl_n L := by omega
    subst this
    have e := ev_L169 n p1 p2 (nI v) qX qL.1 h8 ga gb hnm (tl_n L) n 0 (by omega) (by omega) (by omega)
    rw [remap_0] at e
    rw [f_X10_agree_L76, qL.1, dc_if_p (nI_le (by omega) (by omega)), show (0 : Int32) = nI 0 from rfl, e, rth, if_neg (by decide)]
  | succ d ih =>
    intro g i v hd hi hg2 hv
    obtain ⟨g, rfl⟩ : ∃ q, g = q + 1 := ⟨g - 1, by omega⟩
    have hi2 : i < tl_n L := by omega
    have hq := qL.2.2.2 i nm (by omega) hnm
    have e44 : gvI S 44 0 (40 * i + nm) = nI (oc (tl_kn L i nm)) := by
      have := hq.2.1
      rw [if_pos hi2] at this
      exact this
    have e46 : gvI S 46 0 (40 * i + nm) = nI (tl_grp L i nm) := hq.2.2.2 hi2
    have hgi := hg i nm hi2 hnm
    have hoc : oc (tl_kn L i nm) ≤ 40 := by
      cases hz : tl_kn L i nm with
      | none => show 0 ≤ 40; omega
      | some c => have := hk i nm c hi2 hnm hz; show c + 1 ≤ 40; omega
    have g46 : ¬ (nI (40 * i + nm) < 0 ∨ gvL S 46 0 ≤ 40 * i + nm) := by
      rw [ql_46 qX]
      rintro (q | q)
      · exact nI_pos (by omega) q
      · omega
    have g44 : ¬ (nI (40 * i + nm) < 0 ∨ gvL S 44 0 ≤ 40 * i + nm) := by
      rw [ql_44 qX]
      rintro (q | q)
      · exact nI_pos (by omega) q
      · omega
    have r0 := ih g (i + 1) v (by omega) (by omega) (by omega) hv
    have r1 := ih g (i + 1) (oc (tl_kn L i nm)) (by omega) (by omega) (by omega) hoc
    have inner : dc_nn (gvR S 10 0 14) (fun x63 =>
        dc_gd (nI (40 * i + nm) < 0 ∨ gvL S 44 x63 ≤ 40 * i + nm) (
        dc_if ((gvI S 44 x63 (40 * i + nm)) ≤ 0) (
        f_X10_agree_L76 n 0 p1 p2 (nI nm) g S (nI ga) (nI gb) (nI v) (nI (i + 1))) (
        dc_if (nI v ≤ 0) (
        dc_gd (nI (40 * i + nm) < 0 ∨ gvL S 44 x63 ≤ 40 * i + nm) (
        f_X10_agree_L76 n 0 p1 p2 (nI nm) g S (nI ga) (nI gb) (gvI S 44 x63 (40 * i + nm)) (nI (i + 1)))) (
        dc_gd (nI (40 * i + nm) < 0 ∨ gvL S 44 x63 ≤ 40 * i + nm) (
        dc_if ((gvI S 44 x63 (40 * i + nm)) = nI v) (
        dc_gd (nI (40 * i + nm) < 0 ∨ gvL S 44 x63 ≤ 40 * i + nm) (
        f_X10_agree_L76 n 0 p1 p2 (nI nm) g S (nI ga) (nI gb) (gvI S 44 x63 (40 * i + nm)) (nI (i + 1)))) (
        dc_bd (f_X10_fails n S 0 (3 : Int32)) fun r74 S75 =>
        some (r74, S75))))))) = if (if oc (tl_kn L i nm) = 0 then rth L (fun j => decide (tl_grp L j nm = ga ∨ tl_grp L j nm = gb)) nm d (i + 1) v else if v = 0 then rth L (fun j => decide (tl_grp L j nm = ga ∨ tl_grp L j nm = gb)) nm d (i + 1) (oc (tl_kn L i nm)) else if oc (tl_kn L i nm) = v then rth L (fun j => decide (tl_grp L j nm = ga ∨ tl_grp L j nm = gb)) nm d (i + 1) (oc (tl_kn L i nm)) else true) = true then some (-13, pvI S 10 0 24 3) else some (1, remap S nm (tl_n L) ga gb) := by
      rw [dc_nn_e (qx_14 qX), dc_gd_n g44, e44]
      by_cases z1 : oc (tl_kn L i nm) = 0
      · rw [z1, dc_if_p (by decide), if_pos rfl]
        exact r0
      · rw [dc_if_n (nI_nle (by omega) (by omega)), if_neg z1]
        by_cases z2 : v = 0
        · subst z2
          rw [dc_if_p (by decide), dc_gd_n g44, if_pos rfl]
          exact r1
        · rw [dc_if_n (nI_nle (by omega) (by omega)), dc_gd_n g44, if_neg z2]
          by_cases z3 : oc (tl_kn L i nm) = v
          · rw [dc_if_p (by rw [z3]), dc_gd_n g44, if_pos z3]
            exact r1
          · rw [dc_if_n (fun q => z3 ((nI_eq (by omega) (by omega)).mp q)), if_neg z3, if_pos rfl]
            rfl
    rw [f_X10_agree_L76, qL.1, dc_if_n (nI_ge hi2 (by omega)), dc_nn_e (qx_16 qX), at40, ix_c (by omega), dc_gd_n g46, e46, nI_1, rth]
    by_cases y1 : tl_grp L i nm = ga
    · rw [dc_if_p (by rw [y1]), if_pos (c := decide (tl_grp L i nm = ga ∨ tl_grp L i nm = gb) = true) (by simp [y1])]
      exact inner
    · rw [dc_if_n (fun q => y1 ((nI_eq (by omega) (by omega)).mp q)), dc_gd_n g46]
      by_cases y2 : tl_grp L i nm = gb
      · rw [dc_if_p (by rw [y2]), if_pos (c := decide (tl_grp L i nm = ga ∨ tl_grp L i nm = gb) = true) (by simp [y2])]
        exact inner
      · rw [dc_if_n (fun q => y2 ((nI_eq (by omega) (by omega)).mp q)), if_neg (c := decide (tl_grp L i nm = ga ∨ tl_grp L i nm = gb) = true) (by simp [y1, y2])]
        exact r0
theorem op_agree {b : Nat} {S : lh_S} (n : Nat) (hn : 100 ≤ n) (h : SIM b S) (x y z : Int32) : ∃ v S1 S2, f_X9_agree n S 0 x y z = some (v, S1) ∧ f_X10_agree n S1 0 x y z = some (v, S2) ∧ SIM b S2 := by
  obtain ⟨L, F, C, O, N, hX, hL, hF, hC, hO, hN, hS, qX, qL, qF, qC, qO, qN, hI, hb⟩ := id h
  have ht : SIM b (pvI S 10 0 0 0) := SIM_thrown h
  have h40 := hC.1
  have h8 := hL.2.1
  have e1 : gvI (pvI S 10 0 0 0) 10 0 17 = nI (tc_n C) := qC.1
  rcases ix2 x (n := tc_n C) (by omega) with hx | ⟨c1, hc1, rfl⟩
  · refine ⟨-2, S, pvI S 10 0 0 0, ?_, ?_, ht⟩
    · unfold f_X9_agree
      rw [dc_nn_e (cx_r93 hX), ev_classAt_f n hC hx, dc_bd_s, dc_nn_e (cx_r93 hX)]
      rcases ix2 y (n := tc_n C) (by omega) with hy | ⟨c2, hc2, rfl⟩
      · rw [ev_classAt_f n hC hy, dc_bd_s, dc_if_p rfl]
      · rw [ev_classAt_t n hX hC hc2, dc_bd_s, dc_if_p rfl]
    · unfold f_X10_agree
      rw [dc_let_q, qv_isClass_f n e1 hx (by omega), dc_bd_s, dc_if_p rfl]
  rcases ix2 y (n := tc_n C) (by omega) with hy | ⟨c2, hc2, rfl⟩
  · refine ⟨-2, S, pvI S 10 0 0 0, ?_, ?_, ht⟩
    · unfold f_X9_agree
      rw [dc_nn_e (cx_r93 hX), ev_classAt_t n hX hC hc1, dc_bd_s, dc_nn_e (cx_r93 hX), ev_classAt_f n hC hy, dc_bd_s, dc_if_n (fun q => by cases q), dc_if_p rfl]
    · unfold f_X10_agree
      rw [dc_let_q, qv_isClass_t n e1 hc1 (by omega), dc_bd_s, dc_if_n (by decide), qv_isClass_f n e1 hy (by omega), dc_bd_s, dc_if_p rfl]
  rcases ix2 z (n := 40) (by omega) with hz | ⟨nm, hnm, rfl⟩
  · refine ⟨-3, S, pvI S 10 0 0 0, ?_, ?_, ht⟩
    · unfold f_X9_agree
      rw [dc_nn_e (cx_r93 hX), ev_classAt_t n hX hC hc1, dc_bd_s, dc_nn_e (cx_r93 hX), ev_classAt_t n hX hC hc2, dc_bd_s, dc_if_n (fun q => by cases q), dc_if_n (fun q => by cases q), ev_isName_f n hz, dc_bd_s, dc_if_p rfl]
    · unfold f_X10_agree
      rw [dc_let_q, qv_isClass_t n e1 hc1 (by omega), dc_bd_s, dc_if_n (by decide), qv_isClass_t n e1 hc2 (by omega), dc_bd_s, dc_if_n (by decide), qv_isName_f n hz, dc_bd_s, dc_if_p rfl]
  have i1 := (hI.2.2.2.2.2.2.1 c1 hc1).1
  have i2 := (hI.2.2.2.2.2.2.1 c2 hc2).1
  have m1 := hC.2.2.2.2 c1 hc1
  have m2 := hC.2.2.2.2 c2 hc2
  have w1 := qC.2.1 c1 hc1
  have w2 := qC.2.1 c2 hc2
  generalize hl1 : tc_ld C c1 = l1 at *
  generalize hl2 : tc_ld C c2 = l2 at *
  have hg := hI.2.2.2.1
  have hga := hg l1 nm i1 hnm
  have hgb := hg l2 nm i2 hnm
  have b1 := (hL.2.2.2.2.2.2 l1 nm i1 hnm).2.2.2
  have b2 := (hL.2.2.2.2.2.2 l2 nm i2 hnm).2.2.2
  have q1 : gvI S 46 0 (40 * l1 + nm) = nI (tl_grp L l1 nm) := (qL.2.2.2 l1 nm (by omega) hnm).2.2.2 i1
  have q2 : gvI S 46 0 (40 * l2 + nm) = nI (tl_grp L l2 nm) := (qL.2.2.2 l2 nm (by omega) hnm).2.2.2 i2
  generalize hga1 : tl_grp L l1 nm = ga at *
  generalize hgb1 : tl_grp L l2 nm = gb at *
  have hs : ∀ j, j < 32 → bt (gvI S 15 l1 nm ||| gvI S 15 l2 nm) j = decide (j < tl_n L ∧ (tl_grp L j nm = ga ∨ tl_grp L j nm = gb)) := by
    intro j hj
    rw [b_or, b1 j hj, b2 j hj]
    by_cases z1 : j < tl_n L
    · by_cases z2 : tl_grp L j nm = ga
      · simp [z1, z2]
      · simp [z1, z2]
    · simp [z1]
  have hs2 : ∀ j, j < tl_n L → bt (gvI S 15 l1 nm ||| gvI S 15 l2 nm) j = decide (tl_grp L j nm = ga ∨ tl_grp L j nm = gb) := by
    intro j hj
    rw [hs j (by omega)]
    simp [hj]
  generalize hset : (gvI S 15 l1 nm ||| gvI S 15 l2 nm) = set at *
  have o1 := hL.2.2.2.2.2.1 l1 i1
  have o2 := hL.2.2.2.2.2.1 l2 i2
  have ea := ev_ak n hX hL hs2 hnm (tl_n L) n 0 (by omega) (by omega) (by omega)
  have ek := ev_ka n hX hL hs2 hnm (akn L (fun j => decide (tl_grp L j nm = ga ∨ tl_grp L j nm = gb)) nm (tl_n L) 0) (tl_n L) n 0 (by omega) (by omega) (by omega)
  have eb := ev_L37 n (some l1) (some l2) hX hL set hnm (tl_n L) n 0 (by omega) (by omega) (by omega)
  rw [bindS_0] at eb
  have er := rth_0 L (fun j => decide (tl_grp L j nm = ga ∨ tl_grp L j nm = gb)) nm (tl_n L) 0
  have hcb : f_X3_bind n S 0 (some l1) (some l2) (nI nm) = if oth L (fun j => decide (tl_grp L j nm = ga ∨ tl_grp L j nm = gb)) nm (akn L (fun j => decide (tl_grp L j nm = ga ∨ tl_grp L j nm = gb)) nm (tl_n L) 0) (tl_n L) 0 = true then some (0, S) else some (1, bindS S nm (tl_n L) set) := by
    unfold f_X3_bind f_X3_anyKnown f_X3_knowsAnother
    rw [dc_nn_s, dc_nn_e o1.2.2.2.2.2.2.1, dc_gd_n (by rw [o1.2.2.2.2.2.2.2.2.2.2]; exact ix_in hnm (by omega)), dc_nn_s, dc_nn_e o2.2.2.2.2.2.2.1, dc_gd_n (by rw [o2.2.2.2.2.2.2.2.2.2.2]; exact ix_in hnm (by omega)), ix_c (by omega), hset, dc_let_q, show (0 : Int32) = nI 0 from rfl, ea, dc_bd_s, ek, dc_bd_s]
    split
    · rw [dc_if_n (by decide)]
    · rw [dc_if_p (by decide), eb]
  have hca : f_X9_agree n S 0 (nI c1) (nI c2) (nI nm) = dc_bd (f_X3_bind n S 0 (some l1) (some l2) (nI nm)) fun r29 S30 =>
      dc_if (r29 = 0) (
      dc_bd (f_X9_failed n S30 (3 : Int32)) fun r35 S36 =>
      dc_bd (f_X9_answered n S36 0 r35) fun r39 S40 =>
      some (r39, S40)) (
      some ((1 : Int32), S30)) := by
    unfold f_X9_agree
    rw [dc_nn_e (cx_r93 hX), ev_classAt_t n hX hC hc1, dc_bd_s, dc_nn_e (cx_r93 hX), ev_classAt_t n hX hC hc2, dc_bd_s, dc_if_n (fun q => by cases q), dc_if_n (fun q => by cases q), ev_isName_t n hnm, dc_bd_s, dc_if_n (by decide), dc_nn_s, dc_nn_s, dc_nn_e (cx_r92 hX), m1.2.1, m2.2.1]
  have hra : ∀ T, QX T → gvI T 10 0 17 = nI (tc_n C) → gvI T 49 0 c1 = nI l1 → gvI T 49 0 c2 = nI l2 → gvI T 46 0 (40 * l1 + nm) = nI ga → gvI T 46 0 (40 * l2 + nm) = nI gb → QL T L → f_X10_agree n T 0 (nI c1) (nI c2) (nI nm) = if oth L (fun j => decide (tl_grp L j nm = ga ∨ tl_grp L j nm = gb)) nm (akn L (fun j => decide (tl_grp L j nm = ga ∨ tl_grp L j nm = gb)) nm (tl_n L) 0) (tl_n L) 0 = true then some (-13, pvI (pvI T 10 0 0 0) 10 0 24 3) else some (1, remap (pvI T 10 0 0 0) nm (tl_n L) ga gb) := by
    intro T tX t17 t1 t2 t3 t4 tL
    have f1 : gvI (pvI T 10 0 0 0) 10 0 17 = nI (tc_n C) := t17
    have fX : QX (pvI T 10 0 0 0) := tX
    have fL : QL (pvI T 10 0 0 0) L := tL
    have f2 : gvI (pvI T 10 0 0 0) 49 0 c1 = nI l1 := t1
    have f3 : gvI (pvI T 10 0 0 0) 49 0 c2 = nI l2 := t2
    have f4 : gvI (pvI T 10 0 0 0) 46 0 (40 * l1 + nm) = nI ga := t3
    have f5 : gvI (pvI T 10 0 0 0) 46 0 (40 * l2 + nm) = nI gb := t4
    have e76 := ev_L76 n hn (nI c1) (nI c2) fX fL h8 hg (fun l n c hl hn hc => by have := (hI.2.2.1 l n c hl hn hc).1; omega) (show ga < 8 by omega) (show gb < 8 by omega) hnm (tl_n L) n 0 0 (by omega) (by omega) (by omega) (by omega)
    unfold f_X10_agree
    rw [dc_let_q, qv_isClass_t n f1 hc1 (by omega), dc_bd_s, dc_if_n (by decide), qv_isClass_t n f1 hc2 (by omega), dc_bd_s, dc_if_n (by decide), qv_isName_t n hnm, dc_bd_s, dc_if_n (by decide), dc_nn_e (qx_19 fX), dc_gd_n (by rw [ql_49 fX]; exact ix_in (by omega) (by omega)), ix_c (by omega), f2, dc_let_q, dc_nn_e (qx_16 fX), at40, dc_gd_n (by rw [ql_46 fX]; exact ix_in (by omega) (by omega)), dc_gd_n (by rw [ql_49 fX]; exact ix_in (by omega) (by omega)), ix_c (j := c2) (by omega), f3, dc_let_q, at40, dc_gd_n (by rw [ql_46 fX]; exact ix_in (by omega) (by omega)), ix_c (by omega), f4, ix_c (by omega), f5]
    rw [← er]
    exact e76
  by_cases hcon : oth L (fun j => decide (tl_grp L j nm = ga ∨ tl_grp L j nm = gb)) nm (akn L (fun j => decide (tl_grp L j nm = ga ∨ tl_grp L j nm = gb)) nm (tl_n L) 0) (tl_n L) 0 = true
  · rw [if_pos hcon] at hcb
    refine ⟨-13, pvI S 9 0 9 3, pvI (pvI (pvI S 9 0 9 3) 10 0 0 0) 10 0 24 3, ?_, ?_, SIM_fail h⟩
    · rw [hca, hcb, dc_bd_s, dc_if_p rfl, show f_X9_failed n S 3 = some (-10 - 3, S) from rfl, dc_bd_s, ev_answ n (by decide) (by decide), dc_bd_s, show ((-10 : Int32) - 3) = -13 by decide]
    · have t := hra (pvI S 9 0 9 3) qX qC.1 w1.2.1 w2.2.1 q1 q2 qL
      rw [if_pos hcon] at t
      exact t
  · rw [if_neg hcon] at hcb
    have t := hra (bindS S nm (tl_n L) set) qX qC.1 w1.2.1 w2.2.1 q1 q2 qL
    rw [if_neg hcon] at t
    refine ⟨1, bindS S nm (tl_n L) set, _, ?_, t, ?_⟩
    · rw [hca, hcb, dc_bd_s, dc_if_n (by decide)]
    · have a1 := CL_bind (nm := nm) (ga := ga) (gb := gb) hL hs
      have a2 : QL (remap (pvI (bindS S nm (tl_n L) set) 10 0 0 0) nm (tl_n L) ga gb) (grpB L nm ga gb) := QL_bind (S := pvI (bindS S nm (tl_n L) set) 10 0 0 0) qL h8 hg (by omega)
      exact ⟨grpB L nm ga gb, F, C, O, N, hX, a1, hF, hC, hO, hN, hS, qX, a2, qF, qC, qO, qN, IV_bind hI hga, hb⟩
