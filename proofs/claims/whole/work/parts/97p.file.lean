theorem nar_b {w : Int32} (h : w = 0 ∨ w = 1) : vp_nar .boolean w = w := by
  rcases h with rfl | rfl <;> rfl
/-- one file more -/
def newF (F : GF) (x y z : Nat) (u w : Int32) : GF := (tf_n F + 1, va_up (tf_nm F) (tf_n F) x, va_up (tf_in F) (tf_n F) y, va_up (tf_ab F) (tf_n F) z, va_up (tf_ct F) (tf_n F) u, va_up (tf_fi F) (tf_n F) (decide (w = 1)), va_up (tf_me F) (tf_n F) (fun _ => none))
theorem va_s {α : Type} {f : Nat → α} {k : Nat} {v : α} : va_up f k v k = v := if_pos rfl
theorem va_n {α : Type} {f : Nat → α} {k j : Nat} {v : α} (h : j ≠ k) : va_up f k v j = f j := if_neg h
theorem w_if {w : Int32} (h : w = 0 ∨ w = 1) : w = if decide (w = 1) = true then 1 else 0 := by
  rcases h with rfl | rfl <;> rfl
/-- what the class's file makes of the heap -/
def sFile (S : lh_S) (k : Nat) (x y z u w : Int32) : lh_S := pvR (pvI (pvI (pvI (pvI (pvI (pvI (pvR (pvN (pvN S 1 0) 11 4) 1 k 6 (some k)) 1 k 0 (nI k)) 1 k 1 x) 1 k 2 y) 1 k 3 z) 1 k 4 u) 1 k 5 w) 21 0 k (some k)
theorem ev_X1_init {S : lh_S} {k : Nat} (n : Nat) (h1 : gvN S 1 = k) (h11 : gvN S 11 = k) (x y z u : Int32) {w : Int32} (hw : w = 0 ∨ w = 1) : f_X1_init n (pvN S 1 0) k (nI k) x y z u w = some ((), pvI (pvI (pvI (pvI (pvI (pvI (pvR (pvN (pvN S 1 0) 11 4) 1 k 6 (some k)) 1 k 0 (nI k)) 1 k 1 x) 1 k 2 y) 1 k 3 z) 1 k 4 u) 1 k 5 w) := by
  unfold f_X1_init
  rw [dc_let_q, show gvN (pvN S 1 0) 11 = k from h11, dc_let_q, dc_let_q, dc_let_q, dc_let_q, dc_let_q, dc_let_q, dc_gd_n (fun q => q hw), dc_let_q]
theorem CF_new {S : lh_S} {F : GF} {x y z : Nat} {u w : Int32} (hw : w = 0 ∨ w = 1) (hF : CF S F) (hlt : tf_n F < 30) (v : Int32) (hv : v = nI (tf_n F + 1)) : CF (pvI (sFile S (tf_n F) (nI x) (nI y) (nI z) u w) 9 0 1 v) (newF F x y z u w) := by
  obtain ⟨f1, ⟨f2, f3⟩, f4, f5, f6, f7⟩ := hF
  generalize hk : tf_n F = k at *
  have en : tf_n (newF F x y z u w) = k + 1 := by unfold newF; rw [hk]; rfl
  have e11 : gvN (pvN S 1 0) 11 = k := f3
  refine ⟨by rw [en]; omega, ⟨?_, ?_⟩, ?_, ?_, ?_, ?_⟩
  · rw [en]
    show gvN (pvN S 1 0) 1 = k + 1
    rw [gN_pN, if_pos rfl, f2]
  · rw [en]
    show gvN (pvN (pvN S 1 0) 11 4) 11 = k + 1
    rw [gN_pN, if_pos rfl, e11]
  · rw [en, gI_s, hv]
  · intro f hf
    rw [en] at hf
    show gvR (pvR _ 21 0 k (some k)) 21 0 f = some f
    by_cases hfk : f = k
    · subst hfk
      exact gR_s
    · rw [gR_q hfk]
      exact f5 f (by omega)
  · intro f hf
    rw [en] at hf
    by_cases hfk : f = k
    · subst hfk
      have n1 : tf_nm (newF F x y z u w) f = x := by unfold newF; rw [hk]; exact va_s
      have n2 : tf_in (newF F x y z u w) f = y := by unfold newF; rw [hk]; exact va_s
      have n3 : tf_ab (newF F x y z u w) f = z := by unfold newF; rw [hk]; exact va_s
      have n4 : tf_ct (newF F x y z u w) f = u := by unfold newF; rw [hk]; exact va_s
      have n5 : tf_fi (newF F x y z u w) f = decide (w = 1) := by unfold newF; rw [hk]; exact va_s
      rw [n1, n2, n3, n4, n5]
      have hw2 := w_if hw
      refine ⟨?_, ?_, ?_, ?_, ?_, ?_, ?_, ?_⟩
      · simp [sFile, gI_pI, gI_pR]
      · simp [sFile, gI_pI, gI_pR]
      · simp [sFile, gI_pI, gI_pR]
      · simp [sFile, gI_pI, gI_pR]
      · simp [sFile, gI_pI, gI_pR]
      · rw [← hw2]
        simp [sFile, gI_pI, gI_pR]
      · simp [sFile, gR_pI, gR_pR]
      · show gvL (pvN (pvN S 1 0) 11 4) 11 f = 4
        rw [gL_pN, e11, if_pos ⟨rfl, rfl⟩]
    · have n1 : tf_nm (newF F x y z u w) f = tf_nm F f := by unfold newF; rw [hk]; exact va_n hfk
      have n2 : tf_in (newF F x y z u w) f = tf_in F f := by unfold newF; rw [hk]; exact va_n hfk
      have n3 : tf_ab (newF F x y z u w) f = tf_ab F f := by unfold newF; rw [hk]; exact va_n hfk
      have n4 : tf_ct (newF F x y z u w) f = tf_ct F f := by unfold newF; rw [hk]; exact va_n hfk
      have n5 : tf_fi (newF F x y z u w) f = tf_fi F f := by unfold newF; rw [hk]; exact va_n hfk
      rw [n1, n2, n3, n4, n5]
      have i : ∀ j, gvI (pvI (sFile S k (nI x) (nI y) (nI z) u w) 9 0 1 v) 1 f j = gvI S 1 f j := by
        intro j
        simp [sFile, gI_pI, gI_pR, gI_pN, hfk, f2]
      rw [i, i, i, i, i, i]
      obtain ⟨a1, a2, a3, a4, a5, a6, a7, a8⟩ := f6 f (by omega)
      refine ⟨a1, a2, a3, a4, a5, a6, ?_, ?_⟩
      · rw [← a7]
        simp [sFile, gR_pI, gR_pR, gR_pN, hfk, f2]
      · show gvL (pvN (pvN S 1 0) 11 4) 11 f = 4
        rw [gL_pN, e11, if_neg (fun q => hfk q.2)]
        exact a8
  · intro f m hf hm
    rw [en] at hf
    by_cases hfk : f = k
    · subst hfk
      have n1 : tf_me (newF F x y z u w) f m = none := by
        unfold newF; rw [hk]
        show va_up (tf_me F) f (fun _ => none) f m = none
        rw [va_s]
      rw [n1]
      refine ⟨fun _ => ?_, fun k a b h => by cases h⟩
      show gvR (pvR (pvN (pvN S 1 0) 11 4) 1 f 6 (some f)) 11 f m = none
      show gvR (pvN (pvN S 1 0) 11 4) 11 f m = none
      rw [gR_pN, e11, if_pos ⟨rfl, rfl⟩]
    · have n1 : tf_me (newF F x y z u w) f m = tf_me F f m := by
        unfold newF; rw [hk]
        show va_up (tf_me F) k (fun _ => none) f m = _
        rw [va_n hfk]
      rw [n1]
      have er : gvR (pvI (sFile S k (nI x) (nI y) (nI z) u w) 9 0 1 v) 11 f m = gvR S 11 f m := by
        show gvR (pvN (pvN S 1 0) 11 4) 11 f m = _
        rw [gR_pN, e11, if_neg (fun q => hfk q.2)]
        rfl
      rw [er]
      exact f7 f m (by omega) hm
theorem QC_newF {S : lh_S} {F F' : GF} {C : GC} (h : QC S C F) (hc : ∀ c, c < tc_n C → tf_nm F' (tc_fl C c) = tf_nm F (tc_fl C c)) : QC S C F' := by
  refine ⟨h.1, fun c hc2 => ?_, h.2.2⟩
  rw [hc c hc2]
  exact h.2.1 c hc2
theorem IV_newF {L : GL} {F : GF} {C : GC} {O : GO} {x y z : Nat} {u w : Int32} (h : IV L F C O) (hx : x < 40) (hy : y < 40) (hz : z < 40) : IV L (newF F x y z u w) C O := by
  obtain ⟨i1, i2, i3, i4, i5, i6, i7, i8⟩ := h
  have en : tf_n (newF F x y z u w) = tf_n F + 1 := rfl
  have nm : ∀ f, f < tf_n F → tf_nm (newF F x y z u w) f = tf_nm F f := fun f hf => va_n (by omega)
  refine ⟨i1, fun l n f hl hn hf => ?_, fun l n c hl hn hc => ?_, i4, fun f hf => ?_, fun f m k a b hf hm h9 => ?_, fun c hc => ?_, i8⟩
  · obtain ⟨a1, a2⟩ := i2 l n f hl hn hf
    exact ⟨by rw [en]; omega, by rw [nm f a1]; exact a2⟩
  · obtain ⟨a1, a2⟩ := i3 l n c hl hn hc
    exact ⟨a1, by rw [nm _ (i7 c a1).2.1]; exact a2⟩
  · rw [en] at hf
    by_cases hfk : f = tf_n F
    · subst hfk
      have n1 : tf_nm (newF F x y z u w) (tf_n F) = x := va_s
      have n2 : tf_in (newF F x y z u w) (tf_n F) = y := va_s
      have n3 : tf_ab (newF F x y z u w) (tf_n F) = z := va_s
      rw [n1, n2, n3]
      exact ⟨hx, hy, hz⟩
    · have n1 : tf_nm (newF F x y z u w) f = tf_nm F f := va_n hfk
      have n2 : tf_in (newF F x y z u w) f = tf_in F f := va_n hfk
      have n3 : tf_ab (newF F x y z u w) f = tf_ab F f := va_n hfk
      rw [n1, n2, n3]
      exact i5 f (by omega)
  · rw [en] at hf
    have h9 : va_up (tf_me F) (tf_n F) (fun _ => none) f m = some (k, a, b) := h9
    by_cases hfk : f = tf_n F
    · subst hfk
      rw [va_s] at h9
      cases h9
    · rw [va_n hfk] at h9
      exact i6 f m k a b (by omega) hm h9
  · obtain ⟨a1, a2, a3⟩ := i7 c hc
    exact ⟨a1, by rw [en]; omega, a3⟩
/-- what the reference's file makes of the heap -/
def qFile (T : lh_S) (k : Nat) (x y z u w : Int32) : lh_S := pvI (pvI (pvI (pvI (pvI (pvI T 10 0 1 (nI k + 1)) 32 0 k x) 33 0 k y) 34 0 k z) 35 0 k u) 36 0 k w
theorem ev_Rfile {T : lh_S} {k : Nat} (n : Nat) (qX : QX T) (hk : gvI T 10 0 1 = nI k) (hlt : k < 30) {x y z : Nat} (hx : x < 40) (hy : y < 40) (hz : z < 40) {u w : Int32} (hw : w = 0 ∨ w = 1) : f_X10_file n T 0 (nI x) (nI y) (nI z) u w = some (nI k, qFile (pvI T 10 0 0 0) k (nI x) (nI y) (nI z) u w) := by
  have e1 : gvI (pvI T 10 0 0 0) 10 0 1 = nI k := hk
  unfold f_X10_file qFile
  have g : ∀ S', QX S' → ∀ a, (a = 32 ∨ a = 33 ∨ a = 34 ∨ a = 35 ∨ a = 36) → ¬ (nI k < 0 ∨ gvL S' a 0 ≤ k) := by
    intro S' hq a ha
    have := hq.2.1 a (by rcases ha with rfl | rfl | rfl | rfl | rfl <;> decide)
    rw [this]
    rintro (q | q)
    · exact nI_pos (by omega) q
    · omega
  rw [dc_let_q, qv_isName_t n hx, dc_bd_s, dc_if_n (by decide), qv_isName_t n hy, dc_bd_s, dc_if_n (by decide), qv_isName_t n hz, dc_bd_s, dc_if_n (by decide), e1, ix_c (by omega), dc_if_n (show ¬ nI k = (30 : Int32) from fun q => by have := (nI_eq (a := k) (b := 30) (by omega) (by omega)).mp q; omega), dc_let_q, dc_let_q]
  have q1 : QX (pvI (pvI T 10 0 0 0) 10 0 1 (nI k + 1)) := qX
  generalize pvI (pvI T 10 0 0 0) 10 0 1 (nI k + 1) = T1 at *
  have q2 : QX (pvI T1 32 0 k (nI x)) := q1
  have q3 : QX (pvI (pvI T1 32 0 k (nI x)) 33 0 k (nI y)) := q1
  have q4 : QX (pvI (pvI (pvI T1 32 0 k (nI x)) 33 0 k (nI y)) 34 0 k (nI z)) := q1
  have q5 : QX (pvI (pvI (pvI (pvI T1 32 0 k (nI x)) 33 0 k (nI y)) 34 0 k (nI z)) 35 0 k u) := q1
  rw [dc_nn_e (qx_2 q1), dc_gd_n (g _ q1 32 (by omega)), dc_let_q, dc_nn_e (qx_3 q2), dc_gd_n (g _ q2 33 (by omega)), dc_let_q, dc_nn_e (qx_4 q3), dc_gd_n (g _ q3 34 (by omega)), dc_let_q, dc_nn_e (qx_5 q4), dc_gd_n (g _ q4 35 (by omega)), dc_let_q, dc_nn_e (qx_6 q5), dc_gd_n (g _ q5 36 (by omega)), dc_let_q, nar_b hw]
theorem QF_new {T : lh_S} {F : GF} {x y z : Nat} {u w : Int32} (hw : w = 0 ∨ w = 1) (qF : QF T F) (hlt : tf_n F < 30) : QF (qFile T (tf_n F) (nI x) (nI y) (nI z) u w) (newF F x y z u w) := by
  obtain ⟨f1, f2, f3⟩ := qF
  generalize hk : tf_n F = k at *
  have en : tf_n (newF F x y z u w) = k + 1 := by unfold newF; rw [hk]; rfl
  refine ⟨?_, fun f hf => ?_, fun f m hf hm => ?_⟩
  · rw [en]
    show nI k + 1 = nI (k + 1)
    exact nI_1 k
  · rw [en] at hf
    by_cases hfk : f = k
    · subst hfk
      have n1 : tf_nm (newF F x y z u w) f = x := by unfold newF; rw [hk]; exact va_s
      have n2 : tf_in (newF F x y z u w) f = y := by unfold newF; rw [hk]; exact va_s
      have n3 : tf_ab (newF F x y z u w) f = z := by unfold newF; rw [hk]; exact va_s
      have n4 : tf_ct (newF F x y z u w) f = u := by unfold newF; rw [hk]; exact va_s
      have n5 : tf_fi (newF F x y z u w) f = decide (w = 1) := by unfold newF; rw [hk]; exact va_s
      rw [n1, n2, n3, n4, n5, ← w_if hw]
      simp [qFile, gI_pI]
    · have n1 : tf_nm (newF F x y z u w) f = tf_nm F f := by unfold newF; rw [hk]; exact va_n hfk
      have n2 : tf_in (newF F x y z u w) f = tf_in F f := by unfold newF; rw [hk]; exact va_n hfk
      have n3 : tf_ab (newF F x y z u w) f = tf_ab F f := by unfold newF; rw [hk]; exact va_n hfk
      have n4 : tf_ct (newF F x y z u w) f = tf_ct F f := by unfold newF; rw [hk]; exact va_n hfk
      have n5 : tf_fi (newF F x y z u w) f = tf_fi F f := by unfold newF; rw [hk]; exact va_n hfk
      rw [n1, n2, n3, n4, n5]
      obtain ⟨a1, a2, a3, a4, a5⟩ := f2 f (by omega)
      refine ⟨?_, ?_, ?_, ?_, ?_⟩
      · rw [← a1]; simp [qFile, gI_pI, hfk]
      · rw [← a2]; simp [qFile, gI_pI, hfk]
      · rw [← a3]; simp [qFile, gI_pI, hfk]
      · rw [← a4]; simp [qFile, gI_pI, hfk]
      · rw [← a5]; simp [qFile, gI_pI, hfk]
  · have old := f3 f m hf hm
    rw [en]
    refine ⟨fun hlt => ?_, fun hge => old.2 (by omega)⟩
    by_cases hfk : f = k
    · subst hfk
      have n1 : tf_me (newF F x y z u w) f m = none := by
        unfold newF; rw [hk]
        show va_up (tf_me F) f (fun _ => none) f m = none
        rw [va_s]
      rw [n1]
      exact ⟨fun _ => old.2 (by omega), fun k a b h => by cases h⟩
    · have n1 : tf_me (newF F x y z u w) f m = tf_me F f m := by
        unfold newF; rw [hk]
        show va_up (tf_me F) k (fun _ => none) f m = _
        rw [va_n hfk]
      rw [n1]
      exact old.1 (by omega)
theorem op_file {b : Nat} {S : lh_S} (n : Nat) (h : SIM b S) (x y z u w : Int32) (hw : w = 0 ∨ w = 1) : ∃ v S1 S2, f_X9_file n S 0 x y z u w = some (v, S1) ∧ f_X10_file n S1 0 x y z u w = some (v, S2) ∧ SIM b S2 := by
  obtain ⟨L, F, C, O, N, hX, hL, hF, hC, hO, hN, hS, qX, qL, qF, qC, qO, qN, hI, hb⟩ := id h
  have ht : SIM b (pvI S 10 0 0 0) := SIM_thrown h
  have h30 := hF.1
  have e1 : gvI (pvI S 10 0 0 0) 10 0 1 = nI (tf_n F) := qF.1
  rcases ix2 x (n := 40) (by omega) with hx | ⟨x, hx, rfl⟩
  · refine ⟨-3, S, pvI S 10 0 0 0, ?_, ?_, ht⟩
    · unfold f_X9_file
      rw [ev_isName_f n hx, dc_bd_s, dc_if_p rfl]
    · unfold f_X10_file
      rw [dc_let_q, qv_isName_f n hx, dc_bd_s, dc_if_p rfl]
  rcases ix2 y (n := 40) (by omega) with hy | ⟨y, hy, rfl⟩
  · refine ⟨-3, S, pvI S 10 0 0 0, ?_, ?_, ht⟩
    · unfold f_X9_file
      rw [ev_isName_t n hx, dc_bd_s, dc_if_n (by decide), ev_isName_f n hy, dc_bd_s, dc_if_p rfl]
    · unfold f_X10_file
      rw [dc_let_q, qv_isName_t n hx, dc_bd_s, dc_if_n (by decide), qv_isName_f n hy, dc_bd_s, dc_if_p rfl]
  rcases ix2 z (n := 40) (by omega) with hz | ⟨z, hz, rfl⟩
  · refine ⟨-3, S, pvI S 10 0 0 0, ?_, ?_, ht⟩
    · unfold f_X9_file
      rw [ev_isName_t n hx, dc_bd_s, dc_if_n (by decide), ev_isName_t n hy, dc_bd_s, dc_if_n (by decide), ev_isName_f n hz, dc_bd_s, dc_if_p rfl]
    · unfold f_X10_file
      rw [dc_let_q, qv_isName_t n hx, dc_bd_s, dc_if_n (by decide), qv_isName_t n hy, dc_bd_s, dc_if_n (by decide), qv_isName_f n hz, dc_bd_s, dc_if_p rfl]
  by_cases hfull : tf_n F = 30
  · refine ⟨-5, S, pvI S 10 0 0 0, ?_, ?_, ht⟩
    · unfold f_X9_file
      rw [ev_isName_t n hx, dc_bd_s, dc_if_n (by decide), ev_isName_t n hy, dc_bd_s, dc_if_n (by decide), ev_isName_t n hz, dc_bd_s, dc_if_n (by decide), hF.2.2.1, hfull, dc_if_n (by decide)]
    · unfold f_X10_file
      rw [dc_let_q, qv_isName_t n hx, dc_bd_s, dc_if_n (by decide), qv_isName_t n hy, dc_bd_s, dc_if_n (by decide), qv_isName_t n hz, dc_bd_s, dc_if_n (by decide), e1, hfull, dc_if_p (by decide)]
  have hlt : tf_n F < 30 := by omega
  obtain ⟨S1, hS1⟩ : ∃ S1, S1 = pvI (sFile S (tf_n F) (nI x) (nI y) (nI z) u w) 9 0 1 (nI (tf_n F) + 1) := ⟨_, rfl⟩
  have hc : f_X9_file n S 0 (nI x) (nI y) (nI z) u w = some (nI (tf_n F), S1) := by
    rw [hS1]
    unfold f_X9_file
    rw [ev_isName_t n hx, dc_bd_s, dc_if_n (by decide), ev_isName_t n hy, dc_bd_s, dc_if_n (by decide), ev_isName_t n hz, dc_bd_s, dc_if_n (by decide), hF.2.2.1, dc_if_p (show nI (tf_n F) < (30 : Int32) from nI_lt (b := 30) hlt (by omega)), dc_let_q, show gvI (pvN S 1 0) 9 0 1 = nI (tf_n F) from hF.2.2.1, hF.2.1.1, ev_X1_init n hF.2.1.1 hF.2.1.2 (nI x) (nI y) (nI z) u hw, dc_bd_s, dc_nn_e (cx_r90 hX), ix_c (by omega), dc_gd_n, dc_let_q, dc_let_q, dc_let_q]
    · show some (gvI S 9 0 1, pvI (sFile S (tf_n F) (nI x) (nI y) (nI z) u w) 9 0 1 (gvI S 9 0 1 + 1)) = _
      rw [hF.2.2.1]
    · rintro (q | q)
      · exact nI_pos (by omega) q
      · have q : gvL S 21 0 ≤ tf_n F := q
        rw [cx_l21 hX] at q
        omega
  have qX1 : QX S1 := QX_9 (k_X9_file hc) qX
  have e2 : gvI S1 10 0 1 = nI (tf_n F) := (QF_9 (k_X9_file hc) qF).1
  refine ⟨nI (tf_n F), S1, _, hc, ev_Rfile n qX1 e2 hlt hx hy hz hw, ?_⟩
  have q0 : QF S1 F := QF_9 (k_X9_file hc) qF
  have a1 := QF_new (T := pvI S1 10 0 0 0) (x := x) (y := y) (z := z) (u := u) hw q0 hlt
  have a2 := QL_9 (k_X9_file hc) qL
  have a3 := QC_9 (k_X9_file hc) qC
  have a4 := QO_9 (k_X9_file hc) qO
  have a5 := QN_9 (k_X9_file hc) qN
  have a6 := CF_new (x := x) (y := y) (z := z) (u := u) hw hF hlt (nI (tf_n F) + 1) (nI_1 _)
  have b3 : QC S1 C (newF F x y z u w) := QC_newF a3 (fun c hc => va_n (by have := (hI.2.2.2.2.2.2.1 c hc).2.1; omega))
  rw [← hS1] at a6
  have c1 : CX S1 := by rw [hS1]; exact hX
  have c2 : CL S1 L := by rw [hS1]; exact hL
  have c3 : CC S1 C := by rw [hS1]; exact hC
  have c4 : CO S1 O := by
    rw [hS1]
    exact hO
  have c5 : CN S1 N := by rw [hS1]; exact hN
  have c6 : CS S1 := by rw [hS1]; exact hS
  exact ⟨L, newF F x y z u w, C, O, N, c1, c2, a6, c3, c4, c5, c6, qX1, a2, a1, b3, a4, a5, IV_newF hI hx hy hz, hb⟩
