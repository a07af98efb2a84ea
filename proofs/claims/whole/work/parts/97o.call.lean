/-- a call's way up: none: no such method; else the answer, and the class whose static changes -/
def clF (F : GF) (C : GC) (m : Nat) (x : Int64) : Nat → Nat → Int64 → Option (Int64 × Option (Nat × Int64))
  | 0, _, _ => none
  | k + 1, c, w => match tf_me F (tc_fl C c) m with
    | none => match tc_ab C c with
      | none => none
      | some a => clF F C m x k a w
    | some (kd, p, q) => if kd = 1 then (match tc_ab C c with
        | none => none
        | some a => clF F C m x k a (w + q.toInt64))
      else if kd = 2 then some (w + q.toInt64 + (tc_sv C c + p.toInt64 * x), some (c, tc_sv C c + p.toInt64 * x))
      else some (w + q.toInt64 + p.toInt64 * x, none)
def clR (S : lh_S) (r : Option (Int64 × Option (Nat × Int64))) : Option (Int64 × lh_S) := match r with
  | none => some ((-9223372036854775808 : Int64) - ((-10 : Int32) - 10).toInt64, pvI S 9 0 9 10)
  | some (v, none) => some (v, S)
  | some (v, some (d, s)) => some (v, pvJ S 5 d 5 s)
def rfR (S : lh_S) (r : Option (Int64 × Option (Nat × Int64))) : Option (Int64 × lh_S) := match r with
  | none => some ((-9223372036854775808 : Int64) - ((-10 : Int32) - 10).toInt64, pvI S 10 0 24 10)
  | some (v, none) => some (v, S)
  | some (v, some (d, s)) => some (v, pvJ S 53 0 d s)
theorem cl_call {S : lh_S} {F : GF} {C : GC} (hF : CF S F) (hC : CC S C) (hI : ∀ d, d < tc_n C → tc_fl C d < tf_n F ∧ ∀ a, tc_ab C d = some a → a < d) (hk2 : ∀ f m k a b, f < tf_n F → m < 4 → tf_me F f m = some (k, a, b) → k ≤ 2) (n : Nat) (p1 : Int32) (m : Nat) (hm : m < 4) (x : Int64) (o : Option Nat) : ∀ (k c : Nat) (w : Int64) (g : Nat), c < k → c < tc_n C → c + 2 ≤ g → f_X9_call_L34 n 0 p1 (nI m) x g S o w (some c) = clR S (clF F C m x k c w) := by
  intro k
  induction k with
  | zero => intro c w g h; omega
  | succ k ih =>
    intro c w g hk hc hg
    obtain ⟨g, rfl⟩ : ∃ q, g = q + 1 := ⟨g - 1, by omega⟩
    obtain ⟨hfl, hab⟩ := hI c hc
    have hf5 := hF.2.2.2.2.1 _ hfl
    have hme := hF.2.2.2.2.2 _ m hfl hm
    have up : ∀ w', f_X9_call_L34 n 0 p1 (nI m) x g S o w' (tc_ab C c) = clR S (match tc_ab C c with
        | none => none
        | some a => clF F C m x k a w') := by
      intro w'
      cases ha : tc_ab C c with
      | none =>
        obtain ⟨g, rfl⟩ : ∃ q, g = q + 1 := ⟨g - 1, by omega⟩
        rw [f_X9_call_L34, dc_if_p rfl, show f_X9_failed n S 10 = some (-10 - 10, S) from rfl, dc_bd_s, ev_answ n (by decide) (by decide), dc_bd_s, dc_let_q]
        rfl
      | some a =>
        have := hab a ha
        exact ih a w' g (by omega) (by omega) (by omega)
    rw [f_X9_call_L34, dc_if_n (fun q => by cases q), dc_nn_s, dc_nn_e (hC.2.2.2.2 c hc).2.2.1, dc_nn_e hf5.2.2.2.2.2.2.1, dc_gd_n (by rw [hf5.2.2.2.2.2.2.2]; exact ix_in hm (by omega)), ix_c (by omega), (hC.2.2.2.2 c hc).2.2.2.1]
    unfold clF
    cases hq : tf_me F (tc_fl C c) m with
    | none => rw [hme.1 hq, dc_if_p rfl]; exact up w
    | some r =>
      obtain ⟨kd, p, q⟩ := r
      obtain ⟨y, y1, y2, y3, y4, y5⟩ := hme.2 kd p q hq
      have hkd := hk2 _ m kd p q hfl hm hq
      rw [y1, dc_if_n (fun z => by cases z), dc_nn_s, y3, y5]
      by_cases h1 : kd = 1
      · rw [dc_if_p (by rw [h1]; rfl)]
        show _ = clR S (if kd = 1 then _ else _)
        rw [if_pos h1]
        exact up (w + q.toInt64)
      · rw [dc_if_n (show ¬ nI kd = (1 : Int32) from fun z => h1 ((nI_eq (b := 1) (by omega) (by omega)).mp z))]
        show _ = clR S (if kd = 1 then _ else _)
        rw [if_neg h1]
        unfold f_X9_product
        rw [dc_nn_s, y3]
        by_cases h2 : kd = 2
        · rw [dc_if_p (by rw [h2]; rfl), if_pos h2, dc_nn_s, y4, (hC.2.2.2.2 c hc).2.2.2.2.2, dc_let_q, dc_let_q, gJ_s, dc_bd_s, dc_let_q]
          rfl
        · rw [dc_if_n (show ¬ nI kd = (2 : Int32) from fun z => h2 ((nI_eq (b := 2) (by omega) (by omega)).mp z)), if_neg h2, y4, dc_bd_s, dc_let_q]
          rfl
theorem i64a (a b c : Int64) : a + b + c = c + b + a := by
  apply Int64.toBitVec_inj.mp
  simp only [Int64.toBitVec_add]
  rw [BitVec.add_comm (a.toBitVec + b.toBitVec), BitVec.add_comm a.toBitVec, BitVec.add_assoc]
theorem rf_call {S : lh_S} {F : GF} {C : GC} (qX : QX S) (qF : QF S F) (qC : QC S C F) (h40 : tc_n C ≤ 40) (h30 : tf_n F ≤ 30) (hI : ∀ d, d < tc_n C → tc_fl C d < tf_n F ∧ ∀ a, tc_ab C d = some a → a < d) (hk2 : ∀ f m k a b, f < tf_n F → m < 4 → tf_me F f m = some (k, a, b) → k ≤ 2) (n : Nat) (p1 : Int32) (m : Nat) (hm : m < 4) (x : Int64) : ∀ (k c : Nat) (w : Int64) (g : Nat), c < k → c < tc_n C → c + 2 ≤ g → f_X10_call_L44 n 0 p1 (nI m) x g S w (nI c) = rfR S (clF F C m x k c w) := by
  intro k
  induction k with
  | zero => intro c w g h; omega
  | succ k ih =>
    intro c w g hk hc hg
    obtain ⟨g, rfl⟩ : ∃ q, g = q + 1 := ⟨g - 1, by omega⟩
    obtain ⟨hfl, hab⟩ := hI c hc
    have hme := (qF.2.2 (tc_fl C c) m (by omega) hm).1 hfl
    have b3 := (qC.2.1 c hc).2.2.1
    have b4 := (qC.2.1 c hc).2.2.2.1
    have gc : ∀ {a : Nat}, gvL S a 0 = 40 → ¬ (nI c < 0 ∨ gvL S a 0 ≤ c) := fun {a} ha => by
      rw [ha]
      rintro (q | q)
      · exact nI_pos (by omega) q
      · omega
    have gm : ∀ {a : Nat}, gvL S a 0 = 120 → ¬ (nI (4 * tc_fl C c + m) < 0 ∨ gvL S a 0 ≤ 4 * tc_fl C c + m) := fun {a} ha => by
      rw [ha]
      rintro (q | q)
      · exact nI_pos (by omega) q
      · omega
    have up : ∀ w', f_X10_call_L44 n 0 p1 (nI m) x g S w' (nI (oc (tc_ab C c)) - 1) = rfR S (match tc_ab C c with
        | none => none
        | some a => clF F C m x k a w') := by
      intro w'
      cases ha : tc_ab C c with
      | none =>
        obtain ⟨g, rfl⟩ : ∃ q, g = q + 1 := ⟨g - 1, by omega⟩
        rw [show nI (oc none) - 1 = (-1 : Int32) from rfl, f_X10_call_L44, dc_if_p (by decide)]
        rfl
      | some a =>
        have := hab a ha
        rw [show nI (oc (some a)) - 1 = nI a from nI_pred a]
        exact ih a w' g (by omega) (by omega) (by omega)
    rw [f_X10_call_L44, dc_if_n (nI_pos (by omega)), dc_nn_e (qx_20 qX), ix_c (by omega), dc_gd_n (gc (ql_50 qX)), b3, dc_let_q, at4, ix_c (by omega), dc_nn_e (qx_7 qX), dc_gd_n (gm (ql_37 qX))]
    unfold clF
    cases hq : tf_me F (tc_fl C c) m with
    | none => rw [hme.1 hq, dc_if_n (by decide), dc_gd_n (gm (ql_37 qX)), dc_if_n (by decide), dc_gd_n (gm (ql_37 qX)), dc_if_n (by decide), dc_nn_e (qx_21 qX), dc_gd_n (gc (ql_51 qX)), b4]; exact up w
    | some r =>
      obtain ⟨kd, p, q⟩ := r
      obtain ⟨y1, y2, y3⟩ := hme.2 kd p q hq
      have hkd := hk2 _ m kd p q hfl hm hq
      rw [y1]
      have ne : ∀ {t : Nat} {v : Int32}, v = nI (t + 1) → t ≤ 10 → kd ≠ t → ¬ nI (kd + 1) = v := fun hv ht hne z => hne (by
        have := (nI_eq (by omega) (by omega)).mp (z.trans hv)
        omega)
      by_cases h1 : kd = 1
      · rw [dc_if_p (by rw [h1]; rfl), dc_nn_e (qx_9 qX), dc_gd_n (gm (ql_39 qX)), y3, dc_let_q, dc_nn_e (qx_21 qX), dc_gd_n (gc (ql_51 qX)), b4]
        show _ = rfR S (if kd = 1 then _ else _)
        rw [if_pos h1]
        exact up (w + q.toInt64)
      · rw [dc_if_n (ne (t := 1) (v := 2) rfl (by omega) h1), dc_gd_n (gm (ql_37 qX))]
        show _ = rfR S (if kd = 1 then _ else _)
        rw [if_neg h1]
        by_cases h2 : kd = 2
        · rw [dc_if_n (ne (t := 0) (v := 1) rfl (by omega) (by omega)), dc_gd_n (gm (ql_37 qX)), dc_if_p (by rw [h2]; rfl), if_pos h2, dc_nn_e (qx_23 qX), dc_gd_n (gc (ql_53 qX)), dc_nn_e (qx_8 qX), dc_gd_n (gm (ql_38 qX)), y2, dc_let_q, (qC.2.1 c hc).2.2.2.2.2, dc_let_q, dc_gd_n (gc (ql_53 qX)), dc_let_q, dc_nn_e (show gvR (pvJ S 53 0 c (tc_sv C c + p.toInt64 * x)) 10 0 23 = some 0 from qx_23 qX), dc_gd_n (show ¬ (nI c < 0 ∨ gvL (pvJ S 53 0 c (tc_sv C c + p.toInt64 * x)) 53 0 ≤ c) from gc (ql_53 qX)), dc_nn_e (show gvR (pvJ S 53 0 c (tc_sv C c + p.toInt64 * x)) 10 0 9 = some 0 from qx_9 qX), dc_gd_n (show ¬ (nI (4 * tc_fl C c + m) < 0 ∨ gvL (pvJ S 53 0 c (tc_sv C c + p.toInt64 * x)) 39 0 ≤ 4 * tc_fl C c + m) from gm (ql_39 qX)), gJ_s, show gvI (pvJ S 53 0 c (tc_sv C c + p.toInt64 * x)) 39 0 (4 * tc_fl C c + m) = q from y3, dc_let_q, i64a]
          rfl
        · rw [dc_if_p (by rw [show kd = 0 by omega]; rfl), if_neg h2, dc_nn_e (qx_8 qX), dc_gd_n (gm (ql_38 qX)), y2, dc_let_q, dc_nn_e (qx_9 qX), dc_gd_n (gm (ql_39 qX)), y3, dc_let_q, i64a]
          rfl
theorem op_call {b : Nat} {S : lh_S} (n : Nat) (hn : 100 ≤ n) (h : SIM b S) (x y : Int32) (z : Int64) : ∃ v S1 S2, f_X9_call n S 0 x y z = some (v, S1) ∧ f_X10_call n S1 0 x y z = some (v, S2) ∧ SIM b S2 := by
  obtain ⟨L, F, C, O, N, hX, hL, hF, hC, hO, hN, hS, qX, qL, qF, qC, qO, qN, hI, hb⟩ := id h
  have ht : SIM b (pvI S 10 0 0 0) := SIM_thrown h
  have h40 := hC.1
  have h60 := hO.1
  have h30 := hF.1
  have e2 : gvI (pvI S 10 0 0 0) 10 0 36 = nI (to_n O) := qO.1
  rcases ix2 x (n := to_n O) (by omega) with hx | ⟨o, ho, rfl⟩
  · refine ⟨-9223372036854775806, S, pvI S 10 0 0 0, ?_, ?_, ht⟩
    · unfold f_X9_call
      rw [ev_classOfObject_f n hO hx, dc_bd_s, dc_if_p rfl]
    · unfold f_X10_call
      rw [dc_let_q, qv_isObject_f n e2 hx (by omega), dc_bd_s, dc_if_p rfl]
  rcases ix2 y (n := 4) (by omega) with hy | ⟨m, hm, rfl⟩
  · refine ⟨-9223372036854775805, S, pvI S 10 0 0 0, ?_, ?_, ht⟩
    · unfold f_X9_call
      rw [ev_classOfObject_t n hX hO ho, dc_bd_s, dc_if_n (fun q => by cases q), ev_isMethod_f n hy, dc_bd_s, dc_if_p rfl]
    · unfold f_X10_call
      rw [dc_let_q, qv_isObject_t n e2 ho (by omega), dc_bd_s, dc_if_n (by decide), in_kf n _ (k := 3) rfl hy (by omega), dc_bd_s, dc_if_p rfl]
  have hoc := hI.2.2.2.2.2.2.2.1 o ho
  have hi : ∀ d, d < tc_n C → tc_fl C d < tf_n F ∧ ∀ a, tc_ab C d = some a → a < d := fun d hd => ⟨(hI.2.2.2.2.2.2.1 d hd).2.1, (hI.2.2.2.2.2.2.1 d hd).2.2.2⟩
  have hk2 := hI.2.2.2.2.2.1
  have hcl : f_X9_call n S 0 (nI o) (nI m) z = clR S (clF F C m z 40 (to_cl O o) 0) := by
    unfold f_X9_call
    rw [ev_classOfObject_t n hX hO ho, dc_bd_s, dc_if_n (fun q => by cases q), ev_isMethod_t n hm, dc_bd_s, dc_if_n (by decide)]
    exact cl_call hF hC hi hk2 n _ m hm z _ 40 _ 0 n (by omega) hoc (by omega)
  have hrf : ∀ T, QX T → QF T F → QC T C F → QO T O → f_X10_call n T 0 (nI o) (nI m) z = rfR (pvI T 10 0 0 0) (clF F C m z 40 (to_cl O o) 0) := by
    intro T t1 t2 t3 t4
    have e3 : gvI (pvI T 10 0 0 0) 10 0 36 = nI (to_n O) := t4.1
    unfold f_X10_call
    rw [dc_let_q, qv_isObject_t n e3 ho (by omega), dc_bd_s, dc_if_n (by decide), in_kt n _ (k := 3) rfl (by omega) (by omega), dc_bd_s, dc_if_n (by decide), dc_nn_e (show gvR (pvI T 10 0 0 0) 10 0 37 = some 0 from qx_37 t1), dc_gd_n (by rw [show gvL (pvI T 10 0 0 0) 67 0 = 60 from ql_67 t1]; exact ix_in (by omega) (by omega)), ix_c (by omega), show gvI (pvI T 10 0 0 0) 67 0 o = _ from t4.2.1 o ho]
    exact rf_call (S := pvI T 10 0 0 0) t1 t2 t3 h40 h30 hi hk2 n _ m hm z 40 _ 0 n (by omega) hoc (by omega)
  have hd : ∀ k c w v d s, c < tc_n C → c < k → clF F C m z k c w = some (v, some (d, s)) → d < tc_n C := by
    intro k
    induction k with
    | zero => intro c w v d s hc hck; omega
    | succ k ih =>
      intro c w v d s hc hck he
      unfold clF at he
      have up : ∀ w', (match tc_ab C c with
          | none => none
          | some a => clF F C m z k a w') = some (v, some (d, s)) → d < tc_n C := by
        intro w' h9
        cases ha : tc_ab C c with
        | none => rw [ha] at h9; cases h9
        | some a =>
          rw [ha] at h9
          have := (hi c hc).2 a ha
          exact ih a w' v d s (by omega) (by omega) h9
      cases hq : tf_me F (tc_fl C c) m with
      | none => rw [hq] at he; exact up w he
      | some r =>
        obtain ⟨kd, p, q⟩ := r
        rw [hq] at he
        have he : (if kd = 1 then (match tc_ab C c with
          | none => none
          | some a => clF F C m z k a (w + q.toInt64))
          else if kd = 2 then some (w + q.toInt64 + (tc_sv C c + p.toInt64 * z), some (c, tc_sv C c + p.toInt64 * z))
          else some (w + q.toInt64 + p.toInt64 * z, none)) = some (v, some (d, s)) := he
        by_cases h1 : kd = 1
        · rw [if_pos h1] at he; exact up _ he
        · rw [if_neg h1] at he
          by_cases h2 : kd = 2
          · rw [if_pos h2] at he
            cases he
            exact hc
          · rw [if_neg h2] at he
            cases he
  cases hr : clF F C m z 40 (to_cl O o) 0 with
  | none =>
    rw [hr] at hcl hrf
    exact ⟨_, _, _, hcl, hrf (pvI S 9 0 9 10) qX qF qC qO, SIM_fail h⟩
  | some r =>
    obtain ⟨v, r⟩ := r
    cases r with
    | none =>
      rw [hr] at hcl hrf
      exact ⟨_, _, _, hcl, hrf S qX qF qC qO, ht⟩
    | some r =>
      obtain ⟨d, s⟩ := r
      have hdn := hd 40 _ _ _ _ _ hoc (by omega) hr
      rw [hr] at hcl hrf
      refine ⟨_, _, _, hcl, hrf (pvJ S 5 d 5 s) qX qF qC qO, ?_⟩
      have c4 : CC (pvJ S 5 d 5 s) (sCv C d s) := K5_CC_sv hC
      have c5 : QC (pvJ (pvI (pvJ S 5 d 5 s) 10 0 0 0) 53 0 d s) (sCv C d s) F := QC_sv hdn (show QC (pvI (pvJ S 5 d 5 s) 10 0 0 0) C F from qC)
      exact ⟨L, F, sCv C d s, O, N, hX, hL, hF, c4, hO, hN, hS, qX, qL, qF, c5, qO, qN, hI, hb⟩
