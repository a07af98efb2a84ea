def nA (S : lh_S) (a len fld : Nat) : lh_S := pvR (pvN S a len) 10 0 fld (some 0)
theorem nA_q {β : Type} {S : lh_S} {a len fld : Nat} {K : lh_S → Option β} (h : gvN S a = 0) : dc_let (pvN S a len) (fun S1 => dc_let (pvR S1 10 0 fld (some (gvN S a))) K) = K (nA S a len fld) := by
  rw [h]
  rfl
def rB (S : lh_S) : lh_S := (nA (nA (nA (nA (nA (nA (nA (nA (nA (nA (nA (nA (nA (nA (nA (nA (nA (nA (nA (nA (nA (nA (nA (nA (nA (nA (nA (nA (nA (nA (nA (pvN S 10 0) 32 30 2) 33 30 3) 34 30 4) 35 30 5) 36 30 6) 37 120 7) 38 120 8) 39 120 9) 41 8 11) 42 8 12) 43 320 13) 44 320 14) 45 320 15) 46 320 16) 48 40 18) 49 40 19) 50 40 20) 51 40 21) 52 40 22) 53 40 23) 56 30 26) 57 700 27) 58 700 28) 59 700 29) 60 700 30) 61 700 31) 65 41 35) 67 60 37) 69 20 39) 70 20 40) 71 160 41)
theorem rB_L {S : lh_S} (z : ∀ b, (b = 10 ∨ 30 ≤ b) → gvN S b = 0) : QX (rB S) := by
  have l32 : gvL (rB S) 32 0 = 30 := by
    show (if 32 = 32 ∧ 0 = gvN S 32 then 30 else gvL S 32 0) = 30
    exact if_pos ⟨rfl, (z 32 (by decide)).symm⟩
  have l33 : gvL (rB S) 33 0 = 30 := by
    show (if 33 = 33 ∧ 0 = gvN S 33 then 30 else gvL S 33 0) = 30
    exact if_pos ⟨rfl, (z 33 (by decide)).symm⟩
  have l34 : gvL (rB S) 34 0 = 30 := by
    show (if 34 = 34 ∧ 0 = gvN S 34 then 30 else gvL S 34 0) = 30
    exact if_pos ⟨rfl, (z 34 (by decide)).symm⟩
  have l35 : gvL (rB S) 35 0 = 30 := by
    show (if 35 = 35 ∧ 0 = gvN S 35 then 30 else gvL S 35 0) = 30
    exact if_pos ⟨rfl, (z 35 (by decide)).symm⟩
  have l36 : gvL (rB S) 36 0 = 30 := by
    show (if 36 = 36 ∧ 0 = gvN S 36 then 30 else gvL S 36 0) = 30
    exact if_pos ⟨rfl, (z 36 (by decide)).symm⟩
  have l37 : gvL (rB S) 37 0 = 120 := by
    show (if 37 = 37 ∧ 0 = gvN S 37 then 120 else gvL S 37 0) = 120
    exact if_pos ⟨rfl, (z 37 (by decide)).symm⟩
  have l38 : gvL (rB S) 38 0 = 120 := by
    show (if 38 = 38 ∧ 0 = gvN S 38 then 120 else gvL S 38 0) = 120
    exact if_pos ⟨rfl, (z 38 (by decide)).symm⟩
  have l39 : gvL (rB S) 39 0 = 120 := by
    show (if 39 = 39 ∧ 0 = gvN S 39 then 120 else gvL S 39 0) = 120
    exact if_pos ⟨rfl, (z 39 (by decide)).symm⟩
  have l41 : gvL (rB S) 41 0 = 8 := by
    show (if 41 = 41 ∧ 0 = gvN S 41 then 8 else gvL S 41 0) = 8
    exact if_pos ⟨rfl, (z 41 (by decide)).symm⟩
  have l42 : gvL (rB S) 42 0 = 8 := by
    show (if 42 = 42 ∧ 0 = gvN S 42 then 8 else gvL S 42 0) = 8
    exact if_pos ⟨rfl, (z 42 (by decide)).symm⟩
  have l43 : gvL (rB S) 43 0 = 320 := by
    show (if 43 = 43 ∧ 0 = gvN S 43 then 320 else gvL S 43 0) = 320
    exact if_pos ⟨rfl, (z 43 (by decide)).symm⟩
  have l44 : gvL (rB S) 44 0 = 320 := by
    show (if 44 = 44 ∧ 0 = gvN S 44 then 320 else gvL S 44 0) = 320
    exact if_pos ⟨rfl, (z 44 (by decide)).symm⟩
  have l45 : gvL (rB S) 45 0 = 320 := by
    show (if 45 = 45 ∧ 0 = gvN S 45 then 320 else gvL S 45 0) = 320
    exact if_pos ⟨rfl, (z 45 (by decide)).symm⟩
  have l46 : gvL (rB S) 46 0 = 320 := by
    show (if 46 = 46 ∧ 0 = gvN S 46 then 320 else gvL S 46 0) = 320
    exact if_pos ⟨rfl, (z 46 (by decide)).symm⟩
  have l48 : gvL (rB S) 48 0 = 40 := by
    show (if 48 = 48 ∧ 0 = gvN S 48 then 40 else gvL S 48 0) = 40
    exact if_pos ⟨rfl, (z 48 (by decide)).symm⟩
  have l49 : gvL (rB S) 49 0 = 40 := by
    show (if 49 = 49 ∧ 0 = gvN S 49 then 40 else gvL S 49 0) = 40
    exact if_pos ⟨rfl, (z 49 (by decide)).symm⟩
  have l50 : gvL (rB S) 50 0 = 40 := by
    show (if 50 = 50 ∧ 0 = gvN S 50 then 40 else gvL S 50 0) = 40
    exact if_pos ⟨rfl, (z 50 (by decide)).symm⟩
  have l51 : gvL (rB S) 51 0 = 40 := by
    show (if 51 = 51 ∧ 0 = gvN S 51 then 40 else gvL S 51 0) = 40
    exact if_pos ⟨rfl, (z 51 (by decide)).symm⟩
  have l52 : gvL (rB S) 52 0 = 40 := by
    show (if 52 = 52 ∧ 0 = gvN S 52 then 40 else gvL S 52 0) = 40
    exact if_pos ⟨rfl, (z 52 (by decide)).symm⟩
  have l53 : gvL (rB S) 53 0 = 40 := by
    show (if 53 = 53 ∧ 0 = gvN S 53 then 40 else gvL S 53 0) = 40
    exact if_pos ⟨rfl, (z 53 (by decide)).symm⟩
  have l56 : gvL (rB S) 56 0 = 30 := by
    show (if 56 = 56 ∧ 0 = gvN S 56 then 30 else gvL S 56 0) = 30
    exact if_pos ⟨rfl, (z 56 (by decide)).symm⟩
  have l57 : gvL (rB S) 57 0 = 700 := by
    show (if 57 = 57 ∧ 0 = gvN S 57 then 700 else gvL S 57 0) = 700
    exact if_pos ⟨rfl, (z 57 (by decide)).symm⟩
  have l58 : gvL (rB S) 58 0 = 700 := by
    show (if 58 = 58 ∧ 0 = gvN S 58 then 700 else gvL S 58 0) = 700
    exact if_pos ⟨rfl, (z 58 (by decide)).symm⟩
  have l59 : gvL (rB S) 59 0 = 700 := by
    show (if 59 = 59 ∧ 0 = gvN S 59 then 700 else gvL S 59 0) = 700
    exact if_pos ⟨rfl, (z 59 (by decide)).symm⟩
  have l60 : gvL (rB S) 60 0 = 700 := by
    show (if 60 = 60 ∧ 0 = gvN S 60 then 700 else gvL S 60 0) = 700
    exact if_pos ⟨rfl, (z 60 (by decide)).symm⟩
  have l61 : gvL (rB S) 61 0 = 700 := by
    show (if 61 = 61 ∧ 0 = gvN S 61 then 700 else gvL S 61 0) = 700
    exact if_pos ⟨rfl, (z 61 (by decide)).symm⟩
  have l65 : gvL (rB S) 65 0 = 41 := by
    show (if 65 = 65 ∧ 0 = gvN S 65 then 41 else gvL S 65 0) = 41
    exact if_pos ⟨rfl, (z 65 (by decide)).symm⟩
  have l67 : gvL (rB S) 67 0 = 60 := by
    show (if 67 = 67 ∧ 0 = gvN S 67 then 60 else gvL S 67 0) = 60
    exact if_pos ⟨rfl, (z 67 (by decide)).symm⟩
  have l69 : gvL (rB S) 69 0 = 20 := by
    show (if 69 = 69 ∧ 0 = gvN S 69 then 20 else gvL S 69 0) = 20
    exact if_pos ⟨rfl, (z 69 (by decide)).symm⟩
  have l70 : gvL (rB S) 70 0 = 20 := by
    show (if 70 = 70 ∧ 0 = gvN S 70 then 20 else gvL S 70 0) = 20
    exact if_pos ⟨rfl, (z 70 (by decide)).symm⟩
  have l71 : gvL (rB S) 71 0 = 160 := by
    show (if 71 = 71 ∧ 0 = gvN S 71 then 160 else gvL S 71 0) = 160
    exact if_pos ⟨rfl, (z 71 (by decide)).symm⟩
  refine ⟨?_, ?_, ?_, ?_, ?_, ?_, ?_, l65, l67, l69, l70, l71⟩
  · intro k hk
    simp only [List.mem_cons, List.not_mem_nil, or_false] at hk
    rcases hk with rfl | rfl | rfl | rfl | rfl | rfl | rfl | rfl | rfl | rfl | rfl | rfl | rfl | rfl | rfl | rfl | rfl | rfl | rfl | rfl | rfl | rfl | rfl | rfl | rfl | rfl | rfl | rfl | rfl | rfl | rfl
    · exact rfl
    · exact rfl
    · exact rfl
    · exact rfl
    · exact rfl
    · exact rfl
    · exact rfl
    · exact rfl
    · exact rfl
    · exact rfl
    · exact rfl
    · exact rfl
    · exact rfl
    · exact rfl
    · exact rfl
    · exact rfl
    · exact rfl
    · exact rfl
    · exact rfl
    · exact rfl
    · exact rfl
    · exact rfl
    · exact rfl
    · exact rfl
    · exact rfl
    · exact rfl
    · exact rfl
    · exact rfl
    · exact rfl
    · exact rfl
    · exact rfl
  · intro k hk
    simp only [List.mem_cons, List.not_mem_nil, or_false] at hk
    rcases hk with rfl | rfl | rfl | rfl | rfl | rfl
    · exact l32
    · exact l33
    · exact l34
    · exact l35
    · exact l36
    · exact l56
  · intro k hk
    simp only [List.mem_cons, List.not_mem_nil, or_false] at hk
    rcases hk with rfl | rfl | rfl
    · exact l37
    · exact l38
    · exact l39
  · intro k hk
    simp only [List.mem_cons, List.not_mem_nil, or_false] at hk
    rcases hk with rfl | rfl
    · exact l41
    · exact l42
  · intro k hk
    simp only [List.mem_cons, List.not_mem_nil, or_false] at hk
    rcases hk with rfl | rfl | rfl | rfl
    · exact l43
    · exact l44
    · exact l45
    · exact l46
  · intro k hk
    simp only [List.mem_cons, List.not_mem_nil, or_false] at hk
    rcases hk with rfl | rfl | rfl | rfl | rfl | rfl
    · exact l48
    · exact l49
    · exact l50
    · exact l51
    · exact l52
    · exact l53
  · intro k hk
    simp only [List.mem_cons, List.not_mem_nil, or_false] at hk
    rcases hk with rfl | rfl | rfl | rfl | rfl
    · exact l57
    · exact l58
    · exact l59
    · exact l60
    · exact l61
theorem rB_0 {S : lh_S} (z : ∀ b, (b = 10 ∨ 30 ≤ b) → gvN S b = 0) : QL (rB S) aL0 ∧ QF (rB S) aF0 ∧ QC (rB S) aC0 aF0 ∧ QO (rB S) aO0 ∧ QN (rB S) aN0 := by
  have k10 : ∀ q, gvI (rB S) 10 0 q = 0 := by
    intro q
    show (if 10 = 10 ∧ 0 = gvN S 10 then 0 else gvI S 10 0 q) = 0
    exact if_pos ⟨rfl, (z 10 (by decide)).symm⟩
  have i37 : ∀ q, gvI (rB S) 37 0 q = 0 := by
    intro q
    show (if 37 = 37 ∧ 0 = gvN S 37 then 0 else gvI S 37 0 q) = 0
    exact if_pos ⟨rfl, (z 37 (by decide)).symm⟩
  have i42 : ∀ q, gvI (rB S) 42 0 q = 0 := by
    intro q
    show (if 42 = 42 ∧ 0 = gvN S 42 then 0 else gvI S 42 0 q) = 0
    exact if_pos ⟨rfl, (z 42 (by decide)).symm⟩
  have i43 : ∀ q, gvI (rB S) 43 0 q = 0 := by
    intro q
    show (if 43 = 43 ∧ 0 = gvN S 43 then 0 else gvI S 43 0 q) = 0
    exact if_pos ⟨rfl, (z 43 (by decide)).symm⟩
  have i44 : ∀ q, gvI (rB S) 44 0 q = 0 := by
    intro q
    show (if 44 = 44 ∧ 0 = gvN S 44 then 0 else gvI S 44 0 q) = 0
    exact if_pos ⟨rfl, (z 44 (by decide)).symm⟩
  have i45 : ∀ q, gvI (rB S) 45 0 q = 0 := by
    intro q
    show (if 45 = 45 ∧ 0 = gvN S 45 then 0 else gvI S 45 0 q) = 0
    exact if_pos ⟨rfl, (z 45 (by decide)).symm⟩
  have i52 : ∀ q, gvI (rB S) 52 0 q = 0 := by
    intro q
    show (if 52 = 52 ∧ 0 = gvN S 52 then 0 else gvI S 52 0 q) = 0
    exact if_pos ⟨rfl, (z 52 (by decide)).symm⟩
  have i56 : ∀ q, gvI (rB S) 56 0 q = 0 := by
    intro q
    show (if 56 = 56 ∧ 0 = gvN S 56 then 0 else gvI S 56 0 q) = 0
    exact if_pos ⟨rfl, (z 56 (by decide)).symm⟩
  have i71 : ∀ q, gvI (rB S) 71 0 q = 0 := by
    intro q
    show (if 71 = 71 ∧ 0 = gvN S 71 then 0 else gvI S 71 0 q) = 0
    exact if_pos ⟨rfl, (z 71 (by decide)).symm⟩
  have j53 : ∀ q, gvJ (rB S) 53 0 q = 0 := by
    intro q
    show (if 53 = 53 ∧ 0 = gvN S 53 then 0 else gvJ S 53 0 q) = 0
    exact if_pos ⟨rfl, (z 53 (by decide)).symm⟩
  refine ⟨⟨k10 10, fun l hl => absurd hl (Nat.not_lt_zero _), fun l hl => i42 l, fun l n hl hn => ⟨i43 _, i44 _, i45 _, fun h => absurd h (Nat.not_lt_zero _)⟩⟩, ⟨k10 1, fun f hf => absurd hf (Nat.not_lt_zero _), fun f m hf hm => ⟨fun h => absurd h (Nat.not_lt_zero _), fun _ => i37 _⟩⟩, ⟨k10 17, fun c hc => absurd hc (Nat.not_lt_zero _), fun c _ _ => ⟨i52 c, j53 c⟩⟩, ⟨k10 36, fun c hc => absurd hc (Nat.not_lt_zero _), k10 38, fun c hc => absurd hc (Nat.not_lt_zero _), fun q i _ _ _ => i71 _, fun q i hq => absurd hq (Nat.not_lt_zero _)⟩, ⟨k10 25, fun j hj => i56 j, k10 24⟩⟩
def Q10 (S : lh_S) (L : GL) (F : GF) : Prop := QX S ∧ QL S L ∧ QF S F ∧ QC S aC0 F ∧ QO S aO0 ∧ QN S aN0
def qF10 (S : lh_S) (k : Nat) : lh_S := pvI (qFile (pvI S 10 0 0 0) k (nI k) (nI k) (nI 0) 1 0) 43 0 (40 * 0 + k) (nI (k + 1))
theorem Q10_step {S : lh_S} {L : GL} {F : GF} {k : Nat} (h : Q10 S L F) (hk : tf_n F = k) (hlt : k < 30) (h1 : 0 < tl_n L) : Q10 (qF10 S k) (hasL L 0 k k) (newF F k k 0 1 0) := by
  subst hk
  obtain ⟨qX, qL, qF, qC, qO, qN⟩ := h
  have a : QF (qFile (pvI S 10 0 0 0) (tf_n F) (nI (tf_n F)) (nI (tf_n F)) (nI 0) 1 0) (newF F (tf_n F) (tf_n F) 0 1 0) := QF_new (T := pvI S 10 0 0 0) (x := tf_n F) (y := tf_n F) (z := 0) (u := 1) (w := 0) (Or.inl rfl) qF hlt
  have b : QL (qFile (pvI S 10 0 0 0) (tf_n F) (nI (tf_n F)) (nI (tf_n F)) (nI 0) 1 0) L := qL
  have c : QC S aC0 (newF F (tf_n F) (tf_n F) 0 1 0) := QC_newF qC (fun c hc => absurd hc (Nat.not_lt_zero _))
  exact ⟨qX, QL_has (tf_n F) b h1 (by omega), a, c, qO, qN⟩
theorem ev_X10_init (n : Nat) (hn : 100 ≤ n) {S : lh_S} (z : ∀ b, (b = 10 ∨ 30 ≤ b) → gvN S b = 0) : ∃ S20 L F, f_X10_init n (pvN S 10 0) 0 = some ((), S20) ∧ Q10 S20 L F ∧ L = hasL (hasL (hasL (hasL (hasL (newL aL0 0) 0 0 0) 0 1 1) 0 2 2) 0 3 3) 0 4 4 ∧ F = newF (newF (newF (newF (newF aF0 0 0 0 1 0) 1 1 0 1 0) 2 2 0 1 0) 3 3 0 1 0) 4 4 0 1 0 := by
  obtain ⟨R, hR⟩ : ∃ R, R = rB S := ⟨_, rfl⟩
  have qX : QX R := by rw [hR]; exact rB_L z
  obtain ⟨qL, qF, qC, qO, qN⟩ := rB_0 z
  rw [← hR] at qL qF qC qO qN
  obtain ⟨S0, g0⟩ : ∃ S0, S0 = qAdd (pvI R 10 0 0 0) 0 0 := ⟨_, rfl⟩
  have a0 : QL (qAdd (pvI R 10 0 0 0) 0 0) (newL aL0 0) := QL_add (T := pvI R 10 0 0 0) (L := aL0) (l := 0) qL (by decide)
  have h0 : Q10 S0 (newL aL0 0) aF0 := by
    rw [g0]
    exact ⟨qX, a0, qF, qC, qO, qN⟩
  have x : f_X10_loader n R 0 (0 : Int32) = some (nI 0, S0) := by
    rw [g0]
    have e2 : gvI (pvI R 10 0 0 0) 10 0 10 = nI 0 := qL.1
    have q1 : QX (pvI (pvI R 10 0 0 0) 10 0 10 (nI 0 + 1)) := qX
    have q2 : QX (pvI (pvI (pvI R 10 0 0 0) 10 0 10 (nI 0 + 1)) 41 0 0 (nI 0)) := qX
    have el := ev_L59 (k := 0) n (nI 0) (by decide) (qx_16 q2) (ql_46 q2) 40 n 0 (by omega) (by omega) (by omega)
    rw [fill_0] at el
    unfold f_X10_loader
    rw [dc_let_q, e2, dc_if_p (by decide), dc_if_n (by decide), dc_let_q, dc_let_q, dc_nn_e (qx_11 q1), dc_gd_n (by rw [ql_41 q1]; decide), dc_let_q]
    exact el
  obtain ⟨S1, g1⟩ : ∃ S1, S1 = qF10 S0 0 := ⟨_, rfl⟩
  have h1 : Q10 S1 (hasL (newL aL0 0) 0 0 0) (newF aF0 0 0 0 1 0) := by rw [g1]; exact Q10_step h0 rfl (by decide) (by decide)
  have x0 := ev_Rfile (T := S0) (k := 0) n h0.1 h0.2.2.1.1 (by decide) (x := 0) (y := 0) (z := 0) (by decide) (by decide) (by decide) (u := 1) (w := 0) (Or.inl rfl)
  obtain ⟨T0, e0⟩ : ∃ T0, T0 = qFile (pvI S0 10 0 0 0) 0 (nI 0) (nI 0) (nI 0) 1 0 := ⟨_, rfl⟩
  rw [← e0] at x0
  have u0 : gvR T0 10 0 13 = some 0 := by rw [e0]; exact qx_13 h0.1
  have v0 : gvL T0 43 0 = 320 := by rw [e0]; exact ql_43 h0.1
  have g1' : S1 = pvI T0 43 0 0 (nI 0 + 1) := by rw [g1, e0]; rfl
  obtain ⟨S2, g2⟩ : ∃ S2, S2 = qF10 S1 1 := ⟨_, rfl⟩
  have h2 : Q10 S2 (hasL (hasL (newL aL0 0) 0 0 0) 0 1 1) (newF (newF aF0 0 0 0 1 0) 1 1 0 1 0) := by rw [g2]; exact Q10_step h1 rfl (by decide) (by decide)
  have x1 := ev_Rfile (T := S1) (k := 1) n h1.1 h1.2.2.1.1 (by decide) (x := 1) (y := 1) (z := 0) (by decide) (by decide) (by decide) (u := 1) (w := 0) (Or.inl rfl)
  obtain ⟨T1, e1⟩ : ∃ T1, T1 = qFile (pvI S1 10 0 0 0) 1 (nI 1) (nI 1) (nI 0) 1 0 := ⟨_, rfl⟩
  rw [← e1] at x1
  have u1 : gvR T1 10 0 13 = some 0 := by rw [e1]; exact qx_13 h1.1
  have v1 : gvL T1 43 0 = 320 := by rw [e1]; exact ql_43 h1.1
  have g2' : S2 = pvI T1 43 0 1 (nI 1 + 1) := by rw [g2, e1]; rfl
  obtain ⟨S3, g3⟩ : ∃ S3, S3 = qF10 S2 2 := ⟨_, rfl⟩
  have h3 : Q10 S3 (hasL (hasL (hasL (newL aL0 0) 0 0 0) 0 1 1) 0 2 2) (newF (newF (newF aF0 0 0 0 1 0) 1 1 0 1 0) 2 2 0 1 0) := by rw [g3]; exact Q10_step h2 rfl (by decide) (by decide)
  have x2 := ev_Rfile (T := S2) (k := 2) n h2.1 h2.2.2.1.1 (by decide) (x := 2) (y := 2) (z := 0) (by decide) (by decide) (by decide) (u := 1) (w := 0) (Or.inl rfl)
  obtain ⟨T2, e2⟩ : ∃ T2, T2 = qFile (pvI S2 10 0 0 0) 2 (nI 2) (nI 2) (nI 0) 1 0 := ⟨_, rfl⟩
  rw [← e2] at x2
  have u2 : gvR T2 10 0 13 = some 0 := by rw [e2]; exact qx_13 h2.1
  have v2 : gvL T2 43 0 = 320 := by rw [e2]; exact ql_43 h2.1
  have g3' : S3 = pvI T2 43 0 2 (nI 2 + 1) := by rw [g3, e2]; rfl
  obtain ⟨S4, g4⟩ : ∃ S4, S4 = qF10 S3 3 := ⟨_, rfl⟩
  have h4 : Q10 S4 (hasL (hasL (hasL (hasL (newL aL0 0) 0 0 0) 0 1 1) 0 2 2) 0 3 3) (newF (newF (newF (newF aF0 0 0 0 1 0) 1 1 0 1 0) 2 2 0 1 0) 3 3 0 1 0) := by rw [g4]; exact Q10_step h3 rfl (by decide) (by decide)
  have x3 := ev_Rfile (T := S3) (k := 3) n h3.1 h3.2.2.1.1 (by decide) (x := 3) (y := 3) (z := 0) (by decide) (by decide) (by decide) (u := 1) (w := 0) (Or.inl rfl)
  obtain ⟨T3, e3⟩ : ∃ T3, T3 = qFile (pvI S3 10 0 0 0) 3 (nI 3) (nI 3) (nI 0) 1 0 := ⟨_, rfl⟩
  rw [← e3] at x3
  have u3 : gvR T3 10 0 13 = some 0 := by rw [e3]; exact qx_13 h3.1
  have v3 : gvL T3 43 0 = 320 := by rw [e3]; exact ql_43 h3.1
  have g4' : S4 = pvI T3 43 0 3 (nI 3 + 1) := by rw [g4, e3]; rfl
  obtain ⟨S5, g5⟩ : ∃ S5, S5 = qF10 S4 4 := ⟨_, rfl⟩
  have h5 : Q10 S5 (hasL (hasL (hasL (hasL (hasL (newL aL0 0) 0 0 0) 0 1 1) 0 2 2) 0 3 3) 0 4 4) (newF (newF (newF (newF (newF aF0 0 0 0 1 0) 1 1 0 1 0) 2 2 0 1 0) 3 3 0 1 0) 4 4 0 1 0) := by rw [g5]; exact Q10_step h4 rfl (by decide) (by decide)
  have x4 := ev_Rfile (T := S4) (k := 4) n h4.1 h4.2.2.1.1 (by decide) (x := 4) (y := 4) (z := 0) (by decide) (by decide) (by decide) (u := 1) (w := 0) (Or.inl rfl)
  obtain ⟨T4, e4⟩ : ∃ T4, T4 = qFile (pvI S4 10 0 0 0) 4 (nI 4) (nI 4) (nI 0) 1 0 := ⟨_, rfl⟩
  rw [← e4] at x4
  have u4 : gvR T4 10 0 13 = some 0 := by rw [e4]; exact qx_13 h4.1
  have v4 : gvL T4 43 0 = 320 := by rw [e4]; exact ql_43 h4.1
  have g5' : S5 = pvI T4 43 0 4 (nI 4 + 1) := by rw [g5, e4]; rfl
  refine ⟨S5, (hasL (hasL (hasL (hasL (hasL (newL aL0 0) 0 0 0) 0 1 1) 0 2 2) 0 3 3) 0 4 4), (newF (newF (newF (newF (newF aF0 0 0 0 1 0) 1 1 0 1 0) 2 2 0 1 0) 3 3 0 1 0) 4 4 0 1 0), ?_, h5, rfl, rfl⟩
  unfold f_X10_init
  rw [nA_q (a := 32) (by exact z 32 (by decide)), nA_q (a := 33) (by exact z 33 (by decide)), nA_q (a := 34) (by exact z 34 (by decide)), nA_q (a := 35) (by exact z 35 (by decide)), nA_q (a := 36) (by exact z 36 (by decide)), nA_q (a := 37) (by exact z 37 (by decide)), nA_q (a := 38) (by exact z 38 (by decide)), nA_q (a := 39) (by exact z 39 (by decide)), nA_q (a := 41) (by exact z 41 (by decide)), nA_q (a := 42) (by exact z 42 (by decide)), nA_q (a := 43) (by exact z 43 (by decide)), nA_q (a := 44) (by exact z 44 (by decide)), nA_q (a := 45) (by exact z 45 (by decide)), nA_q (a := 46) (by exact z 46 (by decide)), nA_q (a := 48) (by exact z 48 (by decide)), nA_q (a := 49) (by exact z 49 (by decide)), nA_q (a := 50) (by exact z 50 (by decide)), nA_q (a := 51) (by exact z 51 (by decide)), nA_q (a := 52) (by exact z 52 (by decide)), nA_q (a := 53) (by exact z 53 (by decide)), nA_q (a := 56) (by exact z 56 (by decide)), nA_q (a := 57) (by exact z 57 (by decide)), nA_q (a := 58) (by exact z 58 (by decide)), nA_q (a := 59) (by exact z 59 (by decide)), nA_q (a := 60) (by exact z 60 (by decide)), nA_q (a := 61) (by exact z 61 (by decide)), nA_q (a := 65) (by exact z 65 (by decide)), nA_q (a := 67) (by exact z 67 (by decide)), nA_q (a := 69) (by exact z 69 (by decide)), nA_q (a := 70) (by exact z 70 (by decide)), nA_q (a := 71) (by exact z 71 (by decide))]
  rw [show (nA (nA (nA (nA (nA (nA (nA (nA (nA (nA (nA (nA (nA (nA (nA (nA (nA (nA (nA (nA (nA (nA (nA (nA (nA (nA (nA (nA (nA (nA (nA (pvN S 10 0) 32 30 2) 33 30 3) 34 30 4) 35 30 5) 36 30 6) 37 120 7) 38 120 8) 39 120 9) 41 8 11) 42 8 12) 43 320 13) 44 320 14) 45 320 15) 46 320 16) 48 40 18) 49 40 19) 50 40 20) 51 40 21) 52 40 22) 53 40 23) 56 30 26) 57 700 27) 58 700 28) 59 700 29) 60 700 30) 61 700 31) 65 41 35) 67 60 37) 69 20 39) 70 20 40) 71 160 41) = R from hR.symm, x, dc_bd_s]
  rw [show f_X10_file n S0 0 (0 : Int32) (0 : Int32) (0 : Int32) (1 : Int32) (0 : Int32) = some (nI 0, T0) from x0, dc_bd_s, dc_nn_e u0, show ((0 : Int32)).toNatClampNeg = 0 from rfl, dc_gd_n (by rw [v0]; decide), ← g1', dc_let_q]
  rw [show f_X10_file n S1 0 (1 : Int32) (1 : Int32) (0 : Int32) (1 : Int32) (0 : Int32) = some (nI 1, T1) from x1, dc_bd_s, dc_nn_e u1, show ((1 : Int32)).toNatClampNeg = 1 from rfl, dc_gd_n (by rw [v1]; decide), ← g2', dc_let_q]
  rw [show f_X10_file n S2 0 (2 : Int32) (2 : Int32) (0 : Int32) (1 : Int32) (0 : Int32) = some (nI 2, T2) from x2, dc_bd_s, dc_nn_e u2, show ((2 : Int32)).toNatClampNeg = 2 from rfl, dc_gd_n (by rw [v2]; decide), ← g3', dc_let_q]
  rw [show f_X10_file n S3 0 (3 : Int32) (3 : Int32) (0 : Int32) (1 : Int32) (0 : Int32) = some (nI 3, T3) from x3, dc_bd_s, dc_nn_e u3, show ((3 : Int32)).toNatClampNeg = 3 from rfl, dc_gd_n (by rw [v3]; decide), ← g4', dc_let_q]
  rw [show f_X10_file n S4 0 (4 : Int32) (4 : Int32) (0 : Int32) (1 : Int32) (0 : Int32) = some (nI 4, T4) from x4, dc_bd_s, dc_nn_e u4, show ((4 : Int32)).toNatClampNeg = 4 from rfl, dc_gd_n (by rw [v4]; decide), ← g5', dc_let_q]
