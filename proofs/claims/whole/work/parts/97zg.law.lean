theorem IV_0 : IV (newL aL0 0) aF0 aC0 aO0 := by
  refine ⟨fun l h0 hl => ?_, fun l n f hl hn hf => ?_, fun l n c hl hn hc => ?_, fun l n hl hn => ?_, fun f hf => absurd hf (Nat.not_lt_zero _), fun f m k a b hf => absurd hf (Nat.not_lt_zero _), fun c hc => absurd hc (Nat.not_lt_zero _), fun o ho => absurd ho (Nat.not_lt_zero _), fun q hq => absurd hq (Nat.not_lt_zero _)⟩
  · have hl : l < 0 + 1 := hl
    omega
  · have hl : l < 0 + 1 := hl
    have hl0 : l = 0 := by omega
    subst hl0
    cases hf
  · have hl : l < 0 + 1 := hl
    have hl0 : l = 0 := by omega
    subst hl0
    cases hc
  · have hl : l < 0 + 1 := hl
    have hl0 : l = 0 := by omega
    subst hl0
    exact Nat.zero_lt_one
theorem start_SIM (n : Nat) (hn : 100 ≤ n) : ∃ S20, (∀ L xs, f_L_law n L xs lh_S0 = f_L_law_L18 n L xs 600 S20 (some 0) (some 0) (nI 0)) ∧ SIM 0 S20 := by
  obtain ⟨S8, L, F, e9, hX, hL, hF, hC, hO, hN, hS, eL, eF⟩ := ev_X9_init n hn
  have s9 := k_X9_init e9
  have z : ∀ b, (b = 10 ∨ 30 ≤ b) → gvN S8 b = 0 := by
    intro b hb
    rw [(s9 b hb).1, gN_pN, if_neg (by omega)]
    rfl
  obtain ⟨S20, L', F', e10, ⟨qX, qL, qF, qC, qO, qN⟩, eL', eF'⟩ := ev_X10_init n hn z
  have hLL : L' = L := eL'.trans eL.symm
  have hFF : F' = F := eF'.trans eF.symm
  rw [hLL] at qL
  rw [hFF] at qF qC
  have s10 := k_X10_init e10
  have a1 : CX (pvN S8 10 0) := hX
  have a2 : CL (pvN S8 10 0) L := hL
  have a3 : CF (pvN S8 10 0) F := hF
  have a4 : CC (pvN S8 10 0) aC0 := hC
  have a5 : CO (pvN S8 10 0) aO0 := hO
  have a6 : CN (pvN S8 10 0) aN0 := hN
  have a7 : CS (pvN S8 10 0) := hS
  have hI : IV L F aC0 aO0 := by
    rw [eL, eF]
    have i0 := IV_0
    have i1 : IV (hasL (newL aL0 0) 0 0 0) (newF aF0 0 0 0 1 0) aC0 aO0 := IV_has (IV_newF i0 (by decide) (by decide) (by decide)) (by decide) rfl
    have i2 : IV (hasL (hasL (newL aL0 0) 0 0 0) 0 1 1) (newF (newF aF0 0 0 0 1 0) 1 1 0 1 0) aC0 aO0 := IV_has (IV_newF i1 (by decide) (by decide) (by decide)) (by decide) rfl
    have i3 : IV (hasL (hasL (hasL (newL aL0 0) 0 0 0) 0 1 1) 0 2 2) (newF (newF (newF aF0 0 0 0 1 0) 1 1 0 1 0) 2 2 0 1 0) aC0 aO0 := IV_has (IV_newF i2 (by decide) (by decide) (by decide)) (by decide) rfl
    have i4 : IV (hasL (hasL (hasL (hasL (newL aL0 0) 0 0 0) 0 1 1) 0 2 2) 0 3 3) (newF (newF (newF (newF aF0 0 0 0 1 0) 1 1 0 1 0) 2 2 0 1 0) 3 3 0 1 0) aC0 aO0 := IV_has (IV_newF i3 (by decide) (by decide) (by decide)) (by decide) rfl
    have i5 : IV (hasL (hasL (hasL (hasL (hasL (newL aL0 0) 0 0 0) 0 1 1) 0 2 2) 0 3 3) 0 4 4) (newF (newF (newF (newF (newF aF0 0 0 0 1 0) 1 1 0 1 0) 2 2 0 1 0) 3 3 0 1 0) 4 4 0 1 0) aC0 aO0 := IV_has (IV_newF i4 (by decide) (by decide) (by decide)) (by decide) rfl
    exact i5
  refine ⟨S20, fun Ln xs => ?_, L, F, aC0, aO0, aN0, CX_10 s10 a1, CL_10 s10 a2, CF_10 s10 a3, CC_10 s10 a4, CO_10 s10 a5, CN_10 s10 a6, CS_10 s10 a7, qX, qL, qF, qC, qO, qN, hI, Nat.le_refl _⟩
  unfold f_L_law
  rw [dc_let_q, show gvN lh_S0 9 = 0 from rfl, e9, dc_bd_s, dc_let_q, z 10 (by decide), e10, dc_bd_s]
  rfl
theorem lg_self (v : Int64) : lg_cmp v v = 0 := by
  unfold lg_cmp
  simp
theorem SIM_mono {b b' : Nat} {S : lh_S} (h : SIM b S) (hb : b ≤ b') : SIM b' S := by
  obtain ⟨L, F, C, O, N, hX, hL, hF, hC, hO, hN, hS, qX, qL, qF, qC, qO, qN, hI, hb2⟩ := h
  exact ⟨L, F, C, O, N, hX, hL, hF, hC, hO, hN, hS, qX, qL, qF, qC, qO, qN, hI, by omega⟩
set_option maxRecDepth 10000 in
theorem law_loop {n L : Nat} {xs : Nat → Int32} (hn : 100000 ≤ n) (hL : L ≤ 3072) : ∀ (g j : Nat) (S : lh_S), 514 ≤ j + g → j ≤ 512 → SIM (20000 * j) S → ∃ S', f_L_law_L18 n L xs g S (some 0) (some 0) (nI (6 * j)) = some (1, S') := by
  intro g
  induction g with
  | zero => intro j S hg hj; omega
  | succ g ih =>
    intro j S hg hj hS
    have hn1 : 100 ≤ n := by omega
    by_cases hend : Int32.ofNat L - (6 : Int32) < nI (6 * j)
    · refine ⟨S, ?_⟩
      rw [f_L_law_L18, dc_let_q, dc_if_p hend]
    have hin : 6 * j + 6 ≤ L := by
      rw [Int32.lt_iff_toInt_lt, nI_toInt (by omega)] at hend
      have h2 : (Int32.ofNat L - (6 : Int32)).toInt = (L : Int) - 6 := pk_sub_toInt (a := L) (b := 6) (by omega) (by omega)
      rw [h2] at hend
      omega
    have G : ∀ i, i < 6 → ¬ (nI (6 * j + i) < 0 ∨ L ≤ 6 * j + i) := fun i hi => gg rfl (by omega) (by omega)
    have G0 : ¬ (nI (6 * j) < 0 ∨ L ≤ 6 * j) := gg rfl (by omega) (by omega)
    have nx : ∀ S2, SIM (20000 * j + 20000) S2 → ∃ S', f_L_law_L18 n L xs g S2 (some 0) (some 0) (nI (6 * j + 6)) = some (1, S') := by
      intro S2 h2
      have := ih (j + 1) S2 (by omega) (by omega) (SIM_mono h2 (by omega))
      rw [show 6 * (j + 1) = 6 * j + 6 by omega] at this
      exact this
    have nx0 : ∀ S2, SIM (20000 * j) S2 → ∃ S', f_L_law_L18 n L xs g S2 (some 0) (some 0) (nI (6 * j + 6)) = some (1, S') := fun S2 h2 => nx S2 (SIM_mono h2 (by omega))
    rw [f_L_law_L18, dc_let_q, dc_if_n hend]
    rw [show nI (6 * j) + (1 : Int32) = nI (6 * j + 1) from nI_add (6 * j) 1]
    rw [show nI (6 * j) + (2 : Int32) = nI (6 * j + 2) from nI_add (6 * j) 2]
    rw [show nI (6 * j) + (3 : Int32) = nI (6 * j + 3) from nI_add (6 * j) 3]
    rw [show nI (6 * j) + (4 : Int32) = nI (6 * j + 4) from nI_add (6 * j) 4]
    rw [show nI (6 * j) + (5 : Int32) = nI (6 * j + 5) from nI_add (6 * j) 5]
    rw [show nI (6 * j) + (6 : Int32) = nI (6 * j + 6) from nI_add (6 * j) 6]
    rw [ix_c (j := 6 * j) (by omega)]
    rw [ix_c (j := 6 * j + 1) (by omega)]
    rw [ix_c (j := 6 * j + 2) (by omega)]
    rw [ix_c (j := 6 * j + 3) (by omega)]
    rw [ix_c (j := 6 * j + 4) (by omega)]
    rw [ix_c (j := 6 * j + 5) (by omega)]
    rw [dc_gd_n G0, dc_let_q]
    by_cases c0 : (xs (6 * j) &&& 31) = 0
    · rw [dc_if_p c0]
      obtain ⟨v, S1, S2, e9, e10, h2⟩ := op_loader n hn1 hS (xs (6 * j + 1))
      rw [dc_gd_n (G 1 (by omega)), dc_nn_s, e9, dc_bd_s, dc_gd_n (G 1 (by omega)), dc_nn_s, e10, dc_bd_s, dc_if_p rfl]
      exact nx0 S2 h2
    rw [dc_if_n c0]
    by_cases c1 : (xs (6 * j) &&& 31) = 1
    · rw [dc_if_p c1]
      obtain ⟨v, S1, S2, e9, e10, h2⟩ := op_bound n hS (xs (6 * j + 1)) (xs (6 * j + 2))
      rw [dc_gd_n (G 1 (by omega)), dc_gd_n (G 2 (by omega)), dc_nn_s, e9, dc_bd_s, dc_gd_n (G 1 (by omega)), dc_gd_n (G 2 (by omega)), dc_nn_s, e10, dc_bd_s, dc_if_p rfl]
      exact nx0 S2 h2
    rw [dc_if_n c1]
    by_cases c2 : (xs (6 * j) &&& 31) = 2
    · rw [dc_if_p c2]
      by_cases c : xs (6 * j + 5) = 0
      · obtain ⟨v, S1, S2, e9, e10, h2⟩ := op_file n hS (xs (6 * j + 1)) (xs (6 * j + 2)) (xs (6 * j + 3)) (xs (6 * j + 4)) 0 (Or.inl rfl)
        rw [dc_gd_n (G 1 (by omega)), dc_gd_n (G 2 (by omega)), dc_gd_n (G 3 (by omega)), dc_gd_n (G 4 (by omega)), dc_gd_n (G 5 (by omega)), dc_if_p c, dc_nn_s, e9, dc_bd_s, dc_gd_n (G 1 (by omega)), dc_gd_n (G 2 (by omega)), dc_gd_n (G 3 (by omega)), dc_gd_n (G 4 (by omega)), dc_gd_n (G 5 (by omega)), dc_if_p c, dc_nn_s, e10, dc_bd_s, dc_if_p rfl]
        exact nx0 S2 h2
      · obtain ⟨v, S1, S2, e9, e10, h2⟩ := op_file n hS (xs (6 * j + 1)) (xs (6 * j + 2)) (xs (6 * j + 3)) (xs (6 * j + 4)) 1 (Or.inr rfl)
        rw [dc_gd_n (G 1 (by omega)), dc_gd_n (G 2 (by omega)), dc_gd_n (G 3 (by omega)), dc_gd_n (G 4 (by omega)), dc_gd_n (G 5 (by omega)), dc_if_n c, dc_nn_s, e9, dc_bd_s, dc_gd_n (G 1 (by omega)), dc_gd_n (G 2 (by omega)), dc_gd_n (G 3 (by omega)), dc_gd_n (G 4 (by omega)), dc_gd_n (G 5 (by omega)), dc_if_n c, dc_nn_s, e10, dc_bd_s, dc_if_p rfl]
        exact nx0 S2 h2
    rw [dc_if_n c2]
    by_cases c3 : (xs (6 * j) &&& 31) = 3
    · rw [dc_if_p c3]
      obtain ⟨v, S1, S2, e9, e10, h2⟩ := op_method n hS (xs (6 * j + 1)) (xs (6 * j + 2)) (xs (6 * j + 3)) (xs (6 * j + 4)) (xs (6 * j + 5))
      rw [dc_gd_n (G 1 (by omega)), dc_gd_n (G 2 (by omega)), dc_gd_n (G 3 (by omega)), dc_gd_n (G 4 (by omega)), dc_gd_n (G 5 (by omega)), dc_nn_s, e9, dc_bd_s, dc_gd_n (G 1 (by omega)), dc_gd_n (G 2 (by omega)), dc_gd_n (G 3 (by omega)), dc_gd_n (G 4 (by omega)), dc_gd_n (G 5 (by omega)), dc_nn_s, e10, dc_bd_s, dc_if_p rfl]
      exact nx0 S2 h2
    rw [dc_if_n c3]
    by_cases c4 : (xs (6 * j) &&& 31) = 4
    · rw [dc_if_p c4]
      obtain ⟨v, S1, S2, e9, e10, h2⟩ := op_bear n hS (xs (6 * j + 1)) (xs (6 * j + 2))
      rw [dc_gd_n (G 1 (by omega)), dc_gd_n (G 2 (by omega)), dc_nn_s, e9, dc_bd_s, dc_gd_n (G 1 (by omega)), dc_gd_n (G 2 (by omega)), dc_nn_s, e10, dc_bd_s, dc_if_p rfl]
      exact nx0 S2 h2
    rw [dc_if_n c4]
    by_cases c5 : (xs (6 * j) &&& 31) = 5
    · rw [dc_if_p c5]
      obtain ⟨v, S1, S2, e9, e10, h2, h8, h5⟩ := op_load n hn (by omega) hS (xs (6 * j + 1)) (xs (6 * j + 2))
      rw [dc_gd_n (G 1 (by omega)), dc_gd_n (G 2 (by omega)), dc_nn_s, e9, dc_bd_s, dc_gd_n (fun q => q ⟨by omega, by omega⟩), dc_gd_n (G 1 (by omega)), dc_gd_n (G 2 (by omega)), dc_nn_s, e10, dc_bd_s, dc_if_p rfl]
      exact nx S2 h2
    rw [dc_if_n c5]
    by_cases c6 : (xs (6 * j) &&& 31) = 6
    · rw [dc_if_p c6]
      obtain ⟨v, S1, S2, e9, e10, h2, h8, h5⟩ := op_define n hn (by omega) hS (xs (6 * j + 1)) (xs (6 * j + 2))
      rw [dc_gd_n (G 1 (by omega)), dc_gd_n (G 2 (by omega)), dc_nn_s, e9, dc_bd_s, dc_gd_n (fun q => q ⟨by omega, by omega⟩), dc_gd_n (G 1 (by omega)), dc_gd_n (G 2 (by omega)), dc_nn_s, e10, dc_bd_s, dc_if_p rfl]
      exact nx S2 h2
    rw [dc_if_n c6]
    by_cases c7 : (xs (6 * j) &&& 31) = 7
    · rw [dc_if_p c7]
      obtain ⟨v, S1, S2, e9, e10, h2⟩ := op_known n hS (xs (6 * j + 1)) (xs (6 * j + 2))
      rw [dc_gd_n (G 1 (by omega)), dc_gd_n (G 2 (by omega)), dc_nn_s, e9, dc_bd_s, dc_gd_n (G 1 (by omega)), dc_gd_n (G 2 (by omega)), dc_nn_s, e10, dc_bd_s, dc_if_p rfl]
      exact nx0 S2 h2
    rw [dc_if_n c7]
    by_cases c8 : (xs (6 * j) &&& 31) = 8
    · rw [dc_if_p c8]
      obtain ⟨v, S1, S2, e9, e10, h2⟩ := op_agree n hn1 hS (xs (6 * j + 1)) (xs (6 * j + 2)) (xs (6 * j + 3))
      rw [dc_gd_n (G 1 (by omega)), dc_gd_n (G 2 (by omega)), dc_gd_n (G 3 (by omega)), dc_nn_s, e9, dc_bd_s, dc_gd_n (G 1 (by omega)), dc_gd_n (G 2 (by omega)), dc_gd_n (G 3 (by omega)), dc_nn_s, e10, dc_bd_s, dc_if_p rfl]
      exact nx0 S2 h2
    rw [dc_if_n c8]
    by_cases c9 : (xs (6 * j) &&& 31) = 9
    · rw [dc_if_p c9]
      obtain ⟨v, S1, S2, e9, e10, h2⟩ := op_apart n hS (xs (6 * j + 1)) (xs (6 * j + 2))
      rw [dc_gd_n (G 1 (by omega)), dc_gd_n (G 2 (by omega)), dc_nn_s, e9, dc_bd_s, dc_gd_n (G 1 (by omega)), dc_gd_n (G 2 (by omega)), dc_nn_s, e10, dc_bd_s, dc_if_p rfl]
      exact nx0 S2 h2
    rw [dc_if_n c9]
    by_cases c10 : (xs (6 * j) &&& 31) = 10
    · rw [dc_if_p c10]
      obtain ⟨v, S1, S2, e9, e10, h2⟩ := op_start n hn1 hS (xs (6 * j + 1))
      rw [dc_gd_n (G 1 (by omega)), dc_nn_s, e9, dc_bd_s, dc_gd_n (G 1 (by omega)), dc_nn_s, e10, dc_bd_s, dc_if_p rfl]
      exact nx0 S2 h2
    rw [dc_if_n c10]
    by_cases c11 : (xs (6 * j) &&& 31) = 11
    · rw [dc_if_p c11]
      obtain ⟨v, S1, S2, e9, e10, h2⟩ := op_value n hn1 hS (xs (6 * j + 1))
      rw [dc_gd_n (G 1 (by omega)), dc_nn_s, e9, dc_bd_s, dc_gd_n (G 1 (by omega)), dc_nn_s, e10, dc_bd_s, dc_if_p (lg_self v)]
      exact nx0 S2 h2
    rw [dc_if_n c11]
    by_cases c12 : (xs (6 * j) &&& 31) = 12
    · rw [dc_if_p c12]
      obtain ⟨v, S1, S2, e9, e10, h2⟩ := op_make n hn1 hS (xs (6 * j + 1))
      rw [dc_gd_n (G 1 (by omega)), dc_nn_s, e9, dc_bd_s, dc_gd_n (G 1 (by omega)), dc_nn_s, e10, dc_bd_s, dc_if_p rfl]
      exact nx0 S2 h2
    rw [dc_if_n c12]
    by_cases c13 : (xs (6 * j) &&& 31) = 13
    · rw [dc_if_p c13]
      obtain ⟨v, S1, S2, e9, e10, h2⟩ := op_cast n hn1 hS (xs (6 * j + 1)) (xs (6 * j + 2))
      rw [dc_gd_n (G 1 (by omega)), dc_gd_n (G 2 (by omega)), dc_nn_s, e9, dc_bd_s, dc_gd_n (G 1 (by omega)), dc_gd_n (G 2 (by omega)), dc_nn_s, e10, dc_bd_s, dc_if_p rfl]
      exact nx0 S2 h2
    rw [dc_if_n c13]
    by_cases c14 : (xs (6 * j) &&& 31) = 14
    · rw [dc_if_p c14]
      obtain ⟨v, S1, S2, e9, e10, h2⟩ := op_row n hn1 hS (xs (6 * j + 1)) (xs (6 * j + 2))
      rw [dc_gd_n (G 1 (by omega)), dc_gd_n (G 2 (by omega)), dc_nn_s, e9, dc_bd_s, dc_gd_n (G 1 (by omega)), dc_gd_n (G 2 (by omega)), dc_nn_s, e10, dc_bd_s, dc_if_p rfl]
      exact nx0 S2 h2
    rw [dc_if_n c14]
    by_cases c15 : (xs (6 * j) &&& 31) = 15
    · rw [dc_if_p c15]
      obtain ⟨v, S1, S2, e9, e10, h2⟩ := op_put n hn1 hS (xs (6 * j + 1)) (xs (6 * j + 2)) (xs (6 * j + 3))
      rw [dc_gd_n (G 1 (by omega)), dc_gd_n (G 2 (by omega)), dc_gd_n (G 3 (by omega)), dc_nn_s, e9, dc_bd_s, dc_gd_n (G 1 (by omega)), dc_gd_n (G 2 (by omega)), dc_gd_n (G 3 (by omega)), dc_nn_s, e10, dc_bd_s, dc_if_p rfl]
      exact nx0 S2 h2
    rw [dc_if_n c15]
    by_cases c16 : (xs (6 * j) &&& 31) = 16
    · rw [dc_if_p c16]
      obtain ⟨v, S1, S2, e9, e10, h2⟩ := op_get n hS (xs (6 * j + 1)) (xs (6 * j + 2))
      rw [dc_gd_n (G 1 (by omega)), dc_gd_n (G 2 (by omega)), dc_nn_s, e9, dc_bd_s, dc_gd_n (G 1 (by omega)), dc_gd_n (G 2 (by omega)), dc_nn_s, e10, dc_bd_s, dc_if_p rfl]
      exact nx0 S2 h2
    rw [dc_if_n c16]
    by_cases c17 : (xs (6 * j) &&& 31) = 17
    · rw [dc_if_p c17]
      obtain ⟨v, S1, S2, e9, e10, h2⟩ := op_castRow n hn1 hS (xs (6 * j + 1)) (xs (6 * j + 2))
      rw [dc_gd_n (G 1 (by omega)), dc_gd_n (G 2 (by omega)), dc_nn_s, e9, dc_bd_s, dc_gd_n (G 1 (by omega)), dc_gd_n (G 2 (by omega)), dc_nn_s, e10, dc_bd_s, dc_if_p rfl]
      exact nx0 S2 h2
    rw [dc_if_n c17]
    by_cases c18 : (xs (6 * j) &&& 31) = 18
    · rw [dc_if_p c18]
      obtain ⟨v, S1, S2, e9, e10, h2⟩ := op_call n hn1 hS (xs (6 * j + 1)) (xs (6 * j + 2)) (((xs (6 * j + 3)).toInt64 <<< ((32 : Int32).toInt64 &&& 63)) ||| ((xs (6 * j + 4)).toInt64 &&& (4294967295 : Int64)))
      rw [dc_gd_n (G 1 (by omega)), dc_gd_n (G 2 (by omega)), dc_gd_n (G 3 (by omega)), dc_let_q, dc_gd_n (G 4 (by omega)), dc_let_q, dc_nn_s, e9, dc_bd_s, dc_gd_n (G 1 (by omega)), dc_gd_n (G 2 (by omega)), dc_gd_n (G 3 (by omega)), dc_let_q, dc_gd_n (G 4 (by omega)), dc_let_q, dc_nn_s, e10, dc_bd_s, dc_if_p (lg_self v)]
      exact nx0 S2 h2
    rw [dc_if_n c18]
    by_cases c19 : (xs (6 * j) &&& 31) = 19
    · rw [dc_if_p c19]
      obtain ⟨v, S1, S2, e9, e10, h2⟩ := op_about n hS (xs (6 * j + 1)) (xs (6 * j + 2))
      rw [dc_gd_n (G 1 (by omega)), dc_gd_n (G 2 (by omega)), dc_nn_s, e9, dc_bd_s, dc_gd_n (G 1 (by omega)), dc_gd_n (G 2 (by omega)), dc_nn_s, e10, dc_bd_s, dc_if_p rfl]
      exact nx0 S2 h2
    rw [dc_if_n c19]
    by_cases c20 : (xs (6 * j) &&& 31) = 20
    · rw [dc_if_p c20]
      obtain ⟨v, S1, S2, e9, e10, h2⟩ := op_noted n (by omega) hS (xs (6 * j + 1))
      rw [dc_gd_n (G 1 (by omega)), dc_nn_s, e9, dc_bd_s, dc_gd_n (G 1 (by omega)), dc_nn_s, e10, dc_bd_s, dc_if_p rfl]
      exact nx0 S2 h2
    rw [dc_if_n c20]
    by_cases c21 : (xs (6 * j) &&& 31) = 21
    · rw [dc_if_p c21]
      obtain ⟨v, S1, S2, e9, e10, h2⟩ := op_told n hS (xs (6 * j + 1))
      rw [dc_gd_n (G 1 (by omega)), dc_nn_s, e9, dc_bd_s, dc_gd_n (G 1 (by omega)), dc_nn_s, e10, dc_bd_s, dc_if_p rfl]
      exact nx0 S2 h2
    rw [dc_if_n c21]
    exact nx0 S hS
theorem law_pure (L : Nat) (xs : Nat → Int32) (hL : L ≤ 3072) : ∃ (n : Nat) (S' : lh_S), f_L_law n L xs lh_S0 = some (1, S') := by
  obtain ⟨S20, e, hS⟩ := start_SIM 1000001 (by omega)
  obtain ⟨S', e2⟩ := law_loop (n := 1000001) (L := L) (xs := xs) (by omega) hL 600 0 S20 (by omega) (by omega) hS
  exact ⟨1000001, S', (e L xs).trans e2⟩
