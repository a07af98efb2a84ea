def f_X9_init (n : Nat) (S : lh_S) (t : Nat) : Option (Unit × lh_S) :=
  dc_let (pvN S 21 30) fun S1 =>
  dc_let (pvR S1 9 t 0 (some (gvN S 21))) fun S7 =>
  dc_let (pvN S7 3 0) fun S9 =>
  dc_bd (f_X3_init n S9 (gvN S7 3)) fun r15 S16 =>
  dc_let (pvR S16 9 t 2 (some (gvN S7 3))) fun S21 =>
  dc_let (pvN S21 4 0) fun S23 =>
  dc_bd (f_X4_init n S23 (gvN S21 4) (gvR S23 9 t 2)) fun r30 S31 =>
  dc_let (pvR S31 9 t 3 (some (gvN S21 4))) fun S36 =>
  dc_let (pvN S36 22 60) fun S38 =>
  dc_let (pvR S38 9 t 4 (some (gvN S36 22))) fun S44 =>
  dc_let (pvN S44 23 20) fun S46 =>
  dc_let (pvR S46 9 t 6 (some (gvN S44 23))) fun S52 =>
  dc_let (pvN S52 24 40) fun S54 =>
  dc_let (pvR S54 9 t 8 (some (gvN S52 24))) fun S60 =>
  dc_nn (gvR S60 9 t 2) fun x64 =>
  dc_bd (f_X3_add n S60 x64 (none : Option Nat)) fun r65 S66 =>
  dc_let (pvN S66 1 0) fun S73 =>
  dc_bd (f_X1_init n S73 (gvN S66 1) (0 : Int32) (0 : Int32) (0 : Int32) (0 : Int32) (1 : Int32) (0 : Int32)) fun r79 S80 =>
  dc_nn (gvR S80 9 t 0) fun x86 =>
  dc_gd ((0 : Int32) < 0 ∨ gvL S80 21 x86 ≤ ((0 : Int32)).toNatClampNeg) (
  dc_let (pvR S80 21 x86 ((0 : Int32)).toNatClampNeg (some (gvN S66 1))) fun S88 =>
  dc_nn r65 fun x90 =>
  dc_nn (gvR S88 2 x90 3) fun x92 =>
  dc_gd ((0 : Int32) < 0 ∨ gvL S88 12 x92 ≤ ((0 : Int32)).toNatClampNeg) (
  dc_let (pvR S88 12 x92 ((0 : Int32)).toNatClampNeg (some (gvN S66 1))) fun S94 =>
  dc_let (pvN S94 1 0) fun S97 =>
  dc_bd (f_X1_init n S97 (gvN S94 1) (1 : Int32) (1 : Int32) (1 : Int32) (0 : Int32) (1 : Int32) (0 : Int32)) fun r103 S104 =>
  dc_nn (gvR S104 9 t 0) fun x110 =>
  dc_gd ((1 : Int32) < 0 ∨ gvL S104 21 x110 ≤ ((1 : Int32)).toNatClampNeg) (
  dc_let (pvR S104 21 x110 ((1 : Int32)).toNatClampNeg (some (gvN S94 1))) fun S112 =>
  dc_nn (gvR S112 2 x90 3) fun x115 =>
  dc_gd ((1 : Int32) < 0 ∨ gvL S112 12 x115 ≤ ((1 : Int32)).toNatClampNeg) (
  dc_let (pvR S112 12 x115 ((1 : Int32)).toNatClampNeg (some (gvN S94 1))) fun S117 =>
  dc_let (pvN S117 1 0) fun S120 =>
  dc_bd (f_X1_init n S120 (gvN S117 1) (2 : Int32) (2 : Int32) (2 : Int32) (0 : Int32) (1 : Int32) (0 : Int32)) fun r126 S127 =>
  dc_nn (gvR S127 9 t 0) fun x133 =>
  dc_gd ((2 : Int32) < 0 ∨ gvL S127 21 x133 ≤ ((2 : Int32)).toNatClampNeg) (
  dc_let (pvR S127 21 x133 ((2 : Int32)).toNatClampNeg (some (gvN S117 1))) fun S135 =>
  dc_nn (gvR S135 2 x90 3) fun x138 =>
  dc_gd ((2 : Int32) < 0 ∨ gvL S135 12 x138 ≤ ((2 : Int32)).toNatClampNeg) (
  dc_let (pvR S135 12 x138 ((2 : Int32)).toNatClampNeg (some (gvN S117 1))) fun S140 =>
  dc_let (pvN S140 1 0) fun S143 =>
  dc_bd (f_X1_init n S143 (gvN S140 1) (3 : Int32) (3 : Int32) (3 : Int32) (0 : Int32) (1 : Int32) (0 : Int32)) fun r149 S150 =>
  dc_nn (gvR S150 9 t 0) fun x156 =>
  dc_gd ((3 : Int32) < 0 ∨ gvL S150 21 x156 ≤ ((3 : Int32)).toNatClampNeg) (
  dc_let (pvR S150 21 x156 ((3 : Int32)).toNatClampNeg (some (gvN S140 1))) fun S158 =>
  dc_nn (gvR S158 2 x90 3) fun x161 =>
  dc_gd ((3 : Int32) < 0 ∨ gvL S158 12 x161 ≤ ((3 : Int32)).toNatClampNeg) (
  dc_let (pvR S158 12 x161 ((3 : Int32)).toNatClampNeg (some (gvN S140 1))) fun S163 =>
  dc_let (pvN S163 1 0) fun S166 =>
  dc_bd (f_X1_init n S166 (gvN S163 1) (4 : Int32) (4 : Int32) (4 : Int32) (0 : Int32) (1 : Int32) (0 : Int32)) fun r172 S173 =>
  dc_nn (gvR S173 9 t 0) fun x179 =>
  dc_gd ((4 : Int32) < 0 ∨ gvL S173 21 x179 ≤ ((4 : Int32)).toNatClampNeg) (
  dc_let (pvR S173 21 x179 ((4 : Int32)).toNatClampNeg (some (gvN S163 1))) fun S181 =>
  dc_nn (gvR S181 2 x90 3) fun x184 =>
  dc_gd ((4 : Int32) < 0 ∨ gvL S181 12 x184 ≤ ((4 : Int32)).toNatClampNeg) (
  dc_let (pvR S181 12 x184 ((4 : Int32)).toNatClampNeg (some (gvN S163 1))) fun S186 =>
  dc_let (pvI S186 9 t 1 (5 : Int32)) fun S189 =>
  some ((), S189)))))))))))
set_option maxHeartbeats 1000000 in
theorem m_X9_init {n : Nat} {S : lh_S} {t : Nat} {r : Unit} {S' : lh_S} (hf : f_X9_init n S t = some (r, S')) : ∀ b, gvN S b ≤ gvN S' b := by
  have hm : ∀ b, gvN S b ≤ gvN S b := fun _ => Nat.le_refl _
  unfold f_X9_init at hf
  obtain ⟨S1, eS1, hf⟩ := dc_let_ok hf
  have hm := lh_le_trans hm (show ∀ b, gvN S b ≤ gvN S1 b from by rw [eS1]; exact lh_mN)
  obtain ⟨S7, eS7, hf⟩ := dc_let_ok hf
  have hm := lh_le_trans hm (show ∀ b, gvN S1 b ≤ gvN S7 b from by rw [eS7]; exact lh_mR)
  obtain ⟨S9, eS9, hf⟩ := dc_let_ok hf
  have hm := lh_le_trans hm (show ∀ b, gvN S7 b ≤ gvN S9 b from by rw [eS9]; exact lh_mN)
  obtain ⟨r15, S16, k17, hf⟩ := dc_bd_ok hf
  have hm := lh_le_trans hm (show ∀ b, gvN S9 b ≤ gvN S16 b from m_X3_init k17)
  obtain ⟨S21, eS21, hf⟩ := dc_let_ok hf
  have hm := lh_le_trans hm (show ∀ b, gvN S16 b ≤ gvN S21 b from by rw [eS21]; exact lh_mR)
  obtain ⟨S23, eS23, hf⟩ := dc_let_ok hf
  have hm := lh_le_trans hm (show ∀ b, gvN S21 b ≤ gvN S23 b from by rw [eS23]; exact lh_mN)
  obtain ⟨r30, S31, k32, hf⟩ := dc_bd_ok hf
  have hm := lh_le_trans hm (show ∀ b, gvN S23 b ≤ gvN S31 b from m_X4_init k32)
  obtain ⟨S36, eS36, hf⟩ := dc_let_ok hf
  have hm := lh_le_trans hm (show ∀ b, gvN S31 b ≤ gvN S36 b from by rw [eS36]; exact lh_mR)
  obtain ⟨S38, eS38, hf⟩ := dc_let_ok hf
  have hm := lh_le_trans hm (show ∀ b, gvN S36 b ≤ gvN S38 b from by rw [eS38]; exact lh_mN)
  obtain ⟨S44, eS44, hf⟩ := dc_let_ok hf
  have hm := lh_le_trans hm (show ∀ b, gvN S38 b ≤ gvN S44 b from by rw [eS44]; exact lh_mR)
  obtain ⟨S46, eS46, hf⟩ := dc_let_ok hf
  have hm := lh_le_trans hm (show ∀ b, gvN S44 b ≤ gvN S46 b from by rw [eS46]; exact lh_mN)
  obtain ⟨S52, eS52, hf⟩ := dc_let_ok hf
  have hm := lh_le_trans hm (show ∀ b, gvN S46 b ≤ gvN S52 b from by rw [eS52]; exact lh_mR)
  obtain ⟨S54, eS54, hf⟩ := dc_let_ok hf
  have hm := lh_le_trans hm (show ∀ b, gvN S52 b ≤ gvN S54 b from by rw [eS54]; exact lh_mN)
  obtain ⟨S60, eS60, hf⟩ := dc_let_ok hf
  have hm := lh_le_trans hm (show ∀ b, gvN S54 b ≤ gvN S60 b from by rw [eS60]; exact lh_mR)
  obtain ⟨x64, hx64, hf⟩ := dc_nn_ok hf
  obtain ⟨r65, S66, k67, hf⟩ := dc_bd_ok hf
  have hm := lh_le_trans hm (show ∀ b, gvN S60 b ≤ gvN S66 b from m_X3_add k67)
  obtain ⟨S73, eS73, hf⟩ := dc_let_ok hf
  have hm := lh_le_trans hm (show ∀ b, gvN S66 b ≤ gvN S73 b from by rw [eS73]; exact lh_mN)
  obtain ⟨r79, S80, k81, hf⟩ := dc_bd_ok hf
  have hm := lh_le_trans hm (show ∀ b, gvN S73 b ≤ gvN S80 b from m_X1_init k81)
  obtain ⟨x86, hx86, hf⟩ := dc_nn_ok hf
  obtain ⟨g87, hf⟩ := dc_gd_ok hf
  obtain ⟨S88, eS88, hf⟩ := dc_let_ok hf
  have hm := lh_le_trans hm (show ∀ b, gvN S80 b ≤ gvN S88 b from by rw [eS88]; exact lh_mR)
  obtain ⟨x90, hx90, hf⟩ := dc_nn_ok hf
  obtain ⟨x92, hx92, hf⟩ := dc_nn_ok hf
  obtain ⟨g93, hf⟩ := dc_gd_ok hf
  obtain ⟨S94, eS94, hf⟩ := dc_let_ok hf
  have hm := lh_le_trans hm (show ∀ b, gvN S88 b ≤ gvN S94 b from by rw [eS94]; exact lh_mR)
  obtain ⟨S97, eS97, hf⟩ := dc_let_ok hf
  have hm := lh_le_trans hm (show ∀ b, gvN S94 b ≤ gvN S97 b from by rw [eS97]; exact lh_mN)
  obtain ⟨r103, S104, k105, hf⟩ := dc_bd_ok hf
  have hm := lh_le_trans hm (show ∀ b, gvN S97 b ≤ gvN S104 b from m_X1_init k105)
  obtain ⟨x110, hx110, hf⟩ := dc_nn_ok hf
  obtain ⟨g111, hf⟩ := dc_gd_ok hf
  obtain ⟨S112, eS112, hf⟩ := dc_let_ok hf
  have hm := lh_le_trans hm (show ∀ b, gvN S104 b ≤ gvN S112 b from by rw [eS112]; exact lh_mR)
  obtain ⟨x115, hx115, hf⟩ := dc_nn_ok hf
  obtain ⟨g116, hf⟩ := dc_gd_ok hf
  obtain ⟨S117, eS117, hf⟩ := dc_let_ok hf
  have hm := lh_le_trans hm (show ∀ b, gvN S112 b ≤ gvN S117 b from by rw [eS117]; exact lh_mR)
  obtain ⟨S120, eS120, hf⟩ := dc_let_ok hf
  have hm := lh_le_trans hm (show ∀ b, gvN S117 b ≤ gvN S120 b from by rw [eS120]; exact lh_mN)
  obtain ⟨r126, S127, k128, hf⟩ := dc_bd_ok hf
  have hm := lh_le_trans hm (show ∀ b, gvN S120 b ≤ gvN S127 b from m_X1_init k128)
  obtain ⟨x133, hx133, hf⟩ := dc_nn_ok hf
  obtain ⟨g134, hf⟩ := dc_gd_ok hf
  obtain ⟨S135, eS135, hf⟩ := dc_let_ok hf
  have hm := lh_le_trans hm (show ∀ b, gvN S127 b ≤ gvN S135 b from by rw [eS135]; exact lh_mR)
  obtain ⟨x138, hx138, hf⟩ := dc_nn_ok hf
  obtain ⟨g139, hf⟩ := dc_gd_ok hf
  obtain ⟨S140, eS140, hf⟩ := dc_let_ok hf
  have hm := lh_le_trans hm (show ∀ b, gvN S135 b ≤ gvN S140 b from by rw [eS140]; exact lh_mR)
  obtain ⟨S143, eS143, hf⟩ := dc_let_ok hf
  have hm := lh_le_trans hm (show ∀ b, gvN S140 b ≤ gvN S143 b from by rw [eS143]; exact lh_mN)
  obtain ⟨r149, S150, k151, hf⟩ := dc_bd_ok hf
  have hm := lh_le_trans hm (show ∀ b, gvN S143 b ≤ gvN S150 b from m_X1_init k151)
  obtain ⟨x156, hx156, hf⟩ := dc_nn_ok hf
  obtain ⟨g157, hf⟩ := dc_gd_ok hf
  obtain ⟨S158, eS158, hf⟩ := dc_let_ok hf
  have hm := lh_le_trans hm (show ∀ b, gvN S150 b ≤ gvN S158 b from by rw [eS158]; exact lh_mR)
  obtain ⟨x161, hx161, hf⟩ := dc_nn_ok hf
  obtain ⟨g162, hf⟩ := dc_gd_ok hf
  obtain ⟨S163, eS163, hf⟩ := dc_let_ok hf
  have hm := lh_le_trans hm (show ∀ b, gvN S158 b ≤ gvN S163 b from by rw [eS163]; exact lh_mR)
  obtain ⟨S166, eS166, hf⟩ := dc_let_ok hf
  have hm := lh_le_trans hm (show ∀ b, gvN S163 b ≤ gvN S166 b from by rw [eS166]; exact lh_mN)
  obtain ⟨r172, S173, k174, hf⟩ := dc_bd_ok hf
  have hm := lh_le_trans hm (show ∀ b, gvN S166 b ≤ gvN S173 b from m_X1_init k174)
  obtain ⟨x179, hx179, hf⟩ := dc_nn_ok hf
  obtain ⟨g180, hf⟩ := dc_gd_ok hf
  obtain ⟨S181, eS181, hf⟩ := dc_let_ok hf
  have hm := lh_le_trans hm (show ∀ b, gvN S173 b ≤ gvN S181 b from by rw [eS181]; exact lh_mR)
  obtain ⟨x184, hx184, hf⟩ := dc_nn_ok hf
  obtain ⟨g185, hf⟩ := dc_gd_ok hf
  obtain ⟨S186, eS186, hf⟩ := dc_let_ok hf
  have hm := lh_le_trans hm (show ∀ b, gvN S181 b ≤ gvN S186 b from by rw [eS186]; exact lh_mR)
  obtain ⟨S189, eS189, hf⟩ := dc_let_ok hf
  have hm := lh_le_trans hm (show ∀ b, gvN S186 b ≤ gvN S189 b from by rw [eS189]; exact lh_mI)
  obtain ⟨_, rfl⟩ := dc_ret hf
  exact hm
set_option maxHeartbeats 1000000 in
theorem k_X9_init {n : Nat} {S : lh_S} {t : Nat} {r : Unit} {S' : lh_S} (hf : f_X9_init n S t = some (r, S')) : lh_sm9 S S' := by
  have hm : lh_sm9 S S := lh_sm9_rf
  unfold f_X9_init at hf
  obtain ⟨S1, eS1, hf⟩ := dc_let_ok hf
  have hm := lh_sm9_trans hm (show lh_sm9 S S1 from by rw [eS1]; exact (lh_sm9N (by decide)))
  obtain ⟨S7, eS7, hf⟩ := dc_let_ok hf
  have hm := lh_sm9_trans hm (show lh_sm9 S1 S7 from by rw [eS7]; exact (lh_sm9R (by decide)))
  obtain ⟨S9, eS9, hf⟩ := dc_let_ok hf
  have hm := lh_sm9_trans hm (show lh_sm9 S7 S9 from by rw [eS9]; exact (lh_sm9N (by decide)))
  obtain ⟨r15, S16, k17, hf⟩ := dc_bd_ok hf
  have hm := lh_sm9_trans hm (show lh_sm9 S9 S16 from k_X3_init k17)
  obtain ⟨S21, eS21, hf⟩ := dc_let_ok hf
  have hm := lh_sm9_trans hm (show lh_sm9 S16 S21 from by rw [eS21]; exact (lh_sm9R (by decide)))
  obtain ⟨S23, eS23, hf⟩ := dc_let_ok hf
  have hm := lh_sm9_trans hm (show lh_sm9 S21 S23 from by rw [eS23]; exact (lh_sm9N (by decide)))
  obtain ⟨r30, S31, k32, hf⟩ := dc_bd_ok hf
  have hm := lh_sm9_trans hm (show lh_sm9 S23 S31 from k_X4_init k32)
  obtain ⟨S36, eS36, hf⟩ := dc_let_ok hf
  have hm := lh_sm9_trans hm (show lh_sm9 S31 S36 from by rw [eS36]; exact (lh_sm9R (by decide)))
  obtain ⟨S38, eS38, hf⟩ := dc_let_ok hf
  have hm := lh_sm9_trans hm (show lh_sm9 S36 S38 from by rw [eS38]; exact (lh_sm9N (by decide)))
  obtain ⟨S44, eS44, hf⟩ := dc_let_ok hf
  have hm := lh_sm9_trans hm (show lh_sm9 S38 S44 from by rw [eS44]; exact (lh_sm9R (by decide)))
  obtain ⟨S46, eS46, hf⟩ := dc_let_ok hf
  have hm := lh_sm9_trans hm (show lh_sm9 S44 S46 from by rw [eS46]; exact (lh_sm9N (by decide)))
  obtain ⟨S52, eS52, hf⟩ := dc_let_ok hf
  have hm := lh_sm9_trans hm (show lh_sm9 S46 S52 from by rw [eS52]; exact (lh_sm9R (by decide)))
  obtain ⟨S54, eS54, hf⟩ := dc_let_ok hf
  have hm := lh_sm9_trans hm (show lh_sm9 S52 S54 from by rw [eS54]; exact (lh_sm9N (by decide)))
  obtain ⟨S60, eS60, hf⟩ := dc_let_ok hf
  have hm := lh_sm9_trans hm (show lh_sm9 S54 S60 from by rw [eS60]; exact (lh_sm9R (by decide)))
  obtain ⟨x64, hx64, hf⟩ := dc_nn_ok hf
  obtain ⟨r65, S66, k67, hf⟩ := dc_bd_ok hf
  have hm := lh_sm9_trans hm (show lh_sm9 S60 S66 from k_X3_add k67)
  obtain ⟨S73, eS73, hf⟩ := dc_let_ok hf
  have hm := lh_sm9_trans hm (show lh_sm9 S66 S73 from by rw [eS73]; exact (lh_sm9N (by decide)))
  obtain ⟨r79, S80, k81, hf⟩ := dc_bd_ok hf
  have hm := lh_sm9_trans hm (show lh_sm9 S73 S80 from k_X1_init k81)
  obtain ⟨x86, hx86, hf⟩ := dc_nn_ok hf
  obtain ⟨g87, hf⟩ := dc_gd_ok hf
  obtain ⟨S88, eS88, hf⟩ := dc_let_ok hf
  have hm := lh_sm9_trans hm (show lh_sm9 S80 S88 from by rw [eS88]; exact (lh_sm9R (by decide)))
  obtain ⟨x90, hx90, hf⟩ := dc_nn_ok hf
  obtain ⟨x92, hx92, hf⟩ := dc_nn_ok hf
  obtain ⟨g93, hf⟩ := dc_gd_ok hf
  obtain ⟨S94, eS94, hf⟩ := dc_let_ok hf
  have hm := lh_sm9_trans hm (show lh_sm9 S88 S94 from by rw [eS94]; exact (lh_sm9R (by decide)))
  obtain ⟨S97, eS97, hf⟩ := dc_let_ok hf
  have hm := lh_sm9_trans hm (show lh_sm9 S94 S97 from by rw [eS97]; exact (lh_sm9N (by decide)))
  obtain ⟨r103, S104, k105, hf⟩ := dc_bd_ok hf
  have hm := lh_sm9_trans hm (show lh_sm9 S97 S104 from k_X1_init k105)
  obtain ⟨x110, hx110, hf⟩ := dc_nn_ok hf
  obtain ⟨g111, hf⟩ := dc_gd_ok hf
  obtain ⟨S112, eS112, hf⟩ := dc_let_ok hf
  have hm := lh_sm9_trans hm (show lh_sm9 S104 S112 from by rw [eS112]; exact (lh_sm9R (by decide)))
  obtain ⟨x115, hx115, hf⟩ := dc_nn_ok hf
  obtain ⟨g116, hf⟩ := dc_gd_ok hf
  obtain ⟨S117, eS117, hf⟩ := dc_let_ok hf
  have hm := lh_sm9_trans hm (show lh_sm9 S112 S117 from by rw [eS117]; exact (lh_sm9R (by decide)))
  obtain ⟨S120, eS120, hf⟩ := dc_let_ok hf
  have hm := lh_sm9_trans hm (show lh_sm9 S117 S120 from by rw [eS120]; exact (lh_sm9N (by decide)))
  obtain ⟨r126, S127, k128, hf⟩ := dc_bd_ok hf
  have hm := lh_sm9_trans hm (show lh_sm9 S120 S127 from k_X1_init k128)
  obtain ⟨x133, hx133, hf⟩ := dc_nn_ok hf
  obtain ⟨g134, hf⟩ := dc_gd_ok hf
  obtain ⟨S135, eS135, hf⟩ := dc_let_ok hf
  have hm := lh_sm9_trans hm (show lh_sm9 S127 S135 from by rw [eS135]; exact (lh_sm9R (by decide)))
  obtain ⟨x138, hx138, hf⟩ := dc_nn_ok hf
  obtain ⟨g139, hf⟩ := dc_gd_ok hf
  obtain ⟨S140, eS140, hf⟩ := dc_let_ok hf
  have hm := lh_sm9_trans hm (show lh_sm9 S135 S140 from by rw [eS140]; exact (lh_sm9R (by decide)))
  obtain ⟨S143, eS143, hf⟩ := dc_let_ok hf
  have hm := lh_sm9_trans hm (show lh_sm9 S140 S143 from by rw [eS143]; exact (lh_sm9N (by decide)))
  obtain ⟨r149, S150, k151, hf⟩ := dc_bd_ok hf
  have hm := lh_sm9_trans hm (show lh_sm9 S143 S150 from k_X1_init k151)
  obtain ⟨x156, hx156, hf⟩ := dc_nn_ok hf
  obtain ⟨g157, hf⟩ := dc_gd_ok hf
  obtain ⟨S158, eS158, hf⟩ := dc_let_ok hf
  have hm := lh_sm9_trans hm (show lh_sm9 S150 S158 from by rw [eS158]; exact (lh_sm9R (by decide)))
  obtain ⟨x161, hx161, hf⟩ := dc_nn_ok hf
  obtain ⟨g162, hf⟩ := dc_gd_ok hf
  obtain ⟨S163, eS163, hf⟩ := dc_let_ok hf
  have hm := lh_sm9_trans hm (show lh_sm9 S158 S163 from by rw [eS163]; exact (lh_sm9R (by decide)))
  obtain ⟨S166, eS166, hf⟩ := dc_let_ok hf
  have hm := lh_sm9_trans hm (show lh_sm9 S163 S166 from by rw [eS166]; exact (lh_sm9N (by decide)))
  obtain ⟨r172, S173, k174, hf⟩ := dc_bd_ok hf
  have hm := lh_sm9_trans hm (show lh_sm9 S166 S173 from k_X1_init k174)
  obtain ⟨x179, hx179, hf⟩ := dc_nn_ok hf
  obtain ⟨g180, hf⟩ := dc_gd_ok hf
  obtain ⟨S181, eS181, hf⟩ := dc_let_ok hf
  have hm := lh_sm9_trans hm (show lh_sm9 S173 S181 from by rw [eS181]; exact (lh_sm9R (by decide)))
  obtain ⟨x184, hx184, hf⟩ := dc_nn_ok hf
  obtain ⟨g185, hf⟩ := dc_gd_ok hf
  obtain ⟨S186, eS186, hf⟩ := dc_let_ok hf
  have hm := lh_sm9_trans hm (show lh_sm9 S181 S186 from by rw [eS186]; exact (lh_sm9R (by decide)))
  obtain ⟨S189, eS189, hf⟩ := dc_let_ok hf
  have hm := lh_sm9_trans hm (show lh_sm9 S186 S189 from by rw [eS189]; exact (lh_sm9I (by decide)))
  obtain ⟨_, rfl⟩ := dc_ret hf
  exact hm
set_option maxHeartbeats 4000000 in
set_option maxRecDepth 100000 in
theorem c_X9_init (l : Launch) (D : va_G) (cT : Nat → ClassId) (n : Nat) (S : lh_S) (ad : Nat → Nat → Nat) (A : Nat → Prop) (sz : Nat) (hA : ∀ q, sz ≤ q → A q) (t : Nat) (r : Unit) (S' : lh_S) (hf : f_X9_init n S t = some (r, S')) (L_t : ∀ j, some t = some j → j < gvN S 9) : Met l yX9_init wsX9_init ({ frames := 3, cells := 26, slots := 783, locals := 65 } : Room) (lh_P D cT S ad A sz [lh_r ad 9 (some t)]) (lh_QA D cT S S' ad A ((∀ b, gvN S b ≤ gvN S' b) ∧ True) (fun ad9 => none)) 26 783 A := by
  refine Met.ofW (cc := cX9_init) (maxL := 4) (ret := none) (by decide) rfl ?_
  intro p e s m args below meth c s₁ B hml hv
  obtain ⟨hargs, hsz, hW, hK, hN⟩ := hv
  have hx := B.exec
  have hb := B.bytes
  have hr := B.returns
  have hts := atoms_spec (ws := wsX9_init) B.pre
  have hown : s.vm.findClass RX9 = some m.cls := findClass_of_methodNamed B.named
  have hlocks := B.notSynchronized
  have hin : meth.name = "<init>" := (name_of_methodNamed B.named B.method).1
  have hA : ∀ q, s.heap.size ≤ q → A q := fun q h => hA q (by rw [← hsz]; exact h)
  have ok := lh_W_ok hW
  have hm : ∀ b, gvN S b ≤ gvN S b := fun _ => Nat.le_refl _
  have hE : lh_E S ad ad := lh_E.rf
  obtain ⟨ls, hent, hl⟩ := lh_entry m args [lh_r ad 9 (some t)] 4 [(0, lh_r ad 9 (some t))] hargs (by simp [lv_args, lh_cat_r, lh_cat_i, lh_cat_j]) (by simp [lg_sl, lh_cat_r, lh_cat_i, lh_cat_j])
  rw [hent]
  generalize hH : s.heap = H at hW ⊢
  have hS : va_S A s.heap H [] := by rw [← hH]; exact va_S.rf
  unfold f_X9_init at hf
  refine lh_aload_n hx hb dX9_init_0 rfl (lv_at hl 0 rfl) ?_
  refine W.objInit hx hb hown (hts (.methodLink RX9 3 objectInit) (List.mem_cons_of_mem _ (List.mem_append_left _ (List.mem_append_left _ (List.mem_append_left _ (List.mem_append_left _ (List.mem_append_left _ (List.mem_append_left _ (List.mem_append_left _ (List.mem_of_getElem? (i := 0) rfl)))))))))) (hts (.instanceMethod objectInit) (List.mem_cons_of_mem _ (List.mem_append_left _ (List.mem_append_left _ (List.mem_append_left _ (List.mem_append_left _ (List.mem_append_left _ (List.mem_append_left _ (List.mem_append_left _ (List.mem_of_getElem? (i := 1) rfl)))))))))) (hts (.code objectInit ⟨#[0xb1]⟩ 1 none) (List.mem_cons_of_mem _ (List.mem_append_left _ (List.mem_append_left _ (List.mem_append_left _ (List.mem_append_left _ (List.mem_append_left _ (List.mem_append_left _ (List.mem_append_left _ (List.mem_of_getElem? (i := 2) rfl)))))))))) rfl (by rw [hml]; exact hl.1) rfl dX9_init_1 (Nat.le_of_ble_eq_true rfl) (Nat.le_of_ble_eq_true rfl) ?_
  refine W.eq (g2 := F0 m 4 ls []) rfl ?_
  refine lh_aload_n hx hb dX9_init_4 rfl (lv_at hl 0 rfl) ?_
  refine lv_bipush (v := 30) hx hb dX9_init_5 (by decide) ?_
  obtain ⟨S1, eS1, hf⟩ := dc_let_ok hf
  refine lh_newq (n := (30 : Int32)) (a := 21) (t0 := 4) (t := 1) (N' := 30) (C := RX1) hx hb hown (hts (.classLink RX9 11 RX1) (List.mem_cons_of_mem _ (List.mem_append_left _ (List.mem_append_left _ (List.mem_append_left _ (List.mem_append_left _ (List.mem_append_left _ (List.mem_append_left _ (List.mem_append_left _ (List.mem_of_getElem? (i := 3) rfl)))))))))) hN.2.2.2.2.2.1 hK hW hS hA rfl rfl rfl (by decide +kernel) (by decide +kernel) (by decide +kernel) (Nat.le_of_ble_eq_true rfl) (Nat.le_of_ble_eq_true rfl) dX9_init_7 (fun ad2 H hE3 hW hS => ?_)
  rw [lh_rE hE3 L_t] at hl
  rw [lh_rE hE3 L_t]
  have hE : lh_E S ad ad2 := lh_E.trans hE hm hE3
  rw [← eS1] at hW
  have m4 : ∀ b, gvN S b ≤ gvN S1 b := by rw [eS1]; exact lh_mN
  have L_t : ∀ j, some t = some j → j < gvN S1 9 := fun j h => Nat.lt_of_lt_of_le (L_t j h) (m4 _)
  have hm : ∀ b, gvN S b ≤ gvN S1 b := lh_le_trans hm m4
  have ok := lh_W_ok hW
  have L5 : ∀ j, some (gvN S 21) = some j → j < gvN S1 21 := lh_ls (by rw [eS1]; exact lh_nN)
  obtain ⟨S7, eS7, hf⟩ := dc_let_ok hf
  refine lh_put (S' := S7) (a := 9) (k := 0) (N := 10) (C := RX9) (T := TX9) (own := RX9) (ref := "LoaderModels") (ty := .array (.object "LoaderModels$ClassFile")) hx hb hts (fun _ h => (List.mem_cons_of_mem _ (List.mem_append_left _ (List.mem_append_left _ (List.mem_append_left _ (List.mem_append_left _ (List.mem_append_left _ (List.mem_append_right _ h)))))))) tyX9 tyX9_ok nmX9 hown hK hW hS rfl (L_t _ rfl) rfl rfl rfl (by decide) (hts (.fieldLink RX9 13 "LoaderModels" "files" "[LLoaderModels$ClassFile;") (List.mem_cons_of_mem _ (List.mem_append_left _ (List.mem_append_left _ (List.mem_append_left _ (List.mem_append_left _ (List.mem_append_left _ (List.mem_append_left _ (List.mem_append_left _ (List.mem_of_getElem? (i := 4) rfl)))))))))) (fun _ h9 => h9) (Or.inr ⟨rfl, hin, rfl⟩) (by decide +kernel) lh_nar_a lh_fit_a (fun q9 => by rw [eS7]; exact lh_chR rfl L5 q9) dX9_init_10 (fun H locs hW hS => ?_)
  have m8 : ∀ b, gvN S1 b ≤ gvN S7 b := by rw [eS7]; exact lh_mR
  have L_t : ∀ j, some t = some j → j < gvN S7 9 := fun j h => Nat.lt_of_lt_of_le (L_t j h) (m8 _)
  have hm : ∀ b, gvN S b ≤ gvN S7 b := lh_le_trans hm m8
  have ok := lh_W_ok hW
  refine lh_aload_n hx hb dX9_init_13 rfl (lv_at hl 0 rfl) ?_
  obtain ⟨S9, eS9, hf⟩ := dc_let_ok hf
  refine lh_new (a := 3) (N := 2) (C := RX3) (T := TX3) (own := RX9) hx hb hts (fun _ h => (List.mem_cons_of_mem _ (List.mem_append_left _ (List.mem_append_left _ (List.mem_append_left _ (List.mem_append_left _ (List.mem_append_right _ h))))))) tyX3 tyX3_ok hown (hts (.classLink RX9 17 RX3) (List.mem_cons_of_mem _ (List.mem_append_left _ (List.mem_append_left _ (List.mem_append_left _ (List.mem_append_left _ (List.mem_append_left _ (List.mem_append_left _ (List.mem_append_left _ (List.mem_of_getElem? (i := 5) rfl)))))))))) (hts (.instantiable RX3 2) (List.mem_cons_of_mem _ (List.mem_append_left _ (List.mem_append_left _ (List.mem_append_left _ (List.mem_append_left _ (List.mem_append_left _ (List.mem_append_left _ (List.mem_append_left _ (List.mem_of_getElem? (i := 6) rfl)))))))))) (hts (.initialized RX3) (List.mem_cons_of_mem _ (List.mem_append_left _ (List.mem_append_left _ (List.mem_append_left _ (List.mem_append_left _ (List.mem_append_left _ (List.mem_append_left _ (List.mem_append_left _ (List.mem_of_getElem? (i := 7) rfl)))))))))) hK hW hS hA rfl rfl rfl (by decide +kernel) (Nat.le_of_ble_eq_true rfl) (Nat.le_of_ble_eq_true rfl) dX9_init_14 (fun ad10 H hE11 hW hS => ?_)
  rw [lh_rE hE11 L_t] at hl
  rw [lh_rE hE11 L_t]
  have hE : lh_E S ad ad10 := lh_E.trans hE hm hE11
  rw [← eS9] at hW
  have m12 : ∀ b, gvN S7 b ≤ gvN S9 b := by rw [eS9]; exact lh_mN
  have L_t : ∀ j, some t = some j → j < gvN S9 9 := fun j h => Nat.lt_of_lt_of_le (L_t j h) (m12 _)
  have hm : ∀ b, gvN S b ≤ gvN S9 b := lh_le_trans hm m12
  have ok := lh_W_ok hW
  have L13 : ∀ j, some (gvN S7 3) = some j → j < gvN S9 3 := lh_ls (by rw [eS9]; exact lh_nN)
  refine lv_dup hx hb dX9_init_17 lh_cat_r ?_
  obtain ⟨r15, S16, k17, hf⟩ := dc_bd_ok hf
  refine lh_callA (S' := S16) (lh_rin ⟨hx, hb, hml, hown, hts⟩ rfl (As := []) (rest := [lh_r ad10 3 (some (gvN S7 3)), lh_r ad10 9 (some t)]) (k := 3) (c_X3_init l D cT n S9 ad10 A H.size (fun q9 h9 => hA q9 (Nat.le_trans hS.1 h9)) (gvN S7 3) r15 S16 k17 L13) ⟨va_cnB 0 hts gX9_init_X3_init_n19 rfl rfl rfl hN.1 (hts (.initialized RX3) (List.mem_cons_of_mem _ (List.mem_append_left _ (List.mem_append_left _ (List.mem_append_left _ (List.mem_append_left _ (List.mem_append_left _ (List.mem_append_left _ (List.mem_append_left _ (List.mem_of_getElem? (i := 7) rfl)))))))))) (by decide +kernel) ⟨Nat.le_of_ble_eq_true rfl, Nat.le_of_ble_eq_true rfl⟩, rfl, (hts (.instanceMethod yX3_init) (List.mem_cons_of_mem _ (List.mem_append_left _ (List.mem_append_left _ (List.mem_append_left _ (List.mem_append_left _ (List.mem_append_left _ (List.mem_append_left _ (List.mem_append_left _ (List.mem_of_getElem? (i := 22) rfl))))))))))⟩ hK hN hW rfl hl.1 rfl (by simp [lh_cat_r, lh_cat_i, lh_cat_j]) dX9_init_18 ⟨Nat.le_of_ble_eq_true rfl, Nat.le_of_ble_eq_true rfl⟩) hS (fun ad18 H locs hE19 hX hW hS => ?_)
  refine W.widen (k := 3) (n := 40) (by omega) (by omega) ?_
  show W _ _ _ _ _ _ _ _ _ _ _ _ _ _ _ (F0 m 21 ls [lh_r ad10 3 (some (gvN S7 3)), lh_r ad10 9 (some t)])
  rw [lh_rE hE19 L_t] at hl
  rw [lh_rE hE19 L13]
  rw [lh_rE hE19 L_t]
  have hE : lh_E S ad ad18 := lh_E.trans hE hm hE19
  have m20 : ∀ b, gvN S9 b ≤ gvN S16 b := hX.1
  have L_t : ∀ j, some t = some j → j < gvN S16 9 := fun j h => Nat.lt_of_lt_of_le (L_t j h) (m20 _)
  have L13 : ∀ j, some (gvN S7 3) = some j → j < gvN S16 3 := fun j h => Nat.lt_of_lt_of_le (L13 j h) (m20 _)
  have hm : ∀ b, gvN S b ≤ gvN S16 b := lh_le_trans hm m20
  have ok := lh_W_ok hW
  obtain ⟨S21, eS21, hf⟩ := dc_let_ok hf
  refine lh_put (S' := S21) (a := 9) (k := 2) (N := 10) (C := RX9) (T := TX9) (own := RX9) (ref := "LoaderModels") (ty := .object "LoaderModels$Loaders") hx hb hts (fun _ h => (List.mem_cons_of_mem _ (List.mem_append_left _ (List.mem_append_left _ (List.mem_append_left _ (List.mem_append_left _ (List.mem_append_left _ (List.mem_append_right _ h)))))))) tyX9 tyX9_ok nmX9 hown hK hW hS rfl (L_t _ rfl) rfl rfl rfl (by decide) (hts (.fieldLink RX9 20 "LoaderModels" "loaders" "LLoaderModels$Loaders;") (List.mem_cons_of_mem _ (List.mem_append_left _ (List.mem_append_left _ (List.mem_append_left _ (List.mem_append_left _ (List.mem_append_left _ (List.mem_append_left _ (List.mem_append_left _ (List.mem_of_getElem? (i := 8) rfl)))))))))) (fun _ h9 => h9) (Or.inr ⟨rfl, hin, rfl⟩) (by decide +kernel) lh_nar_r lh_fit_r (fun q9 => by rw [eS21]; exact lh_chR rfl L13 q9) dX9_init_21 (fun H locs hW hS => ?_)
  have m22 : ∀ b, gvN S16 b ≤ gvN S21 b := by rw [eS21]; exact lh_mR
  have L_t : ∀ j, some t = some j → j < gvN S21 9 := fun j h => Nat.lt_of_lt_of_le (L_t j h) (m22 _)
  have hm : ∀ b, gvN S b ≤ gvN S21 b := lh_le_trans hm m22
  have ok := lh_W_ok hW
  refine lh_aload_n hx hb dX9_init_24 rfl (lv_at hl 0 rfl) ?_
  obtain ⟨S23, eS23, hf⟩ := dc_let_ok hf
  refine lh_new (a := 4) (N := 6) (C := RX4) (T := TX4) (own := RX9) hx hb hts (fun _ h => (List.mem_cons_of_mem _ (List.mem_append_left _ (List.mem_append_left _ (List.mem_append_left _ (List.mem_append_right _ h)))))) tyX4 tyX4_ok hown (hts (.classLink RX9 24 RX4) (List.mem_cons_of_mem _ (List.mem_append_left _ (List.mem_append_left _ (List.mem_append_left _ (List.mem_append_left _ (List.mem_append_left _ (List.mem_append_left _ (List.mem_append_left _ (List.mem_of_getElem? (i := 9) rfl)))))))))) (hts (.instantiable RX4 6) (List.mem_cons_of_mem _ (List.mem_append_left _ (List.mem_append_left _ (List.mem_append_left _ (List.mem_append_left _ (List.mem_append_left _ (List.mem_append_left _ (List.mem_append_left _ (List.mem_of_getElem? (i := 10) rfl)))))))))) (hts (.initialized RX4) (List.mem_cons_of_mem _ (List.mem_append_left _ (List.mem_append_left _ (List.mem_append_left _ (List.mem_append_left _ (List.mem_append_left _ (List.mem_append_left _ (List.mem_append_left _ (List.mem_of_getElem? (i := 11) rfl)))))))))) hK hW hS hA rfl rfl rfl (by decide +kernel) (Nat.le_of_ble_eq_true rfl) (Nat.le_of_ble_eq_true rfl) dX9_init_25 (fun ad24 H hE25 hW hS => ?_)
  rw [lh_rE hE25 L_t] at hl
  rw [lh_rE hE25 L_t]
  have hE : lh_E S ad ad24 := lh_E.trans hE hm hE25
  rw [← eS23] at hW
  have m26 : ∀ b, gvN S21 b ≤ gvN S23 b := by rw [eS23]; exact lh_mN
  have L_t : ∀ j, some t = some j → j < gvN S23 9 := fun j h => Nat.lt_of_lt_of_le (L_t j h) (m26 _)
  have hm : ∀ b, gvN S b ≤ gvN S23 b := lh_le_trans hm m26
  have ok := lh_W_ok hW
  have L27 : ∀ j, some (gvN S21 4) = some j → j < gvN S23 4 := lh_ls (by rw [eS23]; exact lh_nN)
  refine lv_dup hx hb dX9_init_28 lh_cat_r ?_
  refine lh_aload_n hx hb dX9_init_29 rfl (lv_at hl 0 rfl) ?_
  have L29 : ∀ j, gvR S23 9 t 2 = some j → j < gvN S23 3 := fun j h => ok _ _ _ _ j (L_t _ rfl) rfl h
  refine lh_get (a := 9) (k := 2) (N := 10) (C := RX9) (T := TX9) (own := RX9) (ref := "LoaderModels") hx hb hts (fun _ h => (List.mem_cons_of_mem _ (List.mem_append_left _ (List.mem_append_left _ (List.mem_append_left _ (List.mem_append_left _ (List.mem_append_left _ (List.mem_append_right _ h)))))))) hown hK hW rfl (L_t _ rfl) rfl rfl rfl (by decide) (hts (.fieldLink RX9 20 "LoaderModels" "loaders" "LLoaderModels$Loaders;") (List.mem_cons_of_mem _ (List.mem_append_left _ (List.mem_append_left _ (List.mem_append_left _ (List.mem_append_left _ (List.mem_append_left _ (List.mem_append_left _ (List.mem_append_left _ (List.mem_of_getElem? (i := 8) rfl)))))))))) (fun _ h9 => h9) dX9_init_30 (v := lh_r ad24 3 (gvR S23 9 t 2)) rfl ?_
  obtain ⟨r30, S31, k32, hf⟩ := dc_bd_ok hf
  refine lh_callA (S' := S31) (lh_ri ⟨hx, hb, hml, hown, hts⟩ rfl (As := [lh_r ad24 3 (gvR S23 9 t 2)]) (rest := [lh_r ad24 4 (some (gvN S21 4)), lh_r ad24 9 (some t)]) (k := 4) (c_X4_init l D cT n S23 ad24 A H.size (fun q9 h9 => hA q9 (Nat.le_trans hS.1 h9)) (gvN S21 4) (gvR S23 9 t 2) r30 S31 k32 L27 L29) (cwI 1 hts gX9_init_X4_init rfl rfl rfl (hts (.initialized RX4) (List.mem_cons_of_mem _ (List.mem_append_left _ (List.mem_append_left _ (List.mem_append_left _ (List.mem_append_left _ (List.mem_append_left _ (List.mem_append_left _ (List.mem_append_left _ (List.mem_of_getElem? (i := 11) rfl)))))))))) (hts (.methodLink RX9 26 yX4_init) (List.mem_cons_of_mem _ (List.mem_append_left _ (List.mem_append_left _ (List.mem_append_left _ (List.mem_append_left _ (List.mem_append_left _ (List.mem_append_left _ (List.mem_append_right _ (List.mem_append_left _ (List.mem_of_getElem? (i := 3) rfl))))))))))) (hts (.instanceMethod yX4_init) (List.mem_cons_of_mem _ (List.mem_append_left _ (List.mem_append_left _ (List.mem_append_left _ (List.mem_append_left _ (List.mem_append_left _ (List.mem_append_left _ (List.mem_append_right _ (List.mem_append_left _ (List.mem_of_getElem? (i := 4) rfl))))))))))) rfl (by decide +kernel) ⟨Nat.le_of_ble_eq_true rfl, Nat.le_of_ble_eq_true rfl⟩) hK hN hW rfl hl.1 rfl (by simp [lh_cat_r, lh_cat_i, lh_cat_j]) dX9_init_33 ⟨Nat.le_of_ble_eq_true rfl, Nat.le_of_ble_eq_true rfl⟩) hS (fun ad33 H locs hE34 hX hW hS => ?_)
  refine W.widen (k := 8) (n := 441) (by omega) (by omega) ?_
  show W _ _ _ _ _ _ _ _ _ _ _ _ _ _ _ (F0 m 36 ls [lh_r ad24 4 (some (gvN S21 4)), lh_r ad24 9 (some t)])
  rw [lh_rE hE34 L_t] at hl
  rw [lh_rE hE34 L27]
  rw [lh_rE hE34 L_t]
  have hE : lh_E S ad ad33 := lh_E.trans hE hm hE34
  have m35 : ∀ b, gvN S23 b ≤ gvN S31 b := hX.1
  have L_t : ∀ j, some t = some j → j < gvN S31 9 := fun j h => Nat.lt_of_lt_of_le (L_t j h) (m35 _)
  have L27 : ∀ j, some (gvN S21 4) = some j → j < gvN S31 4 := fun j h => Nat.lt_of_lt_of_le (L27 j h) (m35 _)
  have hm : ∀ b, gvN S b ≤ gvN S31 b := lh_le_trans hm m35
  have ok := lh_W_ok hW
  obtain ⟨S36, eS36, hf⟩ := dc_let_ok hf
  refine lh_put (S' := S36) (a := 9) (k := 3) (N := 10) (C := RX9) (T := TX9) (own := RX9) (ref := "LoaderModels") (ty := .object "LoaderModels$Loading") hx hb hts (fun _ h => (List.mem_cons_of_mem _ (List.mem_append_left _ (List.mem_append_left _ (List.mem_append_left _ (List.mem_append_left _ (List.mem_append_left _ (List.mem_append_right _ h)))))))) tyX9 tyX9_ok nmX9 hown hK hW hS rfl (L_t _ rfl) rfl rfl rfl (by decide) (hts (.fieldLink RX9 29 "LoaderModels" "loading" "LLoaderModels$Loading;") (List.mem_cons_of_mem _ (List.mem_append_left _ (List.mem_append_left _ (List.mem_append_left _ (List.mem_append_left _ (List.mem_append_left _ (List.mem_append_left _ (List.mem_append_left _ (List.mem_of_getElem? (i := 12) rfl)))))))))) (fun _ h9 => h9) (Or.inr ⟨rfl, hin, rfl⟩) (by decide +kernel) lh_nar_r lh_fit_r (fun q9 => by rw [eS36]; exact lh_chR rfl L27 q9) dX9_init_36 (fun H locs hW hS => ?_)
  have m37 : ∀ b, gvN S31 b ≤ gvN S36 b := by rw [eS36]; exact lh_mR
  have L_t : ∀ j, some t = some j → j < gvN S36 9 := fun j h => Nat.lt_of_lt_of_le (L_t j h) (m37 _)
  have hm : ∀ b, gvN S b ≤ gvN S36 b := lh_le_trans hm m37
  have ok := lh_W_ok hW
  refine lh_aload_n hx hb dX9_init_39 rfl (lv_at hl 0 rfl) ?_
  refine lv_bipush (v := 60) hx hb dX9_init_40 (by decide) ?_
  obtain ⟨S38, eS38, hf⟩ := dc_let_ok hf
  refine lh_newq (n := (60 : Int32)) (a := 22) (t0 := 6) (t := 5) (N' := 60) (C := RX5) hx hb hown (hts (.classLink RX9 33 RX5) (List.mem_cons_of_mem _ (List.mem_append_left _ (List.mem_append_left _ (List.mem_append_left _ (List.mem_append_left _ (List.mem_append_left _ (List.mem_append_left _ (List.mem_append_left _ (List.mem_of_getElem? (i := 13) rfl)))))))))) hN.2.2.2.2.2.2.2.1 hK hW hS hA rfl rfl rfl (by decide +kernel) (by decide +kernel) (by decide +kernel) (Nat.le_of_ble_eq_true rfl) (Nat.le_of_ble_eq_true rfl) dX9_init_42 (fun ad39 H hE40 hW hS => ?_)
  rw [lh_rE hE40 L_t] at hl
  rw [lh_rE hE40 L_t]
  have hE : lh_E S ad ad39 := lh_E.trans hE hm hE40
  rw [← eS38] at hW
  have m41 : ∀ b, gvN S36 b ≤ gvN S38 b := by rw [eS38]; exact lh_mN
  have L_t : ∀ j, some t = some j → j < gvN S38 9 := fun j h => Nat.lt_of_lt_of_le (L_t j h) (m41 _)
  have hm : ∀ b, gvN S b ≤ gvN S38 b := lh_le_trans hm m41
  have ok := lh_W_ok hW
  have L42 : ∀ j, some (gvN S36 22) = some j → j < gvN S38 22 := lh_ls (by rw [eS38]; exact lh_nN)
  obtain ⟨S44, eS44, hf⟩ := dc_let_ok hf
  refine lh_put (S' := S44) (a := 9) (k := 4) (N := 10) (C := RX9) (T := TX9) (own := RX9) (ref := "LoaderModels") (ty := .array (.object "LoaderModels$Model")) hx hb hts (fun _ h => (List.mem_cons_of_mem _ (List.mem_append_left _ (List.mem_append_left _ (List.mem_append_left _ (List.mem_append_left _ (List.mem_append_left _ (List.mem_append_right _ h)))))))) tyX9 tyX9_ok nmX9 hown hK hW hS rfl (L_t _ rfl) rfl rfl rfl (by decide) (hts (.fieldLink RX9 35 "LoaderModels" "objects" "[LLoaderModels$Model;") (List.mem_cons_of_mem _ (List.mem_append_left _ (List.mem_append_left _ (List.mem_append_left _ (List.mem_append_left _ (List.mem_append_left _ (List.mem_append_left _ (List.mem_append_left _ (List.mem_of_getElem? (i := 14) rfl)))))))))) (fun _ h9 => h9) (Or.inr ⟨rfl, hin, rfl⟩) (by decide +kernel) lh_nar_a lh_fit_a (fun q9 => by rw [eS44]; exact lh_chR rfl L42 q9) dX9_init_45 (fun H locs hW hS => ?_)
  have m45 : ∀ b, gvN S38 b ≤ gvN S44 b := by rw [eS44]; exact lh_mR
  have L_t : ∀ j, some t = some j → j < gvN S44 9 := fun j h => Nat.lt_of_lt_of_le (L_t j h) (m45 _)
  have hm : ∀ b, gvN S b ≤ gvN S44 b := lh_le_trans hm m45
  have ok := lh_W_ok hW
  refine lh_aload_n hx hb dX9_init_48 rfl (lv_at hl 0 rfl) ?_
  refine lv_bipush (v := 20) hx hb dX9_init_49 (by decide) ?_
  obtain ⟨S46, eS46, hf⟩ := dc_let_ok hf
  refine lh_newq (n := (20 : Int32)) (a := 23) (t0 := 7) (t := 7) (N' := 20) (C := RX7) hx hb hown (hts (.classLink RX9 39 RX7) (List.mem_cons_of_mem _ (List.mem_append_left _ (List.mem_append_left _ (List.mem_append_left _ (List.mem_append_left _ (List.mem_append_left _ (List.mem_append_left _ (List.mem_append_left _ (List.mem_of_getElem? (i := 15) rfl)))))))))) hN.2.2.2.2.2.2.2.2.1 hK hW hS hA rfl rfl rfl (by decide +kernel) (by decide +kernel) (by decide +kernel) (Nat.le_of_ble_eq_true rfl) (Nat.le_of_ble_eq_true rfl) dX9_init_51 (fun ad47 H hE48 hW hS => ?_)
  rw [lh_rE hE48 L_t] at hl
  rw [lh_rE hE48 L_t]
  have hE : lh_E S ad ad47 := lh_E.trans hE hm hE48
  rw [← eS46] at hW
  have m49 : ∀ b, gvN S44 b ≤ gvN S46 b := by rw [eS46]; exact lh_mN
  have L_t : ∀ j, some t = some j → j < gvN S46 9 := fun j h => Nat.lt_of_lt_of_le (L_t j h) (m49 _)
  have hm : ∀ b, gvN S b ≤ gvN S46 b := lh_le_trans hm m49
  have ok := lh_W_ok hW
  have L50 : ∀ j, some (gvN S44 23) = some j → j < gvN S46 23 := lh_ls (by rw [eS46]; exact lh_nN)
  obtain ⟨S52, eS52, hf⟩ := dc_let_ok hf
  refine lh_put (S' := S52) (a := 9) (k := 6) (N := 10) (C := RX9) (T := TX9) (own := RX9) (ref := "LoaderModels") (ty := .array (.object "LoaderModels$Row")) hx hb hts (fun _ h => (List.mem_cons_of_mem _ (List.mem_append_left _ (List.mem_append_left _ (List.mem_append_left _ (List.mem_append_left _ (List.mem_append_left _ (List.mem_append_right _ h)))))))) tyX9 tyX9_ok nmX9 hown hK hW hS rfl (L_t _ rfl) rfl rfl rfl (by decide) (hts (.fieldLink RX9 41 "LoaderModels" "rows" "[LLoaderModels$Row;") (List.mem_cons_of_mem _ (List.mem_append_left _ (List.mem_append_left _ (List.mem_append_left _ (List.mem_append_left _ (List.mem_append_left _ (List.mem_append_left _ (List.mem_append_left _ (List.mem_of_getElem? (i := 16) rfl)))))))))) (fun _ h9 => h9) (Or.inr ⟨rfl, hin, rfl⟩) (by decide +kernel) lh_nar_a lh_fit_a (fun q9 => by rw [eS52]; exact lh_chR rfl L50 q9) dX9_init_54 (fun H locs hW hS => ?_)
  have m53 : ∀ b, gvN S46 b ≤ gvN S52 b := by rw [eS52]; exact lh_mR
  have L_t : ∀ j, some t = some j → j < gvN S52 9 := fun j h => Nat.lt_of_lt_of_le (L_t j h) (m53 _)
  have hm : ∀ b, gvN S b ≤ gvN S52 b := lh_le_trans hm m53
  have ok := lh_W_ok hW
  refine lh_aload_n hx hb dX9_init_57 rfl (lv_at hl 0 rfl) ?_
  refine lv_bipush (v := 40) hx hb dX9_init_58 (by decide) ?_
  obtain ⟨S54, eS54, hf⟩ := dc_let_ok hf
  refine lh_newq (n := (40 : Int32)) (a := 24) (t0 := 6) (t := 5) (N' := 40) (C := RX5) hx hb hown (hts (.classLink RX9 33 RX5) (List.mem_cons_of_mem _ (List.mem_append_left _ (List.mem_append_left _ (List.mem_append_left _ (List.mem_append_left _ (List.mem_append_left _ (List.mem_append_left _ (List.mem_append_left _ (List.mem_of_getElem? (i := 13) rfl)))))))))) hN.2.2.2.2.2.2.2.1 hK hW hS hA rfl rfl rfl (by decide +kernel) (by decide +kernel) (by decide +kernel) (Nat.le_of_ble_eq_true rfl) (Nat.le_of_ble_eq_true rfl) dX9_init_60 (fun ad55 H hE56 hW hS => ?_)
  rw [lh_rE hE56 L_t] at hl
  rw [lh_rE hE56 L_t]
  have hE : lh_E S ad ad55 := lh_E.trans hE hm hE56
  rw [← eS54] at hW
  have m57 : ∀ b, gvN S52 b ≤ gvN S54 b := by rw [eS54]; exact lh_mN
  have L_t : ∀ j, some t = some j → j < gvN S54 9 := fun j h => Nat.lt_of_lt_of_le (L_t j h) (m57 _)
  have hm : ∀ b, gvN S b ≤ gvN S54 b := lh_le_trans hm m57
  have ok := lh_W_ok hW
  have L58 : ∀ j, some (gvN S52 24) = some j → j < gvN S54 24 := lh_ls (by rw [eS54]; exact lh_nN)
  obtain ⟨S60, eS60, hf⟩ := dc_let_ok hf
  refine lh_put (S' := S60) (a := 9) (k := 8) (N := 10) (C := RX9) (T := TX9) (own := RX9) (ref := "LoaderModels") (ty := .array (.object "LoaderModels$Model")) hx hb hts (fun _ h => (List.mem_cons_of_mem _ (List.mem_append_left _ (List.mem_append_left _ (List.mem_append_left _ (List.mem_append_left _ (List.mem_append_left _ (List.mem_append_right _ h)))))))) tyX9 tyX9_ok nmX9 hown hK hW hS rfl (L_t _ rfl) rfl rfl rfl (by decide) (hts (.fieldLink RX9 45 "LoaderModels" "toStart" "[LLoaderModels$Model;") (List.mem_cons_of_mem _ (List.mem_append_left _ (List.mem_append_left _ (List.mem_append_left _ (List.mem_append_left _ (List.mem_append_left _ (List.mem_append_left _ (List.mem_append_left _ (List.mem_of_getElem? (i := 17) rfl)))))))))) (fun _ h9 => h9) (Or.inr ⟨rfl, hin, rfl⟩) (by decide +kernel) lh_nar_a lh_fit_a (fun q9 => by rw [eS60]; exact lh_chR rfl L58 q9) dX9_init_63 (fun H locs hW hS => ?_)
  have m61 : ∀ b, gvN S54 b ≤ gvN S60 b := by rw [eS60]; exact lh_mR
  have L_t : ∀ j, some t = some j → j < gvN S60 9 := fun j h => Nat.lt_of_lt_of_le (L_t j h) (m61 _)
  have hm : ∀ b, gvN S b ≤ gvN S60 b := lh_le_trans hm m61
  have ok := lh_W_ok hW
  refine lh_aload_n hx hb dX9_init_66 rfl (lv_at hl 0 rfl) ?_
  have L62 : ∀ j, gvR S60 9 t 2 = some j → j < gvN S60 3 := fun j h => ok _ _ _ _ j (L_t _ rfl) rfl h
  refine lh_get (a := 9) (k := 2) (N := 10) (C := RX9) (T := TX9) (own := RX9) (ref := "LoaderModels") hx hb hts (fun _ h => (List.mem_cons_of_mem _ (List.mem_append_left _ (List.mem_append_left _ (List.mem_append_left _ (List.mem_append_left _ (List.mem_append_left _ (List.mem_append_right _ h)))))))) hown hK hW rfl (L_t _ rfl) rfl rfl rfl (by decide) (hts (.fieldLink RX9 20 "LoaderModels" "loaders" "LLoaderModels$Loaders;") (List.mem_cons_of_mem _ (List.mem_append_left _ (List.mem_append_left _ (List.mem_append_left _ (List.mem_append_left _ (List.mem_append_left _ (List.mem_append_left _ (List.mem_append_left _ (List.mem_of_getElem? (i := 8) rfl)))))))))) (fun _ h9 => h9) dX9_init_67 (v := lh_r ad55 3 (gvR S60 9 t 2)) rfl ?_
  have L63 : ∀ j, (none : Option Nat) = some j → j < gvN S60 2 := fun j h => by cases h
  refine lh_null hx hb ad55 2 dX9_init_70 ?_
  obtain ⟨x64, hx64, hf⟩ := dc_nn_ok hf
  obtain ⟨r65, S66, k67, hf⟩ := dc_bd_ok hf
  refine lh_callA (S' := S66) (lh_rv ⟨hx, hb, hml, hown, hts⟩ hx64 (As := [lh_r ad55 2 (none : Option Nat)]) (rest := []) (k := 3) (c_X3_add l D cT n S60 ad55 A H.size (fun q9 h9 => hA q9 (Nat.le_trans hS.1 h9)) x64 (none : Option Nat) r65 S66 k67 (lh_ls (L62 _ hx64)) L63) (cwV 1 hts gX9_init_X3_add rfl rfl rfl (by decide +kernel) ⟨Nat.le_of_ble_eq_true rfl, Nat.le_of_ble_eq_true rfl⟩) hK hN hW (L62 _ hx64) rfl rfl rfl hl.1 rfl (by simp [lh_cat_r, lh_cat_i, lh_cat_j]) dX9_init_71 ⟨Nat.le_of_ble_eq_true rfl, Nat.le_of_ble_eq_true rfl⟩) hS (fun ad68 H locs hE69 hX hW hS => ?_)
  refine W.widen (k := 16) (n := 728) (by omega) (by omega) ?_
  show W _ _ _ _ _ _ _ _ _ _ _ _ _ _ _ (F0 m 74 ls [lh_r ad68 2 r65])
  rw [lh_rE hE69 L_t] at hl
  have hE : lh_E S ad ad68 := lh_E.trans hE hm hE69
  have m70 : ∀ b, gvN S60 b ≤ gvN S66 b := hX.1
  have L_t : ∀ j, some t = some j → j < gvN S66 9 := fun j h => Nat.lt_of_lt_of_le (L_t j h) (m70 _)
  have hm : ∀ b, gvN S b ≤ gvN S66 b := lh_le_trans hm m70
  have ok := lh_W_ok hW
  have L71 := hX.2
  refine lh_astore_n (i := 1) (lv' := [(1, lh_r ad68 2 r65), (0, lh_r ad68 9 (some t))]) hx hb dX9_init_74 rfl hl (by decide) (by first | rfl | simp [lh_cat_r, lh_cat_i, lh_cat_j]) (fun ls hl => ?_)
  refine lv_iconst (v := 0) hx hb dX9_init_75 (by decide) ?_
  refine lv_istore_n (i := 2) (lv' := [(2, .int (0 : Int32)), (1, lh_r ad68 2 r65), (0, lh_r ad68 9 (some t))]) hx hb dX9_init_76 rfl hl (by decide) (by first | rfl | simp [lh_cat_r, lh_cat_i, lh_cat_j]) (fun ls hl => ?_)
  refine lv_iload_n hx hb dX9_init_77 rfl (lv_at hl 0 rfl) ?_
  refine lv_iconst (v := 5) hx hb dX9_init_78 (by decide) ?_
  refine lv_icmp_ge (tgt := 116) hx hb dX9_init_79 (by decide) (fun c72 => ?_) (fun c72 => ?_)
  · exact absurd c72 (by decide)
  · obtain ⟨S73, eS73, hf⟩ := dc_let_ok hf
    refine lh_new (a := 1) (N := 7) (C := RX1) (T := TX1) (own := RX9) hx hb hts (fun _ h => (List.mem_cons_of_mem _ (List.mem_append_left _ (List.mem_append_left _ (List.mem_append_right _ h))))) tyX1 tyX1_ok hown (hts (.classLink RX9 11 RX1) (List.mem_cons_of_mem _ (List.mem_append_left _ (List.mem_append_left _ (List.mem_append_left _ (List.mem_append_left _ (List.mem_append_left _ (List.mem_append_left _ (List.mem_append_left _ (List.mem_of_getElem? (i := 3) rfl)))))))))) (hts (.instantiable RX1 7) (List.mem_cons_of_mem _ (List.mem_append_left _ (List.mem_append_left _ (List.mem_append_left _ (List.mem_append_left _ (List.mem_append_left _ (List.mem_append_left _ (List.mem_append_left _ (List.mem_of_getElem? (i := 18) rfl)))))))))) (hts (.initialized RX1) (List.mem_cons_of_mem _ (List.mem_append_left _ (List.mem_append_left _ (List.mem_append_left _ (List.mem_append_left _ (List.mem_append_left _ (List.mem_append_left _ (List.mem_append_left _ (List.mem_of_getElem? (i := 19) rfl)))))))))) hK hW hS hA rfl rfl rfl (by decide +kernel) (Nat.le_of_ble_eq_true rfl) (Nat.le_of_ble_eq_true rfl) dX9_init_82 (fun ad74 H hE75 hW hS => ?_)
    rw [lh_rE hE75 L71] at hl
    rw [lh_rE hE75 L_t] at hl
    have hE : lh_E S ad ad74 := lh_E.trans hE hm hE75
    rw [← eS73] at hW
    have m76 : ∀ b, gvN S66 b ≤ gvN S73 b := by rw [eS73]; exact lh_mN
    have L71 : ∀ j, r65 = some j → j < gvN S73 2 := fun j h => Nat.lt_of_lt_of_le (L71 j h) (m76 _)
    have L_t : ∀ j, some t = some j → j < gvN S73 9 := fun j h => Nat.lt_of_lt_of_le (L_t j h) (m76 _)
    have hm : ∀ b, gvN S b ≤ gvN S73 b := lh_le_trans hm m76
    have ok := lh_W_ok hW
    have L77 : ∀ j, some (gvN S66 1) = some j → j < gvN S73 1 := lh_ls (by rw [eS73]; exact lh_nN)
    refine lv_dup hx hb dX9_init_85 lh_cat_r ?_
    refine lv_iload_n hx hb dX9_init_86 rfl (lv_at hl 0 rfl) ?_
    refine lv_iload_n hx hb dX9_init_87 rfl (lv_at hl 0 rfl) ?_
    refine lv_iload_n hx hb dX9_init_88 rfl (lv_at hl 0 rfl) ?_
    refine lv_iconst (v := 0) hx hb dX9_init_89 (by decide) ?_
    refine lv_iconst (v := 1) hx hb dX9_init_90 (by decide) ?_
    refine lv_iconst (v := 0) hx hb dX9_init_91 (by decide) ?_
    obtain ⟨r79, S80, k81, hf⟩ := dc_bd_ok hf
    refine lh_callA (S' := S80) (lh_ri ⟨hx, hb, hml, hown, hts⟩ rfl (As := [.int (0 : Int32), .int (0 : Int32), .int (0 : Int32), .int (0 : Int32), .int (1 : Int32), .int (0 : Int32)]) (rest := [lh_r ad74 1 (some (gvN S66 1))]) (k := 1) (c_X1_init l D cT n S73 ad74 A H.size (fun q9 h9 => hA q9 (Nat.le_trans hS.1 h9)) (gvN S66 1) (0 : Int32) (0 : Int32) (0 : Int32) (0 : Int32) (1 : Int32) (0 : Int32) r79 S80 k81 L77) (cwI 6 hts gX9_init_X1_init rfl rfl rfl (hts (.initialized RX1) (List.mem_cons_of_mem _ (List.mem_append_left _ (List.mem_append_left _ (List.mem_append_left _ (List.mem_append_left _ (List.mem_append_left _ (List.mem_append_left _ (List.mem_append_left _ (List.mem_of_getElem? (i := 19) rfl)))))))))) (hts (.methodLink RX9 52 yX1_init) (List.mem_cons_of_mem _ (List.mem_append_left _ (List.mem_append_left _ (List.mem_append_left _ (List.mem_append_left _ (List.mem_append_left _ (List.mem_append_left _ (List.mem_append_right _ (List.mem_append_right _ (List.mem_append_left _ (List.mem_of_getElem? (i := 17) rfl)))))))))))) (hts (.instanceMethod yX1_init) (List.mem_cons_of_mem _ (List.mem_append_left _ (List.mem_append_left _ (List.mem_append_left _ (List.mem_append_left _ (List.mem_append_left _ (List.mem_append_left _ (List.mem_append_right _ (List.mem_append_right _ (List.mem_append_left _ (List.mem_of_getElem? (i := 18) rfl)))))))))))) rfl (by decide +kernel) ⟨Nat.le_of_ble_eq_true rfl, Nat.le_of_ble_eq_true rfl⟩) hK hN hW rfl hl.1 rfl (by simp [lh_cat_r, lh_cat_i, lh_cat_j]) dX9_init_92 ⟨Nat.le_of_ble_eq_true rfl, Nat.le_of_ble_eq_true rfl⟩) hS (fun ad82 H locs hE83 hX hW hS => ?_)
    refine W.widen (k := 18) (n := 739) (by omega) (by omega) ?_
    show W _ _ _ _ _ _ _ _ _ _ _ _ _ _ _ (F0 m 95 ls [lh_r ad74 1 (some (gvN S66 1))])
    rw [lh_rE hE83 L71] at hl
    rw [lh_rE hE83 L_t] at hl
    rw [lh_rE hE83 L77]
    have hE : lh_E S ad ad82 := lh_E.trans hE hm hE83
    have m84 : ∀ b, gvN S73 b ≤ gvN S80 b := hX.1
    have L71 : ∀ j, r65 = some j → j < gvN S80 2 := fun j h => Nat.lt_of_lt_of_le (L71 j h) (m84 _)
    have L_t : ∀ j, some t = some j → j < gvN S80 9 := fun j h => Nat.lt_of_lt_of_le (L_t j h) (m84 _)
    have L77 : ∀ j, some (gvN S66 1) = some j → j < gvN S80 1 := fun j h => Nat.lt_of_lt_of_le (L77 j h) (m84 _)
    have hm : ∀ b, gvN S b ≤ gvN S80 b := lh_le_trans hm m84
    have ok := lh_W_ok hW
    refine lh_astore_n (i := 3) (lv' := [(3, lh_r ad82 1 (some (gvN S66 1))), (2, .int (0 : Int32)), (1, lh_r ad82 2 r65), (0, lh_r ad82 9 (some t))]) hx hb dX9_init_95 rfl hl (by decide) (by first | rfl | simp [lh_cat_r, lh_cat_i, lh_cat_j]) (fun ls hl => ?_)
    refine lh_aload_n hx hb dX9_init_96 rfl (lv_at hl 3 rfl) ?_
    have L85 : ∀ j, gvR S80 9 t 0 = some j → j < gvN S80 21 := fun j h => ok _ _ _ _ j (L_t _ rfl) rfl h
    refine lh_get (a := 9) (k := 0) (N := 10) (C := RX9) (T := TX9) (own := RX9) (ref := "LoaderModels") hx hb hts (fun _ h => (List.mem_cons_of_mem _ (List.mem_append_left _ (List.mem_append_left _ (List.mem_append_left _ (List.mem_append_left _ (List.mem_append_left _ (List.mem_append_right _ h)))))))) hown hK hW rfl (L_t _ rfl) rfl rfl rfl (by decide) (hts (.fieldLink RX9 13 "LoaderModels" "files" "[LLoaderModels$ClassFile;") (List.mem_cons_of_mem _ (List.mem_append_left _ (List.mem_append_left _ (List.mem_append_left _ (List.mem_append_left _ (List.mem_append_left _ (List.mem_append_left _ (List.mem_append_left _ (List.mem_of_getElem? (i := 4) rfl)))))))))) (fun _ h9 => h9) dX9_init_97 (v := lh_r ad82 21 (gvR S80 9 t 0)) rfl ?_
    refine lv_iload_n hx hb dX9_init_100 rfl (lv_at hl 1 rfl) ?_
    refine lh_aload_n hx hb dX9_init_101 rfl (lv_at hl 0 rfl) ?_
    obtain ⟨x86, hx86, hf⟩ := dc_nn_ok hf
    obtain ⟨g87, hf⟩ := dc_gd_ok hf
    obtain ⟨S88, eS88, hf⟩ := dc_let_ok hf
    refine lh_ast_r (a := 21) (t0 := 4) (t := 1) hx hb hK hW hS hx86 (L85 _ hx86) rfl rfl (fun _ => rfl) rfl rfl L77 g87 dX9_init_102 (fun H locs hW hS => ?_)
    rw [← eS88] at hW
    have m89 : ∀ b, gvN S80 b ≤ gvN S88 b := by rw [eS88]; exact lh_mR
    have L77 : ∀ j, some (gvN S66 1) = some j → j < gvN S88 1 := fun j h => Nat.lt_of_lt_of_le (L77 j h) (m89 _)
    have L71 : ∀ j, r65 = some j → j < gvN S88 2 := fun j h => Nat.lt_of_lt_of_le (L71 j h) (m89 _)
    have L_t : ∀ j, some t = some j → j < gvN S88 9 := fun j h => Nat.lt_of_lt_of_le (L_t j h) (m89 _)
    have hm : ∀ b, gvN S b ≤ gvN S88 b := lh_le_trans hm m89
    have ok := lh_W_ok hW
    refine lh_aload_n hx hb dX9_init_103 rfl (lv_at hl 2 rfl) ?_
    obtain ⟨x90, hx90, hf⟩ := dc_nn_ok hf
    have L91 : ∀ j, gvR S88 2 x90 3 = some j → j < gvN S88 12 := fun j h => ok _ _ _ _ j (L71 _ hx90) rfl h
    refine lh_get (a := 2) (k := 3) (N := 7) (C := RX2) (T := TX2) (own := RX9) (ref := "LoaderModels$Loader") hx hb hts (fun _ h => (List.mem_cons_of_mem _ (List.mem_append_left _ (List.mem_append_right _ h)))) hown hK hW hx90 (L71 _ hx90) rfl rfl rfl (by decide) (hts (.fieldLink RX9 55 "LoaderModels$Loader" "files" "[LLoaderModels$ClassFile;") (List.mem_cons_of_mem _ (List.mem_append_left _ (List.mem_append_left _ (List.mem_append_left _ (List.mem_append_left _ (List.mem_append_left _ (List.mem_append_left _ (List.mem_append_left _ (List.mem_of_getElem? (i := 20) rfl)))))))))) (fun _ h9 => h9) dX9_init_104 (v := lh_r ad82 12 (gvR S88 2 x90 3)) rfl ?_
    refine lv_iload_n hx hb dX9_init_107 rfl (lv_at hl 1 rfl) ?_
    refine lh_aload_n hx hb dX9_init_108 rfl (lv_at hl 0 rfl) ?_
    obtain ⟨x92, hx92, hf⟩ := dc_nn_ok hf
    obtain ⟨g93, hf⟩ := dc_gd_ok hf
    obtain ⟨S94, eS94, hf⟩ := dc_let_ok hf
    refine lh_ast_r (a := 12) (t0 := 4) (t := 1) hx hb hK hW hS hx92 (L91 _ hx92) rfl rfl (fun _ => rfl) rfl rfl L77 g93 dX9_init_109 (fun H locs hW hS => ?_)
    rw [← eS94] at hW
    have m95 : ∀ b, gvN S88 b ≤ gvN S94 b := by rw [eS94]; exact lh_mR
    have L77 : ∀ j, some (gvN S66 1) = some j → j < gvN S94 1 := fun j h => Nat.lt_of_lt_of_le (L77 j h) (m95 _)
    have L71 : ∀ j, r65 = some j → j < gvN S94 2 := fun j h => Nat.lt_of_lt_of_le (L71 j h) (m95 _)
    have L_t : ∀ j, some t = some j → j < gvN S94 9 := fun j h => Nat.lt_of_lt_of_le (L_t j h) (m95 _)
    have hm : ∀ b, gvN S b ≤ gvN S94 b := lh_le_trans hm m95
    have ok := lh_W_ok hW
    refine lv_iinc (v := (1 : Int32)) (lv' := [(2, .int (1 : Int32)), (3, lh_r ad82 1 (some (gvN S66 1))), (1, lh_r ad82 2 r65), (0, lh_r ad82 9 (some t))]) hx hb dX9_init_110 hl (k := 1) rfl (by first | rfl | decide) (by decide) (by first | rfl | simp [lh_cat_r, lh_cat_i, lh_cat_j]) (fun ls hl => ?_)
    refine lv_goto (tgt := 77) hx hb dX9_init_113 (by decide) ?_
    refine lv_iload_n hx hb dX9_init_77 rfl (lv_at hl 0 rfl) ?_
    refine lv_iconst (v := 5) hx hb dX9_init_78 (by decide) ?_
    refine lv_icmp_ge (tgt := 116) hx hb dX9_init_79 (by decide) (fun c96 => ?_) (fun c96 => ?_)
    · exact absurd c96 (by decide)
    · obtain ⟨S97, eS97, hf⟩ := dc_let_ok hf
      refine lh_new (a := 1) (N := 7) (C := RX1) (T := TX1) (own := RX9) hx hb hts (fun _ h => (List.mem_cons_of_mem _ (List.mem_append_left _ (List.mem_append_left _ (List.mem_append_right _ h))))) tyX1 tyX1_ok hown (hts (.classLink RX9 11 RX1) (List.mem_cons_of_mem _ (List.mem_append_left _ (List.mem_append_left _ (List.mem_append_left _ (List.mem_append_left _ (List.mem_append_left _ (List.mem_append_left _ (List.mem_append_left _ (List.mem_of_getElem? (i := 3) rfl)))))))))) (hts (.instantiable RX1 7) (List.mem_cons_of_mem _ (List.mem_append_left _ (List.mem_append_left _ (List.mem_append_left _ (List.mem_append_left _ (List.mem_append_left _ (List.mem_append_left _ (List.mem_append_left _ (List.mem_of_getElem? (i := 18) rfl)))))))))) (hts (.initialized RX1) (List.mem_cons_of_mem _ (List.mem_append_left _ (List.mem_append_left _ (List.mem_append_left _ (List.mem_append_left _ (List.mem_append_left _ (List.mem_append_left _ (List.mem_append_left _ (List.mem_of_getElem? (i := 19) rfl)))))))))) hK hW hS hA rfl rfl rfl (by decide +kernel) (Nat.le_of_ble_eq_true rfl) (Nat.le_of_ble_eq_true rfl) dX9_init_82 (fun ad98 H hE99 hW hS => ?_)
      rw [lh_rE hE99 L77] at hl
      rw [lh_rE hE99 L71] at hl
      rw [lh_rE hE99 L_t] at hl
      have hE : lh_E S ad ad98 := lh_E.trans hE hm hE99
      rw [← eS97] at hW
      have m100 : ∀ b, gvN S94 b ≤ gvN S97 b := by rw [eS97]; exact lh_mN
      have L77 : ∀ j, some (gvN S66 1) = some j → j < gvN S97 1 := fun j h => Nat.lt_of_lt_of_le (L77 j h) (m100 _)
      have L71 : ∀ j, r65 = some j → j < gvN S97 2 := fun j h => Nat.lt_of_lt_of_le (L71 j h) (m100 _)
      have L_t : ∀ j, some t = some j → j < gvN S97 9 := fun j h => Nat.lt_of_lt_of_le (L_t j h) (m100 _)
      have hm : ∀ b, gvN S b ≤ gvN S97 b := lh_le_trans hm m100
      have ok := lh_W_ok hW
      have L101 : ∀ j, some (gvN S94 1) = some j → j < gvN S97 1 := lh_ls (by rw [eS97]; exact lh_nN)
      refine lv_dup hx hb dX9_init_85 lh_cat_r ?_
      refine lv_iload_n hx hb dX9_init_86 rfl (lv_at hl 0 rfl) ?_
      refine lv_iload_n hx hb dX9_init_87 rfl (lv_at hl 0 rfl) ?_
      refine lv_iload_n hx hb dX9_init_88 rfl (lv_at hl 0 rfl) ?_
      refine lv_iconst (v := 0) hx hb dX9_init_89 (by decide) ?_
      refine lv_iconst (v := 1) hx hb dX9_init_90 (by decide) ?_
      refine lv_iconst (v := 0) hx hb dX9_init_91 (by decide) ?_
      obtain ⟨r103, S104, k105, hf⟩ := dc_bd_ok hf
      refine lh_callA (S' := S104) (lh_ri ⟨hx, hb, hml, hown, hts⟩ rfl (As := [.int (1 : Int32), .int (1 : Int32), .int (1 : Int32), .int (0 : Int32), .int (1 : Int32), .int (0 : Int32)]) (rest := [lh_r ad98 1 (some (gvN S94 1))]) (k := 1) (c_X1_init l D cT n S97 ad98 A H.size (fun q9 h9 => hA q9 (Nat.le_trans hS.1 h9)) (gvN S94 1) (1 : Int32) (1 : Int32) (1 : Int32) (0 : Int32) (1 : Int32) (0 : Int32) r103 S104 k105 L101) (cwI 6 hts gX9_init_X1_init rfl rfl rfl (hts (.initialized RX1) (List.mem_cons_of_mem _ (List.mem_append_left _ (List.mem_append_left _ (List.mem_append_left _ (List.mem_append_left _ (List.mem_append_left _ (List.mem_append_left _ (List.mem_append_left _ (List.mem_of_getElem? (i := 19) rfl)))))))))) (hts (.methodLink RX9 52 yX1_init) (List.mem_cons_of_mem _ (List.mem_append_left _ (List.mem_append_left _ (List.mem_append_left _ (List.mem_append_left _ (List.mem_append_left _ (List.mem_append_left _ (List.mem_append_right _ (List.mem_append_right _ (List.mem_append_left _ (List.mem_of_getElem? (i := 17) rfl)))))))))))) (hts (.instanceMethod yX1_init) (List.mem_cons_of_mem _ (List.mem_append_left _ (List.mem_append_left _ (List.mem_append_left _ (List.mem_append_left _ (List.mem_append_left _ (List.mem_append_left _ (List.mem_append_right _ (List.mem_append_right _ (List.mem_append_left _ (List.mem_of_getElem? (i := 18) rfl)))))))))))) rfl (by decide +kernel) ⟨Nat.le_of_ble_eq_true rfl, Nat.le_of_ble_eq_true rfl⟩) hK hN hW rfl hl.1 rfl (by simp [lh_cat_r, lh_cat_i, lh_cat_j]) dX9_init_92 ⟨Nat.le_of_ble_eq_true rfl, Nat.le_of_ble_eq_true rfl⟩) hS (fun ad106 H locs hE107 hX hW hS => ?_)
      refine W.widen (k := 20) (n := 750) (by omega) (by omega) ?_
      show W _ _ _ _ _ _ _ _ _ _ _ _ _ _ _ (F0 m 95 ls [lh_r ad98 1 (some (gvN S94 1))])
      rw [lh_rE hE107 L77] at hl
      rw [lh_rE hE107 L71] at hl
      rw [lh_rE hE107 L_t] at hl
      rw [lh_rE hE107 L101]
      have hE : lh_E S ad ad106 := lh_E.trans hE hm hE107
      have m108 : ∀ b, gvN S97 b ≤ gvN S104 b := hX.1
      have L77 : ∀ j, some (gvN S66 1) = some j → j < gvN S104 1 := fun j h => Nat.lt_of_lt_of_le (L77 j h) (m108 _)
      have L71 : ∀ j, r65 = some j → j < gvN S104 2 := fun j h => Nat.lt_of_lt_of_le (L71 j h) (m108 _)
      have L_t : ∀ j, some t = some j → j < gvN S104 9 := fun j h => Nat.lt_of_lt_of_le (L_t j h) (m108 _)
      have L101 : ∀ j, some (gvN S94 1) = some j → j < gvN S104 1 := fun j h => Nat.lt_of_lt_of_le (L101 j h) (m108 _)
      have hm : ∀ b, gvN S b ≤ gvN S104 b := lh_le_trans hm m108
      have ok := lh_W_ok hW
      refine lh_astore_n (i := 3) (lv' := [(3, lh_r ad106 1 (some (gvN S94 1))), (2, .int (1 : Int32)), (1, lh_r ad106 2 r65), (0, lh_r ad106 9 (some t))]) hx hb dX9_init_95 rfl hl (by decide) (by first | rfl | simp [lh_cat_r, lh_cat_i, lh_cat_j]) (fun ls hl => ?_)
      refine lh_aload_n hx hb dX9_init_96 rfl (lv_at hl 3 rfl) ?_
      have L109 : ∀ j, gvR S104 9 t 0 = some j → j < gvN S104 21 := fun j h => ok _ _ _ _ j (L_t _ rfl) rfl h
      refine lh_get (a := 9) (k := 0) (N := 10) (C := RX9) (T := TX9) (own := RX9) (ref := "LoaderModels") hx hb hts (fun _ h => (List.mem_cons_of_mem _ (List.mem_append_left _ (List.mem_append_left _ (List.mem_append_left _ (List.mem_append_left _ (List.mem_append_left _ (List.mem_append_right _ h)))))))) hown hK hW rfl (L_t _ rfl) rfl rfl rfl (by decide) (hts (.fieldLink RX9 13 "LoaderModels" "files" "[LLoaderModels$ClassFile;") (List.mem_cons_of_mem _ (List.mem_append_left _ (List.mem_append_left _ (List.mem_append_left _ (List.mem_append_left _ (List.mem_append_left _ (List.mem_append_left _ (List.mem_append_left _ (List.mem_of_getElem? (i := 4) rfl)))))))))) (fun _ h9 => h9) dX9_init_97 (v := lh_r ad106 21 (gvR S104 9 t 0)) rfl ?_
      refine lv_iload_n hx hb dX9_init_100 rfl (lv_at hl 1 rfl) ?_
      refine lh_aload_n hx hb dX9_init_101 rfl (lv_at hl 0 rfl) ?_
      obtain ⟨x110, hx110, hf⟩ := dc_nn_ok hf
      obtain ⟨g111, hf⟩ := dc_gd_ok hf
      obtain ⟨S112, eS112, hf⟩ := dc_let_ok hf
      refine lh_ast_r (a := 21) (t0 := 4) (t := 1) hx hb hK hW hS hx110 (L109 _ hx110) rfl rfl (fun _ => rfl) rfl rfl L101 g111 dX9_init_102 (fun H locs hW hS => ?_)
      rw [← eS112] at hW
      have m113 : ∀ b, gvN S104 b ≤ gvN S112 b := by rw [eS112]; exact lh_mR
      have L101 : ∀ j, some (gvN S94 1) = some j → j < gvN S112 1 := fun j h => Nat.lt_of_lt_of_le (L101 j h) (m113 _)
      have L71 : ∀ j, r65 = some j → j < gvN S112 2 := fun j h => Nat.lt_of_lt_of_le (L71 j h) (m113 _)
      have L_t : ∀ j, some t = some j → j < gvN S112 9 := fun j h => Nat.lt_of_lt_of_le (L_t j h) (m113 _)
      have hm : ∀ b, gvN S b ≤ gvN S112 b := lh_le_trans hm m113
      have ok := lh_W_ok hW
      refine lh_aload_n hx hb dX9_init_103 rfl (lv_at hl 2 rfl) ?_
      have L114 : ∀ j, gvR S112 2 x90 3 = some j → j < gvN S112 12 := fun j h => ok _ _ _ _ j (L71 _ hx90) rfl h
      refine lh_get (a := 2) (k := 3) (N := 7) (C := RX2) (T := TX2) (own := RX9) (ref := "LoaderModels$Loader") hx hb hts (fun _ h => (List.mem_cons_of_mem _ (List.mem_append_left _ (List.mem_append_right _ h)))) hown hK hW hx90 (L71 _ hx90) rfl rfl rfl (by decide) (hts (.fieldLink RX9 55 "LoaderModels$Loader" "files" "[LLoaderModels$ClassFile;") (List.mem_cons_of_mem _ (List.mem_append_left _ (List.mem_append_left _ (List.mem_append_left _ (List.mem_append_left _ (List.mem_append_left _ (List.mem_append_left _ (List.mem_append_left _ (List.mem_of_getElem? (i := 20) rfl)))))))))) (fun _ h9 => h9) dX9_init_104 (v := lh_r ad106 12 (gvR S112 2 x90 3)) rfl ?_
      refine lv_iload_n hx hb dX9_init_107 rfl (lv_at hl 1 rfl) ?_
      refine lh_aload_n hx hb dX9_init_108 rfl (lv_at hl 0 rfl) ?_
      obtain ⟨x115, hx115, hf⟩ := dc_nn_ok hf
      obtain ⟨g116, hf⟩ := dc_gd_ok hf
      obtain ⟨S117, eS117, hf⟩ := dc_let_ok hf
      refine lh_ast_r (a := 12) (t0 := 4) (t := 1) hx hb hK hW hS hx115 (L114 _ hx115) rfl rfl (fun _ => rfl) rfl rfl L101 g116 dX9_init_109 (fun H locs hW hS => ?_)
      rw [← eS117] at hW
      have m118 : ∀ b, gvN S112 b ≤ gvN S117 b := by rw [eS117]; exact lh_mR
      have L101 : ∀ j, some (gvN S94 1) = some j → j < gvN S117 1 := fun j h => Nat.lt_of_lt_of_le (L101 j h) (m118 _)
      have L71 : ∀ j, r65 = some j → j < gvN S117 2 := fun j h => Nat.lt_of_lt_of_le (L71 j h) (m118 _)
      have L_t : ∀ j, some t = some j → j < gvN S117 9 := fun j h => Nat.lt_of_lt_of_le (L_t j h) (m118 _)
      have hm : ∀ b, gvN S b ≤ gvN S117 b := lh_le_trans hm m118
      have ok := lh_W_ok hW
      refine lv_iinc (v := (2 : Int32)) (lv' := [(2, .int (2 : Int32)), (3, lh_r ad106 1 (some (gvN S94 1))), (1, lh_r ad106 2 r65), (0, lh_r ad106 9 (some t))]) hx hb dX9_init_110 hl (k := 1) rfl (by first | rfl | decide) (by decide) (by first | rfl | simp [lh_cat_r, lh_cat_i, lh_cat_j]) (fun ls hl => ?_)
      refine lv_goto (tgt := 77) hx hb dX9_init_113 (by decide) ?_
      refine lv_iload_n hx hb dX9_init_77 rfl (lv_at hl 0 rfl) ?_
      refine lv_iconst (v := 5) hx hb dX9_init_78 (by decide) ?_
      refine lv_icmp_ge (tgt := 116) hx hb dX9_init_79 (by decide) (fun c119 => ?_) (fun c119 => ?_)
      · exact absurd c119 (by decide)
      · obtain ⟨S120, eS120, hf⟩ := dc_let_ok hf
        refine lh_new (a := 1) (N := 7) (C := RX1) (T := TX1) (own := RX9) hx hb hts (fun _ h => (List.mem_cons_of_mem _ (List.mem_append_left _ (List.mem_append_left _ (List.mem_append_right _ h))))) tyX1 tyX1_ok hown (hts (.classLink RX9 11 RX1) (List.mem_cons_of_mem _ (List.mem_append_left _ (List.mem_append_left _ (List.mem_append_left _ (List.mem_append_left _ (List.mem_append_left _ (List.mem_append_left _ (List.mem_append_left _ (List.mem_of_getElem? (i := 3) rfl)))))))))) (hts (.instantiable RX1 7) (List.mem_cons_of_mem _ (List.mem_append_left _ (List.mem_append_left _ (List.mem_append_left _ (List.mem_append_left _ (List.mem_append_left _ (List.mem_append_left _ (List.mem_append_left _ (List.mem_of_getElem? (i := 18) rfl)))))))))) (hts (.initialized RX1) (List.mem_cons_of_mem _ (List.mem_append_left _ (List.mem_append_left _ (List.mem_append_left _ (List.mem_append_left _ (List.mem_append_left _ (List.mem_append_left _ (List.mem_append_left _ (List.mem_of_getElem? (i := 19) rfl)))))))))) hK hW hS hA rfl rfl rfl (by decide +kernel) (Nat.le_of_ble_eq_true rfl) (Nat.le_of_ble_eq_true rfl) dX9_init_82 (fun ad121 H hE122 hW hS => ?_)
        rw [lh_rE hE122 L101] at hl
        rw [lh_rE hE122 L71] at hl
        rw [lh_rE hE122 L_t] at hl
        have hE : lh_E S ad ad121 := lh_E.trans hE hm hE122
        rw [← eS120] at hW
        have m123 : ∀ b, gvN S117 b ≤ gvN S120 b := by rw [eS120]; exact lh_mN
        have L101 : ∀ j, some (gvN S94 1) = some j → j < gvN S120 1 := fun j h => Nat.lt_of_lt_of_le (L101 j h) (m123 _)
        have L71 : ∀ j, r65 = some j → j < gvN S120 2 := fun j h => Nat.lt_of_lt_of_le (L71 j h) (m123 _)
        have L_t : ∀ j, some t = some j → j < gvN S120 9 := fun j h => Nat.lt_of_lt_of_le (L_t j h) (m123 _)
        have hm : ∀ b, gvN S b ≤ gvN S120 b := lh_le_trans hm m123
        have ok := lh_W_ok hW
        have L124 : ∀ j, some (gvN S117 1) = some j → j < gvN S120 1 := lh_ls (by rw [eS120]; exact lh_nN)
        refine lv_dup hx hb dX9_init_85 lh_cat_r ?_
        refine lv_iload_n hx hb dX9_init_86 rfl (lv_at hl 0 rfl) ?_
        refine lv_iload_n hx hb dX9_init_87 rfl (lv_at hl 0 rfl) ?_
        refine lv_iload_n hx hb dX9_init_88 rfl (lv_at hl 0 rfl) ?_
        refine lv_iconst (v := 0) hx hb dX9_init_89 (by decide) ?_
        refine lv_iconst (v := 1) hx hb dX9_init_90 (by decide) ?_
        refine lv_iconst (v := 0) hx hb dX9_init_91 (by decide) ?_
        obtain ⟨r126, S127, k128, hf⟩ := dc_bd_ok hf
        refine lh_callA (S' := S127) (lh_ri ⟨hx, hb, hml, hown, hts⟩ rfl (As := [.int (2 : Int32), .int (2 : Int32), .int (2 : Int32), .int (0 : Int32), .int (1 : Int32), .int (0 : Int32)]) (rest := [lh_r ad121 1 (some (gvN S117 1))]) (k := 1) (c_X1_init l D cT n S120 ad121 A H.size (fun q9 h9 => hA q9 (Nat.le_trans hS.1 h9)) (gvN S117 1) (2 : Int32) (2 : Int32) (2 : Int32) (0 : Int32) (1 : Int32) (0 : Int32) r126 S127 k128 L124) (cwI 6 hts gX9_init_X1_init rfl rfl rfl (hts (.initialized RX1) (List.mem_cons_of_mem _ (List.mem_append_left _ (List.mem_append_left _ (List.mem_append_left _ (List.mem_append_left _ (List.mem_append_left _ (List.mem_append_left _ (List.mem_append_left _ (List.mem_of_getElem? (i := 19) rfl)))))))))) (hts (.methodLink RX9 52 yX1_init) (List.mem_cons_of_mem _ (List.mem_append_left _ (List.mem_append_left _ (List.mem_append_left _ (List.mem_append_left _ (List.mem_append_left _ (List.mem_append_left _ (List.mem_append_right _ (List.mem_append_right _ (List.mem_append_left _ (List.mem_of_getElem? (i := 17) rfl)))))))))))) (hts (.instanceMethod yX1_init) (List.mem_cons_of_mem _ (List.mem_append_left _ (List.mem_append_left _ (List.mem_append_left _ (List.mem_append_left _ (List.mem_append_left _ (List.mem_append_left _ (List.mem_append_right _ (List.mem_append_right _ (List.mem_append_left _ (List.mem_of_getElem? (i := 18) rfl)))))))))))) rfl (by decide +kernel) ⟨Nat.le_of_ble_eq_true rfl, Nat.le_of_ble_eq_true rfl⟩) hK hN hW rfl hl.1 rfl (by simp [lh_cat_r, lh_cat_i, lh_cat_j]) dX9_init_92 ⟨Nat.le_of_ble_eq_true rfl, Nat.le_of_ble_eq_true rfl⟩) hS (fun ad129 H locs hE130 hX hW hS => ?_)
        refine W.widen (k := 22) (n := 761) (by omega) (by omega) ?_
        show W _ _ _ _ _ _ _ _ _ _ _ _ _ _ _ (F0 m 95 ls [lh_r ad121 1 (some (gvN S117 1))])
        rw [lh_rE hE130 L101] at hl
        rw [lh_rE hE130 L71] at hl
        rw [lh_rE hE130 L_t] at hl
        rw [lh_rE hE130 L124]
        have hE : lh_E S ad ad129 := lh_E.trans hE hm hE130
        have m131 : ∀ b, gvN S120 b ≤ gvN S127 b := hX.1
        have L101 : ∀ j, some (gvN S94 1) = some j → j < gvN S127 1 := fun j h => Nat.lt_of_lt_of_le (L101 j h) (m131 _)
        have L71 : ∀ j, r65 = some j → j < gvN S127 2 := fun j h => Nat.lt_of_lt_of_le (L71 j h) (m131 _)
        have L_t : ∀ j, some t = some j → j < gvN S127 9 := fun j h => Nat.lt_of_lt_of_le (L_t j h) (m131 _)
        have L124 : ∀ j, some (gvN S117 1) = some j → j < gvN S127 1 := fun j h => Nat.lt_of_lt_of_le (L124 j h) (m131 _)
        have hm : ∀ b, gvN S b ≤ gvN S127 b := lh_le_trans hm m131
        have ok := lh_W_ok hW
        refine lh_astore_n (i := 3) (lv' := [(3, lh_r ad129 1 (some (gvN S117 1))), (2, .int (2 : Int32)), (1, lh_r ad129 2 r65), (0, lh_r ad129 9 (some t))]) hx hb dX9_init_95 rfl hl (by decide) (by first | rfl | simp [lh_cat_r, lh_cat_i, lh_cat_j]) (fun ls hl => ?_)
        refine lh_aload_n hx hb dX9_init_96 rfl (lv_at hl 3 rfl) ?_
        have L132 : ∀ j, gvR S127 9 t 0 = some j → j < gvN S127 21 := fun j h => ok _ _ _ _ j (L_t _ rfl) rfl h
        refine lh_get (a := 9) (k := 0) (N := 10) (C := RX9) (T := TX9) (own := RX9) (ref := "LoaderModels") hx hb hts (fun _ h => (List.mem_cons_of_mem _ (List.mem_append_left _ (List.mem_append_left _ (List.mem_append_left _ (List.mem_append_left _ (List.mem_append_left _ (List.mem_append_right _ h)))))))) hown hK hW rfl (L_t _ rfl) rfl rfl rfl (by decide) (hts (.fieldLink RX9 13 "LoaderModels" "files" "[LLoaderModels$ClassFile;") (List.mem_cons_of_mem _ (List.mem_append_left _ (List.mem_append_left _ (List.mem_append_left _ (List.mem_append_left _ (List.mem_append_left _ (List.mem_append_left _ (List.mem_append_left _ (List.mem_of_getElem? (i := 4) rfl)))))))))) (fun _ h9 => h9) dX9_init_97 (v := lh_r ad129 21 (gvR S127 9 t 0)) rfl ?_
        refine lv_iload_n hx hb dX9_init_100 rfl (lv_at hl 1 rfl) ?_
        refine lh_aload_n hx hb dX9_init_101 rfl (lv_at hl 0 rfl) ?_
        obtain ⟨x133, hx133, hf⟩ := dc_nn_ok hf
        obtain ⟨g134, hf⟩ := dc_gd_ok hf
        obtain ⟨S135, eS135, hf⟩ := dc_let_ok hf
        refine lh_ast_r (a := 21) (t0 := 4) (t := 1) hx hb hK hW hS hx133 (L132 _ hx133) rfl rfl (fun _ => rfl) rfl rfl L124 g134 dX9_init_102 (fun H locs hW hS => ?_)
        rw [← eS135] at hW
        have m136 : ∀ b, gvN S127 b ≤ gvN S135 b := by rw [eS135]; exact lh_mR
        have L124 : ∀ j, some (gvN S117 1) = some j → j < gvN S135 1 := fun j h => Nat.lt_of_lt_of_le (L124 j h) (m136 _)
        have L71 : ∀ j, r65 = some j → j < gvN S135 2 := fun j h => Nat.lt_of_lt_of_le (L71 j h) (m136 _)
        have L_t : ∀ j, some t = some j → j < gvN S135 9 := fun j h => Nat.lt_of_lt_of_le (L_t j h) (m136 _)
        have hm : ∀ b, gvN S b ≤ gvN S135 b := lh_le_trans hm m136
        have ok := lh_W_ok hW
        refine lh_aload_n hx hb dX9_init_103 rfl (lv_at hl 2 rfl) ?_
        have L137 : ∀ j, gvR S135 2 x90 3 = some j → j < gvN S135 12 := fun j h => ok _ _ _ _ j (L71 _ hx90) rfl h
        refine lh_get (a := 2) (k := 3) (N := 7) (C := RX2) (T := TX2) (own := RX9) (ref := "LoaderModels$Loader") hx hb hts (fun _ h => (List.mem_cons_of_mem _ (List.mem_append_left _ (List.mem_append_right _ h)))) hown hK hW hx90 (L71 _ hx90) rfl rfl rfl (by decide) (hts (.fieldLink RX9 55 "LoaderModels$Loader" "files" "[LLoaderModels$ClassFile;") (List.mem_cons_of_mem _ (List.mem_append_left _ (List.mem_append_left _ (List.mem_append_left _ (List.mem_append_left _ (List.mem_append_left _ (List.mem_append_left _ (List.mem_append_left _ (List.mem_of_getElem? (i := 20) rfl)))))))))) (fun _ h9 => h9) dX9_init_104 (v := lh_r ad129 12 (gvR S135 2 x90 3)) rfl ?_
        refine lv_iload_n hx hb dX9_init_107 rfl (lv_at hl 1 rfl) ?_
        refine lh_aload_n hx hb dX9_init_108 rfl (lv_at hl 0 rfl) ?_
        obtain ⟨x138, hx138, hf⟩ := dc_nn_ok hf
        obtain ⟨g139, hf⟩ := dc_gd_ok hf
        obtain ⟨S140, eS140, hf⟩ := dc_let_ok hf
        refine lh_ast_r (a := 12) (t0 := 4) (t := 1) hx hb hK hW hS hx138 (L137 _ hx138) rfl rfl (fun _ => rfl) rfl rfl L124 g139 dX9_init_109 (fun H locs hW hS => ?_)
        rw [← eS140] at hW
        have m141 : ∀ b, gvN S135 b ≤ gvN S140 b := by rw [eS140]; exact lh_mR
        have L124 : ∀ j, some (gvN S117 1) = some j → j < gvN S140 1 := fun j h => Nat.lt_of_lt_of_le (L124 j h) (m141 _)
        have L71 : ∀ j, r65 = some j → j < gvN S140 2 := fun j h => Nat.lt_of_lt_of_le (L71 j h) (m141 _)
        have L_t : ∀ j, some t = some j → j < gvN S140 9 := fun j h => Nat.lt_of_lt_of_le (L_t j h) (m141 _)
        have hm : ∀ b, gvN S b ≤ gvN S140 b := lh_le_trans hm m141
        have ok := lh_W_ok hW
        refine lv_iinc (v := (3 : Int32)) (lv' := [(2, .int (3 : Int32)), (3, lh_r ad129 1 (some (gvN S117 1))), (1, lh_r ad129 2 r65), (0, lh_r ad129 9 (some t))]) hx hb dX9_init_110 hl (k := 1) rfl (by first | rfl | decide) (by decide) (by first | rfl | simp [lh_cat_r, lh_cat_i, lh_cat_j]) (fun ls hl => ?_)
        refine lv_goto (tgt := 77) hx hb dX9_init_113 (by decide) ?_
        refine lv_iload_n hx hb dX9_init_77 rfl (lv_at hl 0 rfl) ?_
        refine lv_iconst (v := 5) hx hb dX9_init_78 (by decide) ?_
        refine lv_icmp_ge (tgt := 116) hx hb dX9_init_79 (by decide) (fun c142 => ?_) (fun c142 => ?_)
        · exact absurd c142 (by decide)
        · obtain ⟨S143, eS143, hf⟩ := dc_let_ok hf
          refine lh_new (a := 1) (N := 7) (C := RX1) (T := TX1) (own := RX9) hx hb hts (fun _ h => (List.mem_cons_of_mem _ (List.mem_append_left _ (List.mem_append_left _ (List.mem_append_right _ h))))) tyX1 tyX1_ok hown (hts (.classLink RX9 11 RX1) (List.mem_cons_of_mem _ (List.mem_append_left _ (List.mem_append_left _ (List.mem_append_left _ (List.mem_append_left _ (List.mem_append_left _ (List.mem_append_left _ (List.mem_append_left _ (List.mem_of_getElem? (i := 3) rfl)))))))))) (hts (.instantiable RX1 7) (List.mem_cons_of_mem _ (List.mem_append_left _ (List.mem_append_left _ (List.mem_append_left _ (List.mem_append_left _ (List.mem_append_left _ (List.mem_append_left _ (List.mem_append_left _ (List.mem_of_getElem? (i := 18) rfl)))))))))) (hts (.initialized RX1) (List.mem_cons_of_mem _ (List.mem_append_left _ (List.mem_append_left _ (List.mem_append_left _ (List.mem_append_left _ (List.mem_append_left _ (List.mem_append_left _ (List.mem_append_left _ (List.mem_of_getElem? (i := 19) rfl)))))))))) hK hW hS hA rfl rfl rfl (by decide +kernel) (Nat.le_of_ble_eq_true rfl) (Nat.le_of_ble_eq_true rfl) dX9_init_82 (fun ad144 H hE145 hW hS => ?_)
          rw [lh_rE hE145 L124] at hl
          rw [lh_rE hE145 L71] at hl
          rw [lh_rE hE145 L_t] at hl
          have hE : lh_E S ad ad144 := lh_E.trans hE hm hE145
          rw [← eS143] at hW
          have m146 : ∀ b, gvN S140 b ≤ gvN S143 b := by rw [eS143]; exact lh_mN
          have L124 : ∀ j, some (gvN S117 1) = some j → j < gvN S143 1 := fun j h => Nat.lt_of_lt_of_le (L124 j h) (m146 _)
          have L71 : ∀ j, r65 = some j → j < gvN S143 2 := fun j h => Nat.lt_of_lt_of_le (L71 j h) (m146 _)
          have L_t : ∀ j, some t = some j → j < gvN S143 9 := fun j h => Nat.lt_of_lt_of_le (L_t j h) (m146 _)
          have hm : ∀ b, gvN S b ≤ gvN S143 b := lh_le_trans hm m146
          have ok := lh_W_ok hW
          have L147 : ∀ j, some (gvN S140 1) = some j → j < gvN S143 1 := lh_ls (by rw [eS143]; exact lh_nN)
          refine lv_dup hx hb dX9_init_85 lh_cat_r ?_
          refine lv_iload_n hx hb dX9_init_86 rfl (lv_at hl 0 rfl) ?_
          refine lv_iload_n hx hb dX9_init_87 rfl (lv_at hl 0 rfl) ?_
          refine lv_iload_n hx hb dX9_init_88 rfl (lv_at hl 0 rfl) ?_
          refine lv_iconst (v := 0) hx hb dX9_init_89 (by decide) ?_
          refine lv_iconst (v := 1) hx hb dX9_init_90 (by decide) ?_
          refine lv_iconst (v := 0) hx hb dX9_init_91 (by decide) ?_
          obtain ⟨r149, S150, k151, hf⟩ := dc_bd_ok hf
          refine lh_callA (S' := S150) (lh_ri ⟨hx, hb, hml, hown, hts⟩ rfl (As := [.int (3 : Int32), .int (3 : Int32), .int (3 : Int32), .int (0 : Int32), .int (1 : Int32), .int (0 : Int32)]) (rest := [lh_r ad144 1 (some (gvN S140 1))]) (k := 1) (c_X1_init l D cT n S143 ad144 A H.size (fun q9 h9 => hA q9 (Nat.le_trans hS.1 h9)) (gvN S140 1) (3 : Int32) (3 : Int32) (3 : Int32) (0 : Int32) (1 : Int32) (0 : Int32) r149 S150 k151 L147) (cwI 6 hts gX9_init_X1_init rfl rfl rfl (hts (.initialized RX1) (List.mem_cons_of_mem _ (List.mem_append_left _ (List.mem_append_left _ (List.mem_append_left _ (List.mem_append_left _ (List.mem_append_left _ (List.mem_append_left _ (List.mem_append_left _ (List.mem_of_getElem? (i := 19) rfl)))))))))) (hts (.methodLink RX9 52 yX1_init) (List.mem_cons_of_mem _ (List.mem_append_left _ (List.mem_append_left _ (List.mem_append_left _ (List.mem_append_left _ (List.mem_append_left _ (List.mem_append_left _ (List.mem_append_right _ (List.mem_append_right _ (List.mem_append_left _ (List.mem_of_getElem? (i := 17) rfl)))))))))))) (hts (.instanceMethod yX1_init) (List.mem_cons_of_mem _ (List.mem_append_left _ (List.mem_append_left _ (List.mem_append_left _ (List.mem_append_left _ (List.mem_append_left _ (List.mem_append_left _ (List.mem_append_right _ (List.mem_append_right _ (List.mem_append_left _ (List.mem_of_getElem? (i := 18) rfl)))))))))))) rfl (by decide +kernel) ⟨Nat.le_of_ble_eq_true rfl, Nat.le_of_ble_eq_true rfl⟩) hK hN hW rfl hl.1 rfl (by simp [lh_cat_r, lh_cat_i, lh_cat_j]) dX9_init_92 ⟨Nat.le_of_ble_eq_true rfl, Nat.le_of_ble_eq_true rfl⟩) hS (fun ad152 H locs hE153 hX hW hS => ?_)
          refine W.widen (k := 24) (n := 772) (by omega) (by omega) ?_
          show W _ _ _ _ _ _ _ _ _ _ _ _ _ _ _ (F0 m 95 ls [lh_r ad144 1 (some (gvN S140 1))])
          rw [lh_rE hE153 L124] at hl
          rw [lh_rE hE153 L71] at hl
          rw [lh_rE hE153 L_t] at hl
          rw [lh_rE hE153 L147]
          have hE : lh_E S ad ad152 := lh_E.trans hE hm hE153
          have m154 : ∀ b, gvN S143 b ≤ gvN S150 b := hX.1
          have L124 : ∀ j, some (gvN S117 1) = some j → j < gvN S150 1 := fun j h => Nat.lt_of_lt_of_le (L124 j h) (m154 _)
          have L71 : ∀ j, r65 = some j → j < gvN S150 2 := fun j h => Nat.lt_of_lt_of_le (L71 j h) (m154 _)
          have L_t : ∀ j, some t = some j → j < gvN S150 9 := fun j h => Nat.lt_of_lt_of_le (L_t j h) (m154 _)
          have L147 : ∀ j, some (gvN S140 1) = some j → j < gvN S150 1 := fun j h => Nat.lt_of_lt_of_le (L147 j h) (m154 _)
          have hm : ∀ b, gvN S b ≤ gvN S150 b := lh_le_trans hm m154
          have ok := lh_W_ok hW
          refine lh_astore_n (i := 3) (lv' := [(3, lh_r ad152 1 (some (gvN S140 1))), (2, .int (3 : Int32)), (1, lh_r ad152 2 r65), (0, lh_r ad152 9 (some t))]) hx hb dX9_init_95 rfl hl (by decide) (by first | rfl | simp [lh_cat_r, lh_cat_i, lh_cat_j]) (fun ls hl => ?_)
          refine lh_aload_n hx hb dX9_init_96 rfl (lv_at hl 3 rfl) ?_
          have L155 : ∀ j, gvR S150 9 t 0 = some j → j < gvN S150 21 := fun j h => ok _ _ _ _ j (L_t _ rfl) rfl h
          refine lh_get (a := 9) (k := 0) (N := 10) (C := RX9) (T := TX9) (own := RX9) (ref := "LoaderModels") hx hb hts (fun _ h => (List.mem_cons_of_mem _ (List.mem_append_left _ (List.mem_append_left _ (List.mem_append_left _ (List.mem_append_left _ (List.mem_append_left _ (List.mem_append_right _ h)))))))) hown hK hW rfl (L_t _ rfl) rfl rfl rfl (by decide) (hts (.fieldLink RX9 13 "LoaderModels" "files" "[LLoaderModels$ClassFile;") (List.mem_cons_of_mem _ (List.mem_append_left _ (List.mem_append_left _ (List.mem_append_left _ (List.mem_append_left _ (List.mem_append_left _ (List.mem_append_left _ (List.mem_append_left _ (List.mem_of_getElem? (i := 4) rfl)))))))))) (fun _ h9 => h9) dX9_init_97 (v := lh_r ad152 21 (gvR S150 9 t 0)) rfl ?_
          refine lv_iload_n hx hb dX9_init_100 rfl (lv_at hl 1 rfl) ?_
          refine lh_aload_n hx hb dX9_init_101 rfl (lv_at hl 0 rfl) ?_
          obtain ⟨x156, hx156, hf⟩ := dc_nn_ok hf
          obtain ⟨g157, hf⟩ := dc_gd_ok hf
          obtain ⟨S158, eS158, hf⟩ := dc_let_ok hf
          refine lh_ast_r (a := 21) (t0 := 4) (t := 1) hx hb hK hW hS hx156 (L155 _ hx156) rfl rfl (fun _ => rfl) rfl rfl L147 g157 dX9_init_102 (fun H locs hW hS => ?_)
          rw [← eS158] at hW
          have m159 : ∀ b, gvN S150 b ≤ gvN S158 b := by rw [eS158]; exact lh_mR
          have L147 : ∀ j, some (gvN S140 1) = some j → j < gvN S158 1 := fun j h => Nat.lt_of_lt_of_le (L147 j h) (m159 _)
          have L71 : ∀ j, r65 = some j → j < gvN S158 2 := fun j h => Nat.lt_of_lt_of_le (L71 j h) (m159 _)
          have L_t : ∀ j, some t = some j → j < gvN S158 9 := fun j h => Nat.lt_of_lt_of_le (L_t j h) (m159 _)
          have hm : ∀ b, gvN S b ≤ gvN S158 b := lh_le_trans hm m159
          have ok := lh_W_ok hW
          refine lh_aload_n hx hb dX9_init_103 rfl (lv_at hl 2 rfl) ?_
          have L160 : ∀ j, gvR S158 2 x90 3 = some j → j < gvN S158 12 := fun j h => ok _ _ _ _ j (L71 _ hx90) rfl h
          refine lh_get (a := 2) (k := 3) (N := 7) (C := RX2) (T := TX2) (own := RX9) (ref := "LoaderModels$Loader") hx hb hts (fun _ h => (List.mem_cons_of_mem _ (List.mem_append_left _ (List.mem_append_right _ h)))) hown hK hW hx90 (L71 _ hx90) rfl rfl rfl (by decide) (hts (.fieldLink RX9 55 "LoaderModels$Loader" "files" "[LLoaderModels$ClassFile;") (List.mem_cons_of_mem _ (List.mem_append_left _ (List.mem_append_left _ (List.mem_append_left _ (List.mem_append_left _ (List.mem_append_left _ (List.mem_append_left _ (List.mem_append_left _ (List.mem_of_getElem? (i := 20) rfl)))))))))) (fun _ h9 => h9) dX9_init_104 (v := lh_r ad152 12 (gvR S158 2 x90 3)) rfl ?_
          refine lv_iload_n hx hb dX9_init_107 rfl (lv_at hl 1 rfl) ?_
          refine lh_aload_n hx hb dX9_init_108 rfl (lv_at hl 0 rfl) ?_
          obtain ⟨x161, hx161, hf⟩ := dc_nn_ok hf
          obtain ⟨g162, hf⟩ := dc_gd_ok hf
          obtain ⟨S163, eS163, hf⟩ := dc_let_ok hf
          refine lh_ast_r (a := 12) (t0 := 4) (t := 1) hx hb hK hW hS hx161 (L160 _ hx161) rfl rfl (fun _ => rfl) rfl rfl L147 g162 dX9_init_109 (fun H locs hW hS => ?_)
          rw [← eS163] at hW
          have m164 : ∀ b, gvN S158 b ≤ gvN S163 b := by rw [eS163]; exact lh_mR
          have L147 : ∀ j, some (gvN S140 1) = some j → j < gvN S163 1 := fun j h => Nat.lt_of_lt_of_le (L147 j h) (m164 _)
          have L71 : ∀ j, r65 = some j → j < gvN S163 2 := fun j h => Nat.lt_of_lt_of_le (L71 j h) (m164 _)
          have L_t : ∀ j, some t = some j → j < gvN S163 9 := fun j h => Nat.lt_of_lt_of_le (L_t j h) (m164 _)
          have hm : ∀ b, gvN S b ≤ gvN S163 b := lh_le_trans hm m164
          have ok := lh_W_ok hW
          refine lv_iinc (v := (4 : Int32)) (lv' := [(2, .int (4 : Int32)), (3, lh_r ad152 1 (some (gvN S140 1))), (1, lh_r ad152 2 r65), (0, lh_r ad152 9 (some t))]) hx hb dX9_init_110 hl (k := 1) rfl (by first | rfl | decide) (by decide) (by first | rfl | simp [lh_cat_r, lh_cat_i, lh_cat_j]) (fun ls hl => ?_)
          refine lv_goto (tgt := 77) hx hb dX9_init_113 (by decide) ?_
          refine lv_iload_n hx hb dX9_init_77 rfl (lv_at hl 0 rfl) ?_
          refine lv_iconst (v := 5) hx hb dX9_init_78 (by decide) ?_
          refine lv_icmp_ge (tgt := 116) hx hb dX9_init_79 (by decide) (fun c165 => ?_) (fun c165 => ?_)
          · exact absurd c165 (by decide)
          · obtain ⟨S166, eS166, hf⟩ := dc_let_ok hf
            refine lh_new (a := 1) (N := 7) (C := RX1) (T := TX1) (own := RX9) hx hb hts (fun _ h => (List.mem_cons_of_mem _ (List.mem_append_left _ (List.mem_append_left _ (List.mem_append_right _ h))))) tyX1 tyX1_ok hown (hts (.classLink RX9 11 RX1) (List.mem_cons_of_mem _ (List.mem_append_left _ (List.mem_append_left _ (List.mem_append_left _ (List.mem_append_left _ (List.mem_append_left _ (List.mem_append_left _ (List.mem_append_left _ (List.mem_of_getElem? (i := 3) rfl)))))))))) (hts (.instantiable RX1 7) (List.mem_cons_of_mem _ (List.mem_append_left _ (List.mem_append_left _ (List.mem_append_left _ (List.mem_append_left _ (List.mem_append_left _ (List.mem_append_left _ (List.mem_append_left _ (List.mem_of_getElem? (i := 18) rfl)))))))))) (hts (.initialized RX1) (List.mem_cons_of_mem _ (List.mem_append_left _ (List.mem_append_left _ (List.mem_append_left _ (List.mem_append_left _ (List.mem_append_left _ (List.mem_append_left _ (List.mem_append_left _ (List.mem_of_getElem? (i := 19) rfl)))))))))) hK hW hS hA rfl rfl rfl (by decide +kernel) (Nat.le_of_ble_eq_true rfl) (Nat.le_of_ble_eq_true rfl) dX9_init_82 (fun ad167 H hE168 hW hS => ?_)
            rw [lh_rE hE168 L147] at hl
            rw [lh_rE hE168 L71] at hl
            rw [lh_rE hE168 L_t] at hl
            have hE : lh_E S ad ad167 := lh_E.trans hE hm hE168
            rw [← eS166] at hW
            have m169 : ∀ b, gvN S163 b ≤ gvN S166 b := by rw [eS166]; exact lh_mN
            have L147 : ∀ j, some (gvN S140 1) = some j → j < gvN S166 1 := fun j h => Nat.lt_of_lt_of_le (L147 j h) (m169 _)
            have L71 : ∀ j, r65 = some j → j < gvN S166 2 := fun j h => Nat.lt_of_lt_of_le (L71 j h) (m169 _)
            have L_t : ∀ j, some t = some j → j < gvN S166 9 := fun j h => Nat.lt_of_lt_of_le (L_t j h) (m169 _)
            have hm : ∀ b, gvN S b ≤ gvN S166 b := lh_le_trans hm m169
            have ok := lh_W_ok hW
            have L170 : ∀ j, some (gvN S163 1) = some j → j < gvN S166 1 := lh_ls (by rw [eS166]; exact lh_nN)
            refine lv_dup hx hb dX9_init_85 lh_cat_r ?_
            refine lv_iload_n hx hb dX9_init_86 rfl (lv_at hl 0 rfl) ?_
            refine lv_iload_n hx hb dX9_init_87 rfl (lv_at hl 0 rfl) ?_
            refine lv_iload_n hx hb dX9_init_88 rfl (lv_at hl 0 rfl) ?_
            refine lv_iconst (v := 0) hx hb dX9_init_89 (by decide) ?_
            refine lv_iconst (v := 1) hx hb dX9_init_90 (by decide) ?_
            refine lv_iconst (v := 0) hx hb dX9_init_91 (by decide) ?_
            obtain ⟨r172, S173, k174, hf⟩ := dc_bd_ok hf
            refine lh_callA (S' := S173) (lh_ri ⟨hx, hb, hml, hown, hts⟩ rfl (As := [.int (4 : Int32), .int (4 : Int32), .int (4 : Int32), .int (0 : Int32), .int (1 : Int32), .int (0 : Int32)]) (rest := [lh_r ad167 1 (some (gvN S163 1))]) (k := 1) (c_X1_init l D cT n S166 ad167 A H.size (fun q9 h9 => hA q9 (Nat.le_trans hS.1 h9)) (gvN S163 1) (4 : Int32) (4 : Int32) (4 : Int32) (0 : Int32) (1 : Int32) (0 : Int32) r172 S173 k174 L170) (cwI 6 hts gX9_init_X1_init rfl rfl rfl (hts (.initialized RX1) (List.mem_cons_of_mem _ (List.mem_append_left _ (List.mem_append_left _ (List.mem_append_left _ (List.mem_append_left _ (List.mem_append_left _ (List.mem_append_left _ (List.mem_append_left _ (List.mem_of_getElem? (i := 19) rfl)))))))))) (hts (.methodLink RX9 52 yX1_init) (List.mem_cons_of_mem _ (List.mem_append_left _ (List.mem_append_left _ (List.mem_append_left _ (List.mem_append_left _ (List.mem_append_left _ (List.mem_append_left _ (List.mem_append_right _ (List.mem_append_right _ (List.mem_append_left _ (List.mem_of_getElem? (i := 17) rfl)))))))))))) (hts (.instanceMethod yX1_init) (List.mem_cons_of_mem _ (List.mem_append_left _ (List.mem_append_left _ (List.mem_append_left _ (List.mem_append_left _ (List.mem_append_left _ (List.mem_append_left _ (List.mem_append_right _ (List.mem_append_right _ (List.mem_append_left _ (List.mem_of_getElem? (i := 18) rfl)))))))))))) rfl (by decide +kernel) ⟨Nat.le_of_ble_eq_true rfl, Nat.le_of_ble_eq_true rfl⟩) hK hN hW rfl hl.1 rfl (by simp [lh_cat_r, lh_cat_i, lh_cat_j]) dX9_init_92 ⟨Nat.le_of_ble_eq_true rfl, Nat.le_of_ble_eq_true rfl⟩) hS (fun ad175 H locs hE176 hX hW hS => ?_)
            refine W.widen (k := 26) (n := 783) (by omega) (by omega) ?_
            show W _ _ _ _ _ _ _ _ _ _ _ _ _ _ _ (F0 m 95 ls [lh_r ad167 1 (some (gvN S163 1))])
            rw [lh_rE hE176 L147] at hl
            rw [lh_rE hE176 L71] at hl
            rw [lh_rE hE176 L_t] at hl
            rw [lh_rE hE176 L170]
            have hE : lh_E S ad ad175 := lh_E.trans hE hm hE176
            have m177 : ∀ b, gvN S166 b ≤ gvN S173 b := hX.1
            have L147 : ∀ j, some (gvN S140 1) = some j → j < gvN S173 1 := fun j h => Nat.lt_of_lt_of_le (L147 j h) (m177 _)
            have L71 : ∀ j, r65 = some j → j < gvN S173 2 := fun j h => Nat.lt_of_lt_of_le (L71 j h) (m177 _)
            have L_t : ∀ j, some t = some j → j < gvN S173 9 := fun j h => Nat.lt_of_lt_of_le (L_t j h) (m177 _)
            have L170 : ∀ j, some (gvN S163 1) = some j → j < gvN S173 1 := fun j h => Nat.lt_of_lt_of_le (L170 j h) (m177 _)
            have hm : ∀ b, gvN S b ≤ gvN S173 b := lh_le_trans hm m177
            have ok := lh_W_ok hW
            refine lh_astore_n (i := 3) (lv' := [(3, lh_r ad175 1 (some (gvN S163 1))), (2, .int (4 : Int32)), (1, lh_r ad175 2 r65), (0, lh_r ad175 9 (some t))]) hx hb dX9_init_95 rfl hl (by decide) (by first | rfl | simp [lh_cat_r, lh_cat_i, lh_cat_j]) (fun ls hl => ?_)
            refine lh_aload_n hx hb dX9_init_96 rfl (lv_at hl 3 rfl) ?_
            have L178 : ∀ j, gvR S173 9 t 0 = some j → j < gvN S173 21 := fun j h => ok _ _ _ _ j (L_t _ rfl) rfl h
            refine lh_get (a := 9) (k := 0) (N := 10) (C := RX9) (T := TX9) (own := RX9) (ref := "LoaderModels") hx hb hts (fun _ h => (List.mem_cons_of_mem _ (List.mem_append_left _ (List.mem_append_left _ (List.mem_append_left _ (List.mem_append_left _ (List.mem_append_left _ (List.mem_append_right _ h)))))))) hown hK hW rfl (L_t _ rfl) rfl rfl rfl (by decide) (hts (.fieldLink RX9 13 "LoaderModels" "files" "[LLoaderModels$ClassFile;") (List.mem_cons_of_mem _ (List.mem_append_left _ (List.mem_append_left _ (List.mem_append_left _ (List.mem_append_left _ (List.mem_append_left _ (List.mem_append_left _ (List.mem_append_left _ (List.mem_of_getElem? (i := 4) rfl)))))))))) (fun _ h9 => h9) dX9_init_97 (v := lh_r ad175 21 (gvR S173 9 t 0)) rfl ?_
            refine lv_iload_n hx hb dX9_init_100 rfl (lv_at hl 1 rfl) ?_
            refine lh_aload_n hx hb dX9_init_101 rfl (lv_at hl 0 rfl) ?_
            obtain ⟨x179, hx179, hf⟩ := dc_nn_ok hf
            obtain ⟨g180, hf⟩ := dc_gd_ok hf
            obtain ⟨S181, eS181, hf⟩ := dc_let_ok hf
            refine lh_ast_r (a := 21) (t0 := 4) (t := 1) hx hb hK hW hS hx179 (L178 _ hx179) rfl rfl (fun _ => rfl) rfl rfl L170 g180 dX9_init_102 (fun H locs hW hS => ?_)
            rw [← eS181] at hW
            have m182 : ∀ b, gvN S173 b ≤ gvN S181 b := by rw [eS181]; exact lh_mR
            have L170 : ∀ j, some (gvN S163 1) = some j → j < gvN S181 1 := fun j h => Nat.lt_of_lt_of_le (L170 j h) (m182 _)
            have L71 : ∀ j, r65 = some j → j < gvN S181 2 := fun j h => Nat.lt_of_lt_of_le (L71 j h) (m182 _)
            have L_t : ∀ j, some t = some j → j < gvN S181 9 := fun j h => Nat.lt_of_lt_of_le (L_t j h) (m182 _)
            have hm : ∀ b, gvN S b ≤ gvN S181 b := lh_le_trans hm m182
            have ok := lh_W_ok hW
            refine lh_aload_n hx hb dX9_init_103 rfl (lv_at hl 2 rfl) ?_
            have L183 : ∀ j, gvR S181 2 x90 3 = some j → j < gvN S181 12 := fun j h => ok _ _ _ _ j (L71 _ hx90) rfl h
            refine lh_get (a := 2) (k := 3) (N := 7) (C := RX2) (T := TX2) (own := RX9) (ref := "LoaderModels$Loader") hx hb hts (fun _ h => (List.mem_cons_of_mem _ (List.mem_append_left _ (List.mem_append_right _ h)))) hown hK hW hx90 (L71 _ hx90) rfl rfl rfl (by decide) (hts (.fieldLink RX9 55 "LoaderModels$Loader" "files" "[LLoaderModels$ClassFile;") (List.mem_cons_of_mem _ (List.mem_append_left _ (List.mem_append_left _ (List.mem_append_left _ (List.mem_append_left _ (List.mem_append_left _ (List.mem_append_left _ (List.mem_append_left _ (List.mem_of_getElem? (i := 20) rfl)))))))))) (fun _ h9 => h9) dX9_init_104 (v := lh_r ad175 12 (gvR S181 2 x90 3)) rfl ?_
            refine lv_iload_n hx hb dX9_init_107 rfl (lv_at hl 1 rfl) ?_
            refine lh_aload_n hx hb dX9_init_108 rfl (lv_at hl 0 rfl) ?_
            obtain ⟨x184, hx184, hf⟩ := dc_nn_ok hf
            obtain ⟨g185, hf⟩ := dc_gd_ok hf
            obtain ⟨S186, eS186, hf⟩ := dc_let_ok hf
            refine lh_ast_r (a := 12) (t0 := 4) (t := 1) hx hb hK hW hS hx184 (L183 _ hx184) rfl rfl (fun _ => rfl) rfl rfl L170 g185 dX9_init_109 (fun H locs hW hS => ?_)
            rw [← eS186] at hW
            have m187 : ∀ b, gvN S181 b ≤ gvN S186 b := by rw [eS186]; exact lh_mR
            have L170 : ∀ j, some (gvN S163 1) = some j → j < gvN S186 1 := fun j h => Nat.lt_of_lt_of_le (L170 j h) (m187 _)
            have L71 : ∀ j, r65 = some j → j < gvN S186 2 := fun j h => Nat.lt_of_lt_of_le (L71 j h) (m187 _)
            have L_t : ∀ j, some t = some j → j < gvN S186 9 := fun j h => Nat.lt_of_lt_of_le (L_t j h) (m187 _)
            have hm : ∀ b, gvN S b ≤ gvN S186 b := lh_le_trans hm m187
            have ok := lh_W_ok hW
            refine lv_iinc (v := (5 : Int32)) (lv' := [(2, .int (5 : Int32)), (3, lh_r ad175 1 (some (gvN S163 1))), (1, lh_r ad175 2 r65), (0, lh_r ad175 9 (some t))]) hx hb dX9_init_110 hl (k := 1) rfl (by first | rfl | decide) (by decide) (by first | rfl | simp [lh_cat_r, lh_cat_i, lh_cat_j]) (fun ls hl => ?_)
            refine lv_goto (tgt := 77) hx hb dX9_init_113 (by decide) ?_
            refine lv_iload_n hx hb dX9_init_77 rfl (lv_at hl 0 rfl) ?_
            refine lv_iconst (v := 5) hx hb dX9_init_78 (by decide) ?_
            refine lv_icmp_ge (tgt := 116) hx hb dX9_init_79 (by decide) (fun c188 => ?_) (fun c188 => ?_)
            · refine lh_aload_n hx hb dX9_init_116 rfl (lv_at hl 3 rfl) ?_
              refine lv_iconst (v := 5) hx hb dX9_init_117 (by decide) ?_
              obtain ⟨S189, eS189, hf⟩ := dc_let_ok hf
              refine lh_put (S' := S189) (a := 9) (k := 1) (N := 10) (C := RX9) (T := TX9) (own := RX9) (ref := "LoaderModels") (ty := .int) hx hb hts (fun _ h => (List.mem_cons_of_mem _ (List.mem_append_left _ (List.mem_append_left _ (List.mem_append_left _ (List.mem_append_left _ (List.mem_append_left _ (List.mem_append_right _ h)))))))) tyX9 tyX9_ok nmX9 hown hK hW hS rfl (L_t _ rfl) rfl rfl rfl (by decide) (hts (.fieldLink RX9 58 "LoaderModels" "fileCount" "I") (List.mem_cons_of_mem _ (List.mem_append_left _ (List.mem_append_left _ (List.mem_append_left _ (List.mem_append_left _ (List.mem_append_left _ (List.mem_append_left _ (List.mem_append_left _ (List.mem_of_getElem? (i := 21) rfl)))))))))) (fun _ h9 => h9) (Or.inl rfl) (by decide +kernel) rfl rfl (fun q9 => by rw [eS189]; exact lh_chI rfl q9) dX9_init_118 (fun H locs hW hS => ?_)
              have m190 : ∀ b, gvN S186 b ≤ gvN S189 b := by rw [eS189]; exact lh_mI
              have L170 : ∀ j, some (gvN S163 1) = some j → j < gvN S189 1 := fun j h => Nat.lt_of_lt_of_le (L170 j h) (m190 _)
              have L71 : ∀ j, r65 = some j → j < gvN S189 2 := fun j h => Nat.lt_of_lt_of_le (L71 j h) (m190 _)
              have L_t : ∀ j, some t = some j → j < gvN S189 9 := fun j h => Nat.lt_of_lt_of_le (L_t j h) (m190 _)
              have hm : ∀ b, gvN S b ≤ gvN S189 b := lh_le_trans hm m190
              have ok := lh_W_ok hW
              obtain ⟨rfl, rfl⟩ := dc_ret hf
              exact W.vret hx hb hr (fun t9 ht9 hW9 => ⟨⟨ad175, hE, rfl, ⟨hm, trivial⟩, by rw [ht9]; exact hW⟩, hS.F ht9⟩) hS.2.2 dX9_init_121
            · exact absurd c188 (by decide)
