def f_X10_init (n : Nat) (S : lh_S) (t : Nat) : Option (Unit × lh_S) :=
  dc_let (pvN S 32 30) fun S1 =>
  dc_let (pvR S1 10 t 2 (some (gvN S 32))) fun S7 =>
  dc_let (pvN S7 33 30) fun S9 =>
  dc_let (pvR S9 10 t 3 (some (gvN S7 33))) fun S15 =>
  dc_let (pvN S15 34 30) fun S17 =>
  dc_let (pvR S17 10 t 4 (some (gvN S15 34))) fun S23 =>
  dc_let (pvN S23 35 30) fun S25 =>
  dc_let (pvR S25 10 t 5 (some (gvN S23 35))) fun S31 =>
  dc_let (pvN S31 36 30) fun S33 =>
  dc_let (pvR S33 10 t 6 (some (gvN S31 36))) fun S39 =>
  dc_let (pvN S39 37 120) fun S41 =>
  dc_let (pvR S41 10 t 7 (some (gvN S39 37))) fun S47 =>
  dc_let (pvN S47 38 120) fun S49 =>
  dc_let (pvR S49 10 t 8 (some (gvN S47 38))) fun S55 =>
  dc_let (pvN S55 39 120) fun S57 =>
  dc_let (pvR S57 10 t 9 (some (gvN S55 39))) fun S63 =>
  dc_let (pvN S63 41 8) fun S65 =>
  dc_let (pvR S65 10 t 11 (some (gvN S63 41))) fun S71 =>
  dc_let (pvN S71 42 8) fun S73 =>
  dc_let (pvR S73 10 t 12 (some (gvN S71 42))) fun S79 =>
  dc_let (pvN S79 43 320) fun S81 =>
  dc_let (pvR S81 10 t 13 (some (gvN S79 43))) fun S87 =>
  dc_let (pvN S87 44 320) fun S89 =>
  dc_let (pvR S89 10 t 14 (some (gvN S87 44))) fun S95 =>
  dc_let (pvN S95 45 320) fun S97 =>
  dc_let (pvR S97 10 t 15 (some (gvN S95 45))) fun S103 =>
  dc_let (pvN S103 46 320) fun S105 =>
  dc_let (pvR S105 10 t 16 (some (gvN S103 46))) fun S111 =>
  dc_let (pvN S111 48 40) fun S113 =>
  dc_let (pvR S113 10 t 18 (some (gvN S111 48))) fun S119 =>
  dc_let (pvN S119 49 40) fun S121 =>
  dc_let (pvR S121 10 t 19 (some (gvN S119 49))) fun S127 =>
  dc_let (pvN S127 50 40) fun S129 =>
  dc_let (pvR S129 10 t 20 (some (gvN S127 50))) fun S135 =>
  dc_let (pvN S135 51 40) fun S137 =>
  dc_let (pvR S137 10 t 21 (some (gvN S135 51))) fun S143 =>
  dc_let (pvN S143 52 40) fun S145 =>
  dc_let (pvR S145 10 t 22 (some (gvN S143 52))) fun S151 =>
  dc_let (pvN S151 53 40) fun S153 =>
  dc_let (pvR S153 10 t 23 (some (gvN S151 53))) fun S159 =>
  dc_let (pvN S159 56 30) fun S161 =>
  dc_let (pvR S161 10 t 26 (some (gvN S159 56))) fun S167 =>
  dc_let (pvN S167 57 700) fun S169 =>
  dc_let (pvR S169 10 t 27 (some (gvN S167 57))) fun S175 =>
  dc_let (pvN S175 58 700) fun S177 =>
  dc_let (pvR S177 10 t 28 (some (gvN S175 58))) fun S183 =>
  dc_let (pvN S183 59 700) fun S185 =>
  dc_let (pvR S185 10 t 29 (some (gvN S183 59))) fun S191 =>
  dc_let (pvN S191 60 700) fun S193 =>
  dc_let (pvR S193 10 t 30 (some (gvN S191 60))) fun S199 =>
  dc_let (pvN S199 61 700) fun S201 =>
  dc_let (pvR S201 10 t 31 (some (gvN S199 61))) fun S207 =>
  dc_let (pvN S207 65 41) fun S209 =>
  dc_let (pvR S209 10 t 35 (some (gvN S207 65))) fun S215 =>
  dc_let (pvN S215 67 60) fun S217 =>
  dc_let (pvR S217 10 t 37 (some (gvN S215 67))) fun S223 =>
  dc_let (pvN S223 69 20) fun S225 =>
  dc_let (pvR S225 10 t 39 (some (gvN S223 69))) fun S231 =>
  dc_let (pvN S231 70 20) fun S233 =>
  dc_let (pvR S233 10 t 40 (some (gvN S231 70))) fun S239 =>
  dc_let (pvN S239 71 160) fun S241 =>
  dc_let (pvR S241 10 t 41 (some (gvN S239 71))) fun S247 =>
  dc_bd (f_X10_loader n S247 t (0 : Int32)) fun r249 S250 =>
  dc_bd (f_X10_file n S250 t (0 : Int32) (0 : Int32) (0 : Int32) (1 : Int32) (0 : Int32)) fun r254 S255 =>
  dc_nn (gvR S255 10 t 13) fun x259 =>
  dc_gd ((0 : Int32) < 0 ∨ gvL S255 43 x259 ≤ ((0 : Int32)).toNatClampNeg) (
  dc_let (pvI S255 43 x259 ((0 : Int32)).toNatClampNeg (r254 + (1 : Int32))) fun S261 =>
  dc_bd (f_X10_file n S261 t (1 : Int32) (1 : Int32) (0 : Int32) (1 : Int32) (0 : Int32)) fun r264 S265 =>
  dc_nn (gvR S265 10 t 13) fun x269 =>
  dc_gd ((1 : Int32) < 0 ∨ gvL S265 43 x269 ≤ ((1 : Int32)).toNatClampNeg) (
  dc_let (pvI S265 43 x269 ((1 : Int32)).toNatClampNeg (r264 + (1 : Int32))) fun S271 =>
  dc_bd (f_X10_file n S271 t (2 : Int32) (2 : Int32) (0 : Int32) (1 : Int32) (0 : Int32)) fun r274 S275 =>
  dc_nn (gvR S275 10 t 13) fun x279 =>
  dc_gd ((2 : Int32) < 0 ∨ gvL S275 43 x279 ≤ ((2 : Int32)).toNatClampNeg) (
  dc_let (pvI S275 43 x279 ((2 : Int32)).toNatClampNeg (r274 + (1 : Int32))) fun S281 =>
  dc_bd (f_X10_file n S281 t (3 : Int32) (3 : Int32) (0 : Int32) (1 : Int32) (0 : Int32)) fun r284 S285 =>
  dc_nn (gvR S285 10 t 13) fun x289 =>
  dc_gd ((3 : Int32) < 0 ∨ gvL S285 43 x289 ≤ ((3 : Int32)).toNatClampNeg) (
  dc_let (pvI S285 43 x289 ((3 : Int32)).toNatClampNeg (r284 + (1 : Int32))) fun S291 =>
  dc_bd (f_X10_file n S291 t (4 : Int32) (4 : Int32) (0 : Int32) (1 : Int32) (0 : Int32)) fun r294 S295 =>
  dc_nn (gvR S295 10 t 13) fun x299 =>
  dc_gd ((4 : Int32) < 0 ∨ gvL S295 43 x299 ≤ ((4 : Int32)).toNatClampNeg) (
  dc_let (pvI S295 43 x299 ((4 : Int32)).toNatClampNeg (r294 + (1 : Int32))) fun S301 =>
  some ((), S301))))))
set_option maxHeartbeats 1000000 in
theorem m_X10_init {n : Nat} {S : lh_S} {t : Nat} {r : Unit} {S' : lh_S} (hf : f_X10_init n S t = some (r, S')) : ∀ b, gvN S b ≤ gvN S' b := by
  have hm : ∀ b, gvN S b ≤ gvN S b := fun _ => Nat.le_refl _
  unfold f_X10_init at hf
  obtain ⟨S1, eS1, hf⟩ := dc_let_ok hf
  have hm := lh_le_trans hm (show ∀ b, gvN S b ≤ gvN S1 b from by rw [eS1]; exact lh_mN)
  obtain ⟨S7, eS7, hf⟩ := dc_let_ok hf
  have hm := lh_le_trans hm (show ∀ b, gvN S1 b ≤ gvN S7 b from by rw [eS7]; exact lh_mR)
  obtain ⟨S9, eS9, hf⟩ := dc_let_ok hf
  have hm := lh_le_trans hm (show ∀ b, gvN S7 b ≤ gvN S9 b from by rw [eS9]; exact lh_mN)
  obtain ⟨S15, eS15, hf⟩ := dc_let_ok hf
  have hm := lh_le_trans hm (show ∀ b, gvN S9 b ≤ gvN S15 b from by rw [eS15]; exact lh_mR)
  obtain ⟨S17, eS17, hf⟩ := dc_let_ok hf
  have hm := lh_le_trans hm (show ∀ b, gvN S15 b ≤ gvN S17 b from by rw [eS17]; exact lh_mN)
  obtain ⟨S23, eS23, hf⟩ := dc_let_ok hf
  have hm := lh_le_trans hm (show ∀ b, gvN S17 b ≤ gvN S23 b from by rw [eS23]; exact lh_mR)
  obtain ⟨S25, eS25, hf⟩ := dc_let_ok hf
  have hm := lh_le_trans hm (show ∀ b, gvN S23 b ≤ gvN S25 b from by rw [eS25]; exact lh_mN)
  obtain ⟨S31, eS31, hf⟩ := dc_let_ok hf
  have hm := lh_le_trans hm (show ∀ b, gvN S25 b ≤ gvN S31 b from by rw [eS31]; exact lh_mR)
  obtain ⟨S33, eS33, hf⟩ := dc_let_ok hf
  have hm := lh_le_trans hm (show ∀ b, gvN S31 b ≤ gvN S33 b from by rw [eS33]; exact lh_mN)
  obtain ⟨S39, eS39, hf⟩ := dc_let_ok hf
  have hm := lh_le_trans hm (show ∀ b, gvN S33 b ≤ gvN S39 b from by rw [eS39]; exact lh_mR)
  obtain ⟨S41, eS41, hf⟩ := dc_let_ok hf
  have hm := lh_le_trans hm (show ∀ b, gvN S39 b ≤ gvN S41 b from by rw [eS41]; exact lh_mN)
  obtain ⟨S47, eS47, hf⟩ := dc_let_ok hf
  have hm := lh_le_trans hm (show ∀ b, gvN S41 b ≤ gvN S47 b from by rw [eS47]; exact lh_mR)
  obtain ⟨S49, eS49, hf⟩ := dc_let_ok hf
  have hm := lh_le_trans hm (show ∀ b, gvN S47 b ≤ gvN S49 b from by rw [eS49]; exact lh_mN)
  obtain ⟨S55, eS55, hf⟩ := dc_let_ok hf
  have hm := lh_le_trans hm (show ∀ b, gvN S49 b ≤ gvN S55 b from by rw [eS55]; exact lh_mR)
  obtain ⟨S57, eS57, hf⟩ := dc_let_ok hf
  have hm := lh_le_trans hm (show ∀ b, gvN S55 b ≤ gvN S57 b from by rw [eS57]; exact lh_mN)
  obtain ⟨S63, eS63, hf⟩ := dc_let_ok hf
  have hm := lh_le_trans hm (show ∀ b, gvN S57 b ≤ gvN S63 b from by rw [eS63]; exact lh_mR)
  obtain ⟨S65, eS65, hf⟩ := dc_let_ok hf
  have hm := lh_le_trans hm (show ∀ b, gvN S63 b ≤ gvN S65 b from by rw [eS65]; exact lh_mN)
  obtain ⟨S71, eS71, hf⟩ := dc_let_ok hf
  have hm := lh_le_trans hm (show ∀ b, gvN S65 b ≤ gvN S71 b from by rw [eS71]; exact lh_mR)
  obtain ⟨S73, eS73, hf⟩ := dc_let_ok hf
  have hm := lh_le_trans hm (show ∀ b, gvN S71 b ≤ gvN S73 b from by rw [eS73]; exact lh_mN)
  obtain ⟨S79, eS79, hf⟩ := dc_let_ok hf
  have hm := lh_le_trans hm (show ∀ b, gvN S73 b ≤ gvN S79 b from by rw [eS79]; exact lh_mR)
  obtain ⟨S81, eS81, hf⟩ := dc_let_ok hf
  have hm := lh_le_trans hm (show ∀ b, gvN S79 b ≤ gvN S81 b from by rw [eS81]; exact lh_mN)
  obtain ⟨S87, eS87, hf⟩ := dc_let_ok hf
  have hm := lh_le_trans hm (show ∀ b, gvN S81 b ≤ gvN S87 b from by rw [eS87]; exact lh_mR)
  obtain ⟨S89, eS89, hf⟩ := dc_let_ok hf
  have hm := lh_le_trans hm (show ∀ b, gvN S87 b ≤ gvN S89 b from by rw [eS89]; exact lh_mN)
  obtain ⟨S95, eS95, hf⟩ := dc_let_ok hf
  have hm := lh_le_trans hm (show ∀ b, gvN S89 b ≤ gvN S95 b from by rw [eS95]; exact lh_mR)
  obtain ⟨S97, eS97, hf⟩ := dc_let_ok hf
  have hm := lh_le_trans hm (show ∀ b, gvN S95 b ≤ gvN S97 b from by rw [eS97]; exact lh_mN)
  obtain ⟨S103, eS103, hf⟩ := dc_let_ok hf
  have hm := lh_le_trans hm (show ∀ b, gvN S97 b ≤ gvN S103 b from by rw [eS103]; exact lh_mR)
  obtain ⟨S105, eS105, hf⟩ := dc_let_ok hf
  have hm := lh_le_trans hm (show ∀ b, gvN S103 b ≤ gvN S105 b from by rw [eS105]; exact lh_mN)
  obtain ⟨S111, eS111, hf⟩ := dc_let_ok hf
  have hm := lh_le_trans hm (show ∀ b, gvN S105 b ≤ gvN S111 b from by rw [eS111]; exact lh_mR)
  obtain ⟨S113, eS113, hf⟩ := dc_let_ok hf
  have hm := lh_le_trans hm (show ∀ b, gvN S111 b ≤ gvN S113 b from by rw [eS113]; exact lh_mN)
  obtain ⟨S119, eS119, hf⟩ := dc_let_ok hf
  have hm := lh_le_trans hm (show ∀ b, gvN S113 b ≤ gvN S119 b from by rw [eS119]; exact lh_mR)
  obtain ⟨S121, eS121, hf⟩ := dc_let_ok hf
  have hm := lh_le_trans hm (show ∀ b, gvN S119 b ≤ gvN S121 b from by rw [eS121]; exact lh_mN)
  obtain ⟨S127, eS127, hf⟩ := dc_let_ok hf
  have hm := lh_le_trans hm (show ∀ b, gvN S121 b ≤ gvN S127 b from by rw [eS127]; exact lh_mR)
  obtain ⟨S129, eS129, hf⟩ := dc_let_ok hf
  have hm := lh_le_trans hm (show ∀ b, gvN S127 b ≤ gvN S129 b from by rw [eS129]; exact lh_mN)
  obtain ⟨S135, eS135, hf⟩ := dc_let_ok hf
  have hm := lh_le_trans hm (show ∀ b, gvN S129 b ≤ gvN S135 b from by rw [eS135]; exact lh_mR)
  obtain ⟨S137, eS137, hf⟩ := dc_let_ok hf
  have hm := lh_le_trans hm (show ∀ b, gvN S135 b ≤ gvN S137 b from by rw [eS137]; exact lh_mN)
  obtain ⟨S143, eS143, hf⟩ := dc_let_ok hf
  have hm := lh_le_trans hm (show ∀ b, gvN S137 b ≤ gvN S143 b from by rw [eS143]; exact lh_mR)
  obtain ⟨S145, eS145, hf⟩ := dc_let_ok hf
  have hm := lh_le_trans hm (show ∀ b, gvN S143 b ≤ gvN S145 b from by rw [eS145]; exact lh_mN)
  obtain ⟨S151, eS151, hf⟩ := dc_let_ok hf
  have hm := lh_le_trans hm (show ∀ b, gvN S145 b ≤ gvN S151 b from by rw [eS151]; exact lh_mR)
  obtain ⟨S153, eS153, hf⟩ := dc_let_ok hf
  have hm := lh_le_trans hm (show ∀ b, gvN S151 b ≤ gvN S153 b from by rw [eS153]; exact lh_mN)
  obtain ⟨S159, eS159, hf⟩ := dc_let_ok hf
  have hm := lh_le_trans hm (show ∀ b, gvN S153 b ≤ gvN S159 b from by rw [eS159]; exact lh_mR)
  obtain ⟨S161, eS161, hf⟩ := dc_let_ok hf
  have hm := lh_le_trans hm (show ∀ b, gvN S159 b ≤ gvN S161 b from by rw [eS161]; exact lh_mN)
  obtain ⟨S167, eS167, hf⟩ := dc_let_ok hf
  have hm := lh_le_trans hm (show ∀ b, gvN S161 b ≤ gvN S167 b from by rw [eS167]; exact lh_mR)
  obtain ⟨S169, eS169, hf⟩ := dc_let_ok hf
  have hm := lh_le_trans hm (show ∀ b, gvN S167 b ≤ gvN S169 b from by rw [eS169]; exact lh_mN)
  obtain ⟨S175, eS175, hf⟩ := dc_let_ok hf
  have hm := lh_le_trans hm (show ∀ b, gvN S169 b ≤ gvN S175 b from by rw [eS175]; exact lh_mR)
  obtain ⟨S177, eS177, hf⟩ := dc_let_ok hf
  have hm := lh_le_trans hm (show ∀ b, gvN S175 b ≤ gvN S177 b from by rw [eS177]; exact lh_mN)
  obtain ⟨S183, eS183, hf⟩ := dc_let_ok hf
  have hm := lh_le_trans hm (show ∀ b, gvN S177 b ≤ gvN S183 b from by rw [eS183]; exact lh_mR)
  obtain ⟨S185, eS185, hf⟩ := dc_let_ok hf
  have hm := lh_le_trans hm (show ∀ b, gvN S183 b ≤ gvN S185 b from by rw [eS185]; exact lh_mN)
  obtain ⟨S191, eS191, hf⟩ := dc_let_ok hf
  have hm := lh_le_trans hm (show ∀ b, gvN S185 b ≤ gvN S191 b from by rw [eS191]; exact lh_mR)
  obtain ⟨S193, eS193, hf⟩ := dc_let_ok hf
  have hm := lh_le_trans hm (show ∀ b, gvN S191 b ≤ gvN S193 b from by rw [eS193]; exact lh_mN)
  obtain ⟨S199, eS199, hf⟩ := dc_let_ok hf
  have hm := lh_le_trans hm (show ∀ b, gvN S193 b ≤ gvN S199 b from by rw [eS199]; exact lh_mR)
  obtain ⟨S201, eS201, hf⟩ := dc_let_ok hf
  have hm := lh_le_trans hm (show ∀ b, gvN S199 b ≤ gvN S201 b from by rw [eS201]; exact lh_mN)
  obtain ⟨S207, eS207, hf⟩ := dc_let_ok hf
  have hm := lh_le_trans hm (show ∀ b, gvN S201 b ≤ gvN S207 b from by rw [eS207]; exact lh_mR)
  obtain ⟨S209, eS209, hf⟩ := dc_let_ok hf
  have hm := lh_le_trans hm (show ∀ b, gvN S207 b ≤ gvN S209 b from by rw [eS209]; exact lh_mN)
  obtain ⟨S215, eS215, hf⟩ := dc_let_ok hf
  have hm := lh_le_trans hm (show ∀ b, gvN S209 b ≤ gvN S215 b from by rw [eS215]; exact lh_mR)
  obtain ⟨S217, eS217, hf⟩ := dc_let_ok hf
  have hm := lh_le_trans hm (show ∀ b, gvN S215 b ≤ gvN S217 b from by rw [eS217]; exact lh_mN)
  obtain ⟨S223, eS223, hf⟩ := dc_let_ok hf
  have hm := lh_le_trans hm (show ∀ b, gvN S217 b ≤ gvN S223 b from by rw [eS223]; exact lh_mR)
  obtain ⟨S225, eS225, hf⟩ := dc_let_ok hf
  have hm := lh_le_trans hm (show ∀ b, gvN S223 b ≤ gvN S225 b from by rw [eS225]; exact lh_mN)
  obtain ⟨S231, eS231, hf⟩ := dc_let_ok hf
  have hm := lh_le_trans hm (show ∀ b, gvN S225 b ≤ gvN S231 b from by rw [eS231]; exact lh_mR)
  obtain ⟨S233, eS233, hf⟩ := dc_let_ok hf
  have hm := lh_le_trans hm (show ∀ b, gvN S231 b ≤ gvN S233 b from by rw [eS233]; exact lh_mN)
  obtain ⟨S239, eS239, hf⟩ := dc_let_ok hf
  have hm := lh_le_trans hm (show ∀ b, gvN S233 b ≤ gvN S239 b from by rw [eS239]; exact lh_mR)
  obtain ⟨S241, eS241, hf⟩ := dc_let_ok hf
  have hm := lh_le_trans hm (show ∀ b, gvN S239 b ≤ gvN S241 b from by rw [eS241]; exact lh_mN)
  obtain ⟨S247, eS247, hf⟩ := dc_let_ok hf
  have hm := lh_le_trans hm (show ∀ b, gvN S241 b ≤ gvN S247 b from by rw [eS247]; exact lh_mR)
  obtain ⟨r249, S250, k251, hf⟩ := dc_bd_ok hf
  have hm := lh_le_trans hm (show ∀ b, gvN S247 b ≤ gvN S250 b from m_X10_loader k251)
  obtain ⟨r254, S255, k256, hf⟩ := dc_bd_ok hf
  have hm := lh_le_trans hm (show ∀ b, gvN S250 b ≤ gvN S255 b from m_X10_file k256)
  obtain ⟨x259, hx259, hf⟩ := dc_nn_ok hf
  obtain ⟨g260, hf⟩ := dc_gd_ok hf
  obtain ⟨S261, eS261, hf⟩ := dc_let_ok hf
  have hm := lh_le_trans hm (show ∀ b, gvN S255 b ≤ gvN S261 b from by rw [eS261]; exact lh_mI)
  obtain ⟨r264, S265, k266, hf⟩ := dc_bd_ok hf
  have hm := lh_le_trans hm (show ∀ b, gvN S261 b ≤ gvN S265 b from m_X10_file k266)
  obtain ⟨x269, hx269, hf⟩ := dc_nn_ok hf
  obtain ⟨g270, hf⟩ := dc_gd_ok hf
  obtain ⟨S271, eS271, hf⟩ := dc_let_ok hf
  have hm := lh_le_trans hm (show ∀ b, gvN S265 b ≤ gvN S271 b from by rw [eS271]; exact lh_mI)
  obtain ⟨r274, S275, k276, hf⟩ := dc_bd_ok hf
  have hm := lh_le_trans hm (show ∀ b, gvN S271 b ≤ gvN S275 b from m_X10_file k276)
  obtain ⟨x279, hx279, hf⟩ := dc_nn_ok hf
  obtain ⟨g280, hf⟩ := dc_gd_ok hf
  obtain ⟨S281, eS281, hf⟩ := dc_let_ok hf
  have hm := lh_le_trans hm (show ∀ b, gvN S275 b ≤ gvN S281 b from by rw [eS281]; exact lh_mI)
  obtain ⟨r284, S285, k286, hf⟩ := dc_bd_ok hf
  have hm := lh_le_trans hm (show ∀ b, gvN S281 b ≤ gvN S285 b from m_X10_file k286)
  obtain ⟨x289, hx289, hf⟩ := dc_nn_ok hf
  obtain ⟨g290, hf⟩ := dc_gd_ok hf
  obtain ⟨S291, eS291, hf⟩ := dc_let_ok hf
  have hm := lh_le_trans hm (show ∀ b, gvN S285 b ≤ gvN S291 b from by rw [eS291]; exact lh_mI)
  obtain ⟨r294, S295, k296, hf⟩ := dc_bd_ok hf
  have hm := lh_le_trans hm (show ∀ b, gvN S291 b ≤ gvN S295 b from m_X10_file k296)
  obtain ⟨x299, hx299, hf⟩ := dc_nn_ok hf
  obtain ⟨g300, hf⟩ := dc_gd_ok hf
  obtain ⟨S301, eS301, hf⟩ := dc_let_ok hf
  have hm := lh_le_trans hm (show ∀ b, gvN S295 b ≤ gvN S301 b from by rw [eS301]; exact lh_mI)
  obtain ⟨_, rfl⟩ := dc_ret hf
  exact hm
set_option maxHeartbeats 1000000 in
theorem k_X10_init {n : Nat} {S : lh_S} {t : Nat} {r : Unit} {S' : lh_S} (hf : f_X10_init n S t = some (r, S')) : lh_sm10 S S' := by
  have hm : lh_sm10 S S := lh_sm10_rf
  unfold f_X10_init at hf
  obtain ⟨S1, eS1, hf⟩ := dc_let_ok hf
  have hm := lh_sm10_trans hm (show lh_sm10 S S1 from by rw [eS1]; exact (lh_sm10N (by decide)))
  obtain ⟨S7, eS7, hf⟩ := dc_let_ok hf
  have hm := lh_sm10_trans hm (show lh_sm10 S1 S7 from by rw [eS7]; exact (lh_sm10R (by decide)))
  obtain ⟨S9, eS9, hf⟩ := dc_let_ok hf
  have hm := lh_sm10_trans hm (show lh_sm10 S7 S9 from by rw [eS9]; exact (lh_sm10N (by decide)))
  obtain ⟨S15, eS15, hf⟩ := dc_let_ok hf
  have hm := lh_sm10_trans hm (show lh_sm10 S9 S15 from by rw [eS15]; exact (lh_sm10R (by decide)))
  obtain ⟨S17, eS17, hf⟩ := dc_let_ok hf
  have hm := lh_sm10_trans hm (show lh_sm10 S15 S17 from by rw [eS17]; exact (lh_sm10N (by decide)))
  obtain ⟨S23, eS23, hf⟩ := dc_let_ok hf
  have hm := lh_sm10_trans hm (show lh_sm10 S17 S23 from by rw [eS23]; exact (lh_sm10R (by decide)))
  obtain ⟨S25, eS25, hf⟩ := dc_let_ok hf
  have hm := lh_sm10_trans hm (show lh_sm10 S23 S25 from by rw [eS25]; exact (lh_sm10N (by decide)))
  obtain ⟨S31, eS31, hf⟩ := dc_let_ok hf
  have hm := lh_sm10_trans hm (show lh_sm10 S25 S31 from by rw [eS31]; exact (lh_sm10R (by decide)))
  obtain ⟨S33, eS33, hf⟩ := dc_let_ok hf
  have hm := lh_sm10_trans hm (show lh_sm10 S31 S33 from by rw [eS33]; exact (lh_sm10N (by decide)))
  obtain ⟨S39, eS39, hf⟩ := dc_let_ok hf
  have hm := lh_sm10_trans hm (show lh_sm10 S33 S39 from by rw [eS39]; exact (lh_sm10R (by decide)))
  obtain ⟨S41, eS41, hf⟩ := dc_let_ok hf
  have hm := lh_sm10_trans hm (show lh_sm10 S39 S41 from by rw [eS41]; exact (lh_sm10N (by decide)))
  obtain ⟨S47, eS47, hf⟩ := dc_let_ok hf
  have hm := lh_sm10_trans hm (show lh_sm10 S41 S47 from by rw [eS47]; exact (lh_sm10R (by decide)))
  obtain ⟨S49, eS49, hf⟩ := dc_let_ok hf
  have hm := lh_sm10_trans hm (show lh_sm10 S47 S49 from by rw [eS49]; exact (lh_sm10N (by decide)))
  obtain ⟨S55, eS55, hf⟩ := dc_let_ok hf
  have hm := lh_sm10_trans hm (show lh_sm10 S49 S55 from by rw [eS55]; exact (lh_sm10R (by decide)))
  obtain ⟨S57, eS57, hf⟩ := dc_let_ok hf
  have hm := lh_sm10_trans hm (show lh_sm10 S55 S57 from by rw [eS57]; exact (lh_sm10N (by decide)))
  obtain ⟨S63, eS63, hf⟩ := dc_let_ok hf
  have hm := lh_sm10_trans hm (show lh_sm10 S57 S63 from by rw [eS63]; exact (lh_sm10R (by decide)))
  obtain ⟨S65, eS65, hf⟩ := dc_let_ok hf
  have hm := lh_sm10_trans hm (show lh_sm10 S63 S65 from by rw [eS65]; exact (lh_sm10N (by decide)))
  obtain ⟨S71, eS71, hf⟩ := dc_let_ok hf
  have hm := lh_sm10_trans hm (show lh_sm10 S65 S71 from by rw [eS71]; exact (lh_sm10R (by decide)))
  obtain ⟨S73, eS73, hf⟩ := dc_let_ok hf
  have hm := lh_sm10_trans hm (show lh_sm10 S71 S73 from by rw [eS73]; exact (lh_sm10N (by decide)))
  obtain ⟨S79, eS79, hf⟩ := dc_let_ok hf
  have hm := lh_sm10_trans hm (show lh_sm10 S73 S79 from by rw [eS79]; exact (lh_sm10R (by decide)))
  obtain ⟨S81, eS81, hf⟩ := dc_let_ok hf
  have hm := lh_sm10_trans hm (show lh_sm10 S79 S81 from by rw [eS81]; exact (lh_sm10N (by decide)))
  obtain ⟨S87, eS87, hf⟩ := dc_let_ok hf
  have hm := lh_sm10_trans hm (show lh_sm10 S81 S87 from by rw [eS87]; exact (lh_sm10R (by decide)))
  obtain ⟨S89, eS89, hf⟩ := dc_let_ok hf
  have hm := lh_sm10_trans hm (show lh_sm10 S87 S89 from by rw [eS89]; exact (lh_sm10N (by decide)))
  obtain ⟨S95, eS95, hf⟩ := dc_let_ok hf
  have hm := lh_sm10_trans hm (show lh_sm10 S89 S95 from by rw [eS95]; exact (lh_sm10R (by decide)))
  obtain ⟨S97, eS97, hf⟩ := dc_let_ok hf
  have hm := lh_sm10_trans hm (show lh_sm10 S95 S97 from by rw [eS97]; exact (lh_sm10N (by decide)))
  obtain ⟨S103, eS103, hf⟩ := dc_let_ok hf
  have hm := lh_sm10_trans hm (show lh_sm10 S97 S103 from by rw [eS103]; exact (lh_sm10R (by decide)))
  obtain ⟨S105, eS105, hf⟩ := dc_let_ok hf
  have hm := lh_sm10_trans hm (show lh_sm10 S103 S105 from by rw [eS105]; exact (lh_sm10N (by decide)))
  obtain ⟨S111, eS111, hf⟩ := dc_let_ok hf
  have hm := lh_sm10_trans hm (show lh_sm10 S105 S111 from by rw [eS111]; exact (lh_sm10R (by decide)))
  obtain ⟨S113, eS113, hf⟩ := dc_let_ok hf
  have hm := lh_sm10_trans hm (show lh_sm10 S111 S113 from by rw [eS113]; exact (lh_sm10N (by decide)))
  obtain ⟨S119, eS119, hf⟩ := dc_let_ok hf
  have hm := lh_sm10_trans hm (show lh_sm10 S113 S119 from by rw [eS119]; exact (lh_sm10R (by decide)))
  obtain ⟨S121, eS121, hf⟩ := dc_let_ok hf
  have hm := lh_sm10_trans hm (show lh_sm10 S119 S121 from by rw [eS121]; exact (lh_sm10N (by decide)))
  obtain ⟨S127, eS127, hf⟩ := dc_let_ok hf
  have hm := lh_sm10_trans hm (show lh_sm10 S121 S127 from by rw [eS127]; exact (lh_sm10R (by decide)))
  obtain ⟨S129, eS129, hf⟩ := dc_let_ok hf
  have hm := lh_sm10_trans hm (show lh_sm10 S127 S129 from by rw [eS129]; exact (lh_sm10N (by decide)))
  obtain ⟨S135, eS135, hf⟩ := dc_let_ok hf
  have hm := lh_sm10_trans hm (show lh_sm10 S129 S135 from by rw [eS135]; exact (lh_sm10R (by decide)))
  obtain ⟨S137, eS137, hf⟩ := dc_let_ok hf
  have hm := lh_sm10_trans hm (show lh_sm10 S135 S137 from by rw [eS137]; exact (lh_sm10N (by decide)))
  obtain ⟨S143, eS143, hf⟩ := dc_let_ok hf
  have hm := lh_sm10_trans hm (show lh_sm10 S137 S143 from by rw [eS143]; exact (lh_sm10R (by decide)))
  obtain ⟨S145, eS145, hf⟩ := dc_let_ok hf
  have hm := lh_sm10_trans hm (show lh_sm10 S143 S145 from by rw [eS145]; exact (lh_sm10N (by decide)))
  obtain ⟨S151, eS151, hf⟩ := dc_let_ok hf
  have hm := lh_sm10_trans hm (show lh_sm10 S145 S151 from by rw [eS151]; exact (lh_sm10R (by decide)))
  obtain ⟨S153, eS153, hf⟩ := dc_let_ok hf
  have hm := lh_sm10_trans hm (show lh_sm10 S151 S153 from by rw [eS153]; exact (lh_sm10N (by decide)))
  obtain ⟨S159, eS159, hf⟩ := dc_let_ok hf
  have hm := lh_sm10_trans hm (show lh_sm10 S153 S159 from by rw [eS159]; exact (lh_sm10R (by decide)))
  obtain ⟨S161, eS161, hf⟩ := dc_let_ok hf
  have hm := lh_sm10_trans hm (show lh_sm10 S159 S161 from by rw [eS161]; exact (lh_sm10N (by decide)))
  obtain ⟨S167, eS167, hf⟩ := dc_let_ok hf
  have hm := lh_sm10_trans hm (show lh_sm10 S161 S167 from by rw [eS167]; exact (lh_sm10R (by decide)))
  obtain ⟨S169, eS169, hf⟩ := dc_let_ok hf
  have hm := lh_sm10_trans hm (show lh_sm10 S167 S169 from by rw [eS169]; exact (lh_sm10N (by decide)))
  obtain ⟨S175, eS175, hf⟩ := dc_let_ok hf
  have hm := lh_sm10_trans hm (show lh_sm10 S169 S175 from by rw [eS175]; exact (lh_sm10R (by decide)))
  obtain ⟨S177, eS177, hf⟩ := dc_let_ok hf
  have hm := lh_sm10_trans hm (show lh_sm10 S175 S177 from by rw [eS177]; exact (lh_sm10N (by decide)))
  obtain ⟨S183, eS183, hf⟩ := dc_let_ok hf
  have hm := lh_sm10_trans hm (show lh_sm10 S177 S183 from by rw [eS183]; exact (lh_sm10R (by decide)))
  obtain ⟨S185, eS185, hf⟩ := dc_let_ok hf
  have hm := lh_sm10_trans hm (show lh_sm10 S183 S185 from by rw [eS185]; exact (lh_sm10N (by decide)))
  obtain ⟨S191, eS191, hf⟩ := dc_let_ok hf
  have hm := lh_sm10_trans hm (show lh_sm10 S185 S191 from by rw [eS191]; exact (lh_sm10R (by decide)))
  obtain ⟨S193, eS193, hf⟩ := dc_let_ok hf
  have hm := lh_sm10_trans hm (show lh_sm10 S191 S193 from by rw [eS193]; exact (lh_sm10N (by decide)))
  obtain ⟨S199, eS199, hf⟩ := dc_let_ok hf
  have hm := lh_sm10_trans hm (show lh_sm10 S193 S199 from by rw [eS199]; exact (lh_sm10R (by decide)))
  obtain ⟨S201, eS201, hf⟩ := dc_let_ok hf
  have hm := lh_sm10_trans hm (show lh_sm10 S199 S201 from by rw [eS201]; exact (lh_sm10N (by decide)))
  obtain ⟨S207, eS207, hf⟩ := dc_let_ok hf
  have hm := lh_sm10_trans hm (show lh_sm10 S201 S207 from by rw [eS207]; exact (lh_sm10R (by decide)))
  obtain ⟨S209, eS209, hf⟩ := dc_let_ok hf
  have hm := lh_sm10_trans hm (show lh_sm10 S207 S209 from by rw [eS209]; exact (lh_sm10N (by decide)))
  obtain ⟨S215, eS215, hf⟩ := dc_let_ok hf
  have hm := lh_sm10_trans hm (show lh_sm10 S209 S215 from by rw [eS215]; exact (lh_sm10R (by decide)))
  obtain ⟨S217, eS217, hf⟩ := dc_let_ok hf
  have hm := lh_sm10_trans hm (show lh_sm10 S215 S217 from by rw [eS217]; exact (lh_sm10N (by decide)))
  obtain ⟨S223, eS223, hf⟩ := dc_let_ok hf
  have hm := lh_sm10_trans hm (show lh_sm10 S217 S223 from by rw [eS223]; exact (lh_sm10R (by decide)))
  obtain ⟨S225, eS225, hf⟩ := dc_let_ok hf
  have hm := lh_sm10_trans hm (show lh_sm10 S223 S225 from by rw [eS225]; exact (lh_sm10N (by decide)))
  obtain ⟨S231, eS231, hf⟩ := dc_let_ok hf
  have hm := lh_sm10_trans hm (show lh_sm10 S225 S231 from by rw [eS231]; exact (lh_sm10R (by decide)))
  obtain ⟨S233, eS233, hf⟩ := dc_let_ok hf
  have hm := lh_sm10_trans hm (show lh_sm10 S231 S233 from by rw [eS233]; exact (lh_sm10N (by decide)))
  obtain ⟨S239, eS239, hf⟩ := dc_let_ok hf
  have hm := lh_sm10_trans hm (show lh_sm10 S233 S239 from by rw [eS239]; exact (lh_sm10R (by decide)))
  obtain ⟨S241, eS241, hf⟩ := dc_let_ok hf
  have hm := lh_sm10_trans hm (show lh_sm10 S239 S241 from by rw [eS241]; exact (lh_sm10N (by decide)))
  obtain ⟨S247, eS247, hf⟩ := dc_let_ok hf
  have hm := lh_sm10_trans hm (show lh_sm10 S241 S247 from by rw [eS247]; exact (lh_sm10R (by decide)))
  obtain ⟨r249, S250, k251, hf⟩ := dc_bd_ok hf
  have hm := lh_sm10_trans hm (show lh_sm10 S247 S250 from k_X10_loader k251)
  obtain ⟨r254, S255, k256, hf⟩ := dc_bd_ok hf
  have hm := lh_sm10_trans hm (show lh_sm10 S250 S255 from k_X10_file k256)
  obtain ⟨x259, hx259, hf⟩ := dc_nn_ok hf
  obtain ⟨g260, hf⟩ := dc_gd_ok hf
  obtain ⟨S261, eS261, hf⟩ := dc_let_ok hf
  have hm := lh_sm10_trans hm (show lh_sm10 S255 S261 from by rw [eS261]; exact (lh_sm10I (by decide)))
  obtain ⟨r264, S265, k266, hf⟩ := dc_bd_ok hf
  have hm := lh_sm10_trans hm (show lh_sm10 S261 S265 from k_X10_file k266)
  obtain ⟨x269, hx269, hf⟩ := dc_nn_ok hf
  obtain ⟨g270, hf⟩ := dc_gd_ok hf
  obtain ⟨S271, eS271, hf⟩ := dc_let_ok hf
  have hm := lh_sm10_trans hm (show lh_sm10 S265 S271 from by rw [eS271]; exact (lh_sm10I (by decide)))
  obtain ⟨r274, S275, k276, hf⟩ := dc_bd_ok hf
  have hm := lh_sm10_trans hm (show lh_sm10 S271 S275 from k_X10_file k276)
  obtain ⟨x279, hx279, hf⟩ := dc_nn_ok hf
  obtain ⟨g280, hf⟩ := dc_gd_ok hf
  obtain ⟨S281, eS281, hf⟩ := dc_let_ok hf
  have hm := lh_sm10_trans hm (show lh_sm10 S275 S281 from by rw [eS281]; exact (lh_sm10I (by decide)))
  obtain ⟨r284, S285, k286, hf⟩ := dc_bd_ok hf
  have hm := lh_sm10_trans hm (show lh_sm10 S281 S285 from k_X10_file k286)
  obtain ⟨x289, hx289, hf⟩ := dc_nn_ok hf
  obtain ⟨g290, hf⟩ := dc_gd_ok hf
  obtain ⟨S291, eS291, hf⟩ := dc_let_ok hf
  have hm := lh_sm10_trans hm (show lh_sm10 S285 S291 from by rw [eS291]; exact (lh_sm10I (by decide)))
  obtain ⟨r294, S295, k296, hf⟩ := dc_bd_ok hf
  have hm := lh_sm10_trans hm (show lh_sm10 S291 S295 from k_X10_file k296)
  obtain ⟨x299, hx299, hf⟩ := dc_nn_ok hf
  obtain ⟨g300, hf⟩ := dc_gd_ok hf
  obtain ⟨S301, eS301, hf⟩ := dc_let_ok hf
  have hm := lh_sm10_trans hm (show lh_sm10 S295 S301 from by rw [eS301]; exact (lh_sm10I (by decide)))
  obtain ⟨_, rfl⟩ := dc_ret hf
  exact hm
set_option maxHeartbeats 4000000 in
set_option maxRecDepth 100000 in
theorem c_X10_init (l : Launch) (D : va_G) (cT : Nat → ClassId) (n : Nat) (S : lh_S) (ad : Nat → Nat → Nat) (A : Nat → Prop) (sz : Nat) (hA : ∀ q, sz ≤ q → A q) (t : Nat) (r : Unit) (S' : lh_S) (hf : f_X10_init n S t = some (r, S')) (L_t : ∀ j, some t = some j → j < gvN S 10) : Met l yX10_init wsX10_init ({ frames := 3, cells := 31, slots := 5877, locals := 71 } : Room) (lh_P D cT S ad A sz [lh_r ad 10 (some t)]) (lh_QA D cT S S' ad A ((∀ b, gvN S b ≤ gvN S' b) ∧ True) (fun ad9 => none)) 31 5877 A := by
  refine Met.ofW (cc := cX10_init) (maxL := 4) (ret := none) (by decide) rfl ?_
  intro p e s m args below meth c s₁ B hml hv
  obtain ⟨hargs, hsz, hW, hK, hN⟩ := hv
  have hx := B.exec
  have hb := B.bytes
  have hr := B.returns
  have hts := atoms_spec (ws := wsX10_init) B.pre
  have hown : s.vm.findClass RX10 = some m.cls := findClass_of_methodNamed B.named
  have hlocks := B.notSynchronized
  have hin : meth.name = "<init>" := (name_of_methodNamed B.named B.method).1
  have hA : ∀ q, s.heap.size ≤ q → A q := fun q h => hA q (by rw [← hsz]; exact h)
  have ok := lh_W_ok hW
  have hm : ∀ b, gvN S b ≤ gvN S b := fun _ => Nat.le_refl _
  have hE : lh_E S ad ad := lh_E.rf
  obtain ⟨ls, hent, hl⟩ := lh_entry m args [lh_r ad 10 (some t)] 4 [(0, lh_r ad 10 (some t))] hargs (by simp [lv_args, lh_cat_r, lh_cat_i, lh_cat_j]) (by simp [lg_sl, lh_cat_r, lh_cat_i, lh_cat_j])
  rw [hent]
  generalize hH : s.heap = H at hW ⊢
  have hS : va_S A s.heap H [] := by rw [← hH]; exact va_S.rf
  unfold f_X10_init at hf
  refine lh_aload_n hx hb dX10_init_0 rfl (lv_at hl 0 rfl) ?_
  refine W.objInit hx hb hown (hts (.methodLink RX10 7 objectInit) (List.mem_cons_of_mem _ (List.mem_append_left _ (List.mem_append_left _ (List.mem_of_getElem? (i := 0) rfl))))) (hts (.instanceMethod objectInit) (List.mem_cons_of_mem _ (List.mem_append_left _ (List.mem_append_left _ (List.mem_of_getElem? (i := 1) rfl))))) (hts (.code objectInit ⟨#[0xb1]⟩ 1 none) (List.mem_cons_of_mem _ (List.mem_append_left _ (List.mem_append_left _ (List.mem_of_getElem? (i := 2) rfl))))) rfl (by rw [hml]; exact hl.1) rfl dX10_init_1 (Nat.le_of_ble_eq_true rfl) (Nat.le_of_ble_eq_true rfl) ?_
  refine W.eq (g2 := F0 m 4 ls []) rfl ?_
  refine lh_aload_n hx hb dX10_init_4 rfl (lv_at hl 0 rfl) ?_
  refine lv_bipush (v := 30) hx hb dX10_init_5 (by decide) ?_
  obtain ⟨S1, eS1, hf⟩ := dc_let_ok hf
  refine lh_newa (ty := .int) (atype := .int) (n := (30 : Int32)) (a := 32) (t0 := 0) (N' := 30) hx hb (hts (.arrayClass .int) (List.mem_cons_of_mem _ (List.mem_append_left _ (List.mem_append_left _ (List.mem_of_getElem? (i := 3) rfl))))) rfl hK hW hS hA rfl rfl (fun _ _ h => h) (Or.inl ⟨rfl, rfl⟩) (by decide +kernel) (by decide +kernel) (by decide +kernel) (Nat.le_of_ble_eq_true rfl) (Nat.le_of_ble_eq_true rfl) dX10_init_7 (fun ad2 H hE3 hW hS => ?_)
  rw [lh_rE hE3 L_t] at hl
  rw [lh_rE hE3 L_t]
  have hE : lh_E S ad ad2 := lh_E.trans hE hm hE3
  rw [← eS1] at hW
  have m4 : ∀ b, gvN S b ≤ gvN S1 b := by rw [eS1]; exact lh_mN
  have L_t : ∀ j, some t = some j → j < gvN S1 10 := fun j h => Nat.lt_of_lt_of_le (L_t j h) (m4 _)
  have hm : ∀ b, gvN S b ≤ gvN S1 b := lh_le_trans hm m4
  have ok := lh_W_ok hW
  have L5 : ∀ j, some (gvN S 32) = some j → j < gvN S1 32 := lh_ls (by rw [eS1]; exact lh_nN)
  obtain ⟨S7, eS7, hf⟩ := dc_let_ok hf
  refine lh_put (S' := S7) (a := 10) (k := 2) (N := 42) (C := RX10) (T := TX10) (own := RX10) (ref := "LoaderModelsModel") (ty := .array .int) hx hb hts (fun _ h => (List.mem_cons_of_mem _ (List.mem_append_right _ h))) tyX10 tyX10_ok nmX10 hown hK hW hS rfl (L_t _ rfl) rfl rfl rfl (by decide) (hts (.fieldLink RX10 13 "LoaderModelsModel" "fileName" "[I") (List.mem_cons_of_mem _ (List.mem_append_left _ (List.mem_append_left _ (List.mem_of_getElem? (i := 4) rfl))))) (fun _ h9 => h9) (Or.inr ⟨rfl, hin, rfl⟩) (by decide +kernel) lh_nar_a lh_fit_a (fun q9 => by rw [eS7]; exact lh_chR rfl L5 q9) dX10_init_9 (fun H locs hW hS => ?_)
  have m8 : ∀ b, gvN S1 b ≤ gvN S7 b := by rw [eS7]; exact lh_mR
  have L_t : ∀ j, some t = some j → j < gvN S7 10 := fun j h => Nat.lt_of_lt_of_le (L_t j h) (m8 _)
  have hm : ∀ b, gvN S b ≤ gvN S7 b := lh_le_trans hm m8
  have ok := lh_W_ok hW
  refine lh_aload_n hx hb dX10_init_12 rfl (lv_at hl 0 rfl) ?_
  refine lv_bipush (v := 30) hx hb dX10_init_13 (by decide) ?_
  obtain ⟨S9, eS9, hf⟩ := dc_let_ok hf
  refine lh_newa (ty := .int) (atype := .int) (n := (30 : Int32)) (a := 33) (t0 := 0) (N' := 30) hx hb (hts (.arrayClass .int) (List.mem_cons_of_mem _ (List.mem_append_left _ (List.mem_append_left _ (List.mem_of_getElem? (i := 3) rfl))))) rfl hK hW hS hA rfl rfl (fun _ _ h => h) (Or.inl ⟨rfl, rfl⟩) (by decide +kernel) (by decide +kernel) (by decide +kernel) (Nat.le_of_ble_eq_true rfl) (Nat.le_of_ble_eq_true rfl) dX10_init_15 (fun ad10 H hE11 hW hS => ?_)
  rw [lh_rE hE11 L_t] at hl
  rw [lh_rE hE11 L_t]
  have hE : lh_E S ad ad10 := lh_E.trans hE hm hE11
  rw [← eS9] at hW
  have m12 : ∀ b, gvN S7 b ≤ gvN S9 b := by rw [eS9]; exact lh_mN
  have L_t : ∀ j, some t = some j → j < gvN S9 10 := fun j h => Nat.lt_of_lt_of_le (L_t j h) (m12 _)
  have hm : ∀ b, gvN S b ≤ gvN S9 b := lh_le_trans hm m12
  have ok := lh_W_ok hW
  have L13 : ∀ j, some (gvN S7 33) = some j → j < gvN S9 33 := lh_ls (by rw [eS9]; exact lh_nN)
  obtain ⟨S15, eS15, hf⟩ := dc_let_ok hf
  refine lh_put (S' := S15) (a := 10) (k := 3) (N := 42) (C := RX10) (T := TX10) (own := RX10) (ref := "LoaderModelsModel") (ty := .array .int) hx hb hts (fun _ h => (List.mem_cons_of_mem _ (List.mem_append_right _ h))) tyX10 tyX10_ok nmX10 hown hK hW hS rfl (L_t _ rfl) rfl rfl rfl (by decide) (hts (.fieldLink RX10 17 "LoaderModelsModel" "inner" "[I") (List.mem_cons_of_mem _ (List.mem_append_left _ (List.mem_append_left _ (List.mem_of_getElem? (i := 5) rfl))))) (fun _ h9 => h9) (Or.inr ⟨rfl, hin, rfl⟩) (by decide +kernel) lh_nar_a lh_fit_a (fun q9 => by rw [eS15]; exact lh_chR rfl L13 q9) dX10_init_17 (fun H locs hW hS => ?_)
  have m16 : ∀ b, gvN S9 b ≤ gvN S15 b := by rw [eS15]; exact lh_mR
  have L_t : ∀ j, some t = some j → j < gvN S15 10 := fun j h => Nat.lt_of_lt_of_le (L_t j h) (m16 _)
  have hm : ∀ b, gvN S b ≤ gvN S15 b := lh_le_trans hm m16
  have ok := lh_W_ok hW
  refine lh_aload_n hx hb dX10_init_20 rfl (lv_at hl 0 rfl) ?_
  refine lv_bipush (v := 30) hx hb dX10_init_21 (by decide) ?_
  obtain ⟨S17, eS17, hf⟩ := dc_let_ok hf
  refine lh_newa (ty := .int) (atype := .int) (n := (30 : Int32)) (a := 34) (t0 := 0) (N' := 30) hx hb (hts (.arrayClass .int) (List.mem_cons_of_mem _ (List.mem_append_left _ (List.mem_append_left _ (List.mem_of_getElem? (i := 3) rfl))))) rfl hK hW hS hA rfl rfl (fun _ _ h => h) (Or.inl ⟨rfl, rfl⟩) (by decide +kernel) (by decide +kernel) (by decide +kernel) (Nat.le_of_ble_eq_true rfl) (Nat.le_of_ble_eq_true rfl) dX10_init_23 (fun ad18 H hE19 hW hS => ?_)
  rw [lh_rE hE19 L_t] at hl
  rw [lh_rE hE19 L_t]
  have hE : lh_E S ad ad18 := lh_E.trans hE hm hE19
  rw [← eS17] at hW
  have m20 : ∀ b, gvN S15 b ≤ gvN S17 b := by rw [eS17]; exact lh_mN
  have L_t : ∀ j, some t = some j → j < gvN S17 10 := fun j h => Nat.lt_of_lt_of_le (L_t j h) (m20 _)
  have hm : ∀ b, gvN S b ≤ gvN S17 b := lh_le_trans hm m20
  have ok := lh_W_ok hW
  have L21 : ∀ j, some (gvN S15 34) = some j → j < gvN S17 34 := lh_ls (by rw [eS17]; exact lh_nN)
  obtain ⟨S23, eS23, hf⟩ := dc_let_ok hf
  refine lh_put (S' := S23) (a := 10) (k := 4) (N := 42) (C := RX10) (T := TX10) (own := RX10) (ref := "LoaderModelsModel") (ty := .array .int) hx hb hts (fun _ h => (List.mem_cons_of_mem _ (List.mem_append_right _ h))) tyX10 tyX10_ok nmX10 hown hK hW hS rfl (L_t _ rfl) rfl rfl rfl (by decide) (hts (.fieldLink RX10 20 "LoaderModelsModel" "above" "[I") (List.mem_cons_of_mem _ (List.mem_append_left _ (List.mem_append_left _ (List.mem_of_getElem? (i := 6) rfl))))) (fun _ h9 => h9) (Or.inr ⟨rfl, hin, rfl⟩) (by decide +kernel) lh_nar_a lh_fit_a (fun q9 => by rw [eS23]; exact lh_chR rfl L21 q9) dX10_init_25 (fun H locs hW hS => ?_)
  have m24 : ∀ b, gvN S17 b ≤ gvN S23 b := by rw [eS23]; exact lh_mR
  have L_t : ∀ j, some t = some j → j < gvN S23 10 := fun j h => Nat.lt_of_lt_of_le (L_t j h) (m24 _)
  have hm : ∀ b, gvN S b ≤ gvN S23 b := lh_le_trans hm m24
  have ok := lh_W_ok hW
  refine lh_aload_n hx hb dX10_init_28 rfl (lv_at hl 0 rfl) ?_
  refine lv_bipush (v := 30) hx hb dX10_init_29 (by decide) ?_
  obtain ⟨S25, eS25, hf⟩ := dc_let_ok hf
  refine lh_newa (ty := .int) (atype := .int) (n := (30 : Int32)) (a := 35) (t0 := 0) (N' := 30) hx hb (hts (.arrayClass .int) (List.mem_cons_of_mem _ (List.mem_append_left _ (List.mem_append_left _ (List.mem_of_getElem? (i := 3) rfl))))) rfl hK hW hS hA rfl rfl (fun _ _ h => h) (Or.inl ⟨rfl, rfl⟩) (by decide +kernel) (by decide +kernel) (by decide +kernel) (Nat.le_of_ble_eq_true rfl) (Nat.le_of_ble_eq_true rfl) dX10_init_31 (fun ad26 H hE27 hW hS => ?_)
  rw [lh_rE hE27 L_t] at hl
  rw [lh_rE hE27 L_t]
  have hE : lh_E S ad ad26 := lh_E.trans hE hm hE27
  rw [← eS25] at hW
  have m28 : ∀ b, gvN S23 b ≤ gvN S25 b := by rw [eS25]; exact lh_mN
  have L_t : ∀ j, some t = some j → j < gvN S25 10 := fun j h => Nat.lt_of_lt_of_le (L_t j h) (m28 _)
  have hm : ∀ b, gvN S b ≤ gvN S25 b := lh_le_trans hm m28
  have ok := lh_W_ok hW
  have L29 : ∀ j, some (gvN S23 35) = some j → j < gvN S25 35 := lh_ls (by rw [eS25]; exact lh_nN)
  obtain ⟨S31, eS31, hf⟩ := dc_let_ok hf
  refine lh_put (S' := S31) (a := 10) (k := 5) (N := 42) (C := RX10) (T := TX10) (own := RX10) (ref := "LoaderModelsModel") (ty := .array .int) hx hb hts (fun _ h => (List.mem_cons_of_mem _ (List.mem_append_right _ h))) tyX10 tyX10_ok nmX10 hown hK hW hS rfl (L_t _ rfl) rfl rfl rfl (by decide) (hts (.fieldLink RX10 23 "LoaderModelsModel" "content" "[I") (List.mem_cons_of_mem _ (List.mem_append_left _ (List.mem_append_left _ (List.mem_of_getElem? (i := 7) rfl))))) (fun _ h9 => h9) (Or.inr ⟨rfl, hin, rfl⟩) (by decide +kernel) lh_nar_a lh_fit_a (fun q9 => by rw [eS31]; exact lh_chR rfl L29 q9) dX10_init_33 (fun H locs hW hS => ?_)
  have m32 : ∀ b, gvN S25 b ≤ gvN S31 b := by rw [eS31]; exact lh_mR
  have L_t : ∀ j, some t = some j → j < gvN S31 10 := fun j h => Nat.lt_of_lt_of_le (L_t j h) (m32 _)
  have hm : ∀ b, gvN S b ≤ gvN S31 b := lh_le_trans hm m32
  have ok := lh_W_ok hW
  refine lh_aload_n hx hb dX10_init_36 rfl (lv_at hl 0 rfl) ?_
  refine lv_bipush (v := 30) hx hb dX10_init_37 (by decide) ?_
  obtain ⟨S33, eS33, hf⟩ := dc_let_ok hf
  refine lh_newa (ty := .boolean) (atype := .boolean) (n := (30 : Int32)) (a := 36) (t0 := 1) (N' := 30) hx hb (hts (.arrayClass .boolean) (List.mem_cons_of_mem _ (List.mem_append_left _ (List.mem_append_left _ (List.mem_of_getElem? (i := 8) rfl))))) rfl hK hW hS hA rfl rfl (fun _ _ h => h) (Or.inl ⟨rfl, rfl⟩) (by decide +kernel) (by decide +kernel) (by decide +kernel) (Nat.le_of_ble_eq_true rfl) (Nat.le_of_ble_eq_true rfl) dX10_init_39 (fun ad34 H hE35 hW hS => ?_)
  rw [lh_rE hE35 L_t] at hl
  rw [lh_rE hE35 L_t]
  have hE : lh_E S ad ad34 := lh_E.trans hE hm hE35
  rw [← eS33] at hW
  have m36 : ∀ b, gvN S31 b ≤ gvN S33 b := by rw [eS33]; exact lh_mN
  have L_t : ∀ j, some t = some j → j < gvN S33 10 := fun j h => Nat.lt_of_lt_of_le (L_t j h) (m36 _)
  have hm : ∀ b, gvN S b ≤ gvN S33 b := lh_le_trans hm m36
  have ok := lh_W_ok hW
  have L37 : ∀ j, some (gvN S31 36) = some j → j < gvN S33 36 := lh_ls (by rw [eS33]; exact lh_nN)
  obtain ⟨S39, eS39, hf⟩ := dc_let_ok hf
  refine lh_put (S' := S39) (a := 10) (k := 6) (N := 42) (C := RX10) (T := TX10) (own := RX10) (ref := "LoaderModelsModel") (ty := .array .boolean) hx hb hts (fun _ h => (List.mem_cons_of_mem _ (List.mem_append_right _ h))) tyX10 tyX10_ok nmX10 hown hK hW hS rfl (L_t _ rfl) rfl rfl rfl (by decide) (hts (.fieldLink RX10 26 "LoaderModelsModel" "isFinal" "[Z") (List.mem_cons_of_mem _ (List.mem_append_left _ (List.mem_append_left _ (List.mem_of_getElem? (i := 9) rfl))))) (fun _ h9 => h9) (Or.inr ⟨rfl, hin, rfl⟩) (by decide +kernel) lh_nar_a lh_fit_a (fun q9 => by rw [eS39]; exact lh_chR rfl L37 q9) dX10_init_41 (fun H locs hW hS => ?_)
  have m40 : ∀ b, gvN S33 b ≤ gvN S39 b := by rw [eS39]; exact lh_mR
  have L_t : ∀ j, some t = some j → j < gvN S39 10 := fun j h => Nat.lt_of_lt_of_le (L_t j h) (m40 _)
  have hm : ∀ b, gvN S b ≤ gvN S39 b := lh_le_trans hm m40
  have ok := lh_W_ok hW
  refine lh_aload_n hx hb dX10_init_44 rfl (lv_at hl 0 rfl) ?_
  refine lv_bipush (v := 120) hx hb dX10_init_45 (by decide) ?_
  obtain ⟨S41, eS41, hf⟩ := dc_let_ok hf
  refine lh_newa (ty := .int) (atype := .int) (n := (120 : Int32)) (a := 37) (t0 := 0) (N' := 120) hx hb (hts (.arrayClass .int) (List.mem_cons_of_mem _ (List.mem_append_left _ (List.mem_append_left _ (List.mem_of_getElem? (i := 3) rfl))))) rfl hK hW hS hA rfl rfl (fun _ _ h => h) (Or.inl ⟨rfl, rfl⟩) (by decide +kernel) (by decide +kernel) (by decide +kernel) (Nat.le_of_ble_eq_true rfl) (Nat.le_of_ble_eq_true rfl) dX10_init_47 (fun ad42 H hE43 hW hS => ?_)
  rw [lh_rE hE43 L_t] at hl
  rw [lh_rE hE43 L_t]
  have hE : lh_E S ad ad42 := lh_E.trans hE hm hE43
  rw [← eS41] at hW
  have m44 : ∀ b, gvN S39 b ≤ gvN S41 b := by rw [eS41]; exact lh_mN
  have L_t : ∀ j, some t = some j → j < gvN S41 10 := fun j h => Nat.lt_of_lt_of_le (L_t j h) (m44 _)
  have hm : ∀ b, gvN S b ≤ gvN S41 b := lh_le_trans hm m44
  have ok := lh_W_ok hW
  have L45 : ∀ j, some (gvN S39 37) = some j → j < gvN S41 37 := lh_ls (by rw [eS41]; exact lh_nN)
  obtain ⟨S47, eS47, hf⟩ := dc_let_ok hf
  refine lh_put (S' := S47) (a := 10) (k := 7) (N := 42) (C := RX10) (T := TX10) (own := RX10) (ref := "LoaderModelsModel") (ty := .array .int) hx hb hts (fun _ h => (List.mem_cons_of_mem _ (List.mem_append_right _ h))) tyX10 tyX10_ok nmX10 hown hK hW hS rfl (L_t _ rfl) rfl rfl rfl (by decide) (hts (.fieldLink RX10 30 "LoaderModelsModel" "kind" "[I") (List.mem_cons_of_mem _ (List.mem_append_left _ (List.mem_append_left _ (List.mem_of_getElem? (i := 10) rfl))))) (fun _ h9 => h9) (Or.inr ⟨rfl, hin, rfl⟩) (by decide +kernel) lh_nar_a lh_fit_a (fun q9 => by rw [eS47]; exact lh_chR rfl L45 q9) dX10_init_49 (fun H locs hW hS => ?_)
  have m48 : ∀ b, gvN S41 b ≤ gvN S47 b := by rw [eS47]; exact lh_mR
  have L_t : ∀ j, some t = some j → j < gvN S47 10 := fun j h => Nat.lt_of_lt_of_le (L_t j h) (m48 _)
  have hm : ∀ b, gvN S b ≤ gvN S47 b := lh_le_trans hm m48
  have ok := lh_W_ok hW
  refine lh_aload_n hx hb dX10_init_52 rfl (lv_at hl 0 rfl) ?_
  refine lv_bipush (v := 120) hx hb dX10_init_53 (by decide) ?_
  obtain ⟨S49, eS49, hf⟩ := dc_let_ok hf
  refine lh_newa (ty := .int) (atype := .int) (n := (120 : Int32)) (a := 38) (t0 := 0) (N' := 120) hx hb (hts (.arrayClass .int) (List.mem_cons_of_mem _ (List.mem_append_left _ (List.mem_append_left _ (List.mem_of_getElem? (i := 3) rfl))))) rfl hK hW hS hA rfl rfl (fun _ _ h => h) (Or.inl ⟨rfl, rfl⟩) (by decide +kernel) (by decide +kernel) (by decide +kernel) (Nat.le_of_ble_eq_true rfl) (Nat.le_of_ble_eq_true rfl) dX10_init_55 (fun ad50 H hE51 hW hS => ?_)
  rw [lh_rE hE51 L_t] at hl
  rw [lh_rE hE51 L_t]
  have hE : lh_E S ad ad50 := lh_E.trans hE hm hE51
  rw [← eS49] at hW
  have m52 : ∀ b, gvN S47 b ≤ gvN S49 b := by rw [eS49]; exact lh_mN
  have L_t : ∀ j, some t = some j → j < gvN S49 10 := fun j h => Nat.lt_of_lt_of_le (L_t j h) (m52 _)
  have hm : ∀ b, gvN S b ≤ gvN S49 b := lh_le_trans hm m52
  have ok := lh_W_ok hW
  have L53 : ∀ j, some (gvN S47 38) = some j → j < gvN S49 38 := lh_ls (by rw [eS49]; exact lh_nN)
  obtain ⟨S55, eS55, hf⟩ := dc_let_ok hf
  refine lh_put (S' := S55) (a := 10) (k := 8) (N := 42) (C := RX10) (T := TX10) (own := RX10) (ref := "LoaderModelsModel") (ty := .array .int) hx hb hts (fun _ h => (List.mem_cons_of_mem _ (List.mem_append_right _ h))) tyX10 tyX10_ok nmX10 hown hK hW hS rfl (L_t _ rfl) rfl rfl rfl (by decide) (hts (.fieldLink RX10 33 "LoaderModelsModel" "methodA" "[I") (List.mem_cons_of_mem _ (List.mem_append_left _ (List.mem_append_left _ (List.mem_of_getElem? (i := 11) rfl))))) (fun _ h9 => h9) (Or.inr ⟨rfl, hin, rfl⟩) (by decide +kernel) lh_nar_a lh_fit_a (fun q9 => by rw [eS55]; exact lh_chR rfl L53 q9) dX10_init_57 (fun H locs hW hS => ?_)
  have m56 : ∀ b, gvN S49 b ≤ gvN S55 b := by rw [eS55]; exact lh_mR
  have L_t : ∀ j, some t = some j → j < gvN S55 10 := fun j h => Nat.lt_of_lt_of_le (L_t j h) (m56 _)
  have hm : ∀ b, gvN S b ≤ gvN S55 b := lh_le_trans hm m56
  have ok := lh_W_ok hW
  refine lh_aload_n hx hb dX10_init_60 rfl (lv_at hl 0 rfl) ?_
  refine lv_bipush (v := 120) hx hb dX10_init_61 (by decide) ?_
  obtain ⟨S57, eS57, hf⟩ := dc_let_ok hf
  refine lh_newa (ty := .int) (atype := .int) (n := (120 : Int32)) (a := 39) (t0 := 0) (N' := 120) hx hb (hts (.arrayClass .int) (List.mem_cons_of_mem _ (List.mem_append_left _ (List.mem_append_left _ (List.mem_of_getElem? (i := 3) rfl))))) rfl hK hW hS hA rfl rfl (fun _ _ h => h) (Or.inl ⟨rfl, rfl⟩) (by decide +kernel) (by decide +kernel) (by decide +kernel) (Nat.le_of_ble_eq_true rfl) (Nat.le_of_ble_eq_true rfl) dX10_init_63 (fun ad58 H hE59 hW hS => ?_)
  rw [lh_rE hE59 L_t] at hl
  rw [lh_rE hE59 L_t]
  have hE : lh_E S ad ad58 := lh_E.trans hE hm hE59
  rw [← eS57] at hW
  have m60 : ∀ b, gvN S55 b ≤ gvN S57 b := by rw [eS57]; exact lh_mN
  have L_t : ∀ j, some t = some j → j < gvN S57 10 := fun j h => Nat.lt_of_lt_of_le (L_t j h) (m60 _)
  have hm : ∀ b, gvN S b ≤ gvN S57 b := lh_le_trans hm m60
  have ok := lh_W_ok hW
  have L61 : ∀ j, some (gvN S55 39) = some j → j < gvN S57 39 := lh_ls (by rw [eS57]; exact lh_nN)
  obtain ⟨S63, eS63, hf⟩ := dc_let_ok hf
  refine lh_put (S' := S63) (a := 10) (k := 9) (N := 42) (C := RX10) (T := TX10) (own := RX10) (ref := "LoaderModelsModel") (ty := .array .int) hx hb hts (fun _ h => (List.mem_cons_of_mem _ (List.mem_append_right _ h))) tyX10 tyX10_ok nmX10 hown hK hW hS rfl (L_t _ rfl) rfl rfl rfl (by decide) (hts (.fieldLink RX10 36 "LoaderModelsModel" "methodB" "[I") (List.mem_cons_of_mem _ (List.mem_append_left _ (List.mem_append_left _ (List.mem_of_getElem? (i := 12) rfl))))) (fun _ h9 => h9) (Or.inr ⟨rfl, hin, rfl⟩) (by decide +kernel) lh_nar_a lh_fit_a (fun q9 => by rw [eS63]; exact lh_chR rfl L61 q9) dX10_init_65 (fun H locs hW hS => ?_)
  have m64 : ∀ b, gvN S57 b ≤ gvN S63 b := by rw [eS63]; exact lh_mR
  have L_t : ∀ j, some t = some j → j < gvN S63 10 := fun j h => Nat.lt_of_lt_of_le (L_t j h) (m64 _)
  have hm : ∀ b, gvN S b ≤ gvN S63 b := lh_le_trans hm m64
  have ok := lh_W_ok hW
  refine lh_aload_n hx hb dX10_init_68 rfl (lv_at hl 0 rfl) ?_
  refine lv_bipush (v := 8) hx hb dX10_init_69 (by decide) ?_
  obtain ⟨S65, eS65, hf⟩ := dc_let_ok hf
  refine lh_newa (ty := .int) (atype := .int) (n := (8 : Int32)) (a := 41) (t0 := 0) (N' := 8) hx hb (hts (.arrayClass .int) (List.mem_cons_of_mem _ (List.mem_append_left _ (List.mem_append_left _ (List.mem_of_getElem? (i := 3) rfl))))) rfl hK hW hS hA rfl rfl (fun _ _ h => h) (Or.inl ⟨rfl, rfl⟩) (by decide +kernel) (by decide +kernel) (by decide +kernel) (Nat.le_of_ble_eq_true rfl) (Nat.le_of_ble_eq_true rfl) dX10_init_71 (fun ad66 H hE67 hW hS => ?_)
  rw [lh_rE hE67 L_t] at hl
  rw [lh_rE hE67 L_t]
  have hE : lh_E S ad ad66 := lh_E.trans hE hm hE67
  rw [← eS65] at hW
  have m68 : ∀ b, gvN S63 b ≤ gvN S65 b := by rw [eS65]; exact lh_mN
  have L_t : ∀ j, some t = some j → j < gvN S65 10 := fun j h => Nat.lt_of_lt_of_le (L_t j h) (m68 _)
  have hm : ∀ b, gvN S b ≤ gvN S65 b := lh_le_trans hm m68
  have ok := lh_W_ok hW
  have L69 : ∀ j, some (gvN S63 41) = some j → j < gvN S65 41 := lh_ls (by rw [eS65]; exact lh_nN)
  obtain ⟨S71, eS71, hf⟩ := dc_let_ok hf
  refine lh_put (S' := S71) (a := 10) (k := 11) (N := 42) (C := RX10) (T := TX10) (own := RX10) (ref := "LoaderModelsModel") (ty := .array .int) hx hb hts (fun _ h => (List.mem_cons_of_mem _ (List.mem_append_right _ h))) tyX10 tyX10_ok nmX10 hown hK hW hS rfl (L_t _ rfl) rfl rfl rfl (by decide) (hts (.fieldLink RX10 39 "LoaderModelsModel" "parent" "[I") (List.mem_cons_of_mem _ (List.mem_append_left _ (List.mem_append_left _ (List.mem_of_getElem? (i := 13) rfl))))) (fun _ h9 => h9) (Or.inr ⟨rfl, hin, rfl⟩) (by decide +kernel) lh_nar_a lh_fit_a (fun q9 => by rw [eS71]; exact lh_chR rfl L69 q9) dX10_init_73 (fun H locs hW hS => ?_)
  have m72 : ∀ b, gvN S65 b ≤ gvN S71 b := by rw [eS71]; exact lh_mR
  have L_t : ∀ j, some t = some j → j < gvN S71 10 := fun j h => Nat.lt_of_lt_of_le (L_t j h) (m72 _)
  have hm : ∀ b, gvN S b ≤ gvN S71 b := lh_le_trans hm m72
  have ok := lh_W_ok hW
  refine lh_aload_n hx hb dX10_init_76 rfl (lv_at hl 0 rfl) ?_
  refine lv_bipush (v := 8) hx hb dX10_init_77 (by decide) ?_
  obtain ⟨S73, eS73, hf⟩ := dc_let_ok hf
  refine lh_newa (ty := .int) (atype := .int) (n := (8 : Int32)) (a := 42) (t0 := 0) (N' := 8) hx hb (hts (.arrayClass .int) (List.mem_cons_of_mem _ (List.mem_append_left _ (List.mem_append_left _ (List.mem_of_getElem? (i := 3) rfl))))) rfl hK hW hS hA rfl rfl (fun _ _ h => h) (Or.inl ⟨rfl, rfl⟩) (by decide +kernel) (by decide +kernel) (by decide +kernel) (Nat.le_of_ble_eq_true rfl) (Nat.le_of_ble_eq_true rfl) dX10_init_79 (fun ad74 H hE75 hW hS => ?_)
  rw [lh_rE hE75 L_t] at hl
  rw [lh_rE hE75 L_t]
  have hE : lh_E S ad ad74 := lh_E.trans hE hm hE75
  rw [← eS73] at hW
  have m76 : ∀ b, gvN S71 b ≤ gvN S73 b := by rw [eS73]; exact lh_mN
  have L_t : ∀ j, some t = some j → j < gvN S73 10 := fun j h => Nat.lt_of_lt_of_le (L_t j h) (m76 _)
  have hm : ∀ b, gvN S b ≤ gvN S73 b := lh_le_trans hm m76
  have ok := lh_W_ok hW
  have L77 : ∀ j, some (gvN S71 42) = some j → j < gvN S73 42 := lh_ls (by rw [eS73]; exact lh_nN)
  obtain ⟨S79, eS79, hf⟩ := dc_let_ok hf
  refine lh_put (S' := S79) (a := 10) (k := 12) (N := 42) (C := RX10) (T := TX10) (own := RX10) (ref := "LoaderModelsModel") (ty := .array .int) hx hb hts (fun _ h => (List.mem_cons_of_mem _ (List.mem_append_right _ h))) tyX10 tyX10_ok nmX10 hown hK hW hS rfl (L_t _ rfl) rfl rfl rfl (by decide) (hts (.fieldLink RX10 42 "LoaderModelsModel" "bound" "[I") (List.mem_cons_of_mem _ (List.mem_append_left _ (List.mem_append_left _ (List.mem_of_getElem? (i := 14) rfl))))) (fun _ h9 => h9) (Or.inr ⟨rfl, hin, rfl⟩) (by decide +kernel) lh_nar_a lh_fit_a (fun q9 => by rw [eS79]; exact lh_chR rfl L77 q9) dX10_init_81 (fun H locs hW hS => ?_)
  have m80 : ∀ b, gvN S73 b ≤ gvN S79 b := by rw [eS79]; exact lh_mR
  have L_t : ∀ j, some t = some j → j < gvN S79 10 := fun j h => Nat.lt_of_lt_of_le (L_t j h) (m80 _)
  have hm : ∀ b, gvN S b ≤ gvN S79 b := lh_le_trans hm m80
  have ok := lh_W_ok hW
  refine lh_aload_n hx hb dX10_init_84 rfl (lv_at hl 0 rfl) ?_
  refine lv_sipush (v := 320) hx hb dX10_init_85 (by decide) ?_
  obtain ⟨S81, eS81, hf⟩ := dc_let_ok hf
  refine lh_newa (ty := .int) (atype := .int) (n := (320 : Int32)) (a := 43) (t0 := 0) (N' := 320) hx hb (hts (.arrayClass .int) (List.mem_cons_of_mem _ (List.mem_append_left _ (List.mem_append_left _ (List.mem_of_getElem? (i := 3) rfl))))) rfl hK hW hS hA rfl rfl (fun _ _ h => h) (Or.inl ⟨rfl, rfl⟩) (by decide +kernel) (by decide +kernel) (by decide +kernel) (Nat.le_of_ble_eq_true rfl) (Nat.le_of_ble_eq_true rfl) dX10_init_88 (fun ad82 H hE83 hW hS => ?_)
  rw [lh_rE hE83 L_t] at hl
  rw [lh_rE hE83 L_t]
  have hE : lh_E S ad ad82 := lh_E.trans hE hm hE83
  rw [← eS81] at hW
  have m84 : ∀ b, gvN S79 b ≤ gvN S81 b := by rw [eS81]; exact lh_mN
  have L_t : ∀ j, some t = some j → j < gvN S81 10 := fun j h => Nat.lt_of_lt_of_le (L_t j h) (m84 _)
  have hm : ∀ b, gvN S b ≤ gvN S81 b := lh_le_trans hm m84
  have ok := lh_W_ok hW
  have L85 : ∀ j, some (gvN S79 43) = some j → j < gvN S81 43 := lh_ls (by rw [eS81]; exact lh_nN)
  obtain ⟨S87, eS87, hf⟩ := dc_let_ok hf
  refine lh_put (S' := S87) (a := 10) (k := 13) (N := 42) (C := RX10) (T := TX10) (own := RX10) (ref := "LoaderModelsModel") (ty := .array .int) hx hb hts (fun _ h => (List.mem_cons_of_mem _ (List.mem_append_right _ h))) tyX10 tyX10_ok nmX10 hown hK hW hS rfl (L_t _ rfl) rfl rfl rfl (by decide) (hts (.fieldLink RX10 45 "LoaderModelsModel" "has" "[I") (List.mem_cons_of_mem _ (List.mem_append_left _ (List.mem_append_left _ (List.mem_of_getElem? (i := 15) rfl))))) (fun _ h9 => h9) (Or.inr ⟨rfl, hin, rfl⟩) (by decide +kernel) lh_nar_a lh_fit_a (fun q9 => by rw [eS87]; exact lh_chR rfl L85 q9) dX10_init_90 (fun H locs hW hS => ?_)
  have m88 : ∀ b, gvN S81 b ≤ gvN S87 b := by rw [eS87]; exact lh_mR
  have L_t : ∀ j, some t = some j → j < gvN S87 10 := fun j h => Nat.lt_of_lt_of_le (L_t j h) (m88 _)
  have hm : ∀ b, gvN S b ≤ gvN S87 b := lh_le_trans hm m88
  have ok := lh_W_ok hW
  refine lh_aload_n hx hb dX10_init_93 rfl (lv_at hl 0 rfl) ?_
  refine lv_sipush (v := 320) hx hb dX10_init_94 (by decide) ?_
  obtain ⟨S89, eS89, hf⟩ := dc_let_ok hf
  refine lh_newa (ty := .int) (atype := .int) (n := (320 : Int32)) (a := 44) (t0 := 0) (N' := 320) hx hb (hts (.arrayClass .int) (List.mem_cons_of_mem _ (List.mem_append_left _ (List.mem_append_left _ (List.mem_of_getElem? (i := 3) rfl))))) rfl hK hW hS hA rfl rfl (fun _ _ h => h) (Or.inl ⟨rfl, rfl⟩) (by decide +kernel) (by decide +kernel) (by decide +kernel) (Nat.le_of_ble_eq_true rfl) (Nat.le_of_ble_eq_true rfl) dX10_init_97 (fun ad90 H hE91 hW hS => ?_)
  rw [lh_rE hE91 L_t] at hl
  rw [lh_rE hE91 L_t]
  have hE : lh_E S ad ad90 := lh_E.trans hE hm hE91
  rw [← eS89] at hW
  have m92 : ∀ b, gvN S87 b ≤ gvN S89 b := by rw [eS89]; exact lh_mN
  have L_t : ∀ j, some t = some j → j < gvN S89 10 := fun j h => Nat.lt_of_lt_of_le (L_t j h) (m92 _)
  have hm : ∀ b, gvN S b ≤ gvN S89 b := lh_le_trans hm m92
  have ok := lh_W_ok hW
  have L93 : ∀ j, some (gvN S87 44) = some j → j < gvN S89 44 := lh_ls (by rw [eS89]; exact lh_nN)
  obtain ⟨S95, eS95, hf⟩ := dc_let_ok hf
  refine lh_put (S' := S95) (a := 10) (k := 14) (N := 42) (C := RX10) (T := TX10) (own := RX10) (ref := "LoaderModelsModel") (ty := .array .int) hx hb hts (fun _ h => (List.mem_cons_of_mem _ (List.mem_append_right _ h))) tyX10 tyX10_ok nmX10 hown hK hW hS rfl (L_t _ rfl) rfl rfl rfl (by decide) (hts (.fieldLink RX10 48 "LoaderModelsModel" "knows" "[I") (List.mem_cons_of_mem _ (List.mem_append_left _ (List.mem_append_left _ (List.mem_of_getElem? (i := 16) rfl))))) (fun _ h9 => h9) (Or.inr ⟨rfl, hin, rfl⟩) (by decide +kernel) lh_nar_a lh_fit_a (fun q9 => by rw [eS95]; exact lh_chR rfl L93 q9) dX10_init_99 (fun H locs hW hS => ?_)
  have m96 : ∀ b, gvN S89 b ≤ gvN S95 b := by rw [eS95]; exact lh_mR
  have L_t : ∀ j, some t = some j → j < gvN S95 10 := fun j h => Nat.lt_of_lt_of_le (L_t j h) (m96 _)
  have hm : ∀ b, gvN S b ≤ gvN S95 b := lh_le_trans hm m96
  have ok := lh_W_ok hW
  refine lh_aload_n hx hb dX10_init_102 rfl (lv_at hl 0 rfl) ?_
  refine lv_sipush (v := 320) hx hb dX10_init_103 (by decide) ?_
  obtain ⟨S97, eS97, hf⟩ := dc_let_ok hf
  refine lh_newa (ty := .boolean) (atype := .boolean) (n := (320 : Int32)) (a := 45) (t0 := 1) (N' := 320) hx hb (hts (.arrayClass .boolean) (List.mem_cons_of_mem _ (List.mem_append_left _ (List.mem_append_left _ (List.mem_of_getElem? (i := 8) rfl))))) rfl hK hW hS hA rfl rfl (fun _ _ h => h) (Or.inl ⟨rfl, rfl⟩) (by decide +kernel) (by decide +kernel) (by decide +kernel) (Nat.le_of_ble_eq_true rfl) (Nat.le_of_ble_eq_true rfl) dX10_init_106 (fun ad98 H hE99 hW hS => ?_)
  rw [lh_rE hE99 L_t] at hl
  rw [lh_rE hE99 L_t]
  have hE : lh_E S ad ad98 := lh_E.trans hE hm hE99
  rw [← eS97] at hW
  have m100 : ∀ b, gvN S95 b ≤ gvN S97 b := by rw [eS97]; exact lh_mN
  have L_t : ∀ j, some t = some j → j < gvN S97 10 := fun j h => Nat.lt_of_lt_of_le (L_t j h) (m100 _)
  have hm : ∀ b, gvN S b ≤ gvN S97 b := lh_le_trans hm m100
  have ok := lh_W_ok hW
  have L101 : ∀ j, some (gvN S95 45) = some j → j < gvN S97 45 := lh_ls (by rw [eS97]; exact lh_nN)
  obtain ⟨S103, eS103, hf⟩ := dc_let_ok hf
  refine lh_put (S' := S103) (a := 10) (k := 15) (N := 42) (C := RX10) (T := TX10) (own := RX10) (ref := "LoaderModelsModel") (ty := .array .boolean) hx hb hts (fun _ h => (List.mem_cons_of_mem _ (List.mem_append_right _ h))) tyX10 tyX10_ok nmX10 hown hK hW hS rfl (L_t _ rfl) rfl rfl rfl (by decide) (hts (.fieldLink RX10 51 "LoaderModelsModel" "isDefining" "[Z") (List.mem_cons_of_mem _ (List.mem_append_left _ (List.mem_append_left _ (List.mem_of_getElem? (i := 17) rfl))))) (fun _ h9 => h9) (Or.inr ⟨rfl, hin, rfl⟩) (by decide +kernel) lh_nar_a lh_fit_a (fun q9 => by rw [eS103]; exact lh_chR rfl L101 q9) dX10_init_108 (fun H locs hW hS => ?_)
  have m104 : ∀ b, gvN S97 b ≤ gvN S103 b := by rw [eS103]; exact lh_mR
  have L_t : ∀ j, some t = some j → j < gvN S103 10 := fun j h => Nat.lt_of_lt_of_le (L_t j h) (m104 _)
  have hm : ∀ b, gvN S b ≤ gvN S103 b := lh_le_trans hm m104
  have ok := lh_W_ok hW
  refine lh_aload_n hx hb dX10_init_111 rfl (lv_at hl 0 rfl) ?_
  refine lv_sipush (v := 320) hx hb dX10_init_112 (by decide) ?_
  obtain ⟨S105, eS105, hf⟩ := dc_let_ok hf
  refine lh_newa (ty := .int) (atype := .int) (n := (320 : Int32)) (a := 46) (t0 := 0) (N' := 320) hx hb (hts (.arrayClass .int) (List.mem_cons_of_mem _ (List.mem_append_left _ (List.mem_append_left _ (List.mem_of_getElem? (i := 3) rfl))))) rfl hK hW hS hA rfl rfl (fun _ _ h => h) (Or.inl ⟨rfl, rfl⟩) (by decide +kernel) (by decide +kernel) (by decide +kernel) (Nat.le_of_ble_eq_true rfl) (Nat.le_of_ble_eq_true rfl) dX10_init_115 (fun ad106 H hE107 hW hS => ?_)
  rw [lh_rE hE107 L_t] at hl
  rw [lh_rE hE107 L_t]
  have hE : lh_E S ad ad106 := lh_E.trans hE hm hE107
  rw [← eS105] at hW
  have m108 : ∀ b, gvN S103 b ≤ gvN S105 b := by rw [eS105]; exact lh_mN
  have L_t : ∀ j, some t = some j → j < gvN S105 10 := fun j h => Nat.lt_of_lt_of_le (L_t j h) (m108 _)
  have hm : ∀ b, gvN S b ≤ gvN S105 b := lh_le_trans hm m108
  have ok := lh_W_ok hW
  have L109 : ∀ j, some (gvN S103 46) = some j → j < gvN S105 46 := lh_ls (by rw [eS105]; exact lh_nN)
  obtain ⟨S111, eS111, hf⟩ := dc_let_ok hf
  refine lh_put (S' := S111) (a := 10) (k := 16) (N := 42) (C := RX10) (T := TX10) (own := RX10) (ref := "LoaderModelsModel") (ty := .array .int) hx hb hts (fun _ h => (List.mem_cons_of_mem _ (List.mem_append_right _ h))) tyX10 tyX10_ok nmX10 hown hK hW hS rfl (L_t _ rfl) rfl rfl rfl (by decide) (hts (.fieldLink RX10 54 "LoaderModelsModel" "group" "[I") (List.mem_cons_of_mem _ (List.mem_append_left _ (List.mem_append_left _ (List.mem_of_getElem? (i := 18) rfl))))) (fun _ h9 => h9) (Or.inr ⟨rfl, hin, rfl⟩) (by decide +kernel) lh_nar_a lh_fit_a (fun q9 => by rw [eS111]; exact lh_chR rfl L109 q9) dX10_init_117 (fun H locs hW hS => ?_)
  have m112 : ∀ b, gvN S105 b ≤ gvN S111 b := by rw [eS111]; exact lh_mR
  have L_t : ∀ j, some t = some j → j < gvN S111 10 := fun j h => Nat.lt_of_lt_of_le (L_t j h) (m112 _)
  have hm : ∀ b, gvN S b ≤ gvN S111 b := lh_le_trans hm m112
  have ok := lh_W_ok hW
  refine lh_aload_n hx hb dX10_init_120 rfl (lv_at hl 0 rfl) ?_
  refine lv_bipush (v := 40) hx hb dX10_init_121 (by decide) ?_
  obtain ⟨S113, eS113, hf⟩ := dc_let_ok hf
  refine lh_newa (ty := .int) (atype := .int) (n := (40 : Int32)) (a := 48) (t0 := 0) (N' := 40) hx hb (hts (.arrayClass .int) (List.mem_cons_of_mem _ (List.mem_append_left _ (List.mem_append_left _ (List.mem_of_getElem? (i := 3) rfl))))) rfl hK hW hS hA rfl rfl (fun _ _ h => h) (Or.inl ⟨rfl, rfl⟩) (by decide +kernel) (by decide +kernel) (by decide +kernel) (Nat.le_of_ble_eq_true rfl) (Nat.le_of_ble_eq_true rfl) dX10_init_123 (fun ad114 H hE115 hW hS => ?_)
  rw [lh_rE hE115 L_t] at hl
  rw [lh_rE hE115 L_t]
  have hE : lh_E S ad ad114 := lh_E.trans hE hm hE115
  rw [← eS113] at hW
  have m116 : ∀ b, gvN S111 b ≤ gvN S113 b := by rw [eS113]; exact lh_mN
  have L_t : ∀ j, some t = some j → j < gvN S113 10 := fun j h => Nat.lt_of_lt_of_le (L_t j h) (m116 _)
  have hm : ∀ b, gvN S b ≤ gvN S113 b := lh_le_trans hm m116
  have ok := lh_W_ok hW
  have L117 : ∀ j, some (gvN S111 48) = some j → j < gvN S113 48 := lh_ls (by rw [eS113]; exact lh_nN)
  obtain ⟨S119, eS119, hf⟩ := dc_let_ok hf
  refine lh_put (S' := S119) (a := 10) (k := 18) (N := 42) (C := RX10) (T := TX10) (own := RX10) (ref := "LoaderModelsModel") (ty := .array .int) hx hb hts (fun _ h => (List.mem_cons_of_mem _ (List.mem_append_right _ h))) tyX10 tyX10_ok nmX10 hown hK hW hS rfl (L_t _ rfl) rfl rfl rfl (by decide) (hts (.fieldLink RX10 57 "LoaderModelsModel" "className" "[I") (List.mem_cons_of_mem _ (List.mem_append_left _ (List.mem_append_left _ (List.mem_of_getElem? (i := 19) rfl))))) (fun _ h9 => h9) (Or.inr ⟨rfl, hin, rfl⟩) (by decide +kernel) lh_nar_a lh_fit_a (fun q9 => by rw [eS119]; exact lh_chR rfl L117 q9) dX10_init_125 (fun H locs hW hS => ?_)
  have m120 : ∀ b, gvN S113 b ≤ gvN S119 b := by rw [eS119]; exact lh_mR
  have L_t : ∀ j, some t = some j → j < gvN S119 10 := fun j h => Nat.lt_of_lt_of_le (L_t j h) (m120 _)
  have hm : ∀ b, gvN S b ≤ gvN S119 b := lh_le_trans hm m120
  have ok := lh_W_ok hW
  refine lh_aload_n hx hb dX10_init_128 rfl (lv_at hl 0 rfl) ?_
  refine lv_bipush (v := 40) hx hb dX10_init_129 (by decide) ?_
  obtain ⟨S121, eS121, hf⟩ := dc_let_ok hf
  refine lh_newa (ty := .int) (atype := .int) (n := (40 : Int32)) (a := 49) (t0 := 0) (N' := 40) hx hb (hts (.arrayClass .int) (List.mem_cons_of_mem _ (List.mem_append_left _ (List.mem_append_left _ (List.mem_of_getElem? (i := 3) rfl))))) rfl hK hW hS hA rfl rfl (fun _ _ h => h) (Or.inl ⟨rfl, rfl⟩) (by decide +kernel) (by decide +kernel) (by decide +kernel) (Nat.le_of_ble_eq_true rfl) (Nat.le_of_ble_eq_true rfl) dX10_init_131 (fun ad122 H hE123 hW hS => ?_)
  rw [lh_rE hE123 L_t] at hl
  rw [lh_rE hE123 L_t]
  have hE : lh_E S ad ad122 := lh_E.trans hE hm hE123
  rw [← eS121] at hW
  have m124 : ∀ b, gvN S119 b ≤ gvN S121 b := by rw [eS121]; exact lh_mN
  have L_t : ∀ j, some t = some j → j < gvN S121 10 := fun j h => Nat.lt_of_lt_of_le (L_t j h) (m124 _)
  have hm : ∀ b, gvN S b ≤ gvN S121 b := lh_le_trans hm m124
  have ok := lh_W_ok hW
  have L125 : ∀ j, some (gvN S119 49) = some j → j < gvN S121 49 := lh_ls (by rw [eS121]; exact lh_nN)
  obtain ⟨S127, eS127, hf⟩ := dc_let_ok hf
  refine lh_put (S' := S127) (a := 10) (k := 19) (N := 42) (C := RX10) (T := TX10) (own := RX10) (ref := "LoaderModelsModel") (ty := .array .int) hx hb hts (fun _ h => (List.mem_cons_of_mem _ (List.mem_append_right _ h))) tyX10 tyX10_ok nmX10 hown hK hW hS rfl (L_t _ rfl) rfl rfl rfl (by decide) (hts (.fieldLink RX10 60 "LoaderModelsModel" "classLoader" "[I") (List.mem_cons_of_mem _ (List.mem_append_left _ (List.mem_append_left _ (List.mem_of_getElem? (i := 20) rfl))))) (fun _ h9 => h9) (Or.inr ⟨rfl, hin, rfl⟩) (by decide +kernel) lh_nar_a lh_fit_a (fun q9 => by rw [eS127]; exact lh_chR rfl L125 q9) dX10_init_133 (fun H locs hW hS => ?_)
  have m128 : ∀ b, gvN S121 b ≤ gvN S127 b := by rw [eS127]; exact lh_mR
  have L_t : ∀ j, some t = some j → j < gvN S127 10 := fun j h => Nat.lt_of_lt_of_le (L_t j h) (m128 _)
  have hm : ∀ b, gvN S b ≤ gvN S127 b := lh_le_trans hm m128
  have ok := lh_W_ok hW
  refine lh_aload_n hx hb dX10_init_136 rfl (lv_at hl 0 rfl) ?_
  refine lv_bipush (v := 40) hx hb dX10_init_137 (by decide) ?_
  obtain ⟨S129, eS129, hf⟩ := dc_let_ok hf
  refine lh_newa (ty := .int) (atype := .int) (n := (40 : Int32)) (a := 50) (t0 := 0) (N' := 40) hx hb (hts (.arrayClass .int) (List.mem_cons_of_mem _ (List.mem_append_left _ (List.mem_append_left _ (List.mem_of_getElem? (i := 3) rfl))))) rfl hK hW hS hA rfl rfl (fun _ _ h => h) (Or.inl ⟨rfl, rfl⟩) (by decide +kernel) (by decide +kernel) (by decide +kernel) (Nat.le_of_ble_eq_true rfl) (Nat.le_of_ble_eq_true rfl) dX10_init_139 (fun ad130 H hE131 hW hS => ?_)
  rw [lh_rE hE131 L_t] at hl
  rw [lh_rE hE131 L_t]
  have hE : lh_E S ad ad130 := lh_E.trans hE hm hE131
  rw [← eS129] at hW
  have m132 : ∀ b, gvN S127 b ≤ gvN S129 b := by rw [eS129]; exact lh_mN
  have L_t : ∀ j, some t = some j → j < gvN S129 10 := fun j h => Nat.lt_of_lt_of_le (L_t j h) (m132 _)
  have hm : ∀ b, gvN S b ≤ gvN S129 b := lh_le_trans hm m132
  have ok := lh_W_ok hW
  have L133 : ∀ j, some (gvN S127 50) = some j → j < gvN S129 50 := lh_ls (by rw [eS129]; exact lh_nN)
  obtain ⟨S135, eS135, hf⟩ := dc_let_ok hf
  refine lh_put (S' := S135) (a := 10) (k := 20) (N := 42) (C := RX10) (T := TX10) (own := RX10) (ref := "LoaderModelsModel") (ty := .array .int) hx hb hts (fun _ h => (List.mem_cons_of_mem _ (List.mem_append_right _ h))) tyX10 tyX10_ok nmX10 hown hK hW hS rfl (L_t _ rfl) rfl rfl rfl (by decide) (hts (.fieldLink RX10 63 "LoaderModelsModel" "classFile" "[I") (List.mem_cons_of_mem _ (List.mem_append_left _ (List.mem_append_left _ (List.mem_of_getElem? (i := 21) rfl))))) (fun _ h9 => h9) (Or.inr ⟨rfl, hin, rfl⟩) (by decide +kernel) lh_nar_a lh_fit_a (fun q9 => by rw [eS135]; exact lh_chR rfl L133 q9) dX10_init_141 (fun H locs hW hS => ?_)
  have m136 : ∀ b, gvN S129 b ≤ gvN S135 b := by rw [eS135]; exact lh_mR
  have L_t : ∀ j, some t = some j → j < gvN S135 10 := fun j h => Nat.lt_of_lt_of_le (L_t j h) (m136 _)
  have hm : ∀ b, gvN S b ≤ gvN S135 b := lh_le_trans hm m136
  have ok := lh_W_ok hW
  refine lh_aload_n hx hb dX10_init_144 rfl (lv_at hl 0 rfl) ?_
  refine lv_bipush (v := 40) hx hb dX10_init_145 (by decide) ?_
  obtain ⟨S137, eS137, hf⟩ := dc_let_ok hf
  refine lh_newa (ty := .int) (atype := .int) (n := (40 : Int32)) (a := 51) (t0 := 0) (N' := 40) hx hb (hts (.arrayClass .int) (List.mem_cons_of_mem _ (List.mem_append_left _ (List.mem_append_left _ (List.mem_of_getElem? (i := 3) rfl))))) rfl hK hW hS hA rfl rfl (fun _ _ h => h) (Or.inl ⟨rfl, rfl⟩) (by decide +kernel) (by decide +kernel) (by decide +kernel) (Nat.le_of_ble_eq_true rfl) (Nat.le_of_ble_eq_true rfl) dX10_init_147 (fun ad138 H hE139 hW hS => ?_)
  rw [lh_rE hE139 L_t] at hl
  rw [lh_rE hE139 L_t]
  have hE : lh_E S ad ad138 := lh_E.trans hE hm hE139
  rw [← eS137] at hW
  have m140 : ∀ b, gvN S135 b ≤ gvN S137 b := by rw [eS137]; exact lh_mN
  have L_t : ∀ j, some t = some j → j < gvN S137 10 := fun j h => Nat.lt_of_lt_of_le (L_t j h) (m140 _)
  have hm : ∀ b, gvN S b ≤ gvN S137 b := lh_le_trans hm m140
  have ok := lh_W_ok hW
  have L141 : ∀ j, some (gvN S135 51) = some j → j < gvN S137 51 := lh_ls (by rw [eS137]; exact lh_nN)
  obtain ⟨S143, eS143, hf⟩ := dc_let_ok hf
  refine lh_put (S' := S143) (a := 10) (k := 21) (N := 42) (C := RX10) (T := TX10) (own := RX10) (ref := "LoaderModelsModel") (ty := .array .int) hx hb hts (fun _ h => (List.mem_cons_of_mem _ (List.mem_append_right _ h))) tyX10 tyX10_ok nmX10 hown hK hW hS rfl (L_t _ rfl) rfl rfl rfl (by decide) (hts (.fieldLink RX10 66 "LoaderModelsModel" "classAbove" "[I") (List.mem_cons_of_mem _ (List.mem_append_left _ (List.mem_append_left _ (List.mem_of_getElem? (i := 22) rfl))))) (fun _ h9 => h9) (Or.inr ⟨rfl, hin, rfl⟩) (by decide +kernel) lh_nar_a lh_fit_a (fun q9 => by rw [eS143]; exact lh_chR rfl L141 q9) dX10_init_149 (fun H locs hW hS => ?_)
  have m144 : ∀ b, gvN S137 b ≤ gvN S143 b := by rw [eS143]; exact lh_mR
  have L_t : ∀ j, some t = some j → j < gvN S143 10 := fun j h => Nat.lt_of_lt_of_le (L_t j h) (m144 _)
  have hm : ∀ b, gvN S b ≤ gvN S143 b := lh_le_trans hm m144
  have ok := lh_W_ok hW
  refine lh_aload_n hx hb dX10_init_152 rfl (lv_at hl 0 rfl) ?_
  refine lv_bipush (v := 40) hx hb dX10_init_153 (by decide) ?_
  obtain ⟨S145, eS145, hf⟩ := dc_let_ok hf
  refine lh_newa (ty := .int) (atype := .int) (n := (40 : Int32)) (a := 52) (t0 := 0) (N' := 40) hx hb (hts (.arrayClass .int) (List.mem_cons_of_mem _ (List.mem_append_left _ (List.mem_append_left _ (List.mem_of_getElem? (i := 3) rfl))))) rfl hK hW hS hA rfl rfl (fun _ _ h => h) (Or.inl ⟨rfl, rfl⟩) (by decide +kernel) (by decide +kernel) (by decide +kernel) (Nat.le_of_ble_eq_true rfl) (Nat.le_of_ble_eq_true rfl) dX10_init_155 (fun ad146 H hE147 hW hS => ?_)
  rw [lh_rE hE147 L_t] at hl
  rw [lh_rE hE147 L_t]
  have hE : lh_E S ad ad146 := lh_E.trans hE hm hE147
  rw [← eS145] at hW
  have m148 : ∀ b, gvN S143 b ≤ gvN S145 b := by rw [eS145]; exact lh_mN
  have L_t : ∀ j, some t = some j → j < gvN S145 10 := fun j h => Nat.lt_of_lt_of_le (L_t j h) (m148 _)
  have hm : ∀ b, gvN S b ≤ gvN S145 b := lh_le_trans hm m148
  have ok := lh_W_ok hW
  have L149 : ∀ j, some (gvN S143 52) = some j → j < gvN S145 52 := lh_ls (by rw [eS145]; exact lh_nN)
  obtain ⟨S151, eS151, hf⟩ := dc_let_ok hf
  refine lh_put (S' := S151) (a := 10) (k := 22) (N := 42) (C := RX10) (T := TX10) (own := RX10) (ref := "LoaderModelsModel") (ty := .array .int) hx hb hts (fun _ h => (List.mem_cons_of_mem _ (List.mem_append_right _ h))) tyX10 tyX10_ok nmX10 hown hK hW hS rfl (L_t _ rfl) rfl rfl rfl (by decide) (hts (.fieldLink RX10 69 "LoaderModelsModel" "classState" "[I") (List.mem_cons_of_mem _ (List.mem_append_left _ (List.mem_append_left _ (List.mem_of_getElem? (i := 23) rfl))))) (fun _ h9 => h9) (Or.inr ⟨rfl, hin, rfl⟩) (by decide +kernel) lh_nar_a lh_fit_a (fun q9 => by rw [eS151]; exact lh_chR rfl L149 q9) dX10_init_157 (fun H locs hW hS => ?_)
  have m152 : ∀ b, gvN S145 b ≤ gvN S151 b := by rw [eS151]; exact lh_mR
  have L_t : ∀ j, some t = some j → j < gvN S151 10 := fun j h => Nat.lt_of_lt_of_le (L_t j h) (m152 _)
  have hm : ∀ b, gvN S b ≤ gvN S151 b := lh_le_trans hm m152
  have ok := lh_W_ok hW
  refine lh_aload_n hx hb dX10_init_160 rfl (lv_at hl 0 rfl) ?_
  refine lv_bipush (v := 40) hx hb dX10_init_161 (by decide) ?_
  obtain ⟨S153, eS153, hf⟩ := dc_let_ok hf
  refine lh_newa (ty := .long) (atype := .long) (n := (40 : Int32)) (a := 53) (t0 := 2) (N' := 40) hx hb (hts (.arrayClass .long) (List.mem_cons_of_mem _ (List.mem_append_left _ (List.mem_append_right _ (List.mem_append_left _ (List.mem_of_getElem? (i := 0) rfl)))))) rfl hK hW hS hA rfl rfl (fun _ _ h => h) (Or.inr ⟨rfl, rfl⟩) (by decide +kernel) (by decide +kernel) (by decide +kernel) (Nat.le_of_ble_eq_true rfl) (Nat.le_of_ble_eq_true rfl) dX10_init_163 (fun ad154 H hE155 hW hS => ?_)
  rw [lh_rE hE155 L_t] at hl
  rw [lh_rE hE155 L_t]
  have hE : lh_E S ad ad154 := lh_E.trans hE hm hE155
  rw [← eS153] at hW
  have m156 : ∀ b, gvN S151 b ≤ gvN S153 b := by rw [eS153]; exact lh_mN
  have L_t : ∀ j, some t = some j → j < gvN S153 10 := fun j h => Nat.lt_of_lt_of_le (L_t j h) (m156 _)
  have hm : ∀ b, gvN S b ≤ gvN S153 b := lh_le_trans hm m156
  have ok := lh_W_ok hW
  have L157 : ∀ j, some (gvN S151 53) = some j → j < gvN S153 53 := lh_ls (by rw [eS153]; exact lh_nN)
  obtain ⟨S159, eS159, hf⟩ := dc_let_ok hf
  refine lh_put (S' := S159) (a := 10) (k := 23) (N := 42) (C := RX10) (T := TX10) (own := RX10) (ref := "LoaderModelsModel") (ty := .array .long) hx hb hts (fun _ h => (List.mem_cons_of_mem _ (List.mem_append_right _ h))) tyX10 tyX10_ok nmX10 hown hK hW hS rfl (L_t _ rfl) rfl rfl rfl (by decide) (hts (.fieldLink RX10 72 "LoaderModelsModel" "fixed" "[J") (List.mem_cons_of_mem _ (List.mem_append_left _ (List.mem_append_right _ (List.mem_append_left _ (List.mem_of_getElem? (i := 1) rfl)))))) (fun _ h9 => h9) (Or.inr ⟨rfl, hin, rfl⟩) (by decide +kernel) lh_nar_a lh_fit_a (fun q9 => by rw [eS159]; exact lh_chR rfl L157 q9) dX10_init_165 (fun H locs hW hS => ?_)
  have m160 : ∀ b, gvN S153 b ≤ gvN S159 b := by rw [eS159]; exact lh_mR
  have L_t : ∀ j, some t = some j → j < gvN S159 10 := fun j h => Nat.lt_of_lt_of_le (L_t j h) (m160 _)
  have hm : ∀ b, gvN S b ≤ gvN S159 b := lh_le_trans hm m160
  have ok := lh_W_ok hW
  refine lh_aload_n hx hb dX10_init_168 rfl (lv_at hl 0 rfl) ?_
  refine lv_bipush (v := 30) hx hb dX10_init_169 (by decide) ?_
  obtain ⟨S161, eS161, hf⟩ := dc_let_ok hf
  refine lh_newa (ty := .int) (atype := .int) (n := (30 : Int32)) (a := 56) (t0 := 0) (N' := 30) hx hb (hts (.arrayClass .int) (List.mem_cons_of_mem _ (List.mem_append_left _ (List.mem_append_left _ (List.mem_of_getElem? (i := 3) rfl))))) rfl hK hW hS hA rfl rfl (fun _ _ h => h) (Or.inl ⟨rfl, rfl⟩) (by decide +kernel) (by decide +kernel) (by decide +kernel) (Nat.le_of_ble_eq_true rfl) (Nat.le_of_ble_eq_true rfl) dX10_init_171 (fun ad162 H hE163 hW hS => ?_)
  rw [lh_rE hE163 L_t] at hl
  rw [lh_rE hE163 L_t]
  have hE : lh_E S ad ad162 := lh_E.trans hE hm hE163
  rw [← eS161] at hW
  have m164 : ∀ b, gvN S159 b ≤ gvN S161 b := by rw [eS161]; exact lh_mN
  have L_t : ∀ j, some t = some j → j < gvN S161 10 := fun j h => Nat.lt_of_lt_of_le (L_t j h) (m164 _)
  have hm : ∀ b, gvN S b ≤ gvN S161 b := lh_le_trans hm m164
  have ok := lh_W_ok hW
  have L165 : ∀ j, some (gvN S159 56) = some j → j < gvN S161 56 := lh_ls (by rw [eS161]; exact lh_nN)
  obtain ⟨S167, eS167, hf⟩ := dc_let_ok hf
  refine lh_put (S' := S167) (a := 10) (k := 26) (N := 42) (C := RX10) (T := TX10) (own := RX10) (ref := "LoaderModelsModel") (ty := .array .int) hx hb hts (fun _ h => (List.mem_cons_of_mem _ (List.mem_append_right _ h))) tyX10 tyX10_ok nmX10 hown hK hW hS rfl (L_t _ rfl) rfl rfl rfl (by decide) (hts (.fieldLink RX10 76 "LoaderModelsModel" "noted" "[I") (List.mem_cons_of_mem _ (List.mem_append_left _ (List.mem_append_right _ (List.mem_append_left _ (List.mem_of_getElem? (i := 2) rfl)))))) (fun _ h9 => h9) (Or.inr ⟨rfl, hin, rfl⟩) (by decide +kernel) lh_nar_a lh_fit_a (fun q9 => by rw [eS167]; exact lh_chR rfl L165 q9) dX10_init_173 (fun H locs hW hS => ?_)
  have m168 : ∀ b, gvN S161 b ≤ gvN S167 b := by rw [eS167]; exact lh_mR
  have L_t : ∀ j, some t = some j → j < gvN S167 10 := fun j h => Nat.lt_of_lt_of_le (L_t j h) (m168 _)
  have hm : ∀ b, gvN S b ≤ gvN S167 b := lh_le_trans hm m168
  have ok := lh_W_ok hW
  refine lh_aload_n hx hb dX10_init_176 rfl (lv_at hl 0 rfl) ?_
  refine lv_sipush (v := 700) hx hb dX10_init_177 (by decide) ?_
  obtain ⟨S169, eS169, hf⟩ := dc_let_ok hf
  refine lh_newa (ty := .int) (atype := .int) (n := (700 : Int32)) (a := 57) (t0 := 0) (N' := 700) hx hb (hts (.arrayClass .int) (List.mem_cons_of_mem _ (List.mem_append_left _ (List.mem_append_left _ (List.mem_of_getElem? (i := 3) rfl))))) rfl hK hW hS hA rfl rfl (fun _ _ h => h) (Or.inl ⟨rfl, rfl⟩) (by decide +kernel) (by decide +kernel) (by decide +kernel) (Nat.le_of_ble_eq_true rfl) (Nat.le_of_ble_eq_true rfl) dX10_init_180 (fun ad170 H hE171 hW hS => ?_)
  rw [lh_rE hE171 L_t] at hl
  rw [lh_rE hE171 L_t]
  have hE : lh_E S ad ad170 := lh_E.trans hE hm hE171
  rw [← eS169] at hW
  have m172 : ∀ b, gvN S167 b ≤ gvN S169 b := by rw [eS169]; exact lh_mN
  have L_t : ∀ j, some t = some j → j < gvN S169 10 := fun j h => Nat.lt_of_lt_of_le (L_t j h) (m172 _)
  have hm : ∀ b, gvN S b ≤ gvN S169 b := lh_le_trans hm m172
  have ok := lh_W_ok hW
  have L173 : ∀ j, some (gvN S167 57) = some j → j < gvN S169 57 := lh_ls (by rw [eS169]; exact lh_nN)
  obtain ⟨S175, eS175, hf⟩ := dc_let_ok hf
  refine lh_put (S' := S175) (a := 10) (k := 27) (N := 42) (C := RX10) (T := TX10) (own := RX10) (ref := "LoaderModelsModel") (ty := .array .int) hx hb hts (fun _ h => (List.mem_cons_of_mem _ (List.mem_append_right _ h))) tyX10 tyX10_ok nmX10 hown hK hW hS rfl (L_t _ rfl) rfl rfl rfl (by decide) (hts (.fieldLink RX10 79 "LoaderModelsModel" "sort" "[I") (List.mem_cons_of_mem _ (List.mem_append_left _ (List.mem_append_right _ (List.mem_append_left _ (List.mem_of_getElem? (i := 3) rfl)))))) (fun _ h9 => h9) (Or.inr ⟨rfl, hin, rfl⟩) (by decide +kernel) lh_nar_a lh_fit_a (fun q9 => by rw [eS175]; exact lh_chR rfl L173 q9) dX10_init_182 (fun H locs hW hS => ?_)
  have m176 : ∀ b, gvN S169 b ≤ gvN S175 b := by rw [eS175]; exact lh_mR
  have L_t : ∀ j, some t = some j → j < gvN S175 10 := fun j h => Nat.lt_of_lt_of_le (L_t j h) (m176 _)
  have hm : ∀ b, gvN S b ≤ gvN S175 b := lh_le_trans hm m176
  have ok := lh_W_ok hW
  refine lh_aload_n hx hb dX10_init_185 rfl (lv_at hl 0 rfl) ?_
  refine lv_sipush (v := 700) hx hb dX10_init_186 (by decide) ?_
  obtain ⟨S177, eS177, hf⟩ := dc_let_ok hf
  refine lh_newa (ty := .int) (atype := .int) (n := (700 : Int32)) (a := 58) (t0 := 0) (N' := 700) hx hb (hts (.arrayClass .int) (List.mem_cons_of_mem _ (List.mem_append_left _ (List.mem_append_left _ (List.mem_of_getElem? (i := 3) rfl))))) rfl hK hW hS hA rfl rfl (fun _ _ h => h) (Or.inl ⟨rfl, rfl⟩) (by decide +kernel) (by decide +kernel) (by decide +kernel) (Nat.le_of_ble_eq_true rfl) (Nat.le_of_ble_eq_true rfl) dX10_init_189 (fun ad178 H hE179 hW hS => ?_)
  rw [lh_rE hE179 L_t] at hl
  rw [lh_rE hE179 L_t]
  have hE : lh_E S ad ad178 := lh_E.trans hE hm hE179
  rw [← eS177] at hW
  have m180 : ∀ b, gvN S175 b ≤ gvN S177 b := by rw [eS177]; exact lh_mN
  have L_t : ∀ j, some t = some j → j < gvN S177 10 := fun j h => Nat.lt_of_lt_of_le (L_t j h) (m180 _)
  have hm : ∀ b, gvN S b ≤ gvN S177 b := lh_le_trans hm m180
  have ok := lh_W_ok hW
  have L181 : ∀ j, some (gvN S175 58) = some j → j < gvN S177 58 := lh_ls (by rw [eS177]; exact lh_nN)
  obtain ⟨S183, eS183, hf⟩ := dc_let_ok hf
  refine lh_put (S' := S183) (a := 10) (k := 28) (N := 42) (C := RX10) (T := TX10) (own := RX10) (ref := "LoaderModelsModel") (ty := .array .int) hx hb hts (fun _ h => (List.mem_cons_of_mem _ (List.mem_append_right _ h))) tyX10 tyX10_ok nmX10 hown hK hW hS rfl (L_t _ rfl) rfl rfl rfl (by decide) (hts (.fieldLink RX10 82 "LoaderModelsModel" "by" "[I") (List.mem_cons_of_mem _ (List.mem_append_left _ (List.mem_append_right _ (List.mem_append_left _ (List.mem_of_getElem? (i := 4) rfl)))))) (fun _ h9 => h9) (Or.inr ⟨rfl, hin, rfl⟩) (by decide +kernel) lh_nar_a lh_fit_a (fun q9 => by rw [eS183]; exact lh_chR rfl L181 q9) dX10_init_191 (fun H locs hW hS => ?_)
  have m184 : ∀ b, gvN S177 b ≤ gvN S183 b := by rw [eS183]; exact lh_mR
  have L_t : ∀ j, some t = some j → j < gvN S183 10 := fun j h => Nat.lt_of_lt_of_le (L_t j h) (m184 _)
  have hm : ∀ b, gvN S b ≤ gvN S183 b := lh_le_trans hm m184
  have ok := lh_W_ok hW
  refine lh_aload_n hx hb dX10_init_194 rfl (lv_at hl 0 rfl) ?_
  refine lv_sipush (v := 700) hx hb dX10_init_195 (by decide) ?_
  obtain ⟨S185, eS185, hf⟩ := dc_let_ok hf
  refine lh_newa (ty := .int) (atype := .int) (n := (700 : Int32)) (a := 59) (t0 := 0) (N' := 700) hx hb (hts (.arrayClass .int) (List.mem_cons_of_mem _ (List.mem_append_left _ (List.mem_append_left _ (List.mem_of_getElem? (i := 3) rfl))))) rfl hK hW hS hA rfl rfl (fun _ _ h => h) (Or.inl ⟨rfl, rfl⟩) (by decide +kernel) (by decide +kernel) (by decide +kernel) (Nat.le_of_ble_eq_true rfl) (Nat.le_of_ble_eq_true rfl) dX10_init_198 (fun ad186 H hE187 hW hS => ?_)
  rw [lh_rE hE187 L_t] at hl
  rw [lh_rE hE187 L_t]
  have hE : lh_E S ad ad186 := lh_E.trans hE hm hE187
  rw [← eS185] at hW
  have m188 : ∀ b, gvN S183 b ≤ gvN S185 b := by rw [eS185]; exact lh_mN
  have L_t : ∀ j, some t = some j → j < gvN S185 10 := fun j h => Nat.lt_of_lt_of_le (L_t j h) (m188 _)
  have hm : ∀ b, gvN S b ≤ gvN S185 b := lh_le_trans hm m188
  have ok := lh_W_ok hW
  have L189 : ∀ j, some (gvN S183 59) = some j → j < gvN S185 59 := lh_ls (by rw [eS185]; exact lh_nN)
  obtain ⟨S191, eS191, hf⟩ := dc_let_ok hf
  refine lh_put (S' := S191) (a := 10) (k := 29) (N := 42) (C := RX10) (T := TX10) (own := RX10) (ref := "LoaderModelsModel") (ty := .array .int) hx hb hts (fun _ h => (List.mem_cons_of_mem _ (List.mem_append_right _ h))) tyX10 tyX10_ok nmX10 hown hK hW hS rfl (L_t _ rfl) rfl rfl rfl (by decide) (hts (.fieldLink RX10 85 "LoaderModelsModel" "what" "[I") (List.mem_cons_of_mem _ (List.mem_append_left _ (List.mem_append_right _ (List.mem_append_left _ (List.mem_of_getElem? (i := 5) rfl)))))) (fun _ h9 => h9) (Or.inr ⟨rfl, hin, rfl⟩) (by decide +kernel) lh_nar_a lh_fit_a (fun q9 => by rw [eS191]; exact lh_chR rfl L189 q9) dX10_init_200 (fun H locs hW hS => ?_)
  have m192 : ∀ b, gvN S185 b ≤ gvN S191 b := by rw [eS191]; exact lh_mR
  have L_t : ∀ j, some t = some j → j < gvN S191 10 := fun j h => Nat.lt_of_lt_of_le (L_t j h) (m192 _)
  have hm : ∀ b, gvN S b ≤ gvN S191 b := lh_le_trans hm m192
  have ok := lh_W_ok hW
  refine lh_aload_n hx hb dX10_init_203 rfl (lv_at hl 0 rfl) ?_
  refine lv_sipush (v := 700) hx hb dX10_init_204 (by decide) ?_
  obtain ⟨S193, eS193, hf⟩ := dc_let_ok hf
  refine lh_newa (ty := .int) (atype := .int) (n := (700 : Int32)) (a := 60) (t0 := 0) (N' := 700) hx hb (hts (.arrayClass .int) (List.mem_cons_of_mem _ (List.mem_append_left _ (List.mem_append_left _ (List.mem_of_getElem? (i := 3) rfl))))) rfl hK hW hS hA rfl rfl (fun _ _ h => h) (Or.inl ⟨rfl, rfl⟩) (by decide +kernel) (by decide +kernel) (by decide +kernel) (Nat.le_of_ble_eq_true rfl) (Nat.le_of_ble_eq_true rfl) dX10_init_207 (fun ad194 H hE195 hW hS => ?_)
  rw [lh_rE hE195 L_t] at hl
  rw [lh_rE hE195 L_t]
  have hE : lh_E S ad ad194 := lh_E.trans hE hm hE195
  rw [← eS193] at hW
  have m196 : ∀ b, gvN S191 b ≤ gvN S193 b := by rw [eS193]; exact lh_mN
  have L_t : ∀ j, some t = some j → j < gvN S193 10 := fun j h => Nat.lt_of_lt_of_le (L_t j h) (m196 _)
  have hm : ∀ b, gvN S b ≤ gvN S193 b := lh_le_trans hm m196
  have ok := lh_W_ok hW
  have L197 : ∀ j, some (gvN S191 60) = some j → j < gvN S193 60 := lh_ls (by rw [eS193]; exact lh_nN)
  obtain ⟨S199, eS199, hf⟩ := dc_let_ok hf
  refine lh_put (S' := S199) (a := 10) (k := 30) (N := 42) (C := RX10) (T := TX10) (own := RX10) (ref := "LoaderModelsModel") (ty := .array .int) hx hb hts (fun _ h => (List.mem_cons_of_mem _ (List.mem_append_right _ h))) tyX10 tyX10_ok nmX10 hown hK hW hS rfl (L_t _ rfl) rfl rfl rfl (by decide) (hts (.fieldLink RX10 88 "LoaderModelsModel" "stage" "[I") (List.mem_cons_of_mem _ (List.mem_append_left _ (List.mem_append_right _ (List.mem_append_left _ (List.mem_of_getElem? (i := 6) rfl)))))) (fun _ h9 => h9) (Or.inr ⟨rfl, hin, rfl⟩) (by decide +kernel) lh_nar_a lh_fit_a (fun q9 => by rw [eS199]; exact lh_chR rfl L197 q9) dX10_init_209 (fun H locs hW hS => ?_)
  have m200 : ∀ b, gvN S193 b ≤ gvN S199 b := by rw [eS199]; exact lh_mR
  have L_t : ∀ j, some t = some j → j < gvN S199 10 := fun j h => Nat.lt_of_lt_of_le (L_t j h) (m200 _)
  have hm : ∀ b, gvN S b ≤ gvN S199 b := lh_le_trans hm m200
  have ok := lh_W_ok hW
  refine lh_aload_n hx hb dX10_init_212 rfl (lv_at hl 0 rfl) ?_
  refine lv_sipush (v := 700) hx hb dX10_init_213 (by decide) ?_
  obtain ⟨S201, eS201, hf⟩ := dc_let_ok hf
  refine lh_newa (ty := .int) (atype := .int) (n := (700 : Int32)) (a := 61) (t0 := 0) (N' := 700) hx hb (hts (.arrayClass .int) (List.mem_cons_of_mem _ (List.mem_append_left _ (List.mem_append_left _ (List.mem_of_getElem? (i := 3) rfl))))) rfl hK hW hS hA rfl rfl (fun _ _ h => h) (Or.inl ⟨rfl, rfl⟩) (by decide +kernel) (by decide +kernel) (by decide +kernel) (Nat.le_of_ble_eq_true rfl) (Nat.le_of_ble_eq_true rfl) dX10_init_216 (fun ad202 H hE203 hW hS => ?_)
  rw [lh_rE hE203 L_t] at hl
  rw [lh_rE hE203 L_t]
  have hE : lh_E S ad ad202 := lh_E.trans hE hm hE203
  rw [← eS201] at hW
  have m204 : ∀ b, gvN S199 b ≤ gvN S201 b := by rw [eS201]; exact lh_mN
  have L_t : ∀ j, some t = some j → j < gvN S201 10 := fun j h => Nat.lt_of_lt_of_le (L_t j h) (m204 _)
  have hm : ∀ b, gvN S b ≤ gvN S201 b := lh_le_trans hm m204
  have ok := lh_W_ok hW
  have L205 : ∀ j, some (gvN S199 61) = some j → j < gvN S201 61 := lh_ls (by rw [eS201]; exact lh_nN)
  obtain ⟨S207, eS207, hf⟩ := dc_let_ok hf
  refine lh_put (S' := S207) (a := 10) (k := 31) (N := 42) (C := RX10) (T := TX10) (own := RX10) (ref := "LoaderModelsModel") (ty := .array .int) hx hb hts (fun _ h => (List.mem_cons_of_mem _ (List.mem_append_right _ h))) tyX10 tyX10_ok nmX10 hown hK hW hS rfl (L_t _ rfl) rfl rfl rfl (by decide) (hts (.fieldLink RX10 91 "LoaderModelsModel" "turn" "[I") (List.mem_cons_of_mem _ (List.mem_append_left _ (List.mem_append_right _ (List.mem_append_left _ (List.mem_of_getElem? (i := 7) rfl)))))) (fun _ h9 => h9) (Or.inr ⟨rfl, hin, rfl⟩) (by decide +kernel) lh_nar_a lh_fit_a (fun q9 => by rw [eS207]; exact lh_chR rfl L205 q9) dX10_init_218 (fun H locs hW hS => ?_)
  have m208 : ∀ b, gvN S201 b ≤ gvN S207 b := by rw [eS207]; exact lh_mR
  have L_t : ∀ j, some t = some j → j < gvN S207 10 := fun j h => Nat.lt_of_lt_of_le (L_t j h) (m208 _)
  have hm : ∀ b, gvN S b ≤ gvN S207 b := lh_le_trans hm m208
  have ok := lh_W_ok hW
  refine lh_aload_n hx hb dX10_init_221 rfl (lv_at hl 0 rfl) ?_
  refine lv_bipush (v := 41) hx hb dX10_init_222 (by decide) ?_
  obtain ⟨S209, eS209, hf⟩ := dc_let_ok hf
  refine lh_newa (ty := .int) (atype := .int) (n := (41 : Int32)) (a := 65) (t0 := 0) (N' := 41) hx hb (hts (.arrayClass .int) (List.mem_cons_of_mem _ (List.mem_append_left _ (List.mem_append_left _ (List.mem_of_getElem? (i := 3) rfl))))) rfl hK hW hS hA rfl rfl (fun _ _ h => h) (Or.inl ⟨rfl, rfl⟩) (by decide +kernel) (by decide +kernel) (by decide +kernel) (Nat.le_of_ble_eq_true rfl) (Nat.le_of_ble_eq_true rfl) dX10_init_224 (fun ad210 H hE211 hW hS => ?_)
  rw [lh_rE hE211 L_t] at hl
  rw [lh_rE hE211 L_t]
  have hE : lh_E S ad ad210 := lh_E.trans hE hm hE211
  rw [← eS209] at hW
  have m212 : ∀ b, gvN S207 b ≤ gvN S209 b := by rw [eS209]; exact lh_mN
  have L_t : ∀ j, some t = some j → j < gvN S209 10 := fun j h => Nat.lt_of_lt_of_le (L_t j h) (m212 _)
  have hm : ∀ b, gvN S b ≤ gvN S209 b := lh_le_trans hm m212
  have ok := lh_W_ok hW
  have L213 : ∀ j, some (gvN S207 65) = some j → j < gvN S209 65 := lh_ls (by rw [eS209]; exact lh_nN)
  obtain ⟨S215, eS215, hf⟩ := dc_let_ok hf
  refine lh_put (S' := S215) (a := 10) (k := 35) (N := 42) (C := RX10) (T := TX10) (own := RX10) (ref := "LoaderModelsModel") (ty := .array .int) hx hb hts (fun _ h => (List.mem_cons_of_mem _ (List.mem_append_right _ h))) tyX10 tyX10_ok nmX10 hown hK hW hS rfl (L_t _ rfl) rfl rfl rfl (by decide) (hts (.fieldLink RX10 94 "LoaderModelsModel" "chain" "[I") (List.mem_cons_of_mem _ (List.mem_append_left _ (List.mem_append_right _ (List.mem_append_left _ (List.mem_of_getElem? (i := 8) rfl)))))) (fun _ h9 => h9) (Or.inr ⟨rfl, hin, rfl⟩) (by decide +kernel) lh_nar_a lh_fit_a (fun q9 => by rw [eS215]; exact lh_chR rfl L213 q9) dX10_init_226 (fun H locs hW hS => ?_)
  have m216 : ∀ b, gvN S209 b ≤ gvN S215 b := by rw [eS215]; exact lh_mR
  have L_t : ∀ j, some t = some j → j < gvN S215 10 := fun j h => Nat.lt_of_lt_of_le (L_t j h) (m216 _)
  have hm : ∀ b, gvN S b ≤ gvN S215 b := lh_le_trans hm m216
  have ok := lh_W_ok hW
  refine lh_aload_n hx hb dX10_init_229 rfl (lv_at hl 0 rfl) ?_
  refine lv_bipush (v := 60) hx hb dX10_init_230 (by decide) ?_
  obtain ⟨S217, eS217, hf⟩ := dc_let_ok hf
  refine lh_newa (ty := .int) (atype := .int) (n := (60 : Int32)) (a := 67) (t0 := 0) (N' := 60) hx hb (hts (.arrayClass .int) (List.mem_cons_of_mem _ (List.mem_append_left _ (List.mem_append_left _ (List.mem_of_getElem? (i := 3) rfl))))) rfl hK hW hS hA rfl rfl (fun _ _ h => h) (Or.inl ⟨rfl, rfl⟩) (by decide +kernel) (by decide +kernel) (by decide +kernel) (Nat.le_of_ble_eq_true rfl) (Nat.le_of_ble_eq_true rfl) dX10_init_232 (fun ad218 H hE219 hW hS => ?_)
  rw [lh_rE hE219 L_t] at hl
  rw [lh_rE hE219 L_t]
  have hE : lh_E S ad ad218 := lh_E.trans hE hm hE219
  rw [← eS217] at hW
  have m220 : ∀ b, gvN S215 b ≤ gvN S217 b := by rw [eS217]; exact lh_mN
  have L_t : ∀ j, some t = some j → j < gvN S217 10 := fun j h => Nat.lt_of_lt_of_le (L_t j h) (m220 _)
  have hm : ∀ b, gvN S b ≤ gvN S217 b := lh_le_trans hm m220
  have ok := lh_W_ok hW
  have L221 : ∀ j, some (gvN S215 67) = some j → j < gvN S217 67 := lh_ls (by rw [eS217]; exact lh_nN)
  obtain ⟨S223, eS223, hf⟩ := dc_let_ok hf
  refine lh_put (S' := S223) (a := 10) (k := 37) (N := 42) (C := RX10) (T := TX10) (own := RX10) (ref := "LoaderModelsModel") (ty := .array .int) hx hb hts (fun _ h => (List.mem_cons_of_mem _ (List.mem_append_right _ h))) tyX10 tyX10_ok nmX10 hown hK hW hS rfl (L_t _ rfl) rfl rfl rfl (by decide) (hts (.fieldLink RX10 97 "LoaderModelsModel" "objectClass" "[I") (List.mem_cons_of_mem _ (List.mem_append_left _ (List.mem_append_right _ (List.mem_append_left _ (List.mem_of_getElem? (i := 9) rfl)))))) (fun _ h9 => h9) (Or.inr ⟨rfl, hin, rfl⟩) (by decide +kernel) lh_nar_a lh_fit_a (fun q9 => by rw [eS223]; exact lh_chR rfl L221 q9) dX10_init_234 (fun H locs hW hS => ?_)
  have m224 : ∀ b, gvN S217 b ≤ gvN S223 b := by rw [eS223]; exact lh_mR
  have L_t : ∀ j, some t = some j → j < gvN S223 10 := fun j h => Nat.lt_of_lt_of_le (L_t j h) (m224 _)
  have hm : ∀ b, gvN S b ≤ gvN S223 b := lh_le_trans hm m224
  have ok := lh_W_ok hW
  refine lh_aload_n hx hb dX10_init_237 rfl (lv_at hl 0 rfl) ?_
  refine lv_bipush (v := 20) hx hb dX10_init_238 (by decide) ?_
  obtain ⟨S225, eS225, hf⟩ := dc_let_ok hf
  refine lh_newa (ty := .int) (atype := .int) (n := (20 : Int32)) (a := 69) (t0 := 0) (N' := 20) hx hb (hts (.arrayClass .int) (List.mem_cons_of_mem _ (List.mem_append_left _ (List.mem_append_left _ (List.mem_of_getElem? (i := 3) rfl))))) rfl hK hW hS hA rfl rfl (fun _ _ h => h) (Or.inl ⟨rfl, rfl⟩) (by decide +kernel) (by decide +kernel) (by decide +kernel) (Nat.le_of_ble_eq_true rfl) (Nat.le_of_ble_eq_true rfl) dX10_init_240 (fun ad226 H hE227 hW hS => ?_)
  rw [lh_rE hE227 L_t] at hl
  rw [lh_rE hE227 L_t]
  have hE : lh_E S ad ad226 := lh_E.trans hE hm hE227
  rw [← eS225] at hW
  have m228 : ∀ b, gvN S223 b ≤ gvN S225 b := by rw [eS225]; exact lh_mN
  have L_t : ∀ j, some t = some j → j < gvN S225 10 := fun j h => Nat.lt_of_lt_of_le (L_t j h) (m228 _)
  have hm : ∀ b, gvN S b ≤ gvN S225 b := lh_le_trans hm m228
  have ok := lh_W_ok hW
  have L229 : ∀ j, some (gvN S223 69) = some j → j < gvN S225 69 := lh_ls (by rw [eS225]; exact lh_nN)
  obtain ⟨S231, eS231, hf⟩ := dc_let_ok hf
  refine lh_put (S' := S231) (a := 10) (k := 39) (N := 42) (C := RX10) (T := TX10) (own := RX10) (ref := "LoaderModelsModel") (ty := .array .int) hx hb hts (fun _ h => (List.mem_cons_of_mem _ (List.mem_append_right _ h))) tyX10 tyX10_ok nmX10 hown hK hW hS rfl (L_t _ rfl) rfl rfl rfl (by decide) (hts (.fieldLink RX10 100 "LoaderModelsModel" "rowClass" "[I") (List.mem_cons_of_mem _ (List.mem_append_left _ (List.mem_append_right _ (List.mem_append_left _ (List.mem_of_getElem? (i := 10) rfl)))))) (fun _ h9 => h9) (Or.inr ⟨rfl, hin, rfl⟩) (by decide +kernel) lh_nar_a lh_fit_a (fun q9 => by rw [eS231]; exact lh_chR rfl L229 q9) dX10_init_242 (fun H locs hW hS => ?_)
  have m232 : ∀ b, gvN S225 b ≤ gvN S231 b := by rw [eS231]; exact lh_mR
  have L_t : ∀ j, some t = some j → j < gvN S231 10 := fun j h => Nat.lt_of_lt_of_le (L_t j h) (m232 _)
  have hm : ∀ b, gvN S b ≤ gvN S231 b := lh_le_trans hm m232
  have ok := lh_W_ok hW
  refine lh_aload_n hx hb dX10_init_245 rfl (lv_at hl 0 rfl) ?_
  refine lv_bipush (v := 20) hx hb dX10_init_246 (by decide) ?_
  obtain ⟨S233, eS233, hf⟩ := dc_let_ok hf
  refine lh_newa (ty := .int) (atype := .int) (n := (20 : Int32)) (a := 70) (t0 := 0) (N' := 20) hx hb (hts (.arrayClass .int) (List.mem_cons_of_mem _ (List.mem_append_left _ (List.mem_append_left _ (List.mem_of_getElem? (i := 3) rfl))))) rfl hK hW hS hA rfl rfl (fun _ _ h => h) (Or.inl ⟨rfl, rfl⟩) (by decide +kernel) (by decide +kernel) (by decide +kernel) (Nat.le_of_ble_eq_true rfl) (Nat.le_of_ble_eq_true rfl) dX10_init_248 (fun ad234 H hE235 hW hS => ?_)
  rw [lh_rE hE235 L_t] at hl
  rw [lh_rE hE235 L_t]
  have hE : lh_E S ad ad234 := lh_E.trans hE hm hE235
  rw [← eS233] at hW
  have m236 : ∀ b, gvN S231 b ≤ gvN S233 b := by rw [eS233]; exact lh_mN
  have L_t : ∀ j, some t = some j → j < gvN S233 10 := fun j h => Nat.lt_of_lt_of_le (L_t j h) (m236 _)
  have hm : ∀ b, gvN S b ≤ gvN S233 b := lh_le_trans hm m236
  have ok := lh_W_ok hW
  have L237 : ∀ j, some (gvN S231 70) = some j → j < gvN S233 70 := lh_ls (by rw [eS233]; exact lh_nN)
  obtain ⟨S239, eS239, hf⟩ := dc_let_ok hf
  refine lh_put (S' := S239) (a := 10) (k := 40) (N := 42) (C := RX10) (T := TX10) (own := RX10) (ref := "LoaderModelsModel") (ty := .array .int) hx hb hts (fun _ h => (List.mem_cons_of_mem _ (List.mem_append_right _ h))) tyX10 tyX10_ok nmX10 hown hK hW hS rfl (L_t _ rfl) rfl rfl rfl (by decide) (hts (.fieldLink RX10 103 "LoaderModelsModel" "rowSize" "[I") (List.mem_cons_of_mem _ (List.mem_append_left _ (List.mem_append_right _ (List.mem_append_left _ (List.mem_of_getElem? (i := 11) rfl)))))) (fun _ h9 => h9) (Or.inr ⟨rfl, hin, rfl⟩) (by decide +kernel) lh_nar_a lh_fit_a (fun q9 => by rw [eS239]; exact lh_chR rfl L237 q9) dX10_init_250 (fun H locs hW hS => ?_)
  have m240 : ∀ b, gvN S233 b ≤ gvN S239 b := by rw [eS239]; exact lh_mR
  have L_t : ∀ j, some t = some j → j < gvN S239 10 := fun j h => Nat.lt_of_lt_of_le (L_t j h) (m240 _)
  have hm : ∀ b, gvN S b ≤ gvN S239 b := lh_le_trans hm m240
  have ok := lh_W_ok hW
  refine lh_aload_n hx hb dX10_init_253 rfl (lv_at hl 0 rfl) ?_
  refine lv_sipush (v := 160) hx hb dX10_init_254 (by decide) ?_
  obtain ⟨S241, eS241, hf⟩ := dc_let_ok hf
  refine lh_newa (ty := .int) (atype := .int) (n := (160 : Int32)) (a := 71) (t0 := 0) (N' := 160) hx hb (hts (.arrayClass .int) (List.mem_cons_of_mem _ (List.mem_append_left _ (List.mem_append_left _ (List.mem_of_getElem? (i := 3) rfl))))) rfl hK hW hS hA rfl rfl (fun _ _ h => h) (Or.inl ⟨rfl, rfl⟩) (by decide +kernel) (by decide +kernel) (by decide +kernel) (Nat.le_of_ble_eq_true rfl) (Nat.le_of_ble_eq_true rfl) dX10_init_257 (fun ad242 H hE243 hW hS => ?_)
  rw [lh_rE hE243 L_t] at hl
  rw [lh_rE hE243 L_t]
  have hE : lh_E S ad ad242 := lh_E.trans hE hm hE243
  rw [← eS241] at hW
  have m244 : ∀ b, gvN S239 b ≤ gvN S241 b := by rw [eS241]; exact lh_mN
  have L_t : ∀ j, some t = some j → j < gvN S241 10 := fun j h => Nat.lt_of_lt_of_le (L_t j h) (m244 _)
  have hm : ∀ b, gvN S b ≤ gvN S241 b := lh_le_trans hm m244
  have ok := lh_W_ok hW
  have L245 : ∀ j, some (gvN S239 71) = some j → j < gvN S241 71 := lh_ls (by rw [eS241]; exact lh_nN)
  obtain ⟨S247, eS247, hf⟩ := dc_let_ok hf
  refine lh_put (S' := S247) (a := 10) (k := 41) (N := 42) (C := RX10) (T := TX10) (own := RX10) (ref := "LoaderModelsModel") (ty := .array .int) hx hb hts (fun _ h => (List.mem_cons_of_mem _ (List.mem_append_right _ h))) tyX10 tyX10_ok nmX10 hown hK hW hS rfl (L_t _ rfl) rfl rfl rfl (by decide) (hts (.fieldLink RX10 106 "LoaderModelsModel" "rowItem" "[I") (List.mem_cons_of_mem _ (List.mem_append_left _ (List.mem_append_right _ (List.mem_append_left _ (List.mem_of_getElem? (i := 12) rfl)))))) (fun _ h9 => h9) (Or.inr ⟨rfl, hin, rfl⟩) (by decide +kernel) lh_nar_a lh_fit_a (fun q9 => by rw [eS247]; exact lh_chR rfl L245 q9) dX10_init_259 (fun H locs hW hS => ?_)
  have m248 : ∀ b, gvN S241 b ≤ gvN S247 b := by rw [eS247]; exact lh_mR
  have L_t : ∀ j, some t = some j → j < gvN S247 10 := fun j h => Nat.lt_of_lt_of_le (L_t j h) (m248 _)
  have hm : ∀ b, gvN S b ≤ gvN S247 b := lh_le_trans hm m248
  have ok := lh_W_ok hW
  refine lh_aload_n hx hb dX10_init_262 rfl (lv_at hl 0 rfl) ?_
  refine lv_iconst (v := 0) hx hb dX10_init_263 (by decide) ?_
  obtain ⟨r249, S250, k251, hf⟩ := dc_bd_ok hf
  refine lh_call (S' := S250) (lh_rv ⟨hx, hb, hml, hown, hts⟩ rfl (As := [.int (0 : Int32)]) (rest := []) (k := 10) (c_X10_loader l D cT n S247 ad242 A H.size (fun q9 h9 => hA q9 (Nat.le_trans hS.1 h9)) t (0 : Int32) r249 S250 k251 L_t) (cwV 1 hts gX10_init_X10_loader rfl rfl rfl (by decide +kernel) ⟨Nat.le_of_ble_eq_true rfl, Nat.le_of_ble_eq_true rfl⟩) hK hN hW (L_t _ rfl) rfl rfl rfl hl.1 rfl (by simp [lh_cat_r, lh_cat_i, lh_cat_j]) dX10_init_264 ⟨Nat.le_of_ble_eq_true rfl, Nat.le_of_ble_eq_true rfl⟩) hS (fun H locs hX hW hS => ?_)
  refine W.widen (k := 31) (n := 5877) (by omega) (by omega) ?_
  show W _ _ _ _ _ _ _ _ _ _ _ _ _ _ _ (F0 m 267 ls [.int r249])
  have m252 : ∀ b, gvN S247 b ≤ gvN S250 b := hX.1
  have L_t : ∀ j, some t = some j → j < gvN S250 10 := fun j h => Nat.lt_of_lt_of_le (L_t j h) (m252 _)
  have hm : ∀ b, gvN S b ≤ gvN S250 b := lh_le_trans hm m252
  have ok := lh_W_ok hW
  refine lv_istore_n (i := 1) (lv' := [(1, .int r249), (0, lh_r ad242 10 (some t))]) hx hb dX10_init_267 rfl hl (by decide) (by first | rfl | simp [lh_cat_r, lh_cat_i, lh_cat_j]) (fun ls hl => ?_)
  refine lv_iconst (v := 0) hx hb dX10_init_268 (by decide) ?_
  refine lv_istore_n (i := 2) (lv' := [(2, .int (0 : Int32)), (1, .int r249), (0, lh_r ad242 10 (some t))]) hx hb dX10_init_269 rfl hl (by decide) (by first | rfl | simp [lh_cat_r, lh_cat_i, lh_cat_j]) (fun ls hl => ?_)
  refine lv_iload_n hx hb dX10_init_270 rfl (lv_at hl 0 rfl) ?_
  refine lv_iconst (v := 5) hx hb dX10_init_271 (by decide) ?_
  refine lv_icmp_ge (tgt := 300) hx hb dX10_init_272 (by decide) (fun c253 => ?_) (fun c253 => ?_)
  · exact absurd c253 (by decide)
  · refine lh_aload_n hx hb dX10_init_275 rfl (lv_at hl 2 rfl) ?_
    refine lv_iload_n hx hb dX10_init_276 rfl (lv_at hl 0 rfl) ?_
    refine lv_iload_n hx hb dX10_init_277 rfl (lv_at hl 0 rfl) ?_
    refine lv_iconst (v := 0) hx hb dX10_init_278 (by decide) ?_
    refine lv_iconst (v := 1) hx hb dX10_init_279 (by decide) ?_
    refine lv_iconst (v := 0) hx hb dX10_init_280 (by decide) ?_
    obtain ⟨r254, S255, k256, hf⟩ := dc_bd_ok hf
    refine lh_call (S' := S255) (lh_rv ⟨hx, hb, hml, hown, hts⟩ rfl (As := [.int (0 : Int32), .int (0 : Int32), .int (0 : Int32), .int (1 : Int32), .int (0 : Int32)]) (rest := []) (k := 10) (c_X10_file l D cT n S250 ad242 A H.size (fun q9 h9 => hA q9 (Nat.le_trans hS.1 h9)) t (0 : Int32) (0 : Int32) (0 : Int32) (1 : Int32) (0 : Int32) r254 S255 k256 L_t) (cwV 5 hts gX10_init_X10_file rfl rfl rfl (by decide +kernel) ⟨Nat.le_of_ble_eq_true rfl, Nat.le_of_ble_eq_true rfl⟩) hK hN hW (L_t _ rfl) rfl rfl rfl hl.1 rfl (by simp [lh_cat_r, lh_cat_i, lh_cat_j]) dX10_init_281 ⟨Nat.le_of_ble_eq_true rfl, Nat.le_of_ble_eq_true rfl⟩) hS (fun H locs hX hW hS => ?_)
    refine W.widen (k := 31) (n := 5877) (by omega) (by omega) ?_
    show W _ _ _ _ _ _ _ _ _ _ _ _ _ _ _ (F0 m 284 ls [.int r254])
    have m257 : ∀ b, gvN S250 b ≤ gvN S255 b := hX.1
    have L_t : ∀ j, some t = some j → j < gvN S255 10 := fun j h => Nat.lt_of_lt_of_le (L_t j h) (m257 _)
    have hm : ∀ b, gvN S b ≤ gvN S255 b := lh_le_trans hm m257
    have ok := lh_W_ok hW
    refine lv_istore_n (i := 3) (lv' := [(3, .int r254), (2, .int (0 : Int32)), (1, .int r249), (0, lh_r ad242 10 (some t))]) hx hb dX10_init_284 rfl hl (by decide) (by first | rfl | simp [lh_cat_r, lh_cat_i, lh_cat_j]) (fun ls hl => ?_)
    refine lh_aload_n hx hb dX10_init_285 rfl (lv_at hl 3 rfl) ?_
    have L258 : ∀ j, gvR S255 10 t 13 = some j → j < gvN S255 43 := fun j h => ok _ _ _ _ j (L_t _ rfl) rfl h
    refine lh_get (a := 10) (k := 13) (N := 42) (C := RX10) (T := TX10) (own := RX10) (ref := "LoaderModelsModel") hx hb hts (fun _ h => (List.mem_cons_of_mem _ (List.mem_append_right _ h))) hown hK hW rfl (L_t _ rfl) rfl rfl rfl (by decide) (hts (.fieldLink RX10 45 "LoaderModelsModel" "has" "[I") (List.mem_cons_of_mem _ (List.mem_append_left _ (List.mem_append_left _ (List.mem_of_getElem? (i := 15) rfl))))) (fun _ h9 => h9) dX10_init_286 (v := lh_r ad242 43 (gvR S255 10 t 13)) rfl ?_
    refine lv_iload_n hx hb dX10_init_289 rfl (lv_at hl 1 rfl) ?_
    refine lv_iload_n hx hb dX10_init_290 rfl (lv_at hl 0 rfl) ?_
    refine lv_iconst (v := 1) hx hb dX10_init_291 (by decide) ?_
    refine lv_iadd hx hb dX10_init_292 ?_
    obtain ⟨x259, hx259, hf⟩ := dc_nn_ok hf
    obtain ⟨g260, hf⟩ := dc_gd_ok hf
    obtain ⟨S261, eS261, hf⟩ := dc_let_ok hf
    refine lh_ast_i (a := 43) hx hb hK hW hS hx259 (L258 _ hx259) rfl (fun _ => rfl) g260 dX10_init_293 (fun H locs hW hS => ?_)
    rw [← eS261] at hW
    have m262 : ∀ b, gvN S255 b ≤ gvN S261 b := by rw [eS261]; exact lh_mI
    have L_t : ∀ j, some t = some j → j < gvN S261 10 := fun j h => Nat.lt_of_lt_of_le (L_t j h) (m262 _)
    have hm : ∀ b, gvN S b ≤ gvN S261 b := lh_le_trans hm m262
    have ok := lh_W_ok hW
    refine lv_iinc (v := (1 : Int32)) (lv' := [(2, .int (1 : Int32)), (3, .int r254), (1, .int r249), (0, lh_r ad242 10 (some t))]) hx hb dX10_init_294 hl (k := 1) rfl (by first | rfl | decide) (by decide) (by first | rfl | simp [lh_cat_r, lh_cat_i, lh_cat_j]) (fun ls hl => ?_)
    refine lv_goto (tgt := 270) hx hb dX10_init_297 (by decide) ?_
    refine lv_iload_n hx hb dX10_init_270 rfl (lv_at hl 0 rfl) ?_
    refine lv_iconst (v := 5) hx hb dX10_init_271 (by decide) ?_
    refine lv_icmp_ge (tgt := 300) hx hb dX10_init_272 (by decide) (fun c263 => ?_) (fun c263 => ?_)
    · exact absurd c263 (by decide)
    · refine lh_aload_n hx hb dX10_init_275 rfl (lv_at hl 3 rfl) ?_
      refine lv_iload_n hx hb dX10_init_276 rfl (lv_at hl 0 rfl) ?_
      refine lv_iload_n hx hb dX10_init_277 rfl (lv_at hl 0 rfl) ?_
      refine lv_iconst (v := 0) hx hb dX10_init_278 (by decide) ?_
      refine lv_iconst (v := 1) hx hb dX10_init_279 (by decide) ?_
      refine lv_iconst (v := 0) hx hb dX10_init_280 (by decide) ?_
      obtain ⟨r264, S265, k266, hf⟩ := dc_bd_ok hf
      refine lh_call (S' := S265) (lh_rv ⟨hx, hb, hml, hown, hts⟩ rfl (As := [.int (1 : Int32), .int (1 : Int32), .int (0 : Int32), .int (1 : Int32), .int (0 : Int32)]) (rest := []) (k := 10) (c_X10_file l D cT n S261 ad242 A H.size (fun q9 h9 => hA q9 (Nat.le_trans hS.1 h9)) t (1 : Int32) (1 : Int32) (0 : Int32) (1 : Int32) (0 : Int32) r264 S265 k266 L_t) (cwV 5 hts gX10_init_X10_file rfl rfl rfl (by decide +kernel) ⟨Nat.le_of_ble_eq_true rfl, Nat.le_of_ble_eq_true rfl⟩) hK hN hW (L_t _ rfl) rfl rfl rfl hl.1 rfl (by simp [lh_cat_r, lh_cat_i, lh_cat_j]) dX10_init_281 ⟨Nat.le_of_ble_eq_true rfl, Nat.le_of_ble_eq_true rfl⟩) hS (fun H locs hX hW hS => ?_)
      refine W.widen (k := 31) (n := 5877) (by omega) (by omega) ?_
      show W _ _ _ _ _ _ _ _ _ _ _ _ _ _ _ (F0 m 284 ls [.int r264])
      have m267 : ∀ b, gvN S261 b ≤ gvN S265 b := hX.1
      have L_t : ∀ j, some t = some j → j < gvN S265 10 := fun j h => Nat.lt_of_lt_of_le (L_t j h) (m267 _)
      have hm : ∀ b, gvN S b ≤ gvN S265 b := lh_le_trans hm m267
      have ok := lh_W_ok hW
      refine lv_istore_n (i := 3) (lv' := [(3, .int r264), (2, .int (1 : Int32)), (1, .int r249), (0, lh_r ad242 10 (some t))]) hx hb dX10_init_284 rfl hl (by decide) (by first | rfl | simp [lh_cat_r, lh_cat_i, lh_cat_j]) (fun ls hl => ?_)
      refine lh_aload_n hx hb dX10_init_285 rfl (lv_at hl 3 rfl) ?_
      have L268 : ∀ j, gvR S265 10 t 13 = some j → j < gvN S265 43 := fun j h => ok _ _ _ _ j (L_t _ rfl) rfl h
      refine lh_get (a := 10) (k := 13) (N := 42) (C := RX10) (T := TX10) (own := RX10) (ref := "LoaderModelsModel") hx hb hts (fun _ h => (List.mem_cons_of_mem _ (List.mem_append_right _ h))) hown hK hW rfl (L_t _ rfl) rfl rfl rfl (by decide) (hts (.fieldLink RX10 45 "LoaderModelsModel" "has" "[I") (List.mem_cons_of_mem _ (List.mem_append_left _ (List.mem_append_left _ (List.mem_of_getElem? (i := 15) rfl))))) (fun _ h9 => h9) dX10_init_286 (v := lh_r ad242 43 (gvR S265 10 t 13)) rfl ?_
      refine lv_iload_n hx hb dX10_init_289 rfl (lv_at hl 1 rfl) ?_
      refine lv_iload_n hx hb dX10_init_290 rfl (lv_at hl 0 rfl) ?_
      refine lv_iconst (v := 1) hx hb dX10_init_291 (by decide) ?_
      refine lv_iadd hx hb dX10_init_292 ?_
      obtain ⟨x269, hx269, hf⟩ := dc_nn_ok hf
      obtain ⟨g270, hf⟩ := dc_gd_ok hf
      obtain ⟨S271, eS271, hf⟩ := dc_let_ok hf
      refine lh_ast_i (a := 43) hx hb hK hW hS hx269 (L268 _ hx269) rfl (fun _ => rfl) g270 dX10_init_293 (fun H locs hW hS => ?_)
      rw [← eS271] at hW
      have m272 : ∀ b, gvN S265 b ≤ gvN S271 b := by rw [eS271]; exact lh_mI
      have L_t : ∀ j, some t = some j → j < gvN S271 10 := fun j h => Nat.lt_of_lt_of_le (L_t j h) (m272 _)
      have hm : ∀ b, gvN S b ≤ gvN S271 b := lh_le_trans hm m272
      have ok := lh_W_ok hW
      refine lv_iinc (v := (2 : Int32)) (lv' := [(2, .int (2 : Int32)), (3, .int r264), (1, .int r249), (0, lh_r ad242 10 (some t))]) hx hb dX10_init_294 hl (k := 1) rfl (by first | rfl | decide) (by decide) (by first | rfl | simp [lh_cat_r, lh_cat_i, lh_cat_j]) (fun ls hl => ?_)
      refine lv_goto (tgt := 270) hx hb dX10_init_297 (by decide) ?_
      refine lv_iload_n hx hb dX10_init_270 rfl (lv_at hl 0 rfl) ?_
      refine lv_iconst (v := 5) hx hb dX10_init_271 (by decide) ?_
      refine lv_icmp_ge (tgt := 300) hx hb dX10_init_272 (by decide) (fun c273 => ?_) (fun c273 => ?_)
      · exact absurd c273 (by decide)
      · refine lh_aload_n hx hb dX10_init_275 rfl (lv_at hl 3 rfl) ?_
        refine lv_iload_n hx hb dX10_init_276 rfl (lv_at hl 0 rfl) ?_
        refine lv_iload_n hx hb dX10_init_277 rfl (lv_at hl 0 rfl) ?_
        refine lv_iconst (v := 0) hx hb dX10_init_278 (by decide) ?_
        refine lv_iconst (v := 1) hx hb dX10_init_279 (by decide) ?_
        refine lv_iconst (v := 0) hx hb dX10_init_280 (by decide) ?_
        obtain ⟨r274, S275, k276, hf⟩ := dc_bd_ok hf
        refine lh_call (S' := S275) (lh_rv ⟨hx, hb, hml, hown, hts⟩ rfl (As := [.int (2 : Int32), .int (2 : Int32), .int (0 : Int32), .int (1 : Int32), .int (0 : Int32)]) (rest := []) (k := 10) (c_X10_file l D cT n S271 ad242 A H.size (fun q9 h9 => hA q9 (Nat.le_trans hS.1 h9)) t (2 : Int32) (2 : Int32) (0 : Int32) (1 : Int32) (0 : Int32) r274 S275 k276 L_t) (cwV 5 hts gX10_init_X10_file rfl rfl rfl (by decide +kernel) ⟨Nat.le_of_ble_eq_true rfl, Nat.le_of_ble_eq_true rfl⟩) hK hN hW (L_t _ rfl) rfl rfl rfl hl.1 rfl (by simp [lh_cat_r, lh_cat_i, lh_cat_j]) dX10_init_281 ⟨Nat.le_of_ble_eq_true rfl, Nat.le_of_ble_eq_true rfl⟩) hS (fun H locs hX hW hS => ?_)
        refine W.widen (k := 31) (n := 5877) (by omega) (by omega) ?_
        show W _ _ _ _ _ _ _ _ _ _ _ _ _ _ _ (F0 m 284 ls [.int r274])
        have m277 : ∀ b, gvN S271 b ≤ gvN S275 b := hX.1
        have L_t : ∀ j, some t = some j → j < gvN S275 10 := fun j h => Nat.lt_of_lt_of_le (L_t j h) (m277 _)
        have hm : ∀ b, gvN S b ≤ gvN S275 b := lh_le_trans hm m277
        have ok := lh_W_ok hW
        refine lv_istore_n (i := 3) (lv' := [(3, .int r274), (2, .int (2 : Int32)), (1, .int r249), (0, lh_r ad242 10 (some t))]) hx hb dX10_init_284 rfl hl (by decide) (by first | rfl | simp [lh_cat_r, lh_cat_i, lh_cat_j]) (fun ls hl => ?_)
        refine lh_aload_n hx hb dX10_init_285 rfl (lv_at hl 3 rfl) ?_
        have L278 : ∀ j, gvR S275 10 t 13 = some j → j < gvN S275 43 := fun j h => ok _ _ _ _ j (L_t _ rfl) rfl h
        refine lh_get (a := 10) (k := 13) (N := 42) (C := RX10) (T := TX10) (own := RX10) (ref := "LoaderModelsModel") hx hb hts (fun _ h => (List.mem_cons_of_mem _ (List.mem_append_right _ h))) hown hK hW rfl (L_t _ rfl) rfl rfl rfl (by decide) (hts (.fieldLink RX10 45 "LoaderModelsModel" "has" "[I") (List.mem_cons_of_mem _ (List.mem_append_left _ (List.mem_append_left _ (List.mem_of_getElem? (i := 15) rfl))))) (fun _ h9 => h9) dX10_init_286 (v := lh_r ad242 43 (gvR S275 10 t 13)) rfl ?_
        refine lv_iload_n hx hb dX10_init_289 rfl (lv_at hl 1 rfl) ?_
        refine lv_iload_n hx hb dX10_init_290 rfl (lv_at hl 0 rfl) ?_
        refine lv_iconst (v := 1) hx hb dX10_init_291 (by decide) ?_
        refine lv_iadd hx hb dX10_init_292 ?_
        obtain ⟨x279, hx279, hf⟩ := dc_nn_ok hf
        obtain ⟨g280, hf⟩ := dc_gd_ok hf
        obtain ⟨S281, eS281, hf⟩ := dc_let_ok hf
        refine lh_ast_i (a := 43) hx hb hK hW hS hx279 (L278 _ hx279) rfl (fun _ => rfl) g280 dX10_init_293 (fun H locs hW hS => ?_)
        rw [← eS281] at hW
        have m282 : ∀ b, gvN S275 b ≤ gvN S281 b := by rw [eS281]; exact lh_mI
        have L_t : ∀ j, some t = some j → j < gvN S281 10 := fun j h => Nat.lt_of_lt_of_le (L_t j h) (m282 _)
        have hm : ∀ b, gvN S b ≤ gvN S281 b := lh_le_trans hm m282
        have ok := lh_W_ok hW
        refine lv_iinc (v := (3 : Int32)) (lv' := [(2, .int (3 : Int32)), (3, .int r274), (1, .int r249), (0, lh_r ad242 10 (some t))]) hx hb dX10_init_294 hl (k := 1) rfl (by first | rfl | decide) (by decide) (by first | rfl | simp [lh_cat_r, lh_cat_i, lh_cat_j]) (fun ls hl => ?_)
        refine lv_goto (tgt := 270) hx hb dX10_init_297 (by decide) ?_
        refine lv_iload_n hx hb dX10_init_270 rfl (lv_at hl 0 rfl) ?_
        refine lv_iconst (v := 5) hx hb dX10_init_271 (by decide) ?_
        refine lv_icmp_ge (tgt := 300) hx hb dX10_init_272 (by decide) (fun c283 => ?_) (fun c283 => ?_)
        · exact absurd c283 (by decide)
        · refine lh_aload_n hx hb dX10_init_275 rfl (lv_at hl 3 rfl) ?_
          refine lv_iload_n hx hb dX10_init_276 rfl (lv_at hl 0 rfl) ?_
          refine lv_iload_n hx hb dX10_init_277 rfl (lv_at hl 0 rfl) ?_
          refine lv_iconst (v := 0) hx hb dX10_init_278 (by decide) ?_
          refine lv_iconst (v := 1) hx hb dX10_init_279 (by decide) ?_
          refine lv_iconst (v := 0) hx hb dX10_init_280 (by decide) ?_
          obtain ⟨r284, S285, k286, hf⟩ := dc_bd_ok hf
          refine lh_call (S' := S285) (lh_rv ⟨hx, hb, hml, hown, hts⟩ rfl (As := [.int (3 : Int32), .int (3 : Int32), .int (0 : Int32), .int (1 : Int32), .int (0 : Int32)]) (rest := []) (k := 10) (c_X10_file l D cT n S281 ad242 A H.size (fun q9 h9 => hA q9 (Nat.le_trans hS.1 h9)) t (3 : Int32) (3 : Int32) (0 : Int32) (1 : Int32) (0 : Int32) r284 S285 k286 L_t) (cwV 5 hts gX10_init_X10_file rfl rfl rfl (by decide +kernel) ⟨Nat.le_of_ble_eq_true rfl, Nat.le_of_ble_eq_true rfl⟩) hK hN hW (L_t _ rfl) rfl rfl rfl hl.1 rfl (by simp [lh_cat_r, lh_cat_i, lh_cat_j]) dX10_init_281 ⟨Nat.le_of_ble_eq_true rfl, Nat.le_of_ble_eq_true rfl⟩) hS (fun H locs hX hW hS => ?_)
          refine W.widen (k := 31) (n := 5877) (by omega) (by omega) ?_
          show W _ _ _ _ _ _ _ _ _ _ _ _ _ _ _ (F0 m 284 ls [.int r284])
          have m287 : ∀ b, gvN S281 b ≤ gvN S285 b := hX.1
          have L_t : ∀ j, some t = some j → j < gvN S285 10 := fun j h => Nat.lt_of_lt_of_le (L_t j h) (m287 _)
          have hm : ∀ b, gvN S b ≤ gvN S285 b := lh_le_trans hm m287
          have ok := lh_W_ok hW
          refine lv_istore_n (i := 3) (lv' := [(3, .int r284), (2, .int (3 : Int32)), (1, .int r249), (0, lh_r ad242 10 (some t))]) hx hb dX10_init_284 rfl hl (by decide) (by first | rfl | simp [lh_cat_r, lh_cat_i, lh_cat_j]) (fun ls hl => ?_)
          refine lh_aload_n hx hb dX10_init_285 rfl (lv_at hl 3 rfl) ?_
          have L288 : ∀ j, gvR S285 10 t 13 = some j → j < gvN S285 43 := fun j h => ok _ _ _ _ j (L_t _ rfl) rfl h
          refine lh_get (a := 10) (k := 13) (N := 42) (C := RX10) (T := TX10) (own := RX10) (ref := "LoaderModelsModel") hx hb hts (fun _ h => (List.mem_cons_of_mem _ (List.mem_append_right _ h))) hown hK hW rfl (L_t _ rfl) rfl rfl rfl (by decide) (hts (.fieldLink RX10 45 "LoaderModelsModel" "has" "[I") (List.mem_cons_of_mem _ (List.mem_append_left _ (List.mem_append_left _ (List.mem_of_getElem? (i := 15) rfl))))) (fun _ h9 => h9) dX10_init_286 (v := lh_r ad242 43 (gvR S285 10 t 13)) rfl ?_
          refine lv_iload_n hx hb dX10_init_289 rfl (lv_at hl 1 rfl) ?_
          refine lv_iload_n hx hb dX10_init_290 rfl (lv_at hl 0 rfl) ?_
          refine lv_iconst (v := 1) hx hb dX10_init_291 (by decide) ?_
          refine lv_iadd hx hb dX10_init_292 ?_
          obtain ⟨x289, hx289, hf⟩ := dc_nn_ok hf
          obtain ⟨g290, hf⟩ := dc_gd_ok hf
          obtain ⟨S291, eS291, hf⟩ := dc_let_ok hf
          refine lh_ast_i (a := 43) hx hb hK hW hS hx289 (L288 _ hx289) rfl (fun _ => rfl) g290 dX10_init_293 (fun H locs hW hS => ?_)
          rw [← eS291] at hW
          have m292 : ∀ b, gvN S285 b ≤ gvN S291 b := by rw [eS291]; exact lh_mI
          have L_t : ∀ j, some t = some j → j < gvN S291 10 := fun j h => Nat.lt_of_lt_of_le (L_t j h) (m292 _)
          have hm : ∀ b, gvN S b ≤ gvN S291 b := lh_le_trans hm m292
          have ok := lh_W_ok hW
          refine lv_iinc (v := (4 : Int32)) (lv' := [(2, .int (4 : Int32)), (3, .int r284), (1, .int r249), (0, lh_r ad242 10 (some t))]) hx hb dX10_init_294 hl (k := 1) rfl (by first | rfl | decide) (by decide) (by first | rfl | simp [lh_cat_r, lh_cat_i, lh_cat_j]) (fun ls hl => ?_)
          refine lv_goto (tgt := 270) hx hb dX10_init_297 (by decide) ?_
          refine lv_iload_n hx hb dX10_init_270 rfl (lv_at hl 0 rfl) ?_
          refine lv_iconst (v := 5) hx hb dX10_init_271 (by decide) ?_
          refine lv_icmp_ge (tgt := 300) hx hb dX10_init_272 (by decide) (fun c293 => ?_) (fun c293 => ?_)
          · exact absurd c293 (by decide)
          · refine lh_aload_n hx hb dX10_init_275 rfl (lv_at hl 3 rfl) ?_
            refine lv_iload_n hx hb dX10_init_276 rfl (lv_at hl 0 rfl) ?_
            refine lv_iload_n hx hb dX10_init_277 rfl (lv_at hl 0 rfl) ?_
            refine lv_iconst (v := 0) hx hb dX10_init_278 (by decide) ?_
            refine lv_iconst (v := 1) hx hb dX10_init_279 (by decide) ?_
            refine lv_iconst (v := 0) hx hb dX10_init_280 (by decide) ?_
            obtain ⟨r294, S295, k296, hf⟩ := dc_bd_ok hf
            refine lh_call (S' := S295) (lh_rv ⟨hx, hb, hml, hown, hts⟩ rfl (As := [.int (4 : Int32), .int (4 : Int32), .int (0 : Int32), .int (1 : Int32), .int (0 : Int32)]) (rest := []) (k := 10) (c_X10_file l D cT n S291 ad242 A H.size (fun q9 h9 => hA q9 (Nat.le_trans hS.1 h9)) t (4 : Int32) (4 : Int32) (0 : Int32) (1 : Int32) (0 : Int32) r294 S295 k296 L_t) (cwV 5 hts gX10_init_X10_file rfl rfl rfl (by decide +kernel) ⟨Nat.le_of_ble_eq_true rfl, Nat.le_of_ble_eq_true rfl⟩) hK hN hW (L_t _ rfl) rfl rfl rfl hl.1 rfl (by simp [lh_cat_r, lh_cat_i, lh_cat_j]) dX10_init_281 ⟨Nat.le_of_ble_eq_true rfl, Nat.le_of_ble_eq_true rfl⟩) hS (fun H locs hX hW hS => ?_)
            refine W.widen (k := 31) (n := 5877) (by omega) (by omega) ?_
            show W _ _ _ _ _ _ _ _ _ _ _ _ _ _ _ (F0 m 284 ls [.int r294])
            have m297 : ∀ b, gvN S291 b ≤ gvN S295 b := hX.1
            have L_t : ∀ j, some t = some j → j < gvN S295 10 := fun j h => Nat.lt_of_lt_of_le (L_t j h) (m297 _)
            have hm : ∀ b, gvN S b ≤ gvN S295 b := lh_le_trans hm m297
            have ok := lh_W_ok hW
            refine lv_istore_n (i := 3) (lv' := [(3, .int r294), (2, .int (4 : Int32)), (1, .int r249), (0, lh_r ad242 10 (some t))]) hx hb dX10_init_284 rfl hl (by decide) (by first | rfl | simp [lh_cat_r, lh_cat_i, lh_cat_j]) (fun ls hl => ?_)
            refine lh_aload_n hx hb dX10_init_285 rfl (lv_at hl 3 rfl) ?_
            have L298 : ∀ j, gvR S295 10 t 13 = some j → j < gvN S295 43 := fun j h => ok _ _ _ _ j (L_t _ rfl) rfl h
            refine lh_get (a := 10) (k := 13) (N := 42) (C := RX10) (T := TX10) (own := RX10) (ref := "LoaderModelsModel") hx hb hts (fun _ h => (List.mem_cons_of_mem _ (List.mem_append_right _ h))) hown hK hW rfl (L_t _ rfl) rfl rfl rfl (by decide) (hts (.fieldLink RX10 45 "LoaderModelsModel" "has" "[I") (List.mem_cons_of_mem _ (List.mem_append_left _ (List.mem_append_left _ (List.mem_of_getElem? (i := 15) rfl))))) (fun _ h9 => h9) dX10_init_286 (v := lh_r ad242 43 (gvR S295 10 t 13)) rfl ?_
            refine lv_iload_n hx hb dX10_init_289 rfl (lv_at hl 1 rfl) ?_
            refine lv_iload_n hx hb dX10_init_290 rfl (lv_at hl 0 rfl) ?_
            refine lv_iconst (v := 1) hx hb dX10_init_291 (by decide) ?_
            refine lv_iadd hx hb dX10_init_292 ?_
            obtain ⟨x299, hx299, hf⟩ := dc_nn_ok hf
            obtain ⟨g300, hf⟩ := dc_gd_ok hf
            obtain ⟨S301, eS301, hf⟩ := dc_let_ok hf
            refine lh_ast_i (a := 43) hx hb hK hW hS hx299 (L298 _ hx299) rfl (fun _ => rfl) g300 dX10_init_293 (fun H locs hW hS => ?_)
            rw [← eS301] at hW
            have m302 : ∀ b, gvN S295 b ≤ gvN S301 b := by rw [eS301]; exact lh_mI
            have L_t : ∀ j, some t = some j → j < gvN S301 10 := fun j h => Nat.lt_of_lt_of_le (L_t j h) (m302 _)
            have hm : ∀ b, gvN S b ≤ gvN S301 b := lh_le_trans hm m302
            have ok := lh_W_ok hW
            refine lv_iinc (v := (5 : Int32)) (lv' := [(2, .int (5 : Int32)), (3, .int r294), (1, .int r249), (0, lh_r ad242 10 (some t))]) hx hb dX10_init_294 hl (k := 1) rfl (by first | rfl | decide) (by decide) (by first | rfl | simp [lh_cat_r, lh_cat_i, lh_cat_j]) (fun ls hl => ?_)
            refine lv_goto (tgt := 270) hx hb dX10_init_297 (by decide) ?_
            refine lv_iload_n hx hb dX10_init_270 rfl (lv_at hl 0 rfl) ?_
            refine lv_iconst (v := 5) hx hb dX10_init_271 (by decide) ?_
            refine lv_icmp_ge (tgt := 300) hx hb dX10_init_272 (by decide) (fun c303 => ?_) (fun c303 => ?_)
            · obtain ⟨rfl, rfl⟩ := dc_ret hf
              exact W.vret hx hb hr (fun t9 ht9 hW9 => ⟨⟨ad242, hE, rfl, ⟨hm, trivial⟩, by rw [ht9]; exact hW⟩, hS.F ht9⟩) hS.2.2 dX10_init_300
            · exact absurd c303 (by decide)
