def f_L_law_L18 (n : Nat) (L : Nat) (xs : Nat → Int32) : Nat → lh_S → Option Nat → Option Nat → Int32 → Option (Int32 × lh_S)
  | 0, _, _, _, _ => none
  | g + 1, S25, o27, o29, v31 =>
  dc_let ((Int32.ofNat L) - (6 : Int32)) fun v32 =>
  dc_if (v32 < v31) (
  some ((1 : Int32), S25)) (
  dc_gd (v31 < 0 ∨ L ≤ (v31).toNatClampNeg) (
  dc_let ((xs (v31).toNatClampNeg) &&& (31 : Int32)) fun v35 =>
  dc_if (v35 = 0) (
  dc_gd ((v31 + (1 : Int32)) < 0 ∨ L ≤ ((v31 + (1 : Int32))).toNatClampNeg) (
  dc_nn o27 fun x38 =>
  dc_bd (f_X9_loader n S25 x38 (xs ((v31 + (1 : Int32))).toNatClampNeg)) fun r39 S40 =>
  dc_gd ((v31 + (1 : Int32)) < 0 ∨ L ≤ ((v31 + (1 : Int32))).toNatClampNeg) (
  dc_nn o29 fun x46 =>
  dc_bd (f_X10_loader n S40 x46 (xs ((v31 + (1 : Int32))).toNatClampNeg)) fun r47 S48 =>
  dc_if (r39 = r47) (
  f_L_law_L18 n L xs g S48 o27 o29 (v31 + (6 : Int32))) (
  some ((0 : Int32), S48))))) (
  dc_if (v35 = 1) (
  dc_gd ((v31 + (1 : Int32)) < 0 ∨ L ≤ ((v31 + (1 : Int32))).toNatClampNeg) (
  dc_gd ((v31 + (2 : Int32)) < 0 ∨ L ≤ ((v31 + (2 : Int32))).toNatClampNeg) (
  dc_nn o27 fun x55 =>
  dc_bd (f_X9_bound n S25 x55 (xs ((v31 + (1 : Int32))).toNatClampNeg) (xs ((v31 + (2 : Int32))).toNatClampNeg)) fun r56 S57 =>
  dc_gd ((v31 + (1 : Int32)) < 0 ∨ L ≤ ((v31 + (1 : Int32))).toNatClampNeg) (
  dc_gd ((v31 + (2 : Int32)) < 0 ∨ L ≤ ((v31 + (2 : Int32))).toNatClampNeg) (
  dc_nn o29 fun x62 =>
  dc_bd (f_X10_bound n S57 x62 (xs ((v31 + (1 : Int32))).toNatClampNeg) (xs ((v31 + (2 : Int32))).toNatClampNeg)) fun r63 S64 =>
  dc_if (r56 = r63) (
  f_L_law_L18 n L xs g S64 o27 o29 (v31 + (6 : Int32))) (
  some ((0 : Int32), S64))))))) (
  dc_if (v35 = 2) (
  dc_gd ((v31 + (1 : Int32)) < 0 ∨ L ≤ ((v31 + (1 : Int32))).toNatClampNeg) (
  dc_gd ((v31 + (2 : Int32)) < 0 ∨ L ≤ ((v31 + (2 : Int32))).toNatClampNeg) (
  dc_gd ((v31 + (3 : Int32)) < 0 ∨ L ≤ ((v31 + (3 : Int32))).toNatClampNeg) (
  dc_gd ((v31 + (4 : Int32)) < 0 ∨ L ≤ ((v31 + (4 : Int32))).toNatClampNeg) (
  dc_gd ((v31 + (5 : Int32)) < 0 ∨ L ≤ ((v31 + (5 : Int32))).toNatClampNeg) (
  dc_if ((xs ((v31 + (5 : Int32))).toNatClampNeg) = 0) (
  dc_nn o27 fun x75 =>
  dc_bd (f_X9_file n S25 x75 (xs ((v31 + (1 : Int32))).toNatClampNeg) (xs ((v31 + (2 : Int32))).toNatClampNeg) (xs ((v31 + (3 : Int32))).toNatClampNeg) (xs ((v31 + (4 : Int32))).toNatClampNeg) (0 : Int32)) fun r76 S77 =>
  dc_gd ((v31 + (1 : Int32)) < 0 ∨ L ≤ ((v31 + (1 : Int32))).toNatClampNeg) (
  dc_gd ((v31 + (2 : Int32)) < 0 ∨ L ≤ ((v31 + (2 : Int32))).toNatClampNeg) (
  dc_gd ((v31 + (3 : Int32)) < 0 ∨ L ≤ ((v31 + (3 : Int32))).toNatClampNeg) (
  dc_gd ((v31 + (4 : Int32)) < 0 ∨ L ≤ ((v31 + (4 : Int32))).toNatClampNeg) (
  dc_gd ((v31 + (5 : Int32)) < 0 ∨ L ≤ ((v31 + (5 : Int32))).toNatClampNeg) (
  dc_if ((xs ((v31 + (5 : Int32))).toNatClampNeg) = 0) (
  dc_nn o29 fun x88 =>
  dc_bd (f_X10_file n S77 x88 (xs ((v31 + (1 : Int32))).toNatClampNeg) (xs ((v31 + (2 : Int32))).toNatClampNeg) (xs ((v31 + (3 : Int32))).toNatClampNeg) (xs ((v31 + (4 : Int32))).toNatClampNeg) (0 : Int32)) fun r89 S90 =>
  dc_if (r76 = r89) (
  f_L_law_L18 n L xs g S90 o27 o29 (v31 + (6 : Int32))) (
  some ((0 : Int32), S90))) (
  dc_nn o29 fun x94 =>
  dc_bd (f_X10_file n S77 x94 (xs ((v31 + (1 : Int32))).toNatClampNeg) (xs ((v31 + (2 : Int32))).toNatClampNeg) (xs ((v31 + (3 : Int32))).toNatClampNeg) (xs ((v31 + (4 : Int32))).toNatClampNeg) (1 : Int32)) fun r95 S96 =>
  dc_if (r76 = r95) (
  f_L_law_L18 n L xs g S96 o27 o29 (v31 + (6 : Int32))) (
  some ((0 : Int32), S96))))))))) (
  dc_nn o27 fun x100 =>
  dc_bd (f_X9_file n S25 x100 (xs ((v31 + (1 : Int32))).toNatClampNeg) (xs ((v31 + (2 : Int32))).toNatClampNeg) (xs ((v31 + (3 : Int32))).toNatClampNeg) (xs ((v31 + (4 : Int32))).toNatClampNeg) (1 : Int32)) fun r101 S102 =>
  dc_gd ((v31 + (1 : Int32)) < 0 ∨ L ≤ ((v31 + (1 : Int32))).toNatClampNeg) (
  dc_gd ((v31 + (2 : Int32)) < 0 ∨ L ≤ ((v31 + (2 : Int32))).toNatClampNeg) (
  dc_gd ((v31 + (3 : Int32)) < 0 ∨ L ≤ ((v31 + (3 : Int32))).toNatClampNeg) (
  dc_gd ((v31 + (4 : Int32)) < 0 ∨ L ≤ ((v31 + (4 : Int32))).toNatClampNeg) (
  dc_gd ((v31 + (5 : Int32)) < 0 ∨ L ≤ ((v31 + (5 : Int32))).toNatClampNeg) (
  dc_if ((xs ((v31 + (5 : Int32))).toNatClampNeg) = 0) (
  dc_nn o29 fun x113 =>
  dc_bd (f_X10_file n S102 x113 (xs ((v31 + (1 : Int32))).toNatClampNeg) (xs ((v31 + (2 : Int32))).toNatClampNeg) (xs ((v31 + (3 : Int32))).toNatClampNeg) (xs ((v31 + (4 : Int32))).toNatClampNeg) (0 : Int32)) fun r114 S115 =>
  dc_if (r101 = r114) (
  f_L_law_L18 n L xs g S115 o27 o29 (v31 + (6 : Int32))) (
  some ((0 : Int32), S115))) (
  dc_nn o29 fun x119 =>
  dc_bd (f_X10_file n S102 x119 (xs ((v31 + (1 : Int32))).toNatClampNeg) (xs ((v31 + (2 : Int32))).toNatClampNeg) (xs ((v31 + (3 : Int32))).toNatClampNeg) (xs ((v31 + (4 : Int32))).toNatClampNeg) (1 : Int32)) fun r120 S121 =>
  dc_if (r101 = r120) (
  f_L_law_L18 n L xs g S121 o27 o29 (v31 + (6 : Int32))) (
  some ((0 : Int32), S121))))))))))))))) (
  dc_if (v35 = 3) (
  dc_gd ((v31 + (1 : Int32)) < 0 ∨ L ≤ ((v31 + (1 : Int32))).toNatClampNeg) (
  dc_gd ((v31 + (2 : Int32)) < 0 ∨ L ≤ ((v31 + (2 : Int32))).toNatClampNeg) (
  dc_gd ((v31 + (3 : Int32)) < 0 ∨ L ≤ ((v31 + (3 : Int32))).toNatClampNeg) (
  dc_gd ((v31 + (4 : Int32)) < 0 ∨ L ≤ ((v31 + (4 : Int32))).toNatClampNeg) (
  dc_gd ((v31 + (5 : Int32)) < 0 ∨ L ≤ ((v31 + (5 : Int32))).toNatClampNeg) (
  dc_nn o27 fun x131 =>
  dc_bd (f_X9_method n S25 x131 (xs ((v31 + (1 : Int32))).toNatClampNeg) (xs ((v31 + (2 : Int32))).toNatClampNeg) (xs ((v31 + (3 : Int32))).toNatClampNeg) (xs ((v31 + (4 : Int32))).toNatClampNeg) (xs ((v31 + (5 : Int32))).toNatClampNeg)) fun r132 S133 =>
  dc_gd ((v31 + (1 : Int32)) < 0 ∨ L ≤ ((v31 + (1 : Int32))).toNatClampNeg) (
  dc_gd ((v31 + (2 : Int32)) < 0 ∨ L ≤ ((v31 + (2 : Int32))).toNatClampNeg) (
  dc_gd ((v31 + (3 : Int32)) < 0 ∨ L ≤ ((v31 + (3 : Int32))).toNatClampNeg) (
  dc_gd ((v31 + (4 : Int32)) < 0 ∨ L ≤ ((v31 + (4 : Int32))).toNatClampNeg) (
  dc_gd ((v31 + (5 : Int32)) < 0 ∨ L ≤ ((v31 + (5 : Int32))).toNatClampNeg) (
  dc_nn o29 fun x143 =>
  dc_bd (f_X10_method n S133 x143 (xs ((v31 + (1 : Int32))).toNatClampNeg) (xs ((v31 + (2 : Int32))).toNatClampNeg) (xs ((v31 + (3 : Int32))).toNatClampNeg) (xs ((v31 + (4 : Int32))).toNatClampNeg) (xs ((v31 + (5 : Int32))).toNatClampNeg)) fun r144 S145 =>
  dc_if (r132 = r144) (
  f_L_law_L18 n L xs g S145 o27 o29 (v31 + (6 : Int32))) (
  some ((0 : Int32), S145))))))))))))) (
  dc_if (v35 = 4) (
  dc_gd ((v31 + (1 : Int32)) < 0 ∨ L ≤ ((v31 + (1 : Int32))).toNatClampNeg) (
  dc_gd ((v31 + (2 : Int32)) < 0 ∨ L ≤ ((v31 + (2 : Int32))).toNatClampNeg) (
  dc_nn o27 fun x152 =>
  dc_bd (f_X9_bear n S25 x152 (xs ((v31 + (1 : Int32))).toNatClampNeg) (xs ((v31 + (2 : Int32))).toNatClampNeg)) fun r153 S154 =>
  dc_gd ((v31 + (1 : Int32)) < 0 ∨ L ≤ ((v31 + (1 : Int32))).toNatClampNeg) (
  dc_gd ((v31 + (2 : Int32)) < 0 ∨ L ≤ ((v31 + (2 : Int32))).toNatClampNeg) (
  dc_nn o29 fun x159 =>
  dc_bd (f_X10_bear n S154 x159 (xs ((v31 + (1 : Int32))).toNatClampNeg) (xs ((v31 + (2 : Int32))).toNatClampNeg)) fun r160 S161 =>
  dc_if (r153 = r160) (
  f_L_law_L18 n L xs g S161 o27 o29 (v31 + (6 : Int32))) (
  some ((0 : Int32), S161))))))) (
  dc_if (v35 = 5) (
  dc_gd ((v31 + (1 : Int32)) < 0 ∨ L ≤ ((v31 + (1 : Int32))).toNatClampNeg) (
  dc_gd ((v31 + (2 : Int32)) < 0 ∨ L ≤ ((v31 + (2 : Int32))).toNatClampNeg) (
  dc_nn o27 fun x168 =>
  dc_bd (f_X9_load n S25 x168 (xs ((v31 + (1 : Int32))).toNatClampNeg) (xs ((v31 + (2 : Int32))).toNatClampNeg)) fun r169 S170 =>
  dc_gd (¬ (gvN S170 8 + gvN S170 5 ≤ gvN S25 8 + gvN S25 5 + 361 ∧ 4 * gvN S170 8 + 6 * gvN S170 5 ≤ 4 * gvN S25 8 + 6 * gvN S25 5 + 1524)) (
  dc_gd ((v31 + (1 : Int32)) < 0 ∨ L ≤ ((v31 + (1 : Int32))).toNatClampNeg) (
  dc_gd ((v31 + (2 : Int32)) < 0 ∨ L ≤ ((v31 + (2 : Int32))).toNatClampNeg) (
  dc_nn o29 fun x178 =>
  dc_bd (f_X10_load n S170 x178 (xs ((v31 + (1 : Int32))).toNatClampNeg) (xs ((v31 + (2 : Int32))).toNatClampNeg)) fun r179 S180 =>
  dc_if (r169 = r179) (
  f_L_law_L18 n L xs g S180 o27 o29 (v31 + (6 : Int32))) (
  some ((0 : Int32), S180)))))))) (
  dc_if (v35 = 6) (
  dc_gd ((v31 + (1 : Int32)) < 0 ∨ L ≤ ((v31 + (1 : Int32))).toNatClampNeg) (
  dc_gd ((v31 + (2 : Int32)) < 0 ∨ L ≤ ((v31 + (2 : Int32))).toNatClampNeg) (
  dc_nn o27 fun x187 =>
  dc_bd (f_X9_define n S25 x187 (xs ((v31 + (1 : Int32))).toNatClampNeg) (xs ((v31 + (2 : Int32))).toNatClampNeg)) fun r188 S189 =>
  dc_gd (¬ (gvN S189 8 + gvN S189 5 ≤ gvN S25 8 + gvN S25 5 + 361 ∧ 4 * gvN S189 8 + 6 * gvN S189 5 ≤ 4 * gvN S25 8 + 6 * gvN S25 5 + 1524)) (
  dc_gd ((v31 + (1 : Int32)) < 0 ∨ L ≤ ((v31 + (1 : Int32))).toNatClampNeg) (
  dc_gd ((v31 + (2 : Int32)) < 0 ∨ L ≤ ((v31 + (2 : Int32))).toNatClampNeg) (
  dc_nn o29 fun x197 =>
  dc_bd (f_X10_define n S189 x197 (xs ((v31 + (1 : Int32))).toNatClampNeg) (xs ((v31 + (2 : Int32))).toNatClampNeg)) fun r198 S199 =>
  dc_if (r188 = r198) (
  f_L_law_L18 n L xs g S199 o27 o29 (v31 + (6 : Int32))) (
  some ((0 : Int32), S199)))))))) (
  dc_if (v35 = 7) (
  dc_gd ((v31 + (1 : Int32)) < 0 ∨ L ≤ ((v31 + (1 : Int32))).toNatClampNeg) (
  dc_gd ((v31 + (2 : Int32)) < 0 ∨ L ≤ ((v31 + (2 : Int32))).toNatClampNeg) (
  dc_nn o27 fun x206 =>
  dc_bd (f_X9_known n S25 x206 (xs ((v31 + (1 : Int32))).toNatClampNeg) (xs ((v31 + (2 : Int32))).toNatClampNeg)) fun r207 S208 =>
  dc_gd ((v31 + (1 : Int32)) < 0 ∨ L ≤ ((v31 + (1 : Int32))).toNatClampNeg) (
  dc_gd ((v31 + (2 : Int32)) < 0 ∨ L ≤ ((v31 + (2 : Int32))).toNatClampNeg) (
  dc_nn o29 fun x213 =>
  dc_bd (f_X10_known n S208 x213 (xs ((v31 + (1 : Int32))).toNatClampNeg) (xs ((v31 + (2 : Int32))).toNatClampNeg)) fun r214 S215 =>
  dc_if (r207 = r214) (
  f_L_law_L18 n L xs g S215 o27 o29 (v31 + (6 : Int32))) (
  some ((0 : Int32), S215))))))) (
  dc_if (v35 = 8) (
  dc_gd ((v31 + (1 : Int32)) < 0 ∨ L ≤ ((v31 + (1 : Int32))).toNatClampNeg) (
  dc_gd ((v31 + (2 : Int32)) < 0 ∨ L ≤ ((v31 + (2 : Int32))).toNatClampNeg) (
  dc_gd ((v31 + (3 : Int32)) < 0 ∨ L ≤ ((v31 + (3 : Int32))).toNatClampNeg) (
  dc_nn o27 fun x223 =>
  dc_bd (f_X9_agree n S25 x223 (xs ((v31 + (1 : Int32))).toNatClampNeg) (xs ((v31 + (2 : Int32))).toNatClampNeg) (xs ((v31 + (3 : Int32))).toNatClampNeg)) fun r224 S225 =>
  dc_gd ((v31 + (1 : Int32)) < 0 ∨ L ≤ ((v31 + (1 : Int32))).toNatClampNeg) (
  dc_gd ((v31 + (2 : Int32)) < 0 ∨ L ≤ ((v31 + (2 : Int32))).toNatClampNeg) (
  dc_gd ((v31 + (3 : Int32)) < 0 ∨ L ≤ ((v31 + (3 : Int32))).toNatClampNeg) (
  dc_nn o29 fun x231 =>
  dc_bd (f_X10_agree n S225 x231 (xs ((v31 + (1 : Int32))).toNatClampNeg) (xs ((v31 + (2 : Int32))).toNatClampNeg) (xs ((v31 + (3 : Int32))).toNatClampNeg)) fun r232 S233 =>
  dc_if (r224 = r232) (
  f_L_law_L18 n L xs g S233 o27 o29 (v31 + (6 : Int32))) (
  some ((0 : Int32), S233))))))))) (
  dc_if (v35 = 9) (
  dc_gd ((v31 + (1 : Int32)) < 0 ∨ L ≤ ((v31 + (1 : Int32))).toNatClampNeg) (
  dc_gd ((v31 + (2 : Int32)) < 0 ∨ L ≤ ((v31 + (2 : Int32))).toNatClampNeg) (
  dc_nn o27 fun x240 =>
  dc_bd (f_X9_apart n S25 x240 (xs ((v31 + (1 : Int32))).toNatClampNeg) (xs ((v31 + (2 : Int32))).toNatClampNeg)) fun r241 S242 =>
  dc_gd ((v31 + (1 : Int32)) < 0 ∨ L ≤ ((v31 + (1 : Int32))).toNatClampNeg) (
  dc_gd ((v31 + (2 : Int32)) < 0 ∨ L ≤ ((v31 + (2 : Int32))).toNatClampNeg) (
  dc_nn o29 fun x247 =>
  dc_bd (f_X10_apart n S242 x247 (xs ((v31 + (1 : Int32))).toNatClampNeg) (xs ((v31 + (2 : Int32))).toNatClampNeg)) fun r248 S249 =>
  dc_if (r241 = r248) (
  f_L_law_L18 n L xs g S249 o27 o29 (v31 + (6 : Int32))) (
  some ((0 : Int32), S249))))))) (
  dc_if (v35 = 10) (
  dc_gd ((v31 + (1 : Int32)) < 0 ∨ L ≤ ((v31 + (1 : Int32))).toNatClampNeg) (
  dc_nn o27 fun x255 =>
  dc_bd (f_X9_start n S25 x255 (xs ((v31 + (1 : Int32))).toNatClampNeg)) fun r256 S257 =>
  dc_gd ((v31 + (1 : Int32)) < 0 ∨ L ≤ ((v31 + (1 : Int32))).toNatClampNeg) (
  dc_nn o29 fun x261 =>
  dc_bd (f_X10_start n S257 x261 (xs ((v31 + (1 : Int32))).toNatClampNeg)) fun r262 S263 =>
  dc_if (r256 = r262) (
  f_L_law_L18 n L xs g S263 o27 o29 (v31 + (6 : Int32))) (
  some ((0 : Int32), S263))))) (
  dc_if (v35 = 11) (
  dc_gd ((v31 + (1 : Int32)) < 0 ∨ L ≤ ((v31 + (1 : Int32))).toNatClampNeg) (
  dc_nn o27 fun x269 =>
  dc_bd (f_X9_value n S25 x269 (xs ((v31 + (1 : Int32))).toNatClampNeg)) fun r270 S271 =>
  dc_gd ((v31 + (1 : Int32)) < 0 ∨ L ≤ ((v31 + (1 : Int32))).toNatClampNeg) (
  dc_nn o29 fun x275 =>
  dc_bd (f_X10_value n S271 x275 (xs ((v31 + (1 : Int32))).toNatClampNeg)) fun r276 S277 =>
  dc_if ((lg_cmp r270 r276) = 0) (
  f_L_law_L18 n L xs g S277 o27 o29 (v31 + (6 : Int32))) (
  some ((0 : Int32), S277))))) (
  dc_if (v35 = 12) (
  dc_gd ((v31 + (1 : Int32)) < 0 ∨ L ≤ ((v31 + (1 : Int32))).toNatClampNeg) (
  dc_nn o27 fun x283 =>
  dc_bd (f_X9_make n S25 x283 (xs ((v31 + (1 : Int32))).toNatClampNeg)) fun r284 S285 =>
  dc_gd ((v31 + (1 : Int32)) < 0 ∨ L ≤ ((v31 + (1 : Int32))).toNatClampNeg) (
  dc_nn o29 fun x289 =>
  dc_bd (f_X10_make n S285 x289 (xs ((v31 + (1 : Int32))).toNatClampNeg)) fun r290 S291 =>
  dc_if (r284 = r290) (
  f_L_law_L18 n L xs g S291 o27 o29 (v31 + (6 : Int32))) (
  some ((0 : Int32), S291))))) (
  dc_if (v35 = 13) (
  dc_gd ((v31 + (1 : Int32)) < 0 ∨ L ≤ ((v31 + (1 : Int32))).toNatClampNeg) (
  dc_gd ((v31 + (2 : Int32)) < 0 ∨ L ≤ ((v31 + (2 : Int32))).toNatClampNeg) (
  dc_nn o27 fun x298 =>
  dc_bd (f_X9_cast n S25 x298 (xs ((v31 + (1 : Int32))).toNatClampNeg) (xs ((v31 + (2 : Int32))).toNatClampNeg)) fun r299 S300 =>
  dc_gd ((v31 + (1 : Int32)) < 0 ∨ L ≤ ((v31 + (1 : Int32))).toNatClampNeg) (
  dc_gd ((v31 + (2 : Int32)) < 0 ∨ L ≤ ((v31 + (2 : Int32))).toNatClampNeg) (
  dc_nn o29 fun x305 =>
  dc_bd (f_X10_cast n S300 x305 (xs ((v31 + (1 : Int32))).toNatClampNeg) (xs ((v31 + (2 : Int32))).toNatClampNeg)) fun r306 S307 =>
  dc_if (r299 = r306) (
  f_L_law_L18 n L xs g S307 o27 o29 (v31 + (6 : Int32))) (
  some ((0 : Int32), S307))))))) (
  dc_if (v35 = 14) (
  dc_gd ((v31 + (1 : Int32)) < 0 ∨ L ≤ ((v31 + (1 : Int32))).toNatClampNeg) (
  dc_gd ((v31 + (2 : Int32)) < 0 ∨ L ≤ ((v31 + (2 : Int32))).toNatClampNeg) (
  dc_nn o27 fun x314 =>
  dc_bd (f_X9_row n S25 x314 (xs ((v31 + (1 : Int32))).toNatClampNeg) (xs ((v31 + (2 : Int32))).toNatClampNeg)) fun r315 S316 =>
  dc_gd ((v31 + (1 : Int32)) < 0 ∨ L ≤ ((v31 + (1 : Int32))).toNatClampNeg) (
  dc_gd ((v31 + (2 : Int32)) < 0 ∨ L ≤ ((v31 + (2 : Int32))).toNatClampNeg) (
  dc_nn o29 fun x323 =>
  dc_bd (f_X10_row n S316 x323 (xs ((v31 + (1 : Int32))).toNatClampNeg) (xs ((v31 + (2 : Int32))).toNatClampNeg)) fun r324 S325 =>
  dc_if (r315 = r324) (
  f_L_law_L18 n L xs g S325 o27 o29 (v31 + (6 : Int32))) (
  some ((0 : Int32), S325))))))) (
  dc_if (v35 = 15) (
  dc_gd ((v31 + (1 : Int32)) < 0 ∨ L ≤ ((v31 + (1 : Int32))).toNatClampNeg) (
  dc_gd ((v31 + (2 : Int32)) < 0 ∨ L ≤ ((v31 + (2 : Int32))).toNatClampNeg) (
  dc_gd ((v31 + (3 : Int32)) < 0 ∨ L ≤ ((v31 + (3 : Int32))).toNatClampNeg) (
  dc_nn o27 fun x333 =>
  dc_bd (f_X9_put n S25 x333 (xs ((v31 + (1 : Int32))).toNatClampNeg) (xs ((v31 + (2 : Int32))).toNatClampNeg) (xs ((v31 + (3 : Int32))).toNatClampNeg)) fun r334 S335 =>
  dc_gd ((v31 + (1 : Int32)) < 0 ∨ L ≤ ((v31 + (1 : Int32))).toNatClampNeg) (
  dc_gd ((v31 + (2 : Int32)) < 0 ∨ L ≤ ((v31 + (2 : Int32))).toNatClampNeg) (
  dc_gd ((v31 + (3 : Int32)) < 0 ∨ L ≤ ((v31 + (3 : Int32))).toNatClampNeg) (
  dc_nn o29 fun x341 =>
  dc_bd (f_X10_put n S335 x341 (xs ((v31 + (1 : Int32))).toNatClampNeg) (xs ((v31 + (2 : Int32))).toNatClampNeg) (xs ((v31 + (3 : Int32))).toNatClampNeg)) fun r342 S343 =>
  dc_if (r334 = r342) (
  f_L_law_L18 n L xs g S343 o27 o29 (v31 + (6 : Int32))) (
  some ((0 : Int32), S343))))))))) (
  dc_if (v35 = 16) (
  dc_gd ((v31 + (1 : Int32)) < 0 ∨ L ≤ ((v31 + (1 : Int32))).toNatClampNeg) (
  dc_gd ((v31 + (2 : Int32)) < 0 ∨ L ≤ ((v31 + (2 : Int32))).toNatClampNeg) (
  dc_nn o27 fun x350 =>
  dc_bd (f_X9_get n S25 x350 (xs ((v31 + (1 : Int32))).toNatClampNeg) (xs ((v31 + (2 : Int32))).toNatClampNeg)) fun r351 S352 =>
  dc_gd ((v31 + (1 : Int32)) < 0 ∨ L ≤ ((v31 + (1 : Int32))).toNatClampNeg) (
  dc_gd ((v31 + (2 : Int32)) < 0 ∨ L ≤ ((v31 + (2 : Int32))).toNatClampNeg) (
  dc_nn o29 fun x357 =>
  dc_bd (f_X10_get n S352 x357 (xs ((v31 + (1 : Int32))).toNatClampNeg) (xs ((v31 + (2 : Int32))).toNatClampNeg)) fun r358 S359 =>
  dc_if (r351 = r358) (
  f_L_law_L18 n L xs g S359 o27 o29 (v31 + (6 : Int32))) (
  some ((0 : Int32), S359))))))) (
  dc_if (v35 = 17) (
  dc_gd ((v31 + (1 : Int32)) < 0 ∨ L ≤ ((v31 + (1 : Int32))).toNatClampNeg) (
  dc_gd ((v31 + (2 : Int32)) < 0 ∨ L ≤ ((v31 + (2 : Int32))).toNatClampNeg) (
  dc_nn o27 fun x366 =>
  dc_bd (f_X9_castRow n S25 x366 (xs ((v31 + (1 : Int32))).toNatClampNeg) (xs ((v31 + (2 : Int32))).toNatClampNeg)) fun r367 S368 =>
  dc_gd ((v31 + (1 : Int32)) < 0 ∨ L ≤ ((v31 + (1 : Int32))).toNatClampNeg) (
  dc_gd ((v31 + (2 : Int32)) < 0 ∨ L ≤ ((v31 + (2 : Int32))).toNatClampNeg) (
  dc_nn o29 fun x373 =>
  dc_bd (f_X10_castRow n S368 x373 (xs ((v31 + (1 : Int32))).toNatClampNeg) (xs ((v31 + (2 : Int32))).toNatClampNeg)) fun r374 S375 =>
  dc_if (r367 = r374) (
  f_L_law_L18 n L xs g S375 o27 o29 (v31 + (6 : Int32))) (
  some ((0 : Int32), S375))))))) (
  dc_if (v35 = 18) (
  dc_gd ((v31 + (1 : Int32)) < 0 ∨ L ≤ ((v31 + (1 : Int32))).toNatClampNeg) (
  dc_gd ((v31 + (2 : Int32)) < 0 ∨ L ≤ ((v31 + (2 : Int32))).toNatClampNeg) (
  dc_gd ((v31 + (3 : Int32)) < 0 ∨ L ≤ ((v31 + (3 : Int32))).toNatClampNeg) (
  dc_let (((xs ((v31 + (3 : Int32))).toNatClampNeg).toInt64) <<< ((32 : Int32).toInt64 &&& 63)) fun v383 =>
  dc_gd ((v31 + (4 : Int32)) < 0 ∨ L ≤ ((v31 + (4 : Int32))).toNatClampNeg) (
  dc_let (((xs ((v31 + (4 : Int32))).toNatClampNeg).toInt64) &&& (4294967295 : Int64)) fun v385 =>
  dc_nn o27 fun x386 =>
  dc_bd (f_X9_call n S25 x386 (xs ((v31 + (1 : Int32))).toNatClampNeg) (xs ((v31 + (2 : Int32))).toNatClampNeg) (v383 ||| v385)) fun r387 S388 =>
  dc_gd ((v31 + (1 : Int32)) < 0 ∨ L ≤ ((v31 + (1 : Int32))).toNatClampNeg) (
  dc_gd ((v31 + (2 : Int32)) < 0 ∨ L ≤ ((v31 + (2 : Int32))).toNatClampNeg) (
  dc_gd ((v31 + (3 : Int32)) < 0 ∨ L ≤ ((v31 + (3 : Int32))).toNatClampNeg) (
  dc_let (((xs ((v31 + (3 : Int32))).toNatClampNeg).toInt64) <<< ((32 : Int32).toInt64 &&& 63)) fun v394 =>
  dc_gd ((v31 + (4 : Int32)) < 0 ∨ L ≤ ((v31 + (4 : Int32))).toNatClampNeg) (
  dc_let (((xs ((v31 + (4 : Int32))).toNatClampNeg).toInt64) &&& (4294967295 : Int64)) fun v396 =>
  dc_nn o29 fun x397 =>
  dc_bd (f_X10_call n S388 x397 (xs ((v31 + (1 : Int32))).toNatClampNeg) (xs ((v31 + (2 : Int32))).toNatClampNeg) (v394 ||| v396)) fun r398 S399 =>
  dc_if ((lg_cmp r387 r398) = 0) (
  f_L_law_L18 n L xs g S399 o27 o29 (v31 + (6 : Int32))) (
  some ((0 : Int32), S399))))))))))) (
  dc_if (v35 = 19) (
  dc_gd ((v31 + (1 : Int32)) < 0 ∨ L ≤ ((v31 + (1 : Int32))).toNatClampNeg) (
  dc_gd ((v31 + (2 : Int32)) < 0 ∨ L ≤ ((v31 + (2 : Int32))).toNatClampNeg) (
  dc_nn o27 fun x406 =>
  dc_bd (f_X9_about n S25 x406 (xs ((v31 + (1 : Int32))).toNatClampNeg) (xs ((v31 + (2 : Int32))).toNatClampNeg)) fun r407 S408 =>
  dc_gd ((v31 + (1 : Int32)) < 0 ∨ L ≤ ((v31 + (1 : Int32))).toNatClampNeg) (
  dc_gd ((v31 + (2 : Int32)) < 0 ∨ L ≤ ((v31 + (2 : Int32))).toNatClampNeg) (
  dc_nn o29 fun x413 =>
  dc_bd (f_X10_about n S408 x413 (xs ((v31 + (1 : Int32))).toNatClampNeg) (xs ((v31 + (2 : Int32))).toNatClampNeg)) fun r414 S415 =>
  dc_if (r407 = r414) (
  f_L_law_L18 n L xs g S415 o27 o29 (v31 + (6 : Int32))) (
  some ((0 : Int32), S415))))))) (
  dc_if (v35 = 20) (
  dc_gd ((v31 + (1 : Int32)) < 0 ∨ L ≤ ((v31 + (1 : Int32))).toNatClampNeg) (
  dc_nn o27 fun x421 =>
  dc_bd (f_X9_noted n S25 x421 (xs ((v31 + (1 : Int32))).toNatClampNeg)) fun r422 S423 =>
  dc_gd ((v31 + (1 : Int32)) < 0 ∨ L ≤ ((v31 + (1 : Int32))).toNatClampNeg) (
  dc_nn o29 fun x427 =>
  dc_bd (f_X10_noted n S423 x427 (xs ((v31 + (1 : Int32))).toNatClampNeg)) fun r428 S429 =>
  dc_if (r422 = r428) (
  f_L_law_L18 n L xs g S429 o27 o29 (v31 + (6 : Int32))) (
  some ((0 : Int32), S429))))) (
  dc_if (v35 = 21) (
  dc_gd ((v31 + (1 : Int32)) < 0 ∨ L ≤ ((v31 + (1 : Int32))).toNatClampNeg) (
  dc_nn o27 fun x435 =>
  dc_bd (f_X9_told n S25 x435 (xs ((v31 + (1 : Int32))).toNatClampNeg)) fun r436 S437 =>
  dc_gd ((v31 + (1 : Int32)) < 0 ∨ L ≤ ((v31 + (1 : Int32))).toNatClampNeg) (
  dc_nn o29 fun x441 =>
  dc_bd (f_X10_told n S437 x441 (xs ((v31 + (1 : Int32))).toNatClampNeg)) fun r442 S443 =>
  dc_if (r436 = r442) (
  f_L_law_L18 n L xs g S443 o27 o29 (v31 + (6 : Int32))) (
  some ((0 : Int32), S443))))) (
  f_L_law_L18 n L xs g S25 o27 o29 (v31 + (6 : Int32))))))))))))))))))))))))))
def f_L_law (n : Nat) (L : Nat) (xs : Nat → Int32) (S : lh_S) : Option (Int32 × lh_S) :=
  dc_let (pvN S 9 0) fun S1 =>
  dc_bd (f_X9_init n S1 (gvN S 9)) fun r7 S8 =>
  dc_let (pvN S8 10 0) fun S13 =>
  dc_bd (f_X10_init n S13 (gvN S8 10)) fun r19 S20 =>
  f_L_law_L18 n L xs 600 S20 (some (gvN S 9)) (some (gvN S8 10)) (0 : Int32)
set_option maxHeartbeats 40000000 in
set_option maxRecDepth 100000 in
theorem law_run {p : Program} {e : Env} {s : State} {m : MethodId} {below : List Frame} {meth : Method} {c : Code} (l : Launch) {b L : Nat} {xs : Nat → Int32} (C0 : lw_At p s m meth c b L xs) (D : va_G) (cT : Nat → ClassId) (hK : lh_K D cT s) (hN : lh_N s) (n : Nat) (S' S : lh_S) (ad : Nat → Nat → Nat) (hW : lh_W D cT S ad (fun q => s.heap.size ≤ q) s.heap) (hf : f_L_law n L xs S = some (1, S')) : W p l e room_1 s m #[Value.ref b] below meth c s.heap [] 0 0 (lw_Z below #[Value.ref b] s) (entryFrame m ([Value.ref b] : List Value).toArray 4) := by
  obtain ⟨hx, hb, hr, hml, hown, hts, hX0, hbl, hlocks, hgv⟩ := C0
  have hb : c.code = cL_law := hb
  have hts : ∀ w ∈ wsL_law, w.before #[Value.ref b] s = true := fun w h => hts w (wsL_law_in w h)
  have hown : s.vm.findClass RL = some m.cls := hown
  generalize hA0 : (fun q : Nat => s.heap.size ≤ q) = A at hW
  have hA : ∀ q, s.heap.size ≤ q → A q := fun q h => by rw [← hA0]; exact h
  have hbA : ¬ A b := by rw [← hA0]; exact Nat.not_le.mpr hbl
  have hAq : ∀ q, A q → s.heap.size ≤ q := fun q h => by rw [← hA0] at h; exact h
  have L18 : ∀ (g : Nat) (S25 : lh_S) (o27 : Option Nat) (o29 : Option Nat) (v31 : Int32) (ad26 : Nat → Nat → Nat), f_L_law_L18 n L xs g S25 o27 o29 v31 = some (1, S') → (∀ b, gvN S b ≤ gvN S25 b) → lh_E S ad ad26 → (∀ j, o27 = some j → j < gvN S25 9) → (∀ j, o29 = some j → j < gvN S25 10) → ∀ (cl sl : Nat), cl + 361 * g ≤ 400000 → sl + 1524 * g ≤ 4000000 → ∀ (H : Heap) (locs : List Loc), lh_W D cT S25 ad26 A H → va_S A s.heap H locs → ∀ (ls : Array Slot), lv_has ls 4 [(0, .ref b), (1, lh_r ad26 9 o27), (2, lh_r ad26 10 o29), (3, .int v31)] → W p l e room_1 s m #[Value.ref b] below meth c H locs cl sl (lw_Z below #[Value.ref b] s) (F0 m 18 ls []) := by
    intro g
    induction g with
    | zero => intro S25 o27 o29 v31 ad26 hf; rw [f_L_law_L18] at hf; cases hf
    | succ g ih =>
      intro S25 o27 o29 v31 ad26 hf hm hE L28 L30 cl sl hcl hsl H locs hW hS ls hl
      rw [f_L_law_L18] at hf
      have ok := lh_W_ok hW
      refine lv_iload_n hx hb dL_law_18 rfl (lv_at hl 3 rfl) ?_
      refine lv_aload_n hx hb dL_law_19 rfl (lv_at hl 0 rfl) ?_
      refine va_slen hx hb hX0 hbl hbA hS dL_law_20 ?_
      refine lv_bipush (v := 6) hx hb dL_law_21 (by decide) ?_
      refine lv_isub hx hb dL_law_23 ?_
      refine lv_topi (fun v32 hv32 => ?_)
      replace hf := dc_let_e hv32 hf
      refine lv_icmp_gt (tgt := 946) hx hb dL_law_24 (by decide) (fun c33 => ?_) (fun c33 => ?_)
      · replace hf := dc_if_t c33 hf
        refine lv_iconst (v := 1) hx hb dL_law_946 (by decide) ?_
        refine va_forget (fun q hq => hAq _ (hS.2.2 q hq)) ?_
        refine W.widen (k := 600000) (n := 7302250) (by omega) (by omega) ?_
        exact lw_ret hx hb hr hlocks dL_law_947
      · replace hf := dc_if_f c33 hf
        refine lv_aload_n hx hb dL_law_27 rfl (lv_at hl 0 rfl) ?_
        refine lv_iload_n hx hb dL_law_28 rfl (lv_at hl 3 rfl) ?_
        obtain ⟨g34, hf⟩ := dc_gd_ok hf
        refine va_sld hx hb hX0 hbl hbA hS g34 dL_law_29 ?_
        refine lv_bipush (v := 31) hx hb dL_law_30 (by decide) ?_
        refine lv_iand hx hb dL_law_32 ?_
        refine lv_topi (fun v35 hv35 => ?_)
        replace hf := dc_let_e hv35 hf
        by_cases c36 : v35 = 0
        · refine lv_tableIn (tgt := 136) hx hb dL_law_33 (by rw [c36]; decide) (by rw [c36]; decide) (by rw [c36]; rfl) (by decide) ?_
          replace hf := dc_if_t c36 hf
          refine lh_aload_n hx hb dL_law_136 rfl (lv_at hl 1 rfl) ?_
          refine lv_aload_n hx hb dL_law_137 rfl (lv_at hl 0 rfl) ?_
          refine lv_iload_n hx hb dL_law_138 rfl (lv_at hl 3 rfl) ?_
          refine lv_iconst (v := 1) hx hb dL_law_139 (by decide) ?_
          refine lv_iadd hx hb dL_law_140 ?_
          obtain ⟨g37, hf⟩ := dc_gd_ok hf
          refine va_sld hx hb hX0 hbl hbA hS g37 dL_law_141 ?_
          obtain ⟨x38, hx38, hf⟩ := dc_nn_ok hf
          obtain ⟨r39, S40, k41, hf⟩ := dc_bd_ok hf
          refine lh_callA (S' := S40) (lh_rv ⟨hx, hb, hml, hown, hts⟩ hx38 (As := [.int (xs ((v31 + (1 : Int32))).toNatClampNeg)]) (rest := []) (k := 9) (c_X9_loader l D cT n S25 ad26 A H.size (fun q9 h9 => hA q9 (Nat.le_trans hS.1 h9)) x38 (xs ((v31 + (1 : Int32))).toNatClampNeg) r39 S40 k41 (lh_ls (L28 _ hx38))) (cwV 1 hts gL_law_X9_loader rfl rfl rfl (by decide +kernel) ⟨Nat.le_of_ble_eq_true rfl, Nat.le_of_ble_eq_true rfl⟩) hK hN hW (L28 _ hx38) rfl rfl rfl hl.1 rfl (by simp [lh_cat_r, lh_cat_i, lh_cat_j]) dL_law_142 ⟨by show cl + 5 ≤ 600000; omega, by show sl + 167 ≤ 7302250; omega⟩) hS (fun ad42 H locs hE43 hX hW hS => ?_)
          refine W.widen (k := cl + 5) (n := sl + 167) (by omega) (by omega) ?_
          show W _ _ _ _ _ _ _ _ _ _ _ _ _ _ _ (F0 m 145 ls [.int r39])
          rw [lh_rE hE43 L28] at hl
          rw [lh_rE hE43 L30] at hl
          have hE : lh_E S ad ad42 := lh_E.trans hE hm hE43
          have m44 : ∀ b, gvN S25 b ≤ gvN S40 b := hX.1
          have L28 : ∀ j, o27 = some j → j < gvN S40 9 := fun j h => Nat.lt_of_lt_of_le (L28 j h) (m44 _)
          have L30 : ∀ j, o29 = some j → j < gvN S40 10 := fun j h => Nat.lt_of_lt_of_le (L30 j h) (m44 _)
          have hm : ∀ b, gvN S b ≤ gvN S40 b := lh_le_trans hm m44
          have ok := lh_W_ok hW
          refine lh_aload_n hx hb dL_law_145 rfl (lv_at hl 2 rfl) ?_
          refine lv_aload_n hx hb dL_law_146 rfl (lv_at hl 0 rfl) ?_
          refine lv_iload_n hx hb dL_law_147 rfl (lv_at hl 3 rfl) ?_
          refine lv_iconst (v := 1) hx hb dL_law_148 (by decide) ?_
          refine lv_iadd hx hb dL_law_149 ?_
          obtain ⟨g45, hf⟩ := dc_gd_ok hf
          refine va_sld hx hb hX0 hbl hbA hS g45 dL_law_150 ?_
          obtain ⟨x46, hx46, hf⟩ := dc_nn_ok hf
          obtain ⟨r47, S48, k49, hf⟩ := dc_bd_ok hf
          refine lh_call (S' := S48) (lh_rv ⟨hx, hb, hml, hown, hts⟩ hx46 (As := [.int (xs ((v31 + (1 : Int32))).toNatClampNeg)]) (rest := [.int r39]) (k := 10) (c_X10_loader l D cT n S40 ad42 A H.size (fun q9 h9 => hA q9 (Nat.le_trans hS.1 h9)) x46 (xs ((v31 + (1 : Int32))).toNatClampNeg) r47 S48 k49 (lh_ls (L30 _ hx46))) (cwV 1 hts gL_law_X10_loader rfl rfl rfl (by decide +kernel) ⟨Nat.le_of_ble_eq_true rfl, Nat.le_of_ble_eq_true rfl⟩) hK hN hW (L30 _ hx46) rfl rfl rfl hl.1 rfl (by simp [lh_cat_r, lh_cat_i, lh_cat_j]) dL_law_151 ⟨by show cl + 5 + 0 ≤ 600000; omega, by show sl + 167 + 0 ≤ 7302250; omega⟩) hS (fun H locs hX hW hS => ?_)
          refine W.widen (k := cl + 5) (n := sl + 167) (by omega) (by omega) ?_
          show W _ _ _ _ _ _ _ _ _ _ _ _ _ _ _ (F0 m 154 ls [.int r47, .int r39])
          have m50 : ∀ b, gvN S40 b ≤ gvN S48 b := hX.1
          have L28 : ∀ j, o27 = some j → j < gvN S48 9 := fun j h => Nat.lt_of_lt_of_le (L28 j h) (m50 _)
          have L30 : ∀ j, o29 = some j → j < gvN S48 10 := fun j h => Nat.lt_of_lt_of_le (L30 j h) (m50 _)
          have hm : ∀ b, gvN S b ≤ gvN S48 b := lh_le_trans hm m50
          have ok := lh_W_ok hW
          refine lv_icmp_eq (tgt := 940) hx hb dL_law_154 (by decide) (fun c51 => ?_) (fun c51 => ?_)
          · replace hf := dc_if_t c51 hf
            refine lv_iinc (v := v31 + (6 : Int32)) (lv' := [(3, .int (v31 + (6 : Int32))), (0, .ref b), (1, lh_r ad42 9 o27), (2, lh_r ad42 10 o29)]) hx hb dL_law_940 hl (k := 3) rfl (by first | rfl | decide) (by decide) (by first | rfl | simp [lh_cat_r, lh_cat_i, lh_cat_j]) (fun ls hl => ?_)
            refine lv_goto (tgt := 18) hx hb dL_law_943 (by decide) ?_
            refine W.widen (k := cl + 361) (n := sl + 1524) (by omega) (by omega) ?_
            exact ih S48 o27 o29 (v31 + (6 : Int32)) ad42 hf hm hE L28 L30 (cl + 361) (sl + 1524) (by omega) (by omega) _ _ hW hS _ (lv_sub hl [1, 2, 3, 0] (by first | rfl | simp [lv_pick]))
          · replace hf := dc_if_f c51 hf
            refine lv_iconst (v := 0) hx hb dL_law_157 (by decide) ?_
            exact absurd (dc_ret hf).1 (by decide)
        replace hf := dc_if_f c36 hf
        by_cases c52 : v35 = 1
        · refine lv_tableIn (tgt := 159) hx hb dL_law_33 (by rw [c52]; decide) (by rw [c52]; decide) (by rw [c52]; rfl) (by decide) ?_
          replace hf := dc_if_t c52 hf
          refine lh_aload_n hx hb dL_law_159 rfl (lv_at hl 1 rfl) ?_
          refine lv_aload_n hx hb dL_law_160 rfl (lv_at hl 0 rfl) ?_
          refine lv_iload_n hx hb dL_law_161 rfl (lv_at hl 3 rfl) ?_
          refine lv_iconst (v := 1) hx hb dL_law_162 (by decide) ?_
          refine lv_iadd hx hb dL_law_163 ?_
          obtain ⟨g53, hf⟩ := dc_gd_ok hf
          refine va_sld hx hb hX0 hbl hbA hS g53 dL_law_164 ?_
          refine lv_aload_n hx hb dL_law_165 rfl (lv_at hl 0 rfl) ?_
          refine lv_iload_n hx hb dL_law_166 rfl (lv_at hl 3 rfl) ?_
          refine lv_iconst (v := 2) hx hb dL_law_167 (by decide) ?_
          refine lv_iadd hx hb dL_law_168 ?_
          obtain ⟨g54, hf⟩ := dc_gd_ok hf
          refine va_sld hx hb hX0 hbl hbA hS g54 dL_law_169 ?_
          obtain ⟨x55, hx55, hf⟩ := dc_nn_ok hf
          obtain ⟨r56, S57, k58, hf⟩ := dc_bd_ok hf
          refine lh_call (S' := S57) (lh_rv ⟨hx, hb, hml, hown, hts⟩ hx55 (As := [.int (xs ((v31 + (1 : Int32))).toNatClampNeg), .int (xs ((v31 + (2 : Int32))).toNatClampNeg)]) (rest := []) (k := 9) (c_X9_bound l D cT n S25 ad26 A H.size (fun q9 h9 => hA q9 (Nat.le_trans hS.1 h9)) x55 (xs ((v31 + (1 : Int32))).toNatClampNeg) (xs ((v31 + (2 : Int32))).toNatClampNeg) r56 S57 k58 (lh_ls (L28 _ hx55))) (cwV 2 hts gL_law_X9_bound rfl rfl rfl (by decide +kernel) ⟨Nat.le_of_ble_eq_true rfl, Nat.le_of_ble_eq_true rfl⟩) hK hN hW (L28 _ hx55) rfl rfl rfl hl.1 rfl (by simp [lh_cat_r, lh_cat_i, lh_cat_j]) dL_law_170 ⟨by show cl + 0 ≤ 600000; omega, by show sl + 0 ≤ 7302250; omega⟩) hS (fun H locs hX hW hS => ?_)
          refine W.widen (k := cl) (n := sl) (by omega) (by omega) ?_
          show W _ _ _ _ _ _ _ _ _ _ _ _ _ _ _ (F0 m 173 ls [.int r56])
          have m59 : ∀ b, gvN S25 b ≤ gvN S57 b := hX.1
          have L28 : ∀ j, o27 = some j → j < gvN S57 9 := fun j h => Nat.lt_of_lt_of_le (L28 j h) (m59 _)
          have L30 : ∀ j, o29 = some j → j < gvN S57 10 := fun j h => Nat.lt_of_lt_of_le (L30 j h) (m59 _)
          have hm : ∀ b, gvN S b ≤ gvN S57 b := lh_le_trans hm m59
          have ok := lh_W_ok hW
          refine lh_aload_n hx hb dL_law_173 rfl (lv_at hl 2 rfl) ?_
          refine lv_aload_n hx hb dL_law_174 rfl (lv_at hl 0 rfl) ?_
          refine lv_iload_n hx hb dL_law_175 rfl (lv_at hl 3 rfl) ?_
          refine lv_iconst (v := 1) hx hb dL_law_176 (by decide) ?_
          refine lv_iadd hx hb dL_law_177 ?_
          obtain ⟨g60, hf⟩ := dc_gd_ok hf
          refine va_sld hx hb hX0 hbl hbA hS g60 dL_law_178 ?_
          refine lv_aload_n hx hb dL_law_179 rfl (lv_at hl 0 rfl) ?_
          refine lv_iload_n hx hb dL_law_180 rfl (lv_at hl 3 rfl) ?_
          refine lv_iconst (v := 2) hx hb dL_law_181 (by decide) ?_
          refine lv_iadd hx hb dL_law_182 ?_
          obtain ⟨g61, hf⟩ := dc_gd_ok hf
          refine va_sld hx hb hX0 hbl hbA hS g61 dL_law_183 ?_
          obtain ⟨x62, hx62, hf⟩ := dc_nn_ok hf
          obtain ⟨r63, S64, k65, hf⟩ := dc_bd_ok hf
          refine lh_call (S' := S64) (lh_rv ⟨hx, hb, hml, hown, hts⟩ hx62 (As := [.int (xs ((v31 + (1 : Int32))).toNatClampNeg), .int (xs ((v31 + (2 : Int32))).toNatClampNeg)]) (rest := [.int r56]) (k := 10) (c_X10_bound l D cT n S57 ad26 A H.size (fun q9 h9 => hA q9 (Nat.le_trans hS.1 h9)) x62 (xs ((v31 + (1 : Int32))).toNatClampNeg) (xs ((v31 + (2 : Int32))).toNatClampNeg) r63 S64 k65 (lh_ls (L30 _ hx62))) (cwV 2 hts gL_law_X10_bound rfl rfl rfl (by decide +kernel) ⟨Nat.le_of_ble_eq_true rfl, Nat.le_of_ble_eq_true rfl⟩) hK hN hW (L30 _ hx62) rfl rfl rfl hl.1 rfl (by simp [lh_cat_r, lh_cat_i, lh_cat_j]) dL_law_184 ⟨by show cl + 0 ≤ 600000; omega, by show sl + 0 ≤ 7302250; omega⟩) hS (fun H locs hX hW hS => ?_)
          refine W.widen (k := cl) (n := sl) (by omega) (by omega) ?_
          show W _ _ _ _ _ _ _ _ _ _ _ _ _ _ _ (F0 m 187 ls [.int r63, .int r56])
          have m66 : ∀ b, gvN S57 b ≤ gvN S64 b := hX.1
          have L28 : ∀ j, o27 = some j → j < gvN S64 9 := fun j h => Nat.lt_of_lt_of_le (L28 j h) (m66 _)
          have L30 : ∀ j, o29 = some j → j < gvN S64 10 := fun j h => Nat.lt_of_lt_of_le (L30 j h) (m66 _)
          have hm : ∀ b, gvN S b ≤ gvN S64 b := lh_le_trans hm m66
          have ok := lh_W_ok hW
          refine lv_icmp_eq (tgt := 940) hx hb dL_law_187 (by decide) (fun c67 => ?_) (fun c67 => ?_)
          · replace hf := dc_if_t c67 hf
            refine lv_iinc (v := v31 + (6 : Int32)) (lv' := [(3, .int (v31 + (6 : Int32))), (0, .ref b), (1, lh_r ad26 9 o27), (2, lh_r ad26 10 o29)]) hx hb dL_law_940 hl (k := 3) rfl (by first | rfl | decide) (by decide) (by first | rfl | simp [lh_cat_r, lh_cat_i, lh_cat_j]) (fun ls hl => ?_)
            refine lv_goto (tgt := 18) hx hb dL_law_943 (by decide) ?_
            refine W.widen (k := cl + 361) (n := sl + 1524) (by omega) (by omega) ?_
            exact ih S64 o27 o29 (v31 + (6 : Int32)) ad26 hf hm hE L28 L30 (cl + 361) (sl + 1524) (by omega) (by omega) _ _ hW hS _ (lv_sub hl [1, 2, 3, 0] (by first | rfl | simp [lv_pick]))
          · replace hf := dc_if_f c67 hf
            refine lv_iconst (v := 0) hx hb dL_law_190 (by decide) ?_
            exact absurd (dc_ret hf).1 (by decide)
        replace hf := dc_if_f c52 hf
        by_cases c68 : v35 = 2
        · refine lv_tableIn (tgt := 192) hx hb dL_law_33 (by rw [c68]; decide) (by rw [c68]; decide) (by rw [c68]; rfl) (by decide) ?_
          replace hf := dc_if_t c68 hf
          refine lh_aload_n hx hb dL_law_192 rfl (lv_at hl 1 rfl) ?_
          refine lv_aload_n hx hb dL_law_193 rfl (lv_at hl 0 rfl) ?_
          refine lv_iload_n hx hb dL_law_194 rfl (lv_at hl 3 rfl) ?_
          refine lv_iconst (v := 1) hx hb dL_law_195 (by decide) ?_
          refine lv_iadd hx hb dL_law_196 ?_
          obtain ⟨g69, hf⟩ := dc_gd_ok hf
          refine va_sld hx hb hX0 hbl hbA hS g69 dL_law_197 ?_
          refine lv_aload_n hx hb dL_law_198 rfl (lv_at hl 0 rfl) ?_
          refine lv_iload_n hx hb dL_law_199 rfl (lv_at hl 3 rfl) ?_
          refine lv_iconst (v := 2) hx hb dL_law_200 (by decide) ?_
          refine lv_iadd hx hb dL_law_201 ?_
          obtain ⟨g70, hf⟩ := dc_gd_ok hf
          refine va_sld hx hb hX0 hbl hbA hS g70 dL_law_202 ?_
          refine lv_aload_n hx hb dL_law_203 rfl (lv_at hl 0 rfl) ?_
          refine lv_iload_n hx hb dL_law_204 rfl (lv_at hl 3 rfl) ?_
          refine lv_iconst (v := 3) hx hb dL_law_205 (by decide) ?_
          refine lv_iadd hx hb dL_law_206 ?_
          obtain ⟨g71, hf⟩ := dc_gd_ok hf
          refine va_sld hx hb hX0 hbl hbA hS g71 dL_law_207 ?_
          refine lv_aload_n hx hb dL_law_208 rfl (lv_at hl 0 rfl) ?_
          refine lv_iload_n hx hb dL_law_209 rfl (lv_at hl 3 rfl) ?_
          refine lv_iconst (v := 4) hx hb dL_law_210 (by decide) ?_
          refine lv_iadd hx hb dL_law_211 ?_
          obtain ⟨g72, hf⟩ := dc_gd_ok hf
          refine va_sld hx hb hX0 hbl hbA hS g72 dL_law_212 ?_
          refine lv_aload_n hx hb dL_law_213 rfl (lv_at hl 0 rfl) ?_
          refine lv_iload_n hx hb dL_law_214 rfl (lv_at hl 3 rfl) ?_
          refine lv_iconst (v := 5) hx hb dL_law_215 (by decide) ?_
          refine lv_iadd hx hb dL_law_216 ?_
          obtain ⟨g73, hf⟩ := dc_gd_ok hf
          refine va_sld hx hb hX0 hbl hbA hS g73 dL_law_217 ?_
          refine lv_if_eq (tgt := 225) hx hb dL_law_218 (by decide) (fun c74 => ?_) (fun c74 => ?_)
          · replace hf := dc_if_t c74 hf
            refine lv_iconst (v := 0) hx hb dL_law_225 (by decide) ?_
            obtain ⟨x75, hx75, hf⟩ := dc_nn_ok hf
            obtain ⟨r76, S77, k78, hf⟩ := dc_bd_ok hf
            refine lh_callA (S' := S77) (lh_rv ⟨hx, hb, hml, hown, hts⟩ hx75 (As := [.int (xs ((v31 + (1 : Int32))).toNatClampNeg), .int (xs ((v31 + (2 : Int32))).toNatClampNeg), .int (xs ((v31 + (3 : Int32))).toNatClampNeg), .int (xs ((v31 + (4 : Int32))).toNatClampNeg), .int (0 : Int32)]) (rest := []) (k := 9) (c_X9_file l D cT n S25 ad26 A H.size (fun q9 h9 => hA q9 (Nat.le_trans hS.1 h9)) x75 (xs ((v31 + (1 : Int32))).toNatClampNeg) (xs ((v31 + (2 : Int32))).toNatClampNeg) (xs ((v31 + (3 : Int32))).toNatClampNeg) (xs ((v31 + (4 : Int32))).toNatClampNeg) (0 : Int32) r76 S77 k78 (lh_ls (L28 _ hx75))) (cwV 5 hts gL_law_X9_file rfl rfl rfl (by decide +kernel) ⟨Nat.le_of_ble_eq_true rfl, Nat.le_of_ble_eq_true rfl⟩) hK hN hW (L28 _ hx75) rfl rfl rfl hl.1 rfl (by simp [lh_cat_r, lh_cat_i, lh_cat_j]) dL_law_226 ⟨by show cl + 2 ≤ 600000; omega, by show sl + 11 ≤ 7302250; omega⟩) hS (fun ad79 H locs hE80 hX hW hS => ?_)
            refine W.widen (k := cl + 2) (n := sl + 11) (by omega) (by omega) ?_
            show W _ _ _ _ _ _ _ _ _ _ _ _ _ _ _ (F0 m 229 ls [.int r76])
            rw [lh_rE hE80 L28] at hl
            rw [lh_rE hE80 L30] at hl
            have hE : lh_E S ad ad79 := lh_E.trans hE hm hE80
            have m81 : ∀ b, gvN S25 b ≤ gvN S77 b := hX.1
            have L28 : ∀ j, o27 = some j → j < gvN S77 9 := fun j h => Nat.lt_of_lt_of_le (L28 j h) (m81 _)
            have L30 : ∀ j, o29 = some j → j < gvN S77 10 := fun j h => Nat.lt_of_lt_of_le (L30 j h) (m81 _)
            have hm : ∀ b, gvN S b ≤ gvN S77 b := lh_le_trans hm m81
            have ok := lh_W_ok hW
            refine lh_aload_n hx hb dL_law_229 rfl (lv_at hl 2 rfl) ?_
            refine lv_aload_n hx hb dL_law_230 rfl (lv_at hl 0 rfl) ?_
            refine lv_iload_n hx hb dL_law_231 rfl (lv_at hl 3 rfl) ?_
            refine lv_iconst (v := 1) hx hb dL_law_232 (by decide) ?_
            refine lv_iadd hx hb dL_law_233 ?_
            obtain ⟨g82, hf⟩ := dc_gd_ok hf
            refine va_sld hx hb hX0 hbl hbA hS g82 dL_law_234 ?_
            refine lv_aload_n hx hb dL_law_235 rfl (lv_at hl 0 rfl) ?_
            refine lv_iload_n hx hb dL_law_236 rfl (lv_at hl 3 rfl) ?_
            refine lv_iconst (v := 2) hx hb dL_law_237 (by decide) ?_
            refine lv_iadd hx hb dL_law_238 ?_
            obtain ⟨g83, hf⟩ := dc_gd_ok hf
            refine va_sld hx hb hX0 hbl hbA hS g83 dL_law_239 ?_
            refine lv_aload_n hx hb dL_law_240 rfl (lv_at hl 0 rfl) ?_
            refine lv_iload_n hx hb dL_law_241 rfl (lv_at hl 3 rfl) ?_
            refine lv_iconst (v := 3) hx hb dL_law_242 (by decide) ?_
            refine lv_iadd hx hb dL_law_243 ?_
            obtain ⟨g84, hf⟩ := dc_gd_ok hf
            refine va_sld hx hb hX0 hbl hbA hS g84 dL_law_244 ?_
            refine lv_aload_n hx hb dL_law_245 rfl (lv_at hl 0 rfl) ?_
            refine lv_iload_n hx hb dL_law_246 rfl (lv_at hl 3 rfl) ?_
            refine lv_iconst (v := 4) hx hb dL_law_247 (by decide) ?_
            refine lv_iadd hx hb dL_law_248 ?_
            obtain ⟨g85, hf⟩ := dc_gd_ok hf
            refine va_sld hx hb hX0 hbl hbA hS g85 dL_law_249 ?_
            refine lv_aload_n hx hb dL_law_250 rfl (lv_at hl 0 rfl) ?_
            refine lv_iload_n hx hb dL_law_251 rfl (lv_at hl 3 rfl) ?_
            refine lv_iconst (v := 5) hx hb dL_law_252 (by decide) ?_
            refine lv_iadd hx hb dL_law_253 ?_
            obtain ⟨g86, hf⟩ := dc_gd_ok hf
            refine va_sld hx hb hX0 hbl hbA hS g86 dL_law_254 ?_
            refine lv_if_eq (tgt := 262) hx hb dL_law_255 (by decide) (fun c87 => ?_) (fun c87 => ?_)
            · replace hf := dc_if_t c87 hf
              refine lv_iconst (v := 0) hx hb dL_law_262 (by decide) ?_
              obtain ⟨x88, hx88, hf⟩ := dc_nn_ok hf
              obtain ⟨r89, S90, k91, hf⟩ := dc_bd_ok hf
              refine lh_call (S' := S90) (lh_rv ⟨hx, hb, hml, hown, hts⟩ hx88 (As := [.int (xs ((v31 + (1 : Int32))).toNatClampNeg), .int (xs ((v31 + (2 : Int32))).toNatClampNeg), .int (xs ((v31 + (3 : Int32))).toNatClampNeg), .int (xs ((v31 + (4 : Int32))).toNatClampNeg), .int (0 : Int32)]) (rest := [.int r76]) (k := 10) (c_X10_file l D cT n S77 ad79 A H.size (fun q9 h9 => hA q9 (Nat.le_trans hS.1 h9)) x88 (xs ((v31 + (1 : Int32))).toNatClampNeg) (xs ((v31 + (2 : Int32))).toNatClampNeg) (xs ((v31 + (3 : Int32))).toNatClampNeg) (xs ((v31 + (4 : Int32))).toNatClampNeg) (0 : Int32) r89 S90 k91 (lh_ls (L30 _ hx88))) (cwV 5 hts gL_law_X10_file rfl rfl rfl (by decide +kernel) ⟨Nat.le_of_ble_eq_true rfl, Nat.le_of_ble_eq_true rfl⟩) hK hN hW (L30 _ hx88) rfl rfl rfl hl.1 rfl (by simp [lh_cat_r, lh_cat_i, lh_cat_j]) dL_law_263 ⟨by show cl + 2 + 0 ≤ 600000; omega, by show sl + 11 + 0 ≤ 7302250; omega⟩) hS (fun H locs hX hW hS => ?_)
              refine W.widen (k := cl + 2) (n := sl + 11) (by omega) (by omega) ?_
              show W _ _ _ _ _ _ _ _ _ _ _ _ _ _ _ (F0 m 266 ls [.int r89, .int r76])
              have m92 : ∀ b, gvN S77 b ≤ gvN S90 b := hX.1
              have L28 : ∀ j, o27 = some j → j < gvN S90 9 := fun j h => Nat.lt_of_lt_of_le (L28 j h) (m92 _)
              have L30 : ∀ j, o29 = some j → j < gvN S90 10 := fun j h => Nat.lt_of_lt_of_le (L30 j h) (m92 _)
              have hm : ∀ b, gvN S b ≤ gvN S90 b := lh_le_trans hm m92
              have ok := lh_W_ok hW
              refine lv_icmp_eq (tgt := 940) hx hb dL_law_266 (by decide) (fun c93 => ?_) (fun c93 => ?_)
              · replace hf := dc_if_t c93 hf
                refine lv_iinc (v := v31 + (6 : Int32)) (lv' := [(3, .int (v31 + (6 : Int32))), (0, .ref b), (1, lh_r ad79 9 o27), (2, lh_r ad79 10 o29)]) hx hb dL_law_940 hl (k := 3) rfl (by first | rfl | decide) (by decide) (by first | rfl | simp [lh_cat_r, lh_cat_i, lh_cat_j]) (fun ls hl => ?_)
                refine lv_goto (tgt := 18) hx hb dL_law_943 (by decide) ?_
                refine W.widen (k := cl + 361) (n := sl + 1524) (by omega) (by omega) ?_
                exact ih S90 o27 o29 (v31 + (6 : Int32)) ad79 hf hm hE L28 L30 (cl + 361) (sl + 1524) (by omega) (by omega) _ _ hW hS _ (lv_sub hl [1, 2, 3, 0] (by first | rfl | simp [lv_pick]))
              · replace hf := dc_if_f c93 hf
                refine lv_iconst (v := 0) hx hb dL_law_269 (by decide) ?_
                exact absurd (dc_ret hf).1 (by decide)
            · replace hf := dc_if_f c87 hf
              refine lv_iconst (v := 1) hx hb dL_law_258 (by decide) ?_
              refine lv_goto (tgt := 263) hx hb dL_law_259 (by decide) ?_
              obtain ⟨x94, hx94, hf⟩ := dc_nn_ok hf
              obtain ⟨r95, S96, k97, hf⟩ := dc_bd_ok hf
              refine lh_call (S' := S96) (lh_rv ⟨hx, hb, hml, hown, hts⟩ hx94 (As := [.int (xs ((v31 + (1 : Int32))).toNatClampNeg), .int (xs ((v31 + (2 : Int32))).toNatClampNeg), .int (xs ((v31 + (3 : Int32))).toNatClampNeg), .int (xs ((v31 + (4 : Int32))).toNatClampNeg), .int (1 : Int32)]) (rest := [.int r76]) (k := 10) (c_X10_file l D cT n S77 ad79 A H.size (fun q9 h9 => hA q9 (Nat.le_trans hS.1 h9)) x94 (xs ((v31 + (1 : Int32))).toNatClampNeg) (xs ((v31 + (2 : Int32))).toNatClampNeg) (xs ((v31 + (3 : Int32))).toNatClampNeg) (xs ((v31 + (4 : Int32))).toNatClampNeg) (1 : Int32) r95 S96 k97 (lh_ls (L30 _ hx94))) (cwV 5 hts gL_law_X10_file rfl rfl rfl (by decide +kernel) ⟨Nat.le_of_ble_eq_true rfl, Nat.le_of_ble_eq_true rfl⟩) hK hN hW (L30 _ hx94) rfl rfl rfl hl.1 rfl (by simp [lh_cat_r, lh_cat_i, lh_cat_j]) dL_law_263 ⟨by show cl + 2 + 0 ≤ 600000; omega, by show sl + 11 + 0 ≤ 7302250; omega⟩) hS (fun H locs hX hW hS => ?_)
              refine W.widen (k := cl + 2) (n := sl + 11) (by omega) (by omega) ?_
              show W _ _ _ _ _ _ _ _ _ _ _ _ _ _ _ (F0 m 266 ls [.int r95, .int r76])
              have m98 : ∀ b, gvN S77 b ≤ gvN S96 b := hX.1
              have L28 : ∀ j, o27 = some j → j < gvN S96 9 := fun j h => Nat.lt_of_lt_of_le (L28 j h) (m98 _)
              have L30 : ∀ j, o29 = some j → j < gvN S96 10 := fun j h => Nat.lt_of_lt_of_le (L30 j h) (m98 _)
              have hm : ∀ b, gvN S b ≤ gvN S96 b := lh_le_trans hm m98
              have ok := lh_W_ok hW
              refine lv_icmp_eq (tgt := 940) hx hb dL_law_266 (by decide) (fun c99 => ?_) (fun c99 => ?_)
              · replace hf := dc_if_t c99 hf
                refine lv_iinc (v := v31 + (6 : Int32)) (lv' := [(3, .int (v31 + (6 : Int32))), (0, .ref b), (1, lh_r ad79 9 o27), (2, lh_r ad79 10 o29)]) hx hb dL_law_940 hl (k := 3) rfl (by first | rfl | decide) (by decide) (by first | rfl | simp [lh_cat_r, lh_cat_i, lh_cat_j]) (fun ls hl => ?_)
                refine lv_goto (tgt := 18) hx hb dL_law_943 (by decide) ?_
                refine W.widen (k := cl + 361) (n := sl + 1524) (by omega) (by omega) ?_
                exact ih S96 o27 o29 (v31 + (6 : Int32)) ad79 hf hm hE L28 L30 (cl + 361) (sl + 1524) (by omega) (by omega) _ _ hW hS _ (lv_sub hl [1, 2, 3, 0] (by first | rfl | simp [lv_pick]))
              · replace hf := dc_if_f c99 hf
                refine lv_iconst (v := 0) hx hb dL_law_269 (by decide) ?_
                exact absurd (dc_ret hf).1 (by decide)
          · replace hf := dc_if_f c74 hf
            refine lv_iconst (v := 1) hx hb dL_law_221 (by decide) ?_
            refine lv_goto (tgt := 226) hx hb dL_law_222 (by decide) ?_
            obtain ⟨x100, hx100, hf⟩ := dc_nn_ok hf
            obtain ⟨r101, S102, k103, hf⟩ := dc_bd_ok hf
            refine lh_callA (S' := S102) (lh_rv ⟨hx, hb, hml, hown, hts⟩ hx100 (As := [.int (xs ((v31 + (1 : Int32))).toNatClampNeg), .int (xs ((v31 + (2 : Int32))).toNatClampNeg), .int (xs ((v31 + (3 : Int32))).toNatClampNeg), .int (xs ((v31 + (4 : Int32))).toNatClampNeg), .int (1 : Int32)]) (rest := []) (k := 9) (c_X9_file l D cT n S25 ad26 A H.size (fun q9 h9 => hA q9 (Nat.le_trans hS.1 h9)) x100 (xs ((v31 + (1 : Int32))).toNatClampNeg) (xs ((v31 + (2 : Int32))).toNatClampNeg) (xs ((v31 + (3 : Int32))).toNatClampNeg) (xs ((v31 + (4 : Int32))).toNatClampNeg) (1 : Int32) r101 S102 k103 (lh_ls (L28 _ hx100))) (cwV 5 hts gL_law_X9_file rfl rfl rfl (by decide +kernel) ⟨Nat.le_of_ble_eq_true rfl, Nat.le_of_ble_eq_true rfl⟩) hK hN hW (L28 _ hx100) rfl rfl rfl hl.1 rfl (by simp [lh_cat_r, lh_cat_i, lh_cat_j]) dL_law_226 ⟨by show cl + 2 ≤ 600000; omega, by show sl + 11 ≤ 7302250; omega⟩) hS (fun ad104 H locs hE105 hX hW hS => ?_)
            refine W.widen (k := cl + 2) (n := sl + 11) (by omega) (by omega) ?_
            show W _ _ _ _ _ _ _ _ _ _ _ _ _ _ _ (F0 m 229 ls [.int r101])
            rw [lh_rE hE105 L28] at hl
            rw [lh_rE hE105 L30] at hl
            have hE : lh_E S ad ad104 := lh_E.trans hE hm hE105
            have m106 : ∀ b, gvN S25 b ≤ gvN S102 b := hX.1
            have L28 : ∀ j, o27 = some j → j < gvN S102 9 := fun j h => Nat.lt_of_lt_of_le (L28 j h) (m106 _)
            have L30 : ∀ j, o29 = some j → j < gvN S102 10 := fun j h => Nat.lt_of_lt_of_le (L30 j h) (m106 _)
            have hm : ∀ b, gvN S b ≤ gvN S102 b := lh_le_trans hm m106
            have ok := lh_W_ok hW
            refine lh_aload_n hx hb dL_law_229 rfl (lv_at hl 2 rfl) ?_
            refine lv_aload_n hx hb dL_law_230 rfl (lv_at hl 0 rfl) ?_
            refine lv_iload_n hx hb dL_law_231 rfl (lv_at hl 3 rfl) ?_
            refine lv_iconst (v := 1) hx hb dL_law_232 (by decide) ?_
            refine lv_iadd hx hb dL_law_233 ?_
            obtain ⟨g107, hf⟩ := dc_gd_ok hf
            refine va_sld hx hb hX0 hbl hbA hS g107 dL_law_234 ?_
            refine lv_aload_n hx hb dL_law_235 rfl (lv_at hl 0 rfl) ?_
            refine lv_iload_n hx hb dL_law_236 rfl (lv_at hl 3 rfl) ?_
            refine lv_iconst (v := 2) hx hb dL_law_237 (by decide) ?_
            refine lv_iadd hx hb dL_law_238 ?_
            obtain ⟨g108, hf⟩ := dc_gd_ok hf
            refine va_sld hx hb hX0 hbl hbA hS g108 dL_law_239 ?_
            refine lv_aload_n hx hb dL_law_240 rfl (lv_at hl 0 rfl) ?_
            refine lv_iload_n hx hb dL_law_241 rfl (lv_at hl 3 rfl) ?_
            refine lv_iconst (v := 3) hx hb dL_law_242 (by decide) ?_
            refine lv_iadd hx hb dL_law_243 ?_
            obtain ⟨g109, hf⟩ := dc_gd_ok hf
            refine va_sld hx hb hX0 hbl hbA hS g109 dL_law_244 ?_
            refine lv_aload_n hx hb dL_law_245 rfl (lv_at hl 0 rfl) ?_
            refine lv_iload_n hx hb dL_law_246 rfl (lv_at hl 3 rfl) ?_
            refine lv_iconst (v := 4) hx hb dL_law_247 (by decide) ?_
            refine lv_iadd hx hb dL_law_248 ?_
            obtain ⟨g110, hf⟩ := dc_gd_ok hf
            refine va_sld hx hb hX0 hbl hbA hS g110 dL_law_249 ?_
            refine lv_aload_n hx hb dL_law_250 rfl (lv_at hl 0 rfl) ?_
            refine lv_iload_n hx hb dL_law_251 rfl (lv_at hl 3 rfl) ?_
            refine lv_iconst (v := 5) hx hb dL_law_252 (by decide) ?_
            refine lv_iadd hx hb dL_law_253 ?_
            obtain ⟨g111, hf⟩ := dc_gd_ok hf
            refine va_sld hx hb hX0 hbl hbA hS g111 dL_law_254 ?_
            refine lv_if_eq (tgt := 262) hx hb dL_law_255 (by decide) (fun c112 => ?_) (fun c112 => ?_)
            · replace hf := dc_if_t c112 hf
              refine lv_iconst (v := 0) hx hb dL_law_262 (by decide) ?_
              obtain ⟨x113, hx113, hf⟩ := dc_nn_ok hf
              obtain ⟨r114, S115, k116, hf⟩ := dc_bd_ok hf
              refine lh_call (S' := S115) (lh_rv ⟨hx, hb, hml, hown, hts⟩ hx113 (As := [.int (xs ((v31 + (1 : Int32))).toNatClampNeg), .int (xs ((v31 + (2 : Int32))).toNatClampNeg), .int (xs ((v31 + (3 : Int32))).toNatClampNeg), .int (xs ((v31 + (4 : Int32))).toNatClampNeg), .int (0 : Int32)]) (rest := [.int r101]) (k := 10) (c_X10_file l D cT n S102 ad104 A H.size (fun q9 h9 => hA q9 (Nat.le_trans hS.1 h9)) x113 (xs ((v31 + (1 : Int32))).toNatClampNeg) (xs ((v31 + (2 : Int32))).toNatClampNeg) (xs ((v31 + (3 : Int32))).toNatClampNeg) (xs ((v31 + (4 : Int32))).toNatClampNeg) (0 : Int32) r114 S115 k116 (lh_ls (L30 _ hx113))) (cwV 5 hts gL_law_X10_file rfl rfl rfl (by decide +kernel) ⟨Nat.le_of_ble_eq_true rfl, Nat.le_of_ble_eq_true rfl⟩) hK hN hW (L30 _ hx113) rfl rfl rfl hl.1 rfl (by simp [lh_cat_r, lh_cat_i, lh_cat_j]) dL_law_263 ⟨by show cl + 2 + 0 ≤ 600000; omega, by show sl + 11 + 0 ≤ 7302250; omega⟩) hS (fun H locs hX hW hS => ?_)
              refine W.widen (k := cl + 2) (n := sl + 11) (by omega) (by omega) ?_
              show W _ _ _ _ _ _ _ _ _ _ _ _ _ _ _ (F0 m 266 ls [.int r114, .int r101])
              have m117 : ∀ b, gvN S102 b ≤ gvN S115 b := hX.1
              have L28 : ∀ j, o27 = some j → j < gvN S115 9 := fun j h => Nat.lt_of_lt_of_le (L28 j h) (m117 _)
              have L30 : ∀ j, o29 = some j → j < gvN S115 10 := fun j h => Nat.lt_of_lt_of_le (L30 j h) (m117 _)
              have hm : ∀ b, gvN S b ≤ gvN S115 b := lh_le_trans hm m117
              have ok := lh_W_ok hW
              refine lv_icmp_eq (tgt := 940) hx hb dL_law_266 (by decide) (fun c118 => ?_) (fun c118 => ?_)
              · replace hf := dc_if_t c118 hf
                refine lv_iinc (v := v31 + (6 : Int32)) (lv' := [(3, .int (v31 + (6 : Int32))), (0, .ref b), (1, lh_r ad104 9 o27), (2, lh_r ad104 10 o29)]) hx hb dL_law_940 hl (k := 3) rfl (by first | rfl | decide) (by decide) (by first | rfl | simp [lh_cat_r, lh_cat_i, lh_cat_j]) (fun ls hl => ?_)
                refine lv_goto (tgt := 18) hx hb dL_law_943 (by decide) ?_
                refine W.widen (k := cl + 361) (n := sl + 1524) (by omega) (by omega) ?_
                exact ih S115 o27 o29 (v31 + (6 : Int32)) ad104 hf hm hE L28 L30 (cl + 361) (sl + 1524) (by omega) (by omega) _ _ hW hS _ (lv_sub hl [1, 2, 3, 0] (by first | rfl | simp [lv_pick]))
              · replace hf := dc_if_f c118 hf
                refine lv_iconst (v := 0) hx hb dL_law_269 (by decide) ?_
                exact absurd (dc_ret hf).1 (by decide)
            · replace hf := dc_if_f c112 hf
              refine lv_iconst (v := 1) hx hb dL_law_258 (by decide) ?_
              refine lv_goto (tgt := 263) hx hb dL_law_259 (by decide) ?_
              obtain ⟨x119, hx119, hf⟩ := dc_nn_ok hf
              obtain ⟨r120, S121, k122, hf⟩ := dc_bd_ok hf
              refine lh_call (S' := S121) (lh_rv ⟨hx, hb, hml, hown, hts⟩ hx119 (As := [.int (xs ((v31 + (1 : Int32))).toNatClampNeg), .int (xs ((v31 + (2 : Int32))).toNatClampNeg), .int (xs ((v31 + (3 : Int32))).toNatClampNeg), .int (xs ((v31 + (4 : Int32))).toNatClampNeg), .int (1 : Int32)]) (rest := [.int r101]) (k := 10) (c_X10_file l D cT n S102 ad104 A H.size (fun q9 h9 => hA q9 (Nat.le_trans hS.1 h9)) x119 (xs ((v31 + (1 : Int32))).toNatClampNeg) (xs ((v31 + (2 : Int32))).toNatClampNeg) (xs ((v31 + (3 : Int32))).toNatClampNeg) (xs ((v31 + (4 : Int32))).toNatClampNeg) (1 : Int32) r120 S121 k122 (lh_ls (L30 _ hx119))) (cwV 5 hts gL_law_X10_file rfl rfl rfl (by decide +kernel) ⟨Nat.le_of_ble_eq_true rfl, Nat.le_of_ble_eq_true rfl⟩) hK hN hW (L30 _ hx119) rfl rfl rfl hl.1 rfl (by simp [lh_cat_r, lh_cat_i, lh_cat_j]) dL_law_263 ⟨by show cl + 2 + 0 ≤ 600000; omega, by show sl + 11 + 0 ≤ 7302250; omega⟩) hS (fun H locs hX hW hS => ?_)
              refine W.widen (k := cl + 2) (n := sl + 11) (by omega) (by omega) ?_
              show W _ _ _ _ _ _ _ _ _ _ _ _ _ _ _ (F0 m 266 ls [.int r120, .int r101])
              have m123 : ∀ b, gvN S102 b ≤ gvN S121 b := hX.1
              have L28 : ∀ j, o27 = some j → j < gvN S121 9 := fun j h => Nat.lt_of_lt_of_le (L28 j h) (m123 _)
              have L30 : ∀ j, o29 = some j → j < gvN S121 10 := fun j h => Nat.lt_of_lt_of_le (L30 j h) (m123 _)
              have hm : ∀ b, gvN S b ≤ gvN S121 b := lh_le_trans hm m123
              have ok := lh_W_ok hW
              refine lv_icmp_eq (tgt := 940) hx hb dL_law_266 (by decide) (fun c124 => ?_) (fun c124 => ?_)
              · replace hf := dc_if_t c124 hf
                refine lv_iinc (v := v31 + (6 : Int32)) (lv' := [(3, .int (v31 + (6 : Int32))), (0, .ref b), (1, lh_r ad104 9 o27), (2, lh_r ad104 10 o29)]) hx hb dL_law_940 hl (k := 3) rfl (by first | rfl | decide) (by decide) (by first | rfl | simp [lh_cat_r, lh_cat_i, lh_cat_j]) (fun ls hl => ?_)
                refine lv_goto (tgt := 18) hx hb dL_law_943 (by decide) ?_
                refine W.widen (k := cl + 361) (n := sl + 1524) (by omega) (by omega) ?_
                exact ih S121 o27 o29 (v31 + (6 : Int32)) ad104 hf hm hE L28 L30 (cl + 361) (sl + 1524) (by omega) (by omega) _ _ hW hS _ (lv_sub hl [1, 2, 3, 0] (by first | rfl | simp [lv_pick]))
              · replace hf := dc_if_f c124 hf
                refine lv_iconst (v := 0) hx hb dL_law_269 (by decide) ?_
                exact absurd (dc_ret hf).1 (by decide)
        replace hf := dc_if_f c68 hf
        by_cases c125 : v35 = 3
        · refine lv_tableIn (tgt := 271) hx hb dL_law_33 (by rw [c125]; decide) (by rw [c125]; decide) (by rw [c125]; rfl) (by decide) ?_
          replace hf := dc_if_t c125 hf
          refine lh_aload_n hx hb dL_law_271 rfl (lv_at hl 1 rfl) ?_
          refine lv_aload_n hx hb dL_law_272 rfl (lv_at hl 0 rfl) ?_
          refine lv_iload_n hx hb dL_law_273 rfl (lv_at hl 3 rfl) ?_
          refine lv_iconst (v := 1) hx hb dL_law_274 (by decide) ?_
          refine lv_iadd hx hb dL_law_275 ?_
          obtain ⟨g126, hf⟩ := dc_gd_ok hf
          refine va_sld hx hb hX0 hbl hbA hS g126 dL_law_276 ?_
          refine lv_aload_n hx hb dL_law_277 rfl (lv_at hl 0 rfl) ?_
          refine lv_iload_n hx hb dL_law_278 rfl (lv_at hl 3 rfl) ?_
          refine lv_iconst (v := 2) hx hb dL_law_279 (by decide) ?_
          refine lv_iadd hx hb dL_law_280 ?_
          obtain ⟨g127, hf⟩ := dc_gd_ok hf
          refine va_sld hx hb hX0 hbl hbA hS g127 dL_law_281 ?_
          refine lv_aload_n hx hb dL_law_282 rfl (lv_at hl 0 rfl) ?_
          refine lv_iload_n hx hb dL_law_283 rfl (lv_at hl 3 rfl) ?_
          refine lv_iconst (v := 3) hx hb dL_law_284 (by decide) ?_
          refine lv_iadd hx hb dL_law_285 ?_
          obtain ⟨g128, hf⟩ := dc_gd_ok hf
          refine va_sld hx hb hX0 hbl hbA hS g128 dL_law_286 ?_
          refine lv_aload_n hx hb dL_law_287 rfl (lv_at hl 0 rfl) ?_
          refine lv_iload_n hx hb dL_law_288 rfl (lv_at hl 3 rfl) ?_
          refine lv_iconst (v := 4) hx hb dL_law_289 (by decide) ?_
          refine lv_iadd hx hb dL_law_290 ?_
          obtain ⟨g129, hf⟩ := dc_gd_ok hf
          refine va_sld hx hb hX0 hbl hbA hS g129 dL_law_291 ?_
          refine lv_aload_n hx hb dL_law_292 rfl (lv_at hl 0 rfl) ?_
          refine lv_iload_n hx hb dL_law_293 rfl (lv_at hl 3 rfl) ?_
          refine lv_iconst (v := 5) hx hb dL_law_294 (by decide) ?_
          refine lv_iadd hx hb dL_law_295 ?_
          obtain ⟨g130, hf⟩ := dc_gd_ok hf
          refine va_sld hx hb hX0 hbl hbA hS g130 dL_law_296 ?_
          obtain ⟨x131, hx131, hf⟩ := dc_nn_ok hf
          obtain ⟨r132, S133, k134, hf⟩ := dc_bd_ok hf
          refine lh_callA (S' := S133) (lh_rv ⟨hx, hb, hml, hown, hts⟩ hx131 (As := [.int (xs ((v31 + (1 : Int32))).toNatClampNeg), .int (xs ((v31 + (2 : Int32))).toNatClampNeg), .int (xs ((v31 + (3 : Int32))).toNatClampNeg), .int (xs ((v31 + (4 : Int32))).toNatClampNeg), .int (xs ((v31 + (5 : Int32))).toNatClampNeg)]) (rest := []) (k := 9) (c_X9_method l D cT n S25 ad26 A H.size (fun q9 h9 => hA q9 (Nat.le_trans hS.1 h9)) x131 (xs ((v31 + (1 : Int32))).toNatClampNeg) (xs ((v31 + (2 : Int32))).toNatClampNeg) (xs ((v31 + (3 : Int32))).toNatClampNeg) (xs ((v31 + (4 : Int32))).toNatClampNeg) (xs ((v31 + (5 : Int32))).toNatClampNeg) r132 S133 k134 (lh_ls (L28 _ hx131))) (cwV 5 hts gL_law_X9_method rfl rfl rfl (by decide +kernel) ⟨Nat.le_of_ble_eq_true rfl, Nat.le_of_ble_eq_true rfl⟩) hK hN hW (L28 _ hx131) rfl rfl rfl hl.1 rfl (by simp [lh_cat_r, lh_cat_i, lh_cat_j]) dL_law_297 ⟨by show cl + 1 ≤ 600000; omega, by show sl + 3 ≤ 7302250; omega⟩) hS (fun ad135 H locs hE136 hX hW hS => ?_)
          refine W.widen (k := cl + 1) (n := sl + 3) (by omega) (by omega) ?_
          show W _ _ _ _ _ _ _ _ _ _ _ _ _ _ _ (F0 m 300 ls [.int r132])
          rw [lh_rE hE136 L28] at hl
          rw [lh_rE hE136 L30] at hl
          have hE : lh_E S ad ad135 := lh_E.trans hE hm hE136
          have m137 : ∀ b, gvN S25 b ≤ gvN S133 b := hX.1
          have L28 : ∀ j, o27 = some j → j < gvN S133 9 := fun j h => Nat.lt_of_lt_of_le (L28 j h) (m137 _)
          have L30 : ∀ j, o29 = some j → j < gvN S133 10 := fun j h => Nat.lt_of_lt_of_le (L30 j h) (m137 _)
          have hm : ∀ b, gvN S b ≤ gvN S133 b := lh_le_trans hm m137
          have ok := lh_W_ok hW
          refine lh_aload_n hx hb dL_law_300 rfl (lv_at hl 2 rfl) ?_
          refine lv_aload_n hx hb dL_law_301 rfl (lv_at hl 0 rfl) ?_
          refine lv_iload_n hx hb dL_law_302 rfl (lv_at hl 3 rfl) ?_
          refine lv_iconst (v := 1) hx hb dL_law_303 (by decide) ?_
          refine lv_iadd hx hb dL_law_304 ?_
          obtain ⟨g138, hf⟩ := dc_gd_ok hf
          refine va_sld hx hb hX0 hbl hbA hS g138 dL_law_305 ?_
          refine lv_aload_n hx hb dL_law_306 rfl (lv_at hl 0 rfl) ?_
          refine lv_iload_n hx hb dL_law_307 rfl (lv_at hl 3 rfl) ?_
          refine lv_iconst (v := 2) hx hb dL_law_308 (by decide) ?_
          refine lv_iadd hx hb dL_law_309 ?_
          obtain ⟨g139, hf⟩ := dc_gd_ok hf
          refine va_sld hx hb hX0 hbl hbA hS g139 dL_law_310 ?_
          refine lv_aload_n hx hb dL_law_311 rfl (lv_at hl 0 rfl) ?_
          refine lv_iload_n hx hb dL_law_312 rfl (lv_at hl 3 rfl) ?_
          refine lv_iconst (v := 3) hx hb dL_law_313 (by decide) ?_
          refine lv_iadd hx hb dL_law_314 ?_
          obtain ⟨g140, hf⟩ := dc_gd_ok hf
          refine va_sld hx hb hX0 hbl hbA hS g140 dL_law_315 ?_
          refine lv_aload_n hx hb dL_law_316 rfl (lv_at hl 0 rfl) ?_
          refine lv_iload_n hx hb dL_law_317 rfl (lv_at hl 3 rfl) ?_
          refine lv_iconst (v := 4) hx hb dL_law_318 (by decide) ?_
          refine lv_iadd hx hb dL_law_319 ?_
          obtain ⟨g141, hf⟩ := dc_gd_ok hf
          refine va_sld hx hb hX0 hbl hbA hS g141 dL_law_320 ?_
          refine lv_aload_n hx hb dL_law_321 rfl (lv_at hl 0 rfl) ?_
          refine lv_iload_n hx hb dL_law_322 rfl (lv_at hl 3 rfl) ?_
          refine lv_iconst (v := 5) hx hb dL_law_323 (by decide) ?_
          refine lv_iadd hx hb dL_law_324 ?_
          obtain ⟨g142, hf⟩ := dc_gd_ok hf
          refine va_sld hx hb hX0 hbl hbA hS g142 dL_law_325 ?_
          obtain ⟨x143, hx143, hf⟩ := dc_nn_ok hf
          obtain ⟨r144, S145, k146, hf⟩ := dc_bd_ok hf
          refine lh_call (S' := S145) (lh_rv ⟨hx, hb, hml, hown, hts⟩ hx143 (As := [.int (xs ((v31 + (1 : Int32))).toNatClampNeg), .int (xs ((v31 + (2 : Int32))).toNatClampNeg), .int (xs ((v31 + (3 : Int32))).toNatClampNeg), .int (xs ((v31 + (4 : Int32))).toNatClampNeg), .int (xs ((v31 + (5 : Int32))).toNatClampNeg)]) (rest := [.int r132]) (k := 10) (c_X10_method l D cT n S133 ad135 A H.size (fun q9 h9 => hA q9 (Nat.le_trans hS.1 h9)) x143 (xs ((v31 + (1 : Int32))).toNatClampNeg) (xs ((v31 + (2 : Int32))).toNatClampNeg) (xs ((v31 + (3 : Int32))).toNatClampNeg) (xs ((v31 + (4 : Int32))).toNatClampNeg) (xs ((v31 + (5 : Int32))).toNatClampNeg) r144 S145 k146 (lh_ls (L30 _ hx143))) (cwV 5 hts gL_law_X10_method rfl rfl rfl (by decide +kernel) ⟨Nat.le_of_ble_eq_true rfl, Nat.le_of_ble_eq_true rfl⟩) hK hN hW (L30 _ hx143) rfl rfl rfl hl.1 rfl (by simp [lh_cat_r, lh_cat_i, lh_cat_j]) dL_law_326 ⟨by show cl + 1 + 0 ≤ 600000; omega, by show sl + 3 + 0 ≤ 7302250; omega⟩) hS (fun H locs hX hW hS => ?_)
          refine W.widen (k := cl + 1) (n := sl + 3) (by omega) (by omega) ?_
          show W _ _ _ _ _ _ _ _ _ _ _ _ _ _ _ (F0 m 329 ls [.int r144, .int r132])
          have m147 : ∀ b, gvN S133 b ≤ gvN S145 b := hX.1
          have L28 : ∀ j, o27 = some j → j < gvN S145 9 := fun j h => Nat.lt_of_lt_of_le (L28 j h) (m147 _)
          have L30 : ∀ j, o29 = some j → j < gvN S145 10 := fun j h => Nat.lt_of_lt_of_le (L30 j h) (m147 _)
          have hm : ∀ b, gvN S b ≤ gvN S145 b := lh_le_trans hm m147
          have ok := lh_W_ok hW
          refine lv_icmp_eq (tgt := 940) hx hb dL_law_329 (by decide) (fun c148 => ?_) (fun c148 => ?_)
          · replace hf := dc_if_t c148 hf
            refine lv_iinc (v := v31 + (6 : Int32)) (lv' := [(3, .int (v31 + (6 : Int32))), (0, .ref b), (1, lh_r ad135 9 o27), (2, lh_r ad135 10 o29)]) hx hb dL_law_940 hl (k := 3) rfl (by first | rfl | decide) (by decide) (by first | rfl | simp [lh_cat_r, lh_cat_i, lh_cat_j]) (fun ls hl => ?_)
            refine lv_goto (tgt := 18) hx hb dL_law_943 (by decide) ?_
            refine W.widen (k := cl + 361) (n := sl + 1524) (by omega) (by omega) ?_
            exact ih S145 o27 o29 (v31 + (6 : Int32)) ad135 hf hm hE L28 L30 (cl + 361) (sl + 1524) (by omega) (by omega) _ _ hW hS _ (lv_sub hl [1, 2, 3, 0] (by first | rfl | simp [lv_pick]))
          · replace hf := dc_if_f c148 hf
            refine lv_iconst (v := 0) hx hb dL_law_332 (by decide) ?_
            exact absurd (dc_ret hf).1 (by decide)
        replace hf := dc_if_f c125 hf
        by_cases c149 : v35 = 4
        · refine lv_tableIn (tgt := 334) hx hb dL_law_33 (by rw [c149]; decide) (by rw [c149]; decide) (by rw [c149]; rfl) (by decide) ?_
          replace hf := dc_if_t c149 hf
          refine lh_aload_n hx hb dL_law_334 rfl (lv_at hl 1 rfl) ?_
          refine lv_aload_n hx hb dL_law_335 rfl (lv_at hl 0 rfl) ?_
          refine lv_iload_n hx hb dL_law_336 rfl (lv_at hl 3 rfl) ?_
          refine lv_iconst (v := 1) hx hb dL_law_337 (by decide) ?_
          refine lv_iadd hx hb dL_law_338 ?_
          obtain ⟨g150, hf⟩ := dc_gd_ok hf
          refine va_sld hx hb hX0 hbl hbA hS g150 dL_law_339 ?_
          refine lv_aload_n hx hb dL_law_340 rfl (lv_at hl 0 rfl) ?_
          refine lv_iload_n hx hb dL_law_341 rfl (lv_at hl 3 rfl) ?_
          refine lv_iconst (v := 2) hx hb dL_law_342 (by decide) ?_
          refine lv_iadd hx hb dL_law_343 ?_
          obtain ⟨g151, hf⟩ := dc_gd_ok hf
          refine va_sld hx hb hX0 hbl hbA hS g151 dL_law_344 ?_
          obtain ⟨x152, hx152, hf⟩ := dc_nn_ok hf
          obtain ⟨r153, S154, k155, hf⟩ := dc_bd_ok hf
          refine lh_call (S' := S154) (lh_rv ⟨hx, hb, hml, hown, hts⟩ hx152 (As := [.int (xs ((v31 + (1 : Int32))).toNatClampNeg), .int (xs ((v31 + (2 : Int32))).toNatClampNeg)]) (rest := []) (k := 9) (c_X9_bear l D cT n S25 ad26 A H.size (fun q9 h9 => hA q9 (Nat.le_trans hS.1 h9)) x152 (xs ((v31 + (1 : Int32))).toNatClampNeg) (xs ((v31 + (2 : Int32))).toNatClampNeg) r153 S154 k155 (lh_ls (L28 _ hx152))) (cwV 2 hts gL_law_X9_bear rfl rfl rfl (by decide +kernel) ⟨Nat.le_of_ble_eq_true rfl, Nat.le_of_ble_eq_true rfl⟩) hK hN hW (L28 _ hx152) rfl rfl rfl hl.1 rfl (by simp [lh_cat_r, lh_cat_i, lh_cat_j]) dL_law_345 ⟨by show cl + 0 ≤ 600000; omega, by show sl + 0 ≤ 7302250; omega⟩) hS (fun H locs hX hW hS => ?_)
          refine W.widen (k := cl) (n := sl) (by omega) (by omega) ?_
          show W _ _ _ _ _ _ _ _ _ _ _ _ _ _ _ (F0 m 348 ls [.int r153])
          have m156 : ∀ b, gvN S25 b ≤ gvN S154 b := hX.1
          have L28 : ∀ j, o27 = some j → j < gvN S154 9 := fun j h => Nat.lt_of_lt_of_le (L28 j h) (m156 _)
          have L30 : ∀ j, o29 = some j → j < gvN S154 10 := fun j h => Nat.lt_of_lt_of_le (L30 j h) (m156 _)
          have hm : ∀ b, gvN S b ≤ gvN S154 b := lh_le_trans hm m156
          have ok := lh_W_ok hW
          refine lh_aload_n hx hb dL_law_348 rfl (lv_at hl 2 rfl) ?_
          refine lv_aload_n hx hb dL_law_349 rfl (lv_at hl 0 rfl) ?_
          refine lv_iload_n hx hb dL_law_350 rfl (lv_at hl 3 rfl) ?_
          refine lv_iconst (v := 1) hx hb dL_law_351 (by decide) ?_
          refine lv_iadd hx hb dL_law_352 ?_
          obtain ⟨g157, hf⟩ := dc_gd_ok hf
          refine va_sld hx hb hX0 hbl hbA hS g157 dL_law_353 ?_
          refine lv_aload_n hx hb dL_law_354 rfl (lv_at hl 0 rfl) ?_
          refine lv_iload_n hx hb dL_law_355 rfl (lv_at hl 3 rfl) ?_
          refine lv_iconst (v := 2) hx hb dL_law_356 (by decide) ?_
          refine lv_iadd hx hb dL_law_357 ?_
          obtain ⟨g158, hf⟩ := dc_gd_ok hf
          refine va_sld hx hb hX0 hbl hbA hS g158 dL_law_358 ?_
          obtain ⟨x159, hx159, hf⟩ := dc_nn_ok hf
          obtain ⟨r160, S161, k162, hf⟩ := dc_bd_ok hf
          refine lh_call (S' := S161) (lh_rv ⟨hx, hb, hml, hown, hts⟩ hx159 (As := [.int (xs ((v31 + (1 : Int32))).toNatClampNeg), .int (xs ((v31 + (2 : Int32))).toNatClampNeg)]) (rest := [.int r153]) (k := 10) (c_X10_bear l D cT n S154 ad26 A H.size (fun q9 h9 => hA q9 (Nat.le_trans hS.1 h9)) x159 (xs ((v31 + (1 : Int32))).toNatClampNeg) (xs ((v31 + (2 : Int32))).toNatClampNeg) r160 S161 k162 (lh_ls (L30 _ hx159))) (cwV 2 hts gL_law_X10_bear rfl rfl rfl (by decide +kernel) ⟨Nat.le_of_ble_eq_true rfl, Nat.le_of_ble_eq_true rfl⟩) hK hN hW (L30 _ hx159) rfl rfl rfl hl.1 rfl (by simp [lh_cat_r, lh_cat_i, lh_cat_j]) dL_law_359 ⟨by show cl + 0 ≤ 600000; omega, by show sl + 0 ≤ 7302250; omega⟩) hS (fun H locs hX hW hS => ?_)
          refine W.widen (k := cl) (n := sl) (by omega) (by omega) ?_
          show W _ _ _ _ _ _ _ _ _ _ _ _ _ _ _ (F0 m 362 ls [.int r160, .int r153])
          have m163 : ∀ b, gvN S154 b ≤ gvN S161 b := hX.1
          have L28 : ∀ j, o27 = some j → j < gvN S161 9 := fun j h => Nat.lt_of_lt_of_le (L28 j h) (m163 _)
          have L30 : ∀ j, o29 = some j → j < gvN S161 10 := fun j h => Nat.lt_of_lt_of_le (L30 j h) (m163 _)
          have hm : ∀ b, gvN S b ≤ gvN S161 b := lh_le_trans hm m163
          have ok := lh_W_ok hW
          refine lv_icmp_eq (tgt := 940) hx hb dL_law_362 (by decide) (fun c164 => ?_) (fun c164 => ?_)
          · replace hf := dc_if_t c164 hf
            refine lv_iinc (v := v31 + (6 : Int32)) (lv' := [(3, .int (v31 + (6 : Int32))), (0, .ref b), (1, lh_r ad26 9 o27), (2, lh_r ad26 10 o29)]) hx hb dL_law_940 hl (k := 3) rfl (by first | rfl | decide) (by decide) (by first | rfl | simp [lh_cat_r, lh_cat_i, lh_cat_j]) (fun ls hl => ?_)
            refine lv_goto (tgt := 18) hx hb dL_law_943 (by decide) ?_
            refine W.widen (k := cl + 361) (n := sl + 1524) (by omega) (by omega) ?_
            exact ih S161 o27 o29 (v31 + (6 : Int32)) ad26 hf hm hE L28 L30 (cl + 361) (sl + 1524) (by omega) (by omega) _ _ hW hS _ (lv_sub hl [1, 2, 3, 0] (by first | rfl | simp [lv_pick]))
          · replace hf := dc_if_f c164 hf
            refine lv_iconst (v := 0) hx hb dL_law_365 (by decide) ?_
            exact absurd (dc_ret hf).1 (by decide)
        replace hf := dc_if_f c149 hf
        by_cases c165 : v35 = 5
        · refine lv_tableIn (tgt := 367) hx hb dL_law_33 (by rw [c165]; decide) (by rw [c165]; decide) (by rw [c165]; rfl) (by decide) ?_
          replace hf := dc_if_t c165 hf
          refine lh_aload_n hx hb dL_law_367 rfl (lv_at hl 1 rfl) ?_
          refine lv_aload_n hx hb dL_law_368 rfl (lv_at hl 0 rfl) ?_
          refine lv_iload_n hx hb dL_law_369 rfl (lv_at hl 3 rfl) ?_
          refine lv_iconst (v := 1) hx hb dL_law_370 (by decide) ?_
          refine lv_iadd hx hb dL_law_371 ?_
          obtain ⟨g166, hf⟩ := dc_gd_ok hf
          refine va_sld hx hb hX0 hbl hbA hS g166 dL_law_372 ?_
          refine lv_aload_n hx hb dL_law_373 rfl (lv_at hl 0 rfl) ?_
          refine lv_iload_n hx hb dL_law_374 rfl (lv_at hl 3 rfl) ?_
          refine lv_iconst (v := 2) hx hb dL_law_375 (by decide) ?_
          refine lv_iadd hx hb dL_law_376 ?_
          obtain ⟨g167, hf⟩ := dc_gd_ok hf
          refine va_sld hx hb hX0 hbl hbA hS g167 dL_law_377 ?_
          obtain ⟨x168, hx168, hf⟩ := dc_nn_ok hf
          obtain ⟨r169, S170, k171, hf⟩ := dc_bd_ok hf
          obtain ⟨g172, hf⟩ := dc_gd_ok hf
          have g172 := Decidable.not_not.mp g172
          refine lh_callA (S' := S170) (lh_rv ⟨hx, hb, hml, hown, hts⟩ hx168 (As := [.int (xs ((v31 + (1 : Int32))).toNatClampNeg), .int (xs ((v31 + (2 : Int32))).toNatClampNeg)]) (rest := []) (k := 9) (c_X9_load l D cT n S25 ad26 A H.size (fun q9 h9 => hA q9 (Nat.le_trans hS.1 h9)) x168 (xs ((v31 + (1 : Int32))).toNatClampNeg) (xs ((v31 + (2 : Int32))).toNatClampNeg) r169 S170 k171 (lh_ls (L28 _ hx168)) 361 1524 g172.1 g172.2) (cwV 2 hts gL_law_X9_load rfl rfl rfl (by decide +kernel) ⟨Nat.le_of_ble_eq_true rfl, Nat.le_of_ble_eq_true rfl⟩) hK hN hW (L28 _ hx168) rfl rfl rfl hl.1 rfl (by simp [lh_cat_r, lh_cat_i, lh_cat_j]) dL_law_378 ⟨by show cl + 361 ≤ 600000; omega, by show sl + 1524 ≤ 7302250; omega⟩) hS (fun ad173 H locs hE174 hX hW hS => ?_)
          refine W.widen (k := cl + 361) (n := sl + 1524) (by omega) (by omega) ?_
          show W _ _ _ _ _ _ _ _ _ _ _ _ _ _ _ (F0 m 381 ls [.int r169])
          rw [lh_rE hE174 L28] at hl
          rw [lh_rE hE174 L30] at hl
          have hE : lh_E S ad ad173 := lh_E.trans hE hm hE174
          have m175 : ∀ b, gvN S25 b ≤ gvN S170 b := hX.1
          have L28 : ∀ j, o27 = some j → j < gvN S170 9 := fun j h => Nat.lt_of_lt_of_le (L28 j h) (m175 _)
          have L30 : ∀ j, o29 = some j → j < gvN S170 10 := fun j h => Nat.lt_of_lt_of_le (L30 j h) (m175 _)
          have hm : ∀ b, gvN S b ≤ gvN S170 b := lh_le_trans hm m175
          have ok := lh_W_ok hW
          refine lh_aload_n hx hb dL_law_381 rfl (lv_at hl 2 rfl) ?_
          refine lv_aload_n hx hb dL_law_382 rfl (lv_at hl 0 rfl) ?_
          refine lv_iload_n hx hb dL_law_383 rfl (lv_at hl 3 rfl) ?_
          refine lv_iconst (v := 1) hx hb dL_law_384 (by decide) ?_
          refine lv_iadd hx hb dL_law_385 ?_
          obtain ⟨g176, hf⟩ := dc_gd_ok hf
          refine va_sld hx hb hX0 hbl hbA hS g176 dL_law_386 ?_
          refine lv_aload_n hx hb dL_law_387 rfl (lv_at hl 0 rfl) ?_
          refine lv_iload_n hx hb dL_law_388 rfl (lv_at hl 3 rfl) ?_
          refine lv_iconst (v := 2) hx hb dL_law_389 (by decide) ?_
          refine lv_iadd hx hb dL_law_390 ?_
          obtain ⟨g177, hf⟩ := dc_gd_ok hf
          refine va_sld hx hb hX0 hbl hbA hS g177 dL_law_391 ?_
          obtain ⟨x178, hx178, hf⟩ := dc_nn_ok hf
          obtain ⟨r179, S180, k181, hf⟩ := dc_bd_ok hf
          refine lh_call (S' := S180) (lh_rv ⟨hx, hb, hml, hown, hts⟩ hx178 (As := [.int (xs ((v31 + (1 : Int32))).toNatClampNeg), .int (xs ((v31 + (2 : Int32))).toNatClampNeg)]) (rest := [.int r169]) (k := 10) (c_X10_load l D cT n S170 ad173 A H.size (fun q9 h9 => hA q9 (Nat.le_trans hS.1 h9)) x178 (xs ((v31 + (1 : Int32))).toNatClampNeg) (xs ((v31 + (2 : Int32))).toNatClampNeg) r179 S180 k181 (lh_ls (L30 _ hx178))) (cwV 2 hts gL_law_X10_load rfl rfl rfl (by decide +kernel) ⟨Nat.le_of_ble_eq_true rfl, Nat.le_of_ble_eq_true rfl⟩) hK hN hW (L30 _ hx178) rfl rfl rfl hl.1 rfl (by simp [lh_cat_r, lh_cat_i, lh_cat_j]) dL_law_392 ⟨by show cl + 361 + 0 ≤ 600000; omega, by show sl + 1524 + 0 ≤ 7302250; omega⟩) hS (fun H locs hX hW hS => ?_)
          refine W.widen (k := cl + 361) (n := sl + 1524) (by omega) (by omega) ?_
          show W _ _ _ _ _ _ _ _ _ _ _ _ _ _ _ (F0 m 395 ls [.int r179, .int r169])
          have m182 : ∀ b, gvN S170 b ≤ gvN S180 b := hX.1
          have L28 : ∀ j, o27 = some j → j < gvN S180 9 := fun j h => Nat.lt_of_lt_of_le (L28 j h) (m182 _)
          have L30 : ∀ j, o29 = some j → j < gvN S180 10 := fun j h => Nat.lt_of_lt_of_le (L30 j h) (m182 _)
          have hm : ∀ b, gvN S b ≤ gvN S180 b := lh_le_trans hm m182
          have ok := lh_W_ok hW
          refine lv_icmp_eq (tgt := 940) hx hb dL_law_395 (by decide) (fun c183 => ?_) (fun c183 => ?_)
          · replace hf := dc_if_t c183 hf
            refine lv_iinc (v := v31 + (6 : Int32)) (lv' := [(3, .int (v31 + (6 : Int32))), (0, .ref b), (1, lh_r ad173 9 o27), (2, lh_r ad173 10 o29)]) hx hb dL_law_940 hl (k := 3) rfl (by first | rfl | decide) (by decide) (by first | rfl | simp [lh_cat_r, lh_cat_i, lh_cat_j]) (fun ls hl => ?_)
            refine lv_goto (tgt := 18) hx hb dL_law_943 (by decide) ?_
            refine W.widen (k := cl + 361) (n := sl + 1524) (by omega) (by omega) ?_
            exact ih S180 o27 o29 (v31 + (6 : Int32)) ad173 hf hm hE L28 L30 (cl + 361) (sl + 1524) (by omega) (by omega) _ _ hW hS _ (lv_sub hl [1, 2, 3, 0] (by first | rfl | simp [lv_pick]))
          · replace hf := dc_if_f c183 hf
            refine lv_iconst (v := 0) hx hb dL_law_398 (by decide) ?_
            exact absurd (dc_ret hf).1 (by decide)
        replace hf := dc_if_f c165 hf
        by_cases c184 : v35 = 6
        · refine lv_tableIn (tgt := 400) hx hb dL_law_33 (by rw [c184]; decide) (by rw [c184]; decide) (by rw [c184]; rfl) (by decide) ?_
          replace hf := dc_if_t c184 hf
          refine lh_aload_n hx hb dL_law_400 rfl (lv_at hl 1 rfl) ?_
          refine lv_aload_n hx hb dL_law_401 rfl (lv_at hl 0 rfl) ?_
          refine lv_iload_n hx hb dL_law_402 rfl (lv_at hl 3 rfl) ?_
          refine lv_iconst (v := 1) hx hb dL_law_403 (by decide) ?_
          refine lv_iadd hx hb dL_law_404 ?_
          obtain ⟨g185, hf⟩ := dc_gd_ok hf
          refine va_sld hx hb hX0 hbl hbA hS g185 dL_law_405 ?_
          refine lv_aload_n hx hb dL_law_406 rfl (lv_at hl 0 rfl) ?_
          refine lv_iload_n hx hb dL_law_407 rfl (lv_at hl 3 rfl) ?_
          refine lv_iconst (v := 2) hx hb dL_law_408 (by decide) ?_
          refine lv_iadd hx hb dL_law_409 ?_
          obtain ⟨g186, hf⟩ := dc_gd_ok hf
          refine va_sld hx hb hX0 hbl hbA hS g186 dL_law_410 ?_
          obtain ⟨x187, hx187, hf⟩ := dc_nn_ok hf
          obtain ⟨r188, S189, k190, hf⟩ := dc_bd_ok hf
          obtain ⟨g191, hf⟩ := dc_gd_ok hf
          have g191 := Decidable.not_not.mp g191
          refine lh_callA (S' := S189) (lh_rv ⟨hx, hb, hml, hown, hts⟩ hx187 (As := [.int (xs ((v31 + (1 : Int32))).toNatClampNeg), .int (xs ((v31 + (2 : Int32))).toNatClampNeg)]) (rest := []) (k := 9) (c_X9_define l D cT n S25 ad26 A H.size (fun q9 h9 => hA q9 (Nat.le_trans hS.1 h9)) x187 (xs ((v31 + (1 : Int32))).toNatClampNeg) (xs ((v31 + (2 : Int32))).toNatClampNeg) r188 S189 k190 (lh_ls (L28 _ hx187)) 361 1524 g191.1 g191.2) (cwV 2 hts gL_law_X9_define rfl rfl rfl (by decide +kernel) ⟨Nat.le_of_ble_eq_true rfl, Nat.le_of_ble_eq_true rfl⟩) hK hN hW (L28 _ hx187) rfl rfl rfl hl.1 rfl (by simp [lh_cat_r, lh_cat_i, lh_cat_j]) dL_law_411 ⟨by show cl + 361 ≤ 600000; omega, by show sl + 1524 ≤ 7302250; omega⟩) hS (fun ad192 H locs hE193 hX hW hS => ?_)
          refine W.widen (k := cl + 361) (n := sl + 1524) (by omega) (by omega) ?_
          show W _ _ _ _ _ _ _ _ _ _ _ _ _ _ _ (F0 m 414 ls [.int r188])
          rw [lh_rE hE193 L28] at hl
          rw [lh_rE hE193 L30] at hl
          have hE : lh_E S ad ad192 := lh_E.trans hE hm hE193
          have m194 : ∀ b, gvN S25 b ≤ gvN S189 b := hX.1
          have L28 : ∀ j, o27 = some j → j < gvN S189 9 := fun j h => Nat.lt_of_lt_of_le (L28 j h) (m194 _)
          have L30 : ∀ j, o29 = some j → j < gvN S189 10 := fun j h => Nat.lt_of_lt_of_le (L30 j h) (m194 _)
          have hm : ∀ b, gvN S b ≤ gvN S189 b := lh_le_trans hm m194
          have ok := lh_W_ok hW
          refine lh_aload_n hx hb dL_law_414 rfl (lv_at hl 2 rfl) ?_
          refine lv_aload_n hx hb dL_law_415 rfl (lv_at hl 0 rfl) ?_
          refine lv_iload_n hx hb dL_law_416 rfl (lv_at hl 3 rfl) ?_
          refine lv_iconst (v := 1) hx hb dL_law_417 (by decide) ?_
          refine lv_iadd hx hb dL_law_418 ?_
          obtain ⟨g195, hf⟩ := dc_gd_ok hf
          refine va_sld hx hb hX0 hbl hbA hS g195 dL_law_419 ?_
          refine lv_aload_n hx hb dL_law_420 rfl (lv_at hl 0 rfl) ?_
          refine lv_iload_n hx hb dL_law_421 rfl (lv_at hl 3 rfl) ?_
          refine lv_iconst (v := 2) hx hb dL_law_422 (by decide) ?_
          refine lv_iadd hx hb dL_law_423 ?_
          obtain ⟨g196, hf⟩ := dc_gd_ok hf
          refine va_sld hx hb hX0 hbl hbA hS g196 dL_law_424 ?_
          obtain ⟨x197, hx197, hf⟩ := dc_nn_ok hf
          obtain ⟨r198, S199, k200, hf⟩ := dc_bd_ok hf
          refine lh_call (S' := S199) (lh_rv ⟨hx, hb, hml, hown, hts⟩ hx197 (As := [.int (xs ((v31 + (1 : Int32))).toNatClampNeg), .int (xs ((v31 + (2 : Int32))).toNatClampNeg)]) (rest := [.int r188]) (k := 10) (c_X10_define l D cT n S189 ad192 A H.size (fun q9 h9 => hA q9 (Nat.le_trans hS.1 h9)) x197 (xs ((v31 + (1 : Int32))).toNatClampNeg) (xs ((v31 + (2 : Int32))).toNatClampNeg) r198 S199 k200 (lh_ls (L30 _ hx197))) (cwV 2 hts gL_law_X10_define rfl rfl rfl (by decide +kernel) ⟨Nat.le_of_ble_eq_true rfl, Nat.le_of_ble_eq_true rfl⟩) hK hN hW (L30 _ hx197) rfl rfl rfl hl.1 rfl (by simp [lh_cat_r, lh_cat_i, lh_cat_j]) dL_law_425 ⟨by show cl + 361 + 0 ≤ 600000; omega, by show sl + 1524 + 0 ≤ 7302250; omega⟩) hS (fun H locs hX hW hS => ?_)
          refine W.widen (k := cl + 361) (n := sl + 1524) (by omega) (by omega) ?_
          show W _ _ _ _ _ _ _ _ _ _ _ _ _ _ _ (F0 m 428 ls [.int r198, .int r188])
          have m201 : ∀ b, gvN S189 b ≤ gvN S199 b := hX.1
          have L28 : ∀ j, o27 = some j → j < gvN S199 9 := fun j h => Nat.lt_of_lt_of_le (L28 j h) (m201 _)
          have L30 : ∀ j, o29 = some j → j < gvN S199 10 := fun j h => Nat.lt_of_lt_of_le (L30 j h) (m201 _)
          have hm : ∀ b, gvN S b ≤ gvN S199 b := lh_le_trans hm m201
          have ok := lh_W_ok hW
          refine lv_icmp_eq (tgt := 940) hx hb dL_law_428 (by decide) (fun c202 => ?_) (fun c202 => ?_)
          · replace hf := dc_if_t c202 hf
            refine lv_iinc (v := v31 + (6 : Int32)) (lv' := [(3, .int (v31 + (6 : Int32))), (0, .ref b), (1, lh_r ad192 9 o27), (2, lh_r ad192 10 o29)]) hx hb dL_law_940 hl (k := 3) rfl (by first | rfl | decide) (by decide) (by first | rfl | simp [lh_cat_r, lh_cat_i, lh_cat_j]) (fun ls hl => ?_)
            refine lv_goto (tgt := 18) hx hb dL_law_943 (by decide) ?_
            refine W.widen (k := cl + 361) (n := sl + 1524) (by omega) (by omega) ?_
            exact ih S199 o27 o29 (v31 + (6 : Int32)) ad192 hf hm hE L28 L30 (cl + 361) (sl + 1524) (by omega) (by omega) _ _ hW hS _ (lv_sub hl [1, 2, 3, 0] (by first | rfl | simp [lv_pick]))
          · replace hf := dc_if_f c202 hf
            refine lv_iconst (v := 0) hx hb dL_law_431 (by decide) ?_
            exact absurd (dc_ret hf).1 (by decide)
        replace hf := dc_if_f c184 hf
        by_cases c203 : v35 = 7
        · refine lv_tableIn (tgt := 433) hx hb dL_law_33 (by rw [c203]; decide) (by rw [c203]; decide) (by rw [c203]; rfl) (by decide) ?_
          replace hf := dc_if_t c203 hf
          refine lh_aload_n hx hb dL_law_433 rfl (lv_at hl 1 rfl) ?_
          refine lv_aload_n hx hb dL_law_434 rfl (lv_at hl 0 rfl) ?_
          refine lv_iload_n hx hb dL_law_435 rfl (lv_at hl 3 rfl) ?_
          refine lv_iconst (v := 1) hx hb dL_law_436 (by decide) ?_
          refine lv_iadd hx hb dL_law_437 ?_
          obtain ⟨g204, hf⟩ := dc_gd_ok hf
          refine va_sld hx hb hX0 hbl hbA hS g204 dL_law_438 ?_
          refine lv_aload_n hx hb dL_law_439 rfl (lv_at hl 0 rfl) ?_
          refine lv_iload_n hx hb dL_law_440 rfl (lv_at hl 3 rfl) ?_
          refine lv_iconst (v := 2) hx hb dL_law_441 (by decide) ?_
          refine lv_iadd hx hb dL_law_442 ?_
          obtain ⟨g205, hf⟩ := dc_gd_ok hf
          refine va_sld hx hb hX0 hbl hbA hS g205 dL_law_443 ?_
          obtain ⟨x206, hx206, hf⟩ := dc_nn_ok hf
          obtain ⟨r207, S208, k209, hf⟩ := dc_bd_ok hf
          refine lh_call (S' := S208) (lh_rv ⟨hx, hb, hml, hown, hts⟩ hx206 (As := [.int (xs ((v31 + (1 : Int32))).toNatClampNeg), .int (xs ((v31 + (2 : Int32))).toNatClampNeg)]) (rest := []) (k := 9) (c_X9_known l D cT n S25 ad26 A H.size (fun q9 h9 => hA q9 (Nat.le_trans hS.1 h9)) x206 (xs ((v31 + (1 : Int32))).toNatClampNeg) (xs ((v31 + (2 : Int32))).toNatClampNeg) r207 S208 k209 (lh_ls (L28 _ hx206))) (cwV 2 hts gL_law_X9_known rfl rfl rfl (by decide +kernel) ⟨Nat.le_of_ble_eq_true rfl, Nat.le_of_ble_eq_true rfl⟩) hK hN hW (L28 _ hx206) rfl rfl rfl hl.1 rfl (by simp [lh_cat_r, lh_cat_i, lh_cat_j]) dL_law_444 ⟨by show cl + 0 ≤ 600000; omega, by show sl + 0 ≤ 7302250; omega⟩) hS (fun H locs hX hW hS => ?_)
          refine W.widen (k := cl) (n := sl) (by omega) (by omega) ?_
          show W _ _ _ _ _ _ _ _ _ _ _ _ _ _ _ (F0 m 447 ls [.int r207])
          have m210 : ∀ b, gvN S25 b ≤ gvN S208 b := hX.1
          have L28 : ∀ j, o27 = some j → j < gvN S208 9 := fun j h => Nat.lt_of_lt_of_le (L28 j h) (m210 _)
          have L30 : ∀ j, o29 = some j → j < gvN S208 10 := fun j h => Nat.lt_of_lt_of_le (L30 j h) (m210 _)
          have hm : ∀ b, gvN S b ≤ gvN S208 b := lh_le_trans hm m210
          have ok := lh_W_ok hW
          refine lh_aload_n hx hb dL_law_447 rfl (lv_at hl 2 rfl) ?_
          refine lv_aload_n hx hb dL_law_448 rfl (lv_at hl 0 rfl) ?_
          refine lv_iload_n hx hb dL_law_449 rfl (lv_at hl 3 rfl) ?_
          refine lv_iconst (v := 1) hx hb dL_law_450 (by decide) ?_
          refine lv_iadd hx hb dL_law_451 ?_
          obtain ⟨g211, hf⟩ := dc_gd_ok hf
          refine va_sld hx hb hX0 hbl hbA hS g211 dL_law_452 ?_
          refine lv_aload_n hx hb dL_law_453 rfl (lv_at hl 0 rfl) ?_
          refine lv_iload_n hx hb dL_law_454 rfl (lv_at hl 3 rfl) ?_
          refine lv_iconst (v := 2) hx hb dL_law_455 (by decide) ?_
          refine lv_iadd hx hb dL_law_456 ?_
          obtain ⟨g212, hf⟩ := dc_gd_ok hf
          refine va_sld hx hb hX0 hbl hbA hS g212 dL_law_457 ?_
          obtain ⟨x213, hx213, hf⟩ := dc_nn_ok hf
          obtain ⟨r214, S215, k216, hf⟩ := dc_bd_ok hf
          refine lh_call (S' := S215) (lh_rv ⟨hx, hb, hml, hown, hts⟩ hx213 (As := [.int (xs ((v31 + (1 : Int32))).toNatClampNeg), .int (xs ((v31 + (2 : Int32))).toNatClampNeg)]) (rest := [.int r207]) (k := 10) (c_X10_known l D cT n S208 ad26 A H.size (fun q9 h9 => hA q9 (Nat.le_trans hS.1 h9)) x213 (xs ((v31 + (1 : Int32))).toNatClampNeg) (xs ((v31 + (2 : Int32))).toNatClampNeg) r214 S215 k216 (lh_ls (L30 _ hx213))) (cwV 2 hts gL_law_X10_known rfl rfl rfl (by decide +kernel) ⟨Nat.le_of_ble_eq_true rfl, Nat.le_of_ble_eq_true rfl⟩) hK hN hW (L30 _ hx213) rfl rfl rfl hl.1 rfl (by simp [lh_cat_r, lh_cat_i, lh_cat_j]) dL_law_458 ⟨by show cl + 0 ≤ 600000; omega, by show sl + 0 ≤ 7302250; omega⟩) hS (fun H locs hX hW hS => ?_)
          refine W.widen (k := cl) (n := sl) (by omega) (by omega) ?_
          show W _ _ _ _ _ _ _ _ _ _ _ _ _ _ _ (F0 m 461 ls [.int r214, .int r207])
          have m217 : ∀ b, gvN S208 b ≤ gvN S215 b := hX.1
          have L28 : ∀ j, o27 = some j → j < gvN S215 9 := fun j h => Nat.lt_of_lt_of_le (L28 j h) (m217 _)
          have L30 : ∀ j, o29 = some j → j < gvN S215 10 := fun j h => Nat.lt_of_lt_of_le (L30 j h) (m217 _)
          have hm : ∀ b, gvN S b ≤ gvN S215 b := lh_le_trans hm m217
          have ok := lh_W_ok hW
          refine lv_icmp_eq (tgt := 940) hx hb dL_law_461 (by decide) (fun c218 => ?_) (fun c218 => ?_)
          · replace hf := dc_if_t c218 hf
            refine lv_iinc (v := v31 + (6 : Int32)) (lv' := [(3, .int (v31 + (6 : Int32))), (0, .ref b), (1, lh_r ad26 9 o27), (2, lh_r ad26 10 o29)]) hx hb dL_law_940 hl (k := 3) rfl (by first | rfl | decide) (by decide) (by first | rfl | simp [lh_cat_r, lh_cat_i, lh_cat_j]) (fun ls hl => ?_)
            refine lv_goto (tgt := 18) hx hb dL_law_943 (by decide) ?_
            refine W.widen (k := cl + 361) (n := sl + 1524) (by omega) (by omega) ?_
            exact ih S215 o27 o29 (v31 + (6 : Int32)) ad26 hf hm hE L28 L30 (cl + 361) (sl + 1524) (by omega) (by omega) _ _ hW hS _ (lv_sub hl [1, 2, 3, 0] (by first | rfl | simp [lv_pick]))
          · replace hf := dc_if_f c218 hf
            refine lv_iconst (v := 0) hx hb dL_law_464 (by decide) ?_
            exact absurd (dc_ret hf).1 (by decide)
        replace hf := dc_if_f c203 hf
        by_cases c219 : v35 = 8
        · refine lv_tableIn (tgt := 466) hx hb dL_law_33 (by rw [c219]; decide) (by rw [c219]; decide) (by rw [c219]; rfl) (by decide) ?_
          replace hf := dc_if_t c219 hf
          refine lh_aload_n hx hb dL_law_466 rfl (lv_at hl 1 rfl) ?_
          refine lv_aload_n hx hb dL_law_467 rfl (lv_at hl 0 rfl) ?_
          refine lv_iload_n hx hb dL_law_468 rfl (lv_at hl 3 rfl) ?_
          refine lv_iconst (v := 1) hx hb dL_law_469 (by decide) ?_
          refine lv_iadd hx hb dL_law_470 ?_
          obtain ⟨g220, hf⟩ := dc_gd_ok hf
          refine va_sld hx hb hX0 hbl hbA hS g220 dL_law_471 ?_
          refine lv_aload_n hx hb dL_law_472 rfl (lv_at hl 0 rfl) ?_
          refine lv_iload_n hx hb dL_law_473 rfl (lv_at hl 3 rfl) ?_
          refine lv_iconst (v := 2) hx hb dL_law_474 (by decide) ?_
          refine lv_iadd hx hb dL_law_475 ?_
          obtain ⟨g221, hf⟩ := dc_gd_ok hf
          refine va_sld hx hb hX0 hbl hbA hS g221 dL_law_476 ?_
          refine lv_aload_n hx hb dL_law_477 rfl (lv_at hl 0 rfl) ?_
          refine lv_iload_n hx hb dL_law_478 rfl (lv_at hl 3 rfl) ?_
          refine lv_iconst (v := 3) hx hb dL_law_479 (by decide) ?_
          refine lv_iadd hx hb dL_law_480 ?_
          obtain ⟨g222, hf⟩ := dc_gd_ok hf
          refine va_sld hx hb hX0 hbl hbA hS g222 dL_law_481 ?_
          obtain ⟨x223, hx223, hf⟩ := dc_nn_ok hf
          obtain ⟨r224, S225, k226, hf⟩ := dc_bd_ok hf
          refine lh_call (S' := S225) (lh_rv ⟨hx, hb, hml, hown, hts⟩ hx223 (As := [.int (xs ((v31 + (1 : Int32))).toNatClampNeg), .int (xs ((v31 + (2 : Int32))).toNatClampNeg), .int (xs ((v31 + (3 : Int32))).toNatClampNeg)]) (rest := []) (k := 9) (c_X9_agree l D cT n S25 ad26 A H.size (fun q9 h9 => hA q9 (Nat.le_trans hS.1 h9)) x223 (xs ((v31 + (1 : Int32))).toNatClampNeg) (xs ((v31 + (2 : Int32))).toNatClampNeg) (xs ((v31 + (3 : Int32))).toNatClampNeg) r224 S225 k226 (lh_ls (L28 _ hx223))) (cwV 3 hts gL_law_X9_agree rfl rfl rfl (by decide +kernel) ⟨Nat.le_of_ble_eq_true rfl, Nat.le_of_ble_eq_true rfl⟩) hK hN hW (L28 _ hx223) rfl rfl rfl hl.1 rfl (by simp [lh_cat_r, lh_cat_i, lh_cat_j]) dL_law_482 ⟨by show cl + 0 ≤ 600000; omega, by show sl + 0 ≤ 7302250; omega⟩) hS (fun H locs hX hW hS => ?_)
          refine W.widen (k := cl) (n := sl) (by omega) (by omega) ?_
          show W _ _ _ _ _ _ _ _ _ _ _ _ _ _ _ (F0 m 485 ls [.int r224])
          have m227 : ∀ b, gvN S25 b ≤ gvN S225 b := hX.1
          have L28 : ∀ j, o27 = some j → j < gvN S225 9 := fun j h => Nat.lt_of_lt_of_le (L28 j h) (m227 _)
          have L30 : ∀ j, o29 = some j → j < gvN S225 10 := fun j h => Nat.lt_of_lt_of_le (L30 j h) (m227 _)
          have hm : ∀ b, gvN S b ≤ gvN S225 b := lh_le_trans hm m227
          have ok := lh_W_ok hW
          refine lh_aload_n hx hb dL_law_485 rfl (lv_at hl 2 rfl) ?_
          refine lv_aload_n hx hb dL_law_486 rfl (lv_at hl 0 rfl) ?_
          refine lv_iload_n hx hb dL_law_487 rfl (lv_at hl 3 rfl) ?_
          refine lv_iconst (v := 1) hx hb dL_law_488 (by decide) ?_
          refine lv_iadd hx hb dL_law_489 ?_
          obtain ⟨g228, hf⟩ := dc_gd_ok hf
          refine va_sld hx hb hX0 hbl hbA hS g228 dL_law_490 ?_
          refine lv_aload_n hx hb dL_law_491 rfl (lv_at hl 0 rfl) ?_
          refine lv_iload_n hx hb dL_law_492 rfl (lv_at hl 3 rfl) ?_
          refine lv_iconst (v := 2) hx hb dL_law_493 (by decide) ?_
          refine lv_iadd hx hb dL_law_494 ?_
          obtain ⟨g229, hf⟩ := dc_gd_ok hf
          refine va_sld hx hb hX0 hbl hbA hS g229 dL_law_495 ?_
          refine lv_aload_n hx hb dL_law_496 rfl (lv_at hl 0 rfl) ?_
          refine lv_iload_n hx hb dL_law_497 rfl (lv_at hl 3 rfl) ?_
          refine lv_iconst (v := 3) hx hb dL_law_498 (by decide) ?_
          refine lv_iadd hx hb dL_law_499 ?_
          obtain ⟨g230, hf⟩ := dc_gd_ok hf
          refine va_sld hx hb hX0 hbl hbA hS g230 dL_law_500 ?_
          obtain ⟨x231, hx231, hf⟩ := dc_nn_ok hf
          obtain ⟨r232, S233, k234, hf⟩ := dc_bd_ok hf
          refine lh_call (S' := S233) (lh_rv ⟨hx, hb, hml, hown, hts⟩ hx231 (As := [.int (xs ((v31 + (1 : Int32))).toNatClampNeg), .int (xs ((v31 + (2 : Int32))).toNatClampNeg), .int (xs ((v31 + (3 : Int32))).toNatClampNeg)]) (rest := [.int r224]) (k := 10) (c_X10_agree l D cT n S225 ad26 A H.size (fun q9 h9 => hA q9 (Nat.le_trans hS.1 h9)) x231 (xs ((v31 + (1 : Int32))).toNatClampNeg) (xs ((v31 + (2 : Int32))).toNatClampNeg) (xs ((v31 + (3 : Int32))).toNatClampNeg) r232 S233 k234 (lh_ls (L30 _ hx231))) (cwV 3 hts gL_law_X10_agree rfl rfl rfl (by decide +kernel) ⟨Nat.le_of_ble_eq_true rfl, Nat.le_of_ble_eq_true rfl⟩) hK hN hW (L30 _ hx231) rfl rfl rfl hl.1 rfl (by simp [lh_cat_r, lh_cat_i, lh_cat_j]) dL_law_501 ⟨by show cl + 0 ≤ 600000; omega, by show sl + 0 ≤ 7302250; omega⟩) hS (fun H locs hX hW hS => ?_)
          refine W.widen (k := cl) (n := sl) (by omega) (by omega) ?_
          show W _ _ _ _ _ _ _ _ _ _ _ _ _ _ _ (F0 m 504 ls [.int r232, .int r224])
          have m235 : ∀ b, gvN S225 b ≤ gvN S233 b := hX.1
          have L28 : ∀ j, o27 = some j → j < gvN S233 9 := fun j h => Nat.lt_of_lt_of_le (L28 j h) (m235 _)
          have L30 : ∀ j, o29 = some j → j < gvN S233 10 := fun j h => Nat.lt_of_lt_of_le (L30 j h) (m235 _)
          have hm : ∀ b, gvN S b ≤ gvN S233 b := lh_le_trans hm m235
          have ok := lh_W_ok hW
          refine lv_icmp_eq (tgt := 940) hx hb dL_law_504 (by decide) (fun c236 => ?_) (fun c236 => ?_)
          · replace hf := dc_if_t c236 hf
            refine lv_iinc (v := v31 + (6 : Int32)) (lv' := [(3, .int (v31 + (6 : Int32))), (0, .ref b), (1, lh_r ad26 9 o27), (2, lh_r ad26 10 o29)]) hx hb dL_law_940 hl (k := 3) rfl (by first | rfl | decide) (by decide) (by first | rfl | simp [lh_cat_r, lh_cat_i, lh_cat_j]) (fun ls hl => ?_)
            refine lv_goto (tgt := 18) hx hb dL_law_943 (by decide) ?_
            refine W.widen (k := cl + 361) (n := sl + 1524) (by omega) (by omega) ?_
            exact ih S233 o27 o29 (v31 + (6 : Int32)) ad26 hf hm hE L28 L30 (cl + 361) (sl + 1524) (by omega) (by omega) _ _ hW hS _ (lv_sub hl [1, 2, 3, 0] (by first | rfl | simp [lv_pick]))
          · replace hf := dc_if_f c236 hf
            refine lv_iconst (v := 0) hx hb dL_law_507 (by decide) ?_
            exact absurd (dc_ret hf).1 (by decide)
        replace hf := dc_if_f c219 hf
        by_cases c237 : v35 = 9
        · refine lv_tableIn (tgt := 509) hx hb dL_law_33 (by rw [c237]; decide) (by rw [c237]; decide) (by rw [c237]; rfl) (by decide) ?_
          replace hf := dc_if_t c237 hf
          refine lh_aload_n hx hb dL_law_509 rfl (lv_at hl 1 rfl) ?_
          refine lv_aload_n hx hb dL_law_510 rfl (lv_at hl 0 rfl) ?_
          refine lv_iload_n hx hb dL_law_511 rfl (lv_at hl 3 rfl) ?_
          refine lv_iconst (v := 1) hx hb dL_law_512 (by decide) ?_
          refine lv_iadd hx hb dL_law_513 ?_
          obtain ⟨g238, hf⟩ := dc_gd_ok hf
          refine va_sld hx hb hX0 hbl hbA hS g238 dL_law_514 ?_
          refine lv_aload_n hx hb dL_law_515 rfl (lv_at hl 0 rfl) ?_
          refine lv_iload_n hx hb dL_law_516 rfl (lv_at hl 3 rfl) ?_
          refine lv_iconst (v := 2) hx hb dL_law_517 (by decide) ?_
          refine lv_iadd hx hb dL_law_518 ?_
          obtain ⟨g239, hf⟩ := dc_gd_ok hf
          refine va_sld hx hb hX0 hbl hbA hS g239 dL_law_519 ?_
          obtain ⟨x240, hx240, hf⟩ := dc_nn_ok hf
          obtain ⟨r241, S242, k243, hf⟩ := dc_bd_ok hf
          refine lh_call (S' := S242) (lh_rv ⟨hx, hb, hml, hown, hts⟩ hx240 (As := [.int (xs ((v31 + (1 : Int32))).toNatClampNeg), .int (xs ((v31 + (2 : Int32))).toNatClampNeg)]) (rest := []) (k := 9) (c_X9_apart l D cT n S25 ad26 A H.size (fun q9 h9 => hA q9 (Nat.le_trans hS.1 h9)) x240 (xs ((v31 + (1 : Int32))).toNatClampNeg) (xs ((v31 + (2 : Int32))).toNatClampNeg) r241 S242 k243 (lh_ls (L28 _ hx240))) (cwV 2 hts gL_law_X9_apart rfl rfl rfl (by decide +kernel) ⟨Nat.le_of_ble_eq_true rfl, Nat.le_of_ble_eq_true rfl⟩) hK hN hW (L28 _ hx240) rfl rfl rfl hl.1 rfl (by simp [lh_cat_r, lh_cat_i, lh_cat_j]) dL_law_520 ⟨by show cl + 0 ≤ 600000; omega, by show sl + 0 ≤ 7302250; omega⟩) hS (fun H locs hX hW hS => ?_)
          refine W.widen (k := cl) (n := sl) (by omega) (by omega) ?_
          show W _ _ _ _ _ _ _ _ _ _ _ _ _ _ _ (F0 m 523 ls [.int r241])
          have m244 : ∀ b, gvN S25 b ≤ gvN S242 b := hX.1
          have L28 : ∀ j, o27 = some j → j < gvN S242 9 := fun j h => Nat.lt_of_lt_of_le (L28 j h) (m244 _)
          have L30 : ∀ j, o29 = some j → j < gvN S242 10 := fun j h => Nat.lt_of_lt_of_le (L30 j h) (m244 _)
          have hm : ∀ b, gvN S b ≤ gvN S242 b := lh_le_trans hm m244
          have ok := lh_W_ok hW
          refine lh_aload_n hx hb dL_law_523 rfl (lv_at hl 2 rfl) ?_
          refine lv_aload_n hx hb dL_law_524 rfl (lv_at hl 0 rfl) ?_
          refine lv_iload_n hx hb dL_law_525 rfl (lv_at hl 3 rfl) ?_
          refine lv_iconst (v := 1) hx hb dL_law_526 (by decide) ?_
          refine lv_iadd hx hb dL_law_527 ?_
          obtain ⟨g245, hf⟩ := dc_gd_ok hf
          refine va_sld hx hb hX0 hbl hbA hS g245 dL_law_528 ?_
          refine lv_aload_n hx hb dL_law_529 rfl (lv_at hl 0 rfl) ?_
          refine lv_iload_n hx hb dL_law_530 rfl (lv_at hl 3 rfl) ?_
          refine lv_iconst (v := 2) hx hb dL_law_531 (by decide) ?_
          refine lv_iadd hx hb dL_law_532 ?_
          obtain ⟨g246, hf⟩ := dc_gd_ok hf
          refine va_sld hx hb hX0 hbl hbA hS g246 dL_law_533 ?_
          obtain ⟨x247, hx247, hf⟩ := dc_nn_ok hf
          obtain ⟨r248, S249, k250, hf⟩ := dc_bd_ok hf
          refine lh_call (S' := S249) (lh_rv ⟨hx, hb, hml, hown, hts⟩ hx247 (As := [.int (xs ((v31 + (1 : Int32))).toNatClampNeg), .int (xs ((v31 + (2 : Int32))).toNatClampNeg)]) (rest := [.int r241]) (k := 10) (c_X10_apart l D cT n S242 ad26 A H.size (fun q9 h9 => hA q9 (Nat.le_trans hS.1 h9)) x247 (xs ((v31 + (1 : Int32))).toNatClampNeg) (xs ((v31 + (2 : Int32))).toNatClampNeg) r248 S249 k250 (lh_ls (L30 _ hx247))) (cwV 2 hts gL_law_X10_apart rfl rfl rfl (by decide +kernel) ⟨Nat.le_of_ble_eq_true rfl, Nat.le_of_ble_eq_true rfl⟩) hK hN hW (L30 _ hx247) rfl rfl rfl hl.1 rfl (by simp [lh_cat_r, lh_cat_i, lh_cat_j]) dL_law_534 ⟨by show cl + 0 ≤ 600000; omega, by show sl + 0 ≤ 7302250; omega⟩) hS (fun H locs hX hW hS => ?_)
          refine W.widen (k := cl) (n := sl) (by omega) (by omega) ?_
          show W _ _ _ _ _ _ _ _ _ _ _ _ _ _ _ (F0 m 537 ls [.int r248, .int r241])
          have m251 : ∀ b, gvN S242 b ≤ gvN S249 b := hX.1
          have L28 : ∀ j, o27 = some j → j < gvN S249 9 := fun j h => Nat.lt_of_lt_of_le (L28 j h) (m251 _)
          have L30 : ∀ j, o29 = some j → j < gvN S249 10 := fun j h => Nat.lt_of_lt_of_le (L30 j h) (m251 _)
          have hm : ∀ b, gvN S b ≤ gvN S249 b := lh_le_trans hm m251
          have ok := lh_W_ok hW
          refine lv_icmp_eq (tgt := 940) hx hb dL_law_537 (by decide) (fun c252 => ?_) (fun c252 => ?_)
          · replace hf := dc_if_t c252 hf
            refine lv_iinc (v := v31 + (6 : Int32)) (lv' := [(3, .int (v31 + (6 : Int32))), (0, .ref b), (1, lh_r ad26 9 o27), (2, lh_r ad26 10 o29)]) hx hb dL_law_940 hl (k := 3) rfl (by first | rfl | decide) (by decide) (by first | rfl | simp [lh_cat_r, lh_cat_i, lh_cat_j]) (fun ls hl => ?_)
            refine lv_goto (tgt := 18) hx hb dL_law_943 (by decide) ?_
            refine W.widen (k := cl + 361) (n := sl + 1524) (by omega) (by omega) ?_
            exact ih S249 o27 o29 (v31 + (6 : Int32)) ad26 hf hm hE L28 L30 (cl + 361) (sl + 1524) (by omega) (by omega) _ _ hW hS _ (lv_sub hl [1, 2, 3, 0] (by first | rfl | simp [lv_pick]))
          · replace hf := dc_if_f c252 hf
            refine lv_iconst (v := 0) hx hb dL_law_540 (by decide) ?_
            exact absurd (dc_ret hf).1 (by decide)
        replace hf := dc_if_f c237 hf
        by_cases c253 : v35 = 10
        · refine lv_tableIn (tgt := 542) hx hb dL_law_33 (by rw [c253]; decide) (by rw [c253]; decide) (by rw [c253]; rfl) (by decide) ?_
          replace hf := dc_if_t c253 hf
          refine lh_aload_n hx hb dL_law_542 rfl (lv_at hl 1 rfl) ?_
          refine lv_aload_n hx hb dL_law_543 rfl (lv_at hl 0 rfl) ?_
          refine lv_iload_n hx hb dL_law_544 rfl (lv_at hl 3 rfl) ?_
          refine lv_iconst (v := 1) hx hb dL_law_545 (by decide) ?_
          refine lv_iadd hx hb dL_law_546 ?_
          obtain ⟨g254, hf⟩ := dc_gd_ok hf
          refine va_sld hx hb hX0 hbl hbA hS g254 dL_law_547 ?_
          obtain ⟨x255, hx255, hf⟩ := dc_nn_ok hf
          obtain ⟨r256, S257, k258, hf⟩ := dc_bd_ok hf
          refine lh_call (S' := S257) (lh_rv ⟨hx, hb, hml, hown, hts⟩ hx255 (As := [.int (xs ((v31 + (1 : Int32))).toNatClampNeg)]) (rest := []) (k := 9) (c_X9_start l D cT n S25 ad26 A H.size (fun q9 h9 => hA q9 (Nat.le_trans hS.1 h9)) x255 (xs ((v31 + (1 : Int32))).toNatClampNeg) r256 S257 k258 (lh_ls (L28 _ hx255))) (cwV 1 hts gL_law_X9_start rfl rfl rfl (by decide +kernel) ⟨Nat.le_of_ble_eq_true rfl, Nat.le_of_ble_eq_true rfl⟩) hK hN hW (L28 _ hx255) rfl rfl rfl hl.1 rfl (by simp [lh_cat_r, lh_cat_i, lh_cat_j]) dL_law_548 ⟨by show cl + 0 ≤ 600000; omega, by show sl + 0 ≤ 7302250; omega⟩) hS (fun H locs hX hW hS => ?_)
          refine W.widen (k := cl) (n := sl) (by omega) (by omega) ?_
          show W _ _ _ _ _ _ _ _ _ _ _ _ _ _ _ (F0 m 551 ls [.int r256])
          have m259 : ∀ b, gvN S25 b ≤ gvN S257 b := hX.1
          have L28 : ∀ j, o27 = some j → j < gvN S257 9 := fun j h => Nat.lt_of_lt_of_le (L28 j h) (m259 _)
          have L30 : ∀ j, o29 = some j → j < gvN S257 10 := fun j h => Nat.lt_of_lt_of_le (L30 j h) (m259 _)
          have hm : ∀ b, gvN S b ≤ gvN S257 b := lh_le_trans hm m259
          have ok := lh_W_ok hW
          refine lh_aload_n hx hb dL_law_551 rfl (lv_at hl 2 rfl) ?_
          refine lv_aload_n hx hb dL_law_552 rfl (lv_at hl 0 rfl) ?_
          refine lv_iload_n hx hb dL_law_553 rfl (lv_at hl 3 rfl) ?_
          refine lv_iconst (v := 1) hx hb dL_law_554 (by decide) ?_
          refine lv_iadd hx hb dL_law_555 ?_
          obtain ⟨g260, hf⟩ := dc_gd_ok hf
          refine va_sld hx hb hX0 hbl hbA hS g260 dL_law_556 ?_
          obtain ⟨x261, hx261, hf⟩ := dc_nn_ok hf
          obtain ⟨r262, S263, k264, hf⟩ := dc_bd_ok hf
          refine lh_call (S' := S263) (lh_rv ⟨hx, hb, hml, hown, hts⟩ hx261 (As := [.int (xs ((v31 + (1 : Int32))).toNatClampNeg)]) (rest := [.int r256]) (k := 10) (c_X10_start l D cT n S257 ad26 A H.size (fun q9 h9 => hA q9 (Nat.le_trans hS.1 h9)) x261 (xs ((v31 + (1 : Int32))).toNatClampNeg) r262 S263 k264 (lh_ls (L30 _ hx261))) (cwV 1 hts gL_law_X10_start rfl rfl rfl (by decide +kernel) ⟨Nat.le_of_ble_eq_true rfl, Nat.le_of_ble_eq_true rfl⟩) hK hN hW (L30 _ hx261) rfl rfl rfl hl.1 rfl (by simp [lh_cat_r, lh_cat_i, lh_cat_j]) dL_law_557 ⟨by show cl + 0 ≤ 600000; omega, by show sl + 0 ≤ 7302250; omega⟩) hS (fun H locs hX hW hS => ?_)
          refine W.widen (k := cl) (n := sl) (by omega) (by omega) ?_
          show W _ _ _ _ _ _ _ _ _ _ _ _ _ _ _ (F0 m 560 ls [.int r262, .int r256])
          have m265 : ∀ b, gvN S257 b ≤ gvN S263 b := hX.1
          have L28 : ∀ j, o27 = some j → j < gvN S263 9 := fun j h => Nat.lt_of_lt_of_le (L28 j h) (m265 _)
          have L30 : ∀ j, o29 = some j → j < gvN S263 10 := fun j h => Nat.lt_of_lt_of_le (L30 j h) (m265 _)
          have hm : ∀ b, gvN S b ≤ gvN S263 b := lh_le_trans hm m265
          have ok := lh_W_ok hW
          refine lv_icmp_eq (tgt := 940) hx hb dL_law_560 (by decide) (fun c266 => ?_) (fun c266 => ?_)
          · replace hf := dc_if_t c266 hf
            refine lv_iinc (v := v31 + (6 : Int32)) (lv' := [(3, .int (v31 + (6 : Int32))), (0, .ref b), (1, lh_r ad26 9 o27), (2, lh_r ad26 10 o29)]) hx hb dL_law_940 hl (k := 3) rfl (by first | rfl | decide) (by decide) (by first | rfl | simp [lh_cat_r, lh_cat_i, lh_cat_j]) (fun ls hl => ?_)
            refine lv_goto (tgt := 18) hx hb dL_law_943 (by decide) ?_
            refine W.widen (k := cl + 361) (n := sl + 1524) (by omega) (by omega) ?_
            exact ih S263 o27 o29 (v31 + (6 : Int32)) ad26 hf hm hE L28 L30 (cl + 361) (sl + 1524) (by omega) (by omega) _ _ hW hS _ (lv_sub hl [1, 2, 3, 0] (by first | rfl | simp [lv_pick]))
          · replace hf := dc_if_f c266 hf
            refine lv_iconst (v := 0) hx hb dL_law_563 (by decide) ?_
            exact absurd (dc_ret hf).1 (by decide)
        replace hf := dc_if_f c253 hf
        by_cases c267 : v35 = 11
        · refine lv_tableIn (tgt := 565) hx hb dL_law_33 (by rw [c267]; decide) (by rw [c267]; decide) (by rw [c267]; rfl) (by decide) ?_
          replace hf := dc_if_t c267 hf
          refine lh_aload_n hx hb dL_law_565 rfl (lv_at hl 1 rfl) ?_
          refine lv_aload_n hx hb dL_law_566 rfl (lv_at hl 0 rfl) ?_
          refine lv_iload_n hx hb dL_law_567 rfl (lv_at hl 3 rfl) ?_
          refine lv_iconst (v := 1) hx hb dL_law_568 (by decide) ?_
          refine lv_iadd hx hb dL_law_569 ?_
          obtain ⟨g268, hf⟩ := dc_gd_ok hf
          refine va_sld hx hb hX0 hbl hbA hS g268 dL_law_570 ?_
          obtain ⟨x269, hx269, hf⟩ := dc_nn_ok hf
          obtain ⟨r270, S271, k272, hf⟩ := dc_bd_ok hf
          refine lh_call (S' := S271) (lh_rv ⟨hx, hb, hml, hown, hts⟩ hx269 (As := [.int (xs ((v31 + (1 : Int32))).toNatClampNeg)]) (rest := []) (k := 9) (c_X9_value l D cT n S25 ad26 A H.size (fun q9 h9 => hA q9 (Nat.le_trans hS.1 h9)) x269 (xs ((v31 + (1 : Int32))).toNatClampNeg) r270 S271 k272 (lh_ls (L28 _ hx269))) (cwV 1 hts gL_law_X9_value rfl rfl rfl (by decide +kernel) ⟨Nat.le_of_ble_eq_true rfl, Nat.le_of_ble_eq_true rfl⟩) hK hN hW (L28 _ hx269) rfl rfl rfl hl.1 rfl (by simp [lh_cat_r, lh_cat_i, lh_cat_j]) dL_law_571 ⟨by show cl + 0 ≤ 600000; omega, by show sl + 0 ≤ 7302250; omega⟩) hS (fun H locs hX hW hS => ?_)
          refine W.widen (k := cl) (n := sl) (by omega) (by omega) ?_
          show W _ _ _ _ _ _ _ _ _ _ _ _ _ _ _ (F0 m 574 ls [.long r270])
          have m273 : ∀ b, gvN S25 b ≤ gvN S271 b := hX.1
          have L28 : ∀ j, o27 = some j → j < gvN S271 9 := fun j h => Nat.lt_of_lt_of_le (L28 j h) (m273 _)
          have L30 : ∀ j, o29 = some j → j < gvN S271 10 := fun j h => Nat.lt_of_lt_of_le (L30 j h) (m273 _)
          have hm : ∀ b, gvN S b ≤ gvN S271 b := lh_le_trans hm m273
          have ok := lh_W_ok hW
          refine lh_aload_n hx hb dL_law_574 rfl (lv_at hl 2 rfl) ?_
          refine lv_aload_n hx hb dL_law_575 rfl (lv_at hl 0 rfl) ?_
          refine lv_iload_n hx hb dL_law_576 rfl (lv_at hl 3 rfl) ?_
          refine lv_iconst (v := 1) hx hb dL_law_577 (by decide) ?_
          refine lv_iadd hx hb dL_law_578 ?_
          obtain ⟨g274, hf⟩ := dc_gd_ok hf
          refine va_sld hx hb hX0 hbl hbA hS g274 dL_law_579 ?_
          obtain ⟨x275, hx275, hf⟩ := dc_nn_ok hf
          obtain ⟨r276, S277, k278, hf⟩ := dc_bd_ok hf
          refine lh_call (S' := S277) (lh_rv ⟨hx, hb, hml, hown, hts⟩ hx275 (As := [.int (xs ((v31 + (1 : Int32))).toNatClampNeg)]) (rest := [.long r270]) (k := 10) (c_X10_value l D cT n S271 ad26 A H.size (fun q9 h9 => hA q9 (Nat.le_trans hS.1 h9)) x275 (xs ((v31 + (1 : Int32))).toNatClampNeg) r276 S277 k278 (lh_ls (L30 _ hx275))) (cwV 1 hts gL_law_X10_value rfl rfl rfl (by decide +kernel) ⟨Nat.le_of_ble_eq_true rfl, Nat.le_of_ble_eq_true rfl⟩) hK hN hW (L30 _ hx275) rfl rfl rfl hl.1 rfl (by simp [lh_cat_r, lh_cat_i, lh_cat_j]) dL_law_580 ⟨by show cl + 0 ≤ 600000; omega, by show sl + 0 ≤ 7302250; omega⟩) hS (fun H locs hX hW hS => ?_)
          refine W.widen (k := cl) (n := sl) (by omega) (by omega) ?_
          show W _ _ _ _ _ _ _ _ _ _ _ _ _ _ _ (F0 m 583 ls [.long r276, .long r270])
          have m279 : ∀ b, gvN S271 b ≤ gvN S277 b := hX.1
          have L28 : ∀ j, o27 = some j → j < gvN S277 9 := fun j h => Nat.lt_of_lt_of_le (L28 j h) (m279 _)
          have L30 : ∀ j, o29 = some j → j < gvN S277 10 := fun j h => Nat.lt_of_lt_of_le (L30 j h) (m279 _)
          have hm : ∀ b, gvN S b ≤ gvN S277 b := lh_le_trans hm m279
          have ok := lh_W_ok hW
          refine W.lcmp hx hb dL_law_583 ?_
          refine lv_if_eq (tgt := 940) hx hb dL_law_584 (by decide) (fun c280 => ?_) (fun c280 => ?_)
          · replace hf := dc_if_t c280 hf
            refine lv_iinc (v := v31 + (6 : Int32)) (lv' := [(3, .int (v31 + (6 : Int32))), (0, .ref b), (1, lh_r ad26 9 o27), (2, lh_r ad26 10 o29)]) hx hb dL_law_940 hl (k := 3) rfl (by first | rfl | decide) (by decide) (by first | rfl | simp [lh_cat_r, lh_cat_i, lh_cat_j]) (fun ls hl => ?_)
            refine lv_goto (tgt := 18) hx hb dL_law_943 (by decide) ?_
            refine W.widen (k := cl + 361) (n := sl + 1524) (by omega) (by omega) ?_
            exact ih S277 o27 o29 (v31 + (6 : Int32)) ad26 hf hm hE L28 L30 (cl + 361) (sl + 1524) (by omega) (by omega) _ _ hW hS _ (lv_sub hl [1, 2, 3, 0] (by first | rfl | simp [lv_pick]))
          · replace hf := dc_if_f c280 hf
            refine lv_iconst (v := 0) hx hb dL_law_587 (by decide) ?_
            exact absurd (dc_ret hf).1 (by decide)
        replace hf := dc_if_f c267 hf
        by_cases c281 : v35 = 12
        · refine lv_tableIn (tgt := 589) hx hb dL_law_33 (by rw [c281]; decide) (by rw [c281]; decide) (by rw [c281]; rfl) (by decide) ?_
          replace hf := dc_if_t c281 hf
          refine lh_aload_n hx hb dL_law_589 rfl (lv_at hl 1 rfl) ?_
          refine lv_aload_n hx hb dL_law_590 rfl (lv_at hl 0 rfl) ?_
          refine lv_iload_n hx hb dL_law_591 rfl (lv_at hl 3 rfl) ?_
          refine lv_iconst (v := 1) hx hb dL_law_592 (by decide) ?_
          refine lv_iadd hx hb dL_law_593 ?_
          obtain ⟨g282, hf⟩ := dc_gd_ok hf
          refine va_sld hx hb hX0 hbl hbA hS g282 dL_law_594 ?_
          obtain ⟨x283, hx283, hf⟩ := dc_nn_ok hf
          obtain ⟨r284, S285, k286, hf⟩ := dc_bd_ok hf
          refine lh_call (S' := S285) (lh_rv ⟨hx, hb, hml, hown, hts⟩ hx283 (As := [.int (xs ((v31 + (1 : Int32))).toNatClampNeg)]) (rest := []) (k := 9) (c_X9_make l D cT n S25 ad26 A H.size (fun q9 h9 => hA q9 (Nat.le_trans hS.1 h9)) x283 (xs ((v31 + (1 : Int32))).toNatClampNeg) r284 S285 k286 (lh_ls (L28 _ hx283))) (cwV 1 hts gL_law_X9_make rfl rfl rfl (by decide +kernel) ⟨Nat.le_of_ble_eq_true rfl, Nat.le_of_ble_eq_true rfl⟩) hK hN hW (L28 _ hx283) rfl rfl rfl hl.1 rfl (by simp [lh_cat_r, lh_cat_i, lh_cat_j]) dL_law_595 ⟨by show cl + 0 ≤ 600000; omega, by show sl + 0 ≤ 7302250; omega⟩) hS (fun H locs hX hW hS => ?_)
          refine W.widen (k := cl) (n := sl) (by omega) (by omega) ?_
          show W _ _ _ _ _ _ _ _ _ _ _ _ _ _ _ (F0 m 598 ls [.int r284])
          have m287 : ∀ b, gvN S25 b ≤ gvN S285 b := hX.1
          have L28 : ∀ j, o27 = some j → j < gvN S285 9 := fun j h => Nat.lt_of_lt_of_le (L28 j h) (m287 _)
          have L30 : ∀ j, o29 = some j → j < gvN S285 10 := fun j h => Nat.lt_of_lt_of_le (L30 j h) (m287 _)
          have hm : ∀ b, gvN S b ≤ gvN S285 b := lh_le_trans hm m287
          have ok := lh_W_ok hW
          refine lh_aload_n hx hb dL_law_598 rfl (lv_at hl 2 rfl) ?_
          refine lv_aload_n hx hb dL_law_599 rfl (lv_at hl 0 rfl) ?_
          refine lv_iload_n hx hb dL_law_600 rfl (lv_at hl 3 rfl) ?_
          refine lv_iconst (v := 1) hx hb dL_law_601 (by decide) ?_
          refine lv_iadd hx hb dL_law_602 ?_
          obtain ⟨g288, hf⟩ := dc_gd_ok hf
          refine va_sld hx hb hX0 hbl hbA hS g288 dL_law_603 ?_
          obtain ⟨x289, hx289, hf⟩ := dc_nn_ok hf
          obtain ⟨r290, S291, k292, hf⟩ := dc_bd_ok hf
          refine lh_call (S' := S291) (lh_rv ⟨hx, hb, hml, hown, hts⟩ hx289 (As := [.int (xs ((v31 + (1 : Int32))).toNatClampNeg)]) (rest := [.int r284]) (k := 10) (c_X10_make l D cT n S285 ad26 A H.size (fun q9 h9 => hA q9 (Nat.le_trans hS.1 h9)) x289 (xs ((v31 + (1 : Int32))).toNatClampNeg) r290 S291 k292 (lh_ls (L30 _ hx289))) (cwV 1 hts gL_law_X10_make rfl rfl rfl (by decide +kernel) ⟨Nat.le_of_ble_eq_true rfl, Nat.le_of_ble_eq_true rfl⟩) hK hN hW (L30 _ hx289) rfl rfl rfl hl.1 rfl (by simp [lh_cat_r, lh_cat_i, lh_cat_j]) dL_law_604 ⟨by show cl + 0 ≤ 600000; omega, by show sl + 0 ≤ 7302250; omega⟩) hS (fun H locs hX hW hS => ?_)
          refine W.widen (k := cl) (n := sl) (by omega) (by omega) ?_
          show W _ _ _ _ _ _ _ _ _ _ _ _ _ _ _ (F0 m 607 ls [.int r290, .int r284])
          have m293 : ∀ b, gvN S285 b ≤ gvN S291 b := hX.1
          have L28 : ∀ j, o27 = some j → j < gvN S291 9 := fun j h => Nat.lt_of_lt_of_le (L28 j h) (m293 _)
          have L30 : ∀ j, o29 = some j → j < gvN S291 10 := fun j h => Nat.lt_of_lt_of_le (L30 j h) (m293 _)
          have hm : ∀ b, gvN S b ≤ gvN S291 b := lh_le_trans hm m293
          have ok := lh_W_ok hW
          refine lv_icmp_eq (tgt := 940) hx hb dL_law_607 (by decide) (fun c294 => ?_) (fun c294 => ?_)
          · replace hf := dc_if_t c294 hf
            refine lv_iinc (v := v31 + (6 : Int32)) (lv' := [(3, .int (v31 + (6 : Int32))), (0, .ref b), (1, lh_r ad26 9 o27), (2, lh_r ad26 10 o29)]) hx hb dL_law_940 hl (k := 3) rfl (by first | rfl | decide) (by decide) (by first | rfl | simp [lh_cat_r, lh_cat_i, lh_cat_j]) (fun ls hl => ?_)
            refine lv_goto (tgt := 18) hx hb dL_law_943 (by decide) ?_
            refine W.widen (k := cl + 361) (n := sl + 1524) (by omega) (by omega) ?_
            exact ih S291 o27 o29 (v31 + (6 : Int32)) ad26 hf hm hE L28 L30 (cl + 361) (sl + 1524) (by omega) (by omega) _ _ hW hS _ (lv_sub hl [1, 2, 3, 0] (by first | rfl | simp [lv_pick]))
          · replace hf := dc_if_f c294 hf
            refine lv_iconst (v := 0) hx hb dL_law_610 (by decide) ?_
            exact absurd (dc_ret hf).1 (by decide)
        replace hf := dc_if_f c281 hf
        by_cases c295 : v35 = 13
        · refine lv_tableIn (tgt := 612) hx hb dL_law_33 (by rw [c295]; decide) (by rw [c295]; decide) (by rw [c295]; rfl) (by decide) ?_
          replace hf := dc_if_t c295 hf
          refine lh_aload_n hx hb dL_law_612 rfl (lv_at hl 1 rfl) ?_
          refine lv_aload_n hx hb dL_law_613 rfl (lv_at hl 0 rfl) ?_
          refine lv_iload_n hx hb dL_law_614 rfl (lv_at hl 3 rfl) ?_
          refine lv_iconst (v := 1) hx hb dL_law_615 (by decide) ?_
          refine lv_iadd hx hb dL_law_616 ?_
          obtain ⟨g296, hf⟩ := dc_gd_ok hf
          refine va_sld hx hb hX0 hbl hbA hS g296 dL_law_617 ?_
          refine lv_aload_n hx hb dL_law_618 rfl (lv_at hl 0 rfl) ?_
          refine lv_iload_n hx hb dL_law_619 rfl (lv_at hl 3 rfl) ?_
          refine lv_iconst (v := 2) hx hb dL_law_620 (by decide) ?_
          refine lv_iadd hx hb dL_law_621 ?_
          obtain ⟨g297, hf⟩ := dc_gd_ok hf
          refine va_sld hx hb hX0 hbl hbA hS g297 dL_law_622 ?_
          obtain ⟨x298, hx298, hf⟩ := dc_nn_ok hf
          obtain ⟨r299, S300, k301, hf⟩ := dc_bd_ok hf
          refine lh_call (S' := S300) (lh_rv ⟨hx, hb, hml, hown, hts⟩ hx298 (As := [.int (xs ((v31 + (1 : Int32))).toNatClampNeg), .int (xs ((v31 + (2 : Int32))).toNatClampNeg)]) (rest := []) (k := 9) (c_X9_cast l D cT n S25 ad26 A H.size (fun q9 h9 => hA q9 (Nat.le_trans hS.1 h9)) x298 (xs ((v31 + (1 : Int32))).toNatClampNeg) (xs ((v31 + (2 : Int32))).toNatClampNeg) r299 S300 k301 (lh_ls (L28 _ hx298))) (cwV 2 hts gL_law_X9_cast rfl rfl rfl (by decide +kernel) ⟨Nat.le_of_ble_eq_true rfl, Nat.le_of_ble_eq_true rfl⟩) hK hN hW (L28 _ hx298) rfl rfl rfl hl.1 rfl (by simp [lh_cat_r, lh_cat_i, lh_cat_j]) dL_law_623 ⟨by show cl + 0 ≤ 600000; omega, by show sl + 0 ≤ 7302250; omega⟩) hS (fun H locs hX hW hS => ?_)
          refine W.widen (k := cl) (n := sl) (by omega) (by omega) ?_
          show W _ _ _ _ _ _ _ _ _ _ _ _ _ _ _ (F0 m 626 ls [.int r299])
          have m302 : ∀ b, gvN S25 b ≤ gvN S300 b := hX.1
          have L28 : ∀ j, o27 = some j → j < gvN S300 9 := fun j h => Nat.lt_of_lt_of_le (L28 j h) (m302 _)
          have L30 : ∀ j, o29 = some j → j < gvN S300 10 := fun j h => Nat.lt_of_lt_of_le (L30 j h) (m302 _)
          have hm : ∀ b, gvN S b ≤ gvN S300 b := lh_le_trans hm m302
          have ok := lh_W_ok hW
          refine lh_aload_n hx hb dL_law_626 rfl (lv_at hl 2 rfl) ?_
          refine lv_aload_n hx hb dL_law_627 rfl (lv_at hl 0 rfl) ?_
          refine lv_iload_n hx hb dL_law_628 rfl (lv_at hl 3 rfl) ?_
          refine lv_iconst (v := 1) hx hb dL_law_629 (by decide) ?_
          refine lv_iadd hx hb dL_law_630 ?_
          obtain ⟨g303, hf⟩ := dc_gd_ok hf
          refine va_sld hx hb hX0 hbl hbA hS g303 dL_law_631 ?_
          refine lv_aload_n hx hb dL_law_632 rfl (lv_at hl 0 rfl) ?_
          refine lv_iload_n hx hb dL_law_633 rfl (lv_at hl 3 rfl) ?_
          refine lv_iconst (v := 2) hx hb dL_law_634 (by decide) ?_
          refine lv_iadd hx hb dL_law_635 ?_
          obtain ⟨g304, hf⟩ := dc_gd_ok hf
          refine va_sld hx hb hX0 hbl hbA hS g304 dL_law_636 ?_
          obtain ⟨x305, hx305, hf⟩ := dc_nn_ok hf
          obtain ⟨r306, S307, k308, hf⟩ := dc_bd_ok hf
          refine lh_call (S' := S307) (lh_rv ⟨hx, hb, hml, hown, hts⟩ hx305 (As := [.int (xs ((v31 + (1 : Int32))).toNatClampNeg), .int (xs ((v31 + (2 : Int32))).toNatClampNeg)]) (rest := [.int r299]) (k := 10) (c_X10_cast l D cT n S300 ad26 A H.size (fun q9 h9 => hA q9 (Nat.le_trans hS.1 h9)) x305 (xs ((v31 + (1 : Int32))).toNatClampNeg) (xs ((v31 + (2 : Int32))).toNatClampNeg) r306 S307 k308 (lh_ls (L30 _ hx305))) (cwV 2 hts gL_law_X10_cast rfl rfl rfl (by decide +kernel) ⟨Nat.le_of_ble_eq_true rfl, Nat.le_of_ble_eq_true rfl⟩) hK hN hW (L30 _ hx305) rfl rfl rfl hl.1 rfl (by simp [lh_cat_r, lh_cat_i, lh_cat_j]) dL_law_637 ⟨by show cl + 0 ≤ 600000; omega, by show sl + 0 ≤ 7302250; omega⟩) hS (fun H locs hX hW hS => ?_)
          refine W.widen (k := cl) (n := sl) (by omega) (by omega) ?_
          show W _ _ _ _ _ _ _ _ _ _ _ _ _ _ _ (F0 m 640 ls [.int r306, .int r299])
          have m309 : ∀ b, gvN S300 b ≤ gvN S307 b := hX.1
          have L28 : ∀ j, o27 = some j → j < gvN S307 9 := fun j h => Nat.lt_of_lt_of_le (L28 j h) (m309 _)
          have L30 : ∀ j, o29 = some j → j < gvN S307 10 := fun j h => Nat.lt_of_lt_of_le (L30 j h) (m309 _)
          have hm : ∀ b, gvN S b ≤ gvN S307 b := lh_le_trans hm m309
          have ok := lh_W_ok hW
          refine lv_icmp_eq (tgt := 940) hx hb dL_law_640 (by decide) (fun c310 => ?_) (fun c310 => ?_)
          · replace hf := dc_if_t c310 hf
            refine lv_iinc (v := v31 + (6 : Int32)) (lv' := [(3, .int (v31 + (6 : Int32))), (0, .ref b), (1, lh_r ad26 9 o27), (2, lh_r ad26 10 o29)]) hx hb dL_law_940 hl (k := 3) rfl (by first | rfl | decide) (by decide) (by first | rfl | simp [lh_cat_r, lh_cat_i, lh_cat_j]) (fun ls hl => ?_)
            refine lv_goto (tgt := 18) hx hb dL_law_943 (by decide) ?_
            refine W.widen (k := cl + 361) (n := sl + 1524) (by omega) (by omega) ?_
            exact ih S307 o27 o29 (v31 + (6 : Int32)) ad26 hf hm hE L28 L30 (cl + 361) (sl + 1524) (by omega) (by omega) _ _ hW hS _ (lv_sub hl [1, 2, 3, 0] (by first | rfl | simp [lv_pick]))
          · replace hf := dc_if_f c310 hf
            refine lv_iconst (v := 0) hx hb dL_law_643 (by decide) ?_
            exact absurd (dc_ret hf).1 (by decide)
        replace hf := dc_if_f c295 hf
        by_cases c311 : v35 = 14
        · refine lv_tableIn (tgt := 645) hx hb dL_law_33 (by rw [c311]; decide) (by rw [c311]; decide) (by rw [c311]; rfl) (by decide) ?_
          replace hf := dc_if_t c311 hf
          refine lh_aload_n hx hb dL_law_645 rfl (lv_at hl 1 rfl) ?_
          refine lv_aload_n hx hb dL_law_646 rfl (lv_at hl 0 rfl) ?_
          refine lv_iload_n hx hb dL_law_647 rfl (lv_at hl 3 rfl) ?_
          refine lv_iconst (v := 1) hx hb dL_law_648 (by decide) ?_
          refine lv_iadd hx hb dL_law_649 ?_
          obtain ⟨g312, hf⟩ := dc_gd_ok hf
          refine va_sld hx hb hX0 hbl hbA hS g312 dL_law_650 ?_
          refine lv_aload_n hx hb dL_law_651 rfl (lv_at hl 0 rfl) ?_
          refine lv_iload_n hx hb dL_law_652 rfl (lv_at hl 3 rfl) ?_
          refine lv_iconst (v := 2) hx hb dL_law_653 (by decide) ?_
          refine lv_iadd hx hb dL_law_654 ?_
          obtain ⟨g313, hf⟩ := dc_gd_ok hf
          refine va_sld hx hb hX0 hbl hbA hS g313 dL_law_655 ?_
          obtain ⟨x314, hx314, hf⟩ := dc_nn_ok hf
          obtain ⟨r315, S316, k317, hf⟩ := dc_bd_ok hf
          refine lh_callA (S' := S316) (lh_rv ⟨hx, hb, hml, hown, hts⟩ hx314 (As := [.int (xs ((v31 + (1 : Int32))).toNatClampNeg), .int (xs ((v31 + (2 : Int32))).toNatClampNeg)]) (rest := []) (k := 9) (c_X9_row l D cT n S25 ad26 A H.size (fun q9 h9 => hA q9 (Nat.le_trans hS.1 h9)) x314 (xs ((v31 + (1 : Int32))).toNatClampNeg) (xs ((v31 + (2 : Int32))).toNatClampNeg) r315 S316 k317 (lh_ls (L28 _ hx314))) (cwV 2 hts gL_law_X9_row rfl rfl rfl (by decide +kernel) ⟨Nat.le_of_ble_eq_true rfl, Nat.le_of_ble_eq_true rfl⟩) hK hN hW (L28 _ hx314) rfl rfl rfl hl.1 rfl (by simp [lh_cat_r, lh_cat_i, lh_cat_j]) dL_law_656 ⟨by show cl + 2 ≤ 600000; omega, by show sl + 10 ≤ 7302250; omega⟩) hS (fun ad318 H locs hE319 hX hW hS => ?_)
          refine W.widen (k := cl + 2) (n := sl + 10) (by omega) (by omega) ?_
          show W _ _ _ _ _ _ _ _ _ _ _ _ _ _ _ (F0 m 659 ls [.int r315])
          rw [lh_rE hE319 L28] at hl
          rw [lh_rE hE319 L30] at hl
          have hE : lh_E S ad ad318 := lh_E.trans hE hm hE319
          have m320 : ∀ b, gvN S25 b ≤ gvN S316 b := hX.1
          have L28 : ∀ j, o27 = some j → j < gvN S316 9 := fun j h => Nat.lt_of_lt_of_le (L28 j h) (m320 _)
          have L30 : ∀ j, o29 = some j → j < gvN S316 10 := fun j h => Nat.lt_of_lt_of_le (L30 j h) (m320 _)
          have hm : ∀ b, gvN S b ≤ gvN S316 b := lh_le_trans hm m320
          have ok := lh_W_ok hW
          refine lh_aload_n hx hb dL_law_659 rfl (lv_at hl 2 rfl) ?_
          refine lv_aload_n hx hb dL_law_660 rfl (lv_at hl 0 rfl) ?_
          refine lv_iload_n hx hb dL_law_661 rfl (lv_at hl 3 rfl) ?_
          refine lv_iconst (v := 1) hx hb dL_law_662 (by decide) ?_
          refine lv_iadd hx hb dL_law_663 ?_
          obtain ⟨g321, hf⟩ := dc_gd_ok hf
          refine va_sld hx hb hX0 hbl hbA hS g321 dL_law_664 ?_
          refine lv_aload_n hx hb dL_law_665 rfl (lv_at hl 0 rfl) ?_
          refine lv_iload_n hx hb dL_law_666 rfl (lv_at hl 3 rfl) ?_
          refine lv_iconst (v := 2) hx hb dL_law_667 (by decide) ?_
          refine lv_iadd hx hb dL_law_668 ?_
          obtain ⟨g322, hf⟩ := dc_gd_ok hf
          refine va_sld hx hb hX0 hbl hbA hS g322 dL_law_669 ?_
          obtain ⟨x323, hx323, hf⟩ := dc_nn_ok hf
          obtain ⟨r324, S325, k326, hf⟩ := dc_bd_ok hf
          refine lh_call (S' := S325) (lh_rv ⟨hx, hb, hml, hown, hts⟩ hx323 (As := [.int (xs ((v31 + (1 : Int32))).toNatClampNeg), .int (xs ((v31 + (2 : Int32))).toNatClampNeg)]) (rest := [.int r315]) (k := 10) (c_X10_row l D cT n S316 ad318 A H.size (fun q9 h9 => hA q9 (Nat.le_trans hS.1 h9)) x323 (xs ((v31 + (1 : Int32))).toNatClampNeg) (xs ((v31 + (2 : Int32))).toNatClampNeg) r324 S325 k326 (lh_ls (L30 _ hx323))) (cwV 2 hts gL_law_X10_row rfl rfl rfl (by decide +kernel) ⟨Nat.le_of_ble_eq_true rfl, Nat.le_of_ble_eq_true rfl⟩) hK hN hW (L30 _ hx323) rfl rfl rfl hl.1 rfl (by simp [lh_cat_r, lh_cat_i, lh_cat_j]) dL_law_670 ⟨by show cl + 2 + 0 ≤ 600000; omega, by show sl + 10 + 0 ≤ 7302250; omega⟩) hS (fun H locs hX hW hS => ?_)
          refine W.widen (k := cl + 2) (n := sl + 10) (by omega) (by omega) ?_
          show W _ _ _ _ _ _ _ _ _ _ _ _ _ _ _ (F0 m 673 ls [.int r324, .int r315])
          have m327 : ∀ b, gvN S316 b ≤ gvN S325 b := hX.1
          have L28 : ∀ j, o27 = some j → j < gvN S325 9 := fun j h => Nat.lt_of_lt_of_le (L28 j h) (m327 _)
          have L30 : ∀ j, o29 = some j → j < gvN S325 10 := fun j h => Nat.lt_of_lt_of_le (L30 j h) (m327 _)
          have hm : ∀ b, gvN S b ≤ gvN S325 b := lh_le_trans hm m327
          have ok := lh_W_ok hW
          refine lv_icmp_eq (tgt := 940) hx hb dL_law_673 (by decide) (fun c328 => ?_) (fun c328 => ?_)
          · replace hf := dc_if_t c328 hf
            refine lv_iinc (v := v31 + (6 : Int32)) (lv' := [(3, .int (v31 + (6 : Int32))), (0, .ref b), (1, lh_r ad318 9 o27), (2, lh_r ad318 10 o29)]) hx hb dL_law_940 hl (k := 3) rfl (by first | rfl | decide) (by decide) (by first | rfl | simp [lh_cat_r, lh_cat_i, lh_cat_j]) (fun ls hl => ?_)
            refine lv_goto (tgt := 18) hx hb dL_law_943 (by decide) ?_
            refine W.widen (k := cl + 361) (n := sl + 1524) (by omega) (by omega) ?_
            exact ih S325 o27 o29 (v31 + (6 : Int32)) ad318 hf hm hE L28 L30 (cl + 361) (sl + 1524) (by omega) (by omega) _ _ hW hS _ (lv_sub hl [1, 2, 3, 0] (by first | rfl | simp [lv_pick]))
          · replace hf := dc_if_f c328 hf
            refine lv_iconst (v := 0) hx hb dL_law_676 (by decide) ?_
            exact absurd (dc_ret hf).1 (by decide)
        replace hf := dc_if_f c311 hf
        by_cases c329 : v35 = 15
        · refine lv_tableIn (tgt := 678) hx hb dL_law_33 (by rw [c329]; decide) (by rw [c329]; decide) (by rw [c329]; rfl) (by decide) ?_
          replace hf := dc_if_t c329 hf
          refine lh_aload_n hx hb dL_law_678 rfl (lv_at hl 1 rfl) ?_
          refine lv_aload_n hx hb dL_law_679 rfl (lv_at hl 0 rfl) ?_
          refine lv_iload_n hx hb dL_law_680 rfl (lv_at hl 3 rfl) ?_
          refine lv_iconst (v := 1) hx hb dL_law_681 (by decide) ?_
          refine lv_iadd hx hb dL_law_682 ?_
          obtain ⟨g330, hf⟩ := dc_gd_ok hf
          refine va_sld hx hb hX0 hbl hbA hS g330 dL_law_683 ?_
          refine lv_aload_n hx hb dL_law_684 rfl (lv_at hl 0 rfl) ?_
          refine lv_iload_n hx hb dL_law_685 rfl (lv_at hl 3 rfl) ?_
          refine lv_iconst (v := 2) hx hb dL_law_686 (by decide) ?_
          refine lv_iadd hx hb dL_law_687 ?_
          obtain ⟨g331, hf⟩ := dc_gd_ok hf
          refine va_sld hx hb hX0 hbl hbA hS g331 dL_law_688 ?_
          refine lv_aload_n hx hb dL_law_689 rfl (lv_at hl 0 rfl) ?_
          refine lv_iload_n hx hb dL_law_690 rfl (lv_at hl 3 rfl) ?_
          refine lv_iconst (v := 3) hx hb dL_law_691 (by decide) ?_
          refine lv_iadd hx hb dL_law_692 ?_
          obtain ⟨g332, hf⟩ := dc_gd_ok hf
          refine va_sld hx hb hX0 hbl hbA hS g332 dL_law_693 ?_
          obtain ⟨x333, hx333, hf⟩ := dc_nn_ok hf
          obtain ⟨r334, S335, k336, hf⟩ := dc_bd_ok hf
          refine lh_call (S' := S335) (lh_rv ⟨hx, hb, hml, hown, hts⟩ hx333 (As := [.int (xs ((v31 + (1 : Int32))).toNatClampNeg), .int (xs ((v31 + (2 : Int32))).toNatClampNeg), .int (xs ((v31 + (3 : Int32))).toNatClampNeg)]) (rest := []) (k := 9) (c_X9_put l D cT n S25 ad26 A H.size (fun q9 h9 => hA q9 (Nat.le_trans hS.1 h9)) x333 (xs ((v31 + (1 : Int32))).toNatClampNeg) (xs ((v31 + (2 : Int32))).toNatClampNeg) (xs ((v31 + (3 : Int32))).toNatClampNeg) r334 S335 k336 (lh_ls (L28 _ hx333))) (cwV 3 hts gL_law_X9_put rfl rfl rfl (by decide +kernel) ⟨Nat.le_of_ble_eq_true rfl, Nat.le_of_ble_eq_true rfl⟩) hK hN hW (L28 _ hx333) rfl rfl rfl hl.1 rfl (by simp [lh_cat_r, lh_cat_i, lh_cat_j]) dL_law_694 ⟨by show cl + 0 ≤ 600000; omega, by show sl + 0 ≤ 7302250; omega⟩) hS (fun H locs hX hW hS => ?_)
          refine W.widen (k := cl) (n := sl) (by omega) (by omega) ?_
          show W _ _ _ _ _ _ _ _ _ _ _ _ _ _ _ (F0 m 697 ls [.int r334])
          have m337 : ∀ b, gvN S25 b ≤ gvN S335 b := hX.1
          have L28 : ∀ j, o27 = some j → j < gvN S335 9 := fun j h => Nat.lt_of_lt_of_le (L28 j h) (m337 _)
          have L30 : ∀ j, o29 = some j → j < gvN S335 10 := fun j h => Nat.lt_of_lt_of_le (L30 j h) (m337 _)
          have hm : ∀ b, gvN S b ≤ gvN S335 b := lh_le_trans hm m337
          have ok := lh_W_ok hW
          refine lh_aload_n hx hb dL_law_697 rfl (lv_at hl 2 rfl) ?_
          refine lv_aload_n hx hb dL_law_698 rfl (lv_at hl 0 rfl) ?_
          refine lv_iload_n hx hb dL_law_699 rfl (lv_at hl 3 rfl) ?_
          refine lv_iconst (v := 1) hx hb dL_law_700 (by decide) ?_
          refine lv_iadd hx hb dL_law_701 ?_
          obtain ⟨g338, hf⟩ := dc_gd_ok hf
          refine va_sld hx hb hX0 hbl hbA hS g338 dL_law_702 ?_
          refine lv_aload_n hx hb dL_law_703 rfl (lv_at hl 0 rfl) ?_
          refine lv_iload_n hx hb dL_law_704 rfl (lv_at hl 3 rfl) ?_
          refine lv_iconst (v := 2) hx hb dL_law_705 (by decide) ?_
          refine lv_iadd hx hb dL_law_706 ?_
          obtain ⟨g339, hf⟩ := dc_gd_ok hf
          refine va_sld hx hb hX0 hbl hbA hS g339 dL_law_707 ?_
          refine lv_aload_n hx hb dL_law_708 rfl (lv_at hl 0 rfl) ?_
          refine lv_iload_n hx hb dL_law_709 rfl (lv_at hl 3 rfl) ?_
          refine lv_iconst (v := 3) hx hb dL_law_710 (by decide) ?_
          refine lv_iadd hx hb dL_law_711 ?_
          obtain ⟨g340, hf⟩ := dc_gd_ok hf
          refine va_sld hx hb hX0 hbl hbA hS g340 dL_law_712 ?_
          obtain ⟨x341, hx341, hf⟩ := dc_nn_ok hf
          obtain ⟨r342, S343, k344, hf⟩ := dc_bd_ok hf
          refine lh_call (S' := S343) (lh_rv ⟨hx, hb, hml, hown, hts⟩ hx341 (As := [.int (xs ((v31 + (1 : Int32))).toNatClampNeg), .int (xs ((v31 + (2 : Int32))).toNatClampNeg), .int (xs ((v31 + (3 : Int32))).toNatClampNeg)]) (rest := [.int r334]) (k := 10) (c_X10_put l D cT n S335 ad26 A H.size (fun q9 h9 => hA q9 (Nat.le_trans hS.1 h9)) x341 (xs ((v31 + (1 : Int32))).toNatClampNeg) (xs ((v31 + (2 : Int32))).toNatClampNeg) (xs ((v31 + (3 : Int32))).toNatClampNeg) r342 S343 k344 (lh_ls (L30 _ hx341))) (cwV 3 hts gL_law_X10_put rfl rfl rfl (by decide +kernel) ⟨Nat.le_of_ble_eq_true rfl, Nat.le_of_ble_eq_true rfl⟩) hK hN hW (L30 _ hx341) rfl rfl rfl hl.1 rfl (by simp [lh_cat_r, lh_cat_i, lh_cat_j]) dL_law_713 ⟨by show cl + 0 ≤ 600000; omega, by show sl + 0 ≤ 7302250; omega⟩) hS (fun H locs hX hW hS => ?_)
          refine W.widen (k := cl) (n := sl) (by omega) (by omega) ?_
          show W _ _ _ _ _ _ _ _ _ _ _ _ _ _ _ (F0 m 716 ls [.int r342, .int r334])
          have m345 : ∀ b, gvN S335 b ≤ gvN S343 b := hX.1
          have L28 : ∀ j, o27 = some j → j < gvN S343 9 := fun j h => Nat.lt_of_lt_of_le (L28 j h) (m345 _)
          have L30 : ∀ j, o29 = some j → j < gvN S343 10 := fun j h => Nat.lt_of_lt_of_le (L30 j h) (m345 _)
          have hm : ∀ b, gvN S b ≤ gvN S343 b := lh_le_trans hm m345
          have ok := lh_W_ok hW
          refine lv_icmp_eq (tgt := 940) hx hb dL_law_716 (by decide) (fun c346 => ?_) (fun c346 => ?_)
          · replace hf := dc_if_t c346 hf
            refine lv_iinc (v := v31 + (6 : Int32)) (lv' := [(3, .int (v31 + (6 : Int32))), (0, .ref b), (1, lh_r ad26 9 o27), (2, lh_r ad26 10 o29)]) hx hb dL_law_940 hl (k := 3) rfl (by first | rfl | decide) (by decide) (by first | rfl | simp [lh_cat_r, lh_cat_i, lh_cat_j]) (fun ls hl => ?_)
            refine lv_goto (tgt := 18) hx hb dL_law_943 (by decide) ?_
            refine W.widen (k := cl + 361) (n := sl + 1524) (by omega) (by omega) ?_
            exact ih S343 o27 o29 (v31 + (6 : Int32)) ad26 hf hm hE L28 L30 (cl + 361) (sl + 1524) (by omega) (by omega) _ _ hW hS _ (lv_sub hl [1, 2, 3, 0] (by first | rfl | simp [lv_pick]))
          · replace hf := dc_if_f c346 hf
            refine lv_iconst (v := 0) hx hb dL_law_719 (by decide) ?_
            exact absurd (dc_ret hf).1 (by decide)
        replace hf := dc_if_f c329 hf
        by_cases c347 : v35 = 16
        · refine lv_tableIn (tgt := 721) hx hb dL_law_33 (by rw [c347]; decide) (by rw [c347]; decide) (by rw [c347]; rfl) (by decide) ?_
          replace hf := dc_if_t c347 hf
          refine lh_aload_n hx hb dL_law_721 rfl (lv_at hl 1 rfl) ?_
          refine lv_aload_n hx hb dL_law_722 rfl (lv_at hl 0 rfl) ?_
          refine lv_iload_n hx hb dL_law_723 rfl (lv_at hl 3 rfl) ?_
          refine lv_iconst (v := 1) hx hb dL_law_724 (by decide) ?_
          refine lv_iadd hx hb dL_law_725 ?_
          obtain ⟨g348, hf⟩ := dc_gd_ok hf
          refine va_sld hx hb hX0 hbl hbA hS g348 dL_law_726 ?_
          refine lv_aload_n hx hb dL_law_727 rfl (lv_at hl 0 rfl) ?_
          refine lv_iload_n hx hb dL_law_728 rfl (lv_at hl 3 rfl) ?_
          refine lv_iconst (v := 2) hx hb dL_law_729 (by decide) ?_
          refine lv_iadd hx hb dL_law_730 ?_
          obtain ⟨g349, hf⟩ := dc_gd_ok hf
          refine va_sld hx hb hX0 hbl hbA hS g349 dL_law_731 ?_
          obtain ⟨x350, hx350, hf⟩ := dc_nn_ok hf
          obtain ⟨r351, S352, k353, hf⟩ := dc_bd_ok hf
          refine lh_call (S' := S352) (lh_rv ⟨hx, hb, hml, hown, hts⟩ hx350 (As := [.int (xs ((v31 + (1 : Int32))).toNatClampNeg), .int (xs ((v31 + (2 : Int32))).toNatClampNeg)]) (rest := []) (k := 9) (c_X9_get l D cT n S25 ad26 A H.size (fun q9 h9 => hA q9 (Nat.le_trans hS.1 h9)) x350 (xs ((v31 + (1 : Int32))).toNatClampNeg) (xs ((v31 + (2 : Int32))).toNatClampNeg) r351 S352 k353 (lh_ls (L28 _ hx350))) (cwV 2 hts gL_law_X9_get rfl rfl rfl (by decide +kernel) ⟨Nat.le_of_ble_eq_true rfl, Nat.le_of_ble_eq_true rfl⟩) hK hN hW (L28 _ hx350) rfl rfl rfl hl.1 rfl (by simp [lh_cat_r, lh_cat_i, lh_cat_j]) dL_law_732 ⟨by show cl + 0 ≤ 600000; omega, by show sl + 0 ≤ 7302250; omega⟩) hS (fun H locs hX hW hS => ?_)
          refine W.widen (k := cl) (n := sl) (by omega) (by omega) ?_
          show W _ _ _ _ _ _ _ _ _ _ _ _ _ _ _ (F0 m 735 ls [.int r351])
          have m354 : ∀ b, gvN S25 b ≤ gvN S352 b := hX.1
          have L28 : ∀ j, o27 = some j → j < gvN S352 9 := fun j h => Nat.lt_of_lt_of_le (L28 j h) (m354 _)
          have L30 : ∀ j, o29 = some j → j < gvN S352 10 := fun j h => Nat.lt_of_lt_of_le (L30 j h) (m354 _)
          have hm : ∀ b, gvN S b ≤ gvN S352 b := lh_le_trans hm m354
          have ok := lh_W_ok hW
          refine lh_aload_n hx hb dL_law_735 rfl (lv_at hl 2 rfl) ?_
          refine lv_aload_n hx hb dL_law_736 rfl (lv_at hl 0 rfl) ?_
          refine lv_iload_n hx hb dL_law_737 rfl (lv_at hl 3 rfl) ?_
          refine lv_iconst (v := 1) hx hb dL_law_738 (by decide) ?_
          refine lv_iadd hx hb dL_law_739 ?_
          obtain ⟨g355, hf⟩ := dc_gd_ok hf
          refine va_sld hx hb hX0 hbl hbA hS g355 dL_law_740 ?_
          refine lv_aload_n hx hb dL_law_741 rfl (lv_at hl 0 rfl) ?_
          refine lv_iload_n hx hb dL_law_742 rfl (lv_at hl 3 rfl) ?_
          refine lv_iconst (v := 2) hx hb dL_law_743 (by decide) ?_
          refine lv_iadd hx hb dL_law_744 ?_
          obtain ⟨g356, hf⟩ := dc_gd_ok hf
          refine va_sld hx hb hX0 hbl hbA hS g356 dL_law_745 ?_
          obtain ⟨x357, hx357, hf⟩ := dc_nn_ok hf
          obtain ⟨r358, S359, k360, hf⟩ := dc_bd_ok hf
          refine lh_call (S' := S359) (lh_rv ⟨hx, hb, hml, hown, hts⟩ hx357 (As := [.int (xs ((v31 + (1 : Int32))).toNatClampNeg), .int (xs ((v31 + (2 : Int32))).toNatClampNeg)]) (rest := [.int r351]) (k := 10) (c_X10_get l D cT n S352 ad26 A H.size (fun q9 h9 => hA q9 (Nat.le_trans hS.1 h9)) x357 (xs ((v31 + (1 : Int32))).toNatClampNeg) (xs ((v31 + (2 : Int32))).toNatClampNeg) r358 S359 k360 (lh_ls (L30 _ hx357))) (cwV 2 hts gL_law_X10_get rfl rfl rfl (by decide +kernel) ⟨Nat.le_of_ble_eq_true rfl, Nat.le_of_ble_eq_true rfl⟩) hK hN hW (L30 _ hx357) rfl rfl rfl hl.1 rfl (by simp [lh_cat_r, lh_cat_i, lh_cat_j]) dL_law_746 ⟨by show cl + 0 ≤ 600000; omega, by show sl + 0 ≤ 7302250; omega⟩) hS (fun H locs hX hW hS => ?_)
          refine W.widen (k := cl) (n := sl) (by omega) (by omega) ?_
          show W _ _ _ _ _ _ _ _ _ _ _ _ _ _ _ (F0 m 749 ls [.int r358, .int r351])
          have m361 : ∀ b, gvN S352 b ≤ gvN S359 b := hX.1
          have L28 : ∀ j, o27 = some j → j < gvN S359 9 := fun j h => Nat.lt_of_lt_of_le (L28 j h) (m361 _)
          have L30 : ∀ j, o29 = some j → j < gvN S359 10 := fun j h => Nat.lt_of_lt_of_le (L30 j h) (m361 _)
          have hm : ∀ b, gvN S b ≤ gvN S359 b := lh_le_trans hm m361
          have ok := lh_W_ok hW
          refine lv_icmp_eq (tgt := 940) hx hb dL_law_749 (by decide) (fun c362 => ?_) (fun c362 => ?_)
          · replace hf := dc_if_t c362 hf
            refine lv_iinc (v := v31 + (6 : Int32)) (lv' := [(3, .int (v31 + (6 : Int32))), (0, .ref b), (1, lh_r ad26 9 o27), (2, lh_r ad26 10 o29)]) hx hb dL_law_940 hl (k := 3) rfl (by first | rfl | decide) (by decide) (by first | rfl | simp [lh_cat_r, lh_cat_i, lh_cat_j]) (fun ls hl => ?_)
            refine lv_goto (tgt := 18) hx hb dL_law_943 (by decide) ?_
            refine W.widen (k := cl + 361) (n := sl + 1524) (by omega) (by omega) ?_
            exact ih S359 o27 o29 (v31 + (6 : Int32)) ad26 hf hm hE L28 L30 (cl + 361) (sl + 1524) (by omega) (by omega) _ _ hW hS _ (lv_sub hl [1, 2, 3, 0] (by first | rfl | simp [lv_pick]))
          · replace hf := dc_if_f c362 hf
            refine lv_iconst (v := 0) hx hb dL_law_752 (by decide) ?_
            exact absurd (dc_ret hf).1 (by decide)
        replace hf := dc_if_f c347 hf
        by_cases c363 : v35 = 17
        · refine lv_tableIn (tgt := 754) hx hb dL_law_33 (by rw [c363]; decide) (by rw [c363]; decide) (by rw [c363]; rfl) (by decide) ?_
          replace hf := dc_if_t c363 hf
          refine lh_aload_n hx hb dL_law_754 rfl (lv_at hl 1 rfl) ?_
          refine lv_aload_n hx hb dL_law_755 rfl (lv_at hl 0 rfl) ?_
          refine lv_iload_n hx hb dL_law_756 rfl (lv_at hl 3 rfl) ?_
          refine lv_iconst (v := 1) hx hb dL_law_757 (by decide) ?_
          refine lv_iadd hx hb dL_law_758 ?_
          obtain ⟨g364, hf⟩ := dc_gd_ok hf
          refine va_sld hx hb hX0 hbl hbA hS g364 dL_law_759 ?_
          refine lv_aload_n hx hb dL_law_760 rfl (lv_at hl 0 rfl) ?_
          refine lv_iload_n hx hb dL_law_761 rfl (lv_at hl 3 rfl) ?_
          refine lv_iconst (v := 2) hx hb dL_law_762 (by decide) ?_
          refine lv_iadd hx hb dL_law_763 ?_
          obtain ⟨g365, hf⟩ := dc_gd_ok hf
          refine va_sld hx hb hX0 hbl hbA hS g365 dL_law_764 ?_
          obtain ⟨x366, hx366, hf⟩ := dc_nn_ok hf
          obtain ⟨r367, S368, k369, hf⟩ := dc_bd_ok hf
          refine lh_call (S' := S368) (lh_rv ⟨hx, hb, hml, hown, hts⟩ hx366 (As := [.int (xs ((v31 + (1 : Int32))).toNatClampNeg), .int (xs ((v31 + (2 : Int32))).toNatClampNeg)]) (rest := []) (k := 9) (c_X9_castRow l D cT n S25 ad26 A H.size (fun q9 h9 => hA q9 (Nat.le_trans hS.1 h9)) x366 (xs ((v31 + (1 : Int32))).toNatClampNeg) (xs ((v31 + (2 : Int32))).toNatClampNeg) r367 S368 k369 (lh_ls (L28 _ hx366))) (cwV 2 hts gL_law_X9_castRow rfl rfl rfl (by decide +kernel) ⟨Nat.le_of_ble_eq_true rfl, Nat.le_of_ble_eq_true rfl⟩) hK hN hW (L28 _ hx366) rfl rfl rfl hl.1 rfl (by simp [lh_cat_r, lh_cat_i, lh_cat_j]) dL_law_765 ⟨by show cl + 0 ≤ 600000; omega, by show sl + 0 ≤ 7302250; omega⟩) hS (fun H locs hX hW hS => ?_)
          refine W.widen (k := cl) (n := sl) (by omega) (by omega) ?_
          show W _ _ _ _ _ _ _ _ _ _ _ _ _ _ _ (F0 m 768 ls [.int r367])
          have m370 : ∀ b, gvN S25 b ≤ gvN S368 b := hX.1
          have L28 : ∀ j, o27 = some j → j < gvN S368 9 := fun j h => Nat.lt_of_lt_of_le (L28 j h) (m370 _)
          have L30 : ∀ j, o29 = some j → j < gvN S368 10 := fun j h => Nat.lt_of_lt_of_le (L30 j h) (m370 _)
          have hm : ∀ b, gvN S b ≤ gvN S368 b := lh_le_trans hm m370
          have ok := lh_W_ok hW
          refine lh_aload_n hx hb dL_law_768 rfl (lv_at hl 2 rfl) ?_
          refine lv_aload_n hx hb dL_law_769 rfl (lv_at hl 0 rfl) ?_
          refine lv_iload_n hx hb dL_law_770 rfl (lv_at hl 3 rfl) ?_
          refine lv_iconst (v := 1) hx hb dL_law_771 (by decide) ?_
          refine lv_iadd hx hb dL_law_772 ?_
          obtain ⟨g371, hf⟩ := dc_gd_ok hf
          refine va_sld hx hb hX0 hbl hbA hS g371 dL_law_773 ?_
          refine lv_aload_n hx hb dL_law_774 rfl (lv_at hl 0 rfl) ?_
          refine lv_iload_n hx hb dL_law_775 rfl (lv_at hl 3 rfl) ?_
          refine lv_iconst (v := 2) hx hb dL_law_776 (by decide) ?_
          refine lv_iadd hx hb dL_law_777 ?_
          obtain ⟨g372, hf⟩ := dc_gd_ok hf
          refine va_sld hx hb hX0 hbl hbA hS g372 dL_law_778 ?_
          obtain ⟨x373, hx373, hf⟩ := dc_nn_ok hf
          obtain ⟨r374, S375, k376, hf⟩ := dc_bd_ok hf
          refine lh_call (S' := S375) (lh_rv ⟨hx, hb, hml, hown, hts⟩ hx373 (As := [.int (xs ((v31 + (1 : Int32))).toNatClampNeg), .int (xs ((v31 + (2 : Int32))).toNatClampNeg)]) (rest := [.int r367]) (k := 10) (c_X10_castRow l D cT n S368 ad26 A H.size (fun q9 h9 => hA q9 (Nat.le_trans hS.1 h9)) x373 (xs ((v31 + (1 : Int32))).toNatClampNeg) (xs ((v31 + (2 : Int32))).toNatClampNeg) r374 S375 k376 (lh_ls (L30 _ hx373))) (cwV 2 hts gL_law_X10_castRow rfl rfl rfl (by decide +kernel) ⟨Nat.le_of_ble_eq_true rfl, Nat.le_of_ble_eq_true rfl⟩) hK hN hW (L30 _ hx373) rfl rfl rfl hl.1 rfl (by simp [lh_cat_r, lh_cat_i, lh_cat_j]) dL_law_779 ⟨by show cl + 0 ≤ 600000; omega, by show sl + 0 ≤ 7302250; omega⟩) hS (fun H locs hX hW hS => ?_)
          refine W.widen (k := cl) (n := sl) (by omega) (by omega) ?_
          show W _ _ _ _ _ _ _ _ _ _ _ _ _ _ _ (F0 m 782 ls [.int r374, .int r367])
          have m377 : ∀ b, gvN S368 b ≤ gvN S375 b := hX.1
          have L28 : ∀ j, o27 = some j → j < gvN S375 9 := fun j h => Nat.lt_of_lt_of_le (L28 j h) (m377 _)
          have L30 : ∀ j, o29 = some j → j < gvN S375 10 := fun j h => Nat.lt_of_lt_of_le (L30 j h) (m377 _)
          have hm : ∀ b, gvN S b ≤ gvN S375 b := lh_le_trans hm m377
          have ok := lh_W_ok hW
          refine lv_icmp_eq (tgt := 940) hx hb dL_law_782 (by decide) (fun c378 => ?_) (fun c378 => ?_)
          · replace hf := dc_if_t c378 hf
            refine lv_iinc (v := v31 + (6 : Int32)) (lv' := [(3, .int (v31 + (6 : Int32))), (0, .ref b), (1, lh_r ad26 9 o27), (2, lh_r ad26 10 o29)]) hx hb dL_law_940 hl (k := 3) rfl (by first | rfl | decide) (by decide) (by first | rfl | simp [lh_cat_r, lh_cat_i, lh_cat_j]) (fun ls hl => ?_)
            refine lv_goto (tgt := 18) hx hb dL_law_943 (by decide) ?_
            refine W.widen (k := cl + 361) (n := sl + 1524) (by omega) (by omega) ?_
            exact ih S375 o27 o29 (v31 + (6 : Int32)) ad26 hf hm hE L28 L30 (cl + 361) (sl + 1524) (by omega) (by omega) _ _ hW hS _ (lv_sub hl [1, 2, 3, 0] (by first | rfl | simp [lv_pick]))
          · replace hf := dc_if_f c378 hf
            refine lv_iconst (v := 0) hx hb dL_law_785 (by decide) ?_
            exact absurd (dc_ret hf).1 (by decide)
        replace hf := dc_if_f c363 hf
        by_cases c379 : v35 = 18
        · refine lv_tableIn (tgt := 787) hx hb dL_law_33 (by rw [c379]; decide) (by rw [c379]; decide) (by rw [c379]; rfl) (by decide) ?_
          replace hf := dc_if_t c379 hf
          refine lh_aload_n hx hb dL_law_787 rfl (lv_at hl 1 rfl) ?_
          refine lv_aload_n hx hb dL_law_788 rfl (lv_at hl 0 rfl) ?_
          refine lv_iload_n hx hb dL_law_789 rfl (lv_at hl 3 rfl) ?_
          refine lv_iconst (v := 1) hx hb dL_law_790 (by decide) ?_
          refine lv_iadd hx hb dL_law_791 ?_
          obtain ⟨g380, hf⟩ := dc_gd_ok hf
          refine va_sld hx hb hX0 hbl hbA hS g380 dL_law_792 ?_
          refine lv_aload_n hx hb dL_law_793 rfl (lv_at hl 0 rfl) ?_
          refine lv_iload_n hx hb dL_law_794 rfl (lv_at hl 3 rfl) ?_
          refine lv_iconst (v := 2) hx hb dL_law_795 (by decide) ?_
          refine lv_iadd hx hb dL_law_796 ?_
          obtain ⟨g381, hf⟩ := dc_gd_ok hf
          refine va_sld hx hb hX0 hbl hbA hS g381 dL_law_797 ?_
          refine lv_aload_n hx hb dL_law_798 rfl (lv_at hl 0 rfl) ?_
          refine lv_iload_n hx hb dL_law_799 rfl (lv_at hl 3 rfl) ?_
          refine lv_iconst (v := 3) hx hb dL_law_800 (by decide) ?_
          refine lv_iadd hx hb dL_law_801 ?_
          obtain ⟨g382, hf⟩ := dc_gd_ok hf
          refine va_sld hx hb hX0 hbl hbA hS g382 dL_law_802 ?_
          refine lv_i2l (v := (xs ((v31 + (3 : Int32))).toNatClampNeg).toInt64) hx hb dL_law_803 rfl ?_
          refine lv_bipush (v := 32) hx hb dL_law_804 (by decide) ?_
          refine lv_lshl (v := ((xs ((v31 + (3 : Int32))).toNatClampNeg).toInt64) <<< ((32 : Int32).toInt64 &&& 63)) hx hb dL_law_806 rfl ?_
          refine lv_topl (fun v383 hv383 => ?_)
          replace hf := dc_let_e hv383 hf
          refine lv_aload_n hx hb dL_law_807 rfl (lv_at hl 0 rfl) ?_
          refine lv_iload_n hx hb dL_law_808 rfl (lv_at hl 3 rfl) ?_
          refine lv_iconst (v := 4) hx hb dL_law_809 (by decide) ?_
          refine lv_iadd hx hb dL_law_810 ?_
          obtain ⟨g384, hf⟩ := dc_gd_ok hf
          refine va_sld hx hb hX0 hbl hbA hS g384 dL_law_811 ?_
          refine lv_i2l (v := (xs ((v31 + (4 : Int32))).toNatClampNeg).toInt64) hx hb dL_law_812 rfl ?_
          refine lv_ldc2 (v := 4294967295) hx hb hown (hts (.constantLong RL 91 (4294967295)) (List.mem_append_left _ (List.mem_append_left _ (List.mem_append_left _ (List.mem_append_left _ (List.mem_append_left _ (List.mem_append_left _ (List.mem_append_left _ (List.mem_append_left _ (List.mem_append_left _ (List.mem_append_left _ (List.mem_append_left _ (List.mem_append_left _ (List.mem_append_left _ (List.mem_of_getElem? (i := 6) rfl))))))))))))))) dL_law_813 ?_
          refine lv_land hx hb dL_law_816 ?_
          refine lv_topl (fun v385 hv385 => ?_)
          replace hf := dc_let_e hv385 hf
          refine lv_lor hx hb dL_law_817 ?_
          obtain ⟨x386, hx386, hf⟩ := dc_nn_ok hf
          obtain ⟨r387, S388, k389, hf⟩ := dc_bd_ok hf
          refine lh_call (S' := S388) (lh_rv ⟨hx, hb, hml, hown, hts⟩ hx386 (As := [.int (xs ((v31 + (1 : Int32))).toNatClampNeg), .int (xs ((v31 + (2 : Int32))).toNatClampNeg), .long (v383 ||| v385)]) (rest := []) (k := 9) (c_X9_call l D cT n S25 ad26 A H.size (fun q9 h9 => hA q9 (Nat.le_trans hS.1 h9)) x386 (xs ((v31 + (1 : Int32))).toNatClampNeg) (xs ((v31 + (2 : Int32))).toNatClampNeg) (v383 ||| v385) r387 S388 k389 (lh_ls (L28 _ hx386))) (cwV 3 hts gL_law_X9_call rfl rfl rfl (by decide +kernel) ⟨Nat.le_of_ble_eq_true rfl, Nat.le_of_ble_eq_true rfl⟩) hK hN hW (L28 _ hx386) rfl rfl rfl hl.1 rfl (by simp [lh_cat_r, lh_cat_i, lh_cat_j]) dL_law_818 ⟨by show cl + 0 ≤ 600000; omega, by show sl + 0 ≤ 7302250; omega⟩) hS (fun H locs hX hW hS => ?_)
          refine W.widen (k := cl) (n := sl) (by omega) (by omega) ?_
          show W _ _ _ _ _ _ _ _ _ _ _ _ _ _ _ (F0 m 821 ls [.long r387])
          have m390 : ∀ b, gvN S25 b ≤ gvN S388 b := hX.1
          have L28 : ∀ j, o27 = some j → j < gvN S388 9 := fun j h => Nat.lt_of_lt_of_le (L28 j h) (m390 _)
          have L30 : ∀ j, o29 = some j → j < gvN S388 10 := fun j h => Nat.lt_of_lt_of_le (L30 j h) (m390 _)
          have hm : ∀ b, gvN S b ≤ gvN S388 b := lh_le_trans hm m390
          have ok := lh_W_ok hW
          refine lh_aload_n hx hb dL_law_821 rfl (lv_at hl 2 rfl) ?_
          refine lv_aload_n hx hb dL_law_822 rfl (lv_at hl 0 rfl) ?_
          refine lv_iload_n hx hb dL_law_823 rfl (lv_at hl 3 rfl) ?_
          refine lv_iconst (v := 1) hx hb dL_law_824 (by decide) ?_
          refine lv_iadd hx hb dL_law_825 ?_
          obtain ⟨g391, hf⟩ := dc_gd_ok hf
          refine va_sld hx hb hX0 hbl hbA hS g391 dL_law_826 ?_
          refine lv_aload_n hx hb dL_law_827 rfl (lv_at hl 0 rfl) ?_
          refine lv_iload_n hx hb dL_law_828 rfl (lv_at hl 3 rfl) ?_
          refine lv_iconst (v := 2) hx hb dL_law_829 (by decide) ?_
          refine lv_iadd hx hb dL_law_830 ?_
          obtain ⟨g392, hf⟩ := dc_gd_ok hf
          refine va_sld hx hb hX0 hbl hbA hS g392 dL_law_831 ?_
          refine lv_aload_n hx hb dL_law_832 rfl (lv_at hl 0 rfl) ?_
          refine lv_iload_n hx hb dL_law_833 rfl (lv_at hl 3 rfl) ?_
          refine lv_iconst (v := 3) hx hb dL_law_834 (by decide) ?_
          refine lv_iadd hx hb dL_law_835 ?_
          obtain ⟨g393, hf⟩ := dc_gd_ok hf
          refine va_sld hx hb hX0 hbl hbA hS g393 dL_law_836 ?_
          refine lv_i2l (v := (xs ((v31 + (3 : Int32))).toNatClampNeg).toInt64) hx hb dL_law_837 rfl ?_
          refine lv_bipush (v := 32) hx hb dL_law_838 (by decide) ?_
          refine lv_lshl (v := ((xs ((v31 + (3 : Int32))).toNatClampNeg).toInt64) <<< ((32 : Int32).toInt64 &&& 63)) hx hb dL_law_840 rfl ?_
          refine lv_topl (fun v394 hv394 => ?_)
          replace hf := dc_let_e hv394 hf
          refine lv_aload_n hx hb dL_law_841 rfl (lv_at hl 0 rfl) ?_
          refine lv_iload_n hx hb dL_law_842 rfl (lv_at hl 3 rfl) ?_
          refine lv_iconst (v := 4) hx hb dL_law_843 (by decide) ?_
          refine lv_iadd hx hb dL_law_844 ?_
          obtain ⟨g395, hf⟩ := dc_gd_ok hf
          refine va_sld hx hb hX0 hbl hbA hS g395 dL_law_845 ?_
          refine lv_i2l (v := (xs ((v31 + (4 : Int32))).toNatClampNeg).toInt64) hx hb dL_law_846 rfl ?_
          refine lv_ldc2 (v := 4294967295) hx hb hown (hts (.constantLong RL 91 (4294967295)) (List.mem_append_left _ (List.mem_append_left _ (List.mem_append_left _ (List.mem_append_left _ (List.mem_append_left _ (List.mem_append_left _ (List.mem_append_left _ (List.mem_append_left _ (List.mem_append_left _ (List.mem_append_left _ (List.mem_append_left _ (List.mem_append_left _ (List.mem_append_left _ (List.mem_of_getElem? (i := 6) rfl))))))))))))))) dL_law_847 ?_
          refine lv_land hx hb dL_law_850 ?_
          refine lv_topl (fun v396 hv396 => ?_)
          replace hf := dc_let_e hv396 hf
          refine lv_lor hx hb dL_law_851 ?_
          obtain ⟨x397, hx397, hf⟩ := dc_nn_ok hf
          obtain ⟨r398, S399, k400, hf⟩ := dc_bd_ok hf
          refine lh_call (S' := S399) (lh_rv ⟨hx, hb, hml, hown, hts⟩ hx397 (As := [.int (xs ((v31 + (1 : Int32))).toNatClampNeg), .int (xs ((v31 + (2 : Int32))).toNatClampNeg), .long (v394 ||| v396)]) (rest := [.long r387]) (k := 10) (c_X10_call l D cT n S388 ad26 A H.size (fun q9 h9 => hA q9 (Nat.le_trans hS.1 h9)) x397 (xs ((v31 + (1 : Int32))).toNatClampNeg) (xs ((v31 + (2 : Int32))).toNatClampNeg) (v394 ||| v396) r398 S399 k400 (lh_ls (L30 _ hx397))) (cwV 3 hts gL_law_X10_call rfl rfl rfl (by decide +kernel) ⟨Nat.le_of_ble_eq_true rfl, Nat.le_of_ble_eq_true rfl⟩) hK hN hW (L30 _ hx397) rfl rfl rfl hl.1 rfl (by simp [lh_cat_r, lh_cat_i, lh_cat_j]) dL_law_852 ⟨by show cl + 0 ≤ 600000; omega, by show sl + 0 ≤ 7302250; omega⟩) hS (fun H locs hX hW hS => ?_)
          refine W.widen (k := cl) (n := sl) (by omega) (by omega) ?_
          show W _ _ _ _ _ _ _ _ _ _ _ _ _ _ _ (F0 m 855 ls [.long r398, .long r387])
          have m401 : ∀ b, gvN S388 b ≤ gvN S399 b := hX.1
          have L28 : ∀ j, o27 = some j → j < gvN S399 9 := fun j h => Nat.lt_of_lt_of_le (L28 j h) (m401 _)
          have L30 : ∀ j, o29 = some j → j < gvN S399 10 := fun j h => Nat.lt_of_lt_of_le (L30 j h) (m401 _)
          have hm : ∀ b, gvN S b ≤ gvN S399 b := lh_le_trans hm m401
          have ok := lh_W_ok hW
          refine W.lcmp hx hb dL_law_855 ?_
          refine lv_if_eq (tgt := 940) hx hb dL_law_856 (by decide) (fun c402 => ?_) (fun c402 => ?_)
          · replace hf := dc_if_t c402 hf
            refine lv_iinc (v := v31 + (6 : Int32)) (lv' := [(3, .int (v31 + (6 : Int32))), (0, .ref b), (1, lh_r ad26 9 o27), (2, lh_r ad26 10 o29)]) hx hb dL_law_940 hl (k := 3) rfl (by first | rfl | decide) (by decide) (by first | rfl | simp [lh_cat_r, lh_cat_i, lh_cat_j]) (fun ls hl => ?_)
            refine lv_goto (tgt := 18) hx hb dL_law_943 (by decide) ?_
            refine W.widen (k := cl + 361) (n := sl + 1524) (by omega) (by omega) ?_
            exact ih S399 o27 o29 (v31 + (6 : Int32)) ad26 hf hm hE L28 L30 (cl + 361) (sl + 1524) (by omega) (by omega) _ _ hW hS _ (lv_sub hl [1, 2, 3, 0] (by first | rfl | simp [lv_pick]))
          · replace hf := dc_if_f c402 hf
            refine lv_iconst (v := 0) hx hb dL_law_859 (by decide) ?_
            exact absurd (dc_ret hf).1 (by decide)
        replace hf := dc_if_f c379 hf
        by_cases c403 : v35 = 19
        · refine lv_tableIn (tgt := 861) hx hb dL_law_33 (by rw [c403]; decide) (by rw [c403]; decide) (by rw [c403]; rfl) (by decide) ?_
          replace hf := dc_if_t c403 hf
          refine lh_aload_n hx hb dL_law_861 rfl (lv_at hl 1 rfl) ?_
          refine lv_aload_n hx hb dL_law_862 rfl (lv_at hl 0 rfl) ?_
          refine lv_iload_n hx hb dL_law_863 rfl (lv_at hl 3 rfl) ?_
          refine lv_iconst (v := 1) hx hb dL_law_864 (by decide) ?_
          refine lv_iadd hx hb dL_law_865 ?_
          obtain ⟨g404, hf⟩ := dc_gd_ok hf
          refine va_sld hx hb hX0 hbl hbA hS g404 dL_law_866 ?_
          refine lv_aload_n hx hb dL_law_867 rfl (lv_at hl 0 rfl) ?_
          refine lv_iload_n hx hb dL_law_868 rfl (lv_at hl 3 rfl) ?_
          refine lv_iconst (v := 2) hx hb dL_law_869 (by decide) ?_
          refine lv_iadd hx hb dL_law_870 ?_
          obtain ⟨g405, hf⟩ := dc_gd_ok hf
          refine va_sld hx hb hX0 hbl hbA hS g405 dL_law_871 ?_
          obtain ⟨x406, hx406, hf⟩ := dc_nn_ok hf
          obtain ⟨r407, S408, k409, hf⟩ := dc_bd_ok hf
          refine lh_call (S' := S408) (lh_rv ⟨hx, hb, hml, hown, hts⟩ hx406 (As := [.int (xs ((v31 + (1 : Int32))).toNatClampNeg), .int (xs ((v31 + (2 : Int32))).toNatClampNeg)]) (rest := []) (k := 9) (c_X9_about l D cT n S25 ad26 A H.size (fun q9 h9 => hA q9 (Nat.le_trans hS.1 h9)) x406 (xs ((v31 + (1 : Int32))).toNatClampNeg) (xs ((v31 + (2 : Int32))).toNatClampNeg) r407 S408 k409 (lh_ls (L28 _ hx406))) (cwV 2 hts gL_law_X9_about rfl rfl rfl (by decide +kernel) ⟨Nat.le_of_ble_eq_true rfl, Nat.le_of_ble_eq_true rfl⟩) hK hN hW (L28 _ hx406) rfl rfl rfl hl.1 rfl (by simp [lh_cat_r, lh_cat_i, lh_cat_j]) dL_law_872 ⟨by show cl + 0 ≤ 600000; omega, by show sl + 0 ≤ 7302250; omega⟩) hS (fun H locs hX hW hS => ?_)
          refine W.widen (k := cl) (n := sl) (by omega) (by omega) ?_
          show W _ _ _ _ _ _ _ _ _ _ _ _ _ _ _ (F0 m 875 ls [.int r407])
          have m410 : ∀ b, gvN S25 b ≤ gvN S408 b := hX.1
          have L28 : ∀ j, o27 = some j → j < gvN S408 9 := fun j h => Nat.lt_of_lt_of_le (L28 j h) (m410 _)
          have L30 : ∀ j, o29 = some j → j < gvN S408 10 := fun j h => Nat.lt_of_lt_of_le (L30 j h) (m410 _)
          have hm : ∀ b, gvN S b ≤ gvN S408 b := lh_le_trans hm m410
          have ok := lh_W_ok hW
          refine lh_aload_n hx hb dL_law_875 rfl (lv_at hl 2 rfl) ?_
          refine lv_aload_n hx hb dL_law_876 rfl (lv_at hl 0 rfl) ?_
          refine lv_iload_n hx hb dL_law_877 rfl (lv_at hl 3 rfl) ?_
          refine lv_iconst (v := 1) hx hb dL_law_878 (by decide) ?_
          refine lv_iadd hx hb dL_law_879 ?_
          obtain ⟨g411, hf⟩ := dc_gd_ok hf
          refine va_sld hx hb hX0 hbl hbA hS g411 dL_law_880 ?_
          refine lv_aload_n hx hb dL_law_881 rfl (lv_at hl 0 rfl) ?_
          refine lv_iload_n hx hb dL_law_882 rfl (lv_at hl 3 rfl) ?_
          refine lv_iconst (v := 2) hx hb dL_law_883 (by decide) ?_
          refine lv_iadd hx hb dL_law_884 ?_
          obtain ⟨g412, hf⟩ := dc_gd_ok hf
          refine va_sld hx hb hX0 hbl hbA hS g412 dL_law_885 ?_
          obtain ⟨x413, hx413, hf⟩ := dc_nn_ok hf
          obtain ⟨r414, S415, k416, hf⟩ := dc_bd_ok hf
          refine lh_call (S' := S415) (lh_rv ⟨hx, hb, hml, hown, hts⟩ hx413 (As := [.int (xs ((v31 + (1 : Int32))).toNatClampNeg), .int (xs ((v31 + (2 : Int32))).toNatClampNeg)]) (rest := [.int r407]) (k := 10) (c_X10_about l D cT n S408 ad26 A H.size (fun q9 h9 => hA q9 (Nat.le_trans hS.1 h9)) x413 (xs ((v31 + (1 : Int32))).toNatClampNeg) (xs ((v31 + (2 : Int32))).toNatClampNeg) r414 S415 k416 (lh_ls (L30 _ hx413))) (cwV 2 hts gL_law_X10_about rfl rfl rfl (by decide +kernel) ⟨Nat.le_of_ble_eq_true rfl, Nat.le_of_ble_eq_true rfl⟩) hK hN hW (L30 _ hx413) rfl rfl rfl hl.1 rfl (by simp [lh_cat_r, lh_cat_i, lh_cat_j]) dL_law_886 ⟨by show cl + 0 ≤ 600000; omega, by show sl + 0 ≤ 7302250; omega⟩) hS (fun H locs hX hW hS => ?_)
          refine W.widen (k := cl) (n := sl) (by omega) (by omega) ?_
          show W _ _ _ _ _ _ _ _ _ _ _ _ _ _ _ (F0 m 889 ls [.int r414, .int r407])
          have m417 : ∀ b, gvN S408 b ≤ gvN S415 b := hX.1
          have L28 : ∀ j, o27 = some j → j < gvN S415 9 := fun j h => Nat.lt_of_lt_of_le (L28 j h) (m417 _)
          have L30 : ∀ j, o29 = some j → j < gvN S415 10 := fun j h => Nat.lt_of_lt_of_le (L30 j h) (m417 _)
          have hm : ∀ b, gvN S b ≤ gvN S415 b := lh_le_trans hm m417
          have ok := lh_W_ok hW
          refine lv_icmp_eq (tgt := 940) hx hb dL_law_889 (by decide) (fun c418 => ?_) (fun c418 => ?_)
          · replace hf := dc_if_t c418 hf
            refine lv_iinc (v := v31 + (6 : Int32)) (lv' := [(3, .int (v31 + (6 : Int32))), (0, .ref b), (1, lh_r ad26 9 o27), (2, lh_r ad26 10 o29)]) hx hb dL_law_940 hl (k := 3) rfl (by first | rfl | decide) (by decide) (by first | rfl | simp [lh_cat_r, lh_cat_i, lh_cat_j]) (fun ls hl => ?_)
            refine lv_goto (tgt := 18) hx hb dL_law_943 (by decide) ?_
            refine W.widen (k := cl + 361) (n := sl + 1524) (by omega) (by omega) ?_
            exact ih S415 o27 o29 (v31 + (6 : Int32)) ad26 hf hm hE L28 L30 (cl + 361) (sl + 1524) (by omega) (by omega) _ _ hW hS _ (lv_sub hl [1, 2, 3, 0] (by first | rfl | simp [lv_pick]))
          · replace hf := dc_if_f c418 hf
            refine lv_iconst (v := 0) hx hb dL_law_892 (by decide) ?_
            exact absurd (dc_ret hf).1 (by decide)
        replace hf := dc_if_f c403 hf
        by_cases c419 : v35 = 20
        · refine lv_tableIn (tgt := 894) hx hb dL_law_33 (by rw [c419]; decide) (by rw [c419]; decide) (by rw [c419]; rfl) (by decide) ?_
          replace hf := dc_if_t c419 hf
          refine lh_aload_n hx hb dL_law_894 rfl (lv_at hl 1 rfl) ?_
          refine lv_aload_n hx hb dL_law_895 rfl (lv_at hl 0 rfl) ?_
          refine lv_iload_n hx hb dL_law_896 rfl (lv_at hl 3 rfl) ?_
          refine lv_iconst (v := 1) hx hb dL_law_897 (by decide) ?_
          refine lv_iadd hx hb dL_law_898 ?_
          obtain ⟨g420, hf⟩ := dc_gd_ok hf
          refine va_sld hx hb hX0 hbl hbA hS g420 dL_law_899 ?_
          obtain ⟨x421, hx421, hf⟩ := dc_nn_ok hf
          obtain ⟨r422, S423, k424, hf⟩ := dc_bd_ok hf
          refine lh_call (S' := S423) (lh_rv ⟨hx, hb, hml, hown, hts⟩ hx421 (As := [.int (xs ((v31 + (1 : Int32))).toNatClampNeg)]) (rest := []) (k := 9) (c_X9_noted l D cT n S25 ad26 A H.size (fun q9 h9 => hA q9 (Nat.le_trans hS.1 h9)) x421 (xs ((v31 + (1 : Int32))).toNatClampNeg) r422 S423 k424 (lh_ls (L28 _ hx421))) (cwV 1 hts gL_law_X9_noted rfl rfl rfl (by decide +kernel) ⟨Nat.le_of_ble_eq_true rfl, Nat.le_of_ble_eq_true rfl⟩) hK hN hW (L28 _ hx421) rfl rfl rfl hl.1 rfl (by simp [lh_cat_r, lh_cat_i, lh_cat_j]) dL_law_900 ⟨by show cl + 0 ≤ 600000; omega, by show sl + 0 ≤ 7302250; omega⟩) hS (fun H locs hX hW hS => ?_)
          refine W.widen (k := cl) (n := sl) (by omega) (by omega) ?_
          show W _ _ _ _ _ _ _ _ _ _ _ _ _ _ _ (F0 m 903 ls [.int r422])
          have m425 : ∀ b, gvN S25 b ≤ gvN S423 b := hX.1
          have L28 : ∀ j, o27 = some j → j < gvN S423 9 := fun j h => Nat.lt_of_lt_of_le (L28 j h) (m425 _)
          have L30 : ∀ j, o29 = some j → j < gvN S423 10 := fun j h => Nat.lt_of_lt_of_le (L30 j h) (m425 _)
          have hm : ∀ b, gvN S b ≤ gvN S423 b := lh_le_trans hm m425
          have ok := lh_W_ok hW
          refine lh_aload_n hx hb dL_law_903 rfl (lv_at hl 2 rfl) ?_
          refine lv_aload_n hx hb dL_law_904 rfl (lv_at hl 0 rfl) ?_
          refine lv_iload_n hx hb dL_law_905 rfl (lv_at hl 3 rfl) ?_
          refine lv_iconst (v := 1) hx hb dL_law_906 (by decide) ?_
          refine lv_iadd hx hb dL_law_907 ?_
          obtain ⟨g426, hf⟩ := dc_gd_ok hf
          refine va_sld hx hb hX0 hbl hbA hS g426 dL_law_908 ?_
          obtain ⟨x427, hx427, hf⟩ := dc_nn_ok hf
          obtain ⟨r428, S429, k430, hf⟩ := dc_bd_ok hf
          refine lh_call (S' := S429) (lh_rv ⟨hx, hb, hml, hown, hts⟩ hx427 (As := [.int (xs ((v31 + (1 : Int32))).toNatClampNeg)]) (rest := [.int r422]) (k := 10) (c_X10_noted l D cT n S423 ad26 A H.size (fun q9 h9 => hA q9 (Nat.le_trans hS.1 h9)) x427 (xs ((v31 + (1 : Int32))).toNatClampNeg) r428 S429 k430 (lh_ls (L30 _ hx427))) (cwV 1 hts gL_law_X10_noted rfl rfl rfl (by decide +kernel) ⟨Nat.le_of_ble_eq_true rfl, Nat.le_of_ble_eq_true rfl⟩) hK hN hW (L30 _ hx427) rfl rfl rfl hl.1 rfl (by simp [lh_cat_r, lh_cat_i, lh_cat_j]) dL_law_909 ⟨by show cl + 0 ≤ 600000; omega, by show sl + 0 ≤ 7302250; omega⟩) hS (fun H locs hX hW hS => ?_)
          refine W.widen (k := cl) (n := sl) (by omega) (by omega) ?_
          show W _ _ _ _ _ _ _ _ _ _ _ _ _ _ _ (F0 m 912 ls [.int r428, .int r422])
          have m431 : ∀ b, gvN S423 b ≤ gvN S429 b := hX.1
          have L28 : ∀ j, o27 = some j → j < gvN S429 9 := fun j h => Nat.lt_of_lt_of_le (L28 j h) (m431 _)
          have L30 : ∀ j, o29 = some j → j < gvN S429 10 := fun j h => Nat.lt_of_lt_of_le (L30 j h) (m431 _)
          have hm : ∀ b, gvN S b ≤ gvN S429 b := lh_le_trans hm m431
          have ok := lh_W_ok hW
          refine lv_icmp_eq (tgt := 940) hx hb dL_law_912 (by decide) (fun c432 => ?_) (fun c432 => ?_)
          · replace hf := dc_if_t c432 hf
            refine lv_iinc (v := v31 + (6 : Int32)) (lv' := [(3, .int (v31 + (6 : Int32))), (0, .ref b), (1, lh_r ad26 9 o27), (2, lh_r ad26 10 o29)]) hx hb dL_law_940 hl (k := 3) rfl (by first | rfl | decide) (by decide) (by first | rfl | simp [lh_cat_r, lh_cat_i, lh_cat_j]) (fun ls hl => ?_)
            refine lv_goto (tgt := 18) hx hb dL_law_943 (by decide) ?_
            refine W.widen (k := cl + 361) (n := sl + 1524) (by omega) (by omega) ?_
            exact ih S429 o27 o29 (v31 + (6 : Int32)) ad26 hf hm hE L28 L30 (cl + 361) (sl + 1524) (by omega) (by omega) _ _ hW hS _ (lv_sub hl [1, 2, 3, 0] (by first | rfl | simp [lv_pick]))
          · replace hf := dc_if_f c432 hf
            refine lv_iconst (v := 0) hx hb dL_law_915 (by decide) ?_
            exact absurd (dc_ret hf).1 (by decide)
        replace hf := dc_if_f c419 hf
        by_cases c433 : v35 = 21
        · refine lv_tableIn (tgt := 917) hx hb dL_law_33 (by rw [c433]; decide) (by rw [c433]; decide) (by rw [c433]; rfl) (by decide) ?_
          replace hf := dc_if_t c433 hf
          refine lh_aload_n hx hb dL_law_917 rfl (lv_at hl 1 rfl) ?_
          refine lv_aload_n hx hb dL_law_918 rfl (lv_at hl 0 rfl) ?_
          refine lv_iload_n hx hb dL_law_919 rfl (lv_at hl 3 rfl) ?_
          refine lv_iconst (v := 1) hx hb dL_law_920 (by decide) ?_
          refine lv_iadd hx hb dL_law_921 ?_
          obtain ⟨g434, hf⟩ := dc_gd_ok hf
          refine va_sld hx hb hX0 hbl hbA hS g434 dL_law_922 ?_
          obtain ⟨x435, hx435, hf⟩ := dc_nn_ok hf
          obtain ⟨r436, S437, k438, hf⟩ := dc_bd_ok hf
          refine lh_call (S' := S437) (lh_rv ⟨hx, hb, hml, hown, hts⟩ hx435 (As := [.int (xs ((v31 + (1 : Int32))).toNatClampNeg)]) (rest := []) (k := 9) (c_X9_told l D cT n S25 ad26 A H.size (fun q9 h9 => hA q9 (Nat.le_trans hS.1 h9)) x435 (xs ((v31 + (1 : Int32))).toNatClampNeg) r436 S437 k438 (lh_ls (L28 _ hx435))) (cwV 1 hts gL_law_X9_told rfl rfl rfl (by decide +kernel) ⟨Nat.le_of_ble_eq_true rfl, Nat.le_of_ble_eq_true rfl⟩) hK hN hW (L28 _ hx435) rfl rfl rfl hl.1 rfl (by simp [lh_cat_r, lh_cat_i, lh_cat_j]) dL_law_923 ⟨by show cl + 0 ≤ 600000; omega, by show sl + 0 ≤ 7302250; omega⟩) hS (fun H locs hX hW hS => ?_)
          refine W.widen (k := cl) (n := sl) (by omega) (by omega) ?_
          show W _ _ _ _ _ _ _ _ _ _ _ _ _ _ _ (F0 m 926 ls [.int r436])
          have m439 : ∀ b, gvN S25 b ≤ gvN S437 b := hX.1
          have L28 : ∀ j, o27 = some j → j < gvN S437 9 := fun j h => Nat.lt_of_lt_of_le (L28 j h) (m439 _)
          have L30 : ∀ j, o29 = some j → j < gvN S437 10 := fun j h => Nat.lt_of_lt_of_le (L30 j h) (m439 _)
          have hm : ∀ b, gvN S b ≤ gvN S437 b := lh_le_trans hm m439
          have ok := lh_W_ok hW
          refine lh_aload_n hx hb dL_law_926 rfl (lv_at hl 2 rfl) ?_
          refine lv_aload_n hx hb dL_law_927 rfl (lv_at hl 0 rfl) ?_
          refine lv_iload_n hx hb dL_law_928 rfl (lv_at hl 3 rfl) ?_
          refine lv_iconst (v := 1) hx hb dL_law_929 (by decide) ?_
          refine lv_iadd hx hb dL_law_930 ?_
          obtain ⟨g440, hf⟩ := dc_gd_ok hf
          refine va_sld hx hb hX0 hbl hbA hS g440 dL_law_931 ?_
          obtain ⟨x441, hx441, hf⟩ := dc_nn_ok hf
          obtain ⟨r442, S443, k444, hf⟩ := dc_bd_ok hf
          refine lh_call (S' := S443) (lh_rv ⟨hx, hb, hml, hown, hts⟩ hx441 (As := [.int (xs ((v31 + (1 : Int32))).toNatClampNeg)]) (rest := [.int r436]) (k := 10) (c_X10_told l D cT n S437 ad26 A H.size (fun q9 h9 => hA q9 (Nat.le_trans hS.1 h9)) x441 (xs ((v31 + (1 : Int32))).toNatClampNeg) r442 S443 k444 (lh_ls (L30 _ hx441))) (cwV 1 hts gL_law_X10_told rfl rfl rfl (by decide +kernel) ⟨Nat.le_of_ble_eq_true rfl, Nat.le_of_ble_eq_true rfl⟩) hK hN hW (L30 _ hx441) rfl rfl rfl hl.1 rfl (by simp [lh_cat_r, lh_cat_i, lh_cat_j]) dL_law_932 ⟨by show cl + 0 ≤ 600000; omega, by show sl + 0 ≤ 7302250; omega⟩) hS (fun H locs hX hW hS => ?_)
          refine W.widen (k := cl) (n := sl) (by omega) (by omega) ?_
          show W _ _ _ _ _ _ _ _ _ _ _ _ _ _ _ (F0 m 935 ls [.int r442, .int r436])
          have m445 : ∀ b, gvN S437 b ≤ gvN S443 b := hX.1
          have L28 : ∀ j, o27 = some j → j < gvN S443 9 := fun j h => Nat.lt_of_lt_of_le (L28 j h) (m445 _)
          have L30 : ∀ j, o29 = some j → j < gvN S443 10 := fun j h => Nat.lt_of_lt_of_le (L30 j h) (m445 _)
          have hm : ∀ b, gvN S b ≤ gvN S443 b := lh_le_trans hm m445
          have ok := lh_W_ok hW
          refine lv_icmp_eq (tgt := 940) hx hb dL_law_935 (by decide) (fun c446 => ?_) (fun c446 => ?_)
          · replace hf := dc_if_t c446 hf
            refine lv_iinc (v := v31 + (6 : Int32)) (lv' := [(3, .int (v31 + (6 : Int32))), (0, .ref b), (1, lh_r ad26 9 o27), (2, lh_r ad26 10 o29)]) hx hb dL_law_940 hl (k := 3) rfl (by first | rfl | decide) (by decide) (by first | rfl | simp [lh_cat_r, lh_cat_i, lh_cat_j]) (fun ls hl => ?_)
            refine lv_goto (tgt := 18) hx hb dL_law_943 (by decide) ?_
            refine W.widen (k := cl + 361) (n := sl + 1524) (by omega) (by omega) ?_
            exact ih S443 o27 o29 (v31 + (6 : Int32)) ad26 hf hm hE L28 L30 (cl + 361) (sl + 1524) (by omega) (by omega) _ _ hW hS _ (lv_sub hl [1, 2, 3, 0] (by first | rfl | simp [lv_pick]))
          · replace hf := dc_if_f c446 hf
            refine lv_iconst (v := 0) hx hb dL_law_938 (by decide) ?_
            exact absurd (dc_ret hf).1 (by decide)
        replace hf := dc_if_f c433 hf
        have tc36 := lv_neT (a := 0) c36 (by decide)
        have tc52 := lv_neT (a := 1) c52 (by decide)
        have tc68 := lv_neT (a := 2) c68 (by decide)
        have tc125 := lv_neT (a := 3) c125 (by decide)
        have tc149 := lv_neT (a := 4) c149 (by decide)
        have tc165 := lv_neT (a := 5) c165 (by decide)
        have tc184 := lv_neT (a := 6) c184 (by decide)
        have tc203 := lv_neT (a := 7) c203 (by decide)
        have tc219 := lv_neT (a := 8) c219 (by decide)
        have tc237 := lv_neT (a := 9) c237 (by decide)
        have tc253 := lv_neT (a := 10) c253 (by decide)
        have tc267 := lv_neT (a := 11) c267 (by decide)
        have tc281 := lv_neT (a := 12) c281 (by decide)
        have tc295 := lv_neT (a := 13) c295 (by decide)
        have tc311 := lv_neT (a := 14) c311 (by decide)
        have tc329 := lv_neT (a := 15) c329 (by decide)
        have tc347 := lv_neT (a := 16) c347 (by decide)
        have tc363 := lv_neT (a := 17) c363 (by decide)
        have tc379 := lv_neT (a := 18) c379 (by decide)
        have tc403 := lv_neT (a := 19) c403 (by decide)
        have tc419 := lv_neT (a := 20) c419 (by decide)
        have tc433 := lv_neT (a := 21) c433 (by decide)
        refine lv_tableOut (tgt := 940) hx hb dL_law_33 (by omega) (by decide) ?_
        refine lv_iinc (v := v31 + (6 : Int32)) (lv' := [(3, .int (v31 + (6 : Int32))), (0, .ref b), (1, lh_r ad26 9 o27), (2, lh_r ad26 10 o29)]) hx hb dL_law_940 hl (k := 3) rfl (by first | rfl | decide) (by decide) (by first | rfl | simp [lh_cat_r, lh_cat_i, lh_cat_j]) (fun ls hl => ?_)
        refine lv_goto (tgt := 18) hx hb dL_law_943 (by decide) ?_
        refine W.widen (k := cl + 361) (n := sl + 1524) (by omega) (by omega) ?_
        exact ih S25 o27 o29 (v31 + (6 : Int32)) ad26 hf hm hE L28 L30 (cl + 361) (sl + 1524) (by omega) (by omega) _ _ hW hS _ (lv_sub hl [1, 2, 3, 0] (by first | rfl | simp [lv_pick]))
  have ok := lh_W_ok hW
  have hm : ∀ b, gvN S b ≤ gvN S b := fun _ => Nat.le_refl _
  have hE : lh_E S ad ad := lh_E.rf
  obtain ⟨ls, hent, hl⟩ := lh_entry m ([Value.ref b] : List Value).toArray [Value.ref b] 4 [(0, .ref b)] rfl rfl (Nat.le_of_ble_eq_true rfl)
  rw [hent]
  have hS : va_S A s.heap s.heap [] := va_S.rf
  unfold f_L_law at hf
  obtain ⟨S1, eS1, hf⟩ := dc_let_ok hf
  refine lh_new (a := 9) (N := 10) (C := RX9) (T := TX9) (own := RL) hx hb hts (fun _ h => (List.mem_append_left _ (List.mem_append_left _ (List.mem_append_left _ (List.mem_append_left _ (List.mem_append_left _ (List.mem_append_left _ (List.mem_append_left _ (List.mem_append_left _ (List.mem_append_left _ (List.mem_append_left _ (List.mem_append_left _ (List.mem_append_right _ h))))))))))))) tyX9 tyX9_ok hown (hts (.classLink RL 7 RX9) (List.mem_append_left _ (List.mem_append_left _ (List.mem_append_left _ (List.mem_append_left _ (List.mem_append_left _ (List.mem_append_left _ (List.mem_append_left _ (List.mem_append_left _ (List.mem_append_left _ (List.mem_append_left _ (List.mem_append_left _ (List.mem_append_left _ (List.mem_append_left _ (List.mem_of_getElem? (i := 0) rfl))))))))))))))) (hts (.instantiable RX9 10) (List.mem_append_left _ (List.mem_append_left _ (List.mem_append_left _ (List.mem_append_left _ (List.mem_append_left _ (List.mem_append_left _ (List.mem_append_left _ (List.mem_append_left _ (List.mem_append_left _ (List.mem_append_left _ (List.mem_append_left _ (List.mem_append_left _ (List.mem_append_left _ (List.mem_of_getElem? (i := 1) rfl))))))))))))))) (hts (.initialized RX9) (List.mem_append_left _ (List.mem_append_left _ (List.mem_append_left _ (List.mem_append_left _ (List.mem_append_left _ (List.mem_append_left _ (List.mem_append_left _ (List.mem_append_left _ (List.mem_append_left _ (List.mem_append_left _ (List.mem_append_left _ (List.mem_append_left _ (List.mem_append_left _ (List.mem_of_getElem? (i := 2) rfl))))))))))))))) hK hW hS hA rfl rfl rfl (by decide +kernel) (by show 0 + 1 ≤ 600000; omega) (by show 0 + 10 ≤ 7302250; omega) dL_law_0 (fun ad2 H hE3 hW hS => ?_)
  have hE : lh_E S ad ad2 := lh_E.trans hE hm hE3
  rw [← eS1] at hW
  have m4 : ∀ b, gvN S b ≤ gvN S1 b := by rw [eS1]; exact lh_mN
  have hm : ∀ b, gvN S b ≤ gvN S1 b := lh_le_trans hm m4
  have ok := lh_W_ok hW
  have L5 : ∀ j, some (gvN S 9) = some j → j < gvN S1 9 := lh_ls (by rw [eS1]; exact lh_nN)
  refine lv_dup hx hb dL_law_3 lh_cat_r ?_
  obtain ⟨r7, S8, k9, hf⟩ := dc_bd_ok hf
  refine lh_callA (S' := S8) (lh_ri ⟨hx, hb, hml, hown, hts⟩ rfl (As := []) (rest := [lh_r ad2 9 (some (gvN S 9))]) (k := 9) (c_X9_init l D cT n S1 ad2 A H.size (fun q9 h9 => hA q9 (Nat.le_trans hS.1 h9)) (gvN S 9) r7 S8 k9 L5) (cwI 0 hts gL_law_X9_init rfl rfl rfl (hts (.initialized RX9) (List.mem_append_left _ (List.mem_append_left _ (List.mem_append_left _ (List.mem_append_left _ (List.mem_append_left _ (List.mem_append_left _ (List.mem_append_left _ (List.mem_append_left _ (List.mem_append_left _ (List.mem_append_left _ (List.mem_append_left _ (List.mem_append_left _ (List.mem_append_left _ (List.mem_of_getElem? (i := 2) rfl))))))))))))))) (hts (.methodLink RL 9 yX9_init) (List.mem_append_left _ (List.mem_append_left _ (List.mem_append_left _ (List.mem_append_left _ (List.mem_append_left _ (List.mem_append_left _ (List.mem_append_left _ (List.mem_append_left _ (List.mem_append_left _ (List.mem_append_left _ (List.mem_append_left _ (List.mem_append_left _ (List.mem_append_left _ (List.mem_of_getElem? (i := 7) rfl))))))))))))))) (hts (.instanceMethod yX9_init) (List.mem_append_left _ (List.mem_append_left _ (List.mem_append_left _ (List.mem_append_left _ (List.mem_append_left _ (List.mem_append_left _ (List.mem_append_left _ (List.mem_append_left _ (List.mem_append_left _ (List.mem_append_left _ (List.mem_append_left _ (List.mem_append_left _ (List.mem_append_left _ (List.mem_of_getElem? (i := 8) rfl))))))))))))))) rfl (by decide +kernel) ⟨Nat.le_of_ble_eq_true rfl, Nat.le_of_ble_eq_true rfl⟩) hK hN hW rfl hl.1 rfl (by simp [lh_cat_r, lh_cat_i, lh_cat_j]) dL_law_4 ⟨by show 1 + 26 ≤ 600000; omega, by show 10 + 783 ≤ 7302250; omega⟩) hS (fun ad10 H locs hE11 hX hW hS => ?_)
  refine W.widen (k := 27) (n := 793) (by omega) (by omega) ?_
  show W _ _ _ _ _ _ _ _ _ _ _ _ _ _ _ (F0 m 7 ls [lh_r ad2 9 (some (gvN S 9))])
  rw [lh_rE hE11 L5]
  have hE : lh_E S ad ad10 := lh_E.trans hE hm hE11
  have m12 : ∀ b, gvN S1 b ≤ gvN S8 b := hX.1
  have L5 : ∀ j, some (gvN S 9) = some j → j < gvN S8 9 := fun j h => Nat.lt_of_lt_of_le (L5 j h) (m12 _)
  have hm : ∀ b, gvN S b ≤ gvN S8 b := lh_le_trans hm m12
  have ok := lh_W_ok hW
  refine lh_astore_n (i := 1) (lv' := [(1, lh_r ad10 9 (some (gvN S 9))), (0, .ref b)]) hx hb dL_law_7 rfl hl (by decide) (by first | rfl | simp [lh_cat_r, lh_cat_i, lh_cat_j]) (fun ls hl => ?_)
  obtain ⟨S13, eS13, hf⟩ := dc_let_ok hf
  refine lh_new (a := 10) (N := 42) (C := RX10) (T := TX10) (own := RL) hx hb hts (fun _ h => (List.mem_append_left _ (List.mem_append_left _ (List.mem_append_left _ (List.mem_append_left _ (List.mem_append_left _ (List.mem_append_left _ (List.mem_append_left _ (List.mem_append_left _ (List.mem_append_left _ (List.mem_append_left _ (List.mem_append_right _ h)))))))))))) tyX10 tyX10_ok hown (hts (.classLink RL 10 RX10) (List.mem_append_left _ (List.mem_append_left _ (List.mem_append_left _ (List.mem_append_left _ (List.mem_append_left _ (List.mem_append_left _ (List.mem_append_left _ (List.mem_append_left _ (List.mem_append_left _ (List.mem_append_left _ (List.mem_append_left _ (List.mem_append_left _ (List.mem_append_left _ (List.mem_of_getElem? (i := 3) rfl))))))))))))))) (hts (.instantiable RX10 42) (List.mem_append_left _ (List.mem_append_left _ (List.mem_append_left _ (List.mem_append_left _ (List.mem_append_left _ (List.mem_append_left _ (List.mem_append_left _ (List.mem_append_left _ (List.mem_append_left _ (List.mem_append_left _ (List.mem_append_left _ (List.mem_append_left _ (List.mem_append_left _ (List.mem_of_getElem? (i := 4) rfl))))))))))))))) (hts (.initialized RX10) (List.mem_append_left _ (List.mem_append_left _ (List.mem_append_left _ (List.mem_append_left _ (List.mem_append_left _ (List.mem_append_left _ (List.mem_append_left _ (List.mem_append_left _ (List.mem_append_left _ (List.mem_append_left _ (List.mem_append_left _ (List.mem_append_left _ (List.mem_append_left _ (List.mem_of_getElem? (i := 5) rfl))))))))))))))) hK hW hS hA rfl rfl rfl (by decide +kernel) (by show 27 + 1 ≤ 600000; omega) (by show 793 + 42 ≤ 7302250; omega) dL_law_8 (fun ad14 H hE15 hW hS => ?_)
  rw [lh_rE hE15 L5] at hl
  have hE : lh_E S ad ad14 := lh_E.trans hE hm hE15
  rw [← eS13] at hW
  have m16 : ∀ b, gvN S8 b ≤ gvN S13 b := by rw [eS13]; exact lh_mN
  have L5 : ∀ j, some (gvN S 9) = some j → j < gvN S13 9 := fun j h => Nat.lt_of_lt_of_le (L5 j h) (m16 _)
  have hm : ∀ b, gvN S b ≤ gvN S13 b := lh_le_trans hm m16
  have ok := lh_W_ok hW
  have L17 : ∀ j, some (gvN S8 10) = some j → j < gvN S13 10 := lh_ls (by rw [eS13]; exact lh_nN)
  refine lv_dup hx hb dL_law_11 lh_cat_r ?_
  obtain ⟨r19, S20, k21, hf⟩ := dc_bd_ok hf
  refine lh_callA (S' := S20) (lh_ri ⟨hx, hb, hml, hown, hts⟩ rfl (As := []) (rest := [lh_r ad14 10 (some (gvN S8 10))]) (k := 10) (c_X10_init l D cT n S13 ad14 A H.size (fun q9 h9 => hA q9 (Nat.le_trans hS.1 h9)) (gvN S8 10) r19 S20 k21 L17) (cwI 0 hts gL_law_X10_init rfl rfl rfl (hts (.initialized RX10) (List.mem_append_left _ (List.mem_append_left _ (List.mem_append_left _ (List.mem_append_left _ (List.mem_append_left _ (List.mem_append_left _ (List.mem_append_left _ (List.mem_append_left _ (List.mem_append_left _ (List.mem_append_left _ (List.mem_append_left _ (List.mem_append_left _ (List.mem_append_left _ (List.mem_of_getElem? (i := 5) rfl))))))))))))))) (hts (.methodLink RL 12 yX10_init) (List.mem_append_left _ (List.mem_append_left _ (List.mem_append_left _ (List.mem_append_left _ (List.mem_append_left _ (List.mem_append_left _ (List.mem_append_left _ (List.mem_append_left _ (List.mem_append_left _ (List.mem_append_left _ (List.mem_append_left _ (List.mem_append_left _ (List.mem_append_right _ (List.mem_append_right _ (List.mem_append_right _ (List.mem_append_left _ (List.mem_of_getElem? (i := 15) rfl)))))))))))))))))) (hts (.instanceMethod yX10_init) (List.mem_append_left _ (List.mem_append_left _ (List.mem_append_left _ (List.mem_append_left _ (List.mem_append_left _ (List.mem_append_left _ (List.mem_append_left _ (List.mem_append_left _ (List.mem_append_left _ (List.mem_append_left _ (List.mem_append_left _ (List.mem_append_left _ (List.mem_append_right _ (List.mem_append_right _ (List.mem_append_right _ (List.mem_append_left _ (List.mem_of_getElem? (i := 16) rfl)))))))))))))))))) rfl (by decide +kernel) ⟨Nat.le_of_ble_eq_true rfl, Nat.le_of_ble_eq_true rfl⟩) hK hN hW rfl hl.1 rfl (by simp [lh_cat_r, lh_cat_i, lh_cat_j]) dL_law_12 ⟨by show 28 + 31 ≤ 600000; omega, by show 835 + 5877 ≤ 7302250; omega⟩) hS (fun ad22 H locs hE23 hX hW hS => ?_)
  refine W.widen (k := 59) (n := 6712) (by omega) (by omega) ?_
  show W _ _ _ _ _ _ _ _ _ _ _ _ _ _ _ (F0 m 15 ls [lh_r ad14 10 (some (gvN S8 10))])
  rw [lh_rE hE23 L5] at hl
  rw [lh_rE hE23 L17]
  have hE : lh_E S ad ad22 := lh_E.trans hE hm hE23
  have m24 : ∀ b, gvN S13 b ≤ gvN S20 b := hX.1
  have L5 : ∀ j, some (gvN S 9) = some j → j < gvN S20 9 := fun j h => Nat.lt_of_lt_of_le (L5 j h) (m24 _)
  have L17 : ∀ j, some (gvN S8 10) = some j → j < gvN S20 10 := fun j h => Nat.lt_of_lt_of_le (L17 j h) (m24 _)
  have hm : ∀ b, gvN S b ≤ gvN S20 b := lh_le_trans hm m24
  have ok := lh_W_ok hW
  refine lh_astore_n (i := 2) (lv' := [(2, lh_r ad22 10 (some (gvN S8 10))), (1, lh_r ad22 9 (some (gvN S 9))), (0, .ref b)]) hx hb dL_law_15 rfl hl (by decide) (by first | rfl | simp [lh_cat_r, lh_cat_i, lh_cat_j]) (fun ls hl => ?_)
  refine lv_iconst (v := 0) hx hb dL_law_16 (by decide) ?_
  refine lv_istore_n (i := 3) (lv' := [(3, .int (0 : Int32)), (2, lh_r ad22 10 (some (gvN S8 10))), (1, lh_r ad22 9 (some (gvN S 9))), (0, .ref b)]) hx hb dL_law_17 rfl hl (by decide) (by first | rfl | simp [lh_cat_r, lh_cat_i, lh_cat_j]) (fun ls hl => ?_)
  exact L18 600 S20 (some (gvN S 9)) (some (gvN S8 10)) (0 : Int32) ad22 hf hm hE L5 L17 59 6712 (by omega) (by omega) _ _ hW hS _ (lv_sub hl [3, 2, 1, 0] (by first | rfl | simp [lv_pick]))
