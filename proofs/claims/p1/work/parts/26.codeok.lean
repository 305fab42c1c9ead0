/-! the code of each method is what its bytes say -/
theorem xk_app {cc : ByteArray} {a b : List (Nat × Instr)} (h1 : xk_code cc a = true) (h2 : xk_code cc b = true) : xk_code cc (a ++ b) = true := by
  unfold xk_code at *
  rw [List.all_append, h1, h2]
  rfl
theorem xk_c0_0 : xk_code code xt_c0_0 = true := by decide +kernel
theorem xk_c0_1 : xk_code code xt_c0_1 = true := by decide +kernel
theorem xk_c0_2 : xk_code code xt_c0_2 = true := by decide +kernel
theorem xk_c0_3 : xk_code code xt_c0_3 = true := by decide +kernel
theorem xk_c0_4 : xk_code code xt_c0_4 = true := by decide +kernel
theorem xk_c0_5 : xk_code code xt_c0_5 = true := by decide +kernel
theorem xk_c0 : xk_code code xt_c0 = true := (xk_app xk_c0_0 (xk_app xk_c0_1 (xk_app xk_c0_2 (xk_app xk_c0_3 (xk_app xk_c0_4 xk_c0_5)))))
theorem xk_c1_0 : xk_code prog_1_method_1_code xt_c1_0 = true := by decide +kernel
theorem xk_c1_1 : xk_code prog_1_method_1_code xt_c1_1 = true := by decide +kernel
theorem xk_c1 : xk_code prog_1_method_1_code xt_c1 = true := (xk_app xk_c1_0 xk_c1_1)
theorem xk_c2 : xk_code prog_8_method_1_code xt_c2 = true := by decide +kernel
theorem xk_c3 : xk_code prog_3_method_1_code xt_c3 = true := by decide +kernel
theorem xk_c4 : xk_code prog_27_method_103_code xt_c4 = true := by decide +kernel
theorem xk_c5 : xk_code prog_3_method_2_code xt_c5 = true := by decide +kernel
theorem xk_c6 : xk_code prog_20_method_54_code xt_c6 = true := by decide +kernel
theorem xk_c7 : xk_code prog_20_method_152_code xt_c7 = true := by decide +kernel
theorem xk_c8 : xk_code prog_20_method_56_code xt_c8 = true := by decide +kernel
theorem xk_c9 : xk_code prog_20_method_154_code xt_c9 = true := by decide +kernel
theorem xk_c10 : xk_code prog_21_method_2_code xt_c10 = true := by decide +kernel
theorem xk_c11 : xk_code prog_20_method_155_code xt_c11 = true := by decide +kernel
theorem xk_c12 : xk_code prog_34_method_11_code xt_c12 = true := by decide +kernel
theorem xk_c13 : xk_code prog_3_method_6_code xt_c13 = true := by decide +kernel
theorem xk_c14_0 : xk_code prog_3_method_8_code xt_c14_0 = true := by decide +kernel
theorem xk_c14_1 : xk_code prog_3_method_8_code xt_c14_1 = true := by decide +kernel
theorem xk_c14_2 : xk_code prog_3_method_8_code xt_c14_2 = true := by decide +kernel
theorem xk_c14 : xk_code prog_3_method_8_code xt_c14 = true := (xk_app xk_c14_0 (xk_app xk_c14_1 xk_c14_2))
theorem xk_c15 : xk_code prog_3_method_9_code xt_c15 = true := by decide +kernel
theorem xk_c16 : xk_code prog_3_method_3_code xt_c16 = true := by decide +kernel
theorem xk_c17 : xk_code prog_20_method_79_code xt_c17 = true := by decide +kernel
theorem xk_c18 : xk_code prog_20_method_80_code xt_c18 = true := by decide +kernel
theorem xk_c19 : xk_code prog_21_method_22_code xt_c19 = true := by decide +kernel
theorem xk_c20 : xk_code prog_21_method_4_code xt_c20 = true := by decide +kernel
theorem xk_c21 : xk_code prog_21_method_23_code xt_c21 = true := by decide +kernel
theorem xk_c22 : xk_code prog_7_method_1_code xt_c22 = true := by decide +kernel
theorem xk_c23 : xk_code prog_9_method_1_code xt_c23 = true := by decide +kernel
theorem xk_c24 : xk_code prog_2_method_1_code xt_c24 = true := by decide +kernel
theorem xk_c25 : xk_code prog_26_method_2_code xt_c25 = true := by decide +kernel
theorem xk_c26 : xk_code prog_25_method_1_code xt_c26 = true := by decide +kernel
theorem xk_c27 : xk_code prog_24_method_1_code xt_c27 = true := by decide +kernel
theorem xk_c28 : xk_code prog_11_method_1_code xt_c28 = true := by decide +kernel
theorem xk_c29 : xk_code prog_6_method_1_code xt_c29 = true := by decide +kernel
theorem xk_c30 : xk_code prog_5_method_1_code xt_c30 = true := by decide +kernel
theorem xk_c31 : xk_code prog_3_method_4_code xt_c31 = true := by decide +kernel
theorem xk_c32 : xk_code prog_1_method_2_code xt_c32 = true := by decide +kernel
theorem xk_c33_0 : xk_code prog_1_method_3_code xt_c33_0 = true := by decide +kernel
theorem xk_c33_1 : xk_code prog_1_method_3_code xt_c33_1 = true := by decide +kernel
theorem xk_c33 : xk_code prog_1_method_3_code xt_c33 = true := (xk_app xk_c33_0 xk_c33_1)
theorem xk_c34 : xk_code prog_8_method_2_code xt_c34 = true := by decide +kernel
theorem xk_c35 : xk_code prog_8_method_5_code xt_c35 = true := by decide +kernel
theorem xk_c36 : xk_code prog_1_method_4_code xt_c36 = true := by decide +kernel
theorem xk_c37_0 : xk_code prog_1_method_5_code xt_c37_0 = true := by decide +kernel
theorem xk_c37_1 : xk_code prog_1_method_5_code xt_c37_1 = true := by decide +kernel
theorem xk_c37 : xk_code prog_1_method_5_code xt_c37 = true := (xk_app xk_c37_0 xk_c37_1)
theorem xk_c38 : xk_code prog_9_method_2_code xt_c38 = true := by decide +kernel
theorem xk_c39 : xk_code prog_8_method_8_code xt_c39 = true := by decide +kernel
theorem xk_c40_0 : xk_code prog_7_method_2_code xt_c40_0 = true := by decide +kernel
theorem xk_c40_1 : xk_code prog_7_method_2_code xt_c40_1 = true := by decide +kernel
theorem xk_c40 : xk_code prog_7_method_2_code xt_c40 = true := (xk_app xk_c40_0 xk_c40_1)
theorem xk_c41 : xk_code prog_7_method_3_code xt_c41 = true := by decide +kernel
theorem xk_c42 : xk_code prog_7_method_4_code xt_c42 = true := by decide +kernel
theorem xk_c43 : xk_code prog_8_method_3_code xt_c43 = true := by decide +kernel
theorem xk_c44 : xk_code prog_8_method_4_code xt_c44 = true := by decide +kernel
theorem xk_c45 : xk_code prog_1_method_12_code xt_c45 = true := by decide +kernel
theorem xk_c46 : xk_code prog_2_method_2_code xt_c46 = true := by decide +kernel
theorem xk_c47 : xk_code prog_26_method_8_code xt_c47 = true := by decide +kernel
theorem xk_c48 : xk_code prog_2_method_3_code xt_c48 = true := by decide +kernel
theorem xk_c49 : xk_code prog_3_method_10_code xt_c49 = true := by decide +kernel
theorem xk_c50 : xk_code prog_1_method_6_code xt_c50 = true := by decide +kernel
theorem xk_c51 : xk_code prog_1_method_7_code xt_c51 = true := by decide +kernel
theorem xk_c52 : xk_code prog_1_method_8_code xt_c52 = true := by decide +kernel
theorem xk_c53 : xk_code prog_1_method_9_code xt_c53 = true := by decide +kernel
theorem xk_c54 : xk_code prog_9_method_3_code xt_c54 = true := by decide +kernel
theorem xk_c55 : xk_code prog_1_method_10_code xt_c55 = true := by decide +kernel
theorem xk_c56 : xk_code prog_9_method_4_code xt_c56 = true := by decide +kernel
theorem xk_c57_0 : xk_code prog_1_method_11_code xt_c57_0 = true := by decide +kernel
theorem xk_c57_1 : xk_code prog_1_method_11_code xt_c57_1 = true := by decide +kernel
theorem xk_c57 : xk_code prog_1_method_11_code xt_c57 = true := (xk_app xk_c57_0 xk_c57_1)
theorem xk_c58 : xk_code prog_2_method_4_code xt_c58 = true := by decide +kernel
theorem xk_c59_0 : xk_code prog_14_method_1_code xt_c59_0 = true := by decide +kernel
theorem xk_c59_1 : xk_code prog_14_method_1_code xt_c59_1 = true := by decide +kernel
theorem xk_c59_2 : xk_code prog_14_method_1_code xt_c59_2 = true := by decide +kernel
theorem xk_c59_3 : xk_code prog_14_method_1_code xt_c59_3 = true := by decide +kernel
theorem xk_c59_4 : xk_code prog_14_method_1_code xt_c59_4 = true := by decide +kernel
theorem xk_c59_5 : xk_code prog_14_method_1_code xt_c59_5 = true := by decide +kernel
theorem xk_c59_6 : xk_code prog_14_method_1_code xt_c59_6 = true := by decide +kernel
theorem xk_c59_7 : xk_code prog_14_method_1_code xt_c59_7 = true := by decide +kernel
theorem xk_c59_8 : xk_code prog_14_method_1_code xt_c59_8 = true := by decide +kernel
theorem xk_c59_9 : xk_code prog_14_method_1_code xt_c59_9 = true := by decide +kernel
theorem xk_c59_10 : xk_code prog_14_method_1_code xt_c59_10 = true := by decide +kernel
theorem xk_c59_11 : xk_code prog_14_method_1_code xt_c59_11 = true := by decide +kernel
theorem xk_c59_12 : xk_code prog_14_method_1_code xt_c59_12 = true := by decide +kernel
theorem xk_c59_13 : xk_code prog_14_method_1_code xt_c59_13 = true := by decide +kernel
theorem xk_c59_14 : xk_code prog_14_method_1_code xt_c59_14 = true := by decide +kernel
theorem xk_c59_15 : xk_code prog_14_method_1_code xt_c59_15 = true := by decide +kernel
theorem xk_c59_16 : xk_code prog_14_method_1_code xt_c59_16 = true := by decide +kernel
theorem xk_c59 : xk_code prog_14_method_1_code xt_c59 = true := (xk_app xk_c59_0 (xk_app xk_c59_1 (xk_app xk_c59_2 (xk_app xk_c59_3 (xk_app xk_c59_4 (xk_app xk_c59_5 (xk_app xk_c59_6 (xk_app xk_c59_7 (xk_app xk_c59_8 (xk_app xk_c59_9 (xk_app xk_c59_10 (xk_app xk_c59_11 (xk_app xk_c59_12 (xk_app xk_c59_13 (xk_app xk_c59_14 (xk_app xk_c59_15 xk_c59_16))))))))))))))))
theorem xk_c60 : xk_code prog_14_method_3_code xt_c60 = true := by decide +kernel
theorem xk_c61 : xk_code prog_14_method_4_code xt_c61 = true := by decide +kernel
theorem xk_c62_0 : xk_code prog_14_method_12_code xt_c62_0 = true := by decide +kernel
theorem xk_c62_1 : xk_code prog_14_method_12_code xt_c62_1 = true := by decide +kernel
theorem xk_c62 : xk_code prog_14_method_12_code xt_c62 = true := (xk_app xk_c62_0 xk_c62_1)
theorem xk_c63 : xk_code prog_14_method_7_code xt_c63 = true := by decide +kernel
theorem xk_c64 : xk_code prog_14_method_11_code xt_c64 = true := by decide +kernel
theorem xk_c65_0 : xk_code prog_14_method_8_code xt_c65_0 = true := by decide +kernel
theorem xk_c65_1 : xk_code prog_14_method_8_code xt_c65_1 = true := by decide +kernel
theorem xk_c65 : xk_code prog_14_method_8_code xt_c65 = true := (xk_app xk_c65_0 xk_c65_1)
theorem xk_c66_0 : xk_code prog_14_method_116_code xt_c66_0 = true := by decide +kernel
theorem xk_c66_1 : xk_code prog_14_method_116_code xt_c66_1 = true := by decide +kernel
theorem xk_c66_2 : xk_code prog_14_method_116_code xt_c66_2 = true := by decide +kernel
theorem xk_c66 : xk_code prog_14_method_116_code xt_c66 = true := (xk_app xk_c66_0 (xk_app xk_c66_1 xk_c66_2))
theorem xk_c67_0 : xk_code prog_14_method_117_code xt_c67_0 = true := by decide +kernel
theorem xk_c67_1 : xk_code prog_14_method_117_code xt_c67_1 = true := by decide +kernel
theorem xk_c67 : xk_code prog_14_method_117_code xt_c67 = true := (xk_app xk_c67_0 xk_c67_1)
theorem xk_c68 : xk_code prog_14_method_118_code xt_c68 = true := by decide +kernel
theorem xk_c69_0 : xk_code prog_14_method_119_code xt_c69_0 = true := by decide +kernel
theorem xk_c69_1 : xk_code prog_14_method_119_code xt_c69_1 = true := by decide +kernel
theorem xk_c69 : xk_code prog_14_method_119_code xt_c69 = true := (xk_app xk_c69_0 xk_c69_1)
theorem xk_c70_0 : xk_code prog_14_method_34_code xt_c70_0 = true := by decide +kernel
theorem xk_c70_1 : xk_code prog_14_method_34_code xt_c70_1 = true := by decide +kernel
theorem xk_c70 : xk_code prog_14_method_34_code xt_c70 = true := (xk_app xk_c70_0 xk_c70_1)
theorem xk_c71_0 : xk_code prog_14_method_25_code xt_c71_0 = true := by decide +kernel
theorem xk_c71_1 : xk_code prog_14_method_25_code xt_c71_1 = true := by decide +kernel
theorem xk_c71 : xk_code prog_14_method_25_code xt_c71 = true := (xk_app xk_c71_0 xk_c71_1)
theorem xk_c72 : xk_code prog_14_method_26_code xt_c72 = true := by decide +kernel
theorem xk_c73 : xk_code prog_14_method_13_code xt_c73 = true := by decide +kernel
theorem xk_c74 : xk_code prog_14_method_120_code xt_c74 = true := by decide +kernel
theorem xk_c75 : xk_code prog_14_method_121_code xt_c75 = true := by decide +kernel
theorem xk_c76 : xk_code prog_14_method_122_code xt_c76 = true := by decide +kernel
theorem xk_c77 : xk_code prog_14_method_123_code xt_c77 = true := by decide +kernel
theorem xk_c78 : xk_code prog_14_method_124_code xt_c78 = true := by decide +kernel
theorem xk_c79_0 : xk_code prog_14_method_125_code xt_c79_0 = true := by decide +kernel
theorem xk_c79_1 : xk_code prog_14_method_125_code xt_c79_1 = true := by decide +kernel
theorem xk_c79_2 : xk_code prog_14_method_125_code xt_c79_2 = true := by decide +kernel
theorem xk_c79 : xk_code prog_14_method_125_code xt_c79 = true := (xk_app xk_c79_0 (xk_app xk_c79_1 xk_c79_2))
theorem xk_codes : ∀ k pc i, (xt_code k).lookup pc = some i → xx_dec (xt_bt k) pc i := by
  intro k pc i h
  match k, h with
  | 0, h => exact xk_code_ok xk_c0 h
  | 1, h => exact xk_code_ok xk_c1 h
  | 2, h => exact xk_code_ok xk_c2 h
  | 3, h => exact xk_code_ok xk_c3 h
  | 4, h => exact xk_code_ok xk_c4 h
  | 5, h => exact xk_code_ok xk_c5 h
  | 6, h => exact xk_code_ok xk_c6 h
  | 7, h => exact xk_code_ok xk_c7 h
  | 8, h => exact xk_code_ok xk_c8 h
  | 9, h => exact xk_code_ok xk_c9 h
  | 10, h => exact xk_code_ok xk_c10 h
  | 11, h => exact xk_code_ok xk_c11 h
  | 12, h => exact xk_code_ok xk_c12 h
  | 13, h => exact xk_code_ok xk_c13 h
  | 14, h => exact xk_code_ok xk_c14 h
  | 15, h => exact xk_code_ok xk_c15 h
  | 16, h => exact xk_code_ok xk_c16 h
  | 17, h => exact xk_code_ok xk_c17 h
  | 18, h => exact xk_code_ok xk_c18 h
  | 19, h => exact xk_code_ok xk_c19 h
  | 20, h => exact xk_code_ok xk_c20 h
  | 21, h => exact xk_code_ok xk_c21 h
  | 22, h => exact xk_code_ok xk_c22 h
  | 23, h => exact xk_code_ok xk_c23 h
  | 24, h => exact xk_code_ok xk_c24 h
  | 25, h => exact xk_code_ok xk_c25 h
  | 26, h => exact xk_code_ok xk_c26 h
  | 27, h => exact xk_code_ok xk_c27 h
  | 28, h => exact xk_code_ok xk_c28 h
  | 29, h => exact xk_code_ok xk_c29 h
  | 30, h => exact xk_code_ok xk_c30 h
  | 31, h => exact xk_code_ok xk_c31 h
  | 32, h => exact xk_code_ok xk_c32 h
  | 33, h => exact xk_code_ok xk_c33 h
  | 34, h => exact xk_code_ok xk_c34 h
  | 35, h => exact xk_code_ok xk_c35 h
  | 36, h => exact xk_code_ok xk_c36 h
  | 37, h => exact xk_code_ok xk_c37 h
  | 38, h => exact xk_code_ok xk_c38 h
  | 39, h => exact xk_code_ok xk_c39 h
  | 40, h => exact xk_code_ok xk_c40 h
  | 41, h => exact xk_code_ok xk_c41 h
  | 42, h => exact xk_code_ok xk_c42 h
  | 43, h => exact xk_code_ok xk_c43 h
  | 44, h => exact xk_code_ok xk_c44 h
  | 45, h => exact xk_code_ok xk_c45 h
  | 46, h => exact xk_code_ok xk_c46 h
  | 47, h => exact xk_code_ok xk_c47 h
  | 48, h => exact xk_code_ok xk_c48 h
  | 49, h => exact xk_code_ok xk_c49 h
  | 50, h => exact xk_code_ok xk_c50 h
  | 51, h => exact xk_code_ok xk_c51 h
  | 52, h => exact xk_code_ok xk_c52 h
  | 53, h => exact xk_code_ok xk_c53 h
  | 54, h => exact xk_code_ok xk_c54 h
  | 55, h => exact xk_code_ok xk_c55 h
  | 56, h => exact xk_code_ok xk_c56 h
  | 57, h => exact xk_code_ok xk_c57 h
  | 58, h => exact xk_code_ok xk_c58 h
  | 59, h => exact xk_code_ok xk_c59 h
  | 60, h => exact xk_code_ok xk_c60 h
  | 61, h => exact xk_code_ok xk_c61 h
  | 62, h => exact xk_code_ok xk_c62 h
  | 63, h => exact xk_code_ok xk_c63 h
  | 64, h => exact xk_code_ok xk_c64 h
  | 65, h => exact xk_code_ok xk_c65 h
  | 66, h => exact xk_code_ok xk_c66 h
  | 67, h => exact xk_code_ok xk_c67 h
  | 68, h => exact xk_code_ok xk_c68 h
  | 69, h => exact xk_code_ok xk_c69 h
  | 70, h => exact xk_code_ok xk_c70 h
  | 71, h => exact xk_code_ok xk_c71 h
  | 72, h => exact xk_code_ok xk_c72 h
  | 73, h => exact xk_code_ok xk_c73 h
  | 74, h => exact xk_code_ok xk_c74 h
  | 75, h => exact xk_code_ok xk_c75 h
  | 76, h => exact xk_code_ok xk_c76 h
  | 77, h => exact xk_code_ok xk_c77 h
  | 78, h => exact xk_code_ok xk_c78 h
  | 79, h => exact xk_code_ok xk_c79 h
  | k + 80, h => simp [xt_code] at h
