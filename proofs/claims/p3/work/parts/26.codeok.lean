theorem xk_app {cc : ByteArray} {a b : List (Nat × Instr)} (h1 : xk_code cc a = true) (h2 : xk_code cc b = true) : xk_code cc (a ++ b) = true := by
  unfold xk_code at *
  rw [List.all_append, h1, h2]
  rfl
theorem xk_c0_0 : xk_code code xt_c0_0 = true := by decide +kernel
theorem xk_c0_1 : xk_code code xt_c0_1 = true := by decide +kernel
theorem xk_c0_2 : xk_code code xt_c0_2 = true := by decide +kernel
theorem xk_c0_3 : xk_code code xt_c0_3 = true := by decide +kernel
theorem xk_c0_4 : xk_code code xt_c0_4 = true := by decide +kernel
theorem xk_c0_5 : xk_code code xt_c0_5 = true := by decide +kernel
theorem xk_c0 : xk_code code xt_c0 = true := (xk_app xk_c0_0 (xk_app xk_c0_1 (xk_app xk_c0_2 (xk_app xk_c0_3 (xk_app xk_c0_4 xk_c0_5)))))
theorem xk_c1_0 : xk_code prog_1_method_1_code xt_c1_0 = true := by decide +kernel
theorem xk_c1_1 : xk_code prog_1_method_1_code xt_c1_1 = true := by decide +kernel
theorem xk_c1 : xk_code prog_1_method_1_code xt_c1 = true := (xk_app xk_c1_0 xk_c1_1)
theorem xk_c2 : xk_code prog_8_method_1_code xt_c2 = true := by decide +kernel
theorem xk_c3 : xk_code prog_3_method_1_code xt_c3 = true := by decide +kernel
theorem xk_c4 : xk_code prog_27_method_103_code xt_c4 = true := by decide +kernel
theorem xk_c5 : xk_code prog_3_method_2_code xt_c5 = true := by decide +kernel
theorem xk_c6 : xk_code prog_20_method_54_code xt_c6 = true := by decide +kernel
theorem xk_c7 : xk_code prog_20_method_152_code xt_c7 = true := by decide +kernel
theorem xk_c8 : xk_code prog_20_method_56_code xt_c8 = true := by decide +kernel
theorem xk_c9 : xk_code prog_20_method_154_code xt_c9 = true := by decide +kernel
theorem xk_c10 : xk_code prog_21_method_2_code xt_c10 = true := by decide +kernel
theorem xk_c11 : xk_code prog_20_method_155_code xt_c11 = true := by decide +kernel
theorem xk_c12 : xk_code prog_34_method_11_code xt_c12 = true := by decide +kernel
theorem xk_c13 : xk_code prog_3_method_6_code xt_c13 = true := by decide +kernel
theorem xk_c14_0 : xk_code prog_3_method_8_code xt_c14_0 = true := by decide +kernel
theorem xk_c14_1 : xk_code prog_3_method_8_code xt_c14_1 = true := by decide +kernel
theorem xk_c14_2 : xk_code prog_3_method_8_code xt_c14_2 = true := by decide +kernel
theorem xk_c14 : xk_code prog_3_method_8_code xt_c14 = true := (xk_app xk_c14_0 (xk_app xk_c14_1 xk_c14_2))
theorem xk_c15 : xk_code prog_3_method_9_code xt_c15 = true := by decide +kernel
theorem xk_c16 : xk_code prog_3_method_3_code xt_c16 = true := by decide +kernel
theorem xk_c17 : xk_code prog_20_method_79_code xt_c17 = true := by decide +kernel
theorem xk_c18 : xk_code prog_20_method_80_code xt_c18 = true := by decide +kernel
theorem xk_c19 : xk_code prog_21_method_22_code xt_c19 = true := by decide +kernel
theorem xk_c20 : xk_code prog_21_method_4_code xt_c20 = true := by decide +kernel
theorem xk_c21 : xk_code prog_21_method_23_code xt_c21 = true := by decide +kernel
theorem xk_c22 : xk_code prog_7_method_1_code xt_c22 = true := by decide +kernel
theorem xk_c23 : xk_code prog_9_method_1_code xt_c23 = true := by decide +kernel
theorem xk_c24 : xk_code prog_2_method_1_code xt_c24 = true := by decide +kernel
theorem xk_c25 : xk_code prog_26_method_2_code xt_c25 = true := by decide +kernel
theorem xk_c26 : xk_code prog_25_method_1_code xt_c26 = true := by decide +kernel
theorem xk_c27 : xk_code prog_24_method_1_code xt_c27 = true := by decide +kernel
theorem xk_c28 : xk_code prog_11_method_1_code xt_c28 = true := by decide +kernel
theorem xk_c29 : xk_code prog_6_method_1_code xt_c29 = true := by decide +kernel
theorem xk_c30 : xk_code prog_5_method_1_code xt_c30 = true := by decide +kernel
theorem xk_c31 : xk_code prog_3_method_4_code xt_c31 = true := by decide +kernel
theorem xk_c32 : xk_code prog_1_method_2_code xt_c32 = true := by decide +kernel
theorem xk_c33_0 : xk_code prog_1_method_3_code xt_c33_0 = true := by decide +kernel
theorem xk_c33_1 : xk_code prog_1_method_3_code xt_c33_1 = true := by decide +kernel
theorem xk_c33 : xk_code prog_1_method_3_code xt_c33 = true := (xk_app xk_c33_0 xk_c33_1)
theorem xk_c34 : xk_code prog_8_method_2_code xt_c34 = true := by decide +kernel
theorem xk_c35 : xk_code prog_8_method_5_code xt_c35 = true := by decide +kernel
theorem xk_c36 : xk_code prog_1_method_4_code xt_c36 = true := by decide +kernel
theorem xk_c37_0 : xk_code prog_1_method_5_code xt_c37_0 = true := by decide +kernel
theorem xk_c37_1 : xk_code prog_1_method_5_code xt_c37_1 = true := by decide +kernel
theorem xk_c37 : xk_code prog_1_method_5_code xt_c37 = true := (xk_app xk_c37_0 xk_c37_1)
theorem xk_c38 : xk_code prog_9_method_2_code xt_c38 = true := by decide +kernel
theorem xk_c39 : xk_code prog_8_method_8_code xt_c39 = true := by decide +kernel
theorem xk_c40_0 : xk_code prog_7_method_2_code xt_c40_0 = true := by decide +kernel
theorem xk_c40_1 : xk_code prog_7_method_2_code xt_c40_1 = true := by decide +kernel
theorem xk_c40 : xk_code prog_7_method_2_code xt_c40 = true := (xk_app xk_c40_0 xk_c40_1)
theorem xk_c41 : xk_code prog_7_method_3_code xt_c41 = true := by decide +kernel
theorem xk_c42 : xk_code prog_7_method_4_code xt_c42 = true := by decide +kernel
theorem xk_c43 : xk_code prog_8_method_3_code xt_c43 = true := by decide +kernel
theorem xk_c44 : xk_code prog_8_method_4_code xt_c44 = true := by decide +kernel
theorem xk_c45 : xk_code prog_1_method_12_code xt_c45 = true := by decide +kernel
theorem xk_c46 : xk_code prog_2_method_2_code xt_c46 = true := by decide +kernel
theorem xk_c47 : xk_code prog_26_method_8_code xt_c47 = true := by decide +kernel
theorem xk_c48 : xk_code prog_2_method_3_code xt_c48 = true := by decide +kernel
theorem xk_c49 : xk_code prog_3_method_10_code xt_c49 = true := by decide +kernel
theorem xk_c50 : xk_code prog_1_method_6_code xt_c50 = true := by decide +kernel
theorem xk_c51 : xk_code prog_1_method_7_code xt_c51 = true := by decide +kernel
theorem xk_c52 : xk_code prog_1_method_8_code xt_c52 = true := by decide +kernel
theorem xk_c53 : xk_code prog_1_method_9_code xt_c53 = true := by decide +kernel
theorem xk_c54 : xk_code prog_9_method_3_code xt_c54 = true := by decide +kernel
theorem xk_c55 : xk_code prog_1_method_10_code xt_c55 = true := by decide +kernel
theorem xk_c56 : xk_code prog_9_method_4_code xt_c56 = true := by decide +kernel
theorem xk_c57_0 : xk_code prog_1_method_11_code xt_c57_0 = true := by decide +kernel
theorem xk_c57_1 : xk_code prog_1_method_11_code xt_c57_1 = true := by decide +kernel
theorem xk_c57 : xk_code prog_1_method_11_code xt_c57 = true := (xk_app xk_c57_0 xk_c57_1)
theorem xk_c58 : xk_code prog_2_method_4_code xt_c58 = true := by decide +kernel
theorem xk_c59_0 : xk_code prog_14_method_1_code xt_c59_0 = true := by decide +kernel
theorem xk_c59_1 : xk_code prog_14_method_1_code xt_c59_1 = true := by decide +kernel
theorem xk_c59_2 : xk_code prog_14_method_1_code xt_c59_2 = true := by decide +kernel
theorem xk_c59_3 : xk_code prog_14_method_1_code xt_c59_3 = true := by decide +kernel
theorem xk_c59_4 : xk_code prog_14_method_1_code xt_c59_4 = true := by decide +kernel
theorem xk_c59_5 : xk_code prog_14_method_1_code xt_c59_5 = true := by decide +kernel
theorem xk_c59_6 : xk_code prog_14_method_1_code xt_c59_6 = true := by decide +kernel
theorem xk_c59_7 : xk_code prog_14_method_1_code xt_c59_7 = true := by decide +kernel
theorem xk_c59_8 : xk_code prog_14_method_1_code xt_c59_8 = true := by decide +kernel
theorem xk_c59_9 : xk_code prog_14_method_1_code xt_c59_9 = true := by decide +kernel
theorem xk_c59_10 : xk_code prog_14_method_1_code xt_c59_10 = true := by decide +kernel
theorem xk_c59_11 : xk_code prog_14_method_1_code xt_c59_11 = true := by decide +kernel
theorem xk_c59_12 : xk_code prog_14_method_1_code xt_c59_12 = true := by decide +kernel
theorem xk_c59_13 : xk_code prog_14_method_1_code xt_c59_13 = true := by decide +kernel
theorem xk_c59_14 : xk_code prog_14_method_1_code xt_c59_14 = true := by decide +kernel
theorem xk_c59_15 : xk_code prog_14_method_1_code xt_c59_15 = true := by decide +kernel
theorem xk_c59_16 : xk_code prog_14_method_1_code xt_c59_16 = true := by decide +kernel
theorem xk_c59 : xk_code prog_14_method_1_code xt_c59 = true := (xk_app xk_c59_0 (xk_app xk_c59_1 (xk_app xk_c59_2 (xk_app xk_c59_3 (xk_app xk_c59_4 (xk_app xk_c59_5 (xk_app xk_c59_6 (xk_app xk_c59_7 (xk_app xk_c59_8 (xk_app xk_c59_9 (xk_app xk_c59_10 (xk_app xk_c59_11 (xk_app xk_c59_12 (xk_app xk_c59_13 (xk_app xk_c59_14 (xk_app xk_c59_15 xk_c59_16))))))))))))))))
theorem xk_c60 : xk_code prog_14_method_3_code xt_c60 = true := by decide +kernel
theorem xk_c61 : xk_code prog_14_method_4_code xt_c61 = true := by decide +kernel
theorem xk_c62_0 : xk_code prog_14_method_12_code xt_c62_0 = true := by decide +kernel
theorem xk_c62_1 : xk_code prog_14_method_12_code xt_c62_1 = true := by decide +kernel
theorem xk_c62 : xk_code prog_14_method_12_code xt_c62 = true := (xk_app xk_c62_0 xk_c62_1)
theorem xk_c63 : xk_code prog_14_method_7_code xt_c63 = true := by decide +kernel
theorem xk_c64 : xk_code prog_14_method_11_code xt_c64 = true := by decide +kernel
theorem xk_c65_0 : xk_code prog_14_method_8_code xt_c65_0 = true := by decide +kernel
theorem xk_c65_1 : xk_code prog_14_method_8_code xt_c65_1 = true := by decide +kernel
theorem xk_c65 : xk_code prog_14_method_8_code xt_c65 = true := (xk_app xk_c65_0 xk_c65_1)
theorem xk_c66_0 : xk_code prog_14_method_116_code xt_c66_0 = true := by decide +kernel
theorem xk_c66_1 : xk_code prog_14_method_116_code xt_c66_1 = true := by decide +kernel
theorem xk_c66_2 : xk_code prog_14_method_116_code xt_c66_2 = true := by decide +kernel
theorem xk_c66 : xk_code prog_14_method_116_code xt_c66 = true := (xk_app xk_c66_0 (xk_app xk_c66_1 xk_c66_2))
theorem xk_c67_0 : xk_code prog_14_method_117_code xt_c67_0 = true := by decide +kernel
theorem xk_c67_1 : xk_code prog_14_method_117_code xt_c67_1 = true := by decide +kernel
theorem xk_c67 : xk_code prog_14_method_117_code xt_c67 = true := (xk_app xk_c67_0 xk_c67_1)
theorem xk_c68 : xk_code prog_14_method_118_code xt_c68 = true := by decide +kernel
theorem xk_c69_0 : xk_code prog_14_method_119_code xt_c69_0 = true := by decide +kernel
theorem xk_c69_1 : xk_code prog_14_method_119_code xt_c69_1 = true := by decide +kernel
theorem xk_c69 : xk_code prog_14_method_119_code xt_c69 = true := (xk_app xk_c69_0 xk_c69_1)
theorem xk_c70_0 : xk_code prog_14_method_34_code xt_c70_0 = true := by decide +kernel
theorem xk_c70_1 : xk_code prog_14_method_34_code xt_c70_1 = true := by decide +kernel
theorem xk_c70 : xk_code prog_14_method_34_code xt_c70 = true := (xk_app xk_c70_0 xk_c70_1)
theorem xk_c71_0 : xk_code prog_14_method_25_code xt_c71_0 = true := by decide +kernel
theorem xk_c71_1 : xk_code prog_14_method_25_code xt_c71_1 = true := by decide +kernel
theorem xk_c71 : xk_code prog_14_method_25_code xt_c71 = true := (xk_app xk_c71_0 xk_c71_1)
theorem xk_c72 : xk_code prog_14_method_26_code xt_c72 = true := by decide +kernel
theorem xk_c73 : xk_code prog_14_method_13_code xt_c73 = true := by decide +kernel
theorem xk_c74 : xk_code prog_14_method_120_code xt_c74 = true := by decide +kernel
theorem xk_c75 : xk_code prog_14_method_121_code xt_c75 = true := by decide +kernel
theorem xk_c76 : xk_code prog_14_method_122_code xt_c76 = true := by decide +kernel
theorem xk_c77 : xk_code prog_14_method_123_code xt_c77 = true := by decide +kernel
theorem xk_c78 : xk_code prog_14_method_124_code xt_c78 = true := by decide +kernel
theorem xk_c79_0 : xk_code prog_14_method_125_code xt_c79_0 = true := by decide +kernel
theorem xk_c79_1 : xk_code prog_14_method_125_code xt_c79_1 = true := by decide +kernel
theorem xk_c79_2 : xk_code prog_14_method_125_code xt_c79_2 = true := by decide +kernel
theorem xk_c79 : xk_code prog_14_method_125_code xt_c79 = true := (xk_app xk_c79_0 (xk_app xk_c79_1 xk_c79_2))
theorem xk_c80_0 : xk_code prog_14_method_33_code xt_c80_0 = true := by decide +kernel
theorem xk_c80_1 : xk_code prog_14_method_33_code xt_c80_1 = true := by decide +kernel
theorem xk_c80_2 : xk_code prog_14_method_33_code xt_c80_2 = true := by decide +kernel
theorem xk_c80_3 : xk_code prog_14_method_33_code xt_c80_3 = true := by decide +kernel
theorem xk_c80_4 : xk_code prog_14_method_33_code xt_c80_4 = true := by decide +kernel
theorem xk_c80 : xk_code prog_14_method_33_code xt_c80 = true := (xk_app xk_c80_0 (xk_app xk_c80_1 (xk_app xk_c80_2 (xk_app xk_c80_3 xk_c80_4))))
theorem xk_c81 : xk_code prog_14_method_27_code xt_c81 = true := by decide +kernel
theorem xk_c82 : xk_code prog_14_method_28_code xt_c82 = true := by decide +kernel
theorem xk_c83 : xk_code prog_14_method_32_code xt_c83 = true := by decide +kernel
theorem xk_c84_0 : xk_code prog_14_method_30_code xt_c84_0 = true := by decide +kernel
theorem xk_c84_1 : xk_code prog_14_method_30_code xt_c84_1 = true := by decide +kernel
theorem xk_c84 : xk_code prog_14_method_30_code xt_c84 = true := (xk_app xk_c84_0 xk_c84_1)
theorem xk_c85 : xk_code prog_14_method_9_code xt_c85 = true := by decide +kernel
theorem xk_c86 : xk_code prog_14_method_5_code xt_c86 = true := by decide +kernel
theorem xk_c87_0 : xk_code prog_14_method_29_code xt_c87_0 = true := by decide +kernel
theorem xk_c87_1 : xk_code prog_14_method_29_code xt_c87_1 = true := by decide +kernel
theorem xk_c87 : xk_code prog_14_method_29_code xt_c87 = true := (xk_app xk_c87_0 xk_c87_1)
theorem xk_c88 : xk_code prog_14_method_18_code xt_c88 = true := by decide +kernel
theorem xk_c89 : xk_code prog_14_method_17_code xt_c89 = true := by decide +kernel
theorem xk_c90_0 : xk_code prog_14_method_24_code xt_c90_0 = true := by decide +kernel
theorem xk_c90_1 : xk_code prog_14_method_24_code xt_c90_1 = true := by decide +kernel
theorem xk_c90 : xk_code prog_14_method_24_code xt_c90 = true := (xk_app xk_c90_0 xk_c90_1)
theorem xk_c91 : xk_code prog_14_method_23_code xt_c91 = true := by decide +kernel
theorem xk_c92_0 : xk_code prog_14_method_31_code xt_c92_0 = true := by decide +kernel
theorem xk_c92_1 : xk_code prog_14_method_31_code xt_c92_1 = true := by decide +kernel
theorem xk_c92_2 : xk_code prog_14_method_31_code xt_c92_2 = true := by decide +kernel
theorem xk_c92 : xk_code prog_14_method_31_code xt_c92 = true := (xk_app xk_c92_0 (xk_app xk_c92_1 xk_c92_2))
theorem xk_c93_0 : xk_code prog_14_method_10_code xt_c93_0 = true := by decide +kernel
theorem xk_c93_1 : xk_code prog_14_method_10_code xt_c93_1 = true := by decide +kernel
theorem xk_c93 : xk_code prog_14_method_10_code xt_c93 = true := (xk_app xk_c93_0 xk_c93_1)
theorem xk_c94_0 : xk_code prog_14_method_6_code xt_c94_0 = true := by decide +kernel
theorem xk_c94_1 : xk_code prog_14_method_6_code xt_c94_1 = true := by decide +kernel
theorem xk_c94 : xk_code prog_14_method_6_code xt_c94 = true := (xk_app xk_c94_0 xk_c94_1)
theorem xk_c95 : xk_code prog_14_method_115_code xt_c95 = true := by decide +kernel
theorem xk_c96 : xk_code prog_14_method_14_code xt_c96 = true := by decide +kernel
theorem xk_c97_0 : xk_code prog_14_method_88_code xt_c97_0 = true := by decide +kernel
theorem xk_c97_1 : xk_code prog_14_method_88_code xt_c97_1 = true := by decide +kernel
theorem xk_c97_2 : xk_code prog_14_method_88_code xt_c97_2 = true := by decide +kernel
theorem xk_c97_3 : xk_code prog_14_method_88_code xt_c97_3 = true := by decide +kernel
theorem xk_c97 : xk_code prog_14_method_88_code xt_c97 = true := (xk_app xk_c97_0 (xk_app xk_c97_1 (xk_app xk_c97_2 xk_c97_3)))
theorem xk_c98 : xk_code prog_14_method_21_code xt_c98 = true := by decide +kernel
theorem xk_c99 : xk_code prog_14_method_22_code xt_c99 = true := by decide +kernel
theorem xk_c100 : xk_code prog_14_method_81_code xt_c100 = true := by decide +kernel
theorem xk_c101 : xk_code prog_14_method_16_code xt_c101 = true := by decide +kernel
theorem xk_c102 : xk_code prog_14_method_50_code xt_c102 = true := by decide +kernel
theorem xk_c103_0 : xk_code prog_14_method_84_code xt_c103_0 = true := by decide +kernel
theorem xk_c103_1 : xk_code prog_14_method_84_code xt_c103_1 = true := by decide +kernel
theorem xk_c103 : xk_code prog_14_method_84_code xt_c103 = true := (xk_app xk_c103_0 xk_c103_1)
theorem xk_c104 : xk_code prog_14_method_41_code xt_c104 = true := by decide +kernel
theorem xk_c105_0 : xk_code prog_14_method_61_code xt_c105_0 = true := by decide +kernel
theorem xk_c105_1 : xk_code prog_14_method_61_code xt_c105_1 = true := by decide +kernel
theorem xk_c105_2 : xk_code prog_14_method_61_code xt_c105_2 = true := by decide +kernel
theorem xk_c105 : xk_code prog_14_method_61_code xt_c105 = true := (xk_app xk_c105_0 (xk_app xk_c105_1 xk_c105_2))
theorem xk_c106_0 : xk_code prog_14_method_60_code xt_c106_0 = true := by decide +kernel
theorem xk_c106_1 : xk_code prog_14_method_60_code xt_c106_1 = true := by decide +kernel
theorem xk_c106 : xk_code prog_14_method_60_code xt_c106 = true := (xk_app xk_c106_0 xk_c106_1)
theorem xk_c107 : xk_code prog_14_method_54_code xt_c107 = true := by decide +kernel
theorem xk_c108 : xk_code prog_14_method_38_code xt_c108 = true := by decide +kernel
theorem xk_c109 : xk_code prog_14_method_45_code xt_c109 = true := by decide +kernel
theorem xk_c110 : xk_code prog_14_method_15_code xt_c110 = true := by decide +kernel
theorem xk_c111 : xk_code prog_14_method_48_code xt_c111 = true := by decide +kernel
theorem xk_c112 : xk_code prog_14_method_49_code xt_c112 = true := by decide +kernel
theorem xk_c113 : xk_code prog_14_method_55_code xt_c113 = true := by decide +kernel
theorem xk_c114_0 : xk_code prog_14_method_53_code xt_c114_0 = true := by decide +kernel
theorem xk_c114_1 : xk_code prog_14_method_53_code xt_c114_1 = true := by decide +kernel
theorem xk_c114 : xk_code prog_14_method_53_code xt_c114 = true := (xk_app xk_c114_0 xk_c114_1)
theorem xk_c115 : xk_code prog_14_method_52_code xt_c115 = true := by decide +kernel
theorem xk_c116 : xk_code prog_14_method_43_code xt_c116 = true := by decide +kernel
theorem xk_c117 : xk_code prog_14_method_86_code xt_c117 = true := by decide +kernel
theorem xk_c118_0 : xk_code prog_14_method_69_code xt_c118_0 = true := by decide +kernel
theorem xk_c118_1 : xk_code prog_14_method_69_code xt_c118_1 = true := by decide +kernel
theorem xk_c118 : xk_code prog_14_method_69_code xt_c118 = true := (xk_app xk_c118_0 xk_c118_1)
theorem xk_c119 : xk_code prog_14_method_65_code xt_c119 = true := by decide +kernel
theorem xk_c120 : xk_code prog_14_method_66_code xt_c120 = true := by decide +kernel
theorem xk_c121 : xk_code prog_14_method_85_code xt_c121 = true := by decide +kernel
theorem xk_c122_0 : xk_code prog_14_method_79_code xt_c122_0 = true := by decide +kernel
theorem xk_c122_1 : xk_code prog_14_method_79_code xt_c122_1 = true := by decide +kernel
theorem xk_c122_2 : xk_code prog_14_method_79_code xt_c122_2 = true := by decide +kernel
theorem xk_c122_3 : xk_code prog_14_method_79_code xt_c122_3 = true := by decide +kernel
theorem xk_c122_4 : xk_code prog_14_method_79_code xt_c122_4 = true := by decide +kernel
theorem xk_c122 : xk_code prog_14_method_79_code xt_c122 = true := (xk_app xk_c122_0 (xk_app xk_c122_1 (xk_app xk_c122_2 (xk_app xk_c122_3 xk_c122_4))))
theorem xk_c123 : xk_code prog_14_method_44_code xt_c123 = true := by decide +kernel
theorem xk_c124 : xk_code prog_14_method_47_code xt_c124 = true := by decide +kernel
theorem xk_c125 : xk_code prog_14_method_64_code xt_c125 = true := by decide +kernel
theorem xk_c126 : xk_code prog_14_method_42_code xt_c126 = true := by decide +kernel
theorem xk_c127 : xk_code prog_14_method_62_code xt_c127 = true := by decide +kernel
theorem xk_c128 : xk_code prog_14_method_51_code xt_c128 = true := by decide +kernel
theorem xk_c129_0 : xk_code prog_14_method_87_code xt_c129_0 = true := by decide +kernel
theorem xk_c129_1 : xk_code prog_14_method_87_code xt_c129_1 = true := by decide +kernel
theorem xk_c129 : xk_code prog_14_method_87_code xt_c129 = true := (xk_app xk_c129_0 xk_c129_1)
theorem xk_c130 : xk_code prog_14_method_67_code xt_c130 = true := by decide +kernel
theorem xk_c131 : xk_code prog_14_method_80_code xt_c131 = true := by decide +kernel
theorem xk_c132 : xk_code prog_14_method_82_code xt_c132 = true := by decide +kernel
theorem xk_c133 : xk_code prog_14_method_89_code xt_c133 = true := by decide +kernel
theorem xk_c134_0 : xk_code prog_14_method_112_code xt_c134_0 = true := by decide +kernel
theorem xk_c134_1 : xk_code prog_14_method_112_code xt_c134_1 = true := by decide +kernel
theorem xk_c134_2 : xk_code prog_14_method_112_code xt_c134_2 = true := by decide +kernel
theorem xk_c134 : xk_code prog_14_method_112_code xt_c134 = true := (xk_app xk_c134_0 (xk_app xk_c134_1 xk_c134_2))
theorem xk_c135 : xk_code prog_14_method_83_code xt_c135 = true := by decide +kernel
theorem xk_c136_0 : xk_code prog_14_method_110_code xt_c136_0 = true := by decide +kernel
theorem xk_c136_1 : xk_code prog_14_method_110_code xt_c136_1 = true := by decide +kernel
theorem xk_c136 : xk_code prog_14_method_110_code xt_c136 = true := (xk_app xk_c136_0 xk_c136_1)
theorem xk_c137_0 : xk_code prog_14_method_100_code xt_c137_0 = true := by decide +kernel
theorem xk_c137_1 : xk_code prog_14_method_100_code xt_c137_1 = true := by decide +kernel
theorem xk_c137 : xk_code prog_14_method_100_code xt_c137 = true := (xk_app xk_c137_0 xk_c137_1)
theorem xk_c138 : xk_code prog_14_method_70_code xt_c138 = true := by decide +kernel
theorem xk_c139_0 : xk_code prog_14_method_99_code xt_c139_0 = true := by decide +kernel
theorem xk_c139_1 : xk_code prog_14_method_99_code xt_c139_1 = true := by decide +kernel
theorem xk_c139_2 : xk_code prog_14_method_99_code xt_c139_2 = true := by decide +kernel
theorem xk_c139_3 : xk_code prog_14_method_99_code xt_c139_3 = true := by decide +kernel
theorem xk_c139 : xk_code prog_14_method_99_code xt_c139 = true := (xk_app xk_c139_0 (xk_app xk_c139_1 (xk_app xk_c139_2 xk_c139_3)))
theorem xk_c140 : xk_code prog_14_method_95_code xt_c140 = true := by decide +kernel
theorem xk_c141_0 : xk_code prog_14_method_97_code xt_c141_0 = true := by decide +kernel
theorem xk_c141_1 : xk_code prog_14_method_97_code xt_c141_1 = true := by decide +kernel
theorem xk_c141 : xk_code prog_14_method_97_code xt_c141 = true := (xk_app xk_c141_0 xk_c141_1)
theorem xk_c142 : xk_code prog_14_method_74_code xt_c142 = true := by decide +kernel
theorem xk_c143 : xk_code prog_14_method_46_code xt_c143 = true := by decide +kernel
theorem xk_c144 : xk_code prog_14_method_75_code xt_c144 = true := by decide +kernel
theorem xk_c145_0 : xk_code prog_14_method_73_code xt_c145_0 = true := by decide +kernel
theorem xk_c145_1 : xk_code prog_14_method_73_code xt_c145_1 = true := by decide +kernel
theorem xk_c145_2 : xk_code prog_14_method_73_code xt_c145_2 = true := by decide +kernel
theorem xk_c145_3 : xk_code prog_14_method_73_code xt_c145_3 = true := by decide +kernel
theorem xk_c145 : xk_code prog_14_method_73_code xt_c145 = true := (xk_app xk_c145_0 (xk_app xk_c145_1 (xk_app xk_c145_2 xk_c145_3)))
theorem xk_c146 : xk_code prog_14_method_72_code xt_c146 = true := by decide +kernel
theorem xk_c147 : xk_code prog_14_method_71_code xt_c147 = true := by decide +kernel
theorem xk_c148 : xk_code prog_14_method_96_code xt_c148 = true := by decide +kernel
theorem xk_c149_0 : xk_code prog_14_method_90_code xt_c149_0 = true := by decide +kernel
theorem xk_c149_1 : xk_code prog_14_method_90_code xt_c149_1 = true := by decide +kernel
theorem xk_c149 : xk_code prog_14_method_90_code xt_c149 = true := (xk_app xk_c149_0 xk_c149_1)
theorem xk_c150_0 : xk_code prog_14_method_98_code xt_c150_0 = true := by decide +kernel
theorem xk_c150_1 : xk_code prog_14_method_98_code xt_c150_1 = true := by decide +kernel
theorem xk_c150_2 : xk_code prog_14_method_98_code xt_c150_2 = true := by decide +kernel
theorem xk_c150 : xk_code prog_14_method_98_code xt_c150 = true := (xk_app xk_c150_0 (xk_app xk_c150_1 xk_c150_2))
theorem xk_c151 : xk_code prog_14_method_93_code xt_c151 = true := by decide +kernel
theorem xk_c152_0 : xk_code prog_14_method_109_code xt_c152_0 = true := by decide +kernel
theorem xk_c152_1 : xk_code prog_14_method_109_code xt_c152_1 = true := by decide +kernel
theorem xk_c152_2 : xk_code prog_14_method_109_code xt_c152_2 = true := by decide +kernel
theorem xk_c152 : xk_code prog_14_method_109_code xt_c152 = true := (xk_app xk_c152_0 (xk_app xk_c152_1 xk_c152_2))
theorem xk_c153 : xk_code prog_14_method_94_code xt_c153 = true := by decide +kernel
theorem xk_c154_0 : xk_code prog_14_method_104_code xt_c154_0 = true := by decide +kernel
theorem xk_c154_1 : xk_code prog_14_method_104_code xt_c154_1 = true := by decide +kernel
theorem xk_c154_2 : xk_code prog_14_method_104_code xt_c154_2 = true := by decide +kernel
theorem xk_c154_3 : xk_code prog_14_method_104_code xt_c154_3 = true := by decide +kernel
theorem xk_c154_4 : xk_code prog_14_method_104_code xt_c154_4 = true := by decide +kernel
theorem xk_c154_5 : xk_code prog_14_method_104_code xt_c154_5 = true := by decide +kernel
theorem xk_c154_6 : xk_code prog_14_method_104_code xt_c154_6 = true := by decide +kernel
theorem xk_c154_7 : xk_code prog_14_method_104_code xt_c154_7 = true := by decide +kernel
theorem xk_c154_8 : xk_code prog_14_method_104_code xt_c154_8 = true := by decide +kernel
theorem xk_c154_9 : xk_code prog_14_method_104_code xt_c154_9 = true := by decide +kernel
theorem xk_c154 : xk_code prog_14_method_104_code xt_c154 = true := (xk_app xk_c154_0 (xk_app xk_c154_1 (xk_app xk_c154_2 (xk_app xk_c154_3 (xk_app xk_c154_4 (xk_app xk_c154_5 (xk_app xk_c154_6 (xk_app xk_c154_7 (xk_app xk_c154_8 xk_c154_9)))))))))
theorem xk_c155 : xk_code prog_14_method_76_code xt_c155 = true := by decide +kernel
theorem xk_c156 : xk_code prog_14_method_63_code xt_c156 = true := by decide +kernel
theorem xk_c157_0 : xk_code prog_14_method_105_code xt_c157_0 = true := by decide +kernel
theorem xk_c157_1 : xk_code prog_14_method_105_code xt_c157_1 = true := by decide +kernel
theorem xk_c157 : xk_code prog_14_method_105_code xt_c157 = true := (xk_app xk_c157_0 xk_c157_1)
theorem xk_c158 : xk_code prog_14_method_101_code xt_c158 = true := by decide +kernel
theorem xk_c159 : xk_code prog_14_method_102_code xt_c159 = true := by decide +kernel
theorem xk_c160_0 : xk_code prog_14_method_106_code xt_c160_0 = true := by decide +kernel
theorem xk_c160_1 : xk_code prog_14_method_106_code xt_c160_1 = true := by decide +kernel
theorem xk_c160 : xk_code prog_14_method_106_code xt_c160 = true := (xk_app xk_c160_0 xk_c160_1)
theorem xk_c161 : xk_code prog_14_method_59_code xt_c161 = true := by decide +kernel
theorem xk_c162_0 : xk_code prog_14_method_58_code xt_c162_0 = true := by decide +kernel
theorem xk_c162_1 : xk_code prog_14_method_58_code xt_c162_1 = true := by decide +kernel
theorem xk_c162_2 : xk_code prog_14_method_58_code xt_c162_2 = true := by decide +kernel
theorem xk_c162 : xk_code prog_14_method_58_code xt_c162 = true := (xk_app xk_c162_0 (xk_app xk_c162_1 xk_c162_2))
theorem xk_c163 : xk_code prog_14_method_57_code xt_c163 = true := by decide +kernel
theorem xk_c164 : xk_code prog_14_method_56_code xt_c164 = true := by decide +kernel
theorem xk_c165 : xk_code prog_14_method_103_code xt_c165 = true := by decide +kernel
theorem xk_c166_0 : xk_code prog_14_method_107_code xt_c166_0 = true := by decide +kernel
theorem xk_c166_1 : xk_code prog_14_method_107_code xt_c166_1 = true := by decide +kernel
theorem xk_c166 : xk_code prog_14_method_107_code xt_c166 = true := (xk_app xk_c166_0 xk_c166_1)
theorem xk_c167_0 : xk_code prog_14_method_108_code xt_c167_0 = true := by decide +kernel
theorem xk_c167_1 : xk_code prog_14_method_108_code xt_c167_1 = true := by decide +kernel
theorem xk_c167_2 : xk_code prog_14_method_108_code xt_c167_2 = true := by decide +kernel
theorem xk_c167 : xk_code prog_14_method_108_code xt_c167 = true := (xk_app xk_c167_0 (xk_app xk_c167_1 xk_c167_2))
theorem xk_c168_0 : xk_code prog_14_method_92_code xt_c168_0 = true := by decide +kernel
theorem xk_c168_1 : xk_code prog_14_method_92_code xt_c168_1 = true := by decide +kernel
theorem xk_c168_2 : xk_code prog_14_method_92_code xt_c168_2 = true := by decide +kernel
theorem xk_c168 : xk_code prog_14_method_92_code xt_c168 = true := (xk_app xk_c168_0 (xk_app xk_c168_1 xk_c168_2))
theorem xk_c169 : xk_code prog_14_method_91_code xt_c169 = true := by decide +kernel
theorem xk_c170 : xk_code prog_14_method_77_code xt_c170 = true := by decide +kernel
theorem xk_c171 : xk_code prog_14_method_78_code xt_c171 = true := by decide +kernel
theorem xk_c172_0 : xk_code prog_14_method_40_code xt_c172_0 = true := by decide +kernel
theorem xk_c172_1 : xk_code prog_14_method_40_code xt_c172_1 = true := by decide +kernel
theorem xk_c172_2 : xk_code prog_14_method_40_code xt_c172_2 = true := by decide +kernel
theorem xk_c172_3 : xk_code prog_14_method_40_code xt_c172_3 = true := by decide +kernel
theorem xk_c172 : xk_code prog_14_method_40_code xt_c172 = true := (xk_app xk_c172_0 (xk_app xk_c172_1 (xk_app xk_c172_2 xk_c172_3)))
theorem xk_c173 : xk_code prog_14_method_39_code xt_c173 = true := by decide +kernel
theorem xk_c174 : xk_code prog_14_method_36_code xt_c174 = true := by decide +kernel
theorem xk_c175_0 : xk_code prog_14_method_37_code xt_c175_0 = true := by decide +kernel
theorem xk_c175_1 : xk_code prog_14_method_37_code xt_c175_1 = true := by decide +kernel
theorem xk_c175 : xk_code prog_14_method_37_code xt_c175 = true := (xk_app xk_c175_0 xk_c175_1)
theorem xk_c176 : xk_code prog_14_method_35_code xt_c176 = true := by decide +kernel
theorem xk_c177 : xk_code prog_14_method_111_code xt_c177 = true := by decide +kernel
theorem xk_c178 : xk_code prog_14_method_113_code xt_c178 = true := by decide +kernel
theorem xk_c179_0 : xk_code prog_14_method_114_code xt_c179_0 = true := by decide +kernel
theorem xk_c179_1 : xk_code prog_14_method_114_code xt_c179_1 = true := by decide +kernel
theorem xk_c179 : xk_code prog_14_method_114_code xt_c179 = true := (xk_app xk_c179_0 xk_c179_1)
theorem xk_c180 : xk_code prog_14_method_20_code xt_c180 = true := by decide +kernel
theorem xk_c181 : xk_code prog_14_method_19_code xt_c181 = true := by decide +kernel
theorem xk_c182 : xk_code prog_27_method_124_code xt_c182 = true := by decide +kernel
theorem xk_c183 : xk_code prog_27_method_123_code xt_c183 = true := by decide +kernel
theorem xk_c184 : xk_code prog_7_method_5_code xt_c184 = true := by decide +kernel
theorem xk_c185_0 : xk_code prog_7_method_6_code xt_c185_0 = true := by decide +kernel
theorem xk_c185_1 : xk_code prog_7_method_6_code xt_c185_1 = true := by decide +kernel
theorem xk_c185_2 : xk_code prog_7_method_6_code xt_c185_2 = true := by decide +kernel
theorem xk_c185 : xk_code prog_7_method_6_code xt_c185 = true := (xk_app xk_c185_0 (xk_app xk_c185_1 xk_c185_2))
theorem xk_c186 : xk_code prog_3_method_5_code xt_c186 = true := by decide +kernel
theorem xk_c187 : xk_code prog_7_method_7_code xt_c187 = true := by decide +kernel
theorem xk_c188 : xk_code prog_7_method_8_code xt_c188 = true := by decide +kernel
theorem xk_c189 : xk_code prog_7_method_9_code xt_c189 = true := by decide +kernel
theorem xk_c190 : xk_code prog_7_method_10_code xt_c190 = true := by decide +kernel
theorem xk_c191 : xk_code prog_7_method_11_code xt_c191 = true := by decide +kernel
theorem xk_c192 : xk_code prog_8_method_7_code xt_c192 = true := by decide +kernel
theorem xk_c193_0 : xk_code prog_7_method_12_code xt_c193_0 = true := by decide +kernel
theorem xk_c193_1 : xk_code prog_7_method_12_code xt_c193_1 = true := by decide +kernel
theorem xk_c193 : xk_code prog_7_method_12_code xt_c193 = true := (xk_app xk_c193_0 xk_c193_1)
theorem xk_c194 : xk_code prog_3_method_7_code xt_c194 = true := by decide +kernel
theorem xk_c195 : xk_code prog_3_method_17_code xt_c195 = true := by decide +kernel
theorem xk_c196_0 : xk_code prog_7_method_13_code xt_c196_0 = true := by decide +kernel
theorem xk_c196_1 : xk_code prog_7_method_13_code xt_c196_1 = true := by decide +kernel
theorem xk_c196 : xk_code prog_7_method_13_code xt_c196 = true := (xk_app xk_c196_0 xk_c196_1)
theorem xk_c197 : xk_code prog_3_method_15_code xt_c197 = true := by decide +kernel
theorem xk_c198 : xk_code prog_3_method_20_code xt_c198 = true := by decide +kernel
theorem xk_c199 : xk_code prog_3_method_11_code xt_c199 = true := by decide +kernel
theorem xk_c200 : xk_code prog_3_method_16_code xt_c200 = true := by decide +kernel
theorem xk_c201_0 : xk_code prog_1_method_13_code xt_c201_0 = true := by decide +kernel
theorem xk_c201_1 : xk_code prog_1_method_13_code xt_c201_1 = true := by decide +kernel
theorem xk_c201_2 : xk_code prog_1_method_13_code xt_c201_2 = true := by decide +kernel
theorem xk_c201 : xk_code prog_1_method_13_code xt_c201 = true := (xk_app xk_c201_0 (xk_app xk_c201_1 xk_c201_2))
theorem xk_c202 : xk_code prog_3_method_21_code xt_c202 = true := by decide +kernel
theorem xk_c203_0 : xk_code prog_11_method_7_code xt_c203_0 = true := by decide +kernel
theorem xk_c203_1 : xk_code prog_11_method_7_code xt_c203_1 = true := by decide +kernel
theorem xk_c203 : xk_code prog_11_method_7_code xt_c203 = true := (xk_app xk_c203_0 xk_c203_1)
theorem xk_c204 : xk_code prog_10_method_2_code xt_c204 = true := by decide +kernel
theorem xk_c205 : xk_code prog_3_method_14_code xt_c205 = true := by decide +kernel
theorem xk_c206 : xk_code prog_3_method_12_code xt_c206 = true := by decide +kernel
theorem xk_c207 : xk_code prog_10_method_10_code xt_c207 = true := by decide +kernel
theorem xk_c208 : xk_code prog_1_method_19_code xt_c208 = true := by decide +kernel
theorem xk_c209 : xk_code prog_10_method_4_code xt_c209 = true := by decide +kernel
theorem xk_c210 : xk_code prog_11_method_3_code xt_c210 = true := by decide +kernel
theorem xk_c211_0 : xk_code prog_11_method_2_code xt_c211_0 = true := by decide +kernel
theorem xk_c211_1 : xk_code prog_11_method_2_code xt_c211_1 = true := by decide +kernel
theorem xk_c211 : xk_code prog_11_method_2_code xt_c211 = true := (xk_app xk_c211_0 xk_c211_1)
theorem xk_c212 : xk_code prog_11_method_4_code xt_c212 = true := by decide +kernel
theorem xk_c213 : xk_code prog_10_method_3_code xt_c213 = true := by decide +kernel
theorem xk_c214 : xk_code prog_3_method_22_code xt_c214 = true := by decide +kernel
theorem xk_c215 : xk_code prog_11_method_5_code xt_c215 = true := by decide +kernel
theorem xk_c216 : xk_code prog_2_method_5_code xt_c216 = true := by decide +kernel
theorem xk_c217 : xk_code prog_26_method_20_code xt_c217 = true := by decide +kernel
theorem xk_c218 : xk_code prog_30_method_17_code xt_c218 = true := by decide +kernel
theorem xk_c219 : xk_code prog_26_method_18_code xt_c219 = true := by decide +kernel
theorem xk_c220 : xk_code prog_10_method_7_code xt_c220 = true := by decide +kernel
theorem xk_c221 : xk_code prog_10_method_9_code xt_c221 = true := by decide +kernel
theorem xk_c222 : xk_code prog_11_method_6_code xt_c222 = true := by decide +kernel
theorem xk_c223 : xk_code prog_11_method_13_code xt_c223 = true := by decide +kernel
theorem xk_c224 : xk_code prog_8_method_9_code xt_c224 = true := by decide +kernel
theorem xk_c225 : xk_code prog_10_method_1_code xt_c225 = true := by decide +kernel
theorem xk_c226 : xk_code prog_10_method_18_code xt_c226 = true := by decide +kernel
theorem xk_c227 : xk_code prog_10_method_5_code xt_c227 = true := by decide +kernel
theorem xk_c228_0 : xk_code prog_5_method_3_code xt_c228_0 = true := by decide +kernel
theorem xk_c228_1 : xk_code prog_5_method_3_code xt_c228_1 = true := by decide +kernel
theorem xk_c228 : xk_code prog_5_method_3_code xt_c228 = true := (xk_app xk_c228_0 xk_c228_1)
theorem xk_c229 : xk_code prog_10_method_11_code xt_c229 = true := by decide +kernel
theorem xk_c230 : xk_code prog_10_method_12_code xt_c230 = true := by decide +kernel
theorem xk_c231 : xk_code prog_10_method_15_code xt_c231 = true := by decide +kernel
theorem xk_c232 : xk_code prog_10_method_17_code xt_c232 = true := by decide +kernel
theorem xk_c233 : xk_code prog_12_method_1_code xt_c233 = true := by decide +kernel
theorem xk_c234 : xk_code prog_1_method_18_code xt_c234 = true := by decide +kernel
theorem xk_c235 : xk_code prog_2_method_8_code xt_c235 = true := by decide +kernel
theorem xk_c236 : xk_code prog_26_method_25_code xt_c236 = true := by decide +kernel
theorem xk_c237 : xk_code prog_26_method_24_code xt_c237 = true := by decide +kernel
theorem xk_c238 : xk_code prog_26_method_7_code xt_c238 = true := by decide +kernel
theorem xk_c239 : xk_code prog_26_method_6_code xt_c239 = true := by decide +kernel
theorem xk_c240 : xk_code prog_33_method_27_code xt_c240 = true := by decide +kernel
theorem xk_c241 : xk_code prog_12_method_2_code xt_c241 = true := by decide +kernel
theorem xk_c242_0 : xk_code prog_1_method_14_code xt_c242_0 = true := by decide +kernel
theorem xk_c242_1 : xk_code prog_1_method_14_code xt_c242_1 = true := by decide +kernel
theorem xk_c242_2 : xk_code prog_1_method_14_code xt_c242_2 = true := by decide +kernel
theorem xk_c242 : xk_code prog_1_method_14_code xt_c242 = true := (xk_app xk_c242_0 (xk_app xk_c242_1 xk_c242_2))
theorem xk_c243 : xk_code prog_2_method_6_code xt_c243 = true := by decide +kernel
theorem xk_c244 : xk_code prog_6_method_2_code xt_c244 = true := by decide +kernel
theorem xk_c245_0 : xk_code prog_6_method_3_code xt_c245_0 = true := by decide +kernel
theorem xk_c245_1 : xk_code prog_6_method_3_code xt_c245_1 = true := by decide +kernel
theorem xk_c245_2 : xk_code prog_6_method_3_code xt_c245_2 = true := by decide +kernel
theorem xk_c245 : xk_code prog_6_method_3_code xt_c245 = true := (xk_app xk_c245_0 (xk_app xk_c245_1 xk_c245_2))
theorem xk_c246 : xk_code prog_6_method_5_code xt_c246 = true := by decide +kernel
theorem xk_c247 : xk_code prog_6_method_4_code xt_c247 = true := by decide +kernel
theorem xk_c248 : xk_code prog_6_method_6_code xt_c248 = true := by decide +kernel
theorem xk_c249_0 : xk_code prog_6_method_9_code xt_c249_0 = true := by decide +kernel
theorem xk_c249_1 : xk_code prog_6_method_9_code xt_c249_1 = true := by decide +kernel
theorem xk_c249 : xk_code prog_6_method_9_code xt_c249 = true := (xk_app xk_c249_0 xk_c249_1)
theorem xk_c250 : xk_code prog_6_method_10_code xt_c250 = true := by decide +kernel
theorem xk_c251 : xk_code prog_10_method_8_code xt_c251 = true := by decide +kernel
theorem xk_c252 : xk_code prog_10_method_6_code xt_c252 = true := by decide +kernel
theorem xk_c253_0 : xk_code prog_6_method_11_code xt_c253_0 = true := by decide +kernel
theorem xk_c253_1 : xk_code prog_6_method_11_code xt_c253_1 = true := by decide +kernel
theorem xk_c253_2 : xk_code prog_6_method_11_code xt_c253_2 = true := by decide +kernel
theorem xk_c253_3 : xk_code prog_6_method_11_code xt_c253_3 = true := by decide +kernel
theorem xk_c253 : xk_code prog_6_method_11_code xt_c253 = true := (xk_app xk_c253_0 (xk_app xk_c253_1 (xk_app xk_c253_2 xk_c253_3)))
theorem xk_c254 : xk_code prog_6_method_12_code xt_c254 = true := by decide +kernel
theorem xk_c255 : xk_code prog_3_method_18_code xt_c255 = true := by decide +kernel
theorem xk_c256 : xk_code prog_3_method_13_code xt_c256 = true := by decide +kernel
theorem xk_c257 : xk_code prog_4_method_1_code xt_c257 = true := by decide +kernel
theorem xk_c258 : xk_code prog_11_method_14_code xt_c258 = true := by decide +kernel
theorem xk_c259 : xk_code prog_11_method_16_code xt_c259 = true := by decide +kernel
theorem xk_c260_0 : xk_code prog_8_method_6_code xt_c260_0 = true := by decide +kernel
theorem xk_c260_1 : xk_code prog_8_method_6_code xt_c260_1 = true := by decide +kernel
theorem xk_c260 : xk_code prog_8_method_6_code xt_c260 = true := (xk_app xk_c260_0 xk_c260_1)
theorem xk_c261_0 : xk_code prog_4_method_5_code xt_c261_0 = true := by decide +kernel
theorem xk_c261_1 : xk_code prog_4_method_5_code xt_c261_1 = true := by decide +kernel
theorem xk_c261 : xk_code prog_4_method_5_code xt_c261 = true := (xk_app xk_c261_0 xk_c261_1)
theorem xk_c262 : xk_code prog_4_method_8_code xt_c262 = true := by decide +kernel
theorem xk_c263 : xk_code prog_4_method_4_code xt_c263 = true := by decide +kernel
theorem xk_c264 : xk_code prog_10_method_13_code xt_c264 = true := by decide +kernel
theorem xk_c265 : xk_code prog_6_method_7_code xt_c265 = true := by decide +kernel
theorem xk_c266 : xk_code prog_4_method_3_code xt_c266 = true := by decide +kernel
theorem xk_c267 : xk_code prog_6_method_13_code xt_c267 = true := by decide +kernel
theorem xk_c268 : xk_code prog_11_method_18_code xt_c268 = true := by decide +kernel
theorem xk_c269 : xk_code prog_6_method_14_code xt_c269 = true := by decide +kernel
theorem xk_c270_0 : xk_code prog_6_method_15_code xt_c270_0 = true := by decide +kernel
theorem xk_c270_1 : xk_code prog_6_method_15_code xt_c270_1 = true := by decide +kernel
theorem xk_c270_2 : xk_code prog_6_method_15_code xt_c270_2 = true := by decide +kernel
theorem xk_c270 : xk_code prog_6_method_15_code xt_c270 = true := (xk_app xk_c270_0 (xk_app xk_c270_1 xk_c270_2))
theorem xk_c271 : xk_code prog_4_method_6_code xt_c271 = true := by decide +kernel
theorem xk_c272_0 : xk_code prog_6_method_16_code xt_c272_0 = true := by decide +kernel
theorem xk_c272_1 : xk_code prog_6_method_16_code xt_c272_1 = true := by decide +kernel
theorem xk_c272_2 : xk_code prog_6_method_16_code xt_c272_2 = true := by decide +kernel
theorem xk_c272 : xk_code prog_6_method_16_code xt_c272 = true := (xk_app xk_c272_0 (xk_app xk_c272_1 xk_c272_2))
theorem xk_c273_0 : xk_code prog_11_method_19_code xt_c273_0 = true := by decide +kernel
theorem xk_c273_1 : xk_code prog_11_method_19_code xt_c273_1 = true := by decide +kernel
theorem xk_c273 : xk_code prog_11_method_19_code xt_c273 = true := (xk_app xk_c273_0 xk_c273_1)
theorem xk_c274 : xk_code prog_10_method_16_code xt_c274 = true := by decide +kernel
theorem xk_c275 : xk_code prog_27_method_136_code xt_c275 = true := by decide +kernel
theorem xk_c276 : xk_code prog_27_method_137_code xt_c276 = true := by decide +kernel
theorem xk_c277 : xk_code prog_27_method_131_code xt_c277 = true := by decide +kernel
theorem xk_c278 : xk_code prog_4_method_7_code xt_c278 = true := by decide +kernel
theorem xk_c279_0 : xk_code prog_6_method_17_code xt_c279_0 = true := by decide +kernel
theorem xk_c279_1 : xk_code prog_6_method_17_code xt_c279_1 = true := by decide +kernel
theorem xk_c279_2 : xk_code prog_6_method_17_code xt_c279_2 = true := by decide +kernel
theorem xk_c279_3 : xk_code prog_6_method_17_code xt_c279_3 = true := by decide +kernel
theorem xk_c279 : xk_code prog_6_method_17_code xt_c279 = true := (xk_app xk_c279_0 (xk_app xk_c279_1 (xk_app xk_c279_2 xk_c279_3)))
theorem xk_c280 : xk_code prog_4_method_2_code xt_c280 = true := by decide +kernel
theorem xk_c281_0 : xk_code prog_11_method_20_code xt_c281_0 = true := by decide +kernel
theorem xk_c281_1 : xk_code prog_11_method_20_code xt_c281_1 = true := by decide +kernel
theorem xk_c281 : xk_code prog_11_method_20_code xt_c281 = true := (xk_app xk_c281_0 xk_c281_1)
theorem xk_c282_0 : xk_code prog_6_method_18_code xt_c282_0 = true := by decide +kernel
theorem xk_c282_1 : xk_code prog_6_method_18_code xt_c282_1 = true := by decide +kernel
theorem xk_c282 : xk_code prog_6_method_18_code xt_c282 = true := (xk_app xk_c282_0 xk_c282_1)
theorem xk_c283_0 : xk_code prog_6_method_19_code xt_c283_0 = true := by decide +kernel
theorem xk_c283_1 : xk_code prog_6_method_19_code xt_c283_1 = true := by decide +kernel
theorem xk_c283_2 : xk_code prog_6_method_19_code xt_c283_2 = true := by decide +kernel
theorem xk_c283 : xk_code prog_6_method_19_code xt_c283 = true := (xk_app xk_c283_0 (xk_app xk_c283_1 xk_c283_2))
theorem xk_c284_0 : xk_code prog_11_method_21_code xt_c284_0 = true := by decide +kernel
theorem xk_c284_1 : xk_code prog_11_method_21_code xt_c284_1 = true := by decide +kernel
theorem xk_c284 : xk_code prog_11_method_21_code xt_c284 = true := (xk_app xk_c284_0 xk_c284_1)
theorem xk_c285 : xk_code prog_10_method_14_code xt_c285 = true := by decide +kernel
theorem xk_c286_0 : xk_code prog_6_method_20_code xt_c286_0 = true := by decide +kernel
theorem xk_c286_1 : xk_code prog_6_method_20_code xt_c286_1 = true := by decide +kernel
theorem xk_c286_2 : xk_code prog_6_method_20_code xt_c286_2 = true := by decide +kernel
theorem xk_c286_3 : xk_code prog_6_method_20_code xt_c286_3 = true := by decide +kernel
theorem xk_c286 : xk_code prog_6_method_20_code xt_c286 = true := (xk_app xk_c286_0 (xk_app xk_c286_1 (xk_app xk_c286_2 xk_c286_3)))
theorem xk_c287 : xk_code prog_12_method_3_code xt_c287 = true := by decide +kernel
theorem xk_c288 : xk_code prog_5_method_2_code xt_c288 = true := by decide +kernel
theorem xk_c289 : xk_code prog_5_method_4_code xt_c289 = true := by decide +kernel
theorem xk_c290_0 : xk_code prog_5_method_5_code xt_c290_0 = true := by decide +kernel
theorem xk_c290_1 : xk_code prog_5_method_5_code xt_c290_1 = true := by decide +kernel
theorem xk_c290_2 : xk_code prog_5_method_5_code xt_c290_2 = true := by decide +kernel
theorem xk_c290 : xk_code prog_5_method_5_code xt_c290 = true := (xk_app xk_c290_0 (xk_app xk_c290_1 xk_c290_2))
theorem xk_c291 : xk_code prog_5_method_6_code xt_c291 = true := by decide +kernel
theorem xk_c292 : xk_code prog_4_method_9_code xt_c292 = true := by decide +kernel
theorem xk_c293_0 : xk_code prog_6_method_8_code xt_c293_0 = true := by decide +kernel
theorem xk_c293_1 : xk_code prog_6_method_8_code xt_c293_1 = true := by decide +kernel
theorem xk_c293_2 : xk_code prog_6_method_8_code xt_c293_2 = true := by decide +kernel
theorem xk_c293_3 : xk_code prog_6_method_8_code xt_c293_3 = true := by decide +kernel
theorem xk_c293_4 : xk_code prog_6_method_8_code xt_c293_4 = true := by decide +kernel
theorem xk_c293 : xk_code prog_6_method_8_code xt_c293 = true := (xk_app xk_c293_0 (xk_app xk_c293_1 (xk_app xk_c293_2 (xk_app xk_c293_3 xk_c293_4))))
theorem xk_c294 : xk_code prog_11_method_15_code xt_c294 = true := by decide +kernel
theorem xk_c295 : xk_code prog_11_method_17_code xt_c295 = true := by decide +kernel
theorem xk_c296 : xk_code prog_1_method_17_code xt_c296 = true := by decide +kernel
theorem xk_c297 : xk_code prog_11_method_12_code xt_c297 = true := by decide +kernel
theorem xk_c298 : xk_code prog_11_method_8_code xt_c298 = true := by decide +kernel
theorem xk_c299_0 : xk_code prog_11_method_9_code xt_c299_0 = true := by decide +kernel
theorem xk_c299_1 : xk_code prog_11_method_9_code xt_c299_1 = true := by decide +kernel
theorem xk_c299 : xk_code prog_11_method_9_code xt_c299 = true := (xk_app xk_c299_0 xk_c299_1)
theorem xk_c300 : xk_code prog_2_method_7_code xt_c300 = true := by decide +kernel
theorem xk_c301 : xk_code prog_11_method_10_code xt_c301 = true := by decide +kernel
theorem xk_c302 : xk_code prog_1_method_15_code xt_c302 = true := by decide +kernel
theorem xk_c303 : xk_code prog_1_method_16_code xt_c303 = true := by decide +kernel
theorem xk_c304 : xk_code prog_2_method_9_code xt_c304 = true := by decide +kernel
theorem xk_c305 : xk_code prog_26_method_9_code xt_c305 = true := by decide +kernel
theorem xk_c306 : xk_code prog_26_method_29_code xt_c306 = true := by decide +kernel
theorem xk_c307 : xk_code prog_26_method_39_code xt_c307 = true := by decide +kernel
theorem xk_c308 : xk_code prog_9_method_5_code xt_c308 = true := by decide +kernel
theorem xk_c309 : xk_code prog_9_method_6_code xt_c309 = true := by decide +kernel
theorem xk_c310 : xk_code prog_9_method_8_code xt_c310 = true := by decide +kernel
theorem xk_c311_0 : xk_code prog_9_method_9_code xt_c311_0 = true := by decide +kernel
theorem xk_c311_1 : xk_code prog_9_method_9_code xt_c311_1 = true := by decide +kernel
theorem xk_c311 : xk_code prog_9_method_9_code xt_c311 = true := (xk_app xk_c311_0 xk_c311_1)
theorem xk_c312 : xk_code prog_9_method_10_code xt_c312 = true := by decide +kernel
theorem xk_c313 : xk_code prog_9_method_11_code xt_c313 = true := by decide +kernel
theorem xk_c314 : xk_code prog_3_method_19_code xt_c314 = true := by decide +kernel
theorem xk_c315_0 : xk_code prog_9_method_7_code xt_c315_0 = true := by decide +kernel
theorem xk_c315_1 : xk_code prog_9_method_7_code xt_c315_1 = true := by decide +kernel
theorem xk_c315 : xk_code prog_9_method_7_code xt_c315 = true := (xk_app xk_c315_0 xk_c315_1)
theorem xk_c316 : xk_code prog_11_method_11_code xt_c316 = true := by decide +kernel
theorem xk_cd_c0 {r : Nat} (hr : r < 20) (h1 : 0 + r < 317) : ∀ pc i, (xt_code (0 + r)).lookup pc = some i → xx_dec (xt_bt (0 + r)) pc i := by
  match r, hr, h1 with
  | 0, _, _ => exact fun pc i h => xk_code_ok xk_c0 h
  | 1, _, _ => exact fun pc i h => xk_code_ok xk_c1 h
  | 2, _, _ => exact fun pc i h => xk_code_ok xk_c2 h
  | 3, _, _ => exact fun pc i h => xk_code_ok xk_c3 h
  | 4, _, _ => exact fun pc i h => xk_code_ok xk_c4 h
  | 5, _, _ => exact fun pc i h => xk_code_ok xk_c5 h
  | 6, _, _ => exact fun pc i h => xk_code_ok xk_c6 h
  | 7, _, _ => exact fun pc i h => xk_code_ok xk_c7 h
  | 8, _, _ => exact fun pc i h => xk_code_ok xk_c8 h
  | 9, _, _ => exact fun pc i h => xk_code_ok xk_c9 h
  | 10, _, _ => exact fun pc i h => xk_code_ok xk_c10 h
  | 11, _, _ => exact fun pc i h => xk_code_ok xk_c11 h
  | 12, _, _ => exact fun pc i h => xk_code_ok xk_c12 h
  | 13, _, _ => exact fun pc i h => xk_code_ok xk_c13 h
  | 14, _, _ => exact fun pc i h => xk_code_ok xk_c14 h
  | 15, _, _ => exact fun pc i h => xk_code_ok xk_c15 h
  | 16, _, _ => exact fun pc i h => xk_code_ok xk_c16 h
  | 17, _, _ => exact fun pc i h => xk_code_ok xk_c17 h
  | 18, _, _ => exact fun pc i h => xk_code_ok xk_c18 h
  | 19, _, _ => exact fun pc i h => xk_code_ok xk_c19 h
  | r + 20, h, _ => exact absurd h (by omega)
theorem xk_cd_c1 {r : Nat} (hr : r < 20) (h1 : 20 + r < 317) : ∀ pc i, (xt_code (20 + r)).lookup pc = some i → xx_dec (xt_bt (20 + r)) pc i := by
  match r, hr, h1 with
  | 0, _, _ => exact fun pc i h => xk_code_ok xk_c20 h
  | 1, _, _ => exact fun pc i h => xk_code_ok xk_c21 h
  | 2, _, _ => exact fun pc i h => xk_code_ok xk_c22 h
  | 3, _, _ => exact fun pc i h => xk_code_ok xk_c23 h
  | 4, _, _ => exact fun pc i h => xk_code_ok xk_c24 h
  | 5, _, _ => exact fun pc i h => xk_code_ok xk_c25 h
  | 6, _, _ => exact fun pc i h => xk_code_ok xk_c26 h
  | 7, _, _ => exact fun pc i h => xk_code_ok xk_c27 h
  | 8, _, _ => exact fun pc i h => xk_code_ok xk_c28 h
  | 9, _, _ => exact fun pc i h => xk_code_ok xk_c29 h
  | 10, _, _ => exact fun pc i h => xk_code_ok xk_c30 h
  | 11, _, _ => exact fun pc i h => xk_code_ok xk_c31 h
  | 12, _, _ => exact fun pc i h => xk_code_ok xk_c32 h
  | 13, _, _ => exact fun pc i h => xk_code_ok xk_c33 h
  | 14, _, _ => exact fun pc i h => xk_code_ok xk_c34 h
  | 15, _, _ => exact fun pc i h => xk_code_ok xk_c35 h
  | 16, _, _ => exact fun pc i h => xk_code_ok xk_c36 h
  | 17, _, _ => exact fun pc i h => xk_code_ok xk_c37 h
  | 18, _, _ => exact fun pc i h => xk_code_ok xk_c38 h
  | 19, _, _ => exact fun pc i h => xk_code_ok xk_c39 h
  | r + 20, h, _ => exact absurd h (by omega)
theorem xk_cd_c2 {r : Nat} (hr : r < 20) (h1 : 40 + r < 317) : ∀ pc i, (xt_code (40 + r)).lookup pc = some i → xx_dec (xt_bt (40 + r)) pc i := by
  match r, hr, h1 with
  | 0, _, _ => exact fun pc i h => xk_code_ok xk_c40 h
  | 1, _, _ => exact fun pc i h => xk_code_ok xk_c41 h
  | 2, _, _ => exact fun pc i h => xk_code_ok xk_c42 h
  | 3, _, _ => exact fun pc i h => xk_code_ok xk_c43 h
  | 4, _, _ => exact fun pc i h => xk_code_ok xk_c44 h
  | 5, _, _ => exact fun pc i h => xk_code_ok xk_c45 h
  | 6, _, _ => exact fun pc i h => xk_code_ok xk_c46 h
  | 7, _, _ => exact fun pc i h => xk_code_ok xk_c47 h
  | 8, _, _ => exact fun pc i h => xk_code_ok xk_c48 h
  | 9, _, _ => exact fun pc i h => xk_code_ok xk_c49 h
  | 10, _, _ => exact fun pc i h => xk_code_ok xk_c50 h
  | 11, _, _ => exact fun pc i h => xk_code_ok xk_c51 h
  | 12, _, _ => exact fun pc i h => xk_code_ok xk_c52 h
  | 13, _, _ => exact fun pc i h => xk_code_ok xk_c53 h
  | 14, _, _ => exact fun pc i h => xk_code_ok xk_c54 h
  | 15, _, _ => exact fun pc i h => xk_code_ok xk_c55 h
  | 16, _, _ => exact fun pc i h => xk_code_ok xk_c56 h
  | 17, _, _ => exact fun pc i h => xk_code_ok xk_c57 h
  | 18, _, _ => exact fun pc i h => xk_code_ok xk_c58 h
  | 19, _, _ => exact fun pc i h => xk_code_ok xk_c59 h
  | r + 20, h, _ => exact absurd h (by omega)
theorem xk_cd_c3 {r : Nat} (hr : r < 20) (h1 : 60 + r < 317) : ∀ pc i, (xt_code (60 + r)).lookup pc = some i → xx_dec (xt_bt (60 + r)) pc i := by
  match r, hr, h1 with
  | 0, _, _ => exact fun pc i h => xk_code_ok xk_c60 h
  | 1, _, _ => exact fun pc i h => xk_code_ok xk_c61 h
  | 2, _, _ => exact fun pc i h => xk_code_ok xk_c62 h
  | 3, _, _ => exact fun pc i h => xk_code_ok xk_c63 h
  | 4, _, _ => exact fun pc i h => xk_code_ok xk_c64 h
  | 5, _, _ => exact fun pc i h => xk_code_ok xk_c65 h
  | 6, _, _ => exact fun pc i h => xk_code_ok xk_c66 h
  | 7, _, _ => exact fun pc i h => xk_code_ok xk_c67 h
  | 8, _, _ => exact fun pc i h => xk_code_ok xk_c68 h
  | 9, _, _ => exact fun pc i h => xk_code_ok xk_c69 h
  | 10, _, _ => exact fun pc i h => xk_code_ok xk_c70 h
  | 11, _, _ => exact fun pc i h => xk_code_ok xk_c71 h
  | 12, _, _ => exact fun pc i h => xk_code_ok xk_c72 h
  | 13, _, _ => exact fun pc i h => xk_code_ok xk_c73 h
  | 14, _, _ => exact fun pc i h => xk_code_ok xk_c74 h
  | 15, _, _ => exact fun pc i h => xk_code_ok xk_c75 h
  | 16, _, _ => exact fun pc i h => xk_code_ok xk_c76 h
  | 17, _, _ => exact fun pc i h => xk_code_ok xk_c77 h
  | 18, _, _ => exact fun pc i h => xk_code_ok xk_c78 h
  | 19, _, _ => exact fun pc i h => xk_code_ok xk_c79 h
  | r + 20, h, _ => exact absurd h (by omega)
theorem xk_cd_c4 {r : Nat} (hr : r < 20) (h1 : 80 + r < 317) : ∀ pc i, (xt_code (80 + r)).lookup pc = some i → xx_dec (xt_bt (80 + r)) pc i := by
  match r, hr, h1 with
  | 0, _, _ => exact fun pc i h => xk_code_ok xk_c80 h
  | 1, _, _ => exact fun pc i h => xk_code_ok xk_c81 h
  | 2, _, _ => exact fun pc i h => xk_code_ok xk_c82 h
  | 3, _, _ => exact fun pc i h => xk_code_ok xk_c83 h
  | 4, _, _ => exact fun pc i h => xk_code_ok xk_c84 h
  | 5, _, _ => exact fun pc i h => xk_code_ok xk_c85 h
  | 6, _, _ => exact fun pc i h => xk_code_ok xk_c86 h
  | 7, _, _ => exact fun pc i h => xk_code_ok xk_c87 h
  | 8, _, _ => exact fun pc i h => xk_code_ok xk_c88 h
  | 9, _, _ => exact fun pc i h => xk_code_ok xk_c89 h
  | 10, _, _ => exact fun pc i h => xk_code_ok xk_c90 h
  | 11, _, _ => exact fun pc i h => xk_code_ok xk_c91 h
  | 12, _, _ => exact fun pc i h => xk_code_ok xk_c92 h
  | 13, _, _ => exact fun pc i h => xk_code_ok xk_c93 h
  | 14, _, _ => exact fun pc i h => xk_code_ok xk_c94 h
  | 15, _, _ => exact fun pc i h => xk_code_ok xk_c95 h
  | 16, _, _ => exact fun pc i h => xk_code_ok xk_c96 h
  | 17, _, _ => exact fun pc i h => xk_code_ok xk_c97 h
  | 18, _, _ => exact fun pc i h => xk_code_ok xk_c98 h
  | 19, _, _ => exact fun pc i h => xk_code_ok xk_c99 h
  | r + 20, h, _ => exact absurd h (by omega)
theorem xk_cd_c5 {r : Nat} (hr : r < 20) (h1 : 100 + r < 317) : ∀ pc i, (xt_code (100 + r)).lookup pc = some i → xx_dec (xt_bt (100 + r)) pc i := by
  match r, hr, h1 with
  | 0, _, _ => exact fun pc i h => xk_code_ok xk_c100 h
  | 1, _, _ => exact fun pc i h => xk_code_ok xk_c101 h
  | 2, _, _ => exact fun pc i h => xk_code_ok xk_c102 h
  | 3, _, _ => exact fun pc i h => xk_code_ok xk_c103 h
  | 4, _, _ => exact fun pc i h => xk_code_ok xk_c104 h
  | 5, _, _ => exact fun pc i h => xk_code_ok xk_c105 h
  | 6, _, _ => exact fun pc i h => xk_code_ok xk_c106 h
  | 7, _, _ => exact fun pc i h => xk_code_ok xk_c107 h
  | 8, _, _ => exact fun pc i h => xk_code_ok xk_c108 h
  | 9, _, _ => exact fun pc i h => xk_code_ok xk_c109 h
  | 10, _, _ => exact fun pc i h => xk_code_ok xk_c110 h
  | 11, _, _ => exact fun pc i h => xk_code_ok xk_c111 h
  | 12, _, _ => exact fun pc i h => xk_code_ok xk_c112 h
  | 13, _, _ => exact fun pc i h => xk_code_ok xk_c113 h
  | 14, _, _ => exact fun pc i h => xk_code_ok xk_c114 h
  | 15, _, _ => exact fun pc i h => xk_code_ok xk_c115 h
  | 16, _, _ => exact fun pc i h => xk_code_ok xk_c116 h
  | 17, _, _ => exact fun pc i h => xk_code_ok xk_c117 h
  | 18, _, _ => exact fun pc i h => xk_code_ok xk_c118 h
  | 19, _, _ => exact fun pc i h => xk_code_ok xk_c119 h
  | r + 20, h, _ => exact absurd h (by omega)
theorem xk_cd_c6 {r : Nat} (hr : r < 20) (h1 : 120 + r < 317) : ∀ pc i, (xt_code (120 + r)).lookup pc = some i → xx_dec (xt_bt (120 + r)) pc i := by
  match r, hr, h1 with
  | 0, _, _ => exact fun pc i h => xk_code_ok xk_c120 h
  | 1, _, _ => exact fun pc i h => xk_code_ok xk_c121 h
  | 2, _, _ => exact fun pc i h => xk_code_ok xk_c122 h
  | 3, _, _ => exact fun pc i h => xk_code_ok xk_c123 h
  | 4, _, _ => exact fun pc i h => xk_code_ok xk_c124 h
  | 5, _, _ => exact fun pc i h => xk_code_ok xk_c125 h
  | 6, _, _ => exact fun pc i h => xk_code_ok xk_c126 h
  | 7, _, _ => exact fun pc i h => xk_code_ok xk_c127 h
  | 8, _, _ => exact fun pc i h => xk_code_ok xk_c128 h
  | 9, _, _ => exact fun pc i h => xk_code_ok xk_c129 h
  | 10, _, _ => exact fun pc i h => xk_code_ok xk_c130 h
  | 11, _, _ => exact fun pc i h => xk_code_ok xk_c131 h
  | 12, _, _ => exact fun pc i h => xk_code_ok xk_c132 h
  | 13, _, _ => exact fun pc i h => xk_code_ok xk_c133 h
  | 14, _, _ => exact fun pc i h => xk_code_ok xk_c134 h
  | 15, _, _ => exact fun pc i h => xk_code_ok xk_c135 h
  | 16, _, _ => exact fun pc i h => xk_code_ok xk_c136 h
  | 17, _, _ => exact fun pc i h => xk_code_ok xk_c137 h
  | 18, _, _ => exact fun pc i h => xk_code_ok xk_c138 h
  | 19, _, _ => exact fun pc i h => xk_code_ok xk_c139 h
  | r + 20, h, _ => exact absurd h (by omega)
theorem xk_cd_c7 {r : Nat} (hr : r < 20) (h1 : 140 + r < 317) : ∀ pc i, (xt_code (140 + r)).lookup pc = some i → xx_dec (xt_bt (140 + r)) pc i := by
  match r, hr, h1 with
  | 0, _, _ => exact fun pc i h => xk_code_ok xk_c140 h
  | 1, _, _ => exact fun pc i h => xk_code_ok xk_c141 h
  | 2, _, _ => exact fun pc i h => xk_code_ok xk_c142 h
  | 3, _, _ => exact fun pc i h => xk_code_ok xk_c143 h
  | 4, _, _ => exact fun pc i h => xk_code_ok xk_c144 h
  | 5, _, _ => exact fun pc i h => xk_code_ok xk_c145 h
  | 6, _, _ => exact fun pc i h => xk_code_ok xk_c146 h
  | 7, _, _ => exact fun pc i h => xk_code_ok xk_c147 h
  | 8, _, _ => exact fun pc i h => xk_code_ok xk_c148 h
  | 9, _, _ => exact fun pc i h => xk_code_ok xk_c149 h
  | 10, _, _ => exact fun pc i h => xk_code_ok xk_c150 h
  | 11, _, _ => exact fun pc i h => xk_code_ok xk_c151 h
  | 12, _, _ => exact fun pc i h => xk_code_ok xk_c152 h
  | 13, _, _ => exact fun pc i h => xk_code_ok xk_c153 h
  | 14, _, _ => exact fun pc i h => xk_code_ok xk_c154 h
  | 15, _, _ => exact fun pc i h => xk_code_ok xk_c155 h
  | 16, _, _ => exact fun pc i h => xk_code_ok xk_c156 h
  | 17, _, _ => exact fun pc i h => xk_code_ok xk_c157 h
  | 18, _, _ => exact fun pc i h => xk_code_ok xk_c158 h
  | 19, _, _ => exact fun pc i h => xk_code_ok xk_c159 h
  | r + 20, h, _ => exact absurd h (by omega)
theorem xk_cd_c8 {r : Nat} (hr : r < 20) (h1 : 160 + r < 317) : ∀ pc i, (xt_code (160 + r)).lookup pc = some i → xx_dec (xt_bt (160 + r)) pc i := by
  match r, hr, h1 with
  | 0, _, _ => exact fun pc i h => xk_code_ok xk_c160 h
  | 1, _, _ => exact fun pc i h => xk_code_ok xk_c161 h
  | 2, _, _ => exact fun pc i h => xk_code_ok xk_c162 h
  | 3, _, _ => exact fun pc i h => xk_code_ok xk_c163 h
  | 4, _, _ => exact fun pc i h => xk_code_ok xk_c164 h
  | 5, _, _ => exact fun pc i h => xk_code_ok xk_c165 h
  | 6, _, _ => exact fun pc i h => xk_code_ok xk_c166 h
  | 7, _, _ => exact fun pc i h => xk_code_ok xk_c167 h
  | 8, _, _ => exact fun pc i h => xk_code_ok xk_c168 h
  | 9, _, _ => exact fun pc i h => xk_code_ok xk_c169 h
  | 10, _, _ => exact fun pc i h => xk_code_ok xk_c170 h
  | 11, _, _ => exact fun pc i h => xk_code_ok xk_c171 h
  | 12, _, _ => exact fun pc i h => xk_code_ok xk_c172 h
  | 13, _, _ => exact fun pc i h => xk_code_ok xk_c173 h
  | 14, _, _ => exact fun pc i h => xk_code_ok xk_c174 h
  | 15, _, _ => exact fun pc i h => xk_code_ok xk_c175 h
  | 16, _, _ => exact fun pc i h => xk_code_ok xk_c176 h
  | 17, _, _ => exact fun pc i h => xk_code_ok xk_c177 h
  | 18, _, _ => exact fun pc i h => xk_code_ok xk_c178 h
  | 19, _, _ => exact fun pc i h => xk_code_ok xk_c179 h
  | r + 20, h, _ => exact absurd h (by omega)
theorem xk_cd_c9 {r : Nat} (hr : r < 20) (h1 : 180 + r < 317) : ∀ pc i, (xt_code (180 + r)).lookup pc = some i → xx_dec (xt_bt (180 + r)) pc i := by
  match r, hr, h1 with
  | 0, _, _ => exact fun pc i h => xk_code_ok xk_c180 h
  | 1, _, _ => exact fun pc i h => xk_code_ok xk_c181 h
  | 2, _, _ => exact fun pc i h => xk_code_ok xk_c182 h
  | 3, _, _ => exact fun pc i h => xk_code_ok xk_c183 h
  | 4, _, _ => exact fun pc i h => xk_code_ok xk_c184 h
  | 5, _, _ => exact fun pc i h => xk_code_ok xk_c185 h
  | 6, _, _ => exact fun pc i h => xk_code_ok xk_c186 h
  | 7, _, _ => exact fun pc i h => xk_code_ok xk_c187 h
  | 8, _, _ => exact fun pc i h => xk_code_ok xk_c188 h
  | 9, _, _ => exact fun pc i h => xk_code_ok xk_c189 h
  | 10, _, _ => exact fun pc i h => xk_code_ok xk_c190 h
  | 11, _, _ => exact fun pc i h => xk_code_ok xk_c191 h
  | 12, _, _ => exact fun pc i h => xk_code_ok xk_c192 h
  | 13, _, _ => exact fun pc i h => xk_code_ok xk_c193 h
  | 14, _, _ => exact fun pc i h => xk_code_ok xk_c194 h
  | 15, _, _ => exact fun pc i h => xk_code_ok xk_c195 h
  | 16, _, _ => exact fun pc i h => xk_code_ok xk_c196 h
  | 17, _, _ => exact fun pc i h => xk_code_ok xk_c197 h
  | 18, _, _ => exact fun pc i h => xk_code_ok xk_c198 h
  | 19, _, _ => exact fun pc i h => xk_code_ok xk_c199 h
  | r + 20, h, _ => exact absurd h (by omega)
theorem xk_cd_c10 {r : Nat} (hr : r < 20) (h1 : 200 + r < 317) : ∀ pc i, (xt_code (200 + r)).lookup pc = some i → xx_dec (xt_bt (200 + r)) pc i := by
  match r, hr, h1 with
  | 0, _, _ => exact fun pc i h => xk_code_ok xk_c200 h
  | 1, _, _ => exact fun pc i h => xk_code_ok xk_c201 h
  | 2, _, _ => exact fun pc i h => xk_code_ok xk_c202 h
  | 3, _, _ => exact fun pc i h => xk_code_ok xk_c203 h
  | 4, _, _ => exact fun pc i h => xk_code_ok xk_c204 h
  | 5, _, _ => exact fun pc i h => xk_code_ok xk_c205 h
  | 6, _, _ => exact fun pc i h => xk_code_ok xk_c206 h
  | 7, _, _ => exact fun pc i h => xk_code_ok xk_c207 h
  | 8, _, _ => exact fun pc i h => xk_code_ok xk_c208 h
  | 9, _, _ => exact fun pc i h => xk_code_ok xk_c209 h
  | 10, _, _ => exact fun pc i h => xk_code_ok xk_c210 h
  | 11, _, _ => exact fun pc i h => xk_code_ok xk_c211 h
  | 12, _, _ => exact fun pc i h => xk_code_ok xk_c212 h
  | 13, _, _ => exact fun pc i h => xk_code_ok xk_c213 h
  | 14, _, _ => exact fun pc i h => xk_code_ok xk_c214 h
  | 15, _, _ => exact fun pc i h => xk_code_ok xk_c215 h
  | 16, _, _ => exact fun pc i h => xk_code_ok xk_c216 h
  | 17, _, _ => exact fun pc i h => xk_code_ok xk_c217 h
  | 18, _, _ => exact fun pc i h => xk_code_ok xk_c218 h
  | 19, _, _ => exact fun pc i h => xk_code_ok xk_c219 h
  | r + 20, h, _ => exact absurd h (by omega)
theorem xk_cd_c11 {r : Nat} (hr : r < 20) (h1 : 220 + r < 317) : ∀ pc i, (xt_code (220 + r)).lookup pc = some i → xx_dec (xt_bt (220 + r)) pc i := by
  match r, hr, h1 with
  | 0, _, _ => exact fun pc i h => xk_code_ok xk_c220 h
  | 1, _, _ => exact fun pc i h => xk_code_ok xk_c221 h
  | 2, _, _ => exact fun pc i h => xk_code_ok xk_c222 h
  | 3, _, _ => exact fun pc i h => xk_code_ok xk_c223 h
  | 4, _, _ => exact fun pc i h => xk_code_ok xk_c224 h
  | 5, _, _ => exact fun pc i h => xk_code_ok xk_c225 h
  | 6, _, _ => exact fun pc i h => xk_code_ok xk_c226 h
  | 7, _, _ => exact fun pc i h => xk_code_ok xk_c227 h
  | 8, _, _ => exact fun pc i h => xk_code_ok xk_c228 h
  | 9, _, _ => exact fun pc i h => xk_code_ok xk_c229 h
  | 10, _, _ => exact fun pc i h => xk_code_ok xk_c230 h
  | 11, _, _ => exact fun pc i h => xk_code_ok xk_c231 h
  | 12, _, _ => exact fun pc i h => xk_code_ok xk_c232 h
  | 13, _, _ => exact fun pc i h => xk_code_ok xk_c233 h
  | 14, _, _ => exact fun pc i h => xk_code_ok xk_c234 h
  | 15, _, _ => exact fun pc i h => xk_code_ok xk_c235 h
  | 16, _, _ => exact fun pc i h => xk_code_ok xk_c236 h
  | 17, _, _ => exact fun pc i h => xk_code_ok xk_c237 h
  | 18, _, _ => exact fun pc i h => xk_code_ok xk_c238 h
  | 19, _, _ => exact fun pc i h => xk_code_ok xk_c239 h
  | r + 20, h, _ => exact absurd h (by omega)
theorem xk_cd_c12 {r : Nat} (hr : r < 20) (h1 : 240 + r < 317) : ∀ pc i, (xt_code (240 + r)).lookup pc = some i → xx_dec (xt_bt (240 + r)) pc i := by
  match r, hr, h1 with
  | 0, _, _ => exact fun pc i h => xk_code_ok xk_c240 h
  | 1, _, _ => exact fun pc i h => xk_code_ok xk_c241 h
  | 2, _, _ => exact fun pc i h => xk_code_ok xk_c242 h
  | 3, _, _ => exact fun pc i h => xk_code_ok xk_c243 h
  | 4, _, _ => exact fun pc i h => xk_code_ok xk_c244 h
  | 5, _, _ => exact fun pc i h => xk_code_ok xk_c245 h
  | 6, _, _ => exact fun pc i h => xk_code_ok xk_c246 h
  | 7, _, _ => exact fun pc i h => xk_code_ok xk_c247 h
  | 8, _, _ => exact fun pc i h => xk_code_ok xk_c248 h
  | 9, _, _ => exact fun pc i h => xk_code_ok xk_c249 h
  | 10, _, _ => exact fun pc i h => xk_code_ok xk_c250 h
  | 11, _, _ => exact fun pc i h => xk_code_ok xk_c251 h
  | 12, _, _ => exact fun pc i h => xk_code_ok xk_c252 h
  | 13, _, _ => exact fun pc i h => xk_code_ok xk_c253 h
  | 14, _, _ => exact fun pc i h => xk_code_ok xk_c254 h
  | 15, _, _ => exact fun pc i h => xk_code_ok xk_c255 h
  | 16, _, _ => exact fun pc i h => xk_code_ok xk_c256 h
  | 17, _, _ => exact fun pc i h => xk_code_ok xk_c257 h
  | 18, _, _ => exact fun pc i h => xk_code_ok xk_c258 h
  | 19, _, _ => exact fun pc i h => xk_code_ok xk_c259 h
  | r + 20, h, _ => exact absurd h (by omega)
theorem xk_cd_c13 {r : Nat} (hr : r < 20) (h1 : 260 + r < 317) : ∀ pc i, (xt_code (260 + r)).lookup pc = some i → xx_dec (xt_bt (260 + r)) pc i := by
  match r, hr, h1 with
  | 0, _, _ => exact fun pc i h => xk_code_ok xk_c260 h
  | 1, _, _ => exact fun pc i h => xk_code_ok xk_c261 h
  | 2, _, _ => exact fun pc i h => xk_code_ok xk_c262 h
  | 3, _, _ => exact fun pc i h => xk_code_ok xk_c263 h
  | 4, _, _ => exact fun pc i h => xk_code_ok xk_c264 h
  | 5, _, _ => exact fun pc i h => xk_code_ok xk_c265 h
  | 6, _, _ => exact fun pc i h => xk_code_ok xk_c266 h
  | 7, _, _ => exact fun pc i h => xk_code_ok xk_c267 h
  | 8, _, _ => exact fun pc i h => xk_code_ok xk_c268 h
  | 9, _, _ => exact fun pc i h => xk_code_ok xk_c269 h
  | 10, _, _ => exact fun pc i h => xk_code_ok xk_c270 h
  | 11, _, _ => exact fun pc i h => xk_code_ok xk_c271 h
  | 12, _, _ => exact fun pc i h => xk_code_ok xk_c272 h
  | 13, _, _ => exact fun pc i h => xk_code_ok xk_c273 h
  | 14, _, _ => exact fun pc i h => xk_code_ok xk_c274 h
  | 15, _, _ => exact fun pc i h => xk_code_ok xk_c275 h
  | 16, _, _ => exact fun pc i h => xk_code_ok xk_c276 h
  | 17, _, _ => exact fun pc i h => xk_code_ok xk_c277 h
  | 18, _, _ => exact fun pc i h => xk_code_ok xk_c278 h
  | 19, _, _ => exact fun pc i h => xk_code_ok xk_c279 h
  | r + 20, h, _ => exact absurd h (by omega)
theorem xk_cd_c14 {r : Nat} (hr : r < 20) (h1 : 280 + r < 317) : ∀ pc i, (xt_code (280 + r)).lookup pc = some i → xx_dec (xt_bt (280 + r)) pc i := by
  match r, hr, h1 with
  | 0, _, _ => exact fun pc i h => xk_code_ok xk_c280 h
  | 1, _, _ => exact fun pc i h => xk_code_ok xk_c281 h
  | 2, _, _ => exact fun pc i h => xk_code_ok xk_c282 h
  | 3, _, _ => exact fun pc i h => xk_code_ok xk_c283 h
  | 4, _, _ => exact fun pc i h => xk_code_ok xk_c284 h
  | 5, _, _ => exact fun pc i h => xk_code_ok xk_c285 h
  | 6, _, _ => exact fun pc i h => xk_code_ok xk_c286 h
  | 7, _, _ => exact fun pc i h => xk_code_ok xk_c287 h
  | 8, _, _ => exact fun pc i h => xk_code_ok xk_c288 h
  | 9, _, _ => exact fun pc i h => xk_code_ok xk_c289 h
  | 10, _, _ => exact fun pc i h => xk_code_ok xk_c290 h
  | 11, _, _ => exact fun pc i h => xk_code_ok xk_c291 h
  | 12, _, _ => exact fun pc i h => xk_code_ok xk_c292 h
  | 13, _, _ => exact fun pc i h => xk_code_ok xk_c293 h
  | 14, _, _ => exact fun pc i h => xk_code_ok xk_c294 h
  | 15, _, _ => exact fun pc i h => xk_code_ok xk_c295 h
  | 16, _, _ => exact fun pc i h => xk_code_ok xk_c296 h
  | 17, _, _ => exact fun pc i h => xk_code_ok xk_c297 h
  | 18, _, _ => exact fun pc i h => xk_code_ok xk_c298 h
  | 19, _, _ => exact fun pc i h => xk_code_ok xk_c299 h
  | r + 20, h, _ => exact absurd h (by omega)
theorem xk_cd_c15 {r : Nat} (hr : r < 20) (h1 : 300 + r < 317) : ∀ pc i, (xt_code (300 + r)).lookup pc = some i → xx_dec (xt_bt (300 + r)) pc i := by
  match r, hr, h1 with
  | 0, _, _ => exact fun pc i h => xk_code_ok xk_c300 h
  | 1, _, _ => exact fun pc i h => xk_code_ok xk_c301 h
  | 2, _, _ => exact fun pc i h => xk_code_ok xk_c302 h
  | 3, _, _ => exact fun pc i h => xk_code_ok xk_c303 h
  | 4, _, _ => exact fun pc i h => xk_code_ok xk_c304 h
  | 5, _, _ => exact fun pc i h => xk_code_ok xk_c305 h
  | 6, _, _ => exact fun pc i h => xk_code_ok xk_c306 h
  | 7, _, _ => exact fun pc i h => xk_code_ok xk_c307 h
  | 8, _, _ => exact fun pc i h => xk_code_ok xk_c308 h
  | 9, _, _ => exact fun pc i h => xk_code_ok xk_c309 h
  | 10, _, _ => exact fun pc i h => xk_code_ok xk_c310 h
  | 11, _, _ => exact fun pc i h => xk_code_ok xk_c311 h
  | 12, _, _ => exact fun pc i h => xk_code_ok xk_c312 h
  | 13, _, _ => exact fun pc i h => xk_code_ok xk_c313 h
  | 14, _, _ => exact fun pc i h => xk_code_ok xk_c314 h
  | 15, _, _ => exact fun pc i h => xk_code_ok xk_c315 h
  | 16, _, _ => exact fun pc i h => xk_code_ok xk_c316 h
  | 17, _, h1 => exact absurd h1 (by decide)
  | 18, _, h1 => exact absurd h1 (by decide)
  | 19, _, h1 => exact absurd h1 (by decide)
  | r + 20, h, _ => exact absurd h (by omega)
theorem xk_codes : ∀ k pc i, (xt_code k).lookup pc = some i → xx_dec (xt_bt k) pc i := by
  intro k
  by_cases h1 : k < 317
  · have hk : k = 20 * (k / 20) + k % 20 := (Nat.div_add_mod k 20).symm
    have hr : k % 20 < 20 := Nat.mod_lt _ (by decide)
    have hq : k / 20 < 16 := by omega
    generalize k / 20 = q at hk hq
    generalize k % 20 = r at hk hr
    subst hk
    match q, hq, h1 with
    | 0, _, h1 => exact xk_cd_c0 hr h1
    | 1, _, h1 => exact xk_cd_c1 hr h1
    | 2, _, h1 => exact xk_cd_c2 hr h1
    | 3, _, h1 => exact xk_cd_c3 hr h1
    | 4, _, h1 => exact xk_cd_c4 hr h1
    | 5, _, h1 => exact xk_cd_c5 hr h1
    | 6, _, h1 => exact xk_cd_c6 hr h1
    | 7, _, h1 => exact xk_cd_c7 hr h1
    | 8, _, h1 => exact xk_cd_c8 hr h1
    | 9, _, h1 => exact xk_cd_c9 hr h1
    | 10, _, h1 => exact xk_cd_c10 hr h1
    | 11, _, h1 => exact xk_cd_c11 hr h1
    | 12, _, h1 => exact xk_cd_c12 hr h1
    | 13, _, h1 => exact xk_cd_c13 hr h1
    | 14, _, h1 => exact xk_cd_c14 hr h1
    | 15, _, h1 => exact xk_cd_c15 hr h1
    | q + 16, h, _ => exact absurd h (by omega)
  · obtain ⟨j, rfl⟩ : ∃ j, k = j + 317 := ⟨k - 317, by omega⟩
    intro pc i h
    simp [xt_code] at h
