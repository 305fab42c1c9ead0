theorem xk_mem {b i : Nat} {w : Cond} (h : (xk_blk b)[i]? = some w) (hg : goodWord w = true) : w ∈ xt_Ts := List.mem_filter.mpr ⟨xk_blk_in (List.mem_of_getElem? h), hg⟩
def xk_m (k : Nat) : Bool := (xk_w (xt_mw k).2 (.initialized (xt_nm k).cls) && (decide ((xt_nm k).cls ≠ "java/lang/invoke/MethodHandle" ∧ (xt_nm k).cls ≠ "java/lang/invoke/VarHandle") && (plainName (xt_nm k).cls && (xt_on (xt_own k) == (xt_nm k).cls && ((!xt_ini k || (xt_nm k).name == "<init>") && Nat.ble (xt_nl k) 30)))))
set_option maxRecDepth 4096 in
theorem xk_mc_1 : Cond.code (xt_nm 1) (xt_bt 1) (xt_nl 1) (xt_ret 1) ∈ xt_Ts := xk_mem (b := 1) (i := 31) rfl rfl
set_option maxRecDepth 4096 in
theorem xk_mc_2 : Cond.code (xt_nm 2) (xt_bt 2) (xt_nl 2) (xt_ret 2) ∈ xt_Ts := xk_mem (b := 1) (i := 39) rfl rfl
set_option maxRecDepth 4096 in
theorem xk_mc_3 : Cond.code (xt_nm 3) (xt_bt 3) (xt_nl 3) (xt_ret 3) ∈ xt_Ts := xk_mem (b := 1) (i := 56) rfl rfl
set_option maxRecDepth 4096 in
theorem xk_mc_4 : Cond.code (xt_nm 4) (xt_bt 4) (xt_nl 4) (xt_ret 4) ∈ xt_Ts := xk_mem (b := 1) (i := 60) rfl rfl
set_option maxRecDepth 4096 in
theorem xk_mc_5 : Cond.code (xt_nm 5) (xt_bt 5) (xt_nl 5) (xt_ret 5) ∈ xt_Ts := xk_mem (b := 1) (i := 65) rfl rfl
set_option maxRecDepth 4096 in
theorem xk_mc_6 : Cond.code (xt_nm 6) (xt_bt 6) (xt_nl 6) (xt_ret 6) ∈ xt_Ts := xk_mem (b := 1) (i := 69) rfl rfl
set_option maxRecDepth 4096 in
theorem xk_mc_7 : Cond.code (xt_nm 7) (xt_bt 7) (xt_nl 7) (xt_ret 7) ∈ xt_Ts := xk_mem (b := 1) (i := 73) rfl rfl
set_option maxRecDepth 4096 in
theorem xk_mc_8 : Cond.code (xt_nm 8) (xt_bt 8) (xt_nl 8) (xt_ret 8) ∈ xt_Ts := xk_mem (b := 1) (i := 79) rfl rfl
set_option maxRecDepth 4096 in
theorem xk_mc_9 : Cond.code (xt_nm 9) (xt_bt 9) (xt_nl 9) (xt_ret 9) ∈ xt_Ts := xk_mem (b := 1) (i := 83) rfl rfl
set_option maxRecDepth 4096 in
theorem xk_mc_10 : Cond.code (xt_nm 10) (xt_bt 10) (xt_nl 10) (xt_ret 10) ∈ xt_Ts := xk_mem (b := 1) (i := 86) rfl rfl
set_option maxRecDepth 4096 in
theorem xk_mc_11 : Cond.code (xt_nm 11) (xt_bt 11) (xt_nl 11) (xt_ret 11) ∈ xt_Ts := xk_mem (b := 1) (i := 89) rfl rfl
set_option maxRecDepth 4096 in
theorem xk_mc_12 : Cond.code (xt_nm 12) (xt_bt 12) (xt_nl 12) (xt_ret 12) ∈ xt_Ts := xk_mem (b := 1) (i := 94) rfl rfl
set_option maxRecDepth 4096 in
theorem xk_mc_13 : Cond.code (xt_nm 13) (xt_bt 13) (xt_nl 13) (xt_ret 13) ∈ xt_Ts := xk_mem (b := 1) (i := 117) rfl rfl
set_option maxRecDepth 4096 in
theorem xk_mc_14 : Cond.code (xt_nm 14) (xt_bt 14) (xt_nl 14) (xt_ret 14) ∈ xt_Ts := xk_mem (b := 1) (i := 122) rfl rfl
set_option maxRecDepth 4096 in
theorem xk_mc_15 : Cond.code (xt_nm 15) (xt_bt 15) (xt_nl 15) (xt_ret 15) ∈ xt_Ts := xk_mem (b := 1) (i := 125) rfl rfl
set_option maxRecDepth 4096 in
theorem xk_mc_16 : Cond.code (xt_nm 16) (xt_bt 16) (xt_nl 16) (xt_ret 16) ∈ xt_Ts := xk_mem (b := 1) (i := 154) rfl rfl
set_option maxRecDepth 4096 in
theorem xk_mc_17 : Cond.code (xt_nm 17) (xt_bt 17) (xt_nl 17) (xt_ret 17) ∈ xt_Ts := xk_mem (b := 1) (i := 159) rfl rfl
set_option maxRecDepth 4096 in
theorem xk_mc_18 : Cond.code (xt_nm 18) (xt_bt 18) (xt_nl 18) (xt_ret 18) ∈ xt_Ts := xk_mem (b := 1) (i := 163) rfl rfl
set_option maxRecDepth 4096 in
theorem xk_mc_19 : Cond.code (xt_nm 19) (xt_bt 19) (xt_nl 19) (xt_ret 19) ∈ xt_Ts := xk_mem (b := 1) (i := 167) rfl rfl
set_option maxRecDepth 4096 in
theorem xk_mc_20 : Cond.code (xt_nm 20) (xt_bt 20) (xt_nl 20) (xt_ret 20) ∈ xt_Ts := xk_mem (b := 1) (i := 170) rfl rfl
set_option maxRecDepth 4096 in
theorem xk_mc_21 : Cond.code (xt_nm 21) (xt_bt 21) (xt_nl 21) (xt_ret 21) ∈ xt_Ts := xk_mem (b := 1) (i := 175) rfl rfl
set_option maxRecDepth 4096 in
theorem xk_mc_22 : Cond.code (xt_nm 22) (xt_bt 22) (xt_nl 22) (xt_ret 22) ∈ xt_Ts := xk_mem (b := 1) (i := 235) rfl rfl
set_option maxRecDepth 4096 in
theorem xk_mc_23 : Cond.code (xt_nm 23) (xt_bt 23) (xt_nl 23) (xt_ret 23) ∈ xt_Ts := xk_mem (b := 2) (i := 33) rfl rfl
set_option maxRecDepth 4096 in
theorem xk_mc_24 : Cond.code (xt_nm 24) (xt_bt 24) (xt_nl 24) (xt_ret 24) ∈ xt_Ts := xk_mem (b := 2) (i := 51) rfl rfl
set_option maxRecDepth 4096 in
theorem xk_mc_25 : Cond.code (xt_nm 25) (xt_bt 25) (xt_nl 25) (xt_ret 25) ∈ xt_Ts := xk_mem (b := 2) (i := 57) rfl rfl
set_option maxRecDepth 4096 in
theorem xk_mc_26 : Cond.code (xt_nm 26) (xt_bt 26) (xt_nl 26) (xt_ret 26) ∈ xt_Ts := xk_mem (b := 2) (i := 60) rfl rfl
set_option maxRecDepth 4096 in
theorem xk_mc_27 : Cond.code (xt_nm 27) (xt_bt 27) (xt_nl 27) (xt_ret 27) ∈ xt_Ts := xk_mem (b := 2) (i := 63) rfl rfl
set_option maxRecDepth 4096 in
theorem xk_mc_28 : Cond.code (xt_nm 28) (xt_bt 28) (xt_nl 28) (xt_ret 28) ∈ xt_Ts := xk_mem (b := 2) (i := 93) rfl rfl
set_option maxRecDepth 4096 in
theorem xk_mc_29 : Cond.code (xt_nm 29) (xt_bt 29) (xt_nl 29) (xt_ret 29) ∈ xt_Ts := xk_mem (b := 2) (i := 120) rfl rfl
set_option maxRecDepth 4096 in
theorem xk_mc_30 : Cond.code (xt_nm 30) (xt_bt 30) (xt_nl 30) (xt_ret 30) ∈ xt_Ts := xk_mem (b := 2) (i := 126) rfl rfl
set_option maxRecDepth 4096 in
theorem xk_mc_31 : Cond.code (xt_nm 31) (xt_bt 31) (xt_nl 31) (xt_ret 31) ∈ xt_Ts := xk_mem (b := 2) (i := 163) rfl rfl
set_option maxRecDepth 4096 in
theorem xk_mc_32 : Cond.code (xt_nm 32) (xt_bt 32) (xt_nl 32) (xt_ret 32) ∈ xt_Ts := xk_mem (b := 2) (i := 210) rfl rfl
set_option maxRecDepth 4096 in
theorem xk_mc_33 : Cond.code (xt_nm 33) (xt_bt 33) (xt_nl 33) (xt_ret 33) ∈ xt_Ts := xk_mem (b := 2) (i := 214) rfl rfl
set_option maxRecDepth 4096 in
theorem xk_mc_34 : Cond.code (xt_nm 34) (xt_bt 34) (xt_nl 34) (xt_ret 34) ∈ xt_Ts := xk_mem (b := 2) (i := 218) rfl rfl
set_option maxRecDepth 4096 in
theorem xk_mc_35 : Cond.code (xt_nm 35) (xt_bt 35) (xt_nl 35) (xt_ret 35) ∈ xt_Ts := xk_mem (b := 2) (i := 222) rfl rfl
set_option maxRecDepth 4096 in
theorem xk_mc_36 : Cond.code (xt_nm 36) (xt_bt 36) (xt_nl 36) (xt_ret 36) ∈ xt_Ts := xk_mem (b := 2) (i := 229) rfl rfl
set_option maxRecDepth 4096 in
theorem xk_mc_37 : Cond.code (xt_nm 37) (xt_bt 37) (xt_nl 37) (xt_ret 37) ∈ xt_Ts := xk_mem (b := 2) (i := 233) rfl rfl
set_option maxRecDepth 4096 in
theorem xk_mc_38 : Cond.code (xt_nm 38) (xt_bt 38) (xt_nl 38) (xt_ret 38) ∈ xt_Ts := xk_mem (b := 2) (i := 237) rfl rfl
set_option maxRecDepth 4096 in
theorem xk_mc_39 : Cond.code (xt_nm 39) (xt_bt 39) (xt_nl 39) (xt_ret 39) ∈ xt_Ts := xk_mem (b := 3) (i := 1) rfl rfl
set_option maxRecDepth 4096 in
theorem xk_mc_40 : Cond.code (xt_nm 40) (xt_bt 40) (xt_nl 40) (xt_ret 40) ∈ xt_Ts := xk_mem (b := 3) (i := 5) rfl rfl
set_option maxRecDepth 4096 in
theorem xk_mc_41 : Cond.code (xt_nm 41) (xt_bt 41) (xt_nl 41) (xt_ret 41) ∈ xt_Ts := xk_mem (b := 3) (i := 9) rfl rfl
set_option maxRecDepth 4096 in
theorem xk_mc_42 : Cond.code (xt_nm 42) (xt_bt 42) (xt_nl 42) (xt_ret 42) ∈ xt_Ts := xk_mem (b := 3) (i := 15) rfl rfl
set_option maxRecDepth 4096 in
theorem xk_mc_43 : Cond.code (xt_nm 43) (xt_bt 43) (xt_nl 43) (xt_ret 43) ∈ xt_Ts := xk_mem (b := 3) (i := 20) rfl rfl
set_option maxRecDepth 4096 in
theorem xk_mc_44 : Cond.code (xt_nm 44) (xt_bt 44) (xt_nl 44) (xt_ret 44) ∈ xt_Ts := xk_mem (b := 3) (i := 50) rfl rfl
set_option maxRecDepth 4096 in
theorem xk_mc_45 : Cond.code (xt_nm 45) (xt_bt 45) (xt_nl 45) (xt_ret 45) ∈ xt_Ts := xk_mem (b := 3) (i := 89) rfl rfl
set_option maxRecDepth 4096 in
theorem xk_mc_46 : Cond.code (xt_nm 46) (xt_bt 46) (xt_nl 46) (xt_ret 46) ∈ xt_Ts := xk_mem (b := 3) (i := 145) rfl rfl
set_option maxRecDepth 4096 in
theorem xk_mc_47 : Cond.code (xt_nm 47) (xt_bt 47) (xt_nl 47) (xt_ret 47) ∈ xt_Ts := xk_mem (b := 3) (i := 149) rfl rfl
set_option maxRecDepth 4096 in
theorem xk_mc_48 : Cond.code (xt_nm 48) (xt_bt 48) (xt_nl 48) (xt_ret 48) ∈ xt_Ts := xk_mem (b := 4) (i := 132) rfl rfl
set_option maxRecDepth 4096 in
theorem xk_mc_49 : Cond.code (xt_nm 49) (xt_bt 49) (xt_nl 49) (xt_ret 49) ∈ xt_Ts := xk_mem (b := 6) (i := 31) rfl rfl
set_option maxRecDepth 4096 in
theorem xk_mc_50 : Cond.code (xt_nm 50) (xt_bt 50) (xt_nl 50) (xt_ret 50) ∈ xt_Ts := xk_mem (b := 6) (i := 35) rfl rfl
set_option maxRecDepth 4096 in
theorem xk_mc_51 : Cond.code (xt_nm 51) (xt_bt 51) (xt_nl 51) (xt_ret 51) ∈ xt_Ts := xk_mem (b := 6) (i := 39) rfl rfl
set_option maxRecDepth 4096 in
theorem xk_mc_52 : Cond.code (xt_nm 52) (xt_bt 52) (xt_nl 52) (xt_ret 52) ∈ xt_Ts := xk_mem (b := 6) (i := 43) rfl rfl
set_option maxRecDepth 4096 in
theorem xk_mc_53 : Cond.code (xt_nm 53) (xt_bt 53) (xt_nl 53) (xt_ret 53) ∈ xt_Ts := xk_mem (b := 6) (i := 47) rfl rfl
set_option maxRecDepth 4096 in
theorem xk_mc_54 : Cond.code (xt_nm 54) (xt_bt 54) (xt_nl 54) (xt_ret 54) ∈ xt_Ts := xk_mem (b := 6) (i := 51) rfl rfl
set_option maxRecDepth 4096 in
theorem xk_mc_55 : Cond.code (xt_nm 55) (xt_bt 55) (xt_nl 55) (xt_ret 55) ∈ xt_Ts := xk_mem (b := 6) (i := 55) rfl rfl
set_option maxRecDepth 4096 in
theorem xk_mc_56 : Cond.code (xt_nm 56) (xt_bt 56) (xt_nl 56) (xt_ret 56) ∈ xt_Ts := xk_mem (b := 6) (i := 59) rfl rfl
set_option maxRecDepth 4096 in
theorem xk_mc_57 : Cond.code (xt_nm 57) (xt_bt 57) (xt_nl 57) (xt_ret 57) ∈ xt_Ts := xk_mem (b := 6) (i := 64) rfl rfl
set_option maxRecDepth 4096 in
theorem xk_mc_58 : Cond.code (xt_nm 58) (xt_bt 58) (xt_nl 58) (xt_ret 58) ∈ xt_Ts := xk_mem (b := 6) (i := 68) rfl rfl
set_option maxRecDepth 4096 in
theorem xk_mc_59 : Cond.code (xt_nm 59) (xt_bt 59) (xt_nl 59) (xt_ret 59) ∈ xt_Ts := xk_mem (b := 6) (i := 80) rfl rfl
set_option maxRecDepth 4096 in
theorem xk_mc_60 : Cond.code (xt_nm 60) (xt_bt 60) (xt_nl 60) (xt_ret 60) ∈ xt_Ts := xk_mem (b := 6) (i := 87) rfl rfl
set_option maxRecDepth 4096 in
theorem xk_mc_61 : Cond.code (xt_nm 61) (xt_bt 61) (xt_nl 61) (xt_ret 61) ∈ xt_Ts := xk_mem (b := 6) (i := 91) rfl rfl
set_option maxRecDepth 4096 in
theorem xk_mc_62 : Cond.code (xt_nm 62) (xt_bt 62) (xt_nl 62) (xt_ret 62) ∈ xt_Ts := xk_mem (b := 6) (i := 95) rfl rfl
set_option maxRecDepth 4096 in
theorem xk_mc_63 : Cond.code (xt_nm 63) (xt_bt 63) (xt_nl 63) (xt_ret 63) ∈ xt_Ts := xk_mem (b := 6) (i := 99) rfl rfl
set_option maxRecDepth 4096 in
theorem xk_mc_64 : Cond.code (xt_nm 64) (xt_bt 64) (xt_nl 64) (xt_ret 64) ∈ xt_Ts := xk_mem (b := 6) (i := 103) rfl rfl
set_option maxRecDepth 4096 in
theorem xk_mc_65 : Cond.code (xt_nm 65) (xt_bt 65) (xt_nl 65) (xt_ret 65) ∈ xt_Ts := xk_mem (b := 6) (i := 107) rfl rfl
set_option maxRecDepth 4096 in
theorem xk_mc_66 : Cond.code (xt_nm 66) (xt_bt 66) (xt_nl 66) (xt_ret 66) ∈ xt_Ts := xk_mem (b := 7) (i := 131) rfl rfl
set_option maxRecDepth 4096 in
theorem xk_mc_67 : Cond.code (xt_nm 67) (xt_bt 67) (xt_nl 67) (xt_ret 67) ∈ xt_Ts := xk_mem (b := 7) (i := 135) rfl rfl
set_option maxRecDepth 4096 in
theorem xk_mc_68 : Cond.code (xt_nm 68) (xt_bt 68) (xt_nl 68) (xt_ret 68) ∈ xt_Ts := xk_mem (b := 7) (i := 139) rfl rfl
set_option maxRecDepth 4096 in
theorem xk_mc_69 : Cond.code (xt_nm 69) (xt_bt 69) (xt_nl 69) (xt_ret 69) ∈ xt_Ts := xk_mem (b := 7) (i := 143) rfl rfl
set_option maxRecDepth 4096 in
theorem xk_mc_70 : Cond.code (xt_nm 70) (xt_bt 70) (xt_nl 70) (xt_ret 70) ∈ xt_Ts := xk_mem (b := 7) (i := 147) rfl rfl
set_option maxRecDepth 4096 in
theorem xk_mc_71 : Cond.code (xt_nm 71) (xt_bt 71) (xt_nl 71) (xt_ret 71) ∈ xt_Ts := xk_mem (b := 7) (i := 151) rfl rfl
set_option maxRecDepth 4096 in
theorem xk_mc_72 : Cond.code (xt_nm 72) (xt_bt 72) (xt_nl 72) (xt_ret 72) ∈ xt_Ts := xk_mem (b := 7) (i := 163) rfl rfl
set_option maxRecDepth 4096 in
theorem xk_mc_73 : Cond.code (xt_nm 73) (xt_bt 73) (xt_nl 73) (xt_ret 73) ∈ xt_Ts := xk_mem (b := 7) (i := 216) rfl rfl
set_option maxRecDepth 4096 in
theorem xk_mc_74 : Cond.code (xt_nm 74) (xt_bt 74) (xt_nl 74) (xt_ret 74) ∈ xt_Ts := xk_mem (b := 9) (i := 81) rfl rfl
set_option maxRecDepth 4096 in
theorem xk_mc_75 : Cond.code (xt_nm 75) (xt_bt 75) (xt_nl 75) (xt_ret 75) ∈ xt_Ts := xk_mem (b := 9) (i := 85) rfl rfl
set_option maxRecDepth 4096 in
theorem xk_mc_76 : Cond.code (xt_nm 76) (xt_bt 76) (xt_nl 76) (xt_ret 76) ∈ xt_Ts := xk_mem (b := 9) (i := 89) rfl rfl
set_option maxRecDepth 4096 in
theorem xk_mc_77 : Cond.code (xt_nm 77) (xt_bt 77) (xt_nl 77) (xt_ret 77) ∈ xt_Ts := xk_mem (b := 9) (i := 93) rfl rfl
set_option maxRecDepth 4096 in
theorem xk_mc_78 : Cond.code (xt_nm 78) (xt_bt 78) (xt_nl 78) (xt_ret 78) ∈ xt_Ts := xk_mem (b := 9) (i := 97) rfl rfl
set_option maxRecDepth 4096 in
theorem xk_mc_79 : Cond.code (xt_nm 79) (xt_bt 79) (xt_nl 79) (xt_ret 79) ∈ xt_Ts := xk_mem (b := 9) (i := 101) rfl rfl
set_option maxRecDepth 4096 in
theorem xk_mc_80 : Cond.code (xt_nm 80) (xt_bt 80) (xt_nl 80) (xt_ret 80) ∈ xt_Ts := xk_mem (b := 7) (i := 155) rfl rfl
set_option maxRecDepth 4096 in
theorem xk_mc_81 : Cond.code (xt_nm 81) (xt_bt 81) (xt_nl 81) (xt_ret 81) ∈ xt_Ts := xk_mem (b := 7) (i := 159) rfl rfl
set_option maxRecDepth 4096 in
theorem xk_mc_82 : Cond.code (xt_nm 82) (xt_bt 82) (xt_nl 82) (xt_ret 82) ∈ xt_Ts := xk_mem (b := 7) (i := 167) rfl rfl
set_option maxRecDepth 4096 in
theorem xk_mc_83 : Cond.code (xt_nm 83) (xt_bt 83) (xt_nl 83) (xt_ret 83) ∈ xt_Ts := xk_mem (b := 7) (i := 171) rfl rfl
set_option maxRecDepth 4096 in
theorem xk_mc_84 : Cond.code (xt_nm 84) (xt_bt 84) (xt_nl 84) (xt_ret 84) ∈ xt_Ts := xk_mem (b := 7) (i := 175) rfl rfl
set_option maxRecDepth 4096 in
theorem xk_mc_85 : Cond.code (xt_nm 85) (xt_bt 85) (xt_nl 85) (xt_ret 85) ∈ xt_Ts := xk_mem (b := 7) (i := 179) rfl rfl
set_option maxRecDepth 4096 in
theorem xk_mc_86 : Cond.code (xt_nm 86) (xt_bt 86) (xt_nl 86) (xt_ret 86) ∈ xt_Ts := xk_mem (b := 7) (i := 182) rfl rfl
set_option maxRecDepth 4096 in
theorem xk_mc_87 : Cond.code (xt_nm 87) (xt_bt 87) (xt_nl 87) (xt_ret 87) ∈ xt_Ts := xk_mem (b := 7) (i := 187) rfl rfl
set_option maxRecDepth 4096 in
theorem xk_mc_88 : Cond.code (xt_nm 88) (xt_bt 88) (xt_nl 88) (xt_ret 88) ∈ xt_Ts := xk_mem (b := 7) (i := 191) rfl rfl
set_option maxRecDepth 4096 in
theorem xk_mc_89 : Cond.code (xt_nm 89) (xt_bt 89) (xt_nl 89) (xt_ret 89) ∈ xt_Ts := xk_mem (b := 7) (i := 195) rfl rfl
set_option maxRecDepth 4096 in
theorem xk_mc_90 : Cond.code (xt_nm 90) (xt_bt 90) (xt_nl 90) (xt_ret 90) ∈ xt_Ts := xk_mem (b := 7) (i := 198) rfl rfl
set_option maxRecDepth 4096 in
theorem xk_mc_91 : Cond.code (xt_nm 91) (xt_bt 91) (xt_nl 91) (xt_ret 91) ∈ xt_Ts := xk_mem (b := 7) (i := 201) rfl rfl
set_option maxRecDepth 4096 in
theorem xk_mc_92 : Cond.code (xt_nm 92) (xt_bt 92) (xt_nl 92) (xt_ret 92) ∈ xt_Ts := xk_mem (b := 7) (i := 205) rfl rfl
set_option maxRecDepth 4096 in
theorem xk_mc_93 : Cond.code (xt_nm 93) (xt_bt 93) (xt_nl 93) (xt_ret 93) ∈ xt_Ts := xk_mem (b := 7) (i := 212) rfl rfl
set_option maxRecDepth 4096 in
theorem xk_mc_94 : Cond.code (xt_nm 94) (xt_bt 94) (xt_nl 94) (xt_ret 94) ∈ xt_Ts := xk_mem (b := 7) (i := 220) rfl rfl
set_option maxRecDepth 4096 in
theorem xk_mc_95 : Cond.code (xt_nm 95) (xt_bt 95) (xt_nl 95) (xt_ret 95) ∈ xt_Ts := xk_mem (b := 7) (i := 224) rfl rfl
set_option maxRecDepth 4096 in
theorem xk_mc_96 : Cond.code (xt_nm 96) (xt_bt 96) (xt_nl 96) (xt_ret 96) ∈ xt_Ts := xk_mem (b := 7) (i := 228) rfl rfl
set_option maxRecDepth 4096 in
theorem xk_mc_97 : Cond.code (xt_nm 97) (xt_bt 97) (xt_nl 97) (xt_ret 97) ∈ xt_Ts := xk_mem (b := 7) (i := 232) rfl rfl
set_option maxRecDepth 4096 in
theorem xk_mc_98 : Cond.code (xt_nm 98) (xt_bt 98) (xt_nl 98) (xt_ret 98) ∈ xt_Ts := xk_mem (b := 7) (i := 236) rfl rfl
set_option maxRecDepth 4096 in
theorem xk_mc_99 : Cond.code (xt_nm 99) (xt_bt 99) (xt_nl 99) (xt_ret 99) ∈ xt_Ts := xk_mem (b := 8) (i := 0) rfl rfl
set_option maxRecDepth 4096 in
theorem xk_mc_100 : Cond.code (xt_nm 100) (xt_bt 100) (xt_nl 100) (xt_ret 100) ∈ xt_Ts := xk_mem (b := 8) (i := 4) rfl rfl
set_option maxRecDepth 4096 in
theorem xk_mc_101 : Cond.code (xt_nm 101) (xt_bt 101) (xt_nl 101) (xt_ret 101) ∈ xt_Ts := xk_mem (b := 8) (i := 8) rfl rfl
set_option maxRecDepth 4096 in
theorem xk_mc_102 : Cond.code (xt_nm 102) (xt_bt 102) (xt_nl 102) (xt_ret 102) ∈ xt_Ts := xk_mem (b := 8) (i := 11) rfl rfl
set_option maxRecDepth 4096 in
theorem xk_mc_103 : Cond.code (xt_nm 103) (xt_bt 103) (xt_nl 103) (xt_ret 103) ∈ xt_Ts := xk_mem (b := 8) (i := 15) rfl rfl
set_option maxRecDepth 4096 in
theorem xk_mc_104 : Cond.code (xt_nm 104) (xt_bt 104) (xt_nl 104) (xt_ret 104) ∈ xt_Ts := xk_mem (b := 8) (i := 19) rfl rfl
set_option maxRecDepth 4096 in
theorem xk_mc_105 : Cond.code (xt_nm 105) (xt_bt 105) (xt_nl 105) (xt_ret 105) ∈ xt_Ts := xk_mem (b := 8) (i := 23) rfl rfl
set_option maxRecDepth 4096 in
theorem xk_mc_106 : Cond.code (xt_nm 106) (xt_bt 106) (xt_nl 106) (xt_ret 106) ∈ xt_Ts := xk_mem (b := 8) (i := 27) rfl rfl
set_option maxRecDepth 4096 in
theorem xk_mc_107 : Cond.code (xt_nm 107) (xt_bt 107) (xt_nl 107) (xt_ret 107) ∈ xt_Ts := xk_mem (b := 8) (i := 31) rfl rfl
set_option maxRecDepth 4096 in
theorem xk_mc_108 : Cond.code (xt_nm 108) (xt_bt 108) (xt_nl 108) (xt_ret 108) ∈ xt_Ts := xk_mem (b := 8) (i := 35) rfl rfl
set_option maxRecDepth 4096 in
theorem xk_mc_109 : Cond.code (xt_nm 109) (xt_bt 109) (xt_nl 109) (xt_ret 109) ∈ xt_Ts := xk_mem (b := 8) (i := 39) rfl rfl
set_option maxRecDepth 4096 in
theorem xk_mc_110 : Cond.code (xt_nm 110) (xt_bt 110) (xt_nl 110) (xt_ret 110) ∈ xt_Ts := xk_mem (b := 8) (i := 43) rfl rfl
set_option maxRecDepth 4096 in
theorem xk_mc_111 : Cond.code (xt_nm 111) (xt_bt 111) (xt_nl 111) (xt_ret 111) ∈ xt_Ts := xk_mem (b := 8) (i := 47) rfl rfl
set_option maxRecDepth 4096 in
theorem xk_mc_112 : Cond.code (xt_nm 112) (xt_bt 112) (xt_nl 112) (xt_ret 112) ∈ xt_Ts := xk_mem (b := 8) (i := 51) rfl rfl
set_option maxRecDepth 4096 in
theorem xk_mc_113 : Cond.code (xt_nm 113) (xt_bt 113) (xt_nl 113) (xt_ret 113) ∈ xt_Ts := xk_mem (b := 8) (i := 55) rfl rfl
set_option maxRecDepth 4096 in
theorem xk_mc_114 : Cond.code (xt_nm 114) (xt_bt 114) (xt_nl 114) (xt_ret 114) ∈ xt_Ts := xk_mem (b := 8) (i := 59) rfl rfl
set_option maxRecDepth 4096 in
theorem xk_mc_115 : Cond.code (xt_nm 115) (xt_bt 115) (xt_nl 115) (xt_ret 115) ∈ xt_Ts := xk_mem (b := 8) (i := 63) rfl rfl
set_option maxRecDepth 4096 in
theorem xk_mc_116 : Cond.code (xt_nm 116) (xt_bt 116) (xt_nl 116) (xt_ret 116) ∈ xt_Ts := xk_mem (b := 8) (i := 67) rfl rfl
set_option maxRecDepth 4096 in
theorem xk_mc_117 : Cond.code (xt_nm 117) (xt_bt 117) (xt_nl 117) (xt_ret 117) ∈ xt_Ts := xk_mem (b := 8) (i := 71) rfl rfl
set_option maxRecDepth 4096 in
theorem xk_mc_118 : Cond.code (xt_nm 118) (xt_bt 118) (xt_nl 118) (xt_ret 118) ∈ xt_Ts := xk_mem (b := 8) (i := 75) rfl rfl
set_option maxRecDepth 4096 in
theorem xk_mc_119 : Cond.code (xt_nm 119) (xt_bt 119) (xt_nl 119) (xt_ret 119) ∈ xt_Ts := xk_mem (b := 8) (i := 79) rfl rfl
set_option maxRecDepth 4096 in
theorem xk_mc_120 : Cond.code (xt_nm 120) (xt_bt 120) (xt_nl 120) (xt_ret 120) ∈ xt_Ts := xk_mem (b := 8) (i := 83) rfl rfl
set_option maxRecDepth 4096 in
theorem xk_mc_121 : Cond.code (xt_nm 121) (xt_bt 121) (xt_nl 121) (xt_ret 121) ∈ xt_Ts := xk_mem (b := 8) (i := 87) rfl rfl
set_option maxRecDepth 4096 in
theorem xk_mc_122 : Cond.code (xt_nm 122) (xt_bt 122) (xt_nl 122) (xt_ret 122) ∈ xt_Ts := xk_mem (b := 8) (i := 91) rfl rfl
set_option maxRecDepth 4096 in
theorem xk_mc_123 : Cond.code (xt_nm 123) (xt_bt 123) (xt_nl 123) (xt_ret 123) ∈ xt_Ts := xk_mem (b := 8) (i := 95) rfl rfl
set_option maxRecDepth 4096 in
theorem xk_mc_124 : Cond.code (xt_nm 124) (xt_bt 124) (xt_nl 124) (xt_ret 124) ∈ xt_Ts := xk_mem (b := 8) (i := 99) rfl rfl
set_option maxRecDepth 4096 in
theorem xk_mc_125 : Cond.code (xt_nm 125) (xt_bt 125) (xt_nl 125) (xt_ret 125) ∈ xt_Ts := xk_mem (b := 8) (i := 103) rfl rfl
set_option maxRecDepth 4096 in
theorem xk_mc_126 : Cond.code (xt_nm 126) (xt_bt 126) (xt_nl 126) (xt_ret 126) ∈ xt_Ts := xk_mem (b := 8) (i := 107) rfl rfl
set_option maxRecDepth 4096 in
theorem xk_mc_127 : Cond.code (xt_nm 127) (xt_bt 127) (xt_nl 127) (xt_ret 127) ∈ xt_Ts := xk_mem (b := 8) (i := 111) rfl rfl
set_option maxRecDepth 4096 in
theorem xk_mc_128 : Cond.code (xt_nm 128) (xt_bt 128) (xt_nl 128) (xt_ret 128) ∈ xt_Ts := xk_mem (b := 8) (i := 115) rfl rfl
set_option maxRecDepth 4096 in
theorem xk_mc_129 : Cond.code (xt_nm 129) (xt_bt 129) (xt_nl 129) (xt_ret 129) ∈ xt_Ts := xk_mem (b := 8) (i := 119) rfl rfl
set_option maxRecDepth 4096 in
theorem xk_mc_130 : Cond.code (xt_nm 130) (xt_bt 130) (xt_nl 130) (xt_ret 130) ∈ xt_Ts := xk_mem (b := 8) (i := 123) rfl rfl
set_option maxRecDepth 4096 in
theorem xk_mc_131 : Cond.code (xt_nm 131) (xt_bt 131) (xt_nl 131) (xt_ret 131) ∈ xt_Ts := xk_mem (b := 8) (i := 127) rfl rfl
set_option maxRecDepth 4096 in
theorem xk_mc_132 : Cond.code (xt_nm 132) (xt_bt 132) (xt_nl 132) (xt_ret 132) ∈ xt_Ts := xk_mem (b := 8) (i := 131) rfl rfl
set_option maxRecDepth 4096 in
theorem xk_mc_133 : Cond.code (xt_nm 133) (xt_bt 133) (xt_nl 133) (xt_ret 133) ∈ xt_Ts := xk_mem (b := 8) (i := 135) rfl rfl
set_option maxRecDepth 4096 in
theorem xk_mc_134 : Cond.code (xt_nm 134) (xt_bt 134) (xt_nl 134) (xt_ret 134) ∈ xt_Ts := xk_mem (b := 8) (i := 139) rfl rfl
set_option maxRecDepth 4096 in
theorem xk_mc_135 : Cond.code (xt_nm 135) (xt_bt 135) (xt_nl 135) (xt_ret 135) ∈ xt_Ts := xk_mem (b := 8) (i := 143) rfl rfl
set_option maxRecDepth 4096 in
theorem xk_mc_136 : Cond.code (xt_nm 136) (xt_bt 136) (xt_nl 136) (xt_ret 136) ∈ xt_Ts := xk_mem (b := 8) (i := 147) rfl rfl
set_option maxRecDepth 4096 in
theorem xk_mc_137 : Cond.code (xt_nm 137) (xt_bt 137) (xt_nl 137) (xt_ret 137) ∈ xt_Ts := xk_mem (b := 8) (i := 151) rfl rfl
set_option maxRecDepth 4096 in
theorem xk_mc_138 : Cond.code (xt_nm 138) (xt_bt 138) (xt_nl 138) (xt_ret 138) ∈ xt_Ts := xk_mem (b := 8) (i := 155) rfl rfl
set_option maxRecDepth 4096 in
theorem xk_mc_139 : Cond.code (xt_nm 139) (xt_bt 139) (xt_nl 139) (xt_ret 139) ∈ xt_Ts := xk_mem (b := 8) (i := 159) rfl rfl
set_option maxRecDepth 4096 in
theorem xk_mc_140 : Cond.code (xt_nm 140) (xt_bt 140) (xt_nl 140) (xt_ret 140) ∈ xt_Ts := xk_mem (b := 8) (i := 163) rfl rfl
set_option maxRecDepth 4096 in
theorem xk_mc_141 : Cond.code (xt_nm 141) (xt_bt 141) (xt_nl 141) (xt_ret 141) ∈ xt_Ts := xk_mem (b := 8) (i := 167) rfl rfl
set_option maxRecDepth 4096 in
theorem xk_mc_142 : Cond.code (xt_nm 142) (xt_bt 142) (xt_nl 142) (xt_ret 142) ∈ xt_Ts := xk_mem (b := 8) (i := 171) rfl rfl
set_option maxRecDepth 4096 in
theorem xk_mc_143 : Cond.code (xt_nm 143) (xt_bt 143) (xt_nl 143) (xt_ret 143) ∈ xt_Ts := xk_mem (b := 8) (i := 175) rfl rfl
set_option maxRecDepth 4096 in
theorem xk_mc_144 : Cond.code (xt_nm 144) (xt_bt 144) (xt_nl 144) (xt_ret 144) ∈ xt_Ts := xk_mem (b := 8) (i := 179) rfl rfl
set_option maxRecDepth 4096 in
theorem xk_mc_145 : Cond.code (xt_nm 145) (xt_bt 145) (xt_nl 145) (xt_ret 145) ∈ xt_Ts := xk_mem (b := 8) (i := 183) rfl rfl
set_option maxRecDepth 4096 in
theorem xk_mc_146 : Cond.code (xt_nm 146) (xt_bt 146) (xt_nl 146) (xt_ret 146) ∈ xt_Ts := xk_mem (b := 8) (i := 186) rfl rfl
set_option maxRecDepth 4096 in
theorem xk_mc_147 : Cond.code (xt_nm 147) (xt_bt 147) (xt_nl 147) (xt_ret 147) ∈ xt_Ts := xk_mem (b := 8) (i := 190) rfl rfl
set_option maxRecDepth 4096 in
theorem xk_mc_148 : Cond.code (xt_nm 148) (xt_bt 148) (xt_nl 148) (xt_ret 148) ∈ xt_Ts := xk_mem (b := 8) (i := 194) rfl rfl
set_option maxRecDepth 4096 in
theorem xk_mc_149 : Cond.code (xt_nm 149) (xt_bt 149) (xt_nl 149) (xt_ret 149) ∈ xt_Ts := xk_mem (b := 8) (i := 198) rfl rfl
set_option maxRecDepth 4096 in
theorem xk_mc_150 : Cond.code (xt_nm 150) (xt_bt 150) (xt_nl 150) (xt_ret 150) ∈ xt_Ts := xk_mem (b := 8) (i := 202) rfl rfl
set_option maxRecDepth 4096 in
theorem xk_mc_151 : Cond.code (xt_nm 151) (xt_bt 151) (xt_nl 151) (xt_ret 151) ∈ xt_Ts := xk_mem (b := 8) (i := 205) rfl rfl
set_option maxRecDepth 4096 in
theorem xk_mc_152 : Cond.code (xt_nm 152) (xt_bt 152) (xt_nl 152) (xt_ret 152) ∈ xt_Ts := xk_mem (b := 8) (i := 209) rfl rfl
set_option maxRecDepth 4096 in
theorem xk_mc_153 : Cond.code (xt_nm 153) (xt_bt 153) (xt_nl 153) (xt_ret 153) ∈ xt_Ts := xk_mem (b := 8) (i := 213) rfl rfl
set_option maxRecDepth 4096 in
theorem xk_mc_154 : Cond.code (xt_nm 154) (xt_bt 154) (xt_nl 154) (xt_ret 154) ∈ xt_Ts := xk_mem (b := 8) (i := 217) rfl rfl
set_option maxRecDepth 4096 in
theorem xk_mc_155 : Cond.code (xt_nm 155) (xt_bt 155) (xt_nl 155) (xt_ret 155) ∈ xt_Ts := xk_mem (b := 8) (i := 221) rfl rfl
set_option maxRecDepth 4096 in
theorem xk_mc_156 : Cond.code (xt_nm 156) (xt_bt 156) (xt_nl 156) (xt_ret 156) ∈ xt_Ts := xk_mem (b := 8) (i := 225) rfl rfl
set_option maxRecDepth 4096 in
theorem xk_mc_157 : Cond.code (xt_nm 157) (xt_bt 157) (xt_nl 157) (xt_ret 157) ∈ xt_Ts := xk_mem (b := 8) (i := 229) rfl rfl
set_option maxRecDepth 4096 in
theorem xk_mc_158 : Cond.code (xt_nm 158) (xt_bt 158) (xt_nl 158) (xt_ret 158) ∈ xt_Ts := xk_mem (b := 8) (i := 233) rfl rfl
set_option maxRecDepth 4096 in
theorem xk_mc_159 : Cond.code (xt_nm 159) (xt_bt 159) (xt_nl 159) (xt_ret 159) ∈ xt_Ts := xk_mem (b := 8) (i := 237) rfl rfl
set_option maxRecDepth 4096 in
theorem xk_mc_160 : Cond.code (xt_nm 160) (xt_bt 160) (xt_nl 160) (xt_ret 160) ∈ xt_Ts := xk_mem (b := 9) (i := 1) rfl rfl
set_option maxRecDepth 4096 in
theorem xk_mc_161 : Cond.code (xt_nm 161) (xt_bt 161) (xt_nl 161) (xt_ret 161) ∈ xt_Ts := xk_mem (b := 9) (i := 5) rfl rfl
set_option maxRecDepth 4096 in
theorem xk_mc_162 : Cond.code (xt_nm 162) (xt_bt 162) (xt_nl 162) (xt_ret 162) ∈ xt_Ts := xk_mem (b := 9) (i := 9) rfl rfl
set_option maxRecDepth 4096 in
theorem xk_mc_163 : Cond.code (xt_nm 163) (xt_bt 163) (xt_nl 163) (xt_ret 163) ∈ xt_Ts := xk_mem (b := 9) (i := 13) rfl rfl
set_option maxRecDepth 4096 in
theorem xk_mc_164 : Cond.code (xt_nm 164) (xt_bt 164) (xt_nl 164) (xt_ret 164) ∈ xt_Ts := xk_mem (b := 9) (i := 17) rfl rfl
set_option maxRecDepth 4096 in
theorem xk_mc_165 : Cond.code (xt_nm 165) (xt_bt 165) (xt_nl 165) (xt_ret 165) ∈ xt_Ts := xk_mem (b := 9) (i := 21) rfl rfl
set_option maxRecDepth 4096 in
theorem xk_mc_166 : Cond.code (xt_nm 166) (xt_bt 166) (xt_nl 166) (xt_ret 166) ∈ xt_Ts := xk_mem (b := 9) (i := 25) rfl rfl
set_option maxRecDepth 4096 in
theorem xk_mc_167 : Cond.code (xt_nm 167) (xt_bt 167) (xt_nl 167) (xt_ret 167) ∈ xt_Ts := xk_mem (b := 9) (i := 29) rfl rfl
set_option maxRecDepth 4096 in
theorem xk_mc_168 : Cond.code (xt_nm 168) (xt_bt 168) (xt_nl 168) (xt_ret 168) ∈ xt_Ts := xk_mem (b := 9) (i := 33) rfl rfl
set_option maxRecDepth 4096 in
theorem xk_mc_169 : Cond.code (xt_nm 169) (xt_bt 169) (xt_nl 169) (xt_ret 169) ∈ xt_Ts := xk_mem (b := 9) (i := 37) rfl rfl
set_option maxRecDepth 4096 in
theorem xk_mc_170 : Cond.code (xt_nm 170) (xt_bt 170) (xt_nl 170) (xt_ret 170) ∈ xt_Ts := xk_mem (b := 9) (i := 41) rfl rfl
set_option maxRecDepth 4096 in
theorem xk_mc_171 : Cond.code (xt_nm 171) (xt_bt 171) (xt_nl 171) (xt_ret 171) ∈ xt_Ts := xk_mem (b := 9) (i := 45) rfl rfl
set_option maxRecDepth 4096 in
theorem xk_mc_172 : Cond.code (xt_nm 172) (xt_bt 172) (xt_nl 172) (xt_ret 172) ∈ xt_Ts := xk_mem (b := 9) (i := 49) rfl rfl
set_option maxRecDepth 4096 in
theorem xk_mc_173 : Cond.code (xt_nm 173) (xt_bt 173) (xt_nl 173) (xt_ret 173) ∈ xt_Ts := xk_mem (b := 9) (i := 53) rfl rfl
set_option maxRecDepth 4096 in
theorem xk_mc_174 : Cond.code (xt_nm 174) (xt_bt 174) (xt_nl 174) (xt_ret 174) ∈ xt_Ts := xk_mem (b := 9) (i := 57) rfl rfl
set_option maxRecDepth 4096 in
theorem xk_mc_175 : Cond.code (xt_nm 175) (xt_bt 175) (xt_nl 175) (xt_ret 175) ∈ xt_Ts := xk_mem (b := 9) (i := 61) rfl rfl
set_option maxRecDepth 4096 in
theorem xk_mc_176 : Cond.code (xt_nm 176) (xt_bt 176) (xt_nl 176) (xt_ret 176) ∈ xt_Ts := xk_mem (b := 9) (i := 65) rfl rfl
set_option maxRecDepth 4096 in
theorem xk_mc_177 : Cond.code (xt_nm 177) (xt_bt 177) (xt_nl 177) (xt_ret 177) ∈ xt_Ts := xk_mem (b := 9) (i := 69) rfl rfl
set_option maxRecDepth 4096 in
theorem xk_mc_178 : Cond.code (xt_nm 178) (xt_bt 178) (xt_nl 178) (xt_ret 178) ∈ xt_Ts := xk_mem (b := 9) (i := 73) rfl rfl
set_option maxRecDepth 4096 in
theorem xk_mc_179 : Cond.code (xt_nm 179) (xt_bt 179) (xt_nl 179) (xt_ret 179) ∈ xt_Ts := xk_mem (b := 9) (i := 77) rfl rfl
set_option maxRecDepth 4096 in
theorem xk_mc_180 : Cond.code (xt_nm 180) (xt_bt 180) (xt_nl 180) (xt_ret 180) ∈ xt_Ts := xk_mem (b := 9) (i := 105) rfl rfl
set_option maxRecDepth 4096 in
theorem xk_mc_181 : Cond.code (xt_nm 181) (xt_bt 181) (xt_nl 181) (xt_ret 181) ∈ xt_Ts := xk_mem (b := 9) (i := 109) rfl rfl
set_option maxRecDepth 4096 in
theorem xk_mc_182 : Cond.code (xt_nm 182) (xt_bt 182) (xt_nl 182) (xt_ret 182) ∈ xt_Ts := xk_mem (b := 1) (i := 130) rfl rfl
set_option maxRecDepth 4096 in
theorem xk_mc_183 : Cond.code (xt_nm 183) (xt_bt 183) (xt_nl 183) (xt_ret 183) ∈ xt_Ts := xk_mem (b := 1) (i := 146) rfl rfl
set_option maxRecDepth 4096 in
theorem xk_mc_184 : Cond.code (xt_nm 184) (xt_bt 184) (xt_nl 184) (xt_ret 184) ∈ xt_Ts := xk_mem (b := 3) (i := 24) rfl rfl
set_option maxRecDepth 4096 in
theorem xk_mc_185 : Cond.code (xt_nm 185) (xt_bt 185) (xt_nl 185) (xt_ret 185) ∈ xt_Ts := xk_mem (b := 3) (i := 30) rfl rfl
set_option maxRecDepth 4096 in
theorem xk_mc_186 : Cond.code (xt_nm 186) (xt_bt 186) (xt_nl 186) (xt_ret 186) ∈ xt_Ts := xk_mem (b := 3) (i := 37) rfl rfl
set_option maxRecDepth 4096 in
theorem xk_mc_187 : Cond.code (xt_nm 187) (xt_bt 187) (xt_nl 187) (xt_ret 187) ∈ xt_Ts := xk_mem (b := 3) (i := 42) rfl rfl
set_option maxRecDepth 4096 in
theorem xk_mc_188 : Cond.code (xt_nm 188) (xt_bt 188) (xt_nl 188) (xt_ret 188) ∈ xt_Ts := xk_mem (b := 3) (i := 46) rfl rfl
set_option maxRecDepth 4096 in
theorem xk_mc_189 : Cond.code (xt_nm 189) (xt_bt 189) (xt_nl 189) (xt_ret 189) ∈ xt_Ts := xk_mem (b := 3) (i := 54) rfl rfl
set_option maxRecDepth 4096 in
theorem xk_mc_190 : Cond.code (xt_nm 190) (xt_bt 190) (xt_nl 190) (xt_ret 190) ∈ xt_Ts := xk_mem (b := 3) (i := 58) rfl rfl
set_option maxRecDepth 4096 in
theorem xk_mc_191 : Cond.code (xt_nm 191) (xt_bt 191) (xt_nl 191) (xt_ret 191) ∈ xt_Ts := xk_mem (b := 3) (i := 62) rfl rfl
set_option maxRecDepth 4096 in
theorem xk_mc_192 : Cond.code (xt_nm 192) (xt_bt 192) (xt_nl 192) (xt_ret 192) ∈ xt_Ts := xk_mem (b := 3) (i := 66) rfl rfl
set_option maxRecDepth 4096 in
theorem xk_mc_193 : Cond.code (xt_nm 193) (xt_bt 193) (xt_nl 193) (xt_ret 193) ∈ xt_Ts := xk_mem (b := 3) (i := 70) rfl rfl
set_option maxRecDepth 4096 in
theorem xk_mc_194 : Cond.code (xt_nm 194) (xt_bt 194) (xt_nl 194) (xt_ret 194) ∈ xt_Ts := xk_mem (b := 3) (i := 74) rfl rfl
set_option maxRecDepth 4096 in
theorem xk_mc_195 : Cond.code (xt_nm 195) (xt_bt 195) (xt_nl 195) (xt_ret 195) ∈ xt_Ts := xk_mem (b := 3) (i := 78) rfl rfl
set_option maxRecDepth 4096 in
theorem xk_mc_196 : Cond.code (xt_nm 196) (xt_bt 196) (xt_nl 196) (xt_ret 196) ∈ xt_Ts := xk_mem (b := 3) (i := 84) rfl rfl
set_option maxRecDepth 4096 in
theorem xk_mc_197 : Cond.code (xt_nm 197) (xt_bt 197) (xt_nl 197) (xt_ret 197) ∈ xt_Ts := xk_mem (b := 3) (i := 93) rfl rfl
set_option maxRecDepth 4096 in
theorem xk_mc_198 : Cond.code (xt_nm 198) (xt_bt 198) (xt_nl 198) (xt_ret 198) ∈ xt_Ts := xk_mem (b := 3) (i := 98) rfl rfl
set_option maxRecDepth 4096 in
theorem xk_mc_199 : Cond.code (xt_nm 199) (xt_bt 199) (xt_nl 199) (xt_ret 199) ∈ xt_Ts := xk_mem (b := 3) (i := 102) rfl rfl
set_option maxRecDepth 4096 in
theorem xk_mc_200 : Cond.code (xt_nm 200) (xt_bt 200) (xt_nl 200) (xt_ret 200) ∈ xt_Ts := xk_mem (b := 3) (i := 106) rfl rfl
set_option maxRecDepth 4096 in
theorem xk_mc_201 : Cond.code (xt_nm 201) (xt_bt 201) (xt_nl 201) (xt_ret 201) ∈ xt_Ts := xk_mem (b := 3) (i := 110) rfl rfl
set_option maxRecDepth 4096 in
theorem xk_mc_202 : Cond.code (xt_nm 202) (xt_bt 202) (xt_nl 202) (xt_ret 202) ∈ xt_Ts := xk_mem (b := 3) (i := 114) rfl rfl
set_option maxRecDepth 4096 in
theorem xk_mc_203 : Cond.code (xt_nm 203) (xt_bt 203) (xt_nl 203) (xt_ret 203) ∈ xt_Ts := xk_mem (b := 3) (i := 119) rfl rfl
set_option maxRecDepth 4096 in
theorem xk_mc_204 : Cond.code (xt_nm 204) (xt_bt 204) (xt_nl 204) (xt_ret 204) ∈ xt_Ts := xk_mem (b := 3) (i := 125) rfl rfl
set_option maxRecDepth 4096 in
theorem xk_mc_205 : Cond.code (xt_nm 205) (xt_bt 205) (xt_nl 205) (xt_ret 205) ∈ xt_Ts := xk_mem (b := 3) (i := 129) rfl rfl
set_option maxRecDepth 4096 in
theorem xk_mc_206 : Cond.code (xt_nm 206) (xt_bt 206) (xt_nl 206) (xt_ret 206) ∈ xt_Ts := xk_mem (b := 3) (i := 133) rfl rfl
set_option maxRecDepth 4096 in
theorem xk_mc_207 : Cond.code (xt_nm 207) (xt_bt 207) (xt_nl 207) (xt_ret 207) ∈ xt_Ts := xk_mem (b := 3) (i := 136) rfl rfl
set_option maxRecDepth 4096 in
theorem xk_mc_208 : Cond.code (xt_nm 208) (xt_bt 208) (xt_nl 208) (xt_ret 208) ∈ xt_Ts := xk_mem (b := 3) (i := 140) rfl rfl
set_option maxRecDepth 4096 in
theorem xk_mc_209 : Cond.code (xt_nm 209) (xt_bt 209) (xt_nl 209) (xt_ret 209) ∈ xt_Ts := xk_mem (b := 3) (i := 152) rfl rfl
set_option maxRecDepth 4096 in
theorem xk_mc_210 : Cond.code (xt_nm 210) (xt_bt 210) (xt_nl 210) (xt_ret 210) ∈ xt_Ts := xk_mem (b := 3) (i := 156) rfl rfl
set_option maxRecDepth 4096 in
theorem xk_mc_211 : Cond.code (xt_nm 211) (xt_bt 211) (xt_nl 211) (xt_ret 211) ∈ xt_Ts := xk_mem (b := 3) (i := 160) rfl rfl
set_option maxRecDepth 4096 in
theorem xk_mc_212 : Cond.code (xt_nm 212) (xt_bt 212) (xt_nl 212) (xt_ret 212) ∈ xt_Ts := xk_mem (b := 3) (i := 168) rfl rfl
set_option maxRecDepth 4096 in
theorem xk_mc_213 : Cond.code (xt_nm 213) (xt_bt 213) (xt_nl 213) (xt_ret 213) ∈ xt_Ts := xk_mem (b := 3) (i := 172) rfl rfl
set_option maxRecDepth 4096 in
theorem xk_mc_214 : Cond.code (xt_nm 214) (xt_bt 214) (xt_nl 214) (xt_ret 214) ∈ xt_Ts := xk_mem (b := 3) (i := 176) rfl rfl
set_option maxRecDepth 4096 in
theorem xk_mc_215 : Cond.code (xt_nm 215) (xt_bt 215) (xt_nl 215) (xt_ret 215) ∈ xt_Ts := xk_mem (b := 3) (i := 181) rfl rfl
set_option maxRecDepth 4096 in
theorem xk_mc_216 : Cond.code (xt_nm 216) (xt_bt 216) (xt_nl 216) (xt_ret 216) ∈ xt_Ts := xk_mem (b := 3) (i := 188) rfl rfl
set_option maxRecDepth 4096 in
theorem xk_mc_217 : Cond.code (xt_nm 217) (xt_bt 217) (xt_nl 217) (xt_ret 217) ∈ xt_Ts := xk_mem (b := 3) (i := 192) rfl rfl
set_option maxRecDepth 4096 in
theorem xk_mc_218 : Cond.code (xt_nm 218) (xt_bt 218) (xt_nl 218) (xt_ret 218) ∈ xt_Ts := xk_mem (b := 3) (i := 195) rfl rfl
set_option maxRecDepth 4096 in
theorem xk_mc_219 : Cond.code (xt_nm 219) (xt_bt 219) (xt_nl 219) (xt_ret 219) ∈ xt_Ts := xk_mem (b := 3) (i := 200) rfl rfl
set_option maxRecDepth 4096 in
theorem xk_mc_220 : Cond.code (xt_nm 220) (xt_bt 220) (xt_nl 220) (xt_ret 220) ∈ xt_Ts := xk_mem (b := 3) (i := 204) rfl rfl
set_option maxRecDepth 4096 in
theorem xk_mc_221 : Cond.code (xt_nm 221) (xt_bt 221) (xt_nl 221) (xt_ret 221) ∈ xt_Ts := xk_mem (b := 3) (i := 207) rfl rfl
set_option maxRecDepth 4096 in
theorem xk_mc_222 : Cond.code (xt_nm 222) (xt_bt 222) (xt_nl 222) (xt_ret 222) ∈ xt_Ts := xk_mem (b := 3) (i := 211) rfl rfl
set_option maxRecDepth 4096 in
theorem xk_mc_223 : Cond.code (xt_nm 223) (xt_bt 223) (xt_nl 223) (xt_ret 223) ∈ xt_Ts := xk_mem (b := 3) (i := 215) rfl rfl
set_option maxRecDepth 4096 in
theorem xk_mc_224 : Cond.code (xt_nm 224) (xt_bt 224) (xt_nl 224) (xt_ret 224) ∈ xt_Ts := xk_mem (b := 3) (i := 221) rfl rfl
set_option maxRecDepth 4096 in
theorem xk_mc_225 : Cond.code (xt_nm 225) (xt_bt 225) (xt_nl 225) (xt_ret 225) ∈ xt_Ts := xk_mem (b := 3) (i := 224) rfl rfl
set_option maxRecDepth 4096 in
theorem xk_mc_226 : Cond.code (xt_nm 226) (xt_bt 226) (xt_nl 226) (xt_ret 226) ∈ xt_Ts := xk_mem (b := 3) (i := 234) rfl rfl
set_option maxRecDepth 4096 in
theorem xk_mc_227 : Cond.code (xt_nm 227) (xt_bt 227) (xt_nl 227) (xt_ret 227) ∈ xt_Ts := xk_mem (b := 3) (i := 237) rfl rfl
set_option maxRecDepth 4096 in
theorem xk_mc_228 : Cond.code (xt_nm 228) (xt_bt 228) (xt_nl 228) (xt_ret 228) ∈ xt_Ts := xk_mem (b := 4) (i := 1) rfl rfl
set_option maxRecDepth 4096 in
theorem xk_mc_229 : Cond.code (xt_nm 229) (xt_bt 229) (xt_nl 229) (xt_ret 229) ∈ xt_Ts := xk_mem (b := 4) (i := 5) rfl rfl
set_option maxRecDepth 4096 in
theorem xk_mc_230 : Cond.code (xt_nm 230) (xt_bt 230) (xt_nl 230) (xt_ret 230) ∈ xt_Ts := xk_mem (b := 4) (i := 9) rfl rfl
set_option maxRecDepth 4096 in
theorem xk_mc_231 : Cond.code (xt_nm 231) (xt_bt 231) (xt_nl 231) (xt_ret 231) ∈ xt_Ts := xk_mem (b := 4) (i := 13) rfl rfl
set_option maxRecDepth 4096 in
theorem xk_mc_232 : Cond.code (xt_nm 232) (xt_bt 232) (xt_nl 232) (xt_ret 232) ∈ xt_Ts := xk_mem (b := 4) (i := 18) rfl rfl
set_option maxRecDepth 4096 in
theorem xk_mc_233 : Cond.code (xt_nm 233) (xt_bt 233) (xt_nl 233) (xt_ret 233) ∈ xt_Ts := xk_mem (b := 4) (i := 25) rfl rfl
set_option maxRecDepth 4096 in
theorem xk_mc_234 : Cond.code (xt_nm 234) (xt_bt 234) (xt_nl 234) (xt_ret 234) ∈ xt_Ts := xk_mem (b := 4) (i := 58) rfl rfl
set_option maxRecDepth 4096 in
theorem xk_mc_235 : Cond.code (xt_nm 235) (xt_bt 235) (xt_nl 235) (xt_ret 235) ∈ xt_Ts := xk_mem (b := 4) (i := 62) rfl rfl
set_option maxRecDepth 4096 in
theorem xk_mc_236 : Cond.code (xt_nm 236) (xt_bt 236) (xt_nl 236) (xt_ret 236) ∈ xt_Ts := xk_mem (b := 4) (i := 66) rfl rfl
set_option maxRecDepth 4096 in
theorem xk_mc_237 : Cond.code (xt_nm 237) (xt_bt 237) (xt_nl 237) (xt_ret 237) ∈ xt_Ts := xk_mem (b := 4) (i := 70) rfl rfl
set_option maxRecDepth 4096 in
theorem xk_mc_238 : Cond.code (xt_nm 238) (xt_bt 238) (xt_nl 238) (xt_ret 238) ∈ xt_Ts := xk_mem (b := 4) (i := 74) rfl rfl
set_option maxRecDepth 4096 in
theorem xk_mc_239 : Cond.code (xt_nm 239) (xt_bt 239) (xt_nl 239) (xt_ret 239) ∈ xt_Ts := xk_mem (b := 4) (i := 78) rfl rfl
set_option maxRecDepth 4096 in
theorem xk_mc_240 : Cond.code (xt_nm 240) (xt_bt 240) (xt_nl 240) (xt_ret 240) ∈ xt_Ts := xk_mem (b := 4) (i := 81) rfl rfl
set_option maxRecDepth 4096 in
theorem xk_mc_241 : Cond.code (xt_nm 241) (xt_bt 241) (xt_nl 241) (xt_ret 241) ∈ xt_Ts := xk_mem (b := 4) (i := 119) rfl rfl
set_option maxRecDepth 4096 in
theorem xk_mc_242 : Cond.code (xt_nm 242) (xt_bt 242) (xt_nl 242) (xt_ret 242) ∈ xt_Ts := xk_mem (b := 4) (i := 123) rfl rfl
set_option maxRecDepth 4096 in
theorem xk_mc_243 : Cond.code (xt_nm 243) (xt_bt 243) (xt_nl 243) (xt_ret 243) ∈ xt_Ts := xk_mem (b := 4) (i := 128) rfl rfl
set_option maxRecDepth 4096 in
theorem xk_mc_244 : Cond.code (xt_nm 244) (xt_bt 244) (xt_nl 244) (xt_ret 244) ∈ xt_Ts := xk_mem (b := 4) (i := 136) rfl rfl
set_option maxRecDepth 4096 in
theorem xk_mc_245 : Cond.code (xt_nm 245) (xt_bt 245) (xt_nl 245) (xt_ret 245) ∈ xt_Ts := xk_mem (b := 4) (i := 140) rfl rfl
set_option maxRecDepth 4096 in
theorem xk_mc_246 : Cond.code (xt_nm 246) (xt_bt 246) (xt_nl 246) (xt_ret 246) ∈ xt_Ts := xk_mem (b := 4) (i := 144) rfl rfl
set_option maxRecDepth 4096 in
theorem xk_mc_247 : Cond.code (xt_nm 247) (xt_bt 247) (xt_nl 247) (xt_ret 247) ∈ xt_Ts := xk_mem (b := 4) (i := 149) rfl rfl
set_option maxRecDepth 4096 in
theorem xk_mc_248 : Cond.code (xt_nm 248) (xt_bt 248) (xt_nl 248) (xt_ret 248) ∈ xt_Ts := xk_mem (b := 4) (i := 153) rfl rfl
set_option maxRecDepth 4096 in
theorem xk_mc_249 : Cond.code (xt_nm 249) (xt_bt 249) (xt_nl 249) (xt_ret 249) ∈ xt_Ts := xk_mem (b := 4) (i := 157) rfl rfl
set_option maxRecDepth 4096 in
theorem xk_mc_250 : Cond.code (xt_nm 250) (xt_bt 250) (xt_nl 250) (xt_ret 250) ∈ xt_Ts := xk_mem (b := 4) (i := 162) rfl rfl
set_option maxRecDepth 4096 in
theorem xk_mc_251 : Cond.code (xt_nm 251) (xt_bt 251) (xt_nl 251) (xt_ret 251) ∈ xt_Ts := xk_mem (b := 4) (i := 167) rfl rfl
set_option maxRecDepth 4096 in
theorem xk_mc_252 : Cond.code (xt_nm 252) (xt_bt 252) (xt_nl 252) (xt_ret 252) ∈ xt_Ts := xk_mem (b := 4) (i := 171) rfl rfl
set_option maxRecDepth 4096 in
theorem xk_mc_253 : Cond.code (xt_nm 253) (xt_bt 253) (xt_nl 253) (xt_ret 253) ∈ xt_Ts := xk_mem (b := 4) (i := 175) rfl rfl
set_option maxRecDepth 4096 in
theorem xk_mc_254 : Cond.code (xt_nm 254) (xt_bt 254) (xt_nl 254) (xt_ret 254) ∈ xt_Ts := xk_mem (b := 4) (i := 178) rfl rfl
set_option maxRecDepth 4096 in
theorem xk_mc_255 : Cond.code (xt_nm 255) (xt_bt 255) (xt_nl 255) (xt_ret 255) ∈ xt_Ts := xk_mem (b := 4) (i := 183) rfl rfl
set_option maxRecDepth 4096 in
theorem xk_mc_256 : Cond.code (xt_nm 256) (xt_bt 256) (xt_nl 256) (xt_ret 256) ∈ xt_Ts := xk_mem (b := 4) (i := 187) rfl rfl
set_option maxRecDepth 4096 in
theorem xk_mc_257 : Cond.code (xt_nm 257) (xt_bt 257) (xt_nl 257) (xt_ret 257) ∈ xt_Ts := xk_mem (b := 4) (i := 202) rfl rfl
set_option maxRecDepth 4096 in
theorem xk_mc_258 : Cond.code (xt_nm 258) (xt_bt 258) (xt_nl 258) (xt_ret 258) ∈ xt_Ts := xk_mem (b := 4) (i := 223) rfl rfl
set_option maxRecDepth 4096 in
theorem xk_mc_259 : Cond.code (xt_nm 259) (xt_bt 259) (xt_nl 259) (xt_ret 259) ∈ xt_Ts := xk_mem (b := 4) (i := 227) rfl rfl
set_option maxRecDepth 4096 in
theorem xk_mc_260 : Cond.code (xt_nm 260) (xt_bt 260) (xt_nl 260) (xt_ret 260) ∈ xt_Ts := xk_mem (b := 4) (i := 231) rfl rfl
set_option maxRecDepth 4096 in
theorem xk_mc_261 : Cond.code (xt_nm 261) (xt_bt 261) (xt_nl 261) (xt_ret 261) ∈ xt_Ts := xk_mem (b := 4) (i := 236) rfl rfl
set_option maxRecDepth 4096 in
theorem xk_mc_262 : Cond.code (xt_nm 262) (xt_bt 262) (xt_nl 262) (xt_ret 262) ∈ xt_Ts := xk_mem (b := 5) (i := 0) rfl rfl
set_option maxRecDepth 4096 in
theorem xk_mc_263 : Cond.code (xt_nm 263) (xt_bt 263) (xt_nl 263) (xt_ret 263) ∈ xt_Ts := xk_mem (b := 5) (i := 4) rfl rfl
set_option maxRecDepth 4096 in
theorem xk_mc_264 : Cond.code (xt_nm 264) (xt_bt 264) (xt_nl 264) (xt_ret 264) ∈ xt_Ts := xk_mem (b := 5) (i := 8) rfl rfl
set_option maxRecDepth 4096 in
theorem xk_mc_265 : Cond.code (xt_nm 265) (xt_bt 265) (xt_nl 265) (xt_ret 265) ∈ xt_Ts := xk_mem (b := 5) (i := 13) rfl rfl
set_option maxRecDepth 4096 in
theorem xk_mc_266 : Cond.code (xt_nm 266) (xt_bt 266) (xt_nl 266) (xt_ret 266) ∈ xt_Ts := xk_mem (b := 5) (i := 17) rfl rfl
set_option maxRecDepth 4096 in
theorem xk_mc_267 : Cond.code (xt_nm 267) (xt_bt 267) (xt_nl 267) (xt_ret 267) ∈ xt_Ts := xk_mem (b := 5) (i := 21) rfl rfl
set_option maxRecDepth 4096 in
theorem xk_mc_268 : Cond.code (xt_nm 268) (xt_bt 268) (xt_nl 268) (xt_ret 268) ∈ xt_Ts := xk_mem (b := 5) (i := 26) rfl rfl
set_option maxRecDepth 4096 in
theorem xk_mc_269 : Cond.code (xt_nm 269) (xt_bt 269) (xt_nl 269) (xt_ret 269) ∈ xt_Ts := xk_mem (b := 5) (i := 30) rfl rfl
set_option maxRecDepth 4096 in
theorem xk_mc_270 : Cond.code (xt_nm 270) (xt_bt 270) (xt_nl 270) (xt_ret 270) ∈ xt_Ts := xk_mem (b := 5) (i := 35) rfl rfl
set_option maxRecDepth 4096 in
theorem xk_mc_271 : Cond.code (xt_nm 271) (xt_bt 271) (xt_nl 271) (xt_ret 271) ∈ xt_Ts := xk_mem (b := 5) (i := 41) rfl rfl
set_option maxRecDepth 4096 in
theorem xk_mc_272 : Cond.code (xt_nm 272) (xt_bt 272) (xt_nl 272) (xt_ret 272) ∈ xt_Ts := xk_mem (b := 5) (i := 46) rfl rfl
set_option maxRecDepth 4096 in
theorem xk_mc_273 : Cond.code (xt_nm 273) (xt_bt 273) (xt_nl 273) (xt_ret 273) ∈ xt_Ts := xk_mem (b := 5) (i := 51) rfl rfl
set_option maxRecDepth 4096 in
theorem xk_mc_274 : Cond.code (xt_nm 274) (xt_bt 274) (xt_nl 274) (xt_ret 274) ∈ xt_Ts := xk_mem (b := 5) (i := 56) rfl rfl
set_option maxRecDepth 4096 in
theorem xk_mc_275 : Cond.code (xt_nm 275) (xt_bt 275) (xt_nl 275) (xt_ret 275) ∈ xt_Ts := xk_mem (b := 5) (i := 61) rfl rfl
set_option maxRecDepth 4096 in
theorem xk_mc_276 : Cond.code (xt_nm 276) (xt_bt 276) (xt_nl 276) (xt_ret 276) ∈ xt_Ts := xk_mem (b := 5) (i := 64) rfl rfl
set_option maxRecDepth 4096 in
theorem xk_mc_277 : Cond.code (xt_nm 277) (xt_bt 277) (xt_nl 277) (xt_ret 277) ∈ xt_Ts := xk_mem (b := 5) (i := 67) rfl rfl
set_option maxRecDepth 4096 in
theorem xk_mc_278 : Cond.code (xt_nm 278) (xt_bt 278) (xt_nl 278) (xt_ret 278) ∈ xt_Ts := xk_mem (b := 5) (i := 74) rfl rfl
set_option maxRecDepth 4096 in
theorem xk_mc_279 : Cond.code (xt_nm 279) (xt_bt 279) (xt_nl 279) (xt_ret 279) ∈ xt_Ts := xk_mem (b := 5) (i := 78) rfl rfl
set_option maxRecDepth 4096 in
theorem xk_mc_280 : Cond.code (xt_nm 280) (xt_bt 280) (xt_nl 280) (xt_ret 280) ∈ xt_Ts := xk_mem (b := 5) (i := 86) rfl rfl
set_option maxRecDepth 4096 in
theorem xk_mc_281 : Cond.code (xt_nm 281) (xt_bt 281) (xt_nl 281) (xt_ret 281) ∈ xt_Ts := xk_mem (b := 5) (i := 91) rfl rfl
set_option maxRecDepth 4096 in
theorem xk_mc_282 : Cond.code (xt_nm 282) (xt_bt 282) (xt_nl 282) (xt_ret 282) ∈ xt_Ts := xk_mem (b := 5) (i := 97) rfl rfl
set_option maxRecDepth 4096 in
theorem xk_mc_283 : Cond.code (xt_nm 283) (xt_bt 283) (xt_nl 283) (xt_ret 283) ∈ xt_Ts := xk_mem (b := 5) (i := 103) rfl rfl
set_option maxRecDepth 4096 in
theorem xk_mc_284 : Cond.code (xt_nm 284) (xt_bt 284) (xt_nl 284) (xt_ret 284) ∈ xt_Ts := xk_mem (b := 5) (i := 107) rfl rfl
set_option maxRecDepth 4096 in
theorem xk_mc_285 : Cond.code (xt_nm 285) (xt_bt 285) (xt_nl 285) (xt_ret 285) ∈ xt_Ts := xk_mem (b := 5) (i := 111) rfl rfl
set_option maxRecDepth 4096 in
theorem xk_mc_286 : Cond.code (xt_nm 286) (xt_bt 286) (xt_nl 286) (xt_ret 286) ∈ xt_Ts := xk_mem (b := 5) (i := 115) rfl rfl
set_option maxRecDepth 4096 in
theorem xk_mc_287 : Cond.code (xt_nm 287) (xt_bt 287) (xt_nl 287) (xt_ret 287) ∈ xt_Ts := xk_mem (b := 5) (i := 120) rfl rfl
set_option maxRecDepth 4096 in
theorem xk_mc_288 : Cond.code (xt_nm 288) (xt_bt 288) (xt_nl 288) (xt_ret 288) ∈ xt_Ts := xk_mem (b := 5) (i := 125) rfl rfl
set_option maxRecDepth 4096 in
theorem xk_mc_289 : Cond.code (xt_nm 289) (xt_bt 289) (xt_nl 289) (xt_ret 289) ∈ xt_Ts := xk_mem (b := 5) (i := 130) rfl rfl
set_option maxRecDepth 4096 in
theorem xk_mc_290 : Cond.code (xt_nm 290) (xt_bt 290) (xt_nl 290) (xt_ret 290) ∈ xt_Ts := xk_mem (b := 5) (i := 137) rfl rfl
set_option maxRecDepth 4096 in
theorem xk_mc_291 : Cond.code (xt_nm 291) (xt_bt 291) (xt_nl 291) (xt_ret 291) ∈ xt_Ts := xk_mem (b := 5) (i := 146) rfl rfl
set_option maxRecDepth 4096 in
theorem xk_mc_292 : Cond.code (xt_nm 292) (xt_bt 292) (xt_nl 292) (xt_ret 292) ∈ xt_Ts := xk_mem (b := 5) (i := 150) rfl rfl
set_option maxRecDepth 4096 in
theorem xk_mc_293 : Cond.code (xt_nm 293) (xt_bt 293) (xt_nl 293) (xt_ret 293) ∈ xt_Ts := xk_mem (b := 5) (i := 154) rfl rfl
set_option maxRecDepth 4096 in
theorem xk_mc_294 : Cond.code (xt_nm 294) (xt_bt 294) (xt_nl 294) (xt_ret 294) ∈ xt_Ts := xk_mem (b := 5) (i := 158) rfl rfl
set_option maxRecDepth 4096 in
theorem xk_mc_295 : Cond.code (xt_nm 295) (xt_bt 295) (xt_nl 295) (xt_ret 295) ∈ xt_Ts := xk_mem (b := 5) (i := 162) rfl rfl
set_option maxRecDepth 4096 in
theorem xk_mc_296 : Cond.code (xt_nm 296) (xt_bt 296) (xt_nl 296) (xt_ret 296) ∈ xt_Ts := xk_mem (b := 5) (i := 166) rfl rfl
set_option maxRecDepth 4096 in
theorem xk_mc_297 : Cond.code (xt_nm 297) (xt_bt 297) (xt_nl 297) (xt_ret 297) ∈ xt_Ts := xk_mem (b := 5) (i := 174) rfl rfl
set_option maxRecDepth 4096 in
theorem xk_mc_298 : Cond.code (xt_nm 298) (xt_bt 298) (xt_nl 298) (xt_ret 298) ∈ xt_Ts := xk_mem (b := 5) (i := 180) rfl rfl
set_option maxRecDepth 4096 in
theorem xk_mc_299 : Cond.code (xt_nm 299) (xt_bt 299) (xt_nl 299) (xt_ret 299) ∈ xt_Ts := xk_mem (b := 5) (i := 184) rfl rfl
set_option maxRecDepth 4096 in
theorem xk_mc_300 : Cond.code (xt_nm 300) (xt_bt 300) (xt_nl 300) (xt_ret 300) ∈ xt_Ts := xk_mem (b := 5) (i := 190) rfl rfl
set_option maxRecDepth 4096 in
theorem xk_mc_301 : Cond.code (xt_nm 301) (xt_bt 301) (xt_nl 301) (xt_ret 301) ∈ xt_Ts := xk_mem (b := 5) (i := 194) rfl rfl
set_option maxRecDepth 4096 in
theorem xk_mc_302 : Cond.code (xt_nm 302) (xt_bt 302) (xt_nl 302) (xt_ret 302) ∈ xt_Ts := xk_mem (b := 5) (i := 200) rfl rfl
set_option maxRecDepth 4096 in
theorem xk_mc_303 : Cond.code (xt_nm 303) (xt_bt 303) (xt_nl 303) (xt_ret 303) ∈ xt_Ts := xk_mem (b := 5) (i := 205) rfl rfl
set_option maxRecDepth 4096 in
theorem xk_mc_304 : Cond.code (xt_nm 304) (xt_bt 304) (xt_nl 304) (xt_ret 304) ∈ xt_Ts := xk_mem (b := 5) (i := 209) rfl rfl
set_option maxRecDepth 4096 in
theorem xk_mc_305 : Cond.code (xt_nm 305) (xt_bt 305) (xt_nl 305) (xt_ret 305) ∈ xt_Ts := xk_mem (b := 5) (i := 213) rfl rfl
set_option maxRecDepth 4096 in
theorem xk_mc_306 : Cond.code (xt_nm 306) (xt_bt 306) (xt_nl 306) (xt_ret 306) ∈ xt_Ts := xk_mem (b := 5) (i := 217) rfl rfl
set_option maxRecDepth 4096 in
theorem xk_mc_307 : Cond.code (xt_nm 307) (xt_bt 307) (xt_nl 307) (xt_ret 307) ∈ xt_Ts := xk_mem (b := 5) (i := 221) rfl rfl
set_option maxRecDepth 4096 in
theorem xk_mc_308 : Cond.code (xt_nm 308) (xt_bt 308) (xt_nl 308) (xt_ret 308) ∈ xt_Ts := xk_mem (b := 5) (i := 226) rfl rfl
set_option maxRecDepth 4096 in
theorem xk_mc_309 : Cond.code (xt_nm 309) (xt_bt 309) (xt_nl 309) (xt_ret 309) ∈ xt_Ts := xk_mem (b := 5) (i := 230) rfl rfl
set_option maxRecDepth 4096 in
theorem xk_mc_310 : Cond.code (xt_nm 310) (xt_bt 310) (xt_nl 310) (xt_ret 310) ∈ xt_Ts := xk_mem (b := 5) (i := 235) rfl rfl
set_option maxRecDepth 4096 in
theorem xk_mc_311 : Cond.code (xt_nm 311) (xt_bt 311) (xt_nl 311) (xt_ret 311) ∈ xt_Ts := xk_mem (b := 6) (i := 1) rfl rfl
set_option maxRecDepth 4096 in
theorem xk_mc_312 : Cond.code (xt_nm 312) (xt_bt 312) (xt_nl 312) (xt_ret 312) ∈ xt_Ts := xk_mem (b := 6) (i := 4) rfl rfl
set_option maxRecDepth 4096 in
theorem xk_mc_313 : Cond.code (xt_nm 313) (xt_bt 313) (xt_nl 313) (xt_ret 313) ∈ xt_Ts := xk_mem (b := 6) (i := 11) rfl rfl
set_option maxRecDepth 4096 in
theorem xk_mc_314 : Cond.code (xt_nm 314) (xt_bt 314) (xt_nl 314) (xt_ret 314) ∈ xt_Ts := xk_mem (b := 6) (i := 17) rfl rfl
set_option maxRecDepth 4096 in
theorem xk_mc_315 : Cond.code (xt_nm 315) (xt_bt 315) (xt_nl 315) (xt_ret 315) ∈ xt_Ts := xk_mem (b := 6) (i := 26) rfl rfl
set_option maxRecDepth 4096 in
theorem xk_mc_316 : Cond.code (xt_nm 316) (xt_bt 316) (xt_nl 316) (xt_ret 316) ∈ xt_Ts := xk_mem (b := 6) (i := 75) rfl rfl
theorem xk_mcs_c0 {r : Nat} (hr : r < 20) (h0 : 0 < 0 + r) (h1 : 0 + r < 317) : Cond.code (xt_nm (0 + r)) (xt_bt (0 + r)) (xt_nl (0 + r)) (xt_ret (0 + r)) ∈ xt_Ts := by
  match r, hr, h0, h1 with
  | 0, _, h0, h1 => exact absurd h0 (by decide)
  | 1, _, _, _ => exact xk_mc_1
  | 2, _, _, _ => exact xk_mc_2
  | 3, _, _, _ => exact xk_mc_3
  | 4, _, _, _ => exact xk_mc_4
  | 5, _, _, _ => exact xk_mc_5
  | 6, _, _, _ => exact xk_mc_6
  | 7, _, _, _ => exact xk_mc_7
  | 8, _, _, _ => exact xk_mc_8
  | 9, _, _, _ => exact xk_mc_9
  | 10, _, _, _ => exact xk_mc_10
  | 11, _, _, _ => exact xk_mc_11
  | 12, _, _, _ => exact xk_mc_12
  | 13, _, _, _ => exact xk_mc_13
  | 14, _, _, _ => exact xk_mc_14
  | 15, _, _, _ => exact xk_mc_15
  | 16, _, _, _ => exact xk_mc_16
  | 17, _, _, _ => exact xk_mc_17
  | 18, _, _, _ => exact xk_mc_18
  | 19, _, _, _ => exact xk_mc_19
  | r + 20, h, _, _ => exact absurd h (by omega)
theorem xk_mcs_c1 {r : Nat} (hr : r < 20) (h0 : 0 < 20 + r) (h1 : 20 + r < 317) : Cond.code (xt_nm (20 + r)) (xt_bt (20 + r)) (xt_nl (20 + r)) (xt_ret (20 + r)) ∈ xt_Ts := by
  match r, hr, h0, h1 with
  | 0, _, _, _ => exact xk_mc_20
  | 1, _, _, _ => exact xk_mc_21
  | 2, _, _, _ => exact xk_mc_22
  | 3, _, _, _ => exact xk_mc_23
  | 4, _, _, _ => exact xk_mc_24
  | 5, _, _, _ => exact xk_mc_25
  | 6, _, _, _ => exact xk_mc_26
  | 7, _, _, _ => exact xk_mc_27
  | 8, _, _, _ => exact xk_mc_28
  | 9, _, _, _ => exact xk_mc_29
  | 10, _, _, _ => exact xk_mc_30
  | 11, _, _, _ => exact xk_mc_31
  | 12, _, _, _ => exact xk_mc_32
  | 13, _, _, _ => exact xk_mc_33
  | 14, _, _, _ => exact xk_mc_34
  | 15, _, _, _ => exact xk_mc_35
  | 16, _, _, _ => exact xk_mc_36
  | 17, _, _, _ => exact xk_mc_37
  | 18, _, _, _ => exact xk_mc_38
  | 19, _, _, _ => exact xk_mc_39
  | r + 20, h, _, _ => exact absurd h (by omega)
theorem xk_mcs_c2 {r : Nat} (hr : r < 20) (h0 : 0 < 40 + r) (h1 : 40 + r < 317) : Cond.code (xt_nm (40 + r)) (xt_bt (40 + r)) (xt_nl (40 + r)) (xt_ret (40 + r)) ∈ xt_Ts := by
  match r, hr, h0, h1 with
  | 0, _, _, _ => exact xk_mc_40
  | 1, _, _, _ => exact xk_mc_41
  | 2, _, _, _ => exact xk_mc_42
  | 3, _, _, _ => exact xk_mc_43
  | 4, _, _, _ => exact xk_mc_44
  | 5, _, _, _ => exact xk_mc_45
  | 6, _, _, _ => exact xk_mc_46
  | 7, _, _, _ => exact xk_mc_47
  | 8, _, _, _ => exact xk_mc_48
  | 9, _, _, _ => exact xk_mc_49
  | 10, _, _, _ => exact xk_mc_50
  | 11, _, _, _ => exact xk_mc_51
  | 12, _, _, _ => exact xk_mc_52
  | 13, _, _, _ => exact xk_mc_53
  | 14, _, _, _ => exact xk_mc_54
  | 15, _, _, _ => exact xk_mc_55
  | 16, _, _, _ => exact xk_mc_56
  | 17, _, _, _ => exact xk_mc_57
  | 18, _, _, _ => exact xk_mc_58
  | 19, _, _, _ => exact xk_mc_59
  | r + 20, h, _, _ => exact absurd h (by omega)
theorem xk_mcs_c3 {r : Nat} (hr : r < 20) (h0 : 0 < 60 + r) (h1 : 60 + r < 317) : Cond.code (xt_nm (60 + r)) (xt_bt (60 + r)) (xt_nl (60 + r)) (xt_ret (60 + r)) ∈ xt_Ts := by
  match r, hr, h0, h1 with
  | 0, _, _, _ => exact xk_mc_60
  | 1, _, _, _ => exact xk_mc_61
  | 2, _, _, _ => exact xk_mc_62
  | 3, _, _, _ => exact xk_mc_63
  | 4, _, _, _ => exact xk_mc_64
  | 5, _, _, _ => exact xk_mc_65
  | 6, _, _, _ => exact xk_mc_66
  | 7, _, _, _ => exact xk_mc_67
  | 8, _, _, _ => exact xk_mc_68
  | 9, _, _, _ => exact xk_mc_69
  | 10, _, _, _ => exact xk_mc_70
  | 11, _, _, _ => exact xk_mc_71
  | 12, _, _, _ => exact xk_mc_72
  | 13, _, _, _ => exact xk_mc_73
  | 14, _, _, _ => exact xk_mc_74
  | 15, _, _, _ => exact xk_mc_75
  | 16, _, _, _ => exact xk_mc_76
  | 17, _, _, _ => exact xk_mc_77
  | 18, _, _, _ => exact xk_mc_78
  | 19, _, _, _ => exact xk_mc_79
  | r + 20, h, _, _ => exact absurd h (by omega)
theorem xk_mcs_c4 {r : Nat} (hr : r < 20) (h0 : 0 < 80 + r) (h1 : 80 + r < 317) : Cond.code (xt_nm (80 + r)) (xt_bt (80 + r)) (xt_nl (80 + r)) (xt_ret (80 + r)) ∈ xt_Ts := by
  match r, hr, h0, h1 with
  | 0, _, _, _ => exact xk_mc_80
  | 1, _, _, _ => exact xk_mc_81
  | 2, _, _, _ => exact xk_mc_82
  | 3, _, _, _ => exact xk_mc_83
  | 4, _, _, _ => exact xk_mc_84
  | 5, _, _, _ => exact xk_mc_85
  | 6, _, _, _ => exact xk_mc_86
  | 7, _, _, _ => exact xk_mc_87
  | 8, _, _, _ => exact xk_mc_88
  | 9, _, _, _ => exact xk_mc_89
  | 10, _, _, _ => exact xk_mc_90
  | 11, _, _, _ => exact xk_mc_91
  | 12, _, _, _ => exact xk_mc_92
  | 13, _, _, _ => exact xk_mc_93
  | 14, _, _, _ => exact xk_mc_94
  | 15, _, _, _ => exact xk_mc_95
  | 16, _, _, _ => exact xk_mc_96
  | 17, _, _, _ => exact xk_mc_97
  | 18, _, _, _ => exact xk_mc_98
  | 19, _, _, _ => exact xk_mc_99
  | r + 20, h, _, _ => exact absurd h (by omega)
theorem xk_mcs_c5 {r : Nat} (hr : r < 20) (h0 : 0 < 100 + r) (h1 : 100 + r < 317) : Cond.code (xt_nm (100 + r)) (xt_bt (100 + r)) (xt_nl (100 + r)) (xt_ret (100 + r)) ∈ xt_Ts := by
  match r, hr, h0, h1 with
  | 0, _, _, _ => exact xk_mc_100
  | 1, _, _, _ => exact xk_mc_101
  | 2, _, _, _ => exact xk_mc_102
  | 3, _, _, _ => exact xk_mc_103
  | 4, _, _, _ => exact xk_mc_104
  | 5, _, _, _ => exact xk_mc_105
  | 6, _, _, _ => exact xk_mc_106
  | 7, _, _, _ => exact xk_mc_107
  | 8, _, _, _ => exact xk_mc_108
  | 9, _, _, _ => exact xk_mc_109
  | 10, _, _, _ => exact xk_mc_110
  | 11, _, _, _ => exact xk_mc_111
  | 12, _, _, _ => exact xk_mc_112
  | 13, _, _, _ => exact xk_mc_113
  | 14, _, _, _ => exact xk_mc_114
  | 15, _, _, _ => exact xk_mc_115
  | 16, _, _, _ => exact xk_mc_116
  | 17, _, _, _ => exact xk_mc_117
  | 18, _, _, _ => exact xk_mc_118
  | 19, _, _, _ => exact xk_mc_119
  | r + 20, h, _, _ => exact absurd h (by omega)
theorem xk_mcs_c6 {r : Nat} (hr : r < 20) (h0 : 0 < 120 + r) (h1 : 120 + r < 317) : Cond.code (xt_nm (120 + r)) (xt_bt (120 + r)) (xt_nl (120 + r)) (xt_ret (120 + r)) ∈ xt_Ts := by
  match r, hr, h0, h1 with
  | 0, _, _, _ => exact xk_mc_120
  | 1, _, _, _ => exact xk_mc_121
  | 2, _, _, _ => exact xk_mc_122
  | 3, _, _, _ => exact xk_mc_123
  | 4, _, _, _ => exact xk_mc_124
  | 5, _, _, _ => exact xk_mc_125
  | 6, _, _, _ => exact xk_mc_126
  | 7, _, _, _ => exact xk_mc_127
  | 8, _, _, _ => exact xk_mc_128
  | 9, _, _, _ => exact xk_mc_129
  | 10, _, _, _ => exact xk_mc_130
  | 11, _, _, _ => exact xk_mc_131
  | 12, _, _, _ => exact xk_mc_132
  | 13, _, _, _ => exact xk_mc_133
  | 14, _, _, _ => exact xk_mc_134
  | 15, _, _, _ => exact xk_mc_135
  | 16, _, _, _ => exact xk_mc_136
  | 17, _, _, _ => exact xk_mc_137
  | 18, _, _, _ => exact xk_mc_138
  | 19, _, _, _ => exact xk_mc_139
  | r + 20, h, _, _ => exact absurd h (by omega)
theorem xk_mcs_c7 {r : Nat} (hr : r < 20) (h0 : 0 < 140 + r) (h1 : 140 + r < 317) : Cond.code (xt_nm (140 + r)) (xt_bt (140 + r)) (xt_nl (140 + r)) (xt_ret (140 + r)) ∈ xt_Ts := by
  match r, hr, h0, h1 with
  | 0, _, _, _ => exact xk_mc_140
  | 1, _, _, _ => exact xk_mc_141
  | 2, _, _, _ => exact xk_mc_142
  | 3, _, _, _ => exact xk_mc_143
  | 4, _, _, _ => exact xk_mc_144
  | 5, _, _, _ => exact xk_mc_145
  | 6, _, _, _ => exact xk_mc_146
  | 7, _, _, _ => exact xk_mc_147
  | 8, _, _, _ => exact xk_mc_148
  | 9, _, _, _ => exact xk_mc_149
  | 10, _, _, _ => exact xk_mc_150
  | 11, _, _, _ => exact xk_mc_151
  | 12, _, _, _ => exact xk_mc_152
  | 13, _, _, _ => exact xk_mc_153
  | 14, _, _, _ => exact xk_mc_154
  | 15, _, _, _ => exact xk_mc_155
  | 16, _, _, _ => exact xk_mc_156
  | 17, _, _, _ => exact xk_mc_157
  | 18, _, _, _ => exact xk_mc_158
  | 19, _, _, _ => exact xk_mc_159
  | r + 20, h, _, _ => exact absurd h (by omega)
theorem xk_mcs_c8 {r : Nat} (hr : r < 20) (h0 : 0 < 160 + r) (h1 : 160 + r < 317) : Cond.code (xt_nm (160 + r)) (xt_bt (160 + r)) (xt_nl (160 + r)) (xt_ret (160 + r)) ∈ xt_Ts := by
  match r, hr, h0, h1 with
  | 0, _, _, _ => exact xk_mc_160
  | 1, _, _, _ => exact xk_mc_161
  | 2, _, _, _ => exact xk_mc_162
  | 3, _, _, _ => exact xk_mc_163
  | 4, _, _, _ => exact xk_mc_164
  | 5, _, _, _ => exact xk_mc_165
  | 6, _, _, _ => exact xk_mc_166
  | 7, _, _, _ => exact xk_mc_167
  | 8, _, _, _ => exact xk_mc_168
  | 9, _, _, _ => exact xk_mc_169
  | 10, _, _, _ => exact xk_mc_170
  | 11, _, _, _ => exact xk_mc_171
  | 12, _, _, _ => exact xk_mc_172
  | 13, _, _, _ => exact xk_mc_173
  | 14, _, _, _ => exact xk_mc_174
  | 15, _, _, _ => exact xk_mc_175
  | 16, _, _, _ => exact xk_mc_176
  | 17, _, _, _ => exact xk_mc_177
  | 18, _, _, _ => exact xk_mc_178
  | 19, _, _, _ => exact xk_mc_179
  | r + 20, h, _, _ => exact absurd h (by omega)
theorem xk_mcs_c9 {r : Nat} (hr : r < 20) (h0 : 0 < 180 + r) (h1 : 180 + r < 317) : Cond.code (xt_nm (180 + r)) (xt_bt (180 + r)) (xt_nl (180 + r)) (xt_ret (180 + r)) ∈ xt_Ts := by
  match r, hr, h0, h1 with
  | 0, _, _, _ => exact xk_mc_180
  | 1, _, _, _ => exact xk_mc_181
  | 2, _, _, _ => exact xk_mc_182
  | 3, _, _, _ => exact xk_mc_183
  | 4, _, _, _ => exact xk_mc_184
  | 5, _, _, _ => exact xk_mc_185
  | 6, _, _, _ => exact xk_mc_186
  | 7, _, _, _ => exact xk_mc_187
  | 8, _, _, _ => exact xk_mc_188
  | 9, _, _, _ => exact xk_mc_189
  | 10, _, _, _ => exact xk_mc_190
  | 11, _, _, _ => exact xk_mc_191
  | 12, _, _, _ => exact xk_mc_192
  | 13, _, _, _ => exact xk_mc_193
  | 14, _, _, _ => exact xk_mc_194
  | 15, _, _, _ => exact xk_mc_195
  | 16, _, _, _ => exact xk_mc_196
  | 17, _, _, _ => exact xk_mc_197
  | 18, _, _, _ => exact xk_mc_198
  | 19, _, _, _ => exact xk_mc_199
  | r + 20, h, _, _ => exact absurd h (by omega)
theorem xk_mcs_c10 {r : Nat} (hr : r < 20) (h0 : 0 < 200 + r) (h1 : 200 + r < 317) : Cond.code (xt_nm (200 + r)) (xt_bt (200 + r)) (xt_nl (200 + r)) (xt_ret (200 + r)) ∈ xt_Ts := by
  match r, hr, h0, h1 with
  | 0, _, _, _ => exact xk_mc_200
  | 1, _, _, _ => exact xk_mc_201
  | 2, _, _, _ => exact xk_mc_202
  | 3, _, _, _ => exact xk_mc_203
  | 4, _, _, _ => exact xk_mc_204
  | 5, _, _, _ => exact xk_mc_205
  | 6, _, _, _ => exact xk_mc_206
  | 7, _, _, _ => exact xk_mc_207
  | 8, _, _, _ => exact xk_mc_208
  | 9, _, _, _ => exact xk_mc_209
  | 10, _, _, _ => exact xk_mc_210
  | 11, _, _, _ => exact xk_mc_211
  | 12, _, _, _ => exact xk_mc_212
  | 13, _, _, _ => exact xk_mc_213
  | 14, _, _, _ => exact xk_mc_214
  | 15, _, _, _ => exact xk_mc_215
  | 16, _, _, _ => exact xk_mc_216
  | 17, _, _, _ => exact xk_mc_217
  | 18, _, _, _ => exact xk_mc_218
  | 19, _, _, _ => exact xk_mc_219
  | r + 20, h, _, _ => exact absurd h (by omega)
theorem xk_mcs_c11 {r : Nat} (hr : r < 20) (h0 : 0 < 220 + r) (h1 : 220 + r < 317) : Cond.code (xt_nm (220 + r)) (xt_bt (220 + r)) (xt_nl (220 + r)) (xt_ret (220 + r)) ∈ xt_Ts := by
  match r, hr, h0, h1 with
  | 0, _, _, _ => exact xk_mc_220
  | 1, _, _, _ => exact xk_mc_221
  | 2, _, _, _ => exact xk_mc_222
  | 3, _, _, _ => exact xk_mc_223
  | 4, _, _, _ => exact xk_mc_224
  | 5, _, _, _ => exact xk_mc_225
  | 6, _, _, _ => exact xk_mc_226
  | 7, _, _, _ => exact xk_mc_227
  | 8, _, _, _ => exact xk_mc_228
  | 9, _, _, _ => exact xk_mc_229
  | 10, _, _, _ => exact xk_mc_230
  | 11, _, _, _ => exact xk_mc_231
  | 12, _, _, _ => exact xk_mc_232
  | 13, _, _, _ => exact xk_mc_233
  | 14, _, _, _ => exact xk_mc_234
  | 15, _, _, _ => exact xk_mc_235
  | 16, _, _, _ => exact xk_mc_236
  | 17, _, _, _ => exact xk_mc_237
  | 18, _, _, _ => exact xk_mc_238
  | 19, _, _, _ => exact xk_mc_239
  | r + 20, h, _, _ => exact absurd h (by omega)
theorem xk_mcs_c12 {r : Nat} (hr : r < 20) (h0 : 0 < 240 + r) (h1 : 240 + r < 317) : Cond.code (xt_nm (240 + r)) (xt_bt (240 + r)) (xt_nl (240 + r)) (xt_ret (240 + r)) ∈ xt_Ts := by
  match r, hr, h0, h1 with
  | 0, _, _, _ => exact xk_mc_240
  | 1, _, _, _ => exact xk_mc_241
  | 2, _, _, _ => exact xk_mc_242
  | 3, _, _, _ => exact xk_mc_243
  | 4, _, _, _ => exact xk_mc_244
  | 5, _, _, _ => exact xk_mc_245
  | 6, _, _, _ => exact xk_mc_246
  | 7, _, _, _ => exact xk_mc_247
  | 8, _, _, _ => exact xk_mc_248
  | 9, _, _, _ => exact xk_mc_249
  | 10, _, _, _ => exact xk_mc_250
  | 11, _, _, _ => exact xk_mc_251
  | 12, _, _, _ => exact xk_mc_252
  | 13, _, _, _ => exact xk_mc_253
  | 14, _, _, _ => exact xk_mc_254
  | 15, _, _, _ => exact xk_mc_255
  | 16, _, _, _ => exact xk_mc_256
  | 17, _, _, _ => exact xk_mc_257
  | 18, _, _, _ => exact xk_mc_258
  | 19, _, _, _ => exact xk_mc_259
  | r + 20, h, _, _ => exact absurd h (by omega)
theorem xk_mcs_c13 {r : Nat} (hr : r < 20) (h0 : 0 < 260 + r) (h1 : 260 + r < 317) : Cond.code (xt_nm (260 + r)) (xt_bt (260 + r)) (xt_nl (260 + r)) (xt_ret (260 + r)) ∈ xt_Ts := by
  match r, hr, h0, h1 with
  | 0, _, _, _ => exact xk_mc_260
  | 1, _, _, _ => exact xk_mc_261
  | 2, _, _, _ => exact xk_mc_262
  | 3, _, _, _ => exact xk_mc_263
  | 4, _, _, _ => exact xk_mc_264
  | 5, _, _, _ => exact xk_mc_265
  | 6, _, _, _ => exact xk_mc_266
  | 7, _, _, _ => exact xk_mc_267
  | 8, _, _, _ => exact xk_mc_268
  | 9, _, _, _ => exact xk_mc_269
  | 10, _, _, _ => exact xk_mc_270
  | 11, _, _, _ => exact xk_mc_271
  | 12, _, _, _ => exact xk_mc_272
  | 13, _, _, _ => exact xk_mc_273
  | 14, _, _, _ => exact xk_mc_274
  | 15, _, _, _ => exact xk_mc_275
  | 16, _, _, _ => exact xk_mc_276
  | 17, _, _, _ => exact xk_mc_277
  | 18, _, _, _ => exact xk_mc_278
  | 19, _, _, _ => exact xk_mc_279
  | r + 20, h, _, _ => exact absurd h (by omega)
theorem xk_mcs_c14 {r : Nat} (hr : r < 20) (h0 : 0 < 280 + r) (h1 : 280 + r < 317) : Cond.code (xt_nm (280 + r)) (xt_bt (280 + r)) (xt_nl (280 + r)) (xt_ret (280 + r)) ∈ xt_Ts := by
  match r, hr, h0, h1 with
  | 0, _, _, _ => exact xk_mc_280
  | 1, _, _, _ => exact xk_mc_281
  | 2, _, _, _ => exact xk_mc_282
  | 3, _, _, _ => exact xk_mc_283
  | 4, _, _, _ => exact xk_mc_284
  | 5, _, _, _ => exact xk_mc_285
  | 6, _, _, _ => exact xk_mc_286
  | 7, _, _, _ => exact xk_mc_287
  | 8, _, _, _ => exact xk_mc_288
  | 9, _, _, _ => exact xk_mc_289
  | 10, _, _, _ => exact xk_mc_290
  | 11, _, _, _ => exact xk_mc_291
  | 12, _, _, _ => exact xk_mc_292
  | 13, _, _, _ => exact xk_mc_293
  | 14, _, _, _ => exact xk_mc_294
  | 15, _, _, _ => exact xk_mc_295
  | 16, _, _, _ => exact xk_mc_296
  | 17, _, _, _ => exact xk_mc_297
  | 18, _, _, _ => exact xk_mc_298
  | 19, _, _, _ => exact xk_mc_299
  | r + 20, h, _, _ => exact absurd h (by omega)
theorem xk_mcs_c15 {r : Nat} (hr : r < 20) (h0 : 0 < 300 + r) (h1 : 300 + r < 317) : Cond.code (xt_nm (300 + r)) (xt_bt (300 + r)) (xt_nl (300 + r)) (xt_ret (300 + r)) ∈ xt_Ts := by
  match r, hr, h0, h1 with
  | 0, _, _, _ => exact xk_mc_300
  | 1, _, _, _ => exact xk_mc_301
  | 2, _, _, _ => exact xk_mc_302
  | 3, _, _, _ => exact xk_mc_303
  | 4, _, _, _ => exact xk_mc_304
  | 5, _, _, _ => exact xk_mc_305
  | 6, _, _, _ => exact xk_mc_306
  | 7, _, _, _ => exact xk_mc_307
  | 8, _, _, _ => exact xk_mc_308
  | 9, _, _, _ => exact xk_mc_309
  | 10, _, _, _ => exact xk_mc_310
  | 11, _, _, _ => exact xk_mc_311
  | 12, _, _, _ => exact xk_mc_312
  | 13, _, _, _ => exact xk_mc_313
  | 14, _, _, _ => exact xk_mc_314
  | 15, _, _, _ => exact xk_mc_315
  | 16, _, _, _ => exact xk_mc_316
  | 17, _, h0, h1 => exact absurd h1 (by decide)
  | 18, _, h0, h1 => exact absurd h1 (by decide)
  | 19, _, h0, h1 => exact absurd h1 (by decide)
  | r + 20, h, _, _ => exact absurd h (by omega)
theorem xk_mcs {k : Nat} (h0 : 0 < k) (h1 : k < 317) : Cond.code (xt_nm k) (xt_bt k) (xt_nl k) (xt_ret k) ∈ xt_Ts := by
  have hk : k = 20 * (k / 20) + k % 20 := (Nat.div_add_mod k 20).symm
  have hr : k % 20 < 20 := Nat.mod_lt _ (by decide)
  have hq : k / 20 < 16 := by omega
  generalize k / 20 = q at hk hq
  generalize k % 20 = r at hk hr
  subst hk
  match q, hq, h0, h1 with
  | 0, _, h0, h1 => exact xk_mcs_c0 hr h0 h1
  | 1, _, h0, h1 => exact xk_mcs_c1 hr h0 h1
  | 2, _, h0, h1 => exact xk_mcs_c2 hr h0 h1
  | 3, _, h0, h1 => exact xk_mcs_c3 hr h0 h1
  | 4, _, h0, h1 => exact xk_mcs_c4 hr h0 h1
  | 5, _, h0, h1 => exact xk_mcs_c5 hr h0 h1
  | 6, _, h0, h1 => exact xk_mcs_c6 hr h0 h1
  | 7, _, h0, h1 => exact xk_mcs_c7 hr h0 h1
  | 8, _, h0, h1 => exact xk_mcs_c8 hr h0 h1
  | 9, _, h0, h1 => exact xk_mcs_c9 hr h0 h1
  | 10, _, h0, h1 => exact xk_mcs_c10 hr h0 h1
  | 11, _, h0, h1 => exact xk_mcs_c11 hr h0 h1
  | 12, _, h0, h1 => exact xk_mcs_c12 hr h0 h1
  | 13, _, h0, h1 => exact xk_mcs_c13 hr h0 h1
  | 14, _, h0, h1 => exact xk_mcs_c14 hr h0 h1
  | 15, _, h0, h1 => exact xk_mcs_c15 hr h0 h1
  | q + 16, h, _, _ => exact absurd h (by omega)

