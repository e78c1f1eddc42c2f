/-! ===== the shape behind the constructors; constants; pool entries, looked up ===== -/
def mm_rtab : List (List (Option Nat)) := [[some 1, some 3, some 15, some 27, some 29, some 54, some 55, some 56, some 72, some 76, some 80, some 87, some 95, none], [none, some 2], [], [none, some 4, some 14], [some 5, some 6, some 7, some 8, some 9, some 10, some 11, some 12, some 13], [], [], [], [], [], [], [], [], [], [], [none, some 16, some 26], [some 17, some 18, some 19, some 20, some 21, some 22, some 23, some 24, some 25], [], [], [], [], [], [], [], [], [], [], [none, some 28], [], [some 30, some 42], [none, some 31, some 41], [some 32, some 33, some 34, some 35, some 36, some 37, some 38, some 39, some 40], [], [], [], [], [], [], [], [], [], [], [none, some 43, some 53], [some 44, some 45, some 46, some 47, some 48, some 49, some 50, some 51, some 52], [], [], [], [], [], [], [], [], [], [], [], [], [none, none, some 57, some 58, some 59, some 69, some 70, some 71], [], [], [some 60, some 61, some 62, some 63, some 64, some 65, some 66, some 67, some 68], [], [], [], [], [], [], [], [], [], [], [], [], [none, none, some 73, some 74, some 75], [], [], [], [none, none, some 77, some 78, some 79], [], [], [], [some 81, some 85, some 86], [none, none, some 82, some 83, some 84], [], [], [], [], [], [none, some 88], [some 89, some 90, some 91, some 92, some 93, some 94], [], [], [], [], [], [], [some 96, some 97, some 113], [], [none, none, some 98, some 99, some 100, some 110, some 111, some 112], [], [], [some 101, some 102, some 103, some 104, some 105, some 106, some 107, some 108, some 109], [], [], [], [], [], [], [], [], [], [], [], [], [some 114, some 118, some 119], [none, none, some 115, some 116, some 117], [], [], [], [], [], [none, some 121, none, some 122, none, some 123, some 124, none, none, none, some 125, some 126, some 127, none, none, some 128, none, some 129, some 130, some 131, some 132, none, some 133, some 134], [], [], [], [], [], [], [], [], [], [], [], [], [], []]
def mm_rho (k j : Nat) : Option Nat := (mm_rtab.getD k []).getD j none
def mm_H : mm_T := (135, mm_rho)
theorem mm_H1 : mm_H.1 = 135 := rfl
theorem mm_H2 : mm_H.2 = mm_rho := rfl
theorem rho_0_0 : mm_rho 0 0 = some 1 := rfl
theorem rho_0_1 : mm_rho 0 1 = some 3 := rfl
theorem rho_0_2 : mm_rho 0 2 = some 15 := rfl
theorem rho_0_3 : mm_rho 0 3 = some 27 := rfl
theorem rho_0_4 : mm_rho 0 4 = some 29 := rfl
theorem rho_0_5 : mm_rho 0 5 = some 54 := rfl
theorem rho_0_6 : mm_rho 0 6 = some 55 := rfl
theorem rho_0_7 : mm_rho 0 7 = some 56 := rfl
theorem rho_0_8 : mm_rho 0 8 = some 72 := rfl
theorem rho_0_9 : mm_rho 0 9 = some 76 := rfl
theorem rho_0_10 : mm_rho 0 10 = some 80 := rfl
theorem rho_0_11 : mm_rho 0 11 = some 87 := rfl
theorem rho_0_12 : mm_rho 0 12 = some 95 := rfl
theorem rho_1_1 : mm_rho 1 1 = some 2 := rfl
theorem rho_3_1 : mm_rho 3 1 = some 4 := rfl
theorem rho_3_2 : mm_rho 3 2 = some 14 := rfl
theorem rho_4_0 : mm_rho 4 0 = some 5 := rfl
theorem rho_4_1 : mm_rho 4 1 = some 6 := rfl
theorem rho_4_2 : mm_rho 4 2 = some 7 := rfl
theorem rho_4_3 : mm_rho 4 3 = some 8 := rfl
theorem rho_4_4 : mm_rho 4 4 = some 9 := rfl
theorem rho_4_5 : mm_rho 4 5 = some 10 := rfl
theorem rho_4_6 : mm_rho 4 6 = some 11 := rfl
theorem rho_4_7 : mm_rho 4 7 = some 12 := rfl
theorem rho_4_8 : mm_rho 4 8 = some 13 := rfl
theorem rho_15_1 : mm_rho 15 1 = some 16 := rfl
theorem rho_15_2 : mm_rho 15 2 = some 26 := rfl
theorem rho_16_0 : mm_rho 16 0 = some 17 := rfl
theorem rho_16_1 : mm_rho 16 1 = some 18 := rfl
theorem rho_16_2 : mm_rho 16 2 = some 19 := rfl
theorem rho_16_3 : mm_rho 16 3 = some 20 := rfl
theorem rho_16_4 : mm_rho 16 4 = some 21 := rfl
theorem rho_16_5 : mm_rho 16 5 = some 22 := rfl
theorem rho_16_6 : mm_rho 16 6 = some 23 := rfl
theorem rho_16_7 : mm_rho 16 7 = some 24 := rfl
theorem rho_16_8 : mm_rho 16 8 = some 25 := rfl
theorem rho_27_1 : mm_rho 27 1 = some 28 := rfl
theorem rho_29_0 : mm_rho 29 0 = some 30 := rfl
theorem rho_29_1 : mm_rho 29 1 = some 42 := rfl
theorem rho_30_1 : mm_rho 30 1 = some 31 := rfl
theorem rho_30_2 : mm_rho 30 2 = some 41 := rfl
theorem rho_31_0 : mm_rho 31 0 = some 32 := rfl
theorem rho_31_1 : mm_rho 31 1 = some 33 := rfl
theorem rho_31_2 : mm_rho 31 2 = some 34 := rfl
theorem rho_31_3 : mm_rho 31 3 = some 35 := rfl
theorem rho_31_4 : mm_rho 31 4 = some 36 := rfl
theorem rho_31_5 : mm_rho 31 5 = some 37 := rfl
theorem rho_31_6 : mm_rho 31 6 = some 38 := rfl
theorem rho_31_7 : mm_rho 31 7 = some 39 := rfl
theorem rho_31_8 : mm_rho 31 8 = some 40 := rfl
theorem rho_42_1 : mm_rho 42 1 = some 43 := rfl
theorem rho_42_2 : mm_rho 42 2 = some 53 := rfl
theorem rho_43_0 : mm_rho 43 0 = some 44 := rfl
theorem rho_43_1 : mm_rho 43 1 = some 45 := rfl
theorem rho_43_2 : mm_rho 43 2 = some 46 := rfl
theorem rho_43_3 : mm_rho 43 3 = some 47 := rfl
theorem rho_43_4 : mm_rho 43 4 = some 48 := rfl
theorem rho_43_5 : mm_rho 43 5 = some 49 := rfl
theorem rho_43_6 : mm_rho 43 6 = some 50 := rfl
theorem rho_43_7 : mm_rho 43 7 = some 51 := rfl
theorem rho_43_8 : mm_rho 43 8 = some 52 := rfl
theorem rho_56_2 : mm_rho 56 2 = some 57 := rfl
theorem rho_56_3 : mm_rho 56 3 = some 58 := rfl
theorem rho_56_4 : mm_rho 56 4 = some 59 := rfl
theorem rho_56_5 : mm_rho 56 5 = some 69 := rfl
theorem rho_56_6 : mm_rho 56 6 = some 70 := rfl
theorem rho_56_7 : mm_rho 56 7 = some 71 := rfl
theorem rho_59_0 : mm_rho 59 0 = some 60 := rfl
theorem rho_59_1 : mm_rho 59 1 = some 61 := rfl
theorem rho_59_2 : mm_rho 59 2 = some 62 := rfl
theorem rho_59_3 : mm_rho 59 3 = some 63 := rfl
theorem rho_59_4 : mm_rho 59 4 = some 64 := rfl
theorem rho_59_5 : mm_rho 59 5 = some 65 := rfl
theorem rho_59_6 : mm_rho 59 6 = some 66 := rfl
theorem rho_59_7 : mm_rho 59 7 = some 67 := rfl
theorem rho_59_8 : mm_rho 59 8 = some 68 := rfl
theorem rho_72_2 : mm_rho 72 2 = some 73 := rfl
theorem rho_72_3 : mm_rho 72 3 = some 74 := rfl
theorem rho_72_4 : mm_rho 72 4 = some 75 := rfl
theorem rho_76_2 : mm_rho 76 2 = some 77 := rfl
theorem rho_76_3 : mm_rho 76 3 = some 78 := rfl
theorem rho_76_4 : mm_rho 76 4 = some 79 := rfl
theorem rho_80_0 : mm_rho 80 0 = some 81 := rfl
theorem rho_80_1 : mm_rho 80 1 = some 85 := rfl
theorem rho_80_2 : mm_rho 80 2 = some 86 := rfl
theorem rho_81_2 : mm_rho 81 2 = some 82 := rfl
theorem rho_81_3 : mm_rho 81 3 = some 83 := rfl
theorem rho_81_4 : mm_rho 81 4 = some 84 := rfl
theorem rho_87_1 : mm_rho 87 1 = some 88 := rfl
theorem rho_88_0 : mm_rho 88 0 = some 89 := rfl
theorem rho_88_1 : mm_rho 88 1 = some 90 := rfl
theorem rho_88_2 : mm_rho 88 2 = some 91 := rfl
theorem rho_88_3 : mm_rho 88 3 = some 92 := rfl
theorem rho_88_4 : mm_rho 88 4 = some 93 := rfl
theorem rho_88_5 : mm_rho 88 5 = some 94 := rfl
theorem rho_95_0 : mm_rho 95 0 = some 96 := rfl
theorem rho_95_1 : mm_rho 95 1 = some 97 := rfl
theorem rho_95_2 : mm_rho 95 2 = some 113 := rfl
theorem rho_97_2 : mm_rho 97 2 = some 98 := rfl
theorem rho_97_3 : mm_rho 97 3 = some 99 := rfl
theorem rho_97_4 : mm_rho 97 4 = some 100 := rfl
theorem rho_97_5 : mm_rho 97 5 = some 110 := rfl
theorem rho_97_6 : mm_rho 97 6 = some 111 := rfl
theorem rho_97_7 : mm_rho 97 7 = some 112 := rfl
theorem rho_100_0 : mm_rho 100 0 = some 101 := rfl
theorem rho_100_1 : mm_rho 100 1 = some 102 := rfl
theorem rho_100_2 : mm_rho 100 2 = some 103 := rfl
theorem rho_100_3 : mm_rho 100 3 = some 104 := rfl
theorem rho_100_4 : mm_rho 100 4 = some 105 := rfl
theorem rho_100_5 : mm_rho 100 5 = some 106 := rfl
theorem rho_100_6 : mm_rho 100 6 = some 107 := rfl
theorem rho_100_7 : mm_rho 100 7 = some 108 := rfl
theorem rho_100_8 : mm_rho 100 8 = some 109 := rfl
theorem rho_113_0 : mm_rho 113 0 = some 114 := rfl
theorem rho_113_1 : mm_rho 113 1 = some 118 := rfl
theorem rho_113_2 : mm_rho 113 2 = some 119 := rfl
theorem rho_114_2 : mm_rho 114 2 = some 115 := rfl
theorem rho_114_3 : mm_rho 114 3 = some 116 := rfl
theorem rho_114_4 : mm_rho 114 4 = some 117 := rfl
theorem rho_120_1 : mm_rho 120 1 = some 121 := rfl
theorem rho_120_3 : mm_rho 120 3 = some 122 := rfl
theorem rho_120_5 : mm_rho 120 5 = some 123 := rfl
theorem rho_120_6 : mm_rho 120 6 = some 124 := rfl
theorem rho_120_10 : mm_rho 120 10 = some 125 := rfl
theorem rho_120_11 : mm_rho 120 11 = some 126 := rfl
theorem rho_120_12 : mm_rho 120 12 = some 127 := rfl
theorem rho_120_15 : mm_rho 120 15 = some 128 := rfl
theorem rho_120_17 : mm_rho 120 17 = some 129 := rfl
theorem rho_120_18 : mm_rho 120 18 = some 130 := rfl
theorem rho_120_19 : mm_rho 120 19 = some 131 := rfl
theorem rho_120_20 : mm_rho 120 20 = some 132 := rfl
theorem rho_120_22 : mm_rho 120 22 = some 133 := rfl
theorem rho_120_23 : mm_rho 120 23 = some 134 := rfl
theorem mm_rfs (a : Nat) : va_rf (some a) = .ref a := rfl
theorem kd_0 : mm_kd 135 0 = 8 := rfl
theorem kd_1 : mm_kd 135 1 = 7 := rfl
theorem kd_2 : mm_kd 135 2 = 20 := rfl
theorem ir_2 : mm_ir 135 2 = true := rfl
theorem iw_2 : mm_iw 135 2 = true := rfl
theorem al_2 {σ : mm_M} : mm_al σ 2 = 48 := rfl
theorem kd_3 : mm_kd 135 3 = 4 := rfl
theorem kd_4 : mm_kd 135 4 = 24 := rfl
theorem al_4 {σ : mm_M} : mm_al σ 4 = 9 := rfl
theorem kd_5 : mm_kd 135 5 = 20 := rfl
theorem ir_5 : mm_ir 135 5 = true := rfl
theorem iw_5 : mm_iw 135 5 = true := rfl
theorem al_5 {σ : mm_M} : mm_al σ 5 = 5 := rfl
theorem kd_6 : mm_kd 135 6 = 20 := rfl
theorem ir_6 : mm_ir 135 6 = true := rfl
theorem iw_6 : mm_iw 135 6 = true := rfl
theorem al_6 {σ : mm_M} : mm_al σ 6 = 5 := rfl
theorem kd_7 : mm_kd 135 7 = 20 := rfl
theorem ir_7 : mm_ir 135 7 = true := rfl
theorem iw_7 : mm_iw 135 7 = true := rfl
theorem al_7 {σ : mm_M} : mm_al σ 7 = 5 := rfl
theorem kd_8 : mm_kd 135 8 = 20 := rfl
theorem ir_8 : mm_ir 135 8 = true := rfl
theorem iw_8 : mm_iw 135 8 = true := rfl
theorem al_8 {σ : mm_M} : mm_al σ 8 = 5 := rfl
theorem kd_9 : mm_kd 135 9 = 20 := rfl
theorem ir_9 : mm_ir 135 9 = true := rfl
theorem iw_9 : mm_iw 135 9 = true := rfl
theorem al_9 {σ : mm_M} : mm_al σ 9 = 5 := rfl
theorem kd_10 : mm_kd 135 10 = 20 := rfl
theorem ir_10 : mm_ir 135 10 = true := rfl
theorem iw_10 : mm_iw 135 10 = true := rfl
theorem al_10 {σ : mm_M} : mm_al σ 10 = 5 := rfl
theorem kd_11 : mm_kd 135 11 = 20 := rfl
theorem ir_11 : mm_ir 135 11 = true := rfl
theorem iw_11 : mm_iw 135 11 = true := rfl
theorem al_11 {σ : mm_M} : mm_al σ 11 = 5 := rfl
theorem kd_12 : mm_kd 135 12 = 20 := rfl
theorem ir_12 : mm_ir 135 12 = true := rfl
theorem iw_12 : mm_iw 135 12 = true := rfl
theorem al_12 {σ : mm_M} : mm_al σ 12 = 5 := rfl
theorem kd_13 : mm_kd 135 13 = 20 := rfl
theorem ir_13 : mm_ir 135 13 = true := rfl
theorem iw_13 : mm_iw 135 13 = true := rfl
theorem al_13 {σ : mm_M} : mm_al σ 13 = 5 := rfl
theorem kd_14 : mm_kd 135 14 = 20 := rfl
theorem ir_14 : mm_ir 135 14 = true := rfl
theorem iw_14 : mm_iw 135 14 = true := rfl
theorem al_14 {σ : mm_M} : mm_al σ 14 = 3 := rfl
theorem kd_15 : mm_kd 135 15 = 4 := rfl
theorem kd_16 : mm_kd 135 16 = 24 := rfl
theorem al_16 {σ : mm_M} : mm_al σ 16 = 9 := rfl
theorem kd_17 : mm_kd 135 17 = 20 := rfl
theorem ir_17 : mm_ir 135 17 = true := rfl
theorem iw_17 : mm_iw 135 17 = true := rfl
theorem al_17 {σ : mm_M} : mm_al σ 17 = 5 := rfl
theorem kd_18 : mm_kd 135 18 = 20 := rfl
theorem ir_18 : mm_ir 135 18 = true := rfl
theorem iw_18 : mm_iw 135 18 = true := rfl
theorem al_18 {σ : mm_M} : mm_al σ 18 = 5 := rfl
theorem kd_19 : mm_kd 135 19 = 20 := rfl
theorem ir_19 : mm_ir 135 19 = true := rfl
theorem iw_19 : mm_iw 135 19 = true := rfl
theorem al_19 {σ : mm_M} : mm_al σ 19 = 5 := rfl
theorem kd_20 : mm_kd 135 20 = 20 := rfl
theorem ir_20 : mm_ir 135 20 = true := rfl
theorem iw_20 : mm_iw 135 20 = true := rfl
theorem al_20 {σ : mm_M} : mm_al σ 20 = 5 := rfl
theorem kd_21 : mm_kd 135 21 = 20 := rfl
theorem ir_21 : mm_ir 135 21 = true := rfl
theorem iw_21 : mm_iw 135 21 = true := rfl
theorem al_21 {σ : mm_M} : mm_al σ 21 = 5 := rfl
theorem kd_22 : mm_kd 135 22 = 20 := rfl
theorem ir_22 : mm_ir 135 22 = true := rfl
theorem iw_22 : mm_iw 135 22 = true := rfl
theorem al_22 {σ : mm_M} : mm_al σ 22 = 5 := rfl
theorem kd_23 : mm_kd 135 23 = 20 := rfl
theorem ir_23 : mm_ir 135 23 = true := rfl
theorem iw_23 : mm_iw 135 23 = true := rfl
theorem al_23 {σ : mm_M} : mm_al σ 23 = 5 := rfl
theorem kd_24 : mm_kd 135 24 = 20 := rfl
theorem ir_24 : mm_ir 135 24 = true := rfl
theorem iw_24 : mm_iw 135 24 = true := rfl
theorem al_24 {σ : mm_M} : mm_al σ 24 = 5 := rfl
theorem kd_25 : mm_kd 135 25 = 20 := rfl
theorem ir_25 : mm_ir 135 25 = true := rfl
theorem iw_25 : mm_iw 135 25 = true := rfl
theorem al_25 {σ : mm_M} : mm_al σ 25 = 5 := rfl
theorem kd_26 : mm_kd 135 26 = 20 := rfl
theorem ir_26 : mm_ir 135 26 = true := rfl
theorem iw_26 : mm_iw 135 26 = true := rfl
theorem al_26 {σ : mm_M} : mm_al σ 26 = 3 := rfl
theorem kd_27 : mm_kd 135 27 = 0 := rfl
theorem kd_28 : mm_kd 135 28 = 20 := rfl
theorem ir_28 : mm_ir 135 28 = true := rfl
theorem iw_28 : mm_iw 135 28 = true := rfl
theorem al_28 {σ : mm_M} : mm_al σ 28 = 84 := rfl
theorem kd_29 : mm_kd 135 29 = 25 := rfl
theorem al_29 {σ : mm_M} : mm_al σ 29 = 2 := rfl
theorem kd_30 : mm_kd 135 30 = 4 := rfl
theorem kd_31 : mm_kd 135 31 = 24 := rfl
theorem al_31 {σ : mm_M} : mm_al σ 31 = 9 := rfl
theorem kd_32 : mm_kd 135 32 = 20 := rfl
theorem ir_32 : mm_ir 135 32 = true := rfl
theorem iw_32 : mm_iw 135 32 = true := rfl
theorem al_32 {σ : mm_M} : mm_al σ 32 = 5 := rfl
theorem kd_33 : mm_kd 135 33 = 20 := rfl
theorem ir_33 : mm_ir 135 33 = true := rfl
theorem iw_33 : mm_iw 135 33 = true := rfl
theorem al_33 {σ : mm_M} : mm_al σ 33 = 5 := rfl
theorem kd_34 : mm_kd 135 34 = 20 := rfl
theorem ir_34 : mm_ir 135 34 = true := rfl
theorem iw_34 : mm_iw 135 34 = true := rfl
theorem al_34 {σ : mm_M} : mm_al σ 34 = 5 := rfl
theorem kd_35 : mm_kd 135 35 = 20 := rfl
theorem ir_35 : mm_ir 135 35 = true := rfl
theorem iw_35 : mm_iw 135 35 = true := rfl
theorem al_35 {σ : mm_M} : mm_al σ 35 = 5 := rfl
theorem kd_36 : mm_kd 135 36 = 20 := rfl
theorem ir_36 : mm_ir 135 36 = true := rfl
theorem iw_36 : mm_iw 135 36 = true := rfl
theorem al_36 {σ : mm_M} : mm_al σ 36 = 5 := rfl
theorem kd_37 : mm_kd 135 37 = 20 := rfl
theorem ir_37 : mm_ir 135 37 = true := rfl
theorem iw_37 : mm_iw 135 37 = true := rfl
theorem al_37 {σ : mm_M} : mm_al σ 37 = 5 := rfl
theorem kd_38 : mm_kd 135 38 = 20 := rfl
theorem ir_38 : mm_ir 135 38 = true := rfl
theorem iw_38 : mm_iw 135 38 = true := rfl
theorem al_38 {σ : mm_M} : mm_al σ 38 = 5 := rfl
theorem kd_39 : mm_kd 135 39 = 20 := rfl
theorem ir_39 : mm_ir 135 39 = true := rfl
theorem iw_39 : mm_iw 135 39 = true := rfl
theorem al_39 {σ : mm_M} : mm_al σ 39 = 5 := rfl
theorem kd_40 : mm_kd 135 40 = 20 := rfl
theorem ir_40 : mm_ir 135 40 = true := rfl
theorem iw_40 : mm_iw 135 40 = true := rfl
theorem al_40 {σ : mm_M} : mm_al σ 40 = 5 := rfl
theorem kd_41 : mm_kd 135 41 = 20 := rfl
theorem ir_41 : mm_ir 135 41 = true := rfl
theorem iw_41 : mm_iw 135 41 = true := rfl
theorem al_41 {σ : mm_M} : mm_al σ 41 = 3 := rfl
theorem kd_42 : mm_kd 135 42 = 4 := rfl
theorem kd_43 : mm_kd 135 43 = 24 := rfl
theorem al_43 {σ : mm_M} : mm_al σ 43 = 9 := rfl
theorem kd_44 : mm_kd 135 44 = 20 := rfl
theorem ir_44 : mm_ir 135 44 = true := rfl
theorem iw_44 : mm_iw 135 44 = true := rfl
theorem al_44 {σ : mm_M} : mm_al σ 44 = 5 := rfl
theorem kd_45 : mm_kd 135 45 = 20 := rfl
theorem ir_45 : mm_ir 135 45 = true := rfl
theorem iw_45 : mm_iw 135 45 = true := rfl
theorem al_45 {σ : mm_M} : mm_al σ 45 = 5 := rfl
theorem kd_46 : mm_kd 135 46 = 20 := rfl
theorem ir_46 : mm_ir 135 46 = true := rfl
theorem iw_46 : mm_iw 135 46 = true := rfl
theorem al_46 {σ : mm_M} : mm_al σ 46 = 5 := rfl
theorem kd_47 : mm_kd 135 47 = 20 := rfl
theorem ir_47 : mm_ir 135 47 = true := rfl
theorem iw_47 : mm_iw 135 47 = true := rfl
theorem al_47 {σ : mm_M} : mm_al σ 47 = 5 := rfl
theorem kd_48 : mm_kd 135 48 = 20 := rfl
theorem ir_48 : mm_ir 135 48 = true := rfl
theorem iw_48 : mm_iw 135 48 = true := rfl
theorem al_48 {σ : mm_M} : mm_al σ 48 = 5 := rfl
theorem kd_49 : mm_kd 135 49 = 20 := rfl
theorem ir_49 : mm_ir 135 49 = true := rfl
theorem iw_49 : mm_iw 135 49 = true := rfl
theorem al_49 {σ : mm_M} : mm_al σ 49 = 5 := rfl
theorem kd_50 : mm_kd 135 50 = 20 := rfl
theorem ir_50 : mm_ir 135 50 = true := rfl
theorem iw_50 : mm_iw 135 50 = true := rfl
theorem al_50 {σ : mm_M} : mm_al σ 50 = 5 := rfl
theorem kd_51 : mm_kd 135 51 = 20 := rfl
theorem ir_51 : mm_ir 135 51 = true := rfl
theorem iw_51 : mm_iw 135 51 = true := rfl
theorem al_51 {σ : mm_M} : mm_al σ 51 = 5 := rfl
theorem kd_52 : mm_kd 135 52 = 20 := rfl
theorem ir_52 : mm_ir 135 52 = true := rfl
theorem iw_52 : mm_iw 135 52 = true := rfl
theorem al_52 {σ : mm_M} : mm_al σ 52 = 5 := rfl
theorem kd_53 : mm_kd 135 53 = 20 := rfl
theorem ir_53 : mm_ir 135 53 = true := rfl
theorem iw_53 : mm_iw 135 53 = true := rfl
theorem al_53 {σ : mm_M} : mm_al σ 53 = 3 := rfl
theorem kd_54 : mm_kd 135 54 = 21 := rfl
theorem al_54 {σ : mm_M} : mm_al σ 54 = 2 := rfl
theorem kd_55 : mm_kd 135 55 = 20 := rfl
theorem ir_55 : mm_ir 135 55 = true := rfl
theorem iw_55 : mm_iw 135 55 = true := rfl
theorem al_55 {σ : mm_M} : mm_al σ 55 = 5 := rfl
theorem kd_56 : mm_kd 135 56 = 1 := rfl
theorem kd_57 : mm_kd 135 57 = 20 := rfl
theorem ir_57 : mm_ir 135 57 = true := rfl
theorem iw_57 : mm_iw 135 57 = true := rfl
theorem al_57 {σ : mm_M} : mm_al σ 57 = 9 := rfl
theorem kd_58 : mm_kd 135 58 = 20 := rfl
theorem ir_58 : mm_ir 135 58 = true := rfl
theorem iw_58 : mm_iw 135 58 = true := rfl
theorem al_58 {σ : mm_M} : mm_al σ 58 = 9 := rfl
theorem kd_59 : mm_kd 135 59 = 24 := rfl
theorem al_59 {σ : mm_M} : mm_al σ 59 = 9 := rfl
theorem kd_60 : mm_kd 135 60 = 20 := rfl
theorem ir_60 : mm_ir 135 60 = true := rfl
theorem iw_60 : mm_iw 135 60 = true := rfl
theorem al_60 {σ : mm_M} : mm_al σ 60 = 5 := rfl
theorem kd_61 : mm_kd 135 61 = 20 := rfl
theorem ir_61 : mm_ir 135 61 = true := rfl
theorem iw_61 : mm_iw 135 61 = true := rfl
theorem al_61 {σ : mm_M} : mm_al σ 61 = 5 := rfl
theorem kd_62 : mm_kd 135 62 = 20 := rfl
theorem ir_62 : mm_ir 135 62 = true := rfl
theorem iw_62 : mm_iw 135 62 = true := rfl
theorem al_62 {σ : mm_M} : mm_al σ 62 = 5 := rfl
theorem kd_63 : mm_kd 135 63 = 20 := rfl
theorem ir_63 : mm_ir 135 63 = true := rfl
theorem iw_63 : mm_iw 135 63 = true := rfl
theorem al_63 {σ : mm_M} : mm_al σ 63 = 5 := rfl
theorem kd_64 : mm_kd 135 64 = 20 := rfl
theorem ir_64 : mm_ir 135 64 = true := rfl
theorem iw_64 : mm_iw 135 64 = true := rfl
theorem al_64 {σ : mm_M} : mm_al σ 64 = 5 := rfl
theorem kd_65 : mm_kd 135 65 = 20 := rfl
theorem ir_65 : mm_ir 135 65 = true := rfl
theorem iw_65 : mm_iw 135 65 = true := rfl
theorem al_65 {σ : mm_M} : mm_al σ 65 = 5 := rfl
theorem kd_66 : mm_kd 135 66 = 20 := rfl
theorem ir_66 : mm_ir 135 66 = true := rfl
theorem iw_66 : mm_iw 135 66 = true := rfl
theorem al_66 {σ : mm_M} : mm_al σ 66 = 5 := rfl
theorem kd_67 : mm_kd 135 67 = 20 := rfl
theorem ir_67 : mm_ir 135 67 = true := rfl
theorem iw_67 : mm_iw 135 67 = true := rfl
theorem al_67 {σ : mm_M} : mm_al σ 67 = 5 := rfl
theorem kd_68 : mm_kd 135 68 = 20 := rfl
theorem ir_68 : mm_ir 135 68 = true := rfl
theorem iw_68 : mm_iw 135 68 = true := rfl
theorem al_68 {σ : mm_M} : mm_al σ 68 = 5 := rfl
theorem kd_69 : mm_kd 135 69 = 20 := rfl
theorem ir_69 : mm_ir 135 69 = true := rfl
theorem iw_69 : mm_iw 135 69 = true := rfl
theorem al_69 {σ : mm_M} : mm_al σ 69 = 10 := rfl
theorem kd_70 : mm_kd 135 70 = 20 := rfl
theorem ir_70 : mm_ir 135 70 = true := rfl
theorem iw_70 : mm_iw 135 70 = true := rfl
theorem al_70 {σ : mm_M} : mm_al σ 70 = 10 := rfl
theorem kd_71 : mm_kd 135 71 = 20 := rfl
theorem ir_71 : mm_ir 135 71 = true := rfl
theorem iw_71 : mm_iw 135 71 = true := rfl
theorem al_71 {σ : mm_M} : mm_al σ 71 = 5 := rfl
theorem kd_72 : mm_kd 135 72 = 6 := rfl
theorem kd_73 : mm_kd 135 73 = 20 := rfl
theorem ir_73 : mm_ir 135 73 = true := rfl
theorem iw_73 : mm_iw 135 73 = true := rfl
theorem al_73 {σ : mm_M} : mm_al σ 73 = 5 := rfl
theorem kd_74 : mm_kd 135 74 = 20 := rfl
theorem ir_74 : mm_ir 135 74 = true := rfl
theorem iw_74 : mm_iw 135 74 = true := rfl
theorem al_74 {σ : mm_M} : mm_al σ 74 = 9 := rfl
theorem kd_75 : mm_kd 135 75 = 20 := rfl
theorem ir_75 : mm_ir 135 75 = true := rfl
theorem iw_75 : mm_iw 135 75 = true := rfl
theorem al_75 {σ : mm_M} : mm_al σ 75 = 9 := rfl
theorem kd_76 : mm_kd 135 76 = 6 := rfl
theorem kd_77 : mm_kd 135 77 = 20 := rfl
theorem ir_77 : mm_ir 135 77 = true := rfl
theorem iw_77 : mm_iw 135 77 = true := rfl
theorem al_77 {σ : mm_M} : mm_al σ 77 = 5 := rfl
theorem kd_78 : mm_kd 135 78 = 20 := rfl
theorem ir_78 : mm_ir 135 78 = true := rfl
theorem iw_78 : mm_iw 135 78 = true := rfl
theorem al_78 {σ : mm_M} : mm_al σ 78 = 9 := rfl
theorem kd_79 : mm_kd 135 79 = 20 := rfl
theorem ir_79 : mm_ir 135 79 = true := rfl
theorem iw_79 : mm_iw 135 79 = true := rfl
theorem al_79 {σ : mm_M} : mm_al σ 79 = 9 := rfl
theorem kd_80 : mm_kd 135 80 = 5 := rfl
theorem kd_81 : mm_kd 135 81 = 6 := rfl
theorem kd_82 : mm_kd 135 82 = 20 := rfl
theorem ir_82 : mm_ir 135 82 = true := rfl
theorem iw_82 : mm_iw 135 82 = true := rfl
theorem al_82 {σ : mm_M} : mm_al σ 82 = 5 := rfl
theorem kd_83 : mm_kd 135 83 = 20 := rfl
theorem ir_83 : mm_ir 135 83 = true := rfl
theorem iw_83 : mm_iw 135 83 = true := rfl
theorem al_83 {σ : mm_M} : mm_al σ 83 = 9 := rfl
theorem kd_84 : mm_kd 135 84 = 20 := rfl
theorem ir_84 : mm_ir 135 84 = true := rfl
theorem iw_84 : mm_iw 135 84 = true := rfl
theorem al_84 {σ : mm_M} : mm_al σ 84 = 9 := rfl
theorem kd_85 : mm_kd 135 85 = 20 := rfl
theorem ir_85 : mm_ir 135 85 = true := rfl
theorem iw_85 : mm_iw 135 85 = true := rfl
theorem al_85 {σ : mm_M} : mm_al σ 85 = 900 := rfl
theorem kd_86 : mm_kd 135 86 = 20 := rfl
theorem ir_86 : mm_ir 135 86 = true := rfl
theorem iw_86 : mm_iw 135 86 = true := rfl
theorem al_86 {σ : mm_M} : mm_al σ 86 = 257 := rfl
theorem kd_87 : mm_kd 135 87 = 2 := rfl
theorem kd_88 : mm_kd 135 88 = 24 := rfl
theorem al_88 {σ : mm_M} : mm_al σ 88 = 6 := rfl
theorem kd_89 : mm_kd 135 89 = 20 := rfl
theorem ir_89 : mm_ir 135 89 = true := rfl
theorem iw_89 : mm_iw 135 89 = true := rfl
theorem al_89 {σ : mm_M} : mm_al σ 89 = 4 := rfl
theorem kd_90 : mm_kd 135 90 = 20 := rfl
theorem ir_90 : mm_ir 135 90 = true := rfl
theorem iw_90 : mm_iw 135 90 = true := rfl
theorem al_90 {σ : mm_M} : mm_al σ 90 = 4 := rfl
theorem kd_91 : mm_kd 135 91 = 20 := rfl
theorem ir_91 : mm_ir 135 91 = true := rfl
theorem iw_91 : mm_iw 135 91 = true := rfl
theorem al_91 {σ : mm_M} : mm_al σ 91 = 4 := rfl
theorem kd_92 : mm_kd 135 92 = 20 := rfl
theorem ir_92 : mm_ir 135 92 = true := rfl
theorem iw_92 : mm_iw 135 92 = true := rfl
theorem al_92 {σ : mm_M} : mm_al σ 92 = 4 := rfl
theorem kd_93 : mm_kd 135 93 = 20 := rfl
theorem ir_93 : mm_ir 135 93 = true := rfl
theorem iw_93 : mm_iw 135 93 = true := rfl
theorem al_93 {σ : mm_M} : mm_al σ 93 = 4 := rfl
theorem kd_94 : mm_kd 135 94 = 20 := rfl
theorem ir_94 : mm_ir 135 94 = true := rfl
theorem iw_94 : mm_iw 135 94 = true := rfl
theorem al_94 {σ : mm_M} : mm_al σ 94 = 4 := rfl
theorem kd_95 : mm_kd 135 95 = 3 := rfl
theorem kd_96 : mm_kd 135 96 = 20 := rfl
theorem ir_96 : mm_ir 135 96 = true := rfl
theorem iw_96 : mm_iw 135 96 = true := rfl
theorem al_96 {σ : mm_M} : mm_al σ 96 = 3 := rfl
theorem kd_97 : mm_kd 135 97 = 1 := rfl
theorem kd_98 : mm_kd 135 98 = 20 := rfl
theorem ir_98 : mm_ir 135 98 = true := rfl
theorem iw_98 : mm_iw 135 98 = true := rfl
theorem al_98 {σ : mm_M} : mm_al σ 98 = 9 := rfl
theorem kd_99 : mm_kd 135 99 = 20 := rfl
theorem ir_99 : mm_ir 135 99 = true := rfl
theorem iw_99 : mm_iw 135 99 = true := rfl
theorem al_99 {σ : mm_M} : mm_al σ 99 = 9 := rfl
theorem kd_100 : mm_kd 135 100 = 24 := rfl
theorem al_100 {σ : mm_M} : mm_al σ 100 = 9 := rfl
theorem kd_101 : mm_kd 135 101 = 20 := rfl
theorem ir_101 : mm_ir 135 101 = true := rfl
theorem iw_101 : mm_iw 135 101 = true := rfl
theorem al_101 {σ : mm_M} : mm_al σ 101 = 5 := rfl
theorem kd_102 : mm_kd 135 102 = 20 := rfl
theorem ir_102 : mm_ir 135 102 = true := rfl
theorem iw_102 : mm_iw 135 102 = true := rfl
theorem al_102 {σ : mm_M} : mm_al σ 102 = 5 := rfl
theorem kd_103 : mm_kd 135 103 = 20 := rfl
theorem ir_103 : mm_ir 135 103 = true := rfl
theorem iw_103 : mm_iw 135 103 = true := rfl
theorem al_103 {σ : mm_M} : mm_al σ 103 = 5 := rfl
theorem kd_104 : mm_kd 135 104 = 20 := rfl
theorem ir_104 : mm_ir 135 104 = true := rfl
theorem iw_104 : mm_iw 135 104 = true := rfl
theorem al_104 {σ : mm_M} : mm_al σ 104 = 5 := rfl
theorem kd_105 : mm_kd 135 105 = 20 := rfl
theorem ir_105 : mm_ir 135 105 = true := rfl
theorem iw_105 : mm_iw 135 105 = true := rfl
theorem al_105 {σ : mm_M} : mm_al σ 105 = 5 := rfl
theorem kd_106 : mm_kd 135 106 = 20 := rfl
theorem ir_106 : mm_ir 135 106 = true := rfl
theorem iw_106 : mm_iw 135 106 = true := rfl
theorem al_106 {σ : mm_M} : mm_al σ 106 = 5 := rfl
theorem kd_107 : mm_kd 135 107 = 20 := rfl
theorem ir_107 : mm_ir 135 107 = true := rfl
theorem iw_107 : mm_iw 135 107 = true := rfl
theorem al_107 {σ : mm_M} : mm_al σ 107 = 5 := rfl
theorem kd_108 : mm_kd 135 108 = 20 := rfl
theorem ir_108 : mm_ir 135 108 = true := rfl
theorem iw_108 : mm_iw 135 108 = true := rfl
theorem al_108 {σ : mm_M} : mm_al σ 108 = 5 := rfl
theorem kd_109 : mm_kd 135 109 = 20 := rfl
theorem ir_109 : mm_ir 135 109 = true := rfl
theorem iw_109 : mm_iw 135 109 = true := rfl
theorem al_109 {σ : mm_M} : mm_al σ 109 = 5 := rfl
theorem kd_110 : mm_kd 135 110 = 20 := rfl
theorem ir_110 : mm_ir 135 110 = true := rfl
theorem iw_110 : mm_iw 135 110 = true := rfl
theorem al_110 {σ : mm_M} : mm_al σ 110 = 10 := rfl
theorem kd_111 : mm_kd 135 111 = 20 := rfl
theorem ir_111 : mm_ir 135 111 = true := rfl
theorem iw_111 : mm_iw 135 111 = true := rfl
theorem al_111 {σ : mm_M} : mm_al σ 111 = 10 := rfl
theorem kd_112 : mm_kd 135 112 = 20 := rfl
theorem ir_112 : mm_ir 135 112 = true := rfl
theorem iw_112 : mm_iw 135 112 = true := rfl
theorem al_112 {σ : mm_M} : mm_al σ 112 = 5 := rfl
theorem kd_113 : mm_kd 135 113 = 5 := rfl
theorem kd_114 : mm_kd 135 114 = 6 := rfl
theorem kd_115 : mm_kd 135 115 = 20 := rfl
theorem ir_115 : mm_ir 135 115 = true := rfl
theorem iw_115 : mm_iw 135 115 = true := rfl
theorem al_115 {σ : mm_M} : mm_al σ 115 = 5 := rfl
theorem kd_116 : mm_kd 135 116 = 20 := rfl
theorem ir_116 : mm_ir 135 116 = true := rfl
theorem iw_116 : mm_iw 135 116 = true := rfl
theorem al_116 {σ : mm_M} : mm_al σ 116 = 9 := rfl
theorem kd_117 : mm_kd 135 117 = 20 := rfl
theorem ir_117 : mm_ir 135 117 = true := rfl
theorem iw_117 : mm_iw 135 117 = true := rfl
theorem al_117 {σ : mm_M} : mm_al σ 117 = 9 := rfl
theorem kd_118 : mm_kd 135 118 = 20 := rfl
theorem ir_118 : mm_ir 135 118 = true := rfl
theorem iw_118 : mm_iw 135 118 = true := rfl
theorem al_118 {σ : mm_M} : mm_al σ 118 = 900 := rfl
theorem kd_119 : mm_kd 135 119 = 20 := rfl
theorem ir_119 : mm_ir 135 119 = true := rfl
theorem iw_119 : mm_iw 135 119 = true := rfl
theorem al_119 {σ : mm_M} : mm_al σ 119 = 257 := rfl
theorem kd_120 : mm_kd 135 120 = 9 := rfl
theorem kd_121 : mm_kd 135 121 = 20 := rfl
theorem ir_121 : mm_ir 135 121 = true := rfl
theorem iw_121 : mm_iw 135 121 = true := rfl
theorem al_121 {σ : mm_M} : mm_al σ 121 = 96 := rfl
theorem kd_122 : mm_kd 135 122 = 20 := rfl
theorem ir_122 : mm_ir 135 122 = true := rfl
theorem iw_122 : mm_iw 135 122 = true := rfl
theorem al_122 {σ : mm_M} : mm_al σ 122 = 48 := rfl
theorem kd_123 : mm_kd 135 123 = 20 := rfl
theorem ir_123 : mm_ir 135 123 = true := rfl
theorem iw_123 : mm_iw 135 123 = true := rfl
theorem al_123 {σ : mm_M} : mm_al σ 123 = 50 := rfl
theorem kd_124 : mm_kd 135 124 = 20 := rfl
theorem ir_124 : mm_ir 135 124 = true := rfl
theorem iw_124 : mm_iw 135 124 = true := rfl
theorem al_124 {σ : mm_M} : mm_al σ 124 = 10 := rfl
theorem kd_125 : mm_kd 135 125 = 20 := rfl
theorem ir_125 : mm_ir 135 125 = true := rfl
theorem iw_125 : mm_iw 135 125 = true := rfl
theorem al_125 {σ : mm_M} : mm_al σ 125 = 672 := rfl
theorem kd_126 : mm_kd 135 126 = 20 := rfl
theorem ir_126 : mm_ir 135 126 = true := rfl
theorem iw_126 : mm_iw 135 126 = true := rfl
theorem al_126 {σ : mm_M} : mm_al σ 126 = 5 := rfl
theorem kd_127 : mm_kd 135 127 = 20 := rfl
theorem ir_127 : mm_ir 135 127 = true := rfl
theorem iw_127 : mm_iw 135 127 = true := rfl
theorem al_127 {σ : mm_M} : mm_al σ 127 = 9 := rfl
theorem kd_128 : mm_kd 135 128 = 23 := rfl
theorem al_128 {σ : mm_M} : mm_al σ 128 = 100 := rfl
theorem kd_129 : mm_kd 135 129 = 20 := rfl
theorem ir_129 : mm_ir 135 129 = true := rfl
theorem iw_129 : mm_iw 135 129 = true := rfl
theorem al_129 {σ : mm_M} : mm_al σ 129 = 6 := rfl
theorem kd_130 : mm_kd 135 130 = 20 := rfl
theorem ir_130 : mm_ir 135 130 = true := rfl
theorem iw_130 : mm_iw 135 130 = true := rfl
theorem al_130 {σ : mm_M} : mm_al σ 130 = 6 := rfl
theorem kd_131 : mm_kd 135 131 = 20 := rfl
theorem ir_131 : mm_ir 135 131 = true := rfl
theorem iw_131 : mm_iw 135 131 = true := rfl
theorem al_131 {σ : mm_M} : mm_al σ 131 = 6 := rfl
theorem kd_132 : mm_kd 135 132 = 20 := rfl
theorem ir_132 : mm_ir 135 132 = true := rfl
theorem iw_132 : mm_iw 135 132 = true := rfl
theorem al_132 {σ : mm_M} : mm_al σ 132 = 6 := rfl
theorem kd_133 : mm_kd 135 133 = 21 := rfl
theorem al_133 {σ : mm_M} : mm_al σ 133 = 2 := rfl
theorem kd_134 : mm_kd 135 134 = 20 := rfl
theorem ir_134 : mm_ir 135 134 = true := rfl
theorem iw_134 : mm_iw 135 134 = true := rfl
theorem al_134 {σ : mm_M} : mm_al σ 134 = 96 := rfl
theorem kd_1000 : mm_kd 135 1000 = 30 := rfl
theorem ir_1000 : mm_ir 135 1000 = true := rfl
theorem kd_1001 : mm_kd 135 1001 = 31 := rfl
theorem ir_1001 : mm_ir 135 1001 = true := rfl
theorem al_1001 {σ : mm_M} : mm_al σ 1001 = 7 := rfl
theorem kd_1002 : mm_kd 135 1002 = 31 := rfl
theorem ir_1002 : mm_ir 135 1002 = true := rfl
theorem al_1002 {σ : mm_M} : mm_al σ 1002 = 6 := rfl
theorem kd_1003 : mm_kd 135 1003 = 32 := rfl
theorem kd_1004 : mm_kd 135 1004 = 33 := rfl
theorem al_1004 {σ : mm_M} : mm_al σ 1004 = 7 := rfl
theorem kb_10 : (Int8.ofInt 10).toInt32 = (10 : Int32) := by decide
theorem kb_100 : (Int8.ofInt 100).toInt32 = (100 : Int32) := by decide
theorem kb_11 : (Int8.ofInt 11).toInt32 = (11 : Int32) := by decide
theorem kb_13 : (Int8.ofInt 13).toInt32 = (13 : Int32) := by decide
theorem kb_14 : (Int8.ofInt 14).toInt32 = (14 : Int32) := by decide
theorem kb_16 : (Int8.ofInt 16).toInt32 = (16 : Int32) := by decide
theorem kb_18 : (Int8.ofInt 18).toInt32 = (18 : Int32) := by decide
theorem kb_20 : (Int8.ofInt 20).toInt32 = (20 : Int32) := by decide
theorem kb_27 : (Int8.ofInt 27).toInt32 = (27 : Int32) := by decide
theorem kb_31 : (Int8.ofInt 31).toInt32 = (31 : Int32) := by decide
theorem kb_32 : (Int8.ofInt 32).toInt32 = (32 : Int32) := by decide
theorem kb_33 : (Int8.ofInt 33).toInt32 = (33 : Int32) := by decide
theorem kb_36 : (Int8.ofInt 36).toInt32 = (36 : Int32) := by decide
theorem kb_45 : (Int8.ofInt 45).toInt32 = (45 : Int32) := by decide
theorem kb_46 : (Int8.ofInt 46).toInt32 = (46 : Int32) := by decide
theorem kb_47 : (Int8.ofInt 47).toInt32 = (47 : Int32) := by decide
theorem kb_48 : (Int8.ofInt 48).toInt32 = (48 : Int32) := by decide
theorem kb_49 : (Int8.ofInt 49).toInt32 = (49 : Int32) := by decide
theorem kb_50 : (Int8.ofInt 50).toInt32 = (50 : Int32) := by decide
theorem kb_6 : (Int8.ofInt 6).toInt32 = (6 : Int32) := by decide
theorem kb_63 : (Int8.ofInt 63).toInt32 = (63 : Int32) := by decide
theorem kb_64 : (Int8.ofInt 64).toInt32 = (64 : Int32) := by decide
theorem kb_7 : (Int8.ofInt 7).toInt32 = (7 : Int32) := by decide
theorem kb_78 : (Int8.ofInt 78).toInt32 = (78 : Int32) := by decide
theorem kb_8 : (Int8.ofInt 8).toInt32 = (8 : Int32) := by decide
theorem kb_81 : (Int8.ofInt 81).toInt32 = (81 : Int32) := by decide
theorem kb_84 : (Int8.ofInt 84).toInt32 = (84 : Int32) := by decide
theorem kb_9 : (Int8.ofInt 9).toInt32 = (9 : Int32) := by decide
theorem kb_93 : (Int8.ofInt 93).toInt32 = (93 : Int32) := by decide
theorem kb_96 : (Int8.ofInt 96).toInt32 = (96 : Int32) := by decide
theorem kb_97 : (Int8.ofInt 97).toInt32 = (97 : Int32) := by decide
theorem kb_m2 : (Int8.ofInt (-2)).toInt32 = ((-2) : Int32) := by decide
theorem kb_m3 : (Int8.ofInt (-3)).toInt32 = ((-3) : Int32) := by decide
theorem kb_m4 : (Int8.ofInt (-4)).toInt32 = ((-4) : Int32) := by decide
theorem kb_m9 : (Int8.ofInt (-9)).toInt32 = ((-9) : Int32) := by decide
theorem ki_0 : Int32.ofInt 0 = (0 : Int32) := by decide
theorem ki_1 : Int32.ofInt 1 = (1 : Int32) := by decide
theorem ki_16 : Int32.ofInt 16 = (16 : Int32) := by decide
theorem ki_2 : Int32.ofInt 2 = (2 : Int32) := by decide
theorem ki_3 : Int32.ofInt 3 = (3 : Int32) := by decide
theorem ki_4 : Int32.ofInt 4 = (4 : Int32) := by decide
theorem ki_5 : Int32.ofInt 5 = (5 : Int32) := by decide
theorem ki_7 : Int32.ofInt 7 = (7 : Int32) := by decide
theorem ki_8 : Int32.ofInt 8 = (8 : Int32) := by decide
theorem ki_m1 : Int32.ofInt (-1) = ((-1) : Int32) := by decide
theorem kl_0 : Int64.ofNat ((0 : Fin 2) : Nat) = (0 : Int64) := by decide
theorem kl_1 : Int64.ofNat ((1 : Fin 2) : Nat) = (1 : Int64) := by decide
theorem ks_1000 : (Int16.ofInt 1000).toInt32 = (1000 : Int32) := by decide
theorem ks_255 : (Int16.ofInt 255).toInt32 = (255 : Int32) := by decide
theorem ks_256 : (Int16.ofInt 256).toInt32 = (256 : Int32) := by decide
theorem ks_257 : (Int16.ofInt 257).toInt32 = (257 : Int32) := by decide
theorem ks_511 : (Int16.ofInt 511).toInt32 = (511 : Int32) := by decide
theorem ks_672 : (Int16.ofInt 672).toInt32 = (672 : Int32) := by decide
theorem ks_900 : (Int16.ofInt 900).toInt32 = (900 : Int32) := by decide
theorem lf_0_9 : mm_lk mm_tF 0 9 = some (0, 0, 123) := by decide +kernel
theorem lf_0_15 : mm_lk mm_tF 0 15 = some (0, 1, 125) := by decide +kernel
theorem lf_0_23 : mm_lk mm_tF 0 23 = some (4, 1, 101) := by decide +kernel
theorem lf_0_35 : mm_lk mm_tF 0 35 = some (4, 2, 108) := by decide +kernel
theorem lf_1_9 : mm_lk mm_tF 1 9 = some (1, 0, 139) := by decide +kernel
theorem lf_1_15 : mm_lk mm_tF 1 15 = some (1, 1, 141) := by decide +kernel
theorem lf_1_18 : mm_lk mm_tF 1 18 = some (1, 2, 144) := by decide +kernel
theorem lf_1_22 : mm_lk mm_tF 1 22 = some (1, 3, 147) := by decide +kernel
theorem lf_1_27 : mm_lk mm_tF 1 27 = some (1, 4, 150) := by decide +kernel
theorem lf_1_30 : mm_lk mm_tF 1 30 = some (1, 5, 153) := by decide +kernel
theorem lf_1_33 : mm_lk mm_tF 1 33 = some (1, 6, 154) := by decide +kernel
theorem lf_1_36 : mm_lk mm_tF 1 36 = some (1, 7, 155) := by decide +kernel
theorem lf_1_47 : mm_lk mm_tF 1 47 = some (4, 0, 97) := by decide +kernel
theorem lf_1_64 : mm_lk mm_tF 1 64 = some (4, 1, 104) := by decide +kernel
theorem lf_2_9 : mm_lk mm_tF 2 9 = some (2, 0, 227) := by decide +kernel
theorem lf_2_17 : mm_lk mm_tF 2 17 = some (2, 1, 229) := by decide +kernel
theorem lf_3_9 : mm_lk mm_tF 3 9 = some (3, 0, 245) := by decide +kernel
theorem lf_3_18 : mm_lk mm_tF 3 18 = some (3, 1, 246) := by decide +kernel
theorem lf_3_25 : mm_lk mm_tF 3 25 = some (3, 2, 247) := by decide +kernel
theorem lf_3_31 : mm_lk mm_tF 3 31 = some (4, 2, 107) := by decide +kernel
theorem lf_3_67 : mm_lk mm_tF 3 67 = some (1, 4, 151) := by decide +kernel
theorem lf_3_70 : mm_lk mm_tF 3 70 = some (1, 3, 148) := by decide +kernel
theorem lf_3_73 : mm_lk mm_tF 3 73 = some (1, 2, 145) := by decide +kernel
theorem lf_3_76 : mm_lk mm_tF 3 76 = some (1, 1, 142) := by decide +kernel
theorem lf_4_9 : mm_lk mm_tF 4 9 = some (4, 0, 95) := by decide +kernel
theorem lf_4_17 : mm_lk mm_tF 4 17 = some (4, 1, 100) := by decide +kernel
theorem lf_4_20 : mm_lk mm_tF 4 20 = some (4, 2, 106) := by decide +kernel
theorem lf_5_12 : mm_lk mm_tF 5 12 = some (5, 0, 210) := by decide +kernel
theorem lf_5_18 : mm_lk mm_tF 5 18 = some (5, 1, 211) := by decide +kernel
theorem lf_5_22 : mm_lk mm_tF 5 22 = some (5, 2, 212) := by decide +kernel
theorem lf_5_35 : mm_lk mm_tF 5 35 = some (6, 0, 181) := by decide +kernel
theorem lf_5_39 : mm_lk mm_tF 5 39 = some (6, 4, 190) := by decide +kernel
theorem lf_5_42 : mm_lk mm_tF 5 42 = some (6, 3, 188) := by decide +kernel
theorem lf_6_9 : mm_lk mm_tF 6 9 = some (6, 0, 180) := by decide +kernel
theorem lf_6_15 : mm_lk mm_tF 6 15 = some (6, 1, 183) := by decide +kernel
theorem lf_6_19 : mm_lk mm_tF 6 19 = some (6, 2, 185) := by decide +kernel
theorem lf_6_23 : mm_lk mm_tF 6 23 = some (6, 3, 187) := by decide +kernel
theorem lf_6_26 : mm_lk mm_tF 6 26 = some (6, 4, 189) := by decide +kernel
theorem lf_6_29 : mm_lk mm_tF 6 29 = some (4, 0, 96) := by decide +kernel
theorem lf_6_38 : mm_lk mm_tF 6 38 = some (4, 1, 102) := by decide +kernel
theorem lf_7_9 : mm_lk mm_tF 7 9 = some (7, 0, 78) := by decide +kernel
theorem lf_7_15 : mm_lk mm_tF 7 15 = some (7, 1, 80) := by decide +kernel
theorem lf_7_28 : mm_lk mm_tF 7 28 = some (4, 1, 103) := by decide +kernel
theorem lf_7_32 : mm_lk mm_tF 7 32 = some (4, 0, 98) := by decide +kernel
theorem lf_8_12 : mm_lk mm_tF 8 12 = some (8, 0, 255) := by decide +kernel
theorem lf_8_19 : mm_lk mm_tF 8 19 = some (8, 1, 256) := by decide +kernel
theorem lf_8_23 : mm_lk mm_tF 8 23 = some (8, 2, 257) := by decide +kernel
theorem lf_8_29 : mm_lk mm_tF 8 29 = some (8, 3, 258) := by decide +kernel
theorem lf_8_33 : mm_lk mm_tF 8 33 = some (8, 4, 259) := by decide +kernel
theorem lf_8_37 : mm_lk mm_tF 8 37 = some (8, 5, 260) := by decide +kernel
theorem lf_8_41 : mm_lk mm_tF 8 41 = some (8, 6, 261) := by decide +kernel
theorem lf_8_48 : mm_lk mm_tF 8 48 = some (8, 7, 262) := by decide +kernel
theorem lf_8_55 : mm_lk mm_tF 8 55 = some (8, 8, 263) := by decide +kernel
theorem lf_8_59 : mm_lk mm_tF 8 59 = some (8, 9, 264) := by decide +kernel
theorem lf_8_65 : mm_lk mm_tF 8 65 = some (8, 10, 265) := by decide +kernel
theorem lf_8_72 : mm_lk mm_tF 8 72 = some (8, 11, 266) := by decide +kernel
theorem lf_8_79 : mm_lk mm_tF 8 79 = some (8, 12, 267) := by decide +kernel
theorem lf_8_83 : mm_lk mm_tF 8 83 = some (8, 13, 268) := by decide +kernel
theorem lf_8_91 : mm_lk mm_tF 8 91 = some (7, 0, 79) := by decide +kernel
theorem lf_8_103 : mm_lk mm_tF 8 103 = some (0, 0, 124) := by decide +kernel
theorem lf_8_104 : mm_lk mm_tF 8 104 = some (4, 0, 99) := by decide +kernel
theorem lf_8_112 : mm_lk mm_tF 8 112 = some (4, 1, 105) := by decide +kernel
theorem lf_8_136 : mm_lk mm_tF 8 136 = some (4, 2, 109) := by decide +kernel
theorem lf_8_153 : mm_lk mm_tF 8 153 = some (1, 4, 152) := by decide +kernel
theorem lf_8_155 : mm_lk mm_tF 8 155 = some (1, 2, 146) := by decide +kernel
theorem lf_8_158 : mm_lk mm_tF 8 158 = some (1, 3, 149) := by decide +kernel
theorem lf_8_161 : mm_lk mm_tF 8 161 = some (1, 1, 143) := by decide +kernel
theorem lf_8_176 : mm_lk mm_tF 8 176 = some (6, 0, 182) := by decide +kernel
theorem lf_8_179 : mm_lk mm_tF 8 179 = some (6, 1, 184) := by decide +kernel
theorem lf_8_183 : mm_lk mm_tF 8 183 = some (6, 2, 186) := by decide +kernel
theorem lf_8_213 : mm_lk mm_tF 8 213 = some (2, 0, 228) := by decide +kernel
theorem lf_8_245 : mm_lk mm_tF 8 245 = some (1, 0, 140) := by decide +kernel
theorem lf_9_7 : mm_lk mm_tF 9 7 = some (9, 1, 797) := by decide +kernel
theorem lf_9_13 : mm_lk mm_tF 9 13 = some (9, 3, 799) := by decide +kernel
theorem lf_9_16 : mm_lk mm_tF 9 16 = some (9, 5, 801) := by decide +kernel
theorem lf_9_19 : mm_lk mm_tF 9 19 = some (9, 6, 802) := by decide +kernel
theorem lf_9_22 : mm_lk mm_tF 9 22 = some (9, 10, 806) := by decide +kernel
theorem lf_9_25 : mm_lk mm_tF 9 25 = some (9, 11, 807) := by decide +kernel
theorem lf_9_28 : mm_lk mm_tF 9 28 = some (9, 12, 808) := by decide +kernel
theorem lf_9_31 : mm_lk mm_tF 9 31 = some (9, 15, 811) := by decide +kernel
theorem lf_9_35 : mm_lk mm_tF 9 35 = some (9, 17, 813) := by decide +kernel
theorem lf_9_38 : mm_lk mm_tF 9 38 = some (9, 18, 814) := by decide +kernel
theorem lf_9_41 : mm_lk mm_tF 9 41 = some (9, 19, 815) := by decide +kernel
theorem lf_9_44 : mm_lk mm_tF 9 44 = some (9, 20, 816) := by decide +kernel
theorem lf_9_47 : mm_lk mm_tF 9 47 = some (9, 22, 818) := by decide +kernel
theorem lf_9_51 : mm_lk mm_tF 9 51 = some (9, 23, 819) := by decide +kernel
theorem lf_9_64 : mm_lk mm_tF 9 64 = some (9, 4, 800) := by decide +kernel
theorem lf_9_76 : mm_lk mm_tF 9 76 = some (9, 2, 798) := by decide +kernel
theorem lf_9_105 : mm_lk mm_tF 9 105 = some (9, 0, 796) := by decide +kernel
theorem lf_9_108 : mm_lk mm_tF 9 108 = some (9, 8, 804) := by decide +kernel
theorem lf_9_132 : mm_lk mm_tF 9 132 = some (9, 7, 803) := by decide +kernel
theorem lf_9_155 : mm_lk mm_tF 9 155 = some (9, 9, 805) := by decide +kernel
theorem lf_9_171 : mm_lk mm_tF 9 171 = some (9, 13, 809) := by decide +kernel
theorem lf_9_174 : mm_lk mm_tF 9 174 = some (9, 14, 810) := by decide +kernel
theorem lf_9_215 : mm_lk mm_tF 9 215 = some (9, 16, 812) := by decide +kernel
theorem lf_9_232 : mm_lk mm_tF 9 232 = some (9, 21, 817) := by decide +kernel
theorem lc_0_19 : mm_lk (mm_tC 0) 0 19 = some (2, 0, mX0_placeForOne, [469, 471, 1, 48, 472]) := rfl
theorem lc_1_39 : mm_lk (mm_tC 1) 1 39 = some (2, 1, mX1_readWays, [499, 501, 2, 49, 502]) := rfl
theorem lc_1_43 : mm_lk (mm_tC 1) 1 43 = some (2, 1, mX1_clearLabels, [511, 513, 3, 49, 514]) := rfl
theorem lc_1_52 : mm_lk (mm_tC 1) 1 52 = some (2, 1, mX1_isReached, [517, 518, 519, 49, 520]) := rfl
theorem lc_1_56 : mm_lk (mm_tC 1) 1 56 = some (2, 2, mX1_contextOf, [521, 523, 4, 49, 524]) := rfl
theorem lc_1_60 : mm_lk (mm_tC 1) 1 60 = some (2, 2, mX1_leaveByNext, [529, 531, 6, 49, 532]) := rfl
theorem lc_1_67 : mm_lk (mm_tC 1) 1 67 = some (2, 2, mX1_leaveByTarget, [537, 539, 8, 49, 540]) := rfl
theorem lc_1_70 : mm_lk (mm_tC 1) 1 70 = some (2, 2, mX1_isSpokenWrong, [541, 543, 9, 49, 544]) := rfl
theorem lc_1_74 : mm_lk (mm_tC 1) 1 74 = some (2, 1, mX4_targetOf, [503, 504, 505, 47, 506]) := rfl
theorem lc_1_78 : mm_lk (mm_tC 1) 1 78 = some (0, 1, mJ6_numberOfTrailingZeros_0f7a4, [507, 508, 63, 509]) := rfl
theorem ln_1_78 : mm_lk mm_tA 1 78 = none := by decide +kernel
theorem lh_1_78 : mm_lk mm_tH 1 78 = none := by decide +kernel
theorem lc_1_83 : mm_lk (mm_tC 1) 1 83 = some (0, 2, mJ7_fill_53178, [515, 413, 61, 414]) := rfl
theorem ln_1_83 : mm_lk mm_tA 1 83 = none := by decide +kernel
theorem lh_1_83 : mm_lk mm_tH 1 83 = none := by decide +kernel
theorem lc_1_95 : mm_lk (mm_tC 1) 1 95 = some (2, 2, mX1_lookedAt, [525, 527, 5, 49, 528]) := rfl
theorem lc_1_99 : mm_lk (mm_tC 1) 1 99 = some (2, 2, mX1_comeTo, [533, 535, 7, 49, 536]) := rfl
theorem lc_2_20 : mm_lk (mm_tC 2) 2 20 = some (2, 4, mX6_go, [679, 562, 563, 50, 564]) := rfl
theorem lc_2_26 : mm_lk (mm_tC 2) 2 26 = some (2, 1, mX6_spoken, [680, 579, 580, 50, 581]) := rfl
theorem lc_3_17 : mm_lk (mm_tC 3) 3 17 = some (5, 0, mX1_init, [242, 135, 49, 136]) := rfl
theorem ln_3_17 : mm_lk mm_tO 3 17 = none := by decide +kernel
theorem lc_3_24 : mm_lk (mm_tC 3) 3 24 = some (5, 0, mX5_init, [244, 205, 51, 206]) := rfl
theorem ln_3_24 : mm_lk mm_tO 3 24 = none := by decide +kernel
theorem lc_3_40 : mm_lk (mm_tC 3) 3 40 = some (2, 2, mX1_read, [644, 496, 497, 49, 498]) := rfl
theorem lc_3_44 : mm_lk (mm_tC 3) 3 44 = some (0, 1, mX3_rowsOf, [645, 636, 53, 637]) := rfl
theorem ln_3_44 : mm_lk mm_tA 3 44 = none := by decide +kernel
theorem lh_3_44 : mm_lk mm_tH 3 44 = none := by decide +kernel
theorem lc_3_48 : mm_lk (mm_tC 3) 3 48 = some (2, 2, mX3_isSo, [646, 648, 16, 53, 649]) := rfl
theorem lc_3_52 : mm_lk (mm_tC 3) 3 52 = some (2, 3, mX3_isLabelled, [650, 652, 17, 53, 653]) := rfl
theorem lc_3_56 : mm_lk (mm_tC 3) 3 56 = some (2, 1, mX4_has, [655, 451, 452, 47, 453]) := rfl
theorem lc_3_60 : mm_lk (mm_tC 3) 3 60 = some (2, 1, mX1_isReached, [656, 518, 519, 49, 520]) := rfl
theorem lc_3_63 : mm_lk (mm_tC 3) 3 63 = some (1, 2, mX8_isBelow, [654, 419, 45, 420]) := rfl
theorem ln_3_63 : mm_lk mm_tA 3 63 = none := by decide +kernel
theorem lh_3_63 : mm_lk mm_tH 3 63 = none := by decide +kernel
theorem lc_3_80 : mm_lk (mm_tC 3) 3 80 = some (2, 2, mX5_listen, [657, 606, 607, 51, 608]) := rfl
theorem lc_3_84 : mm_lk (mm_tC 3) 3 84 = some (2, 1, mX5_unlikeRows, [658, 612, 613, 51, 614]) := rfl
theorem lc_4_24 : mm_lk (mm_tC 4) 4 24 = some (1, 2, mX8_isBelow, [424, 419, 45, 420]) := rfl
theorem ln_4_24 : mm_lk mm_tA 4 24 = none := by decide +kernel
theorem lh_4_24 : mm_lk mm_tH 4 24 = none := by decide +kernel
theorem lc_5_11 : mm_lk (mm_tC 5) 5 11 = some (5, 0, mX6_init, [209, 177, 50, 178]) := rfl
theorem ln_5_11 : mm_lk mm_tO 5 11 = none := by decide +kernel
theorem lc_5_25 : mm_lk (mm_tC 5) 5 25 = some (0, 2, mJ7_fill_53178, [609, 413, 61, 414]) := rfl
theorem ln_5_25 : mm_lk mm_tA 5 25 = none := by decide +kernel
theorem lh_5_25 : mm_lk mm_tH 5 25 = none := by decide +kernel
theorem lc_5_31 : mm_lk (mm_tC 5) 5 31 = some (2, 4, mX6_go, [610, 562, 563, 50, 564]) := rfl
theorem lc_5_45 : mm_lk (mm_tC 5) 5 45 = some (2, 2, mX5_rowOf, [615, 617, 14, 51, 618]) := rfl
theorem lc_5_49 : mm_lk (mm_tC 5) 5 49 = some (2, 1, mX5_placeOf, [619, 621, 15, 51, 622]) := rfl
theorem lc_6_34 : mm_lk (mm_tC 6) 6 34 = some (2, 2, mX6_step, [565, 567, 10, 50, 568]) := rfl
theorem lc_6_42 : mm_lk (mm_tC 6) 6 42 = some (2, 2, mX6_beThrown, [569, 571, 11, 50, 572]) := rfl
theorem lc_6_46 : mm_lk (mm_tC 6) 6 46 = some (2, 1, mX4_targetOf, [573, 504, 505, 47, 506]) := rfl
theorem lc_6_50 : mm_lk (mm_tC 6) 6 50 = some (2, 2, mX6_speak, [574, 576, 12, 50, 577]) := rfl
theorem lc_6_53 : mm_lk (mm_tC 6) 6 53 = some (1, 2, mX8_isBelow, [582, 419, 45, 420]) := rfl
theorem ln_6_53 : mm_lk mm_tA 6 53 = none := by decide +kernel
theorem lh_6_53 : mm_lk mm_tH 6 53 = none := by decide +kernel
theorem lc_6_63 : mm_lk (mm_tC 6) 6 63 = some (2, 1, mX6_spoken, [600, 579, 580, 50, 581]) := rfl
theorem lc_7_19 : mm_lk (mm_tC 7) 7 19 = some (2, 0, mX4_clear, [318, 319, 320, 47, 321]) := rfl
theorem lc_7_24 : mm_lk (mm_tC 7) 7 24 = some (0, 2, mX7_begin, [322, 323, 46, 324]) := rfl
theorem ln_7_24 : mm_lk mm_tA 7 24 = none := by decide +kernel
theorem lh_7_24 : mm_lk mm_tH 7 24 = none := by decide +kernel
theorem lc_7_33 : mm_lk (mm_tC 7) 7 33 = some (0, 3, mX7_valueOf, [415, 416, 46, 417]) := rfl
theorem ln_7_33 : mm_lk mm_tA 7 33 = none := by decide +kernel
theorem lh_7_33 : mm_lk mm_tH 7 33 = none := by decide +kernel
theorem lc_7_37 : mm_lk (mm_tC 7) 7 37 = some (0, 5, mX4_fits, [421, 422, 47, 423]) := rfl
theorem ln_7_37 : mm_lk mm_tA 7 37 = none := by decide +kernel
theorem lh_7_37 : mm_lk mm_tH 7 37 = none := by decide +kernel
theorem lc_7_47 : mm_lk (mm_tC 7) 7 47 = some (0, 2, mX7_partBehind, [426, 427, 46, 428]) := rfl
theorem ln_7_47 : mm_lk mm_tA 7 47 = none := by decide +kernel
theorem lh_7_47 : mm_lk mm_tH 7 47 = none := by decide +kernel
theorem lc_7_52 : mm_lk (mm_tC 7) 7 52 = some (2, 1, mJ0_indexOf_0f7a4, [326, 327, 328, 55, 329]) := rfl
theorem lc_7_58 : mm_lk (mm_tC 7) 7 58 = some (0, 2, mJ7_fill_53178, [412, 413, 61, 414]) := rfl
theorem ln_7_58 : mm_lk mm_tA 7 58 = none := by decide +kernel
theorem lh_7_58 : mm_lk mm_tH 7 58 = none := by decide +kernel
theorem lc_7_64 : mm_lk (mm_tC 7) 7 64 = some (1, 2, mX8_isBelow, [418, 419, 45, 420]) := rfl
theorem ln_7_64 : mm_lk mm_tA 7 64 = none := by decide +kernel
theorem lh_7_64 : mm_lk mm_tH 7 64 = none := by decide +kernel
theorem lc_7_68 : mm_lk (mm_tC 7) 7 68 = some (0, 2, mX4_hasPart, [429, 430, 47, 431]) := rfl
theorem ln_7_68 : mm_lk mm_tA 7 68 = none := by decide +kernel
theorem lh_7_68 : mm_lk mm_tH 7 68 = none := by decide +kernel
theorem lc_8_11 : mm_lk (mm_tC 8) 8 11 = some (5, 0, mX7_init, [74, 75, 46, 76]) := rfl
theorem ln_8_11 : mm_lk mm_tO 8 11 = none := by decide +kernel
theorem lc_8_18 : mm_lk (mm_tC 8) 8 18 = some (5, 0, mX4_init, [89, 90, 47, 91]) := rfl
theorem ln_8_18 : mm_lk mm_tO 8 18 = none := by decide +kernel
theorem lc_8_28 : mm_lk (mm_tC 8) 8 28 = some (5, 0, mX0_init, [119, 120, 48, 121]) := rfl
theorem ln_8_28 : mm_lk mm_tO 8 28 = none := by decide +kernel
theorem lc_8_47 : mm_lk (mm_tC 8) 8 47 = some (5, 0, mX1_init, [134, 135, 49, 136]) := rfl
theorem ln_8_47 : mm_lk mm_tO 8 47 = none := by decide +kernel
theorem lc_8_54 : mm_lk (mm_tC 8) 8 54 = some (5, 0, mX6_init, [176, 177, 50, 178]) := rfl
theorem ln_8_54 : mm_lk mm_tO 8 54 = none := by decide +kernel
theorem lc_8_64 : mm_lk (mm_tC 8) 8 64 = some (5, 0, mX5_init, [204, 205, 51, 206]) := rfl
theorem ln_8_64 : mm_lk mm_tO 8 64 = none := by decide +kernel
theorem lc_8_71 : mm_lk (mm_tC 8) 8 71 = some (5, 0, mX2_init, [222, 223, 52, 224]) := rfl
theorem ln_8_71 : mm_lk mm_tO 8 71 = none := by decide +kernel
theorem lc_8_78 : mm_lk (mm_tC 8) 8 78 = some (5, 0, mX3_init, [237, 238, 53, 239]) := rfl
theorem ln_8_78 : mm_lk mm_tO 8 78 = none := by decide +kernel
theorem lc_8_87 : mm_lk (mm_tC 8) 8 87 = some (2, 1, mX7_add, [302, 303, 304, 46, 305]) := rfl
theorem lc_8_95 : mm_lk (mm_tC 8) 8 95 = some (2, 1, mX7_readInto, [314, 315, 316, 46, 317]) := rfl
theorem lc_8_99 : mm_lk (mm_tC 8) 8 99 = some (2, 1, mX4_copy, [439, 440, 441, 47, 442]) := rfl
theorem lc_8_105 : mm_lk (mm_tC 8) 8 105 = some (2, 1, mX4_has, [450, 451, 452, 47, 453]) := rfl
theorem lc_8_108 : mm_lk (mm_tC 8) 8 108 = some (0, 2, mX8_isBelow, [454, 419, 45, 420]) := rfl
theorem ln_8_108 : mm_lk mm_tA 8 108 = none := by decide +kernel
theorem lh_8_108 : mm_lk mm_tH 8 108 = none := by decide +kernel
theorem lc_8_116 : mm_lk (mm_tC 8) 8 116 = some (2, 1, mX8_makeTold, [459, 461, 0, 45, 462]) := rfl
theorem lc_8_119 : mm_lk (mm_tC 8) 8 119 = some (2, 2, mX0_addTold, [465, 466, 467, 48, 468]) := rfl
theorem lc_8_129 : mm_lk (mm_tC 8) 8 129 = some (0, 2, mX4_hasPart, [463, 430, 47, 431]) := rfl
theorem ln_8_129 : mm_lk mm_tA 8 129 = none := by decide +kernel
theorem lh_8_129 : mm_lk mm_tH 8 129 = none := by decide +kernel
theorem lc_8_132 : mm_lk (mm_tC 8) 8 132 = some (0, 5, mX4_fits, [464, 422, 47, 423]) := rfl
theorem ln_8_132 : mm_lk mm_tA 8 132 = none := by decide +kernel
theorem lh_8_132 : mm_lk mm_tH 8 132 = none := by decide +kernel
theorem lc_8_139 : mm_lk (mm_tC 8) 8 139 = some (2, 2, mX0_addLabelled, [479, 480, 481, 48, 482]) := rfl
theorem lc_8_142 : mm_lk (mm_tC 8) 8 142 = some (2, 1, mX0_takeBack, [487, 488, 489, 48, 490]) := rfl
theorem lc_8_146 : mm_lk (mm_tC 8) 8 146 = some (2, 2, mX1_read, [495, 496, 497, 49, 498]) := rfl
theorem lc_8_150 : mm_lk (mm_tC 8) 8 150 = some (2, 1, mX1_isReached, [545, 518, 519, 49, 520]) := rfl
theorem lc_8_164 : mm_lk (mm_tC 8) 8 164 = some (0, 3, mX8_areFigures, [558, 559, 45, 560]) := rfl
theorem ln_8_164 : mm_lk mm_tA 8 164 = none := by decide +kernel
theorem lh_8_164 : mm_lk mm_tH 8 164 = none := by decide +kernel
theorem lc_8_168 : mm_lk (mm_tC 8) 8 168 = some (2, 4, mX6_go, [561, 562, 563, 50, 564]) := rfl
theorem lc_8_172 : mm_lk (mm_tC 8) 8 172 = some (2, 1, mX6_spoken, [578, 579, 580, 50, 581]) := rfl
theorem lc_8_186 : mm_lk (mm_tC 8) 8 186 = some (2, 1, mX8_leastUnlike, [591, 593, 13, 45, 594]) := rfl
theorem lc_8_189 : mm_lk (mm_tC 8) 8 189 = some (2, 1, mX6_firstUnlike, [595, 596, 597, 50, 598]) := rfl
theorem lc_8_193 : mm_lk (mm_tC 8) 8 193 = some (2, 2, mX5_listen, [605, 606, 607, 51, 608]) := rfl
theorem lc_8_196 : mm_lk (mm_tC 8) 8 196 = some (2, 1, mX5_unlikeRows, [611, 612, 613, 51, 614]) := rfl
theorem lc_8_199 : mm_lk (mm_tC 8) 8 199 = some (2, 1, mX5_rowsLike, [627, 628, 629, 51, 630]) := rfl
theorem lc_8_202 : mm_lk (mm_tC 8) 8 202 = some (0, 1, mX3_rowsOf, [635, 636, 53, 637]) := rfl
theorem ln_8_202 : mm_lk mm_tA 8 202 = none := by decide +kernel
theorem lh_8_202 : mm_lk mm_tH 8 202 = none := by decide +kernel
theorem lc_8_206 : mm_lk (mm_tC 8) 8 206 = some (2, 3, mX3_firstNotSo, [639, 640, 641, 53, 642]) := rfl
theorem lc_8_210 : mm_lk (mm_tC 8) 8 210 = some (2, 4, mX2_add, [663, 664, 665, 52, 666]) := rfl
theorem lc_8_214 : mm_lk (mm_tC 8) 8 214 = some (2, 4, mX2_isAllSo, [675, 676, 677, 52, 678]) := rfl
theorem lc_8_218 : mm_lk (mm_tC 8) 8 218 = some (2, 1, mX4_linesOfKind, [685, 686, 687, 47, 688]) := rfl
theorem lc_8_221 : mm_lk (mm_tC 8) 8 221 = some (0, 1, mJ6_bitCount_0f7a4, [689, 690, 63, 691]) := rfl
theorem ln_8_221 : mm_lk mm_tA 8 221 = none := by decide +kernel
theorem lh_8_221 : mm_lk mm_tH 8 221 = none := by decide +kernel
theorem lc_8_226 : mm_lk (mm_tC 8) 8 226 = some (2, 3, mX8_gainInAllOrders, [695, 697, 18, 45, 698]) := rfl
theorem lc_8_233 : mm_lk (mm_tC 8) 8 233 = some (0, 3, mX8_fraction, [701, 702, 45, 703]) := rfl
theorem ln_8_233 : mm_lk mm_tA 8 233 = none := by decide +kernel
theorem lh_8_233 : mm_lk mm_tH 8 233 = none := by decide +kernel
theorem lc_8_241 : mm_lk (mm_tC 8) 8 241 = some (2, 0, mX6_sumOfSpoken, [724, 725, 726, 50, 727]) := rfl
theorem lc_8_253 : mm_lk (mm_tC 8) 8 253 = some (0, 2, mX8_greatestDivisor, [707, 708, 45, 709]) := rfl
theorem ln_8_253 : mm_lk mm_tA 8 253 = none := by decide +kernel
theorem lh_8_253 : mm_lk mm_tH 8 253 = none := by decide +kernel
theorem lc_9_54 : mm_lk (mm_tC 9) 9 54 = some (2, 1, mX9_findLabels, [746, 748, 19, 54, 749]) := rfl
theorem lc_9_60 : mm_lk (mm_tC 9) 9 60 = some (0, 3, mX9_in, [778, 779, 54, 780]) := rfl
theorem ln_9_60 : mm_lk mm_tA 9 60 = none := by decide +kernel
theorem lh_9_60 : mm_lk mm_tH 9 60 = none := by decide +kernel
theorem lc_9_79 : mm_lk (mm_tC 9) 9 79 = some (0, 1, mX9_kindOf, [887, 888, 54, 889]) := rfl
theorem ln_9_79 : mm_lk mm_tA 9 79 = none := by decide +kernel
theorem lh_9_79 : mm_lk mm_tH 9 79 = none := by decide +kernel
theorem lc_9_83 : mm_lk (mm_tC 9) 9 83 = some (2, 2, mX9_readLine, [890, 892, 29, 54, 893]) := rfl
theorem lc_9_87 : mm_lk (mm_tC 9) 9 87 = some (0, 1, mX9_hasWay, [773, 774, 54, 775]) := rfl
theorem ln_9_87 : mm_lk mm_tA 9 87 = none := by decide +kernel
theorem lh_9_87 : mm_lk mm_tH 9 87 = none := by decide +kernel
theorem lc_9_91 : mm_lk (mm_tC 9) 9 91 = some (0, 1, mX9_hasThree, [789, 790, 54, 791]) := rfl
theorem ln_9_91 : mm_lk mm_tA 9 91 = none := by decide +kernel
theorem lh_9_91 : mm_lk mm_tH 9 91 = none := by decide +kernel
theorem lc_9_94 : mm_lk (mm_tC 9) 9 94 = some (2, 1, mX9_variableAt, [894, 896, 30, 54, 897]) := rfl
theorem lc_9_101 : mm_lk (mm_tC 9) 9 101 = some (2, 0, mX9_readText, [883, 885, 28, 54, 886]) := rfl
theorem lc_9_111 : mm_lk (mm_tC 9) 9 111 = some (2, 1, mX9_isLine, [910, 912, 31, 54, 913]) := rfl
theorem lc_9_114 : mm_lk (mm_tC 9) 9 114 = some (2, 3, mX9_at, [769, 771, 24, 54, 772]) := rfl
theorem lc_9_118 : mm_lk (mm_tC 9) 9 118 = some (0, 2, mX9_has, [762, 763, 54, 764]) := rfl
theorem ln_9_118 : mm_lk mm_tA 9 118 = none := by decide +kernel
theorem lh_9_118 : mm_lk mm_tH 9 118 = none := by decide +kernel
theorem lc_9_122 : mm_lk (mm_tC 9) 9 122 = some (2, 2, mX9_wayOf, [765, 767, 23, 54, 768]) := rfl
theorem lc_9_125 : mm_lk (mm_tC 9) 9 125 = some (2, 4, mX9_comes, [758, 760, 22, 54, 761]) := rfl
theorem lc_9_129 : mm_lk (mm_tC 9) 9 129 = some (2, 2, mX9_meetingOf, [754, 756, 21, 54, 757]) := rfl
theorem lc_9_135 : mm_lk (mm_tC 9) 9 135 = some (2, 2, mX9_looksAt, [781, 783, 25, 54, 784]) := rfl
theorem lc_9_138 : mm_lk (mm_tC 9) 9 138 = some (2, 2, mX9_findContext, [750, 752, 20, 54, 753]) := rfl
theorem lc_9_142 : mm_lk (mm_tC 9) 9 142 = some (2, 2, mX9_flow, [785, 787, 26, 54, 788]) := rfl
theorem lc_9_145 : mm_lk (mm_tC 9) 9 145 = some (2, 3, mX9_join, [792, 794, 27, 54, 795]) := rfl
theorem lc_9_149 : mm_lk (mm_tC 9) 9 149 = some (2, 1, mX9_isVariable, [918, 920, 32, 54, 921]) := rfl
theorem lc_9_152 : mm_lk (mm_tC 9) 9 152 = some (2, 1, mX9_wrongOn, [930, 932, 33, 54, 933]) := rfl
theorem lc_9_162 : mm_lk (mm_tC 9) 9 162 = some (2, 6, mX9_isTold, [938, 940, 34, 54, 941]) := rfl
theorem lc_9_166 : mm_lk (mm_tC 9) 9 166 = some (2, 0, mX9_keepAct, [944, 946, 35, 54, 947]) := rfl
theorem lc_9_178 : mm_lk (mm_tC 9) 9 178 = some (2, 2, mX9_stepBy, [968, 970, 37, 54, 971]) := rfl
theorem lc_9_181 : mm_lk (mm_tC 9) 9 181 = some (0, 3, mX9_areValues, [961, 962, 54, 963]) := rfl
theorem ln_9_181 : mm_lk mm_tA 9 181 = none := by decide +kernel
theorem lh_9_181 : mm_lk mm_tH 9 181 = none := by decide +kernel
theorem lc_9_185 : mm_lk (mm_tC 9) 9 185 = some (2, 4, mX9_runBy, [964, 966, 36, 54, 967]) := rfl
theorem lc_9_191 : mm_lk (mm_tC 9) 9 191 = some (2, 4, mX9_run, [989, 958, 959, 54, 960]) := rfl
theorem lc_9_195 : mm_lk (mm_tC 9) 9 195 = some (2, 2, mX9_tellAll, [980, 982, 38, 54, 983]) := rfl
theorem lc_9_198 : mm_lk (mm_tC 9) 9 198 = some (2, 3, mX9_firstUnlike, [985, 987, 39, 54, 988]) := rfl
theorem lc_9_201 : mm_lk (mm_tC 9) 9 201 = some (2, 2, mX9_worldsBy, [994, 996, 40, 54, 997]) := rfl
theorem lc_9_206 : mm_lk (mm_tC 9) 9 206 = some (0, 1, mX9_tenThousandTo, [1006, 1007, 54, 1008]) := rfl
theorem ln_9_206 : mm_lk mm_tA 9 206 = none := by decide +kernel
theorem lh_9_206 : mm_lk mm_tH 9 206 = none := by decide +kernel
theorem lc_9_210 : mm_lk (mm_tC 9) 9 210 = some (2, 4, mX9_tryThing, [1010, 1012, 41, 54, 1013]) := rfl
theorem lc_9_218 : mm_lk (mm_tC 9) 9 218 = some (2, 0, mX9_speakers, [1031, 1033, 42, 54, 1034]) := rfl
theorem lc_9_221 : mm_lk (mm_tC 9) 9 221 = some (0, 1, mX9_ones, [1035, 1036, 54, 1037]) := rfl
theorem ln_9_221 : mm_lk mm_tA 9 221 = none := by decide +kernel
theorem lh_9_221 : mm_lk mm_tH 9 221 = none := by decide +kernel
theorem lc_9_224 : mm_lk (mm_tC 9) 9 224 = some (0, 1, mX9_factorial, [1038, 1039, 54, 1040]) := rfl
theorem ln_9_224 : mm_lk mm_tA 9 224 = none := by decide +kernel
theorem lh_9_224 : mm_lk mm_tH 9 224 = none := by decide +kernel
theorem lc_9_227 : mm_lk (mm_tC 9) 9 227 = some (0, 2, mX9_common, [1041, 1042, 54, 1043]) := rfl
theorem ln_9_227 : mm_lk mm_tA 9 227 = none := by decide +kernel
theorem lh_9_227 : mm_lk mm_tH 9 227 = none := by decide +kernel
theorem lc_9_242 : mm_lk (mm_tC 9) 9 242 = some (2, 0, mX9_freed, [1072, 1074, 43, 54, 1075]) := rfl
theorem lc_10_9 : mm_lk (mm_tC 10) 10 9 = some (4, 0, mX8_init, [66, 67, 45, 68]) := rfl
theorem ln_10_9 : mm_lk mm_tO 10 9 = none := by decide +kernel
theorem lc_10_12 : mm_lk (mm_tC 10) 10 12 = some (4, 0, mX9_init, [742, 743, 54, 744]) := rfl
theorem ln_10_12 : mm_lk mm_tO 10 12 = none := by decide +kernel
theorem lc_10_13 : mm_lk (mm_tC 10) 10 13 = some (2, 1, mX8_write, [298, 299, 300, 45, 301]) := rfl
theorem lc_10_17 : mm_lk (mm_tC 10) 10 17 = some (2, 1, mX9_write, [870, 871, 872, 54, 873]) := rfl
theorem lc_10_18 : mm_lk (mm_tC 10) 10 18 = some (2, 0, mX8_wipe, [306, 307, 308, 45, 309]) := rfl
theorem lc_10_22 : mm_lk (mm_tC 10) 10 22 = some (2, 0, mX9_wipe, [875, 876, 877, 54, 878]) := rfl
theorem lc_10_23 : mm_lk (mm_tC 10) 10 23 = some (2, 0, mX8_fault, [310, 311, 312, 45, 313]) := rfl
theorem lc_10_26 : mm_lk (mm_tC 10) 10 26 = some (2, 0, mX9_fault, [879, 880, 881, 54, 882]) := rfl
theorem lc_10_27 : mm_lk (mm_tC 10) 10 27 = some (2, 0, mX8_program, [435, 436, 437, 45, 438]) := rfl
theorem lc_10_30 : mm_lk (mm_tC 10) 10 30 = some (2, 0, mX9_program, [902, 903, 904, 54, 905]) := rfl
theorem lc_10_31 : mm_lk (mm_tC 10) 10 31 = some (2, 2, mX8_line, [446, 447, 448, 45, 449]) := rfl
theorem lc_10_35 : mm_lk (mm_tC 10) 10 35 = some (2, 2, mX9_line, [906, 907, 908, 54, 909]) := rfl
theorem lc_10_36 : mm_lk (mm_tC 10) 10 36 = some (2, 6, mX8_tell, [455, 456, 457, 45, 458]) := rfl
theorem lc_10_40 : mm_lk (mm_tC 10) 10 40 = some (2, 6, mX9_tell, [934, 935, 936, 54, 937]) := rfl
theorem lc_10_41 : mm_lk (mm_tC 10) 10 41 = some (2, 2, mX8_relabel, [475, 476, 477, 45, 478]) := rfl
theorem lc_10_44 : mm_lk (mm_tC 10) 10 44 = some (2, 2, mX9_relabel, [948, 949, 950, 54, 951]) := rfl
theorem lc_10_45 : mm_lk (mm_tC 10) 10 45 = some (2, 0, mX8_undo, [483, 484, 485, 45, 486]) := rfl
theorem lc_10_48 : mm_lk (mm_tC 10) 10 48 = some (2, 0, mX9_undo, [953, 954, 955, 54, 956]) := rfl
theorem lc_10_49 : mm_lk (mm_tC 10) 10 49 = some (2, 2, mX8_label, [491, 492, 493, 45, 494]) := rfl
theorem lc_10_52 : mm_lk (mm_tC 10) 10 52 = some (2, 2, mX9_label, [914, 915, 916, 54, 917]) := rfl
theorem lc_10_53 : mm_lk (mm_tC 10) 10 53 = some (2, 2, mX8_context, [546, 547, 548, 45, 549]) := rfl
theorem lc_10_56 : mm_lk (mm_tC 10) 10 56 = some (2, 2, mX9_context, [922, 923, 924, 54, 925]) := rfl
theorem lc_10_57 : mm_lk (mm_tC 10) 10 57 = some (2, 0, mX8_wrong, [550, 551, 552, 45, 553]) := rfl
theorem lc_10_60 : mm_lk (mm_tC 10) 10 60 = some (2, 0, mX9_wrong, [926, 927, 928, 54, 929]) := rfl
theorem lc_10_61 : mm_lk (mm_tC 10) 10 61 = some (2, 4, mX8_run, [554, 555, 556, 45, 557]) := rfl
theorem lc_10_65 : mm_lk (mm_tC 10) 10 65 = some (2, 4, mX9_run, [957, 958, 959, 54, 960]) := rfl
theorem lc_10_66 : mm_lk (mm_tC 10) 10 66 = some (2, 4, mX8_ends, [583, 584, 585, 45, 586]) := rfl
theorem lc_10_69 : mm_lk (mm_tC 10) 10 69 = some (2, 4, mX9_ends, [972, 973, 974, 54, 975]) := rfl
theorem lc_10_70 : mm_lk (mm_tC 10) 10 70 = some (2, 1, mX8_leak, [587, 588, 589, 45, 590]) := rfl
theorem lc_10_73 : mm_lk (mm_tC 10) 10 73 = some (2, 1, mX9_leak, [976, 977, 978, 54, 979]) := rfl
theorem lc_10_74 : mm_lk (mm_tC 10) 10 74 = some (2, 1, mX8_worlds, [601, 602, 603, 45, 604]) := rfl
theorem lc_10_77 : mm_lk (mm_tC 10) 10 77 = some (2, 1, mX9_worlds, [990, 991, 992, 54, 993]) := rfl
theorem lc_10_78 : mm_lk (mm_tC 10) 10 78 = some (2, 3, mX8_alike, [623, 624, 625, 45, 626]) := rfl
theorem lc_10_82 : mm_lk (mm_tC 10) 10 82 = some (2, 3, mX9_alike, [998, 999, 1000, 54, 1001]) := rfl
theorem lc_10_85 : mm_lk (mm_tC 10) 10 85 = some (2, 2, mX8_judge, [631, 632, 633, 45, 634]) := rfl
theorem lc_10_89 : mm_lk (mm_tC 10) 10 89 = some (2, 2, mX9_judge, [1002, 1003, 1004, 54, 1005]) := rfl
theorem lc_10_90 : mm_lk (mm_tC 10) 10 90 = some (2, 4, mX8_hear, [659, 660, 661, 45, 662]) := rfl
theorem lc_10_93 : mm_lk (mm_tC 10) 10 93 = some (2, 4, mX9_hear, [1014, 1015, 1016, 54, 1017]) := rfl
theorem lc_10_94 : mm_lk (mm_tC 10) 10 94 = some (2, 0, mX8_unhear, [667, 668, 669, 45, 670]) := rfl
theorem lc_10_97 : mm_lk (mm_tC 10) 10 97 = some (2, 0, mX9_unhear, [1019, 1020, 1021, 54, 1022]) := rfl
theorem lc_10_98 : mm_lk (mm_tC 10) 10 98 = some (2, 1, mX8_secrets, [671, 672, 673, 45, 674]) := rfl
theorem lc_10_101 : mm_lk (mm_tC 10) 10 101 = some (2, 1, mX9_secrets, [1023, 1024, 1025, 54, 1026]) := rfl
theorem lc_10_102 : mm_lk (mm_tC 10) 10 102 = some (2, 3, mX8_share, [681, 682, 683, 45, 684]) := rfl
theorem lc_10_106 : mm_lk (mm_tC 10) 10 106 = some (2, 3, mX9_share, [1027, 1028, 1029, 54, 1030]) := rfl
theorem lc_10_107 : mm_lk (mm_tC 10) 10 107 = some (2, 2, mX8_muted, [710, 711, 712, 45, 713]) := rfl
theorem lc_10_111 : mm_lk (mm_tC 10) 10 111 = some (2, 2, mX9_muted, [1044, 1045, 1046, 54, 1047]) := rfl
theorem lc_10_112 : mm_lk (mm_tC 10) 10 112 = some (2, 1, mX8_seed, [714, 715, 716, 45, 717]) := rfl
theorem lc_10_116 : mm_lk (mm_tC 10) 10 116 = some (2, 1, mX9_seed, [1049, 1050, 1051, 54, 1052]) := rfl
theorem lc_10_117 : mm_lk (mm_tC 10) 10 117 = some (2, 1, mX8_drawn, [718, 719, 720, 45, 721]) := rfl
theorem lc_10_120 : mm_lk (mm_tC 10) 10 120 = some (2, 1, mX9_drawn, [1053, 1054, 1055, 54, 1056]) := rfl
theorem lc_10_121 : mm_lk (mm_tC 10) 10 121 = some (2, 1, mX8_keep, [728, 729, 730, 45, 731]) := rfl
theorem lc_10_124 : mm_lk (mm_tC 10) 10 124 = some (2, 1, mX9_keep, [1060, 1061, 1062, 54, 1063]) := rfl
theorem lc_10_125 : mm_lk (mm_tC 10) 10 125 = some (2, 1, mX8_again, [732, 733, 734, 45, 735]) := rfl
theorem lc_10_128 : mm_lk (mm_tC 10) 10 128 = some (2, 1, mX9_again, [1064, 1065, 1066, 54, 1067]) := rfl
theorem lc_10_129 : mm_lk (mm_tC 10) 10 129 = some (2, 1, mX8_count, [736, 737, 738, 45, 739]) := rfl
theorem lc_10_132 : mm_lk (mm_tC 10) 10 132 = some (2, 1, mX9_count, [1068, 1069, 1070, 54, 1071]) := rfl
theorem lc_11_335 : mm_lk (mm_tC 11) 11 335 = some (2, 0, mJ0_coder_7d493, [344, 345, 346, 55, 347]) := rfl
theorem lc_11_492 : mm_lk (mm_tC 11) 11 492 = some (2, 0, mJ0_isLatin1_aae02, [334, 335, 336, 55, 337]) := rfl
theorem lc_11_505 : mm_lk (mm_tC 11) 11 505 = some (2, 0, mJ0_length_8abf5, [340, 341, 342, 55, 343]) := rfl
theorem lc_11_633 : mm_lk (mm_tC 11) 11 633 = some (2, 2, mJ0_indexOf_7cf53, [330, 331, 332, 55, 333]) := rfl
theorem lc_11_637 : mm_lk (mm_tC 11) 11 637 = some (0, 4, mJ1_indexOf_4cfef, [348, 349, 56, 350]) := rfl
theorem ln_11_637 : mm_lk mm_tA 11 637 = none := by decide +kernel
theorem lh_11_637 : mm_lk mm_tH 11 637 = none := by decide +kernel
theorem lc_12_88 : mm_lk (mm_tC 12) 12 88 = some (0, 1, mJ1_canEncode_9a6ad, [351, 352, 56, 353]) := rfl
theorem ln_12_88 : mm_lk mm_tA 12 88 = none := by decide +kernel
theorem lh_12_88 : mm_lk mm_tH 12 88 = none := by decide +kernel
theorem lc_12_95 : mm_lk (mm_tC 12) 12 95 = some (0, 4, mJ1_indexOfChar_4cfef, [360, 361, 56, 362]) := rfl
theorem ln_12_95 : mm_lk mm_tA 12 95 = none := by decide +kernel
theorem lh_12_95 : mm_lk mm_tH 12 95 = none := by decide +kernel
theorem ln_6_57 : mm_lk mm_tA 6 57 = none := by decide +kernel
theorem lh_6_57 : mm_lk mm_tH 6 57 = some (0, 599) := by decide +kernel
theorem ln_7_41 : mm_lk mm_tA 7 41 = none := by decide +kernel
theorem lh_7_41 : mm_lk mm_tH 7 41 = some (0, 425) := by decide +kernel
theorem ln_8_248 : mm_lk mm_tA 8 248 = none := by decide +kernel
theorem lh_8_248 : mm_lk mm_tH 8 248 = some (2, 704) := by decide +kernel
theorem ln_12_38 : mm_lk mm_tA 12 38 = none := by decide +kernel
theorem lh_12_38 : mm_lk mm_tH 12 38 = some (1, 357) := by decide +kernel
theorem ln_12_92 : mm_lk mm_tA 12 92 = none := by decide +kernel
theorem lh_12_92 : mm_lk mm_tH 12 92 = some (0, 354) := by decide +kernel
theorem lo_0_3 : mm_lk mm_tO 0 3 = some 122 := by decide +kernel
theorem lo_1_3 : mm_lk mm_tO 1 3 = some 137 := by decide +kernel
theorem lo_2_3 : mm_lk mm_tO 2 3 = some 225 := by decide +kernel
theorem lo_3_3 : mm_lk mm_tO 3 3 = some 240 := by decide +kernel
theorem lo_4_3 : mm_lk mm_tO 4 3 = some 92 := by decide +kernel
theorem lo_5_3 : mm_lk mm_tO 5 3 = some 207 := by decide +kernel
theorem lo_6_3 : mm_lk mm_tO 6 3 = some 179 := by decide +kernel
theorem lo_7_3 : mm_lk mm_tO 7 3 = some 77 := by decide +kernel
theorem lo_8_3 : mm_lk mm_tO 8 3 = some 69 := by decide +kernel
theorem lo_9_1 : mm_lk mm_tO 9 1 = some 745 := by decide +kernel
theorem la_0_29 : mm_lk mm_tA 0 29 = some 473 := by decide +kernel
theorem la_1_89 : mm_lk mm_tA 1 89 = some 516 := by decide +kernel
theorem la_3_34 : mm_lk mm_tA 3 34 = some 643 := by decide +kernel
theorem la_4_28 : mm_lk mm_tA 4 28 = some 443 := by decide +kernel
theorem la_8_123 : mm_lk mm_tA 8 123 = some 474 := by decide +kernel
theorem lw_3_15 : mm_lk mm_tN 3 15 = some (1, [241, 133, 49]) := by decide +kernel
theorem lw_3_22 : mm_lk mm_tN 3 22 = some (5, [243, 203, 51]) := by decide +kernel
theorem lw_5_9 : mm_lk mm_tN 5 9 = some (6, [208, 175, 50]) := by decide +kernel
theorem lw_8_9 : mm_lk mm_tN 8 9 = some (7, [72, 73, 46]) := by decide +kernel
theorem lw_8_16 : mm_lk mm_tN 8 16 = some (4, [87, 88, 47]) := by decide +kernel
theorem lw_8_26 : mm_lk mm_tN 8 26 = some (0, [117, 118, 48]) := by decide +kernel
theorem lw_8_45 : mm_lk mm_tN 8 45 = some (1, [132, 133, 49]) := by decide +kernel
theorem lw_8_52 : mm_lk mm_tN 8 52 = some (6, [174, 175, 50]) := by decide +kernel
theorem lw_8_62 : mm_lk mm_tN 8 62 = some (5, [202, 203, 51]) := by decide +kernel
theorem lw_8_69 : mm_lk mm_tN 8 69 = some (2, [220, 221, 52]) := by decide +kernel
theorem lw_8_76 : mm_lk mm_tN 8 76 = some (3, [235, 236, 53]) := by decide +kernel
theorem lw_10_7 : mm_lk mm_tN 10 7 = some (8, [64, 65, 45]) := by decide +kernel
theorem lw_10_10 : mm_lk mm_tN 10 10 = some (9, [740, 741, 54]) := by decide +kernel
theorem lm_4_15 : mm_lk mm_tM 4 15 = some 93 := by decide +kernel
theorem lm_1_25 : mm_lk mm_tM 1 25 = some 138 := by decide +kernel
theorem lm_2_15 : mm_lk mm_tM 2 15 = some 226 := by decide +kernel
theorem lq_8_16 : mm_lk mm_tQ 8 16 = some 87 := by decide +kernel
