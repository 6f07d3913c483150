def KDL : List (Nat × Nat) := [(0, 5), (0, 3), (0, 2), (1, 12), (1, 12), (1, 12), (1, 12), (1, 12), (1, 96), (1, 96), (0, 1), (1, 12), (1, 12), (1, 144), (1, 4), (1, 12), (0, 0), (3, 6), (0, 3), (0, 2), (1, 12), (1, 12), (1, 12), (1, 12), (1, 12), (1, 96), (1, 96), (0, 1), (1, 12), (1, 12), (1, 144), (1, 4), (1, 12), (0, 3), (0, 2), (1, 12), (1, 12), (1, 12), (1, 12), (1, 12), (1, 96), (1, 96), (0, 1), (1, 12), (1, 12), (1, 144), (1, 4), (1, 12), (0, 3), (0, 2), (1, 12), (1, 12), (1, 12), (1, 12), (1, 12), (1, 96), (1, 96), (0, 1), (1, 12), (1, 12), (1, 144), (1, 4), (1, 12), (0, 3), (0, 2), (1, 12), (1, 12), (1, 12), (1, 12), (1, 12), (1, 96), (1, 96), (0, 1), (1, 12), (1, 12), (1, 144), (1, 4), (1, 12), (0, 3), (0, 2), (1, 12), (1, 12), (1, 12), (1, 12), (1, 12), (1, 96), (1, 96), (0, 1), (1, 12), (1, 12), (1, 144), (1, 4), (1, 12), (0, 3), (0, 2), (1, 12), (1, 12), (1, 12), (1, 12), (1, 12), (1, 96), (1, 96), (0, 1), (1, 12), (1, 12), (1, 144), (1, 4), (1, 12), (0, 4), (1, 60)]
def KD : KT := fun p => KDL.getD p (9, 0)
def RHL : List (List (Option Nat)) := [[some 1, some 16, some 108], [some 2, some 10, some 14, some 15], [none, none, some 3, some 4, some 5, some 6, some 7, some 8, some 9], [], [], [], [], [], [], [], [none, none, none, none, some 11, some 12, some 13], [], [], [], [], [], [some 17, none], [], [some 19, some 27, some 31, some 32], [none, none, some 20, some 21, some 22, some 23, some 24, some 25, some 26], [], [], [], [], [], [], [], [none, none, none, none, some 28, some 29, some 30], [], [], [], [], [], [some 34, some 42, some 46, some 47], [none, none, some 35, some 36, some 37, some 38, some 39, some 40, some 41], [], [], [], [], [], [], [], [none, none, none, none, some 43, some 44, some 45], [], [], [], [], [], [some 49, some 57, some 61, some 62], [none, none, some 50, some 51, some 52, some 53, some 54, some 55, some 56], [], [], [], [], [], [], [], [none, none, none, none, some 58, some 59, some 60], [], [], [], [], [], [some 64, some 72, some 76, some 77], [none, none, some 65, some 66, some 67, some 68, some 69, some 70, some 71], [], [], [], [], [], [], [], [none, none, none, none, some 73, some 74, some 75], [], [], [], [], [], [some 79, some 87, some 91, some 92], [none, none, some 80, some 81, some 82, some 83, some 84, some 85, some 86], [], [], [], [], [], [], [], [none, none, none, none, some 88, some 89, some 90], [], [], [], [], [], [some 94, some 102, some 106, some 107], [none, none, some 95, some 96, some 97, some 98, some 99, some 100, some 101], [], [], [], [], [], [], [], [none, none, none, none, some 103, some 104, some 105], [], [], [], [], [], [some 109, none], []]
def RHO (π : Nat → Option Nat) : RT := fun p k => if p = 17 then π k else (RHL.getD p []).getD k none
theorem KD_0 : KD 0 = (0, 5) := rfl
theorem KD_1 : KD 1 = (0, 3) := rfl
theorem KD_2 : KD 2 = (0, 2) := rfl
theorem KD_3 : KD 3 = (1, 12) := rfl
theorem KD_4 : KD 4 = (1, 12) := rfl
theorem KD_5 : KD 5 = (1, 12) := rfl
theorem KD_6 : KD 6 = (1, 12) := rfl
theorem KD_7 : KD 7 = (1, 12) := rfl
theorem KD_8 : KD 8 = (1, 96) := rfl
theorem KD_9 : KD 9 = (1, 96) := rfl
theorem KD_10 : KD 10 = (0, 1) := rfl
theorem KD_11 : KD 11 = (1, 12) := rfl
theorem KD_12 : KD 12 = (1, 12) := rfl
theorem KD_13 : KD 13 = (1, 144) := rfl
theorem KD_14 : KD 14 = (1, 4) := rfl
theorem KD_15 : KD 15 = (1, 12) := rfl
theorem KD_16 : KD 16 = (0, 0) := rfl
theorem KD_17 : KD 17 = (3, 6) := rfl
theorem KD_18 : KD 18 = (0, 3) := rfl
theorem KD_19 : KD 19 = (0, 2) := rfl
theorem KD_20 : KD 20 = (1, 12) := rfl
theorem KD_21 : KD 21 = (1, 12) := rfl
theorem KD_22 : KD 22 = (1, 12) := rfl
theorem KD_23 : KD 23 = (1, 12) := rfl
theorem KD_24 : KD 24 = (1, 12) := rfl
theorem KD_25 : KD 25 = (1, 96) := rfl
theorem KD_26 : KD 26 = (1, 96) := rfl
theorem KD_27 : KD 27 = (0, 1) := rfl
theorem KD_28 : KD 28 = (1, 12) := rfl
theorem KD_29 : KD 29 = (1, 12) := rfl
theorem KD_30 : KD 30 = (1, 144) := rfl
theorem KD_31 : KD 31 = (1, 4) := rfl
theorem KD_32 : KD 32 = (1, 12) := rfl
theorem KD_33 : KD 33 = (0, 3) := rfl
theorem KD_34 : KD 34 = (0, 2) := rfl
theorem KD_35 : KD 35 = (1, 12) := rfl
theorem KD_36 : KD 36 = (1, 12) := rfl
theorem KD_37 : KD 37 = (1, 12) := rfl
theorem KD_38 : KD 38 = (1, 12) := rfl
theorem KD_39 : KD 39 = (1, 12) := rfl
theorem KD_40 : KD 40 = (1, 96) := rfl
theorem KD_41 : KD 41 = (1, 96) := rfl
theorem KD_42 : KD 42 = (0, 1) := rfl
theorem KD_43 : KD 43 = (1, 12) := rfl
theorem KD_44 : KD 44 = (1, 12) := rfl
theorem KD_45 : KD 45 = (1, 144) := rfl
theorem KD_46 : KD 46 = (1, 4) := rfl
theorem KD_47 : KD 47 = (1, 12) := rfl
theorem KD_48 : KD 48 = (0, 3) := rfl
theorem KD_49 : KD 49 = (0, 2) := rfl
theorem KD_50 : KD 50 = (1, 12) := rfl
theorem KD_51 : KD 51 = (1, 12) := rfl
theorem KD_52 : KD 52 = (1, 12) := rfl
theorem KD_53 : KD 53 = (1, 12) := rfl
theorem KD_54 : KD 54 = (1, 12) := rfl
theorem KD_55 : KD 55 = (1, 96) := rfl
theorem KD_56 : KD 56 = (1, 96) := rfl
theorem KD_57 : KD 57 = (0, 1) := rfl
theorem KD_58 : KD 58 = (1, 12) := rfl
theorem KD_59 : KD 59 = (1, 12) := rfl
theorem KD_60 : KD 60 = (1, 144) := rfl
theorem KD_61 : KD 61 = (1, 4) := rfl
theorem KD_62 : KD 62 = (1, 12) := rfl
theorem KD_63 : KD 63 = (0, 3) := rfl
theorem KD_64 : KD 64 = (0, 2) := rfl
theorem KD_65 : KD 65 = (1, 12) := rfl
theorem KD_66 : KD 66 = (1, 12) := rfl
theorem KD_67 : KD 67 = (1, 12) := rfl
theorem KD_68 : KD 68 = (1, 12) := rfl
theorem KD_69 : KD 69 = (1, 12) := rfl
theorem KD_70 : KD 70 = (1, 96) := rfl
theorem KD_71 : KD 71 = (1, 96) := rfl
theorem KD_72 : KD 72 = (0, 1) := rfl
theorem KD_73 : KD 73 = (1, 12) := rfl
theorem KD_74 : KD 74 = (1, 12) := rfl
theorem KD_75 : KD 75 = (1, 144) := rfl
theorem KD_76 : KD 76 = (1, 4) := rfl
theorem KD_77 : KD 77 = (1, 12) := rfl
theorem KD_78 : KD 78 = (0, 3) := rfl
theorem KD_79 : KD 79 = (0, 2) := rfl
theorem KD_80 : KD 80 = (1, 12) := rfl
theorem KD_81 : KD 81 = (1, 12) := rfl
theorem KD_82 : KD 82 = (1, 12) := rfl
theorem KD_83 : KD 83 = (1, 12) := rfl
theorem KD_84 : KD 84 = (1, 12) := rfl
theorem KD_85 : KD 85 = (1, 96) := rfl
theorem KD_86 : KD 86 = (1, 96) := rfl
theorem KD_87 : KD 87 = (0, 1) := rfl
theorem KD_88 : KD 88 = (1, 12) := rfl
theorem KD_89 : KD 89 = (1, 12) := rfl
theorem KD_90 : KD 90 = (1, 144) := rfl
theorem KD_91 : KD 91 = (1, 4) := rfl
theorem KD_92 : KD 92 = (1, 12) := rfl
theorem KD_93 : KD 93 = (0, 3) := rfl
theorem KD_94 : KD 94 = (0, 2) := rfl
theorem KD_95 : KD 95 = (1, 12) := rfl
theorem KD_96 : KD 96 = (1, 12) := rfl
theorem KD_97 : KD 97 = (1, 12) := rfl
theorem KD_98 : KD 98 = (1, 12) := rfl
theorem KD_99 : KD 99 = (1, 12) := rfl
theorem KD_100 : KD 100 = (1, 96) := rfl
theorem KD_101 : KD 101 = (1, 96) := rfl
theorem KD_102 : KD 102 = (0, 1) := rfl
theorem KD_103 : KD 103 = (1, 12) := rfl
theorem KD_104 : KD 104 = (1, 12) := rfl
theorem KD_105 : KD 105 = (1, 144) := rfl
theorem KD_106 : KD 106 = (1, 4) := rfl
theorem KD_107 : KD 107 = (1, 12) := rfl
theorem KD_108 : KD 108 = (0, 4) := rfl
theorem KD_109 : KD 109 = (1, 60) := rfl
theorem RHO_0_0 (π : Nat → Option Nat) : RHO π 0 0 = some 1 := rfl
theorem RHO_0_1 (π : Nat → Option Nat) : RHO π 0 1 = some 16 := rfl
theorem RHO_0_2 (π : Nat → Option Nat) : RHO π 0 2 = some 108 := rfl
theorem RHO_1_0 (π : Nat → Option Nat) : RHO π 1 0 = some 2 := rfl
theorem RHO_1_1 (π : Nat → Option Nat) : RHO π 1 1 = some 10 := rfl
theorem RHO_1_2 (π : Nat → Option Nat) : RHO π 1 2 = some 14 := rfl
theorem RHO_1_3 (π : Nat → Option Nat) : RHO π 1 3 = some 15 := rfl
theorem RHO_2_2 (π : Nat → Option Nat) : RHO π 2 2 = some 3 := rfl
theorem RHO_2_3 (π : Nat → Option Nat) : RHO π 2 3 = some 4 := rfl
theorem RHO_2_4 (π : Nat → Option Nat) : RHO π 2 4 = some 5 := rfl
theorem RHO_2_5 (π : Nat → Option Nat) : RHO π 2 5 = some 6 := rfl
theorem RHO_2_6 (π : Nat → Option Nat) : RHO π 2 6 = some 7 := rfl
theorem RHO_2_7 (π : Nat → Option Nat) : RHO π 2 7 = some 8 := rfl
theorem RHO_2_8 (π : Nat → Option Nat) : RHO π 2 8 = some 9 := rfl
theorem RHO_10_4 (π : Nat → Option Nat) : RHO π 10 4 = some 11 := rfl
theorem RHO_10_5 (π : Nat → Option Nat) : RHO π 10 5 = some 12 := rfl
theorem RHO_10_6 (π : Nat → Option Nat) : RHO π 10 6 = some 13 := rfl
theorem RHO_16_0 (π : Nat → Option Nat) : RHO π 16 0 = some 17 := rfl
theorem RHO_18_0 (π : Nat → Option Nat) : RHO π 18 0 = some 19 := rfl
theorem RHO_18_1 (π : Nat → Option Nat) : RHO π 18 1 = some 27 := rfl
theorem RHO_18_2 (π : Nat → Option Nat) : RHO π 18 2 = some 31 := rfl
theorem RHO_18_3 (π : Nat → Option Nat) : RHO π 18 3 = some 32 := rfl
theorem RHO_19_2 (π : Nat → Option Nat) : RHO π 19 2 = some 20 := rfl
theorem RHO_19_3 (π : Nat → Option Nat) : RHO π 19 3 = some 21 := rfl
theorem RHO_19_4 (π : Nat → Option Nat) : RHO π 19 4 = some 22 := rfl
theorem RHO_19_5 (π : Nat → Option Nat) : RHO π 19 5 = some 23 := rfl
theorem RHO_19_6 (π : Nat → Option Nat) : RHO π 19 6 = some 24 := rfl
theorem RHO_19_7 (π : Nat → Option Nat) : RHO π 19 7 = some 25 := rfl
theorem RHO_19_8 (π : Nat → Option Nat) : RHO π 19 8 = some 26 := rfl
theorem RHO_27_4 (π : Nat → Option Nat) : RHO π 27 4 = some 28 := rfl
theorem RHO_27_5 (π : Nat → Option Nat) : RHO π 27 5 = some 29 := rfl
theorem RHO_27_6 (π : Nat → Option Nat) : RHO π 27 6 = some 30 := rfl
theorem RHO_33_0 (π : Nat → Option Nat) : RHO π 33 0 = some 34 := rfl
theorem RHO_33_1 (π : Nat → Option Nat) : RHO π 33 1 = some 42 := rfl
theorem RHO_33_2 (π : Nat → Option Nat) : RHO π 33 2 = some 46 := rfl
theorem RHO_33_3 (π : Nat → Option Nat) : RHO π 33 3 = some 47 := rfl
theorem RHO_34_2 (π : Nat → Option Nat) : RHO π 34 2 = some 35 := rfl
theorem RHO_34_3 (π : Nat → Option Nat) : RHO π 34 3 = some 36 := rfl
theorem RHO_34_4 (π : Nat → Option Nat) : RHO π 34 4 = some 37 := rfl
theorem RHO_34_5 (π : Nat → Option Nat) : RHO π 34 5 = some 38 := rfl
theorem RHO_34_6 (π : Nat → Option Nat) : RHO π 34 6 = some 39 := rfl
theorem RHO_34_7 (π : Nat → Option Nat) : RHO π 34 7 = some 40 := rfl
theorem RHO_34_8 (π : Nat → Option Nat) : RHO π 34 8 = some 41 := rfl
theorem RHO_42_4 (π : Nat → Option Nat) : RHO π 42 4 = some 43 := rfl
theorem RHO_42_5 (π : Nat → Option Nat) : RHO π 42 5 = some 44 := rfl
theorem RHO_42_6 (π : Nat → Option Nat) : RHO π 42 6 = some 45 := rfl
theorem RHO_48_0 (π : Nat → Option Nat) : RHO π 48 0 = some 49 := rfl
theorem RHO_48_1 (π : Nat → Option Nat) : RHO π 48 1 = some 57 := rfl
theorem RHO_48_2 (π : Nat → Option Nat) : RHO π 48 2 = some 61 := rfl
theorem RHO_48_3 (π : Nat → Option Nat) : RHO π 48 3 = some 62 := rfl
theorem RHO_49_2 (π : Nat → Option Nat) : RHO π 49 2 = some 50 := rfl
theorem RHO_49_3 (π : Nat → Option Nat) : RHO π 49 3 = some 51 := rfl
theorem RHO_49_4 (π : Nat → Option Nat) : RHO π 49 4 = some 52 := rfl
theorem RHO_49_5 (π : Nat → Option Nat) : RHO π 49 5 = some 53 := rfl
theorem RHO_49_6 (π : Nat → Option Nat) : RHO π 49 6 = some 54 := rfl
theorem RHO_49_7 (π : Nat → Option Nat) : RHO π 49 7 = some 55 := rfl
theorem RHO_49_8 (π : Nat → Option Nat) : RHO π 49 8 = some 56 := rfl
theorem RHO_57_4 (π : Nat → Option Nat) : RHO π 57 4 = some 58 := rfl
theorem RHO_57_5 (π : Nat → Option Nat) : RHO π 57 5 = some 59 := rfl
theorem RHO_57_6 (π : Nat → Option Nat) : RHO π 57 6 = some 60 := rfl
theorem RHO_63_0 (π : Nat → Option Nat) : RHO π 63 0 = some 64 := rfl
theorem RHO_63_1 (π : Nat → Option Nat) : RHO π 63 1 = some 72 := rfl
theorem RHO_63_2 (π : Nat → Option Nat) : RHO π 63 2 = some 76 := rfl
theorem RHO_63_3 (π : Nat → Option Nat) : RHO π 63 3 = some 77 := rfl
theorem RHO_64_2 (π : Nat → Option Nat) : RHO π 64 2 = some 65 := rfl
theorem RHO_64_3 (π : Nat → Option Nat) : RHO π 64 3 = some 66 := rfl
theorem RHO_64_4 (π : Nat → Option Nat) : RHO π 64 4 = some 67 := rfl
theorem RHO_64_5 (π : Nat → Option Nat) : RHO π 64 5 = some 68 := rfl
theorem RHO_64_6 (π : Nat → Option Nat) : RHO π 64 6 = some 69 := rfl
theorem RHO_64_7 (π : Nat → Option Nat) : RHO π 64 7 = some 70 := rfl
theorem RHO_64_8 (π : Nat → Option Nat) : RHO π 64 8 = some 71 := rfl
theorem RHO_72_4 (π : Nat → Option Nat) : RHO π 72 4 = some 73 := rfl
theorem RHO_72_5 (π : Nat → Option Nat) : RHO π 72 5 = some 74 := rfl
theorem RHO_72_6 (π : Nat → Option Nat) : RHO π 72 6 = some 75 := rfl
theorem RHO_78_0 (π : Nat → Option Nat) : RHO π 78 0 = some 79 := rfl
theorem RHO_78_1 (π : Nat → Option Nat) : RHO π 78 1 = some 87 := rfl
theorem RHO_78_2 (π : Nat → Option Nat) : RHO π 78 2 = some 91 := rfl
theorem RHO_78_3 (π : Nat → Option Nat) : RHO π 78 3 = some 92 := rfl
theorem RHO_79_2 (π : Nat → Option Nat) : RHO π 79 2 = some 80 := rfl
theorem RHO_79_3 (π : Nat → Option Nat) : RHO π 79 3 = some 81 := rfl
theorem RHO_79_4 (π : Nat → Option Nat) : RHO π 79 4 = some 82 := rfl
theorem RHO_79_5 (π : Nat → Option Nat) : RHO π 79 5 = some 83 := rfl
theorem RHO_79_6 (π : Nat → Option Nat) : RHO π 79 6 = some 84 := rfl
theorem RHO_79_7 (π : Nat → Option Nat) : RHO π 79 7 = some 85 := rfl
theorem RHO_79_8 (π : Nat → Option Nat) : RHO π 79 8 = some 86 := rfl
theorem RHO_87_4 (π : Nat → Option Nat) : RHO π 87 4 = some 88 := rfl
theorem RHO_87_5 (π : Nat → Option Nat) : RHO π 87 5 = some 89 := rfl
theorem RHO_87_6 (π : Nat → Option Nat) : RHO π 87 6 = some 90 := rfl
theorem RHO_93_0 (π : Nat → Option Nat) : RHO π 93 0 = some 94 := rfl
theorem RHO_93_1 (π : Nat → Option Nat) : RHO π 93 1 = some 102 := rfl
theorem RHO_93_2 (π : Nat → Option Nat) : RHO π 93 2 = some 106 := rfl
theorem RHO_93_3 (π : Nat → Option Nat) : RHO π 93 3 = some 107 := rfl
theorem RHO_94_2 (π : Nat → Option Nat) : RHO π 94 2 = some 95 := rfl
theorem RHO_94_3 (π : Nat → Option Nat) : RHO π 94 3 = some 96 := rfl
theorem RHO_94_4 (π : Nat → Option Nat) : RHO π 94 4 = some 97 := rfl
theorem RHO_94_5 (π : Nat → Option Nat) : RHO π 94 5 = some 98 := rfl
theorem RHO_94_6 (π : Nat → Option Nat) : RHO π 94 6 = some 99 := rfl
theorem RHO_94_7 (π : Nat → Option Nat) : RHO π 94 7 = some 100 := rfl
theorem RHO_94_8 (π : Nat → Option Nat) : RHO π 94 8 = some 101 := rfl
theorem RHO_102_4 (π : Nat → Option Nat) : RHO π 102 4 = some 103 := rfl
theorem RHO_102_5 (π : Nat → Option Nat) : RHO π 102 5 = some 104 := rfl
theorem RHO_102_6 (π : Nat → Option Nat) : RHO π 102 6 = some 105 := rfl
theorem RHO_108_0 (π : Nat → Option Nat) : RHO π 108 0 = some 109 := rfl
theorem RHO_17 (π : Nat → Option Nat) (k : Nat) : RHO π 17 k = π k := rfl
set_option maxRecDepth 20000 in
theorem qmin_X5_333 : Cond.methodLink "ShapedRows" 333 Lib.Math.min.name ∈ TBg ∧ Cond.static Lib.Math.min.name ∈ TBg ∧ Cond.initialized "java/lang/Math" ∈ TBg ∧ Cond.code Lib.Math.min.name Lib.Math.min.code 2 (some .int) ∈ TBg := ⟨(tb_in 262 (by decide +kernel) rfl), (tb_in 263 (by decide +kernel) rfl), (tb_in 32 (by decide +kernel) rfl), (tb_in 264 (by decide +kernel) rfl)⟩
set_option maxRecDepth 20000 in
theorem qcopy_X5_338 : Cond.methodLink "ShapedRows" 338 arraycopyName ∈ TBg ∧ Cond.native arraycopyName ∈ TBg ∧ Cond.static arraycopyName ∈ TBg ∧ Cond.initialized "java/lang/System" ∈ TBg := ⟨(tb_in 265 (by decide +kernel) rfl), (tb_in 267 (by decide +kernel) rfl), (tb_in 266 (by decide +kernel) rfl), (tb_in 35 (by decide +kernel) rfl)⟩
set_option maxRecDepth 20000 in
theorem qmin_X3_100 : Cond.methodLink "ShapedRows$State" 100 Lib.Math.min.name ∈ TBg ∧ Cond.static Lib.Math.min.name ∈ TBg ∧ Cond.initialized "java/lang/Math" ∈ TBg ∧ Cond.code Lib.Math.min.name Lib.Math.min.code 2 (some .int) ∈ TBg := ⟨(tb_in 352 (by decide +kernel) rfl), (tb_in 263 (by decide +kernel) rfl), (tb_in 32 (by decide +kernel) rfl), (tb_in 264 (by decide +kernel) rfl)⟩
set_option maxRecDepth 20000 in
theorem ql_X5_248 : Jvm.Cond.constantLong "ShapedRows" 248 2699 ∈ TBg := (tb_in 362 (by decide +kernel) rfl)
set_option maxRecDepth 20000 in
theorem ql_X5_324 : Jvm.Cond.constantLong "ShapedRows" 324 31 ∈ TBg := (tb_in 366 (by decide +kernel) rfl)
set_option maxRecDepth 20000 in
theorem qc_X2_96 : Jvm.Cond.constant "ShapedRows$Shapes" 96 99999 ∈ TBg := (tb_in 446 (by decide +kernel) rfl)
set_option maxRecDepth 20000 in
theorem qmin_X2_97 : Cond.methodLink "ShapedRows$Shapes" 97 Lib.Math.min.name ∈ TBg ∧ Cond.static Lib.Math.min.name ∈ TBg ∧ Cond.initialized "java/lang/Math" ∈ TBg ∧ Cond.code Lib.Math.min.name Lib.Math.min.code 2 (some .int) ∈ TBg := ⟨(tb_in 447 (by decide +kernel) rfl), (tb_in 263 (by decide +kernel) rfl), (tb_in 32 (by decide +kernel) rfl), (tb_in 264 (by decide +kernel) rfl)⟩
set_option maxRecDepth 20000 in
theorem ql_X5_326 : Jvm.Cond.constantLong "ShapedRows" 326 1023 ∈ TBg := (tb_in 500 (by decide +kernel) rfl)
set_option maxRecDepth 20000 in
theorem qc_X5_332 : Jvm.Cond.constant "ShapedRows" 332 99999 ∈ TBg := (tb_in 750 (by decide +kernel) rfl)
/-! more rows: switches, masks, division, natives, returns; the memory of the run proper -/
abbrev CM (l : Launch) (G : GG) (X : MI) (d : Nat) (as : List Value) (π : Nat → Option Nat) (σ τ : ST) (v : Option Value) (σ' τ' : ST) : Prop := Ct l G X (d, 0, 0) as 110 KD σ τ (RHO π) (KQ v 110 KD σ' τ' (RHO π))
def orI (a b : Int) : Int := (iI a ||| iI b).toInt
def shlI (a b : Int) : Int := (iI a <<< (iI b &&& 31)).toInt
theorem inR_orI (a b : Int) : inR (orI a b) := inR_of _
theorem inR_shlI (a b : Int) : inR (shlI a b) := inR_of _
section Rows2
variable {l : Launch} {G : GG} {own : String} {X : MI} {dm : Nat × Nat × Nat} {K : KK} {KE : KX} {n0 pc : Nat} {L : List (Option Value)} {S : List Value} {n : Nat} {kd : KT} {σ τ : ST} {ρ : RT} {ce sl : Nat}
theorem r_ior {a b : Int} (hd : decode X.2.1 pc = .ok (.ior, 1)) (k : WP l G own X dm K KE n0 (pc + 1) L (.int (iI (orI a b)) :: S) n kd σ τ ρ ce sl) : WP l G own X dm K KE n0 pc L (.int (iI b) :: .int (iI a) :: S) n kd σ τ ρ ce sl :=
  r_pure (fun ad p e R s m args below meth c H locs ls Z hx hb hL hown hts kk => lv_ior hx hb hd (by
    have e1 : iI a ||| iI b = iI (orI a b) := (iI_of _).symm
    rw [e1]; exact kk)) k
theorem r_ishl {a b : Int} (hd : decode X.2.1 pc = .ok (.ishl, 1)) (k : WP l G own X dm K KE n0 (pc + 1) L (.int (iI (shlI a b)) :: S) n kd σ τ ρ ce sl) : WP l G own X dm K KE n0 pc L (.int (iI b) :: .int (iI a) :: S) n kd σ τ ρ ce sl :=
  r_pure (fun ad p e R s m args below meth c H locs ls Z hx hb hL hown hts kk => lv_ishl hx hb hd (by
    have e1 : iI a <<< (iI b &&& 31) = iI (shlI a b) := (iI_of _).symm
    rw [e1]; exact kk)) k
theorem r_idiv {a b : Int} {m d : Nat} (hd : decode X.2.1 pc = .ok (.idiv, 1)) (ha : a = (m : Int)) (hb2 : b = (d : Int)) (h1 : m < 2147483648) (h0 : 0 < d) (h2 : d < 2147483648) (k : WP l G own X dm K KE n0 (pc + 1) L (.int (iI ((m / d : Nat) : Int)) :: S) n kd σ τ ρ ce sl) : WP l G own X dm K KE n0 pc L (.int (iI b) :: .int (iI a) :: S) n kd σ τ ρ ce sl := by
  subst ha; subst hb2
  refine r_pure (fun ad p e R s m9 args below meth c H locs ls Z hx hb hL hown hts kk => lv_idiv hx hb hd ?_ ?_) k
  · rw [iI_eq0 (inR_nat h2)]; omega
  · rw [iI_nI, iI_nI, pk_div (by omega) h0 (by omega), ← iI_nI]; exact kk
theorem r_irem {a b : Int} {m d : Nat} (hd : decode X.2.1 pc = .ok (.irem, 1)) (ha : a = (m : Int)) (hb2 : b = (d : Int)) (h1 : m < 2147483648) (h0 : 0 < d) (h2 : d < 2147483648) (k : WP l G own X dm K KE n0 (pc + 1) L (.int (iI ((m % d : Nat) : Int)) :: S) n kd σ τ ρ ce sl) : WP l G own X dm K KE n0 pc L (.int (iI b) :: .int (iI a) :: S) n kd σ τ ρ ce sl := by
  subst ha; subst hb2
  refine r_pure (fun ad p e R s m9 args below meth c H locs ls Z hx hb hL hown hts kk => lv_irem hx hb hd ?_ ?_) k
  · rw [iI_eq0 (inR_nat h2)]; omega
  · rw [iI_nI, iI_nI, pk_rem (by omega) h0 (by omega), ← iI_nI]; exact kk
theorem r_tsw {dflt lo hi a off : Int} {offs : Array Int} {len tgt : Nat} (hd : decode X.2.1 pc = .ok (.tableswitch dflt lo hi offs, len)) (ha : inR a) (h1 : lo ≤ a) (h2 : a ≤ hi) (ho : offs[(a - lo).toNat]? = some off) (ht : (pc : Int) + off = (tgt : Int)) (k : WP l G own X dm K KE n0 tgt L S n kd σ τ ρ ce sl) : WP l G own X dm K KE n0 pc L (.int (iI a) :: S) n kd σ τ ρ ce sl :=
  r_pure (fun ad p e R s m args below meth c H locs ls Z hx hb hL hown hts kk => lv_tableIn hx hb hd (by rw [iI_toInt ha]; omega) (by rw [iI_toInt ha]; omega) (by rw [iI_toInt ha]; exact ho) ht kk) k
theorem r_tsd {dflt lo hi a : Int} {offs : Array Int} {len tgt : Nat} (hd : decode X.2.1 pc = .ok (.tableswitch dflt lo hi offs, len)) (ha : inR a) (h : a < lo ∨ hi < a) (ht : (pc : Int) + dflt = (tgt : Int)) (k : WP l G own X dm K KE n0 tgt L S n kd σ τ ρ ce sl) : WP l G own X dm K KE n0 pc L (.int (iI a) :: S) n kd σ τ ρ ce sl :=
  r_pure (fun ad p e R s m args below meth c H locs ls Z hx hb hL hown hts kk => lv_tableOut hx hb hd (by rw [iI_toInt ha]; exact h) ht kk) k
theorem r_lsw {dflt a off : Int} {ps : Array (Int × Int)} {len tgt : Nat} (hd : decode X.2.1 pc = .ok (.lookupswitch dflt ps, len)) (ha : inR a) (hp : (ps.toList.zip (ps.toList.drop 1)).all (fun (a, next) => a.1 < next.1) = true) (ho : Op.lookupswitch.offset ps.toList dflt a = off) (ht : (pc : Int) + off = (tgt : Int)) (k : WP l G own X dm K KE n0 tgt L S n kd σ τ ρ ce sl) : WP l G own X dm K KE n0 pc L (.int (iI a) :: S) n kd σ τ ρ ce sl :=
  r_pure (fun ad p e R s m args below meth c H locs ls Z hx hb hL hown hts kk => lv_lookup hx hb hd hp (by rw [iI_toInt ha]; exact ho) ht kk) k
theorem r_lcmp_e {a b : Int} (hd : decode X.2.1 pc = .ok (.lcmp, 1)) (h : jJ a = jJ b) (k : WP l G own X dm K KE n0 (pc + 1) L (.int (iI 0) :: S) n kd σ τ ρ ce sl) : WP l G own X dm K KE n0 pc L (.long (jJ b) :: .long (jJ a) :: S) n kd σ τ ρ ce sl :=
  r_pure (fun ad p e R s m args below meth c H locs ls Z hx hb hL hown hts kk => W.lcmp hx hb hd (by
    have e1 : lg_cmp (jJ a) (jJ b) = iI 0 := by
      unfold lg_cmp
      rw [h, if_neg (by simp), if_pos rfl]; rfl
    rw [e1]; exact kk)) k
theorem r_ifnull {q : Nat} {off : Int} (hd : decode X.2.1 pc = .ok (.ifnull off, 3)) (k : WP l G own X dm K KE n0 (pc + 3) L S n kd σ τ ρ ce sl) : WP l G own X dm K KE n0 pc L (.ref q :: S) n kd σ τ ρ ce sl :=
  r_pure (fun ad p e R s m args below meth c H locs ls Z hx hb hL hown hts kk => lv_ifnull hx hb hd kk) k
theorem r_ldc {idx : Nat} {v : Int32} {a : Int} (hc : Jvm.Cond.constant own idx v ∈ TBg) (hv : v = iI a) (hd : decode X.2.1 pc = .ok (.ldc idx, 2)) (k : WP l G own X dm K KE n0 (pc + 2) L (.int (iI a) :: S) n kd σ τ ρ ce sl) : WP l G own X dm K KE n0 pc L S n kd σ τ ρ ce sl := by
  subst hv
  exact r_pure (fun ad p e R s m args below meth c H locs ls Z hx hb hL hown hts kk => lv_ldc hx hb hown (hts _ hc) hd kk) k
theorem r_ldc2 {idx : Nat} {v : Int64} {a : Int} (hc : Jvm.Cond.constantLong own idx v ∈ TBg) (hv : v = jJ a) (hd : decode X.2.1 pc = .ok (.ldc2_w idx, 3)) (k : WP l G own X dm K KE n0 (pc + 3) L (.long (jJ a) :: S) n kd σ τ ρ ce sl) : WP l G own X dm K KE n0 pc L S n kd σ τ ρ ce sl := by
  subst hv
  exact r_pure (fun ad p e R s m args below meth c H locs ls Z hx hb hL hown hts kk => lv_ldc2 hx hb hown (hts _ hc) hd kk) k
theorem sum_tr {ad : Nat → Nat} {S : List Value} : ((S.map (trv ad)).map (fun v => v.category)).sum = (S.map (fun v => v.category)).sum := by
  rw [List.map_map]
  have e : (fun v : Value => v.category) ∘ trv ad = fun v => v.category := funext fun v => trv_cat ad v
  rw [e]
theorem r_min {idx : Nat} {a b : Int} (hw : Cond.methodLink own idx Lib.Math.min.name ∈ TBg ∧ Cond.static Lib.Math.min.name ∈ TBg ∧ Cond.initialized "java/lang/Math" ∈ TBg ∧ Cond.code Lib.Math.min.name Lib.Math.min.code 2 (some .int) ∈ TBg) (hd : decode X.2.1 pc = .ok (.invokestatic idx, 3)) (ha : inR a) (hb2 : inR b) (hdm : 1 ≤ dm.1) (hrest : (S.map (fun v => v.category)).sum ≤ 8) (hcs : ce ≤ dm.2.1 ∧ sl ≤ dm.2.2) (k : WP l G own X dm K KE n0 (pc + 3) L (.int (iI (if b < a then b else a)) :: S) n kd σ τ ρ ce sl) : WP l G own X dm K KE n0 pc L (.int (iI b) :: .int (iI a) :: S) n kd σ τ ρ ce sl := by
  intro ad0 ad p9 e R s m args below meth c H locs ls Z C hag hH hS hL
  obtain ⟨hx, hb, hml, hown, hts, hlk, henv, hR, -⟩ := id C
  have h1 := hrest
  refine va_mmin hx hb (hml.trans hL.1.symm) hown (hts _ hw.1) (hts _ hw.2.1) (hts _ hw.2.2.1) (hts _ hw.2.2.2) (Nat.le_trans hdm hR.1) (by rw [sum_tr]; exact Nat.le_trans (by omega) hR.2.1) (Nat.le_trans hcs.1 hR.2.2.1) (Nat.le_trans hcs.2 hR.2.2.2) hd ?_
  have e1 : (if iI b < iI a then iI b else iI a) = iI (if b < a then b else a) := by
    by_cases h : b < a
    · rw [if_pos h, if_pos ((iI_lt hb2 ha).mpr h)]
    · rw [if_neg h, if_neg (fun z => h ((iI_lt hb2 ha).mp z))]
  rw [e1]
  exact k ad0 ad p9 e R s m args below meth c H locs ls Z C hag hH hS hL
def cpI (σ : ST) (q p n : Nat) : ST := fun a b => if a = p ∧ b < n then σ q b else σ a b
/-- System.arraycopy(q, 0, p, 0, len) -/
theorem r_copy {idx q p lq lp m : Nat} {z1 z2 a : Int} (hw : Cond.methodLink own idx arraycopyName ∈ TBg ∧ Cond.native arraycopyName ∈ TBg ∧ Cond.static arraycopyName ∈ TBg ∧ Cond.initialized "java/lang/System" ∈ TBg) (hd : decode X.2.1 pc = .ok (.invokestatic idx, 3)) (hkq : kd q = (1, lq)) (hkp : kd p = (1, lp)) (hz1 : z1 = 0) (hz2 : z2 = 0) (ha : a = (m : Int)) (hmq : m ≤ lq) (hmp : m ≤ lp) (hm : m < 2147483648) (hdm : 2 ≤ dm.1) (k : WP l G own X dm K KE n0 (pc + 3) L [] n kd (cpI σ q p m) τ ρ ce sl) : WP l G own X dm K KE n0 pc L [.int (iI a), .int (iI z2), .ref p, .int (iI z1), .ref q] n kd σ τ ρ ce sl := by
  subst hz1; subst hz2; subst ha
  intro ad0 ad p9 e R s m9 args below meth c H locs ls Z C hag hH hS hL
  obtain ⟨hx, hb, hml, hown, hts, hlk, henv, hR, -⟩ := id C
  obtain ⟨hp, he⟩ := hH.ints hkp
  obtain ⟨hq, hqe⟩ := hH.ints hkq
  have c0 : (iI 0).toNatClampNeg = 0 := by decide
  have cm : (iI (m : Int)).toNatClampNeg = m := iI_clamp hm
  refine va_copyi hx hb (hml.trans hL.1.symm) hown (hts _ hw.1) (hts _ hw.2.1) (hts _ hw.2.2.1) (hts _ hw.2.2.2) henv.1 hH.1 hH.2.1 hS q p 0 0 hqe he rfl rfl rfl (by decide) (by decide) (by rw [iI_lt0 (inR_nat hm)]; omega) (by rw [c0, cm]; omega) (by rw [c0, cm]; omega) (fun i _ => rfl) (Nat.le_trans (by omega) hR.1) (Nat.le_trans (Nat.le_trans (show ((List.map (fun v : Value => v.category) (List.map (trv ad) [])).sum + (nativeFrameWords "java/lang/System" "arraycopy" 5 + 11)) ≤ 74 by rw [List.map_nil, List.map_nil]; decide) (show 74 ≤ 37 * dm.1 by omega)) hR.2.1) hd (fun H1 locs1 hP hD hS1 => ?_)
  rw [c0, cm] at hP hD
  have e1 : (wl G ad n kd σ τ ρ).set p (ad p, .inl (G.2.2.1, lp, .inl (va_cpy (fun j => iI (σ q j)) (fun j => iI (σ p j)) 0 0 m))) = wl G ad n kd (cpI σ q p m) τ ρ := by
    rw [← wl_set (σ' := cpI σ q p m) (τ' := τ) (ρ' := ρ) hp (fun j hj => ⟨by funext b; unfold cpI; rw [if_neg (fun z => hj z.1)], rfl, rfl⟩), hkp]
    show _ = (wl G ad n kd σ τ ρ).set p (ad p, .inl (G.2.2.1, lp, .inl (fun j => iI (cpI σ q p m p j))))
    have e2 : va_cpy (fun j => iI (σ q j)) (fun j => iI (σ p j)) 0 0 m = fun j => iI (cpI σ q p m p j) := by
      funext j
      unfold va_cpy cpI
      by_cases h : j < m <;> simp [h]
    rw [e2]
  rw [e1] at hP hD
  exact k ad0 ad p9 e R s m9 args below meth c H1 locs1 ls Z C hag ⟨hP, hD, hH.2.2.1, hH.2.2.2.1, Nat.le_trans henv.2.2.2.2.2.2.2 hS1.1⟩ hS1 hL
theorem r_ret_i {e r : Int} {n' : Nat} {kd' : KT} {σ' τ' : ST} {ρ' : RT} (hd : decode X.2.1 pc = .ok (.ireturn, 1)) (hty : X.2.2.2 = some .int) (hcs : ce ≤ dm.2.1 ∧ sl ≤ dm.2.2) (he : e = r) (hm : n = n' ∧ kd = kd' ∧ σ = σ' ∧ τ = τ' ∧ ρ = ρ') : WP l G own X dm (KQ (some (.int (iI r))) n' kd' σ' τ' ρ') KE n0 pc L [.int (iI e)] n kd σ τ ρ ce sl :=
  r_ret (v := some (.int (iI e))) ⟨by rw [he], hm.1, hm.2.1, hm.2.2.1, hm.2.2.2.1, hm.2.2.2.2⟩ (fun w h => by cases h; rfl) hcs (Or.inl ⟨_, rfl, rfl, hd, _, hty, rfl⟩)
theorem r_ret_z {e r : Int} {n' : Nat} {kd' : KT} {σ' τ' : ST} {ρ' : RT} (hd : decode X.2.1 pc = .ok (.ireturn, 1)) (hty : X.2.2.2 = some .boolean) (hcs : ce ≤ dm.2.1 ∧ sl ≤ dm.2.2) (h01 : e = 0 ∨ e = 1) (he : e = r) (hm : n = n' ∧ kd = kd' ∧ σ = σ' ∧ τ = τ' ∧ ρ = ρ') : WP l G own X dm (KQ (some (.int (iI r))) n' kd' σ' τ' ρ') KE n0 pc L [.int (iI e)] n kd σ τ ρ ce sl :=
  r_ret (v := some (.int (iI e))) ⟨by rw [he], hm.1, hm.2.1, hm.2.2.1, hm.2.2.2.1, hm.2.2.2.2⟩ (fun w h => by cases h; rfl) hcs (Or.inl ⟨_, rfl, rfl, hd, _, hty, by rcases h01 with rfl | rfl <;> decide⟩)
theorem r_ret_l {e r : Int} {n' : Nat} {kd' : KT} {σ' τ' : ST} {ρ' : RT} (hd : decode X.2.1 pc = .ok (.lreturn, 1)) (hty : X.2.2.2 = some .long) (hcs : ce ≤ dm.2.1 ∧ sl ≤ dm.2.2) (he : jJ e = jJ r) (hm : n = n' ∧ kd = kd' ∧ σ = σ' ∧ τ = τ' ∧ ρ = ρ') : WP l G own X dm (KQ (some (.long (jJ r))) n' kd' σ' τ' ρ') KE n0 pc L [.long (jJ e)] n kd σ τ ρ ce sl :=
  r_ret (v := some (.long (jJ e))) ⟨by rw [he], hm.1, hm.2.1, hm.2.2.1, hm.2.2.2.1, hm.2.2.2.2⟩ (fun w h => by cases h; rfl) hcs (Or.inr (Or.inl ⟨_, rfl, rfl, hd, hty⟩))
theorem r_ret_d {e r : UInt64} {n' : Nat} {kd' : KT} {σ' τ' : ST} {ρ' : RT} (hd : decode X.2.1 pc = .ok (.dreturn, 1)) (hty : X.2.2.2 = some .double) (hcs : ce ≤ dm.2.1 ∧ sl ≤ dm.2.2) (he : e = r) (hm : n = n' ∧ kd = kd' ∧ σ = σ' ∧ τ = τ' ∧ ρ = ρ') : WP l G own X dm (KQ (some (.double r)) n' kd' σ' τ' ρ') KE n0 pc L [.double e] n kd σ τ ρ ce sl :=
  r_ret (v := some (.double e)) ⟨by rw [he], hm.1, hm.2.1, hm.2.2.1, hm.2.2.2.1, hm.2.2.2.2⟩ (fun w h => by cases h; rfl) hcs (Or.inr (Or.inr (Or.inl ⟨_, rfl, rfl, hd, hty⟩)))
theorem r_ret_v {n' : Nat} {kd' : KT} {σ' τ' : ST} {ρ' : RT} (hd : decode X.2.1 pc = .ok (.return_, 1)) (hty : X.2.2.2 = none) (hcs : ce ≤ dm.2.1 ∧ sl ≤ dm.2.2) (hm : n = n' ∧ kd = kd' ∧ σ = σ' ∧ τ = τ' ∧ ρ = ρ') : WP l G own X dm (KQ none n' kd' σ' τ' ρ') KE n0 pc L [] n kd σ τ ρ ce sl :=
  r_ret (v := none) ⟨rfl, hm.1, hm.2.1, hm.2.2.1, hm.2.2.2.1, hm.2.2.2.2⟩ (fun w h => by cases h) hcs (Or.inr (Or.inr (Or.inr (Or.inr ⟨rfl, rfl, hd, hty⟩))))
theorem r_ret_r {q r : Nat} {rt : FieldType} {n' : Nat} {kd' : KT} {σ' τ' : ST} {ρ' : RT} (hd : decode X.2.1 pc = .ok (.areturn, 1)) (hty : X.2.2.2 = some rt) (hrt : (∃ n, rt = .object n) ∨ ∃ t, rt = .array t) (hcs : ce ≤ dm.2.1 ∧ sl ≤ dm.2.2) (hq : q < n) (he : q = r) (hm : n = n' ∧ kd = kd' ∧ σ = σ' ∧ τ = τ' ∧ ρ = ρ') : WP l G own X dm (KQ (some (.ref r)) n' kd' σ' τ' ρ') KE n0 pc L [.ref q] n kd σ τ ρ ce sl :=
  r_ret (v := some (.ref q)) ⟨by rw [he], hm.1, hm.2.1, hm.2.2.1, hm.2.2.2.1, hm.2.2.2.2⟩ (fun w h => by cases h; exact decide_eq_true hq) hcs (Or.inr (Or.inr (Or.inr (Or.inl ⟨_, rfl, rfl, Or.inr ⟨_, rfl⟩, hd, _, hty, hrt⟩))))
end Rows2
