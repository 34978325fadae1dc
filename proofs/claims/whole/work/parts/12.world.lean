/-! ===== the cells as the law makes them; functional specifications ===== -/
def S0 (n : Nat) : List (Nat × Nat × Nat) := [(0, 0, n), (0, 0, 15), (0, 0, 16), (1, 2, 13), (1, 1, 12), (2, 0, 240), (2, 0, 240), (2, 0, 240), (2, 0, 8), (2, 0, 8), (2, 0, 8), (2, 0, 8), (2, 0, 8), (2, 0, 8), (2, 0, 8), (2, 0, 32), (1, 1, 12), (2, 0, 240), (2, 0, 240), (2, 0, 240), (2, 0, 8), (2, 0, 8), (2, 0, 8), (2, 0, 8), (2, 0, 8), (2, 0, 8), (2, 0, 8), (2, 0, 32), (2, 5, 6), (1, 0, 9), (2, 0, 14), (2, 0, 14), (2, 0, 6), (2, 0, 6), (2, 0, 6), (2, 0, 6), (2, 0, 6), (2, 0, 6), (2, 4, 4), (2, 1, 60), (2, 0, 128), (2, 0, 4), (1, 1, 12), (2, 0, 240), (2, 0, 240), (2, 0, 240), (2, 0, 8), (2, 0, 8), (2, 0, 8), (2, 0, 8), (2, 0, 8), (2, 0, 8), (2, 0, 8), (2, 0, 32), (1, 1, 12), (2, 0, 240), (2, 0, 240), (2, 0, 240), (2, 0, 8), (2, 0, 8), (2, 0, 8), (2, 0, 8), (2, 0, 8), (2, 0, 8), (2, 0, 8), (2, 0, 32), (1, 1, 12), (2, 0, 240), (2, 0, 240), (2, 0, 240), (2, 0, 8), (2, 0, 8), (2, 0, 8), (2, 0, 8), (2, 0, 8), (2, 0, 8), (2, 0, 8), (2, 0, 32), (1, 1, 12), (2, 0, 240), (2, 0, 240), (2, 0, 240), (2, 0, 8), (2, 0, 8), (2, 0, 8), (2, 0, 8), (2, 0, 8), (2, 0, 8), (2, 0, 8), (2, 0, 32), (1, 1, 12), (2, 0, 240), (2, 0, 240), (2, 0, 240), (2, 0, 8), (2, 0, 8), (2, 0, 8), (2, 0, 8), (2, 0, 8), (2, 0, 8), (2, 0, 8), (2, 0, 32), (1, 1, 12), (2, 0, 240), (2, 0, 240), (2, 0, 240), (2, 0, 8), (2, 0, 8), (2, 0, 8), (2, 0, 8), (2, 0, 8), (2, 0, 8), (2, 0, 8), (2, 0, 32), (1, 3, 31), (2, 0, 809), (2, 0, 809), (2, 0, 4854), (2, 1, 60), (2, 0, 160), (2, 0, 256), (2, 0, 15), (2, 0, 16), (2, 0, 32), (2, 0, 14), (2, 0, 14), (2, 0, 14), (2, 0, 14), (2, 0, 56), (2, 0, 6), (2, 0, 32), (2, 2, 1), (2, 3, 1)]
def gLt (tb : List (Nat × Nat × Nat)) (a b : Nat) : Option Nat := (tb.find? (fun e => e.1 == a && e.2.1 == b)).map (fun e => e.2.2)
def T0l : List (Nat × Nat × Nat) := [(4, 0, 5), (4, 1, 6), (4, 2, 7), (4, 3, 8), (4, 4, 9), (4, 5, 10), (4, 6, 11), (4, 7, 12), (4, 8, 13), (4, 9, 14), (4, 10, 15), (3, 0, 4), (16, 0, 17), (16, 1, 18), (16, 2, 19), (16, 3, 20), (16, 4, 21), (16, 5, 22), (16, 6, 23), (16, 7, 24), (16, 8, 25), (16, 9, 26), (16, 10, 27), (3, 1, 16), (3, 2, 28), (29, 0, 30), (29, 1, 31), (29, 2, 32), (29, 3, 33), (38, 0, 34), (38, 1, 35), (38, 2, 36), (38, 3, 37), (29, 4, 38), (3, 3, 29), (3, 4, 39), (3, 5, 40), (3, 6, 41), (42, 0, 43), (42, 1, 44), (42, 2, 45), (42, 3, 46), (42, 4, 47), (42, 5, 48), (42, 6, 49), (42, 7, 50), (42, 8, 51), (42, 9, 52), (42, 10, 53), (28, 0, 42), (54, 0, 55), (54, 1, 56), (54, 2, 57), (54, 3, 58), (54, 4, 59), (54, 5, 60), (54, 6, 61), (54, 7, 62), (54, 8, 63), (54, 9, 64), (54, 10, 65), (28, 1, 54), (66, 0, 67), (66, 1, 68), (66, 2, 69), (66, 3, 70), (66, 4, 71), (66, 5, 72), (66, 6, 73), (66, 7, 74), (66, 8, 75), (66, 9, 76), (66, 10, 77), (28, 2, 66), (78, 0, 79), (78, 1, 80), (78, 2, 81), (78, 3, 82), (78, 4, 83), (78, 5, 84), (78, 6, 85), (78, 7, 86), (78, 8, 87), (78, 9, 88), (78, 10, 89), (28, 3, 78), (90, 0, 91), (90, 1, 92), (90, 2, 93), (90, 3, 94), (90, 4, 95), (90, 5, 96), (90, 6, 97), (90, 7, 98), (90, 8, 99), (90, 9, 100), (90, 10, 101), (28, 4, 90), (102, 0, 103), (102, 1, 104), (102, 2, 105), (102, 3, 106), (102, 4, 107), (102, 5, 108), (102, 6, 109), (102, 7, 110), (102, 8, 111), (102, 9, 112), (102, 10, 113), (28, 5, 102), (114, 1, 115), (114, 2, 116), (114, 3, 117), (114, 7, 118), (114, 9, 119), (114, 11, 120), (114, 12, 121), (114, 13, 122), (114, 16, 123), (114, 17, 124), (114, 18, 125), (114, 19, 126), (114, 20, 127), (114, 21, 128), (114, 22, 129), (114, 29, 130)]
def T0 : Nat → Nat → Option Nat := gLt T0l
abbrev hp (n : Nat) (I : Nat → Nat → Int32) (L : Nat → Nat → Int64) (D : Nat → Nat → UInt64) : gH := (S0 n, T0, I, L, D)
theorem s_0 {n : Nat} : (S0 n)[0]? = some (0, 0, n) := rfl
theorem s_1 {n : Nat} : (S0 n)[1]? = some (0, 0, 15) := rfl
theorem s_2 {n : Nat} : (S0 n)[2]? = some (0, 0, 16) := rfl
theorem s_3 {n : Nat} : (S0 n)[3]? = some (1, 2, 13) := rfl
theorem s_4 {n : Nat} : (S0 n)[4]? = some (1, 1, 12) := rfl
theorem s_5 {n : Nat} : (S0 n)[5]? = some (2, 0, 240) := rfl
theorem s_6 {n : Nat} : (S0 n)[6]? = some (2, 0, 240) := rfl
theorem s_7 {n : Nat} : (S0 n)[7]? = some (2, 0, 240) := rfl
theorem s_8 {n : Nat} : (S0 n)[8]? = some (2, 0, 8) := rfl
theorem s_9 {n : Nat} : (S0 n)[9]? = some (2, 0, 8) := rfl
theorem s_10 {n : Nat} : (S0 n)[10]? = some (2, 0, 8) := rfl
theorem s_11 {n : Nat} : (S0 n)[11]? = some (2, 0, 8) := rfl
theorem s_12 {n : Nat} : (S0 n)[12]? = some (2, 0, 8) := rfl
theorem s_13 {n : Nat} : (S0 n)[13]? = some (2, 0, 8) := rfl
theorem s_14 {n : Nat} : (S0 n)[14]? = some (2, 0, 8) := rfl
theorem s_15 {n : Nat} : (S0 n)[15]? = some (2, 0, 32) := rfl
theorem s_16 {n : Nat} : (S0 n)[16]? = some (1, 1, 12) := rfl
theorem s_17 {n : Nat} : (S0 n)[17]? = some (2, 0, 240) := rfl
theorem s_18 {n : Nat} : (S0 n)[18]? = some (2, 0, 240) := rfl
theorem s_19 {n : Nat} : (S0 n)[19]? = some (2, 0, 240) := rfl
theorem s_20 {n : Nat} : (S0 n)[20]? = some (2, 0, 8) := rfl
theorem s_21 {n : Nat} : (S0 n)[21]? = some (2, 0, 8) := rfl
theorem s_22 {n : Nat} : (S0 n)[22]? = some (2, 0, 8) := rfl
theorem s_23 {n : Nat} : (S0 n)[23]? = some (2, 0, 8) := rfl
theorem s_24 {n : Nat} : (S0 n)[24]? = some (2, 0, 8) := rfl
theorem s_25 {n : Nat} : (S0 n)[25]? = some (2, 0, 8) := rfl
theorem s_26 {n : Nat} : (S0 n)[26]? = some (2, 0, 8) := rfl
theorem s_27 {n : Nat} : (S0 n)[27]? = some (2, 0, 32) := rfl
theorem s_28 {n : Nat} : (S0 n)[28]? = some (2, 5, 6) := rfl
theorem s_29 {n : Nat} : (S0 n)[29]? = some (1, 0, 9) := rfl
theorem s_30 {n : Nat} : (S0 n)[30]? = some (2, 0, 14) := rfl
theorem s_31 {n : Nat} : (S0 n)[31]? = some (2, 0, 14) := rfl
theorem s_32 {n : Nat} : (S0 n)[32]? = some (2, 0, 6) := rfl
theorem s_33 {n : Nat} : (S0 n)[33]? = some (2, 0, 6) := rfl
theorem s_34 {n : Nat} : (S0 n)[34]? = some (2, 0, 6) := rfl
theorem s_35 {n : Nat} : (S0 n)[35]? = some (2, 0, 6) := rfl
theorem s_36 {n : Nat} : (S0 n)[36]? = some (2, 0, 6) := rfl
theorem s_37 {n : Nat} : (S0 n)[37]? = some (2, 0, 6) := rfl
theorem s_38 {n : Nat} : (S0 n)[38]? = some (2, 4, 4) := rfl
theorem s_39 {n : Nat} : (S0 n)[39]? = some (2, 1, 60) := rfl
theorem s_40 {n : Nat} : (S0 n)[40]? = some (2, 0, 128) := rfl
theorem s_41 {n : Nat} : (S0 n)[41]? = some (2, 0, 4) := rfl
theorem s_42 {n : Nat} : (S0 n)[42]? = some (1, 1, 12) := rfl
theorem s_43 {n : Nat} : (S0 n)[43]? = some (2, 0, 240) := rfl
theorem s_44 {n : Nat} : (S0 n)[44]? = some (2, 0, 240) := rfl
theorem s_45 {n : Nat} : (S0 n)[45]? = some (2, 0, 240) := rfl
theorem s_46 {n : Nat} : (S0 n)[46]? = some (2, 0, 8) := rfl
theorem s_47 {n : Nat} : (S0 n)[47]? = some (2, 0, 8) := rfl
theorem s_48 {n : Nat} : (S0 n)[48]? = some (2, 0, 8) := rfl
theorem s_49 {n : Nat} : (S0 n)[49]? = some (2, 0, 8) := rfl
theorem s_50 {n : Nat} : (S0 n)[50]? = some (2, 0, 8) := rfl
theorem s_51 {n : Nat} : (S0 n)[51]? = some (2, 0, 8) := rfl
theorem s_52 {n : Nat} : (S0 n)[52]? = some (2, 0, 8) := rfl
theorem s_53 {n : Nat} : (S0 n)[53]? = some (2, 0, 32) := rfl
theorem s_54 {n : Nat} : (S0 n)[54]? = some (1, 1, 12) := rfl
theorem s_55 {n : Nat} : (S0 n)[55]? = some (2, 0, 240) := rfl
theorem s_56 {n : Nat} : (S0 n)[56]? = some (2, 0, 240) := rfl
theorem s_57 {n : Nat} : (S0 n)[57]? = some (2, 0, 240) := rfl
theorem s_58 {n : Nat} : (S0 n)[58]? = some (2, 0, 8) := rfl
theorem s_59 {n : Nat} : (S0 n)[59]? = some (2, 0, 8) := rfl
theorem s_60 {n : Nat} : (S0 n)[60]? = some (2, 0, 8) := rfl
theorem s_61 {n : Nat} : (S0 n)[61]? = some (2, 0, 8) := rfl
theorem s_62 {n : Nat} : (S0 n)[62]? = some (2, 0, 8) := rfl
theorem s_63 {n : Nat} : (S0 n)[63]? = some (2, 0, 8) := rfl
theorem s_64 {n : Nat} : (S0 n)[64]? = some (2, 0, 8) := rfl
theorem s_65 {n : Nat} : (S0 n)[65]? = some (2, 0, 32) := rfl
theorem s_66 {n : Nat} : (S0 n)[66]? = some (1, 1, 12) := rfl
theorem s_67 {n : Nat} : (S0 n)[67]? = some (2, 0, 240) := rfl
theorem s_68 {n : Nat} : (S0 n)[68]? = some (2, 0, 240) := rfl
theorem s_69 {n : Nat} : (S0 n)[69]? = some (2, 0, 240) := rfl
theorem s_70 {n : Nat} : (S0 n)[70]? = some (2, 0, 8) := rfl
theorem s_71 {n : Nat} : (S0 n)[71]? = some (2, 0, 8) := rfl
theorem s_72 {n : Nat} : (S0 n)[72]? = some (2, 0, 8) := rfl
theorem s_73 {n : Nat} : (S0 n)[73]? = some (2, 0, 8) := rfl
theorem s_74 {n : Nat} : (S0 n)[74]? = some (2, 0, 8) := rfl
theorem s_75 {n : Nat} : (S0 n)[75]? = some (2, 0, 8) := rfl
theorem s_76 {n : Nat} : (S0 n)[76]? = some (2, 0, 8) := rfl
theorem s_77 {n : Nat} : (S0 n)[77]? = some (2, 0, 32) := rfl
theorem s_78 {n : Nat} : (S0 n)[78]? = some (1, 1, 12) := rfl
theorem s_79 {n : Nat} : (S0 n)[79]? = some (2, 0, 240) := rfl
theorem s_80 {n : Nat} : (S0 n)[80]? = some (2, 0, 240) := rfl
theorem s_81 {n : Nat} : (S0 n)[81]? = some (2, 0, 240) := rfl
theorem s_82 {n : Nat} : (S0 n)[82]? = some (2, 0, 8) := rfl
theorem s_83 {n : Nat} : (S0 n)[83]? = some (2, 0, 8) := rfl
theorem s_84 {n : Nat} : (S0 n)[84]? = some (2, 0, 8) := rfl
theorem s_85 {n : Nat} : (S0 n)[85]? = some (2, 0, 8) := rfl
theorem s_86 {n : Nat} : (S0 n)[86]? = some (2, 0, 8) := rfl
theorem s_87 {n : Nat} : (S0 n)[87]? = some (2, 0, 8) := rfl
theorem s_88 {n : Nat} : (S0 n)[88]? = some (2, 0, 8) := rfl
theorem s_89 {n : Nat} : (S0 n)[89]? = some (2, 0, 32) := rfl
theorem s_90 {n : Nat} : (S0 n)[90]? = some (1, 1, 12) := rfl
theorem s_91 {n : Nat} : (S0 n)[91]? = some (2, 0, 240) := rfl
theorem s_92 {n : Nat} : (S0 n)[92]? = some (2, 0, 240) := rfl
theorem s_93 {n : Nat} : (S0 n)[93]? = some (2, 0, 240) := rfl
theorem s_94 {n : Nat} : (S0 n)[94]? = some (2, 0, 8) := rfl
theorem s_95 {n : Nat} : (S0 n)[95]? = some (2, 0, 8) := rfl
theorem s_96 {n : Nat} : (S0 n)[96]? = some (2, 0, 8) := rfl
theorem s_97 {n : Nat} : (S0 n)[97]? = some (2, 0, 8) := rfl
theorem s_98 {n : Nat} : (S0 n)[98]? = some (2, 0, 8) := rfl
theorem s_99 {n : Nat} : (S0 n)[99]? = some (2, 0, 8) := rfl
theorem s_100 {n : Nat} : (S0 n)[100]? = some (2, 0, 8) := rfl
theorem s_101 {n : Nat} : (S0 n)[101]? = some (2, 0, 32) := rfl
theorem s_102 {n : Nat} : (S0 n)[102]? = some (1, 1, 12) := rfl
theorem s_103 {n : Nat} : (S0 n)[103]? = some (2, 0, 240) := rfl
theorem s_104 {n : Nat} : (S0 n)[104]? = some (2, 0, 240) := rfl
theorem s_105 {n : Nat} : (S0 n)[105]? = some (2, 0, 240) := rfl
theorem s_106 {n : Nat} : (S0 n)[106]? = some (2, 0, 8) := rfl
theorem s_107 {n : Nat} : (S0 n)[107]? = some (2, 0, 8) := rfl
theorem s_108 {n : Nat} : (S0 n)[108]? = some (2, 0, 8) := rfl
theorem s_109 {n : Nat} : (S0 n)[109]? = some (2, 0, 8) := rfl
theorem s_110 {n : Nat} : (S0 n)[110]? = some (2, 0, 8) := rfl
theorem s_111 {n : Nat} : (S0 n)[111]? = some (2, 0, 8) := rfl
theorem s_112 {n : Nat} : (S0 n)[112]? = some (2, 0, 8) := rfl
theorem s_113 {n : Nat} : (S0 n)[113]? = some (2, 0, 32) := rfl
theorem s_114 {n : Nat} : (S0 n)[114]? = some (1, 3, 31) := rfl
theorem s_115 {n : Nat} : (S0 n)[115]? = some (2, 0, 809) := rfl
theorem s_116 {n : Nat} : (S0 n)[116]? = some (2, 0, 809) := rfl
theorem s_117 {n : Nat} : (S0 n)[117]? = some (2, 0, 4854) := rfl
theorem s_118 {n : Nat} : (S0 n)[118]? = some (2, 1, 60) := rfl
theorem s_119 {n : Nat} : (S0 n)[119]? = some (2, 0, 160) := rfl
theorem s_120 {n : Nat} : (S0 n)[120]? = some (2, 0, 256) := rfl
theorem s_121 {n : Nat} : (S0 n)[121]? = some (2, 0, 15) := rfl
theorem s_122 {n : Nat} : (S0 n)[122]? = some (2, 0, 16) := rfl
theorem s_123 {n : Nat} : (S0 n)[123]? = some (2, 0, 32) := rfl
theorem s_124 {n : Nat} : (S0 n)[124]? = some (2, 0, 14) := rfl
theorem s_125 {n : Nat} : (S0 n)[125]? = some (2, 0, 14) := rfl
theorem s_126 {n : Nat} : (S0 n)[126]? = some (2, 0, 14) := rfl
theorem s_127 {n : Nat} : (S0 n)[127]? = some (2, 0, 14) := rfl
theorem s_128 {n : Nat} : (S0 n)[128]? = some (2, 0, 56) := rfl
theorem s_129 {n : Nat} : (S0 n)[129]? = some (2, 0, 6) := rfl
theorem s_130 {n : Nat} : (S0 n)[130]? = some (2, 0, 32) := rfl
theorem s_131 {n : Nat} : (S0 n)[131]? = some (2, 2, 1) := rfl
theorem s_132 {n : Nat} : (S0 n)[132]? = some (2, 3, 1) := rfl
theorem t_4_0 : T0 4 0 = some 5 := by decide +kernel
theorem t_4_1 : T0 4 1 = some 6 := by decide +kernel
theorem t_4_2 : T0 4 2 = some 7 := by decide +kernel
theorem t_4_3 : T0 4 3 = some 8 := by decide +kernel
theorem t_4_4 : T0 4 4 = some 9 := by decide +kernel
theorem t_4_5 : T0 4 5 = some 10 := by decide +kernel
theorem t_4_6 : T0 4 6 = some 11 := by decide +kernel
theorem t_4_7 : T0 4 7 = some 12 := by decide +kernel
theorem t_4_8 : T0 4 8 = some 13 := by decide +kernel
theorem t_4_9 : T0 4 9 = some 14 := by decide +kernel
theorem t_4_10 : T0 4 10 = some 15 := by decide +kernel
theorem t_3_0 : T0 3 0 = some 4 := by decide +kernel
theorem t_16_0 : T0 16 0 = some 17 := by decide +kernel
theorem t_16_1 : T0 16 1 = some 18 := by decide +kernel
theorem t_16_2 : T0 16 2 = some 19 := by decide +kernel
theorem t_16_3 : T0 16 3 = some 20 := by decide +kernel
theorem t_16_4 : T0 16 4 = some 21 := by decide +kernel
theorem t_16_5 : T0 16 5 = some 22 := by decide +kernel
theorem t_16_6 : T0 16 6 = some 23 := by decide +kernel
theorem t_16_7 : T0 16 7 = some 24 := by decide +kernel
theorem t_16_8 : T0 16 8 = some 25 := by decide +kernel
theorem t_16_9 : T0 16 9 = some 26 := by decide +kernel
theorem t_16_10 : T0 16 10 = some 27 := by decide +kernel
theorem t_3_1 : T0 3 1 = some 16 := by decide +kernel
theorem t_3_2 : T0 3 2 = some 28 := by decide +kernel
theorem t_29_0 : T0 29 0 = some 30 := by decide +kernel
theorem t_29_1 : T0 29 1 = some 31 := by decide +kernel
theorem t_29_2 : T0 29 2 = some 32 := by decide +kernel
theorem t_29_3 : T0 29 3 = some 33 := by decide +kernel
theorem t_38_0 : T0 38 0 = some 34 := by decide +kernel
theorem t_38_1 : T0 38 1 = some 35 := by decide +kernel
theorem t_38_2 : T0 38 2 = some 36 := by decide +kernel
theorem t_38_3 : T0 38 3 = some 37 := by decide +kernel
theorem t_29_4 : T0 29 4 = some 38 := by decide +kernel
theorem t_3_3 : T0 3 3 = some 29 := by decide +kernel
theorem t_3_4 : T0 3 4 = some 39 := by decide +kernel
theorem t_3_5 : T0 3 5 = some 40 := by decide +kernel
theorem t_3_6 : T0 3 6 = some 41 := by decide +kernel
theorem t_42_0 : T0 42 0 = some 43 := by decide +kernel
theorem t_42_1 : T0 42 1 = some 44 := by decide +kernel
theorem t_42_2 : T0 42 2 = some 45 := by decide +kernel
theorem t_42_3 : T0 42 3 = some 46 := by decide +kernel
theorem t_42_4 : T0 42 4 = some 47 := by decide +kernel
theorem t_42_5 : T0 42 5 = some 48 := by decide +kernel
theorem t_42_6 : T0 42 6 = some 49 := by decide +kernel
theorem t_42_7 : T0 42 7 = some 50 := by decide +kernel
theorem t_42_8 : T0 42 8 = some 51 := by decide +kernel
theorem t_42_9 : T0 42 9 = some 52 := by decide +kernel
theorem t_42_10 : T0 42 10 = some 53 := by decide +kernel
theorem t_28_0 : T0 28 0 = some 42 := by decide +kernel
theorem t_54_0 : T0 54 0 = some 55 := by decide +kernel
theorem t_54_1 : T0 54 1 = some 56 := by decide +kernel
theorem t_54_2 : T0 54 2 = some 57 := by decide +kernel
theorem t_54_3 : T0 54 3 = some 58 := by decide +kernel
theorem t_54_4 : T0 54 4 = some 59 := by decide +kernel
theorem t_54_5 : T0 54 5 = some 60 := by decide +kernel
theorem t_54_6 : T0 54 6 = some 61 := by decide +kernel
theorem t_54_7 : T0 54 7 = some 62 := by decide +kernel
theorem t_54_8 : T0 54 8 = some 63 := by decide +kernel
theorem t_54_9 : T0 54 9 = some 64 := by decide +kernel
theorem t_54_10 : T0 54 10 = some 65 := by decide +kernel
theorem t_28_1 : T0 28 1 = some 54 := by decide +kernel
theorem t_66_0 : T0 66 0 = some 67 := by decide +kernel
theorem t_66_1 : T0 66 1 = some 68 := by decide +kernel
theorem t_66_2 : T0 66 2 = some 69 := by decide +kernel
theorem t_66_3 : T0 66 3 = some 70 := by decide +kernel
theorem t_66_4 : T0 66 4 = some 71 := by decide +kernel
theorem t_66_5 : T0 66 5 = some 72 := by decide +kernel
theorem t_66_6 : T0 66 6 = some 73 := by decide +kernel
theorem t_66_7 : T0 66 7 = some 74 := by decide +kernel
theorem t_66_8 : T0 66 8 = some 75 := by decide +kernel
theorem t_66_9 : T0 66 9 = some 76 := by decide +kernel
theorem t_66_10 : T0 66 10 = some 77 := by decide +kernel
theorem t_28_2 : T0 28 2 = some 66 := by decide +kernel
theorem t_78_0 : T0 78 0 = some 79 := by decide +kernel
theorem t_78_1 : T0 78 1 = some 80 := by decide +kernel
theorem t_78_2 : T0 78 2 = some 81 := by decide +kernel
theorem t_78_3 : T0 78 3 = some 82 := by decide +kernel
theorem t_78_4 : T0 78 4 = some 83 := by decide +kernel
theorem t_78_5 : T0 78 5 = some 84 := by decide +kernel
theorem t_78_6 : T0 78 6 = some 85 := by decide +kernel
theorem t_78_7 : T0 78 7 = some 86 := by decide +kernel
theorem t_78_8 : T0 78 8 = some 87 := by decide +kernel
theorem t_78_9 : T0 78 9 = some 88 := by decide +kernel
theorem t_78_10 : T0 78 10 = some 89 := by decide +kernel
theorem t_28_3 : T0 28 3 = some 78 := by decide +kernel
theorem t_90_0 : T0 90 0 = some 91 := by decide +kernel
theorem t_90_1 : T0 90 1 = some 92 := by decide +kernel
theorem t_90_2 : T0 90 2 = some 93 := by decide +kernel
theorem t_90_3 : T0 90 3 = some 94 := by decide +kernel
theorem t_90_4 : T0 90 4 = some 95 := by decide +kernel
theorem t_90_5 : T0 90 5 = some 96 := by decide +kernel
theorem t_90_6 : T0 90 6 = some 97 := by decide +kernel
theorem t_90_7 : T0 90 7 = some 98 := by decide +kernel
theorem t_90_8 : T0 90 8 = some 99 := by decide +kernel
theorem t_90_9 : T0 90 9 = some 100 := by decide +kernel
theorem t_90_10 : T0 90 10 = some 101 := by decide +kernel
theorem t_28_4 : T0 28 4 = some 90 := by decide +kernel
theorem t_102_0 : T0 102 0 = some 103 := by decide +kernel
theorem t_102_1 : T0 102 1 = some 104 := by decide +kernel
theorem t_102_2 : T0 102 2 = some 105 := by decide +kernel
theorem t_102_3 : T0 102 3 = some 106 := by decide +kernel
theorem t_102_4 : T0 102 4 = some 107 := by decide +kernel
theorem t_102_5 : T0 102 5 = some 108 := by decide +kernel
theorem t_102_6 : T0 102 6 = some 109 := by decide +kernel
theorem t_102_7 : T0 102 7 = some 110 := by decide +kernel
theorem t_102_8 : T0 102 8 = some 111 := by decide +kernel
theorem t_102_9 : T0 102 9 = some 112 := by decide +kernel
theorem t_102_10 : T0 102 10 = some 113 := by decide +kernel
theorem t_28_5 : T0 28 5 = some 102 := by decide +kernel
theorem t_114_1 : T0 114 1 = some 115 := by decide +kernel
theorem t_114_2 : T0 114 2 = some 116 := by decide +kernel
theorem t_114_3 : T0 114 3 = some 117 := by decide +kernel
theorem t_114_7 : T0 114 7 = some 118 := by decide +kernel
theorem t_114_9 : T0 114 9 = some 119 := by decide +kernel
theorem t_114_11 : T0 114 11 = some 120 := by decide +kernel
theorem t_114_12 : T0 114 12 = some 121 := by decide +kernel
theorem t_114_13 : T0 114 13 = some 122 := by decide +kernel
theorem t_114_16 : T0 114 16 = some 123 := by decide +kernel
theorem t_114_17 : T0 114 17 = some 124 := by decide +kernel
theorem t_114_18 : T0 114 18 = some 125 := by decide +kernel
theorem t_114_19 : T0 114 19 = some 126 := by decide +kernel
theorem t_114_20 : T0 114 20 = some 127 := by decide +kernel
theorem t_114_21 : T0 114 21 = some 128 := by decide +kernel
theorem t_114_22 : T0 114 22 = some 129 := by decide +kernel
theorem t_114_29 : T0 114 29 = some 130 := by decide +kernel
theorem gMx1 : Cond.static Lib.Math.max.name ∈ gW := by decide +kernel
theorem gMx2 : Cond.code Lib.Math.max.name Lib.Math.max.code 2 (some .int) ∈ gW := by decide +kernel
theorem gMx3 : Cond.initialized "java/lang/Math" ∈ gW := by decide +kernel
theorem gMn1 : Cond.static Lib.Math.min.name ∈ gW := by decide +kernel
theorem gMn2 : Cond.code Lib.Math.min.name Lib.Math.min.code 2 (some .int) ∈ gW := by decide +kernel
/-- a call with its outcome and the heap behind it -/
def gFn (G : gG) (Y : gY) (d : Nat) (av : List Value) (h : gH) (o : Option Value ⊕ String) (h' : gH) (kc ks : Nat) : Prop := gEv G Y d av h kc ks (fun o' g => o' = o ∧ g = h')
theorem gFn_deep {G : gG} {Y : gY} {d d' : Nat} {av : List Value} {h h' : gH} {o : Option Value ⊕ String} {kc ks : Nat} (hd : d ≤ d') (k : gFn G Y d av h o h' kc ks) : gFn G Y d' av h o h' kc ks := g_deep hd k
theorem g_toQ {G : gG} {Y : gY} {d pc : Nat} {al : List (Option Value)} {st : List Value} {h : gH} {o : Option Value ⊕ String} {h' : gH} {kc ks : Nat} {Q : gQ} (k : gGo G Y d pc al st h kc ks (fun o' g => o' = o ∧ g = h')) (hq : Q o h') : gGo G Y d pc al st h kc ks Q := g_imp (fun o' g q => by rw [q.1, q.2]; exact hq) k
theorem g_fS {G : gG} {Y Z : gY} {d pc ix : Nat} {al : List (Option Value)} {av st st0 : List Value} {h h' : gH} {kc ks kc1 ks1 : Nat} {Q : gQ} {v : Option Value} (dg : decode Y.2.1 pc = .ok (.invokestatic ix, 3)) (hZ : gMt Z) (hl : gLk Y.1.cls ix Z.1) (hstc : Cond.static Z.1 ∈ gW) (hn : gNp Z.1 = some av.length) (hst0 : st0 = av.reverse ++ st) (hcat : ∀ v ∈ av, v.category = 1) (hnl : av.length ≤ Z.2.2.1) (hrest : (st.map fun v => v.category).sum ≤ 8) (hb : kc1 ≤ kc ∧ ks1 ≤ ks) (he : gFn G Z d av h (.inl v) h' kc1 ks1)
    (k : gGo G Y (d + 1) (pc + 3) al (v.toList ++ st) h' (kc - kc1) (ks - ks1) Q) : gGo G Y (d + 1) pc al st0 h kc ks Q :=
  g_callS dg hZ hl hstc hst0 hn hcat hnl hrest hb he (fun v' h9 _ q => by cases q.1; rw [q.2]; exact k) (fun X h9 q => by cases q.1)
theorem g_fV {G : gG} {Y Z : gY} {d pc ix : Nat} {al : List (Option Value)} {av st st0 : List Value} {h h' : gH} {kc ks kc1 ks1 : Nat} {Q : gQ} {v : Option Value} {r ci n0 : Nat} (dg : decode Y.2.1 pc = .ok (.invokevirtual ix, 3)) (hZ : gMt Z) (hl : gLk Y.1.cls ix Z.1) (hin : Cond.instanceMethod Z.1 ∈ gW) (hsel : Cond.selects (gRx ci) Z.1 Z.1 ∈ gW) (hn : gNp Z.1 = some av.length) (hS : h.1[r]? = some (1, ci, n0)) (hci : ci < 4) (h3 : 3 ≤ r) (hst0 : st0 = av.reverse ++ .ref r :: st) (hcat : ∀ v ∈ av, v.category = 1) (hnl : av.length + 1 ≤ Z.2.2.1) (hrest : (st.map fun v => v.category).sum ≤ 8) (hb : kc1 ≤ kc ∧ ks1 ≤ ks) (he : gFn G Z d (.ref r :: av) h (.inl v) h' kc1 ks1)
    (k : gGo G Y (d + 1) (pc + 3) al (v.toList ++ st) h' (kc - kc1) (ks - ks1) Q) : gGo G Y (d + 1) pc al st0 h kc ks Q :=
  g_callV dg hZ hl hin hsel hci hS h3 hst0 hn hcat hnl hrest hb he (fun v' h9 _ q => by cases q.1; rw [q.2]; exact k) (fun X h9 q => by cases q.1)
theorem g_mmax {G : gG} {Y : gY} {d pc ix : Nat} {al : List (Option Value)} {st : List Value} {h : gH} {x y : Int32} {kc ks : Nat} {Q : gQ} (dg : decode Y.2.1 pc = .ok (.invokestatic ix, 3)) (hl : Cond.methodLink Y.1.cls ix Lib.Math.max.name ∈ gW) (hrest : (st.map fun v => v.category).sum ≤ 8) (k : gGo G Y d (pc + 3) al (.int (if x < y then y else x) :: st) h kc ks Q) : gGo G Y d pc al (.int y :: .int x :: st) h kc ks Q := by
  intro p l e R s m args below meth c QS mc ms ad0 C E ad ls sk H locs cells slots ha hL hs hR hV h1 h2
  obtain ⟨sk1, rfl, hz1⟩ := gSk_int hs
  obtain ⟨sk2, rfl, hz2⟩ := gSk_int hz1
  obtain ⟨r1, r2⟩ := C.2.2.2.2.2.2.2.2.2.2.2.1
  obtain ⟨hmc, hms⟩ := C.2.2.2.2.2.2.2.2.2.2.2.2
  have hcs : (sk2.map fun v => v.category).sum ≤ 8 := by rw [gSk_cat hz2]; exact hrest
  exact va_mmax C.1 C.2.1 (C.2.2.1.trans hL.1.symm) C.2.2.2.1 (C.2.2.2.2.1 _ hl) (C.2.2.2.2.1 _ gMx1) (C.2.2.2.2.1 _ gMx3) (C.2.2.2.2.1 _ gMx2) (by omega) (by omega) (by omega) (by omega) dg (k p l e R s m args below meth c QS mc ms ad0 C E ad ls _ H locs cells slots ha hL (gSk_in gV_int hz2) hR hV h1 h2)
theorem g_mmin {G : gG} {Y : gY} {d pc ix : Nat} {al : List (Option Value)} {st : List Value} {h : gH} {x y : Int32} {kc ks : Nat} {Q : gQ} (dg : decode Y.2.1 pc = .ok (.invokestatic ix, 3)) (hl : Cond.methodLink Y.1.cls ix Lib.Math.min.name ∈ gW) (hrest : (st.map fun v => v.category).sum ≤ 8) (k : gGo G Y d (pc + 3) al (.int (if y < x then y else x) :: st) h kc ks Q) : gGo G Y d pc al (.int y :: .int x :: st) h kc ks Q := by
  intro p l e R s m args below meth c QS mc ms ad0 C E ad ls sk H locs cells slots ha hL hs hR hV h1 h2
  obtain ⟨sk1, rfl, hz1⟩ := gSk_int hs
  obtain ⟨sk2, rfl, hz2⟩ := gSk_int hz1
  obtain ⟨r1, r2⟩ := C.2.2.2.2.2.2.2.2.2.2.2.1
  obtain ⟨hmc, hms⟩ := C.2.2.2.2.2.2.2.2.2.2.2.2
  have hcs : (sk2.map fun v => v.category).sum ≤ 8 := by rw [gSk_cat hz2]; exact hrest
  exact va_mmin C.1 C.2.1 (C.2.2.1.trans hL.1.symm) C.2.2.2.1 (C.2.2.2.2.1 _ hl) (C.2.2.2.2.1 _ gMn1) (C.2.2.2.2.1 _ gMx3) (C.2.2.2.2.1 _ gMn2) (by omega) (by omega) (by omega) (by omega) dg (k p l e R s m args below meth c QS mc ms ad0 C E ad ls _ H locs cells slots ha hL (gSk_in gV_int hz2) hR hV h1 h2)
