/-! the state as numbers: G.1 ints (and bytes, booleans), G.2.1 longs, G.2.2 which cell a field names; by cell and place -/
abbrev GS : Type := (Nat → Nat → Int32) × (Nat → Nat → Int64) × (Nat → Nat → Nat)
abbrev Kd : Type := (Nat × List Nat) ⊕ (Nat × Nat)
abbrev KT : Type := ClassId × ClassId × ClassId × ClassId × ClassId
abbrev TY5 (k : KT) : List (ClassId × FieldType) := [(k.1, .byte), (k.2.1, .int), (k.2.2.1, .long), (k.2.2.2.1, .boolean), (k.2.2.2.2, .array .int)]
def Ks : List Kd := [.inl (11, [2, 2, 35, 8, 9, 10, 11, 32, 33, 34, 36, 0, 0]), .inl (6, [13, 14, 15, 16, 17, 18, 19, 20, 21, 0, 0, 0, 0, 0, 0, 0, 0]), .inl (6, [23, 24, 25, 26, 27, 28, 29, 30, 31, 0, 0, 0, 0, 0, 0, 0, 0]), .inl (9, [35, 0, 0, 0, 0, 0, 1, 0, 0]), .inl (2, [6, 2, 0]), .inl (7, [6, 7, 37, 38, 39, 2, 0, 0, 0, 0]), .inl (3, [40, 41, 42, 0, 2]), .inl (0, [43, 0, 0, 0, 0, 0, 0, 0]), .inl (10, [44, 12, 22, 49, 50]), .inl (4, [51, 52, 0, 0]), .inr (1, 3), .inr (1, 1200), .inr (1, 4), .inr (1, 4), .inr (1, 4), .inr (1, 4), .inr (1, 3), .inr (1, 580), .inr (1, 7), .inl (4, [53, 54, 0, 0]), .inr (1, 3), .inr (1, 1200), .inr (1, 4), .inr (1, 4), .inr (1, 4), .inr (1, 4), .inr (1, 3), .inr (1, 580), .inr (1, 7), .inl (5, [55, 56, 57, 58, 59, 60, 0]), .inl (1, [61, 62, 63, 0, 0, 0]), .inl (8, [64, 65, 66, 67, 68, 0, 0]), .inr (0, 1600), .inr (1, 400), .inr (2, 3), .inr (2, 4), .inr (2, 6), .inr (1, 1200), .inr (1, 3), .inr (1, 100), .inr (3, 400), .inr (4, 4), .inr (1, 402), .inr (1, 402), .inr (1, 402), .inr (1, 402), .inr (1, 64), .inr (3, 64), .inr (1, 400), .inr (1, 400), .inr (1, 400), .inr (1, 400), .inr (2, 404), .inr (2, 404), .inr (2, 404), .inr (2, 404), .inr (2, 404), .inr (2, 404), .inr (1, 10), .inr (1, 410), .inr (1, 30), .inr (1, 20), .inr (1, 20), .inr (1, 20), .inr (1, 20), .inr (1, 20), .inl (12, [70, 0, 0, 0, 0, 0, 0, 0, 0, 1, 71, 72, 73, 74, 75, 76, 77, 78, 79, 0, 0, 0, 0, 0, 0, 80, 81, 82, 83, 84, 85, 86, 87, 88, 89, 90, 91, 92, 93, 94, 95, 96, 97, 98, 99, 0, 0, 0, 0, 0, 0, 0, 0, 0, 0, 0, 0, 100, 101, 0, 0, 0, 0, 0, 102, 103, 0, 104, 105, 106, 107, 108, 109, 110, 111, 112, 113, 114, 0, 0, 115, 116, 117, 118, 119, 0, 0, 120, 121]), .inr (1, 1600), .inr (2, 16), .inr (1, 1920), .inr (1, 1920), .inr (1, 6), .inr (1, 1920), .inr (1, 1920), .inr (1, 6), .inr (1, 160), .inr (1, 64), .inr (1, 1200), .inr (1, 1200), .inr (1, 1200), .inr (1, 1200), .inr (1, 3), .inr (1, 4), .inr (1, 4), .inr (1, 4), .inr (1, 4), .inr (1, 3), .inr (1, 1200), .inr (1, 1200), .inr (1, 1200), .inr (1, 1200), .inr (1, 3), .inr (1, 4), .inr (1, 4), .inr (1, 4), .inr (1, 4), .inr (1, 3), .inr (3, 400), .inr (3, 512), .inr (1, 2400), .inr (1, 400), .inr (2, 1024), .inr (2, 1024), .inr (3, 512), .inr (1, 1024), .inr (1, 1024), .inr (2, 4096), .inr (3, 64), .inr (3, 64), .inr (1, 64), .inr (1, 16), .inr (1, 640), .inr (1, 20), .inr (1, 20), .inr (1, 20), .inr (1, 20), .inr (1, 20), .inr (3, 3), .inr (1, 48)]
def bT : List (Nat → Int × Int) := [fun j => if j = 11 then (0, 1600) else if j = 12 then (0, 400) else ((-2147483648), 2147483647), fun j => if j = 9 then (0, 3) else if j = 10 then (0, 4) else if j = 11 then (0, 6) else if j = 12 then (0, 90) else if j = 13 then (0, 580) else if j = 14 then (0, 99) else if j = 15 then (0, 99) else if j = 16 then (0, 999) else ((-2147483648), 2147483647), fun j => if j = 9 then (0, 3) else if j = 10 then (0, 4) else if j = 11 then (0, 6) else if j = 12 then (0, 90) else if j = 13 then (0, 580) else if j = 14 then (0, 99) else if j = 15 then (0, 99) else if j = 16 then (0, 999) else ((-2147483648), 2147483647), fun j => if j = 1 then (0, 1600) else if j = 2 then (0, 1600) else if j = 4 then (0, 1600) else if j = 7 then (0, 4) else if j = 8 then ((-1), 1600) else ((-2147483648), 2147483647), fun j => if j = 2 then (0, 30) else ((-2147483648), 2147483647), fun j => if j = 6 then (0, 1) else if j = 7 then (0, 1) else if j = 8 then (0, 1) else ((-2147483648), 2147483647), fun j => if j = 3 then (0, 100) else ((-2147483648), 2147483647), fun j => if j = 1 then (0, 400) else if j = 2 then (0, 12) else if j = 3 then (0, 60) else if j = 4 then (0, 60) else if j = 5 then (0, 99) else if j = 6 then ((-1), 400) else if j = 7 then (0, 400) else ((-2147483648), 2147483647), fun j => ((-2147483648), 2147483647), fun j => if j = 2 then (0, 400) else if j = 3 then (0, 400) else ((-2147483648), 2147483647), fun _ => (0, 400), fun _ => ((-2147483648), 2147483647), fun _ => (0, 12), fun _ => (0, 60), fun _ => (0, 60), fun _ => (0, 99), fun _ => (0, 9), fun _ => ((-2147483648), 2147483647), fun _ => (0, 580), fun j => if j = 2 then (0, 400) else if j = 3 then (0, 400) else ((-2147483648), 2147483647), fun _ => (0, 400), fun _ => ((-2147483648), 2147483647), fun _ => (0, 12), fun _ => (0, 60), fun _ => (0, 60), fun _ => (0, 99), fun _ => (0, 9), fun _ => ((-2147483648), 2147483647), fun _ => (0, 580), fun j => ((-2147483648), 2147483647), fun j => if j = 4 then (0, 40) else if j = 5 then (0, 40) else ((-2147483648), 2147483647), fun j => if j = 5 then (0, 20) else if j = 6 then (0, 100000) else ((-2147483648), 2147483647), fun _ => ((-128), 127), fun _ => ((-2147483648), 2147483647), fun _ => ((-2147483648), 2147483647), fun _ => ((-2147483648), 2147483647), fun _ => ((-2147483648), 2147483647), fun _ => ((-2147483648), 2147483647), fun _ => ((-2147483648), 2147483647), fun _ => ((-2147483648), 2147483647), fun _ => (0, 1), fun _ => ((-2147483648), 2147483647), fun _ => ((-2147483648), 2147483647), fun _ => ((-2147483648), 2147483647), fun _ => ((-2147483648), 2147483647), fun _ => ((-2147483648), 2147483647), fun _ => ((-2147483648), 2147483647), fun _ => (0, 1), fun _ => ((-2147483648), 2147483647), fun _ => ((-2147483648), 2147483647), fun _ => ((-2147483648), 2147483647), fun _ => ((-2147483648), 2147483647), fun _ => ((-2147483648), 2147483647), fun _ => ((-2147483648), 2147483647), fun _ => ((-2147483648), 2147483647), fun _ => ((-2147483648), 2147483647), fun _ => ((-2147483648), 2147483647), fun _ => ((-2147483648), 2147483647), fun _ => ((-2147483648), 2147483647), fun _ => ((-2147483648), 2147483647), fun _ => ((-2147483648), 2147483647), fun _ => ((-2147483648), 2147483647), fun _ => ((-2147483648), 2147483647), fun _ => ((-2147483648), 2147483647), fun _ => ((-2147483648), 2147483647), fun _ => ((-2147483648), 2147483647), fun j => if j = 1 then (0, 1600) else if j = 2 then (0, 4) else if j = 3 then ((-1), 1600) else if j = 4 then (0, 1600) else if j = 5 then (0, 1600) else if j = 7 then (0, 1600) else if j = 19 then (0, 5) else if j = 20 then (0, 160) else if j = 23 then (0, 40) else if j = 24 then ((-1), 200) else if j = 45 then (0, 3) else if j = 46 then (0, 4) else if j = 47 then (0, 6) else if j = 52 then (0, 3) else if j = 53 then (0, 4) else if j = 54 then (0, 6) else if j = 59 then (0, 400) else if j = 60 then (0, 12) else if j = 61 then (0, 60) else if j = 62 then (0, 60) else if j = 63 then (0, 99) else if j = 66 then (0, 400) else if j = 78 then (0, 40) else if j = 79 then (0, 40) else if j = 85 then (0, 20) else if j = 86 then (0, 100000) else ((-2147483648), 2147483647), fun _ => (0, 255), fun _ => ((-2147483648), 2147483647), fun _ => ((-2147483648), 2147483647), fun _ => ((-2147483648), 2147483647), fun _ => (0, 320), fun _ => ((-2147483648), 2147483647), fun _ => ((-2147483648), 2147483647), fun _ => (0, 320), fun _ => ((-2147483648), 2147483647), fun _ => ((-2147483648), 2147483647), fun _ => ((-2147483648), 2147483647), fun _ => ((-2147483648), 2147483647), fun _ => ((-2147483648), 2147483647), fun _ => ((-2147483648), 2147483647), fun _ => (0, 400), fun _ => ((-2147483648), 2147483647), fun _ => ((-2147483648), 2147483647), fun _ => ((-2147483648), 2147483647), fun _ => ((-2147483648), 2147483647), fun _ => ((-2147483648), 2147483647), fun _ => ((-2147483648), 2147483647), fun _ => ((-2147483648), 2147483647), fun _ => ((-2147483648), 2147483647), fun _ => ((-2147483648), 2147483647), fun _ => (0, 400), fun _ => (0, 12), fun _ => (0, 60), fun _ => (0, 60), fun _ => (0, 99), fun _ => (0, 9), fun _ => (0, 1), fun j => if 401 ≤ j then (0, 0) else (0, 1), fun _ => (0, 100000), fun _ => ((-2147483648), 2147483647), fun _ => ((-2147483648), 2147483647), fun _ => ((-2147483648), 2147483647), fun _ => (0, 1), fun _ => ((-2147483648), 2147483647), fun _ => ((-2147483648), 2147483647), fun _ => ((-2147483648), 2147483647), fun _ => (0, 1), fun _ => (0, 1), fun _ => ((-2147483648), 2147483647), fun j => if j % 16 = 0 then (-1, 3) else if j % 16 = 1 then (0, 2) else ((-2147483648), 2147483647), fun j => if j % 16 = 0 then (-1, 3) else if j % 16 = 1 then (0, 2) else ((-2147483648), 2147483647), fun _ => (0, 3), fun _ => (0, 2), fun _ => (0, 399), fun _ => ((-2147483648), 2147483647), fun _ => ((-2147483648), 2147483647), fun _ => (0, 1), fun j => if j % 16 = 0 then (-1, 3) else if j % 16 = 1 then (0, 2) else ((-2147483648), 2147483647)]
def loB (i j : Nat) : Int := ((bT[i]?).getD (fun _ => ((-2147483648), 2147483647)) j).1
def hiB (i j : Nat) : Int := ((bT[i]?).getD (fun _ => ((-2147483648), 2147483647)) j).2
theorem kd_0 : Ks[0]? = some (.inl (11, [2, 2, 35, 8, 9, 10, 11, 32, 33, 34, 36, 0, 0])) := by decide +kernel
theorem kd_1 : Ks[1]? = some (.inl (6, [13, 14, 15, 16, 17, 18, 19, 20, 21, 0, 0, 0, 0, 0, 0, 0, 0])) := by decide +kernel
theorem kd_2 : Ks[2]? = some (.inl (6, [23, 24, 25, 26, 27, 28, 29, 30, 31, 0, 0, 0, 0, 0, 0, 0, 0])) := by decide +kernel
theorem kd_3 : Ks[3]? = some (.inl (9, [35, 0, 0, 0, 0, 0, 1, 0, 0])) := by decide +kernel
theorem kd_4 : Ks[4]? = some (.inl (2, [6, 2, 0])) := by decide +kernel
theorem kd_5 : Ks[5]? = some (.inl (7, [6, 7, 37, 38, 39, 2, 0, 0, 0, 0])) := by decide +kernel
theorem kd_6 : Ks[6]? = some (.inl (3, [40, 41, 42, 0, 2])) := by decide +kernel
theorem kd_7 : Ks[7]? = some (.inl (0, [43, 0, 0, 0, 0, 0, 0, 0])) := by decide +kernel
theorem kd_8 : Ks[8]? = some (.inl (10, [44, 12, 22, 49, 50])) := by decide +kernel
theorem kd_9 : Ks[9]? = some (.inl (4, [51, 52, 0, 0])) := by decide +kernel
theorem kd_10 : Ks[10]? = some (.inr (1, 3)) := by decide +kernel
theorem kd_11 : Ks[11]? = some (.inr (1, 1200)) := by decide +kernel
theorem kd_12 : Ks[12]? = some (.inr (1, 4)) := by decide +kernel
theorem kd_13 : Ks[13]? = some (.inr (1, 4)) := by decide +kernel
theorem kd_14 : Ks[14]? = some (.inr (1, 4)) := by decide +kernel
theorem kd_15 : Ks[15]? = some (.inr (1, 4)) := by decide +kernel
theorem kd_16 : Ks[16]? = some (.inr (1, 3)) := by decide +kernel
theorem kd_17 : Ks[17]? = some (.inr (1, 580)) := by decide +kernel
theorem kd_18 : Ks[18]? = some (.inr (1, 7)) := by decide +kernel
theorem kd_19 : Ks[19]? = some (.inl (4, [53, 54, 0, 0])) := by decide +kernel
theorem kd_20 : Ks[20]? = some (.inr (1, 3)) := by decide +kernel
theorem kd_21 : Ks[21]? = some (.inr (1, 1200)) := by decide +kernel
theorem kd_22 : Ks[22]? = some (.inr (1, 4)) := by decide +kernel
theorem kd_23 : Ks[23]? = some (.inr (1, 4)) := by decide +kernel
theorem kd_24 : Ks[24]? = some (.inr (1, 4)) := by decide +kernel
theorem kd_25 : Ks[25]? = some (.inr (1, 4)) := by decide +kernel
theorem kd_26 : Ks[26]? = some (.inr (1, 3)) := by decide +kernel
theorem kd_27 : Ks[27]? = some (.inr (1, 580)) := by decide +kernel
theorem kd_28 : Ks[28]? = some (.inr (1, 7)) := by decide +kernel
theorem kd_29 : Ks[29]? = some (.inl (5, [55, 56, 57, 58, 59, 60, 0])) := by decide +kernel
theorem kd_30 : Ks[30]? = some (.inl (1, [61, 62, 63, 0, 0, 0])) := by decide +kernel
theorem kd_31 : Ks[31]? = some (.inl (8, [64, 65, 66, 67, 68, 0, 0])) := by decide +kernel
theorem kd_32 : Ks[32]? = some (.inr (0, 1600)) := by decide +kernel
theorem kd_33 : Ks[33]? = some (.inr (1, 400)) := by decide +kernel
theorem kd_34 : Ks[34]? = some (.inr (2, 3)) := by decide +kernel
theorem kd_35 : Ks[35]? = some (.inr (2, 4)) := by decide +kernel
theorem kd_36 : Ks[36]? = some (.inr (2, 6)) := by decide +kernel
theorem kd_37 : Ks[37]? = some (.inr (1, 1200)) := by decide +kernel
theorem kd_38 : Ks[38]? = some (.inr (1, 3)) := by decide +kernel
theorem kd_39 : Ks[39]? = some (.inr (1, 100)) := by decide +kernel
theorem kd_40 : Ks[40]? = some (.inr (3, 400)) := by decide +kernel
theorem kd_41 : Ks[41]? = some (.inr (4, 4)) := by decide +kernel
theorem kd_42 : Ks[42]? = some (.inr (1, 402)) := by decide +kernel
theorem kd_43 : Ks[43]? = some (.inr (1, 402)) := by decide +kernel
theorem kd_44 : Ks[44]? = some (.inr (1, 402)) := by decide +kernel
theorem kd_45 : Ks[45]? = some (.inr (1, 402)) := by decide +kernel
theorem kd_46 : Ks[46]? = some (.inr (1, 64)) := by decide +kernel
theorem kd_47 : Ks[47]? = some (.inr (3, 64)) := by decide +kernel
theorem kd_48 : Ks[48]? = some (.inr (1, 400)) := by decide +kernel
theorem kd_49 : Ks[49]? = some (.inr (1, 400)) := by decide +kernel
theorem kd_50 : Ks[50]? = some (.inr (1, 400)) := by decide +kernel
theorem kd_51 : Ks[51]? = some (.inr (1, 400)) := by decide +kernel
theorem kd_52 : Ks[52]? = some (.inr (2, 404)) := by decide +kernel
theorem kd_53 : Ks[53]? = some (.inr (2, 404)) := by decide +kernel
theorem kd_54 : Ks[54]? = some (.inr (2, 404)) := by decide +kernel
theorem kd_55 : Ks[55]? = some (.inr (2, 404)) := by decide +kernel
theorem kd_56 : Ks[56]? = some (.inr (2, 404)) := by decide +kernel
theorem kd_57 : Ks[57]? = some (.inr (2, 404)) := by decide +kernel
theorem kd_58 : Ks[58]? = some (.inr (1, 10)) := by decide +kernel
theorem kd_59 : Ks[59]? = some (.inr (1, 410)) := by decide +kernel
theorem kd_60 : Ks[60]? = some (.inr (1, 30)) := by decide +kernel
theorem kd_61 : Ks[61]? = some (.inr (1, 20)) := by decide +kernel
theorem kd_62 : Ks[62]? = some (.inr (1, 20)) := by decide +kernel
theorem kd_63 : Ks[63]? = some (.inr (1, 20)) := by decide +kernel
theorem kd_64 : Ks[64]? = some (.inr (1, 20)) := by decide +kernel
theorem kd_65 : Ks[65]? = some (.inr (1, 20)) := by decide +kernel
theorem kd_66 : Ks[66]? = some (.inl (12, [70, 0, 0, 0, 0, 0, 0, 0, 0, 1, 71, 72, 73, 74, 75, 76, 77, 78, 79, 0, 0, 0, 0, 0, 0, 80, 81, 82, 83, 84, 85, 86, 87, 88, 89, 90, 91, 92, 93, 94, 95, 96, 97, 98, 99, 0, 0, 0, 0, 0, 0, 0, 0, 0, 0, 0, 0, 100, 101, 0, 0, 0, 0, 0, 102, 103, 0, 104, 105, 106, 107, 108, 109, 110, 111, 112, 113, 114, 0, 0, 115, 116, 117, 118, 119, 0, 0, 120, 121])) := by decide +kernel
theorem kd_67 : Ks[67]? = some (.inr (1, 1600)) := by decide +kernel
theorem kd_68 : Ks[68]? = some (.inr (2, 16)) := by decide +kernel
theorem kd_69 : Ks[69]? = some (.inr (1, 1920)) := by decide +kernel
theorem kd_70 : Ks[70]? = some (.inr (1, 1920)) := by decide +kernel
theorem kd_71 : Ks[71]? = some (.inr (1, 6)) := by decide +kernel
theorem kd_72 : Ks[72]? = some (.inr (1, 1920)) := by decide +kernel
theorem kd_73 : Ks[73]? = some (.inr (1, 1920)) := by decide +kernel
theorem kd_74 : Ks[74]? = some (.inr (1, 6)) := by decide +kernel
theorem kd_75 : Ks[75]? = some (.inr (1, 160)) := by decide +kernel
theorem kd_76 : Ks[76]? = some (.inr (1, 64)) := by decide +kernel
theorem kd_77 : Ks[77]? = some (.inr (1, 1200)) := by decide +kernel
theorem kd_78 : Ks[78]? = some (.inr (1, 1200)) := by decide +kernel
theorem kd_79 : Ks[79]? = some (.inr (1, 1200)) := by decide +kernel
theorem kd_80 : Ks[80]? = some (.inr (1, 1200)) := by decide +kernel
theorem kd_81 : Ks[81]? = some (.inr (1, 3)) := by decide +kernel
theorem kd_82 : Ks[82]? = some (.inr (1, 4)) := by decide +kernel
theorem kd_83 : Ks[83]? = some (.inr (1, 4)) := by decide +kernel
theorem kd_84 : Ks[84]? = some (.inr (1, 4)) := by decide +kernel
theorem kd_85 : Ks[85]? = some (.inr (1, 4)) := by decide +kernel
theorem kd_86 : Ks[86]? = some (.inr (1, 3)) := by decide +kernel
theorem kd_87 : Ks[87]? = some (.inr (1, 1200)) := by decide +kernel
theorem kd_88 : Ks[88]? = some (.inr (1, 1200)) := by decide +kernel
theorem kd_89 : Ks[89]? = some (.inr (1, 1200)) := by decide +kernel
theorem kd_90 : Ks[90]? = some (.inr (1, 1200)) := by decide +kernel
theorem kd_91 : Ks[91]? = some (.inr (1, 3)) := by decide +kernel
theorem kd_92 : Ks[92]? = some (.inr (1, 4)) := by decide +kernel
theorem kd_93 : Ks[93]? = some (.inr (1, 4)) := by decide +kernel
theorem kd_94 : Ks[94]? = some (.inr (1, 4)) := by decide +kernel
theorem kd_95 : Ks[95]? = some (.inr (1, 4)) := by decide +kernel
theorem kd_96 : Ks[96]? = some (.inr (1, 3)) := by decide +kernel
theorem kd_97 : Ks[97]? = some (.inr (3, 400)) := by decide +kernel
theorem kd_98 : Ks[98]? = some (.inr (3, 512)) := by decide +kernel
theorem kd_99 : Ks[99]? = some (.inr (1, 2400)) := by decide +kernel
theorem kd_100 : Ks[100]? = some (.inr (1, 400)) := by decide +kernel
theorem kd_101 : Ks[101]? = some (.inr (2, 1024)) := by decide +kernel
theorem kd_102 : Ks[102]? = some (.inr (2, 1024)) := by decide +kernel
theorem kd_103 : Ks[103]? = some (.inr (3, 512)) := by decide +kernel
theorem kd_104 : Ks[104]? = some (.inr (1, 1024)) := by decide +kernel
theorem kd_105 : Ks[105]? = some (.inr (1, 1024)) := by decide +kernel
theorem kd_106 : Ks[106]? = some (.inr (2, 4096)) := by decide +kernel
theorem kd_107 : Ks[107]? = some (.inr (3, 64)) := by decide +kernel
theorem kd_108 : Ks[108]? = some (.inr (3, 64)) := by decide +kernel
theorem kd_109 : Ks[109]? = some (.inr (1, 64)) := by decide +kernel
theorem kd_110 : Ks[110]? = some (.inr (1, 16)) := by decide +kernel
theorem kd_111 : Ks[111]? = some (.inr (1, 640)) := by decide +kernel
theorem kd_112 : Ks[112]? = some (.inr (1, 20)) := by decide +kernel
theorem kd_113 : Ks[113]? = some (.inr (1, 20)) := by decide +kernel
theorem kd_114 : Ks[114]? = some (.inr (1, 20)) := by decide +kernel
theorem kd_115 : Ks[115]? = some (.inr (1, 20)) := by decide +kernel
theorem kd_116 : Ks[116]? = some (.inr (1, 20)) := by decide +kernel
theorem kd_117 : Ks[117]? = some (.inr (3, 3)) := by decide +kernel
theorem kd_118 : Ks[118]? = some (.inr (1, 48)) := by decide +kernel
def sTx0 : String := "street  walker  foot    step    to      leap    rule    slip    hand    slack   draw    joint   red     broken  drain   shade   or      and     not     long    nth     inch    day     "
def sTx1 : String := ";()<>=+-*/%"
def sLen : List Nat := [184, 11]
def sByt : List (List Int32) := [[115, 116, 114, 101, 101, 116, 32, 32, 119, 97, 108, 107, 101, 114, 32, 32, 102, 111, 111, 116, 32, 32, 32, 32, 115, 116, 101, 112, 32, 32, 32, 32, 116, 111, 32, 32, 32, 32, 32, 32, 108, 101, 97, 112, 32, 32, 32, 32, 114, 117, 108, 101, 32, 32, 32, 32, 115, 108, 105, 112, 32, 32, 32, 32, 104, 97, 110, 100, 32, 32, 32, 32, 115, 108, 97, 99, 107, 32, 32, 32, 100, 114, 97, 119, 32, 32, 32, 32, 106, 111, 105, 110, 116, 32, 32, 32, 114, 101, 100, 32, 32, 32, 32, 32, 98, 114, 111, 107, 101, 110, 32, 32, 100, 114, 97, 105, 110, 32, 32, 32, 115, 104, 97, 100, 101, 32, 32, 32, 111, 114, 32, 32, 32, 32, 32, 32, 97, 110, 100, 32, 32, 32, 32, 32, 110, 111, 116, 32, 32, 32, 32, 32, 108, 111, 110, 103, 32, 32, 32, 32, 110, 116, 104, 32, 32, 32, 32, 32, 105, 110, 99, 104, 32, 32, 32, 32, 100, 97, 121, 32, 32, 32, 32, 32], [59, 40, 41, 60, 62, 61, 43, 45, 42, 47, 37]]
def u2 {α : Type} (f : Nat → Nat → α) (i j : Nat) (v : α) : Nat → Nat → α := fun i' j' => if i' = i then (if j' = j then v else f i' j') else f i' j'
theorem u2_ne {α : Type} {f : Nat → Nat → α} {i j i' : Nat} {v : α} (h : i' ≠ i) : u2 f i j v i' = f i' := by
  funext j'
  simp [u2, h]
theorem u2_at {α : Type} {f : Nat → Nat → α} {i j : Nat} {v : α} : u2 f i j v i j = v := by simp [u2]
theorem u2_nj {α : Type} {f : Nat → Nat → α} {i j j' : Nat} {v : α} (h : j' ≠ j) : u2 f i j v i j' = f i j' := by simp [u2, h]
theorem u2_ni {α : Type} {f : Nat → Nat → α} {i j i' j' : Nat} {v : α} (h : i' ≠ i) : u2 f i j v i' j' = f i' j' := by simp [u2, h]
theorem u2_row {f : Nat → Nat → Int32} {i j : Nat} {v : Int32} : u2 f i j v i = upd (f i) j v := by
  funext j'
  simp [u2, upd]
theorem u2_rowl {f : Nat → Nat → Int64} {i j : Nat} {v : Int64} : u2 f i j v i = vp_updL (f i) j v := by
  funext j'
  simp [u2, vp_updL]
/-- a whole row anew -/
def uR {α : Type} (f : Nat → Nat → α) (i : Nat) (r : Nat → α) : Nat → Nat → α := fun i' => if i' = i then r else f i'
theorem uR_ne {α : Type} {f : Nat → Nat → α} {i i' : Nat} {r : Nat → α} (h : i' ≠ i) : uR f i r i' = f i' := by simp [uR, h]
theorem uR_at {α : Type} {f : Nat → Nat → α} {i : Nat} {r : Nat → α} : uR f i r i = r := by simp [uR]
def fV (a : Nat → Nat) (G : GS) (i : Nat) : Nat → Nat → Value
  | 0, j => .int (G.1 i j)
  | 1, j => .long (G.2.1 i j)
  | 2, j => .ref (a (G.2.2 i j))
  | n + 3, _ => .ref (a n)
def fL (a : Nat → Nat) (G : GS) (i : Nat) : List Nat → Nat → List Value
  | [], _ => []
  | c :: cs, j => fV a G i c j :: fL a G i cs (j + 1)
def aC (k : KT) : Nat → ClassId
  | 0 => k.1
  | 1 => k.2.1
  | 2 => k.2.2.1
  | 3 => k.2.2.2.1
  | _ => k.2.2.2.2
def aX (a : Nat → Nat) (G : GS) (i : Nat) : Nat → ((Nat → Int32) ⊕ (Nat → Int64) ⊕ (Nat → UInt32) ⊕ (Nat → UInt64) ⊕ (Nat → Option Nat))
  | 2 => .inr (.inl (G.2.1 i))
  | 4 => .inr (.inr (.inr (.inr (fun j => some (a (G.2.2 i j))))))
  | _ => .inl (G.1 i)
def cE (k : KT) (a : Nat → Nat) (G : GS) (i : Nat) : Kd → va_E
  | .inl o => .inr (o.1, fL a G i o.2 0)
  | .inr q => .inl (aC k q.1, q.2, aX a G i q.1)
def wG (k : KT) (a : Nat → Nat) (G : GS) : List Kd → Nat → va_W
  | [], _ => []
  | q :: qs, i => (a i, cE k a G i q) :: wG k a G qs (i + 1)
def Ws (k : KT) (a : Nat → Nat) (G : GS) : va_W := wG k a G Ks 0
theorem wG_at {k : KT} {a : Nat → Nat} {G : GS} : ∀ (qs : List Kd) (b i : Nat), (wG k a G qs b)[i]? = (qs[i]?).map (fun q => (a (b + i), cE k a G (b + i) q))
  | [], b, i => by simp [wG]
  | q :: qs, b, 0 => by simp [wG]
  | q :: qs, b, i + 1 => by
    simp only [wG, List.getElem?_cons_succ]
    rw [wG_at qs (b + 1) i, show b + 1 + i = b + (i + 1) by omega]
theorem Ws_at {k : KT} {a : Nat → Nat} {G : GS} {i : Nat} {q : Kd} (h : Ks[i]? = some q) : (Ws k a G)[i]? = some (a i, cE k a G i q) := by
  unfold Ws
  rw [wG_at, h]
  simp
theorem Ws_no {k : KT} {a : Nat → Nat} {G : GS} {i : Nat} (h : Ks[i]? = none) : (Ws k a G)[i]? = none := by
  unfold Ws
  rw [wG_at, h]
  simp
def Rw (G G' : GS) (i : Nat) : Prop := G'.1 i = G.1 i ∧ G'.2.1 i = G.2.1 i ∧ G'.2.2 i = G.2.2 i
theorem fV_row {a : Nat → Nat} {G G' : GS} {i : Nat} (h : Rw G G' i) : ∀ c j, fV a G' i c j = fV a G i c j
  | 0, j => by simp [fV, h.1]
  | 1, j => by simp [fV, h.2.1]
  | 2, j => by simp [fV, h.2.2]
  | n + 3, j => rfl
theorem fL_row {a : Nat → Nat} {G G' : GS} {i : Nat} (h : Rw G G' i) : ∀ (cs : List Nat) (j : Nat), fL a G' i cs j = fL a G i cs j
  | [], _ => rfl
  | c :: cs, j => by rw [fL, fL, fV_row h, fL_row h cs]
theorem cE_row {k : KT} {a : Nat → Nat} {G G' : GS} {i : Nat} (h : Rw G G' i) : ∀ q, cE k a G' i q = cE k a G i q
  | .inl o => by rw [cE, cE, fL_row h]
  | .inr q => by
    obtain ⟨ty, n⟩ := q
    rw [cE, cE]
    have : aX a G' i ty = aX a G i ty := by
      unfold aX
      split
      · rw [h.2.1]
      · rw [h.2.2]
      · rw [h.1]
    rw [this]
theorem Ws_set {k : KT} {a : Nat → Nat} {G G' : GS} {i : Nat} {q : Kd} (h : Ks[i]? = some q) (hx : ∀ i', i' ≠ i → Rw G G' i') : (Ws k a G).set i (a i, cE k a G' i q) = Ws k a G' := by
  apply List.ext_getElem?
  intro n
  by_cases hn : n = i
  · subst hn
    rw [Ws_at h, List.getElem?_set_self (List.getElem?_eq_some_iff.mp (Ws_at (k := k) (a := a) (G := G) h)).1]
  · rw [List.getElem?_set_ne (fun e => hn e.symm)]
    cases hq : Ks[n]? with
    | none => rw [Ws_no hq, Ws_no hq]
    | some q' => rw [Ws_at hq, Ws_at hq, cE_row (hx n hn)]
theorem fL_at {a : Nat → Nat} {G : GS} {i : Nat} : ∀ (cs : List Nat) (b j : Nat), (fL a G i cs b)[j]? = (cs[j]?).map (fun c => fV a G i c (b + j))
  | [], b, j => by simp [fL]
  | c :: cs, b, 0 => by simp [fL]
  | c :: cs, b, j + 1 => by
    simp only [fL, List.getElem?_cons_succ]
    rw [fL_at cs (b + 1) j, show b + 1 + j = b + (j + 1) by omega]
theorem fL_get {a : Nat → Nat} {G : GS} {i j c : Nat} {cs : List Nat} (h : cs[j]? = some c) : (fL a G i cs 0)[j]? = some (fV a G i c j) := by
  rw [fL_at, h]
  simp
theorem fL_set {a : Nat → Nat} {G G' : GS} {i j c : Nat} {cs : List Nat} (h : cs[j]? = some c) (hx : ∀ j', j' ≠ j → ∀ c, fV a G' i c j' = fV a G i c j') : (fL a G i cs 0).set j (fV a G' i c j) = fL a G' i cs 0 := by
  apply List.ext_getElem?
  intro n
  by_cases hn : n = j
  · subst hn
    rw [fL_get h, List.getElem?_set_self (List.getElem?_eq_some_iff.mp (fL_get (a := a) (G := G) (i := i) h)).1]
  · rw [List.getElem?_set_ne (fun e => hn e.symm), fL_at, fL_at]
    cases hq : cs[n]? with
    | none => rfl
    | some c' => simp [hx n hn]
/-- the heap holds the state -/
def Wd (D : va_G) (k : KT) (A : Nat → Prop) (a : Nat → Nat) (G : GS) (H : Heap) : Prop := va_P D classes (Ws k a G) H ∧ va_D A (Ws k a G)
/-! what holds between numbers -/
def rbq (i j : Nat) : Bool := match i with
  | 1 => j == 10
  | 2 => j == 10
  | 12 => true
  | 13 => true
  | 14 => true
  | 22 => true
  | 23 => true
  | 24 => true
  | _ => false
def RBP (P : Nat) (f : Nat → Nat → Int32) : Prop := ∀ w : Nat, (w : Int) < (f P 10).toInt → 1 ≤ (f (10 * P + 2) w).toInt ∧ (f (10 * P + 3) w).toInt ≤ (f (10 * P + 4) w).toInt
def RBr (r : Nat → Nat → Nat) : Prop := (r 0 0 = 1 ∨ r 0 0 = 2) ∧ (r 0 1 = 1 ∨ r 0 1 = 2) ∧ (r 4 1 = 1 ∨ r 4 1 = 2) ∧ (r 5 5 = 1 ∨ r 5 5 = 2) ∧ (r 6 4 = 1 ∨ r 6 4 = 2) ∧ ∀ j, j < 4 → r 41 j = 42 + j
def RB (G : GS) : Prop := RBr G.2.2 ∧ RBP 1 G.1 ∧ RBP 2 G.1
theorem RBP.congr {f f1 : Nat → Nat → Int32} (he : ∀ i j, rbq i j = true → f1 i j = f i j) (h1 : RBP 1 f) (h2 : RBP 2 f) : RBP 1 f1 ∧ RBP 2 f1 := by
  refine ⟨fun w hw => ?_, fun w hw => ?_⟩
  · rw [he 1 10 rfl] at hw
    rw [show f1 (10 * 1 + 2) w = f (10 * 1 + 2) w from he 12 w rfl, show f1 (10 * 1 + 3) w = f (10 * 1 + 3) w from he 13 w rfl, show f1 (10 * 1 + 4) w = f (10 * 1 + 4) w from he 14 w rfl]
    exact h1 w hw
  · rw [he 2 10 rfl] at hw
    rw [show f1 (10 * 2 + 2) w = f (10 * 2 + 2) w from he 22 w rfl, show f1 (10 * 2 + 3) w = f (10 * 2 + 3) w from he 23 w rfl, show f1 (10 * 2 + 4) w = f (10 * 2 + 4) w from he 24 w rfl]
    exact h2 w hw
theorem RB.congr {G G1 : GS} (h : RB G) (he : ∀ i j, rbq i j = true → G1.1 i j = G.1 i j) (hr : G1.2.2 = G.2.2) : RB G1 := ⟨by rw [hr]; exact h.1, RBP.congr he h.2.1 h.2.2⟩
def Bd (G : GS) : Prop := (∀ i j, loB i j ≤ (G.1 i j).toInt ∧ (G.1 i j).toInt ≤ hiB i j) ∧ RB G
theorem Bd.i {G : GS} (h : Bd G) (i j : Nat) {lo hi : Int} (h1 : loB i j = lo) (h2 : hiB i j = hi) : lo ≤ (G.1 i j).toInt ∧ (G.1 i j).toInt ≤ hi := by
  have := h.1 i j
  rw [h1, h2] at this
  exact this
theorem Bd.up {G : GS} (h : Bd G) {i j : Nat} {v : Int32} (h1 : loB i j ≤ v.toInt) (h2 : v.toInt ≤ hiB i j) (hr : RB (u2 G.1 i j v, G.2)) : Bd (u2 G.1 i j v, G.2) := by
  refine ⟨fun i' j' => ?_, hr⟩
  by_cases hi : i' = i
  · by_cases hj : j' = j
    · subst hi; subst hj
      rw [show (u2 G.1 i' j' v, G.2).1 i' j' = v from u2_at]
      exact ⟨h1, h2⟩
    · subst hi
      rw [show (u2 G.1 i' j v, G.2).1 i' j' = G.1 i' j' from u2_nj hj]
      exact h.1 i' j'
  · rw [show (u2 G.1 i j v, G.2).1 i' j' = G.1 i' j' from u2_ni hi]
    exact h.1 i' j'
theorem Bd.upR {G : GS} (h : Bd G) {i : Nat} {r : Nat → Int32} (h1 : ∀ j, loB i j ≤ (r j).toInt ∧ (r j).toInt ≤ hiB i j) (hr : RB (uR G.1 i r, G.2)) : Bd (uR G.1 i r, G.2) := by
  refine ⟨fun i' j' => ?_, hr⟩
  by_cases hi : i' = i
  · subst hi
    rw [show (uR G.1 i' r, G.2).1 i' = r from uR_at]
    exact h1 j'
  · rw [show (uR G.1 i r, G.2).1 i' = G.1 i' from uR_ne hi]
    exact h.1 i' j'
/-- the String constants, and that they're not among what is written -/
abbrev SK : Type := (Nat → Nat) × (Nat → Nat)
def Sx (A : Nat → Prop) (z : SK) (U : State) : Prop := vk_S 2 sLen sByt z.1 z.2 A U U.heap ∧ vk_R RX9 76 sTx0 (z.1 0) U ∧ vk_R RX9 60 sTx1 (z.1 1) U ∧ va_Z "java/lang/String" "COMPACT_STRINGS" "Z" (.int 1) A U U.heap ∧ va_Zq "jdk/internal/util/Preconditions" "SIOOBE_FORMATTER" "Ljava/util/function/BiFunction;" A U U.heap
def cK (D : va_G) (k : KT) (U : State) : Prop := va_K D classes (TY5 k) U ∧ cX U
/-- where a contract starts -/
def cW (D : va_G) (k : KT) (A : Nat → Prop) (a : Nat → Nat) (z : SK) (G : GS) (U : State) : Prop := Wd D k A a G U.heap ∧ Bd G ∧ cK D k U ∧ Sx A z U
theorem cK.warm {D : va_G} {k : KT} {s U : State} (hW : s.WarmedH U.vm) (h : cK D k s) : cK D k U := ⟨va_K.moved hW.alike h.1, h.2.warm hW⟩
theorem Sx.go {A : Nat → Prop} {z : SK} {s U : State} {H : Heap} {locs : List Loc} (h : Sx A z s) (hS : va_S A s.heap H locs) (hU : U.heap = H) (hW : s.WarmedH U.vm) : Sx A z U := by
  refine ⟨?_, h.2.1.warm hW, h.2.2.1.warm hW, ?_, ?_⟩
  · rw [hU]
    exact (h.1.kept hS.2.1).moved hW.alike
  · rw [hU]
    exact (h.2.2.2.1.kept hS.2.1).moved hW.alike
  · rw [hU]
    exact (h.2.2.2.2.kept hS.2.1).moved hW.alike
theorem cW_blind {D : va_G} {k : KT} {A : Nat → Prop} {a : Nat → Nat} {z : SK} {G : GS} {av : List Value} : FrameBlind (va_Pc av (cW D k A a z G)) := fun a9 U g mk q => by
  obtain ⟨q0, q1, q2, ⟨qK, qX⟩, q3, q4, q5, q6, q7⟩ := q
  exact ⟨q0, q1, q2, ⟨va_K.moved (u := U) (U := U.calling g mk a9) (Vm.Alike.refl U.vm) qK, qX.calling⟩, vk_S.moved (u := U) (U := U.calling g mk a9) (Vm.Alike.refl U.vm) q3, vk_R.same (u := U) rfl q4, vk_R.same (u := U) rfl q5, va_Z.moved (u := U) (U := U.calling g mk a9) (Vm.Alike.refl U.vm) q6, va_Zq.moved (u := U) (U := U.calling g mk a9) (Vm.Alike.refl U.vm) q7⟩
theorem pre_S {D : va_G} {k : KT} {A : Nat → Prop} {a : Nat → Nat} {z : SK} {G : GS} {As : List Value} {s : State} {H : Heap} {locs : List Loc} (hW : Wd D k A a G H) (hB : Bd G) (hK : cK D k s) (hZ : Sx A z s) (hS : va_S A s.heap H locs) : PreS s H (va_Pc As (cW D k A a z G)) As :=
  ⟨cW_blind, fun U hU hw => ⟨rfl, by rw [hU]; exact hW, hB, hK.warm hw, hZ.go hS hU hw⟩⟩
theorem pre_V {D : va_G} {k : KT} {A : Nat → Prop} {a : Nat → Nat} {z : SK} {G : GS} {As : List Value} {s : State} {H : Heap} {locs : List Loc} (hW : Wd D k A a G H) (hB : Bd G) (hK : cK D k s) (hZ : Sx A z s) (hS : va_S A s.heap H locs) {i ci : Nat} {sp : List Nat} {q : vw_C} (hi : Ks[i]? = some (.inl (ci, sp))) (hc : classes[ci]? = some q) : PreV s H q.1 (a i) (va_Pc (.ref (a i) :: As) (cW D k A a z G)) As :=
  ⟨cW_blind, va_recv hK.1 hW.1 hc (Ws_at hi), fun U hU hw => ⟨rfl, by rw [hU]; exact hW, hB, hK.warm hw, hZ.go hS hU hw⟩⟩
theorem pre_VS {D : va_G} {k : KT} {A : Nat → Prop} {a : Nat → Nat} {z : SK} {G : GS} {As : List Value} {s : State} {H : Heap} {locs : List Loc} (hW : Wd D k A a G H) (hB : Bd G) (hK : cK D k s) (hZ : Sx A z s) (hS : va_S A s.heap H locs) (i : Nat) (hi : i < 2) : PreV s H "java/lang/String" (z.1 i) (va_Pc (.ref (z.1 i) :: As) (cW D k A a z G)) As :=
  ⟨cW_blind, vk_recv hZ.1 hi hS, fun U hU hw => ⟨rfl, by rw [hU]; exact hW, hB, hK.warm hw, hZ.go hS hU hw⟩⟩
