theorem sy_1 (n : Nat) {a b : Nat} (h : a ≤ b) : a ≤ n + b := Nat.le_trans h (Nat.le_add_left b n)
theorem sy_2 (n : Nat) {a b : Nat} (h : a + 1 ≤ b) : n + a + 1 ≤ n + b := by omega
theorem sy_3 (n : Nat) {a b c : Nat} (h : 8 + (a + 11) + c ≤ b) : 8 + (a + 11) + (n + c) ≤ n + b := by omega
theorem ok_0 {a b : Int} (h0 : a ≤ 3) (h1 : b < a) (h2 : 3 ≤ b) : False := by omega
theorem ok_1 {a b : Int} (h0 : a ≤ 4) (h1 : b < a) (h2 : 4 ≤ b) : False := by omega
theorem ok_2 {a b : Int} (h0 : a ≤ 6) (h1 : b < a) (h2 : 6 ≤ b) : False := by omega
theorem ok_3 {a b c : Int} (h0 : 0 ≤ b) (h1 : b ≤ 1) (h2 : (b = 1) → ((0 ≤ a) ∧ ((a < 3) ∧ (a < c)))) (h3 : b ≠ 0) : 0 ≤ a := by omega
theorem ok_4 {a b c : Int} (h0 : 0 ≤ b) (h1 : b ≤ 1) (h2 : (b = 1) → ((0 ≤ a) ∧ ((a < 3) ∧ (a < c)))) (h3 : b ≠ 0) : a < ((3 : Nat) : Int) := by omega
theorem ok_5 {a b c : Int} (h0 : 0 ≤ b) (h1 : b ≤ 1) (h2 : (b = 1) → ((0 ≤ a) ∧ ((a < 4) ∧ (a < c)))) (h3 : b ≠ 0) : 0 ≤ a := by omega
theorem ok_6 {a b c : Int} (h0 : 0 ≤ b) (h1 : b ≤ 1) (h2 : (b = 1) → ((0 ≤ a) ∧ ((a < 4) ∧ (a < c)))) (h3 : b ≠ 0) : a < ((4 : Nat) : Int) := by omega
theorem ok_7 {a b : Int} (h0 : 0 ≤ a) (h1 : b ≤ 12) : (-2147483648) ≤ a - b := by omega
theorem ok_8 {a b : Int} (h0 : a ≤ 400) (h1 : 1 ≤ b) : a - b ≤ 2147483647 := by omega
theorem ok_9 {a b c : Int} (h0 : 0 ≤ b) (h1 : b ≤ 1) (h2 : (b = 1) → ((0 ≤ a) ∧ ((a < 3) ∧ ((0 ≤ c) ∧ (c < 400))))) (h3 : b ≠ 0) : (-2147483648) ≤ a * 400 := by omega
theorem ok_10 {a b c : Int} (h0 : 0 ≤ b) (h1 : b ≤ 1) (h2 : (b = 1) → ((0 ≤ a) ∧ ((a < 3) ∧ ((0 ≤ c) ∧ (c < 400))))) (h3 : b ≠ 0) : a * 400 ≤ 2147483647 := by omega
theorem ok_11 {a b c d : Int} (h0 : 0 ≤ c) (h1 : c ≤ 1) (h2 : (c = 1) → ((0 ≤ d) ∧ ((d < 3) ∧ ((0 ≤ b) ∧ (b < 400))))) (h3 : c ≠ 0) (h4 : a = d * 400) : (-2147483648) ≤ a + b := by omega
theorem ok_12 {a b c d : Int} (h0 : 0 ≤ c) (h1 : c ≤ 1) (h2 : (c = 1) → ((0 ≤ d) ∧ ((d < 3) ∧ ((0 ≤ b) ∧ (b < 400))))) (h3 : c ≠ 0) (h4 : a = d * 400) : a + b ≤ 2147483647 := by omega
theorem ok_13 {a b c d e : Int} (h0 : 0 ≤ b) (h1 : b ≤ 1) (h2 : (b = 1) → ((0 ≤ c) ∧ ((c < 3) ∧ ((0 ≤ d) ∧ (d < 400))))) (h3 : b ≠ 0) (h4 : e = c * 400) (h5 : a = e + d) : 0 ≤ a := by omega
theorem ok_14 {a b c d e : Int} (h0 : 0 ≤ b) (h1 : b ≤ 1) (h2 : (b = 1) → ((0 ≤ c) ∧ ((c < 3) ∧ ((0 ≤ d) ∧ (d < 400))))) (h3 : b ≠ 0) (h4 : e = c * 400) (h5 : a = e + d) : a < ((1200 : Nat) : Int) := by omega
theorem ok_15 {a b : Int} (h0 : 0 ≤ a) (h1 : 0 ≤ b) : (-2147483648) ≤ a + b := by omega
theorem ok_16 {a b : Int} (h0 : a ≤ 9) (h1 : b ≤ 9) : a + b ≤ 2147483647 := by omega
theorem ok_17 {a b c d : Int} (h0 : 0 ≤ c) (h1 : 0 ≤ d) (h2 : a = c + d) (h3 : 0 ≤ b) : (-2147483648) ≤ a + b := by omega
theorem ok_18 {a b c d : Int} (h0 : c ≤ 9) (h1 : d ≤ 9) (h2 : a = c + d) (h3 : b ≤ 9) : a + b ≤ 2147483647 := by omega
theorem ok_19 {a b c d e : Int} (h0 : 0 ≤ b) (h1 : 0 ≤ c) (h2 : d = b + c) (h3 : 0 ≤ e) (h4 : a = d + e) : 0 ≤ a := by omega
theorem ok_20 {a b c d e : Int} (h0 : b ≤ 9) (h1 : c ≤ 9) (h2 : d = b + c) (h3 : e ≤ 9) (h4 : a = d + e) : a ≤ 27 := by omega
theorem ok_21 {a : Int} (h0 : 0 ≤ a) : (-2147483648) ≤ a + 1 := by omega
theorem ok_22 {a : Int} (h0 : a ≤ 580) : a + 1 ≤ 2147483647 := by omega
theorem ok_23 {a b : Int} (h0 : 0 ≤ b) (h1 : a = b + 1) : 0 ≤ a := by omega
theorem ok_24 {a b : Int} (h0 : b ≤ 580) (h1 : b < 580) (h2 : a = b + 1) : a ≤ 580 := by omega
theorem ok_25 {a : Int} (h0 : a ≤ 580) (h1 : a < 580) : a < ((580 : Nat) : Int) := by omega
theorem ok_26 {a : Int} (h0 : a ≤ 3) (h1 : a < 3) : a < ((3 : Nat) : Int) := by omega
theorem ok_27 {a b : Int} (h0 : 0 ≤ b) (h1 : 0 ≤ a) : (-2147483648) ≤ a + b := by omega
theorem ok_28 {a b : Int} (h0 : b ≤ 60) (h1 : a ≤ 400) : a + b ≤ 2147483647 := by omega
theorem ok_29 {a b c d : Int} (h0 : 0 ≤ b) (h1 : 0 ≤ c) (h2 : d = c + b) (h3 : ((a = d) ∧ (d ≤ 400)) ∨ ((a = 400) ∧ (400 < d))) : 0 ≤ a := by omega
theorem ok_30 {a b : Int} (h0 : ((a = b) ∧ (b ≤ 400)) ∨ ((a = 400) ∧ (400 < b))) : a ≤ 400 := by omega
theorem ok_31 {a b : Int} (h0 : a ≤ 400) (h1 : b ≤ 400) : a + b ≤ 2147483647 := by omega
theorem ok_32 {a : Int} (h0 : 0 ≤ a) : (-2147483648) ≤ a * 400 := by omega
theorem ok_33 {a : Int} (h0 : a ≤ 3) : a * 400 ≤ 2147483647 := by omega
theorem ok_34 {a b c : Int} (h0 : 0 ≤ c) (h1 : 0 ≤ b) (h2 : a = c * 400) : (-2147483648) ≤ a + b := by omega
theorem ok_35 {a b c : Int} (h0 : c < 3) (h1 : b ≤ 400) (h2 : a = c * 400) : a + b ≤ 2147483647 := by omega
theorem ok_36 {a b c d e : Int} (h0 : 0 ≤ c) (h1 : 0 ≤ d) (h2 : 0 ≤ b) (h3 : e = c * 400) (h4 : a = e + d) : (-2147483648) ≤ a + b := by omega
theorem ok_37 {a b c d e f : Int} (h0 : c ≤ 3) (h1 : d = e + b) (h2 : d < 400) (h3 : f = c * 400) (h4 : a = f + e) : a + b ≤ 2147483647 := by omega
theorem ok_38 {a b c d e f : Int} (h0 : 0 ≤ b) (h1 : 0 ≤ c) (h2 : 0 ≤ d) (h3 : e = b * 400) (h4 : f = e + c) (h5 : a = f + d) : 0 ≤ a := by omega
theorem ok_39 {a b c d e f g : Int} (h0 : b ≤ 3) (h1 : b < 3) (h2 : c = d + e) (h3 : c < 400) (h4 : f = b * 400) (h5 : g = f + d) (h6 : a = g + e) : a < ((1200 : Nat) : Int) := by omega
theorem ok_40 {a : Int} (h0 : a ≤ 400) : a + 1 ≤ 2147483647 := by omega
theorem ok_41 {a b c : Int} (h0 : b ≤ 60) (h1 : c ≤ 400) (h2 : c < b) (h3 : a = c + 1) : 0 ≤ 400 - a := by omega
theorem ok_42 {a b c : Int} (h0 : b ≤ 60) (h1 : c ≤ 400) (h2 : c < b) (h3 : a = c + 1) : a ≤ 400 := by omega
theorem ok_43 {a : Int} (h0 : a ≤ 3) : a + 1 ≤ 2147483647 := by omega
theorem ok_44 {a b : Int} (h0 : b ≤ 3) (h1 : b < 3) (h2 : a = b + 1) : 0 ≤ 3 - a := by omega
theorem ok_45 {a b : Int} (h0 : b ≤ 3) (h1 : b < 3) (h2 : a = b + 1) : a ≤ 3 := by omega
theorem ok_46 {a : Int} (h0 : a ≤ 10) (h1 : a < 10) : a < ((10 : Nat) : Int) := by omega
theorem ok_47 {a : Int} (h0 : a ≤ 10) : a + 1 ≤ 2147483647 := by omega
theorem ok_48 {a b : Int} (h0 : b ≤ 10) (h1 : b < 10) (h2 : a = b + 1) : 0 ≤ 10 - a := by omega
theorem ok_49 {a b : Int} (h0 : b ≤ 10) (h1 : b < 10) (h2 : a = b + 1) : a ≤ 10 := by omega
theorem ok_50 {a : Int} (h0 : a ≤ 402) (h1 : a < 402) : a < ((402 : Nat) : Int) := by omega
theorem ok_51 {a : Int} (h0 : a ≤ 402) : a + 1 ≤ 2147483647 := by omega
theorem ok_52 {a b : Int} (h0 : b ≤ 402) (h1 : b < 402) (h2 : a = b + 1) : 0 ≤ 402 - a := by omega
theorem ok_53 {a b : Int} (h0 : b ≤ 402) (h1 : b < 402) (h2 : a = b + 1) : a ≤ 402 := by omega
theorem ok_54 {a : Int} (h0 : a ≤ 400) (h1 : a < 400) : a < ((400 : Nat) : Int) := by omega
theorem ok_55 {a b : Int} (h0 : b ≤ 400) (h1 : b < 400) (h2 : a = b + 1) : a ≤ 400 := by omega
theorem ok_56 {a : Int} (h0 : 0 ≤ a) : (-2147483648) ≤ a - 1 := by omega
theorem ok_57 {a : Int} (h0 : a ≤ 400) : a - 1 ≤ 2147483647 := by omega
theorem ok_58 {a b c : Int} (h0 : 0 ≤ b) (h1 : 0 ≤ c) (h2 : c < b) (h3 : a = b - 1) : 0 ≤ a := by omega
theorem ok_59 {a b : Int} (h0 : b ≤ 400) (h1 : a = b - 1) : a < ((400 : Nat) : Int) := by omega
theorem ok_60 {a b : Int} (h0 : b ≤ 400) (h1 : a = b - 1) : a ≤ 400 := by omega
theorem ok_61 {a b c d : Int} (h0 : 0 ≤ b) (h1 : 0 ≤ c) (h2 : c < b) (h3 : d = b - 1) (h4 : a = d) : 0 ≤ a := by omega
theorem ok_62 {a : Int} (h0 : a ≤ 400) : 0 ≤ 400 - a := by omega
theorem ok_63 {a b : Int} (h0 : a ≤ 400) (h1 : b ≤ 400) (h2 : a < b) : a < ((400 : Nat) : Int) := by omega
theorem ok_64 {a b c : Int} (h0 : b ≤ 400) (h1 : c ≤ 400) (h2 : b < c) (h3 : a = b + 1) : a ≤ 400 := by omega
theorem ok_65 {a b c d : Int} (h0 : b ≤ 400) (h1 : c ≤ 400) (h2 : b < c) (h3 : d = b + 1) (h4 : a = d) : 0 ≤ 400 - a := by omega
theorem ok_66 {a b : Int} (h0 : b ≤ 1600) (h1 : a < b) : a < ((1600 : Nat) : Int) := by omega
theorem ok_67 {a : Int} (h0 : 0 ≤ a) : (-1) ≤ a := by omega
theorem ok_68 (h0 : (1 : Int) = 0) : False := by omega
theorem ok_69 (h0 : (0 : Int) ≠ 0) : False := by omega
theorem ok_70 {a : Int} (h0 : a = 184) : 184 ≤ a := by omega
theorem ok_71 {a : Int} (h0 : a = 184) : a ≤ 184 := by omega
theorem ok_72 {a b : Int} (h0 : a ≤ 183) (h1 : b = 184) : a < b := by omega
theorem ok_73 {a : Int} (h0 : a ≤ 183) : a < ((184 : Nat) : Int) := by omega
theorem ok_74 {a : Int} (h0 : 1 ≤ a) (h1 : a = 0) : False := by omega
theorem ok_75 {a : Int} (h0 : a ≤ 0) : 0 ≤ 184 - a := by omega
theorem ok_76 {a : Int} (h0 : a ≤ 0) : a ≤ 184 := by omega
theorem ok_77 {a b : Int} (h0 : b ≤ 184) (h1 : a ≤ 184) (h2 : a < b) : a < ((184 : Nat) : Int) := by omega
theorem ok_78 {a : Int} (h0 : a ≤ 184) : a + 1 ≤ 2147483647 := by omega
theorem ok_79 {a b c : Int} (h0 : b ≤ 184) (h1 : c ≤ 184) (h2 : c < b) (h3 : a = c + 1) : 0 ≤ 184 - a := by omega
theorem ok_80 {a b c : Int} (h0 : b ≤ 184) (h1 : c ≤ 184) (h2 : c < b) (h3 : a = c + 1) : a ≤ 184 := by omega
theorem ok_81 {a b : Int} (h0 : 0 ≤ b) (h1 : ((a = b) ∧ (0 ≤ b)) ∨ ((a = 0) ∧ (b < 0))) : 0 ≤ a := by omega
theorem ok_82 {a b : Int} (h0 : b ≤ 0) (h1 : ((a = b) ∧ (0 ≤ b)) ∨ ((a = 0) ∧ (b < 0))) : a ≤ 0 := by omega
theorem ok_83 {a b : Int} (h0 : 184 ≤ b) (h1 : ((a = b) ∧ (b ≤ 184)) ∨ ((a = 184) ∧ (184 < b))) : 184 ≤ a := by omega
theorem ok_84 {a b : Int} (h0 : b ≤ 184) (h1 : ((a = b) ∧ (b ≤ 184)) ∨ ((a = 184) ∧ (184 < b))) : a ≤ 184 := by omega
theorem ok_85 {a : Int} (h0 : a = 11) : 11 ≤ a := by omega
theorem ok_86 {a : Int} (h0 : a = 11) : a ≤ 11 := by omega
theorem ok_87 {a b : Int} (h0 : a ≤ 10) (h1 : b = 11) : a < b := by omega
theorem ok_88 {a : Int} (h0 : a ≤ 10) : a < ((11 : Nat) : Int) := by omega
theorem ok_89 {a : Int} (h0 : a ≤ 0) : 0 ≤ 11 - a := by omega
theorem ok_90 {a : Int} (h0 : a ≤ 0) : a ≤ 11 := by omega
theorem ok_91 {a b : Int} (h0 : b ≤ 11) (h1 : a ≤ 11) (h2 : a < b) : a < ((11 : Nat) : Int) := by omega
theorem ok_92 {a : Int} (h0 : a ≤ 11) : a + 1 ≤ 2147483647 := by omega
theorem ok_93 {a b c : Int} (h0 : b ≤ 11) (h1 : c ≤ 11) (h2 : c < b) (h3 : a = c + 1) : 0 ≤ 11 - a := by omega
theorem ok_94 {a b c : Int} (h0 : b ≤ 11) (h1 : c ≤ 11) (h2 : c < b) (h3 : a = c + 1) : a ≤ 11 := by omega
theorem ok_95 {a b : Int} (h0 : 11 ≤ b) (h1 : ((a = b) ∧ (b ≤ 11)) ∨ ((a = 11) ∧ (11 < b))) : 11 ≤ a := by omega
theorem ok_96 {a b : Int} (h0 : b ≤ 11) (h1 : ((a = b) ∧ (b ≤ 11)) ∨ ((a = 11) ∧ (11 < b))) : a ≤ 11 := by omega
theorem ok_97 {a : Int} (h0 : 0 ≤ a) : (-2147483648) ≤ a + 8 := by omega
theorem ok_98 {a : Int} (h0 : a ≤ 184) : a + 8 ≤ 2147483647 := by omega
theorem ok_99 {a : Int} (h0 : a ≤ 8) (h1 : 8 ≤ a) (h2 : a ≠ 8) : False := by omega
theorem ok_100 {a b : Int} (h0 : 0 ≤ b) (h1 : a = b / 8) : (-2147483648) ≤ 128 + a := by omega
theorem ok_101 {a b : Int} (h0 : b ≤ 184) (h1 : a = b / 8) : 128 + a ≤ 2147483647 := by omega
theorem ok_102 {a b c : Int} (h0 : 0 ≤ b) (h1 : c = b / 8) (h2 : a = 128 + c) : 128 ≤ a := by omega
theorem ok_103 {a b c : Int} (h0 : b ≤ 184) (h1 : c = b / 8) (h2 : a = 128 + c) : a ≤ 200 := by omega
theorem ok_104 {a b : Int} (h0 : a ≤ 184) (h1 : b < 8) : a + b ≤ 2147483647 := by omega
theorem ok_105 {a b c : Int} (h0 : 0 ≤ b) (h1 : 0 ≤ c) (h2 : a = b + c) : 0 ≤ a := by omega
theorem ok_106 {a b c d e : Int} (h0 : b ≤ 184) (h1 : c = b + 8) (h2 : d ≤ 184) (h3 : c ≤ d) (h4 : e < 8) (h5 : a = b + e) : a ≤ 183 := by omega
theorem ok_107 {a b : Int} (h0 : b ≤ 8) (h1 : a ≤ 1600) : a + b ≤ 2147483647 := by omega
theorem ok_108 {a b c d : Int} (h0 : b ≤ 184) (h1 : c = b + 8) (h2 : d ≤ 184) (h3 : c ≤ d) (h4 : a = b + 8) : 0 ≤ 184 - a := by omega
theorem ok_109 {a b : Int} (h0 : 0 ≤ b) (h1 : a = b + 8) : 0 ≤ a := by omega
theorem ok_110 {a b c d : Int} (h0 : b ≤ 184) (h1 : c = b + 8) (h2 : d ≤ 184) (h3 : c ≤ d) (h4 : a = b + 8) : a ≤ 184 := by omega
theorem ok_111 {a : Int} (h0 : a < 8) (h1 : a = 8) : False := by omega
theorem ok_112 {a : Int} (h0 : a ≤ 8) : a + 1 ≤ 2147483647 := by omega
theorem ok_113 {a b : Int} (h0 : b ≤ 8) (h1 : b < 8) (h2 : a = b + 1) : 0 ≤ 8 - a := by omega
theorem ok_114 {a b : Int} (h0 : b ≤ 8) (h1 : b < 8) (h2 : a = b + 1) : a ≤ 8 := by omega
theorem ok_115 {a b : Int} (h0 : b < 8) (h1 : a ≤ 1600) : a + b ≤ 2147483647 := by omega
theorem ok_116 {a b c : Int} (h0 : 0 ≤ b) (h1 : 0 ≤ c) (h2 : a = c + b) : 0 ≤ a := by omega
theorem ok_117 {a b c d e : Int} (h0 : b < 8) (h1 : c ≤ 1600) (h2 : d = c + b) (h3 : e ≤ 1600) (h4 : d < e) (h5 : a = c + b) : a < ((1600 : Nat) : Int) := by omega
theorem ok_118 {a b : Int} (h0 : b ≤ 1600) (h1 : a = b) : 0 ≤ 1600 - a := by omega
theorem ok_119 {a b : Int} (h0 : 0 ≤ a) (h1 : b ≤ 1600) : (-2147483648) ≤ a - b := by omega
theorem ok_120 {a b : Int} (h0 : a ≤ 1600) (h1 : 0 ≤ b) : a - b ≤ 2147483647 := by omega
theorem ok_121 {a b : Int} (h0 : a ≤ 1600) (h1 : b ≤ 1600) (h2 : a < b) : a < ((1600 : Nat) : Int) := by omega
theorem ok_122 {a : Int} (h0 : a ≤ 1600) : a + 1 ≤ 2147483647 := by omega
theorem ok_123 {a b c : Int} (h0 : b ≤ 1600) (h1 : c ≤ 1600) (h2 : b < c) (h3 : a = b + 1) : a ≤ 1600 := by omega
theorem ok_124 {a b c d : Int} (h0 : b ≤ 1600) (h1 : c ≤ 1600) (h2 : b < c) (h3 : d = b + 1) (h4 : a = d) : 0 ≤ 1600 - a := by omega
theorem ok_125 {a : Int} (h0 : (-128) ≤ a) : (-2147483648) ≤ a - 97 := by omega
theorem ok_126 {a : Int} (h0 : a ≤ 127) : a - 97 ≤ 2147483647 := by omega
theorem ok_127 {a b : Int} (h0 : (-128) ≤ b) (h1 : a = b - 97) : (-2147483648) ≤ a + 1 := by omega
theorem ok_128 {a b : Int} (h0 : b ≤ 127) (h1 : a = b - 97) : a + 1 ≤ 2147483647 := by omega
theorem ok_129 {a : Int} (h0 : a ≤ 1600) : 0 ≤ 1600 - a := by omega
theorem ok_130 {a : Int} (h0 : a ≤ 0) : a ≤ 1 := by omega
theorem ok_131 {a : Int} (h0 : 1 ≤ a) : 0 ≤ a := by omega
theorem ok_132 {a b : Int} (h0 : 0 ≤ b) (h1 : ((a = b) ∧ (b ≤ 1600)) ∨ ((a = 1600) ∧ (1600 < b))) : 0 ≤ a := by omega
theorem ok_133 {a b : Int} (h0 : b ≤ 1600) (h1 : ((a = b) ∧ (b ≤ 1600)) ∨ ((a = 1600) ∧ (1600 < b))) : a ≤ 1600 := by omega
theorem ok_134 {a : Int} (h0 : a ≤ 100) : a + 1 ≤ 2147483647 := by omega
theorem ok_135 {a b : Int} (h0 : b ≤ 100) (h1 : b < 100) (h2 : a = b + 1) : a ≤ 100 := by omega
theorem ok_136 {a : Int} (h0 : a ≤ 100) (h1 : a < 100) : a < ((100 : Nat) : Int) := by omega
theorem ok_137 {a : Int} (h0 : 0 < a) : (-2147483648) ≤ a - 1 := by omega
theorem ok_138 {a : Int} (h0 : a ≤ 100) : a - 1 ≤ 2147483647 := by omega
theorem ok_139 {a b : Int} (h0 : 0 < b) (h1 : a = b - 1) : 0 ≤ a := by omega
theorem ok_140 {a b : Int} (h0 : b ≤ 100) (h1 : a = b - 1) : a ≤ 100 := by omega
theorem ok_141 {a b : Int} (h0 : b ≤ 100) (h1 : a = b - 1) : a < ((100 : Nat) : Int) := by omega
theorem ok_142 {a : Int} (h0 : a ≤ 5) : a < ((7 : Nat) : Int) := by omega
theorem ok_143 {a : Int} (h0 : a ≤ 580) : 0 ≤ 580 - a := by omega
theorem ok_144 {a : Int} (h0 : a ≤ 5) : a + 1 ≤ 2147483647 := by omega
theorem ok_145 {a b : Int} (h0 : b ≤ 5) (h1 : a = b + 1) : a < ((7 : Nat) : Int) := by omega
theorem ok_146 {a b : Int} (h0 : a ≤ 580) (h1 : b ≤ 580) (h2 : a < b) : a < ((580 : Nat) : Int) := by omega
theorem ok_147 {a b c : Int} (h0 : b ≤ 580) (h1 : c ≤ 580) (h2 : b < c) (h3 : a = b + 1) : 0 ≤ 580 - a := by omega
theorem ok_148 {a b c : Int} (h0 : b ≤ 580) (h1 : c ≤ 580) (h2 : b < c) (h3 : a = b + 1) : a ≤ 580 := by omega
theorem ok_149 {a b c : Int} (h0 : 0 ≤ b) (h1 : b ≤ 1) (h2 : (b = 1) → ((0 ≤ a) ∧ ((a < 3) ∧ (a < c)))) (h3 : b ≠ 0) : (-2147483648) ≤ a * 400 := by omega
theorem ok_150 {a b c : Int} (h0 : 0 ≤ b) (h1 : b ≤ 1) (h2 : (b = 1) → ((0 ≤ a) ∧ ((a < 3) ∧ (a < c)))) (h3 : b ≠ 0) : a * 400 ≤ 2147483647 := by omega
theorem ok_151 {a b c d e : Int} (h0 : 0 ≤ c) (h1 : c ≤ 1) (h2 : (c = 1) → ((0 ≤ d) ∧ ((d < 3) ∧ (d < e)))) (h3 : c ≠ 0) (h4 : 0 ≤ b) (h5 : a = d * 400) : (-2147483648) ≤ a + b := by omega
theorem ok_152 {a b c d e : Int} (h0 : 0 ≤ c) (h1 : c ≤ 1) (h2 : (c = 1) → ((0 ≤ d) ∧ ((d < 3) ∧ (d < e)))) (h3 : c ≠ 0) (h4 : b ≤ 400) (h5 : a = d * 400) : a + b ≤ 2147483647 := by omega
theorem ok_153 {a b c d e f : Int} (h0 : 0 ≤ b) (h1 : b ≤ 1) (h2 : (b = 1) → ((0 ≤ c) ∧ ((c < 3) ∧ (c < d)))) (h3 : b ≠ 0) (h4 : 0 ≤ e) (h5 : f = c * 400) (h6 : a = f + e) : 0 ≤ a := by omega
theorem ok_154 {a b c d e f g : Int} (h0 : 0 ≤ b) (h1 : b ≤ 1) (h2 : (b = 1) → ((0 ≤ c) ∧ ((c < 3) ∧ (c < d)))) (h3 : b ≠ 0) (h4 : e ≤ 400) (h5 : f ≤ 400) (h6 : e < f) (h7 : g = c * 400) (h8 : a = g + e) : a < ((1200 : Nat) : Int) := by omega
theorem ok_155 {a b c : Int} (h0 : b ≤ 400) (h1 : c ≤ 400) (h2 : b < c) (h3 : a = b + 1) : 0 ≤ 400 - a := by omega
theorem ok_156 {a : Int} (h0 : a ≤ 6) (h1 : a < 6) : a ≤ 5 := by omega
theorem ok_157 {a : Int} (h0 : a ≤ 6) : a + 1 ≤ 2147483647 := by omega
theorem ok_158 {a b : Int} (h0 : b ≤ 6) (h1 : b < 6) (h2 : a = b + 1) : 0 ≤ 6 - a := by omega
theorem ok_159 {a b : Int} (h0 : b ≤ 6) (h1 : b < 6) (h2 : a = b + 1) : a ≤ 6 := by omega
theorem ok_160 {a b c d e : Int} (h0 : 0 ≤ b) (h1 : b ≤ 1) (h2 : (b = 1) → ((0 ≤ c) ∧ ((c < 4) ∧ ((c < d) ∧ ((0 ≤ e) ∧ ((e < 3) ∧ ((0 ≤ a) ∧ (a ≤ 399)))))))) (h3 : b ≠ 0) : 0 ≤ 412 - a := by omega
theorem ok_161 {a b c d e : Int} (h0 : 0 ≤ b) (h1 : b ≤ 1) (h2 : (b = 1) → ((0 ≤ c) ∧ ((c < 4) ∧ ((c < d) ∧ ((0 ≤ e) ∧ ((e < 3) ∧ ((0 ≤ a) ∧ (a ≤ 399)))))))) (h3 : b ≠ 0) : 0 ≤ a := by omega
theorem ok_162 {a b c d e : Int} (h0 : 0 ≤ b) (h1 : b ≤ 1) (h2 : (b = 1) → ((0 ≤ c) ∧ ((c < 4) ∧ ((c < d) ∧ ((0 ≤ e) ∧ ((e < 3) ∧ ((0 ≤ a) ∧ (a ≤ 399)))))))) (h3 : b ≠ 0) : a ≤ 412 := by omega
theorem ok_163 {a b c d e : Int} (h0 : 0 ≤ b) (h1 : b ≤ 1) (h2 : (b = 1) → ((0 ≤ a) ∧ ((a < 4) ∧ ((a < c) ∧ ((0 ≤ d) ∧ ((d < 3) ∧ ((0 ≤ e) ∧ (e ≤ 399)))))))) (h3 : b ≠ 0) : 0 ≤ a := by omega
theorem ok_164 {a b c d e : Int} (h0 : 0 ≤ b) (h1 : b ≤ 1) (h2 : (b = 1) → ((0 ≤ a) ∧ ((a < 4) ∧ ((a < c) ∧ ((0 ≤ d) ∧ ((d < 3) ∧ ((0 ≤ e) ∧ (e ≤ 399)))))))) (h3 : b ≠ 0) : a < ((4 : Nat) : Int) := by omega
theorem ok_165 {a b c d e f : Int} (h0 : 0 ≤ c) (h1 : c ≤ 1) (h2 : (c = 1) → ((0 ≤ d) ∧ ((d < 4) ∧ ((d < e) ∧ ((0 ≤ f) ∧ ((f < 3) ∧ ((0 ≤ a) ∧ (a ≤ 399)))))))) (h3 : c ≠ 0) (h4 : 0 ≤ b) : (-2147483648) ≤ a + b := by omega
theorem ok_166 {a b c d e f : Int} (h0 : 0 ≤ c) (h1 : c ≤ 1) (h2 : (c = 1) → ((0 ≤ d) ∧ ((d < 4) ∧ ((d < e) ∧ ((0 ≤ f) ∧ ((f < 3) ∧ ((0 ≤ a) ∧ (a ≤ 399)))))))) (h3 : c ≠ 0) (h4 : b ≤ 12) : a + b ≤ 2147483647 := by omega
theorem ok_167 {a : Int} (h0 : a ≤ 412) : a + 1 ≤ 2147483647 := by omega
theorem ok_168 {a b c d e f g i j : Int} (h0 : 0 ≤ b) (h1 : b ≤ 1) (h2 : (b = 1) → ((0 ≤ c) ∧ ((c < 4) ∧ ((c < d) ∧ ((0 ≤ e) ∧ ((e < 3) ∧ ((0 ≤ f) ∧ (f ≤ 399)))))))) (h3 : b ≠ 0) (h4 : g ≤ 412) (h5 : i ≤ 12) (h6 : j = f + i) (h7 : g < j) (h8 : a = g + 1) : 0 ≤ 412 - a := by omega
theorem ok_169 {a b c d e f g i j : Int} (h0 : 0 ≤ b) (h1 : b ≤ 1) (h2 : (b = 1) → ((0 ≤ c) ∧ ((c < 4) ∧ ((c < d) ∧ ((0 ≤ e) ∧ ((e < 3) ∧ ((0 ≤ f) ∧ (f ≤ 399)))))))) (h3 : b ≠ 0) (h4 : g ≤ 412) (h5 : i ≤ 12) (h6 : j = f + i) (h7 : g < j) (h8 : a = g + 1) : a ≤ 412 := by omega
theorem ok_170 {a : Int} (h0 : a ≤ 60) : a - 1 ≤ 2147483647 := by omega
theorem ok_171 {a b c d : Int} (h0 : (-1) ≤ b) (h1 : 0 ≤ c) (h2 : d = c - 1) (h3 : ((a = d) ∧ (d ≤ b)) ∨ ((a = b) ∧ (b < d))) : (-1) ≤ a := by omega
theorem ok_172 {a b c d : Int} (h0 : b ≤ 399) (h1 : b ≤ 400) (h2 : c ≤ 60) (h3 : d = c - 1) (h4 : ((a = d) ∧ (d ≤ b)) ∨ ((a = b) ∧ (b < d))) : a ≤ 399 := by omega
theorem ok_173 {a b c : Int} (h0 : ((a = c) ∧ (c ≤ b)) ∨ ((a = b) ∧ (b < c))) : a ≤ b := by omega
theorem ok_174 {a : Int} (h0 : a ≤ 2) : a < ((3 : Nat) : Int) := by omega
theorem ok_175 {a : Int} (h0 : a ≤ 3) : a < ((4 : Nat) : Int) := by omega
theorem ok_176 {a b : Int} (h0 : ((a = (-1)) ∧ (b ≤ (-1))) ∨ ((a = b) ∧ ((-1) < b))) : (-1) ≤ a := by omega
theorem ok_177 {a b c d : Int} (h0 : b ≤ 400) (h1 : 1 ≤ c) (h2 : d = b - c) (h3 : ((a = (-1)) ∧ (d ≤ (-1))) ∨ ((a = d) ∧ ((-1) < d))) : a ≤ 400 := by omega
theorem ok_178 {a b c d : Int} (h0 : 0 ≤ c) (h1 : d ≤ 12) (h2 : b ≤ 60) (h3 : a = c - d) : (-2147483648) ≤ a - b := by omega
theorem ok_179 {a b c d : Int} (h0 : c ≤ 400) (h1 : 1 ≤ d) (h2 : 0 ≤ b) (h3 : a = c - d) : a - b ≤ 2147483647 := by omega
theorem ok_180 {a b c d e : Int} (h0 : 0 ≤ b) (h1 : c ≤ 12) (h2 : d ≤ 60) (h3 : e = b - c) (h4 : a = e - d) : (-2147483648) ≤ a + 1 := by omega
theorem ok_181 {a b c d e : Int} (h0 : b ≤ 400) (h1 : 1 ≤ c) (h2 : 0 ≤ d) (h3 : e = b - c) (h4 : a = e - d) : a + 1 ≤ 2147483647 := by omega
theorem ok_182 {a b : Int} (h0 : ((a = 0) ∧ (b ≤ 0)) ∨ ((a = b) ∧ (0 < b))) : 0 ≤ a := by omega
theorem ok_183 {a b c d e f g : Int} (h0 : b ≤ 400) (h1 : 1 ≤ c) (h2 : 0 ≤ d) (h3 : e = b - c) (h4 : f = e - d) (h5 : g = f + 1) (h6 : ((a = 0) ∧ (g ≤ 0)) ∨ ((a = g) ∧ (0 < g))) : a ≤ 400 := by omega
theorem ok_184 {a b c d e : Int} (h0 : b ≤ 400) (h1 : 1 ≤ c) (h2 : d = b - c) (h3 : ((e = (-1)) ∧ (d ≤ (-1))) ∨ ((e = d) ∧ ((-1) < d))) (h4 : a = e) : a ≤ 399 := by omega
theorem ok_185 {a b c d : Int} (h0 : c ≤ d) (h1 : a = c) (h2 : b = d) : a ≤ b := by omega
theorem ok_186 {a b : Int} (h0 : 0 ≤ b) (h1 : a = b - 1) : 0 ≤ a - (-1) := by omega
theorem ok_187 {a b : Int} (h0 : 0 ≤ b) (h1 : a = b - 1) : (-1) ≤ a := by omega
theorem ok_188 {a b : Int} (h0 : b ≤ 400) (h1 : a = b - 1) : a ≤ 399 := by omega
theorem ok_189 {a : Int} (h0 : a ≤ 399) : a < ((400 : Nat) : Int) := by omega
theorem ok_190 {a : Int} (h0 : 0 ≤ a) : (-2147483648) ≤ a + (-1) := by omega
theorem ok_191 {a : Int} (h0 : a ≤ 399) : a + (-1) ≤ 2147483647 := by omega
theorem ok_192 {a b : Int} (h0 : 0 ≤ b) (h1 : a = b + (-1)) : 0 ≤ a - (-1) := by omega
theorem ok_193 {a b : Int} (h0 : 0 ≤ b) (h1 : a = b + (-1)) : (-1) ≤ a := by omega
theorem ok_194 {a b : Int} (h0 : b ≤ 399) (h1 : a = b + (-1)) : a ≤ 399 := by omega
theorem ok_195 {a : Int} (h0 : a ≤ 20) (h1 : a < 20) : a < ((20 : Nat) : Int) := by omega
theorem ok_196 {a : Int} (h0 : a ≤ 20) : a + 1 ≤ 2147483647 := by omega
theorem ok_197 {a b : Int} (h0 : b ≤ 20) (h1 : b < 20) (h2 : a = b + 1) : a ≤ 20 := by omega
theorem ok_198 {a b : Int} (h0 : b ≤ 20) (h1 : a < b) : a < ((20 : Nat) : Int) := by omega
theorem ok_199 {a : Int} (h0 : a ≤ 19) : a < ((20 : Nat) : Int) := by omega
theorem ok_200 {a b : Int} (h0 : a = 0) (h1 : b = 0) : a + b ≤ 40 := by omega
theorem ok_201 {a : Int} (h0 : a ≤ 40) : a + 1 ≤ 2147483647 := by omega
theorem ok_202 {a b : Int} (h0 : b ≤ 40) (h1 : b < 40) (h2 : a = b + 1) : a ≤ 40 := by omega
theorem ok_203 {a b : Int} (h0 : 0 ≤ b) (h1 : a = b + 1) : (-2147483648) ≤ a * 10 := by omega
theorem ok_204 {a b : Int} (h0 : b ≤ 40) (h1 : a = b + 1) : a * 10 ≤ 2147483647 := by omega
theorem ok_205 {a b c d : Int} (h0 : c ≤ 40) (h1 : c < 40) (h2 : d = c + 1) (h3 : a = d) (h4 : b = 0) : a + b ≤ 40 := by omega
theorem ok_206 {a b : Int} (h0 : a = 40) (h1 : b = 0) : a + b ≤ 40 := by omega
theorem ok_207 {a : Int} (h0 : a ≤ 40) : a - 1 ≤ 2147483647 := by omega
theorem ok_208 {a b : Int} (h0 : b ≤ 40) (h1 : a = b - 1) : a ≤ 40 := by omega
theorem ok_209 {a b c : Int} (h0 : b + c ≤ 40) (h1 : 0 < b) (h2 : c ≤ 40) (h3 : a = c + 1) : a ≤ 40 := by omega
theorem ok_210 {a b : Int} (h0 : 0 < b) (h1 : a = b - 1) : (-2147483648) ≤ a * 10 := by omega
theorem ok_211 {a b : Int} (h0 : b ≤ 40) (h1 : a = b - 1) : a * 10 ≤ 2147483647 := by omega
theorem ok_212 {a b c : Int} (h0 : b + c ≤ 40) (h1 : 0 < c) (h2 : b ≤ 40) (h3 : a = b + 1) : a ≤ 40 := by omega
theorem ok_213 {a : Int} (h0 : 0 ≤ a) : (-2147483648) ≤ a * 10 := by omega
theorem ok_214 {a : Int} (h0 : a < 3) : a * 10 ≤ 2147483647 := by omega
theorem ok_215 {a : Int} (h0 : (-200) ≤ a) : (-2147483648) ≤ a + 1 := by omega
theorem ok_216 {a : Int} (h0 : a ≤ 600) : a + 1 ≤ 2147483647 := by omega
theorem ok_217 {a b c : Int} (h0 : ((b = 0) ∧ (c ≤ 0)) ∨ ((b = c) ∧ (0 < c))) (h1 : b < a) : 0 ≤ a := by omega
theorem ok_218 {a b c : Int} (h0 : b ≤ 400) (h1 : ((a = c) ∧ (c ≤ b)) ∨ ((a = b) ∧ (b < c))) : a < ((404 : Nat) : Int) := by omega
theorem ok_219 {a b c d : Int} (h0 : b ≤ 400) (h1 : ((c = d) ∧ (d ≤ b)) ∨ ((c = b) ∧ (b < d))) (h2 : a < c) : a < ((404 : Nat) : Int) := by omega
theorem ok_220 {a b : Int} (h0 : b ≤ 399) (h1 : a ≤ 400) (h2 : a ≤ b) : a < ((400 : Nat) : Int) := by omega
theorem ok_221 {a : Int} (h0 : a ≤ 400) : a < ((404 : Nat) : Int) := by omega
theorem ok_222 {a b c : Int} (h0 : b ≤ 399) (h1 : c ≤ 400) (h2 : c ≤ b) (h3 : a = c + 1) : 0 ≤ 400 - a := by omega
theorem ok_223 {a b c : Int} (h0 : b ≤ 399) (h1 : c ≤ 400) (h2 : c ≤ b) (h3 : a = c + 1) : a ≤ 400 := by omega
theorem ok_224 {a b : Int} (h0 : 0 ≤ a) (h1 : b ≤ 99) : (-2147483648) ≤ a - b := by omega
theorem ok_225 {a b : Int} (h0 : a ≤ 400) (h1 : 0 ≤ b) : a - b ≤ 2147483647 := by omega
theorem ok_226 {a b : Int} (h0 : 0 ≤ a) (h1 : b ≤ 60) : (-2147483648) ≤ a - b := by omega
theorem ok_227 {a b c : Int} (h0 : 0 ≤ b) (h1 : c ≤ 60) (h2 : a = b - c) : (-2147483648) ≤ a - 1 := by omega
theorem ok_228 {a b c : Int} (h0 : b ≤ 400) (h1 : 0 ≤ c) (h2 : a = b - c) : a - 1 ≤ 2147483647 := by omega
theorem ok_229 {a b c : Int} (h0 : 0 ≤ b) (h1 : c ≤ 99) (h2 : a = b - c) : (-200) ≤ a := by omega
theorem ok_230 {a b c : Int} (h0 : b ≤ 400) (h1 : 0 ≤ c) (h2 : a = b - c) : a ≤ 600 := by omega
theorem ok_231 {a b c d : Int} (h0 : 0 ≤ b) (h1 : c ≤ 60) (h2 : d = b - c) (h3 : a = d - 1) : (-200) ≤ a := by omega
theorem ok_232 {a b c d : Int} (h0 : b ≤ 400) (h1 : 0 ≤ c) (h2 : d = b - c) (h3 : a = d - 1) : a ≤ 600 := by omega
theorem ok_233 {a b c : Int} (h0 : 0 ≤ b) (h1 : c ≤ 60) (h2 : a = b - c) : (-200) ≤ a := by omega
theorem ok_234 {a b : Int} (h0 : b ≤ 400) (h1 : a = b + 1) : a < ((404 : Nat) : Int) := by omega
theorem ok_235 {a b : Int} (h0 : b ≤ 399) (h1 : a = b) : a ≤ 399 := by omega
theorem ok_236 {a b c d e f : Int} (h0 : (d ≤ 0) ∨ (d + e ≤ f + 1)) (h1 : b = e) (h2 : c = f) (h3 : a = d) : (a ≤ 0) ∨ (a + b ≤ c + 1) := by omega
theorem ok_237 {a : Int} (h0 : 1 ≤ a) : (-2147483648) ≤ a + 1 := by omega
theorem ok_238 {a : Int} (h0 : a ≤ 60) : a + 1 ≤ 2147483647 := by omega
theorem ok_239 {a b c : Int} (h0 : b ≤ 60) (h1 : c ≤ 60) (h2 : c < b) (h3 : a = c + 1) : 0 ≤ 60 - a := by omega
theorem ok_240 {a b : Int} (h0 : 1 ≤ b) (h1 : a = b + 1) : 1 ≤ a := by omega
theorem ok_241 {a b c : Int} (h0 : b ≤ 60) (h1 : c ≤ 60) (h2 : c < b) (h3 : a = c + 1) : a ≤ 60 := by omega
theorem ok_242 {a b c : Int} (h0 : b ≤ 400) (h1 : c ≤ 60) (h2 : b < c) (h3 : a = b + 1) : 0 ≤ 400 - a := by omega
theorem ok_243 {a b c : Int} (h0 : b ≤ 400) (h1 : c ≤ 60) (h2 : b < c) (h3 : a = b + 1) : a ≤ 400 := by omega
theorem ok_244 {a b : Int} (h0 : a ≤ 400) (h1 : b ≤ 60) : a + b ≤ 2147483647 := by omega
theorem ok_245 {a : Int} (h0 : (-1) ≤ a) : (-2147483648) ≤ a + 2 := by omega
theorem ok_246 {a : Int} (h0 : a ≤ 399) : a + 2 ≤ 2147483647 := by omega
theorem ok_247 {a b c d e f : Int} (h0 : 0 ≤ b) (h1 : 0 ≤ c) (h2 : (-1) ≤ d) (h3 : e = b + c) (h4 : f = d + 2) (h5 : ((a = e) ∧ (e ≤ f)) ∨ ((a = f) ∧ (f < e))) : 0 ≤ a := by omega
theorem ok_248 {a b c d : Int} (h0 : b ≤ 400) (h1 : c = b + 2) (h2 : ((a = d) ∧ (d ≤ c)) ∨ ((a = c) ∧ (c < d))) : a < ((404 : Nat) : Int) := by omega
theorem ok_249 {a b : Int} (h0 : b ≤ 60) (h1 : a = b + 1) : 0 ≤ 61 - a := by omega
theorem ok_250 {a b : Int} (h0 : 0 ≤ b) (h1 : a = b + 1) : 1 ≤ a := by omega
theorem ok_251 {a b : Int} (h0 : b ≤ 60) (h1 : a = b + 1) : a ≤ 61 := by omega
theorem ok_252 {a b : Int} (h0 : 0 ≤ a) (h1 : 1 ≤ b) : (-2147483648) ≤ a + b := by omega
theorem ok_253 {a b : Int} (h0 : a ≤ 400) (h1 : b ≤ 61) : a + b ≤ 2147483647 := by omega
theorem ok_254 {a b c : Int} (h0 : 0 ≤ b) (h1 : 1 ≤ c) (h2 : a = b + c) : 0 ≤ a := by omega
theorem ok_255 {a b c d e f : Int} (h0 : b ≤ 400) (h1 : c ≤ 399) (h2 : d ≤ 61) (h3 : e = b + d) (h4 : f = c + 2) (h5 : e ≤ f) (h6 : a = b + d) : a < ((404 : Nat) : Int) := by omega
theorem ok_256 {a : Int} (h0 : a ≤ 61) : a + 1 ≤ 2147483647 := by omega
theorem ok_257 {a b c : Int} (h0 : b ≤ 60) (h1 : c ≤ 61) (h2 : c ≤ b) (h3 : a = c + 1) : 0 ≤ 61 - a := by omega
theorem ok_258 {a b c : Int} (h0 : b ≤ 60) (h1 : c ≤ 61) (h2 : c ≤ b) (h3 : a = c + 1) : a ≤ 61 := by omega
theorem ok_259 {a b : Int} (h0 : b ≤ 60) (h1 : a ≤ 61) (h2 : a ≤ b) : a ≤ 60 := by omega
theorem ok_260 {a : Int} (h0 : a ≤ 399) : 0 ≤ 400 - a := by omega
theorem ok_261 {a : Int} (h0 : a ≤ 399) : a ≤ 400 := by omega
theorem ok_262 {a : Int} (h0 : a ≤ 399) : a < ((404 : Nat) : Int) := by omega
theorem ok_263 {a : Int} (h0 : (-1) ≤ a) : (-2147483648) ≤ a + 1 := by omega
theorem ok_264 {a : Int} (h0 : a ≤ 399) : a + 1 ≤ 2147483647 := by omega
theorem ok_265 {a b : Int} (h0 : b ≤ 399) (h1 : a = b + 1) : 0 ≤ 403 - a := by omega
theorem ok_266 {a b : Int} (h0 : (-1) ≤ b) (h1 : a = b + 1) : 0 ≤ a := by omega
theorem ok_267 {a b : Int} (h0 : b ≤ 399) (h1 : a = b + 1) : a ≤ 403 := by omega
theorem ok_268 {a : Int} (h0 : (-1) ≤ a) : (-2147483648) ≤ a + 3 := by omega
theorem ok_269 {a : Int} (h0 : a ≤ 399) : a + 3 ≤ 2147483647 := by omega
theorem ok_270 {a b : Int} (h0 : b ≤ 399) (h1 : a = b + 1) : 0 ≤ 402 - a := by omega
theorem ok_271 {a b : Int} (h0 : b ≤ 399) (h1 : a = b + 1) : a ≤ 402 := by omega
theorem ok_272 {a b c : Int} (h0 : b ≤ 8) (h1 : c ≤ 8) (h2 : c < b) (h3 : a = c + 1) : 0 ≤ 8 - a := by omega
theorem ok_273 {a b c : Int} (h0 : b ≤ 8) (h1 : c ≤ 8) (h2 : c < b) (h3 : a = c + 1) : a ≤ 8 := by omega
theorem ok_274 {a b : Int} (h0 : b ≤ 399) (h1 : b ≤ 400) (h2 : a = b) : a ≤ 399 := by omega
theorem ok_275 {a : Int} (h0 : 1 ≤ a) : (-2147483648) ≤ a - 1 := by omega
theorem ok_276 {a : Int} (h0 : a ≤ 402) : a - 1 ≤ 2147483647 := by omega
theorem ok_277 {a b : Int} (h0 : 1 ≤ b) (h1 : a = b - 1) : 0 ≤ a := by omega
theorem ok_278 {a b : Int} (h0 : b ≤ 402) (h1 : a = b - 1) : a < ((404 : Nat) : Int) := by omega
theorem ok_279 {a : Int} (h0 : a ≤ 402) : a < ((404 : Nat) : Int) := by omega
theorem ok_280 {a b : Int} (h0 : 1 ≤ b) (h1 : a = b + 1) : 0 ≤ a := by omega
theorem ok_281 {a b : Int} (h0 : b ≤ 402) (h1 : a = b + 1) : a < ((404 : Nat) : Int) := by omega
theorem ok_282 {a b c d : Int} (h0 : b ≤ 399) (h1 : c ≤ 402) (h2 : d = b + 2) (h3 : c ≤ d) (h4 : a = c + 1) : 0 ≤ 402 - a := by omega
theorem ok_283 {a b c d : Int} (h0 : b ≤ 399) (h1 : c ≤ 402) (h2 : d = b + 2) (h3 : c ≤ d) (h4 : a = c + 1) : a ≤ 402 := by omega
theorem ok_284 {a : Int} (h0 : a ≤ 403) : a < ((404 : Nat) : Int) := by omega
theorem ok_285 {a : Int} (h0 : a ≤ 403) : a + 1 ≤ 2147483647 := by omega
theorem ok_286 {a b c d : Int} (h0 : b ≤ 399) (h1 : c ≤ 403) (h2 : d = b + 3) (h3 : c ≤ d) (h4 : a = c + 1) : 0 ≤ 403 - a := by omega
theorem ok_287 {a b c d : Int} (h0 : b ≤ 399) (h1 : c ≤ 403) (h2 : d = b + 3) (h3 : c ≤ d) (h4 : a = c + 1) : a ≤ 403 := by omega
theorem ok_288 {a : Int} (h0 : a ≤ 1000) : 0 ≤ 1000 - a := by omega
theorem ok_289 {a : Int} (h0 : a < 402) : a < ((402 : Nat) : Int) := by omega
theorem ok_290 {a : Int} (h0 : a < 402) : a + 1 ≤ 2147483647 := by omega
theorem ok_291 {a b : Int} (h0 : b < 402) (h1 : a = b + 1) : 0 ≤ 1000 - a := by omega
theorem ok_292 {a b : Int} (h0 : b < 402) (h1 : a = b + 1) : a ≤ 1000 := by omega
theorem ok_293 {a b c : Int} (h0 : b ≤ 1000000) (h1 : ((a = b) ∧ (b ≤ c)) ∨ ((a = c) ∧ (c < b))) : a ≤ 1000000 := by omega
theorem ok_294 {a : Int} (h0 : 0 ≤ a) : (-2147483648) ≤ 2 * a := by omega
theorem ok_295 {a : Int} (h0 : a ≤ 1) : 2 * a ≤ 2147483647 := by omega
theorem ok_296 {a b : Int} (h0 : 0 ≤ b) (h1 : a = 2 * b) : (-2147483648) ≤ a + 0 := by omega
theorem ok_297 {a b : Int} (h0 : b ≤ 1) (h1 : a = 2 * b) : a + 0 ≤ 2147483647 := by omega
theorem ok_298 {a b c : Int} (h0 : 0 ≤ b) (h1 : c = 2 * b) (h2 : a = c + 0) : 0 ≤ a := by omega
theorem ok_299 {a b c : Int} (h0 : b ≤ 1) (h1 : c = 2 * b) (h2 : a = c + 0) : a ≤ 3 := by omega
theorem ok_300 {a b : Int} (h0 : 0 ≤ b) (h1 : a = 2 * b) : (-2147483648) ≤ a + 1 := by omega
theorem ok_301 {a b : Int} (h0 : b ≤ 1) (h1 : a = 2 * b) : a + 1 ≤ 2147483647 := by omega
theorem ok_302 {a b c : Int} (h0 : 0 ≤ b) (h1 : c = 2 * b) (h2 : a = c + 1) : 0 ≤ a := by omega
theorem ok_303 {a b c : Int} (h0 : b ≤ 1) (h1 : c = 2 * b) (h2 : a = c + 1) : a ≤ 3 := by omega
theorem ok_304 {a : Int} (h0 : a ≤ 399) : a < ((402 : Nat) : Int) := by omega
theorem ok_305 {a b : Int} (h0 : a ≤ 399) (h1 : b ≤ 60) : a + b ≤ 2147483647 := by omega
theorem ok_306 {a b c : Int} (h0 : b ≤ 399) (h1 : c ≤ 60) (h2 : a = b + c) : a ≤ 1000 := by omega
theorem ok_307 {a b c : Int} (h0 : 0 ≤ b) (h1 : 0 ≤ c) (h2 : a = b + c) : (-2147483648) ≤ a + 1 := by omega
theorem ok_308 {a b c : Int} (h0 : b ≤ 399) (h1 : c ≤ 60) (h2 : a = b + c) : a + 1 ≤ 2147483647 := by omega
theorem ok_309 {a b : Int} (h0 : a ≤ 399) (h1 : b ≤ 99) : a + b ≤ 2147483647 := by omega
theorem ok_310 {a b c d : Int} (h0 : 0 ≤ b) (h1 : 0 ≤ c) (h2 : d = b + c) (h3 : a = d + 1) : 0 ≤ a := by omega
theorem ok_311 {a b c d : Int} (h0 : b ≤ 399) (h1 : c ≤ 60) (h2 : d = b + c) (h3 : a = d + 1) : a ≤ 1000 := by omega
theorem ok_312 (h0 : (0 : Int) = 1) : False := by omega
theorem ok_313 (h0 : (1 : Int) ≠ 1) : False := by omega
theorem ok_314 {a : Int} (h0 : (-1) ≤ a) : 0 ≤ a - (-1) := by omega
theorem ok_315 {a : Int} (h0 : a ≤ 400) : a < ((402 : Nat) : Int) := by omega
theorem ok_316 {a b c : Int} (h0 : b ≤ 400) (h1 : c ≤ 399) (h2 : b ≤ c) (h3 : a = b + 1) : 0 ≤ 400 - a := by omega
theorem ok_317 {a b c : Int} (h0 : b ≤ 400) (h1 : c ≤ 399) (h2 : b ≤ c) (h3 : a = b + 1) : a ≤ 400 := by omega
theorem ok_318 {a : Int} (h0 : a ≤ 24400) : 0 ≤ 24400 - a := by omega
theorem ok_319 {a b : Int} (h0 : 0 ≤ b) (h1 : b ≤ 400 + 60 * a) : (-2147483648) ≤ a + 1 := by omega
theorem ok_320 {a b : Int} (h0 : b ≤ 60) (h1 : a ≤ 24400) : a + b ≤ 2147483647 := by omega
theorem ok_321 {a b : Int} (h0 : a ≤ 24400) (h1 : b ≤ 99) : a + b ≤ 2147483647 := by omega
theorem ok_322 {a : Int} (h0 : 0 < a) : (-2147483648) ≤ a + (-1) := by omega
theorem ok_323 {a : Int} (h0 : a ≤ 2147483647) : a + (-1) ≤ 2147483647 := by omega
theorem ok_324 {a b : Int} (h0 : b ≤ 400) (h1 : b < 400) (h2 : a = b + 1) : 0 ≤ 400 - a := by omega
theorem ok_325 {a b c d e : Int} (h0 : (-1) ≤ b) (h1 : 0 ≤ c) (h2 : 0 ≤ d) (h3 : e = c + d) (h4 : ((a = e) ∧ (e ≤ b)) ∨ ((a = b) ∧ (b < e))) : (-1) ≤ a := by omega
theorem ok_326 {a b c : Int} (h0 : b ≤ 399) (h1 : b ≤ 400) (h2 : ((a = c) ∧ (c ≤ b)) ∨ ((a = b) ∧ (b < c))) : a ≤ 399 := by omega
theorem ok_327 {a b c d e : Int} (h0 : c ≤ 60) (h1 : d ≤ 400 + 60 * e) (h2 : b = e + 1) (h3 : a = d + c) : a ≤ 400 + 60 * b := by omega
theorem ok_328 {a b c d e : Int} (h0 : (-1) ≤ b) (h1 : 0 ≤ c) (h2 : 0 ≤ d) (h3 : e = d + c) (h4 : ((a = e) ∧ (e ≤ b)) ∨ ((a = b) ∧ (b < e))) : (-1) ≤ a := by omega
theorem ok_329 {a : Int} (h0 : a ≤ 24400) : a + 1 ≤ 2147483647 := by omega
theorem ok_330 {a b c d : Int} (h0 : 0 ≤ b) (h1 : c ≤ 399) (h2 : d ≤ 400 + 60 * b) (h3 : d < c) (h4 : a = d + 1) : a ≤ 400 + 60 * b := by omega
theorem ok_331 {a b : Int} (h0 : 0 ≤ b) (h1 : b ≤ 400 + 60 * a) : (-2147483648) ≤ a - 1 := by omega
theorem ok_332 {a b : Int} (h0 : b ≤ 399) (h1 : a = b + 1) : a < ((402 : Nat) : Int) := by omega
theorem ok_333 {a b : Int} (h0 : a < b) : ((0 : Int) = 1) ∨ (a < b) := by omega
theorem ok_334 {a b : Int}  : ((1 : Int) = 1) ∨ (a < b) := by omega
theorem ok_335 {a b : Int} (h0 : b ≤ 60) (h1 : a ≤ 399) : a + b ≤ 2147483647 := by omega
theorem ok_336 {a b c d e f : Int} (h0 : b ≤ 60) (h1 : c ≤ 399) (h2 : (d ≤ 0) ∨ (d + e ≤ c + 1)) (h3 : b ≤ e) (h4 : f ≤ 399) (h5 : f < d) (h6 : a = f + b) : a < ((402 : Nat) : Int) := by omega
theorem ok_337 {a : Int} (h0 : a ≤ 60) : 0 ≤ 61 - a := by omega
theorem ok_338 {a : Int} (h0 : a ≤ 60) : a ≤ 61 := by omega
theorem ok_339 {a : Int} (h0 : a ≤ 60) : a ≤ 63 := by omega
theorem ok_340 {a b c : Int} (h0 : b ≤ 61) (h1 : c ≤ 63) (h2 : ((a = c) ∧ (b ≤ c)) ∨ ((a = b) ∧ (c < b))) : 0 ≤ 63 - a := by omega
theorem ok_341 {a b c : Int} (h0 : 0 ≤ b) (h1 : 0 ≤ c) (h2 : ((a = c) ∧ (b ≤ c)) ∨ ((a = b) ∧ (c < b))) : 0 ≤ a := by omega
theorem ok_342 {a b c : Int} (h0 : b ≤ 61) (h1 : c ≤ 63) (h2 : ((a = c) ∧ (b ≤ c)) ∨ ((a = b) ∧ (c < b))) : a ≤ 63 := by omega
theorem ok_343 {a b : Int} (h0 : b ≤ 61) (h1 : 0 ≤ a) : (-2147483648) ≤ a - b := by omega
theorem ok_344 {a b : Int} (h0 : 0 ≤ b) (h1 : a ≤ 63) : a - b ≤ 2147483647 := by omega
theorem ok_345 {a b c : Int} (h0 : 0 ≤ b) (h1 : c ≤ 63) (h2 : a = c - b) : a ≤ 1000000 := by omega
theorem ok_346 {a b : Int} (h0 : b ≤ 60) (h1 : a ≤ 63) (h2 : a ≤ b) : a ≤ 60 := by omega
theorem ok_347 {a b c : Int} (h0 : a ≤ c) (h1 : b = c) : a ≤ b := by omega
theorem ok_348 {a : Int} (h0 : a ≤ 63) : a + 1 ≤ 2147483647 := by omega
theorem ok_349 {a b c : Int} (h0 : b ≤ 60) (h1 : c ≤ 63) (h2 : c ≤ b) (h3 : a = c + 1) : 0 ≤ 63 - a := by omega
theorem ok_350 {a b c : Int} (h0 : b ≤ 60) (h1 : c ≤ 63) (h2 : c ≤ b) (h3 : a = c + 1) : a ≤ 63 := by omega
theorem ok_351 {a b c : Int} (h0 : ((a = 0) ∧ (c ≤ 0)) ∨ ((a = c) ∧ (0 < c))) (h1 : b ≤ 60) : (-2147483648) ≤ a - b := by omega
theorem ok_352 {a b c : Int} (h0 : c ≤ 39600) (h1 : ((a = 0) ∧ (c ≤ 0)) ∨ ((a = c) ∧ (0 < c))) (h2 : 0 ≤ b) : a - b ≤ 2147483647 := by omega
theorem ok_353 {a b c : Int} (h0 : ((a = 0) ∧ (c ≤ 0)) ∨ ((a = c) ∧ (0 < c))) (h1 : b ≤ 99) : (-2147483648) ≤ a - b := by omega
theorem ok_354 {a b : Int} (h0 : b ≤ 39600) (h1 : ((a = 0) ∧ (b ≤ 0)) ∨ ((a = b) ∧ (0 < b))) : 0 ≤ 39600 - a := by omega
theorem ok_355 {a b : Int} (h0 : b ≤ 39600) (h1 : ((a = 0) ∧ (b ≤ 0)) ∨ ((a = b) ∧ (0 < b))) : a ≤ 39600 := by omega
theorem ok_356 {a : Int} (h0 : a ≤ 39600) : 0 ≤ 39600 - a := by omega
theorem ok_357 {a b : Int} (h0 : a ≤ 39600) (h1 : 0 ≤ b) : a - b ≤ 2147483647 := by omega
theorem ok_358 {a b : Int} (h0 : b ≤ 60) (h1 : 0 ≤ a) : (-2147483648) ≤ a - b := by omega
theorem ok_359 {a b : Int} (h0 : 0 ≤ b) (h1 : a ≤ 39600) : a - b ≤ 2147483647 := by omega
theorem ok_360 {a : Int} (h0 : a ≤ 39600) : a + 1 ≤ 2147483647 := by omega
theorem ok_361 {a b c d : Int} (h0 : b ≤ 399) (h1 : a ≤ 39600) (h2 : ((c = d) ∧ (d ≤ b)) ∨ ((c = b) ∧ (b < d))) (h3 : a ≤ c) : a < ((402 : Nat) : Int) := by omega
theorem ok_362 {a b : Int} (h0 : b ≤ 99) (h1 : 0 ≤ a) : (-2147483648) ≤ a - b := by omega
theorem ok_363 {a b : Int} (h0 : a ≤ 39600) (h1 : b ≤ 400) (h2 : a < b) : a < ((402 : Nat) : Int) := by omega
theorem ok_364  : ((0 : Int) = 0) ∨ ((0 : Int) = 2) := by omega
theorem ok_365 {a : Int} (h0 : a ≤ 400) : a ≤ 1000 := by omega
theorem ok_366 {a b : Int} (h0 : 0 ≤ b) (h1 : a ≤ 99 * 400) : a - b ≤ 2147483647 := by omega
theorem ok_367 {a b : Int} (h0 : b ≤ 99) (h1 : a ≤ 99 * 400) : a + b ≤ 2147483647 := by omega
theorem ok_368 {a b c : Int} (h0 : b ≤ 99) (h1 : 0 ≤ c) (h2 : a = c - b) : (-99) ≤ a := by omega
theorem ok_369 {a b c : Int} (h0 : 0 ≤ b) (h1 : c ≤ 99 * 400) (h2 : a = c - b) : a ≤ 39600 := by omega
theorem ok_370 {a b c : Int} (h0 : 0 ≤ b) (h1 : 0 ≤ c) (h2 : a = c + b) : (-99) ≤ a := by omega
theorem ok_371 {a b c : Int} (h0 : b ≤ 99) (h1 : c ≤ 99 * 400) (h2 : a = c + b) : a ≤ 39699 := by omega
theorem ok_372 {a : Int} (h0 : a ≤ 401) : a + 1 ≤ 2147483647 := by omega
theorem ok_373 {a b : Int} (h0 : b ≤ 401) (h1 : b ≤ 400) (h2 : a = b + 1) : 0 ≤ 401 - a := by omega
theorem ok_374 {a b : Int} (h0 : b ≤ 401) (h1 : b ≤ 400) (h2 : a = b + 1) : a ≤ 401 := by omega
theorem ok_375  : ((2 : Int) = 0) ∨ ((2 : Int) = 2) := by omega
theorem ok_376 {a : Int} (h0 : a ≤ 100) : a < ((400 : Nat) : Int) := by omega
theorem ok_377 {a : Int} (h0 : a ≤ 100) : a < ((402 : Nat) : Int) := by omega
theorem ok_378 {a b c d e : Int} (h0 : b ≤ 99) (h1 : c ≤ 100) (h2 : ((d = b) ∧ (b ≤ e)) ∨ ((d = e) ∧ (e < b))) (h3 : c ≤ d) (h4 : a = c + 1) : 0 ≤ 100 - a := by omega
theorem ok_379 {a b c d e : Int} (h0 : b ≤ 99) (h1 : c ≤ 100) (h2 : ((d = b) ∧ (b ≤ e)) ∨ ((d = e) ∧ (e < b))) (h3 : c ≤ d) (h4 : a = c + 1) : a ≤ 100 := by omega
theorem ok_380 {a : Int} (h0 : a ≤ 63) : a < ((64 : Nat) : Int) := by omega
theorem ok_381 {a : Int} (h0 : a ≤ 7) : a + 1 ≤ 2147483647 := by omega
theorem ok_382 {a b : Int} (h0 : b ≤ 7) (h1 : b ≤ 6) (h2 : a = b + 1) : a ≤ 7 := by omega
theorem ok_383 {a b c : Int} (h0 : 8 ≤ c + b + 1) (h1 : a = c + 1) : 8 ≤ a + b := by omega
theorem ok_384 {a : Int} (h0 : a ≤ 30) : a + 1 ≤ 2147483647 := by omega
theorem ok_385 {a b : Int} (h0 : b ≤ 30) (h1 : b < 30) (h2 : a = b + 1) : a ≤ 30 := by omega
theorem ok_386 {a : Int} (h0 : a ≤ 90) : a + 1 ≤ 2147483647 := by omega
theorem ok_387 {a b : Int} (h0 : b ≤ 90) (h1 : b < 90) (h2 : a = b + 1) : a ≤ 90 := by omega
theorem ok_388 {a b : Int} (h0 : b ≤ 1600) (h1 : b < 1600) (h2 : a = b + 1) : 0 ≤ 1600 - a := by omega
theorem ok_389 {a b : Int} (h0 : b ≤ 1600) (h1 : b < 1600) (h2 : a = b + 1) : a ≤ 1600 := by omega
theorem ok_390 {a : Int} (h0 : a < 3) : a < ((3 : Nat) : Int) := by omega
theorem ok_391 {a : Int} (h0 : a ≤ 2) : a + 1 ≤ 2147483647 := by omega
theorem ok_392 {a b c : Int} (h0 : b < 3) (h1 : c ≤ 2) (h2 : c < b) (h3 : a = c + 1) : 0 ≤ 2 - a := by omega
theorem ok_393 {a b c : Int} (h0 : b < 3) (h1 : c ≤ 2) (h2 : c < b) (h3 : a = c + 1) : a ≤ 2 := by omega
theorem ok_394 {a : Int} (h0 : a ≤ 6) (h1 : a < 4) : a < ((4 : Nat) : Int) := by omega
theorem ok_395 {a b c : Int} (h0 : b < 4) (h1 : c ≤ 3) (h2 : c < b) (h3 : a = c + 1) : 0 ≤ 3 - a := by omega
theorem ok_396 {a b c : Int} (h0 : b < 4) (h1 : c ≤ 3) (h2 : c < b) (h3 : a = c + 1) : a ≤ 3 := by omega
theorem ok_397 {a : Int} (h0 : a ≤ 6) (h1 : a < 6) : a < ((6 : Nat) : Int) := by omega
theorem ok_398 {a : Int} (h0 : a ≤ 5) : a < ((6 : Nat) : Int) := by omega
theorem ok_399 {a b c : Int} (h0 : b < 6) (h1 : c ≤ 5) (h2 : c < b) (h3 : a = c + 1) : 0 ≤ 5 - a := by omega
theorem ok_400 {a b c : Int} (h0 : b < 6) (h1 : c ≤ 5) (h2 : c < b) (h3 : a = c + 1) : a ≤ 5 := by omega
theorem ok_401 {a : Int} (h0 : a ≤ 400) : (-2147483648) ≤ 400 - a := by omega
theorem ok_402 {a : Int} (h0 : 0 ≤ a) : 400 - a ≤ 2147483647 := by omega
theorem ok_403 {a b c : Int} (h0 : b ≤ 9) (h1 : c ≤ 400) (h2 : a = 400 - c) : (-2147483648) ≤ a - b := by omega
theorem ok_404 {a b c : Int} (h0 : 0 ≤ b) (h1 : 0 ≤ c) (h2 : a = 400 - c) : a - b ≤ 2147483647 := by omega
theorem ok_405 {a b c d : Int} (h0 : b = 1) (h1 : 0 ≤ c) (h2 : c ≤ 1) (h3 : (c = 1) → ((b ≤ a) ∧ (a ≤ d))) (h4 : c ≠ 0) : 0 ≤ a := by omega
theorem ok_406 {a b c d e : Int} (h0 : ((b = 60) ∧ (60 ≤ c)) ∨ ((b = c) ∧ (c < 60))) (h1 : 0 ≤ d) (h2 : d ≤ 1) (h3 : (d = 1) → ((e ≤ a) ∧ (a ≤ b))) (h4 : d ≠ 0) : a ≤ 60 := by omega
theorem ok_407 {a : Int} (h0 : a ≤ 1600) : a - 1 ≤ 2147483647 := by omega
theorem ok_408 {a : Int} (h0 : a ≤ 9) : a ≤ 60 := by omega
theorem ok_409 {a : Int} (h0 : 140 ≤ a) : (-2147483648) ≤ a - 140 := by omega
theorem ok_410 {a : Int} (h0 : a ≤ 143) : a - 140 ≤ 2147483647 := by omega
theorem ok_411 {a b : Int} (h0 : b ≤ 5) (h1 : b ≤ 4) (h2 : a = b + 1) : 0 ≤ 5 - a := by omega
theorem ok_412 {a b : Int} (h0 : b ≤ 5) (h1 : b ≤ 4) (h2 : a = b + 1) : a ≤ 5 := by omega
theorem ok_413 {a : Int} (h0 : a ≤ 3) : a ≤ 6 := by omega
theorem ok_414 {a b c : Int} (h0 : b ≤ 3) (h1 : c < 3) (h2 : c = b) (h3 : a = b + 1) : a ≤ 3 := by omega
theorem ok_415 {a b c d : Int} (h0 : b = 0) (h1 : 0 ≤ c) (h2 : c ≤ 1) (h3 : (c = 1) → ((b ≤ a) ∧ (a ≤ d))) (h4 : c ≠ 0) : 0 ≤ a := by omega
theorem ok_416 {a b c d : Int} (h0 : b = 9) (h1 : 0 ≤ c) (h2 : c ≤ 1) (h3 : (c = 1) → ((d ≤ a) ∧ (a ≤ b))) (h4 : c ≠ 0) : a ≤ 9 := by omega
theorem ok_417 {a : Int} (h0 : a = 0) : a + 1 ≤ 2147483647 := by omega
theorem ok_418 {a b : Int} (h0 : b = 0) (h1 : a = b + 1) : 0 ≤ 1600 - a := by omega
theorem ok_419 {a b : Int} (h0 : b = 0) (h1 : a = b + 1) : a ≤ 1600 := by omega
theorem ok_420 {a b c : Int} (h0 : b ≤ 3) (h1 : c < 3) (h2 : c = b) (h3 : a = b) : a < 3 := by omega
theorem ok_421 {a : Int}  : ((0 : Int) = 0) ∨ (a < 3) := by omega
theorem ok_422 {a : Int} (h0 : a ≤ 3) (h1 : a < 3) : ((1 : Int) = 0) ∨ (a < 3) := by omega
theorem ok_423 {a : Int} (h0 : a ≤ 4) : a ≤ 6 := by omega
theorem ok_424 {a b c d : Int} (h0 : b = 12) (h1 : 0 ≤ c) (h2 : c ≤ 1) (h3 : (c = 1) → ((d ≤ a) ∧ (a ≤ b))) (h4 : c ≠ 0) : a ≤ 12 := by omega
theorem ok_425 {a b c d : Int} (h0 : b = 60) (h1 : 0 ≤ c) (h2 : c ≤ 1) (h3 : (c = 1) → ((d ≤ a) ∧ (a ≤ b))) (h4 : c ≠ 0) : a ≤ 60 := by omega
theorem ok_426 {a b c d : Int} (h0 : 0 ≤ b) (h1 : 0 ≤ c) (h2 : c ≤ 1) (h3 : (c = 1) → ((b ≤ a) ∧ (a ≤ d))) (h4 : c ≠ 0) : 0 ≤ a := by omega
theorem ok_427 {a : Int} (h0 : a ≤ 4) : a + 1 ≤ 2147483647 := by omega
theorem ok_428 {a b c d e : Int} (h0 : 0 ≤ b) (h1 : 0 ≤ c) (h2 : c ≤ 1) (h3 : (c = 1) → ((b ≤ d) ∧ (d ≤ e))) (h4 : c ≠ 0) (h5 : a = d) : 0 ≤ a := by omega
theorem ok_429 {a b c d e : Int} (h0 : b = 60) (h1 : 0 ≤ c) (h2 : c ≤ 1) (h3 : (c = 1) → ((d ≤ e) ∧ (e ≤ b))) (h4 : c ≠ 0) (h5 : a = e) : a ≤ 99 := by omega
theorem ok_430 {a b c d e : Int} (h0 : 0 ≤ b) (h1 : c = b + 1) (h2 : 0 ≤ d) (h3 : d ≤ 1) (h4 : (d = 1) → ((c ≤ a) ∧ (a ≤ e))) (h5 : d ≠ 0) : 0 ≤ a := by omega
theorem ok_431 {a b c d : Int} (h0 : b = 99) (h1 : 0 ≤ c) (h2 : c ≤ 1) (h3 : (c = 1) → ((d ≤ a) ∧ (a ≤ b))) (h4 : c ≠ 0) : a ≤ 99 := by omega
theorem ok_432 {a : Int}  : ((0 : Int) = 0) ∨ (a < 4) := by omega
theorem ok_433 {a : Int} (h0 : a ≤ 4) (h1 : a < 4) : ((1 : Int) = 0) ∨ (a < 4) := by omega
theorem ok_434 {a : Int} (h0 : a ≤ 6) : a < ((7 : Nat) : Int) := by omega
theorem ok_435 {a : Int}  : ((0 : Int) = 0) ∨ (a < 6) := by omega
theorem ok_436 {a : Int} (h0 : a ≤ 6) (h1 : a < 6) : ((1 : Int) = 0) ∨ (a < 6) := by omega
theorem ok_437 {a b c d e : Int} (h0 : c = 0) (h1 : 0 ≤ a) (h2 : 0 ≤ d) (h3 : d ≤ 1) (h4 : (d = 1) → ((c ≤ b) ∧ (b ≤ e))) (h5 : d ≠ 0) : (-2147483648) ≤ a + b := by omega
theorem ok_438 {a b c d e : Int} (h0 : a ≤ 27) (h1 : c = 9) (h2 : 0 ≤ d) (h3 : d ≤ 1) (h4 : (d = 1) → ((e ≤ b) ∧ (b ≤ c))) (h5 : d ≠ 0) : a + b ≤ 2147483647 := by omega
theorem ok_439 {a b : Int} (h0 : 0 ≤ b) (h1 : b ≤ 9 * a) : (-2147483648) ≤ a + 1 := by omega
theorem ok_440 {a : Int} (h0 : a < 3) : a + 1 ≤ 2147483647 := by omega
theorem ok_441 {a b : Int} (h0 : b < 3) (h1 : a = b + 1) : 0 ≤ 3 - a := by omega
theorem ok_442 {a b c : Int} (h0 : 0 ≤ b) (h1 : b ≤ 9 * c) (h2 : a = c + 1) : 0 ≤ a := by omega
theorem ok_443 {a b : Int} (h0 : b < 3) (h1 : a = b + 1) : a ≤ 3 := by omega
theorem ok_444 {a b c d e f : Int} (h0 : b = 0) (h1 : 0 ≤ c) (h2 : 0 ≤ d) (h3 : d ≤ 1) (h4 : (d = 1) → ((b ≤ e) ∧ (e ≤ f))) (h5 : d ≠ 0) (h6 : a = c + e) : 0 ≤ a := by omega
theorem ok_445 {a b c d e f g : Int} (h0 : b ≤ 27) (h1 : b ≤ 9 * c) (h2 : c < 3) (h3 : d = 9) (h4 : 0 ≤ e) (h5 : e ≤ 1) (h6 : (e = 1) → ((f ≤ g) ∧ (g ≤ d))) (h7 : e ≠ 0) (h8 : a = b + g) : a ≤ 27 := by omega
theorem ok_446 {a b c d e f g i : Int} (h0 : c ≤ 9 * d) (h1 : e = 9) (h2 : 0 ≤ f) (h3 : f ≤ 1) (h4 : (f = 1) → ((g ≤ i) ∧ (i ≤ e))) (h5 : f ≠ 0) (h6 : a = c + i) (h7 : b = d + 1) : a ≤ 9 * b := by omega
theorem ok_447 {a b : Int} (h0 : 0 ≤ a) (h1 : (-2147483648) ≤ b) : (-2147483648) ≤ a + b := by omega
theorem ok_448 {a b : Int} (h0 : a = 0) (h1 : b ≤ 2147483647) : a + b ≤ 2147483647 := by omega
theorem ok_449 {a b c d e f : Int} (h0 : 0 ≤ b) (h1 : c = 1) (h2 : 0 ≤ d) (h3 : d ≤ 1) (h4 : (d = 1) → ((c ≤ e) ∧ (e ≤ f))) (h5 : d ≠ 0) (h6 : a = b + e) : 0 ≤ a := by omega
theorem ok_450 {a b c d e f : Int} (h0 : b = 0) (h1 : c = 9) (h2 : 0 ≤ d) (h3 : d ≤ 1) (h4 : (d = 1) → ((e ≤ f) ∧ (f ≤ c))) (h5 : d ≠ 0) (h6 : a = b + f) : a ≤ 27 := by omega
theorem ok_451 {a b c d : Int} (h0 : b = 999) (h1 : 0 ≤ c) (h2 : c ≤ 1) (h3 : (c = 1) → ((d ≤ a) ∧ (a ≤ b))) (h4 : c ≠ 0) : a ≤ 999 := by omega
theorem ok_452 {a : Int} (h0 : a ≤ 200) : a + 1 ≤ 2147483647 := by omega
theorem ok_453 {a b : Int} (h0 : b ≤ 200) (h1 : b < 200) (h2 : a = b + 1) : 0 ≤ 200 - a := by omega
theorem ok_454 {a b : Int} (h0 : b ≤ 200) (h1 : b < 200) (h2 : a = b + 1) : a ≤ 200 := by omega
theorem ok_455 {a : Int} (h0 : 0 ≤ a) : (-2147483648) ≤ a + (-8) := by omega
theorem ok_456 {a : Int} (h0 : a ≤ 24) : a + (-8) ≤ 2147483647 := by omega
theorem ok_457 {a b : Int} (h0 : 0 ≤ b) (h1 : a = b + (-8)) : 0 ≤ a - (-8) := by omega
theorem ok_458 {a b : Int} (h0 : 0 ≤ b) (h1 : a = b + (-8)) : (-8) ≤ a := by omega
theorem ok_459 {a b : Int} (h0 : b ≤ 24) (h1 : a = b + (-8)) : a ≤ 24 := by omega
theorem ok_460 {a : Int} (h0 : a ≤ 1600) (h1 : a < 1600) : a < ((1600 : Nat) : Int) := by omega
theorem ok_461 {a b c : Int} (h0 : a < c) (h1 : b = c) : a < b := by omega
theorem ok_462 {a : Int} (h0 : a ≤ 64) : a - 1 ≤ 2147483647 := by omega
theorem ok_463 {a b : Int} (h0 : 1 ≤ b) (h1 : a = b - 1) : 0 ≤ a - (-1) := by omega
theorem ok_464 {a b : Int} (h0 : 1 ≤ b) (h1 : a = b - 1) : (-1) ≤ a := by omega
theorem ok_465 {a b : Int} (h0 : b ≤ 64) (h1 : a = b - 1) : a ≤ 63 := by omega
theorem ok_466 {a : Int} (h0 : (-1) ≤ a) : (-2147483648) ≤ a + (-1) := by omega
theorem ok_467 {a : Int} (h0 : a ≤ 63) : a + (-1) ≤ 2147483647 := by omega
theorem ok_468 {a b c : Int} (h0 : 0 ≤ b) (h1 : (-1) ≤ c) (h2 : b ≤ c) (h3 : a = c + (-1)) : 0 ≤ a - (-1) := by omega
theorem ok_469 {a b c : Int} (h0 : 0 ≤ b) (h1 : (-1) ≤ c) (h2 : b ≤ c) (h3 : a = c + (-1)) : (-1) ≤ a := by omega
theorem ok_470 {a b : Int} (h0 : b ≤ 63) (h1 : a = b + (-1)) : a ≤ 63 := by omega
theorem ok_471 {a b : Int} (h0 : 0 ≤ b) (h1 : (-1) ≤ a) (h2 : b ≤ a) : 0 ≤ a := by omega
theorem ok_472 {a b : Int} (h0 : a ≤ 20) (h1 : b ≤ 20) (h2 : a < b) : a ≤ 19 := by omega
theorem ok_473 {a b c : Int} (h0 : b ≤ 20) (h1 : c ≤ 20) (h2 : b < c) (h3 : a = b + 1) : 0 ≤ 20 - a := by omega
theorem ok_474 {a b c : Int} (h0 : b ≤ 20) (h1 : c ≤ 20) (h2 : b < c) (h3 : a = b + 1) : a ≤ 20 := by omega
theorem ok_475 {a : Int} (h0 : (-3) ≤ a) : (-2147483648) ≤ a + 1 := by omega
theorem ok_476 {a b : Int} (h0 : b ≤ 4) (h1 : b ≤ 3) (h2 : a = b + 1) : 0 ≤ 4 - a := by omega
theorem ok_477 {a b : Int} (h0 : (-3) ≤ b) (h1 : a = b + 1) : (-3) ≤ a := by omega
theorem ok_478 {a b : Int} (h0 : b ≤ 4) (h1 : b ≤ 3) (h2 : a = b + 1) : a ≤ 4 := by omega
theorem ok_479 {a b : Int} (h0 : 1 ≤ a) (h1 : 0 ≤ b) : (-2147483648) ≤ a + b := by omega
theorem ok_480 {a b : Int} (h0 : a ≤ 60) (h1 : b ≤ 9) : a + b ≤ 2147483647 := by omega
theorem ok_481 {a : Int}  : 8 * a + 24 = 8 * a + 24 := by omega
theorem ok_482 {a b c : Int} (h0 : (-8) ≤ c) (h1 : 8 * a + c = 8 * b + 24) (h2 : c < 0) : a = b + 4 := by omega
theorem ok_483 {a b c d e f : Int} (h0 : 8 * d + e = 8 * c + 24) (h1 : f = d + 1) (h2 : b = e + (-8)) (h3 : a = f) : 8 * a + b = 8 * c + 24 := by omega
theorem ok_484 {a : Int} (h0 : 0 ≤ a) : (-2147483648) ≤ a + 20 := by omega
theorem ok_485 {a : Int} (h0 : a ≤ 1600) : a + 20 ≤ 2147483647 := by omega
theorem ok_486 {a b : Int} (h0 : a ≤ 1600) (h1 : b = a + 20) (h2 : b ≤ 1600) : a ≤ 1596 := by omega
theorem ok_487 {a b c : Int} (h0 : b = c + 20) (h1 : b ≤ 1600) (h2 : a = c + 4) (h3 : a ≤ 1600) : a ≤ 1596 := by omega
theorem ok_488 {a b c d : Int} (h0 : b = c + 20) (h1 : b ≤ 1600) (h2 : d = c + 4) (h3 : a = d + 4) (h4 : a ≤ 1600) : a ≤ 1596 := by omega
theorem ok_489 {a b c d e : Int} (h0 : b = c + 20) (h1 : b ≤ 1600) (h2 : d = c + 4) (h3 : e = d + 4) (h4 : a = e + 4) (h5 : a ≤ 1600) : a ≤ 1596 := by omega
theorem ok_490 {a b c d e f : Int} (h0 : b = c + 20) (h1 : b ≤ 1600) (h2 : d = c + 4) (h3 : e = d + 4) (h4 : f = e + 4) (h5 : a = f + 4) (h6 : a ≤ 1600) : a ≤ 1596 := by omega
theorem ok_491 {a b c d e f : Int} (h0 : 0 ≤ b) (h1 : c = b + 4) (h2 : d = c + 4) (h3 : e = d + 4) (h4 : f = e + 4) (h5 : a = f + 4) (h6 : 0 ≤ a) (h7 : a ≤ 1600) (h8 : b ≤ 1580) : a = b + 20 := by omega
theorem ok_492 {a b c : Int} (h0 : b = c + 20) (h1 : b ≤ 1600) (h2 : 0 ≤ a) (h3 : a ≤ 1600) (h4 : 1580 < c) : a = (-1) := by omega
theorem ok_493 {a b c d e f g : Int} (h0 : b ≤ 1600) (h1 : c = b + 20) (h2 : c ≤ 1600) (h3 : d = b + 4) (h4 : e = d + 4) (h5 : f = e + 4) (h6 : g = f + 4) (h7 : a = g + 4) (h8 : 0 ≤ a) (h9 : a ≤ 1600) (h10 : 1580 < b) : a = b := by omega
theorem ok_494 {a b : Int} (h0 : b ≤ 1600) (h1 : a ≤ b) : a ≤ 1600 := by omega
theorem ok_495 {a : Int}  : a = a := by omega
theorem ok_496 {a b : Int} (h0 : 0 ≤ a) (h1 : b ≤ 1600) (h2 : a ≤ b) (h3 : (a < 0) ∨ (b < a)) : a = (-1) := by omega
theorem ok_497 {a b c : Int} (h0 : 0 ≤ c) (h1 : b ≤ 1600) (h2 : c ≤ b) (h3 : a = c) (h4 : (c < 0) ∨ (b < c)) : a = b := by omega
theorem ok_498 {a b : Int} (h0 : b ≤ 400) (h1 : a < b) : a < ((400 : Nat) : Int) := by omega
theorem ok_499 {a b : Int} (h0 : b ≤ 1000) (h1 : a ≤ 100000) : a + b ≤ 2147483647 := by omega
theorem ok_500 {a b c d : Int} (h0 : b ≤ 1000) (h1 : c ≤ 100000) (h2 : d = c + b) (h3 : d ≤ 100000) (h4 : a = c + b) : a ≤ 100000 := by omega
theorem ok_501 {a b c d : Int} (h0 : d = b + c) (h1 : a = d) : a = b + c := by omega
theorem ok_502 {a b c d : Int} (h0 : 0 ≤ b) (h1 : b ≤ 1000) (h2 : 0 ≤ c) (h3 : c ≤ 100000) (h4 : d = c + b) (h5 : d ≤ 100000) (h6 : a = c + b) (h7 : (b < 0) ∨ ((1000 < b) ∨ (100000 < c + b))) : a = (-1) := by omega
theorem ok_503 {a b c d e : Int} (h0 : 0 ≤ c) (h1 : c ≤ 1000) (h2 : d = b + c) (h3 : d ≤ 100000) (h4 : e = b + c) (h5 : a = e) (h6 : (c < 0) ∨ ((1000 < c) ∨ (100000 < b + c))) : a = b := by omega
theorem ok_504 {a b c d : Int} (h0 : c + d ≤ 40) (h1 : a = c) (h2 : b = d) : a + b ≤ 40 := by omega
theorem ok_505 {a : Int} (h0 : a ≤ 5) : a < ((10 : Nat) : Int) := by omega
theorem ok_506 {a b c d : Int} (h0 : 0 ≤ c) (h1 : c ≤ 1) (h2 : (c = 1) → ((1 ≤ a) ∧ ((a ≤ 60) ∧ ((0 ≤ b) ∧ ((b ≤ 9) ∧ ((1 ≤ d) ∧ (d ≤ 12))))))) (h3 : c ≠ 0) : (-2147483648) ≤ a + b := by omega
theorem ok_507 {a b c d : Int} (h0 : 0 ≤ c) (h1 : c ≤ 1) (h2 : (c = 1) → ((1 ≤ a) ∧ ((a ≤ 60) ∧ ((0 ≤ b) ∧ ((b ≤ 9) ∧ ((1 ≤ d) ∧ (d ≤ 12))))))) (h3 : c ≠ 0) : a + b ≤ 2147483647 := by omega
theorem ok_508 {a b c d : Int} (h0 : 0 ≤ c) (h1 : d = a + b) (h2 : c < d) : (-2147483648) ≤ a + b := by omega
theorem ok_509 {a : Int} (h0 : a ≤ 69) : a + 1 ≤ 2147483647 := by omega
theorem ok_510 {a b c d e f g : Int} (h0 : 0 ≤ b) (h1 : b ≤ 1) (h2 : (b = 1) → ((1 ≤ c) ∧ ((c ≤ 60) ∧ ((0 ≤ d) ∧ ((d ≤ 9) ∧ ((1 ≤ e) ∧ (e ≤ 12))))))) (h3 : b ≠ 0) (h4 : f = c + d) (h5 : g ≤ 69) (h6 : g < f) (h7 : d ≤ 0) (h8 : a = g + 1) : 0 ≤ 69 - a := by omega
theorem ok_511 {a b c d e f g : Int} (h0 : 0 ≤ b) (h1 : b ≤ 1) (h2 : (b = 1) → ((1 ≤ c) ∧ ((c ≤ 60) ∧ ((0 ≤ d) ∧ ((d ≤ 9) ∧ ((1 ≤ e) ∧ (e ≤ 12))))))) (h3 : b ≠ 0) (h4 : f = c + d) (h5 : g ≤ 69) (h6 : g < f) (h7 : d ≤ 0) (h8 : a = g + 1) : a ≤ 69 := by omega
theorem ok_512 {a b c d e f g : Int} (h0 : 0 ≤ b) (h1 : b ≤ 1) (h2 : (b = 1) → ((1 ≤ c) ∧ ((c ≤ 60) ∧ ((0 ≤ d) ∧ ((d ≤ 9) ∧ ((1 ≤ e) ∧ (e ≤ 12))))))) (h3 : b ≠ 0) (h4 : f = c + d) (h5 : g ≤ 69) (h6 : g < f) (h7 : a = g + 1) : 0 ≤ 69 - a := by omega
theorem ok_513 {a b c d e f g : Int} (h0 : 0 ≤ b) (h1 : b ≤ 1) (h2 : (b = 1) → ((1 ≤ c) ∧ ((c ≤ 60) ∧ ((0 ≤ d) ∧ ((d ≤ 9) ∧ ((1 ≤ e) ∧ (e ≤ 12))))))) (h3 : b ≠ 0) (h4 : f = c + d) (h5 : g ≤ 69) (h6 : g < f) (h7 : a = g + 1) : a ≤ 69 := by omega
theorem ok_514 {a b c d : Int} (h0 : 0 ≤ b) (h1 : b ≤ 1) (h2 : (b = 1) → ((1 ≤ a) ∧ ((a ≤ 60) ∧ ((0 ≤ c) ∧ ((c ≤ 9) ∧ ((1 ≤ d) ∧ (d ≤ 12))))))) (h3 : b ≠ 0) : 1 ≤ a := by omega
theorem ok_515 {a b c d : Int} (h0 : 0 ≤ b) (h1 : b ≤ 1) (h2 : (b = 1) → ((1 ≤ a) ∧ ((a ≤ 60) ∧ ((0 ≤ c) ∧ ((c ≤ 9) ∧ ((1 ≤ d) ∧ (d ≤ 12))))))) (h3 : b ≠ 0) : a ≤ 60 := by omega
theorem ok_516 {a b c d : Int} (h0 : 0 ≤ b) (h1 : b ≤ 1) (h2 : (b = 1) → ((1 ≤ c) ∧ ((c ≤ 60) ∧ ((0 ≤ a) ∧ ((a ≤ 9) ∧ ((1 ≤ d) ∧ (d ≤ 12))))))) (h3 : b ≠ 0) : 0 ≤ a := by omega
theorem ok_517 {a b c d : Int} (h0 : 0 ≤ b) (h1 : b ≤ 1) (h2 : (b = 1) → ((1 ≤ c) ∧ ((c ≤ 60) ∧ ((0 ≤ a) ∧ ((a ≤ 9) ∧ ((1 ≤ d) ∧ (d ≤ 12))))))) (h3 : b ≠ 0) : a ≤ 9 := by omega
theorem ok_518 {a b c d : Int} (h0 : 0 ≤ b) (h1 : b ≤ 1) (h2 : (b = 1) → ((1 ≤ c) ∧ ((c ≤ 60) ∧ ((0 ≤ d) ∧ ((d ≤ 9) ∧ ((1 ≤ a) ∧ (a ≤ 12))))))) (h3 : b ≠ 0) : 1 ≤ a := by omega
theorem ok_519 {a b c d : Int} (h0 : 0 ≤ b) (h1 : b ≤ 1) (h2 : (b = 1) → ((1 ≤ c) ∧ ((c ≤ 60) ∧ ((0 ≤ d) ∧ ((d ≤ 9) ∧ ((1 ≤ a) ∧ (a ≤ 12))))))) (h3 : b ≠ 0) : a ≤ 12 := by omega
theorem ok_520 {a : Int} (h0 : a ≤ 61) : a ≤ 99 := by omega
theorem ok_521 {a b : Int} (h0 : b ≤ 61) (h1 : b ≤ 60) (h2 : a = b + 1) : 0 ≤ 61 - a := by omega
theorem ok_522 {a b : Int} (h0 : b ≤ 61) (h1 : b ≤ 60) (h2 : a = b + 1) : a ≤ 61 := by omega
theorem ok_523 {a : Int} (h0 : a ≤ 61) : a - 1 ≤ 2147483647 := by omega
theorem ok_524 {a b : Int} (h0 : 0 ≤ a) (h1 : b ≤ 2147483647) : (-2147483648) ≤ a - b := by omega
theorem ok_525 {a : Int} (h0 : (-2147483648) ≤ a) : (-2147483648) ≤ a + 1 := by omega
theorem ok_526 {a b c d e : Int} (h0 : b ≤ 400) (h1 : 0 ≤ c) (h2 : c < d) (h3 : e = b - d) (h4 : a = e + 1) : a ≤ 400 := by omega
theorem ok_527 {a b : Int} (h0 : 0 ≤ b) (h1 : b < a) : 0 ≤ a := by omega
theorem ok_528 {a : Int} (h0 : 0 ≤ a) (h1 : a < 0) : False := by omega
theorem ok_529 {a b c : Int} (h0 : 0 ≤ b) (h1 : b ≤ 1) (h2 : (b = 1) → ((0 ≤ c) ∧ (c < 4))) (h3 : b ≠ 0) (h4 : a = c) : 0 ≤ a := by omega
theorem ok_530 {a b c : Int} (h0 : 0 ≤ b) (h1 : b ≤ 1) (h2 : (b = 1) → ((0 ≤ c) ∧ (c < 4))) (h3 : b ≠ 0) (h4 : a = c) : a < ((4 : Nat) : Int) := by omega
theorem ok_531 {a b c d e : Int} (h0 : 0 ≤ b) (h1 : b ≤ 1) (h2 : (b = 1) → ((0 ≤ a) ∧ ((a < 4) ∧ ((a < c) ∧ ((0 ≤ d) ∧ ((d < 3) ∧ ((0 ≤ e) ∧ (e < 64)))))))) (h3 : b ≠ 0) : 0 ≤ a := by omega
theorem ok_532 {a b c d e : Int} (h0 : 0 ≤ b) (h1 : b ≤ 1) (h2 : (b = 1) → ((0 ≤ a) ∧ ((a < 4) ∧ ((a < c) ∧ ((0 ≤ d) ∧ ((d < 3) ∧ ((0 ≤ e) ∧ (e < 64)))))))) (h3 : b ≠ 0) : a ≤ 3 := by omega
theorem ok_533 {a b c d e : Int} (h0 : 0 ≤ b) (h1 : b ≤ 1) (h2 : (b = 1) → ((0 ≤ c) ∧ ((c < 4) ∧ ((c < d) ∧ ((0 ≤ a) ∧ ((a < 3) ∧ ((0 ≤ e) ∧ (e < 64)))))))) (h3 : b ≠ 0) : 0 ≤ a := by omega
theorem ok_534 {a b c d e : Int} (h0 : 0 ≤ b) (h1 : b ≤ 1) (h2 : (b = 1) → ((0 ≤ c) ∧ ((c < 4) ∧ ((c < d) ∧ ((0 ≤ a) ∧ ((a < 3) ∧ ((0 ≤ e) ∧ (e < 64)))))))) (h3 : b ≠ 0) : a ≤ 2 := by omega
theorem ok_535 {a b c d e f g : Int} (h0 : c = d) (h1 : 0 ≤ e) (h2 : e ≤ 1) (h3 : (e = 1) → ((0 ≤ a) ∧ ((a < 4) ∧ ((a < c) ∧ ((0 ≤ f) ∧ ((f < 3) ∧ ((0 ≤ g) ∧ (g < 64)))))))) (h4 : e ≠ 0) (h5 : b = d) : a < b := by omega
theorem ok_536 {a b c d e f : Int} (h0 : 0 ≤ c) (h1 : c ≤ 1) (h2 : (c = 1) → ((0 ≤ a) ∧ ((a < 4) ∧ ((a < d) ∧ ((0 ≤ e) ∧ ((e < 3) ∧ ((0 ≤ f) ∧ (f < 64)))))))) (h3 : c ≠ 0) (h4 : b = d) : a < b := by omega
theorem ok_537 {a b c : Int} (h0 : 0 ≤ b) (h1 : b ≤ 1) (h2 : (b = 1) → ((0 ≤ c) ∧ ((c < 3) ∧ ((0 ≤ a) ∧ (a < 400))))) (h3 : b ≠ 0) : 0 ≤ 498 - a := by omega
theorem ok_538 {a b c : Int} (h0 : 0 ≤ b) (h1 : b ≤ 1) (h2 : (b = 1) → ((0 ≤ c) ∧ ((c < 3) ∧ ((0 ≤ a) ∧ (a < 400))))) (h3 : b ≠ 0) : 0 ≤ a := by omega
theorem ok_539 {a b c : Int} (h0 : 0 ≤ b) (h1 : b ≤ 1) (h2 : (b = 1) → ((0 ≤ c) ∧ ((c < 3) ∧ ((0 ≤ a) ∧ (a < 400))))) (h3 : b ≠ 0) : a ≤ 498 := by omega
theorem ok_540 {a b : Int} (h0 : b ≤ 399) (h1 : a ≤ 498) (h2 : a ≤ b) : a < ((400 : Nat) : Int) := by omega
theorem ok_541 {a : Int} (h0 : a ≤ 498) : a + 1 ≤ 2147483647 := by omega
theorem ok_542 {a b : Int} (h0 : 1 ≤ b) (h1 : 0 ≤ a) : (-2147483648) ≤ a + b := by omega
theorem ok_543 {a b : Int} (h0 : b ≤ 99) (h1 : a ≤ 498) : a + b ≤ 2147483647 := by omega
theorem ok_544 {a b c d : Int} (h0 : b ≤ 99) (h1 : c ≤ 399) (h2 : d ≤ 498) (h3 : d ≤ c) (h4 : a = d + b) : 0 ≤ 498 - a := by omega
theorem ok_545 {a b c : Int} (h0 : 1 ≤ b) (h1 : 0 ≤ c) (h2 : a = c + b) : 0 ≤ a := by omega
theorem ok_546 {a b c d : Int} (h0 : b ≤ 99) (h1 : c ≤ 399) (h2 : d ≤ 498) (h3 : d ≤ c) (h4 : a = d + b) : a ≤ 498 := by omega
theorem ok_547 {a b c d : Int} (h0 : b ≤ 399) (h1 : c ≤ 498) (h2 : c ≤ d) (h3 : d ≤ b) (h4 : a = c + 1) : a ≤ 498 := by omega
theorem ok_548 {a b c d e : Int} (h0 : 1 ≤ c) (h1 : d ≤ e) (h2 : a = d + 1) (h3 : b = e + c) : a ≤ b := by omega
theorem ok_549 {a b : Int} (h0 : a ≤ 61) (h1 : b ≤ 60) (h2 : a ≤ b) : a ≤ 60 := by omega
theorem ok_550 {a b c : Int} (h0 : b ≤ 61) (h1 : c ≤ 60) (h2 : b ≤ c) (h3 : a = b + 1) : 0 ≤ 61 - a := by omega
theorem ok_551 {a b c : Int} (h0 : b ≤ 61) (h1 : c ≤ 60) (h2 : b ≤ c) (h3 : a = b + 1) : a ≤ 61 := by omega
theorem ok_552 {a b c d e f g : Int} (h0 : 0 ≤ b) (h1 : b ≤ 1) (h2 : (b = 1) → ((0 ≤ a) ∧ ((a < 4) ∧ ((a < c) ∧ ((0 ≤ d) ∧ ((d < 3) ∧ ((0 ≤ e) ∧ ((e < 64) ∧ ((0 ≤ f) ∧ ((f ≤ 399) ∧ ((1 ≤ g) ∧ (g ≤ 8)))))))))))) (h3 : b ≠ 0) : 0 ≤ a := by omega
theorem ok_553 {a b c d e f g : Int} (h0 : 0 ≤ b) (h1 : b ≤ 1) (h2 : (b = 1) → ((0 ≤ a) ∧ ((a < 4) ∧ ((a < c) ∧ ((0 ≤ d) ∧ ((d < 3) ∧ ((0 ≤ e) ∧ ((e < 64) ∧ ((0 ≤ f) ∧ ((f ≤ 399) ∧ ((1 ≤ g) ∧ (g ≤ 8)))))))))))) (h3 : b ≠ 0) : a ≤ 3 := by omega
theorem ok_554 {a b c d e f g : Int} (h0 : 0 ≤ b) (h1 : b ≤ 1) (h2 : (b = 1) → ((0 ≤ c) ∧ ((c < 4) ∧ ((c < d) ∧ ((0 ≤ a) ∧ ((a < 3) ∧ ((0 ≤ e) ∧ ((e < 64) ∧ ((0 ≤ f) ∧ ((f ≤ 399) ∧ ((1 ≤ g) ∧ (g ≤ 8)))))))))))) (h3 : b ≠ 0) : 0 ≤ a := by omega
theorem ok_555 {a b c d e f g : Int} (h0 : 0 ≤ b) (h1 : b ≤ 1) (h2 : (b = 1) → ((0 ≤ c) ∧ ((c < 4) ∧ ((c < d) ∧ ((0 ≤ a) ∧ ((a < 3) ∧ ((0 ≤ e) ∧ ((e < 64) ∧ ((0 ≤ f) ∧ ((f ≤ 399) ∧ ((1 ≤ g) ∧ (g ≤ 8)))))))))))) (h3 : b ≠ 0) : a ≤ 2 := by omega
theorem ok_556 {a b c d e f g i : Int} (h0 : 0 ≤ c) (h1 : c ≤ 1) (h2 : (c = 1) → ((0 ≤ a) ∧ ((a < 4) ∧ ((a < d) ∧ ((0 ≤ e) ∧ ((e < 3) ∧ ((0 ≤ f) ∧ ((f < 64) ∧ ((0 ≤ g) ∧ ((g ≤ 399) ∧ ((1 ≤ i) ∧ (i ≤ 8)))))))))))) (h3 : c ≠ 0) (h4 : b = d) : a < b := by omega
theorem ok_557 {a b c d e f g : Int} (h0 : 0 ≤ b) (h1 : b ≤ 1) (h2 : (b = 1) → ((0 ≤ c) ∧ ((c < 4) ∧ ((c < d) ∧ ((0 ≤ e) ∧ ((e < 3) ∧ ((0 ≤ f) ∧ ((f < 64) ∧ ((0 ≤ a) ∧ ((a ≤ 399) ∧ ((1 ≤ g) ∧ (g ≤ 8)))))))))))) (h3 : b ≠ 0) : 0 ≤ a := by omega
theorem ok_558 {a b c d e f g : Int} (h0 : 0 ≤ b) (h1 : b ≤ 1) (h2 : (b = 1) → ((0 ≤ c) ∧ ((c < 4) ∧ ((c < d) ∧ ((0 ≤ e) ∧ ((e < 3) ∧ ((0 ≤ f) ∧ ((f < 64) ∧ ((0 ≤ a) ∧ ((a ≤ 399) ∧ ((1 ≤ g) ∧ (g ≤ 8)))))))))))) (h3 : b ≠ 0) : a ≤ 399 := by omega
theorem ok_559 {a b c d e f g : Int} (h0 : 0 ≤ b) (h1 : b ≤ 1) (h2 : (b = 1) → ((0 ≤ c) ∧ ((c < 4) ∧ ((c < d) ∧ ((0 ≤ e) ∧ ((e < 3) ∧ ((0 ≤ f) ∧ ((f < 64) ∧ ((0 ≤ g) ∧ ((g ≤ 399) ∧ ((1 ≤ a) ∧ (a ≤ 8)))))))))))) (h3 : b ≠ 0) : 1 ≤ a := by omega
theorem ok_560 {a b c d e f g : Int} (h0 : 0 ≤ b) (h1 : b ≤ 1) (h2 : (b = 1) → ((0 ≤ c) ∧ ((c < 4) ∧ ((c < d) ∧ ((0 ≤ e) ∧ ((e < 3) ∧ ((0 ≤ f) ∧ ((f < 64) ∧ ((0 ≤ g) ∧ ((g ≤ 399) ∧ ((1 ≤ a) ∧ (a ≤ 8)))))))))))) (h3 : b ≠ 0) : a ≤ 8 := by omega
theorem ok_561 {a b c d e : Int} (h0 : 0 ≤ b) (h1 : b ≤ 1) (h2 : (b = 1) → ((0 ≤ c) ∧ ((c < 4) ∧ ((c < d) ∧ ((0 ≤ e) ∧ ((e < 3) ∧ ((0 ≤ a) ∧ (a < 64)))))))) (h3 : b ≠ 0) : 0 ≤ a := by omega
theorem ok_562 {a b c d e : Int} (h0 : 0 ≤ b) (h1 : b ≤ 1) (h2 : (b = 1) → ((0 ≤ c) ∧ ((c < 4) ∧ ((c < d) ∧ ((0 ≤ e) ∧ ((e < 3) ∧ ((0 ≤ a) ∧ (a < 64)))))))) (h3 : b ≠ 0) : a ≤ 63 := by omega
theorem ok_563 {a : Int} (h0 : (-2147483648) ≤ a) : (-2147483648) ≤ a + 0 := by omega
theorem ok_564 {a : Int} (h0 : a ≤ 2147483647) : a + 0 ≤ 2147483647 := by omega
theorem ok_565 {a : Int} (h0 : a ≤ 64) : a + 1 ≤ 2147483647 := by omega
theorem ok_566 {a b c : Int} (h0 : b ≤ 64) (h1 : c ≤ 64) (h2 : b < c) (h3 : a = b + 1) : 0 ≤ 64 - a := by omega
theorem ok_567 {a b c : Int} (h0 : b ≤ 64) (h1 : c ≤ 64) (h2 : b < c) (h3 : a = b + 1) : a ≤ 64 := by omega
theorem ok_568 {a b c : Int} (h0 : b ≤ 6) (h1 : c ≤ 6) (h2 : b < c) (h3 : a = b + 1) : 0 ≤ 6 - a := by omega
theorem ok_569 {a b c : Int} (h0 : b ≤ 6) (h1 : c ≤ 6) (h2 : b < c) (h3 : a = b + 1) : a ≤ 6 := by omega
theorem ok_570 {a b : Int} (h0 : b ≤ 1601) (h1 : a ≤ 1600) : a + b ≤ 2147483647 := by omega
theorem ok_571 {a b c d e : Int} (h0 : b ≤ 1601) (h1 : c ≤ 1600) (h2 : d = c + b) (h3 : e ≤ 1600) (h4 : d < e) (h5 : a = c + b) : a < ((1600 : Nat) : Int) := by omega
theorem ok_572 {a : Int}  : a ≤ a := by omega
theorem ok_573 {a b c d e f : Int} (h0 : b ≤ 1600) (h1 : c = 0) (h2 : d ≤ 1600) (h3 : e = d) (h4 : (0 ≤ f) → (b + c < e)) (h5 : f = 32) (h6 : a = b + 1) : a ≤ 1600 := by omega
theorem ok_574 {a b c d e f g : Int} (h0 : b ≤ 1600) (h1 : c = 0) (h2 : d ≤ 1600) (h3 : e = d) (h4 : (0 ≤ f) → (b + c < e)) (h5 : f = 32) (h6 : g = b + 1) (h7 : a = g) : 0 ≤ 1600 - a := by omega
theorem ok_575 {a b c d : Int} (h0 : a ≤ c) (h1 : d = c + 1) (h2 : b = d) : a ≤ b := by omega
theorem ok_576 {a b : Int} (h0 : a = 3) : (a = b) ∨ (a ≤ 3) := by omega
theorem ok_577 (h0 : (3 : Int) ≠ 3) : False := by omega
theorem ok_578 {a b c : Int} (h0 : c = 3) (h1 : a = c) : (a = b) ∨ (a ≤ 3) := by omega
theorem ok_579 {a b c d e f : Int} (h0 : b ≤ 1600) (h1 : c = 0) (h2 : d ≤ 1600) (h3 : e = b) (h4 : f = d) (h5 : e + c < f) (h6 : a = b + 1) : a ≤ 1600 := by omega
theorem ok_580 {a b c d e f g : Int} (h0 : c ≤ 1600) (h1 : d = 0) (h2 : 0 ≤ e) (h3 : f = c) (h4 : g = e) (h5 : f + d < g) (h6 : a = c) (h7 : b = e) : a + 0 ≤ b := by omega
theorem ok_581 {a : Int} (h0 : a ≤ 1600) : a ≤ 1601 := by omega
theorem ok_582 {a : Int} (h0 : a ≤ 4) : a ≤ 1601 := by omega
theorem ok_583 (h0 : (2 : Int) = 3) : False := by omega
theorem ok_584 {a b : Int} (h0 : a ≤ 1600) (h1 : b ≤ 4) : a + b ≤ 2147483647 := by omega
theorem ok_585 {a b c d e f : Int} (h0 : b ≤ 1600) (h1 : c ≤ 1600) (h2 : d + e ≤ f) (h3 : d = b) (h4 : f = c) (h5 : e ≤ 4) (h6 : a = b + e) : a ≤ 1600 := by omega
theorem ok_586 {a b c d e : Int} (h0 : a ≤ c) (h1 : 0 ≤ d) (h2 : e = c + d) (h3 : b = e) : a ≤ b := by omega
theorem ok_587 {a b : Int} (h0 : a = 2) : (a = b) ∨ (a ≤ 3) := by omega
theorem ok_588 {a : Int} (h0 : 4 ≤ a) : (-2147483648) ≤ a + 1 := by omega
theorem ok_589 {a b c d e f g i : Int} (h0 : 0 ≤ b) (h1 : c ≤ 1600) (h2 : d ≤ 1600) (h3 : e = b) (h4 : f = c) (h5 : (0 ≤ g) → (e + d < f)) (h6 : 0 ≤ i) (h7 : i ≤ 1) (h8 : (i = 1) → (48 ≤ g)) (h9 : i ≠ 0) (h10 : a = d + 1) : 0 ≤ 1600 - a := by omega
theorem ok_590 {a b : Int} (h0 : 4 ≤ b) (h1 : a = b + 1) : 0 ≤ a := by omega
theorem ok_591 {a b c d e f g i : Int} (h0 : 0 ≤ b) (h1 : c ≤ 1600) (h2 : d ≤ 1600) (h3 : e = b) (h4 : f = c) (h5 : (0 ≤ g) → (e + d < f)) (h6 : 0 ≤ i) (h7 : i ≤ 1) (h8 : (i = 1) → (48 ≤ g)) (h9 : i ≠ 0) (h10 : a = d + 1) : a ≤ 1600 := by omega
theorem ok_592 {a b c d e f g i j k : Int} (h0 : d = e) (h1 : f = g) (h2 : (0 ≤ i) → (d + j < f)) (h3 : 0 ≤ k) (h4 : k ≤ 1) (h5 : (k = 1) → (48 ≤ i)) (h6 : k ≠ 0) (h7 : b = j + 1) (h8 : a = e) (h9 : c = g) : a + b ≤ c := by omega
theorem ok_593 {a : Int} (h0 : a < 4) : a ≤ 1601 := by omega
theorem ok_594 {a : Int} (h0 : a < 4) : a + 1 ≤ 2147483647 := by omega
theorem ok_595 {a b : Int} (h0 : b < 4) (h1 : a = b + 1) : 0 ≤ 1600 - a := by omega
theorem ok_596 {a b : Int} (h0 : b < 4) (h1 : a = b + 1) : a ≤ 1600 := by omega
theorem ok_597 (h0 : (1 : Int) = 3) : False := by omega
theorem ok_598 {a b : Int} (h0 : a ≤ 1600) (h1 : b ≤ 8) : a + b ≤ 2147483647 := by omega
theorem ok_599 {a b c d e f : Int} (h0 : b ≤ 1600) (h1 : c ≤ 1600) (h2 : d + e ≤ f) (h3 : d = b) (h4 : f = c) (h5 : e ≤ 8) (h6 : a = b + e) : a ≤ 1600 := by omega
theorem ok_600 {a b : Int} (h0 : a = 1) : (a = b) ∨ (a ≤ 3) := by omega
theorem ok_601 {a : Int} (h0 : 8 ≤ a) : (-2147483648) ≤ a + 1 := by omega
theorem ok_602 {a b : Int} (h0 : 8 ≤ b) (h1 : a = b + 1) : 0 ≤ a := by omega
theorem ok_603 {a : Int} (h0 : a < 8) : a ≤ 1601 := by omega
theorem ok_604 {a : Int} (h0 : a < 8) : a + 1 ≤ 2147483647 := by omega
theorem ok_605 {a b : Int} (h0 : b < 8) (h1 : a = b + 1) : 0 ≤ 1600 - a := by omega
theorem ok_606 {a b : Int} (h0 : b < 8) (h1 : a = b + 1) : a ≤ 1600 := by omega
theorem ok_607 (h0 : (0 : Int) = 3) : False := by omega
theorem ok_608 {a : Int} (h0 : 0 ≤ a) : (-2147483648) ≤ a + 0 := by omega
theorem ok_609 {a : Int} (h0 : a ≤ 1600) : a + 0 ≤ 2147483647 := by omega
theorem ok_610 {a b : Int} (h0 : 0 ≤ b) (h1 : a = b + 0) : 0 ≤ a := by omega
theorem ok_611 {a b : Int} (h0 : b ≤ 1600) (h1 : a = b + 0) : a ≤ 1600 := by omega
theorem ok_612 {a b c d : Int} (h0 : a ≤ c) (h1 : d = c + 0) (h2 : b = d) : a ≤ b := by omega
theorem ok_613 {a b : Int} (h0 : a = 0) : (a = b) ∨ (a ≤ 3) := by omega
theorem ok_614 {a b c d e f g : Int} (h0 : b ≤ 1600) (h1 : c = 0) (h2 : d ≤ 1600) (h3 : e = b) (h4 : f = d) (h5 : (0 ≤ g) → (e + c < f)) (h6 : g = 10) (h7 : a = b + 1) : a ≤ 1600 := by omega
theorem ok_615 {a b c d e f g i : Int} (h0 : b ≤ 1600) (h1 : c = 0) (h2 : d ≤ 1600) (h3 : e = b) (h4 : f = d) (h5 : (0 ≤ g) → (e + c < f)) (h6 : g = 10) (h7 : i = b + 1) (h8 : a = i) : 0 ≤ 1600 - a := by omega
theorem ok_616 {a b : Int} (h0 : 1 ≤ b) (h1 : a = b) : 1 ≤ a := by omega
theorem ok_617 {a : Int} (h0 : a = 1) : 1 ≤ a := by omega
theorem ok_618 {a : Int} (h0 : 0 < a) : 1 ≤ a := by omega
theorem ok_619 {a : Int} (h0 : (-1) ≤ a) : (-1) ≤ a := by omega
theorem ok_620 {a b c : Int} (h0 : c = a) (h1 : c ≤ b) : a ≤ b := by omega
theorem ok_621 {a b : Int} (h0 : 0 ≤ b) (h1 : a = b) (h2 : 1 ≤ b) : 1 ≤ a := by omega
theorem ok_622 {a b : Int} (h0 : b = a) : a ≤ b := by omega
theorem ok_623 {a : Int} (h0 : 0 ≤ a) (h1 : a ≤ 0) (h2 : a ≠ 0) : False := by omega
theorem ok_624 {a b c : Int} (h0 : a ≤ c) (h1 : c ≤ b) : a ≤ b := by omega
theorem ok_625 {a b c : Int} (h0 : (1 ≤ b) → (1 ≤ c)) (h1 : (1 ≤ c) → (1 ≤ a)) (h2 : 1 ≤ b) : 1 ≤ a := by omega
theorem ok_626 {a b c d : Int} (h0 : (c = 0) → ((a ≤ b) ∧ (b ≤ d))) (h1 : 0 ≤ c) (h2 : c = 0) : a ≤ b := by omega
theorem ok_627 {a b c d : Int} (h0 : (c = 0) → ((d ≤ a) ∧ (a ≤ b))) (h1 : 0 ≤ c) (h2 : c = 0) : a ≤ b := by omega
theorem ok_628 {a b : Int} (h0 : a ≤ 7) (h1 : b ≤ 6) : a + b ≤ 2147483647 := by omega
theorem ok_629 {a b c : Int} (h0 : b ≤ 7) (h1 : c ≤ 6) (h2 : a = b + c) : a < ((16 : Nat) : Int) := by omega
theorem ok_630 {a b c d : Int} (h0 : a ≤ c) (h1 : d = c) (h2 : d ≤ b) : a ≤ b := by omega
theorem ok_631 {a b c : Int} (h0 : (1 ≤ b) → (1 ≤ c)) (h1 : 0 ≤ c) (h2 : a = c) (h3 : 1 ≤ b) : 1 ≤ a := by omega
theorem ok_632 {a b c : Int} (h0 : b ≤ 6) (h1 : c ≤ 6) (h2 : c < b) (h3 : a = c + 1) : 0 ≤ 6 - a := by omega
theorem ok_633 {a b c : Int} (h0 : b ≤ 6) (h1 : c ≤ 6) (h2 : c < b) (h3 : a = c + 1) : a ≤ 6 := by omega
theorem ok_634 {a b : Int}  : (a = b) ∨ (a = a) := by omega
theorem ok_635 {a b : Int} (h0 : a < b) : a ≤ b := by omega
theorem ok_636 {a b : Int}  : (a = a) ∨ (a = b) := by omega
theorem ok_637 {a : Int} (h0 : a ≤ 3) : a - 1 ≤ 2147483647 := by omega
theorem ok_638 {a b c d : Int} (h0 : b = 0) (h1 : c ≤ 1) (h2 : (c = 1) → ((b ≤ a) ∧ (a ≤ d))) (h3 : c = 1) : 0 ≤ a := by omega
theorem ok_639 {a b c d e : Int} (h0 : c = b - 1) (h1 : d ≤ 1) (h2 : (d = 1) → ((e ≤ a) ∧ (a ≤ c))) (h3 : d = 1) : a < b := by omega
theorem ok_640 {a b c d e : Int} (h0 : b ≤ 3) (h1 : c = b - 1) (h2 : d ≤ 1) (h3 : (d = 1) → ((e ≤ a) ∧ (a ≤ c))) (h4 : d = 1) : a ≤ 2 := by omega
theorem ok_641 {a : Int} (h0 : a ≤ 4) : a - 1 ≤ 2147483647 := by omega
theorem ok_642 {a b c d e : Int} (h0 : b ≤ 4) (h1 : c = b - 1) (h2 : d ≤ 1) (h3 : (d = 1) → ((e ≤ a) ∧ (a ≤ c))) (h4 : d = 1) : a ≤ 3 := by omega
theorem ok_643 {a : Int} (h0 : a ≤ 6) : a - 1 ≤ 2147483647 := by omega
theorem ok_644 {a b c d e : Int} (h0 : b ≤ 6) (h1 : c = b - 1) (h2 : d ≤ 1) (h3 : (d = 1) → ((e ≤ a) ∧ (a ≤ c))) (h4 : d = 1) : a ≤ 5 := by omega
theorem ok_645 {a b c d e : Int} (h0 : b ≤ 64) (h1 : c = b - 1) (h2 : d ≤ 1) (h3 : (d = 1) → ((e ≤ a) ∧ (a ≤ c))) (h4 : d = 1) : a ≤ 63 := by omega
theorem ok_646 {a b c d e : Int} (h0 : b ≤ 400) (h1 : c = b - 1) (h2 : d ≤ 1) (h3 : (d = 1) → ((e ≤ a) ∧ (a ≤ c))) (h4 : d = 1) : a ≤ 399 := by omega
theorem ok_647 {a b c : Int} (h0 : 0 ≤ b) (h1 : b ≤ 1) (h2 : (b = 1) → ((0 ≤ a) ∧ ((a < c) ∧ (a ≤ 2)))) (h3 : b ≠ 0) : 0 ≤ a := by omega
theorem ok_648 {a b c : Int} (h0 : 0 ≤ b) (h1 : b ≤ 1) (h2 : (b = 1) → ((0 ≤ a) ∧ ((a < c) ∧ (a ≤ 2)))) (h3 : b ≠ 0) : a < ((3 : Nat) : Int) := by omega
theorem ok_649 {a b c : Int} (h0 : 0 ≤ b) (h1 : b ≤ 1) (h2 : (b = 1) → ((0 ≤ a) ∧ ((a < c) ∧ (a ≤ 2)))) (h3 : b ≠ 0) : a ≤ 2 := by omega
theorem ok_650 {a b c : Int} (h0 : 0 ≤ b) (h1 : b ≤ 1) (h2 : (b = 1) → ((0 ≤ a) ∧ ((a < c) ∧ (a ≤ 2)))) (h3 : b ≠ 0) : (-2147483648) ≤ 400 * a := by omega
theorem ok_651 {a b c : Int} (h0 : 0 ≤ b) (h1 : b ≤ 1) (h2 : (b = 1) → ((0 ≤ a) ∧ ((a < c) ∧ (a ≤ 2)))) (h3 : b ≠ 0) : 400 * a ≤ 2147483647 := by omega
theorem ok_652 {a b c d e f : Int} (h0 : 0 ≤ c) (h1 : c ≤ 1) (h2 : (c = 1) → ((0 ≤ d) ∧ ((d < e) ∧ (d ≤ 2)))) (h3 : c ≠ 0) (h4 : 0 ≤ f) (h5 : f ≤ 1) (h6 : (f = 1) → ((0 ≤ b) ∧ (b ≤ 399))) (h7 : f ≠ 0) (h8 : a = 400 * d) : (-2147483648) ≤ a + b := by omega
theorem ok_653 {a b c d e f : Int} (h0 : 0 ≤ c) (h1 : c ≤ 1) (h2 : (c = 1) → ((0 ≤ d) ∧ ((d < e) ∧ (d ≤ 2)))) (h3 : c ≠ 0) (h4 : 0 ≤ f) (h5 : f ≤ 1) (h6 : (f = 1) → ((0 ≤ b) ∧ (b ≤ 399))) (h7 : f ≠ 0) (h8 : a = 400 * d) : a + b ≤ 2147483647 := by omega
theorem ok_654 {a b c d e f g : Int} (h0 : 0 ≤ b) (h1 : b ≤ 1) (h2 : (b = 1) → ((0 ≤ c) ∧ ((c < d) ∧ (c ≤ 2)))) (h3 : b ≠ 0) (h4 : 0 ≤ e) (h5 : e ≤ 1) (h6 : (e = 1) → ((0 ≤ f) ∧ (f ≤ 399))) (h7 : e ≠ 0) (h8 : g = 400 * c) (h9 : a = g + f) : 0 ≤ a := by omega
theorem ok_655 {a b c d e f g : Int} (h0 : 0 ≤ b) (h1 : b ≤ 1) (h2 : (b = 1) → ((0 ≤ c) ∧ ((c < d) ∧ (c ≤ 2)))) (h3 : b ≠ 0) (h4 : 0 ≤ e) (h5 : e ≤ 1) (h6 : (e = 1) → ((0 ≤ f) ∧ (f ≤ 399))) (h7 : e ≠ 0) (h8 : g = 400 * c) (h9 : a = g + f) : a < ((1200 : Nat) : Int) := by omega
theorem ok_656 {a b c d e f g i : Int} (h0 : e = f + g) (h1 : a = e + i) (h2 : b = f) (h3 : c = g) (h4 : d = i) : a = b + c + d := by omega
theorem ok_657 {a b c d : Int} (h0 : b = 5) (h1 : 0 ≤ c) (h2 : c ≤ 1) (h3 : (c = 1) → ((d ≤ a) ∧ (a ≤ b))) (h4 : c ≠ 0) : a < ((16 : Nat) : Int) := by omega
theorem ok_658 {a b c d e : Int} (h0 : b ≤ 400) (h1 : c = b - 1) (h2 : 0 ≤ d) (h3 : d ≤ 1) (h4 : (d = 1) → ((e ≤ a) ∧ (a ≤ c))) (h5 : d ≠ 0) : a < ((400 : Nat) : Int) := by omega
theorem ok_659 {a : Int} (h0 : a ≤ 20) : a - 1 ≤ 2147483647 := by omega
theorem ok_660 {a b c d e : Int} (h0 : b ≤ 20) (h1 : c = b - 1) (h2 : 0 ≤ d) (h3 : d ≤ 1) (h4 : (d = 1) → ((e ≤ a) ∧ (a ≤ c))) (h5 : d ≠ 0) : a < ((20 : Nat) : Int) := by omega
theorem ok_661 {a b : Int} (h0 : b ≤ 40) (h1 : b ≠ 40) (h2 : a = b + 1) : a ≤ 40 := by omega
theorem ok_662 {a b c d : Int} (h0 : c ≤ 40) (h1 : c ≠ 40) (h2 : d = c + 1) (h3 : a = d) (h4 : b = 0) : a + b ≤ 40 := by omega
theorem ok_663 {a b c : Int} (h0 : 0 ≤ b) (h1 : c = b + 1) (h2 : a = c) : 1 ≤ a := by omega
theorem ok_664 {a : Int} (h0 : 0 ≤ a) : (-2147483648) ≤ 16 * a := by omega
theorem ok_665 {a : Int} (h0 : a ≤ 40) : 16 * a ≤ 2147483647 := by omega
theorem ok_666 {a b c : Int} (h0 : 0 ≤ c) (h1 : 0 ≤ b) (h2 : a = 16 * c) : (-2147483648) ≤ a + b := by omega
theorem ok_667 {a b c : Int} (h0 : c ≤ 40) (h1 : b ≤ 10) (h2 : a = 16 * c) : a + b ≤ 2147483647 := by omega
theorem ok_668 {a : Int} (h0 : a ≤ 10) : a < ((16 : Nat) : Int) := by omega
theorem ok_669 {a b c d : Int} (h0 : 0 ≤ b) (h1 : 0 ≤ c) (h2 : d = 16 * b) (h3 : a = d + c) : 0 ≤ a := by omega
theorem ok_670 {a b c d : Int} (h0 : b ≤ 40) (h1 : b ≠ 40) (h2 : c < 10) (h3 : d = 16 * b) (h4 : a = d + c) : a < ((640 : Nat) : Int) := by omega
theorem ok_671 {a : Int} (h0 : a = 40) : (-2147483648) ≤ a - 1 := by omega
theorem ok_672 {a b : Int} (h0 : b = 40) (h1 : a = b - 1) : 0 ≤ a := by omega
theorem ok_673 {a b : Int} (h0 : b = 40) (h1 : a = b - 1) : (-2147483648) ≤ a + 1 := by omega
theorem ok_674 {a b : Int} (h0 : b ≤ 40) (h1 : a = b - 1) : a + 1 ≤ 2147483647 := by omega
theorem ok_675 {a b c : Int} (h0 : b = 40) (h1 : c = b - 1) (h2 : a = c + 1) : 0 ≤ a := by omega
theorem ok_676 {a b c : Int} (h0 : b ≤ 40) (h1 : c = b - 1) (h2 : a = c + 1) : a ≤ 40 := by omega
theorem ok_677 {a b c d e : Int} (h0 : c ≤ 40) (h1 : d = c - 1) (h2 : e = d + 1) (h3 : a = e) (h4 : b = 0) : a + b ≤ 40 := by omega
theorem ok_678 {a b c d : Int} (h0 : b = 40) (h1 : c = b - 1) (h2 : d = c + 1) (h3 : a = d) : 1 ≤ a := by omega
theorem ok_679 {a b : Int} (h0 : b = 40) (h1 : a = b - 1) : (-2147483648) ≤ 16 * a := by omega
theorem ok_680 {a b : Int} (h0 : b ≤ 40) (h1 : a = b - 1) : 16 * a ≤ 2147483647 := by omega
theorem ok_681 {a b c d : Int} (h0 : c = 40) (h1 : d = c - 1) (h2 : 0 ≤ b) (h3 : a = 16 * d) : (-2147483648) ≤ a + b := by omega
theorem ok_682 {a b c d : Int} (h0 : c ≤ 40) (h1 : d = c - 1) (h2 : b ≤ 10) (h3 : a = 16 * d) : a + b ≤ 2147483647 := by omega
theorem ok_683 {a b c d e : Int} (h0 : b = 40) (h1 : c = b - 1) (h2 : 0 ≤ d) (h3 : e = 16 * c) (h4 : a = e + d) : 0 ≤ a := by omega
theorem ok_684 {a b c d e : Int} (h0 : b ≤ 40) (h1 : c = b - 1) (h2 : d ≤ 10) (h3 : e = 16 * c) (h4 : a = e + d) : a < ((640 : Nat) : Int) := by omega
theorem ok_685 {a : Int} (h0 : 0 ≤ a) : (-2147483648) ≤ 16 + a := by omega
theorem ok_686 {a : Int} (h0 : a ≤ 624) : 16 + a ≤ 2147483647 := by omega
theorem ok_687 {a b : Int} (h0 : 0 ≤ b) (h1 : a = 16 + b) : 0 ≤ a := by omega
theorem ok_688 {a b : Int} (h0 : b ≤ 624) (h1 : b < 624) (h2 : a = 16 + b) : a < ((640 : Nat) : Int) := by omega
theorem ok_689 {a : Int} (h0 : a ≤ 624) : a < ((640 : Nat) : Int) := by omega
theorem ok_690 {a : Int} (h0 : a ≤ 624) : a + 1 ≤ 2147483647 := by omega
theorem ok_691 {a b : Int} (h0 : b ≤ 624) (h1 : b < 624) (h2 : a = b + 1) : 0 ≤ 624 - a := by omega
theorem ok_692 {a b : Int} (h0 : b ≤ 624) (h1 : b < 624) (h2 : a = b + 1) : a ≤ 624 := by omega
theorem ok_693 {a b : Int} (h0 : a ≤ 624) (h1 : b ≤ 10) : a + b ≤ 2147483647 := by omega
theorem ok_694 {a b c : Int} (h0 : b ≤ 624) (h1 : c ≤ 10) (h2 : a = b + c) : a < ((640 : Nat) : Int) := by omega
theorem ok_695 {a b : Int} (h0 : 0 ≤ b) (h1 : b ≠ 0) (h2 : a = b - 1) : 0 ≤ a := by omega
theorem ok_696 {a b c : Int} (h0 : b + c ≤ 40) (h1 : 0 ≤ b) (h2 : b ≠ 0) (h3 : c ≤ 40) (h4 : a = c + 1) : a ≤ 40 := by omega
theorem ok_697 {a b : Int} (h0 : 0 ≤ b) (h1 : a = b - 1) : (-2147483648) ≤ 16 * a := by omega
theorem ok_698 {a b c : Int} (h0 : 0 ≤ b) (h1 : b ≠ 0) (h2 : c = b - 1) (h3 : a = 16 * c) : 0 ≤ a := by omega
theorem ok_699 {a b c : Int} (h0 : b ≤ 40) (h1 : c = b - 1) (h2 : a = 16 * c) : a ≤ 624 := by omega
theorem ok_700 {a b : Int} (h0 : 0 ≤ b) (h1 : a = 16 * b) : 0 ≤ a := by omega
theorem ok_701 {a b c : Int} (h0 : b + c ≤ 40) (h1 : 0 ≤ c) (h2 : c ≠ 0) (h3 : b ≤ 40) (h4 : a = 16 * b) : a ≤ 624 := by omega
theorem ok_702 {a b c : Int} (h0 : b + c ≤ 40) (h1 : 0 ≤ c) (h2 : c ≠ 0) (h3 : b ≤ 40) (h4 : a = b + 1) : a ≤ 40 := by omega
theorem ok_703 {a b : Int} (h0 : 0 ≤ b) (h1 : b ≤ 1) (h2 : (b = 1) → ((0 ≤ a) ∧ (a < 3))) (h3 : b ≠ 0) : 0 ≤ a := by omega
theorem ok_704 {a b : Int} (h0 : 0 ≤ b) (h1 : b ≤ 1) (h2 : (b = 1) → ((0 ≤ a) ∧ (a < 3))) (h3 : b ≠ 0) : a < ((3 : Nat) : Int) := by omega
theorem ok_705 {a b : Int} (h0 : 0 ≤ b) (h1 : b ≤ 1) (h2 : (b = 1) → ((0 ≤ a) ∧ (a < 3))) (h3 : b ≠ 0) : (-2147483648) ≤ 16 * a := by omega
theorem ok_706 {a b : Int} (h0 : 0 ≤ b) (h1 : b ≤ 1) (h2 : (b = 1) → ((0 ≤ a) ∧ (a < 3))) (h3 : b ≠ 0) : 16 * a ≤ 2147483647 := by omega
theorem ok_707 {a b c d : Int} (h0 : 0 ≤ c) (h1 : c ≤ 1) (h2 : (c = 1) → ((0 ≤ d) ∧ (d < 3))) (h3 : c ≠ 0) (h4 : 0 ≤ b) (h5 : a = 16 * d) : (-2147483648) ≤ a + b := by omega
theorem ok_708 {a b c d : Int} (h0 : 0 ≤ c) (h1 : c ≤ 1) (h2 : (c = 1) → ((0 ≤ d) ∧ (d < 3))) (h3 : c ≠ 0) (h4 : b ≤ 10) (h5 : a = 16 * d) : a + b ≤ 2147483647 := by omega
theorem ok_709 {a b c d e : Int} (h0 : 0 ≤ b) (h1 : b ≤ 1) (h2 : (b = 1) → ((0 ≤ c) ∧ (c < 3))) (h3 : b ≠ 0) (h4 : 0 ≤ d) (h5 : e = 16 * c) (h6 : a = e + d) : 0 ≤ a := by omega
theorem ok_710 {a b c d e : Int} (h0 : 0 ≤ b) (h1 : b ≤ 1) (h2 : (b = 1) → ((0 ≤ c) ∧ (c < 3))) (h3 : b ≠ 0) (h4 : d ≤ 10) (h5 : e = 16 * c) (h6 : a = e + d) : a < ((48 : Nat) : Int) := by omega
theorem ok_711 {a : Int} (h0 : a ≤ 200) : 0 ≤ 212 - a := by omega
theorem ok_712 {a : Int} (h0 : a ≤ 200) : a ≤ 212 := by omega
theorem ok_713 {a b : Int} (h0 : b ≤ 12) (h1 : a ≤ 200) : a + b ≤ 2147483647 := by omega
theorem ok_714 {a : Int} (h0 : a ≤ 212) : a + 1 ≤ 2147483647 := by omega
theorem ok_715 {a b c d e : Int} (h0 : b ≤ 12) (h1 : c ≤ 200) (h2 : d ≤ 212) (h3 : e = c + b) (h4 : d < e) (h5 : a = d + 1) : 0 ≤ 212 - a := by omega
theorem ok_716 {a b c d e : Int} (h0 : b ≤ 12) (h1 : c ≤ 200) (h2 : d ≤ 212) (h3 : e = c + b) (h4 : d < e) (h5 : a = d + 1) : a ≤ 212 := by omega
theorem ok_717 {a : Int} (h0 : a ≤ 68) : a ≤ 200 := by omega
theorem ok_718 {a b : Int} (h0 : b ≤ 99) (h1 : a ≤ 68) : a + b ≤ 2147483647 := by omega
theorem ok_719 {a : Int} (h0 : a ≤ 70) : a + 1 ≤ 2147483647 := by omega
theorem ok_720 {a b c d e : Int} (h0 : b ≤ 60) (h1 : c ≤ 9) (h2 : d ≤ 70) (h3 : e = b + c) (h4 : d ≤ e) (h5 : a = d + 1) : 0 ≤ 70 - a := by omega
theorem ok_721 {a b c d e : Int} (h0 : b ≤ 60) (h1 : c ≤ 9) (h2 : d ≤ 70) (h3 : e = b + c) (h4 : d ≤ e) (h5 : a = d + 1) : a ≤ 70 := by omega
theorem ok_722 {a b c d : Int} (h0 : b ≤ 60) (h1 : c ≤ 9) (h2 : d = b + c) (h3 : a < d) : a ≤ 68 := by omega
theorem ok_723 {a b c d e : Int} (h0 : 0 ≤ b) (h1 : b ≤ 1) (h2 : (b = 1) → ((1 ≤ c) ∧ ((c ≤ 60) ∧ ((0 ≤ d) ∧ ((d ≤ 9) ∧ ((1 ≤ e) ∧ (e ≤ 12))))))) (h3 : b ≠ 0) (h4 : a = c + d) : (-2147483648) ≤ a - 1 := by omega
theorem ok_724 {a b c d e : Int} (h0 : 0 ≤ b) (h1 : b ≤ 1) (h2 : (b = 1) → ((1 ≤ c) ∧ ((c ≤ 60) ∧ ((0 ≤ d) ∧ ((d ≤ 9) ∧ ((1 ≤ e) ∧ (e ≤ 12))))))) (h3 : b ≠ 0) (h4 : a = c + d) : a - 1 ≤ 2147483647 := by omega
theorem ok_725 {a b c d : Int} (h0 : b = 1) (h1 : 0 ≤ c) (h2 : c ≤ 1) (h3 : (c = 1) → ((b ≤ a) ∧ (a ≤ d))) (h4 : c ≠ 0) : 1 ≤ a := by omega
theorem ok_726 {a b c d e f g i j : Int} (h0 : 0 ≤ b) (h1 : b ≤ 1) (h2 : (b = 1) → ((1 ≤ c) ∧ ((c ≤ 60) ∧ ((0 ≤ d) ∧ ((d ≤ 9) ∧ ((1 ≤ e) ∧ (e ≤ 12))))))) (h3 : b ≠ 0) (h4 : f = c + d) (h5 : g = f - 1) (h6 : 0 ≤ i) (h7 : i ≤ 1) (h8 : (i = 1) → ((j ≤ a) ∧ (a ≤ g))) (h9 : i ≠ 0) : a ≤ 68 := by omega
theorem ok_727 {a b c d : Int} (h0 : b ≤ 60) (h1 : c ≤ 9) (h2 : a ≤ 69) (h3 : d = b + c) (h4 : a < d) : a ≤ 68 := by omega
theorem ok_728 {a b c d e : Int} (h0 : b ≤ 60) (h1 : c ≤ 9) (h2 : d ≤ 69) (h3 : e = b + c) (h4 : d < e) (h5 : a = d + 1) : 0 ≤ 69 - a := by omega
theorem ok_729 {a b c d e : Int} (h0 : b ≤ 60) (h1 : c ≤ 9) (h2 : d ≤ 69) (h3 : e = b + c) (h4 : d < e) (h5 : a = d + 1) : a ≤ 69 := by omega
theorem ok_730 {a : Int}  : a = a + 0 := by omega
theorem ok_731 {a b c d : Int} (h0 : a = b + d) (h1 : d ≤ c) (h2 : c ≤ d) : a = b + c := by omega
theorem ok_732 {a : Int} (h0 : 0 ≤ a) : (-2147483648) ≤ 400 * a := by omega
theorem ok_733 {a : Int} (h0 : a < 3) : 400 * a ≤ 2147483647 := by omega
theorem ok_734 {a b c : Int} (h0 : 0 ≤ c) (h1 : a = 400 * c) (h2 : 0 ≤ b) : (-2147483648) ≤ a + b := by omega
theorem ok_735 {a b c : Int} (h0 : c < 3) (h1 : a = 400 * c) (h2 : b ≤ 400) : a + b ≤ 2147483647 := by omega
theorem ok_736 {a b c d : Int} (h0 : 0 ≤ b) (h1 : c = 400 * b) (h2 : 0 ≤ d) (h3 : a = c + d) : 0 ≤ a := by omega
theorem ok_737 {a b c d e f g i : Int} (h0 : d = b + e) (h1 : f = d) (h2 : g = f) (h3 : i = g + 1) (h4 : c = e + 1) (h5 : a = i) : a = b + c := by omega
theorem ok_738 {a b c : Int} (h0 : c < b) (h1 : a = c + 1) : a ≤ b := by omega
theorem ok_739 {a b : Int} (h0 : (-500) ≤ a) (h1 : 0 ≤ b) : (-2147483648) ≤ a + b := by omega
theorem ok_740 {a b : Int} (h0 : a ≤ 500) (h1 : b ≤ 60) : a + b ≤ 2147483647 := by omega
theorem ok_741 {a : Int} (h0 : a ≤ 399) : 2 * a ≤ 2147483647 := by omega
theorem ok_742 {a b c : Int} (h0 : 0 ≤ c) (h1 : 0 ≤ b) (h2 : a = 2 * c) : (-2147483648) ≤ a + b := by omega
theorem ok_743 {a b c : Int} (h0 : c ≤ 399) (h1 : b ≤ 1) (h2 : a = 2 * c) : a + b ≤ 2147483647 := by omega
theorem ok_744 {a b c d : Int} (h0 : 0 ≤ b) (h1 : 0 ≤ c) (h2 : d = 2 * b) (h3 : a = d + c) : (-2147483648) ≤ 3 * a := by omega
theorem ok_745 {a b c d : Int} (h0 : b ≤ 399) (h1 : c ≤ 1) (h2 : d = 2 * b) (h3 : a = d + c) : 3 * a ≤ 2147483647 := by omega
theorem ok_746 {a b c d e f : Int} (h0 : 0 ≤ c) (h1 : 0 ≤ d) (h2 : 0 ≤ b) (h3 : e = 2 * c) (h4 : f = e + d) (h5 : a = 3 * f) : (-2147483648) ≤ a + b := by omega
theorem ok_747 {a b c d e f : Int} (h0 : c ≤ 399) (h1 : d ≤ 1) (h2 : b ≤ 2) (h3 : e = 2 * c) (h4 : f = e + d) (h5 : a = 3 * f) : a + b ≤ 2147483647 := by omega
theorem ok_748 {a b c d e f g : Int} (h0 : 0 ≤ b) (h1 : 0 ≤ c) (h2 : 0 ≤ d) (h3 : e = 2 * b) (h4 : f = e + c) (h5 : g = 3 * f) (h6 : a = g + d) : 0 ≤ a := by omega
theorem ok_749 {a b c d e f g : Int} (h0 : b ≤ 399) (h1 : c ≤ 1) (h2 : d ≤ 2) (h3 : e = 2 * b) (h4 : f = e + c) (h5 : g = 3 * f) (h6 : a = g + d) : a < ((2400 : Nat) : Int) := by omega
theorem ok_750 {a : Int} (h0 : a < 400) (h1 : a ≤ 400) : a < ((400 : Nat) : Int) := by omega
theorem ok_751 {a b : Int} (h0 : b < 400) (h1 : b ≤ 400) (h2 : a = b + 1) : a ≤ 400 := by omega
theorem ok_752 {a b c : Int} (h0 : c = b + 1) (h1 : a = c) : a = b + 1 := by omega
theorem ok_753 {a : Int} (h0 : a ≤ 511) : a < ((512 : Nat) : Int) := by omega
theorem ok_754 {a : Int} (h0 : a ≤ 60) : 0 ≤ 100 - a := by omega
theorem ok_755 {a : Int} (h0 : a ≤ 60) : a ≤ 100 := by omega
theorem ok_756 {a b c : Int} (h0 : 0 ≤ c) (h1 : a = c / 2) (h2 : 0 ≤ b) : (-2147483648) ≤ a + b := by omega
theorem ok_757 {a b c : Int} (h0 : c ≤ 799) (h1 : a = c / 2) (h2 : b ≤ 100) : a + b ≤ 2147483647 := by omega
theorem ok_758 {a b c d : Int} (h0 : 0 ≤ b) (h1 : c = b / 2) (h2 : 0 ≤ d) (h3 : a = c + d) : 0 ≤ a := by omega
theorem ok_759 {a b c d : Int} (h0 : b ≤ 799) (h1 : c = b / 2) (h2 : d ≤ 100) (h3 : a = c + d) : a < ((512 : Nat) : Int) := by omega
theorem ok_760 {a b c d : Int} (h0 : 0 ≤ b) (h1 : c = b / 2) (h2 : 0 ≤ d) (h3 : a = c + d) : (-2147483648) ≤ 2 * a := by omega
theorem ok_761 {a b c d : Int} (h0 : b ≤ 799) (h1 : c = b / 2) (h2 : d ≤ 100) (h3 : a = c + d) : 2 * a ≤ 2147483647 := by omega
theorem ok_762 {a b c d e f : Int} (h0 : 0 ≤ c) (h1 : d = c / 2) (h2 : 0 ≤ e) (h3 : f = d + e) (h4 : a = 2 * f) (h5 : 0 ≤ b) : (-2147483648) ≤ a + b := by omega
theorem ok_763 {a b c d e f : Int} (h0 : c ≤ 799) (h1 : d = c / 2) (h2 : e ≤ 100) (h3 : f = d + e) (h4 : a = 2 * f) (h5 : b ≤ 1) : a + b ≤ 2147483647 := by omega
theorem ok_764 {a b c d e f g : Int} (h0 : b ≤ 799) (h1 : c = b / 2) (h2 : d ≤ 100) (h3 : e = c + d) (h4 : f = 2 * e) (h5 : g ≤ 1) (h6 : a = f + g) : a < ((1024 : Nat) : Int) := by omega
theorem ok_765 {a : Int} (h0 : a ≤ 799) : a < ((1024 : Nat) : Int) := by omega
theorem ok_766 {a b c : Int} (h0 : b ≤ 100) (h1 : c ≤ 99) (h2 : b ≤ c) (h3 : a = b + 1) : 0 ≤ 100 - a := by omega
theorem ok_767 {a b c : Int} (h0 : b ≤ 100) (h1 : c ≤ 99) (h2 : b ≤ c) (h3 : a = b + 1) : a ≤ 100 := by omega
theorem ok_768 {a : Int} (h0 : a ≤ 60) : a ≤ 99 := by omega
theorem ok_769 {a b c d : Int} (h0 : b ≤ 799) (h1 : c = b / 2) (h2 : d ≤ 100) (h3 : a = c + d) : a ≤ 600 := by omega
theorem ok_770 {a b c : Int} (h0 : b ≤ 100) (h1 : c ≤ 60) (h2 : b ≤ c) (h3 : a = b + 1) : 0 ≤ 100 - a := by omega
theorem ok_771 {a b c : Int} (h0 : b ≤ 100) (h1 : c ≤ 60) (h2 : b ≤ c) (h3 : a = b + 1) : a ≤ 100 := by omega
theorem ok_772 {a b c d e f g i : Int} (h0 : 0 ≤ b) (h1 : c = b / 2) (h2 : 0 ≤ d) (h3 : e = c + d) (h4 : f = 2 * e) (h5 : 0 ≤ g) (h6 : 0 ≤ i) (h7 : a = f + i) (h8 : g < d) : 0 ≤ a := by omega
theorem ok_773 {a : Int} (h0 : a ≤ 399) : a < ((512 : Nat) : Int) := by omega
theorem ok_774 {a : Int} (h0 : 0 ≤ a) : (-500) ≤ a := by omega
theorem ok_775 {a : Int} (h0 : a ≤ 399) : a ≤ 500 := by omega
theorem ok_776 {a b : Int} (h0 : a ≤ 399) (h1 : b ≤ 61) : a + b ≤ 2147483647 := by omega
theorem ok_777 {a b c : Int} (h0 : b ≤ 399) (h1 : c ≤ 61) (h2 : a = b + c) : a < ((512 : Nat) : Int) := by omega
theorem ok_778 {a : Int} (h0 : a ≤ 160) : a + 1 ≤ 2147483647 := by omega
theorem ok_779 {a b c : Int} (h0 : b ≤ 160) (h1 : c ≤ 160) (h2 : c < b) (h3 : a = c + 1) : 0 ≤ 160 - a := by omega
theorem ok_780 {a b c : Int} (h0 : b ≤ 160) (h1 : c ≤ 160) (h2 : c < b) (h3 : a = c + 1) : a ≤ 160 := by omega
theorem ok_781 {a b : Int} (h0 : b ≤ 160) (h1 : a ≤ 160) (h2 : a < b) : a < ((160 : Nat) : Int) := by omega
theorem ok_782 {a : Int} (h0 : 0 ≤ a) : (-2147483648) ≤ 320 * a := by omega
theorem ok_783 {a : Int} (h0 : a ≤ 5) : 320 * a ≤ 2147483647 := by omega
theorem ok_784 {a b c : Int} (h0 : 0 ≤ c) (h1 : a = 320 * c) (h2 : 0 ≤ b) : (-2147483648) ≤ a + b := by omega
theorem ok_785 {a b c : Int} (h0 : c ≤ 5) (h1 : a = 320 * c) (h2 : b ≤ 320) : a + b ≤ 2147483647 := by omega
theorem ok_786 {a b c d : Int} (h0 : 0 ≤ b) (h1 : c = 320 * b) (h2 : 0 ≤ d) (h3 : a = c + d) : 0 ≤ a := by omega
theorem ok_787 {a b c d e f : Int} (h0 : b ≤ 319) (h1 : b = c) (h2 : d ≤ 5) (h3 : e = 320 * d) (h4 : f ≤ 320) (h5 : f = c) (h6 : a = e + f) : a < ((1920 : Nat) : Int) := by omega
theorem ok_788 {a b c d e f g : Int} (h0 : b ≤ 319) (h1 : b = c) (h2 : d ≤ 5) (h3 : e = c) (h4 : f = 320 * d) (h5 : g ≤ 320) (h6 : g = e) (h7 : a = f + g) : a < ((1920 : Nat) : Int) := by omega
theorem ok_789 {a : Int} (h0 : a ≤ 320) : a + 1 ≤ 2147483647 := by omega
theorem ok_790 {a b c d e f : Int} (h0 : b ≤ 319) (h1 : b = c) (h2 : d = c) (h3 : e = d) (h4 : f ≤ 320) (h5 : f = e) (h6 : a = f + 1) : a ≤ 320 := by omega
theorem ok_791 {a b : Int}  : a + b = a + b := by omega
theorem ok_792 {a b c : Int} (h0 : 0 ≤ a) (h1 : a ≤ 0) : (a = 0) ∨ ((b = 20) ∨ (1 ≤ c)) := by omega
theorem ok_793 {a : Int} (h0 : a ≤ 160) : a - 1 ≤ 2147483647 := by omega
theorem ok_794 {a b : Int} (h0 : b ≤ 160) (h1 : a = b - 1) : a < ((160 : Nat) : Int) := by omega
theorem ok_795 {a b c d : Int} (h0 : b = d) (h1 : d = 20) : (a = 0) ∨ ((b = 20) ∨ (1 ≤ c)) := by omega
theorem ok_796 {a b : Int} (h0 : b = 1) (h1 : a = b) : a = 1 := by omega
theorem ok_797 {a b c d : Int} (h0 : c = d + 1) (h1 : b = d) (h2 : a = c) : a = b + 1 := by omega
theorem ok_798 {a b c d e f : Int} (h0 : d = e - f) (h1 : c = f) (h2 : b = e) (h3 : a = d) : a = b - c := by omega
theorem ok_799 {a b c d e f : Int} (h0 : e + f = c + d) (h1 : a = e) (h2 : b = f) : a + b = c + d := by omega
theorem ok_800 {a b c : Int} (h0 : c = b) (h1 : a = c) : a = b := by omega
theorem ok_801 {a b c : Int} (h0 : c ≤ b) (h1 : a = c) : a ≤ b := by omega
theorem ok_802 {a b c d : Int} (h0 : 1 ≤ d) (h1 : d < c) : (a = 0) ∨ ((b = 20) ∨ (1 ≤ c)) := by omega
theorem ok_803 {a b : Int} (h0 : b ≤ 160) (h1 : a = b - 1) : a ≤ 160 := by omega
theorem ok_804 {a b c : Int} (h0 : b = c) (h1 : a = c - 1) : a = b - 1 := by omega
theorem ok_805 {a b c : Int} (h0 : 0 < b) (h1 : c = b - 1) (h2 : a = c) : 0 ≤ a := by omega
theorem ok_806 {a b c d e : Int} (h0 : b + c ≤ 310) (h1 : d + e = b + c) (h2 : 0 < e) (h3 : a = d) : a ≤ 319 := by omega
theorem ok_807 {a b c d e f g i j k l m : Int} (h0 : c = d + 1) (h1 : e = f) (h2 : f ≠ 20) (h3 : g = d) (h4 : i = e) (h5 : i = j) (h6 : (i ≠ 20) → ((i ≠ 21) → (g = k + 1))) (h7 : j ≠ 21) (h8 : l = 3) (h9 : m = c) (h10 : (l = 3) → (a = m - 1)) (h11 : b = k) : a = b + 1 := by omega
theorem ok_808 {a b c d e f g i j k l m n o : Int} (h0 : d = e - f) (h1 : d ≤ 200) (h2 : g = i) (h3 : i ≠ 20) (h4 : j = f) (h5 : k = g) (h6 : l = e - 1) (h7 : k = m) (h8 : (k ≠ 20) → ((k ≠ 21) → (j = n + 1))) (h9 : o = l) (h10 : n ≤ o) (h11 : m ≠ 21) (h12 : b = l) (h13 : c = n) (h14 : a = d) : a = b - c := by omega
theorem ok_809 {a b c d e f g i : Int} (h0 : e + f = c + d) (h1 : g = f - 1) (h2 : i = e) (h3 : a = i + 1) (h4 : b = g) : a + b = c + d := by omega
theorem ok_810 {a b c d e f g i : Int} (h0 : c = b) (h1 : d = e) (h2 : e ≠ 20) (h3 : f = c) (h4 : g = d) (h5 : (g ≠ 20) → (f = i)) (h6 : a = i) : a = b := by omega
theorem ok_811 {a b c d : Int} (h0 : c ≤ b) (h1 : d = c - 1) (h2 : a = d) : a ≤ b := by omega
theorem ok_812 {a b c d e : Int} (h0 : c ≤ b) (h1 : d = 3) (h2 : e = c) (h3 : (d = 3) → (a = e - 1)) : a ≤ b := by omega
theorem ok_813 {a : Int} (h0 : (-1) ≤ a) : (-2147483648) ≤ a - 1 := by omega
theorem ok_814 {a : Int} (h0 : a ≤ 200) : a - 1 ≤ 2147483647 := by omega
theorem ok_815 {a b c d : Int} (h0 : b = c - d) (h1 : (-1) ≤ b) (h2 : d ≤ c) (h3 : a = b - 1) : (-1) ≤ a := by omega
theorem ok_816 {a b : Int} (h0 : b ≤ 200) (h1 : a = b - 1) : a ≤ 200 := by omega
theorem ok_817 {a b c d e f g i j k l : Int} (h0 : c = d + 1) (h1 : e = d) (h2 : f = g) (h3 : ((f = 20) ∨ (f = 21)) → (e = i)) (h4 : g = 21) (h5 : j = 2) (h6 : k = c) (h7 : (j = 2) → (l = k)) (h8 : b = i) (h9 : a = l) : a = b + 1 := by omega
theorem ok_818 {a b c d e f g i j k l m n : Int} (h0 : d = e - f) (h1 : d ≤ 200) (h2 : g = f) (h3 : i = e - 1) (h4 : j = k) (h5 : ((j = 20) ∨ (j = 21)) → (g = l)) (h6 : m = i) (h7 : l ≤ m) (h8 : k = 21) (h9 : n = d - 1) (h10 : b = i) (h11 : c = l) (h12 : a = n) : a = b - c := by omega
theorem ok_819 {a b c d e f g i j : Int} (h0 : e + f = c + d) (h1 : g = f - 1) (h2 : i = e) (h3 : j = i + 1) (h4 : b = g) (h5 : a = j) : a + b = c + d := by omega
theorem ok_820 {a b c d e f g : Int} (h0 : c = b) (h1 : d = c) (h2 : e = f) (h3 : (e ≠ 20) → (d = g)) (h4 : f = 21) (h5 : a = g) : a = b := by omega
theorem ok_821 {a b c d e f : Int} (h0 : c ≤ b) (h1 : d = 2) (h2 : e = c) (h3 : (d = 2) → (f = e)) (h4 : a = f) : a ≤ b := by omega
theorem ok_822 {a b : Int} (h0 : b ≤ 160) (h1 : a = b - 1) : a ≤ 159 := by omega
theorem ok_823 {a : Int} (h0 : a ≤ 159) : a < ((160 : Nat) : Int) := by omega
theorem ok_824 {a : Int} (h0 : a ≤ 159) : a + (-1) ≤ 2147483647 := by omega
theorem ok_825 {a b : Int} (h0 : b ≤ 159) (h1 : a = b + (-1)) : a ≤ 159 := by omega
theorem ok_826 {a b : Int} (h0 : b ≤ 39) (h1 : b ≤ 40) (h2 : a = b + 1) : a ≤ 40 := by omega
theorem ok_827 {a : Int} (h0 : a ≤ 159) (h1 : a ≤ 160) : a < ((160 : Nat) : Int) := by omega
theorem ok_828 {a b : Int} (h0 : b ≤ 159) (h1 : b ≤ 160) (h2 : a = b + 1) : a ≤ 160 := by omega
theorem ok_829 {a : Int} (h0 : a ≤ 199) : a + 1 ≤ 2147483647 := by omega
theorem ok_830 {a b : Int} (h0 : (-1) ≤ b) (h1 : a = b + 1) : (-1) ≤ a := by omega
theorem ok_831 {a b : Int} (h0 : b ≤ 199) (h1 : a = b + 1) : a ≤ 200 := by omega
theorem ok_832 {a : Int} (h0 : a = 60) : 0 ≤ a := by omega
theorem ok_833 {a : Int} (h0 : a = 60) : a ≤ 124 := by omega
theorem ok_834 {a : Int} (h0 : a = 60) : (a = 0) ∨ (22 ≤ a) := by omega
theorem ok_835 {a : Int} (h0 : a = 62) : 0 ≤ a := by omega
theorem ok_836 {a : Int} (h0 : a = 62) : a ≤ 124 := by omega
theorem ok_837 {a : Int} (h0 : a = 62) : (a = 0) ∨ (22 ≤ a) := by omega
theorem ok_838 {a : Int} (h0 : a = 61) : 0 ≤ a := by omega
theorem ok_839 {a : Int} (h0 : a = 61) : a ≤ 124 := by omega
theorem ok_840 {a : Int} (h0 : a = 61) : (a = 0) ∨ (22 ≤ a) := by omega
theorem ok_841 {a : Int} (h0 : a = 43) : 0 ≤ a := by omega
theorem ok_842 {a : Int} (h0 : a = 43) : a ≤ 124 := by omega
theorem ok_843 {a : Int} (h0 : a = 43) : (a = 0) ∨ (22 ≤ a) := by omega
theorem ok_844 {a : Int} (h0 : a = 45) : 0 ≤ a := by omega
theorem ok_845 {a : Int} (h0 : a = 45) : a ≤ 124 := by omega
theorem ok_846 {a : Int} (h0 : a = 45) : (a = 0) ∨ (22 ≤ a) := by omega
theorem ok_847 {a : Int} (h0 : a = 42) : 0 ≤ a := by omega
theorem ok_848 {a : Int} (h0 : a = 42) : a ≤ 124 := by omega
theorem ok_849 {a : Int} (h0 : a = 42) : (a = 0) ∨ (22 ≤ a) := by omega
theorem ok_850 {a : Int} (h0 : a = 47) : 0 ≤ a := by omega
theorem ok_851 {a : Int} (h0 : a = 47) : a ≤ 124 := by omega
theorem ok_852 {a : Int} (h0 : a = 47) : (a = 0) ∨ (22 ≤ a) := by omega
theorem ok_853 {a : Int} (h0 : a = 37) : 0 ≤ a := by omega
theorem ok_854 {a : Int} (h0 : a = 37) : a ≤ 124 := by omega
theorem ok_855 {a : Int} (h0 : a = 37) : (a = 0) ∨ (22 ≤ a) := by omega
theorem ok_856 {a : Int} (h0 : a ≤ 7) : 0 ≤ 9 - a + 1 := by omega
theorem ok_857 {a : Int} (h0 : a ≤ 30) : a ≤ 31 := by omega
theorem ok_858 {a : Int} (h0 : a ≤ 7) : a ≤ 8 := by omega
theorem ok_859 {a b c d e : Int} (h0 : d = b - e) (h1 : a + b ≤ 10 * c + 1) (h2 : e ≤ b) (h3 : (-1) ≤ d) : a + b ≤ 10 * c + 1 + d := by omega
theorem ok_860 {a b : Int} (h0 : b ≤ 31) (h1 : a = b) : a ≤ 39 := by omega
theorem ok_861 {a b c d : Int} (h0 : b ≤ 30) (h1 : c + d ≤ 10 * b + 1) (h2 : 0 ≤ d) (h3 : a = c) : a ≤ 319 := by omega
theorem ok_862 {a b c d e : Int} (h0 : a ≤ 30) (h1 : a ≤ c) (h2 : d = c) (h3 : e = d + 1) (h4 : 0 ≤ e) (h5 : b = e) : a ≤ b := by omega
theorem ok_863 {a b c d e f g i : Int} (h0 : c = 1) (h1 : d = e) (h2 : d = f) (h3 : g = f) (h4 : (c ≤ 1) → (i = g + 1)) (h5 : b = e) (h6 : a = i) : a = b + 1 := by omega
theorem ok_864 {a b c d e f g i j k l : Int} (h0 : c ≤ d) (h1 : d ≤ 30) (h2 : e = 1) (h3 : f ≤ g) (h4 : f = c) (h5 : i = g) (h6 : j = i + 1) (h7 : k = c) (h8 : (e ≤ 1) → (l = k + 1)) (h9 : a = l) (h10 : 0 ≤ j) (h11 : b = j) : a ≤ b := by omega
theorem ok_865 {a b c d e f g : Int} (h0 : b ≤ 31) (h1 : (c = 0) → ((b ≤ 30) ∧ (d ≤ 7))) (h2 : 0 ≤ c) (h3 : c ≤ 0) (h4 : e = b) (h5 : e ≠ 30) (h6 : f = b) (h7 : g = f + 1) (h8 : a = g) : a ≤ 30 := by omega
theorem ok_866 {a b c d e f g i j k l m : Int} (h0 : d ≤ 8) (h1 : e + f ≤ 10 * g + 1 + d) (h2 : e = i) (h3 : j = g) (h4 : k = j + 1) (h5 : l = i) (h6 : m = l + 1) (h7 : a = m) (h8 : b = f) (h9 : c = k) : a + b ≤ 10 * c := by omega
theorem ok_867 {a b c d : Int} (h0 : (b = 0) → ((c ≤ 30) ∧ (d ≤ 7))) (h1 : 0 ≤ b) (h2 : b ≤ 0) (h3 : a = d) : a ≤ 7 := by omega
theorem ok_868 {a b c d e : Int} (h0 : a ≤ 30) (h1 : a ≤ c) (h2 : d = c) (h3 : e = d + 1) (h4 : 0 ≤ e) (h5 : b = e) : a < b := by omega
theorem ok_869 {a b c d : Int} (h0 : a ≤ 1600) (h1 : a ≤ c) (h2 : d = c) (h3 : d ≤ b) (h4 : 0 ≤ b) : a ≤ b := by omega
theorem ok_870 {a : Int} (h0 : a < 0) (h1 : 0 ≤ a) : False := by omega
theorem ok_871 {a b c d e f g i : Int} (h0 : c = d) (h1 : c = e) (h2 : f = 0) (h3 : g = e) (h4 : (f ≤ 1) → (i = g + 1)) (h5 : b = d) (h6 : a = i) : a = b + 1 := by omega
theorem ok_872 {a b c d e f g i j k l : Int} (h0 : c ≤ d) (h1 : d ≤ 30) (h2 : e ≤ f) (h3 : e = c) (h4 : g = f) (h5 : i = g + 1) (h6 : j = 0) (h7 : k = c) (h8 : (j ≤ 1) → (l = k + 1)) (h9 : a = l) (h10 : 0 ≤ i) (h11 : b = i) : a ≤ b := by omega
theorem ok_873 {a : Int} (h0 : a ≤ 0) (h1 : 0 < a) : False := by omega
theorem ok_874 {a b c d : Int} (h0 : b ≤ 8) (h1 : (c = 0) → ((d ≤ 30) ∧ (b ≤ 7))) (h2 : 0 ≤ c) (h3 : c ≤ 0) (h4 : a = b) : a ≤ 7 := by omega
theorem ok_875 {a : Int} (h0 : 1 ≤ a) (h1 : a ≤ 0) : False := by omega
theorem ok_876 {a b c d e : Int} (h0 : c ≤ d) (h1 : c = e) (h2 : a = e) (h3 : b = d) : a ≤ b := by omega
theorem ok_877 {a b c d : Int} (h0 : b ≤ 31) (h1 : (c = 0) → ((b ≤ 30) ∧ (d ≤ 7))) (h2 : 0 ≤ c) (h3 : c ≤ 0) (h4 : a = b) : a ≤ 30 := by omega
theorem ok_878 {a b c d e : Int} (h0 : b ≤ 31) (h1 : (c = 0) → ((b ≤ 30) ∧ (d ≤ 7))) (h2 : 0 ≤ c) (h3 : c ≤ 4) (h4 : e = c) (h5 : a = b) (h6 : e = 0) : a ≤ 30 := by omega
theorem ok_879 {a b c d e : Int} (h0 : (b = 0) → ((c ≤ 30) ∧ (d ≤ 7))) (h1 : 0 ≤ b) (h2 : b ≤ 4) (h3 : e = b) (h4 : a = d) (h5 : e = 0) : a ≤ 7 := by omega
theorem ok_880 {a b : Int} (h0 : b ≤ 7) (h1 : a = b) : 0 ≤ 9 - a + 0 := by omega
theorem ok_881 {a b c d e : Int} (h0 : c = d) (h1 : c = e) (h2 : b = d) (h3 : a = e) : a = b := by omega
theorem ok_882 {a b c d e f : Int} (h0 : d = e - f) (h1 : a = d) (h2 : c = f) (h3 : b = e) : a = b - c := by omega
theorem ok_883 {a b : Int} (h0 : b ≤ 31) (h1 : b ≤ 40) (h2 : a = b) : a ≤ 31 := by omega
theorem ok_884 {a b : Int} (h0 : b ≤ 7) (h1 : a = b) : a ≤ 8 := by omega
theorem ok_885 {a b c d e f g i j : Int} (h0 : e + f ≤ 10 * g + 1 + i) (h1 : e = j) (h2 : d = i) (h3 : a = j) (h4 : b = f) (h5 : c = g) : a + b ≤ 10 * c + 1 + d := by omega
theorem ok_886 {a b : Int} (h0 : b ≤ 31) (h1 : b ≤ 30) (h2 : a = b) : a ≤ 30 := by omega
theorem ok_887 {a b : Int} (h0 : b ≤ 7) (h1 : a = b) : a ≤ 7 := by omega
theorem ok_888 {a b : Int} (h0 : b ≤ 31) (h1 : b ≤ 40) (h2 : a = b) : a ≤ 39 := by omega
theorem ok_889 {a b c d e f : Int} (h0 : b = c) (h1 : d = e - c) (h2 : b ≤ f) (h3 : e ≤ 160) (h4 : f ≤ 30) (h5 : d ≤ 7) (h6 : a = e) : a ≤ 159 := by omega
theorem ok_890 {a b : Int} (h0 : b ≤ 7) (h1 : a = b) : a ≤ 199 := by omega
theorem ok_891 {a b c d : Int} (h0 : 0 ≤ b) (h1 : c ≤ 7) (h2 : d = c) (h3 : a = d + 1) (h4 : a ≤ 200) : 0 ≤ 9 - a + b := by omega
theorem ok_892 {a b c d e f : Int} (h0 : c = d) (h1 : c = e) (h2 : f = d) (h3 : b = f) (h4 : a = e) : a = b := by omega
theorem ok_893 {a b c d e f g i j : Int} (h0 : d = e - f) (h1 : 0 ≤ f) (h2 : f ≤ e) (h3 : g = e) (h4 : i = d) (h5 : j = f) (h6 : b = g + 1) (h7 : a = i + 1) (h8 : c = j) (h9 : (-1) ≤ a) (h10 : a ≤ 200) (h11 : b ≤ 160) : a = b - c := by omega
theorem ok_894 {a b c d e f g i : Int} (h0 : c ≤ d) (h1 : d ≤ 30) (h2 : e ≤ f) (h3 : e = c) (h4 : g = f) (h5 : i = g + 1) (h6 : a = c) (h7 : 0 ≤ i) (h8 : b = i) : a ≤ b := by omega
theorem ok_895 {a b c d : Int} (h0 : b ≤ 30) (h1 : c = b) (h2 : d = c + 1) (h3 : d ≤ 40) (h4 : a = d) : a ≤ 31 := by omega
theorem ok_896 {a b c : Int} (h0 : b ≤ 7) (h1 : c = b) (h2 : a = c + 1) (h3 : a ≤ 200) : a ≤ 8 := by omega
theorem ok_897 {a b : Int} (h0 : b ≤ 30) (h1 : a = b) : a ≤ 39 := by omega
theorem ok_898 {a b c d e f : Int} (h0 : b = c) (h1 : d = e - c) (h2 : b ≤ f) (h3 : e ≤ 160) (h4 : f ≤ 30) (h5 : d ≤ 6) (h6 : a = e) : a ≤ 159 := by omega
theorem ok_899 {a b c d : Int} (h0 : 0 ≤ b) (h1 : c ≤ 6) (h2 : d = c) (h3 : a = d + 1) (h4 : a ≤ 200) : 0 ≤ 9 - a + b := by omega
theorem ok_900 {a b c : Int} (h0 : b ≤ 6) (h1 : c = b) (h2 : a = c + 1) (h3 : a ≤ 200) : a ≤ 8 := by omega
theorem ok_901 {a b c d e : Int} (h0 : b ≤ 31) (h1 : b ≤ 30) (h2 : c = b) (h3 : c ≠ 30) (h4 : d = b) (h5 : e = d + 1) (h6 : a = e) : a ≤ 30 := by omega
theorem ok_902 {a b c : Int} (h0 : b ≤ 6) (h1 : c = b) (h2 : a = c + 1) (h3 : a ≤ 200) : a ≤ 7 := by omega
theorem ok_903 {a b : Int} (h0 : b ≤ 8) (h1 : a = b) : a ≤ 199 := by omega
theorem ok_904 {a b c d e : Int} (h0 : b ≤ 30) (h1 : c = b) (h2 : c ≠ 30) (h3 : d = b) (h4 : e = d + 1) (h5 : a = e) : a ≤ 30 := by omega
theorem ok_905 {a b : Int} (h0 : b ≤ 40) (h1 : b ≤ 30) (h2 : a = b) : a ≤ 31 := by omega
theorem ok_906 {a b c d e f g i j k l : Int} (h0 : e + f ≤ 10 * g + 1 + i) (h1 : e = j) (h2 : i ≤ 7) (h3 : k = f) (h4 : l = i) (h5 : b = k + 1) (h6 : d = l + 1) (h7 : (-1) ≤ d) (h8 : a = j) (h9 : c = g) : a + b ≤ 10 * c + 1 + d := by omega
theorem ok_907 {a b : Int} (h0 : b ≤ 40) (h1 : b ≤ 30) (h2 : a = b) : a ≤ 30 := by omega
theorem ok_908 {a b : Int} (h0 : b ≤ 30) (h1 : a = b) : a ≤ 31 := by omega
theorem ok_909 {a b c d e f g i j k l : Int} (h0 : e + f ≤ 10 * g + 1 + i) (h1 : e = j) (h2 : k = f) (h3 : l = i) (h4 : b = k + 1) (h5 : d = l + 1) (h6 : a = j) (h7 : c = g) : a + b ≤ 10 * c + 1 + d := by omega
theorem ok_910 {a b : Int} (h0 : b ≤ 30) (h1 : a = b) : a ≤ 30 := by omega
theorem ok_911 {a b : Int} (h0 : b = 0) (h1 : a = b) : a = 0 := by omega
theorem ok_912 {a : Int} (h0 : a = 0) : a ≤ 30 := by omega
theorem ok_913 {a : Int} (h0 : a = 0) : a ≤ 7 := by omega
theorem ok_914 {a b c : Int} (h0 : a ≤ 4) (h1 : 0 ≤ c) (h2 : b ≤ 40) : 0 ≤ 4000 - 1000 * a + 100 * (40 - b) + c + 1 := by omega
theorem ok_915 {a b c d e f g i j : Int} (h0 : (b = 0) → ((a = 1) ∧ ((c = d + 1) ∧ ((e = f - d) ∧ ((c ≤ g) ∧ ((g ≤ 30) ∧ ((i + f ≤ 10 * g) ∧ ((e ≤ 7) ∧ (j < g))))))))) (h1 : 0 ≤ b) (h2 : b = 0) : a = 1 := by omega
theorem ok_916 {a b c d e f g i j : Int} (h0 : (c = 0) → ((d = 1) ∧ ((a = b + 1) ∧ ((e = f - b) ∧ ((a ≤ g) ∧ ((g ≤ 30) ∧ ((i + f ≤ 10 * g) ∧ ((e ≤ 7) ∧ (j < g))))))))) (h1 : 0 ≤ c) (h2 : c = 0) : a = b + 1 := by omega
theorem ok_917 {a b c d e f g i j : Int} (h0 : (d = 0) → ((e = 1) ∧ ((f = c + 1) ∧ ((a = b - c) ∧ ((f ≤ g) ∧ ((g ≤ 30) ∧ ((i + b ≤ 10 * g) ∧ ((a ≤ 7) ∧ (j < g))))))))) (h1 : 0 ≤ d) (h2 : d = 0) : a = b - c := by omega
theorem ok_918 {a b c d e f g i j : Int} (h0 : (c = 0) → ((d = 1) ∧ ((a = e + 1) ∧ ((f = g - e) ∧ ((a ≤ b) ∧ ((b ≤ 30) ∧ ((i + g ≤ 10 * b) ∧ ((f ≤ 7) ∧ (j < b))))))))) (h1 : 0 ≤ c) (h2 : c = 0) : a ≤ b := by omega
theorem ok_919 {a b c d e f g i j : Int} (h0 : (b = 0) → ((c = 1) ∧ ((d = e + 1) ∧ ((f = g - e) ∧ ((d ≤ a) ∧ ((a ≤ 30) ∧ ((i + g ≤ 10 * a) ∧ ((f ≤ 7) ∧ (j < a))))))))) (h1 : 0 ≤ b) (h2 : b = 0) : a ≤ 30 := by omega
theorem ok_920 {a b c d e f g i j : Int} (h0 : (d = 0) → ((e = 1) ∧ ((f = g + 1) ∧ ((i = b - g) ∧ ((f ≤ c) ∧ ((c ≤ 30) ∧ ((a + b ≤ 10 * c) ∧ ((i ≤ 7) ∧ (j < c))))))))) (h1 : 0 ≤ d) (h2 : d = 0) : a + b ≤ 10 * c := by omega
theorem ok_921 {a b c d e f g i j : Int} (h0 : (b = 0) → ((c = 1) ∧ ((d = e + 1) ∧ ((a = f - e) ∧ ((d ≤ g) ∧ ((g ≤ 30) ∧ ((i + f ≤ 10 * g) ∧ ((a ≤ 7) ∧ (j < g))))))))) (h1 : 0 ≤ b) (h2 : b = 0) : a ≤ 7 := by omega
theorem ok_922 {a b c d e f g i j k : Int} (h0 : (b = 0) → ((c = 1) ∧ ((d = e + 1) ∧ ((f = g - e) ∧ ((d ≤ i) ∧ ((i ≤ 30) ∧ ((j + g ≤ 10 * i) ∧ (f ≤ 7)))))))) (h1 : 0 ≤ b) (h2 : b ≤ 4) (h3 : a = c) (h4 : k = b) (h5 : k = 0) : a = 1 := by omega
theorem ok_923 {a : Int} (h0 : 0 ≤ a) (h1 : a ≠ 0) (h2 : a = 0) : False := by omega
theorem ok_924 {a : Int} (h0 : 0 ≤ a) (h1 : a = 0) (h2 : a ≠ 0) : False := by omega
theorem ok_925 {a b c d e : Int} (h0 : c ≤ 40) (h1 : c ≤ 30) (h2 : d + e ≤ 10 * c) (h3 : a = d) (h4 : b = e) : a + b ≤ 310 := by omega
theorem ok_926 {a b c : Int} (h0 : b ≤ c) (h1 : c ≤ 30) (h2 : a = b) : a ≤ 40 := by omega
theorem ok_927 {a b c d e f : Int} (h0 : 0 ≤ d) (h1 : e ≤ 40) (h2 : f = 0) (h3 : a = f) (h4 : c = d) (h5 : b = e) : 0 ≤ 4000 - 1000 * a + 100 * (40 - b) + c + 0 := by omega
theorem ok_928 {a b c d e f : Int} (h0 : d = e - f) (h1 : b = e) (h2 : c = f) (h3 : a = d) : a = b - c := by omega
theorem ok_929 {a b c d : Int} (h0 : c ≤ d) (h1 : b = d) (h2 : a = c) : a ≤ b := by omega
theorem ok_930 {a b c d e f : Int} (h0 : d + e ≤ 10 * f) (h1 : b = e) (h2 : c = f) (h3 : a = d) : a + b ≤ 10 * c := by omega
theorem ok_931 {a b c d e f g : Int} (h0 : b = c + 1) (h1 : d = e - c) (h2 : b ≤ f) (h3 : f ≤ 30) (h4 : d ≤ 7) (h5 : g = e) (h6 : a ≤ g) (h7 : a ≤ 160) : a < ((160 : Nat) : Int) := by omega
theorem ok_932 {a b c d e f g i : Int} (h0 : b = c + 1) (h1 : d = e - c) (h2 : b ≤ f) (h3 : f ≤ 30) (h4 : d ≤ 7) (h5 : g = e) (h6 : i ≤ g) (h7 : i ≤ 160) (h8 : a = i + 1) : a ≤ 160 := by omega
theorem ok_933 {a b : Int} (h0 : 0 ≤ b) (h1 : b = 0) (h2 : a = b) : a = 0 := by omega
theorem ok_934 {a b c d e f : Int} (h0 : c ≤ d) (h1 : e = c) (h2 : f ≤ e) (h3 : a = f) (h4 : b = d) : a ≤ b := by omega
theorem ok_935 {a b c d : Int} (h0 : b ≤ 7) (h1 : c = b) (h2 : d ≤ c) (h3 : d ≤ 200) (h4 : a = d) : a ≤ 7 := by omega
theorem ok_936 {a b c d e f g i j k l : Int} (h0 : d + e ≤ 10 * f) (h1 : g = d) (h2 : i = e) (h3 : j + k = g + i) (h4 : l = k + 1) (h5 : a = j) (h6 : b = l) (h7 : c = f) : a + b ≤ 10 * c + 1 := by omega
theorem ok_937 {a b c d : Int} (h0 : 0 ≤ d) (h1 : a ≤ 4) (h2 : 0 ≤ c) (h3 : b ≤ 40) : 0 ≤ 4000 - 1000 * a + 100 * (40 - b) + c + d := by omega
theorem ok_938 {a b c d e f g i j : Int} (h0 : (b = 0) → ((c = 1) ∧ ((d = e + 1) ∧ ((f = g - e) ∧ ((d ≤ a) ∧ ((a ≤ 30) ∧ ((i + g ≤ 10 * a) ∧ ((f ≤ 7) ∧ (j < a))))))))) (h1 : 0 ≤ b) (h2 : a ≤ 40) (h3 : b = 0) : a ≤ 30 := by omega
theorem ok_939 {a b c d e : Int} (h0 : a ≤ 1600) (h1 : a ≤ c) (h2 : d = c) (h3 : d ≤ e) (h4 : e ≤ b) (h5 : 0 ≤ b) : a ≤ b := by omega
theorem ok_940 {a b c d e f g : Int} (h0 : b = c) (h1 : 0 ≤ d) (h2 : d ≤ 1) (h3 : (d = 1) → (1 ≤ b)) (h4 : d ≠ 0) (h5 : e = c) (h6 : f = e) (h7 : 0 ≤ g) (h8 : f ≤ g) (h9 : a = g - 1) : 0 ≤ a := by omega
theorem ok_941 {a b c d e f g i : Int} (h0 : b = c) (h1 : 0 ≤ d) (h2 : d ≤ 1) (h3 : (d = 1) → (1 ≤ b)) (h4 : d ≠ 0) (h5 : e = c) (h6 : f = e) (h7 : 0 ≤ g) (h8 : f ≤ g) (h9 : i = g - 1) (h10 : a = i) : 0 ≤ a := by omega
theorem ok_942 {a b c d : Int} (h0 : b = c - d) (h1 : d ≤ c) (h2 : (-1) ≤ b) (h3 : a = b - 1) : (-1) ≤ a := by omega
theorem ok_943 {a b c d e f g i : Int} (h0 : 0 ≤ d) (h1 : e = 0) (h2 : f ≤ 30) (h3 : 0 ≤ g) (h4 : i = g - 1) (h5 : a = e) (h6 : c = i) (h7 : b = f) : 0 ≤ 4000 - 1000 * a + 100 * (40 - b) + c + d := by omega
theorem ok_944 {a b c d e f : Int} (h0 : c ≤ d) (h1 : e = c) (h2 : f ≤ e) (h3 : b = d) (h4 : a = f) : a ≤ b := by omega
theorem ok_945 {a b c d e f g i j k l : Int} (h0 : d + e ≤ 10 * f) (h1 : g = d) (h2 : i = e) (h3 : j + k = g + i) (h4 : l = k - 1) (h5 : b = l) (h6 : c = f) (h7 : a = j) : a + b ≤ 10 * c := by omega
theorem ok_946 {a b c d e : Int} (h0 : b ≤ 7) (h1 : c = b) (h2 : d ≤ c) (h3 : d ≤ 200) (h4 : e = d - 1) (h5 : a = e) : a ≤ 7 := by omega
theorem ok_947 {a : Int} (h0 : a ≤ 4) : 0 ≤ 20 - 0 + 1 - a := by omega
theorem ok_948 {a b : Int} (h0 : b < 3) (h1 : a = b) : a < 3 := by omega
theorem ok_949 {a b : Int} (h0 : b ≤ 400) (h1 : a = b) : a ≤ 400 := by omega
theorem ok_950 {a b c : Int} (h0 : a ≤ 15) (h1 : c = 0) (h2 : b = c) : 0 ≤ 20 - a + 0 - b := by omega
theorem ok_951 {a b c d e f g : Int} (h0 : (1 ≤ e) ∨ ((1 ≤ b) ∧ ((b ≤ 60) ∧ (f + d + b ≤ 400)))) (h1 : f = g) (h2 : 0 ≤ e) (h3 : a = e) (h4 : c = g) : (1 ≤ a) ∨ ((1 ≤ b) ∧ ((b ≤ 60) ∧ (c + d + b ≤ 400))) := by omega
theorem ok_952 {a : Int} (h0 : a = 0) (h1 : 0 < a) : False := by omega
theorem ok_953 {a b c : Int} (h0 : 1 ≤ c) (h1 : c ≤ 0) (h2 : a ≤ 63) (h3 : b = c) : 0 ≤ 20 - a + 1 - b := by omega
theorem ok_954 {a b c d e : Int} (h0 : 1 ≤ e) (h1 : a = e) : (1 ≤ a) ∨ ((1 ≤ b) ∧ ((b ≤ 60) ∧ (c + d + b ≤ 400))) := by omega
theorem ok_955 {a b : Int} (h0 : a ≤ 15) (h1 : b ≤ 4) : 0 ≤ 20 - a + 1 - b := by omega
theorem ok_956 {a b c d : Int} (h0 : 1 ≤ a) : (1 ≤ a) ∨ ((1 ≤ b) ∧ ((b ≤ 60) ∧ (c + d + b ≤ 400))) := by omega
theorem ok_957 {a b c d e : Int} (h0 : 0 ≤ e) (h1 : e ≠ 0) (h2 : a = e) : (1 ≤ a) ∨ ((1 ≤ b) ∧ ((b ≤ 60) ∧ (c + d + b ≤ 400))) := by omega
theorem ok_958 {a b : Int} (h0 : b ≤ 9) (h1 : a ≤ 400) : a + b ≤ 2147483647 := by omega
theorem ok_959 {a b c d e : Int} (h0 : c = 1) (h1 : 0 ≤ d) (h2 : c ≤ b) (h3 : 0 ≤ e) (h4 : a = e + d) : (-2147483648) ≤ a + b := by omega
theorem ok_960 {a b c d e : Int} (h0 : c = 60) (h1 : d ≤ 9) (h2 : b ≤ c) (h3 : e ≤ 400) (h4 : a = e + d) : a + b ≤ 2147483647 := by omega
theorem ok_961 {a b c d e f g i j : Int} (h0 : e = 1) (h1 : f = 60) (h2 : e ≤ b) (h3 : b ≤ f) (h4 : g = i + d) (h5 : j = g + b) (h6 : j ≤ 400) (h7 : c = i) : (1 ≤ a) ∨ ((1 ≤ b) ∧ ((b ≤ 60) ∧ (c + d + b ≤ 400))) := by omega
theorem ok_962 {a : Int} (h0 : a < 3) : a ≤ 6 := by omega
theorem ok_963 {a b c : Int} (h0 : c ≤ 0) (h1 : a = 0) (h2 : b = c) : 0 ≤ 5 * (400 - a) + (4 - b) := by omega
theorem ok_964 {a b c d : Int} (h0 : a ≤ c) (h1 : c ≤ d) (h2 : b = d) : a ≤ b := by omega
theorem ok_965 {a : Int} (h0 : a = 0) : 0 ≤ a := by omega
theorem ok_966 {a : Int} (h0 : a = 0) : a ≤ 400 := by omega
theorem ok_967 {a b c d : Int} (h0 : b = 0) (h1 : (c = 0) → ((b ≤ a) ∧ (a ≤ d))) (h2 : 0 ≤ c) (h3 : c ≤ 0) : 0 ≤ a := by omega
theorem ok_968 {a b c d : Int} (h0 : b = 9) (h1 : (c = 0) → ((d ≤ a) ∧ (a ≤ b))) (h2 : 0 ≤ c) (h3 : c ≤ 0) : a ≤ 9 := by omega
theorem ok_969 {a : Int} (h0 : a = 0) : (-2147483648) ≤ a + 1 := by omega
theorem ok_970 {a : Int} (h0 : a < 4) : a ≤ 6 := by omega
theorem ok_971 {a : Int} (h0 : a < 4) : a < ((4 : Nat) : Int) := by omega
theorem ok_972 {a b c d e f g i j : Int} (h0 : a ≤ c) (h1 : c ≤ 1600) (h2 : c ≤ d) (h3 : e = d) (h4 : e ≤ f) (h5 : g = f) (h6 : g ≤ i) (h7 : j = i) (h8 : j ≤ b) (h9 : 0 ≤ b) : a ≤ b := by omega
theorem ok_973 {a b : Int} (h0 : b < 4) (h1 : a = b + 1) : a ≤ 4 := by omega
theorem ok_974 {a b c d e f g i j k : Int} (h0 : a ≤ c) (h1 : c ≤ 1600) (h2 : c ≤ d) (h3 : e = d) (h4 : e ≤ f) (h5 : g = f) (h6 : g ≤ i) (h7 : j = i) (h8 : j ≤ k) (h9 : 0 ≤ k) (h10 : b = k) : a ≤ b := by omega
theorem ok_975 {a b c d e f g i j k l : Int} (h0 : a ≤ c) (h1 : c ≤ 1600) (h2 : c ≤ d) (h3 : e = d) (h4 : e ≤ f) (h5 : g = f) (h6 : g ≤ i) (h7 : j = i) (h8 : j ≤ k) (h9 : k ≤ l) (h10 : 0 ≤ l) (h11 : b = l) : a ≤ b := by omega
theorem ok_976 {a : Int} (h0 : a < 6) : a ≤ 5 := by omega
theorem ok_977 {a : Int} (h0 : 0 ≤ a) (h1 : a ≤ 0) : a = 0 := by omega
theorem ok_978 {a b : Int} (h0 : b = a) : a = b := by omega
theorem ok_979 {a : Int} (h0 : a < 6) : a + 1 ≤ 2147483647 := by omega
theorem ok_980 {a b : Int} (h0 : b < 6) (h1 : a = b + 1) : a ≤ 6 := by omega
theorem ok_981 {a b c d e f g i : Int} (h0 : a ≤ c) (h1 : c ≤ 1600) (h2 : c ≤ d) (h3 : e = d) (h4 : e ≤ f) (h5 : g = f) (h6 : g ≤ i) (h7 : 0 ≤ i) (h8 : b = i) : a ≤ b := by omega
theorem ok_982 {a b c d e f : Int} (h0 : b = 0) (h1 : (c = 0) → ((b ≤ d) ∧ (d ≤ e))) (h2 : 0 ≤ c) (h3 : c ≤ 4) (h4 : f = c) (h5 : a = d) (h6 : f = 0) : 0 ≤ a := by omega
theorem ok_983 {a b c d e f : Int} (h0 : b = 9) (h1 : (c = 0) → ((d ≤ e) ∧ (e ≤ b))) (h2 : 0 ≤ c) (h3 : c ≤ 4) (h4 : f = c) (h5 : a = e) (h6 : f = 0) : a ≤ 9 := by omega
theorem ok_984 {a b c d e f : Int} (h0 : b = 1) (h1 : (c = 0) → ((b ≤ d) ∧ (d ≤ e))) (h2 : 0 ≤ c) (h3 : c ≤ 4) (h4 : f = c) (h5 : a = d) (h6 : f = 0) : 0 ≤ a := by omega
theorem ok_985 {a b c d e f g : Int} (h0 : (b = 0) → ((c = 1) ∧ ((d = 1) ∧ ((e = 1) ∧ ((0 ≤ a) ∧ ((a ≤ 9) ∧ ((0 ≤ f) ∧ ((f ≤ 9) ∧ ((0 ≤ g) ∧ ((g ≤ 9) ∧ (1 ≤ a + f + g))))))))))) (h1 : 0 ≤ b) (h2 : b = 0) : 0 ≤ a := by omega
theorem ok_986 {a b c d e f g : Int} (h0 : (b = 0) → ((c = 1) ∧ ((d = 1) ∧ ((e = 1) ∧ ((0 ≤ a) ∧ ((a ≤ 9) ∧ ((0 ≤ f) ∧ ((f ≤ 9) ∧ ((0 ≤ g) ∧ ((g ≤ 9) ∧ (1 ≤ a + f + g))))))))))) (h1 : 0 ≤ b) (h2 : b = 0) : a ≤ 9 := by omega
theorem ok_987 {a b c d e f g : Int} (h0 : (b = 0) → ((c = 1) ∧ ((d = 1) ∧ ((e = 1) ∧ ((0 ≤ f) ∧ ((f ≤ 9) ∧ ((0 ≤ a) ∧ ((a ≤ 9) ∧ ((0 ≤ g) ∧ ((g ≤ 9) ∧ (1 ≤ f + a + g))))))))))) (h1 : 0 ≤ b) (h2 : b = 0) : 0 ≤ a := by omega
theorem ok_988 {a b c d e f g : Int} (h0 : (b = 0) → ((c = 1) ∧ ((d = 1) ∧ ((e = 1) ∧ ((0 ≤ f) ∧ ((f ≤ 9) ∧ ((0 ≤ a) ∧ ((a ≤ 9) ∧ ((0 ≤ g) ∧ ((g ≤ 9) ∧ (1 ≤ f + a + g))))))))))) (h1 : 0 ≤ b) (h2 : b = 0) : a ≤ 9 := by omega
theorem ok_989 {a b c d e f g : Int} (h0 : (b = 0) → ((c = 1) ∧ ((d = 1) ∧ ((e = 1) ∧ ((0 ≤ f) ∧ ((f ≤ 9) ∧ ((0 ≤ g) ∧ ((g ≤ 9) ∧ ((0 ≤ a) ∧ ((a ≤ 9) ∧ (1 ≤ f + g + a))))))))))) (h1 : 0 ≤ b) (h2 : b = 0) : 0 ≤ a := by omega
theorem ok_990 {a b c d e f g : Int} (h0 : (b = 0) → ((c = 1) ∧ ((d = 1) ∧ ((e = 1) ∧ ((0 ≤ f) ∧ ((f ≤ 9) ∧ ((0 ≤ g) ∧ ((g ≤ 9) ∧ ((0 ≤ a) ∧ ((a ≤ 9) ∧ (1 ≤ f + g + a))))))))))) (h1 : 0 ≤ b) (h2 : b = 0) : a ≤ 9 := by omega
theorem ok_991 {a b c d e f g : Int} (h0 : (d = 0) → ((e = 1) ∧ ((f = 1) ∧ ((g = 1) ∧ ((0 ≤ a) ∧ ((a ≤ 9) ∧ ((0 ≤ b) ∧ ((b ≤ 9) ∧ ((0 ≤ c) ∧ ((c ≤ 9) ∧ (1 ≤ a + b + c))))))))))) (h1 : 0 ≤ d) (h2 : d = 0) : 1 ≤ a + b + c := by omega
theorem ok_992 {a b : Int} (h0 : 0 ≤ b) (h1 : a = b) : 0 ≤ a := by omega
theorem ok_993 {a b : Int} (h0 : b ≤ 9) (h1 : a = b) : a ≤ 9 := by omega
theorem ok_994 {a b c d e f : Int} (h0 : 1 ≤ d + e + f) (h1 : a = d) (h2 : b = e) (h3 : c = f) : 1 ≤ a + b + c := by omega
theorem ok_995 {a b c d : Int} (h0 : c = a) (h1 : c ≤ d) (h2 : b = d) : a ≤ b := by omega
theorem ok_996 {a b c : Int} (h0 : b = a) (h1 : 0 ≤ c) (h2 : c ≤ 1) (h3 : (c = 1) → (b = 1)) (h4 : c ≠ 0) : a = 1 := by omega
theorem ok_997 {a b c d e f : Int} (h0 : a ≤ 1600) (h1 : c = a) (h2 : c ≤ d) (h3 : e = d) (h4 : e ≤ f) (h5 : 0 ≤ f) (h6 : b = f) : a ≤ b := by omega
theorem ok_998 {a b c d : Int} (h0 : (b = 0) → ((0 ≤ a) ∧ ((a ≤ 9) ∧ ((0 ≤ c) ∧ ((c ≤ 9) ∧ ((0 ≤ d) ∧ ((d ≤ 9) ∧ (1 ≤ a + c + d)))))))) (h1 : 0 ≤ b) (h2 : b = 0) : 0 ≤ a := by omega
theorem ok_999 {a b c d : Int} (h0 : (b = 0) → ((0 ≤ a) ∧ ((a ≤ 9) ∧ ((0 ≤ c) ∧ ((c ≤ 9) ∧ ((0 ≤ d) ∧ ((d ≤ 9) ∧ (1 ≤ a + c + d)))))))) (h1 : 0 ≤ b) (h2 : b = 0) : a ≤ 9 := by omega
theorem ok_1000 {a b c d : Int} (h0 : (b = 0) → ((0 ≤ c) ∧ ((c ≤ 9) ∧ ((0 ≤ a) ∧ ((a ≤ 9) ∧ ((0 ≤ d) ∧ ((d ≤ 9) ∧ (1 ≤ c + a + d)))))))) (h1 : 0 ≤ b) (h2 : b = 0) : 0 ≤ a := by omega
theorem ok_1001 {a b c d : Int} (h0 : (b = 0) → ((0 ≤ c) ∧ ((c ≤ 9) ∧ ((0 ≤ a) ∧ ((a ≤ 9) ∧ ((0 ≤ d) ∧ ((d ≤ 9) ∧ (1 ≤ c + a + d)))))))) (h1 : 0 ≤ b) (h2 : b = 0) : a ≤ 9 := by omega
theorem ok_1002 {a b c d : Int} (h0 : (b = 0) → ((0 ≤ c) ∧ ((c ≤ 9) ∧ ((0 ≤ d) ∧ ((d ≤ 9) ∧ ((0 ≤ a) ∧ ((a ≤ 9) ∧ (1 ≤ c + d + a)))))))) (h1 : 0 ≤ b) (h2 : b = 0) : 0 ≤ a := by omega
theorem ok_1003 {a b c d : Int} (h0 : (b = 0) → ((0 ≤ c) ∧ ((c ≤ 9) ∧ ((0 ≤ d) ∧ ((d ≤ 9) ∧ ((0 ≤ a) ∧ ((a ≤ 9) ∧ (1 ≤ c + d + a)))))))) (h1 : 0 ≤ b) (h2 : b = 0) : a ≤ 9 := by omega
theorem ok_1004 {a b c d : Int} (h0 : (d = 0) → ((0 ≤ a) ∧ ((a ≤ 9) ∧ ((0 ≤ b) ∧ ((b ≤ 9) ∧ ((0 ≤ c) ∧ ((c ≤ 9) ∧ (1 ≤ a + b + c)))))))) (h1 : 0 ≤ d) (h2 : d = 0) : 1 ≤ a + b + c := by omega
theorem ok_1005 {a b : Int} (h0 : b ≤ 6) (h1 : b < 6) (h2 : a = b) : a < 6 := by omega
theorem ok_1006 {a b : Int} (h0 : (b = 0) → (a = 1)) (h1 : 0 ≤ b) (h2 : b = 0) : a = 1 := by omega
theorem ok_1007 {a b c d : Int} (h0 : a ≤ 1600) (h1 : c = a) (h2 : c ≤ d) (h3 : d ≤ b) (h4 : 0 ≤ b) : a ≤ b := by omega
theorem ok_1008 {a b c d e : Int} (h0 : a ≤ 1600) (h1 : c = a) (h2 : c ≤ d) (h3 : e = d) (h4 : e ≤ b) (h5 : 0 ≤ b) : a ≤ b := by omega
theorem ok_1009 {a b : Int} (h0 : b ≤ 4) (h1 : b < 4) (h2 : a = b) : a < 4 := by omega
theorem ok_1010 {a b : Int} (h0 : b ≤ 3) (h1 : b < 3) (h2 : a = b) : a < 3 := by omega
theorem ok_1011 {a b : Int} (h0 : b = 0) (h1 : a ≤ 1600) : 0 ≤ 1604 - a - b := by omega
theorem ok_1012 {a : Int} (h0 : a = 0) : a ≤ 9 := by omega
theorem ok_1013 {a : Int} (h0 : a = 1) : 0 ≤ a := by omega
theorem ok_1014 {a : Int} (h0 : a = 1) : a ≤ 9 := by omega
theorem ok_1015 {a b c : Int} (h0 : a = 0) (h1 : b = 1) (h2 : c = 0) : 1 ≤ a + b + c := by omega
theorem ok_1016 {a b c d e f : Int} (h0 : (b = 0) → ((a = 1) ∧ ((c = 1) ∧ ((0 ≤ d) ∧ ((d ≤ 9) ∧ ((0 ≤ e) ∧ ((e ≤ 9) ∧ ((0 ≤ f) ∧ ((f ≤ 9) ∧ (1 ≤ d + e + f)))))))))) (h1 : 0 ≤ b) (h2 : b = 0) : a = 1 := by omega
theorem ok_1017 {a b c d e f : Int} (h0 : (b = 0) → ((c = 1) ∧ ((a = 1) ∧ ((0 ≤ d) ∧ ((d ≤ 9) ∧ ((0 ≤ e) ∧ ((e ≤ 9) ∧ ((0 ≤ f) ∧ ((f ≤ 9) ∧ (1 ≤ d + e + f)))))))))) (h1 : 0 ≤ b) (h2 : b = 0) : a = 1 := by omega
theorem ok_1018 {a b c d e f : Int} (h0 : (b = 0) → ((c = 1) ∧ ((d = 1) ∧ ((0 ≤ a) ∧ ((a ≤ 9) ∧ ((0 ≤ e) ∧ ((e ≤ 9) ∧ ((0 ≤ f) ∧ ((f ≤ 9) ∧ (1 ≤ a + e + f)))))))))) (h1 : 0 ≤ b) (h2 : b = 0) : 0 ≤ a := by omega
theorem ok_1019 {a b c d e f : Int} (h0 : (b = 0) → ((c = 1) ∧ ((d = 1) ∧ ((0 ≤ a) ∧ ((a ≤ 9) ∧ ((0 ≤ e) ∧ ((e ≤ 9) ∧ ((0 ≤ f) ∧ ((f ≤ 9) ∧ (1 ≤ a + e + f)))))))))) (h1 : 0 ≤ b) (h2 : b = 0) : a ≤ 9 := by omega
theorem ok_1020 {a b c d e f : Int} (h0 : (b = 0) → ((c = 1) ∧ ((d = 1) ∧ ((0 ≤ e) ∧ ((e ≤ 9) ∧ ((0 ≤ a) ∧ ((a ≤ 9) ∧ ((0 ≤ f) ∧ ((f ≤ 9) ∧ (1 ≤ e + a + f)))))))))) (h1 : 0 ≤ b) (h2 : b = 0) : 0 ≤ a := by omega
theorem ok_1021 {a b c d e f : Int} (h0 : (b = 0) → ((c = 1) ∧ ((d = 1) ∧ ((0 ≤ e) ∧ ((e ≤ 9) ∧ ((0 ≤ a) ∧ ((a ≤ 9) ∧ ((0 ≤ f) ∧ ((f ≤ 9) ∧ (1 ≤ e + a + f)))))))))) (h1 : 0 ≤ b) (h2 : b = 0) : a ≤ 9 := by omega
theorem ok_1022 {a b c d e f : Int} (h0 : (b = 0) → ((c = 1) ∧ ((d = 1) ∧ ((0 ≤ e) ∧ ((e ≤ 9) ∧ ((0 ≤ f) ∧ ((f ≤ 9) ∧ ((0 ≤ a) ∧ ((a ≤ 9) ∧ (1 ≤ e + f + a)))))))))) (h1 : 0 ≤ b) (h2 : b = 0) : 0 ≤ a := by omega
theorem ok_1023 {a b c d e f : Int} (h0 : (b = 0) → ((c = 1) ∧ ((d = 1) ∧ ((0 ≤ e) ∧ ((e ≤ 9) ∧ ((0 ≤ f) ∧ ((f ≤ 9) ∧ ((0 ≤ a) ∧ ((a ≤ 9) ∧ (1 ≤ e + f + a)))))))))) (h1 : 0 ≤ b) (h2 : b = 0) : a ≤ 9 := by omega
theorem ok_1024 {a b c d e f : Int} (h0 : (d = 0) → ((e = 1) ∧ ((f = 1) ∧ ((0 ≤ a) ∧ ((a ≤ 9) ∧ ((0 ≤ b) ∧ ((b ≤ 9) ∧ ((0 ≤ c) ∧ ((c ≤ 9) ∧ (1 ≤ a + b + c)))))))))) (h1 : 0 ≤ d) (h2 : d = 0) : 1 ≤ a + b + c := by omega
theorem ok_1025 {a b : Int} (h0 : b ≤ 4) (h1 : a ≤ 1600) : 0 ≤ 1604 - a - b := by omega
theorem ok_1026 {a b c d e f g i : Int} (h0 : (b = 0) → ((c < d) ∧ ((a = 1) ∧ ((e = 1) ∧ ((0 ≤ f) ∧ ((f ≤ 9) ∧ ((0 ≤ g) ∧ ((g ≤ 9) ∧ ((0 ≤ i) ∧ ((i ≤ 9) ∧ (1 ≤ f + g + i))))))))))) (h1 : 0 ≤ b) (h2 : b = 0) : a = 1 := by omega
theorem ok_1027 {a b c d e f g i : Int} (h0 : (b = 0) → ((c < d) ∧ ((e = 1) ∧ ((a = 1) ∧ ((0 ≤ f) ∧ ((f ≤ 9) ∧ ((0 ≤ g) ∧ ((g ≤ 9) ∧ ((0 ≤ i) ∧ ((i ≤ 9) ∧ (1 ≤ f + g + i))))))))))) (h1 : 0 ≤ b) (h2 : b = 0) : a = 1 := by omega
theorem ok_1028 {a b c d e f g i : Int} (h0 : (b = 0) → ((c < d) ∧ ((e = 1) ∧ ((f = 1) ∧ ((0 ≤ a) ∧ ((a ≤ 9) ∧ ((0 ≤ g) ∧ ((g ≤ 9) ∧ ((0 ≤ i) ∧ ((i ≤ 9) ∧ (1 ≤ a + g + i))))))))))) (h1 : 0 ≤ b) (h2 : b = 0) : 0 ≤ a := by omega
theorem ok_1029 {a b c d e f g i : Int} (h0 : (b = 0) → ((c < d) ∧ ((e = 1) ∧ ((f = 1) ∧ ((0 ≤ a) ∧ ((a ≤ 9) ∧ ((0 ≤ g) ∧ ((g ≤ 9) ∧ ((0 ≤ i) ∧ ((i ≤ 9) ∧ (1 ≤ a + g + i))))))))))) (h1 : 0 ≤ b) (h2 : b = 0) : a ≤ 9 := by omega
theorem ok_1030 {a b c d e f g i : Int} (h0 : (b = 0) → ((c < d) ∧ ((e = 1) ∧ ((f = 1) ∧ ((0 ≤ g) ∧ ((g ≤ 9) ∧ ((0 ≤ a) ∧ ((a ≤ 9) ∧ ((0 ≤ i) ∧ ((i ≤ 9) ∧ (1 ≤ g + a + i))))))))))) (h1 : 0 ≤ b) (h2 : b = 0) : 0 ≤ a := by omega
theorem ok_1031 {a b c d e f g i : Int} (h0 : (b = 0) → ((c < d) ∧ ((e = 1) ∧ ((f = 1) ∧ ((0 ≤ g) ∧ ((g ≤ 9) ∧ ((0 ≤ a) ∧ ((a ≤ 9) ∧ ((0 ≤ i) ∧ ((i ≤ 9) ∧ (1 ≤ g + a + i))))))))))) (h1 : 0 ≤ b) (h2 : b = 0) : a ≤ 9 := by omega
theorem ok_1032 {a b c d e f g i : Int} (h0 : (b = 0) → ((c < d) ∧ ((e = 1) ∧ ((f = 1) ∧ ((0 ≤ g) ∧ ((g ≤ 9) ∧ ((0 ≤ i) ∧ ((i ≤ 9) ∧ ((0 ≤ a) ∧ ((a ≤ 9) ∧ (1 ≤ g + i + a))))))))))) (h1 : 0 ≤ b) (h2 : b = 0) : 0 ≤ a := by omega
theorem ok_1033 {a b c d e f g i : Int} (h0 : (b = 0) → ((c < d) ∧ ((e = 1) ∧ ((f = 1) ∧ ((0 ≤ g) ∧ ((g ≤ 9) ∧ ((0 ≤ i) ∧ ((i ≤ 9) ∧ ((0 ≤ a) ∧ ((a ≤ 9) ∧ (1 ≤ g + i + a))))))))))) (h1 : 0 ≤ b) (h2 : b = 0) : a ≤ 9 := by omega
theorem ok_1034 {a b c d e f g i : Int} (h0 : (d = 0) → ((e < f) ∧ ((g = 1) ∧ ((i = 1) ∧ ((0 ≤ a) ∧ ((a ≤ 9) ∧ ((0 ≤ b) ∧ ((b ≤ 9) ∧ ((0 ≤ c) ∧ ((c ≤ 9) ∧ (1 ≤ a + b + c))))))))))) (h1 : 0 ≤ d) (h2 : d = 0) : 1 ≤ a + b + c := by omega
theorem ok_1035 {a : Int} (h0 : a ≤ 1199) : a < ((1200 : Nat) : Int) := by omega
theorem ok_1036 {a : Int} (h0 : a = 1) : (-2147483648) ≤ a - 1 := by omega
theorem ok_1037 {a : Int} (h0 : a = 1) : a - 1 ≤ 2147483647 := by omega
theorem ok_1038 {a : Int} (h0 : a = 2) : (-2147483648) ≤ a - 1 := by omega
theorem ok_1039 {a : Int} (h0 : a = 2) : a - 1 ≤ 2147483647 := by omega
theorem ok_1040 {a : Int} (h0 : a = 3) : (-2147483648) ≤ a - 1 := by omega
theorem ok_1041 {a : Int} (h0 : a = 3) : a - 1 ≤ 2147483647 := by omega
theorem ok_1042 {a : Int} (h0 : a = 4) : (-2147483648) ≤ a - 1 := by omega
theorem ok_1043 {a : Int} (h0 : a = 4) : a - 1 ≤ 2147483647 := by omega
theorem ok_1044 {a b : Int} (h0 : b ≤ 5) (h1 : a = 320 * b) : 0 ≤ 1920 - a := by omega
theorem ok_1045 {a b : Int} (h0 : 0 ≤ b) (h1 : a = 320 * b) : 0 ≤ a := by omega
theorem ok_1046 {a b : Int} (h0 : b ≤ 5) (h1 : a = 320 * b) : a ≤ 1920 := by omega
theorem ok_1047 {a : Int} (h0 : a = 0) : 0 = a := by omega
theorem ok_1048 {a b : Int} (h0 : b = 320 * a) : 320 * a ≤ b := by omega
theorem ok_1049 {a b c : Int} (h0 : a = 320 * b) (h1 : 0 ≤ c) : a ≤ 320 * b + c := by omega
theorem ok_1050 {a b c : Int} (h0 : b ≤ 320) (h1 : 0 ≤ c) (h2 : c ≤ 320 * a + b) : (-2147483648) ≤ 320 * a := by omega
theorem ok_1051 {a b : Int} (h0 : b ≤ 1920) (h1 : 320 * a ≤ b) : 320 * a ≤ 2147483647 := by omega
theorem ok_1052 {a b c d e : Int} (h0 : 0 ≤ c) (h1 : c ≤ 320 * d + e) (h2 : a = 320 * d) (h3 : b = e) : (-2147483648) ≤ a + b := by omega
theorem ok_1053 {a b c d : Int} (h0 : c ≤ 1920) (h1 : 320 * d ≤ c) (h2 : a = 320 * d) (h3 : b ≤ 320) : a + b ≤ 2147483647 := by omega
theorem ok_1054 {a b c d e : Int} (h0 : b ≤ 5) (h1 : a ≤ 1920) (h2 : c = 320 * b) (h3 : d ≤ 320) (h4 : e = c + d) (h5 : a < e) : a < ((1920 : Nat) : Int) := by omega
theorem ok_1055 {a : Int} (h0 : a ≤ 41) : a < ((64 : Nat) : Int) := by omega
theorem ok_1056 {a : Int} (h0 : a ≤ 41) : a + 1 ≤ 2147483647 := by omega
theorem ok_1057 {a : Int} (h0 : a ≤ 1920) : a + 1 ≤ 2147483647 := by omega
theorem ok_1058 {a b c d e f : Int} (h0 : b ≤ 5) (h1 : c ≤ 1920) (h2 : d = 320 * b) (h3 : e ≤ 320) (h4 : f = d + e) (h5 : c < f) (h6 : a = c + 1) : 0 ≤ 1920 - a := by omega
theorem ok_1059 {a b c d e f : Int} (h0 : b ≤ 5) (h1 : c ≤ 1920) (h2 : d = 320 * b) (h3 : e ≤ 320) (h4 : f = d + e) (h5 : c < f) (h6 : a = c + 1) : a ≤ 1920 := by omega
theorem ok_1060 {a b c : Int} (h0 : 320 * a ≤ c) (h1 : b = c + 1) : 320 * a ≤ b := by omega
theorem ok_1061 {a b c d e f g : Int} (h0 : d ≤ 320 * b + c) (h1 : e = 320 * b) (h2 : f = c) (h3 : g = e + f) (h4 : d < g) (h5 : a = d + 1) : a ≤ 320 * b + c := by omega
theorem ok_1062 {a : Int} (h0 : a ≤ 41) : a + (-1) ≤ 2147483647 := by omega
theorem ok_1063 {a b : Int} (h0 : 0 ≤ b) (h1 : a = b + (-1)) : (-2147483648) ≤ a - 1 := by omega
theorem ok_1064 {a b : Int} (h0 : b ≤ 41) (h1 : a = b + (-1)) : a - 1 ≤ 2147483647 := by omega
theorem ok_1065 {a b c : Int} (h0 : b ≤ 41) (h1 : c = b + (-1)) (h2 : a = c - 1) : a < ((64 : Nat) : Int) := by omega
theorem ok_1066 {a b : Int} (h0 : b ≤ 41) (h1 : a = b + (-1)) : a < ((64 : Nat) : Int) := by omega
theorem ok_1067 {a b : Int} (h0 : b ≤ 41) (h1 : a = b + (-1)) : a ≤ 41 := by omega
theorem ok_1068 {a : Int} (h0 : a ≤ 41) : a - 1 ≤ 2147483647 := by omega
theorem ok_1069 {a b : Int} (h0 : b ≤ 41) (h1 : a = b - 1) : a < ((64 : Nat) : Int) := by omega
theorem ok_1070 {a : Int} (h0 : a ≤ 2) : 400 * a ≤ 2147483647 := by omega
theorem ok_1071 {a b c : Int} (h0 : 0 ≤ c) (h1 : 0 ≤ b) (h2 : a = 400 * c) : (-2147483648) ≤ a + b := by omega
theorem ok_1072 {a b c : Int} (h0 : c ≤ 2) (h1 : b ≤ 399) (h2 : a = 400 * c) : a + b ≤ 2147483647 := by omega
theorem ok_1073 {a b : Int} (h0 : a ≤ 6) (h1 : b ≤ 6) (h2 : a < b) : a ≤ 5 := by omega
theorem ok_1074 {a b c d : Int} (h0 : 0 ≤ b) (h1 : 0 ≤ c) (h2 : d = 400 * b) (h3 : a = d + c) : 0 ≤ a := by omega
theorem ok_1075 {a b c d : Int} (h0 : b ≤ 2) (h1 : c ≤ 399) (h2 : d = 400 * b) (h3 : a = d + c) : a ≤ 1199 := by omega
theorem ok_1076 {a b c d : Int} (h0 : b ≤ 2) (h1 : c ≤ 399) (h2 : d = 400 * b) (h3 : a = d + c) : a < ((1200 : Nat) : Int) := by omega
theorem ok_1077 {a b : Int}  : ((0 : Int) ≤ 400) ∨ ((a = 0) ∨ (b = 0)) := by omega
theorem ok_1078 {a : Int} (h0 : a ≤ 512) (h1 : a < 512) : a < ((512 : Nat) : Int) := by omega
theorem ok_1079 {a : Int} (h0 : a ≤ 512) : 0 ≤ 523 - a := by omega
theorem ok_1080 {a : Int} (h0 : a ≤ 512) : a ≤ 523 := by omega
theorem ok_1081 {a b : Int} (h0 : b ≤ 12) (h1 : a < 512) : a + b ≤ 2147483647 := by omega
theorem ok_1082 {a : Int} (h0 : a < 512) : a + 1 ≤ 2147483647 := by omega
theorem ok_1083 {a b : Int} (h0 : b < 512) (h1 : a = b + 1) : 0 ≤ 512 - a := by omega
theorem ok_1084 {a b : Int} (h0 : b < 512) (h1 : a = b + 1) : a ≤ 512 := by omega
theorem ok_1085 {a b c d : Int} (h0 : (d ≤ 399) ∨ ((b = 0) ∨ (c = 0))) (h1 : 0 ≤ c) (h2 : a = d + 1) : (a ≤ 400) ∨ ((b = 0) ∨ (c = 0)) := by omega
theorem ok_1086 {a : Int} (h0 : a ≤ 512) : a + 1 ≤ 2147483647 := by omega
theorem ok_1087 {a b : Int} (h0 : b ≤ 512) (h1 : b < 512) (h2 : a = b + 1) : 0 ≤ 512 - a := by omega
theorem ok_1088 {a b : Int} (h0 : b ≤ 512) (h1 : b < 512) (h2 : a = b + 1) : a ≤ 512 := by omega
theorem ok_1089 {a b c d e f g : Int} (h0 : d ≤ 512) (h1 : d < 512) (h2 : d ≤ e) (h3 : (d ≤ 399) ∨ ((b = 0) ∨ (c = 0))) (h4 : b = f) (h5 : 0 ≤ c) (h6 : g = d + f) (h7 : e < g) (h8 : a = d + 1) : (a ≤ 400) ∨ ((b = 0) ∨ (c = 0)) := by omega
theorem ok_1090 {a : Int} (h0 : a ≤ 523) : a + 1 ≤ 2147483647 := by omega
theorem ok_1091 {a b c d e : Int} (h0 : b ≤ 12) (h1 : c < 512) (h2 : d ≤ 523) (h3 : e = c + b) (h4 : d < e) (h5 : a = d + 1) : 0 ≤ 523 - a := by omega
theorem ok_1092 {a b c d e : Int} (h0 : b ≤ 12) (h1 : c < 512) (h2 : d ≤ 523) (h3 : e = c + b) (h4 : d < e) (h5 : a = d + 1) : a ≤ 523 := by omega
theorem ok_1093 {a b c : Int} (h0 : a ≤ c) (h1 : b = c + 1) : a ≤ b := by omega
theorem ok_1094 {a b : Int} (h0 : b ≤ 400) (h1 : a ≤ 400) (h2 : a < b) : a ≤ 399 := by omega
theorem ok_1095 {a b : Int} (h0 : b ≤ 400) (h1 : a ≤ 400) (h2 : a < b) : a < ((400 : Nat) : Int) := by omega
theorem ok_1096 {a b c : Int} (h0 : b ≤ 400) (h1 : c ≤ 400) (h2 : c < b) (h3 : a = c + 1) : 0 ≤ 400 - a := by omega
theorem ok_1097 {a b c : Int} (h0 : b ≤ 400) (h1 : c ≤ 400) (h2 : c < b) (h3 : a = c + 1) : a ≤ 400 := by omega
theorem ok_1098 {a b : Int} (h0 : 0 ≤ b) (h1 : b ≤ 1) (h2 : (b = 1) → ((0 ≤ a) ∧ (a ≤ 399))) (h3 : b ≠ 0) : 0 ≤ a := by omega
theorem ok_1099 {a b : Int} (h0 : 0 ≤ b) (h1 : b ≤ 1) (h2 : (b = 1) → ((0 ≤ a) ∧ (a ≤ 399))) (h3 : b ≠ 0) : a ≤ 399 := by omega
theorem ok_1100 {a b : Int} (h0 : a ≤ 400) (h1 : b ≤ 400) (h2 : a < b) : a ≤ 399 := by omega
theorem ok_1101 {a b c d e f : Int} (h0 : 0 ≤ b) (h1 : b ≤ 1) (h2 : (b = 1) → ((0 ≤ c) ∧ ((c < d) ∧ ((c ≤ 3) ∧ ((0 ≤ a) ∧ ((a < e) ∧ ((a ≤ 2) ∧ ((0 ≤ f) ∧ (f ≤ 63))))))))) (h3 : b ≠ 0) : 0 ≤ a := by omega
theorem ok_1102 {a b c d e f : Int} (h0 : 0 ≤ b) (h1 : b ≤ 1) (h2 : (b = 1) → ((0 ≤ c) ∧ ((c < d) ∧ ((c ≤ 3) ∧ ((0 ≤ a) ∧ ((a < e) ∧ ((a ≤ 2) ∧ ((0 ≤ f) ∧ (f ≤ 63))))))))) (h3 : b ≠ 0) : a ≤ 2 := by omega
theorem ok_1103 {a b c d e f : Int} (h0 : 0 ≤ b) (h1 : b ≤ 1) (h2 : (b = 1) → ((0 ≤ a) ∧ ((a < c) ∧ ((a ≤ 3) ∧ ((0 ≤ d) ∧ ((d < e) ∧ ((d ≤ 2) ∧ ((0 ≤ f) ∧ (f ≤ 63))))))))) (h3 : b ≠ 0) : 0 ≤ a := by omega
theorem ok_1104 {a b c d e f : Int} (h0 : 0 ≤ b) (h1 : b ≤ 1) (h2 : (b = 1) → ((0 ≤ a) ∧ ((a < c) ∧ ((a ≤ 3) ∧ ((0 ≤ d) ∧ ((d < e) ∧ ((d ≤ 2) ∧ ((0 ≤ f) ∧ (f ≤ 63))))))))) (h3 : b ≠ 0) : a ≤ 3 := by omega
theorem ok_1105 {a b : Int} (h0 : 0 ≤ b) (h1 : b ≤ 1) (h2 : (b = 1) → ((0 ≤ a) ∧ (a ≤ 399))) (h3 : b ≠ 0) : a < ((512 : Nat) : Int) := by omega
theorem ok_1106 {a : Int} (h0 : a ≤ 60) : 0 ≤ 511 - a := by omega
theorem ok_1107 {a : Int} (h0 : a ≤ 60) : a ≤ 511 := by omega
theorem ok_1108 {a b : Int} (h0 : b ≤ 60) (h1 : a ≤ 511) : a + b ≤ 2147483647 := by omega
theorem ok_1109 {a b c d e f g i j : Int} (h0 : b ≤ 60) (h1 : c ≤ 511) (h2 : d ≤ 400) (h3 : e = d) (h4 : 0 ≤ f) (h5 : g = f) (h6 : 0 ≤ i) (h7 : j = i) (h8 : c + j + g ≤ e) (h9 : a = c + b) : 0 ≤ 511 - a := by omega
theorem ok_1110 {a b c d e f g i j : Int} (h0 : b ≤ 60) (h1 : c ≤ 511) (h2 : d ≤ 400) (h3 : e = d) (h4 : 0 ≤ f) (h5 : g = f) (h6 : 0 ≤ i) (h7 : j = i) (h8 : c + j + g ≤ e) (h9 : a = c + b) : a ≤ 511 := by omega
theorem ok_1111 {a b : Int} (h0 : 0 ≤ b) (h1 : b ≤ 1) (h2 : (b = 1) → ((0 ≤ a) ∧ (a ≤ 399))) (h3 : b ≠ 0) : 0 ≤ 600 - a := by omega
theorem ok_1112 {a b : Int} (h0 : 0 ≤ b) (h1 : b ≤ 1) (h2 : (b = 1) → ((0 ≤ a) ∧ (a ≤ 399))) (h3 : b ≠ 0) : a ≤ 500 := by omega
theorem ok_1113 {a : Int} (h0 : a ≤ 500) : a < ((512 : Nat) : Int) := by omega
theorem ok_1114 {a b c d e : Int} (h0 : c = 1) (h1 : 0 ≤ d) (h2 : d ≤ 1) (h3 : (d = 1) → ((c ≤ b) ∧ (b ≤ e))) (h4 : d ≠ 0) (h5 : 0 ≤ a) : (-2147483648) ≤ a + b := by omega
theorem ok_1115 {a b c d e : Int} (h0 : c = 99) (h1 : 0 ≤ d) (h2 : d ≤ 1) (h3 : (d = 1) → ((e ≤ b) ∧ (b ≤ c))) (h4 : d ≠ 0) (h5 : a ≤ 500) : a + b ≤ 2147483647 := by omega
theorem ok_1116 {a b c d e f : Int} (h0 : b = 99) (h1 : 0 ≤ c) (h2 : c ≤ 1) (h3 : (c = 1) → ((d ≤ e) ∧ (e ≤ b))) (h4 : c ≠ 0) (h5 : f ≤ 500) (h6 : a = f + e) : 0 ≤ 600 - a := by omega
theorem ok_1117 {a b c d e f : Int} (h0 : b = 1) (h1 : 0 ≤ c) (h2 : c ≤ 1) (h3 : (c = 1) → ((b ≤ d) ∧ (d ≤ e))) (h4 : c ≠ 0) (h5 : 0 ≤ f) (h6 : a = f + d) : 0 ≤ a := by omega
theorem ok_1118 {a b c d e f : Int} (h0 : b = 99) (h1 : 0 ≤ c) (h2 : c ≤ 1) (h3 : (c = 1) → ((d ≤ e) ∧ (e ≤ b))) (h4 : c ≠ 0) (h5 : f ≤ 500) (h6 : f < 400) (h7 : a = f + e) : a ≤ 500 := by omega
theorem ok_1119 {a b : Int} (h0 : 0 ≤ b) (h1 : a = 0) : a ≤ b := by omega
theorem ok_1120 {a b c d : Int} (h0 : c ≤ d) (h1 : b = d + 1) (h2 : a = c) : a ≤ b := by omega
theorem ok_1121 {a b c : Int} (h0 : b ≤ 61) (h1 : c ≤ b) (h2 : c ≤ 400) (h3 : a = c) : a < 400 := by omega
theorem ok_1122 {a b c d e : Int} (h0 : 1 ≤ c) (h1 : d ≤ c) (h2 : e = d) (h3 : a = e + 1) (h4 : b = c + 1) (h5 : a ≤ 400) : a ≤ b := by omega
theorem ok_1123 {a b : Int} (h0 : 0 ≤ b) (h1 : a ≤ 60) : a - b ≤ 2147483647 := by omega
theorem ok_1124 {a b : Int} (h0 : b ≤ 60) (h1 : a ≤ 61) : a + b ≤ 2147483647 := by omega
theorem ok_1125 {a b c d : Int} (h0 : b ≤ 60) (h1 : 0 ≤ c) (h2 : a ≤ 61) (h3 : d = a + c) (h4 : d ≤ b) : a ≤ 60 := by omega
theorem ok_1126 {a b c d e : Int} (h0 : b ≤ 60) (h1 : c ≤ 60) (h2 : d ≤ 61) (h3 : e = d + c) (h4 : e ≤ b) (h5 : a = d + c) : a ≤ 60 := by omega
theorem ok_1127 {a b c d e : Int} (h0 : b ≤ 60) (h1 : 0 ≤ c) (h2 : d ≤ 61) (h3 : e = d + c) (h4 : e ≤ b) (h5 : a = d + 1) : 0 ≤ 61 - a := by omega
theorem ok_1128 {a b c d e : Int} (h0 : b ≤ 60) (h1 : 0 ≤ c) (h2 : d ≤ 61) (h3 : e = d + c) (h4 : e ≤ b) (h5 : a = d + 1) : a ≤ 61 := by omega
theorem ok_1129 {a b : Int} (h0 : 0 ≤ b) (h1 : a = b / 2) : (-500) ≤ a := by omega
theorem ok_1130 {a b : Int} (h0 : b ≤ 800) (h1 : a = b / 2) : a ≤ 500 := by omega
theorem ok_1131 {a : Int} (h0 : a ≤ 800) : a + 1 ≤ 2147483647 := by omega
theorem ok_1132 {a b : Int} (h0 : b ≤ 800) (h1 : b < 800) (h2 : a = b + 1) : 0 ≤ 800 - a := by omega
theorem ok_1133 {a b : Int} (h0 : b ≤ 800) (h1 : b < 800) (h2 : a = b + 1) : a ≤ 800 := by omega
theorem ok_1134 {a : Int} (h0 : a ≤ 800) : a < ((1024 : Nat) : Int) := by omega
theorem ok_1135 {a b c d e f : Int} (h0 : b = 60) (h1 : 0 ≤ c) (h2 : c ≤ 1) (h3 : (c = 1) → ((d ≤ e) ∧ (e ≤ b))) (h4 : c ≠ 0) (h5 : f ≤ 60) (h6 : f < e) (h7 : a = f + 1) : 0 ≤ 60 - a := by omega
theorem ok_1136 {a b c d e f : Int} (h0 : b = 60) (h1 : 0 ≤ c) (h2 : c ≤ 1) (h3 : (c = 1) → ((d ≤ e) ∧ (e ≤ b))) (h4 : c ≠ 0) (h5 : f ≤ 60) (h6 : f < e) (h7 : a = f + 1) : a ≤ 60 := by omega
theorem ok_1137 {a : Int} (h0 : a ≤ 1024) (h1 : a < 1024) : a < ((1024 : Nat) : Int) := by omega
theorem ok_1138 {a : Int} (h0 : a ≤ 1024) : a + 1 ≤ 2147483647 := by omega
theorem ok_1139 {a b : Int} (h0 : b ≤ 1024) (h1 : b < 1024) (h2 : a = b + 1) : 0 ≤ 1024 - a := by omega
theorem ok_1140 {a b : Int} (h0 : b ≤ 1024) (h1 : b < 1024) (h2 : a = b + 1) : a ≤ 1024 := by omega
theorem ok_1141 {a : Int} (h0 : a ≤ 800) (h1 : a < 800) : a ≤ 799 := by omega
theorem ok_1142 {a b : Int} (h0 : 0 ≤ b) (h1 : a = b / 2) : 0 ≤ a := by omega
theorem ok_1143 {a b : Int} (h0 : b ≤ 1024) (h1 : b < 1024) (h2 : a = b / 2) : a < ((512 : Nat) : Int) := by omega
theorem ok_1144 {a : Int} (h0 : a < 1024) : a < ((1024 : Nat) : Int) := by omega
theorem ok_1145 {a : Int} (h0 : a < 1024) : a + 1 ≤ 2147483647 := by omega
theorem ok_1146 {a b : Int} (h0 : b < 1024) (h1 : a = b + 1) : 0 ≤ 1024 - a := by omega
theorem ok_1147 {a b : Int} (h0 : b < 1024) (h1 : a = b + 1) : a ≤ 1024 := by omega
theorem ok_1148 {a b : Int} (h0 : b ≤ 1024) (h1 : a = b / 2) : a ≤ 600 := by omega
theorem ok_1149 {a b c : Int} (h0 : 0 ≤ b) (h1 : b ≤ 1) (h2 : (b = 1) → ((0 ≤ a) ∧ ((a < c) ∧ (a ≤ 3)))) (h3 : b ≠ 0) : 0 ≤ a := by omega
theorem ok_1150 {a b c : Int} (h0 : 0 ≤ b) (h1 : b ≤ 1) (h2 : (b = 1) → ((0 ≤ a) ∧ ((a < c) ∧ (a ≤ 3)))) (h3 : b ≠ 0) : a < ((4 : Nat) : Int) := by omega
theorem ok_1151 {a b c : Int} (h0 : 0 ≤ b) (h1 : b ≤ 1) (h2 : (b = 1) → ((0 ≤ a) ∧ ((a < c) ∧ (a ≤ 3)))) (h3 : b ≠ 0) : a ≤ 3 := by omega
theorem ok_1152 {a b c d : Int} (h0 : 0 ≤ b) (h1 : b ≤ 1) (h2 : (b = 1) → ((0 ≤ a) ∧ (a + c ≤ d))) (h3 : b ≠ 0) : 0 ≤ a := by omega
theorem ok_1153 {a b c d e : Int} (h0 : b ≤ 60) (h1 : c = b - 1) (h2 : 0 ≤ d) (h3 : d ≤ 1) (h4 : (d = 1) → ((e ≤ a) ∧ (a ≤ c))) (h5 : d ≠ 0) : a ≤ 511 := by omega
theorem ok_1154 {a b c d e f : Int} (h0 : b ≤ 400) (h1 : c = b) (h2 : 0 ≤ d) (h3 : e = d) (h4 : 0 ≤ f) (h5 : f ≤ 1) (h6 : (f = 1) → ((0 ≤ a) ∧ (a + e ≤ c))) (h7 : f ≠ 0) : a ≤ 511 := by omega
theorem ok_1155 {a b : Int} (h0 : a ≤ 20) (h1 : b ≤ 20) (h2 : a < b) : a < ((20 : Nat) : Int) := by omega
theorem ok_1156 {a b c d e : Int} (h0 : 0 ≤ b) (h1 : 0 ≤ c) (h2 : d = 2 * b) (h3 : e = d + c) (h4 : a = 3 * e) : (-2147483648) ≤ a + 1 := by omega
theorem ok_1157 {a b c d e : Int} (h0 : b ≤ 399) (h1 : c ≤ 1) (h2 : d = 2 * b) (h3 : e = d + c) (h4 : a = 3 * e) : a + 1 ≤ 2147483647 := by omega
theorem ok_1158 {a b c d e f : Int} (h0 : 0 ≤ b) (h1 : 0 ≤ c) (h2 : d = 2 * b) (h3 : e = d + c) (h4 : f = 3 * e) (h5 : a = f + 1) : 0 ≤ a := by omega
theorem ok_1159 {a b c d e f : Int} (h0 : b ≤ 399) (h1 : c ≤ 1) (h2 : d = 2 * b) (h3 : e = d + c) (h4 : f = 3 * e) (h5 : a = f + 1) : a < ((2400 : Nat) : Int) := by omega
theorem ok_1160 {a b c d e : Int} (h0 : 0 ≤ b) (h1 : 0 ≤ c) (h2 : d = 2 * b) (h3 : e = d + c) (h4 : a = 3 * e) : (-2147483648) ≤ a + 2 := by omega
theorem ok_1161 {a b c d e : Int} (h0 : b ≤ 399) (h1 : c ≤ 1) (h2 : d = 2 * b) (h3 : e = d + c) (h4 : a = 3 * e) : a + 2 ≤ 2147483647 := by omega
theorem ok_1162 {a b c d e f : Int} (h0 : 0 ≤ b) (h1 : 0 ≤ c) (h2 : d = 2 * b) (h3 : e = d + c) (h4 : f = 3 * e) (h5 : a = f + 2) : 0 ≤ a := by omega
theorem ok_1163 {a b c d e f : Int} (h0 : b ≤ 399) (h1 : c ≤ 1) (h2 : d = 2 * b) (h3 : e = d + c) (h4 : f = 3 * e) (h5 : a = f + 2) : a < ((2400 : Nat) : Int) := by omega
theorem ok_1164 {a b c d e f : Int} (h0 : d = 2 * b) (h1 : e = d + c) (h2 : f = 3 * e) (h3 : a = f + 1) : a = 6 * b + 3 * c + 1 := by omega
theorem ok_1165 {a b c d e f : Int} (h0 : d = 2 * b) (h1 : e = d + c) (h2 : f = 3 * e) (h3 : a = f + 2) : a = 6 * b + 3 * c + 2 := by omega
theorem ok_1166 {a b c d e : Int} (h0 : 0 ≤ b) (h1 : 0 ≤ c) (h2 : d = 2 * b) (h3 : e = d + c) (h4 : a = 3 * e) : 0 ≤ a := by omega
theorem ok_1167 {a b c d e : Int} (h0 : b ≤ 399) (h1 : c ≤ 1) (h2 : d = 2 * b) (h3 : e = d + c) (h4 : a = 3 * e) : a < ((2400 : Nat) : Int) := by omega
theorem ok_1168 {a b c : Int} (h0 : 0 ≤ b) (h1 : 0 ≤ c) (h2 : (a = b) ∨ (a = c)) : 0 ≤ a := by omega
theorem ok_1169 {a b : Int} (h0 : b ≤ 100000) (h1 : a ≤ b) : a ≤ 100000 := by omega
theorem ok_1170 {a b c : Int} (h0 : a ≤ c) (h1 : c ≤ b) : a ≤ b + 1 := by omega
theorem ok_1171 {a b : Int} (h0 : a ≤ 399) (h1 : b ≤ 100) : a + b ≤ 2147483647 := by omega
theorem ok_1172 {a b c : Int} (h0 : b ≤ 399) (h1 : c ≤ 100) (h2 : a = b + c) : a < ((512 : Nat) : Int) := by omega
theorem ok_1173 {a b c : Int} (h0 : c = 0) (h1 : 0 ≤ a) (h2 : a ≤ 1) (h3 : a = c) (h4 : b = 0) : a = b := by omega
theorem ok_1174 {a : Int} (h0 : 0 ≤ a) : (-2147483648) ≤ 1 + a := by omega
theorem ok_1175 {a : Int} (h0 : a ≤ 100000) : 1 + a ≤ 2147483647 := by omega
theorem ok_1176 {a b c d : Int} (h0 : 0 ≤ b) (h1 : 0 ≤ c) (h2 : d = 1 + c) (h3 : (a = b) ∨ (a = d)) : 0 ≤ a := by omega
theorem ok_1177 {a b c : Int} (h0 : b ≤ 60) (h1 : c ≤ 100) (h2 : c ≤ b) (h3 : a = c + 1) : 0 ≤ 100 - a := by omega
theorem ok_1178 {a b c : Int} (h0 : b ≤ 60) (h1 : c ≤ 100) (h2 : c ≤ b) (h3 : a = c + 1) : a ≤ 100 := by omega
theorem ok_1179 {a b c : Int} (h0 : c ≤ b + 1) (h1 : c ≤ b) (h2 : a = c + 1) : a ≤ b + 1 := by omega
theorem ok_1180 {a b c : Int} (h0 : c = 1) (h1 : 0 ≤ a) (h2 : a ≤ 1) (h3 : a = c) (h4 : b = 1) : a = b := by omega
theorem ok_1181 {a b c d e : Int} (h0 : 0 ≤ b) (h1 : c = 2 * b) (h2 : d = c + e) (h3 : a = 3 * d) (h4 : e = 1) : (-2147483648) ≤ a + 1 := by omega
theorem ok_1182 {a b c d e f : Int} (h0 : 0 ≤ b) (h1 : c = 2 * b) (h2 : d = c + e) (h3 : f = 3 * d) (h4 : e = 1) (h5 : a = f + 1) : 0 ≤ a := by omega
theorem ok_1183 {a b c d e : Int} (h0 : 0 ≤ b) (h1 : c = 2 * b) (h2 : d = c + e) (h3 : a = 3 * d) (h4 : e = 1) : (-2147483648) ≤ a + 2 := by omega
theorem ok_1184 {a b c d e f : Int} (h0 : 0 ≤ b) (h1 : c = 2 * b) (h2 : d = c + e) (h3 : f = 3 * d) (h4 : e = 1) (h5 : a = f + 2) : 0 ≤ a := by omega
theorem ok_1185 {a b c d e : Int} (h0 : 0 ≤ b) (h1 : c = 2 * b) (h2 : d = c + e) (h3 : a = 3 * d) (h4 : e = 1) : 0 ≤ a := by omega
theorem ok_1186 {a b c d : Int} (h0 : c ≤ b) (h1 : d ≤ b + 1) (h2 : d ≤ c) (h3 : a = d + 1) : a ≤ b + 1 := by omega
theorem ok_1187 {a b c d e f g i j : Int} (h0 : b ≤ 400) (h1 : c = b) (h2 : 0 ≤ d) (h3 : e = d) (h4 : f = g) (h5 : i + f + e ≤ c) (h6 : j ≤ g) (h7 : g < j) (h8 : a = i + j) : a ≤ 399 := by omega
theorem ok_1188 {a b : Int} (h0 : 0 ≤ a) (h1 : a ≤ 1) (h2 : b = 1) (h3 : b = 0) : a = b := by omega
theorem ok_1189 {a b c d e f : Int} (h0 : b + c + d ≤ e) (h1 : e ≤ 400) (h2 : 0 ≤ d) (h3 : f ≤ c) (h4 : c < f) (h5 : a = b + f) : a ≤ 399 := by omega
theorem ok_1190 {a : Int} (h0 : a ≤ 2) (h1 : a < 2) : a ≤ 1 := by omega
theorem ok_1191 {a b : Int} (h0 : b ≤ 2) (h1 : b < 2) (h2 : a = b + 1) : 0 ≤ 2 - a := by omega
theorem ok_1192 {a b : Int} (h0 : b ≤ 2) (h1 : b < 2) (h2 : a = b + 1) : a ≤ 2 := by omega
theorem ok_1193 {a : Int} (h0 : a ≤ 60) (h1 : 400 ≤ a) : False := by omega
theorem ok_1194 {a : Int} (h0 : a ≤ 60) : a ≤ 399 := by omega
theorem ok_1195 {a b : Int} (h0 : a ≤ 64) (h1 : b ≤ 64) (h2 : a < b) : a < ((64 : Nat) : Int) := by omega
theorem ok_1196 {a b c d e f g : Int} (h0 : 0 ≤ c) (h1 : c ≤ 1) (h2 : (c = 1) → ((0 ≤ a) ∧ ((a < d) ∧ ((a ≤ 3) ∧ ((0 ≤ e) ∧ ((e < f) ∧ ((e ≤ 2) ∧ ((0 ≤ g) ∧ (g ≤ 63))))))))) (h3 : c ≠ 0) (h4 : b = d) : a < b := by omega
theorem ok_1197 {a b c d e f : Int} (h0 : 0 ≤ b) (h1 : b ≤ 1) (h2 : (b = 1) → ((0 ≤ c) ∧ ((c < d) ∧ ((c ≤ 3) ∧ ((0 ≤ e) ∧ ((e < f) ∧ ((e ≤ 2) ∧ ((0 ≤ a) ∧ (a ≤ 63))))))))) (h3 : b ≠ 0) : 0 ≤ a := by omega
theorem ok_1198 {a b c d e f : Int} (h0 : 0 ≤ b) (h1 : b ≤ 1) (h2 : (b = 1) → ((0 ≤ c) ∧ ((c < d) ∧ ((c ≤ 3) ∧ ((0 ≤ e) ∧ ((e < f) ∧ ((e ≤ 2) ∧ ((0 ≤ a) ∧ (a ≤ 63))))))))) (h3 : b ≠ 0) : a < ((64 : Nat) : Int) := by omega
theorem ok_1199 {a b c d : Int} (h0 : 0 ≤ c) (h1 : c ≤ 1) (h2 : (c = 1) → ((0 ≤ a) ∧ ((a < d) ∧ (a ≤ 3)))) (h3 : c ≠ 0) (h4 : b = d) : a < b := by omega
theorem ok_1200 {a : Int}  : (((-1) : Int) = (-1)) ∨ (a < 100000) := by omega
theorem ok_1201 {a : Int} (h0 : a ≤ 59) : a ≤ 399 := by omega
theorem ok_1202 {a b c d : Int} (h0 : b = 2) (h1 : 0 ≤ c) (h2 : c ≤ 1) (h3 : (c = 1) → ((d ≤ a) ∧ (a ≤ b))) (h4 : c ≠ 0) : a ≤ 2 := by omega
theorem ok_1203 {a : Int} (h0 : a = 0) : a < 400 := by omega
theorem ok_1204 {a b : Int} (h0 : b = 0) (h1 : a = b + 1) (h2 : 0 ≤ a) : 1 ≤ a := by omega
theorem ok_1205 {a b c : Int} (h0 : 0 ≤ b) (h1 : c = 0) (h2 : a = c + 1) (h3 : a ≤ 400) : a ≤ b + 1 := by omega
theorem ok_1206 {a b : Int} (h0 : b < a) : (-2147483648) ≤ a - b := by omega
theorem ok_1207 {a b : Int} (h0 : a ≤ 100000) (h1 : 1 ≤ b) : a - b ≤ 2147483647 := by omega
theorem ok_1208 {a : Int} (h0 : a ≤ 2) : (-2147483648) ≤ 3 - a := by omega
theorem ok_1209 {a : Int} (h0 : 0 ≤ a) : 3 - a ≤ 2147483647 := by omega
theorem ok_1210 {a b : Int} (h0 : a = b) : a ≤ b := by omega
theorem ok_1211 {a b c : Int} (h0 : b ≤ 399) (h1 : c ≤ 99) (h2 : a = b + c) : a < ((512 : Nat) : Int) := by omega
theorem ok_1212 {a : Int} (h0 : a ≤ 99) : a + 1 ≤ 2147483647 := by omega
theorem ok_1213 {a b : Int} (h0 : b ≤ 2) (h1 : a = 3 - b) : 0 ≤ a := by omega
theorem ok_1214 {a b : Int} (h0 : 0 ≤ b) (h1 : b ≠ 0) (h2 : a = 3 - b) : a ≤ 2 := by omega
theorem ok_1215 {a b c d : Int} (h0 : 0 ≤ a) (h1 : c < a) (h2 : d = c) (h3 : b = d + 1) (h4 : b ≤ 400) : 0 ≤ a - b := by omega
theorem ok_1216 {a b c : Int} (h0 : 1 ≤ b) (h1 : c = b) (h2 : a = c + 1) (h3 : 0 ≤ a) : 1 ≤ a := by omega
theorem ok_1217 {a b c d : Int} (h0 : 0 ≤ b) (h1 : c < b) (h2 : d = c) (h3 : a = d + 1) (h4 : a ≤ 400) : a ≤ b := by omega
theorem ok_1218 {a b c : Int} (h0 : b ≤ 60) (h1 : c ≤ 99) (h2 : c ≤ b) (h3 : a = c + 1) : a ≤ 99 := by omega
theorem ok_1219 {a b c d e f g : Int} (h0 : 0 ≤ c) (h1 : d ≤ e + 1) (h2 : 0 ≤ f) (h3 : c < f) (h4 : b = e + f) (h5 : g = d) (h6 : a = g + 1) : a ≤ b + 1 := by omega
theorem ok_1220 {a b : Int} (h0 : b ≤ 60) (h1 : a ≤ 60) (h2 : a < b) : a ≤ 59 := by omega
theorem ok_1221 {a b c : Int} (h0 : c ≤ 100000) (h1 : c = b) (h2 : c < 100000) : (a = (-1)) ∨ (b < 100000) := by omega
theorem ok_1222 {a b c : Int} (h0 : c = b) (h1 : c < 100000) : (a = (-1)) ∨ (b < 100000) := by omega
theorem ok_1223 {a b c d : Int} (h0 : 0 ≤ c) (h1 : 0 ≤ d) (h2 : 0 ≤ b) (h3 : a = c + d) : (-2147483648) ≤ a + b := by omega
theorem ok_1224 {a b c d : Int} (h0 : c ≤ 399) (h1 : d ≤ 60) (h2 : b ≤ 3) (h3 : a = c + d) : a + b ≤ 2147483647 := by omega
theorem ok_1225 {a b c d e : Int} (h0 : 0 ≤ b) (h1 : 0 ≤ c) (h2 : 0 ≤ d) (h3 : e = b + c) (h4 : a = e + d) : (-2147483648) ≤ a - 1 := by omega
theorem ok_1226 {a b c d e : Int} (h0 : b ≤ 399) (h1 : c ≤ 60) (h2 : d ≤ 3) (h3 : e = b + c) (h4 : a = e + d) : a - 1 ≤ 2147483647 := by omega
theorem ok_1227 {a b c d e f : Int} (h0 : b ≤ 399) (h1 : c ≤ 60) (h2 : d ≤ 3) (h3 : e = b + c) (h4 : f = e + d) (h5 : a = f - 1) : a < ((512 : Nat) : Int) := by omega
theorem ok_1228 {a : Int} (h0 : a ≤ 8) : a - 1 ≤ 2147483647 := by omega
theorem ok_1229 {a b : Int} (h0 : 1 ≤ b) (h1 : a = b - 1) : (-2147483648) ≤ 512 * a := by omega
theorem ok_1230 {a b : Int} (h0 : b ≤ 8) (h1 : a = b - 1) : 512 * a ≤ 2147483647 := by omega
theorem ok_1231 {a b c d e f g i j : Int} (h0 : 0 ≤ c) (h1 : 0 ≤ d) (h2 : 1 ≤ e) (h3 : 0 ≤ f) (h4 : g = c + d) (h5 : i = g + f) (h6 : b = i - 1) (h7 : j = e - 1) (h8 : a = 512 * j) : (-2147483648) ≤ a + b := by omega
theorem ok_1232 {a b c d e f g i j : Int} (h0 : c ≤ 399) (h1 : d ≤ 60) (h2 : e ≤ 8) (h3 : f ≤ 3) (h4 : g = c + d) (h5 : i = g + f) (h6 : b = i - 1) (h7 : j = e - 1) (h8 : a = 512 * j) : a + b ≤ 2147483647 := by omega
theorem ok_1233 {a b c d e f g i : Int} (h0 : 1 ≤ b) (h1 : 0 ≤ c) (h2 : c ≤ 1) (h3 : (c = 1) → ((0 ≤ d) ∧ (d + e ≤ f))) (h4 : c ≠ 0) (h5 : g = b - 1) (h6 : i = 512 * g) (h7 : a = i + d) : 0 ≤ a := by omega
theorem ok_1234 {a b c d e f g i j k : Int} (h0 : b ≤ 399) (h1 : c ≤ 60) (h2 : d ≤ 8) (h3 : e ≤ 3) (h4 : f = b + c) (h5 : g = f + e) (h6 : i = g - 1) (h7 : j = d - 1) (h8 : k = 512 * j) (h9 : a = k + i) : a < ((4096 : Nat) : Int) := by omega
theorem ok_1235 {a b c : Int} (h0 : b ≤ 7) (h1 : c ≤ 7) (h2 : c < b) (h3 : a = c + 1) : 0 ≤ 7 - a := by omega
theorem ok_1236 {a b c : Int} (h0 : b ≤ 7) (h1 : c ≤ 7) (h2 : c < b) (h3 : a = c + 1) : a ≤ 7 := by omega
theorem ok_1237 {a b : Int} (h0 : a ≤ b) : a ≤ b + 1 := by omega
theorem ok_1238 {a b : Int} (h0 : b ≤ 8) (h1 : a = b - 1) : a ≤ 7 := by omega
theorem ok_1239 {a b c d e f : Int} (h0 : b = 8) (h1 : 0 ≤ c) (h2 : c ≤ 1) (h3 : (c = 1) → ((d ≤ e) ∧ (e ≤ b))) (h4 : c ≠ 0) (h5 : f ≤ 8) (h6 : f < e) (h7 : a = f + 1) : 0 ≤ 8 - a := by omega
theorem ok_1240 {a b c d e f : Int} (h0 : b = 8) (h1 : 0 ≤ c) (h2 : c ≤ 1) (h3 : (c = 1) → ((d ≤ e) ∧ (e ≤ b))) (h4 : c ≠ 0) (h5 : f ≤ 8) (h6 : f < e) (h7 : a = f + 1) : a ≤ 8 := by omega
theorem ok_1241 {a : Int} (h0 : 1 ≤ a) : (-2147483648) ≤ 512 * a := by omega
theorem ok_1242 {a : Int} (h0 : a ≤ 8) : 512 * a ≤ 2147483647 := by omega
theorem ok_1243 {a b c : Int} (h0 : 1 ≤ c) (h1 : 0 ≤ b) (h2 : a = 512 * c) : (-2147483648) ≤ a + b := by omega
theorem ok_1244 {a b c : Int} (h0 : c ≤ 8) (h1 : b ≤ 400) (h2 : a = 512 * c) : a + b ≤ 2147483647 := by omega
theorem ok_1245 {a b c d : Int} (h0 : 1 ≤ b) (h1 : 0 ≤ c) (h2 : d = 512 * b) (h3 : a = d + c) : 0 ≤ a := by omega
theorem ok_1246 {a b c d e f g i : Int} (h0 : b = 8) (h1 : 0 ≤ c) (h2 : c ≤ 1) (h3 : (c = 1) → ((d ≤ e) ∧ (e ≤ b))) (h4 : c ≠ 0) (h5 : f ≤ 8) (h6 : f < e) (h7 : g < 400) (h8 : i = 512 * f) (h9 : a = i + g) : a < ((4096 : Nat) : Int) := by omega
theorem ok_1247 {a : Int} (h0 : a ≤ 400) (h1 : a < 400) : a ≤ 399 := by omega
theorem ok_1248 {a : Int} (h0 : a ≤ 512) : a < ((4096 : Nat) : Int) := by omega
theorem ok_1249 {a b c d e : Int} (h0 : 0 ≤ b) (h1 : b ≤ 1) (h2 : (b = 1) → ((0 ≤ a) ∧ ((a ≤ 399) ∧ ((1 ≤ c) ∧ ((c ≤ 8) ∧ ((1 ≤ d) ∧ (d ≤ e))))))) (h3 : b ≠ 0) : 0 ≤ a := by omega
theorem ok_1250 {a b c d e : Int} (h0 : 0 ≤ b) (h1 : b ≤ 1) (h2 : (b = 1) → ((0 ≤ a) ∧ ((a ≤ 399) ∧ ((1 ≤ c) ∧ ((c ≤ 8) ∧ ((1 ≤ d) ∧ (d ≤ e))))))) (h3 : b ≠ 0) : a ≤ 399 := by omega
theorem ok_1251 {a b c d e : Int} (h0 : 0 ≤ b) (h1 : b ≤ 1) (h2 : (b = 1) → ((0 ≤ c) ∧ ((c ≤ 399) ∧ ((1 ≤ a) ∧ ((a ≤ 8) ∧ ((1 ≤ d) ∧ (d ≤ e))))))) (h3 : b ≠ 0) : 1 ≤ a := by omega
theorem ok_1252 {a b c d e : Int} (h0 : 0 ≤ b) (h1 : b ≤ 1) (h2 : (b = 1) → ((0 ≤ c) ∧ ((c ≤ 399) ∧ ((1 ≤ a) ∧ ((a ≤ 8) ∧ ((1 ≤ d) ∧ (d ≤ e))))))) (h3 : b ≠ 0) : a ≤ 8 := by omega
theorem ok_1253 {a b c d e : Int} (h0 : 0 ≤ c) (h1 : c ≤ 1) (h2 : (c = 1) → ((0 ≤ d) ∧ ((d ≤ 399) ∧ ((1 ≤ e) ∧ ((e ≤ 8) ∧ ((1 ≤ a) ∧ (a ≤ b))))))) (h3 : c ≠ 0) : a ≤ b := by omega
theorem ok_1254 {a b c d e : Int} (h0 : 0 ≤ b) (h1 : b ≤ 1) (h2 : (b = 1) → ((0 ≤ c) ∧ ((c ≤ 399) ∧ ((1 ≤ a) ∧ ((a ≤ 8) ∧ ((1 ≤ d) ∧ (d ≤ e))))))) (h3 : b ≠ 0) : (-2147483648) ≤ a - 1 := by omega
theorem ok_1255 {a b c d e : Int} (h0 : 0 ≤ b) (h1 : b ≤ 1) (h2 : (b = 1) → ((0 ≤ c) ∧ ((c ≤ 399) ∧ ((1 ≤ a) ∧ ((a ≤ 8) ∧ ((1 ≤ d) ∧ (d ≤ e))))))) (h3 : b ≠ 0) : a - 1 ≤ 2147483647 := by omega
theorem ok_1256 {a b c d e f : Int} (h0 : 0 ≤ b) (h1 : b ≤ 1) (h2 : (b = 1) → ((0 ≤ c) ∧ ((c ≤ 399) ∧ ((1 ≤ d) ∧ ((d ≤ 8) ∧ ((1 ≤ e) ∧ (e ≤ f))))))) (h3 : b ≠ 0) (h4 : a = d - 1) : 0 ≤ a := by omega
theorem ok_1257 {a b c d e f : Int} (h0 : 0 ≤ b) (h1 : b ≤ 1) (h2 : (b = 1) → ((0 ≤ c) ∧ ((c ≤ 399) ∧ ((1 ≤ d) ∧ ((d ≤ 8) ∧ ((1 ≤ e) ∧ (e ≤ f))))))) (h3 : b ≠ 0) (h4 : a = d - 1) : a ≤ 7 := by omega
theorem ok_1258 {a b c : Int} (h0 : c ≤ a) (h1 : c ≠ a) (h2 : b = c + 1) : 0 ≤ a - b := by omega
theorem ok_1259 {a b c : Int} (h0 : c ≤ b) (h1 : c ≠ b) (h2 : a = c + 1) : a ≤ b := by omega
theorem ok_1260 {a : Int} (h0 : a ≤ 20) (h1 : a ≠ 20) : a < ((20 : Nat) : Int) := by omega
theorem ok_1261 {a b : Int} (h0 : b ≤ 20) (h1 : b ≠ 20) (h2 : a = b + 1) : a ≤ 20 := by omega
theorem ok_1262 {a b : Int} (h0 : 0 ≤ b) (h1 : a = b + 1) : (-2147483648) ≤ a - 1 := by omega
theorem ok_1263 {a b : Int} (h0 : b ≤ 20) (h1 : a = b + 1) : a - 1 ≤ 2147483647 := by omega
theorem ok_1264 {a : Int} (h0 : 0 ≤ a) : (-2147483648) ≤ a - 3 := by omega
theorem ok_1265 {a : Int} (h0 : a ≤ 399) : a - 3 ≤ 2147483647 := by omega
theorem ok_1266 {a b : Int} (h0 : b ≤ 399) (h1 : a = b - 3) : 0 ≤ 403 - a := by omega
theorem ok_1267 {a b : Int} (h0 : 0 ≤ b) (h1 : a = b - 3) : (-3) ≤ a := by omega
theorem ok_1268 {a b : Int} (h0 : b ≤ 399) (h1 : a = b - 3) : a ≤ 403 := by omega
theorem ok_1269 {a b c : Int} (h0 : c = b) (h1 : a = c - 3) : 0 ≤ a - b + 3 := by omega
theorem ok_1270 {a b c : Int} (h0 : c = a) (h1 : b = c - 3) : a - 3 ≤ b := by omega
theorem ok_1271 {a b c : Int} (h0 : c = b) (h1 : a = c - 3) : a ≤ b + 4 := by omega
theorem ok_1272 {a b c : Int} (h0 : c = b) (h1 : a = c - 3) : (a ≤ b) ∨ ((1 : Int) ≤ 0) := by omega
theorem ok_1273 {a : Int} (h0 : 0 ≤ a) : (-2147483648) ≤ a + 3 := by omega
theorem ok_1274 {a : Int} (h0 : a ≤ 403) : a < ((512 : Nat) : Int) := by omega
theorem ok_1275 {a b : Int} (h0 : a ≤ 7) (h1 : b ≤ 1) : a + b ≤ 2147483647 := by omega
theorem ok_1276 {a b c d : Int} (h0 : b ≤ 403) (h1 : c ≤ 399) (h2 : d = c + 3) (h3 : b ≤ d) (h4 : a = b + 1) : 0 ≤ 403 - a := by omega
theorem ok_1277 {a b c d : Int} (h0 : b ≤ 403) (h1 : c ≤ 399) (h2 : d = c + 3) (h3 : b ≤ d) (h4 : a = b + 1) : a ≤ 403 := by omega
theorem ok_1278 {a b c d e f g : Int} (h0 : b = c) (h1 : d ≤ 7) (h2 : d ≤ e - c + 3) (h3 : f = b) (h4 : g = f + 3) (h5 : e ≤ g) (h6 : a = d + 1) : a ≤ 7 := by omega
theorem ok_1279 {a b c d e f g i j : Int} (h0 : b = c) (h1 : d ≤ 7) (h2 : d ≤ e) (h3 : e ≤ f - c + 3) (h4 : g = b) (h5 : i = g + 3) (h6 : f ≤ i) (h7 : j ≤ 1) (h8 : a = d + j) : a ≤ 7 := by omega
theorem ok_1280 {a b c d e : Int} (h0 : c ≤ d) (h1 : b = d + 1) (h2 : e ≤ 1) (h3 : a = c + e) : a ≤ b := by omega
theorem ok_1281 {a b c d e : Int} (h0 : d ≤ e - c + 3) (h1 : a = d + 1) (h2 : b = e + 1) : a ≤ b - c + 3 := by omega
theorem ok_1282 {a b c : Int} (h0 : a - 3 ≤ c) (h1 : b = c + 1) : a - 3 ≤ b := by omega
theorem ok_1283 {a b c d e f : Int} (h0 : c = b) (h1 : d ≤ b + 4) (h2 : e = c) (h3 : f = e + 3) (h4 : d ≤ f) (h5 : a = d + 1) : a ≤ b + 4 := by omega
theorem ok_1284 {a b c d : Int} (h0 : 0 ≤ d) (h1 : c = d + 1) : (a ≤ b) ∨ (1 ≤ c) := by omega
theorem ok_1285 {a b c d : Int} (h0 : a ≤ d - c + 3) (h1 : b = d + 1) : a ≤ b - c + 3 := by omega
theorem ok_1286 {a b : Int} (h0 : b ≤ 4) (h1 : a ≤ 4) (h2 : a < b) : a < ((4 : Nat) : Int) := by omega
theorem ok_1287 {a b c : Int} (h0 : b ≤ 4) (h1 : c ≤ 4) (h2 : c < b) (h3 : a = c + 1) : 0 ≤ 4 - a := by omega
theorem ok_1288 {a b c : Int} (h0 : b ≤ 4) (h1 : c ≤ 4) (h2 : c < b) (h3 : a = c + 1) : a ≤ 4 := by omega
theorem ok_1289 {a b : Int} (h0 : b ≤ 3) (h1 : a ≤ 3) (h2 : a < b) : a < ((3 : Nat) : Int) := by omega
theorem ok_1290 {a : Int} (h0 : a ≤ 3) : 400 * a ≤ 2147483647 := by omega
theorem ok_1291 {a b : Int} (h0 : b ≤ 3) (h1 : a = 400 * b) : 0 ≤ 1200 - a := by omega
theorem ok_1292 {a b : Int} (h0 : 0 ≤ b) (h1 : a = 400 * b) : 0 ≤ a := by omega
theorem ok_1293 {a b : Int} (h0 : b ≤ 3) (h1 : a = 400 * b) : a ≤ 1200 := by omega
theorem ok_1294 {a b c : Int} (h0 : c ≤ 3) (h1 : a = 400 * c) (h2 : b ≤ 400) : a + b ≤ 2147483647 := by omega
theorem ok_1295 {a b c d e f : Int} (h0 : b ≤ 3) (h1 : c < b) (h2 : a ≤ 1200) (h3 : d = 400 * c) (h4 : e ≤ 400) (h5 : f = d + e) (h6 : a < f) : a < ((1200 : Nat) : Int) := by omega
theorem ok_1296 {a : Int} (h0 : a ≤ 1200) : a + 1 ≤ 2147483647 := by omega
theorem ok_1297 {a b c d e f g : Int} (h0 : b ≤ 3) (h1 : c < b) (h2 : d ≤ 1200) (h3 : e = 400 * c) (h4 : f ≤ 400) (h5 : g = e + f) (h6 : d < g) (h7 : a = d + 1) : 0 ≤ 1200 - a := by omega
theorem ok_1298 {a b c d e f g : Int} (h0 : b ≤ 3) (h1 : c < b) (h2 : d ≤ 1200) (h3 : e = 400 * c) (h4 : f ≤ 400) (h5 : g = e + f) (h6 : d < g) (h7 : a = d + 1) : a ≤ 1200 := by omega
theorem ok_1299 {a b : Int} (h0 : b ≤ 6) (h1 : a ≤ 6) (h2 : a < b) : a < ((6 : Nat) : Int) := by omega
theorem ok_1300 {a : Int} (h0 : a ≤ 6) : 320 * a ≤ 2147483647 := by omega
theorem ok_1301 {a b : Int} (h0 : b ≤ 6) (h1 : a = 320 * b) : 0 ≤ 1920 - a := by omega
theorem ok_1302 {a b : Int} (h0 : b ≤ 6) (h1 : a = 320 * b) : a ≤ 1920 := by omega
theorem ok_1303 {a b c : Int} (h0 : 0 ≤ c) (h1 : a = 320 * b) : a ≤ 320 * b + c := by omega
theorem ok_1304 {a b c : Int} (h0 : 0 ≤ b) (h1 : b ≤ 320 * a + c) (h2 : c ≤ 320) : (-2147483648) ≤ 320 * a := by omega
theorem ok_1305 {a b c d e f : Int} (h0 : 0 ≤ c) (h1 : c ≤ 320 * d + e) (h2 : e = f) (h3 : a = 320 * d) (h4 : b = f) : (-2147483648) ≤ a + b := by omega
theorem ok_1306 {a b c d e f : Int} (h0 : b ≤ 6) (h1 : c < b) (h2 : a ≤ 1920) (h3 : d = 320 * c) (h4 : e ≤ 320) (h5 : f = d + e) (h6 : a < f) : a < ((1920 : Nat) : Int) := by omega
theorem ok_1307 {a b c d e f g : Int} (h0 : b ≤ 6) (h1 : c < b) (h2 : d ≤ 1920) (h3 : e = 320 * c) (h4 : f ≤ 320) (h5 : g = e + f) (h6 : d < g) (h7 : a = d + 1) : 0 ≤ 1920 - a := by omega
theorem ok_1308 {a b c d e f g : Int} (h0 : b ≤ 6) (h1 : c < b) (h2 : d ≤ 1920) (h3 : e = 320 * c) (h4 : f ≤ 320) (h5 : g = e + f) (h6 : d < g) (h7 : a = d + 1) : a ≤ 1920 := by omega
theorem ok_1309 {a b c d e f g i j : Int} (h0 : d ≤ 320 * b + e) (h1 : e = f) (h2 : g = 320 * b) (h3 : i = f) (h4 : j = g + i) (h5 : d < j) (h6 : a = d + 1) (h7 : c = e) : a ≤ 320 * b + c := by omega
theorem ok_1310 {a b : Int} (h0 : b ≤ 320) (h1 : a = b) : a ≤ 320 := by omega
