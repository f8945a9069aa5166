theorem bd_0_11 {G : GS} (h : Bd G) : 0 ≤ (G.1 0 11).toInt ∧ (G.1 0 11).toInt ≤ 1600 := h.i 0 11 rfl rfl
theorem bd_0_12 {G : GS} (h : Bd G) : 0 ≤ (G.1 0 12).toInt ∧ (G.1 0 12).toInt ≤ 400 := h.i 0 12 rfl rfl
theorem bd_1_9 {G : GS} (h : Bd G) : 0 ≤ (G.1 1 9).toInt ∧ (G.1 1 9).toInt ≤ 3 := h.i 1 9 rfl rfl
theorem bd_1_10 {G : GS} (h : Bd G) : 0 ≤ (G.1 1 10).toInt ∧ (G.1 1 10).toInt ≤ 4 := h.i 1 10 rfl rfl
theorem bd_1_11 {G : GS} (h : Bd G) : 0 ≤ (G.1 1 11).toInt ∧ (G.1 1 11).toInt ≤ 6 := h.i 1 11 rfl rfl
theorem bd_1_12 {G : GS} (h : Bd G) : 0 ≤ (G.1 1 12).toInt ∧ (G.1 1 12).toInt ≤ 90 := h.i 1 12 rfl rfl
theorem bd_1_13 {G : GS} (h : Bd G) : 0 ≤ (G.1 1 13).toInt ∧ (G.1 1 13).toInt ≤ 580 := h.i 1 13 rfl rfl
theorem bd_1_14 {G : GS} (h : Bd G) : 0 ≤ (G.1 1 14).toInt ∧ (G.1 1 14).toInt ≤ 99 := h.i 1 14 rfl rfl
theorem bd_1_15 {G : GS} (h : Bd G) : 0 ≤ (G.1 1 15).toInt ∧ (G.1 1 15).toInt ≤ 99 := h.i 1 15 rfl rfl
theorem bd_1_16 {G : GS} (h : Bd G) : 0 ≤ (G.1 1 16).toInt ∧ (G.1 1 16).toInt ≤ 999 := h.i 1 16 rfl rfl
theorem bd_2_9 {G : GS} (h : Bd G) : 0 ≤ (G.1 2 9).toInt ∧ (G.1 2 9).toInt ≤ 3 := h.i 2 9 rfl rfl
theorem bd_2_10 {G : GS} (h : Bd G) : 0 ≤ (G.1 2 10).toInt ∧ (G.1 2 10).toInt ≤ 4 := h.i 2 10 rfl rfl
theorem bd_2_11 {G : GS} (h : Bd G) : 0 ≤ (G.1 2 11).toInt ∧ (G.1 2 11).toInt ≤ 6 := h.i 2 11 rfl rfl
theorem bd_2_12 {G : GS} (h : Bd G) : 0 ≤ (G.1 2 12).toInt ∧ (G.1 2 12).toInt ≤ 90 := h.i 2 12 rfl rfl
theorem bd_2_13 {G : GS} (h : Bd G) : 0 ≤ (G.1 2 13).toInt ∧ (G.1 2 13).toInt ≤ 580 := h.i 2 13 rfl rfl
theorem bd_2_14 {G : GS} (h : Bd G) : 0 ≤ (G.1 2 14).toInt ∧ (G.1 2 14).toInt ≤ 99 := h.i 2 14 rfl rfl
theorem bd_2_15 {G : GS} (h : Bd G) : 0 ≤ (G.1 2 15).toInt ∧ (G.1 2 15).toInt ≤ 99 := h.i 2 15 rfl rfl
theorem bd_2_16 {G : GS} (h : Bd G) : 0 ≤ (G.1 2 16).toInt ∧ (G.1 2 16).toInt ≤ 999 := h.i 2 16 rfl rfl
theorem bd_3_1 {G : GS} (h : Bd G) : 0 ≤ (G.1 3 1).toInt ∧ (G.1 3 1).toInt ≤ 1600 := h.i 3 1 rfl rfl
theorem bd_3_2 {G : GS} (h : Bd G) : 0 ≤ (G.1 3 2).toInt ∧ (G.1 3 2).toInt ≤ 1600 := h.i 3 2 rfl rfl
theorem bd_3_4 {G : GS} (h : Bd G) : 0 ≤ (G.1 3 4).toInt ∧ (G.1 3 4).toInt ≤ 1600 := h.i 3 4 rfl rfl
theorem bd_3_7 {G : GS} (h : Bd G) : 0 ≤ (G.1 3 7).toInt ∧ (G.1 3 7).toInt ≤ 4 := h.i 3 7 rfl rfl
theorem bd_3_8 {G : GS} (h : Bd G) : (-1) ≤ (G.1 3 8).toInt ∧ (G.1 3 8).toInt ≤ 1600 := h.i 3 8 rfl rfl
theorem bd_4_2 {G : GS} (h : Bd G) : 0 ≤ (G.1 4 2).toInt ∧ (G.1 4 2).toInt ≤ 30 := h.i 4 2 rfl rfl
theorem bd_5_6 {G : GS} (h : Bd G) : 0 ≤ (G.1 5 6).toInt ∧ (G.1 5 6).toInt ≤ 1 := h.i 5 6 rfl rfl
theorem bd_5_7 {G : GS} (h : Bd G) : 0 ≤ (G.1 5 7).toInt ∧ (G.1 5 7).toInt ≤ 1 := h.i 5 7 rfl rfl
theorem bd_5_8 {G : GS} (h : Bd G) : 0 ≤ (G.1 5 8).toInt ∧ (G.1 5 8).toInt ≤ 1 := h.i 5 8 rfl rfl
theorem bd_6_3 {G : GS} (h : Bd G) : 0 ≤ (G.1 6 3).toInt ∧ (G.1 6 3).toInt ≤ 100 := h.i 6 3 rfl rfl
theorem bd_7_1 {G : GS} (h : Bd G) : 0 ≤ (G.1 7 1).toInt ∧ (G.1 7 1).toInt ≤ 400 := h.i 7 1 rfl rfl
theorem bd_7_2 {G : GS} (h : Bd G) : 0 ≤ (G.1 7 2).toInt ∧ (G.1 7 2).toInt ≤ 12 := h.i 7 2 rfl rfl
theorem bd_7_3 {G : GS} (h : Bd G) : 0 ≤ (G.1 7 3).toInt ∧ (G.1 7 3).toInt ≤ 60 := h.i 7 3 rfl rfl
theorem bd_7_4 {G : GS} (h : Bd G) : 0 ≤ (G.1 7 4).toInt ∧ (G.1 7 4).toInt ≤ 60 := h.i 7 4 rfl rfl
theorem bd_7_5 {G : GS} (h : Bd G) : 0 ≤ (G.1 7 5).toInt ∧ (G.1 7 5).toInt ≤ 99 := h.i 7 5 rfl rfl
theorem bd_7_6 {G : GS} (h : Bd G) : (-1) ≤ (G.1 7 6).toInt ∧ (G.1 7 6).toInt ≤ 400 := h.i 7 6 rfl rfl
theorem bd_7_7 {G : GS} (h : Bd G) : 0 ≤ (G.1 7 7).toInt ∧ (G.1 7 7).toInt ≤ 400 := h.i 7 7 rfl rfl
theorem bd_9_2 {G : GS} (h : Bd G) : 0 ≤ (G.1 9 2).toInt ∧ (G.1 9 2).toInt ≤ 400 := h.i 9 2 rfl rfl
theorem bd_9_3 {G : GS} (h : Bd G) : 0 ≤ (G.1 9 3).toInt ∧ (G.1 9 3).toInt ≤ 400 := h.i 9 3 rfl rfl
theorem bd_19_2 {G : GS} (h : Bd G) : 0 ≤ (G.1 19 2).toInt ∧ (G.1 19 2).toInt ≤ 400 := h.i 19 2 rfl rfl
theorem bd_19_3 {G : GS} (h : Bd G) : 0 ≤ (G.1 19 3).toInt ∧ (G.1 19 3).toInt ≤ 400 := h.i 19 3 rfl rfl
theorem bd_30_4 {G : GS} (h : Bd G) : 0 ≤ (G.1 30 4).toInt ∧ (G.1 30 4).toInt ≤ 40 := h.i 30 4 rfl rfl
theorem bd_30_5 {G : GS} (h : Bd G) : 0 ≤ (G.1 30 5).toInt ∧ (G.1 30 5).toInt ≤ 40 := h.i 30 5 rfl rfl
theorem bd_31_5 {G : GS} (h : Bd G) : 0 ≤ (G.1 31 5).toInt ∧ (G.1 31 5).toInt ≤ 20 := h.i 31 5 rfl rfl
theorem bd_31_6 {G : GS} (h : Bd G) : 0 ≤ (G.1 31 6).toInt ∧ (G.1 31 6).toInt ≤ 100000 := h.i 31 6 rfl rfl
theorem bd_66_1 {G : GS} (h : Bd G) : 0 ≤ (G.1 66 1).toInt ∧ (G.1 66 1).toInt ≤ 1600 := h.i 66 1 rfl rfl
theorem bd_66_2 {G : GS} (h : Bd G) : 0 ≤ (G.1 66 2).toInt ∧ (G.1 66 2).toInt ≤ 4 := h.i 66 2 rfl rfl
theorem bd_66_3 {G : GS} (h : Bd G) : (-1) ≤ (G.1 66 3).toInt ∧ (G.1 66 3).toInt ≤ 1600 := h.i 66 3 rfl rfl
theorem bd_66_4 {G : GS} (h : Bd G) : 0 ≤ (G.1 66 4).toInt ∧ (G.1 66 4).toInt ≤ 1600 := h.i 66 4 rfl rfl
theorem bd_66_5 {G : GS} (h : Bd G) : 0 ≤ (G.1 66 5).toInt ∧ (G.1 66 5).toInt ≤ 1600 := h.i 66 5 rfl rfl
theorem bd_66_7 {G : GS} (h : Bd G) : 0 ≤ (G.1 66 7).toInt ∧ (G.1 66 7).toInt ≤ 1600 := h.i 66 7 rfl rfl
theorem bd_66_19 {G : GS} (h : Bd G) : 0 ≤ (G.1 66 19).toInt ∧ (G.1 66 19).toInt ≤ 5 := h.i 66 19 rfl rfl
theorem bd_66_20 {G : GS} (h : Bd G) : 0 ≤ (G.1 66 20).toInt ∧ (G.1 66 20).toInt ≤ 160 := h.i 66 20 rfl rfl
theorem bd_66_23 {G : GS} (h : Bd G) : 0 ≤ (G.1 66 23).toInt ∧ (G.1 66 23).toInt ≤ 40 := h.i 66 23 rfl rfl
theorem bd_66_24 {G : GS} (h : Bd G) : (-1) ≤ (G.1 66 24).toInt ∧ (G.1 66 24).toInt ≤ 200 := h.i 66 24 rfl rfl
theorem bd_66_45 {G : GS} (h : Bd G) : 0 ≤ (G.1 66 45).toInt ∧ (G.1 66 45).toInt ≤ 3 := h.i 66 45 rfl rfl
theorem bd_66_46 {G : GS} (h : Bd G) : 0 ≤ (G.1 66 46).toInt ∧ (G.1 66 46).toInt ≤ 4 := h.i 66 46 rfl rfl
theorem bd_66_47 {G : GS} (h : Bd G) : 0 ≤ (G.1 66 47).toInt ∧ (G.1 66 47).toInt ≤ 6 := h.i 66 47 rfl rfl
theorem bd_66_52 {G : GS} (h : Bd G) : 0 ≤ (G.1 66 52).toInt ∧ (G.1 66 52).toInt ≤ 3 := h.i 66 52 rfl rfl
theorem bd_66_53 {G : GS} (h : Bd G) : 0 ≤ (G.1 66 53).toInt ∧ (G.1 66 53).toInt ≤ 4 := h.i 66 53 rfl rfl
theorem bd_66_54 {G : GS} (h : Bd G) : 0 ≤ (G.1 66 54).toInt ∧ (G.1 66 54).toInt ≤ 6 := h.i 66 54 rfl rfl
theorem bd_66_59 {G : GS} (h : Bd G) : 0 ≤ (G.1 66 59).toInt ∧ (G.1 66 59).toInt ≤ 400 := h.i 66 59 rfl rfl
theorem bd_66_60 {G : GS} (h : Bd G) : 0 ≤ (G.1 66 60).toInt ∧ (G.1 66 60).toInt ≤ 12 := h.i 66 60 rfl rfl
theorem bd_66_61 {G : GS} (h : Bd G) : 0 ≤ (G.1 66 61).toInt ∧ (G.1 66 61).toInt ≤ 60 := h.i 66 61 rfl rfl
theorem bd_66_62 {G : GS} (h : Bd G) : 0 ≤ (G.1 66 62).toInt ∧ (G.1 66 62).toInt ≤ 60 := h.i 66 62 rfl rfl
theorem bd_66_63 {G : GS} (h : Bd G) : 0 ≤ (G.1 66 63).toInt ∧ (G.1 66 63).toInt ≤ 99 := h.i 66 63 rfl rfl
theorem bd_66_66 {G : GS} (h : Bd G) : 0 ≤ (G.1 66 66).toInt ∧ (G.1 66 66).toInt ≤ 400 := h.i 66 66 rfl rfl
theorem bd_66_78 {G : GS} (h : Bd G) : 0 ≤ (G.1 66 78).toInt ∧ (G.1 66 78).toInt ≤ 40 := h.i 66 78 rfl rfl
theorem bd_66_79 {G : GS} (h : Bd G) : 0 ≤ (G.1 66 79).toInt ∧ (G.1 66 79).toInt ≤ 40 := h.i 66 79 rfl rfl
theorem bd_66_85 {G : GS} (h : Bd G) : 0 ≤ (G.1 66 85).toInt ∧ (G.1 66 85).toInt ≤ 20 := h.i 66 85 rfl rfl
theorem bd_66_86 {G : GS} (h : Bd G) : 0 ≤ (G.1 66 86).toInt ∧ (G.1 66 86).toInt ≤ 100000 := h.i 66 86 rfl rfl
theorem bd_96_0 {G : GS} (h : Bd G) : 0 ≤ (G.1 96 0).toInt ∧ (G.1 96 0).toInt ≤ 9 := h.i 96 0 rfl rfl
theorem bd_96_1 {G : GS} (h : Bd G) : 0 ≤ (G.1 96 1).toInt ∧ (G.1 96 1).toInt ≤ 9 := h.i 96 1 rfl rfl
theorem bd_96_2 {G : GS} (h : Bd G) : 0 ≤ (G.1 96 2).toInt ∧ (G.1 96 2).toInt ≤ 9 := h.i 96 2 rfl rfl
theorem bd_98_400 {G : GS} (h : Bd G) : 0 ≤ (G.1 98 400).toInt ∧ (G.1 98 400).toInt ≤ 1 := h.i 98 400 rfl rfl
theorem bv_10 {G : GS} (h : Bd G) {j : Nat} {v : Int32} (e : v = G.1 10 j) : 0 ≤ v.toInt ∧ v.toInt ≤ 400 := h.v e rfl rfl
theorem bv_12 {G : GS} (h : Bd G) {j : Nat} {v : Int32} (e : v = G.1 12 j) : 0 ≤ v.toInt ∧ v.toInt ≤ 12 := h.v e rfl rfl
theorem bv_13 {G : GS} (h : Bd G) {j : Nat} {v : Int32} (e : v = G.1 13 j) : 0 ≤ v.toInt ∧ v.toInt ≤ 60 := h.v e rfl rfl
theorem bv_14 {G : GS} (h : Bd G) {j : Nat} {v : Int32} (e : v = G.1 14 j) : 0 ≤ v.toInt ∧ v.toInt ≤ 60 := h.v e rfl rfl
theorem bv_15 {G : GS} (h : Bd G) {j : Nat} {v : Int32} (e : v = G.1 15 j) : 0 ≤ v.toInt ∧ v.toInt ≤ 99 := h.v e rfl rfl
theorem bv_16 {G : GS} (h : Bd G) {j : Nat} {v : Int32} (e : v = G.1 16 j) : 0 ≤ v.toInt ∧ v.toInt ≤ 9 := h.v e rfl rfl
theorem bv_18 {G : GS} (h : Bd G) {j : Nat} {v : Int32} (e : v = G.1 18 j) : 0 ≤ v.toInt ∧ v.toInt ≤ 580 := h.v e rfl rfl
theorem bv_20 {G : GS} (h : Bd G) {j : Nat} {v : Int32} (e : v = G.1 20 j) : 0 ≤ v.toInt ∧ v.toInt ≤ 400 := h.v e rfl rfl
theorem bv_22 {G : GS} (h : Bd G) {j : Nat} {v : Int32} (e : v = G.1 22 j) : 0 ≤ v.toInt ∧ v.toInt ≤ 12 := h.v e rfl rfl
theorem bv_23 {G : GS} (h : Bd G) {j : Nat} {v : Int32} (e : v = G.1 23 j) : 0 ≤ v.toInt ∧ v.toInt ≤ 60 := h.v e rfl rfl
theorem bv_24 {G : GS} (h : Bd G) {j : Nat} {v : Int32} (e : v = G.1 24 j) : 0 ≤ v.toInt ∧ v.toInt ≤ 60 := h.v e rfl rfl
theorem bv_25 {G : GS} (h : Bd G) {j : Nat} {v : Int32} (e : v = G.1 25 j) : 0 ≤ v.toInt ∧ v.toInt ≤ 99 := h.v e rfl rfl
theorem bv_26 {G : GS} (h : Bd G) {j : Nat} {v : Int32} (e : v = G.1 26 j) : 0 ≤ v.toInt ∧ v.toInt ≤ 9 := h.v e rfl rfl
theorem bv_28 {G : GS} (h : Bd G) {j : Nat} {v : Int32} (e : v = G.1 28 j) : 0 ≤ v.toInt ∧ v.toInt ≤ 580 := h.v e rfl rfl
theorem bv_32 {G : GS} (h : Bd G) {j : Nat} {v : Int32} (e : v = G.1 32 j) : (-128) ≤ v.toInt ∧ v.toInt ≤ 127 := h.v e rfl rfl
theorem bv_40 {G : GS} (h : Bd G) {j : Nat} {v : Int32} (e : v = G.1 40 j) : 0 ≤ v.toInt ∧ v.toInt ≤ 1 := h.v e rfl rfl
theorem bv_47 {G : GS} (h : Bd G) {j : Nat} {v : Int32} (e : v = G.1 47 j) : 0 ≤ v.toInt ∧ v.toInt ≤ 1 := h.v e rfl rfl
theorem bv_67 {G : GS} (h : Bd G) {j : Nat} {v : Int32} (e : v = G.1 67 j) : 0 ≤ v.toInt ∧ v.toInt ≤ 255 := h.v e rfl rfl
theorem bv_71 {G : GS} (h : Bd G) {j : Nat} {v : Int32} (e : v = G.1 71 j) : 0 ≤ v.toInt ∧ v.toInt ≤ 320 := h.v e rfl rfl
theorem bv_74 {G : GS} (h : Bd G) {j : Nat} {v : Int32} (e : v = G.1 74 j) : 0 ≤ v.toInt ∧ v.toInt ≤ 320 := h.v e rfl rfl
theorem bv_81 {G : GS} (h : Bd G) {j : Nat} {v : Int32} (e : v = G.1 81 j) : 0 ≤ v.toInt ∧ v.toInt ≤ 400 := h.v e rfl rfl
theorem bv_91 {G : GS} (h : Bd G) {j : Nat} {v : Int32} (e : v = G.1 91 j) : 0 ≤ v.toInt ∧ v.toInt ≤ 400 := h.v e rfl rfl
theorem bv_92 {G : GS} (h : Bd G) {j : Nat} {v : Int32} (e : v = G.1 92 j) : 0 ≤ v.toInt ∧ v.toInt ≤ 12 := h.v e rfl rfl
theorem bv_93 {G : GS} (h : Bd G) {j : Nat} {v : Int32} (e : v = G.1 93 j) : 0 ≤ v.toInt ∧ v.toInt ≤ 60 := h.v e rfl rfl
theorem bv_94 {G : GS} (h : Bd G) {j : Nat} {v : Int32} (e : v = G.1 94 j) : 0 ≤ v.toInt ∧ v.toInt ≤ 60 := h.v e rfl rfl
theorem bv_95 {G : GS} (h : Bd G) {j : Nat} {v : Int32} (e : v = G.1 95 j) : 0 ≤ v.toInt ∧ v.toInt ≤ 99 := h.v e rfl rfl
theorem bv_96 {G : GS} (h : Bd G) {j : Nat} {v : Int32} (e : v = G.1 96 j) : 0 ≤ v.toInt ∧ v.toInt ≤ 9 := h.v e rfl rfl
theorem bv_97 {G : GS} (h : Bd G) {j : Nat} {v : Int32} (e : v = G.1 97 j) : 0 ≤ v.toInt ∧ v.toInt ≤ 1 := h.v e rfl rfl
theorem bv_99 {G : GS} (h : Bd G) {j : Nat} {v : Int32} (e : v = G.1 99 j) : 0 ≤ v.toInt ∧ v.toInt ≤ 100000 := h.v e rfl rfl
theorem bv_103 {G : GS} (h : Bd G) {j : Nat} {v : Int32} (e : v = G.1 103 j) : 0 ≤ v.toInt ∧ v.toInt ≤ 1 := h.v e rfl rfl
theorem bv_107 {G : GS} (h : Bd G) {j : Nat} {v : Int32} (e : v = G.1 107 j) : 0 ≤ v.toInt ∧ v.toInt ≤ 1 := h.v e rfl rfl
theorem bv_108 {G : GS} (h : Bd G) {j : Nat} {v : Int32} (e : v = G.1 108 j) : 0 ≤ v.toInt ∧ v.toInt ≤ 1 := h.v e rfl rfl
theorem bv_112 {G : GS} (h : Bd G) {j : Nat} {v : Int32} (e : v = G.1 112 j) : 0 ≤ v.toInt ∧ v.toInt ≤ 3 := h.v e rfl rfl
theorem bv_113 {G : GS} (h : Bd G) {j : Nat} {v : Int32} (e : v = G.1 113 j) : 0 ≤ v.toInt ∧ v.toInt ≤ 2 := h.v e rfl rfl
theorem bv_114 {G : GS} (h : Bd G) {j : Nat} {v : Int32} (e : v = G.1 114 j) : 0 ≤ v.toInt ∧ v.toInt ≤ 399 := h.v e rfl rfl
theorem bv_117 {G : GS} (h : Bd G) {j : Nat} {v : Int32} (e : v = G.1 117 j) : 0 ≤ v.toInt ∧ v.toInt ≤ 1 := h.v e rfl rfl
