theorem m903 : Cond.methodLink RL 41 yX11_line ∈ gd := gdc_4_4 3 rfl gw_methodLink
theorem m904 : Cond.instanceMethod yX11_line ∈ gd := gdc_4_4 4 rfl gw_instanceMethod
theorem m905 : Cond.selects RX11 yX11_line yX11_line ∈ gd := gdc_4_4 5 rfl gw_selects
theorem m906 : Cond.code yX11_line cX11_line 4 (some .int) ∈ gd := gdc_4_4 6 rfl gw_code
theorem m945 : Cond.methodLink RL 45 yX11_gap ∈ gd := gdc_4_6 13 rfl gw_methodLink
theorem m946 : Cond.instanceMethod yX11_gap ∈ gd := gdc_4_6 14 rfl gw_instanceMethod
theorem m947 : Cond.selects RX11 yX11_gap yX11_gap ∈ gd := gdc_4_6 15 rfl gw_selects
theorem m948 : Cond.code yX11_gap cX11_gap 10 (some .int) ∈ gd := gdc_4_7 0 rfl gw_code
theorem m949 : Cond.methodLink RL 49 yX11_foot ∈ gd := gdc_4_7 1 rfl gw_methodLink
theorem m950 : Cond.instanceMethod yX11_foot ∈ gd := gdc_4_7 2 rfl gw_instanceMethod
theorem m951 : Cond.selects RX11 yX11_foot yX11_foot ∈ gd := gdc_4_7 3 rfl gw_selects
theorem m952 : Cond.code yX11_foot cX11_foot 5 (some .int) ∈ gd := gdc_4_7 4 rfl gw_code
theorem m971 : Cond.methodLink RL 54 yX11_fewest ∈ gd := gdc_4_8 7 rfl gw_methodLink
theorem m972 : Cond.instanceMethod yX11_fewest ∈ gd := gdc_4_8 8 rfl gw_instanceMethod
theorem m973 : Cond.selects RX11 yX11_fewest yX11_fewest ∈ gd := gdc_4_8 9 rfl gw_selects
theorem m974 : Cond.code yX11_fewest cX11_fewest 6 (some .int) ∈ gd := gdc_4_8 10 rfl gw_code
theorem m1014 : Cond.methodLink RL 58 yX11_ways ∈ gd := gdc_4_11 2 rfl gw_methodLink
theorem m1015 : Cond.instanceMethod yX11_ways ∈ gd := gdc_4_11 3 rfl gw_instanceMethod
theorem m1016 : Cond.selects RX11 yX11_ways yX11_ways ∈ gd := gdc_4_11 4 rfl gw_selects
theorem m1017 : Cond.code yX11_ways cX11_ways 5 (some .long) ∈ gd := gdc_4_11 5 rfl gw_code
theorem m1036 : Cond.methodLink RL 63 yX11_evenest ∈ gd := gdc_4_12 8 rfl gw_methodLink
theorem m1037 : Cond.instanceMethod yX11_evenest ∈ gd := gdc_4_12 9 rfl gw_instanceMethod
theorem m1038 : Cond.selects RX11 yX11_evenest yX11_evenest ∈ gd := gdc_4_12 10 rfl gw_selects
theorem m1039 : Cond.code yX11_evenest cX11_evenest 5 (some .int) ∈ gd := gdc_4_12 11 rfl gw_code
theorem m1049 : Cond.methodLink RL 67 yX11_even ∈ gd := gdc_4_13 5 rfl gw_methodLink
theorem m1050 : Cond.instanceMethod yX11_even ∈ gd := gdc_4_13 6 rfl gw_instanceMethod
theorem m1051 : Cond.selects RX11 yX11_even yX11_even ∈ gd := gdc_4_13 7 rfl gw_selects
theorem m1052 : Cond.code yX11_even cX11_even 8 (some .int) ∈ gd := gdc_4_13 8 rfl gw_code
theorem m1053 : Cond.methodLink RL 71 yX11_evens ∈ gd := gdc_4_13 9 rfl gw_methodLink
theorem m1054 : Cond.instanceMethod yX11_evens ∈ gd := gdc_4_13 10 rfl gw_instanceMethod
theorem m1055 : Cond.selects RX11 yX11_evens yX11_evens ∈ gd := gdc_4_13 11 rfl gw_selects
theorem m1056 : Cond.code yX11_evens cX11_evens 5 (some .int) ∈ gd := gdc_4_13 12 rfl gw_code
theorem m1065 : Cond.methodLink RL 75 yX11_first ∈ gd := gdc_4_14 5 rfl gw_methodLink
theorem m1066 : Cond.instanceMethod yX11_first ∈ gd := gdc_4_14 6 rfl gw_instanceMethod
theorem m1067 : Cond.selects RX11 yX11_first yX11_first ∈ gd := gdc_4_14 7 rfl gw_selects
theorem m1068 : Cond.code yX11_first cX11_first 9 (some .int) ∈ gd := gdc_4_14 8 rfl gw_code
theorem m1795 : Cond.methodLink RL 44 yX12_line ∈ gd := gdc_7_14 15 rfl gw_methodLink
theorem m1796 : Cond.instanceMethod yX12_line ∈ gd := gdc_8_0 0 rfl gw_instanceMethod
theorem m1797 : Cond.selects RX12 yX12_line yX12_line ∈ gd := gdc_8_0 1 rfl gw_selects
theorem m1798 : Cond.code yX12_line cX12_line 4 (some .int) ∈ gd := gdc_8_0 2 rfl gw_code
theorem m1818 : Cond.methodLink RL 48 yX12_gap ∈ gd := gdc_8_1 6 rfl gw_methodLink
theorem m1819 : Cond.instanceMethod yX12_gap ∈ gd := gdc_8_1 7 rfl gw_instanceMethod
theorem m1820 : Cond.selects RX12 yX12_gap yX12_gap ∈ gd := gdc_8_1 8 rfl gw_selects
theorem m1821 : Cond.code yX12_gap cX12_gap 10 (some .int) ∈ gd := gdc_8_1 9 rfl gw_code
theorem m1822 : Cond.methodLink RL 53 yX12_foot ∈ gd := gdc_8_1 10 rfl gw_methodLink
theorem m1823 : Cond.instanceMethod yX12_foot ∈ gd := gdc_8_1 11 rfl gw_instanceMethod
theorem m1824 : Cond.selects RX12 yX12_foot yX12_foot ∈ gd := gdc_8_1 12 rfl gw_selects
theorem m1825 : Cond.code yX12_foot cX12_foot 5 (some .int) ∈ gd := gdc_8_1 13 rfl gw_code
theorem m1842 : Cond.methodLink RL 57 yX12_fewest ∈ gd := gdc_8_2 14 rfl gw_methodLink
theorem m1843 : Cond.instanceMethod yX12_fewest ∈ gd := gdc_8_2 15 rfl gw_instanceMethod
theorem m1844 : Cond.selects RX12 yX12_fewest yX12_fewest ∈ gd := gdc_8_3 0 rfl gw_selects
theorem m1845 : Cond.code yX12_fewest cX12_fewest 11 (some .int) ∈ gd := gdc_8_3 1 rfl gw_code
theorem m1870 : Cond.methodLink RL 62 yX12_ways ∈ gd := gdc_8_4 10 rfl gw_methodLink
theorem m1871 : Cond.instanceMethod yX12_ways ∈ gd := gdc_8_4 11 rfl gw_instanceMethod
theorem m1872 : Cond.selects RX12 yX12_ways yX12_ways ∈ gd := gdc_8_4 12 rfl gw_selects
theorem m1873 : Cond.code yX12_ways cX12_ways 8 (some .long) ∈ gd := gdc_8_4 13 rfl gw_code
theorem m1883 : Cond.methodLink RL 66 yX12_evenest ∈ gd := gdc_8_5 7 rfl gw_methodLink
theorem m1884 : Cond.instanceMethod yX12_evenest ∈ gd := gdc_8_5 8 rfl gw_instanceMethod
theorem m1885 : Cond.selects RX12 yX12_evenest yX12_evenest ∈ gd := gdc_8_5 9 rfl gw_selects
theorem m1886 : Cond.code yX12_evenest cX12_evenest 7 (some .int) ∈ gd := gdc_8_5 10 rfl gw_code
theorem m1891 : Cond.methodLink RL 70 yX12_even ∈ gd := gdc_8_5 15 rfl gw_methodLink
theorem m1892 : Cond.instanceMethod yX12_even ∈ gd := gdc_8_6 0 rfl gw_instanceMethod
theorem m1893 : Cond.selects RX12 yX12_even yX12_even ∈ gd := gdc_8_6 1 rfl gw_selects
theorem m1894 : Cond.code yX12_even cX12_even 8 (some .int) ∈ gd := gdc_8_6 2 rfl gw_code
theorem m1895 : Cond.methodLink RL 74 yX12_evens ∈ gd := gdc_8_6 3 rfl gw_methodLink
theorem m1896 : Cond.instanceMethod yX12_evens ∈ gd := gdc_8_6 4 rfl gw_instanceMethod
theorem m1897 : Cond.selects RX12 yX12_evens yX12_evens ∈ gd := gdc_8_6 5 rfl gw_selects
theorem m1898 : Cond.code yX12_evens cX12_evens 7 (some .int) ∈ gd := gdc_8_6 6 rfl gw_code
theorem m1903 : Cond.methodLink RL 78 yX12_first ∈ gd := gdc_8_6 11 rfl gw_methodLink
theorem m1904 : Cond.instanceMethod yX12_first ∈ gd := gdc_8_6 12 rfl gw_instanceMethod
theorem m1905 : Cond.selects RX12 yX12_first yX12_first ∈ gd := gdc_8_6 13 rfl gw_selects
theorem m1906 : Cond.code yX12_first cX12_first 6 (some .int) ∈ gd := gdc_8_6 14 rfl gw_code
def rbL_law_392 : List (Nat × List Nat) := [(392, [43]), (393, [42]), (394, [29]), (395, [4]), (396, [96]), (397, [46]), (398, [42]), (399, [29]), (400, [5]), (401, [96]), (402, [46]), (403, [42]), (404, [29]), (405, [6]), (406, [96]), (407, [46]), (408, [182, 0, 41]), (411, [44]), (412, [42]), (413, [29]), (414, [4]), (415, [96]), (416, [46]), (417, [42])]
theorem rcL_law_392 : dgo (lb cL_law) 0 rbL_law_392 = true := by decide +kernel
theorem dL_law_392 : decode cL_law 392 = .ok (.aload_n 1, 1) := dk_43 (dw rcL_law_392 0 rfl)
theorem dL_law_393 : decode cL_law 393 = .ok (.aload_n 0, 1) := dk_42 (dw rcL_law_392 1 rfl)
theorem dL_law_394 : decode cL_law 394 = .ok (.iload_n 3, 1) := dk_29 (dw rcL_law_392 2 rfl)
theorem dL_law_395 : decode cL_law 395 = .ok (.iconst 1, 1) := dk_4 (dw rcL_law_392 3 rfl)
theorem dL_law_396 : decode cL_law 396 = .ok (.iadd, 1) := dk_96 (dw rcL_law_392 4 rfl)
theorem dL_law_397 : decode cL_law 397 = .ok (.iaload, 1) := dk_46 (dw rcL_law_392 5 rfl)
theorem dL_law_398 : decode cL_law 398 = .ok (.aload_n 0, 1) := dk_42 (dw rcL_law_392 6 rfl)
theorem dL_law_399 : decode cL_law 399 = .ok (.iload_n 3, 1) := dk_29 (dw rcL_law_392 7 rfl)
theorem dL_law_400 : decode cL_law 400 = .ok (.iconst 2, 1) := dk_5 (dw rcL_law_392 8 rfl)
theorem dL_law_401 : decode cL_law 401 = .ok (.iadd, 1) := dk_96 (dw rcL_law_392 9 rfl)
theorem dL_law_402 : decode cL_law 402 = .ok (.iaload, 1) := dk_46 (dw rcL_law_392 10 rfl)
theorem dL_law_403 : decode cL_law 403 = .ok (.aload_n 0, 1) := dk_42 (dw rcL_law_392 11 rfl)
theorem dL_law_404 : decode cL_law 404 = .ok (.iload_n 3, 1) := dk_29 (dw rcL_law_392 12 rfl)
theorem dL_law_405 : decode cL_law 405 = .ok (.iconst 3, 1) := dk_6 (dw rcL_law_392 13 rfl)
theorem dL_law_406 : decode cL_law 406 = .ok (.iadd, 1) := dk_96 (dw rcL_law_392 14 rfl)
theorem dL_law_407 : decode cL_law 407 = .ok (.iaload, 1) := dk_46 (dw rcL_law_392 15 rfl)
theorem dL_law_408 : decode cL_law 408 = .ok (.invokevirtual 41, 3) := dk_182 (dw rcL_law_392 16 rfl) rfl
theorem dL_law_411 : decode cL_law 411 = .ok (.aload_n 2, 1) := dk_44 (dw rcL_law_392 17 rfl)
theorem dL_law_412 : decode cL_law 412 = .ok (.aload_n 0, 1) := dk_42 (dw rcL_law_392 18 rfl)
theorem dL_law_413 : decode cL_law 413 = .ok (.iload_n 3, 1) := dk_29 (dw rcL_law_392 19 rfl)
theorem dL_law_414 : decode cL_law 414 = .ok (.iconst 1, 1) := dk_4 (dw rcL_law_392 20 rfl)
theorem dL_law_415 : decode cL_law 415 = .ok (.iadd, 1) := dk_96 (dw rcL_law_392 21 rfl)
theorem dL_law_416 : decode cL_law 416 = .ok (.iaload, 1) := dk_46 (dw rcL_law_392 22 rfl)
theorem dL_law_417 : decode cL_law 417 = .ok (.aload_n 0, 1) := dk_42 (dw rcL_law_392 23 rfl)
def rbL_law_418 : List (Nat × List Nat) := [(418, [29]), (419, [5]), (420, [96]), (421, [46]), (422, [42]), (423, [29]), (424, [6]), (425, [96]), (426, [46]), (427, [182, 0, 44]), (430, [159, 4, 187]), (435, [43]), (436, [42]), (437, [29]), (438, [4]), (439, [96]), (440, [46]), (441, [42]), (442, [29]), (443, [5]), (444, [96]), (445, [46]), (446, [42]), (447, [29])]
theorem rcL_law_418 : dgo (lb cL_law) 0 rbL_law_418 = true := by decide +kernel
theorem dL_law_418 : decode cL_law 418 = .ok (.iload_n 3, 1) := dk_29 (dw rcL_law_418 0 rfl)
theorem dL_law_419 : decode cL_law 419 = .ok (.iconst 2, 1) := dk_5 (dw rcL_law_418 1 rfl)
theorem dL_law_420 : decode cL_law 420 = .ok (.iadd, 1) := dk_96 (dw rcL_law_418 2 rfl)
theorem dL_law_421 : decode cL_law 421 = .ok (.iaload, 1) := dk_46 (dw rcL_law_418 3 rfl)
theorem dL_law_422 : decode cL_law 422 = .ok (.aload_n 0, 1) := dk_42 (dw rcL_law_418 4 rfl)
theorem dL_law_423 : decode cL_law 423 = .ok (.iload_n 3, 1) := dk_29 (dw rcL_law_418 5 rfl)
theorem dL_law_424 : decode cL_law 424 = .ok (.iconst 3, 1) := dk_6 (dw rcL_law_418 6 rfl)
theorem dL_law_425 : decode cL_law 425 = .ok (.iadd, 1) := dk_96 (dw rcL_law_418 7 rfl)
theorem dL_law_426 : decode cL_law 426 = .ok (.iaload, 1) := dk_46 (dw rcL_law_418 8 rfl)
theorem dL_law_427 : decode cL_law 427 = .ok (.invokevirtual 44, 3) := dk_182 (dw rcL_law_418 9 rfl) rfl
theorem dL_law_430 : decode cL_law 430 = .ok (.if_icmp .eq 1211, 3) := dk_159 (dw rcL_law_418 10 rfl) rfl
theorem dL_law_435 : decode cL_law 435 = .ok (.aload_n 1, 1) := dk_43 (dw rcL_law_418 11 rfl)
theorem dL_law_436 : decode cL_law 436 = .ok (.aload_n 0, 1) := dk_42 (dw rcL_law_418 12 rfl)
theorem dL_law_437 : decode cL_law 437 = .ok (.iload_n 3, 1) := dk_29 (dw rcL_law_418 13 rfl)
theorem dL_law_438 : decode cL_law 438 = .ok (.iconst 1, 1) := dk_4 (dw rcL_law_418 14 rfl)
theorem dL_law_439 : decode cL_law 439 = .ok (.iadd, 1) := dk_96 (dw rcL_law_418 15 rfl)
theorem dL_law_440 : decode cL_law 440 = .ok (.iaload, 1) := dk_46 (dw rcL_law_418 16 rfl)
theorem dL_law_441 : decode cL_law 441 = .ok (.aload_n 0, 1) := dk_42 (dw rcL_law_418 17 rfl)
theorem dL_law_442 : decode cL_law 442 = .ok (.iload_n 3, 1) := dk_29 (dw rcL_law_418 18 rfl)
theorem dL_law_443 : decode cL_law 443 = .ok (.iconst 2, 1) := dk_5 (dw rcL_law_418 19 rfl)
theorem dL_law_444 : decode cL_law 444 = .ok (.iadd, 1) := dk_96 (dw rcL_law_418 20 rfl)
theorem dL_law_445 : decode cL_law 445 = .ok (.iaload, 1) := dk_46 (dw rcL_law_418 21 rfl)
theorem dL_law_446 : decode cL_law 446 = .ok (.aload_n 0, 1) := dk_42 (dw rcL_law_418 22 rfl)
theorem dL_law_447 : decode cL_law 447 = .ok (.iload_n 3, 1) := dk_29 (dw rcL_law_418 23 rfl)
def rbL_law_448 : List (Nat × List Nat) := [(448, [6]), (449, [96]), (450, [46]), (451, [182, 0, 45]), (454, [87]), (455, [44]), (456, [42]), (457, [29]), (458, [4]), (459, [96]), (460, [46]), (461, [42]), (462, [29]), (463, [5]), (464, [96]), (465, [46]), (466, [42]), (467, [29]), (468, [6]), (469, [96]), (470, [46]), (471, [182, 0, 48]), (474, [87]), (475, [167, 4, 142])]
theorem rcL_law_448 : dgo (lb cL_law) 0 rbL_law_448 = true := by decide +kernel
theorem dL_law_448 : decode cL_law 448 = .ok (.iconst 3, 1) := dk_6 (dw rcL_law_448 0 rfl)
theorem dL_law_449 : decode cL_law 449 = .ok (.iadd, 1) := dk_96 (dw rcL_law_448 1 rfl)
theorem dL_law_450 : decode cL_law 450 = .ok (.iaload, 1) := dk_46 (dw rcL_law_448 2 rfl)
theorem dL_law_451 : decode cL_law 451 = .ok (.invokevirtual 45, 3) := dk_182 (dw rcL_law_448 3 rfl) rfl
theorem dL_law_454 : decode cL_law 454 = .ok (.pop, 1) := dk_87 (dw rcL_law_448 4 rfl)
theorem dL_law_455 : decode cL_law 455 = .ok (.aload_n 2, 1) := dk_44 (dw rcL_law_448 5 rfl)
theorem dL_law_456 : decode cL_law 456 = .ok (.aload_n 0, 1) := dk_42 (dw rcL_law_448 6 rfl)
theorem dL_law_457 : decode cL_law 457 = .ok (.iload_n 3, 1) := dk_29 (dw rcL_law_448 7 rfl)
theorem dL_law_458 : decode cL_law 458 = .ok (.iconst 1, 1) := dk_4 (dw rcL_law_448 8 rfl)
theorem dL_law_459 : decode cL_law 459 = .ok (.iadd, 1) := dk_96 (dw rcL_law_448 9 rfl)
theorem dL_law_460 : decode cL_law 460 = .ok (.iaload, 1) := dk_46 (dw rcL_law_448 10 rfl)
theorem dL_law_461 : decode cL_law 461 = .ok (.aload_n 0, 1) := dk_42 (dw rcL_law_448 11 rfl)
theorem dL_law_462 : decode cL_law 462 = .ok (.iload_n 3, 1) := dk_29 (dw rcL_law_448 12 rfl)
theorem dL_law_463 : decode cL_law 463 = .ok (.iconst 2, 1) := dk_5 (dw rcL_law_448 13 rfl)
theorem dL_law_464 : decode cL_law 464 = .ok (.iadd, 1) := dk_96 (dw rcL_law_448 14 rfl)
theorem dL_law_465 : decode cL_law 465 = .ok (.iaload, 1) := dk_46 (dw rcL_law_448 15 rfl)
theorem dL_law_466 : decode cL_law 466 = .ok (.aload_n 0, 1) := dk_42 (dw rcL_law_448 16 rfl)
theorem dL_law_467 : decode cL_law 467 = .ok (.iload_n 3, 1) := dk_29 (dw rcL_law_448 17 rfl)
theorem dL_law_468 : decode cL_law 468 = .ok (.iconst 3, 1) := dk_6 (dw rcL_law_448 18 rfl)
theorem dL_law_469 : decode cL_law 469 = .ok (.iadd, 1) := dk_96 (dw rcL_law_448 19 rfl)
theorem dL_law_470 : decode cL_law 470 = .ok (.iaload, 1) := dk_46 (dw rcL_law_448 20 rfl)
theorem dL_law_471 : decode cL_law 471 = .ok (.invokevirtual 48, 3) := dk_182 (dw rcL_law_448 21 rfl) rfl
theorem dL_law_474 : decode cL_law 474 = .ok (.pop, 1) := dk_87 (dw rcL_law_448 22 rfl)
theorem dL_law_475 : decode cL_law 475 = .ok (.goto 1166, 3) := dk_167 (dw rcL_law_448 23 rfl) rfl
def rbL_law_478 : List (Nat × List Nat) := [(478, [43]), (479, [42]), (480, [29]), (481, [4]), (482, [96]), (483, [46]), (484, [42]), (485, [29]), (486, [5]), (487, [96]), (488, [46]), (489, [42]), (490, [29]), (491, [6]), (492, [96]), (493, [46]), (494, [42]), (495, [29]), (496, [7]), (497, [96]), (498, [46]), (499, [182, 0, 49]), (502, [87]), (503, [44])]
theorem rcL_law_478 : dgo (lb cL_law) 0 rbL_law_478 = true := by decide +kernel
theorem dL_law_478 : decode cL_law 478 = .ok (.aload_n 1, 1) := dk_43 (dw rcL_law_478 0 rfl)
theorem dL_law_479 : decode cL_law 479 = .ok (.aload_n 0, 1) := dk_42 (dw rcL_law_478 1 rfl)
theorem dL_law_480 : decode cL_law 480 = .ok (.iload_n 3, 1) := dk_29 (dw rcL_law_478 2 rfl)
theorem dL_law_481 : decode cL_law 481 = .ok (.iconst 1, 1) := dk_4 (dw rcL_law_478 3 rfl)
theorem dL_law_482 : decode cL_law 482 = .ok (.iadd, 1) := dk_96 (dw rcL_law_478 4 rfl)
theorem dL_law_483 : decode cL_law 483 = .ok (.iaload, 1) := dk_46 (dw rcL_law_478 5 rfl)
theorem dL_law_484 : decode cL_law 484 = .ok (.aload_n 0, 1) := dk_42 (dw rcL_law_478 6 rfl)
theorem dL_law_485 : decode cL_law 485 = .ok (.iload_n 3, 1) := dk_29 (dw rcL_law_478 7 rfl)
theorem dL_law_486 : decode cL_law 486 = .ok (.iconst 2, 1) := dk_5 (dw rcL_law_478 8 rfl)
theorem dL_law_487 : decode cL_law 487 = .ok (.iadd, 1) := dk_96 (dw rcL_law_478 9 rfl)
theorem dL_law_488 : decode cL_law 488 = .ok (.iaload, 1) := dk_46 (dw rcL_law_478 10 rfl)
theorem dL_law_489 : decode cL_law 489 = .ok (.aload_n 0, 1) := dk_42 (dw rcL_law_478 11 rfl)
theorem dL_law_490 : decode cL_law 490 = .ok (.iload_n 3, 1) := dk_29 (dw rcL_law_478 12 rfl)
theorem dL_law_491 : decode cL_law 491 = .ok (.iconst 3, 1) := dk_6 (dw rcL_law_478 13 rfl)
theorem dL_law_492 : decode cL_law 492 = .ok (.iadd, 1) := dk_96 (dw rcL_law_478 14 rfl)
theorem dL_law_493 : decode cL_law 493 = .ok (.iaload, 1) := dk_46 (dw rcL_law_478 15 rfl)
theorem dL_law_494 : decode cL_law 494 = .ok (.aload_n 0, 1) := dk_42 (dw rcL_law_478 16 rfl)
theorem dL_law_495 : decode cL_law 495 = .ok (.iload_n 3, 1) := dk_29 (dw rcL_law_478 17 rfl)
theorem dL_law_496 : decode cL_law 496 = .ok (.iconst 4, 1) := dk_7 (dw rcL_law_478 18 rfl)
theorem dL_law_497 : decode cL_law 497 = .ok (.iadd, 1) := dk_96 (dw rcL_law_478 19 rfl)
theorem dL_law_498 : decode cL_law 498 = .ok (.iaload, 1) := dk_46 (dw rcL_law_478 20 rfl)
theorem dL_law_499 : decode cL_law 499 = .ok (.invokevirtual 49, 3) := dk_182 (dw rcL_law_478 21 rfl) rfl
theorem dL_law_502 : decode cL_law 502 = .ok (.pop, 1) := dk_87 (dw rcL_law_478 22 rfl)
theorem dL_law_503 : decode cL_law 503 = .ok (.aload_n 2, 1) := dk_44 (dw rcL_law_478 23 rfl)
def rbL_law_504 : List (Nat × List Nat) := [(504, [42]), (505, [29]), (506, [4]), (507, [96]), (508, [46]), (509, [42]), (510, [29]), (511, [5]), (512, [96]), (513, [46]), (514, [42]), (515, [29]), (516, [6]), (517, [96]), (518, [46]), (519, [42]), (520, [29]), (521, [7]), (522, [96]), (523, [46]), (524, [182, 0, 53]), (527, [87]), (528, [167, 4, 89]), (531, [43])]
theorem rcL_law_504 : dgo (lb cL_law) 0 rbL_law_504 = true := by decide +kernel
theorem dL_law_504 : decode cL_law 504 = .ok (.aload_n 0, 1) := dk_42 (dw rcL_law_504 0 rfl)
theorem dL_law_505 : decode cL_law 505 = .ok (.iload_n 3, 1) := dk_29 (dw rcL_law_504 1 rfl)
theorem dL_law_506 : decode cL_law 506 = .ok (.iconst 1, 1) := dk_4 (dw rcL_law_504 2 rfl)
theorem dL_law_507 : decode cL_law 507 = .ok (.iadd, 1) := dk_96 (dw rcL_law_504 3 rfl)
theorem dL_law_508 : decode cL_law 508 = .ok (.iaload, 1) := dk_46 (dw rcL_law_504 4 rfl)
theorem dL_law_509 : decode cL_law 509 = .ok (.aload_n 0, 1) := dk_42 (dw rcL_law_504 5 rfl)
theorem dL_law_510 : decode cL_law 510 = .ok (.iload_n 3, 1) := dk_29 (dw rcL_law_504 6 rfl)
theorem dL_law_511 : decode cL_law 511 = .ok (.iconst 2, 1) := dk_5 (dw rcL_law_504 7 rfl)
theorem dL_law_512 : decode cL_law 512 = .ok (.iadd, 1) := dk_96 (dw rcL_law_504 8 rfl)
theorem dL_law_513 : decode cL_law 513 = .ok (.iaload, 1) := dk_46 (dw rcL_law_504 9 rfl)
theorem dL_law_514 : decode cL_law 514 = .ok (.aload_n 0, 1) := dk_42 (dw rcL_law_504 10 rfl)
theorem dL_law_515 : decode cL_law 515 = .ok (.iload_n 3, 1) := dk_29 (dw rcL_law_504 11 rfl)
theorem dL_law_516 : decode cL_law 516 = .ok (.iconst 3, 1) := dk_6 (dw rcL_law_504 12 rfl)
theorem dL_law_517 : decode cL_law 517 = .ok (.iadd, 1) := dk_96 (dw rcL_law_504 13 rfl)
theorem dL_law_518 : decode cL_law 518 = .ok (.iaload, 1) := dk_46 (dw rcL_law_504 14 rfl)
theorem dL_law_519 : decode cL_law 519 = .ok (.aload_n 0, 1) := dk_42 (dw rcL_law_504 15 rfl)
theorem dL_law_520 : decode cL_law 520 = .ok (.iload_n 3, 1) := dk_29 (dw rcL_law_504 16 rfl)
theorem dL_law_521 : decode cL_law 521 = .ok (.iconst 4, 1) := dk_7 (dw rcL_law_504 17 rfl)
theorem dL_law_522 : decode cL_law 522 = .ok (.iadd, 1) := dk_96 (dw rcL_law_504 18 rfl)
theorem dL_law_523 : decode cL_law 523 = .ok (.iaload, 1) := dk_46 (dw rcL_law_504 19 rfl)
theorem dL_law_524 : decode cL_law 524 = .ok (.invokevirtual 53, 3) := dk_182 (dw rcL_law_504 20 rfl) rfl
theorem dL_law_527 : decode cL_law 527 = .ok (.pop, 1) := dk_87 (dw rcL_law_504 21 rfl)
theorem dL_law_528 : decode cL_law 528 = .ok (.goto 1113, 3) := dk_167 (dw rcL_law_504 22 rfl) rfl
theorem dL_law_531 : decode cL_law 531 = .ok (.aload_n 1, 1) := dk_43 (dw rcL_law_504 23 rfl)
def rbL_law_532 : List (Nat × List Nat) := [(532, [42]), (533, [29]), (534, [4]), (535, [96]), (536, [46]), (537, [42]), (538, [29]), (539, [5]), (540, [96]), (541, [46]), (542, [42]), (543, [29]), (544, [6]), (545, [96]), (546, [46]), (547, [42]), (548, [29]), (549, [7]), (550, [96]), (551, [46]), (552, [182, 0, 54]), (555, [87]), (556, [44]), (557, [42])]
theorem rcL_law_532 : dgo (lb cL_law) 0 rbL_law_532 = true := by decide +kernel
theorem dL_law_532 : decode cL_law 532 = .ok (.aload_n 0, 1) := dk_42 (dw rcL_law_532 0 rfl)
theorem dL_law_533 : decode cL_law 533 = .ok (.iload_n 3, 1) := dk_29 (dw rcL_law_532 1 rfl)
theorem dL_law_534 : decode cL_law 534 = .ok (.iconst 1, 1) := dk_4 (dw rcL_law_532 2 rfl)
theorem dL_law_535 : decode cL_law 535 = .ok (.iadd, 1) := dk_96 (dw rcL_law_532 3 rfl)
theorem dL_law_536 : decode cL_law 536 = .ok (.iaload, 1) := dk_46 (dw rcL_law_532 4 rfl)
theorem dL_law_537 : decode cL_law 537 = .ok (.aload_n 0, 1) := dk_42 (dw rcL_law_532 5 rfl)
theorem dL_law_538 : decode cL_law 538 = .ok (.iload_n 3, 1) := dk_29 (dw rcL_law_532 6 rfl)
theorem dL_law_539 : decode cL_law 539 = .ok (.iconst 2, 1) := dk_5 (dw rcL_law_532 7 rfl)
theorem dL_law_540 : decode cL_law 540 = .ok (.iadd, 1) := dk_96 (dw rcL_law_532 8 rfl)
theorem dL_law_541 : decode cL_law 541 = .ok (.iaload, 1) := dk_46 (dw rcL_law_532 9 rfl)
theorem dL_law_542 : decode cL_law 542 = .ok (.aload_n 0, 1) := dk_42 (dw rcL_law_532 10 rfl)
theorem dL_law_543 : decode cL_law 543 = .ok (.iload_n 3, 1) := dk_29 (dw rcL_law_532 11 rfl)
theorem dL_law_544 : decode cL_law 544 = .ok (.iconst 3, 1) := dk_6 (dw rcL_law_532 12 rfl)
theorem dL_law_545 : decode cL_law 545 = .ok (.iadd, 1) := dk_96 (dw rcL_law_532 13 rfl)
theorem dL_law_546 : decode cL_law 546 = .ok (.iaload, 1) := dk_46 (dw rcL_law_532 14 rfl)
theorem dL_law_547 : decode cL_law 547 = .ok (.aload_n 0, 1) := dk_42 (dw rcL_law_532 15 rfl)
theorem dL_law_548 : decode cL_law 548 = .ok (.iload_n 3, 1) := dk_29 (dw rcL_law_532 16 rfl)
theorem dL_law_549 : decode cL_law 549 = .ok (.iconst 4, 1) := dk_7 (dw rcL_law_532 17 rfl)
theorem dL_law_550 : decode cL_law 550 = .ok (.iadd, 1) := dk_96 (dw rcL_law_532 18 rfl)
theorem dL_law_551 : decode cL_law 551 = .ok (.iaload, 1) := dk_46 (dw rcL_law_532 19 rfl)
theorem dL_law_552 : decode cL_law 552 = .ok (.invokevirtual 54, 3) := dk_182 (dw rcL_law_532 20 rfl) rfl
theorem dL_law_555 : decode cL_law 555 = .ok (.pop, 1) := dk_87 (dw rcL_law_532 21 rfl)
theorem dL_law_556 : decode cL_law 556 = .ok (.aload_n 2, 1) := dk_44 (dw rcL_law_532 22 rfl)
theorem dL_law_557 : decode cL_law 557 = .ok (.aload_n 0, 1) := dk_42 (dw rcL_law_532 23 rfl)
def rbL_law_558 : List (Nat × List Nat) := [(558, [29]), (559, [4]), (560, [96]), (561, [46]), (562, [42]), (563, [29]), (564, [5]), (565, [96]), (566, [46]), (567, [42]), (568, [29]), (569, [6]), (570, [96]), (571, [46]), (572, [42]), (573, [29]), (574, [7]), (575, [96]), (576, [46]), (577, [182, 0, 57]), (580, [87]), (581, [167, 4, 36]), (584, [43]), (585, [42])]
theorem rcL_law_558 : dgo (lb cL_law) 0 rbL_law_558 = true := by decide +kernel
theorem dL_law_558 : decode cL_law 558 = .ok (.iload_n 3, 1) := dk_29 (dw rcL_law_558 0 rfl)
theorem dL_law_559 : decode cL_law 559 = .ok (.iconst 1, 1) := dk_4 (dw rcL_law_558 1 rfl)
theorem dL_law_560 : decode cL_law 560 = .ok (.iadd, 1) := dk_96 (dw rcL_law_558 2 rfl)
theorem dL_law_561 : decode cL_law 561 = .ok (.iaload, 1) := dk_46 (dw rcL_law_558 3 rfl)
theorem dL_law_562 : decode cL_law 562 = .ok (.aload_n 0, 1) := dk_42 (dw rcL_law_558 4 rfl)
theorem dL_law_563 : decode cL_law 563 = .ok (.iload_n 3, 1) := dk_29 (dw rcL_law_558 5 rfl)
theorem dL_law_564 : decode cL_law 564 = .ok (.iconst 2, 1) := dk_5 (dw rcL_law_558 6 rfl)
theorem dL_law_565 : decode cL_law 565 = .ok (.iadd, 1) := dk_96 (dw rcL_law_558 7 rfl)
theorem dL_law_566 : decode cL_law 566 = .ok (.iaload, 1) := dk_46 (dw rcL_law_558 8 rfl)
theorem dL_law_567 : decode cL_law 567 = .ok (.aload_n 0, 1) := dk_42 (dw rcL_law_558 9 rfl)
theorem dL_law_568 : decode cL_law 568 = .ok (.iload_n 3, 1) := dk_29 (dw rcL_law_558 10 rfl)
theorem dL_law_569 : decode cL_law 569 = .ok (.iconst 3, 1) := dk_6 (dw rcL_law_558 11 rfl)
theorem dL_law_570 : decode cL_law 570 = .ok (.iadd, 1) := dk_96 (dw rcL_law_558 12 rfl)
theorem dL_law_571 : decode cL_law 571 = .ok (.iaload, 1) := dk_46 (dw rcL_law_558 13 rfl)
theorem dL_law_572 : decode cL_law 572 = .ok (.aload_n 0, 1) := dk_42 (dw rcL_law_558 14 rfl)
theorem dL_law_573 : decode cL_law 573 = .ok (.iload_n 3, 1) := dk_29 (dw rcL_law_558 15 rfl)
theorem dL_law_574 : decode cL_law 574 = .ok (.iconst 4, 1) := dk_7 (dw rcL_law_558 16 rfl)
theorem dL_law_575 : decode cL_law 575 = .ok (.iadd, 1) := dk_96 (dw rcL_law_558 17 rfl)
theorem dL_law_576 : decode cL_law 576 = .ok (.iaload, 1) := dk_46 (dw rcL_law_558 18 rfl)
theorem dL_law_577 : decode cL_law 577 = .ok (.invokevirtual 57, 3) := dk_182 (dw rcL_law_558 19 rfl) rfl
theorem dL_law_580 : decode cL_law 580 = .ok (.pop, 1) := dk_87 (dw rcL_law_558 20 rfl)
theorem dL_law_581 : decode cL_law 581 = .ok (.goto 1060, 3) := dk_167 (dw rcL_law_558 21 rfl) rfl
theorem dL_law_584 : decode cL_law 584 = .ok (.aload_n 1, 1) := dk_43 (dw rcL_law_558 22 rfl)
theorem dL_law_585 : decode cL_law 585 = .ok (.aload_n 0, 1) := dk_42 (dw rcL_law_558 23 rfl)
def rbL_law_586 : List (Nat × List Nat) := [(586, [29]), (587, [4]), (588, [96]), (589, [46]), (590, [42]), (591, [29]), (592, [5]), (593, [96]), (594, [46]), (595, [42]), (596, [29]), (597, [6]), (598, [96]), (599, [46]), (600, [42]), (601, [29]), (602, [7]), (603, [96]), (604, [46]), (605, [182, 0, 58]), (608, [88]), (609, [44]), (610, [42]), (611, [29])]
theorem rcL_law_586 : dgo (lb cL_law) 0 rbL_law_586 = true := by decide +kernel
theorem dL_law_586 : decode cL_law 586 = .ok (.iload_n 3, 1) := dk_29 (dw rcL_law_586 0 rfl)
theorem dL_law_587 : decode cL_law 587 = .ok (.iconst 1, 1) := dk_4 (dw rcL_law_586 1 rfl)
theorem dL_law_588 : decode cL_law 588 = .ok (.iadd, 1) := dk_96 (dw rcL_law_586 2 rfl)
theorem dL_law_589 : decode cL_law 589 = .ok (.iaload, 1) := dk_46 (dw rcL_law_586 3 rfl)
theorem dL_law_590 : decode cL_law 590 = .ok (.aload_n 0, 1) := dk_42 (dw rcL_law_586 4 rfl)
theorem dL_law_591 : decode cL_law 591 = .ok (.iload_n 3, 1) := dk_29 (dw rcL_law_586 5 rfl)
theorem dL_law_592 : decode cL_law 592 = .ok (.iconst 2, 1) := dk_5 (dw rcL_law_586 6 rfl)
theorem dL_law_593 : decode cL_law 593 = .ok (.iadd, 1) := dk_96 (dw rcL_law_586 7 rfl)
theorem dL_law_594 : decode cL_law 594 = .ok (.iaload, 1) := dk_46 (dw rcL_law_586 8 rfl)
theorem dL_law_595 : decode cL_law 595 = .ok (.aload_n 0, 1) := dk_42 (dw rcL_law_586 9 rfl)
theorem dL_law_596 : decode cL_law 596 = .ok (.iload_n 3, 1) := dk_29 (dw rcL_law_586 10 rfl)
theorem dL_law_597 : decode cL_law 597 = .ok (.iconst 3, 1) := dk_6 (dw rcL_law_586 11 rfl)
theorem dL_law_598 : decode cL_law 598 = .ok (.iadd, 1) := dk_96 (dw rcL_law_586 12 rfl)
theorem dL_law_599 : decode cL_law 599 = .ok (.iaload, 1) := dk_46 (dw rcL_law_586 13 rfl)
theorem dL_law_600 : decode cL_law 600 = .ok (.aload_n 0, 1) := dk_42 (dw rcL_law_586 14 rfl)
theorem dL_law_601 : decode cL_law 601 = .ok (.iload_n 3, 1) := dk_29 (dw rcL_law_586 15 rfl)
theorem dL_law_602 : decode cL_law 602 = .ok (.iconst 4, 1) := dk_7 (dw rcL_law_586 16 rfl)
theorem dL_law_603 : decode cL_law 603 = .ok (.iadd, 1) := dk_96 (dw rcL_law_586 17 rfl)
theorem dL_law_604 : decode cL_law 604 = .ok (.iaload, 1) := dk_46 (dw rcL_law_586 18 rfl)
theorem dL_law_605 : decode cL_law 605 = .ok (.invokevirtual 58, 3) := dk_182 (dw rcL_law_586 19 rfl) rfl
theorem dL_law_608 : decode cL_law 608 = .ok (.pop2, 1) := dk_88 (dw rcL_law_586 20 rfl)
theorem dL_law_609 : decode cL_law 609 = .ok (.aload_n 2, 1) := dk_44 (dw rcL_law_586 21 rfl)
theorem dL_law_610 : decode cL_law 610 = .ok (.aload_n 0, 1) := dk_42 (dw rcL_law_586 22 rfl)
theorem dL_law_611 : decode cL_law 611 = .ok (.iload_n 3, 1) := dk_29 (dw rcL_law_586 23 rfl)
def rbL_law_612 : List (Nat × List Nat) := [(612, [4]), (613, [96]), (614, [46]), (615, [42]), (616, [29]), (617, [5]), (618, [96]), (619, [46]), (620, [42]), (621, [29]), (622, [6]), (623, [96]), (624, [46]), (625, [42]), (626, [29]), (627, [7]), (628, [96]), (629, [46]), (630, [182, 0, 62]), (633, [88]), (634, [167, 3, 239]), (637, [43]), (638, [42]), (639, [29])]
theorem rcL_law_612 : dgo (lb cL_law) 0 rbL_law_612 = true := by decide +kernel
theorem dL_law_612 : decode cL_law 612 = .ok (.iconst 1, 1) := dk_4 (dw rcL_law_612 0 rfl)
theorem dL_law_613 : decode cL_law 613 = .ok (.iadd, 1) := dk_96 (dw rcL_law_612 1 rfl)
theorem dL_law_614 : decode cL_law 614 = .ok (.iaload, 1) := dk_46 (dw rcL_law_612 2 rfl)
theorem dL_law_615 : decode cL_law 615 = .ok (.aload_n 0, 1) := dk_42 (dw rcL_law_612 3 rfl)
theorem dL_law_616 : decode cL_law 616 = .ok (.iload_n 3, 1) := dk_29 (dw rcL_law_612 4 rfl)
theorem dL_law_617 : decode cL_law 617 = .ok (.iconst 2, 1) := dk_5 (dw rcL_law_612 5 rfl)
theorem dL_law_618 : decode cL_law 618 = .ok (.iadd, 1) := dk_96 (dw rcL_law_612 6 rfl)
theorem dL_law_619 : decode cL_law 619 = .ok (.iaload, 1) := dk_46 (dw rcL_law_612 7 rfl)
theorem dL_law_620 : decode cL_law 620 = .ok (.aload_n 0, 1) := dk_42 (dw rcL_law_612 8 rfl)
theorem dL_law_621 : decode cL_law 621 = .ok (.iload_n 3, 1) := dk_29 (dw rcL_law_612 9 rfl)
theorem dL_law_622 : decode cL_law 622 = .ok (.iconst 3, 1) := dk_6 (dw rcL_law_612 10 rfl)
theorem dL_law_623 : decode cL_law 623 = .ok (.iadd, 1) := dk_96 (dw rcL_law_612 11 rfl)
theorem dL_law_624 : decode cL_law 624 = .ok (.iaload, 1) := dk_46 (dw rcL_law_612 12 rfl)
theorem dL_law_625 : decode cL_law 625 = .ok (.aload_n 0, 1) := dk_42 (dw rcL_law_612 13 rfl)
theorem dL_law_626 : decode cL_law 626 = .ok (.iload_n 3, 1) := dk_29 (dw rcL_law_612 14 rfl)
theorem dL_law_627 : decode cL_law 627 = .ok (.iconst 4, 1) := dk_7 (dw rcL_law_612 15 rfl)
theorem dL_law_628 : decode cL_law 628 = .ok (.iadd, 1) := dk_96 (dw rcL_law_612 16 rfl)
theorem dL_law_629 : decode cL_law 629 = .ok (.iaload, 1) := dk_46 (dw rcL_law_612 17 rfl)
theorem dL_law_630 : decode cL_law 630 = .ok (.invokevirtual 62, 3) := dk_182 (dw rcL_law_612 18 rfl) rfl
theorem dL_law_633 : decode cL_law 633 = .ok (.pop2, 1) := dk_88 (dw rcL_law_612 19 rfl)
theorem dL_law_634 : decode cL_law 634 = .ok (.goto 1007, 3) := dk_167 (dw rcL_law_612 20 rfl) rfl
theorem dL_law_637 : decode cL_law 637 = .ok (.aload_n 1, 1) := dk_43 (dw rcL_law_612 21 rfl)
theorem dL_law_638 : decode cL_law 638 = .ok (.aload_n 0, 1) := dk_42 (dw rcL_law_612 22 rfl)
theorem dL_law_639 : decode cL_law 639 = .ok (.iload_n 3, 1) := dk_29 (dw rcL_law_612 23 rfl)
def rbL_law_640 : List (Nat × List Nat) := [(640, [4]), (641, [96]), (642, [46]), (643, [42]), (644, [29]), (645, [5]), (646, [96]), (647, [46]), (648, [42]), (649, [29]), (650, [6]), (651, [96]), (652, [46]), (653, [42]), (654, [29]), (655, [7]), (656, [96]), (657, [46]), (658, [182, 0, 63]), (661, [87]), (662, [44]), (663, [42]), (664, [29]), (665, [4])]
theorem rcL_law_640 : dgo (lb cL_law) 0 rbL_law_640 = true := by decide +kernel
theorem dL_law_640 : decode cL_law 640 = .ok (.iconst 1, 1) := dk_4 (dw rcL_law_640 0 rfl)
theorem dL_law_641 : decode cL_law 641 = .ok (.iadd, 1) := dk_96 (dw rcL_law_640 1 rfl)
theorem dL_law_642 : decode cL_law 642 = .ok (.iaload, 1) := dk_46 (dw rcL_law_640 2 rfl)
theorem dL_law_643 : decode cL_law 643 = .ok (.aload_n 0, 1) := dk_42 (dw rcL_law_640 3 rfl)
theorem dL_law_644 : decode cL_law 644 = .ok (.iload_n 3, 1) := dk_29 (dw rcL_law_640 4 rfl)
theorem dL_law_645 : decode cL_law 645 = .ok (.iconst 2, 1) := dk_5 (dw rcL_law_640 5 rfl)
theorem dL_law_646 : decode cL_law 646 = .ok (.iadd, 1) := dk_96 (dw rcL_law_640 6 rfl)
theorem dL_law_647 : decode cL_law 647 = .ok (.iaload, 1) := dk_46 (dw rcL_law_640 7 rfl)
theorem dL_law_648 : decode cL_law 648 = .ok (.aload_n 0, 1) := dk_42 (dw rcL_law_640 8 rfl)
theorem dL_law_649 : decode cL_law 649 = .ok (.iload_n 3, 1) := dk_29 (dw rcL_law_640 9 rfl)
theorem dL_law_650 : decode cL_law 650 = .ok (.iconst 3, 1) := dk_6 (dw rcL_law_640 10 rfl)
theorem dL_law_651 : decode cL_law 651 = .ok (.iadd, 1) := dk_96 (dw rcL_law_640 11 rfl)
theorem dL_law_652 : decode cL_law 652 = .ok (.iaload, 1) := dk_46 (dw rcL_law_640 12 rfl)
theorem dL_law_653 : decode cL_law 653 = .ok (.aload_n 0, 1) := dk_42 (dw rcL_law_640 13 rfl)
theorem dL_law_654 : decode cL_law 654 = .ok (.iload_n 3, 1) := dk_29 (dw rcL_law_640 14 rfl)
theorem dL_law_655 : decode cL_law 655 = .ok (.iconst 4, 1) := dk_7 (dw rcL_law_640 15 rfl)
theorem dL_law_656 : decode cL_law 656 = .ok (.iadd, 1) := dk_96 (dw rcL_law_640 16 rfl)
theorem dL_law_657 : decode cL_law 657 = .ok (.iaload, 1) := dk_46 (dw rcL_law_640 17 rfl)
theorem dL_law_658 : decode cL_law 658 = .ok (.invokevirtual 63, 3) := dk_182 (dw rcL_law_640 18 rfl) rfl
theorem dL_law_661 : decode cL_law 661 = .ok (.pop, 1) := dk_87 (dw rcL_law_640 19 rfl)
theorem dL_law_662 : decode cL_law 662 = .ok (.aload_n 2, 1) := dk_44 (dw rcL_law_640 20 rfl)
theorem dL_law_663 : decode cL_law 663 = .ok (.aload_n 0, 1) := dk_42 (dw rcL_law_640 21 rfl)
theorem dL_law_664 : decode cL_law 664 = .ok (.iload_n 3, 1) := dk_29 (dw rcL_law_640 22 rfl)
theorem dL_law_665 : decode cL_law 665 = .ok (.iconst 1, 1) := dk_4 (dw rcL_law_640 23 rfl)
def rbL_law_666 : List (Nat × List Nat) := [(666, [96]), (667, [46]), (668, [42]), (669, [29]), (670, [5]), (671, [96]), (672, [46]), (673, [42]), (674, [29]), (675, [6]), (676, [96]), (677, [46]), (678, [42]), (679, [29]), (680, [7]), (681, [96]), (682, [46]), (683, [182, 0, 66]), (686, [87]), (687, [167, 3, 186]), (690, [43]), (691, [42]), (692, [29]), (693, [4])]
theorem rcL_law_666 : dgo (lb cL_law) 0 rbL_law_666 = true := by decide +kernel
theorem dL_law_666 : decode cL_law 666 = .ok (.iadd, 1) := dk_96 (dw rcL_law_666 0 rfl)
theorem dL_law_667 : decode cL_law 667 = .ok (.iaload, 1) := dk_46 (dw rcL_law_666 1 rfl)
theorem dL_law_668 : decode cL_law 668 = .ok (.aload_n 0, 1) := dk_42 (dw rcL_law_666 2 rfl)
theorem dL_law_669 : decode cL_law 669 = .ok (.iload_n 3, 1) := dk_29 (dw rcL_law_666 3 rfl)
theorem dL_law_670 : decode cL_law 670 = .ok (.iconst 2, 1) := dk_5 (dw rcL_law_666 4 rfl)
theorem dL_law_671 : decode cL_law 671 = .ok (.iadd, 1) := dk_96 (dw rcL_law_666 5 rfl)
theorem dL_law_672 : decode cL_law 672 = .ok (.iaload, 1) := dk_46 (dw rcL_law_666 6 rfl)
theorem dL_law_673 : decode cL_law 673 = .ok (.aload_n 0, 1) := dk_42 (dw rcL_law_666 7 rfl)
theorem dL_law_674 : decode cL_law 674 = .ok (.iload_n 3, 1) := dk_29 (dw rcL_law_666 8 rfl)
theorem dL_law_675 : decode cL_law 675 = .ok (.iconst 3, 1) := dk_6 (dw rcL_law_666 9 rfl)
theorem dL_law_676 : decode cL_law 676 = .ok (.iadd, 1) := dk_96 (dw rcL_law_666 10 rfl)
theorem dL_law_677 : decode cL_law 677 = .ok (.iaload, 1) := dk_46 (dw rcL_law_666 11 rfl)
theorem dL_law_678 : decode cL_law 678 = .ok (.aload_n 0, 1) := dk_42 (dw rcL_law_666 12 rfl)
theorem dL_law_679 : decode cL_law 679 = .ok (.iload_n 3, 1) := dk_29 (dw rcL_law_666 13 rfl)
theorem dL_law_680 : decode cL_law 680 = .ok (.iconst 4, 1) := dk_7 (dw rcL_law_666 14 rfl)
theorem dL_law_681 : decode cL_law 681 = .ok (.iadd, 1) := dk_96 (dw rcL_law_666 15 rfl)
theorem dL_law_682 : decode cL_law 682 = .ok (.iaload, 1) := dk_46 (dw rcL_law_666 16 rfl)
theorem dL_law_683 : decode cL_law 683 = .ok (.invokevirtual 66, 3) := dk_182 (dw rcL_law_666 17 rfl) rfl
theorem dL_law_686 : decode cL_law 686 = .ok (.pop, 1) := dk_87 (dw rcL_law_666 18 rfl)
theorem dL_law_687 : decode cL_law 687 = .ok (.goto 954, 3) := dk_167 (dw rcL_law_666 19 rfl) rfl
theorem dL_law_690 : decode cL_law 690 = .ok (.aload_n 1, 1) := dk_43 (dw rcL_law_666 20 rfl)
theorem dL_law_691 : decode cL_law 691 = .ok (.aload_n 0, 1) := dk_42 (dw rcL_law_666 21 rfl)
theorem dL_law_692 : decode cL_law 692 = .ok (.iload_n 3, 1) := dk_29 (dw rcL_law_666 22 rfl)
theorem dL_law_693 : decode cL_law 693 = .ok (.iconst 1, 1) := dk_4 (dw rcL_law_666 23 rfl)
def rbL_law_694 : List (Nat × List Nat) := [(694, [96]), (695, [46]), (696, [42]), (697, [29]), (698, [5]), (699, [96]), (700, [46]), (701, [42]), (702, [29]), (703, [6]), (704, [96]), (705, [46]), (706, [42]), (707, [29]), (708, [7]), (709, [96]), (710, [46]), (711, [42]), (712, [29]), (713, [8]), (714, [96]), (715, [46]), (716, [182, 0, 67]), (719, [87])]
theorem rcL_law_694 : dgo (lb cL_law) 0 rbL_law_694 = true := by decide +kernel
theorem dL_law_694 : decode cL_law 694 = .ok (.iadd, 1) := dk_96 (dw rcL_law_694 0 rfl)
theorem dL_law_695 : decode cL_law 695 = .ok (.iaload, 1) := dk_46 (dw rcL_law_694 1 rfl)
theorem dL_law_696 : decode cL_law 696 = .ok (.aload_n 0, 1) := dk_42 (dw rcL_law_694 2 rfl)
theorem dL_law_697 : decode cL_law 697 = .ok (.iload_n 3, 1) := dk_29 (dw rcL_law_694 3 rfl)
theorem dL_law_698 : decode cL_law 698 = .ok (.iconst 2, 1) := dk_5 (dw rcL_law_694 4 rfl)
theorem dL_law_699 : decode cL_law 699 = .ok (.iadd, 1) := dk_96 (dw rcL_law_694 5 rfl)
theorem dL_law_700 : decode cL_law 700 = .ok (.iaload, 1) := dk_46 (dw rcL_law_694 6 rfl)
theorem dL_law_701 : decode cL_law 701 = .ok (.aload_n 0, 1) := dk_42 (dw rcL_law_694 7 rfl)
theorem dL_law_702 : decode cL_law 702 = .ok (.iload_n 3, 1) := dk_29 (dw rcL_law_694 8 rfl)
theorem dL_law_703 : decode cL_law 703 = .ok (.iconst 3, 1) := dk_6 (dw rcL_law_694 9 rfl)
theorem dL_law_704 : decode cL_law 704 = .ok (.iadd, 1) := dk_96 (dw rcL_law_694 10 rfl)
theorem dL_law_705 : decode cL_law 705 = .ok (.iaload, 1) := dk_46 (dw rcL_law_694 11 rfl)
theorem dL_law_706 : decode cL_law 706 = .ok (.aload_n 0, 1) := dk_42 (dw rcL_law_694 12 rfl)
theorem dL_law_707 : decode cL_law 707 = .ok (.iload_n 3, 1) := dk_29 (dw rcL_law_694 13 rfl)
theorem dL_law_708 : decode cL_law 708 = .ok (.iconst 4, 1) := dk_7 (dw rcL_law_694 14 rfl)
theorem dL_law_709 : decode cL_law 709 = .ok (.iadd, 1) := dk_96 (dw rcL_law_694 15 rfl)
theorem dL_law_710 : decode cL_law 710 = .ok (.iaload, 1) := dk_46 (dw rcL_law_694 16 rfl)
theorem dL_law_711 : decode cL_law 711 = .ok (.aload_n 0, 1) := dk_42 (dw rcL_law_694 17 rfl)
theorem dL_law_712 : decode cL_law 712 = .ok (.iload_n 3, 1) := dk_29 (dw rcL_law_694 18 rfl)
theorem dL_law_713 : decode cL_law 713 = .ok (.iconst 5, 1) := dk_8 (dw rcL_law_694 19 rfl)
theorem dL_law_714 : decode cL_law 714 = .ok (.iadd, 1) := dk_96 (dw rcL_law_694 20 rfl)
theorem dL_law_715 : decode cL_law 715 = .ok (.iaload, 1) := dk_46 (dw rcL_law_694 21 rfl)
theorem dL_law_716 : decode cL_law 716 = .ok (.invokevirtual 67, 3) := dk_182 (dw rcL_law_694 22 rfl) rfl
theorem dL_law_719 : decode cL_law 719 = .ok (.pop, 1) := dk_87 (dw rcL_law_694 23 rfl)
def rbL_law_720 : List (Nat × List Nat) := [(720, [44]), (721, [42]), (722, [29]), (723, [4]), (724, [96]), (725, [46]), (726, [42]), (727, [29]), (728, [5]), (729, [96]), (730, [46]), (731, [42]), (732, [29]), (733, [6]), (734, [96]), (735, [46]), (736, [42]), (737, [29]), (738, [7]), (739, [96]), (740, [46]), (741, [42]), (742, [29]), (743, [8])]
theorem rcL_law_720 : dgo (lb cL_law) 0 rbL_law_720 = true := by decide +kernel
theorem dL_law_720 : decode cL_law 720 = .ok (.aload_n 2, 1) := dk_44 (dw rcL_law_720 0 rfl)
theorem dL_law_721 : decode cL_law 721 = .ok (.aload_n 0, 1) := dk_42 (dw rcL_law_720 1 rfl)
theorem dL_law_722 : decode cL_law 722 = .ok (.iload_n 3, 1) := dk_29 (dw rcL_law_720 2 rfl)
theorem dL_law_723 : decode cL_law 723 = .ok (.iconst 1, 1) := dk_4 (dw rcL_law_720 3 rfl)
theorem dL_law_724 : decode cL_law 724 = .ok (.iadd, 1) := dk_96 (dw rcL_law_720 4 rfl)
theorem dL_law_725 : decode cL_law 725 = .ok (.iaload, 1) := dk_46 (dw rcL_law_720 5 rfl)
theorem dL_law_726 : decode cL_law 726 = .ok (.aload_n 0, 1) := dk_42 (dw rcL_law_720 6 rfl)
theorem dL_law_727 : decode cL_law 727 = .ok (.iload_n 3, 1) := dk_29 (dw rcL_law_720 7 rfl)
theorem dL_law_728 : decode cL_law 728 = .ok (.iconst 2, 1) := dk_5 (dw rcL_law_720 8 rfl)
theorem dL_law_729 : decode cL_law 729 = .ok (.iadd, 1) := dk_96 (dw rcL_law_720 9 rfl)
theorem dL_law_730 : decode cL_law 730 = .ok (.iaload, 1) := dk_46 (dw rcL_law_720 10 rfl)
theorem dL_law_731 : decode cL_law 731 = .ok (.aload_n 0, 1) := dk_42 (dw rcL_law_720 11 rfl)
theorem dL_law_732 : decode cL_law 732 = .ok (.iload_n 3, 1) := dk_29 (dw rcL_law_720 12 rfl)
theorem dL_law_733 : decode cL_law 733 = .ok (.iconst 3, 1) := dk_6 (dw rcL_law_720 13 rfl)
theorem dL_law_734 : decode cL_law 734 = .ok (.iadd, 1) := dk_96 (dw rcL_law_720 14 rfl)
theorem dL_law_735 : decode cL_law 735 = .ok (.iaload, 1) := dk_46 (dw rcL_law_720 15 rfl)
theorem dL_law_736 : decode cL_law 736 = .ok (.aload_n 0, 1) := dk_42 (dw rcL_law_720 16 rfl)
theorem dL_law_737 : decode cL_law 737 = .ok (.iload_n 3, 1) := dk_29 (dw rcL_law_720 17 rfl)
theorem dL_law_738 : decode cL_law 738 = .ok (.iconst 4, 1) := dk_7 (dw rcL_law_720 18 rfl)
theorem dL_law_739 : decode cL_law 739 = .ok (.iadd, 1) := dk_96 (dw rcL_law_720 19 rfl)
theorem dL_law_740 : decode cL_law 740 = .ok (.iaload, 1) := dk_46 (dw rcL_law_720 20 rfl)
theorem dL_law_741 : decode cL_law 741 = .ok (.aload_n 0, 1) := dk_42 (dw rcL_law_720 21 rfl)
theorem dL_law_742 : decode cL_law 742 = .ok (.iload_n 3, 1) := dk_29 (dw rcL_law_720 22 rfl)
theorem dL_law_743 : decode cL_law 743 = .ok (.iconst 5, 1) := dk_8 (dw rcL_law_720 23 rfl)
def rbL_law_744 : List (Nat × List Nat) := [(744, [96]), (745, [46]), (746, [182, 0, 70]), (749, [87]), (750, [167, 3, 123]), (753, [43]), (754, [42]), (755, [29]), (756, [4]), (757, [96]), (758, [46]), (759, [42]), (760, [29]), (761, [5]), (762, [96]), (763, [46]), (764, [42]), (765, [29]), (766, [6]), (767, [96]), (768, [46]), (769, [182, 0, 71]), (772, [87]), (773, [44])]
theorem rcL_law_744 : dgo (lb cL_law) 0 rbL_law_744 = true := by decide +kernel
theorem dL_law_744 : decode cL_law 744 = .ok (.iadd, 1) := dk_96 (dw rcL_law_744 0 rfl)
theorem dL_law_745 : decode cL_law 745 = .ok (.iaload, 1) := dk_46 (dw rcL_law_744 1 rfl)
theorem dL_law_746 : decode cL_law 746 = .ok (.invokevirtual 70, 3) := dk_182 (dw rcL_law_744 2 rfl) rfl
theorem dL_law_749 : decode cL_law 749 = .ok (.pop, 1) := dk_87 (dw rcL_law_744 3 rfl)
theorem dL_law_750 : decode cL_law 750 = .ok (.goto 891, 3) := dk_167 (dw rcL_law_744 4 rfl) rfl
theorem dL_law_753 : decode cL_law 753 = .ok (.aload_n 1, 1) := dk_43 (dw rcL_law_744 5 rfl)
theorem dL_law_754 : decode cL_law 754 = .ok (.aload_n 0, 1) := dk_42 (dw rcL_law_744 6 rfl)
theorem dL_law_755 : decode cL_law 755 = .ok (.iload_n 3, 1) := dk_29 (dw rcL_law_744 7 rfl)
theorem dL_law_756 : decode cL_law 756 = .ok (.iconst 1, 1) := dk_4 (dw rcL_law_744 8 rfl)
theorem dL_law_757 : decode cL_law 757 = .ok (.iadd, 1) := dk_96 (dw rcL_law_744 9 rfl)
theorem dL_law_758 : decode cL_law 758 = .ok (.iaload, 1) := dk_46 (dw rcL_law_744 10 rfl)
theorem dL_law_759 : decode cL_law 759 = .ok (.aload_n 0, 1) := dk_42 (dw rcL_law_744 11 rfl)
theorem dL_law_760 : decode cL_law 760 = .ok (.iload_n 3, 1) := dk_29 (dw rcL_law_744 12 rfl)
theorem dL_law_761 : decode cL_law 761 = .ok (.iconst 2, 1) := dk_5 (dw rcL_law_744 13 rfl)
theorem dL_law_762 : decode cL_law 762 = .ok (.iadd, 1) := dk_96 (dw rcL_law_744 14 rfl)
theorem dL_law_763 : decode cL_law 763 = .ok (.iaload, 1) := dk_46 (dw rcL_law_744 15 rfl)
theorem dL_law_764 : decode cL_law 764 = .ok (.aload_n 0, 1) := dk_42 (dw rcL_law_744 16 rfl)
theorem dL_law_765 : decode cL_law 765 = .ok (.iload_n 3, 1) := dk_29 (dw rcL_law_744 17 rfl)
theorem dL_law_766 : decode cL_law 766 = .ok (.iconst 3, 1) := dk_6 (dw rcL_law_744 18 rfl)
theorem dL_law_767 : decode cL_law 767 = .ok (.iadd, 1) := dk_96 (dw rcL_law_744 19 rfl)
theorem dL_law_768 : decode cL_law 768 = .ok (.iaload, 1) := dk_46 (dw rcL_law_744 20 rfl)
theorem dL_law_769 : decode cL_law 769 = .ok (.invokevirtual 71, 3) := dk_182 (dw rcL_law_744 21 rfl) rfl
theorem dL_law_772 : decode cL_law 772 = .ok (.pop, 1) := dk_87 (dw rcL_law_744 22 rfl)
theorem dL_law_773 : decode cL_law 773 = .ok (.aload_n 2, 1) := dk_44 (dw rcL_law_744 23 rfl)
def rbL_law_774 : List (Nat × List Nat) := [(774, [42]), (775, [29]), (776, [4]), (777, [96]), (778, [46]), (779, [42]), (780, [29]), (781, [5]), (782, [96]), (783, [46]), (784, [42]), (785, [29]), (786, [6]), (787, [96]), (788, [46]), (789, [182, 0, 74]), (792, [87]), (793, [167, 3, 80]), (796, [43]), (797, [42]), (798, [29]), (799, [4]), (800, [96]), (801, [46])]
theorem rcL_law_774 : dgo (lb cL_law) 0 rbL_law_774 = true := by decide +kernel
theorem dL_law_774 : decode cL_law 774 = .ok (.aload_n 0, 1) := dk_42 (dw rcL_law_774 0 rfl)
theorem dL_law_775 : decode cL_law 775 = .ok (.iload_n 3, 1) := dk_29 (dw rcL_law_774 1 rfl)
theorem dL_law_776 : decode cL_law 776 = .ok (.iconst 1, 1) := dk_4 (dw rcL_law_774 2 rfl)
theorem dL_law_777 : decode cL_law 777 = .ok (.iadd, 1) := dk_96 (dw rcL_law_774 3 rfl)
theorem dL_law_778 : decode cL_law 778 = .ok (.iaload, 1) := dk_46 (dw rcL_law_774 4 rfl)
theorem dL_law_779 : decode cL_law 779 = .ok (.aload_n 0, 1) := dk_42 (dw rcL_law_774 5 rfl)
theorem dL_law_780 : decode cL_law 780 = .ok (.iload_n 3, 1) := dk_29 (dw rcL_law_774 6 rfl)
theorem dL_law_781 : decode cL_law 781 = .ok (.iconst 2, 1) := dk_5 (dw rcL_law_774 7 rfl)
theorem dL_law_782 : decode cL_law 782 = .ok (.iadd, 1) := dk_96 (dw rcL_law_774 8 rfl)
theorem dL_law_783 : decode cL_law 783 = .ok (.iaload, 1) := dk_46 (dw rcL_law_774 9 rfl)
theorem dL_law_784 : decode cL_law 784 = .ok (.aload_n 0, 1) := dk_42 (dw rcL_law_774 10 rfl)
theorem dL_law_785 : decode cL_law 785 = .ok (.iload_n 3, 1) := dk_29 (dw rcL_law_774 11 rfl)
theorem dL_law_786 : decode cL_law 786 = .ok (.iconst 3, 1) := dk_6 (dw rcL_law_774 12 rfl)
theorem dL_law_787 : decode cL_law 787 = .ok (.iadd, 1) := dk_96 (dw rcL_law_774 13 rfl)
theorem dL_law_788 : decode cL_law 788 = .ok (.iaload, 1) := dk_46 (dw rcL_law_774 14 rfl)
theorem dL_law_789 : decode cL_law 789 = .ok (.invokevirtual 74, 3) := dk_182 (dw rcL_law_774 15 rfl) rfl
theorem dL_law_792 : decode cL_law 792 = .ok (.pop, 1) := dk_87 (dw rcL_law_774 16 rfl)
theorem dL_law_793 : decode cL_law 793 = .ok (.goto 848, 3) := dk_167 (dw rcL_law_774 17 rfl) rfl
theorem dL_law_796 : decode cL_law 796 = .ok (.aload_n 1, 1) := dk_43 (dw rcL_law_774 18 rfl)
theorem dL_law_797 : decode cL_law 797 = .ok (.aload_n 0, 1) := dk_42 (dw rcL_law_774 19 rfl)
theorem dL_law_798 : decode cL_law 798 = .ok (.iload_n 3, 1) := dk_29 (dw rcL_law_774 20 rfl)
theorem dL_law_799 : decode cL_law 799 = .ok (.iconst 1, 1) := dk_4 (dw rcL_law_774 21 rfl)
theorem dL_law_800 : decode cL_law 800 = .ok (.iadd, 1) := dk_96 (dw rcL_law_774 22 rfl)
theorem dL_law_801 : decode cL_law 801 = .ok (.iaload, 1) := dk_46 (dw rcL_law_774 23 rfl)
def rbL_law_802 : List (Nat × List Nat) := [(802, [42]), (803, [29]), (804, [5]), (805, [96]), (806, [46]), (807, [42]), (808, [29]), (809, [6]), (810, [96]), (811, [46]), (812, [42]), (813, [29]), (814, [7]), (815, [96]), (816, [46]), (817, [42]), (818, [29]), (819, [8]), (820, [96]), (821, [46]), (822, [182, 0, 75]), (825, [87]), (826, [44]), (827, [42])]
theorem rcL_law_802 : dgo (lb cL_law) 0 rbL_law_802 = true := by decide +kernel
theorem dL_law_802 : decode cL_law 802 = .ok (.aload_n 0, 1) := dk_42 (dw rcL_law_802 0 rfl)
theorem dL_law_803 : decode cL_law 803 = .ok (.iload_n 3, 1) := dk_29 (dw rcL_law_802 1 rfl)
theorem dL_law_804 : decode cL_law 804 = .ok (.iconst 2, 1) := dk_5 (dw rcL_law_802 2 rfl)
theorem dL_law_805 : decode cL_law 805 = .ok (.iadd, 1) := dk_96 (dw rcL_law_802 3 rfl)
theorem dL_law_806 : decode cL_law 806 = .ok (.iaload, 1) := dk_46 (dw rcL_law_802 4 rfl)
theorem dL_law_807 : decode cL_law 807 = .ok (.aload_n 0, 1) := dk_42 (dw rcL_law_802 5 rfl)
theorem dL_law_808 : decode cL_law 808 = .ok (.iload_n 3, 1) := dk_29 (dw rcL_law_802 6 rfl)
theorem dL_law_809 : decode cL_law 809 = .ok (.iconst 3, 1) := dk_6 (dw rcL_law_802 7 rfl)
theorem dL_law_810 : decode cL_law 810 = .ok (.iadd, 1) := dk_96 (dw rcL_law_802 8 rfl)
theorem dL_law_811 : decode cL_law 811 = .ok (.iaload, 1) := dk_46 (dw rcL_law_802 9 rfl)
theorem dL_law_812 : decode cL_law 812 = .ok (.aload_n 0, 1) := dk_42 (dw rcL_law_802 10 rfl)
theorem dL_law_813 : decode cL_law 813 = .ok (.iload_n 3, 1) := dk_29 (dw rcL_law_802 11 rfl)
theorem dL_law_814 : decode cL_law 814 = .ok (.iconst 4, 1) := dk_7 (dw rcL_law_802 12 rfl)
theorem dL_law_815 : decode cL_law 815 = .ok (.iadd, 1) := dk_96 (dw rcL_law_802 13 rfl)
theorem dL_law_816 : decode cL_law 816 = .ok (.iaload, 1) := dk_46 (dw rcL_law_802 14 rfl)
theorem dL_law_817 : decode cL_law 817 = .ok (.aload_n 0, 1) := dk_42 (dw rcL_law_802 15 rfl)
theorem dL_law_818 : decode cL_law 818 = .ok (.iload_n 3, 1) := dk_29 (dw rcL_law_802 16 rfl)
theorem dL_law_819 : decode cL_law 819 = .ok (.iconst 5, 1) := dk_8 (dw rcL_law_802 17 rfl)
theorem dL_law_820 : decode cL_law 820 = .ok (.iadd, 1) := dk_96 (dw rcL_law_802 18 rfl)
theorem dL_law_821 : decode cL_law 821 = .ok (.iaload, 1) := dk_46 (dw rcL_law_802 19 rfl)
theorem dL_law_822 : decode cL_law 822 = .ok (.invokevirtual 75, 3) := dk_182 (dw rcL_law_802 20 rfl) rfl
theorem dL_law_825 : decode cL_law 825 = .ok (.pop, 1) := dk_87 (dw rcL_law_802 21 rfl)
theorem dL_law_826 : decode cL_law 826 = .ok (.aload_n 2, 1) := dk_44 (dw rcL_law_802 22 rfl)
theorem dL_law_827 : decode cL_law 827 = .ok (.aload_n 0, 1) := dk_42 (dw rcL_law_802 23 rfl)
def rbL_law_828 : List (Nat × List Nat) := [(828, [29]), (829, [4]), (830, [96]), (831, [46]), (832, [42]), (833, [29]), (834, [5]), (835, [96]), (836, [46]), (837, [42]), (838, [29]), (839, [6]), (840, [96]), (841, [46]), (842, [42]), (843, [29]), (844, [7]), (845, [96]), (846, [46]), (847, [42]), (848, [29]), (849, [8]), (850, [96]), (851, [46])]
theorem rcL_law_828 : dgo (lb cL_law) 0 rbL_law_828 = true := by decide +kernel
theorem dL_law_828 : decode cL_law 828 = .ok (.iload_n 3, 1) := dk_29 (dw rcL_law_828 0 rfl)
theorem dL_law_829 : decode cL_law 829 = .ok (.iconst 1, 1) := dk_4 (dw rcL_law_828 1 rfl)
theorem dL_law_830 : decode cL_law 830 = .ok (.iadd, 1) := dk_96 (dw rcL_law_828 2 rfl)
theorem dL_law_831 : decode cL_law 831 = .ok (.iaload, 1) := dk_46 (dw rcL_law_828 3 rfl)
theorem dL_law_832 : decode cL_law 832 = .ok (.aload_n 0, 1) := dk_42 (dw rcL_law_828 4 rfl)
theorem dL_law_833 : decode cL_law 833 = .ok (.iload_n 3, 1) := dk_29 (dw rcL_law_828 5 rfl)
theorem dL_law_834 : decode cL_law 834 = .ok (.iconst 2, 1) := dk_5 (dw rcL_law_828 6 rfl)
theorem dL_law_835 : decode cL_law 835 = .ok (.iadd, 1) := dk_96 (dw rcL_law_828 7 rfl)
theorem dL_law_836 : decode cL_law 836 = .ok (.iaload, 1) := dk_46 (dw rcL_law_828 8 rfl)
theorem dL_law_837 : decode cL_law 837 = .ok (.aload_n 0, 1) := dk_42 (dw rcL_law_828 9 rfl)
theorem dL_law_838 : decode cL_law 838 = .ok (.iload_n 3, 1) := dk_29 (dw rcL_law_828 10 rfl)
theorem dL_law_839 : decode cL_law 839 = .ok (.iconst 3, 1) := dk_6 (dw rcL_law_828 11 rfl)
theorem dL_law_840 : decode cL_law 840 = .ok (.iadd, 1) := dk_96 (dw rcL_law_828 12 rfl)
theorem dL_law_841 : decode cL_law 841 = .ok (.iaload, 1) := dk_46 (dw rcL_law_828 13 rfl)
theorem dL_law_842 : decode cL_law 842 = .ok (.aload_n 0, 1) := dk_42 (dw rcL_law_828 14 rfl)
theorem dL_law_843 : decode cL_law 843 = .ok (.iload_n 3, 1) := dk_29 (dw rcL_law_828 15 rfl)
theorem dL_law_844 : decode cL_law 844 = .ok (.iconst 4, 1) := dk_7 (dw rcL_law_828 16 rfl)
theorem dL_law_845 : decode cL_law 845 = .ok (.iadd, 1) := dk_96 (dw rcL_law_828 17 rfl)
theorem dL_law_846 : decode cL_law 846 = .ok (.iaload, 1) := dk_46 (dw rcL_law_828 18 rfl)
theorem dL_law_847 : decode cL_law 847 = .ok (.aload_n 0, 1) := dk_42 (dw rcL_law_828 19 rfl)
theorem dL_law_848 : decode cL_law 848 = .ok (.iload_n 3, 1) := dk_29 (dw rcL_law_828 20 rfl)
theorem dL_law_849 : decode cL_law 849 = .ok (.iconst 5, 1) := dk_8 (dw rcL_law_828 21 rfl)
theorem dL_law_850 : decode cL_law 850 = .ok (.iadd, 1) := dk_96 (dw rcL_law_828 22 rfl)
theorem dL_law_851 : decode cL_law 851 = .ok (.iaload, 1) := dk_46 (dw rcL_law_828 23 rfl)
def rbL_law_852 : List (Nat × List Nat) := [(852, [182, 0, 78]), (855, [87]), (856, [167, 3, 17])]
theorem rcL_law_852 : dgo (lb cL_law) 0 rbL_law_852 = true := by decide +kernel
theorem dL_law_852 : decode cL_law 852 = .ok (.invokevirtual 78, 3) := dk_182 (dw rcL_law_852 0 rfl) rfl
theorem dL_law_855 : decode cL_law 855 = .ok (.pop, 1) := dk_87 (dw rcL_law_852 1 rfl)
theorem dL_law_856 : decode cL_law 856 = .ok (.goto 785, 3) := dk_167 (dw rcL_law_852 2 rfl) rfl
set_option maxHeartbeats 4000000 in
set_option maxRecDepth 100000 in
theorem law_6 {p : Program} {l : Launch} {e : Env} {s : State} {m : MethodId} {below : List Frame} {meth : Method} {c : Code} {D : va_G} {k : KT} {A : Nat → Prop} {a : Nat → Nat} {z : SK} {b L : Nat} {xs : Nat → Int32} (hL : L ≤ 3072) (C0 : lw_At p s m meth c b L xs) (hK : cK D k s) (hZ : Sx A z s) (hbA : ¬ A b) {G : GS} {i0 : Int32} (hi0 : 0 ≤ i0.toInt) (hi6 : i0.toInt + 6 ≤ L) (hI : LI G) (hB_G : Bd G) {H : Heap} {locs : List Loc} {ls : Array Slot} (hW : Wd D k A a G H) (hS : va_S A s.heap H locs) (hl : lv_has ls 4 [(0, .ref b), (1, .ref (a 0)), (2, .ref (a 66)), (3, .int i0)]) (K : ∀ (G1 : GS) (H1 : Heap) (locs1 : List Loc) (ls1 : Array Slot), LI G1 → Bd G1 → Wd D k A a G1 H1 → va_S A s.heap H1 locs1 → lv_has ls1 4 [(0, .ref b), (1, .ref (a 0)), (2, .ref (a 66)), (3, .int i0)] → W p l e room_1 s m #[Value.ref b] below meth c H1 locs1 119 46443 (lw_Z below #[Value.ref b] s) (F0 m 1641 ls1 [])) : W p l e room_1 s m #[Value.ref b] below meth c H locs 119 46443 (lw_Z below #[Value.ref b] s) (F0 m 392 ls []) := by
  obtain ⟨hx, hb, hr, hml, hown, hts, hX, hbl, hlocks, hgv⟩ := id C0
  have hown : s.vm.findClass RL = some m.cls := hown
  have hgd : ∀ w ∈ gd, w ∈ lw_tbl := fun w h => (List.mem_filter.mp h).1
  have hg : ∀ w ∈ gd, w.before #[Value.ref b] s = true := fun w h => hts w (hgd w h)
  rcases hI with ⟨hv_0_0, hv_0_1, hv_6_4, hj0, hj1, hj2, hj3, hj4, hj5, hj6, hj7, hj8, hj9, hj10, hj11, hj12⟩ | ⟨hv_0_0, hv_0_1, hv_6_4, hj0, hj1, hj2, hj3, hj4, hj5, hj6, hj7, hj8, hj9, hj10, hj11, hj12⟩
  · skip
    obtain ⟨p0, hp0⟩ : ∃ y, y = xs (i0 + 1).toNatClampNeg := ⟨_, rfl⟩
    obtain ⟨p1, hp1⟩ : ∃ y, y = xs (i0 + 2).toNatClampNeg := ⟨_, rfl⟩
    obtain ⟨p2, hp2⟩ : ∃ y, y = xs (i0 + 3).toNatClampNeg := ⟨_, rfl⟩
    obtain ⟨p3, hp3⟩ : ∃ y, y = xs (i0 + 4).toNatClampNeg := ⟨_, rfl⟩
    obtain ⟨p4, hp4⟩ : ∃ y, y = xs (i0 + 5).toNatClampNeg := ⟨_, rfl⟩
    refine lv_aload_n hx hb dL_law_392 rfl (lv_at hl 1 rfl) ?_
    refine ld_1 hL hi0 hi6 hx hb hX hbl hbA hS hl dL_law_393 dL_law_394 dL_law_395 dL_law_396 dL_law_397 hp0 ?_
    refine ld_2 hL hi0 hi6 hx hb hX hbl hbA hS hl dL_law_398 dL_law_399 dL_law_400 dL_law_401 dL_law_402 hp1 ?_
    refine ld_3 hL hi0 hi6 hx hb hX hbl hbA hS hl dL_law_403 dL_law_404 dL_law_405 dL_law_406 dL_law_407 hp2 ?_
    refine S_calli (va_runV (As := [.int p0, .int p1, .int p2]) (rest := []) ⟨hx, hb, hml, hown, hts⟩ (k_Wline_1 l D k A a z G p0 p1 p2 hv_0_0 hv_0_1 hv_6_4) (cwV 3 hts (gd_V hgd m903 m904 m905 m117 m906) rfl rfl rfl hd_X11_line ⟨Nat.le_of_ble_eq_true rfl, Nat.le_of_ble_eq_true rfl⟩) (pre_W hW hB_G hK hZ hS kd_0 rfl) rfl rfl hl.1 rfl (lv_room (Nat.le_of_ble_eq_true rfl)) dL_law_408 ⟨Nat.le_of_ble_eq_true rfl, Nat.le_of_ble_eq_true rfl⟩) hS (fun r_1 G_2 H locs hpo hW hS => ?_)
    have hX_5 : P_Wline_1 p0 p1 p2 G r_1 G_2 := hpo
    obtain ⟨hB_G_2, hq_3, -⟩ := hpo
    refine lv_aload_n hx hb dL_law_411 rfl (lv_at hl 2 rfl) ?_
    refine ld_1 hL hi0 hi6 hx hb hX hbl hbA hS hl dL_law_412 dL_law_413 dL_law_414 dL_law_415 dL_law_416 hp0 ?_
    refine ld_2 hL hi0 hi6 hx hb hX hbl hbA hS hl dL_law_417 dL_law_418 dL_law_419 dL_law_420 dL_law_421 hp1 ?_
    refine ld_3 hL hi0 hi6 hx hb hX hbl hbA hS hl dL_law_422 dL_law_423 dL_law_424 dL_law_425 dL_law_426 hp2 ?_
    have fr_6 : Fr [37, 38, 39] [(6, 3)] G G_2 := (Fr.call9 (rs := [37, 38, 39]) (fs := [(6, 3)]) Fr.rf hq_3 rfl rfl)
    have g_7 : gP G_2 = gP G := gP_fr fr_6 (gr_q rfl) (gf_q rfl)
    refine S_calli (va_runV (As := [.int p0, .int p1, .int p2]) (rest := [.int r_1]) ⟨hx, hb, hml, hown, hts⟩ (n_line l D k A a z G_2 p0 p1 p2 (by omega)) (cwV 3 hts (gd_V hgd m1795 m1796 m1797 m131 m1798) rfl rfl rfl hd_X12_line ⟨Nat.le_of_ble_eq_true rfl, Nat.le_of_ble_eq_true rfl⟩) (pre_W hW hB_G_2 hK hZ hS kd_66 rfl) rfl rfl hl.1 rfl (lv_room (Nat.le_of_ble_eq_true rfl)) dL_law_427 ⟨Nat.le_of_ble_eq_true rfl, Nat.le_of_ble_eq_true rfl⟩) hS (fun r_8 G_9 H locs hpo hW hS => ?_)
    have hX_12 : Q_line p0 p1 p2 G_2 r_8 G_9 := hpo
    obtain ⟨hB_G_9, hq_10, -⟩ := hpo
    obtain ⟨u_13, u_14⟩ := L_line_1 hX_5 hX_12 rfl rfl rfl (by omega)
    refine lv_icmp_eq (tgt := 1641) hx hb dL_law_430 rfl (fun c_15 => ?_) (fun c_15 => ?_)
    · have c_15 : r_1.toInt = r_8.toInt := xI_eq rfl rfl c_15
      exact K G_9 _ _ _ (Or.inl (LI_of_1 (LIn_fr_1 (LIn_fr_1 (show LIn_1 G from ⟨hv_0_0, hv_0_1, hv_6_4, hj0, hj1, hj2, hj3, hj4, hj5, hj6, hj7, hj8, hj9, hj10, hj11⟩) hq_3 (by decide +kernel)) hq_10 (by decide +kernel)) (by omega))) hB_G_9 hW hS (lv_sub hl [0, 1, 2, 3] rfl)
    · have c_15 : r_1.toInt ≠ r_8.toInt := xI_ne rfl rfl c_15
      exfalso; omega
  · skip
    obtain ⟨p0, hp0⟩ : ∃ y, y = xs (i0 + 1).toNatClampNeg := ⟨_, rfl⟩
    obtain ⟨p1, hp1⟩ : ∃ y, y = xs (i0 + 2).toNatClampNeg := ⟨_, rfl⟩
    obtain ⟨p2, hp2⟩ : ∃ y, y = xs (i0 + 3).toNatClampNeg := ⟨_, rfl⟩
    obtain ⟨p3, hp3⟩ : ∃ y, y = xs (i0 + 4).toNatClampNeg := ⟨_, rfl⟩
    obtain ⟨p4, hp4⟩ : ∃ y, y = xs (i0 + 5).toNatClampNeg := ⟨_, rfl⟩
    refine lv_aload_n hx hb dL_law_392 rfl (lv_at hl 1 rfl) ?_
    refine ld_1 hL hi0 hi6 hx hb hX hbl hbA hS hl dL_law_393 dL_law_394 dL_law_395 dL_law_396 dL_law_397 hp0 ?_
    refine ld_2 hL hi0 hi6 hx hb hX hbl hbA hS hl dL_law_398 dL_law_399 dL_law_400 dL_law_401 dL_law_402 hp1 ?_
    refine ld_3 hL hi0 hi6 hx hb hX hbl hbA hS hl dL_law_403 dL_law_404 dL_law_405 dL_law_406 dL_law_407 hp2 ?_
    refine S_calli (va_runV (As := [.int p0, .int p1, .int p2]) (rest := []) ⟨hx, hb, hml, hown, hts⟩ (k_Wline_2 l D k A a z G p0 p1 p2 hv_0_0 hv_0_1 hv_6_4) (cwV 3 hts (gd_V hgd m903 m904 m905 m117 m906) rfl rfl rfl hd_X11_line ⟨Nat.le_of_ble_eq_true rfl, Nat.le_of_ble_eq_true rfl⟩) (pre_W hW hB_G hK hZ hS kd_0 rfl) rfl rfl hl.1 rfl (lv_room (Nat.le_of_ble_eq_true rfl)) dL_law_408 ⟨Nat.le_of_ble_eq_true rfl, Nat.le_of_ble_eq_true rfl⟩) hS (fun r_1 G_2 H locs hpo hW hS => ?_)
    have hX_5 : P_Wline_2 p0 p1 p2 G r_1 G_2 := hpo
    obtain ⟨hB_G_2, hq_3, -⟩ := hpo
    refine lv_aload_n hx hb dL_law_411 rfl (lv_at hl 2 rfl) ?_
    refine ld_1 hL hi0 hi6 hx hb hX hbl hbA hS hl dL_law_412 dL_law_413 dL_law_414 dL_law_415 dL_law_416 hp0 ?_
    refine ld_2 hL hi0 hi6 hx hb hX hbl hbA hS hl dL_law_417 dL_law_418 dL_law_419 dL_law_420 dL_law_421 hp1 ?_
    refine ld_3 hL hi0 hi6 hx hb hX hbl hbA hS hl dL_law_422 dL_law_423 dL_law_424 dL_law_425 dL_law_426 hp2 ?_
    have fr_6 : Fr [37, 38, 39] [(6, 3)] G G_2 := (Fr.call9 (rs := [37, 38, 39]) (fs := [(6, 3)]) Fr.rf hq_3 rfl rfl)
    have g_7 : gP G_2 = gP G := gP_fr fr_6 (gr_q rfl) (gf_q rfl)
    refine S_calli (va_runV (As := [.int p0, .int p1, .int p2]) (rest := [.int r_1]) ⟨hx, hb, hml, hown, hts⟩ (n_line l D k A a z G_2 p0 p1 p2 (by omega)) (cwV 3 hts (gd_V hgd m1795 m1796 m1797 m131 m1798) rfl rfl rfl hd_X12_line ⟨Nat.le_of_ble_eq_true rfl, Nat.le_of_ble_eq_true rfl⟩) (pre_W hW hB_G_2 hK hZ hS kd_66 rfl) rfl rfl hl.1 rfl (lv_room (Nat.le_of_ble_eq_true rfl)) dL_law_427 ⟨Nat.le_of_ble_eq_true rfl, Nat.le_of_ble_eq_true rfl⟩) hS (fun r_8 G_9 H locs hpo hW hS => ?_)
    have hX_12 : Q_line p0 p1 p2 G_2 r_8 G_9 := hpo
    obtain ⟨hB_G_9, hq_10, -⟩ := hpo
    obtain ⟨u_13, u_14⟩ := L_line_2 hX_5 hX_12 rfl rfl rfl (by omega)
    refine lv_icmp_eq (tgt := 1641) hx hb dL_law_430 rfl (fun c_15 => ?_) (fun c_15 => ?_)
    · have c_15 : r_1.toInt = r_8.toInt := xI_eq rfl rfl c_15
      exact K G_9 _ _ _ (Or.inr (LI_of_2 (LIn_fr_2 (LIn_fr_2 (show LIn_2 G from ⟨hv_0_0, hv_0_1, hv_6_4, hj0, hj1, hj2, hj3, hj4, hj5, hj6, hj7, hj8, hj9, hj10, hj11⟩) hq_3 (by decide +kernel)) hq_10 (by decide +kernel)) (by omega))) hB_G_9 hW hS (lv_sub hl [0, 1, 2, 3] rfl)
    · have c_15 : r_1.toInt ≠ r_8.toInt := xI_ne rfl rfl c_15
      exfalso; omega

set_option maxHeartbeats 4000000 in
set_option maxRecDepth 100000 in
theorem law_7 {p : Program} {l : Launch} {e : Env} {s : State} {m : MethodId} {below : List Frame} {meth : Method} {c : Code} {D : va_G} {k : KT} {A : Nat → Prop} {a : Nat → Nat} {z : SK} {b L : Nat} {xs : Nat → Int32} (hL : L ≤ 3072) (C0 : lw_At p s m meth c b L xs) (hK : cK D k s) (hZ : Sx A z s) (hbA : ¬ A b) {G : GS} {i0 : Int32} (hi0 : 0 ≤ i0.toInt) (hi6 : i0.toInt + 6 ≤ L) (hI : LI G) (hB_G : Bd G) {H : Heap} {locs : List Loc} {ls : Array Slot} (hW : Wd D k A a G H) (hS : va_S A s.heap H locs) (hl : lv_has ls 4 [(0, .ref b), (1, .ref (a 0)), (2, .ref (a 66)), (3, .int i0)]) (K : ∀ (G1 : GS) (H1 : Heap) (locs1 : List Loc) (ls1 : Array Slot), LI G1 → Bd G1 → Wd D k A a G1 H1 → va_S A s.heap H1 locs1 → lv_has ls1 4 [(0, .ref b), (1, .ref (a 0)), (2, .ref (a 66)), (3, .int i0)] → W p l e room_1 s m #[Value.ref b] below meth c H1 locs1 119 46443 (lw_Z below #[Value.ref b] s) (F0 m 1641 ls1 [])) : W p l e room_1 s m #[Value.ref b] below meth c H locs 119 46443 (lw_Z below #[Value.ref b] s) (F0 m 435 ls []) := by
  obtain ⟨hx, hb, hr, hml, hown, hts, hX, hbl, hlocks, hgv⟩ := id C0
  have hown : s.vm.findClass RL = some m.cls := hown
  have hgd : ∀ w ∈ gd, w ∈ lw_tbl := fun w h => (List.mem_filter.mp h).1
  have hg : ∀ w ∈ gd, w.before #[Value.ref b] s = true := fun w h => hts w (hgd w h)
  rcases hI with ⟨hv_0_0, hv_0_1, hv_6_4, hj0, hj1, hj2, hj3, hj4, hj5, hj6, hj7, hj8, hj9, hj10, hj11, hj12⟩ | ⟨hv_0_0, hv_0_1, hv_6_4, hj0, hj1, hj2, hj3, hj4, hj5, hj6, hj7, hj8, hj9, hj10, hj11, hj12⟩
  · skip
    obtain ⟨p0, hp0⟩ : ∃ y, y = xs (i0 + 1).toNatClampNeg := ⟨_, rfl⟩
    obtain ⟨p1, hp1⟩ : ∃ y, y = xs (i0 + 2).toNatClampNeg := ⟨_, rfl⟩
    obtain ⟨p2, hp2⟩ : ∃ y, y = xs (i0 + 3).toNatClampNeg := ⟨_, rfl⟩
    obtain ⟨p3, hp3⟩ : ∃ y, y = xs (i0 + 4).toNatClampNeg := ⟨_, rfl⟩
    obtain ⟨p4, hp4⟩ : ∃ y, y = xs (i0 + 5).toNatClampNeg := ⟨_, rfl⟩
    refine lv_aload_n hx hb dL_law_435 rfl (lv_at hl 1 rfl) ?_
    refine ld_1 hL hi0 hi6 hx hb hX hbl hbA hS hl dL_law_436 dL_law_437 dL_law_438 dL_law_439 dL_law_440 hp0 ?_
    refine ld_2 hL hi0 hi6 hx hb hX hbl hbA hS hl dL_law_441 dL_law_442 dL_law_443 dL_law_444 dL_law_445 hp1 ?_
    refine ld_3 hL hi0 hi6 hx hb hX hbl hbA hS hl dL_law_446 dL_law_447 dL_law_448 dL_law_449 dL_law_450 hp2 ?_
    refine S_calli (va_runV (As := [.int p0, .int p1, .int p2]) (rest := []) ⟨hx, hb, hml, hown, hts⟩ (k_Wgap_1 l D k A a z G p0 p1 p2 hv_0_0 hv_0_1 hv_6_4) (cwV 3 hts (gd_V hgd m945 m946 m947 m117 m948) rfl rfl rfl hd_X11_gap ⟨Nat.le_of_ble_eq_true rfl, Nat.le_of_ble_eq_true rfl⟩) (pre_W hW hB_G hK hZ hS kd_0 rfl) rfl rfl hl.1 rfl (lv_room (Nat.le_of_ble_eq_true rfl)) dL_law_451 ⟨Nat.le_of_ble_eq_true rfl, Nat.le_of_ble_eq_true rfl⟩) hS (fun r_1 G_2 H locs hpo hW hS => ?_)
    have hX_5 : P_Wgap_1 p0 p1 p2 G r_1 G_2 := hpo
    obtain ⟨hB_G_2, hq_3, -⟩ := hpo
    refine lv_pop hx hb dL_law_454 rfl ?_
    refine lv_aload_n hx hb dL_law_455 rfl (lv_at hl 2 rfl) ?_
    refine ld_1 hL hi0 hi6 hx hb hX hbl hbA hS hl dL_law_456 dL_law_457 dL_law_458 dL_law_459 dL_law_460 hp0 ?_
    refine ld_2 hL hi0 hi6 hx hb hX hbl hbA hS hl dL_law_461 dL_law_462 dL_law_463 dL_law_464 dL_law_465 hp1 ?_
    refine ld_3 hL hi0 hi6 hx hb hX hbl hbA hS hl dL_law_466 dL_law_467 dL_law_468 dL_law_469 dL_law_470 hp2 ?_
    have fr_6 : Fr [37, 38, 39] [(6, 3)] G G_2 := (Fr.call9 (rs := [37, 38, 39]) (fs := [(6, 3)]) Fr.rf hq_3 rfl rfl)
    have g_7 : gP G_2 = gP G := gP_fr fr_6 (gr_q rfl) (gf_q rfl)
    refine S_calli (va_runV (As := [.int p0, .int p1, .int p2]) (rest := []) ⟨hx, hb, hml, hown, hts⟩ (n_gap l D k A a z G_2 p0 p1 p2 (by omega)) (cwV 3 hts (gd_V hgd m1818 m1819 m1820 m131 m1821) rfl rfl rfl hd_X12_gap ⟨Nat.le_of_ble_eq_true rfl, Nat.le_of_ble_eq_true rfl⟩) (pre_W hW hB_G_2 hK hZ hS kd_66 rfl) rfl rfl hl.1 rfl (lv_room (Nat.le_of_ble_eq_true rfl)) dL_law_471 ⟨Nat.le_of_ble_eq_true rfl, Nat.le_of_ble_eq_true rfl⟩) hS (fun r_8 G_9 H locs hpo hW hS => ?_)
    have hX_12 : Q_gap p0 p1 p2 G_2 r_8 G_9 := hpo
    obtain ⟨hB_G_9, hq_10, -⟩ := hpo
    obtain ⟨u_13, u_14⟩ := L_gap_1 hX_5 hX_12 rfl rfl rfl (by omega)
    refine lv_pop hx hb dL_law_474 rfl ?_
    refine lv_goto (tgt := 1641) hx hb dL_law_475 rfl ?_
    exact K G_9 _ _ _ (Or.inl (LI_of_1 (LIn_fr_1 (LIn_fr_1 (show LIn_1 G from ⟨hv_0_0, hv_0_1, hv_6_4, hj0, hj1, hj2, hj3, hj4, hj5, hj6, hj7, hj8, hj9, hj10, hj11⟩) hq_3 (by decide +kernel)) hq_10 (by decide +kernel)) (by omega))) hB_G_9 hW hS (lv_sub hl [0, 1, 2, 3] rfl)
  · skip
    obtain ⟨p0, hp0⟩ : ∃ y, y = xs (i0 + 1).toNatClampNeg := ⟨_, rfl⟩
    obtain ⟨p1, hp1⟩ : ∃ y, y = xs (i0 + 2).toNatClampNeg := ⟨_, rfl⟩
    obtain ⟨p2, hp2⟩ : ∃ y, y = xs (i0 + 3).toNatClampNeg := ⟨_, rfl⟩
    obtain ⟨p3, hp3⟩ : ∃ y, y = xs (i0 + 4).toNatClampNeg := ⟨_, rfl⟩
    obtain ⟨p4, hp4⟩ : ∃ y, y = xs (i0 + 5).toNatClampNeg := ⟨_, rfl⟩
    refine lv_aload_n hx hb dL_law_435 rfl (lv_at hl 1 rfl) ?_
    refine ld_1 hL hi0 hi6 hx hb hX hbl hbA hS hl dL_law_436 dL_law_437 dL_law_438 dL_law_439 dL_law_440 hp0 ?_
    refine ld_2 hL hi0 hi6 hx hb hX hbl hbA hS hl dL_law_441 dL_law_442 dL_law_443 dL_law_444 dL_law_445 hp1 ?_
    refine ld_3 hL hi0 hi6 hx hb hX hbl hbA hS hl dL_law_446 dL_law_447 dL_law_448 dL_law_449 dL_law_450 hp2 ?_
    refine S_calli (va_runV (As := [.int p0, .int p1, .int p2]) (rest := []) ⟨hx, hb, hml, hown, hts⟩ (k_Wgap_2 l D k A a z G p0 p1 p2 hv_0_0 hv_0_1 hv_6_4) (cwV 3 hts (gd_V hgd m945 m946 m947 m117 m948) rfl rfl rfl hd_X11_gap ⟨Nat.le_of_ble_eq_true rfl, Nat.le_of_ble_eq_true rfl⟩) (pre_W hW hB_G hK hZ hS kd_0 rfl) rfl rfl hl.1 rfl (lv_room (Nat.le_of_ble_eq_true rfl)) dL_law_451 ⟨Nat.le_of_ble_eq_true rfl, Nat.le_of_ble_eq_true rfl⟩) hS (fun r_1 G_2 H locs hpo hW hS => ?_)
    have hX_5 : P_Wgap_2 p0 p1 p2 G r_1 G_2 := hpo
    obtain ⟨hB_G_2, hq_3, -⟩ := hpo
    refine lv_pop hx hb dL_law_454 rfl ?_
    refine lv_aload_n hx hb dL_law_455 rfl (lv_at hl 2 rfl) ?_
    refine ld_1 hL hi0 hi6 hx hb hX hbl hbA hS hl dL_law_456 dL_law_457 dL_law_458 dL_law_459 dL_law_460 hp0 ?_
    refine ld_2 hL hi0 hi6 hx hb hX hbl hbA hS hl dL_law_461 dL_law_462 dL_law_463 dL_law_464 dL_law_465 hp1 ?_
    refine ld_3 hL hi0 hi6 hx hb hX hbl hbA hS hl dL_law_466 dL_law_467 dL_law_468 dL_law_469 dL_law_470 hp2 ?_
    have fr_6 : Fr [37, 38, 39] [(6, 3)] G G_2 := (Fr.call9 (rs := [37, 38, 39]) (fs := [(6, 3)]) Fr.rf hq_3 rfl rfl)
    have g_7 : gP G_2 = gP G := gP_fr fr_6 (gr_q rfl) (gf_q rfl)
    refine S_calli (va_runV (As := [.int p0, .int p1, .int p2]) (rest := []) ⟨hx, hb, hml, hown, hts⟩ (n_gap l D k A a z G_2 p0 p1 p2 (by omega)) (cwV 3 hts (gd_V hgd m1818 m1819 m1820 m131 m1821) rfl rfl rfl hd_X12_gap ⟨Nat.le_of_ble_eq_true rfl, Nat.le_of_ble_eq_true rfl⟩) (pre_W hW hB_G_2 hK hZ hS kd_66 rfl) rfl rfl hl.1 rfl (lv_room (Nat.le_of_ble_eq_true rfl)) dL_law_471 ⟨Nat.le_of_ble_eq_true rfl, Nat.le_of_ble_eq_true rfl⟩) hS (fun r_8 G_9 H locs hpo hW hS => ?_)
    have hX_12 : Q_gap p0 p1 p2 G_2 r_8 G_9 := hpo
    obtain ⟨hB_G_9, hq_10, -⟩ := hpo
    obtain ⟨u_13, u_14⟩ := L_gap_2 hX_5 hX_12 rfl rfl rfl (by omega)
    refine lv_pop hx hb dL_law_474 rfl ?_
    refine lv_goto (tgt := 1641) hx hb dL_law_475 rfl ?_
    exact K G_9 _ _ _ (Or.inr (LI_of_2 (LIn_fr_2 (LIn_fr_2 (show LIn_2 G from ⟨hv_0_0, hv_0_1, hv_6_4, hj0, hj1, hj2, hj3, hj4, hj5, hj6, hj7, hj8, hj9, hj10, hj11⟩) hq_3 (by decide +kernel)) hq_10 (by decide +kernel)) (by omega))) hB_G_9 hW hS (lv_sub hl [0, 1, 2, 3] rfl)

set_option maxHeartbeats 4000000 in
set_option maxRecDepth 100000 in
theorem law_8 {p : Program} {l : Launch} {e : Env} {s : State} {m : MethodId} {below : List Frame} {meth : Method} {c : Code} {D : va_G} {k : KT} {A : Nat → Prop} {a : Nat → Nat} {z : SK} {b L : Nat} {xs : Nat → Int32} (hL : L ≤ 3072) (C0 : lw_At p s m meth c b L xs) (hK : cK D k s) (hZ : Sx A z s) (hbA : ¬ A b) {G : GS} {i0 : Int32} (hi0 : 0 ≤ i0.toInt) (hi6 : i0.toInt + 6 ≤ L) (hI : LI G) (hB_G : Bd G) {H : Heap} {locs : List Loc} {ls : Array Slot} (hW : Wd D k A a G H) (hS : va_S A s.heap H locs) (hl : lv_has ls 4 [(0, .ref b), (1, .ref (a 0)), (2, .ref (a 66)), (3, .int i0)]) (K : ∀ (G1 : GS) (H1 : Heap) (locs1 : List Loc) (ls1 : Array Slot), LI G1 → Bd G1 → Wd D k A a G1 H1 → va_S A s.heap H1 locs1 → lv_has ls1 4 [(0, .ref b), (1, .ref (a 0)), (2, .ref (a 66)), (3, .int i0)] → W p l e room_1 s m #[Value.ref b] below meth c H1 locs1 119 46443 (lw_Z below #[Value.ref b] s) (F0 m 1641 ls1 [])) : W p l e room_1 s m #[Value.ref b] below meth c H locs 119 46443 (lw_Z below #[Value.ref b] s) (F0 m 478 ls []) := by
  obtain ⟨hx, hb, hr, hml, hown, hts, hX, hbl, hlocks, hgv⟩ := id C0
  have hown : s.vm.findClass RL = some m.cls := hown
  have hgd : ∀ w ∈ gd, w ∈ lw_tbl := fun w h => (List.mem_filter.mp h).1
  have hg : ∀ w ∈ gd, w.before #[Value.ref b] s = true := fun w h => hts w (hgd w h)
  rcases hI with ⟨hv_0_0, hv_0_1, hv_6_4, hj0, hj1, hj2, hj3, hj4, hj5, hj6, hj7, hj8, hj9, hj10, hj11, hj12⟩ | ⟨hv_0_0, hv_0_1, hv_6_4, hj0, hj1, hj2, hj3, hj4, hj5, hj6, hj7, hj8, hj9, hj10, hj11, hj12⟩
  · skip
    obtain ⟨p0, hp0⟩ : ∃ y, y = xs (i0 + 1).toNatClampNeg := ⟨_, rfl⟩
    obtain ⟨p1, hp1⟩ : ∃ y, y = xs (i0 + 2).toNatClampNeg := ⟨_, rfl⟩
    obtain ⟨p2, hp2⟩ : ∃ y, y = xs (i0 + 3).toNatClampNeg := ⟨_, rfl⟩
    obtain ⟨p3, hp3⟩ : ∃ y, y = xs (i0 + 4).toNatClampNeg := ⟨_, rfl⟩
    obtain ⟨p4, hp4⟩ : ∃ y, y = xs (i0 + 5).toNatClampNeg := ⟨_, rfl⟩
    refine lv_aload_n hx hb dL_law_478 rfl (lv_at hl 1 rfl) ?_
    refine ld_1 hL hi0 hi6 hx hb hX hbl hbA hS hl dL_law_479 dL_law_480 dL_law_481 dL_law_482 dL_law_483 hp0 ?_
    refine ld_2 hL hi0 hi6 hx hb hX hbl hbA hS hl dL_law_484 dL_law_485 dL_law_486 dL_law_487 dL_law_488 hp1 ?_
    refine ld_3 hL hi0 hi6 hx hb hX hbl hbA hS hl dL_law_489 dL_law_490 dL_law_491 dL_law_492 dL_law_493 hp2 ?_
    refine ld_4 hL hi0 hi6 hx hb hX hbl hbA hS hl dL_law_494 dL_law_495 dL_law_496 dL_law_497 dL_law_498 hp3 ?_
    refine S_calli (va_runV (As := [.int p0, .int p1, .int p2, .int p3]) (rest := []) ⟨hx, hb, hml, hown, hts⟩ (k_Wfoot_1 l D k A a z G p0 p1 p2 p3 hv_0_0 hv_0_1 hv_6_4) (cwV 4 hts (gd_V hgd m949 m950 m951 m117 m952) rfl rfl rfl hd_X11_foot ⟨Nat.le_of_ble_eq_true rfl, Nat.le_of_ble_eq_true rfl⟩) (pre_W hW hB_G hK hZ hS kd_0 rfl) rfl rfl hl.1 rfl (lv_room (Nat.le_of_ble_eq_true rfl)) dL_law_499 ⟨Nat.le_of_ble_eq_true rfl, Nat.le_of_ble_eq_true rfl⟩) hS (fun r_1 G_2 H locs hpo hW hS => ?_)
    have hX_5 : P_Wfoot_1 p0 p1 p2 p3 G r_1 G_2 := hpo
    obtain ⟨hB_G_2, hq_3, -⟩ := hpo
    refine lv_pop hx hb dL_law_502 rfl ?_
    refine lv_aload_n hx hb dL_law_503 rfl (lv_at hl 2 rfl) ?_
    refine ld_1 hL hi0 hi6 hx hb hX hbl hbA hS hl dL_law_504 dL_law_505 dL_law_506 dL_law_507 dL_law_508 hp0 ?_
    refine ld_2 hL hi0 hi6 hx hb hX hbl hbA hS hl dL_law_509 dL_law_510 dL_law_511 dL_law_512 dL_law_513 hp1 ?_
    refine ld_3 hL hi0 hi6 hx hb hX hbl hbA hS hl dL_law_514 dL_law_515 dL_law_516 dL_law_517 dL_law_518 hp2 ?_
    refine ld_4 hL hi0 hi6 hx hb hX hbl hbA hS hl dL_law_519 dL_law_520 dL_law_521 dL_law_522 dL_law_523 hp3 ?_
    have fr_6 : Fr [37, 38, 39] [(6, 3)] G G_2 := (Fr.call9 (rs := [37, 38, 39]) (fs := [(6, 3)]) Fr.rf hq_3 rfl rfl)
    have g_7 : gP G_2 = gP G := gP_fr fr_6 (gr_q rfl) (gf_q rfl)
    refine S_calli (va_runV (As := [.int p0, .int p1, .int p2, .int p3]) (rest := []) ⟨hx, hb, hml, hown, hts⟩ (n_foot l D k A a z G_2 p0 p1 p2 p3 (by omega)) (cwV 4 hts (gd_V hgd m1822 m1823 m1824 m131 m1825) rfl rfl rfl hd_X12_foot ⟨Nat.le_of_ble_eq_true rfl, Nat.le_of_ble_eq_true rfl⟩) (pre_W hW hB_G_2 hK hZ hS kd_66 rfl) rfl rfl hl.1 rfl (lv_room (Nat.le_of_ble_eq_true rfl)) dL_law_524 ⟨Nat.le_of_ble_eq_true rfl, Nat.le_of_ble_eq_true rfl⟩) hS (fun r_8 G_9 H locs hpo hW hS => ?_)
    have hX_12 : Q_foot p0 p1 p2 p3 G_2 r_8 G_9 := hpo
    obtain ⟨hB_G_9, hq_10, -⟩ := hpo
    obtain ⟨u_13, u_14⟩ := L_foot_1 hX_5 hX_12 rfl rfl rfl rfl (by omega)
    refine lv_pop hx hb dL_law_527 rfl ?_
    refine lv_goto (tgt := 1641) hx hb dL_law_528 rfl ?_
    exact K G_9 _ _ _ (Or.inl (LI_of_1 (LIn_fr_1 (LIn_fr_1 (show LIn_1 G from ⟨hv_0_0, hv_0_1, hv_6_4, hj0, hj1, hj2, hj3, hj4, hj5, hj6, hj7, hj8, hj9, hj10, hj11⟩) hq_3 (by decide +kernel)) hq_10 (by decide +kernel)) (by omega))) hB_G_9 hW hS (lv_sub hl [0, 1, 2, 3] rfl)
  · skip
    obtain ⟨p0, hp0⟩ : ∃ y, y = xs (i0 + 1).toNatClampNeg := ⟨_, rfl⟩
    obtain ⟨p1, hp1⟩ : ∃ y, y = xs (i0 + 2).toNatClampNeg := ⟨_, rfl⟩
    obtain ⟨p2, hp2⟩ : ∃ y, y = xs (i0 + 3).toNatClampNeg := ⟨_, rfl⟩
    obtain ⟨p3, hp3⟩ : ∃ y, y = xs (i0 + 4).toNatClampNeg := ⟨_, rfl⟩
    obtain ⟨p4, hp4⟩ : ∃ y, y = xs (i0 + 5).toNatClampNeg := ⟨_, rfl⟩
    refine lv_aload_n hx hb dL_law_478 rfl (lv_at hl 1 rfl) ?_
    refine ld_1 hL hi0 hi6 hx hb hX hbl hbA hS hl dL_law_479 dL_law_480 dL_law_481 dL_law_482 dL_law_483 hp0 ?_
    refine ld_2 hL hi0 hi6 hx hb hX hbl hbA hS hl dL_law_484 dL_law_485 dL_law_486 dL_law_487 dL_law_488 hp1 ?_
    refine ld_3 hL hi0 hi6 hx hb hX hbl hbA hS hl dL_law_489 dL_law_490 dL_law_491 dL_law_492 dL_law_493 hp2 ?_
    refine ld_4 hL hi0 hi6 hx hb hX hbl hbA hS hl dL_law_494 dL_law_495 dL_law_496 dL_law_497 dL_law_498 hp3 ?_
    refine S_calli (va_runV (As := [.int p0, .int p1, .int p2, .int p3]) (rest := []) ⟨hx, hb, hml, hown, hts⟩ (k_Wfoot_2 l D k A a z G p0 p1 p2 p3 hv_0_0 hv_0_1 hv_6_4) (cwV 4 hts (gd_V hgd m949 m950 m951 m117 m952) rfl rfl rfl hd_X11_foot ⟨Nat.le_of_ble_eq_true rfl, Nat.le_of_ble_eq_true rfl⟩) (pre_W hW hB_G hK hZ hS kd_0 rfl) rfl rfl hl.1 rfl (lv_room (Nat.le_of_ble_eq_true rfl)) dL_law_499 ⟨Nat.le_of_ble_eq_true rfl, Nat.le_of_ble_eq_true rfl⟩) hS (fun r_1 G_2 H locs hpo hW hS => ?_)
    have hX_5 : P_Wfoot_2 p0 p1 p2 p3 G r_1 G_2 := hpo
    obtain ⟨hB_G_2, hq_3, -⟩ := hpo
    refine lv_pop hx hb dL_law_502 rfl ?_
    refine lv_aload_n hx hb dL_law_503 rfl (lv_at hl 2 rfl) ?_
    refine ld_1 hL hi0 hi6 hx hb hX hbl hbA hS hl dL_law_504 dL_law_505 dL_law_506 dL_law_507 dL_law_508 hp0 ?_
    refine ld_2 hL hi0 hi6 hx hb hX hbl hbA hS hl dL_law_509 dL_law_510 dL_law_511 dL_law_512 dL_law_513 hp1 ?_
    refine ld_3 hL hi0 hi6 hx hb hX hbl hbA hS hl dL_law_514 dL_law_515 dL_law_516 dL_law_517 dL_law_518 hp2 ?_
    refine ld_4 hL hi0 hi6 hx hb hX hbl hbA hS hl dL_law_519 dL_law_520 dL_law_521 dL_law_522 dL_law_523 hp3 ?_
    have fr_6 : Fr [37, 38, 39] [(6, 3)] G G_2 := (Fr.call9 (rs := [37, 38, 39]) (fs := [(6, 3)]) Fr.rf hq_3 rfl rfl)
    have g_7 : gP G_2 = gP G := gP_fr fr_6 (gr_q rfl) (gf_q rfl)
    refine S_calli (va_runV (As := [.int p0, .int p1, .int p2, .int p3]) (rest := []) ⟨hx, hb, hml, hown, hts⟩ (n_foot l D k A a z G_2 p0 p1 p2 p3 (by omega)) (cwV 4 hts (gd_V hgd m1822 m1823 m1824 m131 m1825) rfl rfl rfl hd_X12_foot ⟨Nat.le_of_ble_eq_true rfl, Nat.le_of_ble_eq_true rfl⟩) (pre_W hW hB_G_2 hK hZ hS kd_66 rfl) rfl rfl hl.1 rfl (lv_room (Nat.le_of_ble_eq_true rfl)) dL_law_524 ⟨Nat.le_of_ble_eq_true rfl, Nat.le_of_ble_eq_true rfl⟩) hS (fun r_8 G_9 H locs hpo hW hS => ?_)
    have hX_12 : Q_foot p0 p1 p2 p3 G_2 r_8 G_9 := hpo
    obtain ⟨hB_G_9, hq_10, -⟩ := hpo
    obtain ⟨u_13, u_14⟩ := L_foot_2 hX_5 hX_12 rfl rfl rfl rfl (by omega)
    refine lv_pop hx hb dL_law_527 rfl ?_
    refine lv_goto (tgt := 1641) hx hb dL_law_528 rfl ?_
    exact K G_9 _ _ _ (Or.inr (LI_of_2 (LIn_fr_2 (LIn_fr_2 (show LIn_2 G from ⟨hv_0_0, hv_0_1, hv_6_4, hj0, hj1, hj2, hj3, hj4, hj5, hj6, hj7, hj8, hj9, hj10, hj11⟩) hq_3 (by decide +kernel)) hq_10 (by decide +kernel)) (by omega))) hB_G_9 hW hS (lv_sub hl [0, 1, 2, 3] rfl)

set_option maxHeartbeats 4000000 in
set_option maxRecDepth 100000 in
theorem law_9 {p : Program} {l : Launch} {e : Env} {s : State} {m : MethodId} {below : List Frame} {meth : Method} {c : Code} {D : va_G} {k : KT} {A : Nat → Prop} {a : Nat → Nat} {z : SK} {b L : Nat} {xs : Nat → Int32} (hL : L ≤ 3072) (C0 : lw_At p s m meth c b L xs) (hK : cK D k s) (hZ : Sx A z s) (hbA : ¬ A b) {G : GS} {i0 : Int32} (hi0 : 0 ≤ i0.toInt) (hi6 : i0.toInt + 6 ≤ L) (hI : LI G) (hB_G : Bd G) {H : Heap} {locs : List Loc} {ls : Array Slot} (hW : Wd D k A a G H) (hS : va_S A s.heap H locs) (hl : lv_has ls 4 [(0, .ref b), (1, .ref (a 0)), (2, .ref (a 66)), (3, .int i0)]) (K : ∀ (G1 : GS) (H1 : Heap) (locs1 : List Loc) (ls1 : Array Slot), LI G1 → Bd G1 → Wd D k A a G1 H1 → va_S A s.heap H1 locs1 → lv_has ls1 4 [(0, .ref b), (1, .ref (a 0)), (2, .ref (a 66)), (3, .int i0)] → W p l e room_1 s m #[Value.ref b] below meth c H1 locs1 119 46443 (lw_Z below #[Value.ref b] s) (F0 m 1641 ls1 [])) : W p l e room_1 s m #[Value.ref b] below meth c H locs 119 46443 (lw_Z below #[Value.ref b] s) (F0 m 531 ls []) := by
  obtain ⟨hx, hb, hr, hml, hown, hts, hX, hbl, hlocks, hgv⟩ := id C0
  have hown : s.vm.findClass RL = some m.cls := hown
  have hgd : ∀ w ∈ gd, w ∈ lw_tbl := fun w h => (List.mem_filter.mp h).1
  have hg : ∀ w ∈ gd, w.before #[Value.ref b] s = true := fun w h => hts w (hgd w h)
  rcases hI with ⟨hv_0_0, hv_0_1, hv_6_4, hj0, hj1, hj2, hj3, hj4, hj5, hj6, hj7, hj8, hj9, hj10, hj11, hj12⟩ | ⟨hv_0_0, hv_0_1, hv_6_4, hj0, hj1, hj2, hj3, hj4, hj5, hj6, hj7, hj8, hj9, hj10, hj11, hj12⟩
  · skip
    obtain ⟨p0, hp0⟩ : ∃ y, y = xs (i0 + 1).toNatClampNeg := ⟨_, rfl⟩
    obtain ⟨p1, hp1⟩ : ∃ y, y = xs (i0 + 2).toNatClampNeg := ⟨_, rfl⟩
    obtain ⟨p2, hp2⟩ : ∃ y, y = xs (i0 + 3).toNatClampNeg := ⟨_, rfl⟩
    obtain ⟨p3, hp3⟩ : ∃ y, y = xs (i0 + 4).toNatClampNeg := ⟨_, rfl⟩
    obtain ⟨p4, hp4⟩ : ∃ y, y = xs (i0 + 5).toNatClampNeg := ⟨_, rfl⟩
    refine lv_aload_n hx hb dL_law_531 rfl (lv_at hl 1 rfl) ?_
    refine ld_1 hL hi0 hi6 hx hb hX hbl hbA hS hl dL_law_532 dL_law_533 dL_law_534 dL_law_535 dL_law_536 hp0 ?_
    refine ld_2 hL hi0 hi6 hx hb hX hbl hbA hS hl dL_law_537 dL_law_538 dL_law_539 dL_law_540 dL_law_541 hp1 ?_
    refine ld_3 hL hi0 hi6 hx hb hX hbl hbA hS hl dL_law_542 dL_law_543 dL_law_544 dL_law_545 dL_law_546 hp2 ?_
    refine ld_4 hL hi0 hi6 hx hb hX hbl hbA hS hl dL_law_547 dL_law_548 dL_law_549 dL_law_550 dL_law_551 hp3 ?_
    refine S_calli (va_runV (As := [.int p0, .int p1, .int p2, .int p3]) (rest := []) ⟨hx, hb, hml, hown, hts⟩ (k_Wfewest_1 l D k A a z G p0 p1 p2 p3 hv_0_0 hv_0_1 hv_6_4) (cwV 4 hts (gd_V hgd m971 m972 m973 m117 m974) rfl rfl rfl hd_X11_fewest ⟨Nat.le_of_ble_eq_true rfl, Nat.le_of_ble_eq_true rfl⟩) (pre_W hW hB_G hK hZ hS kd_0 rfl) rfl rfl hl.1 rfl (lv_room (Nat.le_of_ble_eq_true rfl)) dL_law_552 ⟨Nat.le_of_ble_eq_true rfl, Nat.le_of_ble_eq_true rfl⟩) hS (fun r_1 G_2 H locs hpo hW hS => ?_)
    have hX_5 : P_Wfewest_1 p0 p1 p2 p3 G r_1 G_2 := hpo
    obtain ⟨hB_G_2, hq_3, -⟩ := hpo
    refine lv_pop hx hb dL_law_555 rfl ?_
    refine lv_aload_n hx hb dL_law_556 rfl (lv_at hl 2 rfl) ?_
    refine ld_1 hL hi0 hi6 hx hb hX hbl hbA hS hl dL_law_557 dL_law_558 dL_law_559 dL_law_560 dL_law_561 hp0 ?_
    refine ld_2 hL hi0 hi6 hx hb hX hbl hbA hS hl dL_law_562 dL_law_563 dL_law_564 dL_law_565 dL_law_566 hp1 ?_
    refine ld_3 hL hi0 hi6 hx hb hX hbl hbA hS hl dL_law_567 dL_law_568 dL_law_569 dL_law_570 dL_law_571 hp2 ?_
    refine ld_4 hL hi0 hi6 hx hb hX hbl hbA hS hl dL_law_572 dL_law_573 dL_law_574 dL_law_575 dL_law_576 hp3 ?_
    have fr_6 : Fr [33, 37, 38, 39, 40, 42, 43, 44, 45] [(0, 12), (6, 3), (7, 1), (7, 2), (7, 3), (7, 4), (7, 5), (7, 6), (7, 7)] G G_2 := (Fr.call9 (rs := [33, 37, 38, 39, 40, 42, 43, 44, 45]) (fs := [(0, 12), (6, 3), (7, 1), (7, 2), (7, 3), (7, 4), (7, 5), (7, 6), (7, 7)]) Fr.rf hq_3 rfl rfl)
    have g_7 : gP G_2 = gP G := gP_fr fr_6 (gr_q rfl) (gf_q rfl)
    have g_8 : gW G_2 = gW G := gW_fr fr_6 (gr_q rfl) (gf_q rfl)
    refine S_calli (va_runV (As := [.int p0, .int p1, .int p2, .int p3]) (rest := []) ⟨hx, hb, hml, hown, hts⟩ (n_fewest l D k A a z G_2 p0 p1 p2 p3 (by omega) (by omega)) (cwV 4 hts (gd_V hgd m1842 m1843 m1844 m131 m1845) rfl rfl rfl hd_X12_fewest ⟨Nat.le_of_ble_eq_true rfl, Nat.le_of_ble_eq_true rfl⟩) (pre_W hW hB_G_2 hK hZ hS kd_66 rfl) rfl rfl hl.1 rfl (lv_room (Nat.le_of_ble_eq_true rfl)) dL_law_577 ⟨Nat.le_of_ble_eq_true rfl, Nat.le_of_ble_eq_true rfl⟩) hS (fun r_9 G_10 H locs hpo hW hS => ?_)
    have hX_13 : Q_fewest p0 p1 p2 p3 G_2 r_9 G_10 := hpo
    obtain ⟨hB_G_10, hq_11, -⟩ := hpo
    have u_14 := L_fewest_1 hX_5 hX_13 rfl rfl rfl rfl (by omega)
    refine lv_pop hx hb dL_law_580 rfl ?_
    refine lv_goto (tgt := 1641) hx hb dL_law_581 rfl ?_
    exact K G_10 _ _ _ (Or.inl (LI_of_1 (LIn_fr_1 (LIn_fr_1 (show LIn_1 G from ⟨hv_0_0, hv_0_1, hv_6_4, hj0, hj1, hj2, hj3, hj4, hj5, hj6, hj7, hj8, hj9, hj10, hj11⟩) hq_3 (by decide +kernel)) hq_11 (by decide +kernel)) (by omega))) hB_G_10 hW hS (lv_sub hl [0, 1, 2, 3] rfl)
  · skip
    obtain ⟨p0, hp0⟩ : ∃ y, y = xs (i0 + 1).toNatClampNeg := ⟨_, rfl⟩
    obtain ⟨p1, hp1⟩ : ∃ y, y = xs (i0 + 2).toNatClampNeg := ⟨_, rfl⟩
    obtain ⟨p2, hp2⟩ : ∃ y, y = xs (i0 + 3).toNatClampNeg := ⟨_, rfl⟩
    obtain ⟨p3, hp3⟩ : ∃ y, y = xs (i0 + 4).toNatClampNeg := ⟨_, rfl⟩
    obtain ⟨p4, hp4⟩ : ∃ y, y = xs (i0 + 5).toNatClampNeg := ⟨_, rfl⟩
    refine lv_aload_n hx hb dL_law_531 rfl (lv_at hl 1 rfl) ?_
    refine ld_1 hL hi0 hi6 hx hb hX hbl hbA hS hl dL_law_532 dL_law_533 dL_law_534 dL_law_535 dL_law_536 hp0 ?_
    refine ld_2 hL hi0 hi6 hx hb hX hbl hbA hS hl dL_law_537 dL_law_538 dL_law_539 dL_law_540 dL_law_541 hp1 ?_
    refine ld_3 hL hi0 hi6 hx hb hX hbl hbA hS hl dL_law_542 dL_law_543 dL_law_544 dL_law_545 dL_law_546 hp2 ?_
    refine ld_4 hL hi0 hi6 hx hb hX hbl hbA hS hl dL_law_547 dL_law_548 dL_law_549 dL_law_550 dL_law_551 hp3 ?_
    refine S_calli (va_runV (As := [.int p0, .int p1, .int p2, .int p3]) (rest := []) ⟨hx, hb, hml, hown, hts⟩ (k_Wfewest_2 l D k A a z G p0 p1 p2 p3 hv_0_0 hv_0_1 hv_6_4) (cwV 4 hts (gd_V hgd m971 m972 m973 m117 m974) rfl rfl rfl hd_X11_fewest ⟨Nat.le_of_ble_eq_true rfl, Nat.le_of_ble_eq_true rfl⟩) (pre_W hW hB_G hK hZ hS kd_0 rfl) rfl rfl hl.1 rfl (lv_room (Nat.le_of_ble_eq_true rfl)) dL_law_552 ⟨Nat.le_of_ble_eq_true rfl, Nat.le_of_ble_eq_true rfl⟩) hS (fun r_1 G_2 H locs hpo hW hS => ?_)
    have hX_5 : P_Wfewest_2 p0 p1 p2 p3 G r_1 G_2 := hpo
    obtain ⟨hB_G_2, hq_3, -⟩ := hpo
    refine lv_pop hx hb dL_law_555 rfl ?_
    refine lv_aload_n hx hb dL_law_556 rfl (lv_at hl 2 rfl) ?_
    refine ld_1 hL hi0 hi6 hx hb hX hbl hbA hS hl dL_law_557 dL_law_558 dL_law_559 dL_law_560 dL_law_561 hp0 ?_
    refine ld_2 hL hi0 hi6 hx hb hX hbl hbA hS hl dL_law_562 dL_law_563 dL_law_564 dL_law_565 dL_law_566 hp1 ?_
    refine ld_3 hL hi0 hi6 hx hb hX hbl hbA hS hl dL_law_567 dL_law_568 dL_law_569 dL_law_570 dL_law_571 hp2 ?_
    refine ld_4 hL hi0 hi6 hx hb hX hbl hbA hS hl dL_law_572 dL_law_573 dL_law_574 dL_law_575 dL_law_576 hp3 ?_
    have fr_6 : Fr [33, 37, 38, 39, 40, 42, 43, 44, 45] [(0, 12), (6, 3), (7, 1), (7, 2), (7, 3), (7, 4), (7, 5), (7, 6), (7, 7)] G G_2 := (Fr.call9 (rs := [33, 37, 38, 39, 40, 42, 43, 44, 45]) (fs := [(0, 12), (6, 3), (7, 1), (7, 2), (7, 3), (7, 4), (7, 5), (7, 6), (7, 7)]) Fr.rf hq_3 rfl rfl)
    have g_7 : gP G_2 = gP G := gP_fr fr_6 (gr_q rfl) (gf_q rfl)
    have g_8 : gW G_2 = gW G := gW_fr fr_6 (gr_q rfl) (gf_q rfl)
    refine S_calli (va_runV (As := [.int p0, .int p1, .int p2, .int p3]) (rest := []) ⟨hx, hb, hml, hown, hts⟩ (n_fewest l D k A a z G_2 p0 p1 p2 p3 (by omega) (by omega)) (cwV 4 hts (gd_V hgd m1842 m1843 m1844 m131 m1845) rfl rfl rfl hd_X12_fewest ⟨Nat.le_of_ble_eq_true rfl, Nat.le_of_ble_eq_true rfl⟩) (pre_W hW hB_G_2 hK hZ hS kd_66 rfl) rfl rfl hl.1 rfl (lv_room (Nat.le_of_ble_eq_true rfl)) dL_law_577 ⟨Nat.le_of_ble_eq_true rfl, Nat.le_of_ble_eq_true rfl⟩) hS (fun r_9 G_10 H locs hpo hW hS => ?_)
    have hX_13 : Q_fewest p0 p1 p2 p3 G_2 r_9 G_10 := hpo
    obtain ⟨hB_G_10, hq_11, -⟩ := hpo
    have u_14 := L_fewest_2 hX_5 hX_13 rfl rfl rfl rfl (by omega)
    refine lv_pop hx hb dL_law_580 rfl ?_
    refine lv_goto (tgt := 1641) hx hb dL_law_581 rfl ?_
    exact K G_10 _ _ _ (Or.inr (LI_of_2 (LIn_fr_2 (LIn_fr_2 (show LIn_2 G from ⟨hv_0_0, hv_0_1, hv_6_4, hj0, hj1, hj2, hj3, hj4, hj5, hj6, hj7, hj8, hj9, hj10, hj11⟩) hq_3 (by decide +kernel)) hq_11 (by decide +kernel)) (by omega))) hB_G_10 hW hS (lv_sub hl [0, 1, 2, 3] rfl)

set_option maxHeartbeats 4000000 in
set_option maxRecDepth 100000 in
theorem law_10 {p : Program} {l : Launch} {e : Env} {s : State} {m : MethodId} {below : List Frame} {meth : Method} {c : Code} {D : va_G} {k : KT} {A : Nat → Prop} {a : Nat → Nat} {z : SK} {b L : Nat} {xs : Nat → Int32} (hL : L ≤ 3072) (C0 : lw_At p s m meth c b L xs) (hK : cK D k s) (hZ : Sx A z s) (hbA : ¬ A b) {G : GS} {i0 : Int32} (hi0 : 0 ≤ i0.toInt) (hi6 : i0.toInt + 6 ≤ L) (hI : LI G) (hB_G : Bd G) {H : Heap} {locs : List Loc} {ls : Array Slot} (hW : Wd D k A a G H) (hS : va_S A s.heap H locs) (hl : lv_has ls 4 [(0, .ref b), (1, .ref (a 0)), (2, .ref (a 66)), (3, .int i0)]) (K : ∀ (G1 : GS) (H1 : Heap) (locs1 : List Loc) (ls1 : Array Slot), LI G1 → Bd G1 → Wd D k A a G1 H1 → va_S A s.heap H1 locs1 → lv_has ls1 4 [(0, .ref b), (1, .ref (a 0)), (2, .ref (a 66)), (3, .int i0)] → W p l e room_1 s m #[Value.ref b] below meth c H1 locs1 119 46443 (lw_Z below #[Value.ref b] s) (F0 m 1641 ls1 [])) : W p l e room_1 s m #[Value.ref b] below meth c H locs 119 46443 (lw_Z below #[Value.ref b] s) (F0 m 584 ls []) := by
  obtain ⟨hx, hb, hr, hml, hown, hts, hX, hbl, hlocks, hgv⟩ := id C0
  have hown : s.vm.findClass RL = some m.cls := hown
  have hgd : ∀ w ∈ gd, w ∈ lw_tbl := fun w h => (List.mem_filter.mp h).1
  have hg : ∀ w ∈ gd, w.before #[Value.ref b] s = true := fun w h => hts w (hgd w h)
  rcases hI with ⟨hv_0_0, hv_0_1, hv_6_4, hj0, hj1, hj2, hj3, hj4, hj5, hj6, hj7, hj8, hj9, hj10, hj11, hj12⟩ | ⟨hv_0_0, hv_0_1, hv_6_4, hj0, hj1, hj2, hj3, hj4, hj5, hj6, hj7, hj8, hj9, hj10, hj11, hj12⟩
  · skip
    obtain ⟨p0, hp0⟩ : ∃ y, y = xs (i0 + 1).toNatClampNeg := ⟨_, rfl⟩
    obtain ⟨p1, hp1⟩ : ∃ y, y = xs (i0 + 2).toNatClampNeg := ⟨_, rfl⟩
    obtain ⟨p2, hp2⟩ : ∃ y, y = xs (i0 + 3).toNatClampNeg := ⟨_, rfl⟩
    obtain ⟨p3, hp3⟩ : ∃ y, y = xs (i0 + 4).toNatClampNeg := ⟨_, rfl⟩
    obtain ⟨p4, hp4⟩ : ∃ y, y = xs (i0 + 5).toNatClampNeg := ⟨_, rfl⟩
    refine lv_aload_n hx hb dL_law_584 rfl (lv_at hl 1 rfl) ?_
    refine ld_1 hL hi0 hi6 hx hb hX hbl hbA hS hl dL_law_585 dL_law_586 dL_law_587 dL_law_588 dL_law_589 hp0 ?_
    refine ld_2 hL hi0 hi6 hx hb hX hbl hbA hS hl dL_law_590 dL_law_591 dL_law_592 dL_law_593 dL_law_594 hp1 ?_
    refine ld_3 hL hi0 hi6 hx hb hX hbl hbA hS hl dL_law_595 dL_law_596 dL_law_597 dL_law_598 dL_law_599 hp2 ?_
    refine ld_4 hL hi0 hi6 hx hb hX hbl hbA hS hl dL_law_600 dL_law_601 dL_law_602 dL_law_603 dL_law_604 hp3 ?_
    refine S_calll (va_runV (As := [.int p0, .int p1, .int p2, .int p3]) (rest := []) ⟨hx, hb, hml, hown, hts⟩ (k_Wways_1 l D k A a z G p0 p1 p2 p3 hv_0_0 hv_0_1 hv_6_4) (cwV 4 hts (gd_V hgd m1014 m1015 m1016 m117 m1017) rfl rfl rfl hd_X11_ways ⟨Nat.le_of_ble_eq_true rfl, Nat.le_of_ble_eq_true rfl⟩) (pre_W hW hB_G hK hZ hS kd_0 rfl) rfl rfl hl.1 rfl (lv_room (Nat.le_of_ble_eq_true rfl)) dL_law_605 ⟨Nat.le_of_ble_eq_true rfl, Nat.le_of_ble_eq_true rfl⟩) hS (fun r_1 G_2 H locs hpo hW hS => ?_)
    have hX_5 : P_Wways_1 p0 p1 p2 p3 G r_1 G_2 := hpo
    obtain ⟨hB_G_2, hq_3, -⟩ := hpo
    refine lv_pop2_2 hx hb dL_law_608 rfl ?_
    refine lv_aload_n hx hb dL_law_609 rfl (lv_at hl 2 rfl) ?_
    refine ld_1 hL hi0 hi6 hx hb hX hbl hbA hS hl dL_law_610 dL_law_611 dL_law_612 dL_law_613 dL_law_614 hp0 ?_
    refine ld_2 hL hi0 hi6 hx hb hX hbl hbA hS hl dL_law_615 dL_law_616 dL_law_617 dL_law_618 dL_law_619 hp1 ?_
    refine ld_3 hL hi0 hi6 hx hb hX hbl hbA hS hl dL_law_620 dL_law_621 dL_law_622 dL_law_623 dL_law_624 hp2 ?_
    refine ld_4 hL hi0 hi6 hx hb hX hbl hbA hS hl dL_law_625 dL_law_626 dL_law_627 dL_law_628 dL_law_629 hp3 ?_
    have fr_6 : Fr [37, 38, 39, 40, 52, 53, 54, 55] [(6, 3), (7, 1), (7, 2), (7, 3), (7, 4), (7, 5), (7, 6), (7, 7)] G G_2 := (Fr.call9 (rs := [37, 38, 39, 40, 52, 53, 54, 55]) (fs := [(6, 3), (7, 1), (7, 2), (7, 3), (7, 4), (7, 5), (7, 6), (7, 7)]) Fr.rf hq_3 rfl rfl)
    have g_7 : gP G_2 = gP G := gP_fr fr_6 (gr_q rfl) (gf_q rfl)
    refine S_calll (va_runV (As := [.int p0, .int p1, .int p2, .int p3]) (rest := []) ⟨hx, hb, hml, hown, hts⟩ (n_ways l D k A a z G_2 p0 p1 p2 p3 (by omega)) (cwV 4 hts (gd_V hgd m1870 m1871 m1872 m131 m1873) rfl rfl rfl hd_X12_ways ⟨Nat.le_of_ble_eq_true rfl, Nat.le_of_ble_eq_true rfl⟩) (pre_W hW hB_G_2 hK hZ hS kd_66 rfl) rfl rfl hl.1 rfl (lv_room (Nat.le_of_ble_eq_true rfl)) dL_law_630 ⟨Nat.le_of_ble_eq_true rfl, Nat.le_of_ble_eq_true rfl⟩) hS (fun r_8 G_9 H locs hpo hW hS => ?_)
    have hX_12 : Q_ways p0 p1 p2 p3 G_2 r_8 G_9 := hpo
    obtain ⟨hB_G_9, hq_10, -⟩ := hpo
    have u_13 := L_ways_1 hX_5 hX_12 rfl rfl rfl rfl (by omega)
    refine lv_pop2_2 hx hb dL_law_633 rfl ?_
    refine lv_goto (tgt := 1641) hx hb dL_law_634 rfl ?_
    exact K G_9 _ _ _ (Or.inl (LI_of_1 (LIn_fr_1 (LIn_fr_1 (show LIn_1 G from ⟨hv_0_0, hv_0_1, hv_6_4, hj0, hj1, hj2, hj3, hj4, hj5, hj6, hj7, hj8, hj9, hj10, hj11⟩) hq_3 (by decide +kernel)) hq_10 (by decide +kernel)) (by omega))) hB_G_9 hW hS (lv_sub hl [0, 1, 2, 3] rfl)
  · skip
    obtain ⟨p0, hp0⟩ : ∃ y, y = xs (i0 + 1).toNatClampNeg := ⟨_, rfl⟩
    obtain ⟨p1, hp1⟩ : ∃ y, y = xs (i0 + 2).toNatClampNeg := ⟨_, rfl⟩
    obtain ⟨p2, hp2⟩ : ∃ y, y = xs (i0 + 3).toNatClampNeg := ⟨_, rfl⟩
    obtain ⟨p3, hp3⟩ : ∃ y, y = xs (i0 + 4).toNatClampNeg := ⟨_, rfl⟩
    obtain ⟨p4, hp4⟩ : ∃ y, y = xs (i0 + 5).toNatClampNeg := ⟨_, rfl⟩
    refine lv_aload_n hx hb dL_law_584 rfl (lv_at hl 1 rfl) ?_
    refine ld_1 hL hi0 hi6 hx hb hX hbl hbA hS hl dL_law_585 dL_law_586 dL_law_587 dL_law_588 dL_law_589 hp0 ?_
    refine ld_2 hL hi0 hi6 hx hb hX hbl hbA hS hl dL_law_590 dL_law_591 dL_law_592 dL_law_593 dL_law_594 hp1 ?_
    refine ld_3 hL hi0 hi6 hx hb hX hbl hbA hS hl dL_law_595 dL_law_596 dL_law_597 dL_law_598 dL_law_599 hp2 ?_
    refine ld_4 hL hi0 hi6 hx hb hX hbl hbA hS hl dL_law_600 dL_law_601 dL_law_602 dL_law_603 dL_law_604 hp3 ?_
    refine S_calll (va_runV (As := [.int p0, .int p1, .int p2, .int p3]) (rest := []) ⟨hx, hb, hml, hown, hts⟩ (k_Wways_2 l D k A a z G p0 p1 p2 p3 hv_0_0 hv_0_1 hv_6_4) (cwV 4 hts (gd_V hgd m1014 m1015 m1016 m117 m1017) rfl rfl rfl hd_X11_ways ⟨Nat.le_of_ble_eq_true rfl, Nat.le_of_ble_eq_true rfl⟩) (pre_W hW hB_G hK hZ hS kd_0 rfl) rfl rfl hl.1 rfl (lv_room (Nat.le_of_ble_eq_true rfl)) dL_law_605 ⟨Nat.le_of_ble_eq_true rfl, Nat.le_of_ble_eq_true rfl⟩) hS (fun r_1 G_2 H locs hpo hW hS => ?_)
    have hX_5 : P_Wways_2 p0 p1 p2 p3 G r_1 G_2 := hpo
    obtain ⟨hB_G_2, hq_3, -⟩ := hpo
    refine lv_pop2_2 hx hb dL_law_608 rfl ?_
    refine lv_aload_n hx hb dL_law_609 rfl (lv_at hl 2 rfl) ?_
    refine ld_1 hL hi0 hi6 hx hb hX hbl hbA hS hl dL_law_610 dL_law_611 dL_law_612 dL_law_613 dL_law_614 hp0 ?_
    refine ld_2 hL hi0 hi6 hx hb hX hbl hbA hS hl dL_law_615 dL_law_616 dL_law_617 dL_law_618 dL_law_619 hp1 ?_
    refine ld_3 hL hi0 hi6 hx hb hX hbl hbA hS hl dL_law_620 dL_law_621 dL_law_622 dL_law_623 dL_law_624 hp2 ?_
    refine ld_4 hL hi0 hi6 hx hb hX hbl hbA hS hl dL_law_625 dL_law_626 dL_law_627 dL_law_628 dL_law_629 hp3 ?_
    have fr_6 : Fr [37, 38, 39, 40, 52, 53, 54, 55] [(6, 3), (7, 1), (7, 2), (7, 3), (7, 4), (7, 5), (7, 6), (7, 7)] G G_2 := (Fr.call9 (rs := [37, 38, 39, 40, 52, 53, 54, 55]) (fs := [(6, 3), (7, 1), (7, 2), (7, 3), (7, 4), (7, 5), (7, 6), (7, 7)]) Fr.rf hq_3 rfl rfl)
    have g_7 : gP G_2 = gP G := gP_fr fr_6 (gr_q rfl) (gf_q rfl)
    refine S_calll (va_runV (As := [.int p0, .int p1, .int p2, .int p3]) (rest := []) ⟨hx, hb, hml, hown, hts⟩ (n_ways l D k A a z G_2 p0 p1 p2 p3 (by omega)) (cwV 4 hts (gd_V hgd m1870 m1871 m1872 m131 m1873) rfl rfl rfl hd_X12_ways ⟨Nat.le_of_ble_eq_true rfl, Nat.le_of_ble_eq_true rfl⟩) (pre_W hW hB_G_2 hK hZ hS kd_66 rfl) rfl rfl hl.1 rfl (lv_room (Nat.le_of_ble_eq_true rfl)) dL_law_630 ⟨Nat.le_of_ble_eq_true rfl, Nat.le_of_ble_eq_true rfl⟩) hS (fun r_8 G_9 H locs hpo hW hS => ?_)
    have hX_12 : Q_ways p0 p1 p2 p3 G_2 r_8 G_9 := hpo
    obtain ⟨hB_G_9, hq_10, -⟩ := hpo
    have u_13 := L_ways_2 hX_5 hX_12 rfl rfl rfl rfl (by omega)
    refine lv_pop2_2 hx hb dL_law_633 rfl ?_
    refine lv_goto (tgt := 1641) hx hb dL_law_634 rfl ?_
    exact K G_9 _ _ _ (Or.inr (LI_of_2 (LIn_fr_2 (LIn_fr_2 (show LIn_2 G from ⟨hv_0_0, hv_0_1, hv_6_4, hj0, hj1, hj2, hj3, hj4, hj5, hj6, hj7, hj8, hj9, hj10, hj11⟩) hq_3 (by decide +kernel)) hq_10 (by decide +kernel)) (by omega))) hB_G_9 hW hS (lv_sub hl [0, 1, 2, 3] rfl)

set_option maxHeartbeats 4000000 in
set_option maxRecDepth 100000 in
theorem law_11 {p : Program} {l : Launch} {e : Env} {s : State} {m : MethodId} {below : List Frame} {meth : Method} {c : Code} {D : va_G} {k : KT} {A : Nat → Prop} {a : Nat → Nat} {z : SK} {b L : Nat} {xs : Nat → Int32} (hL : L ≤ 3072) (C0 : lw_At p s m meth c b L xs) (hK : cK D k s) (hZ : Sx A z s) (hbA : ¬ A b) {G : GS} {i0 : Int32} (hi0 : 0 ≤ i0.toInt) (hi6 : i0.toInt + 6 ≤ L) (hI : LI G) (hB_G : Bd G) {H : Heap} {locs : List Loc} {ls : Array Slot} (hW : Wd D k A a G H) (hS : va_S A s.heap H locs) (hl : lv_has ls 4 [(0, .ref b), (1, .ref (a 0)), (2, .ref (a 66)), (3, .int i0)]) (K : ∀ (G1 : GS) (H1 : Heap) (locs1 : List Loc) (ls1 : Array Slot), LI G1 → Bd G1 → Wd D k A a G1 H1 → va_S A s.heap H1 locs1 → lv_has ls1 4 [(0, .ref b), (1, .ref (a 0)), (2, .ref (a 66)), (3, .int i0)] → W p l e room_1 s m #[Value.ref b] below meth c H1 locs1 119 46443 (lw_Z below #[Value.ref b] s) (F0 m 1641 ls1 [])) : W p l e room_1 s m #[Value.ref b] below meth c H locs 119 46443 (lw_Z below #[Value.ref b] s) (F0 m 637 ls []) := by
  obtain ⟨hx, hb, hr, hml, hown, hts, hX, hbl, hlocks, hgv⟩ := id C0
  have hown : s.vm.findClass RL = some m.cls := hown
  have hgd : ∀ w ∈ gd, w ∈ lw_tbl := fun w h => (List.mem_filter.mp h).1
  have hg : ∀ w ∈ gd, w.before #[Value.ref b] s = true := fun w h => hts w (hgd w h)
  rcases hI with ⟨hv_0_0, hv_0_1, hv_6_4, hj0, hj1, hj2, hj3, hj4, hj5, hj6, hj7, hj8, hj9, hj10, hj11, hj12⟩ | ⟨hv_0_0, hv_0_1, hv_6_4, hj0, hj1, hj2, hj3, hj4, hj5, hj6, hj7, hj8, hj9, hj10, hj11, hj12⟩
  · skip
    obtain ⟨p0, hp0⟩ : ∃ y, y = xs (i0 + 1).toNatClampNeg := ⟨_, rfl⟩
    obtain ⟨p1, hp1⟩ : ∃ y, y = xs (i0 + 2).toNatClampNeg := ⟨_, rfl⟩
    obtain ⟨p2, hp2⟩ : ∃ y, y = xs (i0 + 3).toNatClampNeg := ⟨_, rfl⟩
    obtain ⟨p3, hp3⟩ : ∃ y, y = xs (i0 + 4).toNatClampNeg := ⟨_, rfl⟩
    obtain ⟨p4, hp4⟩ : ∃ y, y = xs (i0 + 5).toNatClampNeg := ⟨_, rfl⟩
    refine lv_aload_n hx hb dL_law_637 rfl (lv_at hl 1 rfl) ?_
    refine ld_1 hL hi0 hi6 hx hb hX hbl hbA hS hl dL_law_638 dL_law_639 dL_law_640 dL_law_641 dL_law_642 hp0 ?_
    refine ld_2 hL hi0 hi6 hx hb hX hbl hbA hS hl dL_law_643 dL_law_644 dL_law_645 dL_law_646 dL_law_647 hp1 ?_
    refine ld_3 hL hi0 hi6 hx hb hX hbl hbA hS hl dL_law_648 dL_law_649 dL_law_650 dL_law_651 dL_law_652 hp2 ?_
    refine ld_4 hL hi0 hi6 hx hb hX hbl hbA hS hl dL_law_653 dL_law_654 dL_law_655 dL_law_656 dL_law_657 hp3 ?_
    refine S_calli (va_runV (As := [.int p0, .int p1, .int p2, .int p3]) (rest := []) ⟨hx, hb, hml, hown, hts⟩ (k_Wevenest_1 l D k A a z G p0 p1 p2 p3 hv_0_0 hv_0_1 hv_6_4) (cwV 4 hts (gd_V hgd m1036 m1037 m1038 m117 m1039) rfl rfl rfl hd_X11_evenest ⟨Nat.le_of_ble_eq_true rfl, Nat.le_of_ble_eq_true rfl⟩) (pre_W hW hB_G hK hZ hS kd_0 rfl) rfl rfl hl.1 rfl (lv_room (Nat.le_of_ble_eq_true rfl)) dL_law_658 ⟨Nat.le_of_ble_eq_true rfl, Nat.le_of_ble_eq_true rfl⟩) hS (fun r_1 G_2 H locs hpo hW hS => ?_)
    have hX_5 : P_Wevenest_1 p0 p1 p2 p3 G r_1 G_2 := hpo
    obtain ⟨hB_G_2, hq_3, -⟩ := hpo
    refine lv_pop hx hb dL_law_661 rfl ?_
    refine lv_aload_n hx hb dL_law_662 rfl (lv_at hl 2 rfl) ?_
    refine ld_1 hL hi0 hi6 hx hb hX hbl hbA hS hl dL_law_663 dL_law_664 dL_law_665 dL_law_666 dL_law_667 hp0 ?_
    refine ld_2 hL hi0 hi6 hx hb hX hbl hbA hS hl dL_law_668 dL_law_669 dL_law_670 dL_law_671 dL_law_672 hp1 ?_
    refine ld_3 hL hi0 hi6 hx hb hX hbl hbA hS hl dL_law_673 dL_law_674 dL_law_675 dL_law_676 dL_law_677 hp2 ?_
    refine ld_4 hL hi0 hi6 hx hb hX hbl hbA hS hl dL_law_678 dL_law_679 dL_law_680 dL_law_681 dL_law_682 hp3 ?_
    have fr_6 : Fr [37, 38, 39, 40, 42] [(6, 3), (7, 1), (7, 2), (7, 3), (7, 4), (7, 5), (7, 6), (7, 7)] G G_2 := (Fr.call9 (rs := [37, 38, 39, 40, 42]) (fs := [(6, 3), (7, 1), (7, 2), (7, 3), (7, 4), (7, 5), (7, 6), (7, 7)]) Fr.rf hq_3 rfl rfl)
    have g_7 : gP G_2 = gP G := gP_fr fr_6 (gr_q rfl) (gf_q rfl)
    have g_8 : gW G_2 = gW G := gW_fr fr_6 (gr_q rfl) (gf_q rfl)
    refine S_calli (va_runV (As := [.int p0, .int p1, .int p2, .int p3]) (rest := []) ⟨hx, hb, hml, hown, hts⟩ (n_evenest l D k A a z G_2 p0 p1 p2 p3 (by omega) (by omega)) (cwV 4 hts (gd_V hgd m1883 m1884 m1885 m131 m1886) rfl rfl rfl hd_X12_evenest ⟨Nat.le_of_ble_eq_true rfl, Nat.le_of_ble_eq_true rfl⟩) (pre_W hW hB_G_2 hK hZ hS kd_66 rfl) rfl rfl hl.1 rfl (lv_room (Nat.le_of_ble_eq_true rfl)) dL_law_683 ⟨Nat.le_of_ble_eq_true rfl, Nat.le_of_ble_eq_true rfl⟩) hS (fun r_9 G_10 H locs hpo hW hS => ?_)
    have hX_13 : Q_evenest p0 p1 p2 p3 G_2 r_9 G_10 := hpo
    obtain ⟨hB_G_10, hq_11, -⟩ := hpo
    have u_14 := L_evenest_1 hX_5 hX_13 rfl rfl rfl rfl (by omega)
    refine lv_pop hx hb dL_law_686 rfl ?_
    refine lv_goto (tgt := 1641) hx hb dL_law_687 rfl ?_
    exact K G_10 _ _ _ (Or.inl (LI_of_1 (LIn_fr_1 (LIn_fr_1 (show LIn_1 G from ⟨hv_0_0, hv_0_1, hv_6_4, hj0, hj1, hj2, hj3, hj4, hj5, hj6, hj7, hj8, hj9, hj10, hj11⟩) hq_3 (by decide +kernel)) hq_11 (by decide +kernel)) (by omega))) hB_G_10 hW hS (lv_sub hl [0, 1, 2, 3] rfl)
  · skip
    obtain ⟨p0, hp0⟩ : ∃ y, y = xs (i0 + 1).toNatClampNeg := ⟨_, rfl⟩
    obtain ⟨p1, hp1⟩ : ∃ y, y = xs (i0 + 2).toNatClampNeg := ⟨_, rfl⟩
    obtain ⟨p2, hp2⟩ : ∃ y, y = xs (i0 + 3).toNatClampNeg := ⟨_, rfl⟩
    obtain ⟨p3, hp3⟩ : ∃ y, y = xs (i0 + 4).toNatClampNeg := ⟨_, rfl⟩
    obtain ⟨p4, hp4⟩ : ∃ y, y = xs (i0 + 5).toNatClampNeg := ⟨_, rfl⟩
    refine lv_aload_n hx hb dL_law_637 rfl (lv_at hl 1 rfl) ?_
    refine ld_1 hL hi0 hi6 hx hb hX hbl hbA hS hl dL_law_638 dL_law_639 dL_law_640 dL_law_641 dL_law_642 hp0 ?_
    refine ld_2 hL hi0 hi6 hx hb hX hbl hbA hS hl dL_law_643 dL_law_644 dL_law_645 dL_law_646 dL_law_647 hp1 ?_
    refine ld_3 hL hi0 hi6 hx hb hX hbl hbA hS hl dL_law_648 dL_law_649 dL_law_650 dL_law_651 dL_law_652 hp2 ?_
    refine ld_4 hL hi0 hi6 hx hb hX hbl hbA hS hl dL_law_653 dL_law_654 dL_law_655 dL_law_656 dL_law_657 hp3 ?_
    refine S_calli (va_runV (As := [.int p0, .int p1, .int p2, .int p3]) (rest := []) ⟨hx, hb, hml, hown, hts⟩ (k_Wevenest_2 l D k A a z G p0 p1 p2 p3 hv_0_0 hv_0_1 hv_6_4) (cwV 4 hts (gd_V hgd m1036 m1037 m1038 m117 m1039) rfl rfl rfl hd_X11_evenest ⟨Nat.le_of_ble_eq_true rfl, Nat.le_of_ble_eq_true rfl⟩) (pre_W hW hB_G hK hZ hS kd_0 rfl) rfl rfl hl.1 rfl (lv_room (Nat.le_of_ble_eq_true rfl)) dL_law_658 ⟨Nat.le_of_ble_eq_true rfl, Nat.le_of_ble_eq_true rfl⟩) hS (fun r_1 G_2 H locs hpo hW hS => ?_)
    have hX_5 : P_Wevenest_2 p0 p1 p2 p3 G r_1 G_2 := hpo
    obtain ⟨hB_G_2, hq_3, -⟩ := hpo
    refine lv_pop hx hb dL_law_661 rfl ?_
    refine lv_aload_n hx hb dL_law_662 rfl (lv_at hl 2 rfl) ?_
    refine ld_1 hL hi0 hi6 hx hb hX hbl hbA hS hl dL_law_663 dL_law_664 dL_law_665 dL_law_666 dL_law_667 hp0 ?_
    refine ld_2 hL hi0 hi6 hx hb hX hbl hbA hS hl dL_law_668 dL_law_669 dL_law_670 dL_law_671 dL_law_672 hp1 ?_
    refine ld_3 hL hi0 hi6 hx hb hX hbl hbA hS hl dL_law_673 dL_law_674 dL_law_675 dL_law_676 dL_law_677 hp2 ?_
    refine ld_4 hL hi0 hi6 hx hb hX hbl hbA hS hl dL_law_678 dL_law_679 dL_law_680 dL_law_681 dL_law_682 hp3 ?_
    have fr_6 : Fr [37, 38, 39, 40, 42] [(6, 3), (7, 1), (7, 2), (7, 3), (7, 4), (7, 5), (7, 6), (7, 7)] G G_2 := (Fr.call9 (rs := [37, 38, 39, 40, 42]) (fs := [(6, 3), (7, 1), (7, 2), (7, 3), (7, 4), (7, 5), (7, 6), (7, 7)]) Fr.rf hq_3 rfl rfl)
    have g_7 : gP G_2 = gP G := gP_fr fr_6 (gr_q rfl) (gf_q rfl)
    have g_8 : gW G_2 = gW G := gW_fr fr_6 (gr_q rfl) (gf_q rfl)
    refine S_calli (va_runV (As := [.int p0, .int p1, .int p2, .int p3]) (rest := []) ⟨hx, hb, hml, hown, hts⟩ (n_evenest l D k A a z G_2 p0 p1 p2 p3 (by omega) (by omega)) (cwV 4 hts (gd_V hgd m1883 m1884 m1885 m131 m1886) rfl rfl rfl hd_X12_evenest ⟨Nat.le_of_ble_eq_true rfl, Nat.le_of_ble_eq_true rfl⟩) (pre_W hW hB_G_2 hK hZ hS kd_66 rfl) rfl rfl hl.1 rfl (lv_room (Nat.le_of_ble_eq_true rfl)) dL_law_683 ⟨Nat.le_of_ble_eq_true rfl, Nat.le_of_ble_eq_true rfl⟩) hS (fun r_9 G_10 H locs hpo hW hS => ?_)
    have hX_13 : Q_evenest p0 p1 p2 p3 G_2 r_9 G_10 := hpo
    obtain ⟨hB_G_10, hq_11, -⟩ := hpo
    have u_14 := L_evenest_2 hX_5 hX_13 rfl rfl rfl rfl (by omega)
    refine lv_pop hx hb dL_law_686 rfl ?_
    refine lv_goto (tgt := 1641) hx hb dL_law_687 rfl ?_
    exact K G_10 _ _ _ (Or.inr (LI_of_2 (LIn_fr_2 (LIn_fr_2 (show LIn_2 G from ⟨hv_0_0, hv_0_1, hv_6_4, hj0, hj1, hj2, hj3, hj4, hj5, hj6, hj7, hj8, hj9, hj10, hj11⟩) hq_3 (by decide +kernel)) hq_11 (by decide +kernel)) (by omega))) hB_G_10 hW hS (lv_sub hl [0, 1, 2, 3] rfl)

set_option maxHeartbeats 4000000 in
set_option maxRecDepth 100000 in
theorem law_12 {p : Program} {l : Launch} {e : Env} {s : State} {m : MethodId} {below : List Frame} {meth : Method} {c : Code} {D : va_G} {k : KT} {A : Nat → Prop} {a : Nat → Nat} {z : SK} {b L : Nat} {xs : Nat → Int32} (hL : L ≤ 3072) (C0 : lw_At p s m meth c b L xs) (hK : cK D k s) (hZ : Sx A z s) (hbA : ¬ A b) {G : GS} {i0 : Int32} (hi0 : 0 ≤ i0.toInt) (hi6 : i0.toInt + 6 ≤ L) (hI : LI G) (hB_G : Bd G) {H : Heap} {locs : List Loc} {ls : Array Slot} (hW : Wd D k A a G H) (hS : va_S A s.heap H locs) (hl : lv_has ls 4 [(0, .ref b), (1, .ref (a 0)), (2, .ref (a 66)), (3, .int i0)]) (K : ∀ (G1 : GS) (H1 : Heap) (locs1 : List Loc) (ls1 : Array Slot), LI G1 → Bd G1 → Wd D k A a G1 H1 → va_S A s.heap H1 locs1 → lv_has ls1 4 [(0, .ref b), (1, .ref (a 0)), (2, .ref (a 66)), (3, .int i0)] → W p l e room_1 s m #[Value.ref b] below meth c H1 locs1 119 46443 (lw_Z below #[Value.ref b] s) (F0 m 1641 ls1 [])) : W p l e room_1 s m #[Value.ref b] below meth c H locs 119 46443 (lw_Z below #[Value.ref b] s) (F0 m 690 ls []) := by
  obtain ⟨hx, hb, hr, hml, hown, hts, hX, hbl, hlocks, hgv⟩ := id C0
  have hown : s.vm.findClass RL = some m.cls := hown
  have hgd : ∀ w ∈ gd, w ∈ lw_tbl := fun w h => (List.mem_filter.mp h).1
  have hg : ∀ w ∈ gd, w.before #[Value.ref b] s = true := fun w h => hts w (hgd w h)
  rcases hI with ⟨hv_0_0, hv_0_1, hv_6_4, hj0, hj1, hj2, hj3, hj4, hj5, hj6, hj7, hj8, hj9, hj10, hj11, hj12⟩ | ⟨hv_0_0, hv_0_1, hv_6_4, hj0, hj1, hj2, hj3, hj4, hj5, hj6, hj7, hj8, hj9, hj10, hj11, hj12⟩
  · skip
    obtain ⟨p0, hp0⟩ : ∃ y, y = xs (i0 + 1).toNatClampNeg := ⟨_, rfl⟩
    obtain ⟨p1, hp1⟩ : ∃ y, y = xs (i0 + 2).toNatClampNeg := ⟨_, rfl⟩
    obtain ⟨p2, hp2⟩ : ∃ y, y = xs (i0 + 3).toNatClampNeg := ⟨_, rfl⟩
    obtain ⟨p3, hp3⟩ : ∃ y, y = xs (i0 + 4).toNatClampNeg := ⟨_, rfl⟩
    obtain ⟨p4, hp4⟩ : ∃ y, y = xs (i0 + 5).toNatClampNeg := ⟨_, rfl⟩
    refine lv_aload_n hx hb dL_law_690 rfl (lv_at hl 1 rfl) ?_
    refine ld_1 hL hi0 hi6 hx hb hX hbl hbA hS hl dL_law_691 dL_law_692 dL_law_693 dL_law_694 dL_law_695 hp0 ?_
    refine ld_2 hL hi0 hi6 hx hb hX hbl hbA hS hl dL_law_696 dL_law_697 dL_law_698 dL_law_699 dL_law_700 hp1 ?_
    refine ld_3 hL hi0 hi6 hx hb hX hbl hbA hS hl dL_law_701 dL_law_702 dL_law_703 dL_law_704 dL_law_705 hp2 ?_
    refine ld_4 hL hi0 hi6 hx hb hX hbl hbA hS hl dL_law_706 dL_law_707 dL_law_708 dL_law_709 dL_law_710 hp3 ?_
    refine ld_5 hL hi0 hi6 hx hb hX hbl hbA hS hl dL_law_711 dL_law_712 dL_law_713 dL_law_714 dL_law_715 hp4 ?_
    refine S_calli (va_runV (As := [.int p0, .int p1, .int p2, .int p3, .int p4]) (rest := []) ⟨hx, hb, hml, hown, hts⟩ (k_Weven_1 l D k A a z G p0 p1 p2 p3 p4 hv_0_0 hv_0_1 hv_6_4) (cwV 5 hts (gd_V hgd m1049 m1050 m1051 m117 m1052) rfl rfl rfl hd_X11_even ⟨Nat.le_of_ble_eq_true rfl, Nat.le_of_ble_eq_true rfl⟩) (pre_W hW hB_G hK hZ hS kd_0 rfl) rfl rfl hl.1 rfl (lv_room (Nat.le_of_ble_eq_true rfl)) dL_law_716 ⟨Nat.le_of_ble_eq_true rfl, Nat.le_of_ble_eq_true rfl⟩) hS (fun r_1 G_2 H locs hpo hW hS => ?_)
    have hX_5 : P_Weven_1 p0 p1 p2 p3 p4 G r_1 G_2 := hpo
    obtain ⟨hB_G_2, hq_3, -⟩ := hpo
    refine lv_pop hx hb dL_law_719 rfl ?_
    refine lv_aload_n hx hb dL_law_720 rfl (lv_at hl 2 rfl) ?_
    refine ld_1 hL hi0 hi6 hx hb hX hbl hbA hS hl dL_law_721 dL_law_722 dL_law_723 dL_law_724 dL_law_725 hp0 ?_
    refine ld_2 hL hi0 hi6 hx hb hX hbl hbA hS hl dL_law_726 dL_law_727 dL_law_728 dL_law_729 dL_law_730 hp1 ?_
    refine ld_3 hL hi0 hi6 hx hb hX hbl hbA hS hl dL_law_731 dL_law_732 dL_law_733 dL_law_734 dL_law_735 hp2 ?_
    refine ld_4 hL hi0 hi6 hx hb hX hbl hbA hS hl dL_law_736 dL_law_737 dL_law_738 dL_law_739 dL_law_740 hp3 ?_
    refine ld_5 hL hi0 hi6 hx hb hX hbl hbA hS hl dL_law_741 dL_law_742 dL_law_743 dL_law_744 dL_law_745 hp4 ?_
    have fr_6 : Fr [37, 38, 39, 40] [(6, 3), (7, 1), (7, 2), (7, 3), (7, 4), (7, 5), (7, 6), (7, 7)] G G_2 := (Fr.call9 (rs := [37, 38, 39, 40]) (fs := [(6, 3), (7, 1), (7, 2), (7, 3), (7, 4), (7, 5), (7, 6), (7, 7)]) Fr.rf hq_3 rfl rfl)
    have g_7 : gP G_2 = gP G := gP_fr fr_6 (gr_q rfl) (gf_q rfl)
    refine S_calli (va_runV (As := [.int p0, .int p1, .int p2, .int p3, .int p4]) (rest := []) ⟨hx, hb, hml, hown, hts⟩ (n_even l D k A a z G_2 p0 p1 p2 p3 p4 (by omega)) (cwV 5 hts (gd_V hgd m1891 m1892 m1893 m131 m1894) rfl rfl rfl hd_X12_even ⟨Nat.le_of_ble_eq_true rfl, Nat.le_of_ble_eq_true rfl⟩) (pre_W hW hB_G_2 hK hZ hS kd_66 rfl) rfl rfl hl.1 rfl (lv_room (Nat.le_of_ble_eq_true rfl)) dL_law_746 ⟨Nat.le_of_ble_eq_true rfl, Nat.le_of_ble_eq_true rfl⟩) hS (fun r_8 G_9 H locs hpo hW hS => ?_)
    have hX_12 : Q_even p0 p1 p2 p3 p4 G_2 r_8 G_9 := hpo
    obtain ⟨hB_G_9, hq_10, -⟩ := hpo
    have u_13 := L_even_1 hX_5 hX_12 rfl rfl rfl rfl rfl (by omega)
    refine lv_pop hx hb dL_law_749 rfl ?_
    refine lv_goto (tgt := 1641) hx hb dL_law_750 rfl ?_
    exact K G_9 _ _ _ (Or.inl (LI_of_1 (LIn_fr_1 (LIn_fr_1 (show LIn_1 G from ⟨hv_0_0, hv_0_1, hv_6_4, hj0, hj1, hj2, hj3, hj4, hj5, hj6, hj7, hj8, hj9, hj10, hj11⟩) hq_3 (by decide +kernel)) hq_10 (by decide +kernel)) (by omega))) hB_G_9 hW hS (lv_sub hl [0, 1, 2, 3] rfl)
  · skip
    obtain ⟨p0, hp0⟩ : ∃ y, y = xs (i0 + 1).toNatClampNeg := ⟨_, rfl⟩
    obtain ⟨p1, hp1⟩ : ∃ y, y = xs (i0 + 2).toNatClampNeg := ⟨_, rfl⟩
    obtain ⟨p2, hp2⟩ : ∃ y, y = xs (i0 + 3).toNatClampNeg := ⟨_, rfl⟩
    obtain ⟨p3, hp3⟩ : ∃ y, y = xs (i0 + 4).toNatClampNeg := ⟨_, rfl⟩
    obtain ⟨p4, hp4⟩ : ∃ y, y = xs (i0 + 5).toNatClampNeg := ⟨_, rfl⟩
    refine lv_aload_n hx hb dL_law_690 rfl (lv_at hl 1 rfl) ?_
    refine ld_1 hL hi0 hi6 hx hb hX hbl hbA hS hl dL_law_691 dL_law_692 dL_law_693 dL_law_694 dL_law_695 hp0 ?_
    refine ld_2 hL hi0 hi6 hx hb hX hbl hbA hS hl dL_law_696 dL_law_697 dL_law_698 dL_law_699 dL_law_700 hp1 ?_
    refine ld_3 hL hi0 hi6 hx hb hX hbl hbA hS hl dL_law_701 dL_law_702 dL_law_703 dL_law_704 dL_law_705 hp2 ?_
    refine ld_4 hL hi0 hi6 hx hb hX hbl hbA hS hl dL_law_706 dL_law_707 dL_law_708 dL_law_709 dL_law_710 hp3 ?_
    refine ld_5 hL hi0 hi6 hx hb hX hbl hbA hS hl dL_law_711 dL_law_712 dL_law_713 dL_law_714 dL_law_715 hp4 ?_
    refine S_calli (va_runV (As := [.int p0, .int p1, .int p2, .int p3, .int p4]) (rest := []) ⟨hx, hb, hml, hown, hts⟩ (k_Weven_2 l D k A a z G p0 p1 p2 p3 p4 hv_0_0 hv_0_1 hv_6_4) (cwV 5 hts (gd_V hgd m1049 m1050 m1051 m117 m1052) rfl rfl rfl hd_X11_even ⟨Nat.le_of_ble_eq_true rfl, Nat.le_of_ble_eq_true rfl⟩) (pre_W hW hB_G hK hZ hS kd_0 rfl) rfl rfl hl.1 rfl (lv_room (Nat.le_of_ble_eq_true rfl)) dL_law_716 ⟨Nat.le_of_ble_eq_true rfl, Nat.le_of_ble_eq_true rfl⟩) hS (fun r_1 G_2 H locs hpo hW hS => ?_)
    have hX_5 : P_Weven_2 p0 p1 p2 p3 p4 G r_1 G_2 := hpo
    obtain ⟨hB_G_2, hq_3, -⟩ := hpo
    refine lv_pop hx hb dL_law_719 rfl ?_
    refine lv_aload_n hx hb dL_law_720 rfl (lv_at hl 2 rfl) ?_
    refine ld_1 hL hi0 hi6 hx hb hX hbl hbA hS hl dL_law_721 dL_law_722 dL_law_723 dL_law_724 dL_law_725 hp0 ?_
    refine ld_2 hL hi0 hi6 hx hb hX hbl hbA hS hl dL_law_726 dL_law_727 dL_law_728 dL_law_729 dL_law_730 hp1 ?_
    refine ld_3 hL hi0 hi6 hx hb hX hbl hbA hS hl dL_law_731 dL_law_732 dL_law_733 dL_law_734 dL_law_735 hp2 ?_
    refine ld_4 hL hi0 hi6 hx hb hX hbl hbA hS hl dL_law_736 dL_law_737 dL_law_738 dL_law_739 dL_law_740 hp3 ?_
    refine ld_5 hL hi0 hi6 hx hb hX hbl hbA hS hl dL_law_741 dL_law_742 dL_law_743 dL_law_744 dL_law_745 hp4 ?_
    have fr_6 : Fr [37, 38, 39, 40] [(6, 3), (7, 1), (7, 2), (7, 3), (7, 4), (7, 5), (7, 6), (7, 7)] G G_2 := (Fr.call9 (rs := [37, 38, 39, 40]) (fs := [(6, 3), (7, 1), (7, 2), (7, 3), (7, 4), (7, 5), (7, 6), (7, 7)]) Fr.rf hq_3 rfl rfl)
    have g_7 : gP G_2 = gP G := gP_fr fr_6 (gr_q rfl) (gf_q rfl)
    refine S_calli (va_runV (As := [.int p0, .int p1, .int p2, .int p3, .int p4]) (rest := []) ⟨hx, hb, hml, hown, hts⟩ (n_even l D k A a z G_2 p0 p1 p2 p3 p4 (by omega)) (cwV 5 hts (gd_V hgd m1891 m1892 m1893 m131 m1894) rfl rfl rfl hd_X12_even ⟨Nat.le_of_ble_eq_true rfl, Nat.le_of_ble_eq_true rfl⟩) (pre_W hW hB_G_2 hK hZ hS kd_66 rfl) rfl rfl hl.1 rfl (lv_room (Nat.le_of_ble_eq_true rfl)) dL_law_746 ⟨Nat.le_of_ble_eq_true rfl, Nat.le_of_ble_eq_true rfl⟩) hS (fun r_8 G_9 H locs hpo hW hS => ?_)
    have hX_12 : Q_even p0 p1 p2 p3 p4 G_2 r_8 G_9 := hpo
    obtain ⟨hB_G_9, hq_10, -⟩ := hpo
    have u_13 := L_even_2 hX_5 hX_12 rfl rfl rfl rfl rfl (by omega)
    refine lv_pop hx hb dL_law_749 rfl ?_
    refine lv_goto (tgt := 1641) hx hb dL_law_750 rfl ?_
    exact K G_9 _ _ _ (Or.inr (LI_of_2 (LIn_fr_2 (LIn_fr_2 (show LIn_2 G from ⟨hv_0_0, hv_0_1, hv_6_4, hj0, hj1, hj2, hj3, hj4, hj5, hj6, hj7, hj8, hj9, hj10, hj11⟩) hq_3 (by decide +kernel)) hq_10 (by decide +kernel)) (by omega))) hB_G_9 hW hS (lv_sub hl [0, 1, 2, 3] rfl)

set_option maxHeartbeats 4000000 in
set_option maxRecDepth 100000 in
theorem law_13 {p : Program} {l : Launch} {e : Env} {s : State} {m : MethodId} {below : List Frame} {meth : Method} {c : Code} {D : va_G} {k : KT} {A : Nat → Prop} {a : Nat → Nat} {z : SK} {b L : Nat} {xs : Nat → Int32} (hL : L ≤ 3072) (C0 : lw_At p s m meth c b L xs) (hK : cK D k s) (hZ : Sx A z s) (hbA : ¬ A b) {G : GS} {i0 : Int32} (hi0 : 0 ≤ i0.toInt) (hi6 : i0.toInt + 6 ≤ L) (hI : LI G) (hB_G : Bd G) {H : Heap} {locs : List Loc} {ls : Array Slot} (hW : Wd D k A a G H) (hS : va_S A s.heap H locs) (hl : lv_has ls 4 [(0, .ref b), (1, .ref (a 0)), (2, .ref (a 66)), (3, .int i0)]) (K : ∀ (G1 : GS) (H1 : Heap) (locs1 : List Loc) (ls1 : Array Slot), LI G1 → Bd G1 → Wd D k A a G1 H1 → va_S A s.heap H1 locs1 → lv_has ls1 4 [(0, .ref b), (1, .ref (a 0)), (2, .ref (a 66)), (3, .int i0)] → W p l e room_1 s m #[Value.ref b] below meth c H1 locs1 119 46443 (lw_Z below #[Value.ref b] s) (F0 m 1641 ls1 [])) : W p l e room_1 s m #[Value.ref b] below meth c H locs 119 46443 (lw_Z below #[Value.ref b] s) (F0 m 753 ls []) := by
  obtain ⟨hx, hb, hr, hml, hown, hts, hX, hbl, hlocks, hgv⟩ := id C0
  have hown : s.vm.findClass RL = some m.cls := hown
  have hgd : ∀ w ∈ gd, w ∈ lw_tbl := fun w h => (List.mem_filter.mp h).1
  have hg : ∀ w ∈ gd, w.before #[Value.ref b] s = true := fun w h => hts w (hgd w h)
  rcases hI with ⟨hv_0_0, hv_0_1, hv_6_4, hj0, hj1, hj2, hj3, hj4, hj5, hj6, hj7, hj8, hj9, hj10, hj11, hj12⟩ | ⟨hv_0_0, hv_0_1, hv_6_4, hj0, hj1, hj2, hj3, hj4, hj5, hj6, hj7, hj8, hj9, hj10, hj11, hj12⟩
  · skip
    obtain ⟨p0, hp0⟩ : ∃ y, y = xs (i0 + 1).toNatClampNeg := ⟨_, rfl⟩
    obtain ⟨p1, hp1⟩ : ∃ y, y = xs (i0 + 2).toNatClampNeg := ⟨_, rfl⟩
    obtain ⟨p2, hp2⟩ : ∃ y, y = xs (i0 + 3).toNatClampNeg := ⟨_, rfl⟩
    obtain ⟨p3, hp3⟩ : ∃ y, y = xs (i0 + 4).toNatClampNeg := ⟨_, rfl⟩
    obtain ⟨p4, hp4⟩ : ∃ y, y = xs (i0 + 5).toNatClampNeg := ⟨_, rfl⟩
    refine lv_aload_n hx hb dL_law_753 rfl (lv_at hl 1 rfl) ?_
    refine ld_1 hL hi0 hi6 hx hb hX hbl hbA hS hl dL_law_754 dL_law_755 dL_law_756 dL_law_757 dL_law_758 hp0 ?_
    refine ld_2 hL hi0 hi6 hx hb hX hbl hbA hS hl dL_law_759 dL_law_760 dL_law_761 dL_law_762 dL_law_763 hp1 ?_
    refine ld_3 hL hi0 hi6 hx hb hX hbl hbA hS hl dL_law_764 dL_law_765 dL_law_766 dL_law_767 dL_law_768 hp2 ?_
    refine S_calli (va_runV (As := [.int p0, .int p1, .int p2]) (rest := []) ⟨hx, hb, hml, hown, hts⟩ (k_Wevens_1 l D k A a z G p0 p1 p2 hv_0_0 hv_0_1 hv_6_4) (cwV 3 hts (gd_V hgd m1053 m1054 m1055 m117 m1056) rfl rfl rfl hd_X11_evens ⟨Nat.le_of_ble_eq_true rfl, Nat.le_of_ble_eq_true rfl⟩) (pre_W hW hB_G hK hZ hS kd_0 rfl) rfl rfl hl.1 rfl (lv_room (Nat.le_of_ble_eq_true rfl)) dL_law_769 ⟨Nat.le_of_ble_eq_true rfl, Nat.le_of_ble_eq_true rfl⟩) hS (fun r_1 G_2 H locs hpo hW hS => ?_)
    have hX_5 : P_Wevens_1 p0 p1 p2 G r_1 G_2 := hpo
    obtain ⟨hB_G_2, hq_3, -⟩ := hpo
    refine lv_pop hx hb dL_law_772 rfl ?_
    refine lv_aload_n hx hb dL_law_773 rfl (lv_at hl 2 rfl) ?_
    refine ld_1 hL hi0 hi6 hx hb hX hbl hbA hS hl dL_law_774 dL_law_775 dL_law_776 dL_law_777 dL_law_778 hp0 ?_
    refine ld_2 hL hi0 hi6 hx hb hX hbl hbA hS hl dL_law_779 dL_law_780 dL_law_781 dL_law_782 dL_law_783 hp1 ?_
    refine ld_3 hL hi0 hi6 hx hb hX hbl hbA hS hl dL_law_784 dL_law_785 dL_law_786 dL_law_787 dL_law_788 hp2 ?_
    have fr_6 : Fr [33, 37, 38, 39, 40, 42] [(0, 12), (6, 3), (7, 1), (7, 2), (7, 3), (7, 4), (7, 5), (7, 6), (7, 7)] G G_2 := (Fr.call9 (rs := [33, 37, 38, 39, 40, 42]) (fs := [(0, 12), (6, 3), (7, 1), (7, 2), (7, 3), (7, 4), (7, 5), (7, 6), (7, 7)]) Fr.rf hq_3 rfl rfl)
    have g_7 : gP G_2 = gP G := gP_fr fr_6 (gr_q rfl) (gf_q rfl)
    have g_8 : gW G_2 = gW G := gW_fr fr_6 (gr_q rfl) (gf_q rfl)
    refine S_calli (va_runV (As := [.int p0, .int p1, .int p2]) (rest := []) ⟨hx, hb, hml, hown, hts⟩ (n_evens l D k A a z G_2 p0 p1 p2 (by omega) (by omega)) (cwV 3 hts (gd_V hgd m1895 m1896 m1897 m131 m1898) rfl rfl rfl hd_X12_evens ⟨Nat.le_of_ble_eq_true rfl, Nat.le_of_ble_eq_true rfl⟩) (pre_W hW hB_G_2 hK hZ hS kd_66 rfl) rfl rfl hl.1 rfl (lv_room (Nat.le_of_ble_eq_true rfl)) dL_law_789 ⟨Nat.le_of_ble_eq_true rfl, Nat.le_of_ble_eq_true rfl⟩) hS (fun r_9 G_10 H locs hpo hW hS => ?_)
    have hX_13 : Q_evens p0 p1 p2 G_2 r_9 G_10 := hpo
    obtain ⟨hB_G_10, hq_11, -⟩ := hpo
    have u_14 := L_evens_1 hX_5 hX_13 rfl rfl rfl (by omega)
    refine lv_pop hx hb dL_law_792 rfl ?_
    refine lv_goto (tgt := 1641) hx hb dL_law_793 rfl ?_
    exact K G_10 _ _ _ (Or.inl (LI_of_1 (LIn_fr_1 (LIn_fr_1 (show LIn_1 G from ⟨hv_0_0, hv_0_1, hv_6_4, hj0, hj1, hj2, hj3, hj4, hj5, hj6, hj7, hj8, hj9, hj10, hj11⟩) hq_3 (by decide +kernel)) hq_11 (by decide +kernel)) (by omega))) hB_G_10 hW hS (lv_sub hl [0, 1, 2, 3] rfl)
  · skip
    obtain ⟨p0, hp0⟩ : ∃ y, y = xs (i0 + 1).toNatClampNeg := ⟨_, rfl⟩
    obtain ⟨p1, hp1⟩ : ∃ y, y = xs (i0 + 2).toNatClampNeg := ⟨_, rfl⟩
    obtain ⟨p2, hp2⟩ : ∃ y, y = xs (i0 + 3).toNatClampNeg := ⟨_, rfl⟩
    obtain ⟨p3, hp3⟩ : ∃ y, y = xs (i0 + 4).toNatClampNeg := ⟨_, rfl⟩
    obtain ⟨p4, hp4⟩ : ∃ y, y = xs (i0 + 5).toNatClampNeg := ⟨_, rfl⟩
    refine lv_aload_n hx hb dL_law_753 rfl (lv_at hl 1 rfl) ?_
    refine ld_1 hL hi0 hi6 hx hb hX hbl hbA hS hl dL_law_754 dL_law_755 dL_law_756 dL_law_757 dL_law_758 hp0 ?_
    refine ld_2 hL hi0 hi6 hx hb hX hbl hbA hS hl dL_law_759 dL_law_760 dL_law_761 dL_law_762 dL_law_763 hp1 ?_
    refine ld_3 hL hi0 hi6 hx hb hX hbl hbA hS hl dL_law_764 dL_law_765 dL_law_766 dL_law_767 dL_law_768 hp2 ?_
    refine S_calli (va_runV (As := [.int p0, .int p1, .int p2]) (rest := []) ⟨hx, hb, hml, hown, hts⟩ (k_Wevens_2 l D k A a z G p0 p1 p2 hv_0_0 hv_0_1 hv_6_4) (cwV 3 hts (gd_V hgd m1053 m1054 m1055 m117 m1056) rfl rfl rfl hd_X11_evens ⟨Nat.le_of_ble_eq_true rfl, Nat.le_of_ble_eq_true rfl⟩) (pre_W hW hB_G hK hZ hS kd_0 rfl) rfl rfl hl.1 rfl (lv_room (Nat.le_of_ble_eq_true rfl)) dL_law_769 ⟨Nat.le_of_ble_eq_true rfl, Nat.le_of_ble_eq_true rfl⟩) hS (fun r_1 G_2 H locs hpo hW hS => ?_)
    have hX_5 : P_Wevens_2 p0 p1 p2 G r_1 G_2 := hpo
    obtain ⟨hB_G_2, hq_3, -⟩ := hpo
    refine lv_pop hx hb dL_law_772 rfl ?_
    refine lv_aload_n hx hb dL_law_773 rfl (lv_at hl 2 rfl) ?_
    refine ld_1 hL hi0 hi6 hx hb hX hbl hbA hS hl dL_law_774 dL_law_775 dL_law_776 dL_law_777 dL_law_778 hp0 ?_
    refine ld_2 hL hi0 hi6 hx hb hX hbl hbA hS hl dL_law_779 dL_law_780 dL_law_781 dL_law_782 dL_law_783 hp1 ?_
    refine ld_3 hL hi0 hi6 hx hb hX hbl hbA hS hl dL_law_784 dL_law_785 dL_law_786 dL_law_787 dL_law_788 hp2 ?_
    have fr_6 : Fr [33, 37, 38, 39, 40, 42] [(0, 12), (6, 3), (7, 1), (7, 2), (7, 3), (7, 4), (7, 5), (7, 6), (7, 7)] G G_2 := (Fr.call9 (rs := [33, 37, 38, 39, 40, 42]) (fs := [(0, 12), (6, 3), (7, 1), (7, 2), (7, 3), (7, 4), (7, 5), (7, 6), (7, 7)]) Fr.rf hq_3 rfl rfl)
    have g_7 : gP G_2 = gP G := gP_fr fr_6 (gr_q rfl) (gf_q rfl)
    have g_8 : gW G_2 = gW G := gW_fr fr_6 (gr_q rfl) (gf_q rfl)
    refine S_calli (va_runV (As := [.int p0, .int p1, .int p2]) (rest := []) ⟨hx, hb, hml, hown, hts⟩ (n_evens l D k A a z G_2 p0 p1 p2 (by omega) (by omega)) (cwV 3 hts (gd_V hgd m1895 m1896 m1897 m131 m1898) rfl rfl rfl hd_X12_evens ⟨Nat.le_of_ble_eq_true rfl, Nat.le_of_ble_eq_true rfl⟩) (pre_W hW hB_G_2 hK hZ hS kd_66 rfl) rfl rfl hl.1 rfl (lv_room (Nat.le_of_ble_eq_true rfl)) dL_law_789 ⟨Nat.le_of_ble_eq_true rfl, Nat.le_of_ble_eq_true rfl⟩) hS (fun r_9 G_10 H locs hpo hW hS => ?_)
    have hX_13 : Q_evens p0 p1 p2 G_2 r_9 G_10 := hpo
    obtain ⟨hB_G_10, hq_11, -⟩ := hpo
    have u_14 := L_evens_2 hX_5 hX_13 rfl rfl rfl (by omega)
    refine lv_pop hx hb dL_law_792 rfl ?_
    refine lv_goto (tgt := 1641) hx hb dL_law_793 rfl ?_
    exact K G_10 _ _ _ (Or.inr (LI_of_2 (LIn_fr_2 (LIn_fr_2 (show LIn_2 G from ⟨hv_0_0, hv_0_1, hv_6_4, hj0, hj1, hj2, hj3, hj4, hj5, hj6, hj7, hj8, hj9, hj10, hj11⟩) hq_3 (by decide +kernel)) hq_11 (by decide +kernel)) (by omega))) hB_G_10 hW hS (lv_sub hl [0, 1, 2, 3] rfl)

set_option maxHeartbeats 4000000 in
set_option maxRecDepth 100000 in
theorem law_14 {p : Program} {l : Launch} {e : Env} {s : State} {m : MethodId} {below : List Frame} {meth : Method} {c : Code} {D : va_G} {k : KT} {A : Nat → Prop} {a : Nat → Nat} {z : SK} {b L : Nat} {xs : Nat → Int32} (hL : L ≤ 3072) (C0 : lw_At p s m meth c b L xs) (hK : cK D k s) (hZ : Sx A z s) (hbA : ¬ A b) {G : GS} {i0 : Int32} (hi0 : 0 ≤ i0.toInt) (hi6 : i0.toInt + 6 ≤ L) (hI : LI G) (hB_G : Bd G) {H : Heap} {locs : List Loc} {ls : Array Slot} (hW : Wd D k A a G H) (hS : va_S A s.heap H locs) (hl : lv_has ls 4 [(0, .ref b), (1, .ref (a 0)), (2, .ref (a 66)), (3, .int i0)]) (K : ∀ (G1 : GS) (H1 : Heap) (locs1 : List Loc) (ls1 : Array Slot), LI G1 → Bd G1 → Wd D k A a G1 H1 → va_S A s.heap H1 locs1 → lv_has ls1 4 [(0, .ref b), (1, .ref (a 0)), (2, .ref (a 66)), (3, .int i0)] → W p l e room_1 s m #[Value.ref b] below meth c H1 locs1 119 46443 (lw_Z below #[Value.ref b] s) (F0 m 1641 ls1 [])) : W p l e room_1 s m #[Value.ref b] below meth c H locs 119 46443 (lw_Z below #[Value.ref b] s) (F0 m 796 ls []) := by
  obtain ⟨hx, hb, hr, hml, hown, hts, hX, hbl, hlocks, hgv⟩ := id C0
  have hown : s.vm.findClass RL = some m.cls := hown
  have hgd : ∀ w ∈ gd, w ∈ lw_tbl := fun w h => (List.mem_filter.mp h).1
  have hg : ∀ w ∈ gd, w.before #[Value.ref b] s = true := fun w h => hts w (hgd w h)
  rcases hI with ⟨hv_0_0, hv_0_1, hv_6_4, hj0, hj1, hj2, hj3, hj4, hj5, hj6, hj7, hj8, hj9, hj10, hj11, hj12⟩ | ⟨hv_0_0, hv_0_1, hv_6_4, hj0, hj1, hj2, hj3, hj4, hj5, hj6, hj7, hj8, hj9, hj10, hj11, hj12⟩
  · skip
    obtain ⟨p0, hp0⟩ : ∃ y, y = xs (i0 + 1).toNatClampNeg := ⟨_, rfl⟩
    obtain ⟨p1, hp1⟩ : ∃ y, y = xs (i0 + 2).toNatClampNeg := ⟨_, rfl⟩
    obtain ⟨p2, hp2⟩ : ∃ y, y = xs (i0 + 3).toNatClampNeg := ⟨_, rfl⟩
    obtain ⟨p3, hp3⟩ : ∃ y, y = xs (i0 + 4).toNatClampNeg := ⟨_, rfl⟩
    obtain ⟨p4, hp4⟩ : ∃ y, y = xs (i0 + 5).toNatClampNeg := ⟨_, rfl⟩
    refine lv_aload_n hx hb dL_law_796 rfl (lv_at hl 1 rfl) ?_
    refine ld_1 hL hi0 hi6 hx hb hX hbl hbA hS hl dL_law_797 dL_law_798 dL_law_799 dL_law_800 dL_law_801 hp0 ?_
    refine ld_2 hL hi0 hi6 hx hb hX hbl hbA hS hl dL_law_802 dL_law_803 dL_law_804 dL_law_805 dL_law_806 hp1 ?_
    refine ld_3 hL hi0 hi6 hx hb hX hbl hbA hS hl dL_law_807 dL_law_808 dL_law_809 dL_law_810 dL_law_811 hp2 ?_
    refine ld_4 hL hi0 hi6 hx hb hX hbl hbA hS hl dL_law_812 dL_law_813 dL_law_814 dL_law_815 dL_law_816 hp3 ?_
    refine ld_5 hL hi0 hi6 hx hb hX hbl hbA hS hl dL_law_817 dL_law_818 dL_law_819 dL_law_820 dL_law_821 hp4 ?_
    refine S_calli (va_runV (As := [.int p0, .int p1, .int p2, .int p3, .int p4]) (rest := []) ⟨hx, hb, hml, hown, hts⟩ (k_Wfirst l D k A a z G p0 p1 p2 p3 p4 ) (cwV 5 hts (gd_V hgd m1065 m1066 m1067 m117 m1068) rfl rfl rfl hd_X11_first ⟨Nat.le_of_ble_eq_true rfl, Nat.le_of_ble_eq_true rfl⟩) (pre_W hW hB_G hK hZ hS kd_0 rfl) rfl rfl hl.1 rfl (lv_room (Nat.le_of_ble_eq_true rfl)) dL_law_822 ⟨Nat.le_of_ble_eq_true rfl, Nat.le_of_ble_eq_true rfl⟩) hS (fun r_1 G_2 H locs hpo hW hS => ?_)
    have hX_5 : P_Wfirst p0 p1 p2 p3 p4 G r_1 G_2 := hpo
    obtain ⟨hB_G_2, hq_3, -⟩ := hpo
    refine lv_pop hx hb dL_law_825 rfl ?_
    refine lv_aload_n hx hb dL_law_826 rfl (lv_at hl 2 rfl) ?_
    refine ld_1 hL hi0 hi6 hx hb hX hbl hbA hS hl dL_law_827 dL_law_828 dL_law_829 dL_law_830 dL_law_831 hp0 ?_
    refine ld_2 hL hi0 hi6 hx hb hX hbl hbA hS hl dL_law_832 dL_law_833 dL_law_834 dL_law_835 dL_law_836 hp1 ?_
    refine ld_3 hL hi0 hi6 hx hb hX hbl hbA hS hl dL_law_837 dL_law_838 dL_law_839 dL_law_840 dL_law_841 hp2 ?_
    refine ld_4 hL hi0 hi6 hx hb hX hbl hbA hS hl dL_law_842 dL_law_843 dL_law_844 dL_law_845 dL_law_846 hp3 ?_
    refine ld_5 hL hi0 hi6 hx hb hX hbl hbA hS hl dL_law_847 dL_law_848 dL_law_849 dL_law_850 dL_law_851 hp4 ?_
    refine S_calli (va_runV (As := [.int p0, .int p1, .int p2, .int p3, .int p4]) (rest := []) ⟨hx, hb, hml, hown, hts⟩ (n_first l D k A a z G_2 p0 p1 p2 p3 p4 ) (cwV 5 hts (gd_V hgd m1903 m1904 m1905 m131 m1906) rfl rfl rfl hd_X12_first ⟨Nat.le_of_ble_eq_true rfl, Nat.le_of_ble_eq_true rfl⟩) (pre_W hW hB_G_2 hK hZ hS kd_66 rfl) rfl rfl hl.1 rfl (lv_room (Nat.le_of_ble_eq_true rfl)) dL_law_852 ⟨Nat.le_of_ble_eq_true rfl, Nat.le_of_ble_eq_true rfl⟩) hS (fun r_6 G_7 H locs hpo hW hS => ?_)
    have hX_10 : Q_first p0 p1 p2 p3 p4 G_2 r_6 G_7 := hpo
    obtain ⟨hB_G_7, hq_8, -⟩ := hpo
    refine lv_pop hx hb dL_law_855 rfl ?_
    refine lv_goto (tgt := 1641) hx hb dL_law_856 rfl ?_
    have fr_11 : Fr [] [] G G_7 := (Fr.call9 (rs := []) (fs := []) (Fr.call9 (rs := []) (fs := []) Fr.rf hq_3 rfl rfl) hq_8 rfl rfl)
    have g_12 : gIA G_7 = gIA G := gIA_fr fr_11 (gr_q rfl) (gf_q rfl)
    exact K G_7 _ _ _ (Or.inl (LI_of_1 (LIn_fr_1 (LIn_fr_1 (show LIn_1 G from ⟨hv_0_0, hv_0_1, hv_6_4, hj0, hj1, hj2, hj3, hj4, hj5, hj6, hj7, hj8, hj9, hj10, hj11⟩) hq_3 (by decide +kernel)) hq_8 (by decide +kernel)) (by omega))) hB_G_7 hW hS (lv_sub hl [0, 1, 2, 3] rfl)
  · skip
    obtain ⟨p0, hp0⟩ : ∃ y, y = xs (i0 + 1).toNatClampNeg := ⟨_, rfl⟩
    obtain ⟨p1, hp1⟩ : ∃ y, y = xs (i0 + 2).toNatClampNeg := ⟨_, rfl⟩
    obtain ⟨p2, hp2⟩ : ∃ y, y = xs (i0 + 3).toNatClampNeg := ⟨_, rfl⟩
    obtain ⟨p3, hp3⟩ : ∃ y, y = xs (i0 + 4).toNatClampNeg := ⟨_, rfl⟩
    obtain ⟨p4, hp4⟩ : ∃ y, y = xs (i0 + 5).toNatClampNeg := ⟨_, rfl⟩
    refine lv_aload_n hx hb dL_law_796 rfl (lv_at hl 1 rfl) ?_
    refine ld_1 hL hi0 hi6 hx hb hX hbl hbA hS hl dL_law_797 dL_law_798 dL_law_799 dL_law_800 dL_law_801 hp0 ?_
    refine ld_2 hL hi0 hi6 hx hb hX hbl hbA hS hl dL_law_802 dL_law_803 dL_law_804 dL_law_805 dL_law_806 hp1 ?_
    refine ld_3 hL hi0 hi6 hx hb hX hbl hbA hS hl dL_law_807 dL_law_808 dL_law_809 dL_law_810 dL_law_811 hp2 ?_
    refine ld_4 hL hi0 hi6 hx hb hX hbl hbA hS hl dL_law_812 dL_law_813 dL_law_814 dL_law_815 dL_law_816 hp3 ?_
    refine ld_5 hL hi0 hi6 hx hb hX hbl hbA hS hl dL_law_817 dL_law_818 dL_law_819 dL_law_820 dL_law_821 hp4 ?_
    refine S_calli (va_runV (As := [.int p0, .int p1, .int p2, .int p3, .int p4]) (rest := []) ⟨hx, hb, hml, hown, hts⟩ (k_Wfirst l D k A a z G p0 p1 p2 p3 p4 ) (cwV 5 hts (gd_V hgd m1065 m1066 m1067 m117 m1068) rfl rfl rfl hd_X11_first ⟨Nat.le_of_ble_eq_true rfl, Nat.le_of_ble_eq_true rfl⟩) (pre_W hW hB_G hK hZ hS kd_0 rfl) rfl rfl hl.1 rfl (lv_room (Nat.le_of_ble_eq_true rfl)) dL_law_822 ⟨Nat.le_of_ble_eq_true rfl, Nat.le_of_ble_eq_true rfl⟩) hS (fun r_1 G_2 H locs hpo hW hS => ?_)
    have hX_5 : P_Wfirst p0 p1 p2 p3 p4 G r_1 G_2 := hpo
    obtain ⟨hB_G_2, hq_3, -⟩ := hpo
    refine lv_pop hx hb dL_law_825 rfl ?_
    refine lv_aload_n hx hb dL_law_826 rfl (lv_at hl 2 rfl) ?_
    refine ld_1 hL hi0 hi6 hx hb hX hbl hbA hS hl dL_law_827 dL_law_828 dL_law_829 dL_law_830 dL_law_831 hp0 ?_
    refine ld_2 hL hi0 hi6 hx hb hX hbl hbA hS hl dL_law_832 dL_law_833 dL_law_834 dL_law_835 dL_law_836 hp1 ?_
    refine ld_3 hL hi0 hi6 hx hb hX hbl hbA hS hl dL_law_837 dL_law_838 dL_law_839 dL_law_840 dL_law_841 hp2 ?_
    refine ld_4 hL hi0 hi6 hx hb hX hbl hbA hS hl dL_law_842 dL_law_843 dL_law_844 dL_law_845 dL_law_846 hp3 ?_
    refine ld_5 hL hi0 hi6 hx hb hX hbl hbA hS hl dL_law_847 dL_law_848 dL_law_849 dL_law_850 dL_law_851 hp4 ?_
    refine S_calli (va_runV (As := [.int p0, .int p1, .int p2, .int p3, .int p4]) (rest := []) ⟨hx, hb, hml, hown, hts⟩ (n_first l D k A a z G_2 p0 p1 p2 p3 p4 ) (cwV 5 hts (gd_V hgd m1903 m1904 m1905 m131 m1906) rfl rfl rfl hd_X12_first ⟨Nat.le_of_ble_eq_true rfl, Nat.le_of_ble_eq_true rfl⟩) (pre_W hW hB_G_2 hK hZ hS kd_66 rfl) rfl rfl hl.1 rfl (lv_room (Nat.le_of_ble_eq_true rfl)) dL_law_852 ⟨Nat.le_of_ble_eq_true rfl, Nat.le_of_ble_eq_true rfl⟩) hS (fun r_6 G_7 H locs hpo hW hS => ?_)
    have hX_10 : Q_first p0 p1 p2 p3 p4 G_2 r_6 G_7 := hpo
    obtain ⟨hB_G_7, hq_8, -⟩ := hpo
    refine lv_pop hx hb dL_law_855 rfl ?_
    refine lv_goto (tgt := 1641) hx hb dL_law_856 rfl ?_
    have fr_11 : Fr [] [] G G_7 := (Fr.call9 (rs := []) (fs := []) (Fr.call9 (rs := []) (fs := []) Fr.rf hq_3 rfl rfl) hq_8 rfl rfl)
    have g_12 : gIB G_7 = gIB G := gIB_fr fr_11 (gr_q rfl) (gf_q rfl)
    exact K G_7 _ _ _ (Or.inr (LI_of_2 (LIn_fr_2 (LIn_fr_2 (show LIn_2 G from ⟨hv_0_0, hv_0_1, hv_6_4, hj0, hj1, hj2, hj3, hj4, hj5, hj6, hj7, hj8, hj9, hj10, hj11⟩) hq_3 (by decide +kernel)) hq_8 (by decide +kernel)) (by omega))) hB_G_7 hW hS (lv_sub hl [0, 1, 2, 3] rfl)
