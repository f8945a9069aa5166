theorem m610 : Cond.methodLink RL 13 yX11_feed ∈ gd := gdc_3_0 14 rfl gw_methodLink
theorem m611 : Cond.instanceMethod yX11_feed ∈ gd := gdc_3_0 15 rfl gw_instanceMethod
theorem m612 : Cond.selects RX11 yX11_feed yX11_feed ∈ gd := gdc_3_1 0 rfl gw_selects
theorem m613 : Cond.code yX11_feed cX11_feed 6 (some .int) ∈ gd := gdc_3_1 1 rfl gw_code
theorem m618 : Cond.methodLink RL 18 yX11_end ∈ gd := gdc_3_1 6 rfl gw_methodLink
theorem m619 : Cond.instanceMethod yX11_end ∈ gd := gdc_3_1 7 rfl gw_instanceMethod
theorem m620 : Cond.selects RX11 yX11_end yX11_end ∈ gd := gdc_3_1 8 rfl gw_selects
theorem m621 : Cond.code yX11_end cX11_end 2 (some .int) ∈ gd := gdc_3_1 9 rfl gw_code
theorem m622 : Cond.methodLink RL 23 yX11_pavement ∈ gd := gdc_3_1 10 rfl gw_methodLink
theorem m623 : Cond.instanceMethod yX11_pavement ∈ gd := gdc_3_1 11 rfl gw_instanceMethod
theorem m624 : Cond.selects RX11 yX11_pavement yX11_pavement ∈ gd := gdc_3_1 12 rfl gw_selects
theorem m625 : Cond.code yX11_pavement cX11_pavement 3 (some .int) ∈ gd := gdc_3_1 13 rfl gw_code
theorem m874 : Cond.methodLink RL 28 yX11_fault ∈ gd := gdc_4_2 6 rfl gw_methodLink
theorem m875 : Cond.instanceMethod yX11_fault ∈ gd := gdc_4_2 7 rfl gw_instanceMethod
theorem m876 : Cond.selects RX11 yX11_fault yX11_fault ∈ gd := gdc_4_2 8 rfl gw_selects
theorem m877 : Cond.code yX11_fault cX11_fault 2 (some .int) ∈ gd := gdc_4_2 9 rfl gw_code
theorem m878 : Cond.methodLink RL 32 yX11_inch ∈ gd := gdc_4_2 10 rfl gw_methodLink
theorem m879 : Cond.instanceMethod yX11_inch ∈ gd := gdc_4_2 11 rfl gw_instanceMethod
theorem m880 : Cond.selects RX11 yX11_inch yX11_inch ∈ gd := gdc_4_2 12 rfl gw_selects
theorem m881 : Cond.code yX11_inch cX11_inch 4 (some .int) ∈ gd := gdc_4_2 13 rfl gw_code
theorem m898 : Cond.methodLink RL 37 yX11_length ∈ gd := gdc_4_3 14 rfl gw_methodLink
theorem m899 : Cond.instanceMethod yX11_length ∈ gd := gdc_4_3 15 rfl gw_instanceMethod
theorem m900 : Cond.selects RX11 yX11_length yX11_length ∈ gd := gdc_4_4 0 rfl gw_selects
theorem m901 : Cond.code yX11_length cX11_length 2 (some .int) ∈ gd := gdc_4_4 1 rfl gw_code
theorem m903 : Cond.methodLink RL 41 yX11_line ∈ gd := gdc_4_4 3 rfl gw_methodLink
theorem m904 : Cond.instanceMethod yX11_line ∈ gd := gdc_4_4 4 rfl gw_instanceMethod
theorem m905 : Cond.selects RX11 yX11_line yX11_line ∈ gd := gdc_4_4 5 rfl gw_selects
theorem m906 : Cond.code yX11_line cX11_line 4 (some .int) ∈ gd := gdc_4_4 6 rfl gw_code
theorem m945 : Cond.methodLink RL 45 yX11_gap ∈ gd := gdc_4_6 13 rfl gw_methodLink
theorem m946 : Cond.instanceMethod yX11_gap ∈ gd := gdc_4_6 14 rfl gw_instanceMethod
theorem m947 : Cond.selects RX11 yX11_gap yX11_gap ∈ gd := gdc_4_6 15 rfl gw_selects
theorem m948 : Cond.code yX11_gap cX11_gap 10 (some .int) ∈ gd := gdc_4_7 0 rfl gw_code
theorem m949 : Cond.methodLink RL 49 yX11_foot ∈ gd := gdc_4_7 1 rfl gw_methodLink
theorem m950 : Cond.instanceMethod yX11_foot ∈ gd := gdc_4_7 2 rfl gw_instanceMethod
theorem m951 : Cond.selects RX11 yX11_foot yX11_foot ∈ gd := gdc_4_7 3 rfl gw_selects
theorem m952 : Cond.code yX11_foot cX11_foot 5 (some .int) ∈ gd := gdc_4_7 4 rfl gw_code
theorem m971 : Cond.methodLink RL 54 yX11_fewest ∈ gd := gdc_4_8 7 rfl gw_methodLink
theorem m972 : Cond.instanceMethod yX11_fewest ∈ gd := gdc_4_8 8 rfl gw_instanceMethod
theorem m973 : Cond.selects RX11 yX11_fewest yX11_fewest ∈ gd := gdc_4_8 9 rfl gw_selects
theorem m974 : Cond.code yX11_fewest cX11_fewest 6 (some .int) ∈ gd := gdc_4_8 10 rfl gw_code
theorem m1014 : Cond.methodLink RL 58 yX11_ways ∈ gd := gdc_4_11 2 rfl gw_methodLink
theorem m1015 : Cond.instanceMethod yX11_ways ∈ gd := gdc_4_11 3 rfl gw_instanceMethod
theorem m1016 : Cond.selects RX11 yX11_ways yX11_ways ∈ gd := gdc_4_11 4 rfl gw_selects
theorem m1017 : Cond.code yX11_ways cX11_ways 5 (some .long) ∈ gd := gdc_4_11 5 rfl gw_code
theorem m1036 : Cond.methodLink RL 63 yX11_evenest ∈ gd := gdc_4_12 8 rfl gw_methodLink
theorem m1037 : Cond.instanceMethod yX11_evenest ∈ gd := gdc_4_12 9 rfl gw_instanceMethod
theorem m1038 : Cond.selects RX11 yX11_evenest yX11_evenest ∈ gd := gdc_4_12 10 rfl gw_selects
theorem m1039 : Cond.code yX11_evenest cX11_evenest 5 (some .int) ∈ gd := gdc_4_12 11 rfl gw_code
theorem m1049 : Cond.methodLink RL 67 yX11_even ∈ gd := gdc_4_13 5 rfl gw_methodLink
theorem m1050 : Cond.instanceMethod yX11_even ∈ gd := gdc_4_13 6 rfl gw_instanceMethod
theorem m1051 : Cond.selects RX11 yX11_even yX11_even ∈ gd := gdc_4_13 7 rfl gw_selects
theorem m1052 : Cond.code yX11_even cX11_even 8 (some .int) ∈ gd := gdc_4_13 8 rfl gw_code
theorem m1053 : Cond.methodLink RL 71 yX11_evens ∈ gd := gdc_4_13 9 rfl gw_methodLink
theorem m1054 : Cond.instanceMethod yX11_evens ∈ gd := gdc_4_13 10 rfl gw_instanceMethod
theorem m1055 : Cond.selects RX11 yX11_evens yX11_evens ∈ gd := gdc_4_13 11 rfl gw_selects
theorem m1056 : Cond.code yX11_evens cX11_evens 5 (some .int) ∈ gd := gdc_4_13 12 rfl gw_code
theorem m1065 : Cond.methodLink RL 75 yX11_first ∈ gd := gdc_4_14 5 rfl gw_methodLink
theorem m1066 : Cond.instanceMethod yX11_first ∈ gd := gdc_4_14 6 rfl gw_instanceMethod
theorem m1067 : Cond.selects RX11 yX11_first yX11_first ∈ gd := gdc_4_14 7 rfl gw_selects
theorem m1068 : Cond.code yX11_first cX11_first 9 (some .int) ∈ gd := gdc_4_14 8 rfl gw_code
theorem m1072 : Cond.methodLink RL 79 yX11_begin ∈ gd := gdc_4_14 12 rfl gw_methodLink
theorem m1073 : Cond.instanceMethod yX11_begin ∈ gd := gdc_4_14 13 rfl gw_instanceMethod
theorem m1074 : Cond.selects RX11 yX11_begin yX11_begin ∈ gd := gdc_4_14 14 rfl gw_selects
theorem m1075 : Cond.code yX11_begin cX11_begin 5 (some .int) ∈ gd := gdc_4_14 15 rfl gw_code
theorem m1083 : Cond.methodLink RL 83 yX11_suits ∈ gd := gdc_5_0 7 rfl gw_methodLink
theorem m1084 : Cond.instanceMethod yX11_suits ∈ gd := gdc_5_0 8 rfl gw_instanceMethod
theorem m1085 : Cond.selects RX11 yX11_suits yX11_suits ∈ gd := gdc_5_0 9 rfl gw_selects
theorem m1086 : Cond.code yX11_suits cX11_suits 9 (some .long) ∈ gd := gdc_5_0 10 rfl gw_code
theorem m1087 : Cond.methodLink RL 88 yX11_keeps ∈ gd := gdc_5_0 11 rfl gw_methodLink
theorem m1088 : Cond.instanceMethod yX11_keeps ∈ gd := gdc_5_0 12 rfl gw_instanceMethod
theorem m1089 : Cond.selects RX11 yX11_keeps yX11_keeps ∈ gd := gdc_5_0 13 rfl gw_selects
theorem m1090 : Cond.code yX11_keeps cX11_keeps 4 (some .int) ∈ gd := gdc_5_0 14 rfl gw_code
theorem m1113 : Cond.methodLink RL 92 yX11_brave ∈ gd := gdc_5_2 5 rfl gw_methodLink
theorem m1114 : Cond.instanceMethod yX11_brave ∈ gd := gdc_5_2 6 rfl gw_instanceMethod
theorem m1115 : Cond.selects RX11 yX11_brave yX11_brave ∈ gd := gdc_5_2 7 rfl gw_selects
theorem m1116 : Cond.code yX11_brave cX11_brave 6 (some .long) ∈ gd := gdc_5_2 8 rfl gw_code
theorem m1134 : Cond.methodLink RL 96 yX11_boldest ∈ gd := gdc_5_3 10 rfl gw_methodLink
theorem m1135 : Cond.instanceMethod yX11_boldest ∈ gd := gdc_5_3 11 rfl gw_instanceMethod
theorem m1136 : Cond.selects RX11 yX11_boldest yX11_boldest ∈ gd := gdc_5_3 12 rfl gw_selects
theorem m1137 : Cond.code yX11_boldest cX11_boldest 6 (some .int) ∈ gd := gdc_5_3 13 rfl gw_code
theorem m1142 : Cond.methodLink RL 100 yX11_wager ∈ gd := gdc_5_4 2 rfl gw_methodLink
theorem m1143 : Cond.instanceMethod yX11_wager ∈ gd := gdc_5_4 3 rfl gw_instanceMethod
theorem m1144 : Cond.selects RX11 yX11_wager yX11_wager ∈ gd := gdc_5_4 4 rfl gw_selects
theorem m1145 : Cond.code yX11_wager cX11_wager 6 (some .int) ∈ gd := gdc_5_4 5 rfl gw_code
theorem m1162 : Cond.methodLink RL 104 yX11_leave ∈ gd := gdc_5_5 6 rfl gw_methodLink
theorem m1163 : Cond.instanceMethod yX11_leave ∈ gd := gdc_5_5 7 rfl gw_instanceMethod
theorem m1164 : Cond.selects RX11 yX11_leave yX11_leave ∈ gd := gdc_5_5 8 rfl gw_selects
theorem m1165 : Cond.code yX11_leave cX11_leave 5 (some .int) ∈ gd := gdc_5_5 9 rfl gw_code
theorem m1166 : Cond.methodLink RL 109 yX11_walk ∈ gd := gdc_5_5 10 rfl gw_methodLink
theorem m1167 : Cond.instanceMethod yX11_walk ∈ gd := gdc_5_5 11 rfl gw_instanceMethod
theorem m1168 : Cond.selects RX11 yX11_walk yX11_walk ∈ gd := gdc_5_5 12 rfl gw_selects
theorem m1169 : Cond.code yX11_walk cX11_walk 4 (some .int) ∈ gd := gdc_5_5 13 rfl gw_code
theorem m1582 : Cond.methodLink RL 17 yX12_feed ∈ gd := gdc_7_1 10 rfl gw_methodLink
theorem m1583 : Cond.instanceMethod yX12_feed ∈ gd := gdc_7_1 11 rfl gw_instanceMethod
theorem m1584 : Cond.selects RX12 yX12_feed yX12_feed ∈ gd := gdc_7_1 12 rfl gw_selects
theorem m1585 : Cond.code yX12_feed cX12_feed 6 (some .int) ∈ gd := gdc_7_1 13 rfl gw_code
theorem m1590 : Cond.methodLink RL 22 yX12_end ∈ gd := gdc_7_2 2 rfl gw_methodLink
theorem m1591 : Cond.instanceMethod yX12_end ∈ gd := gdc_7_2 3 rfl gw_instanceMethod
theorem m1592 : Cond.selects RX12 yX12_end yX12_end ∈ gd := gdc_7_2 4 rfl gw_selects
theorem m1593 : Cond.code yX12_end cX12_end 2 (some .int) ∈ gd := gdc_7_2 5 rfl gw_code
theorem m1594 : Cond.methodLink RL 27 yX12_pavement ∈ gd := gdc_7_2 6 rfl gw_methodLink
theorem m1595 : Cond.instanceMethod yX12_pavement ∈ gd := gdc_7_2 7 rfl gw_instanceMethod
theorem m1596 : Cond.selects RX12 yX12_pavement yX12_pavement ∈ gd := gdc_7_2 8 rfl gw_selects
theorem m1597 : Cond.code yX12_pavement cX12_pavement 3 (some .int) ∈ gd := gdc_7_2 9 rfl gw_code
theorem m1769 : Cond.methodLink RL 31 yX12_fault ∈ gd := gdc_7_13 5 rfl gw_methodLink
theorem m1770 : Cond.instanceMethod yX12_fault ∈ gd := gdc_7_13 6 rfl gw_instanceMethod
theorem m1771 : Cond.selects RX12 yX12_fault yX12_fault ∈ gd := gdc_7_13 7 rfl gw_selects
theorem m1772 : Cond.code yX12_fault cX12_fault 2 (some .int) ∈ gd := gdc_7_13 8 rfl gw_code
theorem m1773 : Cond.methodLink RL 36 yX12_inch ∈ gd := gdc_7_13 9 rfl gw_methodLink
theorem m1774 : Cond.instanceMethod yX12_inch ∈ gd := gdc_7_13 10 rfl gw_instanceMethod
theorem m1775 : Cond.selects RX12 yX12_inch yX12_inch ∈ gd := gdc_7_13 11 rfl gw_selects
theorem m1776 : Cond.code yX12_inch cX12_inch 5 (some .int) ∈ gd := gdc_7_13 12 rfl gw_code
theorem m1791 : Cond.methodLink RL 40 yX12_length ∈ gd := gdc_7_14 11 rfl gw_methodLink
theorem m1792 : Cond.instanceMethod yX12_length ∈ gd := gdc_7_14 12 rfl gw_instanceMethod
theorem m1793 : Cond.selects RX12 yX12_length yX12_length ∈ gd := gdc_7_14 13 rfl gw_selects
theorem m1794 : Cond.code yX12_length cX12_length 2 (some .int) ∈ gd := gdc_7_14 14 rfl gw_code
theorem m1795 : Cond.methodLink RL 44 yX12_line ∈ gd := gdc_7_14 15 rfl gw_methodLink
theorem m1796 : Cond.instanceMethod yX12_line ∈ gd := gdc_8_0 0 rfl gw_instanceMethod
theorem m1797 : Cond.selects RX12 yX12_line yX12_line ∈ gd := gdc_8_0 1 rfl gw_selects
theorem m1798 : Cond.code yX12_line cX12_line 4 (some .int) ∈ gd := gdc_8_0 2 rfl gw_code
theorem m1818 : Cond.methodLink RL 48 yX12_gap ∈ gd := gdc_8_1 6 rfl gw_methodLink
theorem m1819 : Cond.instanceMethod yX12_gap ∈ gd := gdc_8_1 7 rfl gw_instanceMethod
theorem m1820 : Cond.selects RX12 yX12_gap yX12_gap ∈ gd := gdc_8_1 8 rfl gw_selects
theorem m1821 : Cond.code yX12_gap cX12_gap 10 (some .int) ∈ gd := gdc_8_1 9 rfl gw_code
theorem m1822 : Cond.methodLink RL 53 yX12_foot ∈ gd := gdc_8_1 10 rfl gw_methodLink
theorem m1823 : Cond.instanceMethod yX12_foot ∈ gd := gdc_8_1 11 rfl gw_instanceMethod
theorem m1824 : Cond.selects RX12 yX12_foot yX12_foot ∈ gd := gdc_8_1 12 rfl gw_selects
theorem m1825 : Cond.code yX12_foot cX12_foot 5 (some .int) ∈ gd := gdc_8_1 13 rfl gw_code
theorem m1842 : Cond.methodLink RL 57 yX12_fewest ∈ gd := gdc_8_2 14 rfl gw_methodLink
theorem m1843 : Cond.instanceMethod yX12_fewest ∈ gd := gdc_8_2 15 rfl gw_instanceMethod
theorem m1844 : Cond.selects RX12 yX12_fewest yX12_fewest ∈ gd := gdc_8_3 0 rfl gw_selects
theorem m1845 : Cond.code yX12_fewest cX12_fewest 11 (some .int) ∈ gd := gdc_8_3 1 rfl gw_code
theorem m1870 : Cond.methodLink RL 62 yX12_ways ∈ gd := gdc_8_4 10 rfl gw_methodLink
theorem m1871 : Cond.instanceMethod yX12_ways ∈ gd := gdc_8_4 11 rfl gw_instanceMethod
theorem m1872 : Cond.selects RX12 yX12_ways yX12_ways ∈ gd := gdc_8_4 12 rfl gw_selects
theorem m1873 : Cond.code yX12_ways cX12_ways 8 (some .long) ∈ gd := gdc_8_4 13 rfl gw_code
theorem m1883 : Cond.methodLink RL 66 yX12_evenest ∈ gd := gdc_8_5 7 rfl gw_methodLink
theorem m1884 : Cond.instanceMethod yX12_evenest ∈ gd := gdc_8_5 8 rfl gw_instanceMethod
theorem m1885 : Cond.selects RX12 yX12_evenest yX12_evenest ∈ gd := gdc_8_5 9 rfl gw_selects
theorem m1886 : Cond.code yX12_evenest cX12_evenest 7 (some .int) ∈ gd := gdc_8_5 10 rfl gw_code
theorem m1891 : Cond.methodLink RL 70 yX12_even ∈ gd := gdc_8_5 15 rfl gw_methodLink
theorem m1892 : Cond.instanceMethod yX12_even ∈ gd := gdc_8_6 0 rfl gw_instanceMethod
theorem m1893 : Cond.selects RX12 yX12_even yX12_even ∈ gd := gdc_8_6 1 rfl gw_selects
theorem m1894 : Cond.code yX12_even cX12_even 8 (some .int) ∈ gd := gdc_8_6 2 rfl gw_code
theorem m1895 : Cond.methodLink RL 74 yX12_evens ∈ gd := gdc_8_6 3 rfl gw_methodLink
theorem m1896 : Cond.instanceMethod yX12_evens ∈ gd := gdc_8_6 4 rfl gw_instanceMethod
theorem m1897 : Cond.selects RX12 yX12_evens yX12_evens ∈ gd := gdc_8_6 5 rfl gw_selects
theorem m1898 : Cond.code yX12_evens cX12_evens 7 (some .int) ∈ gd := gdc_8_6 6 rfl gw_code
theorem m1903 : Cond.methodLink RL 78 yX12_first ∈ gd := gdc_8_6 11 rfl gw_methodLink
theorem m1904 : Cond.instanceMethod yX12_first ∈ gd := gdc_8_6 12 rfl gw_instanceMethod
theorem m1905 : Cond.selects RX12 yX12_first yX12_first ∈ gd := gdc_8_6 13 rfl gw_selects
theorem m1906 : Cond.code yX12_first cX12_first 6 (some .int) ∈ gd := gdc_8_6 14 rfl gw_code
theorem m1916 : Cond.methodLink RL 82 yX12_begin ∈ gd := gdc_8_7 8 rfl gw_methodLink
theorem m1917 : Cond.instanceMethod yX12_begin ∈ gd := gdc_8_7 9 rfl gw_instanceMethod
theorem m1918 : Cond.selects RX12 yX12_begin yX12_begin ∈ gd := gdc_8_7 10 rfl gw_selects
theorem m1919 : Cond.code yX12_begin cX12_begin 5 (some .int) ∈ gd := gdc_8_7 11 rfl gw_code
theorem m1923 : Cond.methodLink RL 87 yX12_suits ∈ gd := gdc_8_7 15 rfl gw_methodLink
theorem m1924 : Cond.instanceMethod yX12_suits ∈ gd := gdc_8_8 0 rfl gw_instanceMethod
theorem m1925 : Cond.selects RX12 yX12_suits yX12_suits ∈ gd := gdc_8_8 1 rfl gw_selects
theorem m1926 : Cond.code yX12_suits cX12_suits 9 (some .long) ∈ gd := gdc_8_8 2 rfl gw_code
theorem m1927 : Cond.methodLink RL 91 yX12_keeps ∈ gd := gdc_8_8 3 rfl gw_methodLink
theorem m1928 : Cond.instanceMethod yX12_keeps ∈ gd := gdc_8_8 4 rfl gw_instanceMethod
theorem m1929 : Cond.selects RX12 yX12_keeps yX12_keeps ∈ gd := gdc_8_8 5 rfl gw_selects
theorem m1930 : Cond.code yX12_keeps cX12_keeps 7 (some .int) ∈ gd := gdc_8_8 6 rfl gw_code
theorem m1939 : Cond.methodLink RL 95 yX12_brave ∈ gd := gdc_8_8 15 rfl gw_methodLink
theorem m1940 : Cond.instanceMethod yX12_brave ∈ gd := gdc_8_9 0 rfl gw_instanceMethod
theorem m1941 : Cond.selects RX12 yX12_brave yX12_brave ∈ gd := gdc_8_9 1 rfl gw_selects
theorem m1942 : Cond.code yX12_brave cX12_brave 6 (some .long) ∈ gd := gdc_8_9 2 rfl gw_code
theorem m1963 : Cond.methodLink RL 99 yX12_boldest ∈ gd := gdc_8_10 7 rfl gw_methodLink
theorem m1964 : Cond.instanceMethod yX12_boldest ∈ gd := gdc_8_10 8 rfl gw_instanceMethod
theorem m1965 : Cond.selects RX12 yX12_boldest yX12_boldest ∈ gd := gdc_8_10 9 rfl gw_selects
theorem m1966 : Cond.code yX12_boldest cX12_boldest 9 (some .int) ∈ gd := gdc_8_10 10 rfl gw_code
theorem m1967 : Cond.methodLink RL 103 yX12_wager ∈ gd := gdc_8_10 11 rfl gw_methodLink
theorem m1968 : Cond.instanceMethod yX12_wager ∈ gd := gdc_8_10 12 rfl gw_instanceMethod
theorem m1969 : Cond.selects RX12 yX12_wager yX12_wager ∈ gd := gdc_8_10 13 rfl gw_selects
theorem m1970 : Cond.code yX12_wager cX12_wager 6 (some .int) ∈ gd := gdc_8_10 14 rfl gw_code
theorem m1983 : Cond.methodLink RL 108 yX12_leave ∈ gd := gdc_8_11 11 rfl gw_methodLink
theorem m1984 : Cond.instanceMethod yX12_leave ∈ gd := gdc_8_11 12 rfl gw_instanceMethod
theorem m1985 : Cond.selects RX12 yX12_leave yX12_leave ∈ gd := gdc_8_11 13 rfl gw_selects
theorem m1986 : Cond.code yX12_leave cX12_leave 5 (some .int) ∈ gd := gdc_8_11 14 rfl gw_code
theorem m1987 : Cond.methodLink RL 112 yX12_walk ∈ gd := gdc_8_11 15 rfl gw_methodLink
theorem m1988 : Cond.instanceMethod yX12_walk ∈ gd := gdc_8_12 0 rfl gw_instanceMethod
theorem m1989 : Cond.selects RX12 yX12_walk yX12_walk ∈ gd := gdc_8_12 1 rfl gw_selects
theorem m1990 : Cond.code yX12_walk cX12_walk 4 (some .int) ∈ gd := gdc_8_12 2 rfl gw_code
noncomputable def rbL_law_204 : List (Nat × List Nat) := [(204, [43]), (205, [42]), (206, [29]), (207, [4]), (208, [96]), (209, [46]), (210, [42]), (211, [29]), (212, [5]), (213, [96]), (214, [46]), (215, [42]), (216, [29]), (217, [6]), (218, [96]), (219, [46]), (220, [42]), (221, [29]), (222, [7]), (223, [96]), (224, [46]), (225, [42]), (226, [29]), (227, [8])]
theorem rcL_law_204 : dgo (lb cL_law) 0 rbL_law_204 = true := by decide +kernel
theorem dL_law_204 : decode cL_law 204 = .ok (.aload_n 1, 1) := dk_43 (dw rcL_law_204 0 rfl)
theorem dL_law_205 : decode cL_law 205 = .ok (.aload_n 0, 1) := dk_42 (dw rcL_law_204 1 rfl)
theorem dL_law_206 : decode cL_law 206 = .ok (.iload_n 3, 1) := dk_29 (dw rcL_law_204 2 rfl)
theorem dL_law_207 : decode cL_law 207 = .ok (.iconst 1, 1) := dk_4 (dw rcL_law_204 3 rfl)
theorem dL_law_208 : decode cL_law 208 = .ok (.iadd, 1) := dk_96 (dw rcL_law_204 4 rfl)
theorem dL_law_209 : decode cL_law 209 = .ok (.iaload, 1) := dk_46 (dw rcL_law_204 5 rfl)
theorem dL_law_210 : decode cL_law 210 = .ok (.aload_n 0, 1) := dk_42 (dw rcL_law_204 6 rfl)
theorem dL_law_211 : decode cL_law 211 = .ok (.iload_n 3, 1) := dk_29 (dw rcL_law_204 7 rfl)
theorem dL_law_212 : decode cL_law 212 = .ok (.iconst 2, 1) := dk_5 (dw rcL_law_204 8 rfl)
theorem dL_law_213 : decode cL_law 213 = .ok (.iadd, 1) := dk_96 (dw rcL_law_204 9 rfl)
theorem dL_law_214 : decode cL_law 214 = .ok (.iaload, 1) := dk_46 (dw rcL_law_204 10 rfl)
theorem dL_law_215 : decode cL_law 215 = .ok (.aload_n 0, 1) := dk_42 (dw rcL_law_204 11 rfl)
theorem dL_law_216 : decode cL_law 216 = .ok (.iload_n 3, 1) := dk_29 (dw rcL_law_204 12 rfl)
theorem dL_law_217 : decode cL_law 217 = .ok (.iconst 3, 1) := dk_6 (dw rcL_law_204 13 rfl)
theorem dL_law_218 : decode cL_law 218 = .ok (.iadd, 1) := dk_96 (dw rcL_law_204 14 rfl)
theorem dL_law_219 : decode cL_law 219 = .ok (.iaload, 1) := dk_46 (dw rcL_law_204 15 rfl)
theorem dL_law_220 : decode cL_law 220 = .ok (.aload_n 0, 1) := dk_42 (dw rcL_law_204 16 rfl)
theorem dL_law_221 : decode cL_law 221 = .ok (.iload_n 3, 1) := dk_29 (dw rcL_law_204 17 rfl)
theorem dL_law_222 : decode cL_law 222 = .ok (.iconst 4, 1) := dk_7 (dw rcL_law_204 18 rfl)
theorem dL_law_223 : decode cL_law 223 = .ok (.iadd, 1) := dk_96 (dw rcL_law_204 19 rfl)
theorem dL_law_224 : decode cL_law 224 = .ok (.iaload, 1) := dk_46 (dw rcL_law_204 20 rfl)
theorem dL_law_225 : decode cL_law 225 = .ok (.aload_n 0, 1) := dk_42 (dw rcL_law_204 21 rfl)
theorem dL_law_226 : decode cL_law 226 = .ok (.iload_n 3, 1) := dk_29 (dw rcL_law_204 22 rfl)
theorem dL_law_227 : decode cL_law 227 = .ok (.iconst 5, 1) := dk_8 (dw rcL_law_204 23 rfl)
noncomputable def rbL_law_228 : List (Nat × List Nat) := [(228, [96]), (229, [46]), (230, [182, 0, 13]), (233, [87]), (234, [44]), (235, [42]), (236, [29]), (237, [4]), (238, [96]), (239, [46]), (240, [42]), (241, [29]), (242, [5]), (243, [96]), (244, [46]), (245, [42]), (246, [29]), (247, [6]), (248, [96]), (249, [46]), (250, [42]), (251, [29]), (252, [7]), (253, [96])]
theorem rcL_law_228 : dgo (lb cL_law) 0 rbL_law_228 = true := by decide +kernel
theorem dL_law_228 : decode cL_law 228 = .ok (.iadd, 1) := dk_96 (dw rcL_law_228 0 rfl)
theorem dL_law_229 : decode cL_law 229 = .ok (.iaload, 1) := dk_46 (dw rcL_law_228 1 rfl)
theorem dL_law_230 : decode cL_law 230 = .ok (.invokevirtual 13, 3) := dk_182 (dw rcL_law_228 2 rfl) rfl
theorem dL_law_233 : decode cL_law 233 = .ok (.pop, 1) := dk_87 (dw rcL_law_228 3 rfl)
theorem dL_law_234 : decode cL_law 234 = .ok (.aload_n 2, 1) := dk_44 (dw rcL_law_228 4 rfl)
theorem dL_law_235 : decode cL_law 235 = .ok (.aload_n 0, 1) := dk_42 (dw rcL_law_228 5 rfl)
theorem dL_law_236 : decode cL_law 236 = .ok (.iload_n 3, 1) := dk_29 (dw rcL_law_228 6 rfl)
theorem dL_law_237 : decode cL_law 237 = .ok (.iconst 1, 1) := dk_4 (dw rcL_law_228 7 rfl)
theorem dL_law_238 : decode cL_law 238 = .ok (.iadd, 1) := dk_96 (dw rcL_law_228 8 rfl)
theorem dL_law_239 : decode cL_law 239 = .ok (.iaload, 1) := dk_46 (dw rcL_law_228 9 rfl)
theorem dL_law_240 : decode cL_law 240 = .ok (.aload_n 0, 1) := dk_42 (dw rcL_law_228 10 rfl)
theorem dL_law_241 : decode cL_law 241 = .ok (.iload_n 3, 1) := dk_29 (dw rcL_law_228 11 rfl)
theorem dL_law_242 : decode cL_law 242 = .ok (.iconst 2, 1) := dk_5 (dw rcL_law_228 12 rfl)
theorem dL_law_243 : decode cL_law 243 = .ok (.iadd, 1) := dk_96 (dw rcL_law_228 13 rfl)
theorem dL_law_244 : decode cL_law 244 = .ok (.iaload, 1) := dk_46 (dw rcL_law_228 14 rfl)
theorem dL_law_245 : decode cL_law 245 = .ok (.aload_n 0, 1) := dk_42 (dw rcL_law_228 15 rfl)
theorem dL_law_246 : decode cL_law 246 = .ok (.iload_n 3, 1) := dk_29 (dw rcL_law_228 16 rfl)
theorem dL_law_247 : decode cL_law 247 = .ok (.iconst 3, 1) := dk_6 (dw rcL_law_228 17 rfl)
theorem dL_law_248 : decode cL_law 248 = .ok (.iadd, 1) := dk_96 (dw rcL_law_228 18 rfl)
theorem dL_law_249 : decode cL_law 249 = .ok (.iaload, 1) := dk_46 (dw rcL_law_228 19 rfl)
theorem dL_law_250 : decode cL_law 250 = .ok (.aload_n 0, 1) := dk_42 (dw rcL_law_228 20 rfl)
theorem dL_law_251 : decode cL_law 251 = .ok (.iload_n 3, 1) := dk_29 (dw rcL_law_228 21 rfl)
theorem dL_law_252 : decode cL_law 252 = .ok (.iconst 4, 1) := dk_7 (dw rcL_law_228 22 rfl)
theorem dL_law_253 : decode cL_law 253 = .ok (.iadd, 1) := dk_96 (dw rcL_law_228 23 rfl)
noncomputable def rbL_law_254 : List (Nat × List Nat) := [(254, [46]), (255, [42]), (256, [29]), (257, [8]), (258, [96]), (259, [46]), (260, [182, 0, 17]), (263, [87]), (264, [167, 5, 97]), (267, [43]), (268, [42]), (269, [29]), (270, [4]), (271, [96]), (272, [46]), (273, [182, 0, 18]), (276, [87]), (277, [44]), (278, [42]), (279, [29]), (280, [4]), (281, [96]), (282, [46]), (283, [182, 0, 22])]
theorem rcL_law_254 : dgo (lb cL_law) 0 rbL_law_254 = true := by decide +kernel
theorem dL_law_254 : decode cL_law 254 = .ok (.iaload, 1) := dk_46 (dw rcL_law_254 0 rfl)
theorem dL_law_255 : decode cL_law 255 = .ok (.aload_n 0, 1) := dk_42 (dw rcL_law_254 1 rfl)
theorem dL_law_256 : decode cL_law 256 = .ok (.iload_n 3, 1) := dk_29 (dw rcL_law_254 2 rfl)
theorem dL_law_257 : decode cL_law 257 = .ok (.iconst 5, 1) := dk_8 (dw rcL_law_254 3 rfl)
theorem dL_law_258 : decode cL_law 258 = .ok (.iadd, 1) := dk_96 (dw rcL_law_254 4 rfl)
theorem dL_law_259 : decode cL_law 259 = .ok (.iaload, 1) := dk_46 (dw rcL_law_254 5 rfl)
theorem dL_law_260 : decode cL_law 260 = .ok (.invokevirtual 17, 3) := dk_182 (dw rcL_law_254 6 rfl) rfl
theorem dL_law_263 : decode cL_law 263 = .ok (.pop, 1) := dk_87 (dw rcL_law_254 7 rfl)
theorem dL_law_264 : decode cL_law 264 = .ok (.goto 1377, 3) := dk_167 (dw rcL_law_254 8 rfl) rfl
theorem dL_law_267 : decode cL_law 267 = .ok (.aload_n 1, 1) := dk_43 (dw rcL_law_254 9 rfl)
theorem dL_law_268 : decode cL_law 268 = .ok (.aload_n 0, 1) := dk_42 (dw rcL_law_254 10 rfl)
theorem dL_law_269 : decode cL_law 269 = .ok (.iload_n 3, 1) := dk_29 (dw rcL_law_254 11 rfl)
theorem dL_law_270 : decode cL_law 270 = .ok (.iconst 1, 1) := dk_4 (dw rcL_law_254 12 rfl)
theorem dL_law_271 : decode cL_law 271 = .ok (.iadd, 1) := dk_96 (dw rcL_law_254 13 rfl)
theorem dL_law_272 : decode cL_law 272 = .ok (.iaload, 1) := dk_46 (dw rcL_law_254 14 rfl)
theorem dL_law_273 : decode cL_law 273 = .ok (.invokevirtual 18, 3) := dk_182 (dw rcL_law_254 15 rfl) rfl
theorem dL_law_276 : decode cL_law 276 = .ok (.pop, 1) := dk_87 (dw rcL_law_254 16 rfl)
theorem dL_law_277 : decode cL_law 277 = .ok (.aload_n 2, 1) := dk_44 (dw rcL_law_254 17 rfl)
theorem dL_law_278 : decode cL_law 278 = .ok (.aload_n 0, 1) := dk_42 (dw rcL_law_254 18 rfl)
theorem dL_law_279 : decode cL_law 279 = .ok (.iload_n 3, 1) := dk_29 (dw rcL_law_254 19 rfl)
theorem dL_law_280 : decode cL_law 280 = .ok (.iconst 1, 1) := dk_4 (dw rcL_law_254 20 rfl)
theorem dL_law_281 : decode cL_law 281 = .ok (.iadd, 1) := dk_96 (dw rcL_law_254 21 rfl)
theorem dL_law_282 : decode cL_law 282 = .ok (.iaload, 1) := dk_46 (dw rcL_law_254 22 rfl)
theorem dL_law_283 : decode cL_law 283 = .ok (.invokevirtual 22, 3) := dk_182 (dw rcL_law_254 23 rfl) rfl
noncomputable def rbL_law_286 : List (Nat × List Nat) := [(286, [87]), (287, [167, 5, 74]), (290, [43]), (291, [182, 0, 23]), (294, [87]), (295, [44]), (296, [182, 0, 27]), (299, [87]), (300, [167, 5, 61]), (303, [43]), (304, [42]), (305, [29]), (306, [4]), (307, [96]), (308, [46]), (309, [182, 0, 28]), (312, [87]), (313, [44]), (314, [42]), (315, [29]), (316, [4]), (317, [96]), (318, [46]), (319, [182, 0, 31])]
theorem rcL_law_286 : dgo (lb cL_law) 0 rbL_law_286 = true := by decide +kernel
theorem dL_law_286 : decode cL_law 286 = .ok (.pop, 1) := dk_87 (dw rcL_law_286 0 rfl)
theorem dL_law_287 : decode cL_law 287 = .ok (.goto 1354, 3) := dk_167 (dw rcL_law_286 1 rfl) rfl
theorem dL_law_290 : decode cL_law 290 = .ok (.aload_n 1, 1) := dk_43 (dw rcL_law_286 2 rfl)
theorem dL_law_291 : decode cL_law 291 = .ok (.invokevirtual 23, 3) := dk_182 (dw rcL_law_286 3 rfl) rfl
theorem dL_law_294 : decode cL_law 294 = .ok (.pop, 1) := dk_87 (dw rcL_law_286 4 rfl)
theorem dL_law_295 : decode cL_law 295 = .ok (.aload_n 2, 1) := dk_44 (dw rcL_law_286 5 rfl)
theorem dL_law_296 : decode cL_law 296 = .ok (.invokevirtual 27, 3) := dk_182 (dw rcL_law_286 6 rfl) rfl
theorem dL_law_299 : decode cL_law 299 = .ok (.pop, 1) := dk_87 (dw rcL_law_286 7 rfl)
theorem dL_law_300 : decode cL_law 300 = .ok (.goto 1341, 3) := dk_167 (dw rcL_law_286 8 rfl) rfl
theorem dL_law_303 : decode cL_law 303 = .ok (.aload_n 1, 1) := dk_43 (dw rcL_law_286 9 rfl)
theorem dL_law_304 : decode cL_law 304 = .ok (.aload_n 0, 1) := dk_42 (dw rcL_law_286 10 rfl)
theorem dL_law_305 : decode cL_law 305 = .ok (.iload_n 3, 1) := dk_29 (dw rcL_law_286 11 rfl)
theorem dL_law_306 : decode cL_law 306 = .ok (.iconst 1, 1) := dk_4 (dw rcL_law_286 12 rfl)
theorem dL_law_307 : decode cL_law 307 = .ok (.iadd, 1) := dk_96 (dw rcL_law_286 13 rfl)
theorem dL_law_308 : decode cL_law 308 = .ok (.iaload, 1) := dk_46 (dw rcL_law_286 14 rfl)
theorem dL_law_309 : decode cL_law 309 = .ok (.invokevirtual 28, 3) := dk_182 (dw rcL_law_286 15 rfl) rfl
theorem dL_law_312 : decode cL_law 312 = .ok (.pop, 1) := dk_87 (dw rcL_law_286 16 rfl)
theorem dL_law_313 : decode cL_law 313 = .ok (.aload_n 2, 1) := dk_44 (dw rcL_law_286 17 rfl)
theorem dL_law_314 : decode cL_law 314 = .ok (.aload_n 0, 1) := dk_42 (dw rcL_law_286 18 rfl)
theorem dL_law_315 : decode cL_law 315 = .ok (.iload_n 3, 1) := dk_29 (dw rcL_law_286 19 rfl)
theorem dL_law_316 : decode cL_law 316 = .ok (.iconst 1, 1) := dk_4 (dw rcL_law_286 20 rfl)
theorem dL_law_317 : decode cL_law 317 = .ok (.iadd, 1) := dk_96 (dw rcL_law_286 21 rfl)
theorem dL_law_318 : decode cL_law 318 = .ok (.iaload, 1) := dk_46 (dw rcL_law_286 22 rfl)
theorem dL_law_319 : decode cL_law 319 = .ok (.invokevirtual 31, 3) := dk_182 (dw rcL_law_286 23 rfl) rfl
noncomputable def rbL_law_322 : List (Nat × List Nat) := [(322, [87]), (323, [167, 5, 38]), (326, [43]), (327, [42]), (328, [29]), (329, [4]), (330, [96]), (331, [46]), (332, [42]), (333, [29]), (334, [5]), (335, [96]), (336, [46]), (337, [42]), (338, [29]), (339, [6]), (340, [96]), (341, [46]), (342, [182, 0, 32]), (345, [87]), (346, [44]), (347, [42]), (348, [29]), (349, [4])]
theorem rcL_law_322 : dgo (lb cL_law) 0 rbL_law_322 = true := by decide +kernel
theorem dL_law_322 : decode cL_law 322 = .ok (.pop, 1) := dk_87 (dw rcL_law_322 0 rfl)
theorem dL_law_323 : decode cL_law 323 = .ok (.goto 1318, 3) := dk_167 (dw rcL_law_322 1 rfl) rfl
theorem dL_law_326 : decode cL_law 326 = .ok (.aload_n 1, 1) := dk_43 (dw rcL_law_322 2 rfl)
theorem dL_law_327 : decode cL_law 327 = .ok (.aload_n 0, 1) := dk_42 (dw rcL_law_322 3 rfl)
theorem dL_law_328 : decode cL_law 328 = .ok (.iload_n 3, 1) := dk_29 (dw rcL_law_322 4 rfl)
theorem dL_law_329 : decode cL_law 329 = .ok (.iconst 1, 1) := dk_4 (dw rcL_law_322 5 rfl)
theorem dL_law_330 : decode cL_law 330 = .ok (.iadd, 1) := dk_96 (dw rcL_law_322 6 rfl)
theorem dL_law_331 : decode cL_law 331 = .ok (.iaload, 1) := dk_46 (dw rcL_law_322 7 rfl)
theorem dL_law_332 : decode cL_law 332 = .ok (.aload_n 0, 1) := dk_42 (dw rcL_law_322 8 rfl)
theorem dL_law_333 : decode cL_law 333 = .ok (.iload_n 3, 1) := dk_29 (dw rcL_law_322 9 rfl)
theorem dL_law_334 : decode cL_law 334 = .ok (.iconst 2, 1) := dk_5 (dw rcL_law_322 10 rfl)
theorem dL_law_335 : decode cL_law 335 = .ok (.iadd, 1) := dk_96 (dw rcL_law_322 11 rfl)
theorem dL_law_336 : decode cL_law 336 = .ok (.iaload, 1) := dk_46 (dw rcL_law_322 12 rfl)
theorem dL_law_337 : decode cL_law 337 = .ok (.aload_n 0, 1) := dk_42 (dw rcL_law_322 13 rfl)
theorem dL_law_338 : decode cL_law 338 = .ok (.iload_n 3, 1) := dk_29 (dw rcL_law_322 14 rfl)
theorem dL_law_339 : decode cL_law 339 = .ok (.iconst 3, 1) := dk_6 (dw rcL_law_322 15 rfl)
theorem dL_law_340 : decode cL_law 340 = .ok (.iadd, 1) := dk_96 (dw rcL_law_322 16 rfl)
theorem dL_law_341 : decode cL_law 341 = .ok (.iaload, 1) := dk_46 (dw rcL_law_322 17 rfl)
theorem dL_law_342 : decode cL_law 342 = .ok (.invokevirtual 32, 3) := dk_182 (dw rcL_law_322 18 rfl) rfl
theorem dL_law_345 : decode cL_law 345 = .ok (.pop, 1) := dk_87 (dw rcL_law_322 19 rfl)
theorem dL_law_346 : decode cL_law 346 = .ok (.aload_n 2, 1) := dk_44 (dw rcL_law_322 20 rfl)
theorem dL_law_347 : decode cL_law 347 = .ok (.aload_n 0, 1) := dk_42 (dw rcL_law_322 21 rfl)
theorem dL_law_348 : decode cL_law 348 = .ok (.iload_n 3, 1) := dk_29 (dw rcL_law_322 22 rfl)
theorem dL_law_349 : decode cL_law 349 = .ok (.iconst 1, 1) := dk_4 (dw rcL_law_322 23 rfl)
noncomputable def rbL_law_350 : List (Nat × List Nat) := [(350, [96]), (351, [46]), (352, [42]), (353, [29]), (354, [5]), (355, [96]), (356, [46]), (357, [42]), (358, [29]), (359, [6]), (360, [96]), (361, [46]), (362, [182, 0, 36]), (365, [87]), (366, [167, 4, 251]), (369, [43]), (370, [42]), (371, [29]), (372, [4]), (373, [96]), (374, [46]), (375, [182, 0, 37]), (378, [87]), (379, [44])]
theorem rcL_law_350 : dgo (lb cL_law) 0 rbL_law_350 = true := by decide +kernel
theorem dL_law_350 : decode cL_law 350 = .ok (.iadd, 1) := dk_96 (dw rcL_law_350 0 rfl)
theorem dL_law_351 : decode cL_law 351 = .ok (.iaload, 1) := dk_46 (dw rcL_law_350 1 rfl)
theorem dL_law_352 : decode cL_law 352 = .ok (.aload_n 0, 1) := dk_42 (dw rcL_law_350 2 rfl)
theorem dL_law_353 : decode cL_law 353 = .ok (.iload_n 3, 1) := dk_29 (dw rcL_law_350 3 rfl)
theorem dL_law_354 : decode cL_law 354 = .ok (.iconst 2, 1) := dk_5 (dw rcL_law_350 4 rfl)
theorem dL_law_355 : decode cL_law 355 = .ok (.iadd, 1) := dk_96 (dw rcL_law_350 5 rfl)
theorem dL_law_356 : decode cL_law 356 = .ok (.iaload, 1) := dk_46 (dw rcL_law_350 6 rfl)
theorem dL_law_357 : decode cL_law 357 = .ok (.aload_n 0, 1) := dk_42 (dw rcL_law_350 7 rfl)
theorem dL_law_358 : decode cL_law 358 = .ok (.iload_n 3, 1) := dk_29 (dw rcL_law_350 8 rfl)
theorem dL_law_359 : decode cL_law 359 = .ok (.iconst 3, 1) := dk_6 (dw rcL_law_350 9 rfl)
theorem dL_law_360 : decode cL_law 360 = .ok (.iadd, 1) := dk_96 (dw rcL_law_350 10 rfl)
theorem dL_law_361 : decode cL_law 361 = .ok (.iaload, 1) := dk_46 (dw rcL_law_350 11 rfl)
theorem dL_law_362 : decode cL_law 362 = .ok (.invokevirtual 36, 3) := dk_182 (dw rcL_law_350 12 rfl) rfl
theorem dL_law_365 : decode cL_law 365 = .ok (.pop, 1) := dk_87 (dw rcL_law_350 13 rfl)
theorem dL_law_366 : decode cL_law 366 = .ok (.goto 1275, 3) := dk_167 (dw rcL_law_350 14 rfl) rfl
theorem dL_law_369 : decode cL_law 369 = .ok (.aload_n 1, 1) := dk_43 (dw rcL_law_350 15 rfl)
theorem dL_law_370 : decode cL_law 370 = .ok (.aload_n 0, 1) := dk_42 (dw rcL_law_350 16 rfl)
theorem dL_law_371 : decode cL_law 371 = .ok (.iload_n 3, 1) := dk_29 (dw rcL_law_350 17 rfl)
theorem dL_law_372 : decode cL_law 372 = .ok (.iconst 1, 1) := dk_4 (dw rcL_law_350 18 rfl)
theorem dL_law_373 : decode cL_law 373 = .ok (.iadd, 1) := dk_96 (dw rcL_law_350 19 rfl)
theorem dL_law_374 : decode cL_law 374 = .ok (.iaload, 1) := dk_46 (dw rcL_law_350 20 rfl)
theorem dL_law_375 : decode cL_law 375 = .ok (.invokevirtual 37, 3) := dk_182 (dw rcL_law_350 21 rfl) rfl
theorem dL_law_378 : decode cL_law 378 = .ok (.pop, 1) := dk_87 (dw rcL_law_350 22 rfl)
theorem dL_law_379 : decode cL_law 379 = .ok (.aload_n 2, 1) := dk_44 (dw rcL_law_350 23 rfl)
noncomputable def rbL_law_380 : List (Nat × List Nat) := [(380, [42]), (381, [29]), (382, [4]), (383, [96]), (384, [46]), (385, [182, 0, 40]), (388, [87]), (389, [167, 4, 228]), (392, [43]), (393, [42]), (394, [29]), (395, [4]), (396, [96]), (397, [46]), (398, [42]), (399, [29]), (400, [5]), (401, [96]), (402, [46]), (403, [42]), (404, [29]), (405, [6]), (406, [96]), (407, [46])]
theorem rcL_law_380 : dgo (lb cL_law) 0 rbL_law_380 = true := by decide +kernel
theorem dL_law_380 : decode cL_law 380 = .ok (.aload_n 0, 1) := dk_42 (dw rcL_law_380 0 rfl)
theorem dL_law_381 : decode cL_law 381 = .ok (.iload_n 3, 1) := dk_29 (dw rcL_law_380 1 rfl)
theorem dL_law_382 : decode cL_law 382 = .ok (.iconst 1, 1) := dk_4 (dw rcL_law_380 2 rfl)
theorem dL_law_383 : decode cL_law 383 = .ok (.iadd, 1) := dk_96 (dw rcL_law_380 3 rfl)
theorem dL_law_384 : decode cL_law 384 = .ok (.iaload, 1) := dk_46 (dw rcL_law_380 4 rfl)
theorem dL_law_385 : decode cL_law 385 = .ok (.invokevirtual 40, 3) := dk_182 (dw rcL_law_380 5 rfl) rfl
theorem dL_law_388 : decode cL_law 388 = .ok (.pop, 1) := dk_87 (dw rcL_law_380 6 rfl)
theorem dL_law_389 : decode cL_law 389 = .ok (.goto 1252, 3) := dk_167 (dw rcL_law_380 7 rfl) rfl
theorem dL_law_392 : decode cL_law 392 = .ok (.aload_n 1, 1) := dk_43 (dw rcL_law_380 8 rfl)
theorem dL_law_393 : decode cL_law 393 = .ok (.aload_n 0, 1) := dk_42 (dw rcL_law_380 9 rfl)
theorem dL_law_394 : decode cL_law 394 = .ok (.iload_n 3, 1) := dk_29 (dw rcL_law_380 10 rfl)
theorem dL_law_395 : decode cL_law 395 = .ok (.iconst 1, 1) := dk_4 (dw rcL_law_380 11 rfl)
theorem dL_law_396 : decode cL_law 396 = .ok (.iadd, 1) := dk_96 (dw rcL_law_380 12 rfl)
theorem dL_law_397 : decode cL_law 397 = .ok (.iaload, 1) := dk_46 (dw rcL_law_380 13 rfl)
theorem dL_law_398 : decode cL_law 398 = .ok (.aload_n 0, 1) := dk_42 (dw rcL_law_380 14 rfl)
theorem dL_law_399 : decode cL_law 399 = .ok (.iload_n 3, 1) := dk_29 (dw rcL_law_380 15 rfl)
theorem dL_law_400 : decode cL_law 400 = .ok (.iconst 2, 1) := dk_5 (dw rcL_law_380 16 rfl)
theorem dL_law_401 : decode cL_law 401 = .ok (.iadd, 1) := dk_96 (dw rcL_law_380 17 rfl)
theorem dL_law_402 : decode cL_law 402 = .ok (.iaload, 1) := dk_46 (dw rcL_law_380 18 rfl)
theorem dL_law_403 : decode cL_law 403 = .ok (.aload_n 0, 1) := dk_42 (dw rcL_law_380 19 rfl)
theorem dL_law_404 : decode cL_law 404 = .ok (.iload_n 3, 1) := dk_29 (dw rcL_law_380 20 rfl)
theorem dL_law_405 : decode cL_law 405 = .ok (.iconst 3, 1) := dk_6 (dw rcL_law_380 21 rfl)
theorem dL_law_406 : decode cL_law 406 = .ok (.iadd, 1) := dk_96 (dw rcL_law_380 22 rfl)
theorem dL_law_407 : decode cL_law 407 = .ok (.iaload, 1) := dk_46 (dw rcL_law_380 23 rfl)
noncomputable def rbL_law_408 : List (Nat × List Nat) := [(408, [182, 0, 41]), (411, [87]), (412, [44]), (413, [42]), (414, [29]), (415, [4]), (416, [96]), (417, [46]), (418, [42]), (419, [29]), (420, [5]), (421, [96]), (422, [46]), (423, [42]), (424, [29]), (425, [6]), (426, [96]), (427, [46]), (428, [182, 0, 44]), (431, [87]), (432, [167, 4, 185]), (435, [43]), (436, [42]), (437, [29])]
theorem rcL_law_408 : dgo (lb cL_law) 0 rbL_law_408 = true := by decide +kernel
theorem dL_law_408 : decode cL_law 408 = .ok (.invokevirtual 41, 3) := dk_182 (dw rcL_law_408 0 rfl) rfl
theorem dL_law_411 : decode cL_law 411 = .ok (.pop, 1) := dk_87 (dw rcL_law_408 1 rfl)
theorem dL_law_412 : decode cL_law 412 = .ok (.aload_n 2, 1) := dk_44 (dw rcL_law_408 2 rfl)
theorem dL_law_413 : decode cL_law 413 = .ok (.aload_n 0, 1) := dk_42 (dw rcL_law_408 3 rfl)
theorem dL_law_414 : decode cL_law 414 = .ok (.iload_n 3, 1) := dk_29 (dw rcL_law_408 4 rfl)
theorem dL_law_415 : decode cL_law 415 = .ok (.iconst 1, 1) := dk_4 (dw rcL_law_408 5 rfl)
theorem dL_law_416 : decode cL_law 416 = .ok (.iadd, 1) := dk_96 (dw rcL_law_408 6 rfl)
theorem dL_law_417 : decode cL_law 417 = .ok (.iaload, 1) := dk_46 (dw rcL_law_408 7 rfl)
theorem dL_law_418 : decode cL_law 418 = .ok (.aload_n 0, 1) := dk_42 (dw rcL_law_408 8 rfl)
theorem dL_law_419 : decode cL_law 419 = .ok (.iload_n 3, 1) := dk_29 (dw rcL_law_408 9 rfl)
theorem dL_law_420 : decode cL_law 420 = .ok (.iconst 2, 1) := dk_5 (dw rcL_law_408 10 rfl)
theorem dL_law_421 : decode cL_law 421 = .ok (.iadd, 1) := dk_96 (dw rcL_law_408 11 rfl)
theorem dL_law_422 : decode cL_law 422 = .ok (.iaload, 1) := dk_46 (dw rcL_law_408 12 rfl)
theorem dL_law_423 : decode cL_law 423 = .ok (.aload_n 0, 1) := dk_42 (dw rcL_law_408 13 rfl)
theorem dL_law_424 : decode cL_law 424 = .ok (.iload_n 3, 1) := dk_29 (dw rcL_law_408 14 rfl)
theorem dL_law_425 : decode cL_law 425 = .ok (.iconst 3, 1) := dk_6 (dw rcL_law_408 15 rfl)
theorem dL_law_426 : decode cL_law 426 = .ok (.iadd, 1) := dk_96 (dw rcL_law_408 16 rfl)
theorem dL_law_427 : decode cL_law 427 = .ok (.iaload, 1) := dk_46 (dw rcL_law_408 17 rfl)
theorem dL_law_428 : decode cL_law 428 = .ok (.invokevirtual 44, 3) := dk_182 (dw rcL_law_408 18 rfl) rfl
theorem dL_law_431 : decode cL_law 431 = .ok (.pop, 1) := dk_87 (dw rcL_law_408 19 rfl)
theorem dL_law_432 : decode cL_law 432 = .ok (.goto 1209, 3) := dk_167 (dw rcL_law_408 20 rfl) rfl
theorem dL_law_435 : decode cL_law 435 = .ok (.aload_n 1, 1) := dk_43 (dw rcL_law_408 21 rfl)
theorem dL_law_436 : decode cL_law 436 = .ok (.aload_n 0, 1) := dk_42 (dw rcL_law_408 22 rfl)
theorem dL_law_437 : decode cL_law 437 = .ok (.iload_n 3, 1) := dk_29 (dw rcL_law_408 23 rfl)
noncomputable def rbL_law_438 : List (Nat × List Nat) := [(438, [4]), (439, [96]), (440, [46]), (441, [42]), (442, [29]), (443, [5]), (444, [96]), (445, [46]), (446, [42]), (447, [29]), (448, [6]), (449, [96]), (450, [46]), (451, [182, 0, 45]), (454, [87]), (455, [44]), (456, [42]), (457, [29]), (458, [4]), (459, [96]), (460, [46]), (461, [42]), (462, [29]), (463, [5])]
theorem rcL_law_438 : dgo (lb cL_law) 0 rbL_law_438 = true := by decide +kernel
theorem dL_law_438 : decode cL_law 438 = .ok (.iconst 1, 1) := dk_4 (dw rcL_law_438 0 rfl)
theorem dL_law_439 : decode cL_law 439 = .ok (.iadd, 1) := dk_96 (dw rcL_law_438 1 rfl)
theorem dL_law_440 : decode cL_law 440 = .ok (.iaload, 1) := dk_46 (dw rcL_law_438 2 rfl)
theorem dL_law_441 : decode cL_law 441 = .ok (.aload_n 0, 1) := dk_42 (dw rcL_law_438 3 rfl)
theorem dL_law_442 : decode cL_law 442 = .ok (.iload_n 3, 1) := dk_29 (dw rcL_law_438 4 rfl)
theorem dL_law_443 : decode cL_law 443 = .ok (.iconst 2, 1) := dk_5 (dw rcL_law_438 5 rfl)
theorem dL_law_444 : decode cL_law 444 = .ok (.iadd, 1) := dk_96 (dw rcL_law_438 6 rfl)
theorem dL_law_445 : decode cL_law 445 = .ok (.iaload, 1) := dk_46 (dw rcL_law_438 7 rfl)
theorem dL_law_446 : decode cL_law 446 = .ok (.aload_n 0, 1) := dk_42 (dw rcL_law_438 8 rfl)
theorem dL_law_447 : decode cL_law 447 = .ok (.iload_n 3, 1) := dk_29 (dw rcL_law_438 9 rfl)
theorem dL_law_448 : decode cL_law 448 = .ok (.iconst 3, 1) := dk_6 (dw rcL_law_438 10 rfl)
theorem dL_law_449 : decode cL_law 449 = .ok (.iadd, 1) := dk_96 (dw rcL_law_438 11 rfl)
theorem dL_law_450 : decode cL_law 450 = .ok (.iaload, 1) := dk_46 (dw rcL_law_438 12 rfl)
theorem dL_law_451 : decode cL_law 451 = .ok (.invokevirtual 45, 3) := dk_182 (dw rcL_law_438 13 rfl) rfl
theorem dL_law_454 : decode cL_law 454 = .ok (.pop, 1) := dk_87 (dw rcL_law_438 14 rfl)
theorem dL_law_455 : decode cL_law 455 = .ok (.aload_n 2, 1) := dk_44 (dw rcL_law_438 15 rfl)
theorem dL_law_456 : decode cL_law 456 = .ok (.aload_n 0, 1) := dk_42 (dw rcL_law_438 16 rfl)
theorem dL_law_457 : decode cL_law 457 = .ok (.iload_n 3, 1) := dk_29 (dw rcL_law_438 17 rfl)
theorem dL_law_458 : decode cL_law 458 = .ok (.iconst 1, 1) := dk_4 (dw rcL_law_438 18 rfl)
theorem dL_law_459 : decode cL_law 459 = .ok (.iadd, 1) := dk_96 (dw rcL_law_438 19 rfl)
theorem dL_law_460 : decode cL_law 460 = .ok (.iaload, 1) := dk_46 (dw rcL_law_438 20 rfl)
theorem dL_law_461 : decode cL_law 461 = .ok (.aload_n 0, 1) := dk_42 (dw rcL_law_438 21 rfl)
theorem dL_law_462 : decode cL_law 462 = .ok (.iload_n 3, 1) := dk_29 (dw rcL_law_438 22 rfl)
theorem dL_law_463 : decode cL_law 463 = .ok (.iconst 2, 1) := dk_5 (dw rcL_law_438 23 rfl)
noncomputable def rbL_law_464 : List (Nat × List Nat) := [(464, [96]), (465, [46]), (466, [42]), (467, [29]), (468, [6]), (469, [96]), (470, [46]), (471, [182, 0, 48]), (474, [87]), (475, [167, 4, 142]), (478, [43]), (479, [42]), (480, [29]), (481, [4]), (482, [96]), (483, [46]), (484, [42]), (485, [29]), (486, [5]), (487, [96]), (488, [46]), (489, [42]), (490, [29]), (491, [6])]
theorem rcL_law_464 : dgo (lb cL_law) 0 rbL_law_464 = true := by decide +kernel
theorem dL_law_464 : decode cL_law 464 = .ok (.iadd, 1) := dk_96 (dw rcL_law_464 0 rfl)
theorem dL_law_465 : decode cL_law 465 = .ok (.iaload, 1) := dk_46 (dw rcL_law_464 1 rfl)
theorem dL_law_466 : decode cL_law 466 = .ok (.aload_n 0, 1) := dk_42 (dw rcL_law_464 2 rfl)
theorem dL_law_467 : decode cL_law 467 = .ok (.iload_n 3, 1) := dk_29 (dw rcL_law_464 3 rfl)
theorem dL_law_468 : decode cL_law 468 = .ok (.iconst 3, 1) := dk_6 (dw rcL_law_464 4 rfl)
theorem dL_law_469 : decode cL_law 469 = .ok (.iadd, 1) := dk_96 (dw rcL_law_464 5 rfl)
theorem dL_law_470 : decode cL_law 470 = .ok (.iaload, 1) := dk_46 (dw rcL_law_464 6 rfl)
theorem dL_law_471 : decode cL_law 471 = .ok (.invokevirtual 48, 3) := dk_182 (dw rcL_law_464 7 rfl) rfl
theorem dL_law_474 : decode cL_law 474 = .ok (.pop, 1) := dk_87 (dw rcL_law_464 8 rfl)
theorem dL_law_475 : decode cL_law 475 = .ok (.goto 1166, 3) := dk_167 (dw rcL_law_464 9 rfl) rfl
theorem dL_law_478 : decode cL_law 478 = .ok (.aload_n 1, 1) := dk_43 (dw rcL_law_464 10 rfl)
theorem dL_law_479 : decode cL_law 479 = .ok (.aload_n 0, 1) := dk_42 (dw rcL_law_464 11 rfl)
theorem dL_law_480 : decode cL_law 480 = .ok (.iload_n 3, 1) := dk_29 (dw rcL_law_464 12 rfl)
theorem dL_law_481 : decode cL_law 481 = .ok (.iconst 1, 1) := dk_4 (dw rcL_law_464 13 rfl)
theorem dL_law_482 : decode cL_law 482 = .ok (.iadd, 1) := dk_96 (dw rcL_law_464 14 rfl)
theorem dL_law_483 : decode cL_law 483 = .ok (.iaload, 1) := dk_46 (dw rcL_law_464 15 rfl)
theorem dL_law_484 : decode cL_law 484 = .ok (.aload_n 0, 1) := dk_42 (dw rcL_law_464 16 rfl)
theorem dL_law_485 : decode cL_law 485 = .ok (.iload_n 3, 1) := dk_29 (dw rcL_law_464 17 rfl)
theorem dL_law_486 : decode cL_law 486 = .ok (.iconst 2, 1) := dk_5 (dw rcL_law_464 18 rfl)
theorem dL_law_487 : decode cL_law 487 = .ok (.iadd, 1) := dk_96 (dw rcL_law_464 19 rfl)
theorem dL_law_488 : decode cL_law 488 = .ok (.iaload, 1) := dk_46 (dw rcL_law_464 20 rfl)
theorem dL_law_489 : decode cL_law 489 = .ok (.aload_n 0, 1) := dk_42 (dw rcL_law_464 21 rfl)
theorem dL_law_490 : decode cL_law 490 = .ok (.iload_n 3, 1) := dk_29 (dw rcL_law_464 22 rfl)
theorem dL_law_491 : decode cL_law 491 = .ok (.iconst 3, 1) := dk_6 (dw rcL_law_464 23 rfl)
noncomputable def rbL_law_492 : List (Nat × List Nat) := [(492, [96]), (493, [46]), (494, [42]), (495, [29]), (496, [7]), (497, [96]), (498, [46]), (499, [182, 0, 49]), (502, [87]), (503, [44]), (504, [42]), (505, [29]), (506, [4]), (507, [96]), (508, [46]), (509, [42]), (510, [29]), (511, [5]), (512, [96]), (513, [46]), (514, [42]), (515, [29]), (516, [6]), (517, [96])]
theorem rcL_law_492 : dgo (lb cL_law) 0 rbL_law_492 = true := by decide +kernel
theorem dL_law_492 : decode cL_law 492 = .ok (.iadd, 1) := dk_96 (dw rcL_law_492 0 rfl)
theorem dL_law_493 : decode cL_law 493 = .ok (.iaload, 1) := dk_46 (dw rcL_law_492 1 rfl)
theorem dL_law_494 : decode cL_law 494 = .ok (.aload_n 0, 1) := dk_42 (dw rcL_law_492 2 rfl)
theorem dL_law_495 : decode cL_law 495 = .ok (.iload_n 3, 1) := dk_29 (dw rcL_law_492 3 rfl)
theorem dL_law_496 : decode cL_law 496 = .ok (.iconst 4, 1) := dk_7 (dw rcL_law_492 4 rfl)
theorem dL_law_497 : decode cL_law 497 = .ok (.iadd, 1) := dk_96 (dw rcL_law_492 5 rfl)
theorem dL_law_498 : decode cL_law 498 = .ok (.iaload, 1) := dk_46 (dw rcL_law_492 6 rfl)
theorem dL_law_499 : decode cL_law 499 = .ok (.invokevirtual 49, 3) := dk_182 (dw rcL_law_492 7 rfl) rfl
theorem dL_law_502 : decode cL_law 502 = .ok (.pop, 1) := dk_87 (dw rcL_law_492 8 rfl)
theorem dL_law_503 : decode cL_law 503 = .ok (.aload_n 2, 1) := dk_44 (dw rcL_law_492 9 rfl)
theorem dL_law_504 : decode cL_law 504 = .ok (.aload_n 0, 1) := dk_42 (dw rcL_law_492 10 rfl)
theorem dL_law_505 : decode cL_law 505 = .ok (.iload_n 3, 1) := dk_29 (dw rcL_law_492 11 rfl)
theorem dL_law_506 : decode cL_law 506 = .ok (.iconst 1, 1) := dk_4 (dw rcL_law_492 12 rfl)
theorem dL_law_507 : decode cL_law 507 = .ok (.iadd, 1) := dk_96 (dw rcL_law_492 13 rfl)
theorem dL_law_508 : decode cL_law 508 = .ok (.iaload, 1) := dk_46 (dw rcL_law_492 14 rfl)
theorem dL_law_509 : decode cL_law 509 = .ok (.aload_n 0, 1) := dk_42 (dw rcL_law_492 15 rfl)
theorem dL_law_510 : decode cL_law 510 = .ok (.iload_n 3, 1) := dk_29 (dw rcL_law_492 16 rfl)
theorem dL_law_511 : decode cL_law 511 = .ok (.iconst 2, 1) := dk_5 (dw rcL_law_492 17 rfl)
theorem dL_law_512 : decode cL_law 512 = .ok (.iadd, 1) := dk_96 (dw rcL_law_492 18 rfl)
theorem dL_law_513 : decode cL_law 513 = .ok (.iaload, 1) := dk_46 (dw rcL_law_492 19 rfl)
theorem dL_law_514 : decode cL_law 514 = .ok (.aload_n 0, 1) := dk_42 (dw rcL_law_492 20 rfl)
theorem dL_law_515 : decode cL_law 515 = .ok (.iload_n 3, 1) := dk_29 (dw rcL_law_492 21 rfl)
theorem dL_law_516 : decode cL_law 516 = .ok (.iconst 3, 1) := dk_6 (dw rcL_law_492 22 rfl)
theorem dL_law_517 : decode cL_law 517 = .ok (.iadd, 1) := dk_96 (dw rcL_law_492 23 rfl)
noncomputable def rbL_law_518 : List (Nat × List Nat) := [(518, [46]), (519, [42]), (520, [29]), (521, [7]), (522, [96]), (523, [46]), (524, [182, 0, 53]), (527, [87]), (528, [167, 4, 89]), (531, [43]), (532, [42]), (533, [29]), (534, [4]), (535, [96]), (536, [46]), (537, [42]), (538, [29]), (539, [5]), (540, [96]), (541, [46]), (542, [42]), (543, [29]), (544, [6]), (545, [96])]
theorem rcL_law_518 : dgo (lb cL_law) 0 rbL_law_518 = true := by decide +kernel
theorem dL_law_518 : decode cL_law 518 = .ok (.iaload, 1) := dk_46 (dw rcL_law_518 0 rfl)
theorem dL_law_519 : decode cL_law 519 = .ok (.aload_n 0, 1) := dk_42 (dw rcL_law_518 1 rfl)
theorem dL_law_520 : decode cL_law 520 = .ok (.iload_n 3, 1) := dk_29 (dw rcL_law_518 2 rfl)
theorem dL_law_521 : decode cL_law 521 = .ok (.iconst 4, 1) := dk_7 (dw rcL_law_518 3 rfl)
theorem dL_law_522 : decode cL_law 522 = .ok (.iadd, 1) := dk_96 (dw rcL_law_518 4 rfl)
theorem dL_law_523 : decode cL_law 523 = .ok (.iaload, 1) := dk_46 (dw rcL_law_518 5 rfl)
theorem dL_law_524 : decode cL_law 524 = .ok (.invokevirtual 53, 3) := dk_182 (dw rcL_law_518 6 rfl) rfl
theorem dL_law_527 : decode cL_law 527 = .ok (.pop, 1) := dk_87 (dw rcL_law_518 7 rfl)
theorem dL_law_528 : decode cL_law 528 = .ok (.goto 1113, 3) := dk_167 (dw rcL_law_518 8 rfl) rfl
theorem dL_law_531 : decode cL_law 531 = .ok (.aload_n 1, 1) := dk_43 (dw rcL_law_518 9 rfl)
theorem dL_law_532 : decode cL_law 532 = .ok (.aload_n 0, 1) := dk_42 (dw rcL_law_518 10 rfl)
theorem dL_law_533 : decode cL_law 533 = .ok (.iload_n 3, 1) := dk_29 (dw rcL_law_518 11 rfl)
theorem dL_law_534 : decode cL_law 534 = .ok (.iconst 1, 1) := dk_4 (dw rcL_law_518 12 rfl)
theorem dL_law_535 : decode cL_law 535 = .ok (.iadd, 1) := dk_96 (dw rcL_law_518 13 rfl)
theorem dL_law_536 : decode cL_law 536 = .ok (.iaload, 1) := dk_46 (dw rcL_law_518 14 rfl)
theorem dL_law_537 : decode cL_law 537 = .ok (.aload_n 0, 1) := dk_42 (dw rcL_law_518 15 rfl)
theorem dL_law_538 : decode cL_law 538 = .ok (.iload_n 3, 1) := dk_29 (dw rcL_law_518 16 rfl)
theorem dL_law_539 : decode cL_law 539 = .ok (.iconst 2, 1) := dk_5 (dw rcL_law_518 17 rfl)
theorem dL_law_540 : decode cL_law 540 = .ok (.iadd, 1) := dk_96 (dw rcL_law_518 18 rfl)
theorem dL_law_541 : decode cL_law 541 = .ok (.iaload, 1) := dk_46 (dw rcL_law_518 19 rfl)
theorem dL_law_542 : decode cL_law 542 = .ok (.aload_n 0, 1) := dk_42 (dw rcL_law_518 20 rfl)
theorem dL_law_543 : decode cL_law 543 = .ok (.iload_n 3, 1) := dk_29 (dw rcL_law_518 21 rfl)
theorem dL_law_544 : decode cL_law 544 = .ok (.iconst 3, 1) := dk_6 (dw rcL_law_518 22 rfl)
theorem dL_law_545 : decode cL_law 545 = .ok (.iadd, 1) := dk_96 (dw rcL_law_518 23 rfl)
noncomputable def rbL_law_546 : List (Nat × List Nat) := [(546, [46]), (547, [42]), (548, [29]), (549, [7]), (550, [96]), (551, [46]), (552, [182, 0, 54]), (555, [87]), (556, [44]), (557, [42]), (558, [29]), (559, [4]), (560, [96]), (561, [46]), (562, [42]), (563, [29]), (564, [5]), (565, [96]), (566, [46]), (567, [42]), (568, [29]), (569, [6]), (570, [96]), (571, [46])]
theorem rcL_law_546 : dgo (lb cL_law) 0 rbL_law_546 = true := by decide +kernel
theorem dL_law_546 : decode cL_law 546 = .ok (.iaload, 1) := dk_46 (dw rcL_law_546 0 rfl)
theorem dL_law_547 : decode cL_law 547 = .ok (.aload_n 0, 1) := dk_42 (dw rcL_law_546 1 rfl)
theorem dL_law_548 : decode cL_law 548 = .ok (.iload_n 3, 1) := dk_29 (dw rcL_law_546 2 rfl)
theorem dL_law_549 : decode cL_law 549 = .ok (.iconst 4, 1) := dk_7 (dw rcL_law_546 3 rfl)
theorem dL_law_550 : decode cL_law 550 = .ok (.iadd, 1) := dk_96 (dw rcL_law_546 4 rfl)
theorem dL_law_551 : decode cL_law 551 = .ok (.iaload, 1) := dk_46 (dw rcL_law_546 5 rfl)
theorem dL_law_552 : decode cL_law 552 = .ok (.invokevirtual 54, 3) := dk_182 (dw rcL_law_546 6 rfl) rfl
theorem dL_law_555 : decode cL_law 555 = .ok (.pop, 1) := dk_87 (dw rcL_law_546 7 rfl)
theorem dL_law_556 : decode cL_law 556 = .ok (.aload_n 2, 1) := dk_44 (dw rcL_law_546 8 rfl)
theorem dL_law_557 : decode cL_law 557 = .ok (.aload_n 0, 1) := dk_42 (dw rcL_law_546 9 rfl)
theorem dL_law_558 : decode cL_law 558 = .ok (.iload_n 3, 1) := dk_29 (dw rcL_law_546 10 rfl)
theorem dL_law_559 : decode cL_law 559 = .ok (.iconst 1, 1) := dk_4 (dw rcL_law_546 11 rfl)
theorem dL_law_560 : decode cL_law 560 = .ok (.iadd, 1) := dk_96 (dw rcL_law_546 12 rfl)
theorem dL_law_561 : decode cL_law 561 = .ok (.iaload, 1) := dk_46 (dw rcL_law_546 13 rfl)
theorem dL_law_562 : decode cL_law 562 = .ok (.aload_n 0, 1) := dk_42 (dw rcL_law_546 14 rfl)
theorem dL_law_563 : decode cL_law 563 = .ok (.iload_n 3, 1) := dk_29 (dw rcL_law_546 15 rfl)
theorem dL_law_564 : decode cL_law 564 = .ok (.iconst 2, 1) := dk_5 (dw rcL_law_546 16 rfl)
theorem dL_law_565 : decode cL_law 565 = .ok (.iadd, 1) := dk_96 (dw rcL_law_546 17 rfl)
theorem dL_law_566 : decode cL_law 566 = .ok (.iaload, 1) := dk_46 (dw rcL_law_546 18 rfl)
theorem dL_law_567 : decode cL_law 567 = .ok (.aload_n 0, 1) := dk_42 (dw rcL_law_546 19 rfl)
theorem dL_law_568 : decode cL_law 568 = .ok (.iload_n 3, 1) := dk_29 (dw rcL_law_546 20 rfl)
theorem dL_law_569 : decode cL_law 569 = .ok (.iconst 3, 1) := dk_6 (dw rcL_law_546 21 rfl)
theorem dL_law_570 : decode cL_law 570 = .ok (.iadd, 1) := dk_96 (dw rcL_law_546 22 rfl)
theorem dL_law_571 : decode cL_law 571 = .ok (.iaload, 1) := dk_46 (dw rcL_law_546 23 rfl)
noncomputable def rbL_law_572 : List (Nat × List Nat) := [(572, [42]), (573, [29]), (574, [7]), (575, [96]), (576, [46]), (577, [182, 0, 57]), (580, [87]), (581, [167, 4, 36]), (584, [43]), (585, [42]), (586, [29]), (587, [4]), (588, [96]), (589, [46]), (590, [42]), (591, [29]), (592, [5]), (593, [96]), (594, [46]), (595, [42]), (596, [29]), (597, [6]), (598, [96]), (599, [46])]
theorem rcL_law_572 : dgo (lb cL_law) 0 rbL_law_572 = true := by decide +kernel
theorem dL_law_572 : decode cL_law 572 = .ok (.aload_n 0, 1) := dk_42 (dw rcL_law_572 0 rfl)
theorem dL_law_573 : decode cL_law 573 = .ok (.iload_n 3, 1) := dk_29 (dw rcL_law_572 1 rfl)
theorem dL_law_574 : decode cL_law 574 = .ok (.iconst 4, 1) := dk_7 (dw rcL_law_572 2 rfl)
theorem dL_law_575 : decode cL_law 575 = .ok (.iadd, 1) := dk_96 (dw rcL_law_572 3 rfl)
theorem dL_law_576 : decode cL_law 576 = .ok (.iaload, 1) := dk_46 (dw rcL_law_572 4 rfl)
theorem dL_law_577 : decode cL_law 577 = .ok (.invokevirtual 57, 3) := dk_182 (dw rcL_law_572 5 rfl) rfl
theorem dL_law_580 : decode cL_law 580 = .ok (.pop, 1) := dk_87 (dw rcL_law_572 6 rfl)
theorem dL_law_581 : decode cL_law 581 = .ok (.goto 1060, 3) := dk_167 (dw rcL_law_572 7 rfl) rfl
theorem dL_law_584 : decode cL_law 584 = .ok (.aload_n 1, 1) := dk_43 (dw rcL_law_572 8 rfl)
theorem dL_law_585 : decode cL_law 585 = .ok (.aload_n 0, 1) := dk_42 (dw rcL_law_572 9 rfl)
theorem dL_law_586 : decode cL_law 586 = .ok (.iload_n 3, 1) := dk_29 (dw rcL_law_572 10 rfl)
theorem dL_law_587 : decode cL_law 587 = .ok (.iconst 1, 1) := dk_4 (dw rcL_law_572 11 rfl)
theorem dL_law_588 : decode cL_law 588 = .ok (.iadd, 1) := dk_96 (dw rcL_law_572 12 rfl)
theorem dL_law_589 : decode cL_law 589 = .ok (.iaload, 1) := dk_46 (dw rcL_law_572 13 rfl)
theorem dL_law_590 : decode cL_law 590 = .ok (.aload_n 0, 1) := dk_42 (dw rcL_law_572 14 rfl)
theorem dL_law_591 : decode cL_law 591 = .ok (.iload_n 3, 1) := dk_29 (dw rcL_law_572 15 rfl)
theorem dL_law_592 : decode cL_law 592 = .ok (.iconst 2, 1) := dk_5 (dw rcL_law_572 16 rfl)
theorem dL_law_593 : decode cL_law 593 = .ok (.iadd, 1) := dk_96 (dw rcL_law_572 17 rfl)
theorem dL_law_594 : decode cL_law 594 = .ok (.iaload, 1) := dk_46 (dw rcL_law_572 18 rfl)
theorem dL_law_595 : decode cL_law 595 = .ok (.aload_n 0, 1) := dk_42 (dw rcL_law_572 19 rfl)
theorem dL_law_596 : decode cL_law 596 = .ok (.iload_n 3, 1) := dk_29 (dw rcL_law_572 20 rfl)
theorem dL_law_597 : decode cL_law 597 = .ok (.iconst 3, 1) := dk_6 (dw rcL_law_572 21 rfl)
theorem dL_law_598 : decode cL_law 598 = .ok (.iadd, 1) := dk_96 (dw rcL_law_572 22 rfl)
theorem dL_law_599 : decode cL_law 599 = .ok (.iaload, 1) := dk_46 (dw rcL_law_572 23 rfl)
noncomputable def rbL_law_600 : List (Nat × List Nat) := [(600, [42]), (601, [29]), (602, [7]), (603, [96]), (604, [46]), (605, [182, 0, 58]), (608, [88]), (609, [44]), (610, [42]), (611, [29]), (612, [4]), (613, [96]), (614, [46]), (615, [42]), (616, [29]), (617, [5]), (618, [96]), (619, [46]), (620, [42]), (621, [29]), (622, [6]), (623, [96]), (624, [46]), (625, [42])]
theorem rcL_law_600 : dgo (lb cL_law) 0 rbL_law_600 = true := by decide +kernel
theorem dL_law_600 : decode cL_law 600 = .ok (.aload_n 0, 1) := dk_42 (dw rcL_law_600 0 rfl)
theorem dL_law_601 : decode cL_law 601 = .ok (.iload_n 3, 1) := dk_29 (dw rcL_law_600 1 rfl)
theorem dL_law_602 : decode cL_law 602 = .ok (.iconst 4, 1) := dk_7 (dw rcL_law_600 2 rfl)
theorem dL_law_603 : decode cL_law 603 = .ok (.iadd, 1) := dk_96 (dw rcL_law_600 3 rfl)
theorem dL_law_604 : decode cL_law 604 = .ok (.iaload, 1) := dk_46 (dw rcL_law_600 4 rfl)
theorem dL_law_605 : decode cL_law 605 = .ok (.invokevirtual 58, 3) := dk_182 (dw rcL_law_600 5 rfl) rfl
theorem dL_law_608 : decode cL_law 608 = .ok (.pop2, 1) := dk_88 (dw rcL_law_600 6 rfl)
theorem dL_law_609 : decode cL_law 609 = .ok (.aload_n 2, 1) := dk_44 (dw rcL_law_600 7 rfl)
theorem dL_law_610 : decode cL_law 610 = .ok (.aload_n 0, 1) := dk_42 (dw rcL_law_600 8 rfl)
theorem dL_law_611 : decode cL_law 611 = .ok (.iload_n 3, 1) := dk_29 (dw rcL_law_600 9 rfl)
theorem dL_law_612 : decode cL_law 612 = .ok (.iconst 1, 1) := dk_4 (dw rcL_law_600 10 rfl)
theorem dL_law_613 : decode cL_law 613 = .ok (.iadd, 1) := dk_96 (dw rcL_law_600 11 rfl)
theorem dL_law_614 : decode cL_law 614 = .ok (.iaload, 1) := dk_46 (dw rcL_law_600 12 rfl)
theorem dL_law_615 : decode cL_law 615 = .ok (.aload_n 0, 1) := dk_42 (dw rcL_law_600 13 rfl)
theorem dL_law_616 : decode cL_law 616 = .ok (.iload_n 3, 1) := dk_29 (dw rcL_law_600 14 rfl)
theorem dL_law_617 : decode cL_law 617 = .ok (.iconst 2, 1) := dk_5 (dw rcL_law_600 15 rfl)
theorem dL_law_618 : decode cL_law 618 = .ok (.iadd, 1) := dk_96 (dw rcL_law_600 16 rfl)
theorem dL_law_619 : decode cL_law 619 = .ok (.iaload, 1) := dk_46 (dw rcL_law_600 17 rfl)
theorem dL_law_620 : decode cL_law 620 = .ok (.aload_n 0, 1) := dk_42 (dw rcL_law_600 18 rfl)
theorem dL_law_621 : decode cL_law 621 = .ok (.iload_n 3, 1) := dk_29 (dw rcL_law_600 19 rfl)
theorem dL_law_622 : decode cL_law 622 = .ok (.iconst 3, 1) := dk_6 (dw rcL_law_600 20 rfl)
theorem dL_law_623 : decode cL_law 623 = .ok (.iadd, 1) := dk_96 (dw rcL_law_600 21 rfl)
theorem dL_law_624 : decode cL_law 624 = .ok (.iaload, 1) := dk_46 (dw rcL_law_600 22 rfl)
theorem dL_law_625 : decode cL_law 625 = .ok (.aload_n 0, 1) := dk_42 (dw rcL_law_600 23 rfl)
noncomputable def rbL_law_626 : List (Nat × List Nat) := [(626, [29]), (627, [7]), (628, [96]), (629, [46]), (630, [182, 0, 62]), (633, [88]), (634, [167, 3, 239]), (637, [43]), (638, [42]), (639, [29]), (640, [4]), (641, [96]), (642, [46]), (643, [42]), (644, [29]), (645, [5]), (646, [96]), (647, [46]), (648, [42]), (649, [29]), (650, [6]), (651, [96]), (652, [46]), (653, [42])]
theorem rcL_law_626 : dgo (lb cL_law) 0 rbL_law_626 = true := by decide +kernel
theorem dL_law_626 : decode cL_law 626 = .ok (.iload_n 3, 1) := dk_29 (dw rcL_law_626 0 rfl)
theorem dL_law_627 : decode cL_law 627 = .ok (.iconst 4, 1) := dk_7 (dw rcL_law_626 1 rfl)
theorem dL_law_628 : decode cL_law 628 = .ok (.iadd, 1) := dk_96 (dw rcL_law_626 2 rfl)
theorem dL_law_629 : decode cL_law 629 = .ok (.iaload, 1) := dk_46 (dw rcL_law_626 3 rfl)
theorem dL_law_630 : decode cL_law 630 = .ok (.invokevirtual 62, 3) := dk_182 (dw rcL_law_626 4 rfl) rfl
theorem dL_law_633 : decode cL_law 633 = .ok (.pop2, 1) := dk_88 (dw rcL_law_626 5 rfl)
theorem dL_law_634 : decode cL_law 634 = .ok (.goto 1007, 3) := dk_167 (dw rcL_law_626 6 rfl) rfl
theorem dL_law_637 : decode cL_law 637 = .ok (.aload_n 1, 1) := dk_43 (dw rcL_law_626 7 rfl)
theorem dL_law_638 : decode cL_law 638 = .ok (.aload_n 0, 1) := dk_42 (dw rcL_law_626 8 rfl)
theorem dL_law_639 : decode cL_law 639 = .ok (.iload_n 3, 1) := dk_29 (dw rcL_law_626 9 rfl)
theorem dL_law_640 : decode cL_law 640 = .ok (.iconst 1, 1) := dk_4 (dw rcL_law_626 10 rfl)
theorem dL_law_641 : decode cL_law 641 = .ok (.iadd, 1) := dk_96 (dw rcL_law_626 11 rfl)
theorem dL_law_642 : decode cL_law 642 = .ok (.iaload, 1) := dk_46 (dw rcL_law_626 12 rfl)
theorem dL_law_643 : decode cL_law 643 = .ok (.aload_n 0, 1) := dk_42 (dw rcL_law_626 13 rfl)
theorem dL_law_644 : decode cL_law 644 = .ok (.iload_n 3, 1) := dk_29 (dw rcL_law_626 14 rfl)
theorem dL_law_645 : decode cL_law 645 = .ok (.iconst 2, 1) := dk_5 (dw rcL_law_626 15 rfl)
theorem dL_law_646 : decode cL_law 646 = .ok (.iadd, 1) := dk_96 (dw rcL_law_626 16 rfl)
theorem dL_law_647 : decode cL_law 647 = .ok (.iaload, 1) := dk_46 (dw rcL_law_626 17 rfl)
theorem dL_law_648 : decode cL_law 648 = .ok (.aload_n 0, 1) := dk_42 (dw rcL_law_626 18 rfl)
theorem dL_law_649 : decode cL_law 649 = .ok (.iload_n 3, 1) := dk_29 (dw rcL_law_626 19 rfl)
theorem dL_law_650 : decode cL_law 650 = .ok (.iconst 3, 1) := dk_6 (dw rcL_law_626 20 rfl)
theorem dL_law_651 : decode cL_law 651 = .ok (.iadd, 1) := dk_96 (dw rcL_law_626 21 rfl)
theorem dL_law_652 : decode cL_law 652 = .ok (.iaload, 1) := dk_46 (dw rcL_law_626 22 rfl)
theorem dL_law_653 : decode cL_law 653 = .ok (.aload_n 0, 1) := dk_42 (dw rcL_law_626 23 rfl)
noncomputable def rbL_law_654 : List (Nat × List Nat) := [(654, [29]), (655, [7]), (656, [96]), (657, [46]), (658, [182, 0, 63]), (661, [87]), (662, [44]), (663, [42]), (664, [29]), (665, [4]), (666, [96]), (667, [46]), (668, [42]), (669, [29]), (670, [5]), (671, [96]), (672, [46]), (673, [42]), (674, [29]), (675, [6]), (676, [96]), (677, [46]), (678, [42]), (679, [29])]
theorem rcL_law_654 : dgo (lb cL_law) 0 rbL_law_654 = true := by decide +kernel
theorem dL_law_654 : decode cL_law 654 = .ok (.iload_n 3, 1) := dk_29 (dw rcL_law_654 0 rfl)
theorem dL_law_655 : decode cL_law 655 = .ok (.iconst 4, 1) := dk_7 (dw rcL_law_654 1 rfl)
theorem dL_law_656 : decode cL_law 656 = .ok (.iadd, 1) := dk_96 (dw rcL_law_654 2 rfl)
theorem dL_law_657 : decode cL_law 657 = .ok (.iaload, 1) := dk_46 (dw rcL_law_654 3 rfl)
theorem dL_law_658 : decode cL_law 658 = .ok (.invokevirtual 63, 3) := dk_182 (dw rcL_law_654 4 rfl) rfl
theorem dL_law_661 : decode cL_law 661 = .ok (.pop, 1) := dk_87 (dw rcL_law_654 5 rfl)
theorem dL_law_662 : decode cL_law 662 = .ok (.aload_n 2, 1) := dk_44 (dw rcL_law_654 6 rfl)
theorem dL_law_663 : decode cL_law 663 = .ok (.aload_n 0, 1) := dk_42 (dw rcL_law_654 7 rfl)
theorem dL_law_664 : decode cL_law 664 = .ok (.iload_n 3, 1) := dk_29 (dw rcL_law_654 8 rfl)
theorem dL_law_665 : decode cL_law 665 = .ok (.iconst 1, 1) := dk_4 (dw rcL_law_654 9 rfl)
theorem dL_law_666 : decode cL_law 666 = .ok (.iadd, 1) := dk_96 (dw rcL_law_654 10 rfl)
theorem dL_law_667 : decode cL_law 667 = .ok (.iaload, 1) := dk_46 (dw rcL_law_654 11 rfl)
theorem dL_law_668 : decode cL_law 668 = .ok (.aload_n 0, 1) := dk_42 (dw rcL_law_654 12 rfl)
theorem dL_law_669 : decode cL_law 669 = .ok (.iload_n 3, 1) := dk_29 (dw rcL_law_654 13 rfl)
theorem dL_law_670 : decode cL_law 670 = .ok (.iconst 2, 1) := dk_5 (dw rcL_law_654 14 rfl)
theorem dL_law_671 : decode cL_law 671 = .ok (.iadd, 1) := dk_96 (dw rcL_law_654 15 rfl)
theorem dL_law_672 : decode cL_law 672 = .ok (.iaload, 1) := dk_46 (dw rcL_law_654 16 rfl)
theorem dL_law_673 : decode cL_law 673 = .ok (.aload_n 0, 1) := dk_42 (dw rcL_law_654 17 rfl)
theorem dL_law_674 : decode cL_law 674 = .ok (.iload_n 3, 1) := dk_29 (dw rcL_law_654 18 rfl)
theorem dL_law_675 : decode cL_law 675 = .ok (.iconst 3, 1) := dk_6 (dw rcL_law_654 19 rfl)
theorem dL_law_676 : decode cL_law 676 = .ok (.iadd, 1) := dk_96 (dw rcL_law_654 20 rfl)
theorem dL_law_677 : decode cL_law 677 = .ok (.iaload, 1) := dk_46 (dw rcL_law_654 21 rfl)
theorem dL_law_678 : decode cL_law 678 = .ok (.aload_n 0, 1) := dk_42 (dw rcL_law_654 22 rfl)
theorem dL_law_679 : decode cL_law 679 = .ok (.iload_n 3, 1) := dk_29 (dw rcL_law_654 23 rfl)
noncomputable def rbL_law_680 : List (Nat × List Nat) := [(680, [7]), (681, [96]), (682, [46]), (683, [182, 0, 66]), (686, [87]), (687, [167, 3, 186]), (690, [43]), (691, [42]), (692, [29]), (693, [4]), (694, [96]), (695, [46]), (696, [42]), (697, [29]), (698, [5]), (699, [96]), (700, [46]), (701, [42]), (702, [29]), (703, [6]), (704, [96]), (705, [46]), (706, [42]), (707, [29])]
theorem rcL_law_680 : dgo (lb cL_law) 0 rbL_law_680 = true := by decide +kernel
theorem dL_law_680 : decode cL_law 680 = .ok (.iconst 4, 1) := dk_7 (dw rcL_law_680 0 rfl)
theorem dL_law_681 : decode cL_law 681 = .ok (.iadd, 1) := dk_96 (dw rcL_law_680 1 rfl)
theorem dL_law_682 : decode cL_law 682 = .ok (.iaload, 1) := dk_46 (dw rcL_law_680 2 rfl)
theorem dL_law_683 : decode cL_law 683 = .ok (.invokevirtual 66, 3) := dk_182 (dw rcL_law_680 3 rfl) rfl
theorem dL_law_686 : decode cL_law 686 = .ok (.pop, 1) := dk_87 (dw rcL_law_680 4 rfl)
theorem dL_law_687 : decode cL_law 687 = .ok (.goto 954, 3) := dk_167 (dw rcL_law_680 5 rfl) rfl
theorem dL_law_690 : decode cL_law 690 = .ok (.aload_n 1, 1) := dk_43 (dw rcL_law_680 6 rfl)
theorem dL_law_691 : decode cL_law 691 = .ok (.aload_n 0, 1) := dk_42 (dw rcL_law_680 7 rfl)
theorem dL_law_692 : decode cL_law 692 = .ok (.iload_n 3, 1) := dk_29 (dw rcL_law_680 8 rfl)
theorem dL_law_693 : decode cL_law 693 = .ok (.iconst 1, 1) := dk_4 (dw rcL_law_680 9 rfl)
theorem dL_law_694 : decode cL_law 694 = .ok (.iadd, 1) := dk_96 (dw rcL_law_680 10 rfl)
theorem dL_law_695 : decode cL_law 695 = .ok (.iaload, 1) := dk_46 (dw rcL_law_680 11 rfl)
theorem dL_law_696 : decode cL_law 696 = .ok (.aload_n 0, 1) := dk_42 (dw rcL_law_680 12 rfl)
theorem dL_law_697 : decode cL_law 697 = .ok (.iload_n 3, 1) := dk_29 (dw rcL_law_680 13 rfl)
theorem dL_law_698 : decode cL_law 698 = .ok (.iconst 2, 1) := dk_5 (dw rcL_law_680 14 rfl)
theorem dL_law_699 : decode cL_law 699 = .ok (.iadd, 1) := dk_96 (dw rcL_law_680 15 rfl)
theorem dL_law_700 : decode cL_law 700 = .ok (.iaload, 1) := dk_46 (dw rcL_law_680 16 rfl)
theorem dL_law_701 : decode cL_law 701 = .ok (.aload_n 0, 1) := dk_42 (dw rcL_law_680 17 rfl)
theorem dL_law_702 : decode cL_law 702 = .ok (.iload_n 3, 1) := dk_29 (dw rcL_law_680 18 rfl)
theorem dL_law_703 : decode cL_law 703 = .ok (.iconst 3, 1) := dk_6 (dw rcL_law_680 19 rfl)
theorem dL_law_704 : decode cL_law 704 = .ok (.iadd, 1) := dk_96 (dw rcL_law_680 20 rfl)
theorem dL_law_705 : decode cL_law 705 = .ok (.iaload, 1) := dk_46 (dw rcL_law_680 21 rfl)
theorem dL_law_706 : decode cL_law 706 = .ok (.aload_n 0, 1) := dk_42 (dw rcL_law_680 22 rfl)
theorem dL_law_707 : decode cL_law 707 = .ok (.iload_n 3, 1) := dk_29 (dw rcL_law_680 23 rfl)
noncomputable def rbL_law_708 : List (Nat × List Nat) := [(708, [7]), (709, [96]), (710, [46]), (711, [42]), (712, [29]), (713, [8]), (714, [96]), (715, [46]), (716, [182, 0, 67]), (719, [87]), (720, [44]), (721, [42]), (722, [29]), (723, [4]), (724, [96]), (725, [46]), (726, [42]), (727, [29]), (728, [5]), (729, [96]), (730, [46]), (731, [42]), (732, [29]), (733, [6])]
theorem rcL_law_708 : dgo (lb cL_law) 0 rbL_law_708 = true := by decide +kernel
theorem dL_law_708 : decode cL_law 708 = .ok (.iconst 4, 1) := dk_7 (dw rcL_law_708 0 rfl)
theorem dL_law_709 : decode cL_law 709 = .ok (.iadd, 1) := dk_96 (dw rcL_law_708 1 rfl)
theorem dL_law_710 : decode cL_law 710 = .ok (.iaload, 1) := dk_46 (dw rcL_law_708 2 rfl)
theorem dL_law_711 : decode cL_law 711 = .ok (.aload_n 0, 1) := dk_42 (dw rcL_law_708 3 rfl)
theorem dL_law_712 : decode cL_law 712 = .ok (.iload_n 3, 1) := dk_29 (dw rcL_law_708 4 rfl)
theorem dL_law_713 : decode cL_law 713 = .ok (.iconst 5, 1) := dk_8 (dw rcL_law_708 5 rfl)
theorem dL_law_714 : decode cL_law 714 = .ok (.iadd, 1) := dk_96 (dw rcL_law_708 6 rfl)
theorem dL_law_715 : decode cL_law 715 = .ok (.iaload, 1) := dk_46 (dw rcL_law_708 7 rfl)
theorem dL_law_716 : decode cL_law 716 = .ok (.invokevirtual 67, 3) := dk_182 (dw rcL_law_708 8 rfl) rfl
theorem dL_law_719 : decode cL_law 719 = .ok (.pop, 1) := dk_87 (dw rcL_law_708 9 rfl)
theorem dL_law_720 : decode cL_law 720 = .ok (.aload_n 2, 1) := dk_44 (dw rcL_law_708 10 rfl)
theorem dL_law_721 : decode cL_law 721 = .ok (.aload_n 0, 1) := dk_42 (dw rcL_law_708 11 rfl)
theorem dL_law_722 : decode cL_law 722 = .ok (.iload_n 3, 1) := dk_29 (dw rcL_law_708 12 rfl)
theorem dL_law_723 : decode cL_law 723 = .ok (.iconst 1, 1) := dk_4 (dw rcL_law_708 13 rfl)
theorem dL_law_724 : decode cL_law 724 = .ok (.iadd, 1) := dk_96 (dw rcL_law_708 14 rfl)
theorem dL_law_725 : decode cL_law 725 = .ok (.iaload, 1) := dk_46 (dw rcL_law_708 15 rfl)
theorem dL_law_726 : decode cL_law 726 = .ok (.aload_n 0, 1) := dk_42 (dw rcL_law_708 16 rfl)
theorem dL_law_727 : decode cL_law 727 = .ok (.iload_n 3, 1) := dk_29 (dw rcL_law_708 17 rfl)
theorem dL_law_728 : decode cL_law 728 = .ok (.iconst 2, 1) := dk_5 (dw rcL_law_708 18 rfl)
theorem dL_law_729 : decode cL_law 729 = .ok (.iadd, 1) := dk_96 (dw rcL_law_708 19 rfl)
theorem dL_law_730 : decode cL_law 730 = .ok (.iaload, 1) := dk_46 (dw rcL_law_708 20 rfl)
theorem dL_law_731 : decode cL_law 731 = .ok (.aload_n 0, 1) := dk_42 (dw rcL_law_708 21 rfl)
theorem dL_law_732 : decode cL_law 732 = .ok (.iload_n 3, 1) := dk_29 (dw rcL_law_708 22 rfl)
theorem dL_law_733 : decode cL_law 733 = .ok (.iconst 3, 1) := dk_6 (dw rcL_law_708 23 rfl)
noncomputable def rbL_law_734 : List (Nat × List Nat) := [(734, [96]), (735, [46]), (736, [42]), (737, [29]), (738, [7]), (739, [96]), (740, [46]), (741, [42]), (742, [29]), (743, [8]), (744, [96]), (745, [46]), (746, [182, 0, 70]), (749, [87]), (750, [167, 3, 123]), (753, [43]), (754, [42]), (755, [29]), (756, [4]), (757, [96]), (758, [46]), (759, [42]), (760, [29]), (761, [5])]
theorem rcL_law_734 : dgo (lb cL_law) 0 rbL_law_734 = true := by decide +kernel
theorem dL_law_734 : decode cL_law 734 = .ok (.iadd, 1) := dk_96 (dw rcL_law_734 0 rfl)
theorem dL_law_735 : decode cL_law 735 = .ok (.iaload, 1) := dk_46 (dw rcL_law_734 1 rfl)
theorem dL_law_736 : decode cL_law 736 = .ok (.aload_n 0, 1) := dk_42 (dw rcL_law_734 2 rfl)
theorem dL_law_737 : decode cL_law 737 = .ok (.iload_n 3, 1) := dk_29 (dw rcL_law_734 3 rfl)
theorem dL_law_738 : decode cL_law 738 = .ok (.iconst 4, 1) := dk_7 (dw rcL_law_734 4 rfl)
theorem dL_law_739 : decode cL_law 739 = .ok (.iadd, 1) := dk_96 (dw rcL_law_734 5 rfl)
theorem dL_law_740 : decode cL_law 740 = .ok (.iaload, 1) := dk_46 (dw rcL_law_734 6 rfl)
theorem dL_law_741 : decode cL_law 741 = .ok (.aload_n 0, 1) := dk_42 (dw rcL_law_734 7 rfl)
theorem dL_law_742 : decode cL_law 742 = .ok (.iload_n 3, 1) := dk_29 (dw rcL_law_734 8 rfl)
theorem dL_law_743 : decode cL_law 743 = .ok (.iconst 5, 1) := dk_8 (dw rcL_law_734 9 rfl)
theorem dL_law_744 : decode cL_law 744 = .ok (.iadd, 1) := dk_96 (dw rcL_law_734 10 rfl)
theorem dL_law_745 : decode cL_law 745 = .ok (.iaload, 1) := dk_46 (dw rcL_law_734 11 rfl)
theorem dL_law_746 : decode cL_law 746 = .ok (.invokevirtual 70, 3) := dk_182 (dw rcL_law_734 12 rfl) rfl
theorem dL_law_749 : decode cL_law 749 = .ok (.pop, 1) := dk_87 (dw rcL_law_734 13 rfl)
theorem dL_law_750 : decode cL_law 750 = .ok (.goto 891, 3) := dk_167 (dw rcL_law_734 14 rfl) rfl
theorem dL_law_753 : decode cL_law 753 = .ok (.aload_n 1, 1) := dk_43 (dw rcL_law_734 15 rfl)
theorem dL_law_754 : decode cL_law 754 = .ok (.aload_n 0, 1) := dk_42 (dw rcL_law_734 16 rfl)
theorem dL_law_755 : decode cL_law 755 = .ok (.iload_n 3, 1) := dk_29 (dw rcL_law_734 17 rfl)
theorem dL_law_756 : decode cL_law 756 = .ok (.iconst 1, 1) := dk_4 (dw rcL_law_734 18 rfl)
theorem dL_law_757 : decode cL_law 757 = .ok (.iadd, 1) := dk_96 (dw rcL_law_734 19 rfl)
theorem dL_law_758 : decode cL_law 758 = .ok (.iaload, 1) := dk_46 (dw rcL_law_734 20 rfl)
theorem dL_law_759 : decode cL_law 759 = .ok (.aload_n 0, 1) := dk_42 (dw rcL_law_734 21 rfl)
theorem dL_law_760 : decode cL_law 760 = .ok (.iload_n 3, 1) := dk_29 (dw rcL_law_734 22 rfl)
theorem dL_law_761 : decode cL_law 761 = .ok (.iconst 2, 1) := dk_5 (dw rcL_law_734 23 rfl)
noncomputable def rbL_law_762 : List (Nat × List Nat) := [(762, [96]), (763, [46]), (764, [42]), (765, [29]), (766, [6]), (767, [96]), (768, [46]), (769, [182, 0, 71]), (772, [87]), (773, [44]), (774, [42]), (775, [29]), (776, [4]), (777, [96]), (778, [46]), (779, [42]), (780, [29]), (781, [5]), (782, [96]), (783, [46]), (784, [42]), (785, [29]), (786, [6]), (787, [96])]
theorem rcL_law_762 : dgo (lb cL_law) 0 rbL_law_762 = true := by decide +kernel
theorem dL_law_762 : decode cL_law 762 = .ok (.iadd, 1) := dk_96 (dw rcL_law_762 0 rfl)
theorem dL_law_763 : decode cL_law 763 = .ok (.iaload, 1) := dk_46 (dw rcL_law_762 1 rfl)
theorem dL_law_764 : decode cL_law 764 = .ok (.aload_n 0, 1) := dk_42 (dw rcL_law_762 2 rfl)
theorem dL_law_765 : decode cL_law 765 = .ok (.iload_n 3, 1) := dk_29 (dw rcL_law_762 3 rfl)
theorem dL_law_766 : decode cL_law 766 = .ok (.iconst 3, 1) := dk_6 (dw rcL_law_762 4 rfl)
theorem dL_law_767 : decode cL_law 767 = .ok (.iadd, 1) := dk_96 (dw rcL_law_762 5 rfl)
theorem dL_law_768 : decode cL_law 768 = .ok (.iaload, 1) := dk_46 (dw rcL_law_762 6 rfl)
theorem dL_law_769 : decode cL_law 769 = .ok (.invokevirtual 71, 3) := dk_182 (dw rcL_law_762 7 rfl) rfl
theorem dL_law_772 : decode cL_law 772 = .ok (.pop, 1) := dk_87 (dw rcL_law_762 8 rfl)
theorem dL_law_773 : decode cL_law 773 = .ok (.aload_n 2, 1) := dk_44 (dw rcL_law_762 9 rfl)
theorem dL_law_774 : decode cL_law 774 = .ok (.aload_n 0, 1) := dk_42 (dw rcL_law_762 10 rfl)
theorem dL_law_775 : decode cL_law 775 = .ok (.iload_n 3, 1) := dk_29 (dw rcL_law_762 11 rfl)
theorem dL_law_776 : decode cL_law 776 = .ok (.iconst 1, 1) := dk_4 (dw rcL_law_762 12 rfl)
theorem dL_law_777 : decode cL_law 777 = .ok (.iadd, 1) := dk_96 (dw rcL_law_762 13 rfl)
theorem dL_law_778 : decode cL_law 778 = .ok (.iaload, 1) := dk_46 (dw rcL_law_762 14 rfl)
theorem dL_law_779 : decode cL_law 779 = .ok (.aload_n 0, 1) := dk_42 (dw rcL_law_762 15 rfl)
theorem dL_law_780 : decode cL_law 780 = .ok (.iload_n 3, 1) := dk_29 (dw rcL_law_762 16 rfl)
theorem dL_law_781 : decode cL_law 781 = .ok (.iconst 2, 1) := dk_5 (dw rcL_law_762 17 rfl)
theorem dL_law_782 : decode cL_law 782 = .ok (.iadd, 1) := dk_96 (dw rcL_law_762 18 rfl)
theorem dL_law_783 : decode cL_law 783 = .ok (.iaload, 1) := dk_46 (dw rcL_law_762 19 rfl)
theorem dL_law_784 : decode cL_law 784 = .ok (.aload_n 0, 1) := dk_42 (dw rcL_law_762 20 rfl)
theorem dL_law_785 : decode cL_law 785 = .ok (.iload_n 3, 1) := dk_29 (dw rcL_law_762 21 rfl)
theorem dL_law_786 : decode cL_law 786 = .ok (.iconst 3, 1) := dk_6 (dw rcL_law_762 22 rfl)
theorem dL_law_787 : decode cL_law 787 = .ok (.iadd, 1) := dk_96 (dw rcL_law_762 23 rfl)
noncomputable def rbL_law_788 : List (Nat × List Nat) := [(788, [46]), (789, [182, 0, 74]), (792, [87]), (793, [167, 3, 80]), (796, [43]), (797, [42]), (798, [29]), (799, [4]), (800, [96]), (801, [46]), (802, [42]), (803, [29]), (804, [5]), (805, [96]), (806, [46]), (807, [42]), (808, [29]), (809, [6]), (810, [96]), (811, [46]), (812, [42]), (813, [29]), (814, [7]), (815, [96])]
theorem rcL_law_788 : dgo (lb cL_law) 0 rbL_law_788 = true := by decide +kernel
theorem dL_law_788 : decode cL_law 788 = .ok (.iaload, 1) := dk_46 (dw rcL_law_788 0 rfl)
theorem dL_law_789 : decode cL_law 789 = .ok (.invokevirtual 74, 3) := dk_182 (dw rcL_law_788 1 rfl) rfl
theorem dL_law_792 : decode cL_law 792 = .ok (.pop, 1) := dk_87 (dw rcL_law_788 2 rfl)
theorem dL_law_793 : decode cL_law 793 = .ok (.goto 848, 3) := dk_167 (dw rcL_law_788 3 rfl) rfl
theorem dL_law_796 : decode cL_law 796 = .ok (.aload_n 1, 1) := dk_43 (dw rcL_law_788 4 rfl)
theorem dL_law_797 : decode cL_law 797 = .ok (.aload_n 0, 1) := dk_42 (dw rcL_law_788 5 rfl)
theorem dL_law_798 : decode cL_law 798 = .ok (.iload_n 3, 1) := dk_29 (dw rcL_law_788 6 rfl)
theorem dL_law_799 : decode cL_law 799 = .ok (.iconst 1, 1) := dk_4 (dw rcL_law_788 7 rfl)
theorem dL_law_800 : decode cL_law 800 = .ok (.iadd, 1) := dk_96 (dw rcL_law_788 8 rfl)
theorem dL_law_801 : decode cL_law 801 = .ok (.iaload, 1) := dk_46 (dw rcL_law_788 9 rfl)
theorem dL_law_802 : decode cL_law 802 = .ok (.aload_n 0, 1) := dk_42 (dw rcL_law_788 10 rfl)
theorem dL_law_803 : decode cL_law 803 = .ok (.iload_n 3, 1) := dk_29 (dw rcL_law_788 11 rfl)
theorem dL_law_804 : decode cL_law 804 = .ok (.iconst 2, 1) := dk_5 (dw rcL_law_788 12 rfl)
theorem dL_law_805 : decode cL_law 805 = .ok (.iadd, 1) := dk_96 (dw rcL_law_788 13 rfl)
theorem dL_law_806 : decode cL_law 806 = .ok (.iaload, 1) := dk_46 (dw rcL_law_788 14 rfl)
theorem dL_law_807 : decode cL_law 807 = .ok (.aload_n 0, 1) := dk_42 (dw rcL_law_788 15 rfl)
theorem dL_law_808 : decode cL_law 808 = .ok (.iload_n 3, 1) := dk_29 (dw rcL_law_788 16 rfl)
theorem dL_law_809 : decode cL_law 809 = .ok (.iconst 3, 1) := dk_6 (dw rcL_law_788 17 rfl)
theorem dL_law_810 : decode cL_law 810 = .ok (.iadd, 1) := dk_96 (dw rcL_law_788 18 rfl)
theorem dL_law_811 : decode cL_law 811 = .ok (.iaload, 1) := dk_46 (dw rcL_law_788 19 rfl)
theorem dL_law_812 : decode cL_law 812 = .ok (.aload_n 0, 1) := dk_42 (dw rcL_law_788 20 rfl)
theorem dL_law_813 : decode cL_law 813 = .ok (.iload_n 3, 1) := dk_29 (dw rcL_law_788 21 rfl)
theorem dL_law_814 : decode cL_law 814 = .ok (.iconst 4, 1) := dk_7 (dw rcL_law_788 22 rfl)
theorem dL_law_815 : decode cL_law 815 = .ok (.iadd, 1) := dk_96 (dw rcL_law_788 23 rfl)
noncomputable def rbL_law_816 : List (Nat × List Nat) := [(816, [46]), (817, [42]), (818, [29]), (819, [8]), (820, [96]), (821, [46]), (822, [182, 0, 75]), (825, [87]), (826, [44]), (827, [42]), (828, [29]), (829, [4]), (830, [96]), (831, [46]), (832, [42]), (833, [29]), (834, [5]), (835, [96]), (836, [46]), (837, [42]), (838, [29]), (839, [6]), (840, [96]), (841, [46])]
theorem rcL_law_816 : dgo (lb cL_law) 0 rbL_law_816 = true := by decide +kernel
theorem dL_law_816 : decode cL_law 816 = .ok (.iaload, 1) := dk_46 (dw rcL_law_816 0 rfl)
theorem dL_law_817 : decode cL_law 817 = .ok (.aload_n 0, 1) := dk_42 (dw rcL_law_816 1 rfl)
theorem dL_law_818 : decode cL_law 818 = .ok (.iload_n 3, 1) := dk_29 (dw rcL_law_816 2 rfl)
theorem dL_law_819 : decode cL_law 819 = .ok (.iconst 5, 1) := dk_8 (dw rcL_law_816 3 rfl)
theorem dL_law_820 : decode cL_law 820 = .ok (.iadd, 1) := dk_96 (dw rcL_law_816 4 rfl)
theorem dL_law_821 : decode cL_law 821 = .ok (.iaload, 1) := dk_46 (dw rcL_law_816 5 rfl)
theorem dL_law_822 : decode cL_law 822 = .ok (.invokevirtual 75, 3) := dk_182 (dw rcL_law_816 6 rfl) rfl
theorem dL_law_825 : decode cL_law 825 = .ok (.pop, 1) := dk_87 (dw rcL_law_816 7 rfl)
theorem dL_law_826 : decode cL_law 826 = .ok (.aload_n 2, 1) := dk_44 (dw rcL_law_816 8 rfl)
theorem dL_law_827 : decode cL_law 827 = .ok (.aload_n 0, 1) := dk_42 (dw rcL_law_816 9 rfl)
theorem dL_law_828 : decode cL_law 828 = .ok (.iload_n 3, 1) := dk_29 (dw rcL_law_816 10 rfl)
theorem dL_law_829 : decode cL_law 829 = .ok (.iconst 1, 1) := dk_4 (dw rcL_law_816 11 rfl)
theorem dL_law_830 : decode cL_law 830 = .ok (.iadd, 1) := dk_96 (dw rcL_law_816 12 rfl)
theorem dL_law_831 : decode cL_law 831 = .ok (.iaload, 1) := dk_46 (dw rcL_law_816 13 rfl)
theorem dL_law_832 : decode cL_law 832 = .ok (.aload_n 0, 1) := dk_42 (dw rcL_law_816 14 rfl)
theorem dL_law_833 : decode cL_law 833 = .ok (.iload_n 3, 1) := dk_29 (dw rcL_law_816 15 rfl)
theorem dL_law_834 : decode cL_law 834 = .ok (.iconst 2, 1) := dk_5 (dw rcL_law_816 16 rfl)
theorem dL_law_835 : decode cL_law 835 = .ok (.iadd, 1) := dk_96 (dw rcL_law_816 17 rfl)
theorem dL_law_836 : decode cL_law 836 = .ok (.iaload, 1) := dk_46 (dw rcL_law_816 18 rfl)
theorem dL_law_837 : decode cL_law 837 = .ok (.aload_n 0, 1) := dk_42 (dw rcL_law_816 19 rfl)
theorem dL_law_838 : decode cL_law 838 = .ok (.iload_n 3, 1) := dk_29 (dw rcL_law_816 20 rfl)
theorem dL_law_839 : decode cL_law 839 = .ok (.iconst 3, 1) := dk_6 (dw rcL_law_816 21 rfl)
theorem dL_law_840 : decode cL_law 840 = .ok (.iadd, 1) := dk_96 (dw rcL_law_816 22 rfl)
theorem dL_law_841 : decode cL_law 841 = .ok (.iaload, 1) := dk_46 (dw rcL_law_816 23 rfl)
noncomputable def rbL_law_842 : List (Nat × List Nat) := [(842, [42]), (843, [29]), (844, [7]), (845, [96]), (846, [46]), (847, [42]), (848, [29]), (849, [8]), (850, [96]), (851, [46]), (852, [182, 0, 78]), (855, [87]), (856, [167, 3, 17]), (859, [43]), (860, [42]), (861, [29]), (862, [4]), (863, [96]), (864, [46]), (865, [42]), (866, [29]), (867, [5]), (868, [96]), (869, [46])]
theorem rcL_law_842 : dgo (lb cL_law) 0 rbL_law_842 = true := by decide +kernel
theorem dL_law_842 : decode cL_law 842 = .ok (.aload_n 0, 1) := dk_42 (dw rcL_law_842 0 rfl)
theorem dL_law_843 : decode cL_law 843 = .ok (.iload_n 3, 1) := dk_29 (dw rcL_law_842 1 rfl)
theorem dL_law_844 : decode cL_law 844 = .ok (.iconst 4, 1) := dk_7 (dw rcL_law_842 2 rfl)
theorem dL_law_845 : decode cL_law 845 = .ok (.iadd, 1) := dk_96 (dw rcL_law_842 3 rfl)
theorem dL_law_846 : decode cL_law 846 = .ok (.iaload, 1) := dk_46 (dw rcL_law_842 4 rfl)
theorem dL_law_847 : decode cL_law 847 = .ok (.aload_n 0, 1) := dk_42 (dw rcL_law_842 5 rfl)
theorem dL_law_848 : decode cL_law 848 = .ok (.iload_n 3, 1) := dk_29 (dw rcL_law_842 6 rfl)
theorem dL_law_849 : decode cL_law 849 = .ok (.iconst 5, 1) := dk_8 (dw rcL_law_842 7 rfl)
theorem dL_law_850 : decode cL_law 850 = .ok (.iadd, 1) := dk_96 (dw rcL_law_842 8 rfl)
theorem dL_law_851 : decode cL_law 851 = .ok (.iaload, 1) := dk_46 (dw rcL_law_842 9 rfl)
theorem dL_law_852 : decode cL_law 852 = .ok (.invokevirtual 78, 3) := dk_182 (dw rcL_law_842 10 rfl) rfl
theorem dL_law_855 : decode cL_law 855 = .ok (.pop, 1) := dk_87 (dw rcL_law_842 11 rfl)
theorem dL_law_856 : decode cL_law 856 = .ok (.goto 785, 3) := dk_167 (dw rcL_law_842 12 rfl) rfl
theorem dL_law_859 : decode cL_law 859 = .ok (.aload_n 1, 1) := dk_43 (dw rcL_law_842 13 rfl)
theorem dL_law_860 : decode cL_law 860 = .ok (.aload_n 0, 1) := dk_42 (dw rcL_law_842 14 rfl)
theorem dL_law_861 : decode cL_law 861 = .ok (.iload_n 3, 1) := dk_29 (dw rcL_law_842 15 rfl)
theorem dL_law_862 : decode cL_law 862 = .ok (.iconst 1, 1) := dk_4 (dw rcL_law_842 16 rfl)
theorem dL_law_863 : decode cL_law 863 = .ok (.iadd, 1) := dk_96 (dw rcL_law_842 17 rfl)
theorem dL_law_864 : decode cL_law 864 = .ok (.iaload, 1) := dk_46 (dw rcL_law_842 18 rfl)
theorem dL_law_865 : decode cL_law 865 = .ok (.aload_n 0, 1) := dk_42 (dw rcL_law_842 19 rfl)
theorem dL_law_866 : decode cL_law 866 = .ok (.iload_n 3, 1) := dk_29 (dw rcL_law_842 20 rfl)
theorem dL_law_867 : decode cL_law 867 = .ok (.iconst 2, 1) := dk_5 (dw rcL_law_842 21 rfl)
theorem dL_law_868 : decode cL_law 868 = .ok (.iadd, 1) := dk_96 (dw rcL_law_842 22 rfl)
theorem dL_law_869 : decode cL_law 869 = .ok (.iaload, 1) := dk_46 (dw rcL_law_842 23 rfl)
noncomputable def rbL_law_870 : List (Nat × List Nat) := [(870, [42]), (871, [29]), (872, [6]), (873, [96]), (874, [46]), (875, [42]), (876, [29]), (877, [7]), (878, [96]), (879, [46]), (880, [182, 0, 79]), (883, [87]), (884, [44]), (885, [42]), (886, [29]), (887, [4]), (888, [96]), (889, [46]), (890, [42]), (891, [29]), (892, [5]), (893, [96]), (894, [46]), (895, [42])]
theorem rcL_law_870 : dgo (lb cL_law) 0 rbL_law_870 = true := by decide +kernel
theorem dL_law_870 : decode cL_law 870 = .ok (.aload_n 0, 1) := dk_42 (dw rcL_law_870 0 rfl)
theorem dL_law_871 : decode cL_law 871 = .ok (.iload_n 3, 1) := dk_29 (dw rcL_law_870 1 rfl)
theorem dL_law_872 : decode cL_law 872 = .ok (.iconst 3, 1) := dk_6 (dw rcL_law_870 2 rfl)
theorem dL_law_873 : decode cL_law 873 = .ok (.iadd, 1) := dk_96 (dw rcL_law_870 3 rfl)
theorem dL_law_874 : decode cL_law 874 = .ok (.iaload, 1) := dk_46 (dw rcL_law_870 4 rfl)
theorem dL_law_875 : decode cL_law 875 = .ok (.aload_n 0, 1) := dk_42 (dw rcL_law_870 5 rfl)
theorem dL_law_876 : decode cL_law 876 = .ok (.iload_n 3, 1) := dk_29 (dw rcL_law_870 6 rfl)
theorem dL_law_877 : decode cL_law 877 = .ok (.iconst 4, 1) := dk_7 (dw rcL_law_870 7 rfl)
theorem dL_law_878 : decode cL_law 878 = .ok (.iadd, 1) := dk_96 (dw rcL_law_870 8 rfl)
theorem dL_law_879 : decode cL_law 879 = .ok (.iaload, 1) := dk_46 (dw rcL_law_870 9 rfl)
theorem dL_law_880 : decode cL_law 880 = .ok (.invokevirtual 79, 3) := dk_182 (dw rcL_law_870 10 rfl) rfl
theorem dL_law_883 : decode cL_law 883 = .ok (.pop, 1) := dk_87 (dw rcL_law_870 11 rfl)
theorem dL_law_884 : decode cL_law 884 = .ok (.aload_n 2, 1) := dk_44 (dw rcL_law_870 12 rfl)
theorem dL_law_885 : decode cL_law 885 = .ok (.aload_n 0, 1) := dk_42 (dw rcL_law_870 13 rfl)
theorem dL_law_886 : decode cL_law 886 = .ok (.iload_n 3, 1) := dk_29 (dw rcL_law_870 14 rfl)
theorem dL_law_887 : decode cL_law 887 = .ok (.iconst 1, 1) := dk_4 (dw rcL_law_870 15 rfl)
theorem dL_law_888 : decode cL_law 888 = .ok (.iadd, 1) := dk_96 (dw rcL_law_870 16 rfl)
theorem dL_law_889 : decode cL_law 889 = .ok (.iaload, 1) := dk_46 (dw rcL_law_870 17 rfl)
theorem dL_law_890 : decode cL_law 890 = .ok (.aload_n 0, 1) := dk_42 (dw rcL_law_870 18 rfl)
theorem dL_law_891 : decode cL_law 891 = .ok (.iload_n 3, 1) := dk_29 (dw rcL_law_870 19 rfl)
theorem dL_law_892 : decode cL_law 892 = .ok (.iconst 2, 1) := dk_5 (dw rcL_law_870 20 rfl)
theorem dL_law_893 : decode cL_law 893 = .ok (.iadd, 1) := dk_96 (dw rcL_law_870 21 rfl)
theorem dL_law_894 : decode cL_law 894 = .ok (.iaload, 1) := dk_46 (dw rcL_law_870 22 rfl)
theorem dL_law_895 : decode cL_law 895 = .ok (.aload_n 0, 1) := dk_42 (dw rcL_law_870 23 rfl)
noncomputable def rbL_law_896 : List (Nat × List Nat) := [(896, [29]), (897, [6]), (898, [96]), (899, [46]), (900, [42]), (901, [29]), (902, [7]), (903, [96]), (904, [46]), (905, [182, 0, 82]), (908, [87]), (909, [167, 2, 220]), (912, [43]), (913, [42]), (914, [29]), (915, [4]), (916, [96]), (917, [46]), (918, [42]), (919, [29]), (920, [5]), (921, [96]), (922, [46]), (923, [42])]
theorem rcL_law_896 : dgo (lb cL_law) 0 rbL_law_896 = true := by decide +kernel
theorem dL_law_896 : decode cL_law 896 = .ok (.iload_n 3, 1) := dk_29 (dw rcL_law_896 0 rfl)
theorem dL_law_897 : decode cL_law 897 = .ok (.iconst 3, 1) := dk_6 (dw rcL_law_896 1 rfl)
theorem dL_law_898 : decode cL_law 898 = .ok (.iadd, 1) := dk_96 (dw rcL_law_896 2 rfl)
theorem dL_law_899 : decode cL_law 899 = .ok (.iaload, 1) := dk_46 (dw rcL_law_896 3 rfl)
theorem dL_law_900 : decode cL_law 900 = .ok (.aload_n 0, 1) := dk_42 (dw rcL_law_896 4 rfl)
theorem dL_law_901 : decode cL_law 901 = .ok (.iload_n 3, 1) := dk_29 (dw rcL_law_896 5 rfl)
theorem dL_law_902 : decode cL_law 902 = .ok (.iconst 4, 1) := dk_7 (dw rcL_law_896 6 rfl)
theorem dL_law_903 : decode cL_law 903 = .ok (.iadd, 1) := dk_96 (dw rcL_law_896 7 rfl)
theorem dL_law_904 : decode cL_law 904 = .ok (.iaload, 1) := dk_46 (dw rcL_law_896 8 rfl)
theorem dL_law_905 : decode cL_law 905 = .ok (.invokevirtual 82, 3) := dk_182 (dw rcL_law_896 9 rfl) rfl
theorem dL_law_908 : decode cL_law 908 = .ok (.pop, 1) := dk_87 (dw rcL_law_896 10 rfl)
theorem dL_law_909 : decode cL_law 909 = .ok (.goto 732, 3) := dk_167 (dw rcL_law_896 11 rfl) rfl
theorem dL_law_912 : decode cL_law 912 = .ok (.aload_n 1, 1) := dk_43 (dw rcL_law_896 12 rfl)
theorem dL_law_913 : decode cL_law 913 = .ok (.aload_n 0, 1) := dk_42 (dw rcL_law_896 13 rfl)
theorem dL_law_914 : decode cL_law 914 = .ok (.iload_n 3, 1) := dk_29 (dw rcL_law_896 14 rfl)
theorem dL_law_915 : decode cL_law 915 = .ok (.iconst 1, 1) := dk_4 (dw rcL_law_896 15 rfl)
theorem dL_law_916 : decode cL_law 916 = .ok (.iadd, 1) := dk_96 (dw rcL_law_896 16 rfl)
theorem dL_law_917 : decode cL_law 917 = .ok (.iaload, 1) := dk_46 (dw rcL_law_896 17 rfl)
theorem dL_law_918 : decode cL_law 918 = .ok (.aload_n 0, 1) := dk_42 (dw rcL_law_896 18 rfl)
theorem dL_law_919 : decode cL_law 919 = .ok (.iload_n 3, 1) := dk_29 (dw rcL_law_896 19 rfl)
theorem dL_law_920 : decode cL_law 920 = .ok (.iconst 2, 1) := dk_5 (dw rcL_law_896 20 rfl)
theorem dL_law_921 : decode cL_law 921 = .ok (.iadd, 1) := dk_96 (dw rcL_law_896 21 rfl)
theorem dL_law_922 : decode cL_law 922 = .ok (.iaload, 1) := dk_46 (dw rcL_law_896 22 rfl)
theorem dL_law_923 : decode cL_law 923 = .ok (.aload_n 0, 1) := dk_42 (dw rcL_law_896 23 rfl)
noncomputable def rbL_law_924 : List (Nat × List Nat) := [(924, [29]), (925, [6]), (926, [96]), (927, [46]), (928, [42]), (929, [29]), (930, [7]), (931, [96]), (932, [46]), (933, [42]), (934, [29]), (935, [8]), (936, [96]), (937, [46]), (938, [182, 0, 83]), (941, [88]), (942, [44]), (943, [42]), (944, [29]), (945, [4]), (946, [96]), (947, [46]), (948, [42]), (949, [29])]
theorem rcL_law_924 : dgo (lb cL_law) 0 rbL_law_924 = true := by decide +kernel
theorem dL_law_924 : decode cL_law 924 = .ok (.iload_n 3, 1) := dk_29 (dw rcL_law_924 0 rfl)
theorem dL_law_925 : decode cL_law 925 = .ok (.iconst 3, 1) := dk_6 (dw rcL_law_924 1 rfl)
theorem dL_law_926 : decode cL_law 926 = .ok (.iadd, 1) := dk_96 (dw rcL_law_924 2 rfl)
theorem dL_law_927 : decode cL_law 927 = .ok (.iaload, 1) := dk_46 (dw rcL_law_924 3 rfl)
theorem dL_law_928 : decode cL_law 928 = .ok (.aload_n 0, 1) := dk_42 (dw rcL_law_924 4 rfl)
theorem dL_law_929 : decode cL_law 929 = .ok (.iload_n 3, 1) := dk_29 (dw rcL_law_924 5 rfl)
theorem dL_law_930 : decode cL_law 930 = .ok (.iconst 4, 1) := dk_7 (dw rcL_law_924 6 rfl)
theorem dL_law_931 : decode cL_law 931 = .ok (.iadd, 1) := dk_96 (dw rcL_law_924 7 rfl)
theorem dL_law_932 : decode cL_law 932 = .ok (.iaload, 1) := dk_46 (dw rcL_law_924 8 rfl)
theorem dL_law_933 : decode cL_law 933 = .ok (.aload_n 0, 1) := dk_42 (dw rcL_law_924 9 rfl)
theorem dL_law_934 : decode cL_law 934 = .ok (.iload_n 3, 1) := dk_29 (dw rcL_law_924 10 rfl)
theorem dL_law_935 : decode cL_law 935 = .ok (.iconst 5, 1) := dk_8 (dw rcL_law_924 11 rfl)
theorem dL_law_936 : decode cL_law 936 = .ok (.iadd, 1) := dk_96 (dw rcL_law_924 12 rfl)
theorem dL_law_937 : decode cL_law 937 = .ok (.iaload, 1) := dk_46 (dw rcL_law_924 13 rfl)
theorem dL_law_938 : decode cL_law 938 = .ok (.invokevirtual 83, 3) := dk_182 (dw rcL_law_924 14 rfl) rfl
theorem dL_law_941 : decode cL_law 941 = .ok (.pop2, 1) := dk_88 (dw rcL_law_924 15 rfl)
theorem dL_law_942 : decode cL_law 942 = .ok (.aload_n 2, 1) := dk_44 (dw rcL_law_924 16 rfl)
theorem dL_law_943 : decode cL_law 943 = .ok (.aload_n 0, 1) := dk_42 (dw rcL_law_924 17 rfl)
theorem dL_law_944 : decode cL_law 944 = .ok (.iload_n 3, 1) := dk_29 (dw rcL_law_924 18 rfl)
theorem dL_law_945 : decode cL_law 945 = .ok (.iconst 1, 1) := dk_4 (dw rcL_law_924 19 rfl)
theorem dL_law_946 : decode cL_law 946 = .ok (.iadd, 1) := dk_96 (dw rcL_law_924 20 rfl)
theorem dL_law_947 : decode cL_law 947 = .ok (.iaload, 1) := dk_46 (dw rcL_law_924 21 rfl)
theorem dL_law_948 : decode cL_law 948 = .ok (.aload_n 0, 1) := dk_42 (dw rcL_law_924 22 rfl)
theorem dL_law_949 : decode cL_law 949 = .ok (.iload_n 3, 1) := dk_29 (dw rcL_law_924 23 rfl)
noncomputable def rbL_law_950 : List (Nat × List Nat) := [(950, [5]), (951, [96]), (952, [46]), (953, [42]), (954, [29]), (955, [6]), (956, [96]), (957, [46]), (958, [42]), (959, [29]), (960, [7]), (961, [96]), (962, [46]), (963, [42]), (964, [29]), (965, [8]), (966, [96]), (967, [46]), (968, [182, 0, 87]), (971, [88]), (972, [167, 2, 157]), (975, [43]), (976, [42]), (977, [29])]
theorem rcL_law_950 : dgo (lb cL_law) 0 rbL_law_950 = true := by decide +kernel
theorem dL_law_950 : decode cL_law 950 = .ok (.iconst 2, 1) := dk_5 (dw rcL_law_950 0 rfl)
theorem dL_law_951 : decode cL_law 951 = .ok (.iadd, 1) := dk_96 (dw rcL_law_950 1 rfl)
theorem dL_law_952 : decode cL_law 952 = .ok (.iaload, 1) := dk_46 (dw rcL_law_950 2 rfl)
theorem dL_law_953 : decode cL_law 953 = .ok (.aload_n 0, 1) := dk_42 (dw rcL_law_950 3 rfl)
theorem dL_law_954 : decode cL_law 954 = .ok (.iload_n 3, 1) := dk_29 (dw rcL_law_950 4 rfl)
theorem dL_law_955 : decode cL_law 955 = .ok (.iconst 3, 1) := dk_6 (dw rcL_law_950 5 rfl)
theorem dL_law_956 : decode cL_law 956 = .ok (.iadd, 1) := dk_96 (dw rcL_law_950 6 rfl)
theorem dL_law_957 : decode cL_law 957 = .ok (.iaload, 1) := dk_46 (dw rcL_law_950 7 rfl)
theorem dL_law_958 : decode cL_law 958 = .ok (.aload_n 0, 1) := dk_42 (dw rcL_law_950 8 rfl)
theorem dL_law_959 : decode cL_law 959 = .ok (.iload_n 3, 1) := dk_29 (dw rcL_law_950 9 rfl)
theorem dL_law_960 : decode cL_law 960 = .ok (.iconst 4, 1) := dk_7 (dw rcL_law_950 10 rfl)
theorem dL_law_961 : decode cL_law 961 = .ok (.iadd, 1) := dk_96 (dw rcL_law_950 11 rfl)
theorem dL_law_962 : decode cL_law 962 = .ok (.iaload, 1) := dk_46 (dw rcL_law_950 12 rfl)
theorem dL_law_963 : decode cL_law 963 = .ok (.aload_n 0, 1) := dk_42 (dw rcL_law_950 13 rfl)
theorem dL_law_964 : decode cL_law 964 = .ok (.iload_n 3, 1) := dk_29 (dw rcL_law_950 14 rfl)
theorem dL_law_965 : decode cL_law 965 = .ok (.iconst 5, 1) := dk_8 (dw rcL_law_950 15 rfl)
theorem dL_law_966 : decode cL_law 966 = .ok (.iadd, 1) := dk_96 (dw rcL_law_950 16 rfl)
theorem dL_law_967 : decode cL_law 967 = .ok (.iaload, 1) := dk_46 (dw rcL_law_950 17 rfl)
theorem dL_law_968 : decode cL_law 968 = .ok (.invokevirtual 87, 3) := dk_182 (dw rcL_law_950 18 rfl) rfl
theorem dL_law_971 : decode cL_law 971 = .ok (.pop2, 1) := dk_88 (dw rcL_law_950 19 rfl)
theorem dL_law_972 : decode cL_law 972 = .ok (.goto 669, 3) := dk_167 (dw rcL_law_950 20 rfl) rfl
theorem dL_law_975 : decode cL_law 975 = .ok (.aload_n 1, 1) := dk_43 (dw rcL_law_950 21 rfl)
theorem dL_law_976 : decode cL_law 976 = .ok (.aload_n 0, 1) := dk_42 (dw rcL_law_950 22 rfl)
theorem dL_law_977 : decode cL_law 977 = .ok (.iload_n 3, 1) := dk_29 (dw rcL_law_950 23 rfl)
noncomputable def rbL_law_978 : List (Nat × List Nat) := [(978, [4]), (979, [96]), (980, [46]), (981, [42]), (982, [29]), (983, [5]), (984, [96]), (985, [46]), (986, [42]), (987, [29]), (988, [6]), (989, [96]), (990, [46]), (991, [182, 0, 88]), (994, [87]), (995, [44]), (996, [42]), (997, [29]), (998, [4]), (999, [96]), (1000, [46]), (1001, [42]), (1002, [29]), (1003, [5])]
theorem rcL_law_978 : dgo (lb cL_law) 0 rbL_law_978 = true := by decide +kernel
theorem dL_law_978 : decode cL_law 978 = .ok (.iconst 1, 1) := dk_4 (dw rcL_law_978 0 rfl)
theorem dL_law_979 : decode cL_law 979 = .ok (.iadd, 1) := dk_96 (dw rcL_law_978 1 rfl)
theorem dL_law_980 : decode cL_law 980 = .ok (.iaload, 1) := dk_46 (dw rcL_law_978 2 rfl)
theorem dL_law_981 : decode cL_law 981 = .ok (.aload_n 0, 1) := dk_42 (dw rcL_law_978 3 rfl)
theorem dL_law_982 : decode cL_law 982 = .ok (.iload_n 3, 1) := dk_29 (dw rcL_law_978 4 rfl)
theorem dL_law_983 : decode cL_law 983 = .ok (.iconst 2, 1) := dk_5 (dw rcL_law_978 5 rfl)
theorem dL_law_984 : decode cL_law 984 = .ok (.iadd, 1) := dk_96 (dw rcL_law_978 6 rfl)
theorem dL_law_985 : decode cL_law 985 = .ok (.iaload, 1) := dk_46 (dw rcL_law_978 7 rfl)
theorem dL_law_986 : decode cL_law 986 = .ok (.aload_n 0, 1) := dk_42 (dw rcL_law_978 8 rfl)
theorem dL_law_987 : decode cL_law 987 = .ok (.iload_n 3, 1) := dk_29 (dw rcL_law_978 9 rfl)
theorem dL_law_988 : decode cL_law 988 = .ok (.iconst 3, 1) := dk_6 (dw rcL_law_978 10 rfl)
theorem dL_law_989 : decode cL_law 989 = .ok (.iadd, 1) := dk_96 (dw rcL_law_978 11 rfl)
theorem dL_law_990 : decode cL_law 990 = .ok (.iaload, 1) := dk_46 (dw rcL_law_978 12 rfl)
theorem dL_law_991 : decode cL_law 991 = .ok (.invokevirtual 88, 3) := dk_182 (dw rcL_law_978 13 rfl) rfl
theorem dL_law_994 : decode cL_law 994 = .ok (.pop, 1) := dk_87 (dw rcL_law_978 14 rfl)
theorem dL_law_995 : decode cL_law 995 = .ok (.aload_n 2, 1) := dk_44 (dw rcL_law_978 15 rfl)
theorem dL_law_996 : decode cL_law 996 = .ok (.aload_n 0, 1) := dk_42 (dw rcL_law_978 16 rfl)
theorem dL_law_997 : decode cL_law 997 = .ok (.iload_n 3, 1) := dk_29 (dw rcL_law_978 17 rfl)
theorem dL_law_998 : decode cL_law 998 = .ok (.iconst 1, 1) := dk_4 (dw rcL_law_978 18 rfl)
theorem dL_law_999 : decode cL_law 999 = .ok (.iadd, 1) := dk_96 (dw rcL_law_978 19 rfl)
theorem dL_law_1000 : decode cL_law 1000 = .ok (.iaload, 1) := dk_46 (dw rcL_law_978 20 rfl)
theorem dL_law_1001 : decode cL_law 1001 = .ok (.aload_n 0, 1) := dk_42 (dw rcL_law_978 21 rfl)
theorem dL_law_1002 : decode cL_law 1002 = .ok (.iload_n 3, 1) := dk_29 (dw rcL_law_978 22 rfl)
theorem dL_law_1003 : decode cL_law 1003 = .ok (.iconst 2, 1) := dk_5 (dw rcL_law_978 23 rfl)
noncomputable def rbL_law_1004 : List (Nat × List Nat) := [(1004, [96]), (1005, [46]), (1006, [42]), (1007, [29]), (1008, [6]), (1009, [96]), (1010, [46]), (1011, [182, 0, 91]), (1014, [87]), (1015, [167, 2, 114]), (1018, [43]), (1019, [42]), (1020, [29]), (1021, [4]), (1022, [96]), (1023, [46]), (1024, [42]), (1025, [29]), (1026, [5]), (1027, [96]), (1028, [46]), (1029, [42]), (1030, [29]), (1031, [6])]
theorem rcL_law_1004 : dgo (lb cL_law) 0 rbL_law_1004 = true := by decide +kernel
theorem dL_law_1004 : decode cL_law 1004 = .ok (.iadd, 1) := dk_96 (dw rcL_law_1004 0 rfl)
theorem dL_law_1005 : decode cL_law 1005 = .ok (.iaload, 1) := dk_46 (dw rcL_law_1004 1 rfl)
theorem dL_law_1006 : decode cL_law 1006 = .ok (.aload_n 0, 1) := dk_42 (dw rcL_law_1004 2 rfl)
theorem dL_law_1007 : decode cL_law 1007 = .ok (.iload_n 3, 1) := dk_29 (dw rcL_law_1004 3 rfl)
theorem dL_law_1008 : decode cL_law 1008 = .ok (.iconst 3, 1) := dk_6 (dw rcL_law_1004 4 rfl)
theorem dL_law_1009 : decode cL_law 1009 = .ok (.iadd, 1) := dk_96 (dw rcL_law_1004 5 rfl)
theorem dL_law_1010 : decode cL_law 1010 = .ok (.iaload, 1) := dk_46 (dw rcL_law_1004 6 rfl)
theorem dL_law_1011 : decode cL_law 1011 = .ok (.invokevirtual 91, 3) := dk_182 (dw rcL_law_1004 7 rfl) rfl
theorem dL_law_1014 : decode cL_law 1014 = .ok (.pop, 1) := dk_87 (dw rcL_law_1004 8 rfl)
theorem dL_law_1015 : decode cL_law 1015 = .ok (.goto 626, 3) := dk_167 (dw rcL_law_1004 9 rfl) rfl
theorem dL_law_1018 : decode cL_law 1018 = .ok (.aload_n 1, 1) := dk_43 (dw rcL_law_1004 10 rfl)
theorem dL_law_1019 : decode cL_law 1019 = .ok (.aload_n 0, 1) := dk_42 (dw rcL_law_1004 11 rfl)
theorem dL_law_1020 : decode cL_law 1020 = .ok (.iload_n 3, 1) := dk_29 (dw rcL_law_1004 12 rfl)
theorem dL_law_1021 : decode cL_law 1021 = .ok (.iconst 1, 1) := dk_4 (dw rcL_law_1004 13 rfl)
theorem dL_law_1022 : decode cL_law 1022 = .ok (.iadd, 1) := dk_96 (dw rcL_law_1004 14 rfl)
theorem dL_law_1023 : decode cL_law 1023 = .ok (.iaload, 1) := dk_46 (dw rcL_law_1004 15 rfl)
theorem dL_law_1024 : decode cL_law 1024 = .ok (.aload_n 0, 1) := dk_42 (dw rcL_law_1004 16 rfl)
theorem dL_law_1025 : decode cL_law 1025 = .ok (.iload_n 3, 1) := dk_29 (dw rcL_law_1004 17 rfl)
theorem dL_law_1026 : decode cL_law 1026 = .ok (.iconst 2, 1) := dk_5 (dw rcL_law_1004 18 rfl)
theorem dL_law_1027 : decode cL_law 1027 = .ok (.iadd, 1) := dk_96 (dw rcL_law_1004 19 rfl)
theorem dL_law_1028 : decode cL_law 1028 = .ok (.iaload, 1) := dk_46 (dw rcL_law_1004 20 rfl)
theorem dL_law_1029 : decode cL_law 1029 = .ok (.aload_n 0, 1) := dk_42 (dw rcL_law_1004 21 rfl)
theorem dL_law_1030 : decode cL_law 1030 = .ok (.iload_n 3, 1) := dk_29 (dw rcL_law_1004 22 rfl)
theorem dL_law_1031 : decode cL_law 1031 = .ok (.iconst 3, 1) := dk_6 (dw rcL_law_1004 23 rfl)
noncomputable def rbL_law_1032 : List (Nat × List Nat) := [(1032, [96]), (1033, [46]), (1034, [42]), (1035, [29]), (1036, [7]), (1037, [96]), (1038, [46]), (1039, [42]), (1040, [29]), (1041, [8]), (1042, [96]), (1043, [46]), (1044, [182, 0, 92]), (1047, [88]), (1048, [44]), (1049, [42]), (1050, [29]), (1051, [4]), (1052, [96]), (1053, [46]), (1054, [42]), (1055, [29]), (1056, [5]), (1057, [96])]
theorem rcL_law_1032 : dgo (lb cL_law) 0 rbL_law_1032 = true := by decide +kernel
theorem dL_law_1032 : decode cL_law 1032 = .ok (.iadd, 1) := dk_96 (dw rcL_law_1032 0 rfl)
theorem dL_law_1033 : decode cL_law 1033 = .ok (.iaload, 1) := dk_46 (dw rcL_law_1032 1 rfl)
theorem dL_law_1034 : decode cL_law 1034 = .ok (.aload_n 0, 1) := dk_42 (dw rcL_law_1032 2 rfl)
theorem dL_law_1035 : decode cL_law 1035 = .ok (.iload_n 3, 1) := dk_29 (dw rcL_law_1032 3 rfl)
theorem dL_law_1036 : decode cL_law 1036 = .ok (.iconst 4, 1) := dk_7 (dw rcL_law_1032 4 rfl)
theorem dL_law_1037 : decode cL_law 1037 = .ok (.iadd, 1) := dk_96 (dw rcL_law_1032 5 rfl)
theorem dL_law_1038 : decode cL_law 1038 = .ok (.iaload, 1) := dk_46 (dw rcL_law_1032 6 rfl)
theorem dL_law_1039 : decode cL_law 1039 = .ok (.aload_n 0, 1) := dk_42 (dw rcL_law_1032 7 rfl)
theorem dL_law_1040 : decode cL_law 1040 = .ok (.iload_n 3, 1) := dk_29 (dw rcL_law_1032 8 rfl)
theorem dL_law_1041 : decode cL_law 1041 = .ok (.iconst 5, 1) := dk_8 (dw rcL_law_1032 9 rfl)
theorem dL_law_1042 : decode cL_law 1042 = .ok (.iadd, 1) := dk_96 (dw rcL_law_1032 10 rfl)
theorem dL_law_1043 : decode cL_law 1043 = .ok (.iaload, 1) := dk_46 (dw rcL_law_1032 11 rfl)
theorem dL_law_1044 : decode cL_law 1044 = .ok (.invokevirtual 92, 3) := dk_182 (dw rcL_law_1032 12 rfl) rfl
theorem dL_law_1047 : decode cL_law 1047 = .ok (.pop2, 1) := dk_88 (dw rcL_law_1032 13 rfl)
theorem dL_law_1048 : decode cL_law 1048 = .ok (.aload_n 2, 1) := dk_44 (dw rcL_law_1032 14 rfl)
theorem dL_law_1049 : decode cL_law 1049 = .ok (.aload_n 0, 1) := dk_42 (dw rcL_law_1032 15 rfl)
theorem dL_law_1050 : decode cL_law 1050 = .ok (.iload_n 3, 1) := dk_29 (dw rcL_law_1032 16 rfl)
theorem dL_law_1051 : decode cL_law 1051 = .ok (.iconst 1, 1) := dk_4 (dw rcL_law_1032 17 rfl)
theorem dL_law_1052 : decode cL_law 1052 = .ok (.iadd, 1) := dk_96 (dw rcL_law_1032 18 rfl)
theorem dL_law_1053 : decode cL_law 1053 = .ok (.iaload, 1) := dk_46 (dw rcL_law_1032 19 rfl)
theorem dL_law_1054 : decode cL_law 1054 = .ok (.aload_n 0, 1) := dk_42 (dw rcL_law_1032 20 rfl)
theorem dL_law_1055 : decode cL_law 1055 = .ok (.iload_n 3, 1) := dk_29 (dw rcL_law_1032 21 rfl)
theorem dL_law_1056 : decode cL_law 1056 = .ok (.iconst 2, 1) := dk_5 (dw rcL_law_1032 22 rfl)
theorem dL_law_1057 : decode cL_law 1057 = .ok (.iadd, 1) := dk_96 (dw rcL_law_1032 23 rfl)
noncomputable def rbL_law_1058 : List (Nat × List Nat) := [(1058, [46]), (1059, [42]), (1060, [29]), (1061, [6]), (1062, [96]), (1063, [46]), (1064, [42]), (1065, [29]), (1066, [7]), (1067, [96]), (1068, [46]), (1069, [42]), (1070, [29]), (1071, [8]), (1072, [96]), (1073, [46]), (1074, [182, 0, 95]), (1077, [88]), (1078, [167, 2, 51]), (1081, [43]), (1082, [42]), (1083, [29]), (1084, [4]), (1085, [96])]
theorem rcL_law_1058 : dgo (lb cL_law) 0 rbL_law_1058 = true := by decide +kernel
theorem dL_law_1058 : decode cL_law 1058 = .ok (.iaload, 1) := dk_46 (dw rcL_law_1058 0 rfl)
theorem dL_law_1059 : decode cL_law 1059 = .ok (.aload_n 0, 1) := dk_42 (dw rcL_law_1058 1 rfl)
theorem dL_law_1060 : decode cL_law 1060 = .ok (.iload_n 3, 1) := dk_29 (dw rcL_law_1058 2 rfl)
theorem dL_law_1061 : decode cL_law 1061 = .ok (.iconst 3, 1) := dk_6 (dw rcL_law_1058 3 rfl)
theorem dL_law_1062 : decode cL_law 1062 = .ok (.iadd, 1) := dk_96 (dw rcL_law_1058 4 rfl)
theorem dL_law_1063 : decode cL_law 1063 = .ok (.iaload, 1) := dk_46 (dw rcL_law_1058 5 rfl)
theorem dL_law_1064 : decode cL_law 1064 = .ok (.aload_n 0, 1) := dk_42 (dw rcL_law_1058 6 rfl)
theorem dL_law_1065 : decode cL_law 1065 = .ok (.iload_n 3, 1) := dk_29 (dw rcL_law_1058 7 rfl)
theorem dL_law_1066 : decode cL_law 1066 = .ok (.iconst 4, 1) := dk_7 (dw rcL_law_1058 8 rfl)
theorem dL_law_1067 : decode cL_law 1067 = .ok (.iadd, 1) := dk_96 (dw rcL_law_1058 9 rfl)
theorem dL_law_1068 : decode cL_law 1068 = .ok (.iaload, 1) := dk_46 (dw rcL_law_1058 10 rfl)
theorem dL_law_1069 : decode cL_law 1069 = .ok (.aload_n 0, 1) := dk_42 (dw rcL_law_1058 11 rfl)
theorem dL_law_1070 : decode cL_law 1070 = .ok (.iload_n 3, 1) := dk_29 (dw rcL_law_1058 12 rfl)
theorem dL_law_1071 : decode cL_law 1071 = .ok (.iconst 5, 1) := dk_8 (dw rcL_law_1058 13 rfl)
theorem dL_law_1072 : decode cL_law 1072 = .ok (.iadd, 1) := dk_96 (dw rcL_law_1058 14 rfl)
theorem dL_law_1073 : decode cL_law 1073 = .ok (.iaload, 1) := dk_46 (dw rcL_law_1058 15 rfl)
theorem dL_law_1074 : decode cL_law 1074 = .ok (.invokevirtual 95, 3) := dk_182 (dw rcL_law_1058 16 rfl) rfl
theorem dL_law_1077 : decode cL_law 1077 = .ok (.pop2, 1) := dk_88 (dw rcL_law_1058 17 rfl)
theorem dL_law_1078 : decode cL_law 1078 = .ok (.goto 563, 3) := dk_167 (dw rcL_law_1058 18 rfl) rfl
theorem dL_law_1081 : decode cL_law 1081 = .ok (.aload_n 1, 1) := dk_43 (dw rcL_law_1058 19 rfl)
theorem dL_law_1082 : decode cL_law 1082 = .ok (.aload_n 0, 1) := dk_42 (dw rcL_law_1058 20 rfl)
theorem dL_law_1083 : decode cL_law 1083 = .ok (.iload_n 3, 1) := dk_29 (dw rcL_law_1058 21 rfl)
theorem dL_law_1084 : decode cL_law 1084 = .ok (.iconst 1, 1) := dk_4 (dw rcL_law_1058 22 rfl)
theorem dL_law_1085 : decode cL_law 1085 = .ok (.iadd, 1) := dk_96 (dw rcL_law_1058 23 rfl)
noncomputable def rbL_law_1086 : List (Nat × List Nat) := [(1086, [46]), (1087, [42]), (1088, [29]), (1089, [5]), (1090, [96]), (1091, [46]), (1092, [42]), (1093, [29]), (1094, [6]), (1095, [96]), (1096, [46]), (1097, [42]), (1098, [29]), (1099, [7]), (1100, [96]), (1101, [46]), (1102, [42]), (1103, [29]), (1104, [8]), (1105, [96]), (1106, [46]), (1107, [182, 0, 96]), (1110, [87]), (1111, [44])]
theorem rcL_law_1086 : dgo (lb cL_law) 0 rbL_law_1086 = true := by decide +kernel
theorem dL_law_1086 : decode cL_law 1086 = .ok (.iaload, 1) := dk_46 (dw rcL_law_1086 0 rfl)
theorem dL_law_1087 : decode cL_law 1087 = .ok (.aload_n 0, 1) := dk_42 (dw rcL_law_1086 1 rfl)
theorem dL_law_1088 : decode cL_law 1088 = .ok (.iload_n 3, 1) := dk_29 (dw rcL_law_1086 2 rfl)
theorem dL_law_1089 : decode cL_law 1089 = .ok (.iconst 2, 1) := dk_5 (dw rcL_law_1086 3 rfl)
theorem dL_law_1090 : decode cL_law 1090 = .ok (.iadd, 1) := dk_96 (dw rcL_law_1086 4 rfl)
theorem dL_law_1091 : decode cL_law 1091 = .ok (.iaload, 1) := dk_46 (dw rcL_law_1086 5 rfl)
theorem dL_law_1092 : decode cL_law 1092 = .ok (.aload_n 0, 1) := dk_42 (dw rcL_law_1086 6 rfl)
theorem dL_law_1093 : decode cL_law 1093 = .ok (.iload_n 3, 1) := dk_29 (dw rcL_law_1086 7 rfl)
theorem dL_law_1094 : decode cL_law 1094 = .ok (.iconst 3, 1) := dk_6 (dw rcL_law_1086 8 rfl)
theorem dL_law_1095 : decode cL_law 1095 = .ok (.iadd, 1) := dk_96 (dw rcL_law_1086 9 rfl)
theorem dL_law_1096 : decode cL_law 1096 = .ok (.iaload, 1) := dk_46 (dw rcL_law_1086 10 rfl)
theorem dL_law_1097 : decode cL_law 1097 = .ok (.aload_n 0, 1) := dk_42 (dw rcL_law_1086 11 rfl)
theorem dL_law_1098 : decode cL_law 1098 = .ok (.iload_n 3, 1) := dk_29 (dw rcL_law_1086 12 rfl)
theorem dL_law_1099 : decode cL_law 1099 = .ok (.iconst 4, 1) := dk_7 (dw rcL_law_1086 13 rfl)
theorem dL_law_1100 : decode cL_law 1100 = .ok (.iadd, 1) := dk_96 (dw rcL_law_1086 14 rfl)
theorem dL_law_1101 : decode cL_law 1101 = .ok (.iaload, 1) := dk_46 (dw rcL_law_1086 15 rfl)
theorem dL_law_1102 : decode cL_law 1102 = .ok (.aload_n 0, 1) := dk_42 (dw rcL_law_1086 16 rfl)
theorem dL_law_1103 : decode cL_law 1103 = .ok (.iload_n 3, 1) := dk_29 (dw rcL_law_1086 17 rfl)
theorem dL_law_1104 : decode cL_law 1104 = .ok (.iconst 5, 1) := dk_8 (dw rcL_law_1086 18 rfl)
theorem dL_law_1105 : decode cL_law 1105 = .ok (.iadd, 1) := dk_96 (dw rcL_law_1086 19 rfl)
theorem dL_law_1106 : decode cL_law 1106 = .ok (.iaload, 1) := dk_46 (dw rcL_law_1086 20 rfl)
theorem dL_law_1107 : decode cL_law 1107 = .ok (.invokevirtual 96, 3) := dk_182 (dw rcL_law_1086 21 rfl) rfl
theorem dL_law_1110 : decode cL_law 1110 = .ok (.pop, 1) := dk_87 (dw rcL_law_1086 22 rfl)
theorem dL_law_1111 : decode cL_law 1111 = .ok (.aload_n 2, 1) := dk_44 (dw rcL_law_1086 23 rfl)
noncomputable def rbL_law_1112 : List (Nat × List Nat) := [(1112, [42]), (1113, [29]), (1114, [4]), (1115, [96]), (1116, [46]), (1117, [42]), (1118, [29]), (1119, [5]), (1120, [96]), (1121, [46]), (1122, [42]), (1123, [29]), (1124, [6]), (1125, [96]), (1126, [46]), (1127, [42]), (1128, [29]), (1129, [7]), (1130, [96]), (1131, [46]), (1132, [42]), (1133, [29]), (1134, [8]), (1135, [96])]
theorem rcL_law_1112 : dgo (lb cL_law) 0 rbL_law_1112 = true := by decide +kernel
theorem dL_law_1112 : decode cL_law 1112 = .ok (.aload_n 0, 1) := dk_42 (dw rcL_law_1112 0 rfl)
theorem dL_law_1113 : decode cL_law 1113 = .ok (.iload_n 3, 1) := dk_29 (dw rcL_law_1112 1 rfl)
theorem dL_law_1114 : decode cL_law 1114 = .ok (.iconst 1, 1) := dk_4 (dw rcL_law_1112 2 rfl)
theorem dL_law_1115 : decode cL_law 1115 = .ok (.iadd, 1) := dk_96 (dw rcL_law_1112 3 rfl)
theorem dL_law_1116 : decode cL_law 1116 = .ok (.iaload, 1) := dk_46 (dw rcL_law_1112 4 rfl)
theorem dL_law_1117 : decode cL_law 1117 = .ok (.aload_n 0, 1) := dk_42 (dw rcL_law_1112 5 rfl)
theorem dL_law_1118 : decode cL_law 1118 = .ok (.iload_n 3, 1) := dk_29 (dw rcL_law_1112 6 rfl)
theorem dL_law_1119 : decode cL_law 1119 = .ok (.iconst 2, 1) := dk_5 (dw rcL_law_1112 7 rfl)
theorem dL_law_1120 : decode cL_law 1120 = .ok (.iadd, 1) := dk_96 (dw rcL_law_1112 8 rfl)
theorem dL_law_1121 : decode cL_law 1121 = .ok (.iaload, 1) := dk_46 (dw rcL_law_1112 9 rfl)
theorem dL_law_1122 : decode cL_law 1122 = .ok (.aload_n 0, 1) := dk_42 (dw rcL_law_1112 10 rfl)
theorem dL_law_1123 : decode cL_law 1123 = .ok (.iload_n 3, 1) := dk_29 (dw rcL_law_1112 11 rfl)
theorem dL_law_1124 : decode cL_law 1124 = .ok (.iconst 3, 1) := dk_6 (dw rcL_law_1112 12 rfl)
theorem dL_law_1125 : decode cL_law 1125 = .ok (.iadd, 1) := dk_96 (dw rcL_law_1112 13 rfl)
theorem dL_law_1126 : decode cL_law 1126 = .ok (.iaload, 1) := dk_46 (dw rcL_law_1112 14 rfl)
theorem dL_law_1127 : decode cL_law 1127 = .ok (.aload_n 0, 1) := dk_42 (dw rcL_law_1112 15 rfl)
theorem dL_law_1128 : decode cL_law 1128 = .ok (.iload_n 3, 1) := dk_29 (dw rcL_law_1112 16 rfl)
theorem dL_law_1129 : decode cL_law 1129 = .ok (.iconst 4, 1) := dk_7 (dw rcL_law_1112 17 rfl)
theorem dL_law_1130 : decode cL_law 1130 = .ok (.iadd, 1) := dk_96 (dw rcL_law_1112 18 rfl)
theorem dL_law_1131 : decode cL_law 1131 = .ok (.iaload, 1) := dk_46 (dw rcL_law_1112 19 rfl)
theorem dL_law_1132 : decode cL_law 1132 = .ok (.aload_n 0, 1) := dk_42 (dw rcL_law_1112 20 rfl)
theorem dL_law_1133 : decode cL_law 1133 = .ok (.iload_n 3, 1) := dk_29 (dw rcL_law_1112 21 rfl)
theorem dL_law_1134 : decode cL_law 1134 = .ok (.iconst 5, 1) := dk_8 (dw rcL_law_1112 22 rfl)
theorem dL_law_1135 : decode cL_law 1135 = .ok (.iadd, 1) := dk_96 (dw rcL_law_1112 23 rfl)
noncomputable def rbL_law_1136 : List (Nat × List Nat) := [(1136, [46]), (1137, [182, 0, 99]), (1140, [87]), (1141, [167, 1, 244]), (1144, [43]), (1145, [42]), (1146, [29]), (1147, [4]), (1148, [96]), (1149, [46]), (1150, [42]), (1151, [29]), (1152, [5]), (1153, [96]), (1154, [46]), (1155, [42]), (1156, [29]), (1157, [6]), (1158, [96]), (1159, [46]), (1160, [42]), (1161, [29]), (1162, [7]), (1163, [96])]
theorem rcL_law_1136 : dgo (lb cL_law) 0 rbL_law_1136 = true := by decide +kernel
theorem dL_law_1136 : decode cL_law 1136 = .ok (.iaload, 1) := dk_46 (dw rcL_law_1136 0 rfl)
theorem dL_law_1137 : decode cL_law 1137 = .ok (.invokevirtual 99, 3) := dk_182 (dw rcL_law_1136 1 rfl) rfl
theorem dL_law_1140 : decode cL_law 1140 = .ok (.pop, 1) := dk_87 (dw rcL_law_1136 2 rfl)
theorem dL_law_1141 : decode cL_law 1141 = .ok (.goto 500, 3) := dk_167 (dw rcL_law_1136 3 rfl) rfl
theorem dL_law_1144 : decode cL_law 1144 = .ok (.aload_n 1, 1) := dk_43 (dw rcL_law_1136 4 rfl)
theorem dL_law_1145 : decode cL_law 1145 = .ok (.aload_n 0, 1) := dk_42 (dw rcL_law_1136 5 rfl)
theorem dL_law_1146 : decode cL_law 1146 = .ok (.iload_n 3, 1) := dk_29 (dw rcL_law_1136 6 rfl)
theorem dL_law_1147 : decode cL_law 1147 = .ok (.iconst 1, 1) := dk_4 (dw rcL_law_1136 7 rfl)
theorem dL_law_1148 : decode cL_law 1148 = .ok (.iadd, 1) := dk_96 (dw rcL_law_1136 8 rfl)
theorem dL_law_1149 : decode cL_law 1149 = .ok (.iaload, 1) := dk_46 (dw rcL_law_1136 9 rfl)
theorem dL_law_1150 : decode cL_law 1150 = .ok (.aload_n 0, 1) := dk_42 (dw rcL_law_1136 10 rfl)
theorem dL_law_1151 : decode cL_law 1151 = .ok (.iload_n 3, 1) := dk_29 (dw rcL_law_1136 11 rfl)
theorem dL_law_1152 : decode cL_law 1152 = .ok (.iconst 2, 1) := dk_5 (dw rcL_law_1136 12 rfl)
theorem dL_law_1153 : decode cL_law 1153 = .ok (.iadd, 1) := dk_96 (dw rcL_law_1136 13 rfl)
theorem dL_law_1154 : decode cL_law 1154 = .ok (.iaload, 1) := dk_46 (dw rcL_law_1136 14 rfl)
theorem dL_law_1155 : decode cL_law 1155 = .ok (.aload_n 0, 1) := dk_42 (dw rcL_law_1136 15 rfl)
theorem dL_law_1156 : decode cL_law 1156 = .ok (.iload_n 3, 1) := dk_29 (dw rcL_law_1136 16 rfl)
theorem dL_law_1157 : decode cL_law 1157 = .ok (.iconst 3, 1) := dk_6 (dw rcL_law_1136 17 rfl)
theorem dL_law_1158 : decode cL_law 1158 = .ok (.iadd, 1) := dk_96 (dw rcL_law_1136 18 rfl)
theorem dL_law_1159 : decode cL_law 1159 = .ok (.iaload, 1) := dk_46 (dw rcL_law_1136 19 rfl)
theorem dL_law_1160 : decode cL_law 1160 = .ok (.aload_n 0, 1) := dk_42 (dw rcL_law_1136 20 rfl)
theorem dL_law_1161 : decode cL_law 1161 = .ok (.iload_n 3, 1) := dk_29 (dw rcL_law_1136 21 rfl)
theorem dL_law_1162 : decode cL_law 1162 = .ok (.iconst 4, 1) := dk_7 (dw rcL_law_1136 22 rfl)
theorem dL_law_1163 : decode cL_law 1163 = .ok (.iadd, 1) := dk_96 (dw rcL_law_1136 23 rfl)
noncomputable def rbL_law_1164 : List (Nat × List Nat) := [(1164, [46]), (1165, [182, 0, 100]), (1168, [87]), (1169, [44]), (1170, [42]), (1171, [29]), (1172, [4]), (1173, [96]), (1174, [46]), (1175, [42]), (1176, [29]), (1177, [5]), (1178, [96]), (1179, [46]), (1180, [42]), (1181, [29]), (1182, [6]), (1183, [96]), (1184, [46]), (1185, [42]), (1186, [29]), (1187, [7]), (1188, [96]), (1189, [46])]
theorem rcL_law_1164 : dgo (lb cL_law) 0 rbL_law_1164 = true := by decide +kernel
theorem dL_law_1164 : decode cL_law 1164 = .ok (.iaload, 1) := dk_46 (dw rcL_law_1164 0 rfl)
theorem dL_law_1165 : decode cL_law 1165 = .ok (.invokevirtual 100, 3) := dk_182 (dw rcL_law_1164 1 rfl) rfl
theorem dL_law_1168 : decode cL_law 1168 = .ok (.pop, 1) := dk_87 (dw rcL_law_1164 2 rfl)
theorem dL_law_1169 : decode cL_law 1169 = .ok (.aload_n 2, 1) := dk_44 (dw rcL_law_1164 3 rfl)
theorem dL_law_1170 : decode cL_law 1170 = .ok (.aload_n 0, 1) := dk_42 (dw rcL_law_1164 4 rfl)
theorem dL_law_1171 : decode cL_law 1171 = .ok (.iload_n 3, 1) := dk_29 (dw rcL_law_1164 5 rfl)
theorem dL_law_1172 : decode cL_law 1172 = .ok (.iconst 1, 1) := dk_4 (dw rcL_law_1164 6 rfl)
theorem dL_law_1173 : decode cL_law 1173 = .ok (.iadd, 1) := dk_96 (dw rcL_law_1164 7 rfl)
theorem dL_law_1174 : decode cL_law 1174 = .ok (.iaload, 1) := dk_46 (dw rcL_law_1164 8 rfl)
theorem dL_law_1175 : decode cL_law 1175 = .ok (.aload_n 0, 1) := dk_42 (dw rcL_law_1164 9 rfl)
theorem dL_law_1176 : decode cL_law 1176 = .ok (.iload_n 3, 1) := dk_29 (dw rcL_law_1164 10 rfl)
theorem dL_law_1177 : decode cL_law 1177 = .ok (.iconst 2, 1) := dk_5 (dw rcL_law_1164 11 rfl)
theorem dL_law_1178 : decode cL_law 1178 = .ok (.iadd, 1) := dk_96 (dw rcL_law_1164 12 rfl)
theorem dL_law_1179 : decode cL_law 1179 = .ok (.iaload, 1) := dk_46 (dw rcL_law_1164 13 rfl)
theorem dL_law_1180 : decode cL_law 1180 = .ok (.aload_n 0, 1) := dk_42 (dw rcL_law_1164 14 rfl)
theorem dL_law_1181 : decode cL_law 1181 = .ok (.iload_n 3, 1) := dk_29 (dw rcL_law_1164 15 rfl)
theorem dL_law_1182 : decode cL_law 1182 = .ok (.iconst 3, 1) := dk_6 (dw rcL_law_1164 16 rfl)
theorem dL_law_1183 : decode cL_law 1183 = .ok (.iadd, 1) := dk_96 (dw rcL_law_1164 17 rfl)
theorem dL_law_1184 : decode cL_law 1184 = .ok (.iaload, 1) := dk_46 (dw rcL_law_1164 18 rfl)
theorem dL_law_1185 : decode cL_law 1185 = .ok (.aload_n 0, 1) := dk_42 (dw rcL_law_1164 19 rfl)
theorem dL_law_1186 : decode cL_law 1186 = .ok (.iload_n 3, 1) := dk_29 (dw rcL_law_1164 20 rfl)
theorem dL_law_1187 : decode cL_law 1187 = .ok (.iconst 4, 1) := dk_7 (dw rcL_law_1164 21 rfl)
theorem dL_law_1188 : decode cL_law 1188 = .ok (.iadd, 1) := dk_96 (dw rcL_law_1164 22 rfl)
theorem dL_law_1189 : decode cL_law 1189 = .ok (.iaload, 1) := dk_46 (dw rcL_law_1164 23 rfl)
noncomputable def rbL_law_1190 : List (Nat × List Nat) := [(1190, [182, 0, 103]), (1193, [87]), (1194, [167, 1, 191]), (1197, [43]), (1198, [42]), (1199, [29]), (1200, [4]), (1201, [96]), (1202, [46]), (1203, [42]), (1204, [29]), (1205, [5]), (1206, [96]), (1207, [46]), (1208, [182, 0, 104]), (1211, [87]), (1212, [44]), (1213, [42]), (1214, [29]), (1215, [4]), (1216, [96]), (1217, [46]), (1218, [42]), (1219, [29])]
theorem rcL_law_1190 : dgo (lb cL_law) 0 rbL_law_1190 = true := by decide +kernel
theorem dL_law_1190 : decode cL_law 1190 = .ok (.invokevirtual 103, 3) := dk_182 (dw rcL_law_1190 0 rfl) rfl
theorem dL_law_1193 : decode cL_law 1193 = .ok (.pop, 1) := dk_87 (dw rcL_law_1190 1 rfl)
theorem dL_law_1194 : decode cL_law 1194 = .ok (.goto 447, 3) := dk_167 (dw rcL_law_1190 2 rfl) rfl
theorem dL_law_1197 : decode cL_law 1197 = .ok (.aload_n 1, 1) := dk_43 (dw rcL_law_1190 3 rfl)
theorem dL_law_1198 : decode cL_law 1198 = .ok (.aload_n 0, 1) := dk_42 (dw rcL_law_1190 4 rfl)
theorem dL_law_1199 : decode cL_law 1199 = .ok (.iload_n 3, 1) := dk_29 (dw rcL_law_1190 5 rfl)
theorem dL_law_1200 : decode cL_law 1200 = .ok (.iconst 1, 1) := dk_4 (dw rcL_law_1190 6 rfl)
theorem dL_law_1201 : decode cL_law 1201 = .ok (.iadd, 1) := dk_96 (dw rcL_law_1190 7 rfl)
theorem dL_law_1202 : decode cL_law 1202 = .ok (.iaload, 1) := dk_46 (dw rcL_law_1190 8 rfl)
theorem dL_law_1203 : decode cL_law 1203 = .ok (.aload_n 0, 1) := dk_42 (dw rcL_law_1190 9 rfl)
theorem dL_law_1204 : decode cL_law 1204 = .ok (.iload_n 3, 1) := dk_29 (dw rcL_law_1190 10 rfl)
theorem dL_law_1205 : decode cL_law 1205 = .ok (.iconst 2, 1) := dk_5 (dw rcL_law_1190 11 rfl)
theorem dL_law_1206 : decode cL_law 1206 = .ok (.iadd, 1) := dk_96 (dw rcL_law_1190 12 rfl)
theorem dL_law_1207 : decode cL_law 1207 = .ok (.iaload, 1) := dk_46 (dw rcL_law_1190 13 rfl)
theorem dL_law_1208 : decode cL_law 1208 = .ok (.invokevirtual 104, 3) := dk_182 (dw rcL_law_1190 14 rfl) rfl
theorem dL_law_1211 : decode cL_law 1211 = .ok (.pop, 1) := dk_87 (dw rcL_law_1190 15 rfl)
theorem dL_law_1212 : decode cL_law 1212 = .ok (.aload_n 2, 1) := dk_44 (dw rcL_law_1190 16 rfl)
theorem dL_law_1213 : decode cL_law 1213 = .ok (.aload_n 0, 1) := dk_42 (dw rcL_law_1190 17 rfl)
theorem dL_law_1214 : decode cL_law 1214 = .ok (.iload_n 3, 1) := dk_29 (dw rcL_law_1190 18 rfl)
theorem dL_law_1215 : decode cL_law 1215 = .ok (.iconst 1, 1) := dk_4 (dw rcL_law_1190 19 rfl)
theorem dL_law_1216 : decode cL_law 1216 = .ok (.iadd, 1) := dk_96 (dw rcL_law_1190 20 rfl)
theorem dL_law_1217 : decode cL_law 1217 = .ok (.iaload, 1) := dk_46 (dw rcL_law_1190 21 rfl)
theorem dL_law_1218 : decode cL_law 1218 = .ok (.aload_n 0, 1) := dk_42 (dw rcL_law_1190 22 rfl)
theorem dL_law_1219 : decode cL_law 1219 = .ok (.iload_n 3, 1) := dk_29 (dw rcL_law_1190 23 rfl)
noncomputable def rbL_law_1220 : List (Nat × List Nat) := [(1220, [5]), (1221, [96]), (1222, [46]), (1223, [182, 0, 108]), (1226, [87]), (1227, [167, 1, 158]), (1230, [43]), (1231, [42]), (1232, [29]), (1233, [4]), (1234, [96]), (1235, [46]), (1236, [42]), (1237, [29]), (1238, [5]), (1239, [96]), (1240, [46]), (1241, [42]), (1242, [29]), (1243, [6]), (1244, [96]), (1245, [46]), (1246, [182, 0, 109]), (1249, [87])]
theorem rcL_law_1220 : dgo (lb cL_law) 0 rbL_law_1220 = true := by decide +kernel
theorem dL_law_1220 : decode cL_law 1220 = .ok (.iconst 2, 1) := dk_5 (dw rcL_law_1220 0 rfl)
theorem dL_law_1221 : decode cL_law 1221 = .ok (.iadd, 1) := dk_96 (dw rcL_law_1220 1 rfl)
theorem dL_law_1222 : decode cL_law 1222 = .ok (.iaload, 1) := dk_46 (dw rcL_law_1220 2 rfl)
theorem dL_law_1223 : decode cL_law 1223 = .ok (.invokevirtual 108, 3) := dk_182 (dw rcL_law_1220 3 rfl) rfl
theorem dL_law_1226 : decode cL_law 1226 = .ok (.pop, 1) := dk_87 (dw rcL_law_1220 4 rfl)
theorem dL_law_1227 : decode cL_law 1227 = .ok (.goto 414, 3) := dk_167 (dw rcL_law_1220 5 rfl) rfl
theorem dL_law_1230 : decode cL_law 1230 = .ok (.aload_n 1, 1) := dk_43 (dw rcL_law_1220 6 rfl)
theorem dL_law_1231 : decode cL_law 1231 = .ok (.aload_n 0, 1) := dk_42 (dw rcL_law_1220 7 rfl)
theorem dL_law_1232 : decode cL_law 1232 = .ok (.iload_n 3, 1) := dk_29 (dw rcL_law_1220 8 rfl)
theorem dL_law_1233 : decode cL_law 1233 = .ok (.iconst 1, 1) := dk_4 (dw rcL_law_1220 9 rfl)
theorem dL_law_1234 : decode cL_law 1234 = .ok (.iadd, 1) := dk_96 (dw rcL_law_1220 10 rfl)
theorem dL_law_1235 : decode cL_law 1235 = .ok (.iaload, 1) := dk_46 (dw rcL_law_1220 11 rfl)
theorem dL_law_1236 : decode cL_law 1236 = .ok (.aload_n 0, 1) := dk_42 (dw rcL_law_1220 12 rfl)
theorem dL_law_1237 : decode cL_law 1237 = .ok (.iload_n 3, 1) := dk_29 (dw rcL_law_1220 13 rfl)
theorem dL_law_1238 : decode cL_law 1238 = .ok (.iconst 2, 1) := dk_5 (dw rcL_law_1220 14 rfl)
theorem dL_law_1239 : decode cL_law 1239 = .ok (.iadd, 1) := dk_96 (dw rcL_law_1220 15 rfl)
theorem dL_law_1240 : decode cL_law 1240 = .ok (.iaload, 1) := dk_46 (dw rcL_law_1220 16 rfl)
theorem dL_law_1241 : decode cL_law 1241 = .ok (.aload_n 0, 1) := dk_42 (dw rcL_law_1220 17 rfl)
theorem dL_law_1242 : decode cL_law 1242 = .ok (.iload_n 3, 1) := dk_29 (dw rcL_law_1220 18 rfl)
theorem dL_law_1243 : decode cL_law 1243 = .ok (.iconst 3, 1) := dk_6 (dw rcL_law_1220 19 rfl)
theorem dL_law_1244 : decode cL_law 1244 = .ok (.iadd, 1) := dk_96 (dw rcL_law_1220 20 rfl)
theorem dL_law_1245 : decode cL_law 1245 = .ok (.iaload, 1) := dk_46 (dw rcL_law_1220 21 rfl)
theorem dL_law_1246 : decode cL_law 1246 = .ok (.invokevirtual 109, 3) := dk_182 (dw rcL_law_1220 22 rfl) rfl
theorem dL_law_1249 : decode cL_law 1249 = .ok (.pop, 1) := dk_87 (dw rcL_law_1220 23 rfl)
noncomputable def rbL_law_1250 : List (Nat × List Nat) := [(1250, [44]), (1251, [42]), (1252, [29]), (1253, [4]), (1254, [96]), (1255, [46]), (1256, [42]), (1257, [29]), (1258, [5]), (1259, [96]), (1260, [46]), (1261, [42]), (1262, [29]), (1263, [6]), (1264, [96]), (1265, [46]), (1266, [182, 0, 112]), (1269, [87]), (1270, [167, 1, 115])]
theorem rcL_law_1250 : dgo (lb cL_law) 0 rbL_law_1250 = true := by decide +kernel
theorem dL_law_1250 : decode cL_law 1250 = .ok (.aload_n 2, 1) := dk_44 (dw rcL_law_1250 0 rfl)
theorem dL_law_1251 : decode cL_law 1251 = .ok (.aload_n 0, 1) := dk_42 (dw rcL_law_1250 1 rfl)
theorem dL_law_1252 : decode cL_law 1252 = .ok (.iload_n 3, 1) := dk_29 (dw rcL_law_1250 2 rfl)
theorem dL_law_1253 : decode cL_law 1253 = .ok (.iconst 1, 1) := dk_4 (dw rcL_law_1250 3 rfl)
theorem dL_law_1254 : decode cL_law 1254 = .ok (.iadd, 1) := dk_96 (dw rcL_law_1250 4 rfl)
theorem dL_law_1255 : decode cL_law 1255 = .ok (.iaload, 1) := dk_46 (dw rcL_law_1250 5 rfl)
theorem dL_law_1256 : decode cL_law 1256 = .ok (.aload_n 0, 1) := dk_42 (dw rcL_law_1250 6 rfl)
theorem dL_law_1257 : decode cL_law 1257 = .ok (.iload_n 3, 1) := dk_29 (dw rcL_law_1250 7 rfl)
theorem dL_law_1258 : decode cL_law 1258 = .ok (.iconst 2, 1) := dk_5 (dw rcL_law_1250 8 rfl)
theorem dL_law_1259 : decode cL_law 1259 = .ok (.iadd, 1) := dk_96 (dw rcL_law_1250 9 rfl)
theorem dL_law_1260 : decode cL_law 1260 = .ok (.iaload, 1) := dk_46 (dw rcL_law_1250 10 rfl)
theorem dL_law_1261 : decode cL_law 1261 = .ok (.aload_n 0, 1) := dk_42 (dw rcL_law_1250 11 rfl)
theorem dL_law_1262 : decode cL_law 1262 = .ok (.iload_n 3, 1) := dk_29 (dw rcL_law_1250 12 rfl)
theorem dL_law_1263 : decode cL_law 1263 = .ok (.iconst 3, 1) := dk_6 (dw rcL_law_1250 13 rfl)
theorem dL_law_1264 : decode cL_law 1264 = .ok (.iadd, 1) := dk_96 (dw rcL_law_1250 14 rfl)
theorem dL_law_1265 : decode cL_law 1265 = .ok (.iaload, 1) := dk_46 (dw rcL_law_1250 15 rfl)
theorem dL_law_1266 : decode cL_law 1266 = .ok (.invokevirtual 112, 3) := dk_182 (dw rcL_law_1250 16 rfl) rfl
theorem dL_law_1269 : decode cL_law 1269 = .ok (.pop, 1) := dk_87 (dw rcL_law_1250 17 rfl)
theorem dL_law_1270 : decode cL_law 1270 = .ok (.goto 371, 3) := dk_167 (dw rcL_law_1250 18 rfl) rfl
set_option maxHeartbeats 4000000 in
set_option maxRecDepth 100000 in
theorem law_0 {p : Program} {l : Launch} {e : Env} {s : State} {m : MethodId} {below : List Frame} {meth : Method} {c : Code} {D : va_G} {k : KT} {A : Nat → Prop} {a : Nat → Nat} {z : SK} {b L : Nat} {xs : Nat → Int32} (hL : L ≤ 3072) (C0 : lw_At p s m meth c b L xs) (hK : cK D k s) (hZ : Sx A z s) (hbA : ¬ A b) {G : GS} {i0 : Int32} (hi0 : 0 ≤ i0.toInt) (hi6 : i0.toInt + 6 ≤ L) (hI : LI G) (hB_G : Bd G) {H : Heap} {locs : List Loc} {ls : Array Slot} (hW : Wd D k A a G H) (hS : va_S A s.heap H locs) (hl : lv_has ls 4 [(0, .ref b), (1, .ref (a 0)), (2, .ref (a 66)), (3, .int i0)]) (K : ∀ (G1 : GS) (H1 : Heap) (locs1 : List Loc) (ls1 : Array Slot), LI G1 → Bd G1 → Wd D k A a G1 H1 → va_S A s.heap H1 locs1 → lv_has ls1 4 [(0, .ref b), (1, .ref (a 0)), (2, .ref (a 66)), (3, .int i0)] → W p l e room_1 s m #[Value.ref b] below meth c H1 locs1 119 46443 (lw_Z below #[Value.ref b] s) (F0 m 1641 ls1 [])) : W p l e room_1 s m #[Value.ref b] below meth c H locs 119 46443 (lw_Z below #[Value.ref b] s) (F0 m 204 ls []) := by
  obtain ⟨hx, hb, hr, hml, hown, hts, hX, hbl, hlocks, hgv⟩ := id C0
  have hown : s.vm.findClass RL = some m.cls := hown
  have hgd : ∀ w ∈ gd, w ∈ lw_tbl := fun w h => (List.mem_filter.mp h).1
  have hg : ∀ w ∈ gd, w.before #[Value.ref b] s = true := fun w h => hts w (hgd w h)
  rcases hI with ⟨hv_0_0, hv_0_1, hv_6_4, hj0, hj1, hj2, hj3, hj4, hj5, hj6, hj7, hj8, hj9, hj10, hj11, hj12⟩ | ⟨hv_0_0, hv_0_1, hv_6_4, hj0, hj1, hj2, hj3, hj4, hj5, hj6, hj7, hj8, hj9, hj10, hj11, hj12⟩
  · skip
    obtain ⟨p0, hp0⟩ : ∃ y, y = xs (i0 + 1).toNatClampNeg := ⟨_, rfl⟩
    obtain ⟨p1, hp1⟩ : ∃ y, y = xs (i0 + 2).toNatClampNeg := ⟨_, rfl⟩
    obtain ⟨p2, hp2⟩ : ∃ y, y = xs (i0 + 3).toNatClampNeg := ⟨_, rfl⟩
    obtain ⟨p3, hp3⟩ : ∃ y, y = xs (i0 + 4).toNatClampNeg := ⟨_, rfl⟩
    obtain ⟨p4, hp4⟩ : ∃ y, y = xs (i0 + 5).toNatClampNeg := ⟨_, rfl⟩
    refine lv_aload_n hx hb dL_law_204 rfl (lv_at hl 1 rfl) ?_
    refine ld_1 hL hi0 hi6 hx hb hX hbl hbA hS hl dL_law_205 dL_law_206 dL_law_207 dL_law_208 dL_law_209 hp0 ?_
    refine ld_2 hL hi0 hi6 hx hb hX hbl hbA hS hl dL_law_210 dL_law_211 dL_law_212 dL_law_213 dL_law_214 hp1 ?_
    refine ld_3 hL hi0 hi6 hx hb hX hbl hbA hS hl dL_law_215 dL_law_216 dL_law_217 dL_law_218 dL_law_219 hp2 ?_
    refine ld_4 hL hi0 hi6 hx hb hX hbl hbA hS hl dL_law_220 dL_law_221 dL_law_222 dL_law_223 dL_law_224 hp3 ?_
    refine ld_5 hL hi0 hi6 hx hb hX hbl hbA hS hl dL_law_225 dL_law_226 dL_law_227 dL_law_228 dL_law_229 hp4 ?_
    refine S_calli (va_runV (As := [.int p0, .int p1, .int p2, .int p3, .int p4]) (rest := []) ⟨hx, hb, hml, hown, hts⟩ (k_Wfeed l D k A a z G p0 p1 p2 p3 p4 ) (cwV 5 hts (gd_V hgd m610 m611 m612 m117 m613) rfl rfl rfl hd_X11_feed ⟨Nat.le_of_ble_eq_true rfl, Nat.le_of_ble_eq_true rfl⟩) (pre_W hW hB_G hK hZ hS kd_0 rfl) rfl rfl hl.1 rfl (lv_room (Nat.le_of_ble_eq_true rfl)) dL_law_230 ⟨Nat.le_of_ble_eq_true rfl, Nat.le_of_ble_eq_true rfl⟩) hS (fun r_1 G_2 H locs hpo hW hS => ?_)
    have hX_5 : P_Wfeed p0 p1 p2 p3 p4 G r_1 G_2 := hpo
    obtain ⟨hB_G_2, hq_3, hp_4, -⟩ := hpo
    refine lv_pop hx hb dL_law_233 rfl ?_
    refine lv_aload_n hx hb dL_law_234 rfl (lv_at hl 2 rfl) ?_
    refine ld_1 hL hi0 hi6 hx hb hX hbl hbA hS hl dL_law_235 dL_law_236 dL_law_237 dL_law_238 dL_law_239 hp0 ?_
    refine ld_2 hL hi0 hi6 hx hb hX hbl hbA hS hl dL_law_240 dL_law_241 dL_law_242 dL_law_243 dL_law_244 hp1 ?_
    refine ld_3 hL hi0 hi6 hx hb hX hbl hbA hS hl dL_law_245 dL_law_246 dL_law_247 dL_law_248 dL_law_249 hp2 ?_
    refine ld_4 hL hi0 hi6 hx hb hX hbl hbA hS hl dL_law_250 dL_law_251 dL_law_252 dL_law_253 dL_law_254 hp3 ?_
    refine ld_5 hL hi0 hi6 hx hb hX hbl hbA hS hl dL_law_255 dL_law_256 dL_law_257 dL_law_258 dL_law_259 hp4 ?_
    have b_6 : 0 ≤ (G.1 66 1).toInt ∧ (G.1 66 1).toInt ≤ 1600 := bd_66_1 hB_G
    have g_7 : (G_2.1 66 1).toInt = (G.1 66 1).toInt := (congrArg Int32.toInt (show G_2.1 66 1 = (G.1 66 1) from (hq_3.i9 66 1 rfl rfl)))
    refine S_calli (va_runV (As := [.int p0, .int p1, .int p2, .int p3, .int p4]) (rest := []) ⟨hx, hb, hml, hown, hts⟩ (n_feed l D k A a z G_2 p0 p1 p2 p3 p4 ) (cwV 5 hts (gd_V hgd m1582 m1583 m1584 m131 m1585) rfl rfl rfl hd_X12_feed ⟨Nat.le_of_ble_eq_true rfl, Nat.le_of_ble_eq_true rfl⟩) (pre_W hW hB_G_2 hK hZ hS kd_66 rfl) rfl rfl hl.1 rfl (lv_room (Nat.le_of_ble_eq_true rfl)) dL_law_260 ⟨Nat.le_of_ble_eq_true rfl, Nat.le_of_ble_eq_true rfl⟩) hS (fun r_8 G_9 H locs hpo hW hS => ?_)
    have hX_12 : Q_feed p0 p1 p2 p3 p4 G_2 r_8 G_9 := hpo
    obtain ⟨hB_G_9, hq_10, hp_11, -⟩ := hpo
    have u_13 : gTE G_9 = 1 := ind_1 (te_feed hX_5 hX_12 (by omega) (by omega) (by omega) (by omega) (by omega) (gTE_p (by omega)) (by omega) (hB_G.i 0 11 (lo := 0) (hi := 1600) rfl rfl).1)
    refine lv_pop hx hb dL_law_263 rfl ?_
    refine lv_goto (tgt := 1641) hx hb dL_law_264 rfl ?_
    have fr_14 : Fr [32, 67] [(0, 11), (66, 1)] G G_9 := (Fr.call9 (rs := [32, 67]) (fs := [(0, 11), (66, 1)]) (Fr.call9 (rs := [32, 67]) (fs := [(0, 11), (66, 1)]) Fr.rf hq_3 rfl rfl) hq_10 rfl rfl)
    have g_15 : gIA G_9 = gIA G := gIA_fr fr_14 (gr_q rfl) (gf_q rfl)
    have g_16 : gO G_9 = gO G := gO_fr fr_14 (gr_q rfl) (gf_q rfl)
    have g_17 : gP G_9 = gP G := gP_fr fr_14 (gr_q rfl) (gf_q rfl)
    have g_18 : gS G_9 = gS G := gS_fr fr_14 (gr_q rfl) (gf_q rfl)
    have g_19 : gW G_9 = gW G := gW_fr fr_14 (gr_q rfl) (gf_q rfl)
    have b_20 : 0 ≤ (G_2.1 0 11).toInt ∧ (G_2.1 0 11).toInt ≤ 1600 := bd_0_11 hB_G_2
    have g_21 : (G_9.1 0 11).toInt = (G_2.1 0 11).toInt := (congrArg Int32.toInt (show G_9.1 0 11 = (G_2.1 0 11) from (hq_10.i9 0 11 rfl rfl)))
    have b_22 : 0 ≤ (G.1 3 7).toInt ∧ (G.1 3 7).toInt ≤ 4 := bd_3_7 hB_G
    have g_23 : (G_9.1 3 7).toInt = (G.1 3 7).toInt := (congrArg Int32.toInt (show G_9.1 3 7 = (G.1 3 7) from ((hq_10.i9 3 7 rfl rfl).trans (hq_3.i9 3 7 rfl rfl))))
    have b_24 : (-1) ≤ (G.1 3 8).toInt ∧ (G.1 3 8).toInt ≤ 1600 := bd_3_8 hB_G
    have g_25 : (G_9.1 3 8).toInt = (G.1 3 8).toInt := (congrArg Int32.toInt (show G_9.1 3 8 = (G.1 3 8) from ((hq_10.i9 3 8 rfl rfl).trans (hq_3.i9 3 8 rfl rfl))))
    have b_26 : 0 ≤ (G.1 30 4).toInt ∧ (G.1 30 4).toInt ≤ 40 := bd_30_4 hB_G
    have g_27 : (G_9.1 30 4).toInt = (G.1 30 4).toInt := (congrArg Int32.toInt (show G_9.1 30 4 = (G.1 30 4) from ((hq_10.i9 30 4 rfl rfl).trans (hq_3.i9 30 4 rfl rfl))))
    have b_28 : 0 ≤ (G.1 30 5).toInt ∧ (G.1 30 5).toInt ≤ 40 := bd_30_5 hB_G
    have g_29 : (G_9.1 30 5).toInt = (G.1 30 5).toInt := (congrArg Int32.toInt (show G_9.1 30 5 = (G.1 30 5) from ((hq_10.i9 30 5 rfl rfl).trans (hq_3.i9 30 5 rfl rfl))))
    have b_30 : 0 ≤ (G.1 31 6).toInt ∧ (G.1 31 6).toInt ≤ 100000 := bd_31_6 hB_G
    have g_31 : (G_9.1 31 6).toInt = (G.1 31 6).toInt := (congrArg Int32.toInt (show G_9.1 31 6 = (G.1 31 6) from ((hq_10.i9 31 6 rfl rfl).trans (hq_3.i9 31 6 rfl rfl))))
    have b_32 : 0 ≤ (G_9.1 66 1).toInt ∧ (G_9.1 66 1).toInt ≤ 1600 := bd_66_1 hB_G_9
    have b_33 : 0 ≤ (G.1 66 2).toInt ∧ (G.1 66 2).toInt ≤ 4 := bd_66_2 hB_G
    have g_34 : (G_9.1 66 2).toInt = (G.1 66 2).toInt := (congrArg Int32.toInt (show G_9.1 66 2 = (G.1 66 2) from ((hq_10.i9 66 2 rfl rfl).trans (hq_3.i9 66 2 rfl rfl))))
    have b_35 : (-1) ≤ (G.1 66 3).toInt ∧ (G.1 66 3).toInt ≤ 1600 := bd_66_3 hB_G
    have g_36 : (G_9.1 66 3).toInt = (G.1 66 3).toInt := (congrArg Int32.toInt (show G_9.1 66 3 = (G.1 66 3) from ((hq_10.i9 66 3 rfl rfl).trans (hq_3.i9 66 3 rfl rfl))))
    have b_37 : 0 ≤ (G.1 66 78).toInt ∧ (G.1 66 78).toInt ≤ 40 := bd_66_78 hB_G
    have g_38 : (G_9.1 66 78).toInt = (G.1 66 78).toInt := (congrArg Int32.toInt (show G_9.1 66 78 = (G.1 66 78) from ((hq_10.i9 66 78 rfl rfl).trans (hq_3.i9 66 78 rfl rfl))))
    have b_39 : 0 ≤ (G.1 66 79).toInt ∧ (G.1 66 79).toInt ≤ 40 := bd_66_79 hB_G
    have g_40 : (G_9.1 66 79).toInt = (G.1 66 79).toInt := (congrArg Int32.toInt (show G_9.1 66 79 = (G.1 66 79) from ((hq_10.i9 66 79 rfl rfl).trans (hq_3.i9 66 79 rfl rfl))))
    have b_41 : 0 ≤ (G.1 66 86).toInt ∧ (G.1 66 86).toInt ≤ 100000 := bd_66_86 hB_G
    have g_42 : (G_9.1 66 86).toInt = (G.1 66 86).toInt := (congrArg Int32.toInt (show G_9.1 66 86 = (G.1 66 86) from ((hq_10.i9 66 86 rfl rfl).trans (hq_3.i9 66 86 rfl rfl))))
    have b_43 : 0 ≤ (G.1 96 0).toInt ∧ (G.1 96 0).toInt ≤ 9 := bd_96_0 hB_G
    have g_44 : (G_9.1 96 0).toInt = (G.1 96 0).toInt := (congrArg Int32.toInt (show G_9.1 96 0 = (G.1 96 0) from ((hq_10.i9 96 0 rfl rfl).trans (hq_3.i9 96 0 rfl rfl))))
    have b_45 : 0 ≤ (G.1 96 1).toInt ∧ (G.1 96 1).toInt ≤ 9 := bd_96_1 hB_G
    have g_46 : (G_9.1 96 1).toInt = (G.1 96 1).toInt := (congrArg Int32.toInt (show G_9.1 96 1 = (G.1 96 1) from ((hq_10.i9 96 1 rfl rfl).trans (hq_3.i9 96 1 rfl rfl))))
    have b_47 : 0 ≤ (G.1 96 2).toInt ∧ (G.1 96 2).toInt ≤ 9 := bd_96_2 hB_G
    have g_48 : (G_9.1 96 2).toInt = (G.1 96 2).toInt := (congrArg Int32.toInt (show G_9.1 96 2 = (G.1 96 2) from ((hq_10.i9 96 2 rfl rfl).trans (hq_3.i9 96 2 rfl rfl))))
    exact K G_9 _ _ _ (Or.inl ⟨((((hq_10.r9 0 0 rfl rfl).trans (hq_3.r9 0 0 rfl rfl))).trans (hv_0_0)), ((((hq_10.r9 0 1 rfl rfl).trans (hq_3.r9 0 1 rfl rfl))).trans (hv_0_1)), ((((hq_10.r9 6 4 rfl rfl).trans (hq_3.r9 6 4 rfl rfl))).trans (hv_6_4)), by omega, by omega, by omega, by omega, by omega, by omega, by omega, by omega, by omega, by omega, by omega, by omega, by omega⟩) hB_G_9 hW hS (lv_sub hl [0, 1, 2, 3] rfl)
  · skip
    obtain ⟨p0, hp0⟩ : ∃ y, y = xs (i0 + 1).toNatClampNeg := ⟨_, rfl⟩
    obtain ⟨p1, hp1⟩ : ∃ y, y = xs (i0 + 2).toNatClampNeg := ⟨_, rfl⟩
    obtain ⟨p2, hp2⟩ : ∃ y, y = xs (i0 + 3).toNatClampNeg := ⟨_, rfl⟩
    obtain ⟨p3, hp3⟩ : ∃ y, y = xs (i0 + 4).toNatClampNeg := ⟨_, rfl⟩
    obtain ⟨p4, hp4⟩ : ∃ y, y = xs (i0 + 5).toNatClampNeg := ⟨_, rfl⟩
    refine lv_aload_n hx hb dL_law_204 rfl (lv_at hl 1 rfl) ?_
    refine ld_1 hL hi0 hi6 hx hb hX hbl hbA hS hl dL_law_205 dL_law_206 dL_law_207 dL_law_208 dL_law_209 hp0 ?_
    refine ld_2 hL hi0 hi6 hx hb hX hbl hbA hS hl dL_law_210 dL_law_211 dL_law_212 dL_law_213 dL_law_214 hp1 ?_
    refine ld_3 hL hi0 hi6 hx hb hX hbl hbA hS hl dL_law_215 dL_law_216 dL_law_217 dL_law_218 dL_law_219 hp2 ?_
    refine ld_4 hL hi0 hi6 hx hb hX hbl hbA hS hl dL_law_220 dL_law_221 dL_law_222 dL_law_223 dL_law_224 hp3 ?_
    refine ld_5 hL hi0 hi6 hx hb hX hbl hbA hS hl dL_law_225 dL_law_226 dL_law_227 dL_law_228 dL_law_229 hp4 ?_
    refine S_calli (va_runV (As := [.int p0, .int p1, .int p2, .int p3, .int p4]) (rest := []) ⟨hx, hb, hml, hown, hts⟩ (k_Wfeed l D k A a z G p0 p1 p2 p3 p4 ) (cwV 5 hts (gd_V hgd m610 m611 m612 m117 m613) rfl rfl rfl hd_X11_feed ⟨Nat.le_of_ble_eq_true rfl, Nat.le_of_ble_eq_true rfl⟩) (pre_W hW hB_G hK hZ hS kd_0 rfl) rfl rfl hl.1 rfl (lv_room (Nat.le_of_ble_eq_true rfl)) dL_law_230 ⟨Nat.le_of_ble_eq_true rfl, Nat.le_of_ble_eq_true rfl⟩) hS (fun r_1 G_2 H locs hpo hW hS => ?_)
    have hX_5 : P_Wfeed p0 p1 p2 p3 p4 G r_1 G_2 := hpo
    obtain ⟨hB_G_2, hq_3, hp_4, -⟩ := hpo
    refine lv_pop hx hb dL_law_233 rfl ?_
    refine lv_aload_n hx hb dL_law_234 rfl (lv_at hl 2 rfl) ?_
    refine ld_1 hL hi0 hi6 hx hb hX hbl hbA hS hl dL_law_235 dL_law_236 dL_law_237 dL_law_238 dL_law_239 hp0 ?_
    refine ld_2 hL hi0 hi6 hx hb hX hbl hbA hS hl dL_law_240 dL_law_241 dL_law_242 dL_law_243 dL_law_244 hp1 ?_
    refine ld_3 hL hi0 hi6 hx hb hX hbl hbA hS hl dL_law_245 dL_law_246 dL_law_247 dL_law_248 dL_law_249 hp2 ?_
    refine ld_4 hL hi0 hi6 hx hb hX hbl hbA hS hl dL_law_250 dL_law_251 dL_law_252 dL_law_253 dL_law_254 hp3 ?_
    refine ld_5 hL hi0 hi6 hx hb hX hbl hbA hS hl dL_law_255 dL_law_256 dL_law_257 dL_law_258 dL_law_259 hp4 ?_
    have b_6 : 0 ≤ (G.1 66 1).toInt ∧ (G.1 66 1).toInt ≤ 1600 := bd_66_1 hB_G
    have g_7 : (G_2.1 66 1).toInt = (G.1 66 1).toInt := (congrArg Int32.toInt (show G_2.1 66 1 = (G.1 66 1) from (hq_3.i9 66 1 rfl rfl)))
    refine S_calli (va_runV (As := [.int p0, .int p1, .int p2, .int p3, .int p4]) (rest := []) ⟨hx, hb, hml, hown, hts⟩ (n_feed l D k A a z G_2 p0 p1 p2 p3 p4 ) (cwV 5 hts (gd_V hgd m1582 m1583 m1584 m131 m1585) rfl rfl rfl hd_X12_feed ⟨Nat.le_of_ble_eq_true rfl, Nat.le_of_ble_eq_true rfl⟩) (pre_W hW hB_G_2 hK hZ hS kd_66 rfl) rfl rfl hl.1 rfl (lv_room (Nat.le_of_ble_eq_true rfl)) dL_law_260 ⟨Nat.le_of_ble_eq_true rfl, Nat.le_of_ble_eq_true rfl⟩) hS (fun r_8 G_9 H locs hpo hW hS => ?_)
    have hX_12 : Q_feed p0 p1 p2 p3 p4 G_2 r_8 G_9 := hpo
    obtain ⟨hB_G_9, hq_10, hp_11, -⟩ := hpo
    have u_13 : gTE G_9 = 1 := ind_1 (te_feed hX_5 hX_12 (by omega) (by omega) (by omega) (by omega) (by omega) (gTE_p (by omega)) (by omega) (hB_G.i 0 11 (lo := 0) (hi := 1600) rfl rfl).1)
    refine lv_pop hx hb dL_law_263 rfl ?_
    refine lv_goto (tgt := 1641) hx hb dL_law_264 rfl ?_
    have fr_14 : Fr [32, 67] [(0, 11), (66, 1)] G G_9 := (Fr.call9 (rs := [32, 67]) (fs := [(0, 11), (66, 1)]) (Fr.call9 (rs := [32, 67]) (fs := [(0, 11), (66, 1)]) Fr.rf hq_3 rfl rfl) hq_10 rfl rfl)
    have g_15 : gIB G_9 = gIB G := gIB_fr fr_14 (gr_q rfl) (gf_q rfl)
    have g_16 : gO G_9 = gO G := gO_fr fr_14 (gr_q rfl) (gf_q rfl)
    have g_17 : gP G_9 = gP G := gP_fr fr_14 (gr_q rfl) (gf_q rfl)
    have g_18 : gS G_9 = gS G := gS_fr fr_14 (gr_q rfl) (gf_q rfl)
    have g_19 : gW G_9 = gW G := gW_fr fr_14 (gr_q rfl) (gf_q rfl)
    have b_20 : 0 ≤ (G_2.1 0 11).toInt ∧ (G_2.1 0 11).toInt ≤ 1600 := bd_0_11 hB_G_2
    have g_21 : (G_9.1 0 11).toInt = (G_2.1 0 11).toInt := (congrArg Int32.toInt (show G_9.1 0 11 = (G_2.1 0 11) from (hq_10.i9 0 11 rfl rfl)))
    have b_22 : 0 ≤ (G.1 3 7).toInt ∧ (G.1 3 7).toInt ≤ 4 := bd_3_7 hB_G
    have g_23 : (G_9.1 3 7).toInt = (G.1 3 7).toInt := (congrArg Int32.toInt (show G_9.1 3 7 = (G.1 3 7) from ((hq_10.i9 3 7 rfl rfl).trans (hq_3.i9 3 7 rfl rfl))))
    have b_24 : (-1) ≤ (G.1 3 8).toInt ∧ (G.1 3 8).toInt ≤ 1600 := bd_3_8 hB_G
    have g_25 : (G_9.1 3 8).toInt = (G.1 3 8).toInt := (congrArg Int32.toInt (show G_9.1 3 8 = (G.1 3 8) from ((hq_10.i9 3 8 rfl rfl).trans (hq_3.i9 3 8 rfl rfl))))
    have b_26 : 0 ≤ (G.1 30 4).toInt ∧ (G.1 30 4).toInt ≤ 40 := bd_30_4 hB_G
    have g_27 : (G_9.1 30 4).toInt = (G.1 30 4).toInt := (congrArg Int32.toInt (show G_9.1 30 4 = (G.1 30 4) from ((hq_10.i9 30 4 rfl rfl).trans (hq_3.i9 30 4 rfl rfl))))
    have b_28 : 0 ≤ (G.1 30 5).toInt ∧ (G.1 30 5).toInt ≤ 40 := bd_30_5 hB_G
    have g_29 : (G_9.1 30 5).toInt = (G.1 30 5).toInt := (congrArg Int32.toInt (show G_9.1 30 5 = (G.1 30 5) from ((hq_10.i9 30 5 rfl rfl).trans (hq_3.i9 30 5 rfl rfl))))
    have b_30 : 0 ≤ (G.1 31 6).toInt ∧ (G.1 31 6).toInt ≤ 100000 := bd_31_6 hB_G
    have g_31 : (G_9.1 31 6).toInt = (G.1 31 6).toInt := (congrArg Int32.toInt (show G_9.1 31 6 = (G.1 31 6) from ((hq_10.i9 31 6 rfl rfl).trans (hq_3.i9 31 6 rfl rfl))))
    have b_32 : 0 ≤ (G_9.1 66 1).toInt ∧ (G_9.1 66 1).toInt ≤ 1600 := bd_66_1 hB_G_9
    have b_33 : 0 ≤ (G.1 66 2).toInt ∧ (G.1 66 2).toInt ≤ 4 := bd_66_2 hB_G
    have g_34 : (G_9.1 66 2).toInt = (G.1 66 2).toInt := (congrArg Int32.toInt (show G_9.1 66 2 = (G.1 66 2) from ((hq_10.i9 66 2 rfl rfl).trans (hq_3.i9 66 2 rfl rfl))))
    have b_35 : (-1) ≤ (G.1 66 3).toInt ∧ (G.1 66 3).toInt ≤ 1600 := bd_66_3 hB_G
    have g_36 : (G_9.1 66 3).toInt = (G.1 66 3).toInt := (congrArg Int32.toInt (show G_9.1 66 3 = (G.1 66 3) from ((hq_10.i9 66 3 rfl rfl).trans (hq_3.i9 66 3 rfl rfl))))
    have b_37 : 0 ≤ (G.1 66 78).toInt ∧ (G.1 66 78).toInt ≤ 40 := bd_66_78 hB_G
    have g_38 : (G_9.1 66 78).toInt = (G.1 66 78).toInt := (congrArg Int32.toInt (show G_9.1 66 78 = (G.1 66 78) from ((hq_10.i9 66 78 rfl rfl).trans (hq_3.i9 66 78 rfl rfl))))
    have b_39 : 0 ≤ (G.1 66 79).toInt ∧ (G.1 66 79).toInt ≤ 40 := bd_66_79 hB_G
    have g_40 : (G_9.1 66 79).toInt = (G.1 66 79).toInt := (congrArg Int32.toInt (show G_9.1 66 79 = (G.1 66 79) from ((hq_10.i9 66 79 rfl rfl).trans (hq_3.i9 66 79 rfl rfl))))
    have b_41 : 0 ≤ (G.1 66 86).toInt ∧ (G.1 66 86).toInt ≤ 100000 := bd_66_86 hB_G
    have g_42 : (G_9.1 66 86).toInt = (G.1 66 86).toInt := (congrArg Int32.toInt (show G_9.1 66 86 = (G.1 66 86) from ((hq_10.i9 66 86 rfl rfl).trans (hq_3.i9 66 86 rfl rfl))))
    have b_43 : 0 ≤ (G.1 96 0).toInt ∧ (G.1 96 0).toInt ≤ 9 := bd_96_0 hB_G
    have g_44 : (G_9.1 96 0).toInt = (G.1 96 0).toInt := (congrArg Int32.toInt (show G_9.1 96 0 = (G.1 96 0) from ((hq_10.i9 96 0 rfl rfl).trans (hq_3.i9 96 0 rfl rfl))))
    have b_45 : 0 ≤ (G.1 96 1).toInt ∧ (G.1 96 1).toInt ≤ 9 := bd_96_1 hB_G
    have g_46 : (G_9.1 96 1).toInt = (G.1 96 1).toInt := (congrArg Int32.toInt (show G_9.1 96 1 = (G.1 96 1) from ((hq_10.i9 96 1 rfl rfl).trans (hq_3.i9 96 1 rfl rfl))))
    have b_47 : 0 ≤ (G.1 96 2).toInt ∧ (G.1 96 2).toInt ≤ 9 := bd_96_2 hB_G
    have g_48 : (G_9.1 96 2).toInt = (G.1 96 2).toInt := (congrArg Int32.toInt (show G_9.1 96 2 = (G.1 96 2) from ((hq_10.i9 96 2 rfl rfl).trans (hq_3.i9 96 2 rfl rfl))))
    exact K G_9 _ _ _ (Or.inr ⟨((((hq_10.r9 0 0 rfl rfl).trans (hq_3.r9 0 0 rfl rfl))).trans (hv_0_0)), ((((hq_10.r9 0 1 rfl rfl).trans (hq_3.r9 0 1 rfl rfl))).trans (hv_0_1)), ((((hq_10.r9 6 4 rfl rfl).trans (hq_3.r9 6 4 rfl rfl))).trans (hv_6_4)), by omega, by omega, by omega, by omega, by omega, by omega, by omega, by omega, by omega, by omega, by omega, by omega, by omega⟩) hB_G_9 hW hS (lv_sub hl [0, 1, 2, 3] rfl)

set_option maxHeartbeats 4000000 in
set_option maxRecDepth 100000 in
theorem law_1 {p : Program} {l : Launch} {e : Env} {s : State} {m : MethodId} {below : List Frame} {meth : Method} {c : Code} {D : va_G} {k : KT} {A : Nat → Prop} {a : Nat → Nat} {z : SK} {b L : Nat} {xs : Nat → Int32} (hL : L ≤ 3072) (C0 : lw_At p s m meth c b L xs) (hK : cK D k s) (hZ : Sx A z s) (hbA : ¬ A b) {G : GS} {i0 : Int32} (hi0 : 0 ≤ i0.toInt) (hi6 : i0.toInt + 6 ≤ L) (hI : LI G) (hB_G : Bd G) {H : Heap} {locs : List Loc} {ls : Array Slot} (hW : Wd D k A a G H) (hS : va_S A s.heap H locs) (hl : lv_has ls 4 [(0, .ref b), (1, .ref (a 0)), (2, .ref (a 66)), (3, .int i0)]) (K : ∀ (G1 : GS) (H1 : Heap) (locs1 : List Loc) (ls1 : Array Slot), LI G1 → Bd G1 → Wd D k A a G1 H1 → va_S A s.heap H1 locs1 → lv_has ls1 4 [(0, .ref b), (1, .ref (a 0)), (2, .ref (a 66)), (3, .int i0)] → W p l e room_1 s m #[Value.ref b] below meth c H1 locs1 119 46443 (lw_Z below #[Value.ref b] s) (F0 m 1641 ls1 [])) : W p l e room_1 s m #[Value.ref b] below meth c H locs 119 46443 (lw_Z below #[Value.ref b] s) (F0 m 267 ls []) := by
  obtain ⟨hx, hb, hr, hml, hown, hts, hX, hbl, hlocks, hgv⟩ := id C0
  have hown : s.vm.findClass RL = some m.cls := hown
  have hgd : ∀ w ∈ gd, w ∈ lw_tbl := fun w h => (List.mem_filter.mp h).1
  have hg : ∀ w ∈ gd, w.before #[Value.ref b] s = true := fun w h => hts w (hgd w h)
  rcases hI with ⟨hv_0_0, hv_0_1, hv_6_4, hj0, hj1, hj2, hj3, hj4, hj5, hj6, hj7, hj8, hj9, hj10, hj11, hj12⟩ | ⟨hv_0_0, hv_0_1, hv_6_4, hj0, hj1, hj2, hj3, hj4, hj5, hj6, hj7, hj8, hj9, hj10, hj11, hj12⟩
  · skip
    obtain ⟨p0, hp0⟩ : ∃ y, y = xs (i0 + 1).toNatClampNeg := ⟨_, rfl⟩
    obtain ⟨p1, hp1⟩ : ∃ y, y = xs (i0 + 2).toNatClampNeg := ⟨_, rfl⟩
    obtain ⟨p2, hp2⟩ : ∃ y, y = xs (i0 + 3).toNatClampNeg := ⟨_, rfl⟩
    obtain ⟨p3, hp3⟩ : ∃ y, y = xs (i0 + 4).toNatClampNeg := ⟨_, rfl⟩
    obtain ⟨p4, hp4⟩ : ∃ y, y = xs (i0 + 5).toNatClampNeg := ⟨_, rfl⟩
    refine lv_aload_n hx hb dL_law_267 rfl (lv_at hl 1 rfl) ?_
    refine ld_1 hL hi0 hi6 hx hb hX hbl hbA hS hl dL_law_268 dL_law_269 dL_law_270 dL_law_271 dL_law_272 hp0 ?_
    refine S_calli (va_runV (As := [.int p0]) (rest := []) ⟨hx, hb, hml, hown, hts⟩ (k_Wend l D k A a z G p0 ) (cwV 1 hts (gd_V hgd m618 m619 m620 m117 m621) rfl rfl rfl hd_X11_end ⟨Nat.le_of_ble_eq_true rfl, Nat.le_of_ble_eq_true rfl⟩) (pre_W hW hB_G hK hZ hS kd_0 rfl) rfl rfl hl.1 rfl (lv_room (Nat.le_of_ble_eq_true rfl)) dL_law_273 ⟨Nat.le_of_ble_eq_true rfl, Nat.le_of_ble_eq_true rfl⟩) hS (fun r_1 G_2 H locs hpo hW hS => ?_)
    have hX_5 : P_Wend p0 G r_1 G_2 := hpo
    obtain ⟨hB_G_2, hq_3, hp_4, -⟩ := hpo
    refine lv_pop hx hb dL_law_276 rfl ?_
    refine lv_aload_n hx hb dL_law_277 rfl (lv_at hl 2 rfl) ?_
    refine ld_1 hL hi0 hi6 hx hb hX hbl hbA hS hl dL_law_278 dL_law_279 dL_law_280 dL_law_281 dL_law_282 hp0 ?_
    have b_6 : 0 ≤ (G.1 66 1).toInt ∧ (G.1 66 1).toInt ≤ 1600 := bd_66_1 hB_G
    have g_7 : (G_2.1 66 1).toInt = (G.1 66 1).toInt := (congrArg Int32.toInt (show G_2.1 66 1 = (G.1 66 1) from (hq_3.i9 66 1 rfl rfl)))
    refine S_calli (va_runV (As := [.int p0]) (rest := []) ⟨hx, hb, hml, hown, hts⟩ (n_end l D k A a z G_2 p0 ) (cwV 1 hts (gd_V hgd m1590 m1591 m1592 m131 m1593) rfl rfl rfl hd_X12_end ⟨Nat.le_of_ble_eq_true rfl, Nat.le_of_ble_eq_true rfl⟩) (pre_W hW hB_G_2 hK hZ hS kd_66 rfl) rfl rfl hl.1 rfl (lv_room (Nat.le_of_ble_eq_true rfl)) dL_law_283 ⟨Nat.le_of_ble_eq_true rfl, Nat.le_of_ble_eq_true rfl⟩) hS (fun r_8 G_9 H locs hpo hW hS => ?_)
    have hX_12 : Q_end p0 G_2 r_8 G_9 := hpo
    obtain ⟨hB_G_9, hq_10, hp_11, -⟩ := hpo
    refine lv_pop hx hb dL_law_286 rfl ?_
    refine lv_goto (tgt := 1641) hx hb dL_law_287 rfl ?_
    have fr_13 : Fr [] [(0, 11), (66, 1)] G G_9 := (Fr.call9 (rs := []) (fs := [(0, 11), (66, 1)]) (Fr.call9 (rs := []) (fs := [(0, 11), (66, 1)]) Fr.rf hq_3 rfl rfl) hq_10 rfl rfl)
    have g_14 : gIA G_9 = gIA G := gIA_fr fr_13 (gr_q rfl) (gf_q rfl)
    have g_15 : gO G_9 = gO G := gO_fr fr_13 (gr_q rfl) (gf_q rfl)
    have g_16 : gP G_9 = gP G := gP_fr fr_13 (gr_q rfl) (gf_q rfl)
    have g_17 : gS G_9 = gS G := gS_fr fr_13 (gr_q rfl) (gf_q rfl)
    have g_18 : gTE G_9 = gTE G := gTE_fr fr_13 (gr_q rfl) (gf_q rfl)
    have g_19 : gW G_9 = gW G := gW_fr fr_13 (gr_q rfl) (gf_q rfl)
    have b_20 : 0 ≤ (G_2.1 0 11).toInt ∧ (G_2.1 0 11).toInt ≤ 1600 := bd_0_11 hB_G_2
    have g_21 : (G_9.1 0 11).toInt = (G_2.1 0 11).toInt := (congrArg Int32.toInt (show G_9.1 0 11 = (G_2.1 0 11) from (hq_10.i9 0 11 rfl rfl)))
    have b_22 : 0 ≤ (G.1 3 7).toInt ∧ (G.1 3 7).toInt ≤ 4 := bd_3_7 hB_G
    have g_23 : (G_9.1 3 7).toInt = (G.1 3 7).toInt := (congrArg Int32.toInt (show G_9.1 3 7 = (G.1 3 7) from ((hq_10.i9 3 7 rfl rfl).trans (hq_3.i9 3 7 rfl rfl))))
    have b_24 : (-1) ≤ (G.1 3 8).toInt ∧ (G.1 3 8).toInt ≤ 1600 := bd_3_8 hB_G
    have g_25 : (G_9.1 3 8).toInt = (G.1 3 8).toInt := (congrArg Int32.toInt (show G_9.1 3 8 = (G.1 3 8) from ((hq_10.i9 3 8 rfl rfl).trans (hq_3.i9 3 8 rfl rfl))))
    have b_26 : 0 ≤ (G.1 30 4).toInt ∧ (G.1 30 4).toInt ≤ 40 := bd_30_4 hB_G
    have g_27 : (G_9.1 30 4).toInt = (G.1 30 4).toInt := (congrArg Int32.toInt (show G_9.1 30 4 = (G.1 30 4) from ((hq_10.i9 30 4 rfl rfl).trans (hq_3.i9 30 4 rfl rfl))))
    have b_28 : 0 ≤ (G.1 30 5).toInt ∧ (G.1 30 5).toInt ≤ 40 := bd_30_5 hB_G
    have g_29 : (G_9.1 30 5).toInt = (G.1 30 5).toInt := (congrArg Int32.toInt (show G_9.1 30 5 = (G.1 30 5) from ((hq_10.i9 30 5 rfl rfl).trans (hq_3.i9 30 5 rfl rfl))))
    have b_30 : 0 ≤ (G.1 31 6).toInt ∧ (G.1 31 6).toInt ≤ 100000 := bd_31_6 hB_G
    have g_31 : (G_9.1 31 6).toInt = (G.1 31 6).toInt := (congrArg Int32.toInt (show G_9.1 31 6 = (G.1 31 6) from ((hq_10.i9 31 6 rfl rfl).trans (hq_3.i9 31 6 rfl rfl))))
    have b_32 : 0 ≤ (G_9.1 66 1).toInt ∧ (G_9.1 66 1).toInt ≤ 1600 := bd_66_1 hB_G_9
    have b_33 : 0 ≤ (G.1 66 2).toInt ∧ (G.1 66 2).toInt ≤ 4 := bd_66_2 hB_G
    have g_34 : (G_9.1 66 2).toInt = (G.1 66 2).toInt := (congrArg Int32.toInt (show G_9.1 66 2 = (G.1 66 2) from ((hq_10.i9 66 2 rfl rfl).trans (hq_3.i9 66 2 rfl rfl))))
    have b_35 : (-1) ≤ (G.1 66 3).toInt ∧ (G.1 66 3).toInt ≤ 1600 := bd_66_3 hB_G
    have g_36 : (G_9.1 66 3).toInt = (G.1 66 3).toInt := (congrArg Int32.toInt (show G_9.1 66 3 = (G.1 66 3) from ((hq_10.i9 66 3 rfl rfl).trans (hq_3.i9 66 3 rfl rfl))))
    have b_37 : 0 ≤ (G.1 66 78).toInt ∧ (G.1 66 78).toInt ≤ 40 := bd_66_78 hB_G
    have g_38 : (G_9.1 66 78).toInt = (G.1 66 78).toInt := (congrArg Int32.toInt (show G_9.1 66 78 = (G.1 66 78) from ((hq_10.i9 66 78 rfl rfl).trans (hq_3.i9 66 78 rfl rfl))))
    have b_39 : 0 ≤ (G.1 66 79).toInt ∧ (G.1 66 79).toInt ≤ 40 := bd_66_79 hB_G
    have g_40 : (G_9.1 66 79).toInt = (G.1 66 79).toInt := (congrArg Int32.toInt (show G_9.1 66 79 = (G.1 66 79) from ((hq_10.i9 66 79 rfl rfl).trans (hq_3.i9 66 79 rfl rfl))))
    have b_41 : 0 ≤ (G.1 66 86).toInt ∧ (G.1 66 86).toInt ≤ 100000 := bd_66_86 hB_G
    have g_42 : (G_9.1 66 86).toInt = (G.1 66 86).toInt := (congrArg Int32.toInt (show G_9.1 66 86 = (G.1 66 86) from ((hq_10.i9 66 86 rfl rfl).trans (hq_3.i9 66 86 rfl rfl))))
    have b_43 : 0 ≤ (G.1 96 0).toInt ∧ (G.1 96 0).toInt ≤ 9 := bd_96_0 hB_G
    have g_44 : (G_9.1 96 0).toInt = (G.1 96 0).toInt := (congrArg Int32.toInt (show G_9.1 96 0 = (G.1 96 0) from ((hq_10.i9 96 0 rfl rfl).trans (hq_3.i9 96 0 rfl rfl))))
    have b_45 : 0 ≤ (G.1 96 1).toInt ∧ (G.1 96 1).toInt ≤ 9 := bd_96_1 hB_G
    have g_46 : (G_9.1 96 1).toInt = (G.1 96 1).toInt := (congrArg Int32.toInt (show G_9.1 96 1 = (G.1 96 1) from ((hq_10.i9 96 1 rfl rfl).trans (hq_3.i9 96 1 rfl rfl))))
    have b_47 : 0 ≤ (G.1 96 2).toInt ∧ (G.1 96 2).toInt ≤ 9 := bd_96_2 hB_G
    have g_48 : (G_9.1 96 2).toInt = (G.1 96 2).toInt := (congrArg Int32.toInt (show G_9.1 96 2 = (G.1 96 2) from ((hq_10.i9 96 2 rfl rfl).trans (hq_3.i9 96 2 rfl rfl))))
    exact K G_9 _ _ _ (Or.inl ⟨((((hq_10.r9 0 0 rfl rfl).trans (hq_3.r9 0 0 rfl rfl))).trans (hv_0_0)), ((((hq_10.r9 0 1 rfl rfl).trans (hq_3.r9 0 1 rfl rfl))).trans (hv_0_1)), ((((hq_10.r9 6 4 rfl rfl).trans (hq_3.r9 6 4 rfl rfl))).trans (hv_6_4)), by omega, by omega, by omega, by omega, by omega, by omega, by omega, by omega, by omega, by omega, by omega, by omega, by omega⟩) hB_G_9 hW hS (lv_sub hl [0, 1, 2, 3] rfl)
  · skip
    obtain ⟨p0, hp0⟩ : ∃ y, y = xs (i0 + 1).toNatClampNeg := ⟨_, rfl⟩
    obtain ⟨p1, hp1⟩ : ∃ y, y = xs (i0 + 2).toNatClampNeg := ⟨_, rfl⟩
    obtain ⟨p2, hp2⟩ : ∃ y, y = xs (i0 + 3).toNatClampNeg := ⟨_, rfl⟩
    obtain ⟨p3, hp3⟩ : ∃ y, y = xs (i0 + 4).toNatClampNeg := ⟨_, rfl⟩
    obtain ⟨p4, hp4⟩ : ∃ y, y = xs (i0 + 5).toNatClampNeg := ⟨_, rfl⟩
    refine lv_aload_n hx hb dL_law_267 rfl (lv_at hl 1 rfl) ?_
    refine ld_1 hL hi0 hi6 hx hb hX hbl hbA hS hl dL_law_268 dL_law_269 dL_law_270 dL_law_271 dL_law_272 hp0 ?_
    refine S_calli (va_runV (As := [.int p0]) (rest := []) ⟨hx, hb, hml, hown, hts⟩ (k_Wend l D k A a z G p0 ) (cwV 1 hts (gd_V hgd m618 m619 m620 m117 m621) rfl rfl rfl hd_X11_end ⟨Nat.le_of_ble_eq_true rfl, Nat.le_of_ble_eq_true rfl⟩) (pre_W hW hB_G hK hZ hS kd_0 rfl) rfl rfl hl.1 rfl (lv_room (Nat.le_of_ble_eq_true rfl)) dL_law_273 ⟨Nat.le_of_ble_eq_true rfl, Nat.le_of_ble_eq_true rfl⟩) hS (fun r_1 G_2 H locs hpo hW hS => ?_)
    have hX_5 : P_Wend p0 G r_1 G_2 := hpo
    obtain ⟨hB_G_2, hq_3, hp_4, -⟩ := hpo
    refine lv_pop hx hb dL_law_276 rfl ?_
    refine lv_aload_n hx hb dL_law_277 rfl (lv_at hl 2 rfl) ?_
    refine ld_1 hL hi0 hi6 hx hb hX hbl hbA hS hl dL_law_278 dL_law_279 dL_law_280 dL_law_281 dL_law_282 hp0 ?_
    have b_6 : 0 ≤ (G.1 66 1).toInt ∧ (G.1 66 1).toInt ≤ 1600 := bd_66_1 hB_G
    have g_7 : (G_2.1 66 1).toInt = (G.1 66 1).toInt := (congrArg Int32.toInt (show G_2.1 66 1 = (G.1 66 1) from (hq_3.i9 66 1 rfl rfl)))
    refine S_calli (va_runV (As := [.int p0]) (rest := []) ⟨hx, hb, hml, hown, hts⟩ (n_end l D k A a z G_2 p0 ) (cwV 1 hts (gd_V hgd m1590 m1591 m1592 m131 m1593) rfl rfl rfl hd_X12_end ⟨Nat.le_of_ble_eq_true rfl, Nat.le_of_ble_eq_true rfl⟩) (pre_W hW hB_G_2 hK hZ hS kd_66 rfl) rfl rfl hl.1 rfl (lv_room (Nat.le_of_ble_eq_true rfl)) dL_law_283 ⟨Nat.le_of_ble_eq_true rfl, Nat.le_of_ble_eq_true rfl⟩) hS (fun r_8 G_9 H locs hpo hW hS => ?_)
    have hX_12 : Q_end p0 G_2 r_8 G_9 := hpo
    obtain ⟨hB_G_9, hq_10, hp_11, -⟩ := hpo
    refine lv_pop hx hb dL_law_286 rfl ?_
    refine lv_goto (tgt := 1641) hx hb dL_law_287 rfl ?_
    have fr_13 : Fr [] [(0, 11), (66, 1)] G G_9 := (Fr.call9 (rs := []) (fs := [(0, 11), (66, 1)]) (Fr.call9 (rs := []) (fs := [(0, 11), (66, 1)]) Fr.rf hq_3 rfl rfl) hq_10 rfl rfl)
    have g_14 : gIB G_9 = gIB G := gIB_fr fr_13 (gr_q rfl) (gf_q rfl)
    have g_15 : gO G_9 = gO G := gO_fr fr_13 (gr_q rfl) (gf_q rfl)
    have g_16 : gP G_9 = gP G := gP_fr fr_13 (gr_q rfl) (gf_q rfl)
    have g_17 : gS G_9 = gS G := gS_fr fr_13 (gr_q rfl) (gf_q rfl)
    have g_18 : gTE G_9 = gTE G := gTE_fr fr_13 (gr_q rfl) (gf_q rfl)
    have g_19 : gW G_9 = gW G := gW_fr fr_13 (gr_q rfl) (gf_q rfl)
    have b_20 : 0 ≤ (G_2.1 0 11).toInt ∧ (G_2.1 0 11).toInt ≤ 1600 := bd_0_11 hB_G_2
    have g_21 : (G_9.1 0 11).toInt = (G_2.1 0 11).toInt := (congrArg Int32.toInt (show G_9.1 0 11 = (G_2.1 0 11) from (hq_10.i9 0 11 rfl rfl)))
    have b_22 : 0 ≤ (G.1 3 7).toInt ∧ (G.1 3 7).toInt ≤ 4 := bd_3_7 hB_G
    have g_23 : (G_9.1 3 7).toInt = (G.1 3 7).toInt := (congrArg Int32.toInt (show G_9.1 3 7 = (G.1 3 7) from ((hq_10.i9 3 7 rfl rfl).trans (hq_3.i9 3 7 rfl rfl))))
    have b_24 : (-1) ≤ (G.1 3 8).toInt ∧ (G.1 3 8).toInt ≤ 1600 := bd_3_8 hB_G
    have g_25 : (G_9.1 3 8).toInt = (G.1 3 8).toInt := (congrArg Int32.toInt (show G_9.1 3 8 = (G.1 3 8) from ((hq_10.i9 3 8 rfl rfl).trans (hq_3.i9 3 8 rfl rfl))))
    have b_26 : 0 ≤ (G.1 30 4).toInt ∧ (G.1 30 4).toInt ≤ 40 := bd_30_4 hB_G
    have g_27 : (G_9.1 30 4).toInt = (G.1 30 4).toInt := (congrArg Int32.toInt (show G_9.1 30 4 = (G.1 30 4) from ((hq_10.i9 30 4 rfl rfl).trans (hq_3.i9 30 4 rfl rfl))))
    have b_28 : 0 ≤ (G.1 30 5).toInt ∧ (G.1 30 5).toInt ≤ 40 := bd_30_5 hB_G
    have g_29 : (G_9.1 30 5).toInt = (G.1 30 5).toInt := (congrArg Int32.toInt (show G_9.1 30 5 = (G.1 30 5) from ((hq_10.i9 30 5 rfl rfl).trans (hq_3.i9 30 5 rfl rfl))))
    have b_30 : 0 ≤ (G.1 31 6).toInt ∧ (G.1 31 6).toInt ≤ 100000 := bd_31_6 hB_G
    have g_31 : (G_9.1 31 6).toInt = (G.1 31 6).toInt := (congrArg Int32.toInt (show G_9.1 31 6 = (G.1 31 6) from ((hq_10.i9 31 6 rfl rfl).trans (hq_3.i9 31 6 rfl rfl))))
    have b_32 : 0 ≤ (G_9.1 66 1).toInt ∧ (G_9.1 66 1).toInt ≤ 1600 := bd_66_1 hB_G_9
    have b_33 : 0 ≤ (G.1 66 2).toInt ∧ (G.1 66 2).toInt ≤ 4 := bd_66_2 hB_G
    have g_34 : (G_9.1 66 2).toInt = (G.1 66 2).toInt := (congrArg Int32.toInt (show G_9.1 66 2 = (G.1 66 2) from ((hq_10.i9 66 2 rfl rfl).trans (hq_3.i9 66 2 rfl rfl))))
    have b_35 : (-1) ≤ (G.1 66 3).toInt ∧ (G.1 66 3).toInt ≤ 1600 := bd_66_3 hB_G
    have g_36 : (G_9.1 66 3).toInt = (G.1 66 3).toInt := (congrArg Int32.toInt (show G_9.1 66 3 = (G.1 66 3) from ((hq_10.i9 66 3 rfl rfl).trans (hq_3.i9 66 3 rfl rfl))))
    have b_37 : 0 ≤ (G.1 66 78).toInt ∧ (G.1 66 78).toInt ≤ 40 := bd_66_78 hB_G
    have g_38 : (G_9.1 66 78).toInt = (G.1 66 78).toInt := (congrArg Int32.toInt (show G_9.1 66 78 = (G.1 66 78) from ((hq_10.i9 66 78 rfl rfl).trans (hq_3.i9 66 78 rfl rfl))))
    have b_39 : 0 ≤ (G.1 66 79).toInt ∧ (G.1 66 79).toInt ≤ 40 := bd_66_79 hB_G
    have g_40 : (G_9.1 66 79).toInt = (G.1 66 79).toInt := (congrArg Int32.toInt (show G_9.1 66 79 = (G.1 66 79) from ((hq_10.i9 66 79 rfl rfl).trans (hq_3.i9 66 79 rfl rfl))))
    have b_41 : 0 ≤ (G.1 66 86).toInt ∧ (G.1 66 86).toInt ≤ 100000 := bd_66_86 hB_G
    have g_42 : (G_9.1 66 86).toInt = (G.1 66 86).toInt := (congrArg Int32.toInt (show G_9.1 66 86 = (G.1 66 86) from ((hq_10.i9 66 86 rfl rfl).trans (hq_3.i9 66 86 rfl rfl))))
    have b_43 : 0 ≤ (G.1 96 0).toInt ∧ (G.1 96 0).toInt ≤ 9 := bd_96_0 hB_G
    have g_44 : (G_9.1 96 0).toInt = (G.1 96 0).toInt := (congrArg Int32.toInt (show G_9.1 96 0 = (G.1 96 0) from ((hq_10.i9 96 0 rfl rfl).trans (hq_3.i9 96 0 rfl rfl))))
    have b_45 : 0 ≤ (G.1 96 1).toInt ∧ (G.1 96 1).toInt ≤ 9 := bd_96_1 hB_G
    have g_46 : (G_9.1 96 1).toInt = (G.1 96 1).toInt := (congrArg Int32.toInt (show G_9.1 96 1 = (G.1 96 1) from ((hq_10.i9 96 1 rfl rfl).trans (hq_3.i9 96 1 rfl rfl))))
    have b_47 : 0 ≤ (G.1 96 2).toInt ∧ (G.1 96 2).toInt ≤ 9 := bd_96_2 hB_G
    have g_48 : (G_9.1 96 2).toInt = (G.1 96 2).toInt := (congrArg Int32.toInt (show G_9.1 96 2 = (G.1 96 2) from ((hq_10.i9 96 2 rfl rfl).trans (hq_3.i9 96 2 rfl rfl))))
    exact K G_9 _ _ _ (Or.inr ⟨((((hq_10.r9 0 0 rfl rfl).trans (hq_3.r9 0 0 rfl rfl))).trans (hv_0_0)), ((((hq_10.r9 0 1 rfl rfl).trans (hq_3.r9 0 1 rfl rfl))).trans (hv_0_1)), ((((hq_10.r9 6 4 rfl rfl).trans (hq_3.r9 6 4 rfl rfl))).trans (hv_6_4)), by omega, by omega, by omega, by omega, by omega, by omega, by omega, by omega, by omega, by omega, by omega, by omega, by omega⟩) hB_G_9 hW hS (lv_sub hl [0, 1, 2, 3] rfl)

set_option maxHeartbeats 4000000 in
set_option maxRecDepth 100000 in
theorem law_2 {p : Program} {l : Launch} {e : Env} {s : State} {m : MethodId} {below : List Frame} {meth : Method} {c : Code} {D : va_G} {k : KT} {A : Nat → Prop} {a : Nat → Nat} {z : SK} {b L : Nat} {xs : Nat → Int32} (hL : L ≤ 3072) (C0 : lw_At p s m meth c b L xs) (hK : cK D k s) (hZ : Sx A z s) (hbA : ¬ A b) {G : GS} {i0 : Int32} (hi0 : 0 ≤ i0.toInt) (hi6 : i0.toInt + 6 ≤ L) (hI : LI G) (hB_G : Bd G) {H : Heap} {locs : List Loc} {ls : Array Slot} (hW : Wd D k A a G H) (hS : va_S A s.heap H locs) (hl : lv_has ls 4 [(0, .ref b), (1, .ref (a 0)), (2, .ref (a 66)), (3, .int i0)]) (K : ∀ (G1 : GS) (H1 : Heap) (locs1 : List Loc) (ls1 : Array Slot), LI G1 → Bd G1 → Wd D k A a G1 H1 → va_S A s.heap H1 locs1 → lv_has ls1 4 [(0, .ref b), (1, .ref (a 0)), (2, .ref (a 66)), (3, .int i0)] → W p l e room_1 s m #[Value.ref b] below meth c H1 locs1 119 46443 (lw_Z below #[Value.ref b] s) (F0 m 1641 ls1 [])) : W p l e room_1 s m #[Value.ref b] below meth c H locs 119 46443 (lw_Z below #[Value.ref b] s) (F0 m 290 ls []) := by
  obtain ⟨hx, hb, hr, hml, hown, hts, hX, hbl, hlocks, hgv⟩ := id C0
  have hown : s.vm.findClass RL = some m.cls := hown
  have hgd : ∀ w ∈ gd, w ∈ lw_tbl := fun w h => (List.mem_filter.mp h).1
  have hg : ∀ w ∈ gd, w.before #[Value.ref b] s = true := fun w h => hts w (hgd w h)
  rcases hI with ⟨hv_0_0, hv_0_1, hv_6_4, hj0, hj1, hj2, hj3, hj4, hj5, hj6, hj7, hj8, hj9, hj10, hj11, hj12⟩ | ⟨hv_0_0, hv_0_1, hv_6_4, hj0, hj1, hj2, hj3, hj4, hj5, hj6, hj7, hj8, hj9, hj10, hj11, hj12⟩
  · skip
    obtain ⟨p0, hp0⟩ : ∃ y, y = xs (i0 + 1).toNatClampNeg := ⟨_, rfl⟩
    obtain ⟨p1, hp1⟩ : ∃ y, y = xs (i0 + 2).toNatClampNeg := ⟨_, rfl⟩
    obtain ⟨p2, hp2⟩ : ∃ y, y = xs (i0 + 3).toNatClampNeg := ⟨_, rfl⟩
    obtain ⟨p3, hp3⟩ : ∃ y, y = xs (i0 + 4).toNatClampNeg := ⟨_, rfl⟩
    obtain ⟨p4, hp4⟩ : ∃ y, y = xs (i0 + 5).toNatClampNeg := ⟨_, rfl⟩
    refine lv_aload_n hx hb dL_law_290 rfl (lv_at hl 1 rfl) ?_
    have b_1 : 0 ≤ (G.1 30 4).toInt ∧ (G.1 30 4).toInt ≤ 40 := bd_30_4 hB_G
    have b_2 : 0 ≤ (G.1 30 5).toInt ∧ (G.1 30 5).toInt ≤ 40 := bd_30_5 hB_G
    refine S_calli (va_runV (As := []) (rest := []) ⟨hx, hb, hml, hown, hts⟩ (k_Wpavement_1 l D k A a z G  hv_0_0 hv_0_1 hv_6_4 (by omega)) (cwV 0 hts (gd_V hgd m622 m623 m624 m117 m625) rfl rfl rfl hd_X11_pavement ⟨Nat.le_of_ble_eq_true rfl, Nat.le_of_ble_eq_true rfl⟩) (pre_W hW hB_G hK hZ hS kd_0 rfl) rfl rfl hl.1 rfl (lv_room (Nat.le_of_ble_eq_true rfl)) dL_law_291 ⟨Nat.le_of_ble_eq_true rfl, Nat.le_of_ble_eq_true rfl⟩) hS (fun r_3 G_4 H locs hpo hW hS => ?_)
    have hX_7 : P_Wpavement_1 G r_3 G_4 := hpo
    obtain ⟨hB_G_4, hq_5, hp_6, -⟩ := hpo
    refine lv_pop hx hb dL_law_294 rfl ?_
    refine lv_aload_n hx hb dL_law_295 rfl (lv_at hl 2 rfl) ?_
    have fr_8 : Fr [20, 21, 22, 23, 24, 25, 26, 27, 28, 34, 35, 36, 38, 58, 59] [(0, 0), (0, 1), (0, 11), (0, 12), (2, 9), (2, 10), (2, 11), (2, 12), (2, 13), (2, 14), (2, 15), (2, 16), (3, 1), (3, 2), (3, 3), (3, 4), (3, 5), (3, 6), (3, 7), (3, 8), (4, 1), (4, 2), (5, 5), (5, 6), (5, 7), (5, 8), (5, 9), (6, 4), (30, 3), (30, 4), (30, 5), (31, 5)] G G_4 := (Fr.call9 (rs := [20, 21, 22, 23, 24, 25, 26, 27, 28, 34, 35, 36, 38, 58, 59]) (fs := [(0, 0), (0, 1), (0, 11), (0, 12), (2, 9), (2, 10), (2, 11), (2, 12), (2, 13), (2, 14), (2, 15), (2, 16), (3, 1), (3, 2), (3, 3), (3, 4), (3, 5), (3, 6), (3, 7), (3, 8), (4, 1), (4, 2), (5, 5), (5, 6), (5, 7), (5, 8), (5, 9), (6, 4), (30, 3), (30, 4), (30, 5), (31, 5)]) Fr.rf hq_5 rfl rfl)
    have g_9 : gP G_4 = gP G := gP_fr fr_8 (gr_q rfl) (gf_q rfl)
    have g_10 : gW G_4 = gW G := gW_fr fr_8 (gr_q rfl) (gf_q rfl)
    have g_11 : gS G_4 = gS G := gS_fr fr_8 (gr_q rfl) (gf_q rfl)
    have b_12 : 0 ≤ (G.1 66 78).toInt ∧ (G.1 66 78).toInt ≤ 40 := bd_66_78 hB_G
    have g_13 : (G_4.1 66 78).toInt = (G.1 66 78).toInt := (congrArg Int32.toInt (show G_4.1 66 78 = (G.1 66 78) from (hq_5.i9 66 78 rfl rfl)))
    have b_14 : 0 ≤ (G.1 66 79).toInt ∧ (G.1 66 79).toInt ≤ 40 := bd_66_79 hB_G
    have g_15 : (G_4.1 66 79).toInt = (G.1 66 79).toInt := (congrArg Int32.toInt (show G_4.1 66 79 = (G.1 66 79) from (hq_5.i9 66 79 rfl rfl)))
    have b_16 : 0 ≤ (G.1 96 0).toInt ∧ (G.1 96 0).toInt ≤ 9 := bd_96_0 hB_G
    have g_17 : (G_4.1 96 0).toInt = (G.1 96 0).toInt := (congrArg Int32.toInt (show G_4.1 96 0 = (G.1 96 0) from (hq_5.i9 96 0 rfl rfl)))
    have b_18 : 0 ≤ (G.1 96 1).toInt ∧ (G.1 96 1).toInt ≤ 9 := bd_96_1 hB_G
    have g_19 : (G_4.1 96 1).toInt = (G.1 96 1).toInt := (congrArg Int32.toInt (show G_4.1 96 1 = (G.1 96 1) from (hq_5.i9 96 1 rfl rfl)))
    have b_20 : 0 ≤ (G.1 96 2).toInt ∧ (G.1 96 2).toInt ≤ 9 := bd_96_2 hB_G
    have g_21 : (G_4.1 96 2).toInt = (G.1 96 2).toInt := (congrArg Int32.toInt (show G_4.1 96 2 = (G.1 96 2) from (hq_5.i9 96 2 rfl rfl)))
    refine S_calli (va_runV (As := []) (rest := []) ⟨hx, hb, hml, hown, hts⟩ (n_pavement l D k A a z G_4  ((by first | (clear b_1 b_2 g_10 g_11 b_12 g_13 b_14 g_15 b_16 g_17 b_18 g_19 b_20 g_21; omega) | omega)) ((by first | (clear b_1 b_2 g_9 g_11 b_12 g_13 b_14 g_15 b_16 g_17 b_18 g_19 b_20 g_21; omega) | omega)) ((by first | (clear b_1 b_2 g_9 g_10 b_12 g_13 b_14 g_15 b_16 g_17 b_18 g_19 b_20 g_21; omega) | omega)) ((by first | (clear b_1 b_2 g_9 g_10 g_11 b_16 g_17 b_18 g_19 b_20 g_21; omega) | omega)) ((by first | (clear b_1 b_2 g_9 g_10 g_11 b_12 g_13 b_14 g_15; omega) | omega))) (cwV 0 hts (gd_V hgd m1594 m1595 m1596 m131 m1597) rfl rfl rfl hd_X12_pavement ⟨Nat.le_of_ble_eq_true rfl, Nat.le_of_ble_eq_true rfl⟩) (pre_W hW hB_G_4 hK hZ hS kd_66 rfl) rfl rfl hl.1 rfl (lv_room (Nat.le_of_ble_eq_true rfl)) dL_law_296 ⟨Nat.le_of_ble_eq_true rfl, Nat.le_of_ble_eq_true rfl⟩) hS (fun r_22 G_23 H locs hpo hW hS => ?_)
    have hX_26 : Q_pavement G_4 r_22 G_23 := hpo
    obtain ⟨hB_G_23, hq_24, hp_25, -⟩ := hpo
    obtain ⟨u_27, u_28, u_29, u_30, hg_1, hg_2⟩ := L_pavement_1 hX_7 hX_26 (by omega) (by omega) (hB_G.i 0 11 (lo := 0) (hi := 1600) rfl rfl).1 (hB_G.i 0 11 (lo := 0) (hi := 1600) rfl rfl).2 hv_0_0 (by omega)
    have v_31 : gTE G_23 = 1 := u_30
    refine lv_pop hx hb dL_law_299 rfl ?_
    refine lv_goto (tgt := 1641) hx hb dL_law_300 rfl ?_
    have fr_32 : Fr [110, 117, 20, 21, 22, 23, 24, 25, 26, 27, 28, 34, 35, 36, 38, 58, 59, 68, 69, 70, 71, 72, 73, 74, 75, 77, 78, 79, 80, 81, 82, 83, 84, 85, 86, 87, 88, 89, 90, 91, 92, 93, 94, 95, 96] [(0, 0), (0, 1), (0, 11), (0, 12), (2, 9), (2, 10), (2, 11), (2, 12), (2, 13), (2, 14), (2, 15), (2, 16), (3, 1), (3, 2), (3, 3), (3, 4), (3, 5), (3, 6), (3, 7), (3, 8), (4, 1), (4, 2), (5, 5), (5, 6), (5, 7), (5, 8), (5, 9), (6, 4), (30, 3), (30, 4), (30, 5), (31, 5), (66, 1), (66, 2), (66, 3), (66, 4), (66, 5), (66, 6), (66, 7), (66, 8), (66, 9), (66, 19), (66, 20), (66, 21), (66, 22), (66, 23), (66, 24), (66, 45), (66, 46), (66, 47), (66, 48), (66, 49), (66, 50), (66, 51), (66, 52), (66, 53), (66, 54), (66, 55), (66, 56), (66, 66), (66, 78), (66, 79), (66, 85)] G G_23 := (Fr.call9 (rs := [110, 117, 20, 21, 22, 23, 24, 25, 26, 27, 28, 34, 35, 36, 38, 58, 59, 68, 69, 70, 71, 72, 73, 74, 75, 77, 78, 79, 80, 81, 82, 83, 84, 85, 86, 87, 88, 89, 90, 91, 92, 93, 94, 95, 96]) (fs := [(0, 0), (0, 1), (0, 11), (0, 12), (2, 9), (2, 10), (2, 11), (2, 12), (2, 13), (2, 14), (2, 15), (2, 16), (3, 1), (3, 2), (3, 3), (3, 4), (3, 5), (3, 6), (3, 7), (3, 8), (4, 1), (4, 2), (5, 5), (5, 6), (5, 7), (5, 8), (5, 9), (6, 4), (30, 3), (30, 4), (30, 5), (31, 5), (66, 1), (66, 2), (66, 3), (66, 4), (66, 5), (66, 6), (66, 7), (66, 8), (66, 9), (66, 19), (66, 20), (66, 21), (66, 22), (66, 23), (66, 24), (66, 45), (66, 46), (66, 47), (66, 48), (66, 49), (66, 50), (66, 51), (66, 52), (66, 53), (66, 54), (66, 55), (66, 56), (66, 66), (66, 78), (66, 79), (66, 85)]) (Fr.call9 (rs := [110, 117, 20, 21, 22, 23, 24, 25, 26, 27, 28, 34, 35, 36, 38, 58, 59, 68, 69, 70, 71, 72, 73, 74, 75, 77, 78, 79, 80, 81, 82, 83, 84, 85, 86, 87, 88, 89, 90, 91, 92, 93, 94, 95, 96]) (fs := [(0, 0), (0, 1), (0, 11), (0, 12), (2, 9), (2, 10), (2, 11), (2, 12), (2, 13), (2, 14), (2, 15), (2, 16), (3, 1), (3, 2), (3, 3), (3, 4), (3, 5), (3, 6), (3, 7), (3, 8), (4, 1), (4, 2), (5, 5), (5, 6), (5, 7), (5, 8), (5, 9), (6, 4), (30, 3), (30, 4), (30, 5), (31, 5), (66, 1), (66, 2), (66, 3), (66, 4), (66, 5), (66, 6), (66, 7), (66, 8), (66, 9), (66, 19), (66, 20), (66, 21), (66, 22), (66, 23), (66, 24), (66, 45), (66, 46), (66, 47), (66, 48), (66, 49), (66, 50), (66, 51), (66, 52), (66, 53), (66, 54), (66, 55), (66, 56), (66, 66), (66, 78), (66, 79), (66, 85)]) Fr.rf hq_5 rfl rfl) hq_24 rfl rfl)
    have g_33 : gO G_23 = gO G := gO_fr fr_32 (gr_q rfl) (gf_q rfl)
    have g_34 : gTE G_23 = gTE G := gTE_fr fr_32 (gr_q rfl) (gf_q rfl)
    have b_35 : 0 ≤ (G_4.1 0 11).toInt ∧ (G_4.1 0 11).toInt ≤ 1600 := bd_0_11 hB_G_4
    have g_36 : (G_23.1 0 11).toInt = (G_4.1 0 11).toInt := (congrArg Int32.toInt (show G_23.1 0 11 = (G_4.1 0 11) from (hq_24.i9 0 11 rfl rfl)))
    have b_37 : 0 ≤ (G_4.1 3 7).toInt ∧ (G_4.1 3 7).toInt ≤ 4 := bd_3_7 hB_G_4
    have g_38 : (G_23.1 3 7).toInt = (G_4.1 3 7).toInt := (congrArg Int32.toInt (show G_23.1 3 7 = (G_4.1 3 7) from (hq_24.i9 3 7 rfl rfl)))
    have b_39 : (-1) ≤ (G_4.1 3 8).toInt ∧ (G_4.1 3 8).toInt ≤ 1600 := bd_3_8 hB_G_4
    have g_40 : (G_23.1 3 8).toInt = (G_4.1 3 8).toInt := (congrArg Int32.toInt (show G_23.1 3 8 = (G_4.1 3 8) from (hq_24.i9 3 8 rfl rfl)))
    have b_41 : 0 ≤ (G_4.1 30 4).toInt ∧ (G_4.1 30 4).toInt ≤ 40 := bd_30_4 hB_G_4
    have g_42 : (G_23.1 30 4).toInt = (G_4.1 30 4).toInt := (congrArg Int32.toInt (show G_23.1 30 4 = (G_4.1 30 4) from (hq_24.i9 30 4 rfl rfl)))
    have b_43 : 0 ≤ (G_4.1 30 5).toInt ∧ (G_4.1 30 5).toInt ≤ 40 := bd_30_5 hB_G_4
    have g_44 : (G_23.1 30 5).toInt = (G_4.1 30 5).toInt := (congrArg Int32.toInt (show G_23.1 30 5 = (G_4.1 30 5) from (hq_24.i9 30 5 rfl rfl)))
    have b_45 : 0 ≤ (G.1 31 6).toInt ∧ (G.1 31 6).toInt ≤ 100000 := bd_31_6 hB_G
    have g_46 : (G_23.1 31 6).toInt = (G.1 31 6).toInt := (congrArg Int32.toInt (show G_23.1 31 6 = (G.1 31 6) from ((hq_24.i9 31 6 rfl rfl).trans (hq_5.i9 31 6 rfl rfl))))
    have b_47 : 0 ≤ (G_23.1 66 1).toInt ∧ (G_23.1 66 1).toInt ≤ 1600 := bd_66_1 hB_G_23
    have b_48 : 0 ≤ (G_23.1 66 2).toInt ∧ (G_23.1 66 2).toInt ≤ 4 := bd_66_2 hB_G_23
    have b_49 : (-1) ≤ (G_23.1 66 3).toInt ∧ (G_23.1 66 3).toInt ≤ 1600 := bd_66_3 hB_G_23
    have b_50 : 0 ≤ (G_23.1 66 78).toInt ∧ (G_23.1 66 78).toInt ≤ 40 := bd_66_78 hB_G_23
    have b_51 : 0 ≤ (G_23.1 66 79).toInt ∧ (G_23.1 66 79).toInt ≤ 40 := bd_66_79 hB_G_23
    have b_52 : 0 ≤ (G.1 66 86).toInt ∧ (G.1 66 86).toInt ≤ 100000 := bd_66_86 hB_G
    have g_53 : (G_23.1 66 86).toInt = (G.1 66 86).toInt := (congrArg Int32.toInt (show G_23.1 66 86 = (G.1 66 86) from ((hq_24.i9 66 86 rfl rfl).trans (hq_5.i9 66 86 rfl rfl))))
    have b_54 : 0 ≤ (G_23.1 96 0).toInt ∧ (G_23.1 96 0).toInt ≤ 9 := bd_96_0 hB_G_23
    have b_55 : 0 ≤ (G_23.1 96 1).toInt ∧ (G_23.1 96 1).toInt ≤ 9 := bd_96_1 hB_G_23
    have b_56 : 0 ≤ (G_23.1 96 2).toInt ∧ (G_23.1 96 2).toInt ≤ 9 := bd_96_2 hB_G_23
    rcases hp_6.2.2 with ⟨q1, q2, q3⟩ | ⟨q1, q2, q3⟩
    · have hg9 := hg_1 ((((hq_24.r9 0 0 rfl rfl)).trans (q1)))
      exact K G_23 _ _ _ (Or.inl ⟨((((hq_24.r9 0 0 rfl rfl)).trans (q1))), ((((hq_24.r9 0 1 rfl rfl)).trans (q2))), ((((hq_24.r9 6 4 rfl rfl)).trans (q3))), by omega, by omega, by omega, by omega, by omega, by omega, by omega, by omega, by omega, by omega, by omega, by omega, by omega⟩) hB_G_23 hW hS (lv_sub hl [0, 1, 2, 3] rfl)
    · have hg9 := hg_2 ((((hq_24.r9 0 0 rfl rfl)).trans (q1)))
      exact K G_23 _ _ _ (Or.inr ⟨((((hq_24.r9 0 0 rfl rfl)).trans (q1))), ((((hq_24.r9 0 1 rfl rfl)).trans (q2))), ((((hq_24.r9 6 4 rfl rfl)).trans (q3))), by omega, by omega, by omega, by omega, by omega, by omega, by omega, by omega, by omega, by omega, by omega, by omega, by omega⟩) hB_G_23 hW hS (lv_sub hl [0, 1, 2, 3] rfl)
  · skip
    obtain ⟨p0, hp0⟩ : ∃ y, y = xs (i0 + 1).toNatClampNeg := ⟨_, rfl⟩
    obtain ⟨p1, hp1⟩ : ∃ y, y = xs (i0 + 2).toNatClampNeg := ⟨_, rfl⟩
    obtain ⟨p2, hp2⟩ : ∃ y, y = xs (i0 + 3).toNatClampNeg := ⟨_, rfl⟩
    obtain ⟨p3, hp3⟩ : ∃ y, y = xs (i0 + 4).toNatClampNeg := ⟨_, rfl⟩
    obtain ⟨p4, hp4⟩ : ∃ y, y = xs (i0 + 5).toNatClampNeg := ⟨_, rfl⟩
    refine lv_aload_n hx hb dL_law_290 rfl (lv_at hl 1 rfl) ?_
    have b_1 : 0 ≤ (G.1 30 4).toInt ∧ (G.1 30 4).toInt ≤ 40 := bd_30_4 hB_G
    have b_2 : 0 ≤ (G.1 30 5).toInt ∧ (G.1 30 5).toInt ≤ 40 := bd_30_5 hB_G
    refine S_calli (va_runV (As := []) (rest := []) ⟨hx, hb, hml, hown, hts⟩ (k_Wpavement_2 l D k A a z G  hv_0_0 hv_0_1 hv_6_4 (by omega)) (cwV 0 hts (gd_V hgd m622 m623 m624 m117 m625) rfl rfl rfl hd_X11_pavement ⟨Nat.le_of_ble_eq_true rfl, Nat.le_of_ble_eq_true rfl⟩) (pre_W hW hB_G hK hZ hS kd_0 rfl) rfl rfl hl.1 rfl (lv_room (Nat.le_of_ble_eq_true rfl)) dL_law_291 ⟨Nat.le_of_ble_eq_true rfl, Nat.le_of_ble_eq_true rfl⟩) hS (fun r_3 G_4 H locs hpo hW hS => ?_)
    have hX_7 : P_Wpavement_2 G r_3 G_4 := hpo
    obtain ⟨hB_G_4, hq_5, hp_6, -⟩ := hpo
    refine lv_pop hx hb dL_law_294 rfl ?_
    refine lv_aload_n hx hb dL_law_295 rfl (lv_at hl 2 rfl) ?_
    have fr_8 : Fr [10, 11, 12, 13, 14, 15, 16, 17, 18, 34, 35, 36, 38, 58, 59] [(0, 0), (0, 1), (0, 11), (0, 12), (1, 9), (1, 10), (1, 11), (1, 12), (1, 13), (1, 14), (1, 15), (1, 16), (3, 1), (3, 2), (3, 3), (3, 4), (3, 5), (3, 6), (3, 7), (3, 8), (4, 1), (4, 2), (5, 5), (5, 6), (5, 7), (5, 8), (5, 9), (6, 4), (30, 3), (30, 4), (30, 5), (31, 5)] G G_4 := (Fr.call9 (rs := [10, 11, 12, 13, 14, 15, 16, 17, 18, 34, 35, 36, 38, 58, 59]) (fs := [(0, 0), (0, 1), (0, 11), (0, 12), (1, 9), (1, 10), (1, 11), (1, 12), (1, 13), (1, 14), (1, 15), (1, 16), (3, 1), (3, 2), (3, 3), (3, 4), (3, 5), (3, 6), (3, 7), (3, 8), (4, 1), (4, 2), (5, 5), (5, 6), (5, 7), (5, 8), (5, 9), (6, 4), (30, 3), (30, 4), (30, 5), (31, 5)]) Fr.rf hq_5 rfl rfl)
    have g_9 : gP G_4 = gP G := gP_fr fr_8 (gr_q rfl) (gf_q rfl)
    have g_10 : gW G_4 = gW G := gW_fr fr_8 (gr_q rfl) (gf_q rfl)
    have g_11 : gS G_4 = gS G := gS_fr fr_8 (gr_q rfl) (gf_q rfl)
    have b_12 : 0 ≤ (G.1 66 78).toInt ∧ (G.1 66 78).toInt ≤ 40 := bd_66_78 hB_G
    have g_13 : (G_4.1 66 78).toInt = (G.1 66 78).toInt := (congrArg Int32.toInt (show G_4.1 66 78 = (G.1 66 78) from (hq_5.i9 66 78 rfl rfl)))
    have b_14 : 0 ≤ (G.1 66 79).toInt ∧ (G.1 66 79).toInt ≤ 40 := bd_66_79 hB_G
    have g_15 : (G_4.1 66 79).toInt = (G.1 66 79).toInt := (congrArg Int32.toInt (show G_4.1 66 79 = (G.1 66 79) from (hq_5.i9 66 79 rfl rfl)))
    have b_16 : 0 ≤ (G.1 96 0).toInt ∧ (G.1 96 0).toInt ≤ 9 := bd_96_0 hB_G
    have g_17 : (G_4.1 96 0).toInt = (G.1 96 0).toInt := (congrArg Int32.toInt (show G_4.1 96 0 = (G.1 96 0) from (hq_5.i9 96 0 rfl rfl)))
    have b_18 : 0 ≤ (G.1 96 1).toInt ∧ (G.1 96 1).toInt ≤ 9 := bd_96_1 hB_G
    have g_19 : (G_4.1 96 1).toInt = (G.1 96 1).toInt := (congrArg Int32.toInt (show G_4.1 96 1 = (G.1 96 1) from (hq_5.i9 96 1 rfl rfl)))
    have b_20 : 0 ≤ (G.1 96 2).toInt ∧ (G.1 96 2).toInt ≤ 9 := bd_96_2 hB_G
    have g_21 : (G_4.1 96 2).toInt = (G.1 96 2).toInt := (congrArg Int32.toInt (show G_4.1 96 2 = (G.1 96 2) from (hq_5.i9 96 2 rfl rfl)))
    refine S_calli (va_runV (As := []) (rest := []) ⟨hx, hb, hml, hown, hts⟩ (n_pavement l D k A a z G_4  ((by first | (clear b_1 b_2 g_10 g_11 b_12 g_13 b_14 g_15 b_16 g_17 b_18 g_19 b_20 g_21; omega) | omega)) ((by first | (clear b_1 b_2 g_9 g_11 b_12 g_13 b_14 g_15 b_16 g_17 b_18 g_19 b_20 g_21; omega) | omega)) ((by first | (clear b_1 b_2 g_9 g_10 b_12 g_13 b_14 g_15 b_16 g_17 b_18 g_19 b_20 g_21; omega) | omega)) ((by first | (clear b_1 b_2 g_9 g_10 g_11 b_16 g_17 b_18 g_19 b_20 g_21; omega) | omega)) ((by first | (clear b_1 b_2 g_9 g_10 g_11 b_12 g_13 b_14 g_15; omega) | omega))) (cwV 0 hts (gd_V hgd m1594 m1595 m1596 m131 m1597) rfl rfl rfl hd_X12_pavement ⟨Nat.le_of_ble_eq_true rfl, Nat.le_of_ble_eq_true rfl⟩) (pre_W hW hB_G_4 hK hZ hS kd_66 rfl) rfl rfl hl.1 rfl (lv_room (Nat.le_of_ble_eq_true rfl)) dL_law_296 ⟨Nat.le_of_ble_eq_true rfl, Nat.le_of_ble_eq_true rfl⟩) hS (fun r_22 G_23 H locs hpo hW hS => ?_)
    have hX_26 : Q_pavement G_4 r_22 G_23 := hpo
    obtain ⟨hB_G_23, hq_24, hp_25, -⟩ := hpo
    obtain ⟨u_27, u_28, u_29, u_30, hg_1, hg_2⟩ := L_pavement_2 hX_7 hX_26 (by omega) (by omega) (hB_G.i 0 11 (lo := 0) (hi := 1600) rfl rfl).1 (hB_G.i 0 11 (lo := 0) (hi := 1600) rfl rfl).2 hv_0_0 (by omega)
    have v_31 : gTE G_23 = 1 := u_30
    refine lv_pop hx hb dL_law_299 rfl ?_
    refine lv_goto (tgt := 1641) hx hb dL_law_300 rfl ?_
    have fr_32 : Fr [10, 11, 110, 117, 12, 13, 14, 15, 16, 17, 18, 34, 35, 36, 38, 58, 59, 68, 69, 70, 71, 72, 73, 74, 75, 77, 78, 79, 80, 81, 82, 83, 84, 85, 86, 87, 88, 89, 90, 91, 92, 93, 94, 95, 96] [(0, 0), (0, 1), (0, 11), (0, 12), (1, 9), (1, 10), (1, 11), (1, 12), (1, 13), (1, 14), (1, 15), (1, 16), (3, 1), (3, 2), (3, 3), (3, 4), (3, 5), (3, 6), (3, 7), (3, 8), (4, 1), (4, 2), (5, 5), (5, 6), (5, 7), (5, 8), (5, 9), (6, 4), (30, 3), (30, 4), (30, 5), (31, 5), (66, 1), (66, 2), (66, 3), (66, 4), (66, 5), (66, 6), (66, 7), (66, 8), (66, 9), (66, 19), (66, 20), (66, 21), (66, 22), (66, 23), (66, 24), (66, 45), (66, 46), (66, 47), (66, 48), (66, 49), (66, 50), (66, 51), (66, 52), (66, 53), (66, 54), (66, 55), (66, 56), (66, 66), (66, 78), (66, 79), (66, 85)] G G_23 := (Fr.call9 (rs := [10, 11, 110, 117, 12, 13, 14, 15, 16, 17, 18, 34, 35, 36, 38, 58, 59, 68, 69, 70, 71, 72, 73, 74, 75, 77, 78, 79, 80, 81, 82, 83, 84, 85, 86, 87, 88, 89, 90, 91, 92, 93, 94, 95, 96]) (fs := [(0, 0), (0, 1), (0, 11), (0, 12), (1, 9), (1, 10), (1, 11), (1, 12), (1, 13), (1, 14), (1, 15), (1, 16), (3, 1), (3, 2), (3, 3), (3, 4), (3, 5), (3, 6), (3, 7), (3, 8), (4, 1), (4, 2), (5, 5), (5, 6), (5, 7), (5, 8), (5, 9), (6, 4), (30, 3), (30, 4), (30, 5), (31, 5), (66, 1), (66, 2), (66, 3), (66, 4), (66, 5), (66, 6), (66, 7), (66, 8), (66, 9), (66, 19), (66, 20), (66, 21), (66, 22), (66, 23), (66, 24), (66, 45), (66, 46), (66, 47), (66, 48), (66, 49), (66, 50), (66, 51), (66, 52), (66, 53), (66, 54), (66, 55), (66, 56), (66, 66), (66, 78), (66, 79), (66, 85)]) (Fr.call9 (rs := [10, 11, 110, 117, 12, 13, 14, 15, 16, 17, 18, 34, 35, 36, 38, 58, 59, 68, 69, 70, 71, 72, 73, 74, 75, 77, 78, 79, 80, 81, 82, 83, 84, 85, 86, 87, 88, 89, 90, 91, 92, 93, 94, 95, 96]) (fs := [(0, 0), (0, 1), (0, 11), (0, 12), (1, 9), (1, 10), (1, 11), (1, 12), (1, 13), (1, 14), (1, 15), (1, 16), (3, 1), (3, 2), (3, 3), (3, 4), (3, 5), (3, 6), (3, 7), (3, 8), (4, 1), (4, 2), (5, 5), (5, 6), (5, 7), (5, 8), (5, 9), (6, 4), (30, 3), (30, 4), (30, 5), (31, 5), (66, 1), (66, 2), (66, 3), (66, 4), (66, 5), (66, 6), (66, 7), (66, 8), (66, 9), (66, 19), (66, 20), (66, 21), (66, 22), (66, 23), (66, 24), (66, 45), (66, 46), (66, 47), (66, 48), (66, 49), (66, 50), (66, 51), (66, 52), (66, 53), (66, 54), (66, 55), (66, 56), (66, 66), (66, 78), (66, 79), (66, 85)]) Fr.rf hq_5 rfl rfl) hq_24 rfl rfl)
    have g_33 : gO G_23 = gO G := gO_fr fr_32 (gr_q rfl) (gf_q rfl)
    have g_34 : gTE G_23 = gTE G := gTE_fr fr_32 (gr_q rfl) (gf_q rfl)
    have b_35 : 0 ≤ (G_4.1 0 11).toInt ∧ (G_4.1 0 11).toInt ≤ 1600 := bd_0_11 hB_G_4
    have g_36 : (G_23.1 0 11).toInt = (G_4.1 0 11).toInt := (congrArg Int32.toInt (show G_23.1 0 11 = (G_4.1 0 11) from (hq_24.i9 0 11 rfl rfl)))
    have b_37 : 0 ≤ (G_4.1 3 7).toInt ∧ (G_4.1 3 7).toInt ≤ 4 := bd_3_7 hB_G_4
    have g_38 : (G_23.1 3 7).toInt = (G_4.1 3 7).toInt := (congrArg Int32.toInt (show G_23.1 3 7 = (G_4.1 3 7) from (hq_24.i9 3 7 rfl rfl)))
    have b_39 : (-1) ≤ (G_4.1 3 8).toInt ∧ (G_4.1 3 8).toInt ≤ 1600 := bd_3_8 hB_G_4
    have g_40 : (G_23.1 3 8).toInt = (G_4.1 3 8).toInt := (congrArg Int32.toInt (show G_23.1 3 8 = (G_4.1 3 8) from (hq_24.i9 3 8 rfl rfl)))
    have b_41 : 0 ≤ (G_4.1 30 4).toInt ∧ (G_4.1 30 4).toInt ≤ 40 := bd_30_4 hB_G_4
    have g_42 : (G_23.1 30 4).toInt = (G_4.1 30 4).toInt := (congrArg Int32.toInt (show G_23.1 30 4 = (G_4.1 30 4) from (hq_24.i9 30 4 rfl rfl)))
    have b_43 : 0 ≤ (G_4.1 30 5).toInt ∧ (G_4.1 30 5).toInt ≤ 40 := bd_30_5 hB_G_4
    have g_44 : (G_23.1 30 5).toInt = (G_4.1 30 5).toInt := (congrArg Int32.toInt (show G_23.1 30 5 = (G_4.1 30 5) from (hq_24.i9 30 5 rfl rfl)))
    have b_45 : 0 ≤ (G.1 31 6).toInt ∧ (G.1 31 6).toInt ≤ 100000 := bd_31_6 hB_G
    have g_46 : (G_23.1 31 6).toInt = (G.1 31 6).toInt := (congrArg Int32.toInt (show G_23.1 31 6 = (G.1 31 6) from ((hq_24.i9 31 6 rfl rfl).trans (hq_5.i9 31 6 rfl rfl))))
    have b_47 : 0 ≤ (G_23.1 66 1).toInt ∧ (G_23.1 66 1).toInt ≤ 1600 := bd_66_1 hB_G_23
    have b_48 : 0 ≤ (G_23.1 66 2).toInt ∧ (G_23.1 66 2).toInt ≤ 4 := bd_66_2 hB_G_23
    have b_49 : (-1) ≤ (G_23.1 66 3).toInt ∧ (G_23.1 66 3).toInt ≤ 1600 := bd_66_3 hB_G_23
    have b_50 : 0 ≤ (G_23.1 66 78).toInt ∧ (G_23.1 66 78).toInt ≤ 40 := bd_66_78 hB_G_23
    have b_51 : 0 ≤ (G_23.1 66 79).toInt ∧ (G_23.1 66 79).toInt ≤ 40 := bd_66_79 hB_G_23
    have b_52 : 0 ≤ (G.1 66 86).toInt ∧ (G.1 66 86).toInt ≤ 100000 := bd_66_86 hB_G
    have g_53 : (G_23.1 66 86).toInt = (G.1 66 86).toInt := (congrArg Int32.toInt (show G_23.1 66 86 = (G.1 66 86) from ((hq_24.i9 66 86 rfl rfl).trans (hq_5.i9 66 86 rfl rfl))))
    have b_54 : 0 ≤ (G_23.1 96 0).toInt ∧ (G_23.1 96 0).toInt ≤ 9 := bd_96_0 hB_G_23
    have b_55 : 0 ≤ (G_23.1 96 1).toInt ∧ (G_23.1 96 1).toInt ≤ 9 := bd_96_1 hB_G_23
    have b_56 : 0 ≤ (G_23.1 96 2).toInt ∧ (G_23.1 96 2).toInt ≤ 9 := bd_96_2 hB_G_23
    rcases hp_6.2.2 with ⟨q1, q2, q3⟩ | ⟨q1, q2, q3⟩
    · have hg9 := hg_2 ((((hq_24.r9 0 0 rfl rfl)).trans (q1)))
      exact K G_23 _ _ _ (Or.inr ⟨((((hq_24.r9 0 0 rfl rfl)).trans (q1))), ((((hq_24.r9 0 1 rfl rfl)).trans (q2))), ((((hq_24.r9 6 4 rfl rfl)).trans (q3))), by omega, by omega, by omega, by omega, by omega, by omega, by omega, by omega, by omega, by omega, by omega, by omega, by omega⟩) hB_G_23 hW hS (lv_sub hl [0, 1, 2, 3] rfl)
    · have hg9 := hg_1 ((((hq_24.r9 0 0 rfl rfl)).trans (q1)))
      exact K G_23 _ _ _ (Or.inl ⟨((((hq_24.r9 0 0 rfl rfl)).trans (q1))), ((((hq_24.r9 0 1 rfl rfl)).trans (q2))), ((((hq_24.r9 6 4 rfl rfl)).trans (q3))), by omega, by omega, by omega, by omega, by omega, by omega, by omega, by omega, by omega, by omega, by omega, by omega, by omega⟩) hB_G_23 hW hS (lv_sub hl [0, 1, 2, 3] rfl)

set_option maxHeartbeats 4000000 in
set_option maxRecDepth 100000 in
theorem law_3 {p : Program} {l : Launch} {e : Env} {s : State} {m : MethodId} {below : List Frame} {meth : Method} {c : Code} {D : va_G} {k : KT} {A : Nat → Prop} {a : Nat → Nat} {z : SK} {b L : Nat} {xs : Nat → Int32} (hL : L ≤ 3072) (C0 : lw_At p s m meth c b L xs) (hK : cK D k s) (hZ : Sx A z s) (hbA : ¬ A b) {G : GS} {i0 : Int32} (hi0 : 0 ≤ i0.toInt) (hi6 : i0.toInt + 6 ≤ L) (hI : LI G) (hB_G : Bd G) {H : Heap} {locs : List Loc} {ls : Array Slot} (hW : Wd D k A a G H) (hS : va_S A s.heap H locs) (hl : lv_has ls 4 [(0, .ref b), (1, .ref (a 0)), (2, .ref (a 66)), (3, .int i0)]) (K : ∀ (G1 : GS) (H1 : Heap) (locs1 : List Loc) (ls1 : Array Slot), LI G1 → Bd G1 → Wd D k A a G1 H1 → va_S A s.heap H1 locs1 → lv_has ls1 4 [(0, .ref b), (1, .ref (a 0)), (2, .ref (a 66)), (3, .int i0)] → W p l e room_1 s m #[Value.ref b] below meth c H1 locs1 119 46443 (lw_Z below #[Value.ref b] s) (F0 m 1641 ls1 [])) : W p l e room_1 s m #[Value.ref b] below meth c H locs 119 46443 (lw_Z below #[Value.ref b] s) (F0 m 303 ls []) := by
  obtain ⟨hx, hb, hr, hml, hown, hts, hX, hbl, hlocks, hgv⟩ := id C0
  have hown : s.vm.findClass RL = some m.cls := hown
  have hgd : ∀ w ∈ gd, w ∈ lw_tbl := fun w h => (List.mem_filter.mp h).1
  have hg : ∀ w ∈ gd, w.before #[Value.ref b] s = true := fun w h => hts w (hgd w h)
  rcases hI with ⟨hv_0_0, hv_0_1, hv_6_4, hj0, hj1, hj2, hj3, hj4, hj5, hj6, hj7, hj8, hj9, hj10, hj11, hj12⟩ | ⟨hv_0_0, hv_0_1, hv_6_4, hj0, hj1, hj2, hj3, hj4, hj5, hj6, hj7, hj8, hj9, hj10, hj11, hj12⟩
  · skip
    obtain ⟨p0, hp0⟩ : ∃ y, y = xs (i0 + 1).toNatClampNeg := ⟨_, rfl⟩
    obtain ⟨p1, hp1⟩ : ∃ y, y = xs (i0 + 2).toNatClampNeg := ⟨_, rfl⟩
    obtain ⟨p2, hp2⟩ : ∃ y, y = xs (i0 + 3).toNatClampNeg := ⟨_, rfl⟩
    obtain ⟨p3, hp3⟩ : ∃ y, y = xs (i0 + 4).toNatClampNeg := ⟨_, rfl⟩
    obtain ⟨p4, hp4⟩ : ∃ y, y = xs (i0 + 5).toNatClampNeg := ⟨_, rfl⟩
    refine lv_aload_n hx hb dL_law_303 rfl (lv_at hl 1 rfl) ?_
    refine ld_1 hL hi0 hi6 hx hb hX hbl hbA hS hl dL_law_304 dL_law_305 dL_law_306 dL_law_307 dL_law_308 hp0 ?_
    refine S_calli (va_runV (As := [.int p0]) (rest := []) ⟨hx, hb, hml, hown, hts⟩ (k_Wfault l D k A a z G p0 ) (cwV 1 hts (gd_V hgd m874 m875 m876 m117 m877) rfl rfl rfl hd_X11_fault ⟨Nat.le_of_ble_eq_true rfl, Nat.le_of_ble_eq_true rfl⟩) (pre_W hW hB_G hK hZ hS kd_0 rfl) rfl rfl hl.1 rfl (lv_room (Nat.le_of_ble_eq_true rfl)) dL_law_309 ⟨Nat.le_of_ble_eq_true rfl, Nat.le_of_ble_eq_true rfl⟩) hS (fun r_1 G_2 H locs hpo hW hS => ?_)
    have hX_5 : P_Wfault p0 G r_1 G_2 := hpo
    obtain ⟨hB_G_2, hq_3, -⟩ := hpo
    refine lv_pop hx hb dL_law_312 rfl ?_
    refine lv_aload_n hx hb dL_law_313 rfl (lv_at hl 2 rfl) ?_
    refine ld_1 hL hi0 hi6 hx hb hX hbl hbA hS hl dL_law_314 dL_law_315 dL_law_316 dL_law_317 dL_law_318 hp0 ?_
    refine S_calli (va_runV (As := [.int p0]) (rest := []) ⟨hx, hb, hml, hown, hts⟩ (n_fault l D k A a z G_2 p0 ) (cwV 1 hts (gd_V hgd m1769 m1770 m1771 m131 m1772) rfl rfl rfl hd_X12_fault ⟨Nat.le_of_ble_eq_true rfl, Nat.le_of_ble_eq_true rfl⟩) (pre_W hW hB_G_2 hK hZ hS kd_66 rfl) rfl rfl hl.1 rfl (lv_room (Nat.le_of_ble_eq_true rfl)) dL_law_319 ⟨Nat.le_of_ble_eq_true rfl, Nat.le_of_ble_eq_true rfl⟩) hS (fun r_6 G_7 H locs hpo hW hS => ?_)
    have hX_10 : Q_fault p0 G_2 r_6 G_7 := hpo
    obtain ⟨hB_G_7, hq_8, -⟩ := hpo
    have u_11 := flt_eq hX_5 hX_10 (by omega) (by omega) (by omega)
    refine lv_pop hx hb dL_law_322 rfl ?_
    refine lv_goto (tgt := 1641) hx hb dL_law_323 rfl ?_
    have fr_12 : Fr [] [] G G_7 := (Fr.call9 (rs := []) (fs := []) (Fr.call9 (rs := []) (fs := []) Fr.rf hq_3 rfl rfl) hq_8 rfl rfl)
    have g_13 : gIA G_7 = gIA G := gIA_fr fr_12 (gr_q rfl) (gf_q rfl)
    exact K G_7 _ _ _ (Or.inl (LI_of_1 (LIn_fr_1 (LIn_fr_1 (show LIn_1 G from ⟨hv_0_0, hv_0_1, hv_6_4, hj0, hj1, hj2, hj3, hj4, hj5, hj6, hj7, hj8, hj9, hj10, hj11⟩) hq_3 (by decide +kernel)) hq_8 (by decide +kernel)) (by omega))) hB_G_7 hW hS (lv_sub hl [0, 1, 2, 3] rfl)
  · skip
    obtain ⟨p0, hp0⟩ : ∃ y, y = xs (i0 + 1).toNatClampNeg := ⟨_, rfl⟩
    obtain ⟨p1, hp1⟩ : ∃ y, y = xs (i0 + 2).toNatClampNeg := ⟨_, rfl⟩
    obtain ⟨p2, hp2⟩ : ∃ y, y = xs (i0 + 3).toNatClampNeg := ⟨_, rfl⟩
    obtain ⟨p3, hp3⟩ : ∃ y, y = xs (i0 + 4).toNatClampNeg := ⟨_, rfl⟩
    obtain ⟨p4, hp4⟩ : ∃ y, y = xs (i0 + 5).toNatClampNeg := ⟨_, rfl⟩
    refine lv_aload_n hx hb dL_law_303 rfl (lv_at hl 1 rfl) ?_
    refine ld_1 hL hi0 hi6 hx hb hX hbl hbA hS hl dL_law_304 dL_law_305 dL_law_306 dL_law_307 dL_law_308 hp0 ?_
    refine S_calli (va_runV (As := [.int p0]) (rest := []) ⟨hx, hb, hml, hown, hts⟩ (k_Wfault l D k A a z G p0 ) (cwV 1 hts (gd_V hgd m874 m875 m876 m117 m877) rfl rfl rfl hd_X11_fault ⟨Nat.le_of_ble_eq_true rfl, Nat.le_of_ble_eq_true rfl⟩) (pre_W hW hB_G hK hZ hS kd_0 rfl) rfl rfl hl.1 rfl (lv_room (Nat.le_of_ble_eq_true rfl)) dL_law_309 ⟨Nat.le_of_ble_eq_true rfl, Nat.le_of_ble_eq_true rfl⟩) hS (fun r_1 G_2 H locs hpo hW hS => ?_)
    have hX_5 : P_Wfault p0 G r_1 G_2 := hpo
    obtain ⟨hB_G_2, hq_3, -⟩ := hpo
    refine lv_pop hx hb dL_law_312 rfl ?_
    refine lv_aload_n hx hb dL_law_313 rfl (lv_at hl 2 rfl) ?_
    refine ld_1 hL hi0 hi6 hx hb hX hbl hbA hS hl dL_law_314 dL_law_315 dL_law_316 dL_law_317 dL_law_318 hp0 ?_
    refine S_calli (va_runV (As := [.int p0]) (rest := []) ⟨hx, hb, hml, hown, hts⟩ (n_fault l D k A a z G_2 p0 ) (cwV 1 hts (gd_V hgd m1769 m1770 m1771 m131 m1772) rfl rfl rfl hd_X12_fault ⟨Nat.le_of_ble_eq_true rfl, Nat.le_of_ble_eq_true rfl⟩) (pre_W hW hB_G_2 hK hZ hS kd_66 rfl) rfl rfl hl.1 rfl (lv_room (Nat.le_of_ble_eq_true rfl)) dL_law_319 ⟨Nat.le_of_ble_eq_true rfl, Nat.le_of_ble_eq_true rfl⟩) hS (fun r_6 G_7 H locs hpo hW hS => ?_)
    have hX_10 : Q_fault p0 G_2 r_6 G_7 := hpo
    obtain ⟨hB_G_7, hq_8, -⟩ := hpo
    have u_11 := flt_eq hX_5 hX_10 (by omega) (by omega) (by omega)
    refine lv_pop hx hb dL_law_322 rfl ?_
    refine lv_goto (tgt := 1641) hx hb dL_law_323 rfl ?_
    have fr_12 : Fr [] [] G G_7 := (Fr.call9 (rs := []) (fs := []) (Fr.call9 (rs := []) (fs := []) Fr.rf hq_3 rfl rfl) hq_8 rfl rfl)
    have g_13 : gIB G_7 = gIB G := gIB_fr fr_12 (gr_q rfl) (gf_q rfl)
    exact K G_7 _ _ _ (Or.inr (LI_of_2 (LIn_fr_2 (LIn_fr_2 (show LIn_2 G from ⟨hv_0_0, hv_0_1, hv_6_4, hj0, hj1, hj2, hj3, hj4, hj5, hj6, hj7, hj8, hj9, hj10, hj11⟩) hq_3 (by decide +kernel)) hq_8 (by decide +kernel)) (by omega))) hB_G_7 hW hS (lv_sub hl [0, 1, 2, 3] rfl)

set_option maxHeartbeats 4000000 in
set_option maxRecDepth 100000 in
theorem law_4 {p : Program} {l : Launch} {e : Env} {s : State} {m : MethodId} {below : List Frame} {meth : Method} {c : Code} {D : va_G} {k : KT} {A : Nat → Prop} {a : Nat → Nat} {z : SK} {b L : Nat} {xs : Nat → Int32} (hL : L ≤ 3072) (C0 : lw_At p s m meth c b L xs) (hK : cK D k s) (hZ : Sx A z s) (hbA : ¬ A b) {G : GS} {i0 : Int32} (hi0 : 0 ≤ i0.toInt) (hi6 : i0.toInt + 6 ≤ L) (hI : LI G) (hB_G : Bd G) {H : Heap} {locs : List Loc} {ls : Array Slot} (hW : Wd D k A a G H) (hS : va_S A s.heap H locs) (hl : lv_has ls 4 [(0, .ref b), (1, .ref (a 0)), (2, .ref (a 66)), (3, .int i0)]) (K : ∀ (G1 : GS) (H1 : Heap) (locs1 : List Loc) (ls1 : Array Slot), LI G1 → Bd G1 → Wd D k A a G1 H1 → va_S A s.heap H1 locs1 → lv_has ls1 4 [(0, .ref b), (1, .ref (a 0)), (2, .ref (a 66)), (3, .int i0)] → W p l e room_1 s m #[Value.ref b] below meth c H1 locs1 119 46443 (lw_Z below #[Value.ref b] s) (F0 m 1641 ls1 [])) : W p l e room_1 s m #[Value.ref b] below meth c H locs 119 46443 (lw_Z below #[Value.ref b] s) (F0 m 326 ls []) := by
  obtain ⟨hx, hb, hr, hml, hown, hts, hX, hbl, hlocks, hgv⟩ := id C0
  have hown : s.vm.findClass RL = some m.cls := hown
  have hgd : ∀ w ∈ gd, w ∈ lw_tbl := fun w h => (List.mem_filter.mp h).1
  have hg : ∀ w ∈ gd, w.before #[Value.ref b] s = true := fun w h => hts w (hgd w h)
  rcases hI with ⟨hv_0_0, hv_0_1, hv_6_4, hj0, hj1, hj2, hj3, hj4, hj5, hj6, hj7, hj8, hj9, hj10, hj11, hj12⟩ | ⟨hv_0_0, hv_0_1, hv_6_4, hj0, hj1, hj2, hj3, hj4, hj5, hj6, hj7, hj8, hj9, hj10, hj11, hj12⟩
  · skip
    obtain ⟨p0, hp0⟩ : ∃ y, y = xs (i0 + 1).toNatClampNeg := ⟨_, rfl⟩
    obtain ⟨p1, hp1⟩ : ∃ y, y = xs (i0 + 2).toNatClampNeg := ⟨_, rfl⟩
    obtain ⟨p2, hp2⟩ : ∃ y, y = xs (i0 + 3).toNatClampNeg := ⟨_, rfl⟩
    obtain ⟨p3, hp3⟩ : ∃ y, y = xs (i0 + 4).toNatClampNeg := ⟨_, rfl⟩
    obtain ⟨p4, hp4⟩ : ∃ y, y = xs (i0 + 5).toNatClampNeg := ⟨_, rfl⟩
    refine lv_aload_n hx hb dL_law_326 rfl (lv_at hl 1 rfl) ?_
    refine ld_1 hL hi0 hi6 hx hb hX hbl hbA hS hl dL_law_327 dL_law_328 dL_law_329 dL_law_330 dL_law_331 hp0 ?_
    refine ld_2 hL hi0 hi6 hx hb hX hbl hbA hS hl dL_law_332 dL_law_333 dL_law_334 dL_law_335 dL_law_336 hp1 ?_
    refine ld_3 hL hi0 hi6 hx hb hX hbl hbA hS hl dL_law_337 dL_law_338 dL_law_339 dL_law_340 dL_law_341 hp2 ?_
    refine S_calli (va_runV (As := [.int p0, .int p1, .int p2]) (rest := []) ⟨hx, hb, hml, hown, hts⟩ (k_Winch_1 l D k A a z G p0 p1 p2 hv_0_0 hv_0_1 hv_6_4) (cwV 3 hts (gd_V hgd m878 m879 m880 m117 m881) rfl rfl rfl hd_X11_inch ⟨Nat.le_of_ble_eq_true rfl, Nat.le_of_ble_eq_true rfl⟩) (pre_W hW hB_G hK hZ hS kd_0 rfl) rfl rfl hl.1 rfl (lv_room (Nat.le_of_ble_eq_true rfl)) dL_law_342 ⟨Nat.le_of_ble_eq_true rfl, Nat.le_of_ble_eq_true rfl⟩) hS (fun r_1 G_2 H locs hpo hW hS => ?_)
    have hX_5 : P_Winch_1 p0 p1 p2 G r_1 G_2 := hpo
    obtain ⟨hB_G_2, hq_3, -⟩ := hpo
    refine lv_pop hx hb dL_law_345 rfl ?_
    refine lv_aload_n hx hb dL_law_346 rfl (lv_at hl 2 rfl) ?_
    refine ld_1 hL hi0 hi6 hx hb hX hbl hbA hS hl dL_law_347 dL_law_348 dL_law_349 dL_law_350 dL_law_351 hp0 ?_
    refine ld_2 hL hi0 hi6 hx hb hX hbl hbA hS hl dL_law_352 dL_law_353 dL_law_354 dL_law_355 dL_law_356 hp1 ?_
    refine ld_3 hL hi0 hi6 hx hb hX hbl hbA hS hl dL_law_357 dL_law_358 dL_law_359 dL_law_360 dL_law_361 hp2 ?_
    refine S_calli (va_runV (As := [.int p0, .int p1, .int p2]) (rest := []) ⟨hx, hb, hml, hown, hts⟩ (n_inch l D k A a z G_2 p0 p1 p2 ) (cwV 3 hts (gd_V hgd m1773 m1774 m1775 m131 m1776) rfl rfl rfl hd_X12_inch ⟨Nat.le_of_ble_eq_true rfl, Nat.le_of_ble_eq_true rfl⟩) (pre_W hW hB_G_2 hK hZ hS kd_66 rfl) rfl rfl hl.1 rfl (lv_room (Nat.le_of_ble_eq_true rfl)) dL_law_362 ⟨Nat.le_of_ble_eq_true rfl, Nat.le_of_ble_eq_true rfl⟩) hS (fun r_6 G_7 H locs hpo hW hS => ?_)
    have hX_10 : Q_inch p0 p1 p2 G_2 r_6 G_7 := hpo
    obtain ⟨hB_G_7, hq_8, -⟩ := hpo
    have u_11 := L_inch_1 hX_5 hX_10 rfl rfl rfl (by omega)
    refine lv_pop hx hb dL_law_365 rfl ?_
    refine lv_goto (tgt := 1641) hx hb dL_law_366 rfl ?_
    have fr_12 : Fr [] [] G G_7 := (Fr.call9 (rs := []) (fs := []) (Fr.call9 (rs := []) (fs := []) Fr.rf hq_3 rfl rfl) hq_8 rfl rfl)
    have g_13 : gIA G_7 = gIA G := gIA_fr fr_12 (gr_q rfl) (gf_q rfl)
    exact K G_7 _ _ _ (Or.inl (LI_of_1 (LIn_fr_1 (LIn_fr_1 (show LIn_1 G from ⟨hv_0_0, hv_0_1, hv_6_4, hj0, hj1, hj2, hj3, hj4, hj5, hj6, hj7, hj8, hj9, hj10, hj11⟩) hq_3 (by decide +kernel)) hq_8 (by decide +kernel)) (by omega))) hB_G_7 hW hS (lv_sub hl [0, 1, 2, 3] rfl)
  · skip
    obtain ⟨p0, hp0⟩ : ∃ y, y = xs (i0 + 1).toNatClampNeg := ⟨_, rfl⟩
    obtain ⟨p1, hp1⟩ : ∃ y, y = xs (i0 + 2).toNatClampNeg := ⟨_, rfl⟩
    obtain ⟨p2, hp2⟩ : ∃ y, y = xs (i0 + 3).toNatClampNeg := ⟨_, rfl⟩
    obtain ⟨p3, hp3⟩ : ∃ y, y = xs (i0 + 4).toNatClampNeg := ⟨_, rfl⟩
    obtain ⟨p4, hp4⟩ : ∃ y, y = xs (i0 + 5).toNatClampNeg := ⟨_, rfl⟩
    refine lv_aload_n hx hb dL_law_326 rfl (lv_at hl 1 rfl) ?_
    refine ld_1 hL hi0 hi6 hx hb hX hbl hbA hS hl dL_law_327 dL_law_328 dL_law_329 dL_law_330 dL_law_331 hp0 ?_
    refine ld_2 hL hi0 hi6 hx hb hX hbl hbA hS hl dL_law_332 dL_law_333 dL_law_334 dL_law_335 dL_law_336 hp1 ?_
    refine ld_3 hL hi0 hi6 hx hb hX hbl hbA hS hl dL_law_337 dL_law_338 dL_law_339 dL_law_340 dL_law_341 hp2 ?_
    refine S_calli (va_runV (As := [.int p0, .int p1, .int p2]) (rest := []) ⟨hx, hb, hml, hown, hts⟩ (k_Winch_2 l D k A a z G p0 p1 p2 hv_0_0 hv_0_1 hv_6_4) (cwV 3 hts (gd_V hgd m878 m879 m880 m117 m881) rfl rfl rfl hd_X11_inch ⟨Nat.le_of_ble_eq_true rfl, Nat.le_of_ble_eq_true rfl⟩) (pre_W hW hB_G hK hZ hS kd_0 rfl) rfl rfl hl.1 rfl (lv_room (Nat.le_of_ble_eq_true rfl)) dL_law_342 ⟨Nat.le_of_ble_eq_true rfl, Nat.le_of_ble_eq_true rfl⟩) hS (fun r_1 G_2 H locs hpo hW hS => ?_)
    have hX_5 : P_Winch_2 p0 p1 p2 G r_1 G_2 := hpo
    obtain ⟨hB_G_2, hq_3, -⟩ := hpo
    refine lv_pop hx hb dL_law_345 rfl ?_
    refine lv_aload_n hx hb dL_law_346 rfl (lv_at hl 2 rfl) ?_
    refine ld_1 hL hi0 hi6 hx hb hX hbl hbA hS hl dL_law_347 dL_law_348 dL_law_349 dL_law_350 dL_law_351 hp0 ?_
    refine ld_2 hL hi0 hi6 hx hb hX hbl hbA hS hl dL_law_352 dL_law_353 dL_law_354 dL_law_355 dL_law_356 hp1 ?_
    refine ld_3 hL hi0 hi6 hx hb hX hbl hbA hS hl dL_law_357 dL_law_358 dL_law_359 dL_law_360 dL_law_361 hp2 ?_
    refine S_calli (va_runV (As := [.int p0, .int p1, .int p2]) (rest := []) ⟨hx, hb, hml, hown, hts⟩ (n_inch l D k A a z G_2 p0 p1 p2 ) (cwV 3 hts (gd_V hgd m1773 m1774 m1775 m131 m1776) rfl rfl rfl hd_X12_inch ⟨Nat.le_of_ble_eq_true rfl, Nat.le_of_ble_eq_true rfl⟩) (pre_W hW hB_G_2 hK hZ hS kd_66 rfl) rfl rfl hl.1 rfl (lv_room (Nat.le_of_ble_eq_true rfl)) dL_law_362 ⟨Nat.le_of_ble_eq_true rfl, Nat.le_of_ble_eq_true rfl⟩) hS (fun r_6 G_7 H locs hpo hW hS => ?_)
    have hX_10 : Q_inch p0 p1 p2 G_2 r_6 G_7 := hpo
    obtain ⟨hB_G_7, hq_8, -⟩ := hpo
    have u_11 := L_inch_2 hX_5 hX_10 rfl rfl rfl (by omega)
    refine lv_pop hx hb dL_law_365 rfl ?_
    refine lv_goto (tgt := 1641) hx hb dL_law_366 rfl ?_
    have fr_12 : Fr [] [] G G_7 := (Fr.call9 (rs := []) (fs := []) (Fr.call9 (rs := []) (fs := []) Fr.rf hq_3 rfl rfl) hq_8 rfl rfl)
    have g_13 : gIB G_7 = gIB G := gIB_fr fr_12 (gr_q rfl) (gf_q rfl)
    exact K G_7 _ _ _ (Or.inr (LI_of_2 (LIn_fr_2 (LIn_fr_2 (show LIn_2 G from ⟨hv_0_0, hv_0_1, hv_6_4, hj0, hj1, hj2, hj3, hj4, hj5, hj6, hj7, hj8, hj9, hj10, hj11⟩) hq_3 (by decide +kernel)) hq_8 (by decide +kernel)) (by omega))) hB_G_7 hW hS (lv_sub hl [0, 1, 2, 3] rfl)

set_option maxHeartbeats 4000000 in
set_option maxRecDepth 100000 in
theorem law_5 {p : Program} {l : Launch} {e : Env} {s : State} {m : MethodId} {below : List Frame} {meth : Method} {c : Code} {D : va_G} {k : KT} {A : Nat → Prop} {a : Nat → Nat} {z : SK} {b L : Nat} {xs : Nat → Int32} (hL : L ≤ 3072) (C0 : lw_At p s m meth c b L xs) (hK : cK D k s) (hZ : Sx A z s) (hbA : ¬ A b) {G : GS} {i0 : Int32} (hi0 : 0 ≤ i0.toInt) (hi6 : i0.toInt + 6 ≤ L) (hI : LI G) (hB_G : Bd G) {H : Heap} {locs : List Loc} {ls : Array Slot} (hW : Wd D k A a G H) (hS : va_S A s.heap H locs) (hl : lv_has ls 4 [(0, .ref b), (1, .ref (a 0)), (2, .ref (a 66)), (3, .int i0)]) (K : ∀ (G1 : GS) (H1 : Heap) (locs1 : List Loc) (ls1 : Array Slot), LI G1 → Bd G1 → Wd D k A a G1 H1 → va_S A s.heap H1 locs1 → lv_has ls1 4 [(0, .ref b), (1, .ref (a 0)), (2, .ref (a 66)), (3, .int i0)] → W p l e room_1 s m #[Value.ref b] below meth c H1 locs1 119 46443 (lw_Z below #[Value.ref b] s) (F0 m 1641 ls1 [])) : W p l e room_1 s m #[Value.ref b] below meth c H locs 119 46443 (lw_Z below #[Value.ref b] s) (F0 m 369 ls []) := by
  obtain ⟨hx, hb, hr, hml, hown, hts, hX, hbl, hlocks, hgv⟩ := id C0
  have hown : s.vm.findClass RL = some m.cls := hown
  have hgd : ∀ w ∈ gd, w ∈ lw_tbl := fun w h => (List.mem_filter.mp h).1
  have hg : ∀ w ∈ gd, w.before #[Value.ref b] s = true := fun w h => hts w (hgd w h)
  rcases hI with ⟨hv_0_0, hv_0_1, hv_6_4, hj0, hj1, hj2, hj3, hj4, hj5, hj6, hj7, hj8, hj9, hj10, hj11, hj12⟩ | ⟨hv_0_0, hv_0_1, hv_6_4, hj0, hj1, hj2, hj3, hj4, hj5, hj6, hj7, hj8, hj9, hj10, hj11, hj12⟩
  · skip
    obtain ⟨p0, hp0⟩ : ∃ y, y = xs (i0 + 1).toNatClampNeg := ⟨_, rfl⟩
    obtain ⟨p1, hp1⟩ : ∃ y, y = xs (i0 + 2).toNatClampNeg := ⟨_, rfl⟩
    obtain ⟨p2, hp2⟩ : ∃ y, y = xs (i0 + 3).toNatClampNeg := ⟨_, rfl⟩
    obtain ⟨p3, hp3⟩ : ∃ y, y = xs (i0 + 4).toNatClampNeg := ⟨_, rfl⟩
    obtain ⟨p4, hp4⟩ : ∃ y, y = xs (i0 + 5).toNatClampNeg := ⟨_, rfl⟩
    refine lv_aload_n hx hb dL_law_369 rfl (lv_at hl 1 rfl) ?_
    refine ld_1 hL hi0 hi6 hx hb hX hbl hbA hS hl dL_law_370 dL_law_371 dL_law_372 dL_law_373 dL_law_374 hp0 ?_
    refine S_calli (va_runV (As := [.int p0]) (rest := []) ⟨hx, hb, hml, hown, hts⟩ (k_Wlength_1 l D k A a z G p0 hv_0_0 hv_0_1 hv_6_4) (cwV 1 hts (gd_V hgd m898 m899 m900 m117 m901) rfl rfl rfl hd_X11_length ⟨Nat.le_of_ble_eq_true rfl, Nat.le_of_ble_eq_true rfl⟩) (pre_W hW hB_G hK hZ hS kd_0 rfl) rfl rfl hl.1 rfl (lv_room (Nat.le_of_ble_eq_true rfl)) dL_law_375 ⟨Nat.le_of_ble_eq_true rfl, Nat.le_of_ble_eq_true rfl⟩) hS (fun r_1 G_2 H locs hpo hW hS => ?_)
    have hX_5 : P_Wlength_1 p0 G r_1 G_2 := hpo
    obtain ⟨hB_G_2, hq_3, -⟩ := hpo
    refine lv_pop hx hb dL_law_378 rfl ?_
    refine lv_aload_n hx hb dL_law_379 rfl (lv_at hl 2 rfl) ?_
    refine ld_1 hL hi0 hi6 hx hb hX hbl hbA hS hl dL_law_380 dL_law_381 dL_law_382 dL_law_383 dL_law_384 hp0 ?_
    refine S_calli (va_runV (As := [.int p0]) (rest := []) ⟨hx, hb, hml, hown, hts⟩ (n_length l D k A a z G_2 p0 ) (cwV 1 hts (gd_V hgd m1791 m1792 m1793 m131 m1794) rfl rfl rfl hd_X12_length ⟨Nat.le_of_ble_eq_true rfl, Nat.le_of_ble_eq_true rfl⟩) (pre_W hW hB_G_2 hK hZ hS kd_66 rfl) rfl rfl hl.1 rfl (lv_room (Nat.le_of_ble_eq_true rfl)) dL_law_385 ⟨Nat.le_of_ble_eq_true rfl, Nat.le_of_ble_eq_true rfl⟩) hS (fun r_6 G_7 H locs hpo hW hS => ?_)
    have hX_10 : Q_length p0 G_2 r_6 G_7 := hpo
    obtain ⟨hB_G_7, hq_8, -⟩ := hpo
    have u_11 := L_length_1 hX_5 hX_10 rfl (by omega)
    refine lv_pop hx hb dL_law_388 rfl ?_
    refine lv_goto (tgt := 1641) hx hb dL_law_389 rfl ?_
    have fr_12 : Fr [] [] G G_7 := (Fr.call9 (rs := []) (fs := []) (Fr.call9 (rs := []) (fs := []) Fr.rf hq_3 rfl rfl) hq_8 rfl rfl)
    have g_13 : gIA G_7 = gIA G := gIA_fr fr_12 (gr_q rfl) (gf_q rfl)
    exact K G_7 _ _ _ (Or.inl (LI_of_1 (LIn_fr_1 (LIn_fr_1 (show LIn_1 G from ⟨hv_0_0, hv_0_1, hv_6_4, hj0, hj1, hj2, hj3, hj4, hj5, hj6, hj7, hj8, hj9, hj10, hj11⟩) hq_3 (by decide +kernel)) hq_8 (by decide +kernel)) (by omega))) hB_G_7 hW hS (lv_sub hl [0, 1, 2, 3] rfl)
  · skip
    obtain ⟨p0, hp0⟩ : ∃ y, y = xs (i0 + 1).toNatClampNeg := ⟨_, rfl⟩
    obtain ⟨p1, hp1⟩ : ∃ y, y = xs (i0 + 2).toNatClampNeg := ⟨_, rfl⟩
    obtain ⟨p2, hp2⟩ : ∃ y, y = xs (i0 + 3).toNatClampNeg := ⟨_, rfl⟩
    obtain ⟨p3, hp3⟩ : ∃ y, y = xs (i0 + 4).toNatClampNeg := ⟨_, rfl⟩
    obtain ⟨p4, hp4⟩ : ∃ y, y = xs (i0 + 5).toNatClampNeg := ⟨_, rfl⟩
    refine lv_aload_n hx hb dL_law_369 rfl (lv_at hl 1 rfl) ?_
    refine ld_1 hL hi0 hi6 hx hb hX hbl hbA hS hl dL_law_370 dL_law_371 dL_law_372 dL_law_373 dL_law_374 hp0 ?_
    refine S_calli (va_runV (As := [.int p0]) (rest := []) ⟨hx, hb, hml, hown, hts⟩ (k_Wlength_2 l D k A a z G p0 hv_0_0 hv_0_1 hv_6_4) (cwV 1 hts (gd_V hgd m898 m899 m900 m117 m901) rfl rfl rfl hd_X11_length ⟨Nat.le_of_ble_eq_true rfl, Nat.le_of_ble_eq_true rfl⟩) (pre_W hW hB_G hK hZ hS kd_0 rfl) rfl rfl hl.1 rfl (lv_room (Nat.le_of_ble_eq_true rfl)) dL_law_375 ⟨Nat.le_of_ble_eq_true rfl, Nat.le_of_ble_eq_true rfl⟩) hS (fun r_1 G_2 H locs hpo hW hS => ?_)
    have hX_5 : P_Wlength_2 p0 G r_1 G_2 := hpo
    obtain ⟨hB_G_2, hq_3, -⟩ := hpo
    refine lv_pop hx hb dL_law_378 rfl ?_
    refine lv_aload_n hx hb dL_law_379 rfl (lv_at hl 2 rfl) ?_
    refine ld_1 hL hi0 hi6 hx hb hX hbl hbA hS hl dL_law_380 dL_law_381 dL_law_382 dL_law_383 dL_law_384 hp0 ?_
    refine S_calli (va_runV (As := [.int p0]) (rest := []) ⟨hx, hb, hml, hown, hts⟩ (n_length l D k A a z G_2 p0 ) (cwV 1 hts (gd_V hgd m1791 m1792 m1793 m131 m1794) rfl rfl rfl hd_X12_length ⟨Nat.le_of_ble_eq_true rfl, Nat.le_of_ble_eq_true rfl⟩) (pre_W hW hB_G_2 hK hZ hS kd_66 rfl) rfl rfl hl.1 rfl (lv_room (Nat.le_of_ble_eq_true rfl)) dL_law_385 ⟨Nat.le_of_ble_eq_true rfl, Nat.le_of_ble_eq_true rfl⟩) hS (fun r_6 G_7 H locs hpo hW hS => ?_)
    have hX_10 : Q_length p0 G_2 r_6 G_7 := hpo
    obtain ⟨hB_G_7, hq_8, -⟩ := hpo
    have u_11 := L_length_2 hX_5 hX_10 rfl (by omega)
    refine lv_pop hx hb dL_law_388 rfl ?_
    refine lv_goto (tgt := 1641) hx hb dL_law_389 rfl ?_
    have fr_12 : Fr [] [] G G_7 := (Fr.call9 (rs := []) (fs := []) (Fr.call9 (rs := []) (fs := []) Fr.rf hq_3 rfl rfl) hq_8 rfl rfl)
    have g_13 : gIB G_7 = gIB G := gIB_fr fr_12 (gr_q rfl) (gf_q rfl)
    exact K G_7 _ _ _ (Or.inr (LI_of_2 (LIn_fr_2 (LIn_fr_2 (show LIn_2 G from ⟨hv_0_0, hv_0_1, hv_6_4, hj0, hj1, hj2, hj3, hj4, hj5, hj6, hj7, hj8, hj9, hj10, hj11⟩) hq_3 (by decide +kernel)) hq_8 (by decide +kernel)) (by omega))) hB_G_7 hW hS (lv_sub hl [0, 1, 2, 3] rfl)

set_option maxHeartbeats 4000000 in
set_option maxRecDepth 100000 in
theorem law_6 {p : Program} {l : Launch} {e : Env} {s : State} {m : MethodId} {below : List Frame} {meth : Method} {c : Code} {D : va_G} {k : KT} {A : Nat → Prop} {a : Nat → Nat} {z : SK} {b L : Nat} {xs : Nat → Int32} (hL : L ≤ 3072) (C0 : lw_At p s m meth c b L xs) (hK : cK D k s) (hZ : Sx A z s) (hbA : ¬ A b) {G : GS} {i0 : Int32} (hi0 : 0 ≤ i0.toInt) (hi6 : i0.toInt + 6 ≤ L) (hI : LI G) (hB_G : Bd G) {H : Heap} {locs : List Loc} {ls : Array Slot} (hW : Wd D k A a G H) (hS : va_S A s.heap H locs) (hl : lv_has ls 4 [(0, .ref b), (1, .ref (a 0)), (2, .ref (a 66)), (3, .int i0)]) (K : ∀ (G1 : GS) (H1 : Heap) (locs1 : List Loc) (ls1 : Array Slot), LI G1 → Bd G1 → Wd D k A a G1 H1 → va_S A s.heap H1 locs1 → lv_has ls1 4 [(0, .ref b), (1, .ref (a 0)), (2, .ref (a 66)), (3, .int i0)] → W p l e room_1 s m #[Value.ref b] below meth c H1 locs1 119 46443 (lw_Z below #[Value.ref b] s) (F0 m 1641 ls1 [])) : W p l e room_1 s m #[Value.ref b] below meth c H locs 119 46443 (lw_Z below #[Value.ref b] s) (F0 m 392 ls []) := by
  obtain ⟨hx, hb, hr, hml, hown, hts, hX, hbl, hlocks, hgv⟩ := id C0
  have hown : s.vm.findClass RL = some m.cls := hown
  have hgd : ∀ w ∈ gd, w ∈ lw_tbl := fun w h => (List.mem_filter.mp h).1
  have hg : ∀ w ∈ gd, w.before #[Value.ref b] s = true := fun w h => hts w (hgd w h)
  rcases hI with ⟨hv_0_0, hv_0_1, hv_6_4, hj0, hj1, hj2, hj3, hj4, hj5, hj6, hj7, hj8, hj9, hj10, hj11, hj12⟩ | ⟨hv_0_0, hv_0_1, hv_6_4, hj0, hj1, hj2, hj3, hj4, hj5, hj6, hj7, hj8, hj9, hj10, hj11, hj12⟩
  · skip
    obtain ⟨p0, hp0⟩ : ∃ y, y = xs (i0 + 1).toNatClampNeg := ⟨_, rfl⟩
    obtain ⟨p1, hp1⟩ : ∃ y, y = xs (i0 + 2).toNatClampNeg := ⟨_, rfl⟩
    obtain ⟨p2, hp2⟩ : ∃ y, y = xs (i0 + 3).toNatClampNeg := ⟨_, rfl⟩
    obtain ⟨p3, hp3⟩ : ∃ y, y = xs (i0 + 4).toNatClampNeg := ⟨_, rfl⟩
    obtain ⟨p4, hp4⟩ : ∃ y, y = xs (i0 + 5).toNatClampNeg := ⟨_, rfl⟩
    refine lv_aload_n hx hb dL_law_392 rfl (lv_at hl 1 rfl) ?_
    refine ld_1 hL hi0 hi6 hx hb hX hbl hbA hS hl dL_law_393 dL_law_394 dL_law_395 dL_law_396 dL_law_397 hp0 ?_
    refine ld_2 hL hi0 hi6 hx hb hX hbl hbA hS hl dL_law_398 dL_law_399 dL_law_400 dL_law_401 dL_law_402 hp1 ?_
    refine ld_3 hL hi0 hi6 hx hb hX hbl hbA hS hl dL_law_403 dL_law_404 dL_law_405 dL_law_406 dL_law_407 hp2 ?_
    refine S_calli (va_runV (As := [.int p0, .int p1, .int p2]) (rest := []) ⟨hx, hb, hml, hown, hts⟩ (k_Wline_1 l D k A a z G p0 p1 p2 hv_0_0 hv_0_1 hv_6_4) (cwV 3 hts (gd_V hgd m903 m904 m905 m117 m906) rfl rfl rfl hd_X11_line ⟨Nat.le_of_ble_eq_true rfl, Nat.le_of_ble_eq_true rfl⟩) (pre_W hW hB_G hK hZ hS kd_0 rfl) rfl rfl hl.1 rfl (lv_room (Nat.le_of_ble_eq_true rfl)) dL_law_408 ⟨Nat.le_of_ble_eq_true rfl, Nat.le_of_ble_eq_true rfl⟩) hS (fun r_1 G_2 H locs hpo hW hS => ?_)
    have hX_5 : P_Wline_1 p0 p1 p2 G r_1 G_2 := hpo
    obtain ⟨hB_G_2, hq_3, -⟩ := hpo
    refine lv_pop hx hb dL_law_411 rfl ?_
    refine lv_aload_n hx hb dL_law_412 rfl (lv_at hl 2 rfl) ?_
    refine ld_1 hL hi0 hi6 hx hb hX hbl hbA hS hl dL_law_413 dL_law_414 dL_law_415 dL_law_416 dL_law_417 hp0 ?_
    refine ld_2 hL hi0 hi6 hx hb hX hbl hbA hS hl dL_law_418 dL_law_419 dL_law_420 dL_law_421 dL_law_422 hp1 ?_
    refine ld_3 hL hi0 hi6 hx hb hX hbl hbA hS hl dL_law_423 dL_law_424 dL_law_425 dL_law_426 dL_law_427 hp2 ?_
    have fr_6 : Fr [37, 38, 39] [(6, 3)] G G_2 := (Fr.call9 (rs := [37, 38, 39]) (fs := [(6, 3)]) Fr.rf hq_3 rfl rfl)
    have g_7 : gP G_2 = gP G := gP_fr fr_6 (gr_q rfl) (gf_q rfl)
    refine S_calli (va_runV (As := [.int p0, .int p1, .int p2]) (rest := []) ⟨hx, hb, hml, hown, hts⟩ (n_line l D k A a z G_2 p0 p1 p2 (by omega)) (cwV 3 hts (gd_V hgd m1795 m1796 m1797 m131 m1798) rfl rfl rfl hd_X12_line ⟨Nat.le_of_ble_eq_true rfl, Nat.le_of_ble_eq_true rfl⟩) (pre_W hW hB_G_2 hK hZ hS kd_66 rfl) rfl rfl hl.1 rfl (lv_room (Nat.le_of_ble_eq_true rfl)) dL_law_428 ⟨Nat.le_of_ble_eq_true rfl, Nat.le_of_ble_eq_true rfl⟩) hS (fun r_8 G_9 H locs hpo hW hS => ?_)
    have hX_12 : Q_line p0 p1 p2 G_2 r_8 G_9 := hpo
    obtain ⟨hB_G_9, hq_10, -⟩ := hpo
    obtain ⟨u_13, u_14⟩ := L_line_1 hX_5 hX_12 rfl rfl rfl (by omega)
    refine lv_pop hx hb dL_law_431 rfl ?_
    refine lv_goto (tgt := 1641) hx hb dL_law_432 rfl ?_
    exact K G_9 _ _ _ (Or.inl (LI_of_1 (LIn_fr_1 (LIn_fr_1 (show LIn_1 G from ⟨hv_0_0, hv_0_1, hv_6_4, hj0, hj1, hj2, hj3, hj4, hj5, hj6, hj7, hj8, hj9, hj10, hj11⟩) hq_3 (by decide +kernel)) hq_10 (by decide +kernel)) (by omega))) hB_G_9 hW hS (lv_sub hl [0, 1, 2, 3] rfl)
  · skip
    obtain ⟨p0, hp0⟩ : ∃ y, y = xs (i0 + 1).toNatClampNeg := ⟨_, rfl⟩
    obtain ⟨p1, hp1⟩ : ∃ y, y = xs (i0 + 2).toNatClampNeg := ⟨_, rfl⟩
    obtain ⟨p2, hp2⟩ : ∃ y, y = xs (i0 + 3).toNatClampNeg := ⟨_, rfl⟩
    obtain ⟨p3, hp3⟩ : ∃ y, y = xs (i0 + 4).toNatClampNeg := ⟨_, rfl⟩
    obtain ⟨p4, hp4⟩ : ∃ y, y = xs (i0 + 5).toNatClampNeg := ⟨_, rfl⟩
    refine lv_aload_n hx hb dL_law_392 rfl (lv_at hl 1 rfl) ?_
    refine ld_1 hL hi0 hi6 hx hb hX hbl hbA hS hl dL_law_393 dL_law_394 dL_law_395 dL_law_396 dL_law_397 hp0 ?_
    refine ld_2 hL hi0 hi6 hx hb hX hbl hbA hS hl dL_law_398 dL_law_399 dL_law_400 dL_law_401 dL_law_402 hp1 ?_
    refine ld_3 hL hi0 hi6 hx hb hX hbl hbA hS hl dL_law_403 dL_law_404 dL_law_405 dL_law_406 dL_law_407 hp2 ?_
    refine S_calli (va_runV (As := [.int p0, .int p1, .int p2]) (rest := []) ⟨hx, hb, hml, hown, hts⟩ (k_Wline_2 l D k A a z G p0 p1 p2 hv_0_0 hv_0_1 hv_6_4) (cwV 3 hts (gd_V hgd m903 m904 m905 m117 m906) rfl rfl rfl hd_X11_line ⟨Nat.le_of_ble_eq_true rfl, Nat.le_of_ble_eq_true rfl⟩) (pre_W hW hB_G hK hZ hS kd_0 rfl) rfl rfl hl.1 rfl (lv_room (Nat.le_of_ble_eq_true rfl)) dL_law_408 ⟨Nat.le_of_ble_eq_true rfl, Nat.le_of_ble_eq_true rfl⟩) hS (fun r_1 G_2 H locs hpo hW hS => ?_)
    have hX_5 : P_Wline_2 p0 p1 p2 G r_1 G_2 := hpo
    obtain ⟨hB_G_2, hq_3, -⟩ := hpo
    refine lv_pop hx hb dL_law_411 rfl ?_
    refine lv_aload_n hx hb dL_law_412 rfl (lv_at hl 2 rfl) ?_
    refine ld_1 hL hi0 hi6 hx hb hX hbl hbA hS hl dL_law_413 dL_law_414 dL_law_415 dL_law_416 dL_law_417 hp0 ?_
    refine ld_2 hL hi0 hi6 hx hb hX hbl hbA hS hl dL_law_418 dL_law_419 dL_law_420 dL_law_421 dL_law_422 hp1 ?_
    refine ld_3 hL hi0 hi6 hx hb hX hbl hbA hS hl dL_law_423 dL_law_424 dL_law_425 dL_law_426 dL_law_427 hp2 ?_
    have fr_6 : Fr [37, 38, 39] [(6, 3)] G G_2 := (Fr.call9 (rs := [37, 38, 39]) (fs := [(6, 3)]) Fr.rf hq_3 rfl rfl)
    have g_7 : gP G_2 = gP G := gP_fr fr_6 (gr_q rfl) (gf_q rfl)
    refine S_calli (va_runV (As := [.int p0, .int p1, .int p2]) (rest := []) ⟨hx, hb, hml, hown, hts⟩ (n_line l D k A a z G_2 p0 p1 p2 (by omega)) (cwV 3 hts (gd_V hgd m1795 m1796 m1797 m131 m1798) rfl rfl rfl hd_X12_line ⟨Nat.le_of_ble_eq_true rfl, Nat.le_of_ble_eq_true rfl⟩) (pre_W hW hB_G_2 hK hZ hS kd_66 rfl) rfl rfl hl.1 rfl (lv_room (Nat.le_of_ble_eq_true rfl)) dL_law_428 ⟨Nat.le_of_ble_eq_true rfl, Nat.le_of_ble_eq_true rfl⟩) hS (fun r_8 G_9 H locs hpo hW hS => ?_)
    have hX_12 : Q_line p0 p1 p2 G_2 r_8 G_9 := hpo
    obtain ⟨hB_G_9, hq_10, -⟩ := hpo
    obtain ⟨u_13, u_14⟩ := L_line_2 hX_5 hX_12 rfl rfl rfl (by omega)
    refine lv_pop hx hb dL_law_431 rfl ?_
    refine lv_goto (tgt := 1641) hx hb dL_law_432 rfl ?_
    exact K G_9 _ _ _ (Or.inr (LI_of_2 (LIn_fr_2 (LIn_fr_2 (show LIn_2 G from ⟨hv_0_0, hv_0_1, hv_6_4, hj0, hj1, hj2, hj3, hj4, hj5, hj6, hj7, hj8, hj9, hj10, hj11⟩) hq_3 (by decide +kernel)) hq_10 (by decide +kernel)) (by omega))) hB_G_9 hW hS (lv_sub hl [0, 1, 2, 3] rfl)

set_option maxHeartbeats 4000000 in
set_option maxRecDepth 100000 in
theorem law_7 {p : Program} {l : Launch} {e : Env} {s : State} {m : MethodId} {below : List Frame} {meth : Method} {c : Code} {D : va_G} {k : KT} {A : Nat → Prop} {a : Nat → Nat} {z : SK} {b L : Nat} {xs : Nat → Int32} (hL : L ≤ 3072) (C0 : lw_At p s m meth c b L xs) (hK : cK D k s) (hZ : Sx A z s) (hbA : ¬ A b) {G : GS} {i0 : Int32} (hi0 : 0 ≤ i0.toInt) (hi6 : i0.toInt + 6 ≤ L) (hI : LI G) (hB_G : Bd G) {H : Heap} {locs : List Loc} {ls : Array Slot} (hW : Wd D k A a G H) (hS : va_S A s.heap H locs) (hl : lv_has ls 4 [(0, .ref b), (1, .ref (a 0)), (2, .ref (a 66)), (3, .int i0)]) (K : ∀ (G1 : GS) (H1 : Heap) (locs1 : List Loc) (ls1 : Array Slot), LI G1 → Bd G1 → Wd D k A a G1 H1 → va_S A s.heap H1 locs1 → lv_has ls1 4 [(0, .ref b), (1, .ref (a 0)), (2, .ref (a 66)), (3, .int i0)] → W p l e room_1 s m #[Value.ref b] below meth c H1 locs1 119 46443 (lw_Z below #[Value.ref b] s) (F0 m 1641 ls1 [])) : W p l e room_1 s m #[Value.ref b] below meth c H locs 119 46443 (lw_Z below #[Value.ref b] s) (F0 m 435 ls []) := by
  obtain ⟨hx, hb, hr, hml, hown, hts, hX, hbl, hlocks, hgv⟩ := id C0
  have hown : s.vm.findClass RL = some m.cls := hown
  have hgd : ∀ w ∈ gd, w ∈ lw_tbl := fun w h => (List.mem_filter.mp h).1
  have hg : ∀ w ∈ gd, w.before #[Value.ref b] s = true := fun w h => hts w (hgd w h)
  rcases hI with ⟨hv_0_0, hv_0_1, hv_6_4, hj0, hj1, hj2, hj3, hj4, hj5, hj6, hj7, hj8, hj9, hj10, hj11, hj12⟩ | ⟨hv_0_0, hv_0_1, hv_6_4, hj0, hj1, hj2, hj3, hj4, hj5, hj6, hj7, hj8, hj9, hj10, hj11, hj12⟩
  · skip
    obtain ⟨p0, hp0⟩ : ∃ y, y = xs (i0 + 1).toNatClampNeg := ⟨_, rfl⟩
    obtain ⟨p1, hp1⟩ : ∃ y, y = xs (i0 + 2).toNatClampNeg := ⟨_, rfl⟩
    obtain ⟨p2, hp2⟩ : ∃ y, y = xs (i0 + 3).toNatClampNeg := ⟨_, rfl⟩
    obtain ⟨p3, hp3⟩ : ∃ y, y = xs (i0 + 4).toNatClampNeg := ⟨_, rfl⟩
    obtain ⟨p4, hp4⟩ : ∃ y, y = xs (i0 + 5).toNatClampNeg := ⟨_, rfl⟩
    refine lv_aload_n hx hb dL_law_435 rfl (lv_at hl 1 rfl) ?_
    refine ld_1 hL hi0 hi6 hx hb hX hbl hbA hS hl dL_law_436 dL_law_437 dL_law_438 dL_law_439 dL_law_440 hp0 ?_
    refine ld_2 hL hi0 hi6 hx hb hX hbl hbA hS hl dL_law_441 dL_law_442 dL_law_443 dL_law_444 dL_law_445 hp1 ?_
    refine ld_3 hL hi0 hi6 hx hb hX hbl hbA hS hl dL_law_446 dL_law_447 dL_law_448 dL_law_449 dL_law_450 hp2 ?_
    refine S_calli (va_runV (As := [.int p0, .int p1, .int p2]) (rest := []) ⟨hx, hb, hml, hown, hts⟩ (k_Wgap_1 l D k A a z G p0 p1 p2 hv_0_0 hv_0_1 hv_6_4) (cwV 3 hts (gd_V hgd m945 m946 m947 m117 m948) rfl rfl rfl hd_X11_gap ⟨Nat.le_of_ble_eq_true rfl, Nat.le_of_ble_eq_true rfl⟩) (pre_W hW hB_G hK hZ hS kd_0 rfl) rfl rfl hl.1 rfl (lv_room (Nat.le_of_ble_eq_true rfl)) dL_law_451 ⟨Nat.le_of_ble_eq_true rfl, Nat.le_of_ble_eq_true rfl⟩) hS (fun r_1 G_2 H locs hpo hW hS => ?_)
    have hX_5 : P_Wgap_1 p0 p1 p2 G r_1 G_2 := hpo
    obtain ⟨hB_G_2, hq_3, -⟩ := hpo
    refine lv_pop hx hb dL_law_454 rfl ?_
    refine lv_aload_n hx hb dL_law_455 rfl (lv_at hl 2 rfl) ?_
    refine ld_1 hL hi0 hi6 hx hb hX hbl hbA hS hl dL_law_456 dL_law_457 dL_law_458 dL_law_459 dL_law_460 hp0 ?_
    refine ld_2 hL hi0 hi6 hx hb hX hbl hbA hS hl dL_law_461 dL_law_462 dL_law_463 dL_law_464 dL_law_465 hp1 ?_
    refine ld_3 hL hi0 hi6 hx hb hX hbl hbA hS hl dL_law_466 dL_law_467 dL_law_468 dL_law_469 dL_law_470 hp2 ?_
    have fr_6 : Fr [37, 38, 39] [(6, 3)] G G_2 := (Fr.call9 (rs := [37, 38, 39]) (fs := [(6, 3)]) Fr.rf hq_3 rfl rfl)
    have g_7 : gP G_2 = gP G := gP_fr fr_6 (gr_q rfl) (gf_q rfl)
    refine S_calli (va_runV (As := [.int p0, .int p1, .int p2]) (rest := []) ⟨hx, hb, hml, hown, hts⟩ (n_gap l D k A a z G_2 p0 p1 p2 (by omega)) (cwV 3 hts (gd_V hgd m1818 m1819 m1820 m131 m1821) rfl rfl rfl hd_X12_gap ⟨Nat.le_of_ble_eq_true rfl, Nat.le_of_ble_eq_true rfl⟩) (pre_W hW hB_G_2 hK hZ hS kd_66 rfl) rfl rfl hl.1 rfl (lv_room (Nat.le_of_ble_eq_true rfl)) dL_law_471 ⟨Nat.le_of_ble_eq_true rfl, Nat.le_of_ble_eq_true rfl⟩) hS (fun r_8 G_9 H locs hpo hW hS => ?_)
    have hX_12 : Q_gap p0 p1 p2 G_2 r_8 G_9 := hpo
    obtain ⟨hB_G_9, hq_10, -⟩ := hpo
    obtain ⟨u_13, u_14⟩ := L_gap_1 hX_5 hX_12 rfl rfl rfl (by omega)
    refine lv_pop hx hb dL_law_474 rfl ?_
    refine lv_goto (tgt := 1641) hx hb dL_law_475 rfl ?_
    exact K G_9 _ _ _ (Or.inl (LI_of_1 (LIn_fr_1 (LIn_fr_1 (show LIn_1 G from ⟨hv_0_0, hv_0_1, hv_6_4, hj0, hj1, hj2, hj3, hj4, hj5, hj6, hj7, hj8, hj9, hj10, hj11⟩) hq_3 (by decide +kernel)) hq_10 (by decide +kernel)) (by omega))) hB_G_9 hW hS (lv_sub hl [0, 1, 2, 3] rfl)
  · skip
    obtain ⟨p0, hp0⟩ : ∃ y, y = xs (i0 + 1).toNatClampNeg := ⟨_, rfl⟩
    obtain ⟨p1, hp1⟩ : ∃ y, y = xs (i0 + 2).toNatClampNeg := ⟨_, rfl⟩
    obtain ⟨p2, hp2⟩ : ∃ y, y = xs (i0 + 3).toNatClampNeg := ⟨_, rfl⟩
    obtain ⟨p3, hp3⟩ : ∃ y, y = xs (i0 + 4).toNatClampNeg := ⟨_, rfl⟩
    obtain ⟨p4, hp4⟩ : ∃ y, y = xs (i0 + 5).toNatClampNeg := ⟨_, rfl⟩
    refine lv_aload_n hx hb dL_law_435 rfl (lv_at hl 1 rfl) ?_
    refine ld_1 hL hi0 hi6 hx hb hX hbl hbA hS hl dL_law_436 dL_law_437 dL_law_438 dL_law_439 dL_law_440 hp0 ?_
    refine ld_2 hL hi0 hi6 hx hb hX hbl hbA hS hl dL_law_441 dL_law_442 dL_law_443 dL_law_444 dL_law_445 hp1 ?_
    refine ld_3 hL hi0 hi6 hx hb hX hbl hbA hS hl dL_law_446 dL_law_447 dL_law_448 dL_law_449 dL_law_450 hp2 ?_
    refine S_calli (va_runV (As := [.int p0, .int p1, .int p2]) (rest := []) ⟨hx, hb, hml, hown, hts⟩ (k_Wgap_2 l D k A a z G p0 p1 p2 hv_0_0 hv_0_1 hv_6_4) (cwV 3 hts (gd_V hgd m945 m946 m947 m117 m948) rfl rfl rfl hd_X11_gap ⟨Nat.le_of_ble_eq_true rfl, Nat.le_of_ble_eq_true rfl⟩) (pre_W hW hB_G hK hZ hS kd_0 rfl) rfl rfl hl.1 rfl (lv_room (Nat.le_of_ble_eq_true rfl)) dL_law_451 ⟨Nat.le_of_ble_eq_true rfl, Nat.le_of_ble_eq_true rfl⟩) hS (fun r_1 G_2 H locs hpo hW hS => ?_)
    have hX_5 : P_Wgap_2 p0 p1 p2 G r_1 G_2 := hpo
    obtain ⟨hB_G_2, hq_3, -⟩ := hpo
    refine lv_pop hx hb dL_law_454 rfl ?_
    refine lv_aload_n hx hb dL_law_455 rfl (lv_at hl 2 rfl) ?_
    refine ld_1 hL hi0 hi6 hx hb hX hbl hbA hS hl dL_law_456 dL_law_457 dL_law_458 dL_law_459 dL_law_460 hp0 ?_
    refine ld_2 hL hi0 hi6 hx hb hX hbl hbA hS hl dL_law_461 dL_law_462 dL_law_463 dL_law_464 dL_law_465 hp1 ?_
    refine ld_3 hL hi0 hi6 hx hb hX hbl hbA hS hl dL_law_466 dL_law_467 dL_law_468 dL_law_469 dL_law_470 hp2 ?_
    have fr_6 : Fr [37, 38, 39] [(6, 3)] G G_2 := (Fr.call9 (rs := [37, 38, 39]) (fs := [(6, 3)]) Fr.rf hq_3 rfl rfl)
    have g_7 : gP G_2 = gP G := gP_fr fr_6 (gr_q rfl) (gf_q rfl)
    refine S_calli (va_runV (As := [.int p0, .int p1, .int p2]) (rest := []) ⟨hx, hb, hml, hown, hts⟩ (n_gap l D k A a z G_2 p0 p1 p2 (by omega)) (cwV 3 hts (gd_V hgd m1818 m1819 m1820 m131 m1821) rfl rfl rfl hd_X12_gap ⟨Nat.le_of_ble_eq_true rfl, Nat.le_of_ble_eq_true rfl⟩) (pre_W hW hB_G_2 hK hZ hS kd_66 rfl) rfl rfl hl.1 rfl (lv_room (Nat.le_of_ble_eq_true rfl)) dL_law_471 ⟨Nat.le_of_ble_eq_true rfl, Nat.le_of_ble_eq_true rfl⟩) hS (fun r_8 G_9 H locs hpo hW hS => ?_)
    have hX_12 : Q_gap p0 p1 p2 G_2 r_8 G_9 := hpo
    obtain ⟨hB_G_9, hq_10, -⟩ := hpo
    obtain ⟨u_13, u_14⟩ := L_gap_2 hX_5 hX_12 rfl rfl rfl (by omega)
    refine lv_pop hx hb dL_law_474 rfl ?_
    refine lv_goto (tgt := 1641) hx hb dL_law_475 rfl ?_
    exact K G_9 _ _ _ (Or.inr (LI_of_2 (LIn_fr_2 (LIn_fr_2 (show LIn_2 G from ⟨hv_0_0, hv_0_1, hv_6_4, hj0, hj1, hj2, hj3, hj4, hj5, hj6, hj7, hj8, hj9, hj10, hj11⟩) hq_3 (by decide +kernel)) hq_10 (by decide +kernel)) (by omega))) hB_G_9 hW hS (lv_sub hl [0, 1, 2, 3] rfl)

set_option maxHeartbeats 4000000 in
set_option maxRecDepth 100000 in
theorem law_8 {p : Program} {l : Launch} {e : Env} {s : State} {m : MethodId} {below : List Frame} {meth : Method} {c : Code} {D : va_G} {k : KT} {A : Nat → Prop} {a : Nat → Nat} {z : SK} {b L : Nat} {xs : Nat → Int32} (hL : L ≤ 3072) (C0 : lw_At p s m meth c b L xs) (hK : cK D k s) (hZ : Sx A z s) (hbA : ¬ A b) {G : GS} {i0 : Int32} (hi0 : 0 ≤ i0.toInt) (hi6 : i0.toInt + 6 ≤ L) (hI : LI G) (hB_G : Bd G) {H : Heap} {locs : List Loc} {ls : Array Slot} (hW : Wd D k A a G H) (hS : va_S A s.heap H locs) (hl : lv_has ls 4 [(0, .ref b), (1, .ref (a 0)), (2, .ref (a 66)), (3, .int i0)]) (K : ∀ (G1 : GS) (H1 : Heap) (locs1 : List Loc) (ls1 : Array Slot), LI G1 → Bd G1 → Wd D k A a G1 H1 → va_S A s.heap H1 locs1 → lv_has ls1 4 [(0, .ref b), (1, .ref (a 0)), (2, .ref (a 66)), (3, .int i0)] → W p l e room_1 s m #[Value.ref b] below meth c H1 locs1 119 46443 (lw_Z below #[Value.ref b] s) (F0 m 1641 ls1 [])) : W p l e room_1 s m #[Value.ref b] below meth c H locs 119 46443 (lw_Z below #[Value.ref b] s) (F0 m 478 ls []) := by
  obtain ⟨hx, hb, hr, hml, hown, hts, hX, hbl, hlocks, hgv⟩ := id C0
  have hown : s.vm.findClass RL = some m.cls := hown
  have hgd : ∀ w ∈ gd, w ∈ lw_tbl := fun w h => (List.mem_filter.mp h).1
  have hg : ∀ w ∈ gd, w.before #[Value.ref b] s = true := fun w h => hts w (hgd w h)
  rcases hI with ⟨hv_0_0, hv_0_1, hv_6_4, hj0, hj1, hj2, hj3, hj4, hj5, hj6, hj7, hj8, hj9, hj10, hj11, hj12⟩ | ⟨hv_0_0, hv_0_1, hv_6_4, hj0, hj1, hj2, hj3, hj4, hj5, hj6, hj7, hj8, hj9, hj10, hj11, hj12⟩
  · skip
    obtain ⟨p0, hp0⟩ : ∃ y, y = xs (i0 + 1).toNatClampNeg := ⟨_, rfl⟩
    obtain ⟨p1, hp1⟩ : ∃ y, y = xs (i0 + 2).toNatClampNeg := ⟨_, rfl⟩
    obtain ⟨p2, hp2⟩ : ∃ y, y = xs (i0 + 3).toNatClampNeg := ⟨_, rfl⟩
    obtain ⟨p3, hp3⟩ : ∃ y, y = xs (i0 + 4).toNatClampNeg := ⟨_, rfl⟩
    obtain ⟨p4, hp4⟩ : ∃ y, y = xs (i0 + 5).toNatClampNeg := ⟨_, rfl⟩
    refine lv_aload_n hx hb dL_law_478 rfl (lv_at hl 1 rfl) ?_
    refine ld_1 hL hi0 hi6 hx hb hX hbl hbA hS hl dL_law_479 dL_law_480 dL_law_481 dL_law_482 dL_law_483 hp0 ?_
    refine ld_2 hL hi0 hi6 hx hb hX hbl hbA hS hl dL_law_484 dL_law_485 dL_law_486 dL_law_487 dL_law_488 hp1 ?_
    refine ld_3 hL hi0 hi6 hx hb hX hbl hbA hS hl dL_law_489 dL_law_490 dL_law_491 dL_law_492 dL_law_493 hp2 ?_
    refine ld_4 hL hi0 hi6 hx hb hX hbl hbA hS hl dL_law_494 dL_law_495 dL_law_496 dL_law_497 dL_law_498 hp3 ?_
    refine S_calli (va_runV (As := [.int p0, .int p1, .int p2, .int p3]) (rest := []) ⟨hx, hb, hml, hown, hts⟩ (k_Wfoot_1 l D k A a z G p0 p1 p2 p3 hv_0_0 hv_0_1 hv_6_4) (cwV 4 hts (gd_V hgd m949 m950 m951 m117 m952) rfl rfl rfl hd_X11_foot ⟨Nat.le_of_ble_eq_true rfl, Nat.le_of_ble_eq_true rfl⟩) (pre_W hW hB_G hK hZ hS kd_0 rfl) rfl rfl hl.1 rfl (lv_room (Nat.le_of_ble_eq_true rfl)) dL_law_499 ⟨Nat.le_of_ble_eq_true rfl, Nat.le_of_ble_eq_true rfl⟩) hS (fun r_1 G_2 H locs hpo hW hS => ?_)
    have hX_5 : P_Wfoot_1 p0 p1 p2 p3 G r_1 G_2 := hpo
    obtain ⟨hB_G_2, hq_3, -⟩ := hpo
    refine lv_pop hx hb dL_law_502 rfl ?_
    refine lv_aload_n hx hb dL_law_503 rfl (lv_at hl 2 rfl) ?_
    refine ld_1 hL hi0 hi6 hx hb hX hbl hbA hS hl dL_law_504 dL_law_505 dL_law_506 dL_law_507 dL_law_508 hp0 ?_
    refine ld_2 hL hi0 hi6 hx hb hX hbl hbA hS hl dL_law_509 dL_law_510 dL_law_511 dL_law_512 dL_law_513 hp1 ?_
    refine ld_3 hL hi0 hi6 hx hb hX hbl hbA hS hl dL_law_514 dL_law_515 dL_law_516 dL_law_517 dL_law_518 hp2 ?_
    refine ld_4 hL hi0 hi6 hx hb hX hbl hbA hS hl dL_law_519 dL_law_520 dL_law_521 dL_law_522 dL_law_523 hp3 ?_
    have fr_6 : Fr [37, 38, 39] [(6, 3)] G G_2 := (Fr.call9 (rs := [37, 38, 39]) (fs := [(6, 3)]) Fr.rf hq_3 rfl rfl)
    have g_7 : gP G_2 = gP G := gP_fr fr_6 (gr_q rfl) (gf_q rfl)
    refine S_calli (va_runV (As := [.int p0, .int p1, .int p2, .int p3]) (rest := []) ⟨hx, hb, hml, hown, hts⟩ (n_foot l D k A a z G_2 p0 p1 p2 p3 (by omega)) (cwV 4 hts (gd_V hgd m1822 m1823 m1824 m131 m1825) rfl rfl rfl hd_X12_foot ⟨Nat.le_of_ble_eq_true rfl, Nat.le_of_ble_eq_true rfl⟩) (pre_W hW hB_G_2 hK hZ hS kd_66 rfl) rfl rfl hl.1 rfl (lv_room (Nat.le_of_ble_eq_true rfl)) dL_law_524 ⟨Nat.le_of_ble_eq_true rfl, Nat.le_of_ble_eq_true rfl⟩) hS (fun r_8 G_9 H locs hpo hW hS => ?_)
    have hX_12 : Q_foot p0 p1 p2 p3 G_2 r_8 G_9 := hpo
    obtain ⟨hB_G_9, hq_10, -⟩ := hpo
    obtain ⟨u_13, u_14⟩ := L_foot_1 hX_5 hX_12 rfl rfl rfl rfl (by omega)
    refine lv_pop hx hb dL_law_527 rfl ?_
    refine lv_goto (tgt := 1641) hx hb dL_law_528 rfl ?_
    exact K G_9 _ _ _ (Or.inl (LI_of_1 (LIn_fr_1 (LIn_fr_1 (show LIn_1 G from ⟨hv_0_0, hv_0_1, hv_6_4, hj0, hj1, hj2, hj3, hj4, hj5, hj6, hj7, hj8, hj9, hj10, hj11⟩) hq_3 (by decide +kernel)) hq_10 (by decide +kernel)) (by omega))) hB_G_9 hW hS (lv_sub hl [0, 1, 2, 3] rfl)
  · skip
    obtain ⟨p0, hp0⟩ : ∃ y, y = xs (i0 + 1).toNatClampNeg := ⟨_, rfl⟩
    obtain ⟨p1, hp1⟩ : ∃ y, y = xs (i0 + 2).toNatClampNeg := ⟨_, rfl⟩
    obtain ⟨p2, hp2⟩ : ∃ y, y = xs (i0 + 3).toNatClampNeg := ⟨_, rfl⟩
    obtain ⟨p3, hp3⟩ : ∃ y, y = xs (i0 + 4).toNatClampNeg := ⟨_, rfl⟩
    obtain ⟨p4, hp4⟩ : ∃ y, y = xs (i0 + 5).toNatClampNeg := ⟨_, rfl⟩
    refine lv_aload_n hx hb dL_law_478 rfl (lv_at hl 1 rfl) ?_
    refine ld_1 hL hi0 hi6 hx hb hX hbl hbA hS hl dL_law_479 dL_law_480 dL_law_481 dL_law_482 dL_law_483 hp0 ?_
    refine ld_2 hL hi0 hi6 hx hb hX hbl hbA hS hl dL_law_484 dL_law_485 dL_law_486 dL_law_487 dL_law_488 hp1 ?_
    refine ld_3 hL hi0 hi6 hx hb hX hbl hbA hS hl dL_law_489 dL_law_490 dL_law_491 dL_law_492 dL_law_493 hp2 ?_
    refine ld_4 hL hi0 hi6 hx hb hX hbl hbA hS hl dL_law_494 dL_law_495 dL_law_496 dL_law_497 dL_law_498 hp3 ?_
    refine S_calli (va_runV (As := [.int p0, .int p1, .int p2, .int p3]) (rest := []) ⟨hx, hb, hml, hown, hts⟩ (k_Wfoot_2 l D k A a z G p0 p1 p2 p3 hv_0_0 hv_0_1 hv_6_4) (cwV 4 hts (gd_V hgd m949 m950 m951 m117 m952) rfl rfl rfl hd_X11_foot ⟨Nat.le_of_ble_eq_true rfl, Nat.le_of_ble_eq_true rfl⟩) (pre_W hW hB_G hK hZ hS kd_0 rfl) rfl rfl hl.1 rfl (lv_room (Nat.le_of_ble_eq_true rfl)) dL_law_499 ⟨Nat.le_of_ble_eq_true rfl, Nat.le_of_ble_eq_true rfl⟩) hS (fun r_1 G_2 H locs hpo hW hS => ?_)
    have hX_5 : P_Wfoot_2 p0 p1 p2 p3 G r_1 G_2 := hpo
    obtain ⟨hB_G_2, hq_3, -⟩ := hpo
    refine lv_pop hx hb dL_law_502 rfl ?_
    refine lv_aload_n hx hb dL_law_503 rfl (lv_at hl 2 rfl) ?_
    refine ld_1 hL hi0 hi6 hx hb hX hbl hbA hS hl dL_law_504 dL_law_505 dL_law_506 dL_law_507 dL_law_508 hp0 ?_
    refine ld_2 hL hi0 hi6 hx hb hX hbl hbA hS hl dL_law_509 dL_law_510 dL_law_511 dL_law_512 dL_law_513 hp1 ?_
    refine ld_3 hL hi0 hi6 hx hb hX hbl hbA hS hl dL_law_514 dL_law_515 dL_law_516 dL_law_517 dL_law_518 hp2 ?_
    refine ld_4 hL hi0 hi6 hx hb hX hbl hbA hS hl dL_law_519 dL_law_520 dL_law_521 dL_law_522 dL_law_523 hp3 ?_
    have fr_6 : Fr [37, 38, 39] [(6, 3)] G G_2 := (Fr.call9 (rs := [37, 38, 39]) (fs := [(6, 3)]) Fr.rf hq_3 rfl rfl)
    have g_7 : gP G_2 = gP G := gP_fr fr_6 (gr_q rfl) (gf_q rfl)
    refine S_calli (va_runV (As := [.int p0, .int p1, .int p2, .int p3]) (rest := []) ⟨hx, hb, hml, hown, hts⟩ (n_foot l D k A a z G_2 p0 p1 p2 p3 (by omega)) (cwV 4 hts (gd_V hgd m1822 m1823 m1824 m131 m1825) rfl rfl rfl hd_X12_foot ⟨Nat.le_of_ble_eq_true rfl, Nat.le_of_ble_eq_true rfl⟩) (pre_W hW hB_G_2 hK hZ hS kd_66 rfl) rfl rfl hl.1 rfl (lv_room (Nat.le_of_ble_eq_true rfl)) dL_law_524 ⟨Nat.le_of_ble_eq_true rfl, Nat.le_of_ble_eq_true rfl⟩) hS (fun r_8 G_9 H locs hpo hW hS => ?_)
    have hX_12 : Q_foot p0 p1 p2 p3 G_2 r_8 G_9 := hpo
    obtain ⟨hB_G_9, hq_10, -⟩ := hpo
    obtain ⟨u_13, u_14⟩ := L_foot_2 hX_5 hX_12 rfl rfl rfl rfl (by omega)
    refine lv_pop hx hb dL_law_527 rfl ?_
    refine lv_goto (tgt := 1641) hx hb dL_law_528 rfl ?_
    exact K G_9 _ _ _ (Or.inr (LI_of_2 (LIn_fr_2 (LIn_fr_2 (show LIn_2 G from ⟨hv_0_0, hv_0_1, hv_6_4, hj0, hj1, hj2, hj3, hj4, hj5, hj6, hj7, hj8, hj9, hj10, hj11⟩) hq_3 (by decide +kernel)) hq_10 (by decide +kernel)) (by omega))) hB_G_9 hW hS (lv_sub hl [0, 1, 2, 3] rfl)

set_option maxHeartbeats 4000000 in
set_option maxRecDepth 100000 in
theorem law_9 {p : Program} {l : Launch} {e : Env} {s : State} {m : MethodId} {below : List Frame} {meth : Method} {c : Code} {D : va_G} {k : KT} {A : Nat → Prop} {a : Nat → Nat} {z : SK} {b L : Nat} {xs : Nat → Int32} (hL : L ≤ 3072) (C0 : lw_At p s m meth c b L xs) (hK : cK D k s) (hZ : Sx A z s) (hbA : ¬ A b) {G : GS} {i0 : Int32} (hi0 : 0 ≤ i0.toInt) (hi6 : i0.toInt + 6 ≤ L) (hI : LI G) (hB_G : Bd G) {H : Heap} {locs : List Loc} {ls : Array Slot} (hW : Wd D k A a G H) (hS : va_S A s.heap H locs) (hl : lv_has ls 4 [(0, .ref b), (1, .ref (a 0)), (2, .ref (a 66)), (3, .int i0)]) (K : ∀ (G1 : GS) (H1 : Heap) (locs1 : List Loc) (ls1 : Array Slot), LI G1 → Bd G1 → Wd D k A a G1 H1 → va_S A s.heap H1 locs1 → lv_has ls1 4 [(0, .ref b), (1, .ref (a 0)), (2, .ref (a 66)), (3, .int i0)] → W p l e room_1 s m #[Value.ref b] below meth c H1 locs1 119 46443 (lw_Z below #[Value.ref b] s) (F0 m 1641 ls1 [])) : W p l e room_1 s m #[Value.ref b] below meth c H locs 119 46443 (lw_Z below #[Value.ref b] s) (F0 m 531 ls []) := by
  obtain ⟨hx, hb, hr, hml, hown, hts, hX, hbl, hlocks, hgv⟩ := id C0
  have hown : s.vm.findClass RL = some m.cls := hown
  have hgd : ∀ w ∈ gd, w ∈ lw_tbl := fun w h => (List.mem_filter.mp h).1
  have hg : ∀ w ∈ gd, w.before #[Value.ref b] s = true := fun w h => hts w (hgd w h)
  rcases hI with ⟨hv_0_0, hv_0_1, hv_6_4, hj0, hj1, hj2, hj3, hj4, hj5, hj6, hj7, hj8, hj9, hj10, hj11, hj12⟩ | ⟨hv_0_0, hv_0_1, hv_6_4, hj0, hj1, hj2, hj3, hj4, hj5, hj6, hj7, hj8, hj9, hj10, hj11, hj12⟩
  · skip
    obtain ⟨p0, hp0⟩ : ∃ y, y = xs (i0 + 1).toNatClampNeg := ⟨_, rfl⟩
    obtain ⟨p1, hp1⟩ : ∃ y, y = xs (i0 + 2).toNatClampNeg := ⟨_, rfl⟩
    obtain ⟨p2, hp2⟩ : ∃ y, y = xs (i0 + 3).toNatClampNeg := ⟨_, rfl⟩
    obtain ⟨p3, hp3⟩ : ∃ y, y = xs (i0 + 4).toNatClampNeg := ⟨_, rfl⟩
    obtain ⟨p4, hp4⟩ : ∃ y, y = xs (i0 + 5).toNatClampNeg := ⟨_, rfl⟩
    refine lv_aload_n hx hb dL_law_531 rfl (lv_at hl 1 rfl) ?_
    refine ld_1 hL hi0 hi6 hx hb hX hbl hbA hS hl dL_law_532 dL_law_533 dL_law_534 dL_law_535 dL_law_536 hp0 ?_
    refine ld_2 hL hi0 hi6 hx hb hX hbl hbA hS hl dL_law_537 dL_law_538 dL_law_539 dL_law_540 dL_law_541 hp1 ?_
    refine ld_3 hL hi0 hi6 hx hb hX hbl hbA hS hl dL_law_542 dL_law_543 dL_law_544 dL_law_545 dL_law_546 hp2 ?_
    refine ld_4 hL hi0 hi6 hx hb hX hbl hbA hS hl dL_law_547 dL_law_548 dL_law_549 dL_law_550 dL_law_551 hp3 ?_
    refine S_calli (va_runV (As := [.int p0, .int p1, .int p2, .int p3]) (rest := []) ⟨hx, hb, hml, hown, hts⟩ (k_Wfewest_1 l D k A a z G p0 p1 p2 p3 hv_0_0 hv_0_1 hv_6_4) (cwV 4 hts (gd_V hgd m971 m972 m973 m117 m974) rfl rfl rfl hd_X11_fewest ⟨Nat.le_of_ble_eq_true rfl, Nat.le_of_ble_eq_true rfl⟩) (pre_W hW hB_G hK hZ hS kd_0 rfl) rfl rfl hl.1 rfl (lv_room (Nat.le_of_ble_eq_true rfl)) dL_law_552 ⟨Nat.le_of_ble_eq_true rfl, Nat.le_of_ble_eq_true rfl⟩) hS (fun r_1 G_2 H locs hpo hW hS => ?_)
    have hX_5 : P_Wfewest_1 p0 p1 p2 p3 G r_1 G_2 := hpo
    obtain ⟨hB_G_2, hq_3, -⟩ := hpo
    refine lv_pop hx hb dL_law_555 rfl ?_
    refine lv_aload_n hx hb dL_law_556 rfl (lv_at hl 2 rfl) ?_
    refine ld_1 hL hi0 hi6 hx hb hX hbl hbA hS hl dL_law_557 dL_law_558 dL_law_559 dL_law_560 dL_law_561 hp0 ?_
    refine ld_2 hL hi0 hi6 hx hb hX hbl hbA hS hl dL_law_562 dL_law_563 dL_law_564 dL_law_565 dL_law_566 hp1 ?_
    refine ld_3 hL hi0 hi6 hx hb hX hbl hbA hS hl dL_law_567 dL_law_568 dL_law_569 dL_law_570 dL_law_571 hp2 ?_
    refine ld_4 hL hi0 hi6 hx hb hX hbl hbA hS hl dL_law_572 dL_law_573 dL_law_574 dL_law_575 dL_law_576 hp3 ?_
    have fr_6 : Fr [33, 37, 38, 39, 40, 42, 43, 44, 45] [(0, 12), (6, 3), (7, 1), (7, 2), (7, 3), (7, 4), (7, 5), (7, 6), (7, 7)] G G_2 := (Fr.call9 (rs := [33, 37, 38, 39, 40, 42, 43, 44, 45]) (fs := [(0, 12), (6, 3), (7, 1), (7, 2), (7, 3), (7, 4), (7, 5), (7, 6), (7, 7)]) Fr.rf hq_3 rfl rfl)
    have g_7 : gP G_2 = gP G := gP_fr fr_6 (gr_q rfl) (gf_q rfl)
    have g_8 : gW G_2 = gW G := gW_fr fr_6 (gr_q rfl) (gf_q rfl)
    refine S_calli (va_runV (As := [.int p0, .int p1, .int p2, .int p3]) (rest := []) ⟨hx, hb, hml, hown, hts⟩ (n_fewest l D k A a z G_2 p0 p1 p2 p3 (by omega) (by omega)) (cwV 4 hts (gd_V hgd m1842 m1843 m1844 m131 m1845) rfl rfl rfl hd_X12_fewest ⟨Nat.le_of_ble_eq_true rfl, Nat.le_of_ble_eq_true rfl⟩) (pre_W hW hB_G_2 hK hZ hS kd_66 rfl) rfl rfl hl.1 rfl (lv_room (Nat.le_of_ble_eq_true rfl)) dL_law_577 ⟨Nat.le_of_ble_eq_true rfl, Nat.le_of_ble_eq_true rfl⟩) hS (fun r_9 G_10 H locs hpo hW hS => ?_)
    have hX_13 : Q_fewest p0 p1 p2 p3 G_2 r_9 G_10 := hpo
    obtain ⟨hB_G_10, hq_11, -⟩ := hpo
    have u_14 := L_fewest_1 hX_5 hX_13 rfl rfl rfl rfl (by omega)
    refine lv_pop hx hb dL_law_580 rfl ?_
    refine lv_goto (tgt := 1641) hx hb dL_law_581 rfl ?_
    exact K G_10 _ _ _ (Or.inl (LI_of_1 (LIn_fr_1 (LIn_fr_1 (show LIn_1 G from ⟨hv_0_0, hv_0_1, hv_6_4, hj0, hj1, hj2, hj3, hj4, hj5, hj6, hj7, hj8, hj9, hj10, hj11⟩) hq_3 (by decide +kernel)) hq_11 (by decide +kernel)) (by omega))) hB_G_10 hW hS (lv_sub hl [0, 1, 2, 3] rfl)
  · skip
    obtain ⟨p0, hp0⟩ : ∃ y, y = xs (i0 + 1).toNatClampNeg := ⟨_, rfl⟩
    obtain ⟨p1, hp1⟩ : ∃ y, y = xs (i0 + 2).toNatClampNeg := ⟨_, rfl⟩
    obtain ⟨p2, hp2⟩ : ∃ y, y = xs (i0 + 3).toNatClampNeg := ⟨_, rfl⟩
    obtain ⟨p3, hp3⟩ : ∃ y, y = xs (i0 + 4).toNatClampNeg := ⟨_, rfl⟩
    obtain ⟨p4, hp4⟩ : ∃ y, y = xs (i0 + 5).toNatClampNeg := ⟨_, rfl⟩
    refine lv_aload_n hx hb dL_law_531 rfl (lv_at hl 1 rfl) ?_
    refine ld_1 hL hi0 hi6 hx hb hX hbl hbA hS hl dL_law_532 dL_law_533 dL_law_534 dL_law_535 dL_law_536 hp0 ?_
    refine ld_2 hL hi0 hi6 hx hb hX hbl hbA hS hl dL_law_537 dL_law_538 dL_law_539 dL_law_540 dL_law_541 hp1 ?_
    refine ld_3 hL hi0 hi6 hx hb hX hbl hbA hS hl dL_law_542 dL_law_543 dL_law_544 dL_law_545 dL_law_546 hp2 ?_
    refine ld_4 hL hi0 hi6 hx hb hX hbl hbA hS hl dL_law_547 dL_law_548 dL_law_549 dL_law_550 dL_law_551 hp3 ?_
    refine S_calli (va_runV (As := [.int p0, .int p1, .int p2, .int p3]) (rest := []) ⟨hx, hb, hml, hown, hts⟩ (k_Wfewest_2 l D k A a z G p0 p1 p2 p3 hv_0_0 hv_0_1 hv_6_4) (cwV 4 hts (gd_V hgd m971 m972 m973 m117 m974) rfl rfl rfl hd_X11_fewest ⟨Nat.le_of_ble_eq_true rfl, Nat.le_of_ble_eq_true rfl⟩) (pre_W hW hB_G hK hZ hS kd_0 rfl) rfl rfl hl.1 rfl (lv_room (Nat.le_of_ble_eq_true rfl)) dL_law_552 ⟨Nat.le_of_ble_eq_true rfl, Nat.le_of_ble_eq_true rfl⟩) hS (fun r_1 G_2 H locs hpo hW hS => ?_)
    have hX_5 : P_Wfewest_2 p0 p1 p2 p3 G r_1 G_2 := hpo
    obtain ⟨hB_G_2, hq_3, -⟩ := hpo
    refine lv_pop hx hb dL_law_555 rfl ?_
    refine lv_aload_n hx hb dL_law_556 rfl (lv_at hl 2 rfl) ?_
    refine ld_1 hL hi0 hi6 hx hb hX hbl hbA hS hl dL_law_557 dL_law_558 dL_law_559 dL_law_560 dL_law_561 hp0 ?_
    refine ld_2 hL hi0 hi6 hx hb hX hbl hbA hS hl dL_law_562 dL_law_563 dL_law_564 dL_law_565 dL_law_566 hp1 ?_
    refine ld_3 hL hi0 hi6 hx hb hX hbl hbA hS hl dL_law_567 dL_law_568 dL_law_569 dL_law_570 dL_law_571 hp2 ?_
    refine ld_4 hL hi0 hi6 hx hb hX hbl hbA hS hl dL_law_572 dL_law_573 dL_law_574 dL_law_575 dL_law_576 hp3 ?_
    have fr_6 : Fr [33, 37, 38, 39, 40, 42, 43, 44, 45] [(0, 12), (6, 3), (7, 1), (7, 2), (7, 3), (7, 4), (7, 5), (7, 6), (7, 7)] G G_2 := (Fr.call9 (rs := [33, 37, 38, 39, 40, 42, 43, 44, 45]) (fs := [(0, 12), (6, 3), (7, 1), (7, 2), (7, 3), (7, 4), (7, 5), (7, 6), (7, 7)]) Fr.rf hq_3 rfl rfl)
    have g_7 : gP G_2 = gP G := gP_fr fr_6 (gr_q rfl) (gf_q rfl)
    have g_8 : gW G_2 = gW G := gW_fr fr_6 (gr_q rfl) (gf_q rfl)
    refine S_calli (va_runV (As := [.int p0, .int p1, .int p2, .int p3]) (rest := []) ⟨hx, hb, hml, hown, hts⟩ (n_fewest l D k A a z G_2 p0 p1 p2 p3 (by omega) (by omega)) (cwV 4 hts (gd_V hgd m1842 m1843 m1844 m131 m1845) rfl rfl rfl hd_X12_fewest ⟨Nat.le_of_ble_eq_true rfl, Nat.le_of_ble_eq_true rfl⟩) (pre_W hW hB_G_2 hK hZ hS kd_66 rfl) rfl rfl hl.1 rfl (lv_room (Nat.le_of_ble_eq_true rfl)) dL_law_577 ⟨Nat.le_of_ble_eq_true rfl, Nat.le_of_ble_eq_true rfl⟩) hS (fun r_9 G_10 H locs hpo hW hS => ?_)
    have hX_13 : Q_fewest p0 p1 p2 p3 G_2 r_9 G_10 := hpo
    obtain ⟨hB_G_10, hq_11, -⟩ := hpo
    have u_14 := L_fewest_2 hX_5 hX_13 rfl rfl rfl rfl (by omega)
    refine lv_pop hx hb dL_law_580 rfl ?_
    refine lv_goto (tgt := 1641) hx hb dL_law_581 rfl ?_
    exact K G_10 _ _ _ (Or.inr (LI_of_2 (LIn_fr_2 (LIn_fr_2 (show LIn_2 G from ⟨hv_0_0, hv_0_1, hv_6_4, hj0, hj1, hj2, hj3, hj4, hj5, hj6, hj7, hj8, hj9, hj10, hj11⟩) hq_3 (by decide +kernel)) hq_11 (by decide +kernel)) (by omega))) hB_G_10 hW hS (lv_sub hl [0, 1, 2, 3] rfl)

set_option maxHeartbeats 4000000 in
set_option maxRecDepth 100000 in
theorem law_10 {p : Program} {l : Launch} {e : Env} {s : State} {m : MethodId} {below : List Frame} {meth : Method} {c : Code} {D : va_G} {k : KT} {A : Nat → Prop} {a : Nat → Nat} {z : SK} {b L : Nat} {xs : Nat → Int32} (hL : L ≤ 3072) (C0 : lw_At p s m meth c b L xs) (hK : cK D k s) (hZ : Sx A z s) (hbA : ¬ A b) {G : GS} {i0 : Int32} (hi0 : 0 ≤ i0.toInt) (hi6 : i0.toInt + 6 ≤ L) (hI : LI G) (hB_G : Bd G) {H : Heap} {locs : List Loc} {ls : Array Slot} (hW : Wd D k A a G H) (hS : va_S A s.heap H locs) (hl : lv_has ls 4 [(0, .ref b), (1, .ref (a 0)), (2, .ref (a 66)), (3, .int i0)]) (K : ∀ (G1 : GS) (H1 : Heap) (locs1 : List Loc) (ls1 : Array Slot), LI G1 → Bd G1 → Wd D k A a G1 H1 → va_S A s.heap H1 locs1 → lv_has ls1 4 [(0, .ref b), (1, .ref (a 0)), (2, .ref (a 66)), (3, .int i0)] → W p l e room_1 s m #[Value.ref b] below meth c H1 locs1 119 46443 (lw_Z below #[Value.ref b] s) (F0 m 1641 ls1 [])) : W p l e room_1 s m #[Value.ref b] below meth c H locs 119 46443 (lw_Z below #[Value.ref b] s) (F0 m 584 ls []) := by
  obtain ⟨hx, hb, hr, hml, hown, hts, hX, hbl, hlocks, hgv⟩ := id C0
  have hown : s.vm.findClass RL = some m.cls := hown
  have hgd : ∀ w ∈ gd, w ∈ lw_tbl := fun w h => (List.mem_filter.mp h).1
  have hg : ∀ w ∈ gd, w.before #[Value.ref b] s = true := fun w h => hts w (hgd w h)
  rcases hI with ⟨hv_0_0, hv_0_1, hv_6_4, hj0, hj1, hj2, hj3, hj4, hj5, hj6, hj7, hj8, hj9, hj10, hj11, hj12⟩ | ⟨hv_0_0, hv_0_1, hv_6_4, hj0, hj1, hj2, hj3, hj4, hj5, hj6, hj7, hj8, hj9, hj10, hj11, hj12⟩
  · skip
    obtain ⟨p0, hp0⟩ : ∃ y, y = xs (i0 + 1).toNatClampNeg := ⟨_, rfl⟩
    obtain ⟨p1, hp1⟩ : ∃ y, y = xs (i0 + 2).toNatClampNeg := ⟨_, rfl⟩
    obtain ⟨p2, hp2⟩ : ∃ y, y = xs (i0 + 3).toNatClampNeg := ⟨_, rfl⟩
    obtain ⟨p3, hp3⟩ : ∃ y, y = xs (i0 + 4).toNatClampNeg := ⟨_, rfl⟩
    obtain ⟨p4, hp4⟩ : ∃ y, y = xs (i0 + 5).toNatClampNeg := ⟨_, rfl⟩
    refine lv_aload_n hx hb dL_law_584 rfl (lv_at hl 1 rfl) ?_
    refine ld_1 hL hi0 hi6 hx hb hX hbl hbA hS hl dL_law_585 dL_law_586 dL_law_587 dL_law_588 dL_law_589 hp0 ?_
    refine ld_2 hL hi0 hi6 hx hb hX hbl hbA hS hl dL_law_590 dL_law_591 dL_law_592 dL_law_593 dL_law_594 hp1 ?_
    refine ld_3 hL hi0 hi6 hx hb hX hbl hbA hS hl dL_law_595 dL_law_596 dL_law_597 dL_law_598 dL_law_599 hp2 ?_
    refine ld_4 hL hi0 hi6 hx hb hX hbl hbA hS hl dL_law_600 dL_law_601 dL_law_602 dL_law_603 dL_law_604 hp3 ?_
    refine S_calll (va_runV (As := [.int p0, .int p1, .int p2, .int p3]) (rest := []) ⟨hx, hb, hml, hown, hts⟩ (k_Wways_1 l D k A a z G p0 p1 p2 p3 hv_0_0 hv_0_1 hv_6_4) (cwV 4 hts (gd_V hgd m1014 m1015 m1016 m117 m1017) rfl rfl rfl hd_X11_ways ⟨Nat.le_of_ble_eq_true rfl, Nat.le_of_ble_eq_true rfl⟩) (pre_W hW hB_G hK hZ hS kd_0 rfl) rfl rfl hl.1 rfl (lv_room (Nat.le_of_ble_eq_true rfl)) dL_law_605 ⟨Nat.le_of_ble_eq_true rfl, Nat.le_of_ble_eq_true rfl⟩) hS (fun r_1 G_2 H locs hpo hW hS => ?_)
    have hX_5 : P_Wways_1 p0 p1 p2 p3 G r_1 G_2 := hpo
    obtain ⟨hB_G_2, hq_3, -⟩ := hpo
    refine lv_pop2_2 hx hb dL_law_608 rfl ?_
    refine lv_aload_n hx hb dL_law_609 rfl (lv_at hl 2 rfl) ?_
    refine ld_1 hL hi0 hi6 hx hb hX hbl hbA hS hl dL_law_610 dL_law_611 dL_law_612 dL_law_613 dL_law_614 hp0 ?_
    refine ld_2 hL hi0 hi6 hx hb hX hbl hbA hS hl dL_law_615 dL_law_616 dL_law_617 dL_law_618 dL_law_619 hp1 ?_
    refine ld_3 hL hi0 hi6 hx hb hX hbl hbA hS hl dL_law_620 dL_law_621 dL_law_622 dL_law_623 dL_law_624 hp2 ?_
    refine ld_4 hL hi0 hi6 hx hb hX hbl hbA hS hl dL_law_625 dL_law_626 dL_law_627 dL_law_628 dL_law_629 hp3 ?_
    have fr_6 : Fr [37, 38, 39, 40, 52, 53, 54, 55] [(6, 3), (7, 1), (7, 2), (7, 3), (7, 4), (7, 5), (7, 6), (7, 7)] G G_2 := (Fr.call9 (rs := [37, 38, 39, 40, 52, 53, 54, 55]) (fs := [(6, 3), (7, 1), (7, 2), (7, 3), (7, 4), (7, 5), (7, 6), (7, 7)]) Fr.rf hq_3 rfl rfl)
    have g_7 : gP G_2 = gP G := gP_fr fr_6 (gr_q rfl) (gf_q rfl)
    refine S_calll (va_runV (As := [.int p0, .int p1, .int p2, .int p3]) (rest := []) ⟨hx, hb, hml, hown, hts⟩ (n_ways l D k A a z G_2 p0 p1 p2 p3 (by omega)) (cwV 4 hts (gd_V hgd m1870 m1871 m1872 m131 m1873) rfl rfl rfl hd_X12_ways ⟨Nat.le_of_ble_eq_true rfl, Nat.le_of_ble_eq_true rfl⟩) (pre_W hW hB_G_2 hK hZ hS kd_66 rfl) rfl rfl hl.1 rfl (lv_room (Nat.le_of_ble_eq_true rfl)) dL_law_630 ⟨Nat.le_of_ble_eq_true rfl, Nat.le_of_ble_eq_true rfl⟩) hS (fun r_8 G_9 H locs hpo hW hS => ?_)
    have hX_12 : Q_ways p0 p1 p2 p3 G_2 r_8 G_9 := hpo
    obtain ⟨hB_G_9, hq_10, -⟩ := hpo
    have u_13 := L_ways_1 hX_5 hX_12 rfl rfl rfl rfl (by omega)
    refine lv_pop2_2 hx hb dL_law_633 rfl ?_
    refine lv_goto (tgt := 1641) hx hb dL_law_634 rfl ?_
    exact K G_9 _ _ _ (Or.inl (LI_of_1 (LIn_fr_1 (LIn_fr_1 (show LIn_1 G from ⟨hv_0_0, hv_0_1, hv_6_4, hj0, hj1, hj2, hj3, hj4, hj5, hj6, hj7, hj8, hj9, hj10, hj11⟩) hq_3 (by decide +kernel)) hq_10 (by decide +kernel)) (by omega))) hB_G_9 hW hS (lv_sub hl [0, 1, 2, 3] rfl)
  · skip
    obtain ⟨p0, hp0⟩ : ∃ y, y = xs (i0 + 1).toNatClampNeg := ⟨_, rfl⟩
    obtain ⟨p1, hp1⟩ : ∃ y, y = xs (i0 + 2).toNatClampNeg := ⟨_, rfl⟩
    obtain ⟨p2, hp2⟩ : ∃ y, y = xs (i0 + 3).toNatClampNeg := ⟨_, rfl⟩
    obtain ⟨p3, hp3⟩ : ∃ y, y = xs (i0 + 4).toNatClampNeg := ⟨_, rfl⟩
    obtain ⟨p4, hp4⟩ : ∃ y, y = xs (i0 + 5).toNatClampNeg := ⟨_, rfl⟩
    refine lv_aload_n hx hb dL_law_584 rfl (lv_at hl 1 rfl) ?_
    refine ld_1 hL hi0 hi6 hx hb hX hbl hbA hS hl dL_law_585 dL_law_586 dL_law_587 dL_law_588 dL_law_589 hp0 ?_
    refine ld_2 hL hi0 hi6 hx hb hX hbl hbA hS hl dL_law_590 dL_law_591 dL_law_592 dL_law_593 dL_law_594 hp1 ?_
    refine ld_3 hL hi0 hi6 hx hb hX hbl hbA hS hl dL_law_595 dL_law_596 dL_law_597 dL_law_598 dL_law_599 hp2 ?_
    refine ld_4 hL hi0 hi6 hx hb hX hbl hbA hS hl dL_law_600 dL_law_601 dL_law_602 dL_law_603 dL_law_604 hp3 ?_
    refine S_calll (va_runV (As := [.int p0, .int p1, .int p2, .int p3]) (rest := []) ⟨hx, hb, hml, hown, hts⟩ (k_Wways_2 l D k A a z G p0 p1 p2 p3 hv_0_0 hv_0_1 hv_6_4) (cwV 4 hts (gd_V hgd m1014 m1015 m1016 m117 m1017) rfl rfl rfl hd_X11_ways ⟨Nat.le_of_ble_eq_true rfl, Nat.le_of_ble_eq_true rfl⟩) (pre_W hW hB_G hK hZ hS kd_0 rfl) rfl rfl hl.1 rfl (lv_room (Nat.le_of_ble_eq_true rfl)) dL_law_605 ⟨Nat.le_of_ble_eq_true rfl, Nat.le_of_ble_eq_true rfl⟩) hS (fun r_1 G_2 H locs hpo hW hS => ?_)
    have hX_5 : P_Wways_2 p0 p1 p2 p3 G r_1 G_2 := hpo
    obtain ⟨hB_G_2, hq_3, -⟩ := hpo
    refine lv_pop2_2 hx hb dL_law_608 rfl ?_
    refine lv_aload_n hx hb dL_law_609 rfl (lv_at hl 2 rfl) ?_
    refine ld_1 hL hi0 hi6 hx hb hX hbl hbA hS hl dL_law_610 dL_law_611 dL_law_612 dL_law_613 dL_law_614 hp0 ?_
    refine ld_2 hL hi0 hi6 hx hb hX hbl hbA hS hl dL_law_615 dL_law_616 dL_law_617 dL_law_618 dL_law_619 hp1 ?_
    refine ld_3 hL hi0 hi6 hx hb hX hbl hbA hS hl dL_law_620 dL_law_621 dL_law_622 dL_law_623 dL_law_624 hp2 ?_
    refine ld_4 hL hi0 hi6 hx hb hX hbl hbA hS hl dL_law_625 dL_law_626 dL_law_627 dL_law_628 dL_law_629 hp3 ?_
    have fr_6 : Fr [37, 38, 39, 40, 52, 53, 54, 55] [(6, 3), (7, 1), (7, 2), (7, 3), (7, 4), (7, 5), (7, 6), (7, 7)] G G_2 := (Fr.call9 (rs := [37, 38, 39, 40, 52, 53, 54, 55]) (fs := [(6, 3), (7, 1), (7, 2), (7, 3), (7, 4), (7, 5), (7, 6), (7, 7)]) Fr.rf hq_3 rfl rfl)
    have g_7 : gP G_2 = gP G := gP_fr fr_6 (gr_q rfl) (gf_q rfl)
    refine S_calll (va_runV (As := [.int p0, .int p1, .int p2, .int p3]) (rest := []) ⟨hx, hb, hml, hown, hts⟩ (n_ways l D k A a z G_2 p0 p1 p2 p3 (by omega)) (cwV 4 hts (gd_V hgd m1870 m1871 m1872 m131 m1873) rfl rfl rfl hd_X12_ways ⟨Nat.le_of_ble_eq_true rfl, Nat.le_of_ble_eq_true rfl⟩) (pre_W hW hB_G_2 hK hZ hS kd_66 rfl) rfl rfl hl.1 rfl (lv_room (Nat.le_of_ble_eq_true rfl)) dL_law_630 ⟨Nat.le_of_ble_eq_true rfl, Nat.le_of_ble_eq_true rfl⟩) hS (fun r_8 G_9 H locs hpo hW hS => ?_)
    have hX_12 : Q_ways p0 p1 p2 p3 G_2 r_8 G_9 := hpo
    obtain ⟨hB_G_9, hq_10, -⟩ := hpo
    have u_13 := L_ways_2 hX_5 hX_12 rfl rfl rfl rfl (by omega)
    refine lv_pop2_2 hx hb dL_law_633 rfl ?_
    refine lv_goto (tgt := 1641) hx hb dL_law_634 rfl ?_
    exact K G_9 _ _ _ (Or.inr (LI_of_2 (LIn_fr_2 (LIn_fr_2 (show LIn_2 G from ⟨hv_0_0, hv_0_1, hv_6_4, hj0, hj1, hj2, hj3, hj4, hj5, hj6, hj7, hj8, hj9, hj10, hj11⟩) hq_3 (by decide +kernel)) hq_10 (by decide +kernel)) (by omega))) hB_G_9 hW hS (lv_sub hl [0, 1, 2, 3] rfl)

set_option maxHeartbeats 4000000 in
set_option maxRecDepth 100000 in
theorem law_11 {p : Program} {l : Launch} {e : Env} {s : State} {m : MethodId} {below : List Frame} {meth : Method} {c : Code} {D : va_G} {k : KT} {A : Nat → Prop} {a : Nat → Nat} {z : SK} {b L : Nat} {xs : Nat → Int32} (hL : L ≤ 3072) (C0 : lw_At p s m meth c b L xs) (hK : cK D k s) (hZ : Sx A z s) (hbA : ¬ A b) {G : GS} {i0 : Int32} (hi0 : 0 ≤ i0.toInt) (hi6 : i0.toInt + 6 ≤ L) (hI : LI G) (hB_G : Bd G) {H : Heap} {locs : List Loc} {ls : Array Slot} (hW : Wd D k A a G H) (hS : va_S A s.heap H locs) (hl : lv_has ls 4 [(0, .ref b), (1, .ref (a 0)), (2, .ref (a 66)), (3, .int i0)]) (K : ∀ (G1 : GS) (H1 : Heap) (locs1 : List Loc) (ls1 : Array Slot), LI G1 → Bd G1 → Wd D k A a G1 H1 → va_S A s.heap H1 locs1 → lv_has ls1 4 [(0, .ref b), (1, .ref (a 0)), (2, .ref (a 66)), (3, .int i0)] → W p l e room_1 s m #[Value.ref b] below meth c H1 locs1 119 46443 (lw_Z below #[Value.ref b] s) (F0 m 1641 ls1 [])) : W p l e room_1 s m #[Value.ref b] below meth c H locs 119 46443 (lw_Z below #[Value.ref b] s) (F0 m 637 ls []) := by
  obtain ⟨hx, hb, hr, hml, hown, hts, hX, hbl, hlocks, hgv⟩ := id C0
  have hown : s.vm.findClass RL = some m.cls := hown
  have hgd : ∀ w ∈ gd, w ∈ lw_tbl := fun w h => (List.mem_filter.mp h).1
  have hg : ∀ w ∈ gd, w.before #[Value.ref b] s = true := fun w h => hts w (hgd w h)
  rcases hI with ⟨hv_0_0, hv_0_1, hv_6_4, hj0, hj1, hj2, hj3, hj4, hj5, hj6, hj7, hj8, hj9, hj10, hj11, hj12⟩ | ⟨hv_0_0, hv_0_1, hv_6_4, hj0, hj1, hj2, hj3, hj4, hj5, hj6, hj7, hj8, hj9, hj10, hj11, hj12⟩
  · skip
    obtain ⟨p0, hp0⟩ : ∃ y, y = xs (i0 + 1).toNatClampNeg := ⟨_, rfl⟩
    obtain ⟨p1, hp1⟩ : ∃ y, y = xs (i0 + 2).toNatClampNeg := ⟨_, rfl⟩
    obtain ⟨p2, hp2⟩ : ∃ y, y = xs (i0 + 3).toNatClampNeg := ⟨_, rfl⟩
    obtain ⟨p3, hp3⟩ : ∃ y, y = xs (i0 + 4).toNatClampNeg := ⟨_, rfl⟩
    obtain ⟨p4, hp4⟩ : ∃ y, y = xs (i0 + 5).toNatClampNeg := ⟨_, rfl⟩
    refine lv_aload_n hx hb dL_law_637 rfl (lv_at hl 1 rfl) ?_
    refine ld_1 hL hi0 hi6 hx hb hX hbl hbA hS hl dL_law_638 dL_law_639 dL_law_640 dL_law_641 dL_law_642 hp0 ?_
    refine ld_2 hL hi0 hi6 hx hb hX hbl hbA hS hl dL_law_643 dL_law_644 dL_law_645 dL_law_646 dL_law_647 hp1 ?_
    refine ld_3 hL hi0 hi6 hx hb hX hbl hbA hS hl dL_law_648 dL_law_649 dL_law_650 dL_law_651 dL_law_652 hp2 ?_
    refine ld_4 hL hi0 hi6 hx hb hX hbl hbA hS hl dL_law_653 dL_law_654 dL_law_655 dL_law_656 dL_law_657 hp3 ?_
    refine S_calli (va_runV (As := [.int p0, .int p1, .int p2, .int p3]) (rest := []) ⟨hx, hb, hml, hown, hts⟩ (k_Wevenest_1 l D k A a z G p0 p1 p2 p3 hv_0_0 hv_0_1 hv_6_4) (cwV 4 hts (gd_V hgd m1036 m1037 m1038 m117 m1039) rfl rfl rfl hd_X11_evenest ⟨Nat.le_of_ble_eq_true rfl, Nat.le_of_ble_eq_true rfl⟩) (pre_W hW hB_G hK hZ hS kd_0 rfl) rfl rfl hl.1 rfl (lv_room (Nat.le_of_ble_eq_true rfl)) dL_law_658 ⟨Nat.le_of_ble_eq_true rfl, Nat.le_of_ble_eq_true rfl⟩) hS (fun r_1 G_2 H locs hpo hW hS => ?_)
    have hX_5 : P_Wevenest_1 p0 p1 p2 p3 G r_1 G_2 := hpo
    obtain ⟨hB_G_2, hq_3, -⟩ := hpo
    refine lv_pop hx hb dL_law_661 rfl ?_
    refine lv_aload_n hx hb dL_law_662 rfl (lv_at hl 2 rfl) ?_
    refine ld_1 hL hi0 hi6 hx hb hX hbl hbA hS hl dL_law_663 dL_law_664 dL_law_665 dL_law_666 dL_law_667 hp0 ?_
    refine ld_2 hL hi0 hi6 hx hb hX hbl hbA hS hl dL_law_668 dL_law_669 dL_law_670 dL_law_671 dL_law_672 hp1 ?_
    refine ld_3 hL hi0 hi6 hx hb hX hbl hbA hS hl dL_law_673 dL_law_674 dL_law_675 dL_law_676 dL_law_677 hp2 ?_
    refine ld_4 hL hi0 hi6 hx hb hX hbl hbA hS hl dL_law_678 dL_law_679 dL_law_680 dL_law_681 dL_law_682 hp3 ?_
    have fr_6 : Fr [37, 38, 39, 40, 42] [(6, 3), (7, 1), (7, 2), (7, 3), (7, 4), (7, 5), (7, 6), (7, 7)] G G_2 := (Fr.call9 (rs := [37, 38, 39, 40, 42]) (fs := [(6, 3), (7, 1), (7, 2), (7, 3), (7, 4), (7, 5), (7, 6), (7, 7)]) Fr.rf hq_3 rfl rfl)
    have g_7 : gP G_2 = gP G := gP_fr fr_6 (gr_q rfl) (gf_q rfl)
    have g_8 : gW G_2 = gW G := gW_fr fr_6 (gr_q rfl) (gf_q rfl)
    refine S_calli (va_runV (As := [.int p0, .int p1, .int p2, .int p3]) (rest := []) ⟨hx, hb, hml, hown, hts⟩ (n_evenest l D k A a z G_2 p0 p1 p2 p3 (by omega) (by omega)) (cwV 4 hts (gd_V hgd m1883 m1884 m1885 m131 m1886) rfl rfl rfl hd_X12_evenest ⟨Nat.le_of_ble_eq_true rfl, Nat.le_of_ble_eq_true rfl⟩) (pre_W hW hB_G_2 hK hZ hS kd_66 rfl) rfl rfl hl.1 rfl (lv_room (Nat.le_of_ble_eq_true rfl)) dL_law_683 ⟨Nat.le_of_ble_eq_true rfl, Nat.le_of_ble_eq_true rfl⟩) hS (fun r_9 G_10 H locs hpo hW hS => ?_)
    have hX_13 : Q_evenest p0 p1 p2 p3 G_2 r_9 G_10 := hpo
    obtain ⟨hB_G_10, hq_11, -⟩ := hpo
    have u_14 := L_evenest_1 hX_5 hX_13 rfl rfl rfl rfl (by omega)
    refine lv_pop hx hb dL_law_686 rfl ?_
    refine lv_goto (tgt := 1641) hx hb dL_law_687 rfl ?_
    exact K G_10 _ _ _ (Or.inl (LI_of_1 (LIn_fr_1 (LIn_fr_1 (show LIn_1 G from ⟨hv_0_0, hv_0_1, hv_6_4, hj0, hj1, hj2, hj3, hj4, hj5, hj6, hj7, hj8, hj9, hj10, hj11⟩) hq_3 (by decide +kernel)) hq_11 (by decide +kernel)) (by omega))) hB_G_10 hW hS (lv_sub hl [0, 1, 2, 3] rfl)
  · skip
    obtain ⟨p0, hp0⟩ : ∃ y, y = xs (i0 + 1).toNatClampNeg := ⟨_, rfl⟩
    obtain ⟨p1, hp1⟩ : ∃ y, y = xs (i0 + 2).toNatClampNeg := ⟨_, rfl⟩
    obtain ⟨p2, hp2⟩ : ∃ y, y = xs (i0 + 3).toNatClampNeg := ⟨_, rfl⟩
    obtain ⟨p3, hp3⟩ : ∃ y, y = xs (i0 + 4).toNatClampNeg := ⟨_, rfl⟩
    obtain ⟨p4, hp4⟩ : ∃ y, y = xs (i0 + 5).toNatClampNeg := ⟨_, rfl⟩
    refine lv_aload_n hx hb dL_law_637 rfl (lv_at hl 1 rfl) ?_
    refine ld_1 hL hi0 hi6 hx hb hX hbl hbA hS hl dL_law_638 dL_law_639 dL_law_640 dL_law_641 dL_law_642 hp0 ?_
    refine ld_2 hL hi0 hi6 hx hb hX hbl hbA hS hl dL_law_643 dL_law_644 dL_law_645 dL_law_646 dL_law_647 hp1 ?_
    refine ld_3 hL hi0 hi6 hx hb hX hbl hbA hS hl dL_law_648 dL_law_649 dL_law_650 dL_law_651 dL_law_652 hp2 ?_
    refine ld_4 hL hi0 hi6 hx hb hX hbl hbA hS hl dL_law_653 dL_law_654 dL_law_655 dL_law_656 dL_law_657 hp3 ?_
    refine S_calli (va_runV (As := [.int p0, .int p1, .int p2, .int p3]) (rest := []) ⟨hx, hb, hml, hown, hts⟩ (k_Wevenest_2 l D k A a z G p0 p1 p2 p3 hv_0_0 hv_0_1 hv_6_4) (cwV 4 hts (gd_V hgd m1036 m1037 m1038 m117 m1039) rfl rfl rfl hd_X11_evenest ⟨Nat.le_of_ble_eq_true rfl, Nat.le_of_ble_eq_true rfl⟩) (pre_W hW hB_G hK hZ hS kd_0 rfl) rfl rfl hl.1 rfl (lv_room (Nat.le_of_ble_eq_true rfl)) dL_law_658 ⟨Nat.le_of_ble_eq_true rfl, Nat.le_of_ble_eq_true rfl⟩) hS (fun r_1 G_2 H locs hpo hW hS => ?_)
    have hX_5 : P_Wevenest_2 p0 p1 p2 p3 G r_1 G_2 := hpo
    obtain ⟨hB_G_2, hq_3, -⟩ := hpo
    refine lv_pop hx hb dL_law_661 rfl ?_
    refine lv_aload_n hx hb dL_law_662 rfl (lv_at hl 2 rfl) ?_
    refine ld_1 hL hi0 hi6 hx hb hX hbl hbA hS hl dL_law_663 dL_law_664 dL_law_665 dL_law_666 dL_law_667 hp0 ?_
    refine ld_2 hL hi0 hi6 hx hb hX hbl hbA hS hl dL_law_668 dL_law_669 dL_law_670 dL_law_671 dL_law_672 hp1 ?_
    refine ld_3 hL hi0 hi6 hx hb hX hbl hbA hS hl dL_law_673 dL_law_674 dL_law_675 dL_law_676 dL_law_677 hp2 ?_
    refine ld_4 hL hi0 hi6 hx hb hX hbl hbA hS hl dL_law_678 dL_law_679 dL_law_680 dL_law_681 dL_law_682 hp3 ?_
    have fr_6 : Fr [37, 38, 39, 40, 42] [(6, 3), (7, 1), (7, 2), (7, 3), (7, 4), (7, 5), (7, 6), (7, 7)] G G_2 := (Fr.call9 (rs := [37, 38, 39, 40, 42]) (fs := [(6, 3), (7, 1), (7, 2), (7, 3), (7, 4), (7, 5), (7, 6), (7, 7)]) Fr.rf hq_3 rfl rfl)
    have g_7 : gP G_2 = gP G := gP_fr fr_6 (gr_q rfl) (gf_q rfl)
    have g_8 : gW G_2 = gW G := gW_fr fr_6 (gr_q rfl) (gf_q rfl)
    refine S_calli (va_runV (As := [.int p0, .int p1, .int p2, .int p3]) (rest := []) ⟨hx, hb, hml, hown, hts⟩ (n_evenest l D k A a z G_2 p0 p1 p2 p3 (by omega) (by omega)) (cwV 4 hts (gd_V hgd m1883 m1884 m1885 m131 m1886) rfl rfl rfl hd_X12_evenest ⟨Nat.le_of_ble_eq_true rfl, Nat.le_of_ble_eq_true rfl⟩) (pre_W hW hB_G_2 hK hZ hS kd_66 rfl) rfl rfl hl.1 rfl (lv_room (Nat.le_of_ble_eq_true rfl)) dL_law_683 ⟨Nat.le_of_ble_eq_true rfl, Nat.le_of_ble_eq_true rfl⟩) hS (fun r_9 G_10 H locs hpo hW hS => ?_)
    have hX_13 : Q_evenest p0 p1 p2 p3 G_2 r_9 G_10 := hpo
    obtain ⟨hB_G_10, hq_11, -⟩ := hpo
    have u_14 := L_evenest_2 hX_5 hX_13 rfl rfl rfl rfl (by omega)
    refine lv_pop hx hb dL_law_686 rfl ?_
    refine lv_goto (tgt := 1641) hx hb dL_law_687 rfl ?_
    exact K G_10 _ _ _ (Or.inr (LI_of_2 (LIn_fr_2 (LIn_fr_2 (show LIn_2 G from ⟨hv_0_0, hv_0_1, hv_6_4, hj0, hj1, hj2, hj3, hj4, hj5, hj6, hj7, hj8, hj9, hj10, hj11⟩) hq_3 (by decide +kernel)) hq_11 (by decide +kernel)) (by omega))) hB_G_10 hW hS (lv_sub hl [0, 1, 2, 3] rfl)

set_option maxHeartbeats 4000000 in
set_option maxRecDepth 100000 in
theorem law_12 {p : Program} {l : Launch} {e : Env} {s : State} {m : MethodId} {below : List Frame} {meth : Method} {c : Code} {D : va_G} {k : KT} {A : Nat → Prop} {a : Nat → Nat} {z : SK} {b L : Nat} {xs : Nat → Int32} (hL : L ≤ 3072) (C0 : lw_At p s m meth c b L xs) (hK : cK D k s) (hZ : Sx A z s) (hbA : ¬ A b) {G : GS} {i0 : Int32} (hi0 : 0 ≤ i0.toInt) (hi6 : i0.toInt + 6 ≤ L) (hI : LI G) (hB_G : Bd G) {H : Heap} {locs : List Loc} {ls : Array Slot} (hW : Wd D k A a G H) (hS : va_S A s.heap H locs) (hl : lv_has ls 4 [(0, .ref b), (1, .ref (a 0)), (2, .ref (a 66)), (3, .int i0)]) (K : ∀ (G1 : GS) (H1 : Heap) (locs1 : List Loc) (ls1 : Array Slot), LI G1 → Bd G1 → Wd D k A a G1 H1 → va_S A s.heap H1 locs1 → lv_has ls1 4 [(0, .ref b), (1, .ref (a 0)), (2, .ref (a 66)), (3, .int i0)] → W p l e room_1 s m #[Value.ref b] below meth c H1 locs1 119 46443 (lw_Z below #[Value.ref b] s) (F0 m 1641 ls1 [])) : W p l e room_1 s m #[Value.ref b] below meth c H locs 119 46443 (lw_Z below #[Value.ref b] s) (F0 m 690 ls []) := by
  obtain ⟨hx, hb, hr, hml, hown, hts, hX, hbl, hlocks, hgv⟩ := id C0
  have hown : s.vm.findClass RL = some m.cls := hown
  have hgd : ∀ w ∈ gd, w ∈ lw_tbl := fun w h => (List.mem_filter.mp h).1
  have hg : ∀ w ∈ gd, w.before #[Value.ref b] s = true := fun w h => hts w (hgd w h)
  rcases hI with ⟨hv_0_0, hv_0_1, hv_6_4, hj0, hj1, hj2, hj3, hj4, hj5, hj6, hj7, hj8, hj9, hj10, hj11, hj12⟩ | ⟨hv_0_0, hv_0_1, hv_6_4, hj0, hj1, hj2, hj3, hj4, hj5, hj6, hj7, hj8, hj9, hj10, hj11, hj12⟩
  · skip
    obtain ⟨p0, hp0⟩ : ∃ y, y = xs (i0 + 1).toNatClampNeg := ⟨_, rfl⟩
    obtain ⟨p1, hp1⟩ : ∃ y, y = xs (i0 + 2).toNatClampNeg := ⟨_, rfl⟩
    obtain ⟨p2, hp2⟩ : ∃ y, y = xs (i0 + 3).toNatClampNeg := ⟨_, rfl⟩
    obtain ⟨p3, hp3⟩ : ∃ y, y = xs (i0 + 4).toNatClampNeg := ⟨_, rfl⟩
    obtain ⟨p4, hp4⟩ : ∃ y, y = xs (i0 + 5).toNatClampNeg := ⟨_, rfl⟩
    refine lv_aload_n hx hb dL_law_690 rfl (lv_at hl 1 rfl) ?_
    refine ld_1 hL hi0 hi6 hx hb hX hbl hbA hS hl dL_law_691 dL_law_692 dL_law_693 dL_law_694 dL_law_695 hp0 ?_
    refine ld_2 hL hi0 hi6 hx hb hX hbl hbA hS hl dL_law_696 dL_law_697 dL_law_698 dL_law_699 dL_law_700 hp1 ?_
    refine ld_3 hL hi0 hi6 hx hb hX hbl hbA hS hl dL_law_701 dL_law_702 dL_law_703 dL_law_704 dL_law_705 hp2 ?_
    refine ld_4 hL hi0 hi6 hx hb hX hbl hbA hS hl dL_law_706 dL_law_707 dL_law_708 dL_law_709 dL_law_710 hp3 ?_
    refine ld_5 hL hi0 hi6 hx hb hX hbl hbA hS hl dL_law_711 dL_law_712 dL_law_713 dL_law_714 dL_law_715 hp4 ?_
    refine S_calli (va_runV (As := [.int p0, .int p1, .int p2, .int p3, .int p4]) (rest := []) ⟨hx, hb, hml, hown, hts⟩ (k_Weven_1 l D k A a z G p0 p1 p2 p3 p4 hv_0_0 hv_0_1 hv_6_4) (cwV 5 hts (gd_V hgd m1049 m1050 m1051 m117 m1052) rfl rfl rfl hd_X11_even ⟨Nat.le_of_ble_eq_true rfl, Nat.le_of_ble_eq_true rfl⟩) (pre_W hW hB_G hK hZ hS kd_0 rfl) rfl rfl hl.1 rfl (lv_room (Nat.le_of_ble_eq_true rfl)) dL_law_716 ⟨Nat.le_of_ble_eq_true rfl, Nat.le_of_ble_eq_true rfl⟩) hS (fun r_1 G_2 H locs hpo hW hS => ?_)
    have hX_5 : P_Weven_1 p0 p1 p2 p3 p4 G r_1 G_2 := hpo
    obtain ⟨hB_G_2, hq_3, -⟩ := hpo
    refine lv_pop hx hb dL_law_719 rfl ?_
    refine lv_aload_n hx hb dL_law_720 rfl (lv_at hl 2 rfl) ?_
    refine ld_1 hL hi0 hi6 hx hb hX hbl hbA hS hl dL_law_721 dL_law_722 dL_law_723 dL_law_724 dL_law_725 hp0 ?_
    refine ld_2 hL hi0 hi6 hx hb hX hbl hbA hS hl dL_law_726 dL_law_727 dL_law_728 dL_law_729 dL_law_730 hp1 ?_
    refine ld_3 hL hi0 hi6 hx hb hX hbl hbA hS hl dL_law_731 dL_law_732 dL_law_733 dL_law_734 dL_law_735 hp2 ?_
    refine ld_4 hL hi0 hi6 hx hb hX hbl hbA hS hl dL_law_736 dL_law_737 dL_law_738 dL_law_739 dL_law_740 hp3 ?_
    refine ld_5 hL hi0 hi6 hx hb hX hbl hbA hS hl dL_law_741 dL_law_742 dL_law_743 dL_law_744 dL_law_745 hp4 ?_
    have fr_6 : Fr [37, 38, 39, 40] [(6, 3), (7, 1), (7, 2), (7, 3), (7, 4), (7, 5), (7, 6), (7, 7)] G G_2 := (Fr.call9 (rs := [37, 38, 39, 40]) (fs := [(6, 3), (7, 1), (7, 2), (7, 3), (7, 4), (7, 5), (7, 6), (7, 7)]) Fr.rf hq_3 rfl rfl)
    have g_7 : gP G_2 = gP G := gP_fr fr_6 (gr_q rfl) (gf_q rfl)
    refine S_calli (va_runV (As := [.int p0, .int p1, .int p2, .int p3, .int p4]) (rest := []) ⟨hx, hb, hml, hown, hts⟩ (n_even l D k A a z G_2 p0 p1 p2 p3 p4 (by omega)) (cwV 5 hts (gd_V hgd m1891 m1892 m1893 m131 m1894) rfl rfl rfl hd_X12_even ⟨Nat.le_of_ble_eq_true rfl, Nat.le_of_ble_eq_true rfl⟩) (pre_W hW hB_G_2 hK hZ hS kd_66 rfl) rfl rfl hl.1 rfl (lv_room (Nat.le_of_ble_eq_true rfl)) dL_law_746 ⟨Nat.le_of_ble_eq_true rfl, Nat.le_of_ble_eq_true rfl⟩) hS (fun r_8 G_9 H locs hpo hW hS => ?_)
    have hX_12 : Q_even p0 p1 p2 p3 p4 G_2 r_8 G_9 := hpo
    obtain ⟨hB_G_9, hq_10, -⟩ := hpo
    have u_13 := L_even_1 hX_5 hX_12 rfl rfl rfl rfl rfl (by omega)
    refine lv_pop hx hb dL_law_749 rfl ?_
    refine lv_goto (tgt := 1641) hx hb dL_law_750 rfl ?_
    exact K G_9 _ _ _ (Or.inl (LI_of_1 (LIn_fr_1 (LIn_fr_1 (show LIn_1 G from ⟨hv_0_0, hv_0_1, hv_6_4, hj0, hj1, hj2, hj3, hj4, hj5, hj6, hj7, hj8, hj9, hj10, hj11⟩) hq_3 (by decide +kernel)) hq_10 (by decide +kernel)) (by omega))) hB_G_9 hW hS (lv_sub hl [0, 1, 2, 3] rfl)
  · skip
    obtain ⟨p0, hp0⟩ : ∃ y, y = xs (i0 + 1).toNatClampNeg := ⟨_, rfl⟩
    obtain ⟨p1, hp1⟩ : ∃ y, y = xs (i0 + 2).toNatClampNeg := ⟨_, rfl⟩
    obtain ⟨p2, hp2⟩ : ∃ y, y = xs (i0 + 3).toNatClampNeg := ⟨_, rfl⟩
    obtain ⟨p3, hp3⟩ : ∃ y, y = xs (i0 + 4).toNatClampNeg := ⟨_, rfl⟩
    obtain ⟨p4, hp4⟩ : ∃ y, y = xs (i0 + 5).toNatClampNeg := ⟨_, rfl⟩
    refine lv_aload_n hx hb dL_law_690 rfl (lv_at hl 1 rfl) ?_
    refine ld_1 hL hi0 hi6 hx hb hX hbl hbA hS hl dL_law_691 dL_law_692 dL_law_693 dL_law_694 dL_law_695 hp0 ?_
    refine ld_2 hL hi0 hi6 hx hb hX hbl hbA hS hl dL_law_696 dL_law_697 dL_law_698 dL_law_699 dL_law_700 hp1 ?_
    refine ld_3 hL hi0 hi6 hx hb hX hbl hbA hS hl dL_law_701 dL_law_702 dL_law_703 dL_law_704 dL_law_705 hp2 ?_
    refine ld_4 hL hi0 hi6 hx hb hX hbl hbA hS hl dL_law_706 dL_law_707 dL_law_708 dL_law_709 dL_law_710 hp3 ?_
    refine ld_5 hL hi0 hi6 hx hb hX hbl hbA hS hl dL_law_711 dL_law_712 dL_law_713 dL_law_714 dL_law_715 hp4 ?_
    refine S_calli (va_runV (As := [.int p0, .int p1, .int p2, .int p3, .int p4]) (rest := []) ⟨hx, hb, hml, hown, hts⟩ (k_Weven_2 l D k A a z G p0 p1 p2 p3 p4 hv_0_0 hv_0_1 hv_6_4) (cwV 5 hts (gd_V hgd m1049 m1050 m1051 m117 m1052) rfl rfl rfl hd_X11_even ⟨Nat.le_of_ble_eq_true rfl, Nat.le_of_ble_eq_true rfl⟩) (pre_W hW hB_G hK hZ hS kd_0 rfl) rfl rfl hl.1 rfl (lv_room (Nat.le_of_ble_eq_true rfl)) dL_law_716 ⟨Nat.le_of_ble_eq_true rfl, Nat.le_of_ble_eq_true rfl⟩) hS (fun r_1 G_2 H locs hpo hW hS => ?_)
    have hX_5 : P_Weven_2 p0 p1 p2 p3 p4 G r_1 G_2 := hpo
    obtain ⟨hB_G_2, hq_3, -⟩ := hpo
    refine lv_pop hx hb dL_law_719 rfl ?_
    refine lv_aload_n hx hb dL_law_720 rfl (lv_at hl 2 rfl) ?_
    refine ld_1 hL hi0 hi6 hx hb hX hbl hbA hS hl dL_law_721 dL_law_722 dL_law_723 dL_law_724 dL_law_725 hp0 ?_
    refine ld_2 hL hi0 hi6 hx hb hX hbl hbA hS hl dL_law_726 dL_law_727 dL_law_728 dL_law_729 dL_law_730 hp1 ?_
    refine ld_3 hL hi0 hi6 hx hb hX hbl hbA hS hl dL_law_731 dL_law_732 dL_law_733 dL_law_734 dL_law_735 hp2 ?_
    refine ld_4 hL hi0 hi6 hx hb hX hbl hbA hS hl dL_law_736 dL_law_737 dL_law_738 dL_law_739 dL_law_740 hp3 ?_
    refine ld_5 hL hi0 hi6 hx hb hX hbl hbA hS hl dL_law_741 dL_law_742 dL_law_743 dL_law_744 dL_law_745 hp4 ?_
    have fr_6 : Fr [37, 38, 39, 40] [(6, 3), (7, 1), (7, 2), (7, 3), (7, 4), (7, 5), (7, 6), (7, 7)] G G_2 := (Fr.call9 (rs := [37, 38, 39, 40]) (fs := [(6, 3), (7, 1), (7, 2), (7, 3), (7, 4), (7, 5), (7, 6), (7, 7)]) Fr.rf hq_3 rfl rfl)
    have g_7 : gP G_2 = gP G := gP_fr fr_6 (gr_q rfl) (gf_q rfl)
    refine S_calli (va_runV (As := [.int p0, .int p1, .int p2, .int p3, .int p4]) (rest := []) ⟨hx, hb, hml, hown, hts⟩ (n_even l D k A a z G_2 p0 p1 p2 p3 p4 (by omega)) (cwV 5 hts (gd_V hgd m1891 m1892 m1893 m131 m1894) rfl rfl rfl hd_X12_even ⟨Nat.le_of_ble_eq_true rfl, Nat.le_of_ble_eq_true rfl⟩) (pre_W hW hB_G_2 hK hZ hS kd_66 rfl) rfl rfl hl.1 rfl (lv_room (Nat.le_of_ble_eq_true rfl)) dL_law_746 ⟨Nat.le_of_ble_eq_true rfl, Nat.le_of_ble_eq_true rfl⟩) hS (fun r_8 G_9 H locs hpo hW hS => ?_)
    have hX_12 : Q_even p0 p1 p2 p3 p4 G_2 r_8 G_9 := hpo
    obtain ⟨hB_G_9, hq_10, -⟩ := hpo
    have u_13 := L_even_2 hX_5 hX_12 rfl rfl rfl rfl rfl (by omega)
    refine lv_pop hx hb dL_law_749 rfl ?_
    refine lv_goto (tgt := 1641) hx hb dL_law_750 rfl ?_
    exact K G_9 _ _ _ (Or.inr (LI_of_2 (LIn_fr_2 (LIn_fr_2 (show LIn_2 G from ⟨hv_0_0, hv_0_1, hv_6_4, hj0, hj1, hj2, hj3, hj4, hj5, hj6, hj7, hj8, hj9, hj10, hj11⟩) hq_3 (by decide +kernel)) hq_10 (by decide +kernel)) (by omega))) hB_G_9 hW hS (lv_sub hl [0, 1, 2, 3] rfl)

set_option maxHeartbeats 4000000 in
set_option maxRecDepth 100000 in
theorem law_13 {p : Program} {l : Launch} {e : Env} {s : State} {m : MethodId} {below : List Frame} {meth : Method} {c : Code} {D : va_G} {k : KT} {A : Nat → Prop} {a : Nat → Nat} {z : SK} {b L : Nat} {xs : Nat → Int32} (hL : L ≤ 3072) (C0 : lw_At p s m meth c b L xs) (hK : cK D k s) (hZ : Sx A z s) (hbA : ¬ A b) {G : GS} {i0 : Int32} (hi0 : 0 ≤ i0.toInt) (hi6 : i0.toInt + 6 ≤ L) (hI : LI G) (hB_G : Bd G) {H : Heap} {locs : List Loc} {ls : Array Slot} (hW : Wd D k A a G H) (hS : va_S A s.heap H locs) (hl : lv_has ls 4 [(0, .ref b), (1, .ref (a 0)), (2, .ref (a 66)), (3, .int i0)]) (K : ∀ (G1 : GS) (H1 : Heap) (locs1 : List Loc) (ls1 : Array Slot), LI G1 → Bd G1 → Wd D k A a G1 H1 → va_S A s.heap H1 locs1 → lv_has ls1 4 [(0, .ref b), (1, .ref (a 0)), (2, .ref (a 66)), (3, .int i0)] → W p l e room_1 s m #[Value.ref b] below meth c H1 locs1 119 46443 (lw_Z below #[Value.ref b] s) (F0 m 1641 ls1 [])) : W p l e room_1 s m #[Value.ref b] below meth c H locs 119 46443 (lw_Z below #[Value.ref b] s) (F0 m 753 ls []) := by
  obtain ⟨hx, hb, hr, hml, hown, hts, hX, hbl, hlocks, hgv⟩ := id C0
  have hown : s.vm.findClass RL = some m.cls := hown
  have hgd : ∀ w ∈ gd, w ∈ lw_tbl := fun w h => (List.mem_filter.mp h).1
  have hg : ∀ w ∈ gd, w.before #[Value.ref b] s = true := fun w h => hts w (hgd w h)
  rcases hI with ⟨hv_0_0, hv_0_1, hv_6_4, hj0, hj1, hj2, hj3, hj4, hj5, hj6, hj7, hj8, hj9, hj10, hj11, hj12⟩ | ⟨hv_0_0, hv_0_1, hv_6_4, hj0, hj1, hj2, hj3, hj4, hj5, hj6, hj7, hj8, hj9, hj10, hj11, hj12⟩
  · skip
    obtain ⟨p0, hp0⟩ : ∃ y, y = xs (i0 + 1).toNatClampNeg := ⟨_, rfl⟩
    obtain ⟨p1, hp1⟩ : ∃ y, y = xs (i0 + 2).toNatClampNeg := ⟨_, rfl⟩
    obtain ⟨p2, hp2⟩ : ∃ y, y = xs (i0 + 3).toNatClampNeg := ⟨_, rfl⟩
    obtain ⟨p3, hp3⟩ : ∃ y, y = xs (i0 + 4).toNatClampNeg := ⟨_, rfl⟩
    obtain ⟨p4, hp4⟩ : ∃ y, y = xs (i0 + 5).toNatClampNeg := ⟨_, rfl⟩
    refine lv_aload_n hx hb dL_law_753 rfl (lv_at hl 1 rfl) ?_
    refine ld_1 hL hi0 hi6 hx hb hX hbl hbA hS hl dL_law_754 dL_law_755 dL_law_756 dL_law_757 dL_law_758 hp0 ?_
    refine ld_2 hL hi0 hi6 hx hb hX hbl hbA hS hl dL_law_759 dL_law_760 dL_law_761 dL_law_762 dL_law_763 hp1 ?_
    refine ld_3 hL hi0 hi6 hx hb hX hbl hbA hS hl dL_law_764 dL_law_765 dL_law_766 dL_law_767 dL_law_768 hp2 ?_
    refine S_calli (va_runV (As := [.int p0, .int p1, .int p2]) (rest := []) ⟨hx, hb, hml, hown, hts⟩ (k_Wevens_1 l D k A a z G p0 p1 p2 hv_0_0 hv_0_1 hv_6_4) (cwV 3 hts (gd_V hgd m1053 m1054 m1055 m117 m1056) rfl rfl rfl hd_X11_evens ⟨Nat.le_of_ble_eq_true rfl, Nat.le_of_ble_eq_true rfl⟩) (pre_W hW hB_G hK hZ hS kd_0 rfl) rfl rfl hl.1 rfl (lv_room (Nat.le_of_ble_eq_true rfl)) dL_law_769 ⟨Nat.le_of_ble_eq_true rfl, Nat.le_of_ble_eq_true rfl⟩) hS (fun r_1 G_2 H locs hpo hW hS => ?_)
    have hX_5 : P_Wevens_1 p0 p1 p2 G r_1 G_2 := hpo
    obtain ⟨hB_G_2, hq_3, -⟩ := hpo
    refine lv_pop hx hb dL_law_772 rfl ?_
    refine lv_aload_n hx hb dL_law_773 rfl (lv_at hl 2 rfl) ?_
    refine ld_1 hL hi0 hi6 hx hb hX hbl hbA hS hl dL_law_774 dL_law_775 dL_law_776 dL_law_777 dL_law_778 hp0 ?_
    refine ld_2 hL hi0 hi6 hx hb hX hbl hbA hS hl dL_law_779 dL_law_780 dL_law_781 dL_law_782 dL_law_783 hp1 ?_
    refine ld_3 hL hi0 hi6 hx hb hX hbl hbA hS hl dL_law_784 dL_law_785 dL_law_786 dL_law_787 dL_law_788 hp2 ?_
    have fr_6 : Fr [33, 37, 38, 39, 40, 42] [(0, 12), (6, 3), (7, 1), (7, 2), (7, 3), (7, 4), (7, 5), (7, 6), (7, 7)] G G_2 := (Fr.call9 (rs := [33, 37, 38, 39, 40, 42]) (fs := [(0, 12), (6, 3), (7, 1), (7, 2), (7, 3), (7, 4), (7, 5), (7, 6), (7, 7)]) Fr.rf hq_3 rfl rfl)
    have g_7 : gP G_2 = gP G := gP_fr fr_6 (gr_q rfl) (gf_q rfl)
    have g_8 : gW G_2 = gW G := gW_fr fr_6 (gr_q rfl) (gf_q rfl)
    refine S_calli (va_runV (As := [.int p0, .int p1, .int p2]) (rest := []) ⟨hx, hb, hml, hown, hts⟩ (n_evens l D k A a z G_2 p0 p1 p2 (by omega) (by omega)) (cwV 3 hts (gd_V hgd m1895 m1896 m1897 m131 m1898) rfl rfl rfl hd_X12_evens ⟨Nat.le_of_ble_eq_true rfl, Nat.le_of_ble_eq_true rfl⟩) (pre_W hW hB_G_2 hK hZ hS kd_66 rfl) rfl rfl hl.1 rfl (lv_room (Nat.le_of_ble_eq_true rfl)) dL_law_789 ⟨Nat.le_of_ble_eq_true rfl, Nat.le_of_ble_eq_true rfl⟩) hS (fun r_9 G_10 H locs hpo hW hS => ?_)
    have hX_13 : Q_evens p0 p1 p2 G_2 r_9 G_10 := hpo
    obtain ⟨hB_G_10, hq_11, -⟩ := hpo
    have u_14 := L_evens_1 hX_5 hX_13 rfl rfl rfl (by omega)
    refine lv_pop hx hb dL_law_792 rfl ?_
    refine lv_goto (tgt := 1641) hx hb dL_law_793 rfl ?_
    exact K G_10 _ _ _ (Or.inl (LI_of_1 (LIn_fr_1 (LIn_fr_1 (show LIn_1 G from ⟨hv_0_0, hv_0_1, hv_6_4, hj0, hj1, hj2, hj3, hj4, hj5, hj6, hj7, hj8, hj9, hj10, hj11⟩) hq_3 (by decide +kernel)) hq_11 (by decide +kernel)) (by omega))) hB_G_10 hW hS (lv_sub hl [0, 1, 2, 3] rfl)
  · skip
    obtain ⟨p0, hp0⟩ : ∃ y, y = xs (i0 + 1).toNatClampNeg := ⟨_, rfl⟩
    obtain ⟨p1, hp1⟩ : ∃ y, y = xs (i0 + 2).toNatClampNeg := ⟨_, rfl⟩
    obtain ⟨p2, hp2⟩ : ∃ y, y = xs (i0 + 3).toNatClampNeg := ⟨_, rfl⟩
    obtain ⟨p3, hp3⟩ : ∃ y, y = xs (i0 + 4).toNatClampNeg := ⟨_, rfl⟩
    obtain ⟨p4, hp4⟩ : ∃ y, y = xs (i0 + 5).toNatClampNeg := ⟨_, rfl⟩
    refine lv_aload_n hx hb dL_law_753 rfl (lv_at hl 1 rfl) ?_
    refine ld_1 hL hi0 hi6 hx hb hX hbl hbA hS hl dL_law_754 dL_law_755 dL_law_756 dL_law_757 dL_law_758 hp0 ?_
    refine ld_2 hL hi0 hi6 hx hb hX hbl hbA hS hl dL_law_759 dL_law_760 dL_law_761 dL_law_762 dL_law_763 hp1 ?_
    refine ld_3 hL hi0 hi6 hx hb hX hbl hbA hS hl dL_law_764 dL_law_765 dL_law_766 dL_law_767 dL_law_768 hp2 ?_
    refine S_calli (va_runV (As := [.int p0, .int p1, .int p2]) (rest := []) ⟨hx, hb, hml, hown, hts⟩ (k_Wevens_2 l D k A a z G p0 p1 p2 hv_0_0 hv_0_1 hv_6_4) (cwV 3 hts (gd_V hgd m1053 m1054 m1055 m117 m1056) rfl rfl rfl hd_X11_evens ⟨Nat.le_of_ble_eq_true rfl, Nat.le_of_ble_eq_true rfl⟩) (pre_W hW hB_G hK hZ hS kd_0 rfl) rfl rfl hl.1 rfl (lv_room (Nat.le_of_ble_eq_true rfl)) dL_law_769 ⟨Nat.le_of_ble_eq_true rfl, Nat.le_of_ble_eq_true rfl⟩) hS (fun r_1 G_2 H locs hpo hW hS => ?_)
    have hX_5 : P_Wevens_2 p0 p1 p2 G r_1 G_2 := hpo
    obtain ⟨hB_G_2, hq_3, -⟩ := hpo
    refine lv_pop hx hb dL_law_772 rfl ?_
    refine lv_aload_n hx hb dL_law_773 rfl (lv_at hl 2 rfl) ?_
    refine ld_1 hL hi0 hi6 hx hb hX hbl hbA hS hl dL_law_774 dL_law_775 dL_law_776 dL_law_777 dL_law_778 hp0 ?_
    refine ld_2 hL hi0 hi6 hx hb hX hbl hbA hS hl dL_law_779 dL_law_780 dL_law_781 dL_law_782 dL_law_783 hp1 ?_
    refine ld_3 hL hi0 hi6 hx hb hX hbl hbA hS hl dL_law_784 dL_law_785 dL_law_786 dL_law_787 dL_law_788 hp2 ?_
    have fr_6 : Fr [33, 37, 38, 39, 40, 42] [(0, 12), (6, 3), (7, 1), (7, 2), (7, 3), (7, 4), (7, 5), (7, 6), (7, 7)] G G_2 := (Fr.call9 (rs := [33, 37, 38, 39, 40, 42]) (fs := [(0, 12), (6, 3), (7, 1), (7, 2), (7, 3), (7, 4), (7, 5), (7, 6), (7, 7)]) Fr.rf hq_3 rfl rfl)
    have g_7 : gP G_2 = gP G := gP_fr fr_6 (gr_q rfl) (gf_q rfl)
    have g_8 : gW G_2 = gW G := gW_fr fr_6 (gr_q rfl) (gf_q rfl)
    refine S_calli (va_runV (As := [.int p0, .int p1, .int p2]) (rest := []) ⟨hx, hb, hml, hown, hts⟩ (n_evens l D k A a z G_2 p0 p1 p2 (by omega) (by omega)) (cwV 3 hts (gd_V hgd m1895 m1896 m1897 m131 m1898) rfl rfl rfl hd_X12_evens ⟨Nat.le_of_ble_eq_true rfl, Nat.le_of_ble_eq_true rfl⟩) (pre_W hW hB_G_2 hK hZ hS kd_66 rfl) rfl rfl hl.1 rfl (lv_room (Nat.le_of_ble_eq_true rfl)) dL_law_789 ⟨Nat.le_of_ble_eq_true rfl, Nat.le_of_ble_eq_true rfl⟩) hS (fun r_9 G_10 H locs hpo hW hS => ?_)
    have hX_13 : Q_evens p0 p1 p2 G_2 r_9 G_10 := hpo
    obtain ⟨hB_G_10, hq_11, -⟩ := hpo
    have u_14 := L_evens_2 hX_5 hX_13 rfl rfl rfl (by omega)
    refine lv_pop hx hb dL_law_792 rfl ?_
    refine lv_goto (tgt := 1641) hx hb dL_law_793 rfl ?_
    exact K G_10 _ _ _ (Or.inr (LI_of_2 (LIn_fr_2 (LIn_fr_2 (show LIn_2 G from ⟨hv_0_0, hv_0_1, hv_6_4, hj0, hj1, hj2, hj3, hj4, hj5, hj6, hj7, hj8, hj9, hj10, hj11⟩) hq_3 (by decide +kernel)) hq_11 (by decide +kernel)) (by omega))) hB_G_10 hW hS (lv_sub hl [0, 1, 2, 3] rfl)

set_option maxHeartbeats 4000000 in
set_option maxRecDepth 100000 in
theorem law_14 {p : Program} {l : Launch} {e : Env} {s : State} {m : MethodId} {below : List Frame} {meth : Method} {c : Code} {D : va_G} {k : KT} {A : Nat → Prop} {a : Nat → Nat} {z : SK} {b L : Nat} {xs : Nat → Int32} (hL : L ≤ 3072) (C0 : lw_At p s m meth c b L xs) (hK : cK D k s) (hZ : Sx A z s) (hbA : ¬ A b) {G : GS} {i0 : Int32} (hi0 : 0 ≤ i0.toInt) (hi6 : i0.toInt + 6 ≤ L) (hI : LI G) (hB_G : Bd G) {H : Heap} {locs : List Loc} {ls : Array Slot} (hW : Wd D k A a G H) (hS : va_S A s.heap H locs) (hl : lv_has ls 4 [(0, .ref b), (1, .ref (a 0)), (2, .ref (a 66)), (3, .int i0)]) (K : ∀ (G1 : GS) (H1 : Heap) (locs1 : List Loc) (ls1 : Array Slot), LI G1 → Bd G1 → Wd D k A a G1 H1 → va_S A s.heap H1 locs1 → lv_has ls1 4 [(0, .ref b), (1, .ref (a 0)), (2, .ref (a 66)), (3, .int i0)] → W p l e room_1 s m #[Value.ref b] below meth c H1 locs1 119 46443 (lw_Z below #[Value.ref b] s) (F0 m 1641 ls1 [])) : W p l e room_1 s m #[Value.ref b] below meth c H locs 119 46443 (lw_Z below #[Value.ref b] s) (F0 m 796 ls []) := by
  obtain ⟨hx, hb, hr, hml, hown, hts, hX, hbl, hlocks, hgv⟩ := id C0
  have hown : s.vm.findClass RL = some m.cls := hown
  have hgd : ∀ w ∈ gd, w ∈ lw_tbl := fun w h => (List.mem_filter.mp h).1
  have hg : ∀ w ∈ gd, w.before #[Value.ref b] s = true := fun w h => hts w (hgd w h)
  rcases hI with ⟨hv_0_0, hv_0_1, hv_6_4, hj0, hj1, hj2, hj3, hj4, hj5, hj6, hj7, hj8, hj9, hj10, hj11, hj12⟩ | ⟨hv_0_0, hv_0_1, hv_6_4, hj0, hj1, hj2, hj3, hj4, hj5, hj6, hj7, hj8, hj9, hj10, hj11, hj12⟩
  · skip
    obtain ⟨p0, hp0⟩ : ∃ y, y = xs (i0 + 1).toNatClampNeg := ⟨_, rfl⟩
    obtain ⟨p1, hp1⟩ : ∃ y, y = xs (i0 + 2).toNatClampNeg := ⟨_, rfl⟩
    obtain ⟨p2, hp2⟩ : ∃ y, y = xs (i0 + 3).toNatClampNeg := ⟨_, rfl⟩
    obtain ⟨p3, hp3⟩ : ∃ y, y = xs (i0 + 4).toNatClampNeg := ⟨_, rfl⟩
    obtain ⟨p4, hp4⟩ : ∃ y, y = xs (i0 + 5).toNatClampNeg := ⟨_, rfl⟩
    refine lv_aload_n hx hb dL_law_796 rfl (lv_at hl 1 rfl) ?_
    refine ld_1 hL hi0 hi6 hx hb hX hbl hbA hS hl dL_law_797 dL_law_798 dL_law_799 dL_law_800 dL_law_801 hp0 ?_
    refine ld_2 hL hi0 hi6 hx hb hX hbl hbA hS hl dL_law_802 dL_law_803 dL_law_804 dL_law_805 dL_law_806 hp1 ?_
    refine ld_3 hL hi0 hi6 hx hb hX hbl hbA hS hl dL_law_807 dL_law_808 dL_law_809 dL_law_810 dL_law_811 hp2 ?_
    refine ld_4 hL hi0 hi6 hx hb hX hbl hbA hS hl dL_law_812 dL_law_813 dL_law_814 dL_law_815 dL_law_816 hp3 ?_
    refine ld_5 hL hi0 hi6 hx hb hX hbl hbA hS hl dL_law_817 dL_law_818 dL_law_819 dL_law_820 dL_law_821 hp4 ?_
    refine S_calli (va_runV (As := [.int p0, .int p1, .int p2, .int p3, .int p4]) (rest := []) ⟨hx, hb, hml, hown, hts⟩ (k_Wfirst l D k A a z G p0 p1 p2 p3 p4 ) (cwV 5 hts (gd_V hgd m1065 m1066 m1067 m117 m1068) rfl rfl rfl hd_X11_first ⟨Nat.le_of_ble_eq_true rfl, Nat.le_of_ble_eq_true rfl⟩) (pre_W hW hB_G hK hZ hS kd_0 rfl) rfl rfl hl.1 rfl (lv_room (Nat.le_of_ble_eq_true rfl)) dL_law_822 ⟨Nat.le_of_ble_eq_true rfl, Nat.le_of_ble_eq_true rfl⟩) hS (fun r_1 G_2 H locs hpo hW hS => ?_)
    have hX_5 : P_Wfirst p0 p1 p2 p3 p4 G r_1 G_2 := hpo
    obtain ⟨hB_G_2, hq_3, -⟩ := hpo
    refine lv_pop hx hb dL_law_825 rfl ?_
    refine lv_aload_n hx hb dL_law_826 rfl (lv_at hl 2 rfl) ?_
    refine ld_1 hL hi0 hi6 hx hb hX hbl hbA hS hl dL_law_827 dL_law_828 dL_law_829 dL_law_830 dL_law_831 hp0 ?_
    refine ld_2 hL hi0 hi6 hx hb hX hbl hbA hS hl dL_law_832 dL_law_833 dL_law_834 dL_law_835 dL_law_836 hp1 ?_
    refine ld_3 hL hi0 hi6 hx hb hX hbl hbA hS hl dL_law_837 dL_law_838 dL_law_839 dL_law_840 dL_law_841 hp2 ?_
    refine ld_4 hL hi0 hi6 hx hb hX hbl hbA hS hl dL_law_842 dL_law_843 dL_law_844 dL_law_845 dL_law_846 hp3 ?_
    refine ld_5 hL hi0 hi6 hx hb hX hbl hbA hS hl dL_law_847 dL_law_848 dL_law_849 dL_law_850 dL_law_851 hp4 ?_
    refine S_calli (va_runV (As := [.int p0, .int p1, .int p2, .int p3, .int p4]) (rest := []) ⟨hx, hb, hml, hown, hts⟩ (n_first l D k A a z G_2 p0 p1 p2 p3 p4 ) (cwV 5 hts (gd_V hgd m1903 m1904 m1905 m131 m1906) rfl rfl rfl hd_X12_first ⟨Nat.le_of_ble_eq_true rfl, Nat.le_of_ble_eq_true rfl⟩) (pre_W hW hB_G_2 hK hZ hS kd_66 rfl) rfl rfl hl.1 rfl (lv_room (Nat.le_of_ble_eq_true rfl)) dL_law_852 ⟨Nat.le_of_ble_eq_true rfl, Nat.le_of_ble_eq_true rfl⟩) hS (fun r_6 G_7 H locs hpo hW hS => ?_)
    have hX_10 : Q_first p0 p1 p2 p3 p4 G_2 r_6 G_7 := hpo
    obtain ⟨hB_G_7, hq_8, -⟩ := hpo
    refine lv_pop hx hb dL_law_855 rfl ?_
    refine lv_goto (tgt := 1641) hx hb dL_law_856 rfl ?_
    have fr_11 : Fr [] [] G G_7 := (Fr.call9 (rs := []) (fs := []) (Fr.call9 (rs := []) (fs := []) Fr.rf hq_3 rfl rfl) hq_8 rfl rfl)
    have g_12 : gIA G_7 = gIA G := gIA_fr fr_11 (gr_q rfl) (gf_q rfl)
    exact K G_7 _ _ _ (Or.inl (LI_of_1 (LIn_fr_1 (LIn_fr_1 (show LIn_1 G from ⟨hv_0_0, hv_0_1, hv_6_4, hj0, hj1, hj2, hj3, hj4, hj5, hj6, hj7, hj8, hj9, hj10, hj11⟩) hq_3 (by decide +kernel)) hq_8 (by decide +kernel)) (by omega))) hB_G_7 hW hS (lv_sub hl [0, 1, 2, 3] rfl)
  · skip
    obtain ⟨p0, hp0⟩ : ∃ y, y = xs (i0 + 1).toNatClampNeg := ⟨_, rfl⟩
    obtain ⟨p1, hp1⟩ : ∃ y, y = xs (i0 + 2).toNatClampNeg := ⟨_, rfl⟩
    obtain ⟨p2, hp2⟩ : ∃ y, y = xs (i0 + 3).toNatClampNeg := ⟨_, rfl⟩
    obtain ⟨p3, hp3⟩ : ∃ y, y = xs (i0 + 4).toNatClampNeg := ⟨_, rfl⟩
    obtain ⟨p4, hp4⟩ : ∃ y, y = xs (i0 + 5).toNatClampNeg := ⟨_, rfl⟩
    refine lv_aload_n hx hb dL_law_796 rfl (lv_at hl 1 rfl) ?_
    refine ld_1 hL hi0 hi6 hx hb hX hbl hbA hS hl dL_law_797 dL_law_798 dL_law_799 dL_law_800 dL_law_801 hp0 ?_
    refine ld_2 hL hi0 hi6 hx hb hX hbl hbA hS hl dL_law_802 dL_law_803 dL_law_804 dL_law_805 dL_law_806 hp1 ?_
    refine ld_3 hL hi0 hi6 hx hb hX hbl hbA hS hl dL_law_807 dL_law_808 dL_law_809 dL_law_810 dL_law_811 hp2 ?_
    refine ld_4 hL hi0 hi6 hx hb hX hbl hbA hS hl dL_law_812 dL_law_813 dL_law_814 dL_law_815 dL_law_816 hp3 ?_
    refine ld_5 hL hi0 hi6 hx hb hX hbl hbA hS hl dL_law_817 dL_law_818 dL_law_819 dL_law_820 dL_law_821 hp4 ?_
    refine S_calli (va_runV (As := [.int p0, .int p1, .int p2, .int p3, .int p4]) (rest := []) ⟨hx, hb, hml, hown, hts⟩ (k_Wfirst l D k A a z G p0 p1 p2 p3 p4 ) (cwV 5 hts (gd_V hgd m1065 m1066 m1067 m117 m1068) rfl rfl rfl hd_X11_first ⟨Nat.le_of_ble_eq_true rfl, Nat.le_of_ble_eq_true rfl⟩) (pre_W hW hB_G hK hZ hS kd_0 rfl) rfl rfl hl.1 rfl (lv_room (Nat.le_of_ble_eq_true rfl)) dL_law_822 ⟨Nat.le_of_ble_eq_true rfl, Nat.le_of_ble_eq_true rfl⟩) hS (fun r_1 G_2 H locs hpo hW hS => ?_)
    have hX_5 : P_Wfirst p0 p1 p2 p3 p4 G r_1 G_2 := hpo
    obtain ⟨hB_G_2, hq_3, -⟩ := hpo
    refine lv_pop hx hb dL_law_825 rfl ?_
    refine lv_aload_n hx hb dL_law_826 rfl (lv_at hl 2 rfl) ?_
    refine ld_1 hL hi0 hi6 hx hb hX hbl hbA hS hl dL_law_827 dL_law_828 dL_law_829 dL_law_830 dL_law_831 hp0 ?_
    refine ld_2 hL hi0 hi6 hx hb hX hbl hbA hS hl dL_law_832 dL_law_833 dL_law_834 dL_law_835 dL_law_836 hp1 ?_
    refine ld_3 hL hi0 hi6 hx hb hX hbl hbA hS hl dL_law_837 dL_law_838 dL_law_839 dL_law_840 dL_law_841 hp2 ?_
    refine ld_4 hL hi0 hi6 hx hb hX hbl hbA hS hl dL_law_842 dL_law_843 dL_law_844 dL_law_845 dL_law_846 hp3 ?_
    refine ld_5 hL hi0 hi6 hx hb hX hbl hbA hS hl dL_law_847 dL_law_848 dL_law_849 dL_law_850 dL_law_851 hp4 ?_
    refine S_calli (va_runV (As := [.int p0, .int p1, .int p2, .int p3, .int p4]) (rest := []) ⟨hx, hb, hml, hown, hts⟩ (n_first l D k A a z G_2 p0 p1 p2 p3 p4 ) (cwV 5 hts (gd_V hgd m1903 m1904 m1905 m131 m1906) rfl rfl rfl hd_X12_first ⟨Nat.le_of_ble_eq_true rfl, Nat.le_of_ble_eq_true rfl⟩) (pre_W hW hB_G_2 hK hZ hS kd_66 rfl) rfl rfl hl.1 rfl (lv_room (Nat.le_of_ble_eq_true rfl)) dL_law_852 ⟨Nat.le_of_ble_eq_true rfl, Nat.le_of_ble_eq_true rfl⟩) hS (fun r_6 G_7 H locs hpo hW hS => ?_)
    have hX_10 : Q_first p0 p1 p2 p3 p4 G_2 r_6 G_7 := hpo
    obtain ⟨hB_G_7, hq_8, -⟩ := hpo
    refine lv_pop hx hb dL_law_855 rfl ?_
    refine lv_goto (tgt := 1641) hx hb dL_law_856 rfl ?_
    have fr_11 : Fr [] [] G G_7 := (Fr.call9 (rs := []) (fs := []) (Fr.call9 (rs := []) (fs := []) Fr.rf hq_3 rfl rfl) hq_8 rfl rfl)
    have g_12 : gIB G_7 = gIB G := gIB_fr fr_11 (gr_q rfl) (gf_q rfl)
    exact K G_7 _ _ _ (Or.inr (LI_of_2 (LIn_fr_2 (LIn_fr_2 (show LIn_2 G from ⟨hv_0_0, hv_0_1, hv_6_4, hj0, hj1, hj2, hj3, hj4, hj5, hj6, hj7, hj8, hj9, hj10, hj11⟩) hq_3 (by decide +kernel)) hq_8 (by decide +kernel)) (by omega))) hB_G_7 hW hS (lv_sub hl [0, 1, 2, 3] rfl)

set_option maxHeartbeats 4000000 in
set_option maxRecDepth 100000 in
theorem law_15 {p : Program} {l : Launch} {e : Env} {s : State} {m : MethodId} {below : List Frame} {meth : Method} {c : Code} {D : va_G} {k : KT} {A : Nat → Prop} {a : Nat → Nat} {z : SK} {b L : Nat} {xs : Nat → Int32} (hL : L ≤ 3072) (C0 : lw_At p s m meth c b L xs) (hK : cK D k s) (hZ : Sx A z s) (hbA : ¬ A b) {G : GS} {i0 : Int32} (hi0 : 0 ≤ i0.toInt) (hi6 : i0.toInt + 6 ≤ L) (hI : LI G) (hB_G : Bd G) {H : Heap} {locs : List Loc} {ls : Array Slot} (hW : Wd D k A a G H) (hS : va_S A s.heap H locs) (hl : lv_has ls 4 [(0, .ref b), (1, .ref (a 0)), (2, .ref (a 66)), (3, .int i0)]) (K : ∀ (G1 : GS) (H1 : Heap) (locs1 : List Loc) (ls1 : Array Slot), LI G1 → Bd G1 → Wd D k A a G1 H1 → va_S A s.heap H1 locs1 → lv_has ls1 4 [(0, .ref b), (1, .ref (a 0)), (2, .ref (a 66)), (3, .int i0)] → W p l e room_1 s m #[Value.ref b] below meth c H1 locs1 119 46443 (lw_Z below #[Value.ref b] s) (F0 m 1641 ls1 [])) : W p l e room_1 s m #[Value.ref b] below meth c H locs 119 46443 (lw_Z below #[Value.ref b] s) (F0 m 859 ls []) := by
  obtain ⟨hx, hb, hr, hml, hown, hts, hX, hbl, hlocks, hgv⟩ := id C0
  have hown : s.vm.findClass RL = some m.cls := hown
  have hgd : ∀ w ∈ gd, w ∈ lw_tbl := fun w h => (List.mem_filter.mp h).1
  have hg : ∀ w ∈ gd, w.before #[Value.ref b] s = true := fun w h => hts w (hgd w h)
  rcases hI with ⟨hv_0_0, hv_0_1, hv_6_4, hj0, hj1, hj2, hj3, hj4, hj5, hj6, hj7, hj8, hj9, hj10, hj11, hj12⟩ | ⟨hv_0_0, hv_0_1, hv_6_4, hj0, hj1, hj2, hj3, hj4, hj5, hj6, hj7, hj8, hj9, hj10, hj11, hj12⟩
  · skip
    obtain ⟨p0, hp0⟩ : ∃ y, y = xs (i0 + 1).toNatClampNeg := ⟨_, rfl⟩
    obtain ⟨p1, hp1⟩ : ∃ y, y = xs (i0 + 2).toNatClampNeg := ⟨_, rfl⟩
    obtain ⟨p2, hp2⟩ : ∃ y, y = xs (i0 + 3).toNatClampNeg := ⟨_, rfl⟩
    obtain ⟨p3, hp3⟩ : ∃ y, y = xs (i0 + 4).toNatClampNeg := ⟨_, rfl⟩
    obtain ⟨p4, hp4⟩ : ∃ y, y = xs (i0 + 5).toNatClampNeg := ⟨_, rfl⟩
    refine lv_aload_n hx hb dL_law_859 rfl (lv_at hl 1 rfl) ?_
    refine ld_1 hL hi0 hi6 hx hb hX hbl hbA hS hl dL_law_860 dL_law_861 dL_law_862 dL_law_863 dL_law_864 hp0 ?_
    refine ld_2 hL hi0 hi6 hx hb hX hbl hbA hS hl dL_law_865 dL_law_866 dL_law_867 dL_law_868 dL_law_869 hp1 ?_
    refine ld_3 hL hi0 hi6 hx hb hX hbl hbA hS hl dL_law_870 dL_law_871 dL_law_872 dL_law_873 dL_law_874 hp2 ?_
    refine ld_4 hL hi0 hi6 hx hb hX hbl hbA hS hl dL_law_875 dL_law_876 dL_law_877 dL_law_878 dL_law_879 hp3 ?_
    refine S_calli (va_runV (As := [.int p0, .int p1, .int p2, .int p3]) (rest := []) ⟨hx, hb, hml, hown, hts⟩ (k_Wbegin l D k A a z G p0 p1 p2 p3 ) (cwV 4 hts (gd_V hgd m1072 m1073 m1074 m117 m1075) rfl rfl rfl hd_X11_begin ⟨Nat.le_of_ble_eq_true rfl, Nat.le_of_ble_eq_true rfl⟩) (pre_W hW hB_G hK hZ hS kd_0 rfl) rfl rfl hl.1 rfl (lv_room (Nat.le_of_ble_eq_true rfl)) dL_law_880 ⟨Nat.le_of_ble_eq_true rfl, Nat.le_of_ble_eq_true rfl⟩) hS (fun r_1 G_2 H locs hpo hW hS => ?_)
    have hX_5 : P_Wbegin p0 p1 p2 p3 G r_1 G_2 := hpo
    obtain ⟨hB_G_2, hq_3, -⟩ := hpo
    refine lv_pop hx hb dL_law_883 rfl ?_
    refine lv_aload_n hx hb dL_law_884 rfl (lv_at hl 2 rfl) ?_
    refine ld_1 hL hi0 hi6 hx hb hX hbl hbA hS hl dL_law_885 dL_law_886 dL_law_887 dL_law_888 dL_law_889 hp0 ?_
    refine ld_2 hL hi0 hi6 hx hb hX hbl hbA hS hl dL_law_890 dL_law_891 dL_law_892 dL_law_893 dL_law_894 hp1 ?_
    refine ld_3 hL hi0 hi6 hx hb hX hbl hbA hS hl dL_law_895 dL_law_896 dL_law_897 dL_law_898 dL_law_899 hp2 ?_
    refine ld_4 hL hi0 hi6 hx hb hX hbl hbA hS hl dL_law_900 dL_law_901 dL_law_902 dL_law_903 dL_law_904 hp3 ?_
    refine S_calli (va_runV (As := [.int p0, .int p1, .int p2, .int p3]) (rest := []) ⟨hx, hb, hml, hown, hts⟩ (n_begin l D k A a z G_2 p0 p1 p2 p3 ) (cwV 4 hts (gd_V hgd m1916 m1917 m1918 m131 m1919) rfl rfl rfl hd_X12_begin ⟨Nat.le_of_ble_eq_true rfl, Nat.le_of_ble_eq_true rfl⟩) (pre_W hW hB_G_2 hK hZ hS kd_66 rfl) rfl rfl hl.1 rfl (lv_room (Nat.le_of_ble_eq_true rfl)) dL_law_905 ⟨Nat.le_of_ble_eq_true rfl, Nat.le_of_ble_eq_true rfl⟩) hS (fun r_6 G_7 H locs hpo hW hS => ?_)
    have hX_10 : Q_begin p0 p1 p2 p3 G_2 r_6 G_7 := hpo
    obtain ⟨hB_G_7, hq_8, -⟩ := hpo
    refine lv_pop hx hb dL_law_908 rfl ?_
    refine lv_goto (tgt := 1641) hx hb dL_law_909 rfl ?_
    have fr_11 : Fr [] [] G G_7 := (Fr.call9 (rs := []) (fs := []) (Fr.call9 (rs := []) (fs := []) Fr.rf hq_3 rfl rfl) hq_8 rfl rfl)
    have g_12 : gIA G_7 = gIA G := gIA_fr fr_11 (gr_q rfl) (gf_q rfl)
    exact K G_7 _ _ _ (Or.inl (LI_of_1 (LIn_fr_1 (LIn_fr_1 (show LIn_1 G from ⟨hv_0_0, hv_0_1, hv_6_4, hj0, hj1, hj2, hj3, hj4, hj5, hj6, hj7, hj8, hj9, hj10, hj11⟩) hq_3 (by decide +kernel)) hq_8 (by decide +kernel)) (by omega))) hB_G_7 hW hS (lv_sub hl [0, 1, 2, 3] rfl)
  · skip
    obtain ⟨p0, hp0⟩ : ∃ y, y = xs (i0 + 1).toNatClampNeg := ⟨_, rfl⟩
    obtain ⟨p1, hp1⟩ : ∃ y, y = xs (i0 + 2).toNatClampNeg := ⟨_, rfl⟩
    obtain ⟨p2, hp2⟩ : ∃ y, y = xs (i0 + 3).toNatClampNeg := ⟨_, rfl⟩
    obtain ⟨p3, hp3⟩ : ∃ y, y = xs (i0 + 4).toNatClampNeg := ⟨_, rfl⟩
    obtain ⟨p4, hp4⟩ : ∃ y, y = xs (i0 + 5).toNatClampNeg := ⟨_, rfl⟩
    refine lv_aload_n hx hb dL_law_859 rfl (lv_at hl 1 rfl) ?_
    refine ld_1 hL hi0 hi6 hx hb hX hbl hbA hS hl dL_law_860 dL_law_861 dL_law_862 dL_law_863 dL_law_864 hp0 ?_
    refine ld_2 hL hi0 hi6 hx hb hX hbl hbA hS hl dL_law_865 dL_law_866 dL_law_867 dL_law_868 dL_law_869 hp1 ?_
    refine ld_3 hL hi0 hi6 hx hb hX hbl hbA hS hl dL_law_870 dL_law_871 dL_law_872 dL_law_873 dL_law_874 hp2 ?_
    refine ld_4 hL hi0 hi6 hx hb hX hbl hbA hS hl dL_law_875 dL_law_876 dL_law_877 dL_law_878 dL_law_879 hp3 ?_
    refine S_calli (va_runV (As := [.int p0, .int p1, .int p2, .int p3]) (rest := []) ⟨hx, hb, hml, hown, hts⟩ (k_Wbegin l D k A a z G p0 p1 p2 p3 ) (cwV 4 hts (gd_V hgd m1072 m1073 m1074 m117 m1075) rfl rfl rfl hd_X11_begin ⟨Nat.le_of_ble_eq_true rfl, Nat.le_of_ble_eq_true rfl⟩) (pre_W hW hB_G hK hZ hS kd_0 rfl) rfl rfl hl.1 rfl (lv_room (Nat.le_of_ble_eq_true rfl)) dL_law_880 ⟨Nat.le_of_ble_eq_true rfl, Nat.le_of_ble_eq_true rfl⟩) hS (fun r_1 G_2 H locs hpo hW hS => ?_)
    have hX_5 : P_Wbegin p0 p1 p2 p3 G r_1 G_2 := hpo
    obtain ⟨hB_G_2, hq_3, -⟩ := hpo
    refine lv_pop hx hb dL_law_883 rfl ?_
    refine lv_aload_n hx hb dL_law_884 rfl (lv_at hl 2 rfl) ?_
    refine ld_1 hL hi0 hi6 hx hb hX hbl hbA hS hl dL_law_885 dL_law_886 dL_law_887 dL_law_888 dL_law_889 hp0 ?_
    refine ld_2 hL hi0 hi6 hx hb hX hbl hbA hS hl dL_law_890 dL_law_891 dL_law_892 dL_law_893 dL_law_894 hp1 ?_
    refine ld_3 hL hi0 hi6 hx hb hX hbl hbA hS hl dL_law_895 dL_law_896 dL_law_897 dL_law_898 dL_law_899 hp2 ?_
    refine ld_4 hL hi0 hi6 hx hb hX hbl hbA hS hl dL_law_900 dL_law_901 dL_law_902 dL_law_903 dL_law_904 hp3 ?_
    refine S_calli (va_runV (As := [.int p0, .int p1, .int p2, .int p3]) (rest := []) ⟨hx, hb, hml, hown, hts⟩ (n_begin l D k A a z G_2 p0 p1 p2 p3 ) (cwV 4 hts (gd_V hgd m1916 m1917 m1918 m131 m1919) rfl rfl rfl hd_X12_begin ⟨Nat.le_of_ble_eq_true rfl, Nat.le_of_ble_eq_true rfl⟩) (pre_W hW hB_G_2 hK hZ hS kd_66 rfl) rfl rfl hl.1 rfl (lv_room (Nat.le_of_ble_eq_true rfl)) dL_law_905 ⟨Nat.le_of_ble_eq_true rfl, Nat.le_of_ble_eq_true rfl⟩) hS (fun r_6 G_7 H locs hpo hW hS => ?_)
    have hX_10 : Q_begin p0 p1 p2 p3 G_2 r_6 G_7 := hpo
    obtain ⟨hB_G_7, hq_8, -⟩ := hpo
    refine lv_pop hx hb dL_law_908 rfl ?_
    refine lv_goto (tgt := 1641) hx hb dL_law_909 rfl ?_
    have fr_11 : Fr [] [] G G_7 := (Fr.call9 (rs := []) (fs := []) (Fr.call9 (rs := []) (fs := []) Fr.rf hq_3 rfl rfl) hq_8 rfl rfl)
    have g_12 : gIB G_7 = gIB G := gIB_fr fr_11 (gr_q rfl) (gf_q rfl)
    exact K G_7 _ _ _ (Or.inr (LI_of_2 (LIn_fr_2 (LIn_fr_2 (show LIn_2 G from ⟨hv_0_0, hv_0_1, hv_6_4, hj0, hj1, hj2, hj3, hj4, hj5, hj6, hj7, hj8, hj9, hj10, hj11⟩) hq_3 (by decide +kernel)) hq_8 (by decide +kernel)) (by omega))) hB_G_7 hW hS (lv_sub hl [0, 1, 2, 3] rfl)

set_option maxHeartbeats 4000000 in
set_option maxRecDepth 100000 in
theorem law_16 {p : Program} {l : Launch} {e : Env} {s : State} {m : MethodId} {below : List Frame} {meth : Method} {c : Code} {D : va_G} {k : KT} {A : Nat → Prop} {a : Nat → Nat} {z : SK} {b L : Nat} {xs : Nat → Int32} (hL : L ≤ 3072) (C0 : lw_At p s m meth c b L xs) (hK : cK D k s) (hZ : Sx A z s) (hbA : ¬ A b) {G : GS} {i0 : Int32} (hi0 : 0 ≤ i0.toInt) (hi6 : i0.toInt + 6 ≤ L) (hI : LI G) (hB_G : Bd G) {H : Heap} {locs : List Loc} {ls : Array Slot} (hW : Wd D k A a G H) (hS : va_S A s.heap H locs) (hl : lv_has ls 4 [(0, .ref b), (1, .ref (a 0)), (2, .ref (a 66)), (3, .int i0)]) (K : ∀ (G1 : GS) (H1 : Heap) (locs1 : List Loc) (ls1 : Array Slot), LI G1 → Bd G1 → Wd D k A a G1 H1 → va_S A s.heap H1 locs1 → lv_has ls1 4 [(0, .ref b), (1, .ref (a 0)), (2, .ref (a 66)), (3, .int i0)] → W p l e room_1 s m #[Value.ref b] below meth c H1 locs1 119 46443 (lw_Z below #[Value.ref b] s) (F0 m 1641 ls1 [])) : W p l e room_1 s m #[Value.ref b] below meth c H locs 119 46443 (lw_Z below #[Value.ref b] s) (F0 m 912 ls []) := by
  obtain ⟨hx, hb, hr, hml, hown, hts, hX, hbl, hlocks, hgv⟩ := id C0
  have hown : s.vm.findClass RL = some m.cls := hown
  have hgd : ∀ w ∈ gd, w ∈ lw_tbl := fun w h => (List.mem_filter.mp h).1
  have hg : ∀ w ∈ gd, w.before #[Value.ref b] s = true := fun w h => hts w (hgd w h)
  rcases hI with ⟨hv_0_0, hv_0_1, hv_6_4, hj0, hj1, hj2, hj3, hj4, hj5, hj6, hj7, hj8, hj9, hj10, hj11, hj12⟩ | ⟨hv_0_0, hv_0_1, hv_6_4, hj0, hj1, hj2, hj3, hj4, hj5, hj6, hj7, hj8, hj9, hj10, hj11, hj12⟩
  · skip
    obtain ⟨p0, hp0⟩ : ∃ y, y = xs (i0 + 1).toNatClampNeg := ⟨_, rfl⟩
    obtain ⟨p1, hp1⟩ : ∃ y, y = xs (i0 + 2).toNatClampNeg := ⟨_, rfl⟩
    obtain ⟨p2, hp2⟩ : ∃ y, y = xs (i0 + 3).toNatClampNeg := ⟨_, rfl⟩
    obtain ⟨p3, hp3⟩ : ∃ y, y = xs (i0 + 4).toNatClampNeg := ⟨_, rfl⟩
    obtain ⟨p4, hp4⟩ : ∃ y, y = xs (i0 + 5).toNatClampNeg := ⟨_, rfl⟩
    refine lv_aload_n hx hb dL_law_912 rfl (lv_at hl 1 rfl) ?_
    refine ld_1 hL hi0 hi6 hx hb hX hbl hbA hS hl dL_law_913 dL_law_914 dL_law_915 dL_law_916 dL_law_917 hp0 ?_
    refine ld_2 hL hi0 hi6 hx hb hX hbl hbA hS hl dL_law_918 dL_law_919 dL_law_920 dL_law_921 dL_law_922 hp1 ?_
    refine ld_3 hL hi0 hi6 hx hb hX hbl hbA hS hl dL_law_923 dL_law_924 dL_law_925 dL_law_926 dL_law_927 hp2 ?_
    refine ld_4 hL hi0 hi6 hx hb hX hbl hbA hS hl dL_law_928 dL_law_929 dL_law_930 dL_law_931 dL_law_932 hp3 ?_
    refine ld_5 hL hi0 hi6 hx hb hX hbl hbA hS hl dL_law_933 dL_law_934 dL_law_935 dL_law_936 dL_law_937 hp4 ?_
    refine S_calll (va_runV (As := [.int p0, .int p1, .int p2, .int p3, .int p4]) (rest := []) ⟨hx, hb, hml, hown, hts⟩ (k_Wsuits l D k A a z G p0 p1 p2 p3 p4 ) (cwV 5 hts (gd_V hgd m1083 m1084 m1085 m117 m1086) rfl rfl rfl hd_X11_suits ⟨Nat.le_of_ble_eq_true rfl, Nat.le_of_ble_eq_true rfl⟩) (pre_W hW hB_G hK hZ hS kd_0 rfl) rfl rfl hl.1 rfl (lv_room (Nat.le_of_ble_eq_true rfl)) dL_law_938 ⟨Nat.le_of_ble_eq_true rfl, Nat.le_of_ble_eq_true rfl⟩) hS (fun r_1 G_2 H locs hpo hW hS => ?_)
    have hX_5 : P_Wsuits p0 p1 p2 p3 p4 G r_1 G_2 := hpo
    obtain ⟨hB_G_2, hq_3, -⟩ := hpo
    refine lv_pop2_2 hx hb dL_law_941 rfl ?_
    refine lv_aload_n hx hb dL_law_942 rfl (lv_at hl 2 rfl) ?_
    refine ld_1 hL hi0 hi6 hx hb hX hbl hbA hS hl dL_law_943 dL_law_944 dL_law_945 dL_law_946 dL_law_947 hp0 ?_
    refine ld_2 hL hi0 hi6 hx hb hX hbl hbA hS hl dL_law_948 dL_law_949 dL_law_950 dL_law_951 dL_law_952 hp1 ?_
    refine ld_3 hL hi0 hi6 hx hb hX hbl hbA hS hl dL_law_953 dL_law_954 dL_law_955 dL_law_956 dL_law_957 hp2 ?_
    refine ld_4 hL hi0 hi6 hx hb hX hbl hbA hS hl dL_law_958 dL_law_959 dL_law_960 dL_law_961 dL_law_962 hp3 ?_
    refine ld_5 hL hi0 hi6 hx hb hX hbl hbA hS hl dL_law_963 dL_law_964 dL_law_965 dL_law_966 dL_law_967 hp4 ?_
    refine S_calll (va_runV (As := [.int p0, .int p1, .int p2, .int p3, .int p4]) (rest := []) ⟨hx, hb, hml, hown, hts⟩ (n_suits l D k A a z G_2 p0 p1 p2 p3 p4 ) (cwV 5 hts (gd_V hgd m1923 m1924 m1925 m131 m1926) rfl rfl rfl hd_X12_suits ⟨Nat.le_of_ble_eq_true rfl, Nat.le_of_ble_eq_true rfl⟩) (pre_W hW hB_G_2 hK hZ hS kd_66 rfl) rfl rfl hl.1 rfl (lv_room (Nat.le_of_ble_eq_true rfl)) dL_law_968 ⟨Nat.le_of_ble_eq_true rfl, Nat.le_of_ble_eq_true rfl⟩) hS (fun r_6 G_7 H locs hpo hW hS => ?_)
    have hX_10 : Q_suits p0 p1 p2 p3 p4 G_2 r_6 G_7 := hpo
    obtain ⟨hB_G_7, hq_8, -⟩ := hpo
    refine lv_pop2_2 hx hb dL_law_971 rfl ?_
    refine lv_goto (tgt := 1641) hx hb dL_law_972 rfl ?_
    have fr_11 : Fr [] [] G G_7 := (Fr.call9 (rs := []) (fs := []) (Fr.call9 (rs := []) (fs := []) Fr.rf hq_3 rfl rfl) hq_8 rfl rfl)
    have g_12 : gIA G_7 = gIA G := gIA_fr fr_11 (gr_q rfl) (gf_q rfl)
    exact K G_7 _ _ _ (Or.inl (LI_of_1 (LIn_fr_1 (LIn_fr_1 (show LIn_1 G from ⟨hv_0_0, hv_0_1, hv_6_4, hj0, hj1, hj2, hj3, hj4, hj5, hj6, hj7, hj8, hj9, hj10, hj11⟩) hq_3 (by decide +kernel)) hq_8 (by decide +kernel)) (by omega))) hB_G_7 hW hS (lv_sub hl [0, 1, 2, 3] rfl)
  · skip
    obtain ⟨p0, hp0⟩ : ∃ y, y = xs (i0 + 1).toNatClampNeg := ⟨_, rfl⟩
    obtain ⟨p1, hp1⟩ : ∃ y, y = xs (i0 + 2).toNatClampNeg := ⟨_, rfl⟩
    obtain ⟨p2, hp2⟩ : ∃ y, y = xs (i0 + 3).toNatClampNeg := ⟨_, rfl⟩
    obtain ⟨p3, hp3⟩ : ∃ y, y = xs (i0 + 4).toNatClampNeg := ⟨_, rfl⟩
    obtain ⟨p4, hp4⟩ : ∃ y, y = xs (i0 + 5).toNatClampNeg := ⟨_, rfl⟩
    refine lv_aload_n hx hb dL_law_912 rfl (lv_at hl 1 rfl) ?_
    refine ld_1 hL hi0 hi6 hx hb hX hbl hbA hS hl dL_law_913 dL_law_914 dL_law_915 dL_law_916 dL_law_917 hp0 ?_
    refine ld_2 hL hi0 hi6 hx hb hX hbl hbA hS hl dL_law_918 dL_law_919 dL_law_920 dL_law_921 dL_law_922 hp1 ?_
    refine ld_3 hL hi0 hi6 hx hb hX hbl hbA hS hl dL_law_923 dL_law_924 dL_law_925 dL_law_926 dL_law_927 hp2 ?_
    refine ld_4 hL hi0 hi6 hx hb hX hbl hbA hS hl dL_law_928 dL_law_929 dL_law_930 dL_law_931 dL_law_932 hp3 ?_
    refine ld_5 hL hi0 hi6 hx hb hX hbl hbA hS hl dL_law_933 dL_law_934 dL_law_935 dL_law_936 dL_law_937 hp4 ?_
    refine S_calll (va_runV (As := [.int p0, .int p1, .int p2, .int p3, .int p4]) (rest := []) ⟨hx, hb, hml, hown, hts⟩ (k_Wsuits l D k A a z G p0 p1 p2 p3 p4 ) (cwV 5 hts (gd_V hgd m1083 m1084 m1085 m117 m1086) rfl rfl rfl hd_X11_suits ⟨Nat.le_of_ble_eq_true rfl, Nat.le_of_ble_eq_true rfl⟩) (pre_W hW hB_G hK hZ hS kd_0 rfl) rfl rfl hl.1 rfl (lv_room (Nat.le_of_ble_eq_true rfl)) dL_law_938 ⟨Nat.le_of_ble_eq_true rfl, Nat.le_of_ble_eq_true rfl⟩) hS (fun r_1 G_2 H locs hpo hW hS => ?_)
    have hX_5 : P_Wsuits p0 p1 p2 p3 p4 G r_1 G_2 := hpo
    obtain ⟨hB_G_2, hq_3, -⟩ := hpo
    refine lv_pop2_2 hx hb dL_law_941 rfl ?_
    refine lv_aload_n hx hb dL_law_942 rfl (lv_at hl 2 rfl) ?_
    refine ld_1 hL hi0 hi6 hx hb hX hbl hbA hS hl dL_law_943 dL_law_944 dL_law_945 dL_law_946 dL_law_947 hp0 ?_
    refine ld_2 hL hi0 hi6 hx hb hX hbl hbA hS hl dL_law_948 dL_law_949 dL_law_950 dL_law_951 dL_law_952 hp1 ?_
    refine ld_3 hL hi0 hi6 hx hb hX hbl hbA hS hl dL_law_953 dL_law_954 dL_law_955 dL_law_956 dL_law_957 hp2 ?_
    refine ld_4 hL hi0 hi6 hx hb hX hbl hbA hS hl dL_law_958 dL_law_959 dL_law_960 dL_law_961 dL_law_962 hp3 ?_
    refine ld_5 hL hi0 hi6 hx hb hX hbl hbA hS hl dL_law_963 dL_law_964 dL_law_965 dL_law_966 dL_law_967 hp4 ?_
    refine S_calll (va_runV (As := [.int p0, .int p1, .int p2, .int p3, .int p4]) (rest := []) ⟨hx, hb, hml, hown, hts⟩ (n_suits l D k A a z G_2 p0 p1 p2 p3 p4 ) (cwV 5 hts (gd_V hgd m1923 m1924 m1925 m131 m1926) rfl rfl rfl hd_X12_suits ⟨Nat.le_of_ble_eq_true rfl, Nat.le_of_ble_eq_true rfl⟩) (pre_W hW hB_G_2 hK hZ hS kd_66 rfl) rfl rfl hl.1 rfl (lv_room (Nat.le_of_ble_eq_true rfl)) dL_law_968 ⟨Nat.le_of_ble_eq_true rfl, Nat.le_of_ble_eq_true rfl⟩) hS (fun r_6 G_7 H locs hpo hW hS => ?_)
    have hX_10 : Q_suits p0 p1 p2 p3 p4 G_2 r_6 G_7 := hpo
    obtain ⟨hB_G_7, hq_8, -⟩ := hpo
    refine lv_pop2_2 hx hb dL_law_971 rfl ?_
    refine lv_goto (tgt := 1641) hx hb dL_law_972 rfl ?_
    have fr_11 : Fr [] [] G G_7 := (Fr.call9 (rs := []) (fs := []) (Fr.call9 (rs := []) (fs := []) Fr.rf hq_3 rfl rfl) hq_8 rfl rfl)
    have g_12 : gIB G_7 = gIB G := gIB_fr fr_11 (gr_q rfl) (gf_q rfl)
    exact K G_7 _ _ _ (Or.inr (LI_of_2 (LIn_fr_2 (LIn_fr_2 (show LIn_2 G from ⟨hv_0_0, hv_0_1, hv_6_4, hj0, hj1, hj2, hj3, hj4, hj5, hj6, hj7, hj8, hj9, hj10, hj11⟩) hq_3 (by decide +kernel)) hq_8 (by decide +kernel)) (by omega))) hB_G_7 hW hS (lv_sub hl [0, 1, 2, 3] rfl)

set_option maxHeartbeats 4000000 in
set_option maxRecDepth 100000 in
theorem law_17 {p : Program} {l : Launch} {e : Env} {s : State} {m : MethodId} {below : List Frame} {meth : Method} {c : Code} {D : va_G} {k : KT} {A : Nat → Prop} {a : Nat → Nat} {z : SK} {b L : Nat} {xs : Nat → Int32} (hL : L ≤ 3072) (C0 : lw_At p s m meth c b L xs) (hK : cK D k s) (hZ : Sx A z s) (hbA : ¬ A b) {G : GS} {i0 : Int32} (hi0 : 0 ≤ i0.toInt) (hi6 : i0.toInt + 6 ≤ L) (hI : LI G) (hB_G : Bd G) {H : Heap} {locs : List Loc} {ls : Array Slot} (hW : Wd D k A a G H) (hS : va_S A s.heap H locs) (hl : lv_has ls 4 [(0, .ref b), (1, .ref (a 0)), (2, .ref (a 66)), (3, .int i0)]) (K : ∀ (G1 : GS) (H1 : Heap) (locs1 : List Loc) (ls1 : Array Slot), LI G1 → Bd G1 → Wd D k A a G1 H1 → va_S A s.heap H1 locs1 → lv_has ls1 4 [(0, .ref b), (1, .ref (a 0)), (2, .ref (a 66)), (3, .int i0)] → W p l e room_1 s m #[Value.ref b] below meth c H1 locs1 119 46443 (lw_Z below #[Value.ref b] s) (F0 m 1641 ls1 [])) : W p l e room_1 s m #[Value.ref b] below meth c H locs 119 46443 (lw_Z below #[Value.ref b] s) (F0 m 975 ls []) := by
  obtain ⟨hx, hb, hr, hml, hown, hts, hX, hbl, hlocks, hgv⟩ := id C0
  have hown : s.vm.findClass RL = some m.cls := hown
  have hgd : ∀ w ∈ gd, w ∈ lw_tbl := fun w h => (List.mem_filter.mp h).1
  have hg : ∀ w ∈ gd, w.before #[Value.ref b] s = true := fun w h => hts w (hgd w h)
  rcases hI with ⟨hv_0_0, hv_0_1, hv_6_4, hj0, hj1, hj2, hj3, hj4, hj5, hj6, hj7, hj8, hj9, hj10, hj11, hj12⟩ | ⟨hv_0_0, hv_0_1, hv_6_4, hj0, hj1, hj2, hj3, hj4, hj5, hj6, hj7, hj8, hj9, hj10, hj11, hj12⟩
  · skip
    obtain ⟨p0, hp0⟩ : ∃ y, y = xs (i0 + 1).toNatClampNeg := ⟨_, rfl⟩
    obtain ⟨p1, hp1⟩ : ∃ y, y = xs (i0 + 2).toNatClampNeg := ⟨_, rfl⟩
    obtain ⟨p2, hp2⟩ : ∃ y, y = xs (i0 + 3).toNatClampNeg := ⟨_, rfl⟩
    obtain ⟨p3, hp3⟩ : ∃ y, y = xs (i0 + 4).toNatClampNeg := ⟨_, rfl⟩
    obtain ⟨p4, hp4⟩ : ∃ y, y = xs (i0 + 5).toNatClampNeg := ⟨_, rfl⟩
    refine lv_aload_n hx hb dL_law_975 rfl (lv_at hl 1 rfl) ?_
    refine ld_1 hL hi0 hi6 hx hb hX hbl hbA hS hl dL_law_976 dL_law_977 dL_law_978 dL_law_979 dL_law_980 hp0 ?_
    refine ld_2 hL hi0 hi6 hx hb hX hbl hbA hS hl dL_law_981 dL_law_982 dL_law_983 dL_law_984 dL_law_985 hp1 ?_
    refine ld_3 hL hi0 hi6 hx hb hX hbl hbA hS hl dL_law_986 dL_law_987 dL_law_988 dL_law_989 dL_law_990 hp2 ?_
    refine S_calli (va_runV (As := [.int p0, .int p1, .int p2]) (rest := []) ⟨hx, hb, hml, hown, hts⟩ (k_Wkeeps_1 l D k A a z G p0 p1 p2 hv_0_0 hv_0_1 hv_6_4) (cwV 3 hts (gd_V hgd m1087 m1088 m1089 m117 m1090) rfl rfl rfl hd_X11_keeps ⟨Nat.le_of_ble_eq_true rfl, Nat.le_of_ble_eq_true rfl⟩) (pre_W hW hB_G hK hZ hS kd_0 rfl) rfl rfl hl.1 rfl (lv_room (Nat.le_of_ble_eq_true rfl)) dL_law_991 ⟨Nat.le_of_ble_eq_true rfl, Nat.le_of_ble_eq_true rfl⟩) hS (fun r_1 G_2 H locs hpo hW hS => ?_)
    have hX_5 : P_Wkeeps_1 p0 p1 p2 G r_1 G_2 := hpo
    obtain ⟨hB_G_2, hq_3, -⟩ := hpo
    refine lv_pop hx hb dL_law_994 rfl ?_
    refine lv_aload_n hx hb dL_law_995 rfl (lv_at hl 2 rfl) ?_
    refine ld_1 hL hi0 hi6 hx hb hX hbl hbA hS hl dL_law_996 dL_law_997 dL_law_998 dL_law_999 dL_law_1000 hp0 ?_
    refine ld_2 hL hi0 hi6 hx hb hX hbl hbA hS hl dL_law_1001 dL_law_1002 dL_law_1003 dL_law_1004 dL_law_1005 hp1 ?_
    refine ld_3 hL hi0 hi6 hx hb hX hbl hbA hS hl dL_law_1006 dL_law_1007 dL_law_1008 dL_law_1009 dL_law_1010 hp2 ?_
    have fr_6 : Fr [37, 38, 39, 40, 42, 43, 44, 45, 48, 49, 50, 51] [(6, 3), (7, 1), (7, 2), (7, 3), (7, 4), (7, 5), (7, 6), (7, 7), (9, 2), (9, 3), (19, 2), (19, 3)] G G_2 := (Fr.call9 (rs := [37, 38, 39, 40, 42, 43, 44, 45, 48, 49, 50, 51]) (fs := [(6, 3), (7, 1), (7, 2), (7, 3), (7, 4), (7, 5), (7, 6), (7, 7), (9, 2), (9, 3), (19, 2), (19, 3)]) Fr.rf hq_3 rfl rfl)
    have g_7 : gP G_2 = gP G := gP_fr fr_6 (gr_q rfl) (gf_q rfl)
    refine S_calli (va_runV (As := [.int p0, .int p1, .int p2]) (rest := []) ⟨hx, hb, hml, hown, hts⟩ (n_keeps l D k A a z G_2 p0 p1 p2 (by omega)) (cwV 3 hts (gd_V hgd m1927 m1928 m1929 m131 m1930) rfl rfl rfl hd_X12_keeps ⟨Nat.le_of_ble_eq_true rfl, Nat.le_of_ble_eq_true rfl⟩) (pre_W hW hB_G_2 hK hZ hS kd_66 rfl) rfl rfl hl.1 rfl (lv_room (Nat.le_of_ble_eq_true rfl)) dL_law_1011 ⟨Nat.le_of_ble_eq_true rfl, Nat.le_of_ble_eq_true rfl⟩) hS (fun r_8 G_9 H locs hpo hW hS => ?_)
    have hX_12 : Q_keeps p0 p1 p2 G_2 r_8 G_9 := hpo
    obtain ⟨hB_G_9, hq_10, -⟩ := hpo
    have u_13 := L_keeps_1 hX_5 hX_12 rfl rfl rfl (by omega)
    refine lv_pop hx hb dL_law_1014 rfl ?_
    refine lv_goto (tgt := 1641) hx hb dL_law_1015 rfl ?_
    exact K G_9 _ _ _ (Or.inl (LI_of_1 (LIn_fr_1 (LIn_fr_1 (show LIn_1 G from ⟨hv_0_0, hv_0_1, hv_6_4, hj0, hj1, hj2, hj3, hj4, hj5, hj6, hj7, hj8, hj9, hj10, hj11⟩) hq_3 (by decide +kernel)) hq_10 (by decide +kernel)) (by omega))) hB_G_9 hW hS (lv_sub hl [0, 1, 2, 3] rfl)
  · skip
    obtain ⟨p0, hp0⟩ : ∃ y, y = xs (i0 + 1).toNatClampNeg := ⟨_, rfl⟩
    obtain ⟨p1, hp1⟩ : ∃ y, y = xs (i0 + 2).toNatClampNeg := ⟨_, rfl⟩
    obtain ⟨p2, hp2⟩ : ∃ y, y = xs (i0 + 3).toNatClampNeg := ⟨_, rfl⟩
    obtain ⟨p3, hp3⟩ : ∃ y, y = xs (i0 + 4).toNatClampNeg := ⟨_, rfl⟩
    obtain ⟨p4, hp4⟩ : ∃ y, y = xs (i0 + 5).toNatClampNeg := ⟨_, rfl⟩
    refine lv_aload_n hx hb dL_law_975 rfl (lv_at hl 1 rfl) ?_
    refine ld_1 hL hi0 hi6 hx hb hX hbl hbA hS hl dL_law_976 dL_law_977 dL_law_978 dL_law_979 dL_law_980 hp0 ?_
    refine ld_2 hL hi0 hi6 hx hb hX hbl hbA hS hl dL_law_981 dL_law_982 dL_law_983 dL_law_984 dL_law_985 hp1 ?_
    refine ld_3 hL hi0 hi6 hx hb hX hbl hbA hS hl dL_law_986 dL_law_987 dL_law_988 dL_law_989 dL_law_990 hp2 ?_
    refine S_calli (va_runV (As := [.int p0, .int p1, .int p2]) (rest := []) ⟨hx, hb, hml, hown, hts⟩ (k_Wkeeps_2 l D k A a z G p0 p1 p2 hv_0_0 hv_0_1 hv_6_4) (cwV 3 hts (gd_V hgd m1087 m1088 m1089 m117 m1090) rfl rfl rfl hd_X11_keeps ⟨Nat.le_of_ble_eq_true rfl, Nat.le_of_ble_eq_true rfl⟩) (pre_W hW hB_G hK hZ hS kd_0 rfl) rfl rfl hl.1 rfl (lv_room (Nat.le_of_ble_eq_true rfl)) dL_law_991 ⟨Nat.le_of_ble_eq_true rfl, Nat.le_of_ble_eq_true rfl⟩) hS (fun r_1 G_2 H locs hpo hW hS => ?_)
    have hX_5 : P_Wkeeps_2 p0 p1 p2 G r_1 G_2 := hpo
    obtain ⟨hB_G_2, hq_3, -⟩ := hpo
    refine lv_pop hx hb dL_law_994 rfl ?_
    refine lv_aload_n hx hb dL_law_995 rfl (lv_at hl 2 rfl) ?_
    refine ld_1 hL hi0 hi6 hx hb hX hbl hbA hS hl dL_law_996 dL_law_997 dL_law_998 dL_law_999 dL_law_1000 hp0 ?_
    refine ld_2 hL hi0 hi6 hx hb hX hbl hbA hS hl dL_law_1001 dL_law_1002 dL_law_1003 dL_law_1004 dL_law_1005 hp1 ?_
    refine ld_3 hL hi0 hi6 hx hb hX hbl hbA hS hl dL_law_1006 dL_law_1007 dL_law_1008 dL_law_1009 dL_law_1010 hp2 ?_
    have fr_6 : Fr [37, 38, 39, 40, 42, 43, 44, 45, 48, 49, 50, 51] [(6, 3), (7, 1), (7, 2), (7, 3), (7, 4), (7, 5), (7, 6), (7, 7), (9, 2), (9, 3), (19, 2), (19, 3)] G G_2 := (Fr.call9 (rs := [37, 38, 39, 40, 42, 43, 44, 45, 48, 49, 50, 51]) (fs := [(6, 3), (7, 1), (7, 2), (7, 3), (7, 4), (7, 5), (7, 6), (7, 7), (9, 2), (9, 3), (19, 2), (19, 3)]) Fr.rf hq_3 rfl rfl)
    have g_7 : gP G_2 = gP G := gP_fr fr_6 (gr_q rfl) (gf_q rfl)
    refine S_calli (va_runV (As := [.int p0, .int p1, .int p2]) (rest := []) ⟨hx, hb, hml, hown, hts⟩ (n_keeps l D k A a z G_2 p0 p1 p2 (by omega)) (cwV 3 hts (gd_V hgd m1927 m1928 m1929 m131 m1930) rfl rfl rfl hd_X12_keeps ⟨Nat.le_of_ble_eq_true rfl, Nat.le_of_ble_eq_true rfl⟩) (pre_W hW hB_G_2 hK hZ hS kd_66 rfl) rfl rfl hl.1 rfl (lv_room (Nat.le_of_ble_eq_true rfl)) dL_law_1011 ⟨Nat.le_of_ble_eq_true rfl, Nat.le_of_ble_eq_true rfl⟩) hS (fun r_8 G_9 H locs hpo hW hS => ?_)
    have hX_12 : Q_keeps p0 p1 p2 G_2 r_8 G_9 := hpo
    obtain ⟨hB_G_9, hq_10, -⟩ := hpo
    have u_13 := L_keeps_2 hX_5 hX_12 rfl rfl rfl (by omega)
    refine lv_pop hx hb dL_law_1014 rfl ?_
    refine lv_goto (tgt := 1641) hx hb dL_law_1015 rfl ?_
    exact K G_9 _ _ _ (Or.inr (LI_of_2 (LIn_fr_2 (LIn_fr_2 (show LIn_2 G from ⟨hv_0_0, hv_0_1, hv_6_4, hj0, hj1, hj2, hj3, hj4, hj5, hj6, hj7, hj8, hj9, hj10, hj11⟩) hq_3 (by decide +kernel)) hq_10 (by decide +kernel)) (by omega))) hB_G_9 hW hS (lv_sub hl [0, 1, 2, 3] rfl)

set_option maxHeartbeats 4000000 in
set_option maxRecDepth 100000 in
theorem law_18 {p : Program} {l : Launch} {e : Env} {s : State} {m : MethodId} {below : List Frame} {meth : Method} {c : Code} {D : va_G} {k : KT} {A : Nat → Prop} {a : Nat → Nat} {z : SK} {b L : Nat} {xs : Nat → Int32} (hL : L ≤ 3072) (C0 : lw_At p s m meth c b L xs) (hK : cK D k s) (hZ : Sx A z s) (hbA : ¬ A b) {G : GS} {i0 : Int32} (hi0 : 0 ≤ i0.toInt) (hi6 : i0.toInt + 6 ≤ L) (hI : LI G) (hB_G : Bd G) {H : Heap} {locs : List Loc} {ls : Array Slot} (hW : Wd D k A a G H) (hS : va_S A s.heap H locs) (hl : lv_has ls 4 [(0, .ref b), (1, .ref (a 0)), (2, .ref (a 66)), (3, .int i0)]) (K : ∀ (G1 : GS) (H1 : Heap) (locs1 : List Loc) (ls1 : Array Slot), LI G1 → Bd G1 → Wd D k A a G1 H1 → va_S A s.heap H1 locs1 → lv_has ls1 4 [(0, .ref b), (1, .ref (a 0)), (2, .ref (a 66)), (3, .int i0)] → W p l e room_1 s m #[Value.ref b] below meth c H1 locs1 119 46443 (lw_Z below #[Value.ref b] s) (F0 m 1641 ls1 [])) : W p l e room_1 s m #[Value.ref b] below meth c H locs 119 46443 (lw_Z below #[Value.ref b] s) (F0 m 1018 ls []) := by
  obtain ⟨hx, hb, hr, hml, hown, hts, hX, hbl, hlocks, hgv⟩ := id C0
  have hown : s.vm.findClass RL = some m.cls := hown
  have hgd : ∀ w ∈ gd, w ∈ lw_tbl := fun w h => (List.mem_filter.mp h).1
  have hg : ∀ w ∈ gd, w.before #[Value.ref b] s = true := fun w h => hts w (hgd w h)
  rcases hI with ⟨hv_0_0, hv_0_1, hv_6_4, hj0, hj1, hj2, hj3, hj4, hj5, hj6, hj7, hj8, hj9, hj10, hj11, hj12⟩ | ⟨hv_0_0, hv_0_1, hv_6_4, hj0, hj1, hj2, hj3, hj4, hj5, hj6, hj7, hj8, hj9, hj10, hj11, hj12⟩
  · skip
    obtain ⟨p0, hp0⟩ : ∃ y, y = xs (i0 + 1).toNatClampNeg := ⟨_, rfl⟩
    obtain ⟨p1, hp1⟩ : ∃ y, y = xs (i0 + 2).toNatClampNeg := ⟨_, rfl⟩
    obtain ⟨p2, hp2⟩ : ∃ y, y = xs (i0 + 3).toNatClampNeg := ⟨_, rfl⟩
    obtain ⟨p3, hp3⟩ : ∃ y, y = xs (i0 + 4).toNatClampNeg := ⟨_, rfl⟩
    obtain ⟨p4, hp4⟩ : ∃ y, y = xs (i0 + 5).toNatClampNeg := ⟨_, rfl⟩
    refine lv_aload_n hx hb dL_law_1018 rfl (lv_at hl 1 rfl) ?_
    refine ld_1 hL hi0 hi6 hx hb hX hbl hbA hS hl dL_law_1019 dL_law_1020 dL_law_1021 dL_law_1022 dL_law_1023 hp0 ?_
    refine ld_2 hL hi0 hi6 hx hb hX hbl hbA hS hl dL_law_1024 dL_law_1025 dL_law_1026 dL_law_1027 dL_law_1028 hp1 ?_
    refine ld_3 hL hi0 hi6 hx hb hX hbl hbA hS hl dL_law_1029 dL_law_1030 dL_law_1031 dL_law_1032 dL_law_1033 hp2 ?_
    refine ld_4 hL hi0 hi6 hx hb hX hbl hbA hS hl dL_law_1034 dL_law_1035 dL_law_1036 dL_law_1037 dL_law_1038 hp3 ?_
    refine ld_5 hL hi0 hi6 hx hb hX hbl hbA hS hl dL_law_1039 dL_law_1040 dL_law_1041 dL_law_1042 dL_law_1043 hp4 ?_
    refine S_calll (va_runV (As := [.int p0, .int p1, .int p2, .int p3, .int p4]) (rest := []) ⟨hx, hb, hml, hown, hts⟩ (k_Wbrave_1 l D k A a z G p0 p1 p2 p3 p4 hv_0_0 hv_0_1 hv_6_4) (cwV 5 hts (gd_V hgd m1113 m1114 m1115 m117 m1116) rfl rfl rfl hd_X11_brave ⟨Nat.le_of_ble_eq_true rfl, Nat.le_of_ble_eq_true rfl⟩) (pre_W hW hB_G hK hZ hS kd_0 rfl) rfl rfl hl.1 rfl (lv_room (Nat.le_of_ble_eq_true rfl)) dL_law_1044 ⟨Nat.le_of_ble_eq_true rfl, Nat.le_of_ble_eq_true rfl⟩) hS (fun r_1 G_2 H locs hpo hW hS => ?_)
    have hX_5 : P_Wbrave_1 p0 p1 p2 p3 p4 G r_1 G_2 := hpo
    obtain ⟨hB_G_2, hq_3, -⟩ := hpo
    refine lv_pop2_2 hx hb dL_law_1047 rfl ?_
    refine lv_aload_n hx hb dL_law_1048 rfl (lv_at hl 2 rfl) ?_
    refine ld_1 hL hi0 hi6 hx hb hX hbl hbA hS hl dL_law_1049 dL_law_1050 dL_law_1051 dL_law_1052 dL_law_1053 hp0 ?_
    refine ld_2 hL hi0 hi6 hx hb hX hbl hbA hS hl dL_law_1054 dL_law_1055 dL_law_1056 dL_law_1057 dL_law_1058 hp1 ?_
    refine ld_3 hL hi0 hi6 hx hb hX hbl hbA hS hl dL_law_1059 dL_law_1060 dL_law_1061 dL_law_1062 dL_law_1063 hp2 ?_
    refine ld_4 hL hi0 hi6 hx hb hX hbl hbA hS hl dL_law_1064 dL_law_1065 dL_law_1066 dL_law_1067 dL_law_1068 hp3 ?_
    refine ld_5 hL hi0 hi6 hx hb hX hbl hbA hS hl dL_law_1069 dL_law_1070 dL_law_1071 dL_law_1072 dL_law_1073 hp4 ?_
    have fr_6 : Fr [37, 38, 39, 40, 56, 57] [(6, 3), (7, 1), (7, 2), (7, 3), (7, 4), (7, 5), (7, 6), (7, 7), (29, 6)] G G_2 := (Fr.call9 (rs := [37, 38, 39, 40, 56, 57]) (fs := [(6, 3), (7, 1), (7, 2), (7, 3), (7, 4), (7, 5), (7, 6), (7, 7), (29, 6)]) Fr.rf hq_3 rfl rfl)
    have g_7 : gP G_2 = gP G := gP_fr fr_6 (gr_q rfl) (gf_q rfl)
    have g_8 : gW G_2 = gW G := gW_fr fr_6 (gr_q rfl) (gf_q rfl)
    have g_9 : gO G_2 = gO G := gO_fr fr_6 (gr_q rfl) (gf_q rfl)
    refine S_calll (va_runV (As := [.int p0, .int p1, .int p2, .int p3, .int p4]) (rest := []) ⟨hx, hb, hml, hown, hts⟩ (n_brave l D k A a z G_2 p0 p1 p2 p3 p4 (by omega) (by omega) (by omega)) (cwV 5 hts (gd_V hgd m1939 m1940 m1941 m131 m1942) rfl rfl rfl hd_X12_brave ⟨Nat.le_of_ble_eq_true rfl, Nat.le_of_ble_eq_true rfl⟩) (pre_W hW hB_G_2 hK hZ hS kd_66 rfl) rfl rfl hl.1 rfl (lv_room (Nat.le_of_ble_eq_true rfl)) dL_law_1074 ⟨Nat.le_of_ble_eq_true rfl, Nat.le_of_ble_eq_true rfl⟩) hS (fun r_10 G_11 H locs hpo hW hS => ?_)
    have hX_14 : Q_brave p0 p1 p2 p3 p4 G_2 r_10 G_11 := hpo
    obtain ⟨hB_G_11, hq_12, hp_13, -⟩ := hpo
    have u_15 := L_brave_1 hX_5 hX_14 rfl rfl rfl rfl rfl (by omega)
    refine lv_pop2_2 hx hb dL_law_1077 rfl ?_
    refine lv_goto (tgt := 1641) hx hb dL_law_1078 rfl ?_
    have fr_16 : Fr [106, 37, 38, 39, 40, 56, 57, 76, 97, 98] [(6, 3), (7, 1), (7, 2), (7, 3), (7, 4), (7, 5), (7, 6), (7, 7), (29, 6), (66, 59), (66, 60), (66, 61), (66, 62), (66, 63)] G G_11 := (Fr.call9 (rs := [106, 37, 38, 39, 40, 56, 57, 76, 97, 98]) (fs := [(6, 3), (7, 1), (7, 2), (7, 3), (7, 4), (7, 5), (7, 6), (7, 7), (29, 6), (66, 59), (66, 60), (66, 61), (66, 62), (66, 63)]) (Fr.call9 (rs := [106, 37, 38, 39, 40, 56, 57, 76, 97, 98]) (fs := [(6, 3), (7, 1), (7, 2), (7, 3), (7, 4), (7, 5), (7, 6), (7, 7), (29, 6), (66, 59), (66, 60), (66, 61), (66, 62), (66, 63)]) Fr.rf hq_3 rfl rfl) hq_12 rfl rfl)
    have g_17 : gP G_11 = gP G := gP_fr fr_16 (gr_q rfl) (gf_q rfl)
    have g_18 : gS G_11 = gS G := gS_fr fr_16 (gr_q rfl) (gf_q rfl)
    have g_19 : gTE G_11 = gTE G := gTE_fr fr_16 (gr_q rfl) (gf_q rfl)
    have g_20 : gW G_11 = gW G := gW_fr fr_16 (gr_q rfl) (gf_q rfl)
    have b_21 : 0 ≤ (G.1 0 11).toInt ∧ (G.1 0 11).toInt ≤ 1600 := bd_0_11 hB_G
    have g_22 : (G_11.1 0 11).toInt = (G.1 0 11).toInt := (congrArg Int32.toInt (show G_11.1 0 11 = (G.1 0 11) from ((hq_12.i9 0 11 rfl rfl).trans (hq_3.i9 0 11 rfl rfl))))
    have b_23 : 0 ≤ (G.1 3 7).toInt ∧ (G.1 3 7).toInt ≤ 4 := bd_3_7 hB_G
    have g_24 : (G_11.1 3 7).toInt = (G.1 3 7).toInt := (congrArg Int32.toInt (show G_11.1 3 7 = (G.1 3 7) from ((hq_12.i9 3 7 rfl rfl).trans (hq_3.i9 3 7 rfl rfl))))
    have b_25 : (-1) ≤ (G.1 3 8).toInt ∧ (G.1 3 8).toInt ≤ 1600 := bd_3_8 hB_G
    have g_26 : (G_11.1 3 8).toInt = (G.1 3 8).toInt := (congrArg Int32.toInt (show G_11.1 3 8 = (G.1 3 8) from ((hq_12.i9 3 8 rfl rfl).trans (hq_3.i9 3 8 rfl rfl))))
    have b_27 : 0 ≤ (G.1 30 4).toInt ∧ (G.1 30 4).toInt ≤ 40 := bd_30_4 hB_G
    have g_28 : (G_11.1 30 4).toInt = (G.1 30 4).toInt := (congrArg Int32.toInt (show G_11.1 30 4 = (G.1 30 4) from ((hq_12.i9 30 4 rfl rfl).trans (hq_3.i9 30 4 rfl rfl))))
    have b_29 : 0 ≤ (G.1 30 5).toInt ∧ (G.1 30 5).toInt ≤ 40 := bd_30_5 hB_G
    have g_30 : (G_11.1 30 5).toInt = (G.1 30 5).toInt := (congrArg Int32.toInt (show G_11.1 30 5 = (G.1 30 5) from ((hq_12.i9 30 5 rfl rfl).trans (hq_3.i9 30 5 rfl rfl))))
    have b_31 : 0 ≤ (G.1 31 6).toInt ∧ (G.1 31 6).toInt ≤ 100000 := bd_31_6 hB_G
    have g_32 : (G_11.1 31 6).toInt = (G.1 31 6).toInt := (congrArg Int32.toInt (show G_11.1 31 6 = (G.1 31 6) from ((hq_12.i9 31 6 rfl rfl).trans (hq_3.i9 31 6 rfl rfl))))
    have b_33 : 0 ≤ (G.1 66 1).toInt ∧ (G.1 66 1).toInt ≤ 1600 := bd_66_1 hB_G
    have g_34 : (G_11.1 66 1).toInt = (G.1 66 1).toInt := (congrArg Int32.toInt (show G_11.1 66 1 = (G.1 66 1) from ((hq_12.i9 66 1 rfl rfl).trans (hq_3.i9 66 1 rfl rfl))))
    have b_35 : 0 ≤ (G.1 66 2).toInt ∧ (G.1 66 2).toInt ≤ 4 := bd_66_2 hB_G
    have g_36 : (G_11.1 66 2).toInt = (G.1 66 2).toInt := (congrArg Int32.toInt (show G_11.1 66 2 = (G.1 66 2) from ((hq_12.i9 66 2 rfl rfl).trans (hq_3.i9 66 2 rfl rfl))))
    have b_37 : (-1) ≤ (G.1 66 3).toInt ∧ (G.1 66 3).toInt ≤ 1600 := bd_66_3 hB_G
    have g_38 : (G_11.1 66 3).toInt = (G.1 66 3).toInt := (congrArg Int32.toInt (show G_11.1 66 3 = (G.1 66 3) from ((hq_12.i9 66 3 rfl rfl).trans (hq_3.i9 66 3 rfl rfl))))
    have b_39 : 0 ≤ (G.1 66 78).toInt ∧ (G.1 66 78).toInt ≤ 40 := bd_66_78 hB_G
    have g_40 : (G_11.1 66 78).toInt = (G.1 66 78).toInt := (congrArg Int32.toInt (show G_11.1 66 78 = (G.1 66 78) from ((hq_12.i9 66 78 rfl rfl).trans (hq_3.i9 66 78 rfl rfl))))
    have b_41 : 0 ≤ (G.1 66 79).toInt ∧ (G.1 66 79).toInt ≤ 40 := bd_66_79 hB_G
    have g_42 : (G_11.1 66 79).toInt = (G.1 66 79).toInt := (congrArg Int32.toInt (show G_11.1 66 79 = (G.1 66 79) from ((hq_12.i9 66 79 rfl rfl).trans (hq_3.i9 66 79 rfl rfl))))
    have b_43 : 0 ≤ (G.1 66 86).toInt ∧ (G.1 66 86).toInt ≤ 100000 := bd_66_86 hB_G
    have g_44 : (G_11.1 66 86).toInt = (G.1 66 86).toInt := (congrArg Int32.toInt (show G_11.1 66 86 = (G.1 66 86) from ((hq_12.i9 66 86 rfl rfl).trans (hq_3.i9 66 86 rfl rfl))))
    have b_45 : 0 ≤ (G.1 96 0).toInt ∧ (G.1 96 0).toInt ≤ 9 := bd_96_0 hB_G
    have g_46 : (G_11.1 96 0).toInt = (G.1 96 0).toInt := (congrArg Int32.toInt (show G_11.1 96 0 = (G.1 96 0) from ((hq_12.i9 96 0 rfl rfl).trans (hq_3.i9 96 0 rfl rfl))))
    have b_47 : 0 ≤ (G.1 96 1).toInt ∧ (G.1 96 1).toInt ≤ 9 := bd_96_1 hB_G
    have g_48 : (G_11.1 96 1).toInt = (G.1 96 1).toInt := (congrArg Int32.toInt (show G_11.1 96 1 = (G.1 96 1) from ((hq_12.i9 96 1 rfl rfl).trans (hq_3.i9 96 1 rfl rfl))))
    have b_49 : 0 ≤ (G.1 96 2).toInt ∧ (G.1 96 2).toInt ≤ 9 := bd_96_2 hB_G
    have g_50 : (G_11.1 96 2).toInt = (G.1 96 2).toInt := (congrArg Int32.toInt (show G_11.1 96 2 = (G.1 96 2) from ((hq_12.i9 96 2 rfl rfl).trans (hq_3.i9 96 2 rfl rfl))))
    exact K G_11 _ _ _ (Or.inl ⟨((((hq_12.r9 0 0 rfl rfl).trans (hq_3.r9 0 0 rfl rfl))).trans (hv_0_0)), ((((hq_12.r9 0 1 rfl rfl).trans (hq_3.r9 0 1 rfl rfl))).trans (hv_0_1)), ((((hq_12.r9 6 4 rfl rfl).trans (hq_3.r9 6 4 rfl rfl))).trans (hv_6_4)), by omega, by omega, by omega, by omega, by omega, by omega, by omega, by omega, by omega, by omega, by omega, by omega, by omega⟩) hB_G_11 hW hS (lv_sub hl [0, 1, 2, 3] rfl)
  · skip
    obtain ⟨p0, hp0⟩ : ∃ y, y = xs (i0 + 1).toNatClampNeg := ⟨_, rfl⟩
    obtain ⟨p1, hp1⟩ : ∃ y, y = xs (i0 + 2).toNatClampNeg := ⟨_, rfl⟩
    obtain ⟨p2, hp2⟩ : ∃ y, y = xs (i0 + 3).toNatClampNeg := ⟨_, rfl⟩
    obtain ⟨p3, hp3⟩ : ∃ y, y = xs (i0 + 4).toNatClampNeg := ⟨_, rfl⟩
    obtain ⟨p4, hp4⟩ : ∃ y, y = xs (i0 + 5).toNatClampNeg := ⟨_, rfl⟩
    refine lv_aload_n hx hb dL_law_1018 rfl (lv_at hl 1 rfl) ?_
    refine ld_1 hL hi0 hi6 hx hb hX hbl hbA hS hl dL_law_1019 dL_law_1020 dL_law_1021 dL_law_1022 dL_law_1023 hp0 ?_
    refine ld_2 hL hi0 hi6 hx hb hX hbl hbA hS hl dL_law_1024 dL_law_1025 dL_law_1026 dL_law_1027 dL_law_1028 hp1 ?_
    refine ld_3 hL hi0 hi6 hx hb hX hbl hbA hS hl dL_law_1029 dL_law_1030 dL_law_1031 dL_law_1032 dL_law_1033 hp2 ?_
    refine ld_4 hL hi0 hi6 hx hb hX hbl hbA hS hl dL_law_1034 dL_law_1035 dL_law_1036 dL_law_1037 dL_law_1038 hp3 ?_
    refine ld_5 hL hi0 hi6 hx hb hX hbl hbA hS hl dL_law_1039 dL_law_1040 dL_law_1041 dL_law_1042 dL_law_1043 hp4 ?_
    refine S_calll (va_runV (As := [.int p0, .int p1, .int p2, .int p3, .int p4]) (rest := []) ⟨hx, hb, hml, hown, hts⟩ (k_Wbrave_2 l D k A a z G p0 p1 p2 p3 p4 hv_0_0 hv_0_1 hv_6_4) (cwV 5 hts (gd_V hgd m1113 m1114 m1115 m117 m1116) rfl rfl rfl hd_X11_brave ⟨Nat.le_of_ble_eq_true rfl, Nat.le_of_ble_eq_true rfl⟩) (pre_W hW hB_G hK hZ hS kd_0 rfl) rfl rfl hl.1 rfl (lv_room (Nat.le_of_ble_eq_true rfl)) dL_law_1044 ⟨Nat.le_of_ble_eq_true rfl, Nat.le_of_ble_eq_true rfl⟩) hS (fun r_1 G_2 H locs hpo hW hS => ?_)
    have hX_5 : P_Wbrave_2 p0 p1 p2 p3 p4 G r_1 G_2 := hpo
    obtain ⟨hB_G_2, hq_3, -⟩ := hpo
    refine lv_pop2_2 hx hb dL_law_1047 rfl ?_
    refine lv_aload_n hx hb dL_law_1048 rfl (lv_at hl 2 rfl) ?_
    refine ld_1 hL hi0 hi6 hx hb hX hbl hbA hS hl dL_law_1049 dL_law_1050 dL_law_1051 dL_law_1052 dL_law_1053 hp0 ?_
    refine ld_2 hL hi0 hi6 hx hb hX hbl hbA hS hl dL_law_1054 dL_law_1055 dL_law_1056 dL_law_1057 dL_law_1058 hp1 ?_
    refine ld_3 hL hi0 hi6 hx hb hX hbl hbA hS hl dL_law_1059 dL_law_1060 dL_law_1061 dL_law_1062 dL_law_1063 hp2 ?_
    refine ld_4 hL hi0 hi6 hx hb hX hbl hbA hS hl dL_law_1064 dL_law_1065 dL_law_1066 dL_law_1067 dL_law_1068 hp3 ?_
    refine ld_5 hL hi0 hi6 hx hb hX hbl hbA hS hl dL_law_1069 dL_law_1070 dL_law_1071 dL_law_1072 dL_law_1073 hp4 ?_
    have fr_6 : Fr [37, 38, 39, 40, 56, 57] [(6, 3), (7, 1), (7, 2), (7, 3), (7, 4), (7, 5), (7, 6), (7, 7), (29, 6)] G G_2 := (Fr.call9 (rs := [37, 38, 39, 40, 56, 57]) (fs := [(6, 3), (7, 1), (7, 2), (7, 3), (7, 4), (7, 5), (7, 6), (7, 7), (29, 6)]) Fr.rf hq_3 rfl rfl)
    have g_7 : gP G_2 = gP G := gP_fr fr_6 (gr_q rfl) (gf_q rfl)
    have g_8 : gW G_2 = gW G := gW_fr fr_6 (gr_q rfl) (gf_q rfl)
    have g_9 : gO G_2 = gO G := gO_fr fr_6 (gr_q rfl) (gf_q rfl)
    refine S_calll (va_runV (As := [.int p0, .int p1, .int p2, .int p3, .int p4]) (rest := []) ⟨hx, hb, hml, hown, hts⟩ (n_brave l D k A a z G_2 p0 p1 p2 p3 p4 (by omega) (by omega) (by omega)) (cwV 5 hts (gd_V hgd m1939 m1940 m1941 m131 m1942) rfl rfl rfl hd_X12_brave ⟨Nat.le_of_ble_eq_true rfl, Nat.le_of_ble_eq_true rfl⟩) (pre_W hW hB_G_2 hK hZ hS kd_66 rfl) rfl rfl hl.1 rfl (lv_room (Nat.le_of_ble_eq_true rfl)) dL_law_1074 ⟨Nat.le_of_ble_eq_true rfl, Nat.le_of_ble_eq_true rfl⟩) hS (fun r_10 G_11 H locs hpo hW hS => ?_)
    have hX_14 : Q_brave p0 p1 p2 p3 p4 G_2 r_10 G_11 := hpo
    obtain ⟨hB_G_11, hq_12, hp_13, -⟩ := hpo
    have u_15 := L_brave_2 hX_5 hX_14 rfl rfl rfl rfl rfl (by omega)
    refine lv_pop2_2 hx hb dL_law_1077 rfl ?_
    refine lv_goto (tgt := 1641) hx hb dL_law_1078 rfl ?_
    have fr_16 : Fr [106, 37, 38, 39, 40, 56, 57, 76, 97, 98] [(6, 3), (7, 1), (7, 2), (7, 3), (7, 4), (7, 5), (7, 6), (7, 7), (29, 6), (66, 59), (66, 60), (66, 61), (66, 62), (66, 63)] G G_11 := (Fr.call9 (rs := [106, 37, 38, 39, 40, 56, 57, 76, 97, 98]) (fs := [(6, 3), (7, 1), (7, 2), (7, 3), (7, 4), (7, 5), (7, 6), (7, 7), (29, 6), (66, 59), (66, 60), (66, 61), (66, 62), (66, 63)]) (Fr.call9 (rs := [106, 37, 38, 39, 40, 56, 57, 76, 97, 98]) (fs := [(6, 3), (7, 1), (7, 2), (7, 3), (7, 4), (7, 5), (7, 6), (7, 7), (29, 6), (66, 59), (66, 60), (66, 61), (66, 62), (66, 63)]) Fr.rf hq_3 rfl rfl) hq_12 rfl rfl)
    have g_17 : gP G_11 = gP G := gP_fr fr_16 (gr_q rfl) (gf_q rfl)
    have g_18 : gS G_11 = gS G := gS_fr fr_16 (gr_q rfl) (gf_q rfl)
    have g_19 : gTE G_11 = gTE G := gTE_fr fr_16 (gr_q rfl) (gf_q rfl)
    have g_20 : gW G_11 = gW G := gW_fr fr_16 (gr_q rfl) (gf_q rfl)
    have b_21 : 0 ≤ (G.1 0 11).toInt ∧ (G.1 0 11).toInt ≤ 1600 := bd_0_11 hB_G
    have g_22 : (G_11.1 0 11).toInt = (G.1 0 11).toInt := (congrArg Int32.toInt (show G_11.1 0 11 = (G.1 0 11) from ((hq_12.i9 0 11 rfl rfl).trans (hq_3.i9 0 11 rfl rfl))))
    have b_23 : 0 ≤ (G.1 3 7).toInt ∧ (G.1 3 7).toInt ≤ 4 := bd_3_7 hB_G
    have g_24 : (G_11.1 3 7).toInt = (G.1 3 7).toInt := (congrArg Int32.toInt (show G_11.1 3 7 = (G.1 3 7) from ((hq_12.i9 3 7 rfl rfl).trans (hq_3.i9 3 7 rfl rfl))))
    have b_25 : (-1) ≤ (G.1 3 8).toInt ∧ (G.1 3 8).toInt ≤ 1600 := bd_3_8 hB_G
    have g_26 : (G_11.1 3 8).toInt = (G.1 3 8).toInt := (congrArg Int32.toInt (show G_11.1 3 8 = (G.1 3 8) from ((hq_12.i9 3 8 rfl rfl).trans (hq_3.i9 3 8 rfl rfl))))
    have b_27 : 0 ≤ (G.1 30 4).toInt ∧ (G.1 30 4).toInt ≤ 40 := bd_30_4 hB_G
    have g_28 : (G_11.1 30 4).toInt = (G.1 30 4).toInt := (congrArg Int32.toInt (show G_11.1 30 4 = (G.1 30 4) from ((hq_12.i9 30 4 rfl rfl).trans (hq_3.i9 30 4 rfl rfl))))
    have b_29 : 0 ≤ (G.1 30 5).toInt ∧ (G.1 30 5).toInt ≤ 40 := bd_30_5 hB_G
    have g_30 : (G_11.1 30 5).toInt = (G.1 30 5).toInt := (congrArg Int32.toInt (show G_11.1 30 5 = (G.1 30 5) from ((hq_12.i9 30 5 rfl rfl).trans (hq_3.i9 30 5 rfl rfl))))
    have b_31 : 0 ≤ (G.1 31 6).toInt ∧ (G.1 31 6).toInt ≤ 100000 := bd_31_6 hB_G
    have g_32 : (G_11.1 31 6).toInt = (G.1 31 6).toInt := (congrArg Int32.toInt (show G_11.1 31 6 = (G.1 31 6) from ((hq_12.i9 31 6 rfl rfl).trans (hq_3.i9 31 6 rfl rfl))))
    have b_33 : 0 ≤ (G.1 66 1).toInt ∧ (G.1 66 1).toInt ≤ 1600 := bd_66_1 hB_G
    have g_34 : (G_11.1 66 1).toInt = (G.1 66 1).toInt := (congrArg Int32.toInt (show G_11.1 66 1 = (G.1 66 1) from ((hq_12.i9 66 1 rfl rfl).trans (hq_3.i9 66 1 rfl rfl))))
    have b_35 : 0 ≤ (G.1 66 2).toInt ∧ (G.1 66 2).toInt ≤ 4 := bd_66_2 hB_G
    have g_36 : (G_11.1 66 2).toInt = (G.1 66 2).toInt := (congrArg Int32.toInt (show G_11.1 66 2 = (G.1 66 2) from ((hq_12.i9 66 2 rfl rfl).trans (hq_3.i9 66 2 rfl rfl))))
    have b_37 : (-1) ≤ (G.1 66 3).toInt ∧ (G.1 66 3).toInt ≤ 1600 := bd_66_3 hB_G
    have g_38 : (G_11.1 66 3).toInt = (G.1 66 3).toInt := (congrArg Int32.toInt (show G_11.1 66 3 = (G.1 66 3) from ((hq_12.i9 66 3 rfl rfl).trans (hq_3.i9 66 3 rfl rfl))))
    have b_39 : 0 ≤ (G.1 66 78).toInt ∧ (G.1 66 78).toInt ≤ 40 := bd_66_78 hB_G
    have g_40 : (G_11.1 66 78).toInt = (G.1 66 78).toInt := (congrArg Int32.toInt (show G_11.1 66 78 = (G.1 66 78) from ((hq_12.i9 66 78 rfl rfl).trans (hq_3.i9 66 78 rfl rfl))))
    have b_41 : 0 ≤ (G.1 66 79).toInt ∧ (G.1 66 79).toInt ≤ 40 := bd_66_79 hB_G
    have g_42 : (G_11.1 66 79).toInt = (G.1 66 79).toInt := (congrArg Int32.toInt (show G_11.1 66 79 = (G.1 66 79) from ((hq_12.i9 66 79 rfl rfl).trans (hq_3.i9 66 79 rfl rfl))))
    have b_43 : 0 ≤ (G.1 66 86).toInt ∧ (G.1 66 86).toInt ≤ 100000 := bd_66_86 hB_G
    have g_44 : (G_11.1 66 86).toInt = (G.1 66 86).toInt := (congrArg Int32.toInt (show G_11.1 66 86 = (G.1 66 86) from ((hq_12.i9 66 86 rfl rfl).trans (hq_3.i9 66 86 rfl rfl))))
    have b_45 : 0 ≤ (G.1 96 0).toInt ∧ (G.1 96 0).toInt ≤ 9 := bd_96_0 hB_G
    have g_46 : (G_11.1 96 0).toInt = (G.1 96 0).toInt := (congrArg Int32.toInt (show G_11.1 96 0 = (G.1 96 0) from ((hq_12.i9 96 0 rfl rfl).trans (hq_3.i9 96 0 rfl rfl))))
    have b_47 : 0 ≤ (G.1 96 1).toInt ∧ (G.1 96 1).toInt ≤ 9 := bd_96_1 hB_G
    have g_48 : (G_11.1 96 1).toInt = (G.1 96 1).toInt := (congrArg Int32.toInt (show G_11.1 96 1 = (G.1 96 1) from ((hq_12.i9 96 1 rfl rfl).trans (hq_3.i9 96 1 rfl rfl))))
    have b_49 : 0 ≤ (G.1 96 2).toInt ∧ (G.1 96 2).toInt ≤ 9 := bd_96_2 hB_G
    have g_50 : (G_11.1 96 2).toInt = (G.1 96 2).toInt := (congrArg Int32.toInt (show G_11.1 96 2 = (G.1 96 2) from ((hq_12.i9 96 2 rfl rfl).trans (hq_3.i9 96 2 rfl rfl))))
    exact K G_11 _ _ _ (Or.inr ⟨((((hq_12.r9 0 0 rfl rfl).trans (hq_3.r9 0 0 rfl rfl))).trans (hv_0_0)), ((((hq_12.r9 0 1 rfl rfl).trans (hq_3.r9 0 1 rfl rfl))).trans (hv_0_1)), ((((hq_12.r9 6 4 rfl rfl).trans (hq_3.r9 6 4 rfl rfl))).trans (hv_6_4)), by omega, by omega, by omega, by omega, by omega, by omega, by omega, by omega, by omega, by omega, by omega, by omega, by omega⟩) hB_G_11 hW hS (lv_sub hl [0, 1, 2, 3] rfl)

set_option maxHeartbeats 4000000 in
set_option maxRecDepth 100000 in
theorem law_19 {p : Program} {l : Launch} {e : Env} {s : State} {m : MethodId} {below : List Frame} {meth : Method} {c : Code} {D : va_G} {k : KT} {A : Nat → Prop} {a : Nat → Nat} {z : SK} {b L : Nat} {xs : Nat → Int32} (hL : L ≤ 3072) (C0 : lw_At p s m meth c b L xs) (hK : cK D k s) (hZ : Sx A z s) (hbA : ¬ A b) {G : GS} {i0 : Int32} (hi0 : 0 ≤ i0.toInt) (hi6 : i0.toInt + 6 ≤ L) (hI : LI G) (hB_G : Bd G) {H : Heap} {locs : List Loc} {ls : Array Slot} (hW : Wd D k A a G H) (hS : va_S A s.heap H locs) (hl : lv_has ls 4 [(0, .ref b), (1, .ref (a 0)), (2, .ref (a 66)), (3, .int i0)]) (K : ∀ (G1 : GS) (H1 : Heap) (locs1 : List Loc) (ls1 : Array Slot), LI G1 → Bd G1 → Wd D k A a G1 H1 → va_S A s.heap H1 locs1 → lv_has ls1 4 [(0, .ref b), (1, .ref (a 0)), (2, .ref (a 66)), (3, .int i0)] → W p l e room_1 s m #[Value.ref b] below meth c H1 locs1 119 46443 (lw_Z below #[Value.ref b] s) (F0 m 1641 ls1 [])) : W p l e room_1 s m #[Value.ref b] below meth c H locs 119 46443 (lw_Z below #[Value.ref b] s) (F0 m 1081 ls []) := by
  obtain ⟨hx, hb, hr, hml, hown, hts, hX, hbl, hlocks, hgv⟩ := id C0
  have hown : s.vm.findClass RL = some m.cls := hown
  have hgd : ∀ w ∈ gd, w ∈ lw_tbl := fun w h => (List.mem_filter.mp h).1
  have hg : ∀ w ∈ gd, w.before #[Value.ref b] s = true := fun w h => hts w (hgd w h)
  rcases hI with ⟨hv_0_0, hv_0_1, hv_6_4, hj0, hj1, hj2, hj3, hj4, hj5, hj6, hj7, hj8, hj9, hj10, hj11, hj12⟩ | ⟨hv_0_0, hv_0_1, hv_6_4, hj0, hj1, hj2, hj3, hj4, hj5, hj6, hj7, hj8, hj9, hj10, hj11, hj12⟩
  · skip
    obtain ⟨p0, hp0⟩ : ∃ y, y = xs (i0 + 1).toNatClampNeg := ⟨_, rfl⟩
    obtain ⟨p1, hp1⟩ : ∃ y, y = xs (i0 + 2).toNatClampNeg := ⟨_, rfl⟩
    obtain ⟨p2, hp2⟩ : ∃ y, y = xs (i0 + 3).toNatClampNeg := ⟨_, rfl⟩
    obtain ⟨p3, hp3⟩ : ∃ y, y = xs (i0 + 4).toNatClampNeg := ⟨_, rfl⟩
    obtain ⟨p4, hp4⟩ : ∃ y, y = xs (i0 + 5).toNatClampNeg := ⟨_, rfl⟩
    refine lv_aload_n hx hb dL_law_1081 rfl (lv_at hl 1 rfl) ?_
    refine ld_1 hL hi0 hi6 hx hb hX hbl hbA hS hl dL_law_1082 dL_law_1083 dL_law_1084 dL_law_1085 dL_law_1086 hp0 ?_
    refine ld_2 hL hi0 hi6 hx hb hX hbl hbA hS hl dL_law_1087 dL_law_1088 dL_law_1089 dL_law_1090 dL_law_1091 hp1 ?_
    refine ld_3 hL hi0 hi6 hx hb hX hbl hbA hS hl dL_law_1092 dL_law_1093 dL_law_1094 dL_law_1095 dL_law_1096 hp2 ?_
    refine ld_4 hL hi0 hi6 hx hb hX hbl hbA hS hl dL_law_1097 dL_law_1098 dL_law_1099 dL_law_1100 dL_law_1101 hp3 ?_
    refine ld_5 hL hi0 hi6 hx hb hX hbl hbA hS hl dL_law_1102 dL_law_1103 dL_law_1104 dL_law_1105 dL_law_1106 hp4 ?_
    refine S_calli (va_runV (As := [.int p0, .int p1, .int p2, .int p3, .int p4]) (rest := []) ⟨hx, hb, hml, hown, hts⟩ (k_Wboldest_1 l D k A a z G p0 p1 p2 p3 p4 hv_0_0 hv_0_1 hv_6_4) (cwV 5 hts (gd_V hgd m1134 m1135 m1136 m117 m1137) rfl rfl rfl hd_X11_boldest ⟨Nat.le_of_ble_eq_true rfl, Nat.le_of_ble_eq_true rfl⟩) (pre_W hW hB_G hK hZ hS kd_0 rfl) rfl rfl hl.1 rfl (lv_room (Nat.le_of_ble_eq_true rfl)) dL_law_1107 ⟨Nat.le_of_ble_eq_true rfl, Nat.le_of_ble_eq_true rfl⟩) hS (fun r_1 G_2 H locs hpo hW hS => ?_)
    have hX_5 : P_Wboldest_1 p0 p1 p2 p3 p4 G r_1 G_2 := hpo
    obtain ⟨hB_G_2, hq_3, -⟩ := hpo
    refine lv_pop hx hb dL_law_1110 rfl ?_
    refine lv_aload_n hx hb dL_law_1111 rfl (lv_at hl 2 rfl) ?_
    refine ld_1 hL hi0 hi6 hx hb hX hbl hbA hS hl dL_law_1112 dL_law_1113 dL_law_1114 dL_law_1115 dL_law_1116 hp0 ?_
    refine ld_2 hL hi0 hi6 hx hb hX hbl hbA hS hl dL_law_1117 dL_law_1118 dL_law_1119 dL_law_1120 dL_law_1121 hp1 ?_
    refine ld_3 hL hi0 hi6 hx hb hX hbl hbA hS hl dL_law_1122 dL_law_1123 dL_law_1124 dL_law_1125 dL_law_1126 hp2 ?_
    refine ld_4 hL hi0 hi6 hx hb hX hbl hbA hS hl dL_law_1127 dL_law_1128 dL_law_1129 dL_law_1130 dL_law_1131 hp3 ?_
    refine ld_5 hL hi0 hi6 hx hb hX hbl hbA hS hl dL_law_1132 dL_law_1133 dL_law_1134 dL_law_1135 dL_law_1136 hp4 ?_
    have fr_6 : Fr [37, 38, 39, 40, 56, 57] [(6, 3), (7, 1), (7, 2), (7, 3), (7, 4), (7, 5), (7, 6), (7, 7), (29, 6)] G G_2 := (Fr.call9 (rs := [37, 38, 39, 40, 56, 57]) (fs := [(6, 3), (7, 1), (7, 2), (7, 3), (7, 4), (7, 5), (7, 6), (7, 7), (29, 6)]) Fr.rf hq_3 rfl rfl)
    have g_7 : gP G_2 = gP G := gP_fr fr_6 (gr_q rfl) (gf_q rfl)
    have g_8 : gW G_2 = gW G := gW_fr fr_6 (gr_q rfl) (gf_q rfl)
    have g_9 : gO G_2 = gO G := gO_fr fr_6 (gr_q rfl) (gf_q rfl)
    refine S_calli (va_runV (As := [.int p0, .int p1, .int p2, .int p3, .int p4]) (rest := []) ⟨hx, hb, hml, hown, hts⟩ (n_boldest l D k A a z G_2 p0 p1 p2 p3 p4 (by omega) (by omega) (by omega)) (cwV 5 hts (gd_V hgd m1963 m1964 m1965 m131 m1966) rfl rfl rfl hd_X12_boldest ⟨Nat.le_of_ble_eq_true rfl, Nat.le_of_ble_eq_true rfl⟩) (pre_W hW hB_G_2 hK hZ hS kd_66 rfl) rfl rfl hl.1 rfl (lv_room (Nat.le_of_ble_eq_true rfl)) dL_law_1137 ⟨Nat.le_of_ble_eq_true rfl, Nat.le_of_ble_eq_true rfl⟩) hS (fun r_10 G_11 H locs hpo hW hS => ?_)
    have hX_14 : Q_boldest p0 p1 p2 p3 p4 G_2 r_10 G_11 := hpo
    obtain ⟨hB_G_11, hq_12, hp_13, -⟩ := hpo
    have u_15 := L_boldest_1 hX_5 hX_14 rfl rfl rfl rfl rfl (by omega)
    refine lv_pop hx hb dL_law_1140 rfl ?_
    refine lv_goto (tgt := 1641) hx hb dL_law_1141 rfl ?_
    have fr_16 : Fr [106, 37, 38, 39, 40, 56, 57, 76, 97, 98] [(6, 3), (7, 1), (7, 2), (7, 3), (7, 4), (7, 5), (7, 6), (7, 7), (29, 6), (66, 59), (66, 60), (66, 61), (66, 62), (66, 63)] G G_11 := (Fr.call9 (rs := [106, 37, 38, 39, 40, 56, 57, 76, 97, 98]) (fs := [(6, 3), (7, 1), (7, 2), (7, 3), (7, 4), (7, 5), (7, 6), (7, 7), (29, 6), (66, 59), (66, 60), (66, 61), (66, 62), (66, 63)]) (Fr.call9 (rs := [106, 37, 38, 39, 40, 56, 57, 76, 97, 98]) (fs := [(6, 3), (7, 1), (7, 2), (7, 3), (7, 4), (7, 5), (7, 6), (7, 7), (29, 6), (66, 59), (66, 60), (66, 61), (66, 62), (66, 63)]) Fr.rf hq_3 rfl rfl) hq_12 rfl rfl)
    have g_17 : gP G_11 = gP G := gP_fr fr_16 (gr_q rfl) (gf_q rfl)
    have g_18 : gS G_11 = gS G := gS_fr fr_16 (gr_q rfl) (gf_q rfl)
    have g_19 : gTE G_11 = gTE G := gTE_fr fr_16 (gr_q rfl) (gf_q rfl)
    have g_20 : gW G_11 = gW G := gW_fr fr_16 (gr_q rfl) (gf_q rfl)
    have b_21 : 0 ≤ (G.1 0 11).toInt ∧ (G.1 0 11).toInt ≤ 1600 := bd_0_11 hB_G
    have g_22 : (G_11.1 0 11).toInt = (G.1 0 11).toInt := (congrArg Int32.toInt (show G_11.1 0 11 = (G.1 0 11) from ((hq_12.i9 0 11 rfl rfl).trans (hq_3.i9 0 11 rfl rfl))))
    have b_23 : 0 ≤ (G.1 3 7).toInt ∧ (G.1 3 7).toInt ≤ 4 := bd_3_7 hB_G
    have g_24 : (G_11.1 3 7).toInt = (G.1 3 7).toInt := (congrArg Int32.toInt (show G_11.1 3 7 = (G.1 3 7) from ((hq_12.i9 3 7 rfl rfl).trans (hq_3.i9 3 7 rfl rfl))))
    have b_25 : (-1) ≤ (G.1 3 8).toInt ∧ (G.1 3 8).toInt ≤ 1600 := bd_3_8 hB_G
    have g_26 : (G_11.1 3 8).toInt = (G.1 3 8).toInt := (congrArg Int32.toInt (show G_11.1 3 8 = (G.1 3 8) from ((hq_12.i9 3 8 rfl rfl).trans (hq_3.i9 3 8 rfl rfl))))
    have b_27 : 0 ≤ (G.1 30 4).toInt ∧ (G.1 30 4).toInt ≤ 40 := bd_30_4 hB_G
    have g_28 : (G_11.1 30 4).toInt = (G.1 30 4).toInt := (congrArg Int32.toInt (show G_11.1 30 4 = (G.1 30 4) from ((hq_12.i9 30 4 rfl rfl).trans (hq_3.i9 30 4 rfl rfl))))
    have b_29 : 0 ≤ (G.1 30 5).toInt ∧ (G.1 30 5).toInt ≤ 40 := bd_30_5 hB_G
    have g_30 : (G_11.1 30 5).toInt = (G.1 30 5).toInt := (congrArg Int32.toInt (show G_11.1 30 5 = (G.1 30 5) from ((hq_12.i9 30 5 rfl rfl).trans (hq_3.i9 30 5 rfl rfl))))
    have b_31 : 0 ≤ (G.1 31 6).toInt ∧ (G.1 31 6).toInt ≤ 100000 := bd_31_6 hB_G
    have g_32 : (G_11.1 31 6).toInt = (G.1 31 6).toInt := (congrArg Int32.toInt (show G_11.1 31 6 = (G.1 31 6) from ((hq_12.i9 31 6 rfl rfl).trans (hq_3.i9 31 6 rfl rfl))))
    have b_33 : 0 ≤ (G.1 66 1).toInt ∧ (G.1 66 1).toInt ≤ 1600 := bd_66_1 hB_G
    have g_34 : (G_11.1 66 1).toInt = (G.1 66 1).toInt := (congrArg Int32.toInt (show G_11.1 66 1 = (G.1 66 1) from ((hq_12.i9 66 1 rfl rfl).trans (hq_3.i9 66 1 rfl rfl))))
    have b_35 : 0 ≤ (G.1 66 2).toInt ∧ (G.1 66 2).toInt ≤ 4 := bd_66_2 hB_G
    have g_36 : (G_11.1 66 2).toInt = (G.1 66 2).toInt := (congrArg Int32.toInt (show G_11.1 66 2 = (G.1 66 2) from ((hq_12.i9 66 2 rfl rfl).trans (hq_3.i9 66 2 rfl rfl))))
    have b_37 : (-1) ≤ (G.1 66 3).toInt ∧ (G.1 66 3).toInt ≤ 1600 := bd_66_3 hB_G
    have g_38 : (G_11.1 66 3).toInt = (G.1 66 3).toInt := (congrArg Int32.toInt (show G_11.1 66 3 = (G.1 66 3) from ((hq_12.i9 66 3 rfl rfl).trans (hq_3.i9 66 3 rfl rfl))))
    have b_39 : 0 ≤ (G.1 66 78).toInt ∧ (G.1 66 78).toInt ≤ 40 := bd_66_78 hB_G
    have g_40 : (G_11.1 66 78).toInt = (G.1 66 78).toInt := (congrArg Int32.toInt (show G_11.1 66 78 = (G.1 66 78) from ((hq_12.i9 66 78 rfl rfl).trans (hq_3.i9 66 78 rfl rfl))))
    have b_41 : 0 ≤ (G.1 66 79).toInt ∧ (G.1 66 79).toInt ≤ 40 := bd_66_79 hB_G
    have g_42 : (G_11.1 66 79).toInt = (G.1 66 79).toInt := (congrArg Int32.toInt (show G_11.1 66 79 = (G.1 66 79) from ((hq_12.i9 66 79 rfl rfl).trans (hq_3.i9 66 79 rfl rfl))))
    have b_43 : 0 ≤ (G.1 66 86).toInt ∧ (G.1 66 86).toInt ≤ 100000 := bd_66_86 hB_G
    have g_44 : (G_11.1 66 86).toInt = (G.1 66 86).toInt := (congrArg Int32.toInt (show G_11.1 66 86 = (G.1 66 86) from ((hq_12.i9 66 86 rfl rfl).trans (hq_3.i9 66 86 rfl rfl))))
    have b_45 : 0 ≤ (G.1 96 0).toInt ∧ (G.1 96 0).toInt ≤ 9 := bd_96_0 hB_G
    have g_46 : (G_11.1 96 0).toInt = (G.1 96 0).toInt := (congrArg Int32.toInt (show G_11.1 96 0 = (G.1 96 0) from ((hq_12.i9 96 0 rfl rfl).trans (hq_3.i9 96 0 rfl rfl))))
    have b_47 : 0 ≤ (G.1 96 1).toInt ∧ (G.1 96 1).toInt ≤ 9 := bd_96_1 hB_G
    have g_48 : (G_11.1 96 1).toInt = (G.1 96 1).toInt := (congrArg Int32.toInt (show G_11.1 96 1 = (G.1 96 1) from ((hq_12.i9 96 1 rfl rfl).trans (hq_3.i9 96 1 rfl rfl))))
    have b_49 : 0 ≤ (G.1 96 2).toInt ∧ (G.1 96 2).toInt ≤ 9 := bd_96_2 hB_G
    have g_50 : (G_11.1 96 2).toInt = (G.1 96 2).toInt := (congrArg Int32.toInt (show G_11.1 96 2 = (G.1 96 2) from ((hq_12.i9 96 2 rfl rfl).trans (hq_3.i9 96 2 rfl rfl))))
    exact K G_11 _ _ _ (Or.inl ⟨((((hq_12.r9 0 0 rfl rfl).trans (hq_3.r9 0 0 rfl rfl))).trans (hv_0_0)), ((((hq_12.r9 0 1 rfl rfl).trans (hq_3.r9 0 1 rfl rfl))).trans (hv_0_1)), ((((hq_12.r9 6 4 rfl rfl).trans (hq_3.r9 6 4 rfl rfl))).trans (hv_6_4)), by omega, by omega, by omega, by omega, by omega, by omega, by omega, by omega, by omega, by omega, by omega, by omega, by omega⟩) hB_G_11 hW hS (lv_sub hl [0, 1, 2, 3] rfl)
  · skip
    obtain ⟨p0, hp0⟩ : ∃ y, y = xs (i0 + 1).toNatClampNeg := ⟨_, rfl⟩
    obtain ⟨p1, hp1⟩ : ∃ y, y = xs (i0 + 2).toNatClampNeg := ⟨_, rfl⟩
    obtain ⟨p2, hp2⟩ : ∃ y, y = xs (i0 + 3).toNatClampNeg := ⟨_, rfl⟩
    obtain ⟨p3, hp3⟩ : ∃ y, y = xs (i0 + 4).toNatClampNeg := ⟨_, rfl⟩
    obtain ⟨p4, hp4⟩ : ∃ y, y = xs (i0 + 5).toNatClampNeg := ⟨_, rfl⟩
    refine lv_aload_n hx hb dL_law_1081 rfl (lv_at hl 1 rfl) ?_
    refine ld_1 hL hi0 hi6 hx hb hX hbl hbA hS hl dL_law_1082 dL_law_1083 dL_law_1084 dL_law_1085 dL_law_1086 hp0 ?_
    refine ld_2 hL hi0 hi6 hx hb hX hbl hbA hS hl dL_law_1087 dL_law_1088 dL_law_1089 dL_law_1090 dL_law_1091 hp1 ?_
    refine ld_3 hL hi0 hi6 hx hb hX hbl hbA hS hl dL_law_1092 dL_law_1093 dL_law_1094 dL_law_1095 dL_law_1096 hp2 ?_
    refine ld_4 hL hi0 hi6 hx hb hX hbl hbA hS hl dL_law_1097 dL_law_1098 dL_law_1099 dL_law_1100 dL_law_1101 hp3 ?_
    refine ld_5 hL hi0 hi6 hx hb hX hbl hbA hS hl dL_law_1102 dL_law_1103 dL_law_1104 dL_law_1105 dL_law_1106 hp4 ?_
    refine S_calli (va_runV (As := [.int p0, .int p1, .int p2, .int p3, .int p4]) (rest := []) ⟨hx, hb, hml, hown, hts⟩ (k_Wboldest_2 l D k A a z G p0 p1 p2 p3 p4 hv_0_0 hv_0_1 hv_6_4) (cwV 5 hts (gd_V hgd m1134 m1135 m1136 m117 m1137) rfl rfl rfl hd_X11_boldest ⟨Nat.le_of_ble_eq_true rfl, Nat.le_of_ble_eq_true rfl⟩) (pre_W hW hB_G hK hZ hS kd_0 rfl) rfl rfl hl.1 rfl (lv_room (Nat.le_of_ble_eq_true rfl)) dL_law_1107 ⟨Nat.le_of_ble_eq_true rfl, Nat.le_of_ble_eq_true rfl⟩) hS (fun r_1 G_2 H locs hpo hW hS => ?_)
    have hX_5 : P_Wboldest_2 p0 p1 p2 p3 p4 G r_1 G_2 := hpo
    obtain ⟨hB_G_2, hq_3, -⟩ := hpo
    refine lv_pop hx hb dL_law_1110 rfl ?_
    refine lv_aload_n hx hb dL_law_1111 rfl (lv_at hl 2 rfl) ?_
    refine ld_1 hL hi0 hi6 hx hb hX hbl hbA hS hl dL_law_1112 dL_law_1113 dL_law_1114 dL_law_1115 dL_law_1116 hp0 ?_
    refine ld_2 hL hi0 hi6 hx hb hX hbl hbA hS hl dL_law_1117 dL_law_1118 dL_law_1119 dL_law_1120 dL_law_1121 hp1 ?_
    refine ld_3 hL hi0 hi6 hx hb hX hbl hbA hS hl dL_law_1122 dL_law_1123 dL_law_1124 dL_law_1125 dL_law_1126 hp2 ?_
    refine ld_4 hL hi0 hi6 hx hb hX hbl hbA hS hl dL_law_1127 dL_law_1128 dL_law_1129 dL_law_1130 dL_law_1131 hp3 ?_
    refine ld_5 hL hi0 hi6 hx hb hX hbl hbA hS hl dL_law_1132 dL_law_1133 dL_law_1134 dL_law_1135 dL_law_1136 hp4 ?_
    have fr_6 : Fr [37, 38, 39, 40, 56, 57] [(6, 3), (7, 1), (7, 2), (7, 3), (7, 4), (7, 5), (7, 6), (7, 7), (29, 6)] G G_2 := (Fr.call9 (rs := [37, 38, 39, 40, 56, 57]) (fs := [(6, 3), (7, 1), (7, 2), (7, 3), (7, 4), (7, 5), (7, 6), (7, 7), (29, 6)]) Fr.rf hq_3 rfl rfl)
    have g_7 : gP G_2 = gP G := gP_fr fr_6 (gr_q rfl) (gf_q rfl)
    have g_8 : gW G_2 = gW G := gW_fr fr_6 (gr_q rfl) (gf_q rfl)
    have g_9 : gO G_2 = gO G := gO_fr fr_6 (gr_q rfl) (gf_q rfl)
    refine S_calli (va_runV (As := [.int p0, .int p1, .int p2, .int p3, .int p4]) (rest := []) ⟨hx, hb, hml, hown, hts⟩ (n_boldest l D k A a z G_2 p0 p1 p2 p3 p4 (by omega) (by omega) (by omega)) (cwV 5 hts (gd_V hgd m1963 m1964 m1965 m131 m1966) rfl rfl rfl hd_X12_boldest ⟨Nat.le_of_ble_eq_true rfl, Nat.le_of_ble_eq_true rfl⟩) (pre_W hW hB_G_2 hK hZ hS kd_66 rfl) rfl rfl hl.1 rfl (lv_room (Nat.le_of_ble_eq_true rfl)) dL_law_1137 ⟨Nat.le_of_ble_eq_true rfl, Nat.le_of_ble_eq_true rfl⟩) hS (fun r_10 G_11 H locs hpo hW hS => ?_)
    have hX_14 : Q_boldest p0 p1 p2 p3 p4 G_2 r_10 G_11 := hpo
    obtain ⟨hB_G_11, hq_12, hp_13, -⟩ := hpo
    have u_15 := L_boldest_2 hX_5 hX_14 rfl rfl rfl rfl rfl (by omega)
    refine lv_pop hx hb dL_law_1140 rfl ?_
    refine lv_goto (tgt := 1641) hx hb dL_law_1141 rfl ?_
    have fr_16 : Fr [106, 37, 38, 39, 40, 56, 57, 76, 97, 98] [(6, 3), (7, 1), (7, 2), (7, 3), (7, 4), (7, 5), (7, 6), (7, 7), (29, 6), (66, 59), (66, 60), (66, 61), (66, 62), (66, 63)] G G_11 := (Fr.call9 (rs := [106, 37, 38, 39, 40, 56, 57, 76, 97, 98]) (fs := [(6, 3), (7, 1), (7, 2), (7, 3), (7, 4), (7, 5), (7, 6), (7, 7), (29, 6), (66, 59), (66, 60), (66, 61), (66, 62), (66, 63)]) (Fr.call9 (rs := [106, 37, 38, 39, 40, 56, 57, 76, 97, 98]) (fs := [(6, 3), (7, 1), (7, 2), (7, 3), (7, 4), (7, 5), (7, 6), (7, 7), (29, 6), (66, 59), (66, 60), (66, 61), (66, 62), (66, 63)]) Fr.rf hq_3 rfl rfl) hq_12 rfl rfl)
    have g_17 : gP G_11 = gP G := gP_fr fr_16 (gr_q rfl) (gf_q rfl)
    have g_18 : gS G_11 = gS G := gS_fr fr_16 (gr_q rfl) (gf_q rfl)
    have g_19 : gTE G_11 = gTE G := gTE_fr fr_16 (gr_q rfl) (gf_q rfl)
    have g_20 : gW G_11 = gW G := gW_fr fr_16 (gr_q rfl) (gf_q rfl)
    have b_21 : 0 ≤ (G.1 0 11).toInt ∧ (G.1 0 11).toInt ≤ 1600 := bd_0_11 hB_G
    have g_22 : (G_11.1 0 11).toInt = (G.1 0 11).toInt := (congrArg Int32.toInt (show G_11.1 0 11 = (G.1 0 11) from ((hq_12.i9 0 11 rfl rfl).trans (hq_3.i9 0 11 rfl rfl))))
    have b_23 : 0 ≤ (G.1 3 7).toInt ∧ (G.1 3 7).toInt ≤ 4 := bd_3_7 hB_G
    have g_24 : (G_11.1 3 7).toInt = (G.1 3 7).toInt := (congrArg Int32.toInt (show G_11.1 3 7 = (G.1 3 7) from ((hq_12.i9 3 7 rfl rfl).trans (hq_3.i9 3 7 rfl rfl))))
    have b_25 : (-1) ≤ (G.1 3 8).toInt ∧ (G.1 3 8).toInt ≤ 1600 := bd_3_8 hB_G
    have g_26 : (G_11.1 3 8).toInt = (G.1 3 8).toInt := (congrArg Int32.toInt (show G_11.1 3 8 = (G.1 3 8) from ((hq_12.i9 3 8 rfl rfl).trans (hq_3.i9 3 8 rfl rfl))))
    have b_27 : 0 ≤ (G.1 30 4).toInt ∧ (G.1 30 4).toInt ≤ 40 := bd_30_4 hB_G
    have g_28 : (G_11.1 30 4).toInt = (G.1 30 4).toInt := (congrArg Int32.toInt (show G_11.1 30 4 = (G.1 30 4) from ((hq_12.i9 30 4 rfl rfl).trans (hq_3.i9 30 4 rfl rfl))))
    have b_29 : 0 ≤ (G.1 30 5).toInt ∧ (G.1 30 5).toInt ≤ 40 := bd_30_5 hB_G
    have g_30 : (G_11.1 30 5).toInt = (G.1 30 5).toInt := (congrArg Int32.toInt (show G_11.1 30 5 = (G.1 30 5) from ((hq_12.i9 30 5 rfl rfl).trans (hq_3.i9 30 5 rfl rfl))))
    have b_31 : 0 ≤ (G.1 31 6).toInt ∧ (G.1 31 6).toInt ≤ 100000 := bd_31_6 hB_G
    have g_32 : (G_11.1 31 6).toInt = (G.1 31 6).toInt := (congrArg Int32.toInt (show G_11.1 31 6 = (G.1 31 6) from ((hq_12.i9 31 6 rfl rfl).trans (hq_3.i9 31 6 rfl rfl))))
    have b_33 : 0 ≤ (G.1 66 1).toInt ∧ (G.1 66 1).toInt ≤ 1600 := bd_66_1 hB_G
    have g_34 : (G_11.1 66 1).toInt = (G.1 66 1).toInt := (congrArg Int32.toInt (show G_11.1 66 1 = (G.1 66 1) from ((hq_12.i9 66 1 rfl rfl).trans (hq_3.i9 66 1 rfl rfl))))
    have b_35 : 0 ≤ (G.1 66 2).toInt ∧ (G.1 66 2).toInt ≤ 4 := bd_66_2 hB_G
    have g_36 : (G_11.1 66 2).toInt = (G.1 66 2).toInt := (congrArg Int32.toInt (show G_11.1 66 2 = (G.1 66 2) from ((hq_12.i9 66 2 rfl rfl).trans (hq_3.i9 66 2 rfl rfl))))
    have b_37 : (-1) ≤ (G.1 66 3).toInt ∧ (G.1 66 3).toInt ≤ 1600 := bd_66_3 hB_G
    have g_38 : (G_11.1 66 3).toInt = (G.1 66 3).toInt := (congrArg Int32.toInt (show G_11.1 66 3 = (G.1 66 3) from ((hq_12.i9 66 3 rfl rfl).trans (hq_3.i9 66 3 rfl rfl))))
    have b_39 : 0 ≤ (G.1 66 78).toInt ∧ (G.1 66 78).toInt ≤ 40 := bd_66_78 hB_G
    have g_40 : (G_11.1 66 78).toInt = (G.1 66 78).toInt := (congrArg Int32.toInt (show G_11.1 66 78 = (G.1 66 78) from ((hq_12.i9 66 78 rfl rfl).trans (hq_3.i9 66 78 rfl rfl))))
    have b_41 : 0 ≤ (G.1 66 79).toInt ∧ (G.1 66 79).toInt ≤ 40 := bd_66_79 hB_G
    have g_42 : (G_11.1 66 79).toInt = (G.1 66 79).toInt := (congrArg Int32.toInt (show G_11.1 66 79 = (G.1 66 79) from ((hq_12.i9 66 79 rfl rfl).trans (hq_3.i9 66 79 rfl rfl))))
    have b_43 : 0 ≤ (G.1 66 86).toInt ∧ (G.1 66 86).toInt ≤ 100000 := bd_66_86 hB_G
    have g_44 : (G_11.1 66 86).toInt = (G.1 66 86).toInt := (congrArg Int32.toInt (show G_11.1 66 86 = (G.1 66 86) from ((hq_12.i9 66 86 rfl rfl).trans (hq_3.i9 66 86 rfl rfl))))
    have b_45 : 0 ≤ (G.1 96 0).toInt ∧ (G.1 96 0).toInt ≤ 9 := bd_96_0 hB_G
    have g_46 : (G_11.1 96 0).toInt = (G.1 96 0).toInt := (congrArg Int32.toInt (show G_11.1 96 0 = (G.1 96 0) from ((hq_12.i9 96 0 rfl rfl).trans (hq_3.i9 96 0 rfl rfl))))
    have b_47 : 0 ≤ (G.1 96 1).toInt ∧ (G.1 96 1).toInt ≤ 9 := bd_96_1 hB_G
    have g_48 : (G_11.1 96 1).toInt = (G.1 96 1).toInt := (congrArg Int32.toInt (show G_11.1 96 1 = (G.1 96 1) from ((hq_12.i9 96 1 rfl rfl).trans (hq_3.i9 96 1 rfl rfl))))
    have b_49 : 0 ≤ (G.1 96 2).toInt ∧ (G.1 96 2).toInt ≤ 9 := bd_96_2 hB_G
    have g_50 : (G_11.1 96 2).toInt = (G.1 96 2).toInt := (congrArg Int32.toInt (show G_11.1 96 2 = (G.1 96 2) from ((hq_12.i9 96 2 rfl rfl).trans (hq_3.i9 96 2 rfl rfl))))
    exact K G_11 _ _ _ (Or.inr ⟨((((hq_12.r9 0 0 rfl rfl).trans (hq_3.r9 0 0 rfl rfl))).trans (hv_0_0)), ((((hq_12.r9 0 1 rfl rfl).trans (hq_3.r9 0 1 rfl rfl))).trans (hv_0_1)), ((((hq_12.r9 6 4 rfl rfl).trans (hq_3.r9 6 4 rfl rfl))).trans (hv_6_4)), by omega, by omega, by omega, by omega, by omega, by omega, by omega, by omega, by omega, by omega, by omega, by omega, by omega⟩) hB_G_11 hW hS (lv_sub hl [0, 1, 2, 3] rfl)

set_option maxHeartbeats 4000000 in
set_option maxRecDepth 100000 in
theorem law_20 {p : Program} {l : Launch} {e : Env} {s : State} {m : MethodId} {below : List Frame} {meth : Method} {c : Code} {D : va_G} {k : KT} {A : Nat → Prop} {a : Nat → Nat} {z : SK} {b L : Nat} {xs : Nat → Int32} (hL : L ≤ 3072) (C0 : lw_At p s m meth c b L xs) (hK : cK D k s) (hZ : Sx A z s) (hbA : ¬ A b) {G : GS} {i0 : Int32} (hi0 : 0 ≤ i0.toInt) (hi6 : i0.toInt + 6 ≤ L) (hI : LI G) (hB_G : Bd G) {H : Heap} {locs : List Loc} {ls : Array Slot} (hW : Wd D k A a G H) (hS : va_S A s.heap H locs) (hl : lv_has ls 4 [(0, .ref b), (1, .ref (a 0)), (2, .ref (a 66)), (3, .int i0)]) (K : ∀ (G1 : GS) (H1 : Heap) (locs1 : List Loc) (ls1 : Array Slot), LI G1 → Bd G1 → Wd D k A a G1 H1 → va_S A s.heap H1 locs1 → lv_has ls1 4 [(0, .ref b), (1, .ref (a 0)), (2, .ref (a 66)), (3, .int i0)] → W p l e room_1 s m #[Value.ref b] below meth c H1 locs1 119 46443 (lw_Z below #[Value.ref b] s) (F0 m 1641 ls1 [])) : W p l e room_1 s m #[Value.ref b] below meth c H locs 119 46443 (lw_Z below #[Value.ref b] s) (F0 m 1144 ls []) := by
  obtain ⟨hx, hb, hr, hml, hown, hts, hX, hbl, hlocks, hgv⟩ := id C0
  have hown : s.vm.findClass RL = some m.cls := hown
  have hgd : ∀ w ∈ gd, w ∈ lw_tbl := fun w h => (List.mem_filter.mp h).1
  have hg : ∀ w ∈ gd, w.before #[Value.ref b] s = true := fun w h => hts w (hgd w h)
  rcases hI with ⟨hv_0_0, hv_0_1, hv_6_4, hj0, hj1, hj2, hj3, hj4, hj5, hj6, hj7, hj8, hj9, hj10, hj11, hj12⟩ | ⟨hv_0_0, hv_0_1, hv_6_4, hj0, hj1, hj2, hj3, hj4, hj5, hj6, hj7, hj8, hj9, hj10, hj11, hj12⟩
  · skip
    obtain ⟨p0, hp0⟩ : ∃ y, y = xs (i0 + 1).toNatClampNeg := ⟨_, rfl⟩
    obtain ⟨p1, hp1⟩ : ∃ y, y = xs (i0 + 2).toNatClampNeg := ⟨_, rfl⟩
    obtain ⟨p2, hp2⟩ : ∃ y, y = xs (i0 + 3).toNatClampNeg := ⟨_, rfl⟩
    obtain ⟨p3, hp3⟩ : ∃ y, y = xs (i0 + 4).toNatClampNeg := ⟨_, rfl⟩
    obtain ⟨p4, hp4⟩ : ∃ y, y = xs (i0 + 5).toNatClampNeg := ⟨_, rfl⟩
    refine lv_aload_n hx hb dL_law_1144 rfl (lv_at hl 1 rfl) ?_
    refine ld_1 hL hi0 hi6 hx hb hX hbl hbA hS hl dL_law_1145 dL_law_1146 dL_law_1147 dL_law_1148 dL_law_1149 hp0 ?_
    refine ld_2 hL hi0 hi6 hx hb hX hbl hbA hS hl dL_law_1150 dL_law_1151 dL_law_1152 dL_law_1153 dL_law_1154 hp1 ?_
    refine ld_3 hL hi0 hi6 hx hb hX hbl hbA hS hl dL_law_1155 dL_law_1156 dL_law_1157 dL_law_1158 dL_law_1159 hp2 ?_
    refine ld_4 hL hi0 hi6 hx hb hX hbl hbA hS hl dL_law_1160 dL_law_1161 dL_law_1162 dL_law_1163 dL_law_1164 hp3 ?_
    refine S_calli (va_runV (As := [.int p0, .int p1, .int p2, .int p3]) (rest := []) ⟨hx, hb, hml, hown, hts⟩ (k_Wwager_1 l D k A a z G p0 p1 p2 p3 hv_0_0 hv_0_1 hv_6_4) (cwV 4 hts (gd_V hgd m1142 m1143 m1144 m117 m1145) rfl rfl rfl hd_X11_wager ⟨Nat.le_of_ble_eq_true rfl, Nat.le_of_ble_eq_true rfl⟩) (pre_W hW hB_G hK hZ hS kd_0 rfl) rfl rfl hl.1 rfl (lv_room (Nat.le_of_ble_eq_true rfl)) dL_law_1165 ⟨Nat.le_of_ble_eq_true rfl, Nat.le_of_ble_eq_true rfl⟩) hS (fun r_1 G_2 H locs hpo hW hS => ?_)
    have hX_5 : P_Wwager_1 p0 p1 p2 p3 G r_1 G_2 := hpo
    obtain ⟨hB_G_2, hq_3, -⟩ := hpo
    refine lv_pop hx hb dL_law_1168 rfl ?_
    refine lv_aload_n hx hb dL_law_1169 rfl (lv_at hl 2 rfl) ?_
    refine ld_1 hL hi0 hi6 hx hb hX hbl hbA hS hl dL_law_1170 dL_law_1171 dL_law_1172 dL_law_1173 dL_law_1174 hp0 ?_
    refine ld_2 hL hi0 hi6 hx hb hX hbl hbA hS hl dL_law_1175 dL_law_1176 dL_law_1177 dL_law_1178 dL_law_1179 hp1 ?_
    refine ld_3 hL hi0 hi6 hx hb hX hbl hbA hS hl dL_law_1180 dL_law_1181 dL_law_1182 dL_law_1183 dL_law_1184 hp2 ?_
    refine ld_4 hL hi0 hi6 hx hb hX hbl hbA hS hl dL_law_1185 dL_law_1186 dL_law_1187 dL_law_1188 dL_law_1189 hp3 ?_
    have fr_6 : Fr [37, 38, 39, 40, 42, 43, 46, 47] [(6, 3), (7, 1), (7, 2), (7, 3), (7, 4), (7, 5), (7, 6), (7, 7)] G G_2 := (Fr.call9 (rs := [37, 38, 39, 40, 42, 43, 46, 47]) (fs := [(6, 3), (7, 1), (7, 2), (7, 3), (7, 4), (7, 5), (7, 6), (7, 7)]) Fr.rf hq_3 rfl rfl)
    have g_7 : gP G_2 = gP G := gP_fr fr_6 (gr_q rfl) (gf_q rfl)
    have g_8 : gW G_2 = gW G := gW_fr fr_6 (gr_q rfl) (gf_q rfl)
    refine S_calli (va_runV (As := [.int p0, .int p1, .int p2, .int p3]) (rest := []) ⟨hx, hb, hml, hown, hts⟩ (n_wager l D k A a z G_2 p0 p1 p2 p3 (by omega) (by omega)) (cwV 4 hts (gd_V hgd m1967 m1968 m1969 m131 m1970) rfl rfl rfl hd_X12_wager ⟨Nat.le_of_ble_eq_true rfl, Nat.le_of_ble_eq_true rfl⟩) (pre_W hW hB_G_2 hK hZ hS kd_66 rfl) rfl rfl hl.1 rfl (lv_room (Nat.le_of_ble_eq_true rfl)) dL_law_1190 ⟨Nat.le_of_ble_eq_true rfl, Nat.le_of_ble_eq_true rfl⟩) hS (fun r_9 G_10 H locs hpo hW hS => ?_)
    have hX_13 : Q_wager p0 p1 p2 p3 G_2 r_9 G_10 := hpo
    obtain ⟨hB_G_10, hq_11, -⟩ := hpo
    have u_14 := L_wager_1 hX_5 hX_13 rfl rfl rfl rfl (by omega)
    refine lv_pop hx hb dL_law_1193 rfl ?_
    refine lv_goto (tgt := 1641) hx hb dL_law_1194 rfl ?_
    exact K G_10 _ _ _ (Or.inl (LI_of_1 (LIn_fr_1 (LIn_fr_1 (show LIn_1 G from ⟨hv_0_0, hv_0_1, hv_6_4, hj0, hj1, hj2, hj3, hj4, hj5, hj6, hj7, hj8, hj9, hj10, hj11⟩) hq_3 (by decide +kernel)) hq_11 (by decide +kernel)) (by omega))) hB_G_10 hW hS (lv_sub hl [0, 1, 2, 3] rfl)
  · skip
    obtain ⟨p0, hp0⟩ : ∃ y, y = xs (i0 + 1).toNatClampNeg := ⟨_, rfl⟩
    obtain ⟨p1, hp1⟩ : ∃ y, y = xs (i0 + 2).toNatClampNeg := ⟨_, rfl⟩
    obtain ⟨p2, hp2⟩ : ∃ y, y = xs (i0 + 3).toNatClampNeg := ⟨_, rfl⟩
    obtain ⟨p3, hp3⟩ : ∃ y, y = xs (i0 + 4).toNatClampNeg := ⟨_, rfl⟩
    obtain ⟨p4, hp4⟩ : ∃ y, y = xs (i0 + 5).toNatClampNeg := ⟨_, rfl⟩
    refine lv_aload_n hx hb dL_law_1144 rfl (lv_at hl 1 rfl) ?_
    refine ld_1 hL hi0 hi6 hx hb hX hbl hbA hS hl dL_law_1145 dL_law_1146 dL_law_1147 dL_law_1148 dL_law_1149 hp0 ?_
    refine ld_2 hL hi0 hi6 hx hb hX hbl hbA hS hl dL_law_1150 dL_law_1151 dL_law_1152 dL_law_1153 dL_law_1154 hp1 ?_
    refine ld_3 hL hi0 hi6 hx hb hX hbl hbA hS hl dL_law_1155 dL_law_1156 dL_law_1157 dL_law_1158 dL_law_1159 hp2 ?_
    refine ld_4 hL hi0 hi6 hx hb hX hbl hbA hS hl dL_law_1160 dL_law_1161 dL_law_1162 dL_law_1163 dL_law_1164 hp3 ?_
    refine S_calli (va_runV (As := [.int p0, .int p1, .int p2, .int p3]) (rest := []) ⟨hx, hb, hml, hown, hts⟩ (k_Wwager_2 l D k A a z G p0 p1 p2 p3 hv_0_0 hv_0_1 hv_6_4) (cwV 4 hts (gd_V hgd m1142 m1143 m1144 m117 m1145) rfl rfl rfl hd_X11_wager ⟨Nat.le_of_ble_eq_true rfl, Nat.le_of_ble_eq_true rfl⟩) (pre_W hW hB_G hK hZ hS kd_0 rfl) rfl rfl hl.1 rfl (lv_room (Nat.le_of_ble_eq_true rfl)) dL_law_1165 ⟨Nat.le_of_ble_eq_true rfl, Nat.le_of_ble_eq_true rfl⟩) hS (fun r_1 G_2 H locs hpo hW hS => ?_)
    have hX_5 : P_Wwager_2 p0 p1 p2 p3 G r_1 G_2 := hpo
    obtain ⟨hB_G_2, hq_3, -⟩ := hpo
    refine lv_pop hx hb dL_law_1168 rfl ?_
    refine lv_aload_n hx hb dL_law_1169 rfl (lv_at hl 2 rfl) ?_
    refine ld_1 hL hi0 hi6 hx hb hX hbl hbA hS hl dL_law_1170 dL_law_1171 dL_law_1172 dL_law_1173 dL_law_1174 hp0 ?_
    refine ld_2 hL hi0 hi6 hx hb hX hbl hbA hS hl dL_law_1175 dL_law_1176 dL_law_1177 dL_law_1178 dL_law_1179 hp1 ?_
    refine ld_3 hL hi0 hi6 hx hb hX hbl hbA hS hl dL_law_1180 dL_law_1181 dL_law_1182 dL_law_1183 dL_law_1184 hp2 ?_
    refine ld_4 hL hi0 hi6 hx hb hX hbl hbA hS hl dL_law_1185 dL_law_1186 dL_law_1187 dL_law_1188 dL_law_1189 hp3 ?_
    have fr_6 : Fr [37, 38, 39, 40, 42, 43, 46, 47] [(6, 3), (7, 1), (7, 2), (7, 3), (7, 4), (7, 5), (7, 6), (7, 7)] G G_2 := (Fr.call9 (rs := [37, 38, 39, 40, 42, 43, 46, 47]) (fs := [(6, 3), (7, 1), (7, 2), (7, 3), (7, 4), (7, 5), (7, 6), (7, 7)]) Fr.rf hq_3 rfl rfl)
    have g_7 : gP G_2 = gP G := gP_fr fr_6 (gr_q rfl) (gf_q rfl)
    have g_8 : gW G_2 = gW G := gW_fr fr_6 (gr_q rfl) (gf_q rfl)
    refine S_calli (va_runV (As := [.int p0, .int p1, .int p2, .int p3]) (rest := []) ⟨hx, hb, hml, hown, hts⟩ (n_wager l D k A a z G_2 p0 p1 p2 p3 (by omega) (by omega)) (cwV 4 hts (gd_V hgd m1967 m1968 m1969 m131 m1970) rfl rfl rfl hd_X12_wager ⟨Nat.le_of_ble_eq_true rfl, Nat.le_of_ble_eq_true rfl⟩) (pre_W hW hB_G_2 hK hZ hS kd_66 rfl) rfl rfl hl.1 rfl (lv_room (Nat.le_of_ble_eq_true rfl)) dL_law_1190 ⟨Nat.le_of_ble_eq_true rfl, Nat.le_of_ble_eq_true rfl⟩) hS (fun r_9 G_10 H locs hpo hW hS => ?_)
    have hX_13 : Q_wager p0 p1 p2 p3 G_2 r_9 G_10 := hpo
    obtain ⟨hB_G_10, hq_11, -⟩ := hpo
    have u_14 := L_wager_2 hX_5 hX_13 rfl rfl rfl rfl (by omega)
    refine lv_pop hx hb dL_law_1193 rfl ?_
    refine lv_goto (tgt := 1641) hx hb dL_law_1194 rfl ?_
    exact K G_10 _ _ _ (Or.inr (LI_of_2 (LIn_fr_2 (LIn_fr_2 (show LIn_2 G from ⟨hv_0_0, hv_0_1, hv_6_4, hj0, hj1, hj2, hj3, hj4, hj5, hj6, hj7, hj8, hj9, hj10, hj11⟩) hq_3 (by decide +kernel)) hq_11 (by decide +kernel)) (by omega))) hB_G_10 hW hS (lv_sub hl [0, 1, 2, 3] rfl)

set_option maxHeartbeats 4000000 in
set_option maxRecDepth 100000 in
theorem law_21 {p : Program} {l : Launch} {e : Env} {s : State} {m : MethodId} {below : List Frame} {meth : Method} {c : Code} {D : va_G} {k : KT} {A : Nat → Prop} {a : Nat → Nat} {z : SK} {b L : Nat} {xs : Nat → Int32} (hL : L ≤ 3072) (C0 : lw_At p s m meth c b L xs) (hK : cK D k s) (hZ : Sx A z s) (hbA : ¬ A b) {G : GS} {i0 : Int32} (hi0 : 0 ≤ i0.toInt) (hi6 : i0.toInt + 6 ≤ L) (hI : LI G) (hB_G : Bd G) {H : Heap} {locs : List Loc} {ls : Array Slot} (hW : Wd D k A a G H) (hS : va_S A s.heap H locs) (hl : lv_has ls 4 [(0, .ref b), (1, .ref (a 0)), (2, .ref (a 66)), (3, .int i0)]) (K : ∀ (G1 : GS) (H1 : Heap) (locs1 : List Loc) (ls1 : Array Slot), LI G1 → Bd G1 → Wd D k A a G1 H1 → va_S A s.heap H1 locs1 → lv_has ls1 4 [(0, .ref b), (1, .ref (a 0)), (2, .ref (a 66)), (3, .int i0)] → W p l e room_1 s m #[Value.ref b] below meth c H1 locs1 119 46443 (lw_Z below #[Value.ref b] s) (F0 m 1641 ls1 [])) : W p l e room_1 s m #[Value.ref b] below meth c H locs 119 46443 (lw_Z below #[Value.ref b] s) (F0 m 1197 ls []) := by
  obtain ⟨hx, hb, hr, hml, hown, hts, hX, hbl, hlocks, hgv⟩ := id C0
  have hown : s.vm.findClass RL = some m.cls := hown
  have hgd : ∀ w ∈ gd, w ∈ lw_tbl := fun w h => (List.mem_filter.mp h).1
  have hg : ∀ w ∈ gd, w.before #[Value.ref b] s = true := fun w h => hts w (hgd w h)
  rcases hI with ⟨hv_0_0, hv_0_1, hv_6_4, hj0, hj1, hj2, hj3, hj4, hj5, hj6, hj7, hj8, hj9, hj10, hj11, hj12⟩ | ⟨hv_0_0, hv_0_1, hv_6_4, hj0, hj1, hj2, hj3, hj4, hj5, hj6, hj7, hj8, hj9, hj10, hj11, hj12⟩
  · skip
    obtain ⟨p0, hp0⟩ : ∃ y, y = xs (i0 + 1).toNatClampNeg := ⟨_, rfl⟩
    obtain ⟨p1, hp1⟩ : ∃ y, y = xs (i0 + 2).toNatClampNeg := ⟨_, rfl⟩
    obtain ⟨p2, hp2⟩ : ∃ y, y = xs (i0 + 3).toNatClampNeg := ⟨_, rfl⟩
    obtain ⟨p3, hp3⟩ : ∃ y, y = xs (i0 + 4).toNatClampNeg := ⟨_, rfl⟩
    obtain ⟨p4, hp4⟩ : ∃ y, y = xs (i0 + 5).toNatClampNeg := ⟨_, rfl⟩
    refine lv_aload_n hx hb dL_law_1197 rfl (lv_at hl 1 rfl) ?_
    refine ld_1 hL hi0 hi6 hx hb hX hbl hbA hS hl dL_law_1198 dL_law_1199 dL_law_1200 dL_law_1201 dL_law_1202 hp0 ?_
    refine ld_2 hL hi0 hi6 hx hb hX hbl hbA hS hl dL_law_1203 dL_law_1204 dL_law_1205 dL_law_1206 dL_law_1207 hp1 ?_
    refine S_calli (va_runV (As := [.int p0, .int p1]) (rest := []) ⟨hx, hb, hml, hown, hts⟩ (k_Wleave_1 l D k A a z G p0 p1 hv_0_0 hv_0_1 hv_6_4) (cwV 2 hts (gd_V hgd m1162 m1163 m1164 m117 m1165) rfl rfl rfl hd_X11_leave ⟨Nat.le_of_ble_eq_true rfl, Nat.le_of_ble_eq_true rfl⟩) (pre_W hW hB_G hK hZ hS kd_0 rfl) rfl rfl hl.1 rfl (lv_room (Nat.le_of_ble_eq_true rfl)) dL_law_1208 ⟨Nat.le_of_ble_eq_true rfl, Nat.le_of_ble_eq_true rfl⟩) hS (fun r_1 G_2 H locs hpo hW hS => ?_)
    have hX_5 : P_Wleave_1 p0 p1 G r_1 G_2 := hpo
    obtain ⟨hB_G_2, hq_3, -⟩ := hpo
    refine lv_pop hx hb dL_law_1211 rfl ?_
    refine lv_aload_n hx hb dL_law_1212 rfl (lv_at hl 2 rfl) ?_
    refine ld_1 hL hi0 hi6 hx hb hX hbl hbA hS hl dL_law_1213 dL_law_1214 dL_law_1215 dL_law_1216 dL_law_1217 hp0 ?_
    refine ld_2 hL hi0 hi6 hx hb hX hbl hbA hS hl dL_law_1218 dL_law_1219 dL_law_1220 dL_law_1221 dL_law_1222 hp1 ?_
    have fr_6 : Fr [37, 38, 39, 40, 42, 43] [(6, 3), (7, 1), (7, 2), (7, 3), (7, 4), (7, 5), (7, 6), (7, 7)] G G_2 := (Fr.call9 (rs := [37, 38, 39, 40, 42, 43]) (fs := [(6, 3), (7, 1), (7, 2), (7, 3), (7, 4), (7, 5), (7, 6), (7, 7)]) Fr.rf hq_3 rfl rfl)
    have g_7 : gP G_2 = gP G := gP_fr fr_6 (gr_q rfl) (gf_q rfl)
    have g_8 : gW G_2 = gW G := gW_fr fr_6 (gr_q rfl) (gf_q rfl)
    refine S_calli (va_runV (As := [.int p0, .int p1]) (rest := []) ⟨hx, hb, hml, hown, hts⟩ (n_leave l D k A a z G_2 p0 p1 (by omega) (by omega)) (cwV 2 hts (gd_V hgd m1983 m1984 m1985 m131 m1986) rfl rfl rfl hd_X12_leave ⟨Nat.le_of_ble_eq_true rfl, Nat.le_of_ble_eq_true rfl⟩) (pre_W hW hB_G_2 hK hZ hS kd_66 rfl) rfl rfl hl.1 rfl (lv_room (Nat.le_of_ble_eq_true rfl)) dL_law_1223 ⟨Nat.le_of_ble_eq_true rfl, Nat.le_of_ble_eq_true rfl⟩) hS (fun r_9 G_10 H locs hpo hW hS => ?_)
    have hX_13 : Q_leave p0 p1 G_2 r_9 G_10 := hpo
    obtain ⟨hB_G_10, hq_11, -⟩ := hpo
    have u_14 := L_leave_1 hX_5 hX_13 rfl rfl (by omega)
    refine lv_pop hx hb dL_law_1226 rfl ?_
    refine lv_goto (tgt := 1641) hx hb dL_law_1227 rfl ?_
    exact K G_10 _ _ _ (Or.inl (LI_of_1 (LIn_fr_1 (LIn_fr_1 (show LIn_1 G from ⟨hv_0_0, hv_0_1, hv_6_4, hj0, hj1, hj2, hj3, hj4, hj5, hj6, hj7, hj8, hj9, hj10, hj11⟩) hq_3 (by decide +kernel)) hq_11 (by decide +kernel)) (by omega))) hB_G_10 hW hS (lv_sub hl [0, 1, 2, 3] rfl)
  · skip
    obtain ⟨p0, hp0⟩ : ∃ y, y = xs (i0 + 1).toNatClampNeg := ⟨_, rfl⟩
    obtain ⟨p1, hp1⟩ : ∃ y, y = xs (i0 + 2).toNatClampNeg := ⟨_, rfl⟩
    obtain ⟨p2, hp2⟩ : ∃ y, y = xs (i0 + 3).toNatClampNeg := ⟨_, rfl⟩
    obtain ⟨p3, hp3⟩ : ∃ y, y = xs (i0 + 4).toNatClampNeg := ⟨_, rfl⟩
    obtain ⟨p4, hp4⟩ : ∃ y, y = xs (i0 + 5).toNatClampNeg := ⟨_, rfl⟩
    refine lv_aload_n hx hb dL_law_1197 rfl (lv_at hl 1 rfl) ?_
    refine ld_1 hL hi0 hi6 hx hb hX hbl hbA hS hl dL_law_1198 dL_law_1199 dL_law_1200 dL_law_1201 dL_law_1202 hp0 ?_
    refine ld_2 hL hi0 hi6 hx hb hX hbl hbA hS hl dL_law_1203 dL_law_1204 dL_law_1205 dL_law_1206 dL_law_1207 hp1 ?_
    refine S_calli (va_runV (As := [.int p0, .int p1]) (rest := []) ⟨hx, hb, hml, hown, hts⟩ (k_Wleave_2 l D k A a z G p0 p1 hv_0_0 hv_0_1 hv_6_4) (cwV 2 hts (gd_V hgd m1162 m1163 m1164 m117 m1165) rfl rfl rfl hd_X11_leave ⟨Nat.le_of_ble_eq_true rfl, Nat.le_of_ble_eq_true rfl⟩) (pre_W hW hB_G hK hZ hS kd_0 rfl) rfl rfl hl.1 rfl (lv_room (Nat.le_of_ble_eq_true rfl)) dL_law_1208 ⟨Nat.le_of_ble_eq_true rfl, Nat.le_of_ble_eq_true rfl⟩) hS (fun r_1 G_2 H locs hpo hW hS => ?_)
    have hX_5 : P_Wleave_2 p0 p1 G r_1 G_2 := hpo
    obtain ⟨hB_G_2, hq_3, -⟩ := hpo
    refine lv_pop hx hb dL_law_1211 rfl ?_
    refine lv_aload_n hx hb dL_law_1212 rfl (lv_at hl 2 rfl) ?_
    refine ld_1 hL hi0 hi6 hx hb hX hbl hbA hS hl dL_law_1213 dL_law_1214 dL_law_1215 dL_law_1216 dL_law_1217 hp0 ?_
    refine ld_2 hL hi0 hi6 hx hb hX hbl hbA hS hl dL_law_1218 dL_law_1219 dL_law_1220 dL_law_1221 dL_law_1222 hp1 ?_
    have fr_6 : Fr [37, 38, 39, 40, 42, 43] [(6, 3), (7, 1), (7, 2), (7, 3), (7, 4), (7, 5), (7, 6), (7, 7)] G G_2 := (Fr.call9 (rs := [37, 38, 39, 40, 42, 43]) (fs := [(6, 3), (7, 1), (7, 2), (7, 3), (7, 4), (7, 5), (7, 6), (7, 7)]) Fr.rf hq_3 rfl rfl)
    have g_7 : gP G_2 = gP G := gP_fr fr_6 (gr_q rfl) (gf_q rfl)
    have g_8 : gW G_2 = gW G := gW_fr fr_6 (gr_q rfl) (gf_q rfl)
    refine S_calli (va_runV (As := [.int p0, .int p1]) (rest := []) ⟨hx, hb, hml, hown, hts⟩ (n_leave l D k A a z G_2 p0 p1 (by omega) (by omega)) (cwV 2 hts (gd_V hgd m1983 m1984 m1985 m131 m1986) rfl rfl rfl hd_X12_leave ⟨Nat.le_of_ble_eq_true rfl, Nat.le_of_ble_eq_true rfl⟩) (pre_W hW hB_G_2 hK hZ hS kd_66 rfl) rfl rfl hl.1 rfl (lv_room (Nat.le_of_ble_eq_true rfl)) dL_law_1223 ⟨Nat.le_of_ble_eq_true rfl, Nat.le_of_ble_eq_true rfl⟩) hS (fun r_9 G_10 H locs hpo hW hS => ?_)
    have hX_13 : Q_leave p0 p1 G_2 r_9 G_10 := hpo
    obtain ⟨hB_G_10, hq_11, -⟩ := hpo
    have u_14 := L_leave_2 hX_5 hX_13 rfl rfl (by omega)
    refine lv_pop hx hb dL_law_1226 rfl ?_
    refine lv_goto (tgt := 1641) hx hb dL_law_1227 rfl ?_
    exact K G_10 _ _ _ (Or.inr (LI_of_2 (LIn_fr_2 (LIn_fr_2 (show LIn_2 G from ⟨hv_0_0, hv_0_1, hv_6_4, hj0, hj1, hj2, hj3, hj4, hj5, hj6, hj7, hj8, hj9, hj10, hj11⟩) hq_3 (by decide +kernel)) hq_11 (by decide +kernel)) (by omega))) hB_G_10 hW hS (lv_sub hl [0, 1, 2, 3] rfl)

set_option maxHeartbeats 4000000 in
set_option maxRecDepth 100000 in
theorem law_22 {p : Program} {l : Launch} {e : Env} {s : State} {m : MethodId} {below : List Frame} {meth : Method} {c : Code} {D : va_G} {k : KT} {A : Nat → Prop} {a : Nat → Nat} {z : SK} {b L : Nat} {xs : Nat → Int32} (hL : L ≤ 3072) (C0 : lw_At p s m meth c b L xs) (hK : cK D k s) (hZ : Sx A z s) (hbA : ¬ A b) {G : GS} {i0 : Int32} (hi0 : 0 ≤ i0.toInt) (hi6 : i0.toInt + 6 ≤ L) (hI : LI G) (hB_G : Bd G) {H : Heap} {locs : List Loc} {ls : Array Slot} (hW : Wd D k A a G H) (hS : va_S A s.heap H locs) (hl : lv_has ls 4 [(0, .ref b), (1, .ref (a 0)), (2, .ref (a 66)), (3, .int i0)]) (K : ∀ (G1 : GS) (H1 : Heap) (locs1 : List Loc) (ls1 : Array Slot), LI G1 → Bd G1 → Wd D k A a G1 H1 → va_S A s.heap H1 locs1 → lv_has ls1 4 [(0, .ref b), (1, .ref (a 0)), (2, .ref (a 66)), (3, .int i0)] → W p l e room_1 s m #[Value.ref b] below meth c H1 locs1 119 46443 (lw_Z below #[Value.ref b] s) (F0 m 1641 ls1 [])) : W p l e room_1 s m #[Value.ref b] below meth c H locs 119 46443 (lw_Z below #[Value.ref b] s) (F0 m 1230 ls []) := by
  obtain ⟨hx, hb, hr, hml, hown, hts, hX, hbl, hlocks, hgv⟩ := id C0
  have hown : s.vm.findClass RL = some m.cls := hown
  have hgd : ∀ w ∈ gd, w ∈ lw_tbl := fun w h => (List.mem_filter.mp h).1
  have hg : ∀ w ∈ gd, w.before #[Value.ref b] s = true := fun w h => hts w (hgd w h)
  rcases hI with ⟨hv_0_0, hv_0_1, hv_6_4, hj0, hj1, hj2, hj3, hj4, hj5, hj6, hj7, hj8, hj9, hj10, hj11, hj12⟩ | ⟨hv_0_0, hv_0_1, hv_6_4, hj0, hj1, hj2, hj3, hj4, hj5, hj6, hj7, hj8, hj9, hj10, hj11, hj12⟩
  · skip
    obtain ⟨p0, hp0⟩ : ∃ y, y = xs (i0 + 1).toNatClampNeg := ⟨_, rfl⟩
    obtain ⟨p1, hp1⟩ : ∃ y, y = xs (i0 + 2).toNatClampNeg := ⟨_, rfl⟩
    obtain ⟨p2, hp2⟩ : ∃ y, y = xs (i0 + 3).toNatClampNeg := ⟨_, rfl⟩
    obtain ⟨p3, hp3⟩ : ∃ y, y = xs (i0 + 4).toNatClampNeg := ⟨_, rfl⟩
    obtain ⟨p4, hp4⟩ : ∃ y, y = xs (i0 + 5).toNatClampNeg := ⟨_, rfl⟩
    refine lv_aload_n hx hb dL_law_1230 rfl (lv_at hl 1 rfl) ?_
    refine ld_1 hL hi0 hi6 hx hb hX hbl hbA hS hl dL_law_1231 dL_law_1232 dL_law_1233 dL_law_1234 dL_law_1235 hp0 ?_
    refine ld_2 hL hi0 hi6 hx hb hX hbl hbA hS hl dL_law_1236 dL_law_1237 dL_law_1238 dL_law_1239 dL_law_1240 hp1 ?_
    refine ld_3 hL hi0 hi6 hx hb hX hbl hbA hS hl dL_law_1241 dL_law_1242 dL_law_1243 dL_law_1244 dL_law_1245 hp2 ?_
    have b_1 : 0 ≤ (G.1 30 4).toInt ∧ (G.1 30 4).toInt ≤ 40 := bd_30_4 hB_G
    have b_2 : 0 ≤ (G.1 30 5).toInt ∧ (G.1 30 5).toInt ≤ 40 := bd_30_5 hB_G
    refine S_calli (va_runV (As := [.int p0, .int p1, .int p2]) (rest := []) ⟨hx, hb, hml, hown, hts⟩ (k_Wwalk_1 l D k A a z G p0 p1 p2 hv_0_0 hv_0_1 hv_6_4 (by omega)) (cwV 3 hts (gd_V hgd m1166 m1167 m1168 m117 m1169) rfl rfl rfl hd_X11_walk ⟨Nat.le_of_ble_eq_true rfl, Nat.le_of_ble_eq_true rfl⟩) (pre_W hW hB_G hK hZ hS kd_0 rfl) rfl rfl hl.1 rfl (lv_room (Nat.le_of_ble_eq_true rfl)) dL_law_1246 ⟨Nat.le_of_ble_eq_true rfl, Nat.le_of_ble_eq_true rfl⟩) hS (fun r_3 G_4 H locs hpo hW hS => ?_)
    have hX_7 : P_Wwalk_1 p0 p1 p2 G r_3 G_4 := hpo
    obtain ⟨hB_G_4, hq_5, hp_6, -⟩ := hpo
    refine lv_pop hx hb dL_law_1249 rfl ?_
    refine lv_aload_n hx hb dL_law_1250 rfl (lv_at hl 2 rfl) ?_
    refine ld_1 hL hi0 hi6 hx hb hX hbl hbA hS hl dL_law_1251 dL_law_1252 dL_law_1253 dL_law_1254 dL_law_1255 hp0 ?_
    refine ld_2 hL hi0 hi6 hx hb hX hbl hbA hS hl dL_law_1256 dL_law_1257 dL_law_1258 dL_law_1259 dL_law_1260 hp1 ?_
    refine ld_3 hL hi0 hi6 hx hb hX hbl hbA hS hl dL_law_1261 dL_law_1262 dL_law_1263 dL_law_1264 dL_law_1265 hp2 ?_
    have fr_8 : Fr [37, 38, 39, 58, 59] [(6, 3), (30, 4), (30, 5)] G G_4 := (Fr.call9 (rs := [37, 38, 39, 58, 59]) (fs := [(6, 3), (30, 4), (30, 5)]) Fr.rf hq_5 rfl rfl)
    have g_9 : gP G_4 = gP G := gP_fr fr_8 (gr_q rfl) (gf_q rfl)
    have b_10 : 0 ≤ (G.1 66 78).toInt ∧ (G.1 66 78).toInt ≤ 40 := bd_66_78 hB_G
    have g_11 : (G_4.1 66 78).toInt = (G.1 66 78).toInt := (congrArg Int32.toInt (show G_4.1 66 78 = (G.1 66 78) from (hq_5.i9 66 78 rfl rfl)))
    have b_12 : 0 ≤ (G.1 66 79).toInt ∧ (G.1 66 79).toInt ≤ 40 := bd_66_79 hB_G
    have g_13 : (G_4.1 66 79).toInt = (G.1 66 79).toInt := (congrArg Int32.toInt (show G_4.1 66 79 = (G.1 66 79) from (hq_5.i9 66 79 rfl rfl)))
    refine S_calli (va_runV (As := [.int p0, .int p1, .int p2]) (rest := []) ⟨hx, hb, hml, hown, hts⟩ (n_walk l D k A a z G_4 p0 p1 p2 ((by first | (clear b_1 b_2 b_10 g_11 b_12 g_13; omega) | omega)) ((by first | (clear b_1 b_2 g_9; omega) | omega))) (cwV 3 hts (gd_V hgd m1987 m1988 m1989 m131 m1990) rfl rfl rfl hd_X12_walk ⟨Nat.le_of_ble_eq_true rfl, Nat.le_of_ble_eq_true rfl⟩) (pre_W hW hB_G_4 hK hZ hS kd_66 rfl) rfl rfl hl.1 rfl (lv_room (Nat.le_of_ble_eq_true rfl)) dL_law_1266 ⟨Nat.le_of_ble_eq_true rfl, Nat.le_of_ble_eq_true rfl⟩) hS (fun r_14 G_15 H locs hpo hW hS => ?_)
    have hX_18 : Q_walk p0 p1 p2 G_4 r_14 G_15 := hpo
    obtain ⟨hB_G_15, hq_16, hp_17, -⟩ := hpo
    obtain ⟨u_19, u_20⟩ := L_walk_1 hX_7 hX_18 rfl rfl rfl (by omega)
    refine lv_pop hx hb dL_law_1269 rfl ?_
    refine lv_goto (tgt := 1641) hx hb dL_law_1270 rfl ?_
    have fr_21 : Fr [110, 111, 37, 38, 39, 58, 59, 76, 97, 98] [(6, 3), (30, 4), (30, 5), (66, 59), (66, 60), (66, 61), (66, 62), (66, 63), (66, 78), (66, 79)] G G_15 := (Fr.call9 (rs := [110, 111, 37, 38, 39, 58, 59, 76, 97, 98]) (fs := [(6, 3), (30, 4), (30, 5), (66, 59), (66, 60), (66, 61), (66, 62), (66, 63), (66, 78), (66, 79)]) (Fr.call9 (rs := [110, 111, 37, 38, 39, 58, 59, 76, 97, 98]) (fs := [(6, 3), (30, 4), (30, 5), (66, 59), (66, 60), (66, 61), (66, 62), (66, 63), (66, 78), (66, 79)]) Fr.rf hq_5 rfl rfl) hq_16 rfl rfl)
    have g_22 : gO G_15 = gO G := gO_fr fr_21 (gr_q rfl) (gf_q rfl)
    have g_23 : gP G_15 = gP G := gP_fr fr_21 (gr_q rfl) (gf_q rfl)
    have g_24 : gS G_15 = gS G := gS_fr fr_21 (gr_q rfl) (gf_q rfl)
    have g_25 : gTE G_15 = gTE G := gTE_fr fr_21 (gr_q rfl) (gf_q rfl)
    have g_26 : gW G_15 = gW G := gW_fr fr_21 (gr_q rfl) (gf_q rfl)
    have b_27 : 0 ≤ (G.1 0 11).toInt ∧ (G.1 0 11).toInt ≤ 1600 := bd_0_11 hB_G
    have g_28 : (G_15.1 0 11).toInt = (G.1 0 11).toInt := (congrArg Int32.toInt (show G_15.1 0 11 = (G.1 0 11) from ((hq_16.i9 0 11 rfl rfl).trans (hq_5.i9 0 11 rfl rfl))))
    have b_29 : 0 ≤ (G.1 3 7).toInt ∧ (G.1 3 7).toInt ≤ 4 := bd_3_7 hB_G
    have g_30 : (G_15.1 3 7).toInt = (G.1 3 7).toInt := (congrArg Int32.toInt (show G_15.1 3 7 = (G.1 3 7) from ((hq_16.i9 3 7 rfl rfl).trans (hq_5.i9 3 7 rfl rfl))))
    have b_31 : (-1) ≤ (G.1 3 8).toInt ∧ (G.1 3 8).toInt ≤ 1600 := bd_3_8 hB_G
    have g_32 : (G_15.1 3 8).toInt = (G.1 3 8).toInt := (congrArg Int32.toInt (show G_15.1 3 8 = (G.1 3 8) from ((hq_16.i9 3 8 rfl rfl).trans (hq_5.i9 3 8 rfl rfl))))
    have b_33 : 0 ≤ (G_4.1 30 4).toInt ∧ (G_4.1 30 4).toInt ≤ 40 := bd_30_4 hB_G_4
    have g_34 : (G_15.1 30 4).toInt = (G_4.1 30 4).toInt := (congrArg Int32.toInt (show G_15.1 30 4 = (G_4.1 30 4) from (hq_16.i9 30 4 rfl rfl)))
    have b_35 : 0 ≤ (G_4.1 30 5).toInt ∧ (G_4.1 30 5).toInt ≤ 40 := bd_30_5 hB_G_4
    have g_36 : (G_15.1 30 5).toInt = (G_4.1 30 5).toInt := (congrArg Int32.toInt (show G_15.1 30 5 = (G_4.1 30 5) from (hq_16.i9 30 5 rfl rfl)))
    have b_37 : 0 ≤ (G.1 31 6).toInt ∧ (G.1 31 6).toInt ≤ 100000 := bd_31_6 hB_G
    have g_38 : (G_15.1 31 6).toInt = (G.1 31 6).toInt := (congrArg Int32.toInt (show G_15.1 31 6 = (G.1 31 6) from ((hq_16.i9 31 6 rfl rfl).trans (hq_5.i9 31 6 rfl rfl))))
    have b_39 : 0 ≤ (G.1 66 1).toInt ∧ (G.1 66 1).toInt ≤ 1600 := bd_66_1 hB_G
    have g_40 : (G_15.1 66 1).toInt = (G.1 66 1).toInt := (congrArg Int32.toInt (show G_15.1 66 1 = (G.1 66 1) from ((hq_16.i9 66 1 rfl rfl).trans (hq_5.i9 66 1 rfl rfl))))
    have b_41 : 0 ≤ (G.1 66 2).toInt ∧ (G.1 66 2).toInt ≤ 4 := bd_66_2 hB_G
    have g_42 : (G_15.1 66 2).toInt = (G.1 66 2).toInt := (congrArg Int32.toInt (show G_15.1 66 2 = (G.1 66 2) from ((hq_16.i9 66 2 rfl rfl).trans (hq_5.i9 66 2 rfl rfl))))
    have b_43 : (-1) ≤ (G.1 66 3).toInt ∧ (G.1 66 3).toInt ≤ 1600 := bd_66_3 hB_G
    have g_44 : (G_15.1 66 3).toInt = (G.1 66 3).toInt := (congrArg Int32.toInt (show G_15.1 66 3 = (G.1 66 3) from ((hq_16.i9 66 3 rfl rfl).trans (hq_5.i9 66 3 rfl rfl))))
    have b_45 : 0 ≤ (G_15.1 66 78).toInt ∧ (G_15.1 66 78).toInt ≤ 40 := bd_66_78 hB_G_15
    have b_46 : 0 ≤ (G_15.1 66 79).toInt ∧ (G_15.1 66 79).toInt ≤ 40 := bd_66_79 hB_G_15
    have b_47 : 0 ≤ (G.1 66 86).toInt ∧ (G.1 66 86).toInt ≤ 100000 := bd_66_86 hB_G
    have g_48 : (G_15.1 66 86).toInt = (G.1 66 86).toInt := (congrArg Int32.toInt (show G_15.1 66 86 = (G.1 66 86) from ((hq_16.i9 66 86 rfl rfl).trans (hq_5.i9 66 86 rfl rfl))))
    have b_49 : 0 ≤ (G.1 96 0).toInt ∧ (G.1 96 0).toInt ≤ 9 := bd_96_0 hB_G
    have g_50 : (G_15.1 96 0).toInt = (G.1 96 0).toInt := (congrArg Int32.toInt (show G_15.1 96 0 = (G.1 96 0) from ((hq_16.i9 96 0 rfl rfl).trans (hq_5.i9 96 0 rfl rfl))))
    have b_51 : 0 ≤ (G.1 96 1).toInt ∧ (G.1 96 1).toInt ≤ 9 := bd_96_1 hB_G
    have g_52 : (G_15.1 96 1).toInt = (G.1 96 1).toInt := (congrArg Int32.toInt (show G_15.1 96 1 = (G.1 96 1) from ((hq_16.i9 96 1 rfl rfl).trans (hq_5.i9 96 1 rfl rfl))))
    have b_53 : 0 ≤ (G.1 96 2).toInt ∧ (G.1 96 2).toInt ≤ 9 := bd_96_2 hB_G
    have g_54 : (G_15.1 96 2).toInt = (G.1 96 2).toInt := (congrArg Int32.toInt (show G_15.1 96 2 = (G.1 96 2) from ((hq_16.i9 96 2 rfl rfl).trans (hq_5.i9 96 2 rfl rfl))))
    exact K G_15 _ _ _ (Or.inl ⟨((((hq_16.r9 0 0 rfl rfl).trans (hq_5.r9 0 0 rfl rfl))).trans (hv_0_0)), ((((hq_16.r9 0 1 rfl rfl).trans (hq_5.r9 0 1 rfl rfl))).trans (hv_0_1)), ((((hq_16.r9 6 4 rfl rfl).trans (hq_5.r9 6 4 rfl rfl))).trans (hv_6_4)), by omega, by omega, by omega, by omega, by omega, by omega, by omega, by omega, by omega, by omega, by omega, by omega, by omega⟩) hB_G_15 hW hS (lv_sub hl [0, 1, 2, 3] rfl)
  · skip
    obtain ⟨p0, hp0⟩ : ∃ y, y = xs (i0 + 1).toNatClampNeg := ⟨_, rfl⟩
    obtain ⟨p1, hp1⟩ : ∃ y, y = xs (i0 + 2).toNatClampNeg := ⟨_, rfl⟩
    obtain ⟨p2, hp2⟩ : ∃ y, y = xs (i0 + 3).toNatClampNeg := ⟨_, rfl⟩
    obtain ⟨p3, hp3⟩ : ∃ y, y = xs (i0 + 4).toNatClampNeg := ⟨_, rfl⟩
    obtain ⟨p4, hp4⟩ : ∃ y, y = xs (i0 + 5).toNatClampNeg := ⟨_, rfl⟩
    refine lv_aload_n hx hb dL_law_1230 rfl (lv_at hl 1 rfl) ?_
    refine ld_1 hL hi0 hi6 hx hb hX hbl hbA hS hl dL_law_1231 dL_law_1232 dL_law_1233 dL_law_1234 dL_law_1235 hp0 ?_
    refine ld_2 hL hi0 hi6 hx hb hX hbl hbA hS hl dL_law_1236 dL_law_1237 dL_law_1238 dL_law_1239 dL_law_1240 hp1 ?_
    refine ld_3 hL hi0 hi6 hx hb hX hbl hbA hS hl dL_law_1241 dL_law_1242 dL_law_1243 dL_law_1244 dL_law_1245 hp2 ?_
    have b_1 : 0 ≤ (G.1 30 4).toInt ∧ (G.1 30 4).toInt ≤ 40 := bd_30_4 hB_G
    have b_2 : 0 ≤ (G.1 30 5).toInt ∧ (G.1 30 5).toInt ≤ 40 := bd_30_5 hB_G
    refine S_calli (va_runV (As := [.int p0, .int p1, .int p2]) (rest := []) ⟨hx, hb, hml, hown, hts⟩ (k_Wwalk_2 l D k A a z G p0 p1 p2 hv_0_0 hv_0_1 hv_6_4 (by omega)) (cwV 3 hts (gd_V hgd m1166 m1167 m1168 m117 m1169) rfl rfl rfl hd_X11_walk ⟨Nat.le_of_ble_eq_true rfl, Nat.le_of_ble_eq_true rfl⟩) (pre_W hW hB_G hK hZ hS kd_0 rfl) rfl rfl hl.1 rfl (lv_room (Nat.le_of_ble_eq_true rfl)) dL_law_1246 ⟨Nat.le_of_ble_eq_true rfl, Nat.le_of_ble_eq_true rfl⟩) hS (fun r_3 G_4 H locs hpo hW hS => ?_)
    have hX_7 : P_Wwalk_2 p0 p1 p2 G r_3 G_4 := hpo
    obtain ⟨hB_G_4, hq_5, hp_6, -⟩ := hpo
    refine lv_pop hx hb dL_law_1249 rfl ?_
    refine lv_aload_n hx hb dL_law_1250 rfl (lv_at hl 2 rfl) ?_
    refine ld_1 hL hi0 hi6 hx hb hX hbl hbA hS hl dL_law_1251 dL_law_1252 dL_law_1253 dL_law_1254 dL_law_1255 hp0 ?_
    refine ld_2 hL hi0 hi6 hx hb hX hbl hbA hS hl dL_law_1256 dL_law_1257 dL_law_1258 dL_law_1259 dL_law_1260 hp1 ?_
    refine ld_3 hL hi0 hi6 hx hb hX hbl hbA hS hl dL_law_1261 dL_law_1262 dL_law_1263 dL_law_1264 dL_law_1265 hp2 ?_
    have fr_8 : Fr [37, 38, 39, 58, 59] [(6, 3), (30, 4), (30, 5)] G G_4 := (Fr.call9 (rs := [37, 38, 39, 58, 59]) (fs := [(6, 3), (30, 4), (30, 5)]) Fr.rf hq_5 rfl rfl)
    have g_9 : gP G_4 = gP G := gP_fr fr_8 (gr_q rfl) (gf_q rfl)
    have b_10 : 0 ≤ (G.1 66 78).toInt ∧ (G.1 66 78).toInt ≤ 40 := bd_66_78 hB_G
    have g_11 : (G_4.1 66 78).toInt = (G.1 66 78).toInt := (congrArg Int32.toInt (show G_4.1 66 78 = (G.1 66 78) from (hq_5.i9 66 78 rfl rfl)))
    have b_12 : 0 ≤ (G.1 66 79).toInt ∧ (G.1 66 79).toInt ≤ 40 := bd_66_79 hB_G
    have g_13 : (G_4.1 66 79).toInt = (G.1 66 79).toInt := (congrArg Int32.toInt (show G_4.1 66 79 = (G.1 66 79) from (hq_5.i9 66 79 rfl rfl)))
    refine S_calli (va_runV (As := [.int p0, .int p1, .int p2]) (rest := []) ⟨hx, hb, hml, hown, hts⟩ (n_walk l D k A a z G_4 p0 p1 p2 ((by first | (clear b_1 b_2 b_10 g_11 b_12 g_13; omega) | omega)) ((by first | (clear b_1 b_2 g_9; omega) | omega))) (cwV 3 hts (gd_V hgd m1987 m1988 m1989 m131 m1990) rfl rfl rfl hd_X12_walk ⟨Nat.le_of_ble_eq_true rfl, Nat.le_of_ble_eq_true rfl⟩) (pre_W hW hB_G_4 hK hZ hS kd_66 rfl) rfl rfl hl.1 rfl (lv_room (Nat.le_of_ble_eq_true rfl)) dL_law_1266 ⟨Nat.le_of_ble_eq_true rfl, Nat.le_of_ble_eq_true rfl⟩) hS (fun r_14 G_15 H locs hpo hW hS => ?_)
    have hX_18 : Q_walk p0 p1 p2 G_4 r_14 G_15 := hpo
    obtain ⟨hB_G_15, hq_16, hp_17, -⟩ := hpo
    obtain ⟨u_19, u_20⟩ := L_walk_2 hX_7 hX_18 rfl rfl rfl (by omega)
    refine lv_pop hx hb dL_law_1269 rfl ?_
    refine lv_goto (tgt := 1641) hx hb dL_law_1270 rfl ?_
    have fr_21 : Fr [110, 111, 37, 38, 39, 58, 59, 76, 97, 98] [(6, 3), (30, 4), (30, 5), (66, 59), (66, 60), (66, 61), (66, 62), (66, 63), (66, 78), (66, 79)] G G_15 := (Fr.call9 (rs := [110, 111, 37, 38, 39, 58, 59, 76, 97, 98]) (fs := [(6, 3), (30, 4), (30, 5), (66, 59), (66, 60), (66, 61), (66, 62), (66, 63), (66, 78), (66, 79)]) (Fr.call9 (rs := [110, 111, 37, 38, 39, 58, 59, 76, 97, 98]) (fs := [(6, 3), (30, 4), (30, 5), (66, 59), (66, 60), (66, 61), (66, 62), (66, 63), (66, 78), (66, 79)]) Fr.rf hq_5 rfl rfl) hq_16 rfl rfl)
    have g_22 : gO G_15 = gO G := gO_fr fr_21 (gr_q rfl) (gf_q rfl)
    have g_23 : gP G_15 = gP G := gP_fr fr_21 (gr_q rfl) (gf_q rfl)
    have g_24 : gS G_15 = gS G := gS_fr fr_21 (gr_q rfl) (gf_q rfl)
    have g_25 : gTE G_15 = gTE G := gTE_fr fr_21 (gr_q rfl) (gf_q rfl)
    have g_26 : gW G_15 = gW G := gW_fr fr_21 (gr_q rfl) (gf_q rfl)
    have b_27 : 0 ≤ (G.1 0 11).toInt ∧ (G.1 0 11).toInt ≤ 1600 := bd_0_11 hB_G
    have g_28 : (G_15.1 0 11).toInt = (G.1 0 11).toInt := (congrArg Int32.toInt (show G_15.1 0 11 = (G.1 0 11) from ((hq_16.i9 0 11 rfl rfl).trans (hq_5.i9 0 11 rfl rfl))))
    have b_29 : 0 ≤ (G.1 3 7).toInt ∧ (G.1 3 7).toInt ≤ 4 := bd_3_7 hB_G
    have g_30 : (G_15.1 3 7).toInt = (G.1 3 7).toInt := (congrArg Int32.toInt (show G_15.1 3 7 = (G.1 3 7) from ((hq_16.i9 3 7 rfl rfl).trans (hq_5.i9 3 7 rfl rfl))))
    have b_31 : (-1) ≤ (G.1 3 8).toInt ∧ (G.1 3 8).toInt ≤ 1600 := bd_3_8 hB_G
    have g_32 : (G_15.1 3 8).toInt = (G.1 3 8).toInt := (congrArg Int32.toInt (show G_15.1 3 8 = (G.1 3 8) from ((hq_16.i9 3 8 rfl rfl).trans (hq_5.i9 3 8 rfl rfl))))
    have b_33 : 0 ≤ (G_4.1 30 4).toInt ∧ (G_4.1 30 4).toInt ≤ 40 := bd_30_4 hB_G_4
    have g_34 : (G_15.1 30 4).toInt = (G_4.1 30 4).toInt := (congrArg Int32.toInt (show G_15.1 30 4 = (G_4.1 30 4) from (hq_16.i9 30 4 rfl rfl)))
    have b_35 : 0 ≤ (G_4.1 30 5).toInt ∧ (G_4.1 30 5).toInt ≤ 40 := bd_30_5 hB_G_4
    have g_36 : (G_15.1 30 5).toInt = (G_4.1 30 5).toInt := (congrArg Int32.toInt (show G_15.1 30 5 = (G_4.1 30 5) from (hq_16.i9 30 5 rfl rfl)))
    have b_37 : 0 ≤ (G.1 31 6).toInt ∧ (G.1 31 6).toInt ≤ 100000 := bd_31_6 hB_G
    have g_38 : (G_15.1 31 6).toInt = (G.1 31 6).toInt := (congrArg Int32.toInt (show G_15.1 31 6 = (G.1 31 6) from ((hq_16.i9 31 6 rfl rfl).trans (hq_5.i9 31 6 rfl rfl))))
    have b_39 : 0 ≤ (G.1 66 1).toInt ∧ (G.1 66 1).toInt ≤ 1600 := bd_66_1 hB_G
    have g_40 : (G_15.1 66 1).toInt = (G.1 66 1).toInt := (congrArg Int32.toInt (show G_15.1 66 1 = (G.1 66 1) from ((hq_16.i9 66 1 rfl rfl).trans (hq_5.i9 66 1 rfl rfl))))
    have b_41 : 0 ≤ (G.1 66 2).toInt ∧ (G.1 66 2).toInt ≤ 4 := bd_66_2 hB_G
    have g_42 : (G_15.1 66 2).toInt = (G.1 66 2).toInt := (congrArg Int32.toInt (show G_15.1 66 2 = (G.1 66 2) from ((hq_16.i9 66 2 rfl rfl).trans (hq_5.i9 66 2 rfl rfl))))
    have b_43 : (-1) ≤ (G.1 66 3).toInt ∧ (G.1 66 3).toInt ≤ 1600 := bd_66_3 hB_G
    have g_44 : (G_15.1 66 3).toInt = (G.1 66 3).toInt := (congrArg Int32.toInt (show G_15.1 66 3 = (G.1 66 3) from ((hq_16.i9 66 3 rfl rfl).trans (hq_5.i9 66 3 rfl rfl))))
    have b_45 : 0 ≤ (G_15.1 66 78).toInt ∧ (G_15.1 66 78).toInt ≤ 40 := bd_66_78 hB_G_15
    have b_46 : 0 ≤ (G_15.1 66 79).toInt ∧ (G_15.1 66 79).toInt ≤ 40 := bd_66_79 hB_G_15
    have b_47 : 0 ≤ (G.1 66 86).toInt ∧ (G.1 66 86).toInt ≤ 100000 := bd_66_86 hB_G
    have g_48 : (G_15.1 66 86).toInt = (G.1 66 86).toInt := (congrArg Int32.toInt (show G_15.1 66 86 = (G.1 66 86) from ((hq_16.i9 66 86 rfl rfl).trans (hq_5.i9 66 86 rfl rfl))))
    have b_49 : 0 ≤ (G.1 96 0).toInt ∧ (G.1 96 0).toInt ≤ 9 := bd_96_0 hB_G
    have g_50 : (G_15.1 96 0).toInt = (G.1 96 0).toInt := (congrArg Int32.toInt (show G_15.1 96 0 = (G.1 96 0) from ((hq_16.i9 96 0 rfl rfl).trans (hq_5.i9 96 0 rfl rfl))))
    have b_51 : 0 ≤ (G.1 96 1).toInt ∧ (G.1 96 1).toInt ≤ 9 := bd_96_1 hB_G
    have g_52 : (G_15.1 96 1).toInt = (G.1 96 1).toInt := (congrArg Int32.toInt (show G_15.1 96 1 = (G.1 96 1) from ((hq_16.i9 96 1 rfl rfl).trans (hq_5.i9 96 1 rfl rfl))))
    have b_53 : 0 ≤ (G.1 96 2).toInt ∧ (G.1 96 2).toInt ≤ 9 := bd_96_2 hB_G
    have g_54 : (G_15.1 96 2).toInt = (G.1 96 2).toInt := (congrArg Int32.toInt (show G_15.1 96 2 = (G.1 96 2) from ((hq_16.i9 96 2 rfl rfl).trans (hq_5.i9 96 2 rfl rfl))))
    exact K G_15 _ _ _ (Or.inr ⟨((((hq_16.r9 0 0 rfl rfl).trans (hq_5.r9 0 0 rfl rfl))).trans (hv_0_0)), ((((hq_16.r9 0 1 rfl rfl).trans (hq_5.r9 0 1 rfl rfl))).trans (hv_0_1)), ((((hq_16.r9 6 4 rfl rfl).trans (hq_5.r9 6 4 rfl rfl))).trans (hv_6_4)), by omega, by omega, by omega, by omega, by omega, by omega, by omega, by omega, by omega, by omega, by omega, by omega, by omega⟩) hB_G_15 hW hS (lv_sub hl [0, 1, 2, 3] rfl)
