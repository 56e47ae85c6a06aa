def xslO : List (List (Nat × Int × Int)) := [[(0, (-2147483648), 2147483647), (8, 10103, 0), (0, 0, 2147483647)], [(0, (-2147483648), 2147483647), (0, (-2147483648), 2147483647), (0, 0, 1), (0, (-2147483648), 2147483647), (0, (-2147483648), 2147483647), (0, (-2147483648), 2147483647)], [(1, 1, 0), (0, 0, 3), (0, 0, 9), (0, (-2147483648), 2147483647), (0, (-2147483648), 2147483647), (0, 0, 399), (0, (-2147483648), 2147483647), (0, (-2147483648), 2147483647), (0, (-2147483648), 2147483647), (0, (-2147483648), 2147483647), (0, (-2147483648), 2147483647)], [(1, 10500, 24), (1, 10600, 24), (0, 0, 24), (3, 0, 0)], [(1, 10700, 400), (1, 10904, 4), (1, 11000, 4), (1, 11100, 6), (1, 11304, 10), (1, 11400, 10), (1, 11604, 10)], [(1, 11700, 60), (1, 11800, 60), (1, 11900, 60), (0, 0, 60)], [(1, 4, 0), (1, 0, 0), (1, 100, 0), (1, 200, 0), (1, 12000, 12), (0, (-2147483648), 2147483647), (0, (-2147483648), 2147483647), (0, (-2147483648), 2147483647)], [(0, 0, 8), (1, 12100, 64), (1, 12200, 64), (1, 12300, 8), (1, 12400, 8), (1, 12500, 8), (1, 12600, 256), (1, 12701, 64), (1, 12802, 64), (0, (-2147483648), 2147483647)], [(1, 12900, 301), (1, 13000, 301), (0, 0, 301), (0, 0, 50), (0, 0, 1), (0, (-2147483648), 2147483647), (0, 0, 300)], [(1, 13100, 9), (1, 13200, 9), (1, 13300, 9), (7, 13400, 0), (0, 0, 9), (0, 0, 9)], [(1, 13500, 420), (0, 0, 420)], [(0, (-2147483648), 2147483647), (0, 0, 16), (0, 0, 100), (1, 13600, 16), (1, 13700, 16), (1, 13800, 16), (1, 13900, 16), (1, 14000, 100)], [(1, 10, 0), (1, 6, 0), (1, 4, 0), (1, 5, 0), (1, 300, 0), (1, 11, 0), (1, 8, 0), (1, 11, 0), (1, 3, 0), (1, 9, 0), (1, 7, 0), (1, 7, 0), (0, 0, 400), (0, (-2147483648), 2147483647), (0, (-2147483648), 2147483647), (0, (-2147483648), 2147483647), (0, (-2147483648), 2147483647), (0, (-2147483648), 2147483647)], [(0, (-2147483648), 2147483647), (1, 14100, 420), (0, 0, 420), (0, 0, 400), (1, 14200, 40), (1, 14300, 40), (1, 14400, 40), (1, 14500, 40), (1, 19301, 40), (1, 14600, 10), (1, 14700, 400), (1, 14800, 1600), (1, 14900, 40), (1, 15000, 4), (1, 15100, 6), (1, 15200, 100), (0, 0, 40), (0, 0, 400), (0, 0, 1), (0, 0, 420), (0, 0, 420), (0, 0, 420), (0, 0, 4), (0, (-2147483648), 2147483647), (0, (-2147483648), 2147483647), (0, (-2147483648), 2147483647), (0, 0, 420), (0, (-2147483648), 2147483647), (3, 0, 0), (1, 15300, 11), (1, 15400, 11), (1, 15500, 176), (1, 15600, 176), (1, 15700, 176), (1, 15800, 176), (1, 15900, 1320), (1, 16000, 1320), (1, 16100, 1320), (1, 16200, 64), (0, 0, 10), (0, 0, 16), (0, 0, 120), (0, 0, 64), (0, 0, 50), (0, (-2147483648), 2147483647), (1, 16300, 12), (1, 19401, 64), (0, (-1), 15), (1, 16400, 200), (1, 16500, 200), (1, 16600, 200), (1, 16700, 200), (1, 16800, 200), (1, 16900, 200), (1, 17000, 200), (1, 17100, 200), (1, 17200, 200), (1, 17300, 200), (0, 0, 200), (0, (-2147483648), 2147483647), (1, 17400, 200), (1, 17500, 200), (1, 19501, 200), (1, 19601, 200), (1, 17600, 60), (1, 17700, 60), (1, 17800, 60), (1, 17900, 60), (1, 18000, 60), (0, 0, 60), (3, 0, 0), (0, (-2147483648), 2147483647), (1, 18100, 64), (1, 18200, 64), (1, 18300, 8), (1, 18400, 8), (1, 18500, 8), (1, 19701, 64), (0, 0, 8), (0, 0, 1), (1, 18600, 64), (1, 18700, 64), (1, 18800, 10), (1, 18900, 10), (1, 19000, 9), (1, 19100, 10), (1, 19200, 10), (0, 0, 9), (0, 0, 1), (0, (-2147483648), 2147483647), (0, (-2147483648), 2147483647)]]
def xslV : List (List (Nat × Int × Int)) := [[(0, (-2147483648), 2147483647), (8, 10203, 0), (0, 0, 2147483647)], [(0, (-2147483648), 2147483647), (8, 10403, 0), (0, 0, 2147483647)], [(0, (-2147483648), 2147483647), (8, 10303, 0), (0, 0, 2147483647)]]
def xslA : List (Nat × Int × Int) := [(9, 0, 0), (2, 1, 0), (2, 2, 0), (2, 11, 0), (2, 2, 0), (0, 0, 3600), (0, 0, 65025), (0, 0, 3), (0, 0, 5), (1, 10800, 400), (0, 0, 300), (0, 0, 300), (0, 0, 400), (1, 11200, 4), (0, (-1), 39), (0, 0, 200), (1, 11500, 10), (0, (-2147483648), 2147483647), (0, (-2147483648), 2147483647), (0, (-2147483648), 2147483647), (0, (-2147483648), 2147483647), (0, 0, 255), (0, 0, 255), (0, (-1), 7), (0, (-1), 7), (0, 0, 7), (0, (-2147483648), 2147483647), (0, 0, 1), (3, 0, 0), (0, 0, 10099), (0, 0, 300), (0, 0, 9), (0, 0, 65535), (0, 0, 9), (0, (-2147483648), 2147483647), (0, 0, 255), (0, 0, 5), (0, (-2147483648), 2147483647), (0, 0, 100), (0, 0, 100), (4, 0, 0), (0, 0, 255), (0, (-2147483648), 2147483647), (0, (-2147483648), 2147483647), (0, (-2147483648), 2147483647), (0, (-2147483648), 2147483647), (0, (-1), 39), (0, 0, 3), (0, 0, 5), (0, 0, 400), (0, 0, 300), (0, 0, 300), (0, 0, 200), (0, 0, 16), (0, (-2147483648), 2147483647), (0, (-2147483648), 2147483647), (0, (-2147483648), 2147483647), (0, 0, 120), (0, 0, 120), (0, 0, 15), (0, (-2147483648), 2147483647), (0, (-2147483648), 2147483647), (0, 0, 15), (0, (-2147483648), 2147483647), (0, 0, 39), (0, 0, 3), (0, 0, 9), (0, (-2147483648), 2147483647), (0, (-2147483648), 2147483647), (0, 0, 399), (0, (-2147483648), 2147483647), (0, (-2147483648), 2147483647), (0, (-2147483648), 2147483647), (0, (-2147483648), 2147483647), (0, (-2147483648), 2147483647), (0, (-2147483648), 2147483647), (0, (-2147483648), 2147483647), (0, (-2147483648), 2147483647), (0, (-2147483648), 2147483647), (0, (-2147483648), 2147483647), (0, (-2147483648), 2147483647), (0, 0, 255), (0, 0, 255), (0, (-1), 7), (0, 0, 7), (0, (-1), 7), (0, 0, 255), (0, 0, 255), (0, 0, 65535), (0, 0, 9), (0, 0, 9), (0, (-1), 8), (0, (-2147483648), 2147483647), (0, 0, 1), (0, 0, 1), (0, 0, 1), (0, 0, 1), (0, 0, 1)]
def xsl (t k : Nat) : Nat × Int × Int := if t < 100 then (xslO.getD t []).getD k (9, 0, 0) else if t < 10000 then (xslV.getD (t / 100 - 1) []).getD k (9, 0, 0) else xslA.getD (t % 10000 / 100) (9, 0, 0)
theorem sl_0_0 : xsl 0 0 = (0, (-2147483648), 2147483647) := by decide +kernel
theorem sl_0_1 : xsl 0 1 = (8, 10103, 0) := by decide +kernel
theorem sl_0_2 : xsl 0 2 = (0, 0, 2147483647) := by decide +kernel
theorem sl_1_0 : xsl 1 0 = (0, (-2147483648), 2147483647) := by decide +kernel
theorem sl_1_1 : xsl 1 1 = (0, (-2147483648), 2147483647) := by decide +kernel
theorem sl_1_2 : xsl 1 2 = (0, 0, 1) := by decide +kernel
theorem sl_1_3 : xsl 1 3 = (0, (-2147483648), 2147483647) := by decide +kernel
theorem sl_1_4 : xsl 1 4 = (0, (-2147483648), 2147483647) := by decide +kernel
theorem sl_1_5 : xsl 1 5 = (0, (-2147483648), 2147483647) := by decide +kernel
theorem sl_2_0 : xsl 2 0 = (1, 1, 0) := by decide +kernel
theorem sl_2_1 : xsl 2 1 = (0, 0, 3) := by decide +kernel
theorem sl_2_2 : xsl 2 2 = (0, 0, 9) := by decide +kernel
theorem sl_2_3 : xsl 2 3 = (0, (-2147483648), 2147483647) := by decide +kernel
theorem sl_2_4 : xsl 2 4 = (0, (-2147483648), 2147483647) := by decide +kernel
theorem sl_2_5 : xsl 2 5 = (0, 0, 399) := by decide +kernel
theorem sl_2_6 : xsl 2 6 = (0, (-2147483648), 2147483647) := by decide +kernel
theorem sl_2_7 : xsl 2 7 = (0, (-2147483648), 2147483647) := by decide +kernel
theorem sl_2_8 : xsl 2 8 = (0, (-2147483648), 2147483647) := by decide +kernel
theorem sl_2_9 : xsl 2 9 = (0, (-2147483648), 2147483647) := by decide +kernel
theorem sl_2_10 : xsl 2 10 = (0, (-2147483648), 2147483647) := by decide +kernel
theorem sl_3_0 : xsl 3 0 = (1, 10500, 24) := by decide +kernel
theorem sl_3_1 : xsl 3 1 = (1, 10600, 24) := by decide +kernel
theorem sl_3_2 : xsl 3 2 = (0, 0, 24) := by decide +kernel
theorem sl_3_3 : xsl 3 3 = (3, 0, 0) := by decide +kernel
theorem sl_4_0 : xsl 4 0 = (1, 10700, 400) := by decide +kernel
theorem sl_4_1 : xsl 4 1 = (1, 10904, 4) := by decide +kernel
theorem sl_4_2 : xsl 4 2 = (1, 11000, 4) := by decide +kernel
theorem sl_4_3 : xsl 4 3 = (1, 11100, 6) := by decide +kernel
theorem sl_4_4 : xsl 4 4 = (1, 11304, 10) := by decide +kernel
theorem sl_4_5 : xsl 4 5 = (1, 11400, 10) := by decide +kernel
theorem sl_4_6 : xsl 4 6 = (1, 11604, 10) := by decide +kernel
theorem sl_5_0 : xsl 5 0 = (1, 11700, 60) := by decide +kernel
theorem sl_5_1 : xsl 5 1 = (1, 11800, 60) := by decide +kernel
theorem sl_5_2 : xsl 5 2 = (1, 11900, 60) := by decide +kernel
theorem sl_5_3 : xsl 5 3 = (0, 0, 60) := by decide +kernel
theorem sl_6_0 : xsl 6 0 = (1, 4, 0) := by decide +kernel
theorem sl_6_1 : xsl 6 1 = (1, 0, 0) := by decide +kernel
theorem sl_6_2 : xsl 6 2 = (1, 100, 0) := by decide +kernel
theorem sl_6_3 : xsl 6 3 = (1, 200, 0) := by decide +kernel
theorem sl_6_4 : xsl 6 4 = (1, 12000, 12) := by decide +kernel
theorem sl_6_5 : xsl 6 5 = (0, (-2147483648), 2147483647) := by decide +kernel
theorem sl_6_6 : xsl 6 6 = (0, (-2147483648), 2147483647) := by decide +kernel
theorem sl_6_7 : xsl 6 7 = (0, (-2147483648), 2147483647) := by decide +kernel
theorem sl_7_0 : xsl 7 0 = (0, 0, 8) := by decide +kernel
theorem sl_7_1 : xsl 7 1 = (1, 12100, 64) := by decide +kernel
theorem sl_7_2 : xsl 7 2 = (1, 12200, 64) := by decide +kernel
theorem sl_7_3 : xsl 7 3 = (1, 12300, 8) := by decide +kernel
theorem sl_7_4 : xsl 7 4 = (1, 12400, 8) := by decide +kernel
theorem sl_7_5 : xsl 7 5 = (1, 12500, 8) := by decide +kernel
theorem sl_7_6 : xsl 7 6 = (1, 12600, 256) := by decide +kernel
theorem sl_7_7 : xsl 7 7 = (1, 12701, 64) := by decide +kernel
theorem sl_7_8 : xsl 7 8 = (1, 12802, 64) := by decide +kernel
theorem sl_7_9 : xsl 7 9 = (0, (-2147483648), 2147483647) := by decide +kernel
theorem sl_8_0 : xsl 8 0 = (1, 12900, 301) := by decide +kernel
theorem sl_8_1 : xsl 8 1 = (1, 13000, 301) := by decide +kernel
theorem sl_8_2 : xsl 8 2 = (0, 0, 301) := by decide +kernel
theorem sl_8_3 : xsl 8 3 = (0, 0, 50) := by decide +kernel
theorem sl_8_4 : xsl 8 4 = (0, 0, 1) := by decide +kernel
theorem sl_8_5 : xsl 8 5 = (0, (-2147483648), 2147483647) := by decide +kernel
theorem sl_8_6 : xsl 8 6 = (0, 0, 300) := by decide +kernel
theorem sl_9_0 : xsl 9 0 = (1, 13100, 9) := by decide +kernel
theorem sl_9_1 : xsl 9 1 = (1, 13200, 9) := by decide +kernel
theorem sl_9_2 : xsl 9 2 = (1, 13300, 9) := by decide +kernel
theorem sl_9_3 : xsl 9 3 = (7, 13400, 0) := by decide +kernel
theorem sl_9_4 : xsl 9 4 = (0, 0, 9) := by decide +kernel
theorem sl_9_5 : xsl 9 5 = (0, 0, 9) := by decide +kernel
theorem sl_10_0 : xsl 10 0 = (1, 13500, 420) := by decide +kernel
theorem sl_10_1 : xsl 10 1 = (0, 0, 420) := by decide +kernel
theorem sl_11_0 : xsl 11 0 = (0, (-2147483648), 2147483647) := by decide +kernel
theorem sl_11_1 : xsl 11 1 = (0, 0, 16) := by decide +kernel
theorem sl_11_2 : xsl 11 2 = (0, 0, 100) := by decide +kernel
theorem sl_11_3 : xsl 11 3 = (1, 13600, 16) := by decide +kernel
theorem sl_11_4 : xsl 11 4 = (1, 13700, 16) := by decide +kernel
theorem sl_11_5 : xsl 11 5 = (1, 13800, 16) := by decide +kernel
theorem sl_11_6 : xsl 11 6 = (1, 13900, 16) := by decide +kernel
theorem sl_11_7 : xsl 11 7 = (1, 14000, 100) := by decide +kernel
theorem sl_12_0 : xsl 12 0 = (1, 10, 0) := by decide +kernel
theorem sl_12_1 : xsl 12 1 = (1, 6, 0) := by decide +kernel
theorem sl_12_2 : xsl 12 2 = (1, 4, 0) := by decide +kernel
theorem sl_12_3 : xsl 12 3 = (1, 5, 0) := by decide +kernel
theorem sl_12_4 : xsl 12 4 = (1, 300, 0) := by decide +kernel
theorem sl_12_5 : xsl 12 5 = (1, 11, 0) := by decide +kernel
theorem sl_12_6 : xsl 12 6 = (1, 8, 0) := by decide +kernel
theorem sl_12_7 : xsl 12 7 = (1, 11, 0) := by decide +kernel
theorem sl_12_8 : xsl 12 8 = (1, 3, 0) := by decide +kernel
theorem sl_12_9 : xsl 12 9 = (1, 9, 0) := by decide +kernel
theorem sl_12_10 : xsl 12 10 = (1, 7, 0) := by decide +kernel
theorem sl_12_11 : xsl 12 11 = (1, 7, 0) := by decide +kernel
theorem sl_12_12 : xsl 12 12 = (0, 0, 400) := by decide +kernel
theorem sl_12_13 : xsl 12 13 = (0, (-2147483648), 2147483647) := by decide +kernel
theorem sl_12_14 : xsl 12 14 = (0, (-2147483648), 2147483647) := by decide +kernel
theorem sl_12_15 : xsl 12 15 = (0, (-2147483648), 2147483647) := by decide +kernel
theorem sl_12_16 : xsl 12 16 = (0, (-2147483648), 2147483647) := by decide +kernel
theorem sl_12_17 : xsl 12 17 = (0, (-2147483648), 2147483647) := by decide +kernel
theorem sl_13_0 : xsl 13 0 = (0, (-2147483648), 2147483647) := by decide +kernel
theorem sl_13_1 : xsl 13 1 = (1, 14100, 420) := by decide +kernel
theorem sl_13_2 : xsl 13 2 = (0, 0, 420) := by decide +kernel
theorem sl_13_3 : xsl 13 3 = (0, 0, 400) := by decide +kernel
theorem sl_13_4 : xsl 13 4 = (1, 14200, 40) := by decide +kernel
theorem sl_13_5 : xsl 13 5 = (1, 14300, 40) := by decide +kernel
theorem sl_13_6 : xsl 13 6 = (1, 14400, 40) := by decide +kernel
theorem sl_13_7 : xsl 13 7 = (1, 14500, 40) := by decide +kernel
theorem sl_13_8 : xsl 13 8 = (1, 19301, 40) := by decide +kernel
theorem sl_13_9 : xsl 13 9 = (1, 14600, 10) := by decide +kernel
theorem sl_13_10 : xsl 13 10 = (1, 14700, 400) := by decide +kernel
theorem sl_13_11 : xsl 13 11 = (1, 14800, 1600) := by decide +kernel
theorem sl_13_12 : xsl 13 12 = (1, 14900, 40) := by decide +kernel
theorem sl_13_13 : xsl 13 13 = (1, 15000, 4) := by decide +kernel
theorem sl_13_14 : xsl 13 14 = (1, 15100, 6) := by decide +kernel
theorem sl_13_15 : xsl 13 15 = (1, 15200, 100) := by decide +kernel
theorem sl_13_16 : xsl 13 16 = (0, 0, 40) := by decide +kernel
theorem sl_13_17 : xsl 13 17 = (0, 0, 400) := by decide +kernel
theorem sl_13_18 : xsl 13 18 = (0, 0, 1) := by decide +kernel
theorem sl_13_19 : xsl 13 19 = (0, 0, 420) := by decide +kernel
theorem sl_13_20 : xsl 13 20 = (0, 0, 420) := by decide +kernel
theorem sl_13_21 : xsl 13 21 = (0, 0, 420) := by decide +kernel
theorem sl_13_22 : xsl 13 22 = (0, 0, 4) := by decide +kernel
theorem sl_13_23 : xsl 13 23 = (0, (-2147483648), 2147483647) := by decide +kernel
theorem sl_13_24 : xsl 13 24 = (0, (-2147483648), 2147483647) := by decide +kernel
theorem sl_13_25 : xsl 13 25 = (0, (-2147483648), 2147483647) := by decide +kernel
theorem sl_13_26 : xsl 13 26 = (0, 0, 420) := by decide +kernel
theorem sl_13_27 : xsl 13 27 = (0, (-2147483648), 2147483647) := by decide +kernel
theorem sl_13_28 : xsl 13 28 = (3, 0, 0) := by decide +kernel
theorem sl_13_29 : xsl 13 29 = (1, 15300, 11) := by decide +kernel
theorem sl_13_30 : xsl 13 30 = (1, 15400, 11) := by decide +kernel
theorem sl_13_31 : xsl 13 31 = (1, 15500, 176) := by decide +kernel
theorem sl_13_32 : xsl 13 32 = (1, 15600, 176) := by decide +kernel
theorem sl_13_33 : xsl 13 33 = (1, 15700, 176) := by decide +kernel
theorem sl_13_34 : xsl 13 34 = (1, 15800, 176) := by decide +kernel
theorem sl_13_35 : xsl 13 35 = (1, 15900, 1320) := by decide +kernel
theorem sl_13_36 : xsl 13 36 = (1, 16000, 1320) := by decide +kernel
theorem sl_13_37 : xsl 13 37 = (1, 16100, 1320) := by decide +kernel
theorem sl_13_38 : xsl 13 38 = (1, 16200, 64) := by decide +kernel
theorem sl_13_39 : xsl 13 39 = (0, 0, 10) := by decide +kernel
theorem sl_13_40 : xsl 13 40 = (0, 0, 16) := by decide +kernel
theorem sl_13_41 : xsl 13 41 = (0, 0, 120) := by decide +kernel
theorem sl_13_42 : xsl 13 42 = (0, 0, 64) := by decide +kernel
theorem sl_13_43 : xsl 13 43 = (0, 0, 50) := by decide +kernel
theorem sl_13_44 : xsl 13 44 = (0, (-2147483648), 2147483647) := by decide +kernel
theorem sl_13_45 : xsl 13 45 = (1, 16300, 12) := by decide +kernel
theorem sl_13_46 : xsl 13 46 = (1, 19401, 64) := by decide +kernel
theorem sl_13_47 : xsl 13 47 = (0, (-1), 15) := by decide +kernel
theorem sl_13_48 : xsl 13 48 = (1, 16400, 200) := by decide +kernel
theorem sl_13_49 : xsl 13 49 = (1, 16500, 200) := by decide +kernel
theorem sl_13_50 : xsl 13 50 = (1, 16600, 200) := by decide +kernel
theorem sl_13_51 : xsl 13 51 = (1, 16700, 200) := by decide +kernel
theorem sl_13_52 : xsl 13 52 = (1, 16800, 200) := by decide +kernel
theorem sl_13_53 : xsl 13 53 = (1, 16900, 200) := by decide +kernel
theorem sl_13_54 : xsl 13 54 = (1, 17000, 200) := by decide +kernel
theorem sl_13_55 : xsl 13 55 = (1, 17100, 200) := by decide +kernel
theorem sl_13_56 : xsl 13 56 = (1, 17200, 200) := by decide +kernel
theorem sl_13_57 : xsl 13 57 = (1, 17300, 200) := by decide +kernel
theorem sl_13_58 : xsl 13 58 = (0, 0, 200) := by decide +kernel
theorem sl_13_59 : xsl 13 59 = (0, (-2147483648), 2147483647) := by decide +kernel
theorem sl_13_60 : xsl 13 60 = (1, 17400, 200) := by decide +kernel
theorem sl_13_61 : xsl 13 61 = (1, 17500, 200) := by decide +kernel
theorem sl_13_62 : xsl 13 62 = (1, 19501, 200) := by decide +kernel
theorem sl_13_63 : xsl 13 63 = (1, 19601, 200) := by decide +kernel
theorem sl_13_64 : xsl 13 64 = (1, 17600, 60) := by decide +kernel
theorem sl_13_65 : xsl 13 65 = (1, 17700, 60) := by decide +kernel
theorem sl_13_66 : xsl 13 66 = (1, 17800, 60) := by decide +kernel
theorem sl_13_67 : xsl 13 67 = (1, 17900, 60) := by decide +kernel
theorem sl_13_68 : xsl 13 68 = (1, 18000, 60) := by decide +kernel
theorem sl_13_69 : xsl 13 69 = (0, 0, 60) := by decide +kernel
theorem sl_13_70 : xsl 13 70 = (3, 0, 0) := by decide +kernel
theorem sl_13_71 : xsl 13 71 = (0, (-2147483648), 2147483647) := by decide +kernel
theorem sl_13_72 : xsl 13 72 = (1, 18100, 64) := by decide +kernel
theorem sl_13_73 : xsl 13 73 = (1, 18200, 64) := by decide +kernel
theorem sl_13_74 : xsl 13 74 = (1, 18300, 8) := by decide +kernel
theorem sl_13_75 : xsl 13 75 = (1, 18400, 8) := by decide +kernel
theorem sl_13_76 : xsl 13 76 = (1, 18500, 8) := by decide +kernel
theorem sl_13_77 : xsl 13 77 = (1, 19701, 64) := by decide +kernel
theorem sl_13_78 : xsl 13 78 = (0, 0, 8) := by decide +kernel
theorem sl_13_79 : xsl 13 79 = (0, 0, 1) := by decide +kernel
theorem sl_13_80 : xsl 13 80 = (1, 18600, 64) := by decide +kernel
theorem sl_13_81 : xsl 13 81 = (1, 18700, 64) := by decide +kernel
theorem sl_13_82 : xsl 13 82 = (1, 18800, 10) := by decide +kernel
theorem sl_13_83 : xsl 13 83 = (1, 18900, 10) := by decide +kernel
theorem sl_13_84 : xsl 13 84 = (1, 19000, 9) := by decide +kernel
theorem sl_13_85 : xsl 13 85 = (1, 19100, 10) := by decide +kernel
theorem sl_13_86 : xsl 13 86 = (1, 19200, 10) := by decide +kernel
theorem sl_13_87 : xsl 13 87 = (0, 0, 9) := by decide +kernel
theorem sl_13_88 : xsl 13 88 = (0, 0, 1) := by decide +kernel
theorem sl_13_89 : xsl 13 89 = (0, (-2147483648), 2147483647) := by decide +kernel
theorem sl_13_90 : xsl 13 90 = (0, (-2147483648), 2147483647) := by decide +kernel
theorem sl_100_0 : xsl 100 0 = (0, (-2147483648), 2147483647) := by decide +kernel
theorem sl_100_1 : xsl 100 1 = (8, 10203, 0) := by decide +kernel
theorem sl_100_2 : xsl 100 2 = (0, 0, 2147483647) := by decide +kernel
theorem sl_200_0 : xsl 200 0 = (0, (-2147483648), 2147483647) := by decide +kernel
theorem sl_200_1 : xsl 200 1 = (8, 10403, 0) := by decide +kernel
theorem sl_200_2 : xsl 200 2 = (0, 0, 2147483647) := by decide +kernel
theorem sl_300_0 : xsl 300 0 = (0, (-2147483648), 2147483647) := by decide +kernel
theorem sl_300_1 : xsl 300 1 = (8, 10303, 0) := by decide +kernel
theorem sl_300_2 : xsl 300 2 = (0, 0, 2147483647) := by decide +kernel
theorem sl_10103 (k : Nat) : xsl 10103 k = (2, 1, 0) := by unfold xsl; rw [if_neg (by decide), if_neg (by decide)]; rfl
theorem sl_10203 (k : Nat) : xsl 10203 k = (2, 2, 0) := by unfold xsl; rw [if_neg (by decide), if_neg (by decide)]; rfl
theorem sl_10303 (k : Nat) : xsl 10303 k = (2, 11, 0) := by unfold xsl; rw [if_neg (by decide), if_neg (by decide)]; rfl
theorem sl_10403 (k : Nat) : xsl 10403 k = (2, 2, 0) := by unfold xsl; rw [if_neg (by decide), if_neg (by decide)]; rfl
theorem sl_10500 (k : Nat) : xsl 10500 k = (0, 0, 3600) := by unfold xsl; rw [if_neg (by decide), if_neg (by decide)]; rfl
theorem sl_10600 (k : Nat) : xsl 10600 k = (0, 0, 65025) := by unfold xsl; rw [if_neg (by decide), if_neg (by decide)]; rfl
theorem sl_10700 (k : Nat) : xsl 10700 k = (0, 0, 3) := by unfold xsl; rw [if_neg (by decide), if_neg (by decide)]; rfl
theorem sl_10800 (k : Nat) : xsl 10800 k = (0, 0, 5) := by unfold xsl; rw [if_neg (by decide), if_neg (by decide)]; rfl
theorem sl_10904 (k : Nat) : xsl 10904 k = (1, 10800, 400) := by unfold xsl; rw [if_neg (by decide), if_neg (by decide)]; rfl
theorem sl_11000 (k : Nat) : xsl 11000 k = (0, 0, 300) := by unfold xsl; rw [if_neg (by decide), if_neg (by decide)]; rfl
theorem sl_11100 (k : Nat) : xsl 11100 k = (0, 0, 300) := by unfold xsl; rw [if_neg (by decide), if_neg (by decide)]; rfl
theorem sl_11200 (k : Nat) : xsl 11200 k = (0, 0, 400) := by unfold xsl; rw [if_neg (by decide), if_neg (by decide)]; rfl
theorem sl_11304 (k : Nat) : xsl 11304 k = (1, 11200, 4) := by unfold xsl; rw [if_neg (by decide), if_neg (by decide)]; rfl
theorem sl_11400 (k : Nat) : xsl 11400 k = (0, (-1), 39) := by unfold xsl; rw [if_neg (by decide), if_neg (by decide)]; rfl
theorem sl_11500 (k : Nat) : xsl 11500 k = (0, 0, 200) := by unfold xsl; rw [if_neg (by decide), if_neg (by decide)]; rfl
theorem sl_11604 (k : Nat) : xsl 11604 k = (1, 11500, 10) := by unfold xsl; rw [if_neg (by decide), if_neg (by decide)]; rfl
theorem sl_11700 (k : Nat) : xsl 11700 k = (0, (-2147483648), 2147483647) := by unfold xsl; rw [if_neg (by decide), if_neg (by decide)]; rfl
theorem sl_11800 (k : Nat) : xsl 11800 k = (0, (-2147483648), 2147483647) := by unfold xsl; rw [if_neg (by decide), if_neg (by decide)]; rfl
theorem sl_11900 (k : Nat) : xsl 11900 k = (0, (-2147483648), 2147483647) := by unfold xsl; rw [if_neg (by decide), if_neg (by decide)]; rfl
theorem sl_12000 (k : Nat) : xsl 12000 k = (0, (-2147483648), 2147483647) := by unfold xsl; rw [if_neg (by decide), if_neg (by decide)]; rfl
theorem sl_12100 (k : Nat) : xsl 12100 k = (0, 0, 255) := by unfold xsl; rw [if_neg (by decide), if_neg (by decide)]; rfl
theorem sl_12200 (k : Nat) : xsl 12200 k = (0, 0, 255) := by unfold xsl; rw [if_neg (by decide), if_neg (by decide)]; rfl
theorem sl_12300 (k : Nat) : xsl 12300 k = (0, (-1), 7) := by unfold xsl; rw [if_neg (by decide), if_neg (by decide)]; rfl
theorem sl_12400 (k : Nat) : xsl 12400 k = (0, (-1), 7) := by unfold xsl; rw [if_neg (by decide), if_neg (by decide)]; rfl
theorem sl_12500 (k : Nat) : xsl 12500 k = (0, 0, 7) := by unfold xsl; rw [if_neg (by decide), if_neg (by decide)]; rfl
theorem sl_12600 (k : Nat) : xsl 12600 k = (0, (-2147483648), 2147483647) := by unfold xsl; rw [if_neg (by decide), if_neg (by decide)]; rfl
theorem sl_12701 (k : Nat) : xsl 12701 k = (0, 0, 1) := by unfold xsl; rw [if_neg (by decide), if_neg (by decide)]; rfl
theorem sl_12802 (k : Nat) : xsl 12802 k = (3, 0, 0) := by unfold xsl; rw [if_neg (by decide), if_neg (by decide)]; rfl
theorem sl_12900 (k : Nat) : xsl 12900 k = (0, 0, 10099) := by unfold xsl; rw [if_neg (by decide), if_neg (by decide)]; rfl
theorem sl_13000 (k : Nat) : xsl 13000 k = (0, 0, 300) := by unfold xsl; rw [if_neg (by decide), if_neg (by decide)]; rfl
theorem sl_13100 (k : Nat) : xsl 13100 k = (0, 0, 9) := by unfold xsl; rw [if_neg (by decide), if_neg (by decide)]; rfl
theorem sl_13200 (k : Nat) : xsl 13200 k = (0, 0, 65535) := by unfold xsl; rw [if_neg (by decide), if_neg (by decide)]; rfl
theorem sl_13300 (k : Nat) : xsl 13300 k = (0, 0, 9) := by unfold xsl; rw [if_neg (by decide), if_neg (by decide)]; rfl
theorem sl_13400 (k : Nat) : xsl 13400 k = (0, (-2147483648), 2147483647) := by unfold xsl; rw [if_neg (by decide), if_neg (by decide)]; rfl
theorem sl_13500 (k : Nat) : xsl 13500 k = (0, 0, 255) := by unfold xsl; rw [if_neg (by decide), if_neg (by decide)]; rfl
theorem sl_13600 (k : Nat) : xsl 13600 k = (0, 0, 5) := by unfold xsl; rw [if_neg (by decide), if_neg (by decide)]; rfl
theorem sl_13700 (k : Nat) : xsl 13700 k = (0, (-2147483648), 2147483647) := by unfold xsl; rw [if_neg (by decide), if_neg (by decide)]; rfl
theorem sl_13800 (k : Nat) : xsl 13800 k = (0, 0, 100) := by unfold xsl; rw [if_neg (by decide), if_neg (by decide)]; rfl
theorem sl_13900 (k : Nat) : xsl 13900 k = (0, 0, 100) := by unfold xsl; rw [if_neg (by decide), if_neg (by decide)]; rfl
theorem sl_14000 (k : Nat) : xsl 14000 k = (4, 0, 0) := by unfold xsl; rw [if_neg (by decide), if_neg (by decide)]; rfl
theorem sl_14100 (k : Nat) : xsl 14100 k = (0, 0, 255) := by unfold xsl; rw [if_neg (by decide), if_neg (by decide)]; rfl
theorem sl_14200 (k : Nat) : xsl 14200 k = (0, (-2147483648), 2147483647) := by unfold xsl; rw [if_neg (by decide), if_neg (by decide)]; rfl
theorem sl_14300 (k : Nat) : xsl 14300 k = (0, (-2147483648), 2147483647) := by unfold xsl; rw [if_neg (by decide), if_neg (by decide)]; rfl
theorem sl_14400 (k : Nat) : xsl 14400 k = (0, (-2147483648), 2147483647) := by unfold xsl; rw [if_neg (by decide), if_neg (by decide)]; rfl
theorem sl_14500 (k : Nat) : xsl 14500 k = (0, (-2147483648), 2147483647) := by unfold xsl; rw [if_neg (by decide), if_neg (by decide)]; rfl
theorem sl_14600 (k : Nat) : xsl 14600 k = (0, (-1), 39) := by unfold xsl; rw [if_neg (by decide), if_neg (by decide)]; rfl
theorem sl_14700 (k : Nat) : xsl 14700 k = (0, 0, 3) := by unfold xsl; rw [if_neg (by decide), if_neg (by decide)]; rfl
theorem sl_14800 (k : Nat) : xsl 14800 k = (0, 0, 5) := by unfold xsl; rw [if_neg (by decide), if_neg (by decide)]; rfl
theorem sl_14900 (k : Nat) : xsl 14900 k = (0, 0, 400) := by unfold xsl; rw [if_neg (by decide), if_neg (by decide)]; rfl
theorem sl_15000 (k : Nat) : xsl 15000 k = (0, 0, 300) := by unfold xsl; rw [if_neg (by decide), if_neg (by decide)]; rfl
theorem sl_15100 (k : Nat) : xsl 15100 k = (0, 0, 300) := by unfold xsl; rw [if_neg (by decide), if_neg (by decide)]; rfl
theorem sl_15200 (k : Nat) : xsl 15200 k = (0, 0, 200) := by unfold xsl; rw [if_neg (by decide), if_neg (by decide)]; rfl
theorem sl_15300 (k : Nat) : xsl 15300 k = (0, 0, 16) := by unfold xsl; rw [if_neg (by decide), if_neg (by decide)]; rfl
theorem sl_15400 (k : Nat) : xsl 15400 k = (0, (-2147483648), 2147483647) := by unfold xsl; rw [if_neg (by decide), if_neg (by decide)]; rfl
theorem sl_15500 (k : Nat) : xsl 15500 k = (0, (-2147483648), 2147483647) := by unfold xsl; rw [if_neg (by decide), if_neg (by decide)]; rfl
theorem sl_15600 (k : Nat) : xsl 15600 k = (0, (-2147483648), 2147483647) := by unfold xsl; rw [if_neg (by decide), if_neg (by decide)]; rfl
theorem sl_15700 (k : Nat) : xsl 15700 k = (0, 0, 120) := by unfold xsl; rw [if_neg (by decide), if_neg (by decide)]; rfl
theorem sl_15800 (k : Nat) : xsl 15800 k = (0, 0, 120) := by unfold xsl; rw [if_neg (by decide), if_neg (by decide)]; rfl
theorem sl_15900 (k : Nat) : xsl 15900 k = (0, 0, 15) := by unfold xsl; rw [if_neg (by decide), if_neg (by decide)]; rfl
theorem sl_16000 (k : Nat) : xsl 16000 k = (0, (-2147483648), 2147483647) := by unfold xsl; rw [if_neg (by decide), if_neg (by decide)]; rfl
theorem sl_16100 (k : Nat) : xsl 16100 k = (0, (-2147483648), 2147483647) := by unfold xsl; rw [if_neg (by decide), if_neg (by decide)]; rfl
theorem sl_16200 (k : Nat) : xsl 16200 k = (0, 0, 15) := by unfold xsl; rw [if_neg (by decide), if_neg (by decide)]; rfl
theorem sl_16300 (k : Nat) : xsl 16300 k = (0, (-2147483648), 2147483647) := by unfold xsl; rw [if_neg (by decide), if_neg (by decide)]; rfl
theorem sl_16400 (k : Nat) : xsl 16400 k = (0, 0, 39) := by unfold xsl; rw [if_neg (by decide), if_neg (by decide)]; rfl
theorem sl_16500 (k : Nat) : xsl 16500 k = (0, 0, 3) := by unfold xsl; rw [if_neg (by decide), if_neg (by decide)]; rfl
theorem sl_16600 (k : Nat) : xsl 16600 k = (0, 0, 9) := by unfold xsl; rw [if_neg (by decide), if_neg (by decide)]; rfl
theorem sl_16700 (k : Nat) : xsl 16700 k = (0, (-2147483648), 2147483647) := by unfold xsl; rw [if_neg (by decide), if_neg (by decide)]; rfl
theorem sl_16800 (k : Nat) : xsl 16800 k = (0, (-2147483648), 2147483647) := by unfold xsl; rw [if_neg (by decide), if_neg (by decide)]; rfl
theorem sl_16900 (k : Nat) : xsl 16900 k = (0, 0, 399) := by unfold xsl; rw [if_neg (by decide), if_neg (by decide)]; rfl
theorem sl_17000 (k : Nat) : xsl 17000 k = (0, (-2147483648), 2147483647) := by unfold xsl; rw [if_neg (by decide), if_neg (by decide)]; rfl
theorem sl_17100 (k : Nat) : xsl 17100 k = (0, (-2147483648), 2147483647) := by unfold xsl; rw [if_neg (by decide), if_neg (by decide)]; rfl
theorem sl_17200 (k : Nat) : xsl 17200 k = (0, (-2147483648), 2147483647) := by unfold xsl; rw [if_neg (by decide), if_neg (by decide)]; rfl
theorem sl_17300 (k : Nat) : xsl 17300 k = (0, (-2147483648), 2147483647) := by unfold xsl; rw [if_neg (by decide), if_neg (by decide)]; rfl
theorem sl_17400 (k : Nat) : xsl 17400 k = (0, (-2147483648), 2147483647) := by unfold xsl; rw [if_neg (by decide), if_neg (by decide)]; rfl
theorem sl_17500 (k : Nat) : xsl 17500 k = (0, (-2147483648), 2147483647) := by unfold xsl; rw [if_neg (by decide), if_neg (by decide)]; rfl
theorem sl_17600 (k : Nat) : xsl 17600 k = (0, (-2147483648), 2147483647) := by unfold xsl; rw [if_neg (by decide), if_neg (by decide)]; rfl
theorem sl_17700 (k : Nat) : xsl 17700 k = (0, (-2147483648), 2147483647) := by unfold xsl; rw [if_neg (by decide), if_neg (by decide)]; rfl
theorem sl_17800 (k : Nat) : xsl 17800 k = (0, (-2147483648), 2147483647) := by unfold xsl; rw [if_neg (by decide), if_neg (by decide)]; rfl
theorem sl_17900 (k : Nat) : xsl 17900 k = (0, (-2147483648), 2147483647) := by unfold xsl; rw [if_neg (by decide), if_neg (by decide)]; rfl
theorem sl_18000 (k : Nat) : xsl 18000 k = (0, (-2147483648), 2147483647) := by unfold xsl; rw [if_neg (by decide), if_neg (by decide)]; rfl
theorem sl_18100 (k : Nat) : xsl 18100 k = (0, 0, 255) := by unfold xsl; rw [if_neg (by decide), if_neg (by decide)]; rfl
theorem sl_18200 (k : Nat) : xsl 18200 k = (0, 0, 255) := by unfold xsl; rw [if_neg (by decide), if_neg (by decide)]; rfl
theorem sl_18300 (k : Nat) : xsl 18300 k = (0, (-1), 7) := by unfold xsl; rw [if_neg (by decide), if_neg (by decide)]; rfl
theorem sl_18400 (k : Nat) : xsl 18400 k = (0, 0, 7) := by unfold xsl; rw [if_neg (by decide), if_neg (by decide)]; rfl
theorem sl_18500 (k : Nat) : xsl 18500 k = (0, (-1), 7) := by unfold xsl; rw [if_neg (by decide), if_neg (by decide)]; rfl
theorem sl_18600 (k : Nat) : xsl 18600 k = (0, 0, 255) := by unfold xsl; rw [if_neg (by decide), if_neg (by decide)]; rfl
theorem sl_18700 (k : Nat) : xsl 18700 k = (0, 0, 255) := by unfold xsl; rw [if_neg (by decide), if_neg (by decide)]; rfl
theorem sl_18800 (k : Nat) : xsl 18800 k = (0, 0, 65535) := by unfold xsl; rw [if_neg (by decide), if_neg (by decide)]; rfl
theorem sl_18900 (k : Nat) : xsl 18900 k = (0, 0, 9) := by unfold xsl; rw [if_neg (by decide), if_neg (by decide)]; rfl
theorem sl_19000 (k : Nat) : xsl 19000 k = (0, 0, 9) := by unfold xsl; rw [if_neg (by decide), if_neg (by decide)]; rfl
theorem sl_19100 (k : Nat) : xsl 19100 k = (0, (-1), 8) := by unfold xsl; rw [if_neg (by decide), if_neg (by decide)]; rfl
theorem sl_19200 (k : Nat) : xsl 19200 k = (0, (-2147483648), 2147483647) := by unfold xsl; rw [if_neg (by decide), if_neg (by decide)]; rfl
theorem sl_19301 (k : Nat) : xsl 19301 k = (0, 0, 1) := by unfold xsl; rw [if_neg (by decide), if_neg (by decide)]; rfl
theorem sl_19401 (k : Nat) : xsl 19401 k = (0, 0, 1) := by unfold xsl; rw [if_neg (by decide), if_neg (by decide)]; rfl
theorem sl_19501 (k : Nat) : xsl 19501 k = (0, 0, 1) := by unfold xsl; rw [if_neg (by decide), if_neg (by decide)]; rfl
theorem sl_19601 (k : Nat) : xsl 19601 k = (0, 0, 1) := by unfold xsl; rw [if_neg (by decide), if_neg (by decide)]; rfl
theorem sl_19701 (k : Nat) : xsl 19701 k = (0, 0, 1) := by unfold xsl; rw [if_neg (by decide), if_neg (by decide)]; rfl
