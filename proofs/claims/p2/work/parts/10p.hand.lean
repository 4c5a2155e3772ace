abbrev cc_nw0 : scC := (qX10_needWithin, 0, [((-2147483648), 2147483647), (0, 0), ((-2147483648), 600)], [.inr (.inr (.inl [0])), .inl (some 0, 0), .inl (some 1, 0), .inl (some 2, 0)], [], [(0, (0, 0), [], [(0, (0, 600))], []), (4, (0, 0), [], [], [])], [(0, 16, 1)])
abbrev cc_hand_len2 : scC := (qJ0_length_8abf5, 1, [], [.inr (.inr (.inr 2))], [], [(1, (39, 39), [], [], [])], [])
abbrev cc_chr2_0 : scC := (qJ0_charAt_5068e, 3, [], [.inr (.inr (.inr 2)), .inl (none, 0)], [], [(1, (108, 108), [], [], [])], [])
abbrev cc_chr2_1 : scC := (qJ0_charAt_5068e, 3, [], [.inr (.inr (.inr 2)), .inl (none, 1)], [], [(1, (105, 105), [], [], [])], [])
abbrev cc_chr2_2 : scC := (qJ0_charAt_5068e, 3, [], [.inr (.inr (.inr 2)), .inl (none, 2)], [], [(1, (102, 102), [], [], [])], [])
abbrev cc_chr2_3 : scC := (qJ0_charAt_5068e, 3, [], [.inr (.inr (.inr 2)), .inl (none, 3)], [], [(1, (101, 101), [], [], [])], [])
abbrev cc_chr2_4 : scC := (qJ0_charAt_5068e, 3, [], [.inr (.inr (.inr 2)), .inl (none, 4)], [], [(1, (32, 32), [], [], [])], [])
abbrev cc_chr2_5 : scC := (qJ0_charAt_5068e, 3, [], [.inr (.inr (.inr 2)), .inl (none, 5)], [], [(1, (104, 104), [], [], [])], [])
abbrev cc_chr2_6 : scC := (qJ0_charAt_5068e, 3, [], [.inr (.inr (.inr 2)), .inl (none, 6)], [], [(1, (97, 97), [], [], [])], [])
abbrev cc_chr2_7 : scC := (qJ0_charAt_5068e, 3, [], [.inr (.inr (.inr 2)), .inl (none, 7)], [], [(1, (115, 115), [], [], [])], [])
abbrev cc_chr2_8 : scC := (qJ0_charAt_5068e, 3, [], [.inr (.inr (.inr 2)), .inl (none, 8)], [], [(1, (32, 32), [], [], [])], [])
abbrev cc_chr2_9 : scC := (qJ0_charAt_5068e, 3, [], [.inr (.inr (.inr 2)), .inl (none, 9)], [], [(1, (98, 98), [], [], [])], [])
abbrev cc_chr2_10 : scC := (qJ0_charAt_5068e, 3, [], [.inr (.inr (.inr 2)), .inl (none, 10)], [], [(1, (121, 121), [], [], [])], [])
abbrev cc_chr2_11 : scC := (qJ0_charAt_5068e, 3, [], [.inr (.inr (.inr 2)), .inl (none, 11)], [], [(1, (32, 32), [], [], [])], [])
abbrev cc_chr2_12 : scC := (qJ0_charAt_5068e, 3, [], [.inr (.inr (.inr 2)), .inl (none, 12)], [], [(1, (102, 102), [], [], [])], [])
abbrev cc_chr2_13 : scC := (qJ0_charAt_5068e, 3, [], [.inr (.inr (.inr 2)), .inl (none, 13)], [], [(1, (97, 97), [], [], [])], [])
abbrev cc_chr2_14 : scC := (qJ0_charAt_5068e, 3, [], [.inr (.inr (.inr 2)), .inl (none, 14)], [], [(1, (99, 99), [], [], [])], [])
abbrev cc_chr2_15 : scC := (qJ0_charAt_5068e, 3, [], [.inr (.inr (.inr 2)), .inl (none, 15)], [], [(1, (116, 116), [], [], [])], [])
abbrev cc_chr2_16 : scC := (qJ0_charAt_5068e, 3, [], [.inr (.inr (.inr 2)), .inl (none, 16)], [], [(1, (32, 32), [], [], [])], [])
abbrev cc_chr2_17 : scC := (qJ0_charAt_5068e, 3, [], [.inr (.inr (.inr 2)), .inl (none, 17)], [], [(1, (104, 104), [], [], [])], [])
abbrev cc_chr2_18 : scC := (qJ0_charAt_5068e, 3, [], [.inr (.inr (.inr 2)), .inl (none, 18)], [], [(1, (111, 111), [], [], [])], [])
abbrev cc_chr2_19 : scC := (qJ0_charAt_5068e, 3, [], [.inr (.inr (.inr 2)), .inl (none, 19)], [], [(1, (117, 117), [], [], [])], [])
abbrev cc_chr2_20 : scC := (qJ0_charAt_5068e, 3, [], [.inr (.inr (.inr 2)), .inl (none, 20)], [], [(1, (114, 114), [], [], [])], [])
abbrev cc_chr2_21 : scC := (qJ0_charAt_5068e, 3, [], [.inr (.inr (.inr 2)), .inl (none, 21)], [], [(1, (115, 115), [], [], [])], [])
abbrev cc_chr2_22 : scC := (qJ0_charAt_5068e, 3, [], [.inr (.inr (.inr 2)), .inl (none, 22)], [], [(1, (32, 32), [], [], [])], [])
abbrev cc_chr2_23 : scC := (qJ0_charAt_5068e, 3, [], [.inr (.inr (.inr 2)), .inl (none, 23)], [], [(1, (108, 108), [], [], [])], [])
abbrev cc_chr2_24 : scC := (qJ0_charAt_5068e, 3, [], [.inr (.inr (.inr 2)), .inl (none, 24)], [], [(1, (97, 97), [], [], [])], [])
abbrev cc_chr2_25 : scC := (qJ0_charAt_5068e, 3, [], [.inr (.inr (.inr 2)), .inl (none, 25)], [], [(1, (99, 99), [], [], [])], [])
abbrev cc_chr2_26 : scC := (qJ0_charAt_5068e, 3, [], [.inr (.inr (.inr 2)), .inl (none, 26)], [], [(1, (107, 107), [], [], [])], [])
abbrev cc_chr2_27 : scC := (qJ0_charAt_5068e, 3, [], [.inr (.inr (.inr 2)), .inl (none, 27)], [], [(1, (32, 32), [], [], [])], [])
abbrev cc_chr2_28 : scC := (qJ0_charAt_5068e, 3, [], [.inr (.inr (.inr 2)), .inl (none, 28)], [], [(1, (119, 119), [], [], [])], [])
abbrev cc_chr2_29 : scC := (qJ0_charAt_5068e, 3, [], [.inr (.inr (.inr 2)), .inl (none, 29)], [], [(1, (114, 114), [], [], [])], [])
abbrev cc_chr2_30 : scC := (qJ0_charAt_5068e, 3, [], [.inr (.inr (.inr 2)), .inl (none, 30)], [], [(1, (111, 111), [], [], [])], [])
abbrev cc_chr2_31 : scC := (qJ0_charAt_5068e, 3, [], [.inr (.inr (.inr 2)), .inl (none, 31)], [], [(1, (110, 110), [], [], [])], [])
abbrev cc_chr2_32 : scC := (qJ0_charAt_5068e, 3, [], [.inr (.inr (.inr 2)), .inl (none, 32)], [], [(1, (103, 103), [], [], [])], [])
abbrev cc_chr2_33 : scC := (qJ0_charAt_5068e, 3, [], [.inr (.inr (.inr 2)), .inl (none, 33)], [], [(1, (32, 32), [], [], [])], [])
abbrev cc_chr2_34 : scC := (qJ0_charAt_5068e, 3, [], [.inr (.inr (.inr 2)), .inl (none, 34)], [], [(1, (104, 104), [], [], [])], [])
abbrev cc_chr2_35 : scC := (qJ0_charAt_5068e, 3, [], [.inr (.inr (.inr 2)), .inl (none, 35)], [], [(1, (97, 97), [], [], [])], [])
abbrev cc_chr2_36 : scC := (qJ0_charAt_5068e, 3, [], [.inr (.inr (.inr 2)), .inl (none, 36)], [], [(1, (108, 108), [], [], [])], [])
abbrev cc_chr2_37 : scC := (qJ0_charAt_5068e, 3, [], [.inr (.inr (.inr 2)), .inl (none, 37)], [], [(1, (102, 102), [], [], [])], [])
abbrev cc_chr2_38 : scC := (qJ0_charAt_5068e, 3, [], [.inr (.inr (.inr 2)), .inl (none, 38)], [], [(1, (32, 32), [], [], [])], [])
abbrev cc_hand_len3 : scC := (qJ0_length_8abf5, 1, [], [.inr (.inr (.inr 3))], [], [(1, (38, 38), [], [], [])], [])
abbrev cc_chr3_0 : scC := (qJ0_charAt_5068e, 3, [], [.inr (.inr (.inr 3)), .inl (none, 0)], [], [(1, (97, 97), [], [], [])], [])
abbrev cc_chr3_1 : scC := (qJ0_charAt_5068e, 3, [], [.inr (.inr (.inr 3)), .inl (none, 1)], [], [(1, (103, 103), [], [], [])], [])
abbrev cc_chr3_2 : scC := (qJ0_charAt_5068e, 3, [], [.inr (.inr (.inr 3)), .inl (none, 2)], [], [(1, (101, 101), [], [], [])], [])
abbrev cc_chr3_3 : scC := (qJ0_charAt_5068e, 3, [], [.inr (.inr (.inr 3)), .inl (none, 3)], [], [(1, (32, 32), [], [], [])], [])
abbrev cc_chr3_4 : scC := (qJ0_charAt_5068e, 3, [], [.inr (.inr (.inr 3)), .inl (none, 4)], [], [(1, (121, 121), [], [], [])], [])
abbrev cc_chr3_5 : scC := (qJ0_charAt_5068e, 3, [], [.inr (.inr (.inr 3)), .inl (none, 5)], [], [(1, (101, 101), [], [], [])], [])
abbrev cc_chr3_6 : scC := (qJ0_charAt_5068e, 3, [], [.inr (.inr (.inr 3)), .inl (none, 6)], [], [(1, (97, 97), [], [], [])], [])
abbrev cc_chr3_7 : scC := (qJ0_charAt_5068e, 3, [], [.inr (.inr (.inr 3)), .inl (none, 7)], [], [(1, (114, 114), [], [], [])], [])
abbrev cc_chr3_8 : scC := (qJ0_charAt_5068e, 3, [], [.inr (.inr (.inr 3)), .inl (none, 8)], [], [(1, (115, 115), [], [], [])], [])
abbrev cc_chr3_9 : scC := (qJ0_charAt_5068e, 3, [], [.inr (.inr (.inr 3)), .inl (none, 9)], [], [(1, (32, 32), [], [], [])], [])
abbrev cc_chr3_10 : scC := (qJ0_charAt_5068e, 3, [], [.inr (.inr (.inr 3)), .inl (none, 10)], [], [(1, (119, 119), [], [], [])], [])
abbrev cc_chr3_11 : scC := (qJ0_charAt_5068e, 3, [], [.inr (.inr (.inr 3)), .inl (none, 11)], [], [(1, (111, 111), [], [], [])], [])
abbrev cc_chr3_12 : scC := (qJ0_charAt_5068e, 3, [], [.inr (.inr (.inr 3)), .inl (none, 12)], [], [(1, (114, 114), [], [], [])], [])
abbrev cc_chr3_13 : scC := (qJ0_charAt_5068e, 3, [], [.inr (.inr (.inr 3)), .inl (none, 13)], [], [(1, (116, 116), [], [], [])], [])
abbrev cc_chr3_14 : scC := (qJ0_charAt_5068e, 3, [], [.inr (.inr (.inr 3)), .inl (none, 14)], [], [(1, (104, 104), [], [], [])], [])
abbrev cc_chr3_15 : scC := (qJ0_charAt_5068e, 3, [], [.inr (.inr (.inr 3)), .inl (none, 15)], [], [(1, (32, 32), [], [], [])], [])
abbrev cc_chr3_16 : scC := (qJ0_charAt_5068e, 3, [], [.inr (.inr (.inr 3)), .inl (none, 16)], [], [(1, (100, 100), [], [], [])], [])
abbrev cc_chr3_17 : scC := (qJ0_charAt_5068e, 3, [], [.inr (.inr (.inr 3)), .inl (none, 17)], [], [(1, (101, 101), [], [], [])], [])
abbrev cc_chr3_18 : scC := (qJ0_charAt_5068e, 3, [], [.inr (.inr (.inr 3)), .inl (none, 18)], [], [(1, (97, 97), [], [], [])], [])
abbrev cc_chr3_19 : scC := (qJ0_charAt_5068e, 3, [], [.inr (.inr (.inr 3)), .inl (none, 19)], [], [(1, (100, 100), [], [], [])], [])
abbrev cc_chr3_20 : scC := (qJ0_charAt_5068e, 3, [], [.inr (.inr (.inr 3)), .inl (none, 20)], [], [(1, (32, 32), [], [], [])], [])
abbrev cc_chr3_21 : scC := (qJ0_charAt_5068e, 3, [], [.inr (.inr (.inr 3)), .inl (none, 21)], [], [(1, (102, 102), [], [], [])], [])
abbrev cc_chr3_22 : scC := (qJ0_charAt_5068e, 3, [], [.inr (.inr (.inr 3)), .inl (none, 22)], [], [(1, (97, 97), [], [], [])], [])
abbrev cc_chr3_23 : scC := (qJ0_charAt_5068e, 3, [], [.inr (.inr (.inr 3)), .inl (none, 23)], [], [(1, (99, 99), [], [], [])], [])
abbrev cc_chr3_24 : scC := (qJ0_charAt_5068e, 3, [], [.inr (.inr (.inr 3)), .inl (none, 24)], [], [(1, (116, 116), [], [], [])], [])
abbrev cc_chr3_25 : scC := (qJ0_charAt_5068e, 3, [], [.inr (.inr (.inr 3)), .inl (none, 25)], [], [(1, (115, 115), [], [], [])], [])
abbrev cc_chr3_26 : scC := (qJ0_charAt_5068e, 3, [], [.inr (.inr (.inr 3)), .inl (none, 26)], [], [(1, (32, 32), [], [], [])], [])
abbrev cc_chr3_27 : scC := (qJ0_charAt_5068e, 3, [], [.inr (.inr (.inr 3)), .inl (none, 27)], [], [(1, (108, 108), [], [], [])], [])
abbrev cc_chr3_28 : scC := (qJ0_charAt_5068e, 3, [], [.inr (.inr (.inr 3)), .inl (none, 28)], [], [(1, (101, 101), [], [], [])], [])
abbrev cc_chr3_29 : scC := (qJ0_charAt_5068e, 3, [], [.inr (.inr (.inr 3)), .inl (none, 29)], [], [(1, (97, 97), [], [], [])], [])
abbrev cc_chr3_30 : scC := (qJ0_charAt_5068e, 3, [], [.inr (.inr (.inr 3)), .inl (none, 30)], [], [(1, (115, 115), [], [], [])], [])
abbrev cc_chr3_31 : scC := (qJ0_charAt_5068e, 3, [], [.inr (.inr (.inr 3)), .inl (none, 31)], [], [(1, (116, 116), [], [], [])], [])
abbrev cc_chr3_32 : scC := (qJ0_charAt_5068e, 3, [], [.inr (.inr (.inr 3)), .inl (none, 32)], [], [(1, (32, 32), [], [], [])], [])
abbrev cc_chr3_33 : scC := (qJ0_charAt_5068e, 3, [], [.inr (.inr (.inr 3)), .inl (none, 33)], [], [(1, (109, 109), [], [], [])], [])
abbrev cc_chr3_34 : scC := (qJ0_charAt_5068e, 3, [], [.inr (.inr (.inr 3)), .inl (none, 34)], [], [(1, (111, 111), [], [], [])], [])
abbrev cc_chr3_35 : scC := (qJ0_charAt_5068e, 3, [], [.inr (.inr (.inr 3)), .inl (none, 35)], [], [(1, (115, 115), [], [], [])], [])
abbrev cc_chr3_36 : scC := (qJ0_charAt_5068e, 3, [], [.inr (.inr (.inr 3)), .inl (none, 36)], [], [(1, (116, 116), [], [], [])], [])
abbrev cc_chr3_37 : scC := (qJ0_charAt_5068e, 3, [], [.inr (.inr (.inr 3)), .inl (none, 37)], [], [(1, (32, 32), [], [], [])], [])
abbrev cc_hand_len4 : scC := (qJ0_length_8abf5, 1, [], [.inr (.inr (.inr 4))], [], [(1, (27, 27), [], [], [])], [])
abbrev cc_chr4_0 : scC := (qJ0_charAt_5068e, 3, [], [.inr (.inr (.inr 4)), .inl (none, 0)], [], [(1, (119, 119), [], [], [])], [])
abbrev cc_chr4_1 : scC := (qJ0_charAt_5068e, 3, [], [.inr (.inr (.inr 4)), .inl (none, 1)], [], [(1, (114, 114), [], [], [])], [])
abbrev cc_chr4_2 : scC := (qJ0_charAt_5068e, 3, [], [.inr (.inr (.inr 4)), .inl (none, 2)], [], [(1, (105, 105), [], [], [])], [])
abbrev cc_chr4_3 : scC := (qJ0_charAt_5068e, 3, [], [.inr (.inr (.inr 4)), .inl (none, 3)], [], [(1, (116, 116), [], [], [])], [])
abbrev cc_chr4_4 : scC := (qJ0_charAt_5068e, 3, [], [.inr (.inr (.inr 4)), .inl (none, 4)], [], [(1, (101, 101), [], [], [])], [])
abbrev cc_chr4_5 : scC := (qJ0_charAt_5068e, 3, [], [.inr (.inr (.inr 4)), .inl (none, 5)], [], [(1, (32, 32), [], [], [])], [])
abbrev cc_chr4_6 : scC := (qJ0_charAt_5068e, 3, [], [.inr (.inr (.inr 4)), .inl (none, 6)], [], [(1, (114, 114), [], [], [])], [])
abbrev cc_chr4_7 : scC := (qJ0_charAt_5068e, 3, [], [.inr (.inr (.inr 4)), .inl (none, 7)], [], [(1, (101, 101), [], [], [])], [])
abbrev cc_chr4_8 : scC := (qJ0_charAt_5068e, 3, [], [.inr (.inr (.inr 4)), .inl (none, 8)], [], [(1, (110, 110), [], [], [])], [])
abbrev cc_chr4_9 : scC := (qJ0_charAt_5068e, 3, [], [.inr (.inr (.inr 4)), .inl (none, 9)], [], [(1, (101, 101), [], [], [])], [])
abbrev cc_chr4_10 : scC := (qJ0_charAt_5068e, 3, [], [.inr (.inr (.inr 4)), .inl (none, 10)], [], [(1, (119, 119), [], [], [])], [])
abbrev cc_chr4_11 : scC := (qJ0_charAt_5068e, 3, [], [.inr (.inr (.inr 4)), .inl (none, 11)], [], [(1, (32, 32), [], [], [])], [])
abbrev cc_chr4_12 : scC := (qJ0_charAt_5068e, 3, [], [.inr (.inr (.inr 4)), .inl (none, 12)], [], [(1, (100, 100), [], [], [])], [])
abbrev cc_chr4_13 : scC := (qJ0_charAt_5068e, 3, [], [.inr (.inr (.inr 4)), .inl (none, 13)], [], [(1, (105, 105), [], [], [])], [])
abbrev cc_chr4_14 : scC := (qJ0_charAt_5068e, 3, [], [.inr (.inr (.inr 4)), .inl (none, 14)], [], [(1, (101, 101), [], [], [])], [])
abbrev cc_chr4_15 : scC := (qJ0_charAt_5068e, 3, [], [.inr (.inr (.inr 4)), .inl (none, 15)], [], [(1, (32, 32), [], [], [])], [])
abbrev cc_chr4_16 : scC := (qJ0_charAt_5068e, 3, [], [.inr (.inr (.inr 4)), .inl (none, 16)], [], [(1, (119, 119), [], [], [])], [])
abbrev cc_chr4_17 : scC := (qJ0_charAt_5068e, 3, [], [.inr (.inr (.inr 4)), .inl (none, 17)], [], [(1, (101, 101), [], [], [])], [])
abbrev cc_chr4_18 : scC := (qJ0_charAt_5068e, 3, [], [.inr (.inr (.inr 4)), .inl (none, 18)], [], [(1, (101, 101), [], [], [])], [])
abbrev cc_chr4_19 : scC := (qJ0_charAt_5068e, 3, [], [.inr (.inr (.inr 4)), .inl (none, 19)], [], [(1, (107, 107), [], [], [])], [])
abbrev cc_chr4_20 : scC := (qJ0_charAt_5068e, 3, [], [.inr (.inr (.inr 4)), .inl (none, 20)], [], [(1, (32, 32), [], [], [])], [])
abbrev cc_chr4_21 : scC := (qJ0_charAt_5068e, 3, [], [.inr (.inr (.inr 4)), .inl (none, 21)], [], [(1, (97, 97), [], [], [])], [])
abbrev cc_chr4_22 : scC := (qJ0_charAt_5068e, 3, [], [.inr (.inr (.inr 4)), .inl (none, 22)], [], [(1, (103, 103), [], [], [])], [])
abbrev cc_chr4_23 : scC := (qJ0_charAt_5068e, 3, [], [.inr (.inr (.inr 4)), .inl (none, 23)], [], [(1, (97, 97), [], [], [])], [])
abbrev cc_chr4_24 : scC := (qJ0_charAt_5068e, 3, [], [.inr (.inr (.inr 4)), .inl (none, 24)], [], [(1, (105, 105), [], [], [])], [])
abbrev cc_chr4_25 : scC := (qJ0_charAt_5068e, 3, [], [.inr (.inr (.inr 4)), .inl (none, 25)], [], [(1, (110, 110), [], [], [])], [])
abbrev cc_chr4_26 : scC := (qJ0_charAt_5068e, 3, [], [.inr (.inr (.inr 4)), .inl (none, 26)], [], [(1, (32, 32), [], [], [])], [])
abbrev cc_hand_perform : scC := (qX9_perform, 20, [(0, 150)], [.inr (.inr (.inl [28])), .inr (.inr (.inl [32])), .inr (.inr (.inl [47])), .inl (none, 0), .inl (some 0, 0), .inl (none, 0)], [], [(0, (0, 0), [], [], [])], [(28, 4, 3), (47, 0, 7), (48, 0, 8)])
abbrev cc_nw1 : scC := (qX10_needWithin, 0, [((-2147483648), 2147483647), (0, 0), (8, 8)], [.inr (.inr (.inl [0])), .inl (some 0, 0), .inl (some 1, 0), .inl (some 2, 0)], [], [(0, (0, 0), [], [(0, (0, 8))], []), (4, (0, 0), [], [], [])], [(0, 16, 1)])
abbrev cc_hand_needLife : scC := (qX10_needLife, 0, [((-2147483648), 2147483647)], [.inr (.inr (.inl [0])), .inl (some 0, 0)], [], [(0, (0, 0), [], [(0, (0, 7))], []), (5, (0, 0), [], [], [])], [(0, 15, 1)])
abbrev cc_nw2 : scC := (qX10_needWithin, 0, [((-2147483648), 2147483647), (0, 0), (7, 7)], [.inr (.inr (.inl [0])), .inl (some 0, 0), .inl (some 1, 0), .inl (some 2, 0)], [], [(0, (0, 0), [], [(0, (0, 7))], []), (4, (0, 0), [], [], [])], [(0, 16, 1)])
abbrev cc_nw3 : scC := (qX10_needWithin, 0, [((-2147483648), 2147483647), (0, 0), (200, 200)], [.inr (.inr (.inl [0])), .inl (some 0, 0), .inl (some 1, 0), .inl (some 2, 0)], [], [(0, (0, 0), [], [(0, (0, 200))], []), (4, (0, 0), [], [], [])], [(0, 16, 1)])
abbrev cc_nw4 : scC := (qX10_needWithin, 0, [((-2147483648), 2147483647), (1, 1), (99, 99)], [.inr (.inr (.inl [0])), .inl (some 0, 0), .inl (some 1, 0), .inl (some 2, 0)], [], [(0, (0, 0), [], [(0, (1, 99))], []), (4, (0, 0), [], [], [])], [(0, 16, 1)])
abbrev cc_nw5 : scC := (qX10_needWithin, 0, [((-2147483648), 2147483647), (0, 0), (1, 1)], [.inr (.inr (.inl [0])), .inl (some 0, 0), .inl (some 1, 0), .inl (some 2, 0)], [], [(0, (0, 0), [], [(0, (0, 1))], []), (4, (0, 0), [], [], [])], [(0, 16, 1)])
abbrev cc_nw6 : scC := (qX10_needWithin, 0, [((-2147483648), 2147483647), (0, 0), (24, 24)], [.inr (.inr (.inl [0])), .inl (some 0, 0), .inl (some 1, 0), .inl (some 2, 0)], [], [(0, (0, 0), [], [(0, (0, 24))], []), (4, (0, 0), [], [], [])], [(0, 16, 1)])
abbrev cc_nw7 : scC := (qX10_needWithin, 0, [((-2147483648), 2147483647), (0, 0), (65, 65)], [.inr (.inr (.inl [0])), .inl (some 0, 0), .inl (some 1, 0), .inl (some 2, 0)], [], [(0, (0, 0), [], [(0, (0, 65))], []), (4, (0, 0), [], [], [])], [(0, 16, 1)])
abbrev cc_hand_termOf : scC := (qX10_termOf, 0, [((-2147483648), 2147483647)], [.inr (.inl ((-9223372036854775808), 9223372036854775807)), .inr (.inl ((-9223372036854775808), 9223372036854775807)), .inl (some 0, 0)], [], [(2, ((-9223372036854775808), 9223372036854775807), [], [], [])], [])
abbrev cc_nw8 : scC := (qX10_needWithin, 0, [((-2147483648), 2147483647), (0, 0), (0, 60)], [.inr (.inr (.inl [0])), .inl (some 0, 0), .inl (some 1, 0), .inl (some 2, 0)], [], [(0, (0, 0), [], [(0, (0, 60))], []), (4, (0, 0), [], [], [])], [(0, 16, 1)])
abbrev cc_nw9 : scC := (qX10_needWithin, 0, [((-2147483648), 2147483647), (1, 1), (3, 3)], [.inr (.inr (.inl [0])), .inl (some 0, 0), .inl (some 1, 0), .inl (some 2, 0)], [], [(0, (0, 0), [], [(0, (1, 3))], []), (4, (0, 0), [], [], [])], [(0, 16, 1)])
abbrev cc_nw10 : scC := (qX10_needWithin, 0, [((-2147483648), 2147483647), (0, 0), (0, 2)], [.inr (.inr (.inl [0])), .inl (some 0, 0), .inl (some 1, 0), .inl (some 2, 0)], [], [(0, (0, 0), [], [(0, (0, 2))], []), (4, (0, 0), [], [], [])], [(0, 16, 1)])
abbrev cc_nw11 : scC := (qX10_needWithin, 0, [((-2147483648), 2147483647), (0, 0), (999, 999)], [.inr (.inr (.inl [0])), .inl (some 0, 0), .inl (some 1, 0), .inl (some 2, 0)], [], [(0, (0, 0), [], [(0, (0, 999))], []), (4, (0, 0), [], [], [])], [(0, 16, 1)])
abbrev cc_nw12 : scC := (qX10_needWithin, 0, [((-2147483648), 2147483647), (1, 1), (30, 30)], [.inr (.inr (.inl [0])), .inl (some 0, 0), .inl (some 1, 0), .inl (some 2, 0)], [], [(0, (0, 0), [], [(0, (1, 30))], []), (4, (0, 0), [], [], [])], [(0, 16, 1)])
abbrev cc_nw13 : scC := (qX10_needWithin, 0, [((-2147483648), 2147483647), (0, 0), (16, 16)], [.inr (.inr (.inl [0])), .inl (some 0, 0), .inl (some 1, 0), .inl (some 2, 0)], [], [(0, (0, 0), [], [(0, (0, 16))], []), (4, (0, 0), [], [], [])], [(0, 16, 1)])
abbrev cc_nw14 : scC := (qX10_needWithin, 0, [((-2147483648), 2147483647), (0, 0), (2, 2)], [.inr (.inr (.inl [0])), .inl (some 0, 0), .inl (some 1, 0), .inl (some 2, 0)], [], [(0, (0, 0), [], [(0, (0, 2))], []), (4, (0, 0), [], [], [])], [(0, 16, 1)])
abbrev cc_hand_meanOf : scC := (qX10_meanOf, 0, [((-2147483648), 2147483647), ((-2147483648), 2147483647), ((-2147483648), 2147483647), ((-2147483648), 2147483647), ((-2147483648), 2147483647), ((-2147483648), 2147483647)], [.inl (some 0, 0), .inl (some 1, 0), .inl (some 2, 0), .inl (some 3, 0), .inl (some 4, 0), .inl (some 5, 0)], [], [(1, ((-2147483648), 2147483647), [], [], [])], [])
abbrev cc_nw15 : scC := (qX10_needWithin, 0, [((-2147483648), 2147483647), (0, 0), ((-2147483648), 2147483647)], [.inr (.inr (.inl [0])), .inl (some 0, 0), .inl (some 1, 0), .inl (some 2, 0)], [], [(0, (0, 0), [], [(0, (0, 2147483647))], []), (4, (0, 0), [], [], [])], [(0, 16, 1)])
abbrev cc_hand_addToRoom : scC := (qX10_addToRoom, 1, [(0, 7), (0, 200)], [.inr (.inr (.inl [0])), .inl (some 0, 0), .inl (some 1, 0)], [], [(0, (0, 0), [], [], [])], [(45, 0, 201)])
abbrev cc_nw16 : scC := (qX10_needWithin, 0, [((-2147483648), 2147483647), (1, 1), (60, 60)], [.inr (.inr (.inl [0])), .inl (some 0, 0), .inl (some 1, 0), .inl (some 2, 0)], [], [(0, (0, 0), [], [(0, (1, 60))], []), (4, (0, 0), [], [], [])], [(0, 16, 1)])
abbrev cc_nw17 : scC := (qX10_needWithin, 0, [((-2147483648), 2147483647), (0, 0), (4, 4)], [.inr (.inr (.inl [0])), .inl (some 0, 0), .inl (some 1, 0), .inl (some 2, 0)], [], [(0, (0, 0), [], [(0, (0, 4))], []), (4, (0, 0), [], [], [])], [(0, 16, 1)])
abbrev cc_nw18 : scC := (qX10_needWithin, 0, [((-2147483648), 2147483647), (1, 1), (20, 20)], [.inr (.inr (.inl [0])), .inl (some 0, 0), .inl (some 1, 0), .inl (some 2, 0)], [], [(0, (0, 0), [], [(0, (1, 20))], []), (4, (0, 0), [], [], [])], [(0, 16, 1)])
abbrev cc_nw19 : scC := (qX10_needWithin, 0, [((-2147483648), 2147483647), (0, 0), (3, 3)], [.inr (.inr (.inl [0])), .inl (some 0, 0), .inl (some 1, 0), .inl (some 2, 0)], [], [(0, (0, 0), [], [(0, (0, 3))], []), (4, (0, 0), [], [], [])], [(0, 16, 1)])
abbrev cc_nw20 : scC := (qX10_needWithin, 0, [((-2147483648), 2147483647), (0, 0), ((-1), 7)], [.inr (.inr (.inl [0])), .inl (some 0, 0), .inl (some 1, 0), .inl (some 2, 0)], [], [(0, (0, 0), [], [(0, (0, 7))], []), (4, (0, 0), [], [], [])], [(0, 16, 1)])
def inR (v lo hi : Int32) : Prop := ¬ v < lo ∧ v ≤ hi
theorem inR_dec (v lo hi : Int32) : inR v lo hi ∨ ¬ inR v lo hi := Classical.em _
theorem i32_ext {a b : Int32} (h : a.toInt = b.toInt) : a = b := Int32.toInt_inj.mp h
/-- a number within literal bounds is one of them -/
theorem inR_toInt {v lo hi : Int32} (h : inR v lo hi) : lo.toInt ≤ v.toInt ∧ v.toInt ≤ hi.toInt := by
  obtain ⟨h1, h2⟩ := h
  rw [Int32.lt_iff_toInt_lt] at h1; rw [Int32.le_iff_toInt_le] at h2
  exact ⟨by omega, h2⟩
set_option maxRecDepth 20000 in
theorem c_needWithin {l : Launch} {G : fmG} {M : fmM} {Q : fmR → fmM → Prop} (hst : l.stackTraces = false) (v lo hi : Int32) (hq : inR v lo hi → Q (.inl none) M) (hx : ¬ inR v lo hi → Q (.inr fmIAE) (fmI M 0 16 (M.1 0 16 + 1))) : fmGood Tx l G 0 qX10_needWithin [.ref (G.1 0), .int v, .int lo, .int hi] M Q := by
  refine fmGood_of hst (by decide +kernel) (Nat.le_of_ble_eq_true rfl) ?_
  show fmEv Tx l G 0 qX10_needWithin 0 [some (.ref (G.1 0)), some (.int v), some (.int lo), some (.int hi)] [] M Q
  refine fm_iloadn (pc := 0) (n := 1) 1 rfl rfl (fm_dec dtX10_needWithin 0 rfl) ?_
  refine fm_iloadn (pc := 1) (n := 2) 2 rfl rfl (fm_dec dtX10_needWithin 1 rfl) ?_
  refine fm_icmp_lt (pc := 2) 10 (by decide) (fm_dec dtX10_needWithin 2 rfl) (fun hc2 => ?_) (fun hc2 => ?_)
  · refine fm_aloadn (pc := 10) (n := 0) 0 rfl rfl (fm_dec dtX10_needWithin 6 rfl) ?_
    refine fm_dup (pc := 11) rfl (fm_dec dtX10_needWithin 7 rfl) ?_
    refine fm_getI (k := 0) (j := 16) (ci := 10) (pc := 12) fl_X10_366 (by decide) rfl (by decide) rfl (fm_dec dtX10_needWithin 8 rfl) ?_
    refine fm_iconst (pc := 15) (v := 1) (by decide) (fm_dec dtX10_needWithin 9 rfl) ?_
    refine fm_iadd (pc := 16) (fm_dec dtX10_needWithin 10 rfl) ?_
    refine fm_putI (k := 0) (j := 16) (ci := 10) (pc := 17) fl_X10_366 (by decide) rfl (by decide) rfl rfl (fm_dec dtX10_needWithin 11 rfl) ?_
    exact fm_thrI (pc := 20) (fm_dec dtX10_needWithin 12 rfl) (fm_dec dtX10_needWithin 13 rfl) (fm_dec dtX10_needWithin 14 rfl) (fm_dec dtX10_needWithin 15 rfl) (fm_dec dtX10_needWithin 16 rfl) (hx (by first | exact fun h => h.1 hc2 | exact fun h => hc7 h.2))
  · refine fm_iloadn (pc := 5) (n := 1) 1 rfl rfl (fm_dec dtX10_needWithin 3 rfl) ?_
    refine fm_iloadn (pc := 6) (n := 3) 3 rfl rfl (fm_dec dtX10_needWithin 4 rfl) ?_
    refine fm_icmp_le (pc := 7) 31 (by decide) (fm_dec dtX10_needWithin 5 rfl) (fun hc7 => ?_) (fun hc7 => ?_)
    · exact fm_return (pc := 31) rfl (fm_dec dtX10_needWithin 17 rfl) (hq ⟨hc2, hc7⟩)
    · refine fm_aloadn (pc := 10) (n := 0) 0 rfl rfl (fm_dec dtX10_needWithin 6 rfl) ?_
      refine fm_dup (pc := 11) rfl (fm_dec dtX10_needWithin 7 rfl) ?_
      refine fm_getI (k := 0) (j := 16) (ci := 10) (pc := 12) fl_X10_366 (by decide) rfl (by decide) rfl (fm_dec dtX10_needWithin 8 rfl) ?_
      refine fm_iconst (pc := 15) (v := 1) (by decide) (fm_dec dtX10_needWithin 9 rfl) ?_
      refine fm_iadd (pc := 16) (fm_dec dtX10_needWithin 10 rfl) ?_
      refine fm_putI (k := 0) (j := 16) (ci := 10) (pc := 17) fl_X10_366 (by decide) rfl (by decide) rfl rfl (fm_dec dtX10_needWithin 11 rfl) ?_
      exact fm_thrI (pc := 20) (fm_dec dtX10_needWithin 12 rfl) (fm_dec dtX10_needWithin 13 rfl) (fm_dec dtX10_needWithin 14 rfl) (fm_dec dtX10_needWithin 15 rfl) (fm_dec dtX10_needWithin 16 rfl) (hx (by first | exact fun h => h.1 hc2 | exact fun h => hc7 h.2))

theorem sw3 (w : Int32) : w = 0 ∨ w = 1 ∨ (¬ w = 0 ∧ ¬ w = 1 ∧ ¬ w.toInt = 0 ∧ ¬ w.toInt = 1) := by
  by_cases h0 : w = 0
  · exact Or.inl h0
  · by_cases h1 : w = 1
    · exact Or.inr (Or.inl h1)
    · exact Or.inr (Or.inr ⟨h0, h1, fun q => h0 (i32_ext (by simp [q])), fun q => h1 (i32_ext (by simp [q]))⟩)
def meanE (t b v x y way : Int32) : Int32 := if way = 0 then 16 * (t * v - (16 - t) * x) else if way = 1 then 16 * (t * v - (16 - t) * y) else t * (16 - b) * v
set_option maxRecDepth 20000 in
theorem c_meanOf {l : Launch} {G : fmG} {M : fmM} {Q : fmR → fmM → Prop} (hst : l.stackTraces = false) (t b v x y w : Int32) (hq : Q (.inl (some (.int (meanE t b v x y w)))) M) : fmGood Tx l G 0 qX10_meanOf [.int t, .int b, .int v, .int x, .int y, .int w] M Q := by
  refine fmGood_of hst (by decide +kernel) (Nat.le_of_ble_eq_true rfl) ?_
  show fmEv Tx l G 0 qX10_meanOf 0 [some (.int t), some (.int b), some (.int v), some (.int x), some (.int y), some (.int w)] [] M Q
  refine fm_iload (pc := 0) (i := 5) rfl (fm_dec dtX10_meanOf 0 rfl) ?_
  rcases sw3 w with rfl | rfl | ⟨g0, g1, g2, g3⟩
  · refine fm_lookup (pc := 2) 28 (by decide) rfl (fm_dec dtX10_meanOf 1 rfl) ?_
    refine fm_bipush (pc := 28) (v := 16) (by decide) (fm_dec dtX10_meanOf 2 rfl) ?_
    refine fm_iloadn (pc := 30) (n := 0) 0 rfl rfl (fm_dec dtX10_meanOf 3 rfl) ?_
    refine fm_iloadn (pc := 31) (n := 2) 2 rfl rfl (fm_dec dtX10_meanOf 4 rfl) ?_
    refine fm_imul (pc := 32) (fm_dec dtX10_meanOf 5 rfl) ?_
    refine fm_bipush (pc := 33) (v := 16) (by decide) (fm_dec dtX10_meanOf 6 rfl) ?_
    refine fm_iloadn (pc := 35) (n := 0) 0 rfl rfl (fm_dec dtX10_meanOf 7 rfl) ?_
    refine fm_isub (pc := 36) (fm_dec dtX10_meanOf 8 rfl) ?_
    refine fm_iloadn (pc := 37) (n := 3) 3 rfl rfl (fm_dec dtX10_meanOf 9 rfl) ?_
    refine fm_imul (pc := 38) (fm_dec dtX10_meanOf 10 rfl) ?_
    refine fm_isub (pc := 39) (fm_dec dtX10_meanOf 11 rfl) ?_
    refine fm_imul (pc := 40) (fm_dec dtX10_meanOf 12 rfl) ?_
    exact fm_ireturn (pc := 41) rfl (fm_dec dtX10_meanOf 13 rfl) (by simpa [meanE] using hq)
  · refine fm_lookup (pc := 2) 42 (by decide) rfl (fm_dec dtX10_meanOf 1 rfl) ?_
    refine fm_bipush (pc := 42) (v := 16) (by decide) (fm_dec dtX10_meanOf 14 rfl) ?_
    refine fm_iloadn (pc := 44) (n := 0) 0 rfl rfl (fm_dec dtX10_meanOf 15 rfl) ?_
    refine fm_iloadn (pc := 45) (n := 2) 2 rfl rfl (fm_dec dtX10_meanOf 16 rfl) ?_
    refine fm_imul (pc := 46) (fm_dec dtX10_meanOf 17 rfl) ?_
    refine fm_bipush (pc := 47) (v := 16) (by decide) (fm_dec dtX10_meanOf 18 rfl) ?_
    refine fm_iloadn (pc := 49) (n := 0) 0 rfl rfl (fm_dec dtX10_meanOf 19 rfl) ?_
    refine fm_isub (pc := 50) (fm_dec dtX10_meanOf 20 rfl) ?_
    refine fm_iload (pc := 51) (i := 4) rfl (fm_dec dtX10_meanOf 21 rfl) ?_
    refine fm_imul (pc := 53) (fm_dec dtX10_meanOf 22 rfl) ?_
    refine fm_isub (pc := 54) (fm_dec dtX10_meanOf 23 rfl) ?_
    refine fm_imul (pc := 55) (fm_dec dtX10_meanOf 24 rfl) ?_
    exact fm_ireturn (pc := 56) rfl (fm_dec dtX10_meanOf 25 rfl) (by simpa [meanE] using hq)
  · refine fm_lookup (pc := 2) 57 (by decide) (by simp [Op.lookupswitch.offset, Ne.symm g2, Ne.symm g3]) (fm_dec dtX10_meanOf 1 rfl) ?_
    refine fm_iloadn (pc := 57) (n := 0) 0 rfl rfl (fm_dec dtX10_meanOf 26 rfl) ?_
    refine fm_bipush (pc := 58) (v := 16) (by decide) (fm_dec dtX10_meanOf 27 rfl) ?_
    refine fm_iloadn (pc := 60) (n := 1) 1 rfl rfl (fm_dec dtX10_meanOf 28 rfl) ?_
    refine fm_isub (pc := 61) (fm_dec dtX10_meanOf 29 rfl) ?_
    refine fm_imul (pc := 62) (fm_dec dtX10_meanOf 30 rfl) ?_
    refine fm_iloadn (pc := 63) (n := 2) 2 rfl rfl (fm_dec dtX10_meanOf 31 rfl) ?_
    refine fm_imul (pc := 64) (fm_dec dtX10_meanOf 32 rfl) ?_
    exact fm_ireturn (pc := 65) rfl (fm_dec dtX10_meanOf 33 rfl) (by simpa [meanE, g0, g1] using hq)

theorem fm_topE {T : fmT} {l : Launch} {G : fmG} {d : Nat} {y : fmY} {pc : Nat} {L : List (Option Value)} {st : List Value} {M : fmM} {Q : fmR → fmM → Prop} {x v : Int32} (h : x = v) (k : fmEv T l G d y pc L (.int v :: st) M Q) : fmEv T l G d y pc L (.int x :: st) M Q := by rw [h]; exact k
theorem fm_stE {T : fmT} {l : Launch} {G : fmG} {d : Nat} {y : fmY} {pc : Nat} {L : List (Option Value)} {st st' : List Value} {M : fmM} {Q : fmR → fmM → Prop} (h : st = st') (k : fmEv T l G d y pc L st' M Q) : fmEv T l G d y pc L st M Q := by rw [h]; exact k
theorem fs_v : Cond.fieldLink "java/lang/String" 9 "java/lang/String" "value" "[B" ∈ fmWs := fm_in 1966 (by decide +kernel) rfl
theorem fs_c : Cond.fieldLink "java/lang/String" 15 "java/lang/String" "coder" "B" ∈ fmWs := fm_in 1967 (by decide +kernel) rfl
theorem fs_k : Cond.fieldLink "java/lang/String" 38 "java/lang/String" "COMPACT_STRINGS" "Z" ∈ fmWs := fm_in 710 (by decide +kernel) rfl
theorem fs_s : Cond.fieldLink "java/lang/String" 1053 "jdk/internal/util/Preconditions" "SIOOBE_FORMATTER" "Ljava/util/function/BiFunction;" ∈ fmWs := fm_in 726 (by decide +kernel) rfl

theorem sb_X7_53 : fmCb RX7 53 qJ0_length_8abf5 0 := ⟨fm_in 702 (by decide +kernel) rfl, ni_J0, nc_J0_length_8abf5, nd_J0_length_8abf5, by decide⟩
theorem sb_X7_57 : fmCb RX7 57 qJ0_charAt_5068e 1 := ⟨fm_in 712 (by decide +kernel) rfl, ni_J0, nc_J0_charAt_5068e, nd_J0_charAt_5068e, by decide⟩
theorem sb_J0_335 : fmCb RJ0 335 qJ0_coder_7d493 0 := ⟨fm_in 706 (by decide +kernel) rfl, ni_J0, nc_J0_coder_7d493, nd_J0_coder_7d493, by decide⟩
theorem sb_J0_492 : fmCb RJ0 492 qJ0_isLatin1_aae02 0 := ⟨fm_in 716 (by decide +kernel) rfl, ni_J0, nc_J0_isLatin1_aae02, nd_J0_isLatin1_aae02, by decide⟩
theorem nz_J0_charAt_5068e : Cond.selects "java/lang/String" yJ0_charAt_5068e yJ0_charAt_5068e ∈ fmWs := fm_in 714 (by decide +kernel) rfl
theorem nz_J0_coder_7d493 : Cond.selects "java/lang/String" yJ0_coder_7d493 yJ0_coder_7d493 ∈ fmWs := fm_in 708 (by decide +kernel) rfl
theorem nz_J0_isLatin1_aae02 : Cond.selects "java/lang/String" yJ0_isLatin1_aae02 yJ0_isLatin1_aae02 ∈ fmWs := fm_in 718 (by decide +kernel) rfl
theorem nz_J0_length_8abf5 : Cond.selects "java/lang/String" yJ0_length_8abf5 yJ0_length_8abf5 ∈ fmWs := fm_in 704 (by decide +kernel) rfl
theorem fm_invT0 {T : fmT} {l : Launch} {G : fmG} {d d' : Nat} {y y' : fmY} {pc idx : Nat} {L : List (Option Value)} {st : List Value} {M : fmM} {Q : fmR → fmM → Prop} {i : Nat} (hi : i < 5) (hc : fmCb y.1.cls idx y' 0) (hm : Cond.instanceMethod y'.1 ∈ fmWs) (hs : Cond.selects "java/lang/String" y'.1 y'.1 ∈ fmWs) (hcat : (st.map fun v => v.category).sum ≤ 8) (hd : d' + 1 ≤ d) (hdg : decode y.2.1 pc = .ok (.invokevirtual idx, 3)) (hg : fmGood T l G d' y' [.ref (G.2.2.2.1 i)] M (fmThen T l G d y (pc + 3) L st Q)) : fmEv T l G d y pc L (.ref (G.2.2.2.1 i) :: st) M Q := fm_invT (As := []) hi hc hm hs rfl rfl rfl hcat hd hdg hg
theorem fm_invT1 {T : fmT} {l : Launch} {G : fmG} {d d' : Nat} {y y' : fmY} {pc idx : Nat} {L : List (Option Value)} {st : List Value} {M : fmM} {Q : fmR → fmM → Prop} {i : Nat} {a0 : Value} (hi : i < 5) (hc : fmCb y.1.cls idx y' 1) (hm : Cond.instanceMethod y'.1 ∈ fmWs) (hs : Cond.selects "java/lang/String" y'.1 y'.1 ∈ fmWs) (hcat : (st.map fun v => v.category).sum ≤ 8) (hd : d' + 1 ≤ d) (hdg : decode y.2.1 pc = .ok (.invokevirtual idx, 3)) (hg : fmGood T l G d' y' [.ref (G.2.2.2.1 i), a0] M (fmThen T l G d y (pc + 3) L st Q)) : fmEv T l G d y pc L (a0 :: .ref (G.2.2.2.1 i) :: st) M Q := fm_invT (As := [a0]) hi hc hm hs rfl rfl rfl hcat hd hdg hg
def chE (i k : Nat) : Int32 := (fmByt.getD i []).getD k 0 &&& 255
theorem fmLen_lt : ∀ i, i < 5 → fmLen.getD i 0 < 64 := by decide
theorem ne10 : ¬ (1 : Int32) = 0 := by decide

set_option maxRecDepth 20000 in
theorem c_coder {l : Launch} {G : fmG} {M : fmM} {Q : fmR → fmM → Prop} (hst : l.stackTraces = false) (i : Nat) (hi : i < 5) (hq : Q (.inl (some (.int 0))) M) : fmGood Tx l G 0 qJ0_coder_7d493 [.ref (G.2.2.2.1 i)] M Q := by
  refine fmGood_of hst (by decide +kernel) (Nat.le_of_ble_eq_true rfl) ?_
  show fmEv Tx l G 0 qJ0_coder_7d493 0 [some (.ref (G.2.2.2.1 i))] [] M Q
  refine fm_gcs (pc := 0) fs_k (fm_dec dtJ0_coder_7d493 0 rfl) ?_
  refine fm_if_eq (pc := 3) 13 (by decide) (fm_dec dtJ0_coder_7d493 1 rfl) (fun hc3 => by exfalso; exact ne10 hc3) (fun _ => ?_)
  refine fm_aloadn (pc := 6) (n := 0) 0 rfl rfl (fm_dec dtJ0_coder_7d493 2 rfl) ?_
  refine fm_scod (i := i) (pc := 7) hi fs_c (fm_dec dtJ0_coder_7d493 3 rfl) ?_
  refine fm_goto (pc := 10) 14 (by decide) (fm_dec dtJ0_coder_7d493 4 rfl) ?_
  exact fm_nreturn (pc := 14) .byte rfl rfl (fm_dec dtJ0_coder_7d493 6 rfl) hq

set_option maxRecDepth 20000 in
theorem c_latin {l : Launch} {G : fmG} {M : fmM} {Q : fmR → fmM → Prop} (hst : l.stackTraces = false) (i : Nat) (hi : i < 5) (hq : Q (.inl (some (.int 1))) M) : fmGood Tx l G 0 qJ0_isLatin1_aae02 [.ref (G.2.2.2.1 i)] M Q := by
  refine fmGood_of hst (by decide +kernel) (Nat.le_of_ble_eq_true rfl) ?_
  show fmEv Tx l G 0 qJ0_isLatin1_aae02 0 [some (.ref (G.2.2.2.1 i))] [] M Q
  refine fm_gcs (pc := 0) fs_k (fm_dec dtJ0_isLatin1_aae02 0 rfl) ?_
  refine fm_if_eq (pc := 3) 17 (by decide) (fm_dec dtJ0_isLatin1_aae02 1 rfl) (fun hc3 => by exfalso; exact ne10 hc3) (fun _ => ?_)
  refine fm_aloadn (pc := 6) (n := 0) 0 rfl rfl (fm_dec dtJ0_isLatin1_aae02 2 rfl) ?_
  refine fm_scod (i := i) (pc := 7) hi fs_c (fm_dec dtJ0_isLatin1_aae02 3 rfl) ?_
  refine fm_if_ne (pc := 10) 17 (by decide) (fm_dec dtJ0_isLatin1_aae02 4 rfl) (fun hc10 => by exfalso; exact hc10 rfl) (fun _ => ?_)
  refine fm_iconst (pc := 13) (v := 1) (by decide) (fm_dec dtJ0_isLatin1_aae02 5 rfl) ?_
  refine fm_goto (pc := 14) 18 (by decide) (fm_dec dtJ0_isLatin1_aae02 6 rfl) ?_
  exact fm_zreturn (pc := 18) rfl rfl (fm_dec dtJ0_isLatin1_aae02 8 rfl) hq

set_option maxRecDepth 20000 in
theorem c_strlen {l : Launch} {G : fmG} {M : fmM} {Q : fmR → fmM → Prop} (hst : l.stackTraces = false) (i : Nat) (hi : i < 5) (hq : Q (.inl (some (.int (nI (fmLen.getD i 0))))) M) : fmGood Tx l G 1 qJ0_length_8abf5 [.ref (G.2.2.2.1 i)] M Q := by
  refine fmGood_of hst (by decide +kernel) (Nat.le_of_ble_eq_true rfl) ?_
  show fmEv Tx l G 1 qJ0_length_8abf5 0 [some (.ref (G.2.2.2.1 i))] [] M Q
  refine fm_aloadn (pc := 0) (n := 0) 0 rfl rfl (fm_dec dtJ0_length_8abf5 0 rfl) ?_
  refine fm_sval (i := i) (pc := 1) hi fs_v (fm_dec dtJ0_length_8abf5 1 rfl) ?_
  refine fm_slen (i := i) (pc := 4) hi rfl (fm_dec dtJ0_length_8abf5 2 rfl) ?_
  refine fm_aloadn (pc := 5) (n := 0) 0 rfl rfl (fm_dec dtJ0_length_8abf5 3 rfl) ?_
  refine fm_invT0 (i := i) (d' := 0) (pc := 6) hi sb_J0_335 nm_J0_coder_7d493 nz_J0_coder_7d493 (Nat.le_of_ble_eq_true rfl) (by decide) (fm_dec dtJ0_length_8abf5 4 rfl) ?_
  refine c_coder hst i hi ?_
  refine fm_then1 ?_
  refine fm_ishr (pc := 9) (fm_dec dtJ0_length_8abf5 5 rfl) ?_
  refine fm_topE (v := nI (fmLen.getD i 0)) (sc_shr0 (by have := fmLen_lt i hi; omega)) ?_
  exact fm_ireturn (pc := 10) rfl (fm_dec dtJ0_length_8abf5 6 rfl) hq

theorem fmSi_cat (G : fmG) : (fmSi G).category = 1 := by unfold fmSi; split <;> rfl
theorem fmSi_len (G : fmG) (a b : Int32) : (lg_sl [.int a, .int b, fmSi G]).length = 3 := by
  unfold fmSi; split <;> rfl
theorem fmSi_args (G : fmG) (a b : Int32) : fmArgs [.int a, .int b, fmSi G] = [some (.int a), some (.int b), some (fmSi G)] := by
  unfold fmSi; split <;> rfl
set_option maxRecDepth 20000 in
theorem c_chk3 {l : Launch} {G : fmG} {M : fmM} {Q : fmR → fmM → Prop} (hst : l.stackTraces = false) (k n : Nat) (hk : k < n) (hn : n < 64) (hq : Q (.inl (some (.int (nI k)))) M) : fmGood Tx l G 0 qJ3_checkIndex_8e157 [.int (nI k), .int (nI n), fmSi G] M Q := by
  refine fmGood_of hst (by decide +kernel) (by rw [fmSi_len]; decide) ?_
  rw [fmSi_args]
  show fmEv Tx l G 0 qJ3_checkIndex_8e157 0 [some (.int (nI k)), some (.int (nI n)), some (fmSi G)] [] M Q
  refine fm_iloadn (pc := 0) (n := 0) 0 rfl rfl (fm_dec dtJ3_checkIndex_8e157 0 rfl) ?_
  refine fm_if_lt (pc := 1) 9 (by decide) (fm_dec dtJ3_checkIndex_8e157 1 rfl) (fun hc1 => by exfalso; exact nI_pos (by omega) hc1) (fun _ => ?_)
  refine fm_iloadn (pc := 4) (n := 0) 0 rfl rfl (fm_dec dtJ3_checkIndex_8e157 2 rfl) ?_
  refine fm_iloadn (pc := 5) (n := 1) 1 rfl rfl (fm_dec dtJ3_checkIndex_8e157 3 rfl) ?_
  refine fm_icmp_lt (pc := 6) 16 (by decide) (fm_dec dtJ3_checkIndex_8e157 4 rfl) (fun _ => ?_) (fun hc6 => by exfalso; exact hc6 (nI_lt hk (by omega)))
  refine fm_iloadn (pc := 16) (n := 0) 0 rfl rfl (fm_dec dtJ3_checkIndex_8e157 10 rfl) ?_
  exact fm_ireturn (pc := 17) rfl (fm_dec dtJ3_checkIndex_8e157 11 rfl) hq

set_option maxRecDepth 20000 in
theorem c_chk {l : Launch} {G : fmG} {M : fmM} {Q : fmR → fmM → Prop} (hst : l.stackTraces = false) (k n : Nat) (hk : k < n) (hn : n < 64) (hq : Q (.inl none) M) : fmGood Tx l G 1 qJ0_checkIndex_df160 [.int (nI k), .int (nI n)] M Q := by
  refine fmGood_of hst (by decide +kernel) (Nat.le_of_ble_eq_true rfl) ?_
  show fmEv Tx l G 1 qJ0_checkIndex_df160 0 [some (.int (nI k)), some (.int (nI n))] [] M Q
  refine fm_iloadn (pc := 0) (n := 0) 0 rfl rfl (fm_dec dtJ0_checkIndex_df160 0 rfl) ?_
  refine fm_iloadn (pc := 1) (n := 1) 1 rfl rfl (fm_dec dtJ0_checkIndex_df160 1 rfl) ?_
  refine fm_gsi (pc := 2) fs_s (fm_dec dtJ0_checkIndex_df160 2 rfl) ?_
  refine fm_stE (st' := [fmSi G, .int (nI n), .int (nI k)]) rfl ?_
  refine fm_invS3 (d' := 0) (pc := 5) cs_J0_1059 (Nat.le_of_ble_eq_true rfl) (by decide) (fm_dec dtJ0_checkIndex_df160 3 rfl) ?_
  refine c_chk3 hst _ _ hk hn ?_
  refine fm_then1 ?_
  refine fm_pop (pc := 8) rfl (fm_dec dtJ0_checkIndex_df160 4 rfl) ?_
  exact fm_return (pc := 9) rfl (fm_dec dtJ0_checkIndex_df160 5 rfl) hq

set_option maxRecDepth 20000 in
theorem c_lcharAt {l : Launch} {G : fmG} {M : fmM} {Q : fmR → fmM → Prop} (hst : l.stackTraces = false) (k : Nat) (i : Nat) (hi : i < 5) (hk : k < fmLen.getD i 0) (hq : Q (.inl (some (.int (chE i k)))) M) : fmGood Tx l G 2 qJ1_charAt_3b067 [.ref (G.2.2.2.2 i), .int (nI k)] M Q := by
  refine fmGood_of hst (by decide +kernel) (Nat.le_of_ble_eq_true rfl) ?_
  show fmEv Tx l G 2 qJ1_charAt_3b067 0 [some (.ref (G.2.2.2.2 i)), some (.int (nI k))] [] M Q
  refine fm_iloadn (pc := 0) (n := 1) 1 rfl rfl (fm_dec dtJ1_charAt_3b067 0 rfl) ?_
  refine fm_aloadn (pc := 1) (n := 0) 0 rfl rfl (fm_dec dtJ1_charAt_3b067 1 rfl) ?_
  refine fm_slen (i := i) (pc := 2) hi rfl (fm_dec dtJ1_charAt_3b067 2 rfl) ?_
  refine fm_invS2 (d' := 1) (pc := 3) cs_J1_9 (Nat.le_of_ble_eq_true rfl) (by decide) (fm_dec dtJ1_charAt_3b067 3 rfl) ?_
  refine c_chk hst _ _ hk (fmLen_lt i hi) ?_
  refine fm_then0 ?_
  refine fm_aloadn (pc := 6) (n := 0) 0 rfl rfl (fm_dec dtJ1_charAt_3b067 4 rfl) ?_
  refine fm_iloadn (pc := 7) (n := 1) 1 rfl rfl (fm_dec dtJ1_charAt_3b067 5 rfl) ?_
  refine fm_sbald (i := i) (pc := 8) hi (vp_in_nI hk (by have := fmLen_lt i hi; omega)) (fm_dec dtJ1_charAt_3b067 6 rfl) ?_
  refine fm_sipush (pc := 9) (v := 255) (by decide) (fm_dec dtJ1_charAt_3b067 7 rfl) ?_
  refine fm_iand (pc := 12) (fm_dec dtJ1_charAt_3b067 8 rfl) ?_
  refine fm_i2c (pc := 13) (fm_dec dtJ1_charAt_3b067 9 rfl) ?_
  refine fm_topE (v := chE i k) (by rw [nI_clamp (by have := fmLen_lt i hi; omega)]; exact sc_c2 _) ?_
  exact fm_nreturn (pc := 14) .char rfl (sc_nar _) (fm_dec dtJ1_charAt_3b067 10 rfl) hq

set_option maxRecDepth 20000 in
theorem c_charAt {l : Launch} {G : fmG} {M : fmM} {Q : fmR → fmM → Prop} (hst : l.stackTraces = false) (k : Nat) (i : Nat) (hi : i < 5) (hk : k < fmLen.getD i 0) (hq : Q (.inl (some (.int (chE i k)))) M) : fmGood Tx l G 3 qJ0_charAt_5068e [.ref (G.2.2.2.1 i), .int (nI k)] M Q := by
  refine fmGood_of hst (by decide +kernel) (Nat.le_of_ble_eq_true rfl) ?_
  show fmEv Tx l G 3 qJ0_charAt_5068e 0 [some (.ref (G.2.2.2.1 i)), some (.int (nI k))] [] M Q
  refine fm_aloadn (pc := 0) (n := 0) 0 rfl rfl (fm_dec dtJ0_charAt_5068e 0 rfl) ?_
  refine fm_invT0 (i := i) (d' := 0) (pc := 1) hi sb_J0_492 nm_J0_isLatin1_aae02 nz_J0_isLatin1_aae02 (Nat.le_of_ble_eq_true rfl) (by decide) (fm_dec dtJ0_charAt_5068e 1 rfl) ?_
  refine c_latin hst i hi ?_
  refine fm_then1 ?_
  refine fm_if_eq (pc := 4) 16 (by decide) (fm_dec dtJ0_charAt_5068e 2 rfl) (fun hc4 => by exfalso; exact ne10 hc4) (fun _ => ?_)
  refine fm_aloadn (pc := 7) (n := 0) 0 rfl rfl (fm_dec dtJ0_charAt_5068e 3 rfl) ?_
  refine fm_sval (i := i) (pc := 8) hi fs_v (fm_dec dtJ0_charAt_5068e 4 rfl) ?_
  refine fm_iloadn (pc := 11) (n := 1) 1 rfl rfl (fm_dec dtJ0_charAt_5068e 5 rfl) ?_
  refine fm_invS2 (d' := 2) (pc := 12) cs_J0_495 (Nat.le_of_ble_eq_true rfl) (by decide) (fm_dec dtJ0_charAt_5068e 6 rfl) ?_
  refine c_lcharAt hst _ i hi hk ?_
  refine fm_then1 ?_
  exact fm_nreturn (pc := 15) .char rfl (sc_nar _) (fm_dec dtJ0_charAt_5068e 7 rfl) hq
theorem scq_t (x : Int32) : scTop.1 ≤ x.toInt ∧ x.toInt ≤ scTop.2 := by
  have h1 := x.le_toInt
  have h2 := x.toInt_lt
  constructor
  · show -2147483648 ≤ x.toInt
    omega
  · show x.toInt ≤ 2147483647
    omega
theorem scFr.rfl {W : List (Nat × Nat × Nat)} {M : fmM} : scFr W M M := fun _ _ _ => ⟨Eq.refl _, Eq.refl _⟩
theorem fm_forget {T : fmT} {l : Launch} {G : fmG} {d : Nat} {y : fmY} {pc : Nat} {L : List (Option Value)} {st : List Value} {M : fmM} {Q : fmR → fmM → Prop} (k : Nat) (h : fmEv T l G d y pc (L.set k none) st M Q) : fmEv T l G d y pc L st M Q := by
  refine fm_less (fun i v hv => ?_) h
  rw [List.getElem?_set] at hv
  split at hv
  · split at hv <;> cases hv
  · exact hv
/-- bounds are kept -/
theorem hh_nw (a b c d : Int) : scH Tx invX (qX10_needWithin, 0, [scTop, (a, b), (c, d)], [.inr (.inr (.inl [0])), .inl (some 0, 0), .inl (some 1, 0), .inl (some 2, 0)], [], [(0, (0, 0), [], [(0, (a, d))], []), (4, (0, 0), [], [], [])], [(0, 16, 1)]) := by
  intro l G M σ as hst hE hS hF hI
  obtain ⟨k, st1, hk, e1, q1⟩ := scSk_r hS
  obtain ⟨v, st2, e2, hv, q2⟩ := scSk_i q1
  obtain ⟨lo, st3, e3, hlo, q3⟩ := scSk_i q2
  obtain ⟨hi, st4, e4, hhi, q4⟩ := scSk_i q3
  have e5 := scSk_0 q4
  subst e5
  subst e4
  subst e3
  subst e2
  subst e1
  have ek : k = 0 := by simpa using hk
  subst ek
  obtain ⟨xv, hxv, ev⟩ := hv
  obtain ⟨xl, hxl, el⟩ := hlo
  obtain ⟨xh, hxh, eh⟩ := hhi
  have bl := hE.2 1 (a, b) xl rfl hxl
  have bh := hE.2 2 (c, d) xh rfl hxh
  simp only at ev el eh bl bh
  refine c_needWithin hst v lo hi (fun hr => ?_) (fun hr => ?_)
  · have hr' := inR_toInt hr
    refine ⟨⟨_, List.mem_cons_self, rfl, fun q hq => ?_, fun q hq => (by cases hq)⟩, hI, scFr.rfl⟩
    have eq : q = (0, (a, d)) := by simpa using hq
    subst eq
    exact ⟨xv, hxv, by show a ≤ xv; omega, by show xv ≤ d; omega⟩
  · obtain ⟨w1, w2⟩ := scWr_ok (T := Tx) (inv := invX) (W := [(0, 16, 1)]) (ks := [0]) (a := 16) (n := 0) (e := scTop) (k := 0) (j := 16) (M0 := M) (M := M) (v := M.1 0 16 + 1) (by decide +kernel) List.mem_cons_self (Nat.le_refl _) (Nat.le_refl _) (scq_t _) hI scFr.rfl
    exact ⟨⟨_, List.mem_cons_of_mem _ List.mem_cons_self, rfl, fun q hq => (by cases hq), fun q hq => (by cases hq)⟩, w1, w2⟩
set_option maxRecDepth 20000 in
theorem c_needLife {l : Launch} {G : fmG} {M : fmM} {Q : fmR → fmM → Prop} (hst : l.stackTraces = false) (i : Int32) (hq : ¬ i < 0 → i < M.1 3 9 → Q (.inl none) M) (hx : Q (.inr fmNSE) (fmI M 0 15 (M.1 0 15 + 1))) : fmGood Tx l G 0 qX10_needLife [.ref (G.1 0), .int i] M Q := by
  refine fmGood_of hst (by decide +kernel) (Nat.le_of_ble_eq_true rfl) ?_
  show fmEv Tx l G 0 qX10_needLife 0 [some (.ref (G.1 0)), some (.int i)] [] M Q
  refine fm_iloadn (pc := 0) (n := 1) 1 rfl rfl (fm_dec dtX10_needLife 0 rfl) ?_
  refine fm_if_lt (pc := 1) 15 (by decide) (fm_dec dtX10_needLife 1 rfl) (fun hc1 => ?_) (fun hc1 => ?_)
  · refine fm_aloadn (pc := 15) (n := 0) 0 rfl rfl (fm_dec dtX10_needLife 7 rfl) ?_
    refine fm_dup (pc := 16) rfl (fm_dec dtX10_needLife 8 rfl) ?_
    refine fm_getI (k := 0) (j := 15) (ci := 10) (pc := 17) fl_X10_363 (by decide) rfl (by decide) rfl (fm_dec dtX10_needLife 9 rfl) ?_
    refine fm_iconst (pc := 20) (v := 1) (by decide) (fm_dec dtX10_needLife 10 rfl) ?_
    refine fm_iadd (pc := 21) (fm_dec dtX10_needLife 11 rfl) ?_
    refine fm_putI (k := 0) (j := 15) (ci := 10) (pc := 22) fl_X10_363 (by decide) rfl (by decide) rfl rfl (fm_dec dtX10_needLife 12 rfl) ?_
    exact fm_thrN (pc := 25) (fm_dec dtX10_needLife 13 rfl) (fm_dec dtX10_needLife 14 rfl) (fm_dec dtX10_needLife 15 rfl) (fm_dec dtX10_needLife 16 rfl) (fm_dec dtX10_needLife 17 rfl) hx
  · refine fm_iloadn (pc := 4) (n := 1) 1 rfl rfl (fm_dec dtX10_needLife 2 rfl) ?_
    refine fm_aloadn (pc := 5) (n := 0) 0 rfl rfl (fm_dec dtX10_needLife 3 rfl) ?_
    refine fm_getR (k := 0) (j := 1) (ci := 10) (pc := 6) 3 rfl fl_X10_19 (by decide) rfl (by decide) (by decide) (fm_dec dtX10_needLife 4 rfl) ?_
    refine fm_getI (k := 3) (j := 9) (ci := 8) (pc := 9) fl_X10_138 (by decide) rfl (by decide) rfl (fm_dec dtX10_needLife 5 rfl) ?_
    refine fm_icmp_lt (pc := 12) 36 (by decide) (fm_dec dtX10_needLife 6 rfl) (fun hc12 => ?_) (fun hc12 => ?_)
    · exact fm_return (pc := 36) rfl (fm_dec dtX10_needLife 18 rfl) (hq hc1 hc12)
    · refine fm_aloadn (pc := 15) (n := 0) 0 rfl rfl (fm_dec dtX10_needLife 7 rfl) ?_
      refine fm_dup (pc := 16) rfl (fm_dec dtX10_needLife 8 rfl) ?_
      refine fm_getI (k := 0) (j := 15) (ci := 10) (pc := 17) fl_X10_363 (by decide) rfl (by decide) rfl (fm_dec dtX10_needLife 9 rfl) ?_
      refine fm_iconst (pc := 20) (v := 1) (by decide) (fm_dec dtX10_needLife 10 rfl) ?_
      refine fm_iadd (pc := 21) (fm_dec dtX10_needLife 11 rfl) ?_
      refine fm_putI (k := 0) (j := 15) (ci := 10) (pc := 22) fl_X10_363 (by decide) rfl (by decide) rfl rfl (fm_dec dtX10_needLife 12 rfl) ?_
      exact fm_thrN (pc := 25) (fm_dec dtX10_needLife 13 rfl) (fm_dec dtX10_needLife 14 rfl) (fm_dec dtX10_needLife 15 rfl) (fm_dec dtX10_needLife 16 rfl) (fm_dec dtX10_needLife 17 rfl) hx
theorem hh_hand_needLife : scH Tx invX cc_hand_needLife := by
  intro l G M σ as hst hE hS hF hI
  obtain ⟨k, st1, hk, e1, q1⟩ := scSk_r hS
  obtain ⟨v, st2, e2, hv, q2⟩ := scSk_i q1
  have e5 := scSk_0 q2
  subst e5
  subst e2
  subst e1
  have ek : k = 0 := by simpa using hk
  subst ek
  obtain ⟨xv, hxv, ev⟩ := hv
  simp only at ev
  have h8 : (M.1 3 9).toInt ≤ 8 := (hI 3 9 (by decide)).2
  refine c_needLife hst v (fun h1 h2 => ?_) ?_
  · rw [sc_lt] at h1 h2
    have z0 : (0 : Int32).toInt = 0 := by decide
    refine ⟨⟨_, List.mem_cons_self, rfl, fun q hq => ?_, fun q hq => (by cases hq)⟩, hI, scFr.rfl⟩
    have eq : q = (0, (0, 7)) := by simpa using hq
    subst eq
    exact ⟨xv, hxv, by show 0 ≤ xv; omega, by show xv ≤ 7; omega⟩
  · obtain ⟨w1, w2⟩ := scWr_ok (T := Tx) (inv := invX) (W := [(0, 15, 1)]) (ks := [0]) (a := 15) (n := 0) (e := scTop) (k := 0) (j := 15) (M0 := M) (M := M) (v := M.1 0 15 + 1) (by decide +kernel) List.mem_cons_self (Nat.le_refl _) (Nat.le_refl _) (scq_t _) hI scFr.rfl
    exact ⟨⟨_, List.mem_cons_of_mem _ List.mem_cons_self, rfl, fun q hq => (by cases hq), fun q hq => (by cases hq)⟩, w1, w2⟩
theorem hh_len (t : Nat) (n : Int) (ht : t < 5) (hn : (nI (fmLen.getD t 0)).toInt = n) : scH Tx invX (qJ0_length_8abf5, 1, [], [.inr (.inr (.inr t))], [], [(1, (n, n), [], [], [])], []) := by
  intro l G M σ as hst hE hS hF hI
  cases as with
  | nil => exact hS.elim
  | cons w as =>
    obtain ⟨hw, q1⟩ := hS
    have hw : w = .ref (G.2.2.2.1 t) := hw
    have e5 := scSk_0 q1
    subst e5
    subst hw
    exact c_strlen hst t ht ⟨⟨_, List.mem_cons_self, ⟨_, rfl, Int.le_of_eq hn.symm, Int.le_of_eq hn⟩, fun q hq => (by cases hq), fun q hq => (by cases hq)⟩, hI, scFr.rfl⟩
theorem hh_chr (t k : Nat) (c : Int) (ht : t < 5) (hk : k < fmLen.getD t 0) (hk2 : (nI k).toInt = k) (hc : (chE t k).toInt = c) : scH Tx invX (qJ0_charAt_5068e, 3, [], [.inr (.inr (.inr t)), .inl (none, (k : Int))], [], [(1, (c, c), [], [], [])], []) := by
  intro l G M σ as hst hE hS hF hI
  cases as with
  | nil => exact hS.elim
  | cons w as =>
    obtain ⟨hw, q1⟩ := hS
    have hw : w = .ref (G.2.2.2.1 t) := hw
    obtain ⟨v, st2, e2, hv, q2⟩ := scSk_i q1
    have e5 := scSk_0 q2
    subst e5
    subst e2
    subst hw
    have ev : v.toInt = (k : Int) := hv
    have e6 : v = nI k := i32_ext (by rw [ev, hk2])
    subst e6
    exact c_charAt hst k t ht hk ⟨⟨_, List.mem_cons_self, ⟨_, rfl, Int.le_of_eq hc.symm, Int.le_of_eq hc⟩, fun q hq => (by cases hq), fun q hq => (by cases hq)⟩, hI, scFr.rfl⟩
set_option maxRecDepth 20000 in
theorem tm_loop {l : Launch} {G : fmG} {Q : fmR → fmM → Prop} (hst : l.stackTraces = false) {M : fmM} (a b : Int64) (p : Int32) (hq : ∀ r : Int64, Q (.inl (some (.long r))) M) : ∀ (n i : Nat) (one oth : Int64), i + n = 200 → fmEv Tx l G 0 qX10_termOf 9 [some (.long a), none, some (.long b), none, some (.int p), some (.long one), none, some (.long oth), none, some (.int (nI i)), none, none] [] M Q := by
  intro n
  induction n with
  | zero =>
    intro i one oth hi
    have e : i = 200 := by omega
    subst e
    refine fm_iload (pc := 9) (i := 9) rfl (fm_dec dtX10_termOf 6 rfl) ?_
    refine fm_sipush (pc := 11) (v := 200) (by decide) (fm_dec dtX10_termOf 7 rfl) ?_
    refine fm_icmp_ge (pc := 14) 45 (by decide) (fm_dec dtX10_termOf 8 rfl) (fun _ => ?_) (fun hc14 => by exfalso; exact hc14 (by decide))
    refine fm_lload (pc := 45) (i := 7) rfl (fm_dec dtX10_termOf 23 rfl) ?_
    refine fm_lconst (pc := 47) (v := 0) (by decide) (fm_dec dtX10_termOf 24 rfl) ?_
    refine fm_lcmp (pc := 48) (fm_dec dtX10_termOf 25 rfl) ?_
    refine fm_if_le (pc := 49) 57 (by decide) (fm_dec dtX10_termOf 26 rfl) (fun hc49 => ?_) (fun hc49 => ?_)
    · refine fm_lconst (pc := 57) (v := 1) (by decide) (fm_dec dtX10_termOf 29 rfl) ?_
      refine fm_lstore (pc := 58) (i := 9) (by decide) rfl (fm_dec dtX10_termOf 30 rfl) ?_
      dsimp only [List.set_cons_zero, List.set_cons_succ]
      refine fm_iload (pc := 60) (i := 4) rfl (fm_dec dtX10_termOf 31 rfl) ?_
      refine fm_if_ne (pc := 62) 69 (by decide) (fm_dec dtX10_termOf 32 rfl) (fun hc62 => ?_) (fun hc62 => ?_)
      · refine fm_lloadn (pc := 69) (n := 2) 2 rfl rfl (fm_dec dtX10_termOf 35 rfl) ?_
        refine fm_lload (pc := 70) (i := 9) rfl (fm_dec dtX10_termOf 36 rfl) ?_
        refine fm_ldiv (pc := 72) (by first | exact (fun e => hc49 (by subst e; decide)) | decide) (fm_dec dtX10_termOf 37 rfl) ?_
        exact fm_lreturn (pc := 73) rfl (fm_dec dtX10_termOf 38 rfl) (hq _)
      · refine fm_lloadn (pc := 65) (n := 0) 0 rfl rfl (fm_dec dtX10_termOf 33 rfl) ?_
        refine fm_goto (pc := 66) 70 (by decide) (fm_dec dtX10_termOf 34 rfl) ?_
        refine fm_lload (pc := 70) (i := 9) rfl (fm_dec dtX10_termOf 36 rfl) ?_
        refine fm_ldiv (pc := 72) (by first | exact (fun e => hc49 (by subst e; decide)) | decide) (fm_dec dtX10_termOf 37 rfl) ?_
        exact fm_lreturn (pc := 73) rfl (fm_dec dtX10_termOf 38 rfl) (hq _)
    · refine fm_lload (pc := 52) (i := 7) rfl (fm_dec dtX10_termOf 27 rfl) ?_
      refine fm_goto (pc := 54) 58 (by decide) (fm_dec dtX10_termOf 28 rfl) ?_
      refine fm_lstore (pc := 58) (i := 9) (by decide) rfl (fm_dec dtX10_termOf 30 rfl) ?_
      dsimp only [List.set_cons_zero, List.set_cons_succ]
      refine fm_iload (pc := 60) (i := 4) rfl (fm_dec dtX10_termOf 31 rfl) ?_
      refine fm_if_ne (pc := 62) 69 (by decide) (fm_dec dtX10_termOf 32 rfl) (fun hc62 => ?_) (fun hc62 => ?_)
      · refine fm_lloadn (pc := 69) (n := 2) 2 rfl rfl (fm_dec dtX10_termOf 35 rfl) ?_
        refine fm_lload (pc := 70) (i := 9) rfl (fm_dec dtX10_termOf 36 rfl) ?_
        refine fm_ldiv (pc := 72) (by first | exact (fun e => hc49 (by subst e; decide)) | decide) (fm_dec dtX10_termOf 37 rfl) ?_
        exact fm_lreturn (pc := 73) rfl (fm_dec dtX10_termOf 38 rfl) (hq _)
      · refine fm_lloadn (pc := 65) (n := 0) 0 rfl rfl (fm_dec dtX10_termOf 33 rfl) ?_
        refine fm_goto (pc := 66) 70 (by decide) (fm_dec dtX10_termOf 34 rfl) ?_
        refine fm_lload (pc := 70) (i := 9) rfl (fm_dec dtX10_termOf 36 rfl) ?_
        refine fm_ldiv (pc := 72) (by first | exact (fun e => hc49 (by subst e; decide)) | decide) (fm_dec dtX10_termOf 37 rfl) ?_
        exact fm_lreturn (pc := 73) rfl (fm_dec dtX10_termOf 38 rfl) (hq _)
  | succ n ih =>
    intro i one oth hi
    refine fm_iload (pc := 9) (i := 9) rfl (fm_dec dtX10_termOf 6 rfl) ?_
    refine fm_sipush (pc := 11) (v := 200) (by decide) (fm_dec dtX10_termOf 7 rfl) ?_
    refine fm_icmp_ge (pc := 14) 45 (by decide) (fm_dec dtX10_termOf 8 rfl) (fun hc14 => ?_) (fun hc14 => ?_)
    · refine fm_lload (pc := 45) (i := 7) rfl (fm_dec dtX10_termOf 23 rfl) ?_
      refine fm_lconst (pc := 47) (v := 0) (by decide) (fm_dec dtX10_termOf 24 rfl) ?_
      refine fm_lcmp (pc := 48) (fm_dec dtX10_termOf 25 rfl) ?_
      refine fm_if_le (pc := 49) 57 (by decide) (fm_dec dtX10_termOf 26 rfl) (fun hc49 => ?_) (fun hc49 => ?_)
      · refine fm_lconst (pc := 57) (v := 1) (by decide) (fm_dec dtX10_termOf 29 rfl) ?_
        refine fm_lstore (pc := 58) (i := 9) (by decide) rfl (fm_dec dtX10_termOf 30 rfl) ?_
        dsimp only [List.set_cons_zero, List.set_cons_succ]
        refine fm_iload (pc := 60) (i := 4) rfl (fm_dec dtX10_termOf 31 rfl) ?_
        refine fm_if_ne (pc := 62) 69 (by decide) (fm_dec dtX10_termOf 32 rfl) (fun hc62 => ?_) (fun hc62 => ?_)
        · refine fm_lloadn (pc := 69) (n := 2) 2 rfl rfl (fm_dec dtX10_termOf 35 rfl) ?_
          refine fm_lload (pc := 70) (i := 9) rfl (fm_dec dtX10_termOf 36 rfl) ?_
          refine fm_ldiv (pc := 72) (by first | exact (fun e => hc49 (by subst e; decide)) | decide) (fm_dec dtX10_termOf 37 rfl) ?_
          exact fm_lreturn (pc := 73) rfl (fm_dec dtX10_termOf 38 rfl) (hq _)
        · refine fm_lloadn (pc := 65) (n := 0) 0 rfl rfl (fm_dec dtX10_termOf 33 rfl) ?_
          refine fm_goto (pc := 66) 70 (by decide) (fm_dec dtX10_termOf 34 rfl) ?_
          refine fm_lload (pc := 70) (i := 9) rfl (fm_dec dtX10_termOf 36 rfl) ?_
          refine fm_ldiv (pc := 72) (by first | exact (fun e => hc49 (by subst e; decide)) | decide) (fm_dec dtX10_termOf 37 rfl) ?_
          exact fm_lreturn (pc := 73) rfl (fm_dec dtX10_termOf 38 rfl) (hq _)
      · refine fm_lload (pc := 52) (i := 7) rfl (fm_dec dtX10_termOf 27 rfl) ?_
        refine fm_goto (pc := 54) 58 (by decide) (fm_dec dtX10_termOf 28 rfl) ?_
        refine fm_lstore (pc := 58) (i := 9) (by decide) rfl (fm_dec dtX10_termOf 30 rfl) ?_
        dsimp only [List.set_cons_zero, List.set_cons_succ]
        refine fm_iload (pc := 60) (i := 4) rfl (fm_dec dtX10_termOf 31 rfl) ?_
        refine fm_if_ne (pc := 62) 69 (by decide) (fm_dec dtX10_termOf 32 rfl) (fun hc62 => ?_) (fun hc62 => ?_)
        · refine fm_lloadn (pc := 69) (n := 2) 2 rfl rfl (fm_dec dtX10_termOf 35 rfl) ?_
          refine fm_lload (pc := 70) (i := 9) rfl (fm_dec dtX10_termOf 36 rfl) ?_
          refine fm_ldiv (pc := 72) (by first | exact (fun e => hc49 (by subst e; decide)) | decide) (fm_dec dtX10_termOf 37 rfl) ?_
          exact fm_lreturn (pc := 73) rfl (fm_dec dtX10_termOf 38 rfl) (hq _)
        · refine fm_lloadn (pc := 65) (n := 0) 0 rfl rfl (fm_dec dtX10_termOf 33 rfl) ?_
          refine fm_goto (pc := 66) 70 (by decide) (fm_dec dtX10_termOf 34 rfl) ?_
          refine fm_lload (pc := 70) (i := 9) rfl (fm_dec dtX10_termOf 36 rfl) ?_
          refine fm_ldiv (pc := 72) (by first | exact (fun e => hc49 (by subst e; decide)) | decide) (fm_dec dtX10_termOf 37 rfl) ?_
          exact fm_lreturn (pc := 73) rfl (fm_dec dtX10_termOf 38 rfl) (hq _)
    · refine fm_lload (pc := 17) (i := 5) rfl (fm_dec dtX10_termOf 9 rfl) ?_
      refine fm_lconst (pc := 19) (v := 0) (by decide) (fm_dec dtX10_termOf 10 rfl) ?_
      refine fm_lcmp (pc := 20) (fm_dec dtX10_termOf 11 rfl) ?_
      refine fm_if_eq (pc := 21) 45 (by decide) (fm_dec dtX10_termOf 12 rfl) (fun hc21 => ?_) (fun hc21 => ?_)
      · refine fm_lload (pc := 45) (i := 7) rfl (fm_dec dtX10_termOf 23 rfl) ?_
        refine fm_lconst (pc := 47) (v := 0) (by decide) (fm_dec dtX10_termOf 24 rfl) ?_
        refine fm_lcmp (pc := 48) (fm_dec dtX10_termOf 25 rfl) ?_
        refine fm_if_le (pc := 49) 57 (by decide) (fm_dec dtX10_termOf 26 rfl) (fun hc49 => ?_) (fun hc49 => ?_)
        · refine fm_lconst (pc := 57) (v := 1) (by decide) (fm_dec dtX10_termOf 29 rfl) ?_
          refine fm_lstore (pc := 58) (i := 9) (by decide) rfl (fm_dec dtX10_termOf 30 rfl) ?_
          dsimp only [List.set_cons_zero, List.set_cons_succ]
          refine fm_iload (pc := 60) (i := 4) rfl (fm_dec dtX10_termOf 31 rfl) ?_
          refine fm_if_ne (pc := 62) 69 (by decide) (fm_dec dtX10_termOf 32 rfl) (fun hc62 => ?_) (fun hc62 => ?_)
          · refine fm_lloadn (pc := 69) (n := 2) 2 rfl rfl (fm_dec dtX10_termOf 35 rfl) ?_
            refine fm_lload (pc := 70) (i := 9) rfl (fm_dec dtX10_termOf 36 rfl) ?_
            refine fm_ldiv (pc := 72) (by first | exact (fun e => hc49 (by subst e; decide)) | decide) (fm_dec dtX10_termOf 37 rfl) ?_
            exact fm_lreturn (pc := 73) rfl (fm_dec dtX10_termOf 38 rfl) (hq _)
          · refine fm_lloadn (pc := 65) (n := 0) 0 rfl rfl (fm_dec dtX10_termOf 33 rfl) ?_
            refine fm_goto (pc := 66) 70 (by decide) (fm_dec dtX10_termOf 34 rfl) ?_
            refine fm_lload (pc := 70) (i := 9) rfl (fm_dec dtX10_termOf 36 rfl) ?_
            refine fm_ldiv (pc := 72) (by first | exact (fun e => hc49 (by subst e; decide)) | decide) (fm_dec dtX10_termOf 37 rfl) ?_
            exact fm_lreturn (pc := 73) rfl (fm_dec dtX10_termOf 38 rfl) (hq _)
        · refine fm_lload (pc := 52) (i := 7) rfl (fm_dec dtX10_termOf 27 rfl) ?_
          refine fm_goto (pc := 54) 58 (by decide) (fm_dec dtX10_termOf 28 rfl) ?_
          refine fm_lstore (pc := 58) (i := 9) (by decide) rfl (fm_dec dtX10_termOf 30 rfl) ?_
          dsimp only [List.set_cons_zero, List.set_cons_succ]
          refine fm_iload (pc := 60) (i := 4) rfl (fm_dec dtX10_termOf 31 rfl) ?_
          refine fm_if_ne (pc := 62) 69 (by decide) (fm_dec dtX10_termOf 32 rfl) (fun hc62 => ?_) (fun hc62 => ?_)
          · refine fm_lloadn (pc := 69) (n := 2) 2 rfl rfl (fm_dec dtX10_termOf 35 rfl) ?_
            refine fm_lload (pc := 70) (i := 9) rfl (fm_dec dtX10_termOf 36 rfl) ?_
            refine fm_ldiv (pc := 72) (by first | exact (fun e => hc49 (by subst e; decide)) | decide) (fm_dec dtX10_termOf 37 rfl) ?_
            exact fm_lreturn (pc := 73) rfl (fm_dec dtX10_termOf 38 rfl) (hq _)
          · refine fm_lloadn (pc := 65) (n := 0) 0 rfl rfl (fm_dec dtX10_termOf 33 rfl) ?_
            refine fm_goto (pc := 66) 70 (by decide) (fm_dec dtX10_termOf 34 rfl) ?_
            refine fm_lload (pc := 70) (i := 9) rfl (fm_dec dtX10_termOf 36 rfl) ?_
            refine fm_ldiv (pc := 72) (by first | exact (fun e => hc49 (by subst e; decide)) | decide) (fm_dec dtX10_termOf 37 rfl) ?_
            exact fm_lreturn (pc := 73) rfl (fm_dec dtX10_termOf 38 rfl) (hq _)
      · refine fm_lload (pc := 24) (i := 7) rfl (fm_dec dtX10_termOf 13 rfl) ?_
        refine fm_lload (pc := 26) (i := 5) rfl (fm_dec dtX10_termOf 14 rfl) ?_
        refine fm_lrem (pc := 28) (fun e => hc21 (by subst e; rfl)) (fm_dec dtX10_termOf 15 rfl) ?_
        refine fm_lstore (pc := 29) (i := 10) (by decide) rfl (fm_dec dtX10_termOf 16 rfl) ?_
        dsimp only [List.set_cons_zero, List.set_cons_succ]
        refine fm_lload (pc := 31) (i := 5) rfl (fm_dec dtX10_termOf 17 rfl) ?_
        refine fm_lstore (pc := 33) (i := 7) (by decide) rfl (fm_dec dtX10_termOf 18 rfl) ?_
        dsimp only [List.set_cons_zero, List.set_cons_succ]
        refine fm_lload (pc := 35) (i := 10) rfl (fm_dec dtX10_termOf 19 rfl) ?_
        refine fm_lstore (pc := 37) (i := 5) (by decide) rfl (fm_dec dtX10_termOf 20 rfl) ?_
        dsimp only [List.set_cons_zero, List.set_cons_succ]
        refine fm_iincc (pc := 39) 9 1 (by decide) rfl (by decide) rfl (fm_dec dtX10_termOf 21 rfl) ?_
        dsimp only [List.set_cons_zero, List.set_cons_succ]
        refine fm_goto (pc := 42) 9 (by decide) (fm_dec dtX10_termOf 22 rfl) ?_
        rw [← nI_succ]
        refine fm_forget 10 ?_
        dsimp only [List.set_cons_zero, List.set_cons_succ]
        exact ih (i + 1) _ _ (by omega)
set_option maxRecDepth 20000 in
theorem c_termOf {l : Launch} {G : fmG} {M : fmM} {Q : fmR → fmM → Prop} (hst : l.stackTraces = false) (a b : Int64) (p : Int32) (hq : ∀ r : Int64, Q (.inl (some (.long r))) M) : fmGood Tx l G 0 qX10_termOf [.long a, .long b, .int p] M Q := by
  refine fmGood_of hst (by decide +kernel) (Nat.le_of_ble_eq_true rfl) ?_
  show fmEv Tx l G 0 qX10_termOf 0 [some (.long a), none, some (.long b), none, some (.int p), none, none, none, none, none, none, none] [] M Q
  refine fm_lloadn (pc := 0) (n := 0) 0 rfl rfl (fm_dec dtX10_termOf 0 rfl) ?_
  refine fm_lstore (pc := 1) (i := 5) (by decide) rfl (fm_dec dtX10_termOf 1 rfl) ?_
  dsimp only [List.set_cons_zero, List.set_cons_succ]
  refine fm_lloadn (pc := 3) (n := 2) 2 rfl rfl (fm_dec dtX10_termOf 2 rfl) ?_
  refine fm_lstore (pc := 4) (i := 7) (by decide) rfl (fm_dec dtX10_termOf 3 rfl) ?_
  dsimp only [List.set_cons_zero, List.set_cons_succ]
  refine fm_iconst (pc := 6) (v := 0) (by decide) (fm_dec dtX10_termOf 4 rfl) ?_
  refine fm_istore (pc := 7) (i := 9) (by decide) rfl (fm_dec dtX10_termOf 5 rfl) ?_
  dsimp only [List.set_cons_zero, List.set_cons_succ]
  exact tm_loop hst a b p hq 200 0 _ _ (by omega)
theorem hh_hand_termOf : scH Tx invX cc_hand_termOf := by
  intro l G M σ as hst hE hS hF hI
  obtain ⟨a, st1, e1, ha, q1⟩ := scSk_j hS
  obtain ⟨b, st2, e2, hb, q2⟩ := scSk_j q1
  obtain ⟨p, st3, e3, hp, q3⟩ := scSk_i q2
  have e5 := scSk_0 q3
  subst e5
  subst e3
  subst e2
  subst e1
  exact c_termOf hst a b p (fun r => ⟨⟨_, List.mem_cons_self, ⟨r, rfl, (scq_l r).1, (scq_l r).2⟩, fun q hq => (by cases hq), fun q hq => (by cases hq)⟩, hI, scFr.rfl⟩)
theorem hh_hand_meanOf : scH Tx invX cc_hand_meanOf := by
  intro l G M σ as hst hE hS hF hI
  obtain ⟨a, st1, e1, ha, q1⟩ := scSk_i hS
  obtain ⟨b, st2, e2, hb, q2⟩ := scSk_i q1
  obtain ⟨c, st3, e3, hc, q3⟩ := scSk_i q2
  obtain ⟨d, st4, e4, hd, q4⟩ := scSk_i q3
  obtain ⟨x, st5, e5, hx, q5⟩ := scSk_i q4
  obtain ⟨w, st6, e6, hw, q6⟩ := scSk_i q5
  have e7 := scSk_0 q6
  subst e7
  subst e6
  subst e5
  subst e4
  subst e3
  subst e2
  subst e1
  exact c_meanOf hst a b c d x w ⟨⟨_, List.mem_cons_self, ⟨_, rfl, (scq_t _).1, (scq_t _).2⟩, fun q hq => (by cases hq), fun q hq => (by cases hq)⟩, hI, scFr.rfl⟩
theorem hh_nw0 : scH Tx invX cc_nw0 := hh_nw 0 0 (-2147483648) 600
theorem hh_hand_len2 : scH Tx invX cc_hand_len2 := hh_len 2 39 (by decide) (by decide +kernel)
theorem hh_chr2_0 : scH Tx invX cc_chr2_0 := hh_chr 2 0 108 (by decide) (by decide +kernel) (by decide +kernel) (by decide +kernel)
theorem hh_chr2_1 : scH Tx invX cc_chr2_1 := hh_chr 2 1 105 (by decide) (by decide +kernel) (by decide +kernel) (by decide +kernel)
theorem hh_chr2_2 : scH Tx invX cc_chr2_2 := hh_chr 2 2 102 (by decide) (by decide +kernel) (by decide +kernel) (by decide +kernel)
theorem hh_chr2_3 : scH Tx invX cc_chr2_3 := hh_chr 2 3 101 (by decide) (by decide +kernel) (by decide +kernel) (by decide +kernel)
theorem hh_chr2_4 : scH Tx invX cc_chr2_4 := hh_chr 2 4 32 (by decide) (by decide +kernel) (by decide +kernel) (by decide +kernel)
theorem hh_chr2_5 : scH Tx invX cc_chr2_5 := hh_chr 2 5 104 (by decide) (by decide +kernel) (by decide +kernel) (by decide +kernel)
theorem hh_chr2_6 : scH Tx invX cc_chr2_6 := hh_chr 2 6 97 (by decide) (by decide +kernel) (by decide +kernel) (by decide +kernel)
theorem hh_chr2_7 : scH Tx invX cc_chr2_7 := hh_chr 2 7 115 (by decide) (by decide +kernel) (by decide +kernel) (by decide +kernel)
theorem hh_chr2_8 : scH Tx invX cc_chr2_8 := hh_chr 2 8 32 (by decide) (by decide +kernel) (by decide +kernel) (by decide +kernel)
theorem hh_chr2_9 : scH Tx invX cc_chr2_9 := hh_chr 2 9 98 (by decide) (by decide +kernel) (by decide +kernel) (by decide +kernel)
theorem hh_chr2_10 : scH Tx invX cc_chr2_10 := hh_chr 2 10 121 (by decide) (by decide +kernel) (by decide +kernel) (by decide +kernel)
theorem hh_chr2_11 : scH Tx invX cc_chr2_11 := hh_chr 2 11 32 (by decide) (by decide +kernel) (by decide +kernel) (by decide +kernel)
theorem hh_chr2_12 : scH Tx invX cc_chr2_12 := hh_chr 2 12 102 (by decide) (by decide +kernel) (by decide +kernel) (by decide +kernel)
theorem hh_chr2_13 : scH Tx invX cc_chr2_13 := hh_chr 2 13 97 (by decide) (by decide +kernel) (by decide +kernel) (by decide +kernel)
theorem hh_chr2_14 : scH Tx invX cc_chr2_14 := hh_chr 2 14 99 (by decide) (by decide +kernel) (by decide +kernel) (by decide +kernel)
theorem hh_chr2_15 : scH Tx invX cc_chr2_15 := hh_chr 2 15 116 (by decide) (by decide +kernel) (by decide +kernel) (by decide +kernel)
theorem hh_chr2_16 : scH Tx invX cc_chr2_16 := hh_chr 2 16 32 (by decide) (by decide +kernel) (by decide +kernel) (by decide +kernel)
theorem hh_chr2_17 : scH Tx invX cc_chr2_17 := hh_chr 2 17 104 (by decide) (by decide +kernel) (by decide +kernel) (by decide +kernel)
theorem hh_chr2_18 : scH Tx invX cc_chr2_18 := hh_chr 2 18 111 (by decide) (by decide +kernel) (by decide +kernel) (by decide +kernel)
theorem hh_chr2_19 : scH Tx invX cc_chr2_19 := hh_chr 2 19 117 (by decide) (by decide +kernel) (by decide +kernel) (by decide +kernel)
theorem hh_chr2_20 : scH Tx invX cc_chr2_20 := hh_chr 2 20 114 (by decide) (by decide +kernel) (by decide +kernel) (by decide +kernel)
theorem hh_chr2_21 : scH Tx invX cc_chr2_21 := hh_chr 2 21 115 (by decide) (by decide +kernel) (by decide +kernel) (by decide +kernel)
theorem hh_chr2_22 : scH Tx invX cc_chr2_22 := hh_chr 2 22 32 (by decide) (by decide +kernel) (by decide +kernel) (by decide +kernel)
theorem hh_chr2_23 : scH Tx invX cc_chr2_23 := hh_chr 2 23 108 (by decide) (by decide +kernel) (by decide +kernel) (by decide +kernel)
theorem hh_chr2_24 : scH Tx invX cc_chr2_24 := hh_chr 2 24 97 (by decide) (by decide +kernel) (by decide +kernel) (by decide +kernel)
theorem hh_chr2_25 : scH Tx invX cc_chr2_25 := hh_chr 2 25 99 (by decide) (by decide +kernel) (by decide +kernel) (by decide +kernel)
theorem hh_chr2_26 : scH Tx invX cc_chr2_26 := hh_chr 2 26 107 (by decide) (by decide +kernel) (by decide +kernel) (by decide +kernel)
theorem hh_chr2_27 : scH Tx invX cc_chr2_27 := hh_chr 2 27 32 (by decide) (by decide +kernel) (by decide +kernel) (by decide +kernel)
theorem hh_chr2_28 : scH Tx invX cc_chr2_28 := hh_chr 2 28 119 (by decide) (by decide +kernel) (by decide +kernel) (by decide +kernel)
theorem hh_chr2_29 : scH Tx invX cc_chr2_29 := hh_chr 2 29 114 (by decide) (by decide +kernel) (by decide +kernel) (by decide +kernel)
theorem hh_chr2_30 : scH Tx invX cc_chr2_30 := hh_chr 2 30 111 (by decide) (by decide +kernel) (by decide +kernel) (by decide +kernel)
theorem hh_chr2_31 : scH Tx invX cc_chr2_31 := hh_chr 2 31 110 (by decide) (by decide +kernel) (by decide +kernel) (by decide +kernel)
theorem hh_chr2_32 : scH Tx invX cc_chr2_32 := hh_chr 2 32 103 (by decide) (by decide +kernel) (by decide +kernel) (by decide +kernel)
theorem hh_chr2_33 : scH Tx invX cc_chr2_33 := hh_chr 2 33 32 (by decide) (by decide +kernel) (by decide +kernel) (by decide +kernel)
theorem hh_chr2_34 : scH Tx invX cc_chr2_34 := hh_chr 2 34 104 (by decide) (by decide +kernel) (by decide +kernel) (by decide +kernel)
theorem hh_chr2_35 : scH Tx invX cc_chr2_35 := hh_chr 2 35 97 (by decide) (by decide +kernel) (by decide +kernel) (by decide +kernel)
theorem hh_chr2_36 : scH Tx invX cc_chr2_36 := hh_chr 2 36 108 (by decide) (by decide +kernel) (by decide +kernel) (by decide +kernel)
theorem hh_chr2_37 : scH Tx invX cc_chr2_37 := hh_chr 2 37 102 (by decide) (by decide +kernel) (by decide +kernel) (by decide +kernel)
theorem hh_chr2_38 : scH Tx invX cc_chr2_38 := hh_chr 2 38 32 (by decide) (by decide +kernel) (by decide +kernel) (by decide +kernel)
theorem hh_hand_len3 : scH Tx invX cc_hand_len3 := hh_len 3 38 (by decide) (by decide +kernel)
theorem hh_chr3_0 : scH Tx invX cc_chr3_0 := hh_chr 3 0 97 (by decide) (by decide +kernel) (by decide +kernel) (by decide +kernel)
theorem hh_chr3_1 : scH Tx invX cc_chr3_1 := hh_chr 3 1 103 (by decide) (by decide +kernel) (by decide +kernel) (by decide +kernel)
theorem hh_chr3_2 : scH Tx invX cc_chr3_2 := hh_chr 3 2 101 (by decide) (by decide +kernel) (by decide +kernel) (by decide +kernel)
theorem hh_chr3_3 : scH Tx invX cc_chr3_3 := hh_chr 3 3 32 (by decide) (by decide +kernel) (by decide +kernel) (by decide +kernel)
theorem hh_chr3_4 : scH Tx invX cc_chr3_4 := hh_chr 3 4 121 (by decide) (by decide +kernel) (by decide +kernel) (by decide +kernel)
theorem hh_chr3_5 : scH Tx invX cc_chr3_5 := hh_chr 3 5 101 (by decide) (by decide +kernel) (by decide +kernel) (by decide +kernel)
theorem hh_chr3_6 : scH Tx invX cc_chr3_6 := hh_chr 3 6 97 (by decide) (by decide +kernel) (by decide +kernel) (by decide +kernel)
theorem hh_chr3_7 : scH Tx invX cc_chr3_7 := hh_chr 3 7 114 (by decide) (by decide +kernel) (by decide +kernel) (by decide +kernel)
theorem hh_chr3_8 : scH Tx invX cc_chr3_8 := hh_chr 3 8 115 (by decide) (by decide +kernel) (by decide +kernel) (by decide +kernel)
theorem hh_chr3_9 : scH Tx invX cc_chr3_9 := hh_chr 3 9 32 (by decide) (by decide +kernel) (by decide +kernel) (by decide +kernel)
theorem hh_chr3_10 : scH Tx invX cc_chr3_10 := hh_chr 3 10 119 (by decide) (by decide +kernel) (by decide +kernel) (by decide +kernel)
theorem hh_chr3_11 : scH Tx invX cc_chr3_11 := hh_chr 3 11 111 (by decide) (by decide +kernel) (by decide +kernel) (by decide +kernel)
theorem hh_chr3_12 : scH Tx invX cc_chr3_12 := hh_chr 3 12 114 (by decide) (by decide +kernel) (by decide +kernel) (by decide +kernel)
theorem hh_chr3_13 : scH Tx invX cc_chr3_13 := hh_chr 3 13 116 (by decide) (by decide +kernel) (by decide +kernel) (by decide +kernel)
theorem hh_chr3_14 : scH Tx invX cc_chr3_14 := hh_chr 3 14 104 (by decide) (by decide +kernel) (by decide +kernel) (by decide +kernel)
theorem hh_chr3_15 : scH Tx invX cc_chr3_15 := hh_chr 3 15 32 (by decide) (by decide +kernel) (by decide +kernel) (by decide +kernel)
theorem hh_chr3_16 : scH Tx invX cc_chr3_16 := hh_chr 3 16 100 (by decide) (by decide +kernel) (by decide +kernel) (by decide +kernel)
theorem hh_chr3_17 : scH Tx invX cc_chr3_17 := hh_chr 3 17 101 (by decide) (by decide +kernel) (by decide +kernel) (by decide +kernel)
theorem hh_chr3_18 : scH Tx invX cc_chr3_18 := hh_chr 3 18 97 (by decide) (by decide +kernel) (by decide +kernel) (by decide +kernel)
theorem hh_chr3_19 : scH Tx invX cc_chr3_19 := hh_chr 3 19 100 (by decide) (by decide +kernel) (by decide +kernel) (by decide +kernel)
theorem hh_chr3_20 : scH Tx invX cc_chr3_20 := hh_chr 3 20 32 (by decide) (by decide +kernel) (by decide +kernel) (by decide +kernel)
theorem hh_chr3_21 : scH Tx invX cc_chr3_21 := hh_chr 3 21 102 (by decide) (by decide +kernel) (by decide +kernel) (by decide +kernel)
theorem hh_chr3_22 : scH Tx invX cc_chr3_22 := hh_chr 3 22 97 (by decide) (by decide +kernel) (by decide +kernel) (by decide +kernel)
theorem hh_chr3_23 : scH Tx invX cc_chr3_23 := hh_chr 3 23 99 (by decide) (by decide +kernel) (by decide +kernel) (by decide +kernel)
theorem hh_chr3_24 : scH Tx invX cc_chr3_24 := hh_chr 3 24 116 (by decide) (by decide +kernel) (by decide +kernel) (by decide +kernel)
theorem hh_chr3_25 : scH Tx invX cc_chr3_25 := hh_chr 3 25 115 (by decide) (by decide +kernel) (by decide +kernel) (by decide +kernel)
theorem hh_chr3_26 : scH Tx invX cc_chr3_26 := hh_chr 3 26 32 (by decide) (by decide +kernel) (by decide +kernel) (by decide +kernel)
theorem hh_chr3_27 : scH Tx invX cc_chr3_27 := hh_chr 3 27 108 (by decide) (by decide +kernel) (by decide +kernel) (by decide +kernel)
theorem hh_chr3_28 : scH Tx invX cc_chr3_28 := hh_chr 3 28 101 (by decide) (by decide +kernel) (by decide +kernel) (by decide +kernel)
theorem hh_chr3_29 : scH Tx invX cc_chr3_29 := hh_chr 3 29 97 (by decide) (by decide +kernel) (by decide +kernel) (by decide +kernel)
theorem hh_chr3_30 : scH Tx invX cc_chr3_30 := hh_chr 3 30 115 (by decide) (by decide +kernel) (by decide +kernel) (by decide +kernel)
theorem hh_chr3_31 : scH Tx invX cc_chr3_31 := hh_chr 3 31 116 (by decide) (by decide +kernel) (by decide +kernel) (by decide +kernel)
theorem hh_chr3_32 : scH Tx invX cc_chr3_32 := hh_chr 3 32 32 (by decide) (by decide +kernel) (by decide +kernel) (by decide +kernel)
theorem hh_chr3_33 : scH Tx invX cc_chr3_33 := hh_chr 3 33 109 (by decide) (by decide +kernel) (by decide +kernel) (by decide +kernel)
theorem hh_chr3_34 : scH Tx invX cc_chr3_34 := hh_chr 3 34 111 (by decide) (by decide +kernel) (by decide +kernel) (by decide +kernel)
theorem hh_chr3_35 : scH Tx invX cc_chr3_35 := hh_chr 3 35 115 (by decide) (by decide +kernel) (by decide +kernel) (by decide +kernel)
theorem hh_chr3_36 : scH Tx invX cc_chr3_36 := hh_chr 3 36 116 (by decide) (by decide +kernel) (by decide +kernel) (by decide +kernel)
theorem hh_chr3_37 : scH Tx invX cc_chr3_37 := hh_chr 3 37 32 (by decide) (by decide +kernel) (by decide +kernel) (by decide +kernel)
theorem hh_hand_len4 : scH Tx invX cc_hand_len4 := hh_len 4 27 (by decide) (by decide +kernel)
theorem hh_chr4_0 : scH Tx invX cc_chr4_0 := hh_chr 4 0 119 (by decide) (by decide +kernel) (by decide +kernel) (by decide +kernel)
theorem hh_chr4_1 : scH Tx invX cc_chr4_1 := hh_chr 4 1 114 (by decide) (by decide +kernel) (by decide +kernel) (by decide +kernel)
theorem hh_chr4_2 : scH Tx invX cc_chr4_2 := hh_chr 4 2 105 (by decide) (by decide +kernel) (by decide +kernel) (by decide +kernel)
theorem hh_chr4_3 : scH Tx invX cc_chr4_3 := hh_chr 4 3 116 (by decide) (by decide +kernel) (by decide +kernel) (by decide +kernel)
theorem hh_chr4_4 : scH Tx invX cc_chr4_4 := hh_chr 4 4 101 (by decide) (by decide +kernel) (by decide +kernel) (by decide +kernel)
theorem hh_chr4_5 : scH Tx invX cc_chr4_5 := hh_chr 4 5 32 (by decide) (by decide +kernel) (by decide +kernel) (by decide +kernel)
theorem hh_chr4_6 : scH Tx invX cc_chr4_6 := hh_chr 4 6 114 (by decide) (by decide +kernel) (by decide +kernel) (by decide +kernel)
theorem hh_chr4_7 : scH Tx invX cc_chr4_7 := hh_chr 4 7 101 (by decide) (by decide +kernel) (by decide +kernel) (by decide +kernel)
theorem hh_chr4_8 : scH Tx invX cc_chr4_8 := hh_chr 4 8 110 (by decide) (by decide +kernel) (by decide +kernel) (by decide +kernel)
theorem hh_chr4_9 : scH Tx invX cc_chr4_9 := hh_chr 4 9 101 (by decide) (by decide +kernel) (by decide +kernel) (by decide +kernel)
theorem hh_chr4_10 : scH Tx invX cc_chr4_10 := hh_chr 4 10 119 (by decide) (by decide +kernel) (by decide +kernel) (by decide +kernel)
theorem hh_chr4_11 : scH Tx invX cc_chr4_11 := hh_chr 4 11 32 (by decide) (by decide +kernel) (by decide +kernel) (by decide +kernel)
theorem hh_chr4_12 : scH Tx invX cc_chr4_12 := hh_chr 4 12 100 (by decide) (by decide +kernel) (by decide +kernel) (by decide +kernel)
theorem hh_chr4_13 : scH Tx invX cc_chr4_13 := hh_chr 4 13 105 (by decide) (by decide +kernel) (by decide +kernel) (by decide +kernel)
theorem hh_chr4_14 : scH Tx invX cc_chr4_14 := hh_chr 4 14 101 (by decide) (by decide +kernel) (by decide +kernel) (by decide +kernel)
theorem hh_chr4_15 : scH Tx invX cc_chr4_15 := hh_chr 4 15 32 (by decide) (by decide +kernel) (by decide +kernel) (by decide +kernel)
theorem hh_chr4_16 : scH Tx invX cc_chr4_16 := hh_chr 4 16 119 (by decide) (by decide +kernel) (by decide +kernel) (by decide +kernel)
theorem hh_chr4_17 : scH Tx invX cc_chr4_17 := hh_chr 4 17 101 (by decide) (by decide +kernel) (by decide +kernel) (by decide +kernel)
theorem hh_chr4_18 : scH Tx invX cc_chr4_18 := hh_chr 4 18 101 (by decide) (by decide +kernel) (by decide +kernel) (by decide +kernel)
theorem hh_chr4_19 : scH Tx invX cc_chr4_19 := hh_chr 4 19 107 (by decide) (by decide +kernel) (by decide +kernel) (by decide +kernel)
theorem hh_chr4_20 : scH Tx invX cc_chr4_20 := hh_chr 4 20 32 (by decide) (by decide +kernel) (by decide +kernel) (by decide +kernel)
theorem hh_chr4_21 : scH Tx invX cc_chr4_21 := hh_chr 4 21 97 (by decide) (by decide +kernel) (by decide +kernel) (by decide +kernel)
theorem hh_chr4_22 : scH Tx invX cc_chr4_22 := hh_chr 4 22 103 (by decide) (by decide +kernel) (by decide +kernel) (by decide +kernel)
theorem hh_chr4_23 : scH Tx invX cc_chr4_23 := hh_chr 4 23 97 (by decide) (by decide +kernel) (by decide +kernel) (by decide +kernel)
theorem hh_chr4_24 : scH Tx invX cc_chr4_24 := hh_chr 4 24 105 (by decide) (by decide +kernel) (by decide +kernel) (by decide +kernel)
theorem hh_chr4_25 : scH Tx invX cc_chr4_25 := hh_chr 4 25 110 (by decide) (by decide +kernel) (by decide +kernel) (by decide +kernel)
theorem hh_chr4_26 : scH Tx invX cc_chr4_26 := hh_chr 4 26 32 (by decide) (by decide +kernel) (by decide +kernel) (by decide +kernel)
theorem hh_hand_perform : scH Tx invX cc_hand_perform := sorry
theorem hh_nw1 : scH Tx invX cc_nw1 := hh_nw 0 0 8 8
theorem hh_nw2 : scH Tx invX cc_nw2 := hh_nw 0 0 7 7
theorem hh_nw3 : scH Tx invX cc_nw3 := hh_nw 0 0 200 200
theorem hh_nw4 : scH Tx invX cc_nw4 := hh_nw 1 1 99 99
theorem hh_nw5 : scH Tx invX cc_nw5 := hh_nw 0 0 1 1
theorem hh_nw6 : scH Tx invX cc_nw6 := hh_nw 0 0 24 24
theorem hh_nw7 : scH Tx invX cc_nw7 := hh_nw 0 0 65 65
theorem hh_nw8 : scH Tx invX cc_nw8 := hh_nw 0 0 0 60
theorem hh_nw9 : scH Tx invX cc_nw9 := hh_nw 1 1 3 3
theorem hh_nw10 : scH Tx invX cc_nw10 := hh_nw 0 0 0 2
theorem hh_nw11 : scH Tx invX cc_nw11 := hh_nw 0 0 999 999
theorem hh_nw12 : scH Tx invX cc_nw12 := hh_nw 1 1 30 30
theorem hh_nw13 : scH Tx invX cc_nw13 := hh_nw 0 0 16 16
theorem hh_nw14 : scH Tx invX cc_nw14 := hh_nw 0 0 2 2
theorem hh_nw15 : scH Tx invX cc_nw15 := hh_nw 0 0 (-2147483648) 2147483647
theorem hh_hand_addToRoom : scH Tx invX cc_hand_addToRoom := sorry
theorem hh_nw16 : scH Tx invX cc_nw16 := hh_nw 1 1 60 60
theorem hh_nw17 : scH Tx invX cc_nw17 := hh_nw 0 0 4 4
theorem hh_nw18 : scH Tx invX cc_nw18 := hh_nw 1 1 20 20
theorem hh_nw19 : scH Tx invX cc_nw19 := hh_nw 0 0 3 3
theorem hh_nw20 : scH Tx invX cc_nw20 := hh_nw 0 0 (-1) 7
