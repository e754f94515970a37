section SLI
variable {xs : Nat → Int32} {N : Nat} {st : List sl_V} {σ : sl_S} {Q : Option sl_V → sl_S → Prop}
theorem sz_i4 {i t : Nat} : sl_ilen N (4, i, t) = 12 := rfl
theorem sz_w4 {i t : Nat} : sl_wlen (4, i, t) 0 = 12 := rfl
theorem sz_r4 {i t j : Nat} : sl_rd xs σ (4, i, t) j = σ i 1 (12 * t + j) := rfl
theorem sz_p4 {i t j : Nat} {v : Int32} : sl_wr σ (4, i, t) j v = sl_up σ i 1 (12 * t + j) v := rfl
theorem sz_i5 {i t : Nat} : sl_ilen N (5, i, t) = 12 := rfl
theorem sz_w5 {i t : Nat} : sl_wlen (5, i, t) 0 = 12 := rfl
theorem sz_r5 {i t j : Nat} : sl_rd xs σ (5, i, t) j = σ i 2 (12 * t + j) := rfl
theorem sz_p5 {i t j : Nat} {v : Int32} : sl_wr σ (5, i, t) j v = sl_up σ i 2 (12 * t + j) v := rfl
theorem sz_i6 {i t : Nat} : sl_ilen N (6, i, t) = 5 := rfl
theorem sz_w6 {i t : Nat} : sl_wlen (6, i, t) 0 = 5 := rfl
theorem sz_r6 {i t j : Nat} : sl_rd xs σ (6, i, t) j = σ i 3 j := congrArg (σ i 3) (Nat.zero_add j)
theorem sz_p6 {i t j : Nat} {v : Int32} : sl_wr σ (6, i, t) j v = sl_up σ i 3 j v := congrArg (fun q => sl_up σ i 3 q v) (Nat.zero_add j)
theorem sz_i7 {i t : Nat} : sl_ilen N (7, i, t) = 5 := rfl
theorem sz_w7 {i t : Nat} : sl_wlen (7, i, t) 0 = 5 := rfl
theorem sz_r7 {i t j : Nat} : sl_rd xs σ (7, i, t) j = σ i 4 j := congrArg (σ i 4) (Nat.zero_add j)
theorem sz_p7 {i t j : Nat} {v : Int32} : sl_wr σ (7, i, t) j v = sl_up σ i 4 j v := congrArg (fun q => sl_up σ i 4 q v) (Nat.zero_add j)
theorem sz_i8 {i t : Nat} : sl_ilen N (8, i, t) = 6 := rfl
theorem sz_w8 {i t : Nat} : sl_wlen (8, i, t) 0 = 6 := rfl
theorem sz_r8 {i t j : Nat} : sl_rd xs σ (8, i, t) j = σ i 5 j := congrArg (σ i 5) (Nat.zero_add j)
theorem sz_p8 {i t j : Nat} {v : Int32} : sl_wr σ (8, i, t) j v = sl_up σ i 5 j v := congrArg (fun q => sl_up σ i 5 q v) (Nat.zero_add j)
theorem sz_i9 {i t : Nat} : sl_ilen N (9, i, t) = 6 := rfl
theorem sz_w9 {i t : Nat} : sl_wlen (9, i, t) 0 = 6 := rfl
theorem sz_r9 {i t j : Nat} : sl_rd xs σ (9, i, t) j = σ i 6 j := congrArg (σ i 6) (Nat.zero_add j)
theorem sz_p9 {i t j : Nat} {v : Int32} : sl_wr σ (9, i, t) j v = sl_up σ i 6 j v := congrArg (fun q => sl_up σ i 6 q v) (Nat.zero_add j)
theorem sz_i10 {i t : Nat} : sl_ilen N (10, i, t) = 6 := rfl
theorem sz_w10 {i t : Nat} : sl_wlen (10, i, t) 0 = 6 := rfl
theorem sz_r10 {i t j : Nat} : sl_rd xs σ (10, i, t) j = σ i 7 j := congrArg (σ i 7) (Nat.zero_add j)
theorem sz_p10 {i t j : Nat} {v : Int32} : sl_wr σ (10, i, t) j v = sl_up σ i 7 j v := congrArg (fun q => sl_up σ i 7 q v) (Nat.zero_add j)
theorem sz_i14 {i t : Nat} : sl_ilen N (14, i, t) = 6 := rfl
theorem sz_w14 {i t : Nat} : sl_wlen (14, i, t) 0 = 6 := rfl
theorem sz_r14 {i t j : Nat} : sl_rd xs σ (14, i, t) j = σ 5 6 j := congrArg (σ 5 6) (Nat.zero_add j)
theorem sz_p14 {i t j : Nat} {v : Int32} : sl_wr σ (14, i, t) j v = sl_up σ 5 6 j v := congrArg (fun q => sl_up σ 5 6 q v) (Nat.zero_add j)
theorem sz_i15 {i t : Nat} : sl_ilen N (15, i, t) = 6 := rfl
theorem sz_w15 {i t : Nat} : sl_wlen (15, i, t) 0 = 6 := rfl
theorem sz_r15 {i t j : Nat} : sl_rd xs σ (15, i, t) j = σ 5 7 j := congrArg (σ 5 7) (Nat.zero_add j)
theorem sz_p15 {i t j : Nat} {v : Int32} : sl_wr σ (15, i, t) j v = sl_up σ 5 7 j v := congrArg (fun q => sl_up σ 5 7 q v) (Nat.zero_add j)
theorem sz_i18 {i t : Nat} : sl_ilen N (18, i, t) = 12 := rfl
theorem sz_w18 {i t : Nat} : sl_wlen (18, i, t) 0 = 12 := rfl
theorem sz_r18 {i t j : Nat} : sl_rd xs σ (18, i, t) j = σ 5 9 (12 * t + j) := rfl
theorem sz_p18 {i t j : Nat} {v : Int32} : sl_wr σ (18, i, t) j v = sl_up σ 5 9 (12 * t + j) v := rfl
theorem sz_i19 {i t : Nat} : sl_ilen N (19, i, t) = 12 := rfl
theorem sz_w19 {i t : Nat} : sl_wlen (19, i, t) 0 = 12 := rfl
theorem sz_r19 {i t j : Nat} : sl_rd xs σ (19, i, t) j = σ 5 10 (12 * t + j) := rfl
theorem sz_p19 {i t j : Nat} {v : Int32} : sl_wr σ (19, i, t) j v = sl_up σ 5 10 (12 * t + j) v := rfl
theorem sz_w21 {i t : Nat} : sl_wlen (21, i, t) 1 = 120 := rfl
theorem sz_r21 {i t j : Nat} : sl_rd xs σ (21, i, t) j = σ 7 1 j := congrArg (σ 7 1) (Nat.zero_add j)
theorem sz_p21 {i t j : Nat} {v : Int32} : sl_wr σ (21, i, t) j v = sl_up σ 7 1 j v := congrArg (fun q => sl_up σ 7 1 q v) (Nat.zero_add j)
theorem sz_i23 {i t : Nat} : sl_ilen N (23, i, t) = 5 := rfl
theorem sz_w23 {i t : Nat} : sl_wlen (23, i, t) 0 = 5 := rfl
theorem sz_r23 {i t j : Nat} : sl_rd xs σ (23, i, t) j = σ 7 2 j := congrArg (σ 7 2) (Nat.zero_add j)
theorem sz_p23 {i t j : Nat} {v : Int32} : sl_wr σ (23, i, t) j v = sl_up σ 7 2 j v := congrArg (fun q => sl_up σ 7 2 q v) (Nat.zero_add j)
theorem sz_i24 {i t : Nat} : sl_ilen N (24, i, t) = 5 := rfl
theorem sz_w24 {i t : Nat} : sl_wlen (24, i, t) 0 = 5 := rfl
theorem sz_r24 {i t j : Nat} : sl_rd xs σ (24, i, t) j = σ 7 3 j := congrArg (σ 7 3) (Nat.zero_add j)
theorem sz_p24 {i t j : Nat} {v : Int32} : sl_wr σ (24, i, t) j v = sl_up σ 7 3 j v := congrArg (fun q => sl_up σ 7 3 q v) (Nat.zero_add j)
theorem sz_i25 {i t : Nat} : sl_ilen N (25, i, t) = 5 := rfl
theorem sz_w25 {i t : Nat} : sl_wlen (25, i, t) 0 = 5 := rfl
theorem sz_r25 {i t j : Nat} : sl_rd xs σ (25, i, t) j = σ 7 4 j := congrArg (σ 7 4) (Nat.zero_add j)
theorem sz_p25 {i t j : Nat} {v : Int32} : sl_wr σ (25, i, t) j v = sl_up σ 7 4 j v := congrArg (fun q => sl_up σ 7 4 q v) (Nat.zero_add j)
theorem sz_i28 {i t : Nat} : sl_ilen N (28, i, t) = 24 := rfl
theorem sz_w28 {i t : Nat} : sl_wlen (28, i, t) 0 = 24 := rfl
theorem sz_r28 {i t j : Nat} : sl_rd xs σ (28, i, t) j = σ 7 10 (24 * t + j) := rfl
theorem sz_p28 {i t j : Nat} {v : Int32} : sl_wr σ (28, i, t) j v = sl_up σ 7 10 (24 * t + j) v := rfl
theorem sz_i31 {i t : Nat} : sl_ilen N (31, i, t) = 40 := rfl
theorem sz_w31 {i t : Nat} : sl_wlen (31, i, t) 0 = 40 := rfl
theorem sz_r31 {i t j : Nat} : sl_rd xs σ (31, i, t) j = σ 7 13 (40 * t + j) := rfl
theorem sz_p31 {i t j : Nat} {v : Int32} : sl_wr σ (31, i, t) j v = sl_up σ 7 13 (40 * t + j) v := rfl
theorem sz_i41 {i t : Nat} : sl_ilen N (41, i, t) = 5 := rfl
theorem sz_w41 {i t : Nat} : sl_wlen (41, i, t) 0 = 5 := rfl
theorem sz_r41 {i t j : Nat} : sl_rd xs σ (41, i, t) j = σ 6 1 j := congrArg (σ 6 1) (Nat.zero_add j)
theorem sz_p41 {i t j : Nat} {v : Int32} : sl_wr σ (41, i, t) j v = sl_up σ 6 1 j v := congrArg (fun q => sl_up σ 6 1 q v) (Nat.zero_add j)
theorem sz_i42 {i t : Nat} : sl_ilen N (42, i, t) = 5 := rfl
theorem sz_w42 {i t : Nat} : sl_wlen (42, i, t) 0 = 5 := rfl
theorem sz_r42 {i t j : Nat} : sl_rd xs σ (42, i, t) j = σ 6 2 j := congrArg (σ 6 2) (Nat.zero_add j)
theorem sz_p42 {i t j : Nat} {v : Int32} : sl_wr σ (42, i, t) j v = sl_up σ 6 2 j v := congrArg (fun q => sl_up σ 6 2 q v) (Nat.zero_add j)
theorem sz_i43 {i t : Nat} : sl_ilen N (43, i, t) = 5 := rfl
theorem sz_w43 {i t : Nat} : sl_wlen (43, i, t) 0 = 5 := rfl
theorem sz_r43 {i t j : Nat} : sl_rd xs σ (43, i, t) j = σ 6 3 j := congrArg (σ 6 3) (Nat.zero_add j)
theorem sz_p43 {i t j : Nat} {v : Int32} : sl_wr σ (43, i, t) j v = sl_up σ 6 3 j v := congrArg (fun q => sl_up σ 6 3 q v) (Nat.zero_add j)
theorem sz_i44 {i t : Nat} : sl_ilen N (44, i, t) = 5 := rfl
theorem sz_w44 {i t : Nat} : sl_wlen (44, i, t) 0 = 5 := rfl
theorem sz_r44 {i t j : Nat} : sl_rd xs σ (44, i, t) j = σ 6 4 j := congrArg (σ 6 4) (Nat.zero_add j)
theorem sz_p44 {i t j : Nat} {v : Int32} : sl_wr σ (44, i, t) j v = sl_up σ 6 4 j v := congrArg (fun q => sl_up σ 6 4 q v) (Nat.zero_add j)
theorem sz_i45 {i t : Nat} : sl_ilen N (45, i, t) = 5 := rfl
theorem sz_w45 {i t : Nat} : sl_wlen (45, i, t) 0 = 5 := rfl
theorem sz_r45 {i t j : Nat} : sl_rd xs σ (45, i, t) j = σ 4 3 j := congrArg (σ 4 3) (Nat.zero_add j)
theorem sz_p45 {i t j : Nat} {v : Int32} : sl_wr σ (45, i, t) j v = sl_up σ 4 3 j v := congrArg (fun q => sl_up σ 4 3 q v) (Nat.zero_add j)
theorem sz_i46 {i t : Nat} : sl_ilen N (46, i, t) = 5 := rfl
theorem sz_w46 {i t : Nat} : sl_wlen (46, i, t) 0 = 5 := rfl
theorem sz_r46 {i t j : Nat} : sl_rd xs σ (46, i, t) j = σ 4 4 j := congrArg (σ 4 4) (Nat.zero_add j)
theorem sz_p46 {i t j : Nat} {v : Int32} : sl_wr σ (46, i, t) j v = sl_up σ 4 4 j v := congrArg (fun q => sl_up σ 4 4 q v) (Nat.zero_add j)
theorem sz_i47 {i t : Nat} : sl_ilen N (47, i, t) = 60 := rfl
theorem sz_w47 {i t : Nat} : sl_wlen (47, i, t) 0 = 60 := rfl
theorem sz_r47 {i t j : Nat} : sl_rd xs σ (47, i, t) j = σ 4 1 j := congrArg (σ 4 1) (Nat.zero_add j)
theorem sz_p47 {i t j : Nat} {v : Int32} : sl_wr σ (47, i, t) j v = sl_up σ 4 1 j v := congrArg (fun q => sl_up σ 4 1 q v) (Nat.zero_add j)
theorem sz_i48 {i t : Nat} : sl_ilen N (48, i, t) = 60 := rfl
theorem sz_w48 {i t : Nat} : sl_wlen (48, i, t) 0 = 60 := rfl
theorem sz_r48 {i t j : Nat} : sl_rd xs σ (48, i, t) j = σ 4 2 j := congrArg (σ 4 2) (Nat.zero_add j)
theorem sz_p48 {i t j : Nat} {v : Int32} : sl_wr σ (48, i, t) j v = sl_up σ 4 2 j v := congrArg (fun q => sl_up σ 4 2 q v) (Nat.zero_add j)
theorem sz_i49 {i t : Nat} : sl_ilen N (49, i, t) = 6 := rfl
theorem sz_w49 {i t : Nat} : sl_wlen (49, i, t) 0 = 6 := rfl
theorem sz_r49 {i t j : Nat} : sl_rd xs σ (49, i, t) j = σ 8 19 j := congrArg (σ 8 19) (Nat.zero_add j)
theorem sz_p49 {i t j : Nat} {v : Int32} : sl_wr σ (49, i, t) j v = sl_up σ 8 19 j v := congrArg (fun q => sl_up σ 8 19 q v) (Nat.zero_add j)
theorem sz_i50 {i t : Nat} : sl_ilen N (50, i, t) = 6 := rfl
theorem sz_w50 {i t : Nat} : sl_wlen (50, i, t) 0 = 6 := rfl
theorem sz_r50 {i t j : Nat} : sl_rd xs σ (50, i, t) j = σ 8 20 j := congrArg (σ 8 20) (Nat.zero_add j)
theorem sz_p50 {i t j : Nat} {v : Int32} : sl_wr σ (50, i, t) j v = sl_up σ 8 20 j v := congrArg (fun q => sl_up σ 8 20 q v) (Nat.zero_add j)
theorem sz_w51 {i t : Nat} : sl_wlen (51, i, t) 2 = 60 := rfl
theorem sz_r51 {i t j : Nat} : sl_rd xs σ (51, i, t) j = σ 6 5 j := congrArg (σ 6 5) (Nat.zero_add j)
theorem sz_p51 {i t j : Nat} {v : Int32} : sl_wr σ (51, i, t) j v = sl_up σ 6 5 j v := congrArg (fun q => sl_up σ 6 5 q v) (Nat.zero_add j)
theorem sz_i52 {i t : Nat} : sl_ilen N (52, i, t) = 6 := rfl
theorem sz_w52 {i t : Nat} : sl_wlen (52, i, t) 0 = 6 := rfl
theorem sz_r52 {i t j : Nat} : sl_rd xs σ (52, i, t) j = σ 6 6 j := congrArg (σ 6 6) (Nat.zero_add j)
theorem sz_p52 {i t j : Nat} {v : Int32} : sl_wr σ (52, i, t) j v = sl_up σ 6 6 j v := congrArg (fun q => sl_up σ 6 6 q v) (Nat.zero_add j)
theorem sz_i53 {i t : Nat} : sl_ilen N (53, i, t) = 6 := rfl
theorem sz_w53 {i t : Nat} : sl_wlen (53, i, t) 0 = 6 := rfl
theorem sz_r53 {i t j : Nat} : sl_rd xs σ (53, i, t) j = σ 6 7 j := congrArg (σ 6 7) (Nat.zero_add j)
theorem sz_p53 {i t j : Nat} {v : Int32} : sl_wr σ (53, i, t) j v = sl_up σ 6 7 j v := congrArg (fun q => sl_up σ 6 7 q v) (Nat.zero_add j)
theorem sz_i54 {i t : Nat} : sl_ilen N (54, i, t) = 6 := rfl
theorem sz_w54 {i t : Nat} : sl_wlen (54, i, t) 0 = 6 := rfl
theorem sz_r54 {i t j : Nat} : sl_rd xs σ (54, i, t) j = σ 4 5 j := congrArg (σ 4 5) (Nat.zero_add j)
theorem sz_p54 {i t j : Nat} {v : Int32} : sl_wr σ (54, i, t) j v = sl_up σ 4 5 j v := congrArg (fun q => sl_up σ 4 5 q v) (Nat.zero_add j)
theorem sz_i55 {i t : Nat} : sl_ilen N (55, i, t) = 6 := rfl
theorem sz_w55 {i t : Nat} : sl_wlen (55, i, t) 0 = 6 := rfl
theorem sz_r55 {i t j : Nat} : sl_rd xs σ (55, i, t) j = σ 4 6 j := congrArg (σ 4 6) (Nat.zero_add j)
theorem sz_p55 {i t j : Nat} {v : Int32} : sl_wr σ (55, i, t) j v = sl_up σ 4 6 j v := congrArg (fun q => sl_up σ 4 6 q v) (Nat.zero_add j)
theorem sz_i56 {i t : Nat} : sl_ilen N (56, i, t) = 6 := rfl
theorem sz_w56 {i t : Nat} : sl_wlen (56, i, t) 0 = 6 := rfl
theorem sz_r56 {i t j : Nat} : sl_rd xs σ (56, i, t) j = σ 4 7 j := congrArg (σ 4 7) (Nat.zero_add j)
theorem sz_p56 {i t j : Nat} {v : Int32} : sl_wr σ (56, i, t) j v = sl_up σ 4 7 j v := congrArg (fun q => sl_up σ 4 7 q v) (Nat.zero_add j)
theorem sz_i57 {i t : Nat} : sl_ilen N (57, i, t) = 120 := rfl
theorem sz_w57 {i t : Nat} : sl_wlen (57, i, t) 0 = 120 := rfl
theorem sz_r57 {i t j : Nat} : sl_rd xs σ (57, i, t) j = σ 8 1 j := congrArg (σ 8 1) (Nat.zero_add j)
theorem sz_p57 {i t j : Nat} {v : Int32} : sl_wr σ (57, i, t) j v = sl_up σ 8 1 j v := congrArg (fun q => sl_up σ 8 1 q v) (Nat.zero_add j)
theorem sz_i58 {i t : Nat} : sl_ilen N (58, i, t) = 6 := rfl
theorem sz_w58 {i t : Nat} : sl_wlen (58, i, t) 0 = 6 := rfl
theorem sz_r58 {i t j : Nat} : sl_rd xs σ (58, i, t) j = σ 6 8 j := congrArg (σ 6 8) (Nat.zero_add j)
theorem sz_p58 {i t j : Nat} {v : Int32} : sl_wr σ (58, i, t) j v = sl_up σ 6 8 j v := congrArg (fun q => sl_up σ 6 8 q v) (Nat.zero_add j)
theorem sz_i59 {i t : Nat} : sl_ilen N (59, i, t) = 84 := rfl
theorem sz_w59 {i t : Nat} : sl_wlen (59, i, t) 0 = 84 := rfl
theorem sz_r59 {i t j : Nat} : sl_rd xs σ (59, i, t) j = σ 6 9 j := congrArg (σ 6 9) (Nat.zero_add j)
theorem sz_p59 {i t j : Nat} {v : Int32} : sl_wr σ (59, i, t) j v = sl_up σ 6 9 j v := congrArg (fun q => sl_up σ 6 9 q v) (Nat.zero_add j)
theorem sz_i60 {i t : Nat} : sl_ilen N (60, i, t) = 84 := rfl
theorem sz_w60 {i t : Nat} : sl_wlen (60, i, t) 0 = 84 := rfl
theorem sz_r60 {i t j : Nat} : sl_rd xs σ (60, i, t) j = σ 6 10 j := congrArg (σ 6 10) (Nat.zero_add j)
theorem sz_p60 {i t j : Nat} {v : Int32} : sl_wr σ (60, i, t) j v = sl_up σ 6 10 j v := congrArg (fun q => sl_up σ 6 10 q v) (Nat.zero_add j)
theorem sz_i61 {i t : Nat} : sl_ilen N (61, i, t) = 340 := rfl
theorem sz_w61 {i t : Nat} : sl_wlen (61, i, t) 0 = 340 := rfl
theorem sz_r61 {i t j : Nat} : sl_rd xs σ (61, i, t) j = σ 8 15 j := congrArg (σ 8 15) (Nat.zero_add j)
theorem sz_p61 {i t j : Nat} {v : Int32} : sl_wr σ (61, i, t) j v = sl_up σ 8 15 j v := congrArg (fun q => sl_up σ 8 15 q v) (Nat.zero_add j)
theorem sz_w62 {i t : Nat} : sl_wlen (62, i, t) 2 = 12 := rfl
theorem sz_r62 {i t j : Nat} : sl_rd xs σ (62, i, t) j = σ 8 16 j := congrArg (σ 8 16) (Nat.zero_add j)
theorem sz_p62 {i t j : Nat} {v : Int32} : sl_wr σ (62, i, t) j v = sl_up σ 8 16 j v := congrArg (fun q => sl_up σ 8 16 q v) (Nat.zero_add j)
theorem sz_i63 {i t : Nat} : sl_ilen N (63, i, t) = 5 := rfl
theorem sz_w63 {i t : Nat} : sl_wlen (63, i, t) 0 = 5 := rfl
theorem sz_r63 {i t j : Nat} : sl_rd xs σ (63, i, t) j = σ 8 4 j := congrArg (σ 8 4) (Nat.zero_add j)
theorem sz_p63 {i t j : Nat} {v : Int32} : sl_wr σ (63, i, t) j v = sl_up σ 8 4 j v := congrArg (fun q => sl_up σ 8 4 q v) (Nat.zero_add j)
theorem sz_i64 {i t : Nat} : sl_ilen N (64, i, t) = 5 := rfl
theorem sz_w64 {i t : Nat} : sl_wlen (64, i, t) 0 = 5 := rfl
theorem sz_r64 {i t j : Nat} : sl_rd xs σ (64, i, t) j = σ 8 3 j := congrArg (σ 8 3) (Nat.zero_add j)
theorem sz_p64 {i t j : Nat} {v : Int32} : sl_wr σ (64, i, t) j v = sl_up σ 8 3 j v := congrArg (fun q => sl_up σ 8 3 q v) (Nat.zero_add j)
theorem sz_i65 {i t : Nat} : sl_ilen N (65, i, t) = 5 := rfl
theorem sz_w65 {i t : Nat} : sl_wlen (65, i, t) 0 = 5 := rfl
theorem sz_r65 {i t j : Nat} : sl_rd xs σ (65, i, t) j = σ 8 17 j := congrArg (σ 8 17) (Nat.zero_add j)
theorem sz_p65 {i t j : Nat} {v : Int32} : sl_wr σ (65, i, t) j v = sl_up σ 8 17 j v := congrArg (fun q => sl_up σ 8 17 q v) (Nat.zero_add j)
theorem sz_i66 {i t : Nat} : sl_ilen N (66, i, t) = 8 := rfl
theorem sz_w66 {i t : Nat} : sl_wlen (66, i, t) 0 = 8 := rfl
theorem sz_r66 {i t j : Nat} : sl_rd xs σ (66, i, t) j = σ 8 5 j := congrArg (σ 8 5) (Nat.zero_add j)
theorem sz_p66 {i t j : Nat} {v : Int32} : sl_wr σ (66, i, t) j v = sl_up σ 8 5 j v := congrArg (fun q => sl_up σ 8 5 q v) (Nat.zero_add j)
theorem sz_i67 {i t : Nat} : sl_ilen N (67, i, t) = 8 := rfl
theorem sz_w67 {i t : Nat} : sl_wlen (67, i, t) 0 = 8 := rfl
theorem sz_r67 {i t j : Nat} : sl_rd xs σ (67, i, t) j = σ 8 6 j := congrArg (σ 8 6) (Nat.zero_add j)
theorem sz_p67 {i t j : Nat} {v : Int32} : sl_wr σ (67, i, t) j v = sl_up σ 8 6 j v := congrArg (fun q => sl_up σ 8 6 q v) (Nat.zero_add j)
theorem sz_i68 {i t : Nat} : sl_ilen N (68, i, t) = 8 := rfl
theorem sz_w68 {i t : Nat} : sl_wlen (68, i, t) 0 = 8 := rfl
theorem sz_r68 {i t j : Nat} : sl_rd xs σ (68, i, t) j = σ 8 7 j := congrArg (σ 8 7) (Nat.zero_add j)
theorem sz_p68 {i t j : Nat} {v : Int32} : sl_wr σ (68, i, t) j v = sl_up σ 8 7 j v := congrArg (fun q => sl_up σ 8 7 q v) (Nat.zero_add j)
theorem sz_i69 {i t : Nat} : sl_ilen N (69, i, t) = 8 := rfl
theorem sz_w69 {i t : Nat} : sl_wlen (69, i, t) 0 = 8 := rfl
theorem sz_r69 {i t j : Nat} : sl_rd xs σ (69, i, t) j = σ 8 8 j := congrArg (σ 8 8) (Nat.zero_add j)
theorem sz_p69 {i t j : Nat} {v : Int32} : sl_wr σ (69, i, t) j v = sl_up σ 8 8 j v := congrArg (fun q => sl_up σ 8 8 q v) (Nat.zero_add j)
theorem sz_i70 {i t : Nat} : sl_ilen N (70, i, t) = 192 := rfl
theorem sz_w70 {i t : Nat} : sl_wlen (70, i, t) 0 = 192 := rfl
theorem sz_r70 {i t j : Nat} : sl_rd xs σ (70, i, t) j = σ 8 10 j := congrArg (σ 8 10) (Nat.zero_add j)
theorem sz_p70 {i t j : Nat} {v : Int32} : sl_wr σ (70, i, t) j v = sl_up σ 8 10 j v := congrArg (fun q => sl_up σ 8 10 q v) (Nat.zero_add j)
theorem sz_w71 {i t : Nat} : sl_wlen (71, i, t) 2 = 8 := rfl
theorem sz_r71 {i t j : Nat} : sl_rd xs σ (71, i, t) j = σ 8 9 j := congrArg (σ 8 9) (Nat.zero_add j)
theorem sz_p71 {i t j : Nat} {v : Int32} : sl_wr σ (71, i, t) j v = sl_up σ 8 9 j v := congrArg (fun q => sl_up σ 8 9 q v) (Nat.zero_add j)
theorem sz_i72 {i t : Nat} : sl_ilen N (72, i, t) = 4 := rfl
theorem sz_w72 {i t : Nat} : sl_wlen (72, i, t) 0 = 4 := rfl
theorem sz_r72 {i t j : Nat} : sl_rd xs σ (72, i, t) j = σ 8 11 j := congrArg (σ 8 11) (Nat.zero_add j)
theorem sz_p72 {i t j : Nat} {v : Int32} : sl_wr σ (72, i, t) j v = sl_up σ 8 11 j v := congrArg (fun q => sl_up σ 8 11 q v) (Nat.zero_add j)
theorem sz_i73 {i t : Nat} : sl_ilen N (73, i, t) = 4 := rfl
theorem sz_w73 {i t : Nat} : sl_wlen (73, i, t) 0 = 4 := rfl
theorem sz_r73 {i t j : Nat} : sl_rd xs σ (73, i, t) j = σ 8 12 j := congrArg (σ 8 12) (Nat.zero_add j)
theorem sz_p73 {i t j : Nat} {v : Int32} : sl_wr σ (73, i, t) j v = sl_up σ 8 12 j v := congrArg (fun q => sl_up σ 8 12 q v) (Nat.zero_add j)
theorem sz_i74 {i t : Nat} : sl_ilen N (74, i, t) = 160 := rfl
theorem sz_w74 {i t : Nat} : sl_wlen (74, i, t) 0 = 160 := rfl
theorem sz_r74 {i t j : Nat} : sl_rd xs σ (74, i, t) j = σ 8 13 j := congrArg (σ 8 13) (Nat.zero_add j)
theorem sz_p74 {i t j : Nat} {v : Int32} : sl_wr σ (74, i, t) j v = sl_up σ 8 13 j v := congrArg (fun q => sl_up σ 8 13 q v) (Nat.zero_add j)
theorem sz_i75 {i t : Nat} : sl_ilen N (75, i, t) = 40 := rfl
theorem sz_w75 {i t : Nat} : sl_wlen (75, i, t) 0 = 40 := rfl
theorem sz_r75 {i t j : Nat} : sl_rd xs σ (75, i, t) j = σ 8 14 j := congrArg (σ 8 14) (Nat.zero_add j)
theorem sz_p75 {i t j : Nat} {v : Int32} : sl_wr σ (75, i, t) j v = sl_up σ 8 14 j v := congrArg (fun q => sl_up σ 8 14 q v) (Nat.zero_add j)
theorem sz_q2 {i t : Nat} : sl_rlen (2, i, t) = 5 := rfl
theorem sz_g2 {i t j : Nat} : sl_rg (2, i, t) j = (4, i, j) := rfl
theorem sz_q3 {i t : Nat} : sl_rlen (3, i, t) = 5 := rfl
theorem sz_g3 {i t j : Nat} : sl_rg (3, i, t) j = (5, i, j) := rfl
theorem sz_q12 {i t : Nat} : sl_rlen (12, i, t) = 5 := rfl
theorem sz_g12 {i t j : Nat} : sl_rg (12, i, t) j = (13, 0, j) := rfl
theorem sz_q16 {i t : Nat} : sl_rlen (16, i, t) = 6 := rfl
theorem sz_g16 {i t j : Nat} : sl_rg (16, i, t) j = (17, 0, j) := rfl
theorem sz_q26 {i t : Nat} : sl_rlen (26, i, t) = 8 := rfl
theorem sz_g26 {i t j : Nat} : sl_rg (26, i, t) j = (27, 0, j) := rfl
theorem sz_q29 {i t : Nat} : sl_rlen (29, i, t) = 4 := rfl
theorem sz_g29 {i t j : Nat} : sl_rg (29, i, t) j = (30, 0, j) := rfl
theorem sz_i90 {i t : Nat} : sl_ilen N (90, i, t) = 6 := rfl
theorem sz_r90 {i t j : Nat} : sl_rd xs σ (90, i, t) j = ([(-1), 0, 0, 1, 2, 1] : List Int32).getD j 0 := rfl
theorem sz_i91 {i t : Nat} : sl_ilen N (91, i, t) = 6 := rfl
theorem sz_r91 {i t j : Nat} : sl_rd xs σ (91, i, t) j = ([10, 15, 50, 35, 90, 15] : List Int32).getD j 0 := rfl
theorem sz_i92 {i t : Nat} : sl_ilen N (92, i, t) = 6 := rfl
theorem sz_r92 {i t j : Nat} : sl_rd xs σ (92, i, t) j = ([100, 25, 100, 50, 100, 25] : List Int32).getD j 0 := rfl
theorem sz_i93 {i t : Nat} : sl_ilen N (93, i, t) = 6 := rfl
theorem sz_r93 {i t j : Nat} : sl_rd xs σ (93, i, t) j = ([1, 1, 1, 1, 1, 2] : List Int32).getD j 0 := rfl
theorem sz_i94 {i t : Nat} : sl_ilen N (94, i, t) = 6 := rfl
theorem sz_r94 {i t j : Nat} : sl_rd xs σ (94, i, t) j = ([1, 1, 2, 1, 2, 1] : List Int32).getD j 0 := rfl
theorem sz_i95 {i t : Nat} : sl_ilen N (95, i, t) = 6 := rfl
theorem sz_r95 {i t j : Nat} : sl_rd xs σ (95, i, t) j = ([1, 1, 1, 1, 0, 0] : List Int32).getD j 0 := rfl
theorem sz_i99 {i t : Nat} : sl_ilen N (99, i, t) = N := rfl
theorem sz_r99 {i t j : Nat} : sl_rd xs σ (99, i, t) j = xs j := rfl
theorem sz_c0 : sl_cw [] = 0 := rfl
theorem sz_c1 {x : Int32} : sl_cw (.inl x :: st) = 1 + sl_cw st := rfl
theorem sz_c2 {x : Int64} : sl_cw (.inr (.inl x) :: st) = 2 + sl_cw st := rfl
theorem sz_c3 {x : sl_R} : sl_cw (.inr (.inr x) :: st) = 1 + sl_cw st := rfl
end SLI
