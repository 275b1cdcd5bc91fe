/-! THE WORLD behind the constructors: the table of cells, and what is read off it -/
def WX : List (Nat × Nat × List Nat) := [(10, 16, [17, 19, 27, 35, 38, 41, 43, 45, 50, 51, 54, 57, 61, 70, 0, 0]), (8, 7, [18, 0, 0, 0, 0, 0, 0]), (101, 600, []), (9, 10, [20, 21, 22, 23, 24, 25, 26, 0, 0, 0]), (100, 6, []), (100, 6, []), (100, 6, []), (100, 12, []), (100, 12, []), (100, 12, []), (100, 12, []), (9, 10, [28, 29, 30, 31, 32, 33, 34, 0, 0, 0]), (100, 6, []), (100, 6, []), (100, 6, []), (100, 12, []), (100, 12, []), (100, 12, []), (100, 12, []), (1, 3, [36, 37, 0]), (100, 150, []), (100, 150, []), (1, 3, [39, 40, 0]), (100, 150, []), (100, 150, []), (0, 3, [42, 0, 0]), (100, 6, []), (0, 3, [44, 0, 0]), (100, 6, []), (6, 8, [46, 47, 48, 49, 0, 0, 0, 0]), (100, 38, []), (100, 38, []), (100, 38, []), (100, 38, []), (100, 9, []), (2, 4, [19, 35, 52, 53]), (100, 45, []), (100, 9, []), (2, 4, [19, 35, 55, 56]), (100, 45, []), (100, 9, []), (3, 7, [51, 58, 59, 60, 0, 0, 0]), (100, 720, []), (100, 2295, []), (100, 3, []), (5, 12, [19, 51, 41, 62, 63, 66, 69, 0, 0, 0, 0, 0]), (100, 12, []), (7, 2, [64, 65]), (100, 64, []), (100, 64, []), (7, 2, [67, 68]), (100, 64, []), (100, 64, []), (100, 1189, []), (4, 4, [19, 54, 0, 0]), (11, 43, [0, 0, 0, 0, 0, 0, 0, 0, 0, 72, 73, 74, 75, 76, 77, 84, 91, 104, 0, 0, 117, 278, 439, 446, 453, 454, 455, 0, 536, 537, 538, 539, 556, 0, 0, 0, 0, 0, 0, 0, 560, 561, 0]), (100, 600, []), (100, 2, []), (100, 3, []), (100, 3, []), (100, 6, []), (103, 6, (List.range 6).map (fun i => 78 + i))] ++ List.replicate 6 (100, 2, []) ++ [(103, 6, (List.range 6).map (fun i => 85 + i))] ++ List.replicate 6 (100, 2, []) ++ [(103, 12, (List.range 12).map (fun i => 92 + i))] ++ List.replicate 12 (100, 4, []) ++ [(103, 12, (List.range 12).map (fun i => 105 + i))] ++ List.replicate 12 (100, 4, []) ++ [(103, 160, (List.range 160).map (fun i => 118 + i))] ++ List.replicate 160 (100, 2, []) ++ [(103, 160, (List.range 160).map (fun i => 279 + i))] ++ List.replicate 160 (100, 2, []) ++ [(103, 6, (List.range 6).map (fun i => 440 + i))] ++ List.replicate 6 (100, 2, []) ++ [(103, 6, (List.range 6).map (fun i => 447 + i))] ++ List.replicate 6 (100, 2, []) ++ [(100, 160, []), (100, 9, []), (103, 80, (List.range 80).map (fun i => 456 + i))] ++ List.replicate 80 (100, 5, []) ++ [(100, 44, []), (100, 44, []), (100, 12, []), (103, 16, (List.range 16).map (fun i => 540 + i))] ++ List.replicate 16 (100, 44, []) ++ [(103, 3, (List.range 3).map (fun i => 557 + i)), (100, 749, []), (100, 749, []), (100, 749, []), (100, 1189, []), (102, 14, []), (102, 1, [])]
def W0 (n : Nat) : List (Nat × Nat × List Nat) := w16 n ++ WX
set_option maxRecDepth 8000 in
theorem t_16 {n : Nat} : tagW (W0 n) 16 = 10 := rfl
set_option maxRecDepth 8000 in
theorem f_16_0 {n : Nat} : rv (refW (W0 n) 16 0) = .ref 17 := rfl
set_option maxRecDepth 8000 in
theorem f_16_1 {n : Nat} : rv (refW (W0 n) 16 1) = .ref 19 := rfl
set_option maxRecDepth 8000 in
theorem f_16_2 {n : Nat} : rv (refW (W0 n) 16 2) = .ref 27 := rfl
set_option maxRecDepth 8000 in
theorem f_16_3 {n : Nat} : rv (refW (W0 n) 16 3) = .ref 35 := rfl
set_option maxRecDepth 8000 in
theorem f_16_4 {n : Nat} : rv (refW (W0 n) 16 4) = .ref 38 := rfl
set_option maxRecDepth 8000 in
theorem f_16_5 {n : Nat} : rv (refW (W0 n) 16 5) = .ref 41 := rfl
set_option maxRecDepth 8000 in
theorem f_16_6 {n : Nat} : rv (refW (W0 n) 16 6) = .ref 43 := rfl
set_option maxRecDepth 8000 in
theorem f_16_7 {n : Nat} : rv (refW (W0 n) 16 7) = .ref 45 := rfl
set_option maxRecDepth 8000 in
theorem f_16_8 {n : Nat} : rv (refW (W0 n) 16 8) = .ref 50 := rfl
set_option maxRecDepth 8000 in
theorem f_16_9 {n : Nat} : rv (refW (W0 n) 16 9) = .ref 51 := rfl
set_option maxRecDepth 8000 in
theorem f_16_10 {n : Nat} : rv (refW (W0 n) 16 10) = .ref 54 := rfl
set_option maxRecDepth 8000 in
theorem f_16_11 {n : Nat} : rv (refW (W0 n) 16 11) = .ref 57 := rfl
set_option maxRecDepth 8000 in
theorem f_16_12 {n : Nat} : rv (refW (W0 n) 16 12) = .ref 61 := rfl
set_option maxRecDepth 8000 in
theorem f_16_13 {n : Nat} : rv (refW (W0 n) 16 13) = .ref 70 := rfl
set_option maxRecDepth 8000 in
theorem t_17 {n : Nat} : tagW (W0 n) 17 = 8 := rfl
set_option maxRecDepth 8000 in
theorem f_17_0 {n : Nat} : rv (refW (W0 n) 17 0) = .ref 18 := rfl
set_option maxRecDepth 8000 in
theorem t_18 {n : Nat} : tagW (W0 n) 18 = 101 := rfl
set_option maxRecDepth 8000 in
theorem l_18 {n : Nat} : lenW (W0 n) 18 = 600 := rfl
set_option maxRecDepth 8000 in
theorem t_19 {n : Nat} : tagW (W0 n) 19 = 9 := rfl
set_option maxRecDepth 8000 in
theorem f_19_0 {n : Nat} : rv (refW (W0 n) 19 0) = .ref 20 := rfl
set_option maxRecDepth 8000 in
theorem f_19_1 {n : Nat} : rv (refW (W0 n) 19 1) = .ref 21 := rfl
set_option maxRecDepth 8000 in
theorem f_19_2 {n : Nat} : rv (refW (W0 n) 19 2) = .ref 22 := rfl
set_option maxRecDepth 8000 in
theorem f_19_3 {n : Nat} : rv (refW (W0 n) 19 3) = .ref 23 := rfl
set_option maxRecDepth 8000 in
theorem f_19_4 {n : Nat} : rv (refW (W0 n) 19 4) = .ref 24 := rfl
set_option maxRecDepth 8000 in
theorem f_19_5 {n : Nat} : rv (refW (W0 n) 19 5) = .ref 25 := rfl
set_option maxRecDepth 8000 in
theorem f_19_6 {n : Nat} : rv (refW (W0 n) 19 6) = .ref 26 := rfl
set_option maxRecDepth 8000 in
theorem t_20 {n : Nat} : tagW (W0 n) 20 = 100 := rfl
set_option maxRecDepth 8000 in
theorem l_20 {n : Nat} : lenW (W0 n) 20 = 6 := rfl
set_option maxRecDepth 8000 in
theorem t_21 {n : Nat} : tagW (W0 n) 21 = 100 := rfl
set_option maxRecDepth 8000 in
theorem l_21 {n : Nat} : lenW (W0 n) 21 = 6 := rfl
set_option maxRecDepth 8000 in
theorem t_22 {n : Nat} : tagW (W0 n) 22 = 100 := rfl
set_option maxRecDepth 8000 in
theorem l_22 {n : Nat} : lenW (W0 n) 22 = 6 := rfl
set_option maxRecDepth 8000 in
theorem t_23 {n : Nat} : tagW (W0 n) 23 = 100 := rfl
set_option maxRecDepth 8000 in
theorem l_23 {n : Nat} : lenW (W0 n) 23 = 12 := rfl
set_option maxRecDepth 8000 in
theorem t_24 {n : Nat} : tagW (W0 n) 24 = 100 := rfl
set_option maxRecDepth 8000 in
theorem l_24 {n : Nat} : lenW (W0 n) 24 = 12 := rfl
set_option maxRecDepth 8000 in
theorem t_25 {n : Nat} : tagW (W0 n) 25 = 100 := rfl
set_option maxRecDepth 8000 in
theorem l_25 {n : Nat} : lenW (W0 n) 25 = 12 := rfl
set_option maxRecDepth 8000 in
theorem t_26 {n : Nat} : tagW (W0 n) 26 = 100 := rfl
set_option maxRecDepth 8000 in
theorem l_26 {n : Nat} : lenW (W0 n) 26 = 12 := rfl
set_option maxRecDepth 8000 in
theorem t_27 {n : Nat} : tagW (W0 n) 27 = 9 := rfl
set_option maxRecDepth 8000 in
theorem f_27_0 {n : Nat} : rv (refW (W0 n) 27 0) = .ref 28 := rfl
set_option maxRecDepth 8000 in
theorem f_27_1 {n : Nat} : rv (refW (W0 n) 27 1) = .ref 29 := rfl
set_option maxRecDepth 8000 in
theorem f_27_2 {n : Nat} : rv (refW (W0 n) 27 2) = .ref 30 := rfl
set_option maxRecDepth 8000 in
theorem f_27_3 {n : Nat} : rv (refW (W0 n) 27 3) = .ref 31 := rfl
set_option maxRecDepth 8000 in
theorem f_27_4 {n : Nat} : rv (refW (W0 n) 27 4) = .ref 32 := rfl
set_option maxRecDepth 8000 in
theorem f_27_5 {n : Nat} : rv (refW (W0 n) 27 5) = .ref 33 := rfl
set_option maxRecDepth 8000 in
theorem f_27_6 {n : Nat} : rv (refW (W0 n) 27 6) = .ref 34 := rfl
set_option maxRecDepth 8000 in
theorem t_28 {n : Nat} : tagW (W0 n) 28 = 100 := rfl
set_option maxRecDepth 8000 in
theorem l_28 {n : Nat} : lenW (W0 n) 28 = 6 := rfl
set_option maxRecDepth 8000 in
theorem t_29 {n : Nat} : tagW (W0 n) 29 = 100 := rfl
set_option maxRecDepth 8000 in
theorem l_29 {n : Nat} : lenW (W0 n) 29 = 6 := rfl
set_option maxRecDepth 8000 in
theorem t_30 {n : Nat} : tagW (W0 n) 30 = 100 := rfl
set_option maxRecDepth 8000 in
theorem l_30 {n : Nat} : lenW (W0 n) 30 = 6 := rfl
set_option maxRecDepth 8000 in
theorem t_31 {n : Nat} : tagW (W0 n) 31 = 100 := rfl
set_option maxRecDepth 8000 in
theorem l_31 {n : Nat} : lenW (W0 n) 31 = 12 := rfl
set_option maxRecDepth 8000 in
theorem t_32 {n : Nat} : tagW (W0 n) 32 = 100 := rfl
set_option maxRecDepth 8000 in
theorem l_32 {n : Nat} : lenW (W0 n) 32 = 12 := rfl
set_option maxRecDepth 8000 in
theorem t_33 {n : Nat} : tagW (W0 n) 33 = 100 := rfl
set_option maxRecDepth 8000 in
theorem l_33 {n : Nat} : lenW (W0 n) 33 = 12 := rfl
set_option maxRecDepth 8000 in
theorem t_34 {n : Nat} : tagW (W0 n) 34 = 100 := rfl
set_option maxRecDepth 8000 in
theorem l_34 {n : Nat} : lenW (W0 n) 34 = 12 := rfl
set_option maxRecDepth 8000 in
theorem t_35 {n : Nat} : tagW (W0 n) 35 = 1 := rfl
set_option maxRecDepth 8000 in
theorem f_35_0 {n : Nat} : rv (refW (W0 n) 35 0) = .ref 36 := rfl
set_option maxRecDepth 8000 in
theorem f_35_1 {n : Nat} : rv (refW (W0 n) 35 1) = .ref 37 := rfl
set_option maxRecDepth 8000 in
theorem t_36 {n : Nat} : tagW (W0 n) 36 = 100 := rfl
set_option maxRecDepth 8000 in
theorem l_36 {n : Nat} : lenW (W0 n) 36 = 150 := rfl
set_option maxRecDepth 8000 in
theorem t_37 {n : Nat} : tagW (W0 n) 37 = 100 := rfl
set_option maxRecDepth 8000 in
theorem l_37 {n : Nat} : lenW (W0 n) 37 = 150 := rfl
set_option maxRecDepth 8000 in
theorem t_38 {n : Nat} : tagW (W0 n) 38 = 1 := rfl
set_option maxRecDepth 8000 in
theorem f_38_0 {n : Nat} : rv (refW (W0 n) 38 0) = .ref 39 := rfl
set_option maxRecDepth 8000 in
theorem f_38_1 {n : Nat} : rv (refW (W0 n) 38 1) = .ref 40 := rfl
set_option maxRecDepth 8000 in
theorem t_39 {n : Nat} : tagW (W0 n) 39 = 100 := rfl
set_option maxRecDepth 8000 in
theorem l_39 {n : Nat} : lenW (W0 n) 39 = 150 := rfl
set_option maxRecDepth 8000 in
theorem t_40 {n : Nat} : tagW (W0 n) 40 = 100 := rfl
set_option maxRecDepth 8000 in
theorem l_40 {n : Nat} : lenW (W0 n) 40 = 150 := rfl
set_option maxRecDepth 8000 in
theorem t_41 {n : Nat} : tagW (W0 n) 41 = 0 := rfl
set_option maxRecDepth 8000 in
theorem f_41_0 {n : Nat} : rv (refW (W0 n) 41 0) = .ref 42 := rfl
set_option maxRecDepth 8000 in
theorem t_42 {n : Nat} : tagW (W0 n) 42 = 100 := rfl
set_option maxRecDepth 8000 in
theorem l_42 {n : Nat} : lenW (W0 n) 42 = 6 := rfl
set_option maxRecDepth 8000 in
theorem t_43 {n : Nat} : tagW (W0 n) 43 = 0 := rfl
set_option maxRecDepth 8000 in
theorem f_43_0 {n : Nat} : rv (refW (W0 n) 43 0) = .ref 44 := rfl
set_option maxRecDepth 8000 in
theorem t_44 {n : Nat} : tagW (W0 n) 44 = 100 := rfl
set_option maxRecDepth 8000 in
theorem l_44 {n : Nat} : lenW (W0 n) 44 = 6 := rfl
set_option maxRecDepth 8000 in
theorem t_45 {n : Nat} : tagW (W0 n) 45 = 6 := rfl
set_option maxRecDepth 8000 in
theorem f_45_0 {n : Nat} : rv (refW (W0 n) 45 0) = .ref 46 := rfl
set_option maxRecDepth 8000 in
theorem f_45_1 {n : Nat} : rv (refW (W0 n) 45 1) = .ref 47 := rfl
set_option maxRecDepth 8000 in
theorem f_45_2 {n : Nat} : rv (refW (W0 n) 45 2) = .ref 48 := rfl
set_option maxRecDepth 8000 in
theorem f_45_3 {n : Nat} : rv (refW (W0 n) 45 3) = .ref 49 := rfl
set_option maxRecDepth 8000 in
theorem t_46 {n : Nat} : tagW (W0 n) 46 = 100 := rfl
set_option maxRecDepth 8000 in
theorem l_46 {n : Nat} : lenW (W0 n) 46 = 38 := rfl
set_option maxRecDepth 8000 in
theorem t_47 {n : Nat} : tagW (W0 n) 47 = 100 := rfl
set_option maxRecDepth 8000 in
theorem l_47 {n : Nat} : lenW (W0 n) 47 = 38 := rfl
set_option maxRecDepth 8000 in
theorem t_48 {n : Nat} : tagW (W0 n) 48 = 100 := rfl
set_option maxRecDepth 8000 in
theorem l_48 {n : Nat} : lenW (W0 n) 48 = 38 := rfl
set_option maxRecDepth 8000 in
theorem t_49 {n : Nat} : tagW (W0 n) 49 = 100 := rfl
set_option maxRecDepth 8000 in
theorem l_49 {n : Nat} : lenW (W0 n) 49 = 38 := rfl
set_option maxRecDepth 8000 in
theorem t_50 {n : Nat} : tagW (W0 n) 50 = 100 := rfl
set_option maxRecDepth 8000 in
theorem l_50 {n : Nat} : lenW (W0 n) 50 = 9 := rfl
set_option maxRecDepth 8000 in
theorem t_51 {n : Nat} : tagW (W0 n) 51 = 2 := rfl
set_option maxRecDepth 8000 in
theorem f_51_0 {n : Nat} : rv (refW (W0 n) 51 0) = .ref 19 := rfl
set_option maxRecDepth 8000 in
theorem f_51_1 {n : Nat} : rv (refW (W0 n) 51 1) = .ref 35 := rfl
set_option maxRecDepth 8000 in
theorem f_51_2 {n : Nat} : rv (refW (W0 n) 51 2) = .ref 52 := rfl
set_option maxRecDepth 8000 in
theorem f_51_3 {n : Nat} : rv (refW (W0 n) 51 3) = .ref 53 := rfl
set_option maxRecDepth 8000 in
theorem t_52 {n : Nat} : tagW (W0 n) 52 = 100 := rfl
set_option maxRecDepth 8000 in
theorem l_52 {n : Nat} : lenW (W0 n) 52 = 45 := rfl
set_option maxRecDepth 8000 in
theorem t_53 {n : Nat} : tagW (W0 n) 53 = 100 := rfl
set_option maxRecDepth 8000 in
theorem l_53 {n : Nat} : lenW (W0 n) 53 = 9 := rfl
set_option maxRecDepth 8000 in
theorem t_54 {n : Nat} : tagW (W0 n) 54 = 2 := rfl
set_option maxRecDepth 8000 in
theorem f_54_0 {n : Nat} : rv (refW (W0 n) 54 0) = .ref 19 := rfl
set_option maxRecDepth 8000 in
theorem f_54_1 {n : Nat} : rv (refW (W0 n) 54 1) = .ref 35 := rfl
set_option maxRecDepth 8000 in
theorem f_54_2 {n : Nat} : rv (refW (W0 n) 54 2) = .ref 55 := rfl
set_option maxRecDepth 8000 in
theorem f_54_3 {n : Nat} : rv (refW (W0 n) 54 3) = .ref 56 := rfl
set_option maxRecDepth 8000 in
theorem t_55 {n : Nat} : tagW (W0 n) 55 = 100 := rfl
set_option maxRecDepth 8000 in
theorem l_55 {n : Nat} : lenW (W0 n) 55 = 45 := rfl
set_option maxRecDepth 8000 in
theorem t_56 {n : Nat} : tagW (W0 n) 56 = 100 := rfl
set_option maxRecDepth 8000 in
theorem l_56 {n : Nat} : lenW (W0 n) 56 = 9 := rfl
set_option maxRecDepth 8000 in
theorem t_57 {n : Nat} : tagW (W0 n) 57 = 3 := rfl
set_option maxRecDepth 8000 in
theorem f_57_0 {n : Nat} : rv (refW (W0 n) 57 0) = .ref 51 := rfl
set_option maxRecDepth 8000 in
theorem f_57_1 {n : Nat} : rv (refW (W0 n) 57 1) = .ref 58 := rfl
set_option maxRecDepth 8000 in
theorem f_57_2 {n : Nat} : rv (refW (W0 n) 57 2) = .ref 59 := rfl
set_option maxRecDepth 8000 in
theorem f_57_3 {n : Nat} : rv (refW (W0 n) 57 3) = .ref 60 := rfl
set_option maxRecDepth 8000 in
theorem t_58 {n : Nat} : tagW (W0 n) 58 = 100 := rfl
set_option maxRecDepth 8000 in
theorem l_58 {n : Nat} : lenW (W0 n) 58 = 720 := rfl
set_option maxRecDepth 8000 in
theorem t_59 {n : Nat} : tagW (W0 n) 59 = 100 := rfl
set_option maxRecDepth 8000 in
theorem l_59 {n : Nat} : lenW (W0 n) 59 = 2295 := rfl
set_option maxRecDepth 8000 in
theorem t_60 {n : Nat} : tagW (W0 n) 60 = 100 := rfl
set_option maxRecDepth 8000 in
theorem l_60 {n : Nat} : lenW (W0 n) 60 = 3 := rfl
set_option maxRecDepth 8000 in
theorem t_61 {n : Nat} : tagW (W0 n) 61 = 5 := rfl
set_option maxRecDepth 8000 in
theorem f_61_0 {n : Nat} : rv (refW (W0 n) 61 0) = .ref 19 := rfl
set_option maxRecDepth 8000 in
theorem f_61_1 {n : Nat} : rv (refW (W0 n) 61 1) = .ref 51 := rfl
set_option maxRecDepth 8000 in
theorem f_61_2 {n : Nat} : rv (refW (W0 n) 61 2) = .ref 41 := rfl
set_option maxRecDepth 8000 in
theorem f_61_3 {n : Nat} : rv (refW (W0 n) 61 3) = .ref 62 := rfl
set_option maxRecDepth 8000 in
theorem f_61_4 {n : Nat} : rv (refW (W0 n) 61 4) = .ref 63 := rfl
set_option maxRecDepth 8000 in
theorem f_61_5 {n : Nat} : rv (refW (W0 n) 61 5) = .ref 66 := rfl
set_option maxRecDepth 8000 in
theorem f_61_6 {n : Nat} : rv (refW (W0 n) 61 6) = .ref 69 := rfl
set_option maxRecDepth 8000 in
theorem t_62 {n : Nat} : tagW (W0 n) 62 = 100 := rfl
set_option maxRecDepth 8000 in
theorem l_62 {n : Nat} : lenW (W0 n) 62 = 12 := rfl
set_option maxRecDepth 8000 in
theorem t_63 {n : Nat} : tagW (W0 n) 63 = 7 := rfl
set_option maxRecDepth 8000 in
theorem f_63_0 {n : Nat} : rv (refW (W0 n) 63 0) = .ref 64 := rfl
set_option maxRecDepth 8000 in
theorem f_63_1 {n : Nat} : rv (refW (W0 n) 63 1) = .ref 65 := rfl
set_option maxRecDepth 8000 in
theorem t_64 {n : Nat} : tagW (W0 n) 64 = 100 := rfl
set_option maxRecDepth 8000 in
theorem l_64 {n : Nat} : lenW (W0 n) 64 = 64 := rfl
set_option maxRecDepth 8000 in
theorem t_65 {n : Nat} : tagW (W0 n) 65 = 100 := rfl
set_option maxRecDepth 8000 in
theorem l_65 {n : Nat} : lenW (W0 n) 65 = 64 := rfl
set_option maxRecDepth 8000 in
theorem t_66 {n : Nat} : tagW (W0 n) 66 = 7 := rfl
set_option maxRecDepth 8000 in
theorem f_66_0 {n : Nat} : rv (refW (W0 n) 66 0) = .ref 67 := rfl
set_option maxRecDepth 8000 in
theorem f_66_1 {n : Nat} : rv (refW (W0 n) 66 1) = .ref 68 := rfl
set_option maxRecDepth 8000 in
theorem t_67 {n : Nat} : tagW (W0 n) 67 = 100 := rfl
set_option maxRecDepth 8000 in
theorem l_67 {n : Nat} : lenW (W0 n) 67 = 64 := rfl
set_option maxRecDepth 8000 in
theorem t_68 {n : Nat} : tagW (W0 n) 68 = 100 := rfl
set_option maxRecDepth 8000 in
theorem l_68 {n : Nat} : lenW (W0 n) 68 = 64 := rfl
set_option maxRecDepth 8000 in
theorem t_69 {n : Nat} : tagW (W0 n) 69 = 100 := rfl
set_option maxRecDepth 8000 in
theorem l_69 {n : Nat} : lenW (W0 n) 69 = 1189 := rfl
set_option maxRecDepth 8000 in
theorem t_70 {n : Nat} : tagW (W0 n) 70 = 4 := rfl
set_option maxRecDepth 8000 in
theorem f_70_0 {n : Nat} : rv (refW (W0 n) 70 0) = .ref 19 := rfl
set_option maxRecDepth 8000 in
theorem f_70_1 {n : Nat} : rv (refW (W0 n) 70 1) = .ref 54 := rfl
set_option maxRecDepth 8000 in
theorem t_71 {n : Nat} : tagW (W0 n) 71 = 11 := rfl
set_option maxRecDepth 8000 in
theorem f_71_9 {n : Nat} : rv (refW (W0 n) 71 9) = .ref 72 := rfl
set_option maxRecDepth 8000 in
theorem f_71_10 {n : Nat} : rv (refW (W0 n) 71 10) = .ref 73 := rfl
set_option maxRecDepth 8000 in
theorem f_71_11 {n : Nat} : rv (refW (W0 n) 71 11) = .ref 74 := rfl
set_option maxRecDepth 8000 in
theorem f_71_12 {n : Nat} : rv (refW (W0 n) 71 12) = .ref 75 := rfl
set_option maxRecDepth 8000 in
theorem f_71_13 {n : Nat} : rv (refW (W0 n) 71 13) = .ref 76 := rfl
set_option maxRecDepth 8000 in
theorem f_71_14 {n : Nat} : rv (refW (W0 n) 71 14) = .ref 77 := rfl
set_option maxRecDepth 8000 in
theorem f_71_15 {n : Nat} : rv (refW (W0 n) 71 15) = .ref 84 := rfl
set_option maxRecDepth 8000 in
theorem f_71_16 {n : Nat} : rv (refW (W0 n) 71 16) = .ref 91 := rfl
set_option maxRecDepth 8000 in
theorem f_71_17 {n : Nat} : rv (refW (W0 n) 71 17) = .ref 104 := rfl
set_option maxRecDepth 8000 in
theorem f_71_20 {n : Nat} : rv (refW (W0 n) 71 20) = .ref 117 := rfl
set_option maxRecDepth 8000 in
theorem f_71_21 {n : Nat} : rv (refW (W0 n) 71 21) = .ref 278 := rfl
set_option maxRecDepth 8000 in
theorem f_71_22 {n : Nat} : rv (refW (W0 n) 71 22) = .ref 439 := rfl
set_option maxRecDepth 8000 in
theorem f_71_23 {n : Nat} : rv (refW (W0 n) 71 23) = .ref 446 := rfl
set_option maxRecDepth 8000 in
theorem f_71_24 {n : Nat} : rv (refW (W0 n) 71 24) = .ref 453 := rfl
set_option maxRecDepth 8000 in
theorem f_71_25 {n : Nat} : rv (refW (W0 n) 71 25) = .ref 454 := rfl
set_option maxRecDepth 8000 in
theorem f_71_26 {n : Nat} : rv (refW (W0 n) 71 26) = .ref 455 := rfl
set_option maxRecDepth 8000 in
theorem f_71_28 {n : Nat} : rv (refW (W0 n) 71 28) = .ref 536 := rfl
set_option maxRecDepth 8000 in
theorem f_71_29 {n : Nat} : rv (refW (W0 n) 71 29) = .ref 537 := rfl
set_option maxRecDepth 8000 in
theorem f_71_30 {n : Nat} : rv (refW (W0 n) 71 30) = .ref 538 := rfl
set_option maxRecDepth 8000 in
theorem f_71_31 {n : Nat} : rv (refW (W0 n) 71 31) = .ref 539 := rfl
set_option maxRecDepth 8000 in
theorem f_71_32 {n : Nat} : rv (refW (W0 n) 71 32) = .ref 556 := rfl
set_option maxRecDepth 8000 in
theorem f_71_40 {n : Nat} : rv (refW (W0 n) 71 40) = .ref 560 := rfl
set_option maxRecDepth 8000 in
theorem f_71_41 {n : Nat} : rv (refW (W0 n) 71 41) = .ref 561 := rfl
set_option maxRecDepth 8000 in
theorem t_72 {n : Nat} : tagW (W0 n) 72 = 100 := rfl
set_option maxRecDepth 8000 in
theorem l_72 {n : Nat} : lenW (W0 n) 72 = 600 := rfl
set_option maxRecDepth 8000 in
theorem t_73 {n : Nat} : tagW (W0 n) 73 = 100 := rfl
set_option maxRecDepth 8000 in
theorem l_73 {n : Nat} : lenW (W0 n) 73 = 2 := rfl
set_option maxRecDepth 8000 in
theorem t_74 {n : Nat} : tagW (W0 n) 74 = 100 := rfl
set_option maxRecDepth 8000 in
theorem l_74 {n : Nat} : lenW (W0 n) 74 = 3 := rfl
set_option maxRecDepth 8000 in
theorem t_75 {n : Nat} : tagW (W0 n) 75 = 100 := rfl
set_option maxRecDepth 8000 in
theorem l_75 {n : Nat} : lenW (W0 n) 75 = 3 := rfl
set_option maxRecDepth 8000 in
theorem t_76 {n : Nat} : tagW (W0 n) 76 = 100 := rfl
set_option maxRecDepth 8000 in
theorem l_76 {n : Nat} : lenW (W0 n) 76 = 6 := rfl
set_option maxRecDepth 8000 in
theorem t_77 {n : Nat} : tagW (W0 n) 77 = 103 := rfl
set_option maxRecDepth 8000 in
theorem l_77 {n : Nat} : lenW (W0 n) 77 = 6 := rfl
set_option maxRecDepth 8000 in
theorem t_84 {n : Nat} : tagW (W0 n) 84 = 103 := rfl
set_option maxRecDepth 8000 in
theorem l_84 {n : Nat} : lenW (W0 n) 84 = 6 := rfl
set_option maxRecDepth 8000 in
theorem t_91 {n : Nat} : tagW (W0 n) 91 = 103 := rfl
set_option maxRecDepth 8000 in
theorem l_91 {n : Nat} : lenW (W0 n) 91 = 12 := rfl
set_option maxRecDepth 8000 in
theorem t_104 {n : Nat} : tagW (W0 n) 104 = 103 := rfl
set_option maxRecDepth 8000 in
theorem l_104 {n : Nat} : lenW (W0 n) 104 = 12 := rfl
set_option maxRecDepth 8000 in
theorem t_117 {n : Nat} : tagW (W0 n) 117 = 103 := rfl
set_option maxRecDepth 8000 in
theorem l_117 {n : Nat} : lenW (W0 n) 117 = 160 := rfl
set_option maxRecDepth 8000 in
theorem t_278 {n : Nat} : tagW (W0 n) 278 = 103 := rfl
set_option maxRecDepth 8000 in
theorem l_278 {n : Nat} : lenW (W0 n) 278 = 160 := rfl
set_option maxRecDepth 8000 in
theorem t_439 {n : Nat} : tagW (W0 n) 439 = 103 := rfl
set_option maxRecDepth 8000 in
theorem l_439 {n : Nat} : lenW (W0 n) 439 = 6 := rfl
set_option maxRecDepth 8000 in
theorem t_446 {n : Nat} : tagW (W0 n) 446 = 103 := rfl
set_option maxRecDepth 8000 in
theorem l_446 {n : Nat} : lenW (W0 n) 446 = 6 := rfl
set_option maxRecDepth 8000 in
theorem t_453 {n : Nat} : tagW (W0 n) 453 = 100 := rfl
set_option maxRecDepth 8000 in
theorem l_453 {n : Nat} : lenW (W0 n) 453 = 160 := rfl
set_option maxRecDepth 8000 in
theorem t_454 {n : Nat} : tagW (W0 n) 454 = 100 := rfl
set_option maxRecDepth 8000 in
theorem l_454 {n : Nat} : lenW (W0 n) 454 = 9 := rfl
set_option maxRecDepth 8000 in
theorem t_455 {n : Nat} : tagW (W0 n) 455 = 103 := rfl
set_option maxRecDepth 8000 in
theorem l_455 {n : Nat} : lenW (W0 n) 455 = 80 := rfl
set_option maxRecDepth 8000 in
theorem t_536 {n : Nat} : tagW (W0 n) 536 = 100 := rfl
set_option maxRecDepth 8000 in
theorem l_536 {n : Nat} : lenW (W0 n) 536 = 44 := rfl
set_option maxRecDepth 8000 in
theorem t_537 {n : Nat} : tagW (W0 n) 537 = 100 := rfl
set_option maxRecDepth 8000 in
theorem l_537 {n : Nat} : lenW (W0 n) 537 = 44 := rfl
set_option maxRecDepth 8000 in
theorem t_538 {n : Nat} : tagW (W0 n) 538 = 100 := rfl
set_option maxRecDepth 8000 in
theorem l_538 {n : Nat} : lenW (W0 n) 538 = 12 := rfl
set_option maxRecDepth 8000 in
theorem t_539 {n : Nat} : tagW (W0 n) 539 = 103 := rfl
set_option maxRecDepth 8000 in
theorem l_539 {n : Nat} : lenW (W0 n) 539 = 16 := rfl
set_option maxRecDepth 8000 in
theorem t_556 {n : Nat} : tagW (W0 n) 556 = 103 := rfl
set_option maxRecDepth 8000 in
theorem l_556 {n : Nat} : lenW (W0 n) 556 = 3 := rfl
set_option maxRecDepth 8000 in
theorem t_560 {n : Nat} : tagW (W0 n) 560 = 100 := rfl
set_option maxRecDepth 8000 in
theorem l_560 {n : Nat} : lenW (W0 n) 560 = 1189 := rfl
set_option maxRecDepth 8000 in
theorem t_561 {n : Nat} : tagW (W0 n) 561 = 102 := rfl
set_option maxRecDepth 8000 in
theorem l_561 {n : Nat} : lenW (W0 n) 561 = 14 := rfl
set_option maxRecDepth 8000 in
theorem t_562 {n : Nat} : tagW (W0 n) 562 = 102 := rfl
set_option maxRecDepth 8000 in
theorem l_562 {n : Nat} : lenW (W0 n) 562 = 1 := rfl
set_option maxRecDepth 8000 in
theorem t_1 {n : Nat} : tagW (W0 n) 1 = 100 := rfl
theorem l_1 {n : Nat} : lenW (W0 n) 1 = n := rfl
set_option maxRecDepth 8000 in
theorem t_2 {n : Nat} : tagW (W0 n) 2 = 100 := rfl
theorem l_2 {n : Nat} : lenW (W0 n) 2 = 9 := rfl
set_option maxRecDepth 8000 in
theorem w0_tag {n k : Nat} : tagW (W0 n) (k + 2) = tagW (W0 0) (k + 2) := rfl
theorem w0_len {n k : Nat} : lenW (W0 n) (k + 2) = lenW (W0 0) (k + 2) := rfl
set_option maxRecDepth 8000 in
theorem f_77 {n k : Nat} (h : k < 6) : rv (refW (W0 n) 77 k) = .ref (78 + k) := by
  show rv (((List.range 6).map (fun i => 78 + i)).getD k 0) = _
  have e : ((List.range 6).map (fun i => 78 + i)).getD k 0 = 78 + k := by simp [List.getD, h]
  rw [e]; unfold rv; rw [if_neg (by omega)]
set_option maxRecDepth 8000 in
theorem t_78 {n k : Nat} (h : k < 6) : tagW (W0 n) (78 + k) = 100 := by
  have e : 78 + k = (76 + k) + 2 := by omega
  rw [e, w0_tag, ← e]
  exact (by decide +kernel : ∀ k < 6, tagW (W0 0) (78 + k) = 100) k h
set_option maxRecDepth 8000 in
theorem l_78 {n k : Nat} (h : k < 6) : lenW (W0 n) (78 + k) = 2 := by
  have e : 78 + k = (76 + k) + 2 := by omega
  rw [e, w0_len, ← e]
  exact (by decide +kernel : ∀ k < 6, lenW (W0 0) (78 + k) = 2) k h
set_option maxRecDepth 8000 in
theorem f_84 {n k : Nat} (h : k < 6) : rv (refW (W0 n) 84 k) = .ref (85 + k) := by
  show rv (((List.range 6).map (fun i => 85 + i)).getD k 0) = _
  have e : ((List.range 6).map (fun i => 85 + i)).getD k 0 = 85 + k := by simp [List.getD, h]
  rw [e]; unfold rv; rw [if_neg (by omega)]
set_option maxRecDepth 8000 in
theorem t_85 {n k : Nat} (h : k < 6) : tagW (W0 n) (85 + k) = 100 := by
  have e : 85 + k = (83 + k) + 2 := by omega
  rw [e, w0_tag, ← e]
  exact (by decide +kernel : ∀ k < 6, tagW (W0 0) (85 + k) = 100) k h
set_option maxRecDepth 8000 in
theorem l_85 {n k : Nat} (h : k < 6) : lenW (W0 n) (85 + k) = 2 := by
  have e : 85 + k = (83 + k) + 2 := by omega
  rw [e, w0_len, ← e]
  exact (by decide +kernel : ∀ k < 6, lenW (W0 0) (85 + k) = 2) k h
set_option maxRecDepth 8000 in
theorem f_91 {n k : Nat} (h : k < 12) : rv (refW (W0 n) 91 k) = .ref (92 + k) := by
  show rv (((List.range 12).map (fun i => 92 + i)).getD k 0) = _
  have e : ((List.range 12).map (fun i => 92 + i)).getD k 0 = 92 + k := by simp [List.getD, h]
  rw [e]; unfold rv; rw [if_neg (by omega)]
set_option maxRecDepth 8000 in
theorem t_92 {n k : Nat} (h : k < 12) : tagW (W0 n) (92 + k) = 100 := by
  have e : 92 + k = (90 + k) + 2 := by omega
  rw [e, w0_tag, ← e]
  exact (by decide +kernel : ∀ k < 12, tagW (W0 0) (92 + k) = 100) k h
set_option maxRecDepth 8000 in
theorem l_92 {n k : Nat} (h : k < 12) : lenW (W0 n) (92 + k) = 4 := by
  have e : 92 + k = (90 + k) + 2 := by omega
  rw [e, w0_len, ← e]
  exact (by decide +kernel : ∀ k < 12, lenW (W0 0) (92 + k) = 4) k h
set_option maxRecDepth 8000 in
theorem f_104 {n k : Nat} (h : k < 12) : rv (refW (W0 n) 104 k) = .ref (105 + k) := by
  show rv (((List.range 12).map (fun i => 105 + i)).getD k 0) = _
  have e : ((List.range 12).map (fun i => 105 + i)).getD k 0 = 105 + k := by simp [List.getD, h]
  rw [e]; unfold rv; rw [if_neg (by omega)]
set_option maxRecDepth 8000 in
theorem t_105 {n k : Nat} (h : k < 12) : tagW (W0 n) (105 + k) = 100 := by
  have e : 105 + k = (103 + k) + 2 := by omega
  rw [e, w0_tag, ← e]
  exact (by decide +kernel : ∀ k < 12, tagW (W0 0) (105 + k) = 100) k h
set_option maxRecDepth 8000 in
theorem l_105 {n k : Nat} (h : k < 12) : lenW (W0 n) (105 + k) = 4 := by
  have e : 105 + k = (103 + k) + 2 := by omega
  rw [e, w0_len, ← e]
  exact (by decide +kernel : ∀ k < 12, lenW (W0 0) (105 + k) = 4) k h
set_option maxRecDepth 8000 in
theorem f_117 {n k : Nat} (h : k < 160) : rv (refW (W0 n) 117 k) = .ref (118 + k) := by
  show rv (((List.range 160).map (fun i => 118 + i)).getD k 0) = _
  have e : ((List.range 160).map (fun i => 118 + i)).getD k 0 = 118 + k := by simp [List.getD, h]
  rw [e]; unfold rv; rw [if_neg (by omega)]
set_option maxRecDepth 8000 in
theorem t_118 {n k : Nat} (h : k < 160) : tagW (W0 n) (118 + k) = 100 := by
  have e : 118 + k = (116 + k) + 2 := by omega
  rw [e, w0_tag, ← e]
  exact (by decide +kernel : ∀ k < 160, tagW (W0 0) (118 + k) = 100) k h
set_option maxRecDepth 8000 in
theorem l_118 {n k : Nat} (h : k < 160) : lenW (W0 n) (118 + k) = 2 := by
  have e : 118 + k = (116 + k) + 2 := by omega
  rw [e, w0_len, ← e]
  exact (by decide +kernel : ∀ k < 160, lenW (W0 0) (118 + k) = 2) k h
set_option maxRecDepth 8000 in
theorem f_278 {n k : Nat} (h : k < 160) : rv (refW (W0 n) 278 k) = .ref (279 + k) := by
  show rv (((List.range 160).map (fun i => 279 + i)).getD k 0) = _
  have e : ((List.range 160).map (fun i => 279 + i)).getD k 0 = 279 + k := by simp [List.getD, h]
  rw [e]; unfold rv; rw [if_neg (by omega)]
set_option maxRecDepth 8000 in
theorem t_279 {n k : Nat} (h : k < 160) : tagW (W0 n) (279 + k) = 100 := by
  have e : 279 + k = (277 + k) + 2 := by omega
  rw [e, w0_tag, ← e]
  exact (by decide +kernel : ∀ k < 160, tagW (W0 0) (279 + k) = 100) k h
set_option maxRecDepth 8000 in
theorem l_279 {n k : Nat} (h : k < 160) : lenW (W0 n) (279 + k) = 2 := by
  have e : 279 + k = (277 + k) + 2 := by omega
  rw [e, w0_len, ← e]
  exact (by decide +kernel : ∀ k < 160, lenW (W0 0) (279 + k) = 2) k h
set_option maxRecDepth 8000 in
theorem f_439 {n k : Nat} (h : k < 6) : rv (refW (W0 n) 439 k) = .ref (440 + k) := by
  show rv (((List.range 6).map (fun i => 440 + i)).getD k 0) = _
  have e : ((List.range 6).map (fun i => 440 + i)).getD k 0 = 440 + k := by simp [List.getD, h]
  rw [e]; unfold rv; rw [if_neg (by omega)]
set_option maxRecDepth 8000 in
theorem t_440 {n k : Nat} (h : k < 6) : tagW (W0 n) (440 + k) = 100 := by
  have e : 440 + k = (438 + k) + 2 := by omega
  rw [e, w0_tag, ← e]
  exact (by decide +kernel : ∀ k < 6, tagW (W0 0) (440 + k) = 100) k h
set_option maxRecDepth 8000 in
theorem l_440 {n k : Nat} (h : k < 6) : lenW (W0 n) (440 + k) = 2 := by
  have e : 440 + k = (438 + k) + 2 := by omega
  rw [e, w0_len, ← e]
  exact (by decide +kernel : ∀ k < 6, lenW (W0 0) (440 + k) = 2) k h
set_option maxRecDepth 8000 in
theorem f_446 {n k : Nat} (h : k < 6) : rv (refW (W0 n) 446 k) = .ref (447 + k) := by
  show rv (((List.range 6).map (fun i => 447 + i)).getD k 0) = _
  have e : ((List.range 6).map (fun i => 447 + i)).getD k 0 = 447 + k := by simp [List.getD, h]
  rw [e]; unfold rv; rw [if_neg (by omega)]
set_option maxRecDepth 8000 in
theorem t_447 {n k : Nat} (h : k < 6) : tagW (W0 n) (447 + k) = 100 := by
  have e : 447 + k = (445 + k) + 2 := by omega
  rw [e, w0_tag, ← e]
  exact (by decide +kernel : ∀ k < 6, tagW (W0 0) (447 + k) = 100) k h
set_option maxRecDepth 8000 in
theorem l_447 {n k : Nat} (h : k < 6) : lenW (W0 n) (447 + k) = 2 := by
  have e : 447 + k = (445 + k) + 2 := by omega
  rw [e, w0_len, ← e]
  exact (by decide +kernel : ∀ k < 6, lenW (W0 0) (447 + k) = 2) k h
set_option maxRecDepth 8000 in
theorem f_455 {n k : Nat} (h : k < 80) : rv (refW (W0 n) 455 k) = .ref (456 + k) := by
  show rv (((List.range 80).map (fun i => 456 + i)).getD k 0) = _
  have e : ((List.range 80).map (fun i => 456 + i)).getD k 0 = 456 + k := by simp [List.getD, h]
  rw [e]; unfold rv; rw [if_neg (by omega)]
set_option maxRecDepth 8000 in
theorem t_456 {n k : Nat} (h : k < 80) : tagW (W0 n) (456 + k) = 100 := by
  have e : 456 + k = (454 + k) + 2 := by omega
  rw [e, w0_tag, ← e]
  exact (by decide +kernel : ∀ k < 80, tagW (W0 0) (456 + k) = 100) k h
set_option maxRecDepth 8000 in
theorem l_456 {n k : Nat} (h : k < 80) : lenW (W0 n) (456 + k) = 5 := by
  have e : 456 + k = (454 + k) + 2 := by omega
  rw [e, w0_len, ← e]
  exact (by decide +kernel : ∀ k < 80, lenW (W0 0) (456 + k) = 5) k h
set_option maxRecDepth 8000 in
theorem f_539 {n k : Nat} (h : k < 16) : rv (refW (W0 n) 539 k) = .ref (540 + k) := by
  show rv (((List.range 16).map (fun i => 540 + i)).getD k 0) = _
  have e : ((List.range 16).map (fun i => 540 + i)).getD k 0 = 540 + k := by simp [List.getD, h]
  rw [e]; unfold rv; rw [if_neg (by omega)]
set_option maxRecDepth 8000 in
theorem t_540 {n k : Nat} (h : k < 16) : tagW (W0 n) (540 + k) = 100 := by
  have e : 540 + k = (538 + k) + 2 := by omega
  rw [e, w0_tag, ← e]
  exact (by decide +kernel : ∀ k < 16, tagW (W0 0) (540 + k) = 100) k h
set_option maxRecDepth 8000 in
theorem l_540 {n k : Nat} (h : k < 16) : lenW (W0 n) (540 + k) = 44 := by
  have e : 540 + k = (538 + k) + 2 := by omega
  rw [e, w0_len, ← e]
  exact (by decide +kernel : ∀ k < 16, lenW (W0 0) (540 + k) = 44) k h
set_option maxRecDepth 8000 in
theorem f_556 {n k : Nat} (h : k < 3) : rv (refW (W0 n) 556 k) = .ref (557 + k) := by
  show rv (((List.range 3).map (fun i => 557 + i)).getD k 0) = _
  have e : ((List.range 3).map (fun i => 557 + i)).getD k 0 = 557 + k := by simp [List.getD, h]
  rw [e]; unfold rv; rw [if_neg (by omega)]
set_option maxRecDepth 8000 in
theorem t_557 {n k : Nat} (h : k < 3) : tagW (W0 n) (557 + k) = 100 := by
  have e : 557 + k = (555 + k) + 2 := by omega
  rw [e, w0_tag, ← e]
  exact (by decide +kernel : ∀ k < 3, tagW (W0 0) (557 + k) = 100) k h
set_option maxRecDepth 8000 in
theorem l_557 {n k : Nat} (h : k < 3) : lenW (W0 n) (557 + k) = 749 := by
  have e : 557 + k = (555 + k) + 2 := by omega
  rw [e, w0_len, ← e]
  exact (by decide +kernel : ∀ k < 3, lenW (W0 0) (557 + k) = 749) k h


theorem m_t {n m : Nat} (h : m = 51 ∨ m = 54) : tagW (W0 n) m = 2 := by rcases h with h | h <;> rw [h] <;> rfl
theorem m_f0 {n m : Nat} (h : m = 51 ∨ m = 54) : rv (refW (W0 n) m 0) = .ref 19 := by rcases h with h | h <;> rw [h] <;> rfl
theorem m_f1 {n m : Nat} (h : m = 51 ∨ m = 54) : rv (refW (W0 n) m 1) = .ref 35 := by rcases h with h | h <;> rw [h] <;> rfl
theorem m_f2 {n m : Nat} (h : m = 51 ∨ m = 54) : rv (refW (W0 n) m 2) = .ref (m + 1) := by rcases h with h | h <;> rw [h] <;> rfl
theorem m_f3 {n m : Nat} (h : m = 51 ∨ m = 54) : rv (refW (W0 n) m 3) = .ref (m + 2) := by rcases h with h | h <;> rw [h] <;> rfl
theorem m_t1 {n m : Nat} (h : m = 51 ∨ m = 54) : tagW (W0 n) (m + 1) = 100 := by rcases h with h | h <;> rw [h] <;> rfl
theorem m_l1 {n m : Nat} (h : m = 51 ∨ m = 54) : lenW (W0 n) (m + 1) = 45 := by rcases h with h | h <;> rw [h] <;> rfl
theorem m_t2 {n m : Nat} (h : m = 51 ∨ m = 54) : tagW (W0 n) (m + 2) = 100 := by rcases h with h | h <;> rw [h] <;> rfl
theorem m_l2 {n m : Nat} (h : m = 51 ∨ m = 54) : lenW (W0 n) (m + 2) = 9 := by rcases h with h | h <;> rw [h] <;> rfl
theorem m_ge {m : Nat} (h : m = 51 ∨ m = 54) : 51 ≤ m := by rcases h with h | h <;> rw [h] <;> omega
theorem m_le {m : Nat} (h : m = 51 ∨ m = 54) : m ≤ 54 := by rcases h with h | h <;> rw [h] <;> omega
