abbrev tL_0 : List Int32 := []
abbrev tM_0 : List Int32 := []
abbrev tL_1 : List Int32 := [-5]
abbrev tM_1 : List Int32 := [1]
abbrev tL_2 : List Int32 := [-5, -5]
abbrev tM_2 : List Int32 := [1, 2]
abbrev tL_3 : List Int32 := [-5, -5, -5]
abbrev tM_3 : List Int32 := [1, 2, 3]
abbrev tL_4 : List Int32 := [-5, -5, -5, -5]
abbrev tM_4 : List Int32 := [1, 2, 3, 4]
abbrev tL_5 : List Int32 := [-5, -4, -5, -5, -5]
abbrev tM_5 : List Int32 := [1, 1, 2, 3, 4]
abbrev tL_6 : List Int32 := [-5, -4, -5, -5, -4, -5]
abbrev tM_6 : List Int32 := [1, 1, 2, 3, 3, 4]
abbrev tL_7 : List Int32 := [-5, -4, -5, -5, -4, -5, -4]
abbrev tM_7 : List Int32 := [1, 1, 2, 3, 3, 4, 5]
abbrev tL_8 : List Int32 := [-5, -4, -3, -5, -5, -4, -5, -4]
abbrev tM_8 : List Int32 := [1, 1, 1, 2, 3, 3, 4, 5]
abbrev tL_9 : List Int32 := [-5, -4, -3, -5, -5, -3, -4, -5, -4]
abbrev tM_9 : List Int32 := [1, 1, 1, 2, 3, 2, 3, 4, 5]
abbrev tL_10 : List Int32 := [-5, -4, -3, -5, -5, -3, -4, -5, -4, -3]
abbrev tM_10 : List Int32 := [1, 1, 1, 2, 3, 2, 3, 4, 5, 4]
abbrev tL_11 : List Int32 := [-5, -4, -3, -5, -5, -3, -4, -5, -4, -3, -3]
abbrev tM_11 : List Int32 := [1, 1, 1, 2, 3, 2, 3, 4, 5, 4, 5]
abbrev tL_12 : List Int32 := [-5, -4, -3, -5, -2, -5, -3, -4, -5, -4, -3, -3]
abbrev tM_12 : List Int32 := [1, 1, 1, 2, 1, 3, 2, 3, 4, 5, 4, 5]
abbrev tL_13 : List Int32 := [-5, -4, -3, -5, -2, -5, -3, -4, -5, -4, -3, -2, -3]
abbrev tM_13 : List Int32 := [1, 1, 1, 2, 1, 3, 2, 3, 4, 5, 4, 3, 5]
abbrev tL_14 : List Int32 := [-5, -4, -3, -5, -2, -5, -3, -4, -5, -4, -3, -2, -3, -2]
abbrev tM_14 : List Int32 := [1, 1, 1, 2, 1, 3, 2, 3, 4, 5, 4, 3, 5, 5]
abbrev tL_15 : List Int32 := [-5, -4, -3, -5, -2, -5, -3, -4, -5, -1, -4, -3, -2, -3, -2]
abbrev tM_15 : List Int32 := [1, 1, 1, 2, 1, 3, 2, 3, 4, 1, 5, 4, 3, 5, 5]
abbrev tL_16 : List Int32 := [-5, -4, -3, -5, -2, -5, -3, -4, -5, -1, -4, -3, -2, -3, -1, -2]
abbrev tM_16 : List Int32 := [1, 1, 1, 2, 1, 3, 2, 3, 4, 1, 5, 4, 3, 5, 2, 5]
abbrev tL_17 : List Int32 := [-5, -4, -3, -5, -2, -5, -3, -4, -5, -1, -4, -3, -2, -3, -1, -2, -1]
abbrev tM_17 : List Int32 := [1, 1, 1, 2, 1, 3, 2, 3, 4, 1, 5, 4, 3, 5, 2, 5, 3]
abbrev tL_18 : List Int32 := [-5, -4, -3, -5, -2, -5, -3, -4, -5, -1, -4, -3, -2, -3, -1, -2, -1, -1]
abbrev tM_18 : List Int32 := [1, 1, 1, 2, 1, 3, 2, 3, 4, 1, 5, 4, 3, 5, 2, 5, 3, 4]
abbrev tL_19 : List Int32 := [-5, -4, -3, -5, -2, -5, -3, -4, -5, -1, -4, -3, -2, -3, -1, -2, -1, -1, -1]
abbrev tM_19 : List Int32 := [1, 1, 1, 2, 1, 3, 2, 3, 4, 1, 5, 4, 3, 5, 2, 5, 3, 4, 5]
abbrev tL_20 : List Int32 := [-5, -4, -3, -5, -2, -5, -3, -4, -5, -1, -4, -3, -2, -3, -1, -2, -1, -1, -1, 0]
abbrev tM_20 : List Int32 := [1, 1, 1, 2, 1, 3, 2, 3, 4, 1, 5, 4, 3, 5, 2, 5, 3, 4, 5, 1]
abbrev tL_21 : List Int32 := [-5, -4, -3, -5, -2, -5, -3, -4, -5, -1, -4, -3, -2, -3, -1, -2, -1, -1, -1, 0, 1]
abbrev tM_21 : List Int32 := [1, 1, 1, 2, 1, 3, 2, 3, 4, 1, 5, 4, 3, 5, 2, 5, 3, 4, 5, 1, 1]
abbrev tL_22 : List Int32 := [-5, -4, -3, -5, -2, -5, -3, -4, -5, -1, -4, -3, -2, -3, -1, -2, -1, -1, -1, 0, 1, 1]
abbrev tM_22 : List Int32 := [1, 1, 1, 2, 1, 3, 2, 3, 4, 1, 5, 4, 3, 5, 2, 5, 3, 4, 5, 1, 2, 1]
abbrev tL_23 : List Int32 := [-5, -4, -3, -5, -2, -5, -3, -4, -5, -1, -4, -3, -2, -3, -1, -2, -1, -1, -1, 0, 1, 1, 1]
abbrev tM_23 : List Int32 := [1, 1, 1, 2, 1, 3, 2, 3, 4, 1, 5, 4, 3, 5, 2, 5, 3, 4, 5, 1, 3, 2, 1]
abbrev tL_24 : List Int32 := [-5, -4, -3, -5, -2, -5, -3, -4, -5, -1, -4, -3, -2, -3, -1, -2, -1, -1, -1, 0, 1, 1, 1, 1]
abbrev tM_24 : List Int32 := [1, 1, 1, 2, 1, 3, 2, 3, 4, 1, 5, 4, 3, 5, 2, 5, 3, 4, 5, 1, 4, 3, 2, 1]
abbrev tL_25 : List Int32 := [-5, -4, -3, -5, -2, -5, -3, -4, -5, -1, -4, -3, -2, -3, -1, -2, -1, -1, -1, 0, 1, 1, 1, 1, 1]
abbrev tM_25 : List Int32 := [1, 1, 1, 2, 1, 3, 2, 3, 4, 1, 5, 4, 3, 5, 2, 5, 3, 4, 5, 1, 5, 4, 3, 2, 1]
abbrev tL_26 : List Int32 := [-5, -4, -3, -5, -2, -5, -3, -4, -5, -1, -4, -3, -2, -3, -1, -2, -1, -1, -1, 0, 1, 1, 1, 1, 1, 2]
abbrev tM_26 : List Int32 := [1, 1, 1, 2, 1, 3, 2, 3, 4, 1, 5, 4, 3, 5, 2, 5, 3, 4, 5, 1, 5, 4, 3, 2, 1, 1]
abbrev tL_27 : List Int32 := [-5, -4, -3, -5, -2, -5, -3, -4, -5, -1, -4, -3, -2, -3, -1, -2, -1, -1, -1, 0, 1, 1, 1, 1, 2, 1, 2]
abbrev tM_27 : List Int32 := [1, 1, 1, 2, 1, 3, 2, 3, 4, 1, 5, 4, 3, 5, 2, 5, 3, 4, 5, 1, 5, 4, 3, 2, 3, 1, 1]
abbrev tL_28 : List Int32 := [-5, -4, -3, -5, -2, -5, -3, -4, -5, -1, -4, -3, -2, -3, -1, -2, -1, -1, -1, 0, 1, 1, 1, 2, 1, 2, 1, 2]
abbrev tM_28 : List Int32 := [1, 1, 1, 2, 1, 3, 2, 3, 4, 1, 5, 4, 3, 5, 2, 5, 3, 4, 5, 1, 5, 4, 3, 5, 2, 3, 1, 1]
abbrev tL_29 : List Int32 := [-5, -4, -3, -5, -2, -5, -3, -4, -5, -1, -4, -3, -2, -3, -1, -2, -1, -1, -1, 0, 1, 1, 1, 2, 1, 2, 1, 2, 3]
abbrev tM_29 : List Int32 := [1, 1, 1, 2, 1, 3, 2, 3, 4, 1, 5, 4, 3, 5, 2, 5, 3, 4, 5, 1, 5, 4, 3, 5, 2, 3, 1, 1, 1]
abbrev tL_30 : List Int32 := [-5, -4, -3, -5, -2, -5, -3, -4, -5, -1, -4, -3, -2, -3, -1, -2, -1, -1, -1, 0, 1, 1, 1, 2, 1, 2, 1, 3, 2, 3]
abbrev tM_30 : List Int32 := [1, 1, 1, 2, 1, 3, 2, 3, 4, 1, 5, 4, 3, 5, 2, 5, 3, 4, 5, 1, 5, 4, 3, 5, 2, 3, 1, 2, 1, 1]
abbrev tL_31 : List Int32 := [-5, -4, -3, -5, -2, -5, -3, -4, -5, -1, -4, -3, -2, -3, -1, -2, -1, -1, -1, 0, 1, 1, 1, 2, 1, 2, 3, 1, 3, 2, 3]
abbrev tM_31 : List Int32 := [1, 1, 1, 2, 1, 3, 2, 3, 4, 1, 5, 4, 3, 5, 2, 5, 3, 4, 5, 1, 5, 4, 3, 5, 2, 3, 4, 1, 2, 1, 1]
abbrev tL_32 : List Int32 := [-5, -4, -3, -5, -2, -5, -3, -4, -5, -1, -4, -3, -2, -3, -1, -2, -1, -1, -1, 0, 1, 1, 1, 2, 1, 3, 2, 3, 1, 3, 2, 3]
abbrev tM_32 : List Int32 := [1, 1, 1, 2, 1, 3, 2, 3, 4, 1, 5, 4, 3, 5, 2, 5, 3, 4, 5, 1, 5, 4, 3, 5, 2, 5, 3, 4, 1, 2, 1, 1]
abbrev tL_33 : List Int32 := [-5, -4, -3, -5, -2, -5, -3, -4, -5, -1, -4, -3, -2, -3, -1, -2, -1, -1, -1, 0, 1, 1, 1, 2, 1, 3, 2, 3, 1, 3, 2, 3, 4]
abbrev tM_33 : List Int32 := [1, 1, 1, 2, 1, 3, 2, 3, 4, 1, 5, 4, 3, 5, 2, 5, 3, 4, 5, 1, 5, 4, 3, 5, 2, 5, 3, 4, 1, 2, 1, 1, 1]
abbrev tL_34 : List Int32 := [-5, -4, -3, -5, -2, -5, -3, -4, -5, -1, -4, -3, -2, -3, -1, -2, -1, -1, -1, 0, 1, 1, 1, 2, 1, 3, 2, 3, 1, 4, 3, 2, 3, 4]
abbrev tM_34 : List Int32 := [1, 1, 1, 2, 1, 3, 2, 3, 4, 1, 5, 4, 3, 5, 2, 5, 3, 4, 5, 1, 5, 4, 3, 5, 2, 5, 3, 4, 1, 3, 2, 1, 1, 1]
abbrev tL_35 : List Int32 := [-5, -4, -3, -5, -2, -5, -3, -4, -5, -1, -4, -3, -2, -3, -1, -2, -1, -1, -1, 0, 1, 1, 1, 2, 1, 3, 2, 3, 4, 1, 4, 3, 2, 3, 4]
abbrev tM_35 : List Int32 := [1, 1, 1, 2, 1, 3, 2, 3, 4, 1, 5, 4, 3, 5, 2, 5, 3, 4, 5, 1, 5, 4, 3, 5, 2, 5, 3, 4, 5, 1, 3, 2, 1, 1, 1]
abbrev tL_36 : List Int32 := [-5, -4, -3, -5, -2, -5, -3, -4, -5, -1, -4, -3, -2, -3, -1, -2, -1, -1, -1, 0, 1, 1, 1, 2, 1, 3, 2, 3, 4, 1, 4, 3, 2, 3, 4, 5]
abbrev tM_36 : List Int32 := [1, 1, 1, 2, 1, 3, 2, 3, 4, 1, 5, 4, 3, 5, 2, 5, 3, 4, 5, 1, 5, 4, 3, 5, 2, 5, 3, 4, 5, 1, 3, 2, 1, 1, 1, 1]
abbrev tL_37 : List Int32 := [-5, -4, -3, -5, -2, -5, -3, -4, -5, -1, -4, -3, -2, -3, -1, -2, -1, -1, -1, 0, 1, 1, 1, 2, 1, 3, 2, 3, 4, 1, 4, 3, 2, 5, 3, 4, 5]
abbrev tM_37 : List Int32 := [1, 1, 1, 2, 1, 3, 2, 3, 4, 1, 5, 4, 3, 5, 2, 5, 3, 4, 5, 1, 5, 4, 3, 5, 2, 5, 3, 4, 5, 1, 3, 2, 1, 2, 1, 1, 1]
abbrev tL_38 : List Int32 := [-5, -4, -3, -5, -2, -5, -3, -4, -5, -1, -4, -3, -2, -3, -1, -2, -1, -1, -1, 0, 1, 1, 1, 2, 1, 3, 2, 3, 4, 1, 4, 3, 5, 2, 5, 3, 4, 5]
abbrev tM_38 : List Int32 := [1, 1, 1, 2, 1, 3, 2, 3, 4, 1, 5, 4, 3, 5, 2, 5, 3, 4, 5, 1, 5, 4, 3, 5, 2, 5, 3, 4, 5, 1, 3, 2, 3, 1, 2, 1, 1, 1]
abbrev tL_39 : List Int32 := [-5, -4, -3, -5, -2, -5, -3, -4, -5, -1, -4, -3, -2, -3, -1, -2, -1, -1, -1, 0, 1, 1, 1, 2, 1, 3, 2, 3, 4, 1, 5, 4, 3, 5, 2, 5, 3, 4, 5]
abbrev tM_39 : List Int32 := [1, 1, 1, 2, 1, 3, 2, 3, 4, 1, 5, 4, 3, 5, 2, 5, 3, 4, 5, 1, 5, 4, 3, 5, 2, 5, 3, 4, 5, 1, 4, 3, 2, 3, 1, 2, 1, 1, 1]
theorem ins_0 : insP (-5) 1 0 (lf tL_0) (lf tM_0) = (lf tL_1, lf tM_1) := by
  rw [ins_lf (-5) 1 0 tL_0 tM_0 (by decide) (by decide), show insL (-5) 1 0 tL_0 tM_0 = (tL_1, tM_1) by decide +kernel]
theorem ins_1 : insP (-5) 2 1 (lf tL_1) (lf tM_1) = (lf tL_2, lf tM_2) := by
  rw [ins_lf (-5) 2 1 tL_1 tM_1 (by decide) (by decide), show insL (-5) 2 1 tL_1 tM_1 = (tL_2, tM_2) by decide +kernel]
theorem ins_2 : insP (-5) 3 2 (lf tL_2) (lf tM_2) = (lf tL_3, lf tM_3) := by
  rw [ins_lf (-5) 3 2 tL_2 tM_2 (by decide) (by decide), show insL (-5) 3 2 tL_2 tM_2 = (tL_3, tM_3) by decide +kernel]
theorem ins_3 : insP (-5) 4 3 (lf tL_3) (lf tM_3) = (lf tL_4, lf tM_4) := by
  rw [ins_lf (-5) 4 3 tL_3 tM_3 (by decide) (by decide), show insL (-5) 4 3 tL_3 tM_3 = (tL_4, tM_4) by decide +kernel]
theorem ins_4 : insP (-4) 1 4 (lf tL_4) (lf tM_4) = (lf tL_5, lf tM_5) := by
  rw [ins_lf (-4) 1 4 tL_4 tM_4 (by decide) (by decide), show insL (-4) 1 4 tL_4 tM_4 = (tL_5, tM_5) by decide +kernel]
theorem ins_5 : insP (-4) 3 5 (lf tL_5) (lf tM_5) = (lf tL_6, lf tM_6) := by
  rw [ins_lf (-4) 3 5 tL_5 tM_5 (by decide) (by decide), show insL (-4) 3 5 tL_5 tM_5 = (tL_6, tM_6) by decide +kernel]
theorem ins_6 : insP (-4) 5 6 (lf tL_6) (lf tM_6) = (lf tL_7, lf tM_7) := by
  rw [ins_lf (-4) 5 6 tL_6 tM_6 (by decide) (by decide), show insL (-4) 5 6 tL_6 tM_6 = (tL_7, tM_7) by decide +kernel]
theorem ins_7 : insP (-3) 1 7 (lf tL_7) (lf tM_7) = (lf tL_8, lf tM_8) := by
  rw [ins_lf (-3) 1 7 tL_7 tM_7 (by decide) (by decide), show insL (-3) 1 7 tL_7 tM_7 = (tL_8, tM_8) by decide +kernel]
theorem ins_8 : insP (-3) 2 8 (lf tL_8) (lf tM_8) = (lf tL_9, lf tM_9) := by
  rw [ins_lf (-3) 2 8 tL_8 tM_8 (by decide) (by decide), show insL (-3) 2 8 tL_8 tM_8 = (tL_9, tM_9) by decide +kernel]
theorem ins_9 : insP (-3) 4 9 (lf tL_9) (lf tM_9) = (lf tL_10, lf tM_10) := by
  rw [ins_lf (-3) 4 9 tL_9 tM_9 (by decide) (by decide), show insL (-3) 4 9 tL_9 tM_9 = (tL_10, tM_10) by decide +kernel]
theorem ins_10 : insP (-3) 5 10 (lf tL_10) (lf tM_10) = (lf tL_11, lf tM_11) := by
  rw [ins_lf (-3) 5 10 tL_10 tM_10 (by decide) (by decide), show insL (-3) 5 10 tL_10 tM_10 = (tL_11, tM_11) by decide +kernel]
theorem ins_11 : insP (-2) 1 11 (lf tL_11) (lf tM_11) = (lf tL_12, lf tM_12) := by
  rw [ins_lf (-2) 1 11 tL_11 tM_11 (by decide) (by decide), show insL (-2) 1 11 tL_11 tM_11 = (tL_12, tM_12) by decide +kernel]
theorem ins_12 : insP (-2) 3 12 (lf tL_12) (lf tM_12) = (lf tL_13, lf tM_13) := by
  rw [ins_lf (-2) 3 12 tL_12 tM_12 (by decide) (by decide), show insL (-2) 3 12 tL_12 tM_12 = (tL_13, tM_13) by decide +kernel]
theorem ins_13 : insP (-2) 5 13 (lf tL_13) (lf tM_13) = (lf tL_14, lf tM_14) := by
  rw [ins_lf (-2) 5 13 tL_13 tM_13 (by decide) (by decide), show insL (-2) 5 13 tL_13 tM_13 = (tL_14, tM_14) by decide +kernel]
theorem ins_14 : insP (-1) 1 14 (lf tL_14) (lf tM_14) = (lf tL_15, lf tM_15) := by
  rw [ins_lf (-1) 1 14 tL_14 tM_14 (by decide) (by decide), show insL (-1) 1 14 tL_14 tM_14 = (tL_15, tM_15) by decide +kernel]
theorem ins_15 : insP (-1) 2 15 (lf tL_15) (lf tM_15) = (lf tL_16, lf tM_16) := by
  rw [ins_lf (-1) 2 15 tL_15 tM_15 (by decide) (by decide), show insL (-1) 2 15 tL_15 tM_15 = (tL_16, tM_16) by decide +kernel]
theorem ins_16 : insP (-1) 3 16 (lf tL_16) (lf tM_16) = (lf tL_17, lf tM_17) := by
  rw [ins_lf (-1) 3 16 tL_16 tM_16 (by decide) (by decide), show insL (-1) 3 16 tL_16 tM_16 = (tL_17, tM_17) by decide +kernel]
theorem ins_17 : insP (-1) 4 17 (lf tL_17) (lf tM_17) = (lf tL_18, lf tM_18) := by
  rw [ins_lf (-1) 4 17 tL_17 tM_17 (by decide) (by decide), show insL (-1) 4 17 tL_17 tM_17 = (tL_18, tM_18) by decide +kernel]
theorem ins_18 : insP (-1) 5 18 (lf tL_18) (lf tM_18) = (lf tL_19, lf tM_19) := by
  rw [ins_lf (-1) 5 18 tL_18 tM_18 (by decide) (by decide), show insL (-1) 5 18 tL_18 tM_18 = (tL_19, tM_19) by decide +kernel]
theorem ins_19 : insP (0) 1 19 (lf tL_19) (lf tM_19) = (lf tL_20, lf tM_20) := by
  rw [ins_lf (0) 1 19 tL_19 tM_19 (by decide) (by decide), show insL (0) 1 19 tL_19 tM_19 = (tL_20, tM_20) by decide +kernel]
theorem ins_20 : insP (1) 1 20 (lf tL_20) (lf tM_20) = (lf tL_21, lf tM_21) := by
  rw [ins_lf (1) 1 20 tL_20 tM_20 (by decide) (by decide), show insL (1) 1 20 tL_20 tM_20 = (tL_21, tM_21) by decide +kernel]
theorem ins_21 : insP (1) 2 21 (lf tL_21) (lf tM_21) = (lf tL_22, lf tM_22) := by
  rw [ins_lf (1) 2 21 tL_21 tM_21 (by decide) (by decide), show insL (1) 2 21 tL_21 tM_21 = (tL_22, tM_22) by decide +kernel]
theorem ins_22 : insP (1) 3 22 (lf tL_22) (lf tM_22) = (lf tL_23, lf tM_23) := by
  rw [ins_lf (1) 3 22 tL_22 tM_22 (by decide) (by decide), show insL (1) 3 22 tL_22 tM_22 = (tL_23, tM_23) by decide +kernel]
theorem ins_23 : insP (1) 4 23 (lf tL_23) (lf tM_23) = (lf tL_24, lf tM_24) := by
  rw [ins_lf (1) 4 23 tL_23 tM_23 (by decide) (by decide), show insL (1) 4 23 tL_23 tM_23 = (tL_24, tM_24) by decide +kernel]
theorem ins_24 : insP (1) 5 24 (lf tL_24) (lf tM_24) = (lf tL_25, lf tM_25) := by
  rw [ins_lf (1) 5 24 tL_24 tM_24 (by decide) (by decide), show insL (1) 5 24 tL_24 tM_24 = (tL_25, tM_25) by decide +kernel]
theorem ins_25 : insP (2) 1 25 (lf tL_25) (lf tM_25) = (lf tL_26, lf tM_26) := by
  rw [ins_lf (2) 1 25 tL_25 tM_25 (by decide) (by decide), show insL (2) 1 25 tL_25 tM_25 = (tL_26, tM_26) by decide +kernel]
theorem ins_26 : insP (2) 3 26 (lf tL_26) (lf tM_26) = (lf tL_27, lf tM_27) := by
  rw [ins_lf (2) 3 26 tL_26 tM_26 (by decide) (by decide), show insL (2) 3 26 tL_26 tM_26 = (tL_27, tM_27) by decide +kernel]
theorem ins_27 : insP (2) 5 27 (lf tL_27) (lf tM_27) = (lf tL_28, lf tM_28) := by
  rw [ins_lf (2) 5 27 tL_27 tM_27 (by decide) (by decide), show insL (2) 5 27 tL_27 tM_27 = (tL_28, tM_28) by decide +kernel]
theorem ins_28 : insP (3) 1 28 (lf tL_28) (lf tM_28) = (lf tL_29, lf tM_29) := by
  rw [ins_lf (3) 1 28 tL_28 tM_28 (by decide) (by decide), show insL (3) 1 28 tL_28 tM_28 = (tL_29, tM_29) by decide +kernel]
theorem ins_29 : insP (3) 2 29 (lf tL_29) (lf tM_29) = (lf tL_30, lf tM_30) := by
  rw [ins_lf (3) 2 29 tL_29 tM_29 (by decide) (by decide), show insL (3) 2 29 tL_29 tM_29 = (tL_30, tM_30) by decide +kernel]
theorem ins_30 : insP (3) 4 30 (lf tL_30) (lf tM_30) = (lf tL_31, lf tM_31) := by
  rw [ins_lf (3) 4 30 tL_30 tM_30 (by decide) (by decide), show insL (3) 4 30 tL_30 tM_30 = (tL_31, tM_31) by decide +kernel]
theorem ins_31 : insP (3) 5 31 (lf tL_31) (lf tM_31) = (lf tL_32, lf tM_32) := by
  rw [ins_lf (3) 5 31 tL_31 tM_31 (by decide) (by decide), show insL (3) 5 31 tL_31 tM_31 = (tL_32, tM_32) by decide +kernel]
theorem ins_32 : insP (4) 1 32 (lf tL_32) (lf tM_32) = (lf tL_33, lf tM_33) := by
  rw [ins_lf (4) 1 32 tL_32 tM_32 (by decide) (by decide), show insL (4) 1 32 tL_32 tM_32 = (tL_33, tM_33) by decide +kernel]
theorem ins_33 : insP (4) 3 33 (lf tL_33) (lf tM_33) = (lf tL_34, lf tM_34) := by
  rw [ins_lf (4) 3 33 tL_33 tM_33 (by decide) (by decide), show insL (4) 3 33 tL_33 tM_33 = (tL_34, tM_34) by decide +kernel]
theorem ins_34 : insP (4) 5 34 (lf tL_34) (lf tM_34) = (lf tL_35, lf tM_35) := by
  rw [ins_lf (4) 5 34 tL_34 tM_34 (by decide) (by decide), show insL (4) 5 34 tL_34 tM_34 = (tL_35, tM_35) by decide +kernel]
theorem ins_35 : insP (5) 1 35 (lf tL_35) (lf tM_35) = (lf tL_36, lf tM_36) := by
  rw [ins_lf (5) 1 35 tL_35 tM_35 (by decide) (by decide), show insL (5) 1 35 tL_35 tM_35 = (tL_36, tM_36) by decide +kernel]
theorem ins_36 : insP (5) 2 36 (lf tL_36) (lf tM_36) = (lf tL_37, lf tM_37) := by
  rw [ins_lf (5) 2 36 tL_36 tM_36 (by decide) (by decide), show insL (5) 2 36 tL_36 tM_36 = (tL_37, tM_37) by decide +kernel]
theorem ins_37 : insP (5) 3 37 (lf tL_37) (lf tM_37) = (lf tL_38, lf tM_38) := by
  rw [ins_lf (5) 3 37 tL_37 tM_37 (by decide) (by decide), show insL (5) 3 37 tL_37 tM_37 = (tL_38, tM_38) by decide +kernel]
theorem ins_38 : insP (5) 4 38 (lf tL_38) (lf tM_38) = (lf tL_39, lf tM_39) := by
  rw [ins_lf (5) 4 38 tL_38 tM_38 (by decide) (by decide), show insL (5) 4 38 tL_38 tM_38 = (tL_39, tM_39) by decide +kernel]
theorem fin_0 : upd (lf tL_39) 39 1 = ax_tab 0 := by
  funext j
  by_cases c : j < 40
  · have h : ∀ j, j < 40 → upd (lf tL_39) 39 1 j = ax_tab 0 j := by decide +kernel
    exact h j c
  · unfold upd lf
    rw [if_neg (by omega)]
    have e1 : (tL_39 : List Int32)[j]? = none := List.getElem?_eq_none (by show 39 ≤ j; omega)
    have e2 : ax_tab 0 j = 0 := by
      have e3 : ((ax_st.getD 0 ("", "", [])).2.2 : List Int32)[j]? = none := List.getElem?_eq_none (by show 40 ≤ j; omega)
      show (((ax_st.getD 0 ("", "", [])).2.2 : List Int32)[j]?).getD 0 = 0
      rw [e3]; rfl
    rw [e2]
    show ((tL_39 : List Int32)[j]?).getD 0 = 0
    rw [e1]; rfl
theorem fin_1 : upd (lf tM_39) 39 0 = ax_tab 1 := by
  funext j
  by_cases c : j < 40
  · have h : ∀ j, j < 40 → upd (lf tM_39) 39 0 j = ax_tab 1 j := by decide +kernel
    exact h j c
  · unfold upd lf
    rw [if_neg (by omega)]
    have e1 : (tM_39 : List Int32)[j]? = none := List.getElem?_eq_none (by show 39 ≤ j; omega)
    have e2 : ax_tab 1 j = 0 := by
      have e3 : ((ax_st.getD 1 ("", "", [])).2.2 : List Int32)[j]? = none := List.getElem?_eq_none (by show 40 ≤ j; omega)
      show (((ax_st.getD 1 ("", "", [])).2.2 : List Int32)[j]?).getD 0 = 0
      rw [e3]; rfl
    rw [e2]
    show ((tM_39 : List Int32)[j]?).getD 0 = 0
    rw [e1]; rfl
set_option maxHeartbeats 4000000 in
theorem c_X11_init   : Ct M_X11_init [.ref 1000] (WC0, [ob 9 [.int 0, .int 0, .int 0, .int 0, .null, .null, .int 0, .null, .int 0, .int 0, .int 0, .int 0, .int 0, .null, .null, .null, .null, .int 0, .int 0, .int 0, .int 0, .null, .null, .null, .null, .int 0, .int 0, .int 0, .int 0, .int 0, .int 0, .int 0, .int 0, .long 0, .long 0, .long 0, .long 0, .long 0, .long 0, .long 0, .long 0, .long 0, .long 0, .null, .null, .null, .int 0, .null, .int 0, .int 0, .null, .long 0, .long 0, .long 0, .long 0, .null, .int 0, .int 0, .int 0, .int 0, .null, .null, .int 0, .null, .int 0]]) (fun r w' => r = none ∧ w' = (WC0, [ob 9 [.int 0, .int 0, .int 0, .int (-1), .ref 1001, .ref 1002, .int 40, .ref 1003, .int 0, .int 0, .int 0, .int 0, .int 0, .ref 1004, .ref 1005, .ref 1006, .ref 1007, .int 0, .int 0, .int 0, .int 0, .ref 1008, .ref 1009, .ref 1010, .ref 1011, .int 0, .int 0, .int 0, .int 0, .int 0, .int 0, .int 0, .int 0, .long 0, .long 0, .long 0, .long 0, .long 0, .long 0, .long 0, .long 0, .long 0, .long 0, .ref 1012, .ref 1013, .ref 1014, .int 0, .ref 1015, .int 0, .int 0, .ref 1016, .long 0, .long 0, .long 0, .long 0, .ref 1017, .int (-1), .int 0, .int 0, .int 0, .ref 1018, .ref 1019, .int 0, .ref 1020, .int 0], ia 64 (ax_tab 0), ia 64 (ax_tab 1), ia 700 (fun _ => 0), ia 16 (fun _ => 0), ia 8 (fun _ => 0), ia 16 (fun _ => 0), ia 16 (fun _ => 0), ia 16 (fun _ => 0), ia 8 (fun _ => 0), ia 16 (fun _ => 0), ia 16 (fun _ => 0), ia 64 (fun _ => 0), ia 64 (fun _ => 0), ia 64 (fun _ => 0), ia 64 (fun _ => 0), ia 3 (fun _ => 0), ja 12 (fun _ => 0), ia 128 (fun _ => 0), ia 128 (fun _ => 0), ia 30 (fun _ => 0)])) := by
  refine ct_of ⟨by decide, rfl⟩ (Nat.le_of_ble_eq_true rfl) ?_
  refine ab_aload_n dX11_init_0 rfl ?_
  refine ab_oinit dX11_init_1 ml_X11_26 ⟨by decide, by decide⟩ ?_
  refine ab_aload_n dX11_init_4 rfl ?_
  refine ab_iconst (v := -1) dX11_init_5 (by decide) ?_
  refine ab_putf (w1 := (WC0, [ob 9 [.int 0, .int 0, .int 0, .int (-1), .null, .null, .int 0, .null, .int 0, .int 0, .int 0, .int 0, .int 0, .null, .null, .null, .null, .int 0, .int 0, .int 0, .int 0, .null, .null, .null, .null, .int 0, .int 0, .int 0, .int 0, .int 0, .int 0, .int 0, .int 0, .long 0, .long 0, .long 0, .long 0, .long 0, .long 0, .long 0, .long 0, .long 0, .long 0, .null, .null, .null, .int 0, .null, .int 0, .int 0, .null, .long 0, .long 0, .long 0, .long 0, .null, .int 0, .int 0, .int 0, .int 0, .null, .null, .int 0, .null, .int 0]])) dX11_init_6 fl_X11_14 rfl (Nat.le_of_ble_eq_true rfl) (fun _ => ⟨rfl, rfl⟩) rfl ?_
  refine ab_aload_n dX11_init_9 rfl ?_
  refine ab_bipush (v := 64) dX11_init_10 (by decide) ?_
  refine ab_newiJ (N := 64) (w1 := (WC0, [ob 9 [.int 0, .int 0, .int 0, .int (-1), .null, .null, .int 0, .null, .int 0, .int 0, .int 0, .int 0, .int 0, .null, .null, .null, .null, .int 0, .int 0, .int 0, .int 0, .null, .null, .null, .null, .int 0, .int 0, .int 0, .int 0, .int 0, .int 0, .int 0, .int 0, .long 0, .long 0, .long 0, .long 0, .long 0, .long 0, .long 0, .long 0, .long 0, .long 0, .null, .null, .null, .int 0, .null, .int 0, .int 0, .null, .long 0, .long 0, .long 0, .long 0, .null, .int 0, .int 0, .int 0, .int 0, .null, .null, .int 0, .null, .int 0], ia 64 (fun _ => 0)])) (j := 1001) dX11_init_12 ⟨by decide, by decide, by decide⟩ (tb_of 64 (by decide +kernel) rfl) rfl ⟨by decide, by decide⟩ rfl rfl rfl ?_
  refine ab_putF (w1 := (WC0, [ob 9 [.int 0, .int 0, .int 0, .int (-1), .ref 1001, .null, .int 0, .null, .int 0, .int 0, .int 0, .int 0, .int 0, .null, .null, .null, .null, .int 0, .int 0, .int 0, .int 0, .null, .null, .null, .null, .int 0, .int 0, .int 0, .int 0, .int 0, .int 0, .int 0, .int 0, .long 0, .long 0, .long 0, .long 0, .long 0, .long 0, .long 0, .long 0, .long 0, .long 0, .null, .null, .null, .int 0, .null, .int 0, .int 0, .null, .long 0, .long 0, .long 0, .long 0, .null, .int 0, .int 0, .int 0, .int 0, .null, .null, .int 0, .null, .int 0], ia 64 (fun _ => 0)])) dX11_init_14 fl_X11_32 rfl rfl rfl (Nat.le_of_ble_eq_true rfl) (fun _ => ⟨rfl, rfl⟩) rfl ?_
  refine ab_aload_n dX11_init_17 rfl ?_
  refine ab_bipush (v := 64) dX11_init_18 (by decide) ?_
  refine ab_newiJ (N := 64) (w1 := (WC0, [ob 9 [.int 0, .int 0, .int 0, .int (-1), .ref 1001, .null, .int 0, .null, .int 0, .int 0, .int 0, .int 0, .int 0, .null, .null, .null, .null, .int 0, .int 0, .int 0, .int 0, .null, .null, .null, .null, .int 0, .int 0, .int 0, .int 0, .int 0, .int 0, .int 0, .int 0, .long 0, .long 0, .long 0, .long 0, .long 0, .long 0, .long 0, .long 0, .long 0, .long 0, .null, .null, .null, .int 0, .null, .int 0, .int 0, .null, .long 0, .long 0, .long 0, .long 0, .null, .int 0, .int 0, .int 0, .int 0, .null, .null, .int 0, .null, .int 0], ia 64 (fun _ => 0), ia 64 (fun _ => 0)])) (j := 1002) dX11_init_20 ⟨by decide, by decide, by decide⟩ (tb_of 64 (by decide +kernel) rfl) rfl ⟨by decide, by decide⟩ rfl rfl rfl ?_
  refine ab_putF (w1 := (WC0, [ob 9 [.int 0, .int 0, .int 0, .int (-1), .ref 1001, .ref 1002, .int 0, .null, .int 0, .int 0, .int 0, .int 0, .int 0, .null, .null, .null, .null, .int 0, .int 0, .int 0, .int 0, .null, .null, .null, .null, .int 0, .int 0, .int 0, .int 0, .int 0, .int 0, .int 0, .int 0, .long 0, .long 0, .long 0, .long 0, .long 0, .long 0, .long 0, .long 0, .long 0, .long 0, .null, .null, .null, .int 0, .null, .int 0, .int 0, .null, .long 0, .long 0, .long 0, .long 0, .null, .int 0, .int 0, .int 0, .int 0, .null, .null, .int 0, .null, .int 0], ia 64 (fun _ => 0), ia 64 (fun _ => 0)])) dX11_init_22 fl_X11_36 rfl rfl rfl (Nat.le_of_ble_eq_true rfl) (fun _ => ⟨rfl, rfl⟩) rfl ?_
  refine ab_aload_n dX11_init_25 rfl ?_
  refine ab_sipush (v := 700) dX11_init_26 (by decide) ?_
  refine ab_newiJ (N := 700) (w1 := (WC0, [ob 9 [.int 0, .int 0, .int 0, .int (-1), .ref 1001, .ref 1002, .int 0, .null, .int 0, .int 0, .int 0, .int 0, .int 0, .null, .null, .null, .null, .int 0, .int 0, .int 0, .int 0, .null, .null, .null, .null, .int 0, .int 0, .int 0, .int 0, .int 0, .int 0, .int 0, .int 0, .long 0, .long 0, .long 0, .long 0, .long 0, .long 0, .long 0, .long 0, .long 0, .long 0, .null, .null, .null, .int 0, .null, .int 0, .int 0, .null, .long 0, .long 0, .long 0, .long 0, .null, .int 0, .int 0, .int 0, .int 0, .null, .null, .int 0, .null, .int 0], ia 64 (fun _ => 0), ia 64 (fun _ => 0), ia 700 (fun _ => 0)])) (j := 1003) dX11_init_29 ⟨by decide, by decide, by decide⟩ (tb_of 64 (by decide +kernel) rfl) rfl ⟨by decide, by decide⟩ rfl rfl rfl ?_
  refine ab_putF (w1 := (WC0, [ob 9 [.int 0, .int 0, .int 0, .int (-1), .ref 1001, .ref 1002, .int 0, .ref 1003, .int 0, .int 0, .int 0, .int 0, .int 0, .null, .null, .null, .null, .int 0, .int 0, .int 0, .int 0, .null, .null, .null, .null, .int 0, .int 0, .int 0, .int 0, .int 0, .int 0, .int 0, .int 0, .long 0, .long 0, .long 0, .long 0, .long 0, .long 0, .long 0, .long 0, .long 0, .long 0, .null, .null, .null, .int 0, .null, .int 0, .int 0, .null, .long 0, .long 0, .long 0, .long 0, .null, .int 0, .int 0, .int 0, .int 0, .null, .null, .int 0, .null, .int 0], ia 64 (fun _ => 0), ia 64 (fun _ => 0), ia 700 (fun _ => 0)])) dX11_init_31 fl_X11_39 rfl rfl rfl (Nat.le_of_ble_eq_true rfl) (fun _ => ⟨rfl, rfl⟩) rfl ?_
  refine ab_aload_n dX11_init_34 rfl ?_
  refine ab_bipush (v := 16) dX11_init_35 (by decide) ?_
  refine ab_newiJ (N := 16) (w1 := (WC0, [ob 9 [.int 0, .int 0, .int 0, .int (-1), .ref 1001, .ref 1002, .int 0, .ref 1003, .int 0, .int 0, .int 0, .int 0, .int 0, .null, .null, .null, .null, .int 0, .int 0, .int 0, .int 0, .null, .null, .null, .null, .int 0, .int 0, .int 0, .int 0, .int 0, .int 0, .int 0, .int 0, .long 0, .long 0, .long 0, .long 0, .long 0, .long 0, .long 0, .long 0, .long 0, .long 0, .null, .null, .null, .int 0, .null, .int 0, .int 0, .null, .long 0, .long 0, .long 0, .long 0, .null, .int 0, .int 0, .int 0, .int 0, .null, .null, .int 0, .null, .int 0], ia 64 (fun _ => 0), ia 64 (fun _ => 0), ia 700 (fun _ => 0), ia 16 (fun _ => 0)])) (j := 1004) dX11_init_37 ⟨by decide, by decide, by decide⟩ (tb_of 64 (by decide +kernel) rfl) rfl ⟨by decide, by decide⟩ rfl rfl rfl ?_
  refine ab_putF (w1 := (WC0, [ob 9 [.int 0, .int 0, .int 0, .int (-1), .ref 1001, .ref 1002, .int 0, .ref 1003, .int 0, .int 0, .int 0, .int 0, .int 0, .ref 1004, .null, .null, .null, .int 0, .int 0, .int 0, .int 0, .null, .null, .null, .null, .int 0, .int 0, .int 0, .int 0, .int 0, .int 0, .int 0, .int 0, .long 0, .long 0, .long 0, .long 0, .long 0, .long 0, .long 0, .long 0, .long 0, .long 0, .null, .null, .null, .int 0, .null, .int 0, .int 0, .null, .long 0, .long 0, .long 0, .long 0, .null, .int 0, .int 0, .int 0, .int 0, .null, .null, .int 0, .null, .int 0], ia 64 (fun _ => 0), ia 64 (fun _ => 0), ia 700 (fun _ => 0), ia 16 (fun _ => 0)])) dX11_init_39 fl_X11_42 rfl rfl rfl (Nat.le_of_ble_eq_true rfl) (fun _ => ⟨rfl, rfl⟩) rfl ?_
  refine ab_aload_n dX11_init_42 rfl ?_
  refine ab_bipush (v := 8) dX11_init_43 (by decide) ?_
  refine ab_newiJ (N := 8) (w1 := (WC0, [ob 9 [.int 0, .int 0, .int 0, .int (-1), .ref 1001, .ref 1002, .int 0, .ref 1003, .int 0, .int 0, .int 0, .int 0, .int 0, .ref 1004, .null, .null, .null, .int 0, .int 0, .int 0, .int 0, .null, .null, .null, .null, .int 0, .int 0, .int 0, .int 0, .int 0, .int 0, .int 0, .int 0, .long 0, .long 0, .long 0, .long 0, .long 0, .long 0, .long 0, .long 0, .long 0, .long 0, .null, .null, .null, .int 0, .null, .int 0, .int 0, .null, .long 0, .long 0, .long 0, .long 0, .null, .int 0, .int 0, .int 0, .int 0, .null, .null, .int 0, .null, .int 0], ia 64 (fun _ => 0), ia 64 (fun _ => 0), ia 700 (fun _ => 0), ia 16 (fun _ => 0), ia 8 (fun _ => 0)])) (j := 1005) dX11_init_45 ⟨by decide, by decide, by decide⟩ (tb_of 64 (by decide +kernel) rfl) rfl ⟨by decide, by decide⟩ rfl rfl rfl ?_
  refine ab_putF (w1 := (WC0, [ob 9 [.int 0, .int 0, .int 0, .int (-1), .ref 1001, .ref 1002, .int 0, .ref 1003, .int 0, .int 0, .int 0, .int 0, .int 0, .ref 1004, .ref 1005, .null, .null, .int 0, .int 0, .int 0, .int 0, .null, .null, .null, .null, .int 0, .int 0, .int 0, .int 0, .int 0, .int 0, .int 0, .int 0, .long 0, .long 0, .long 0, .long 0, .long 0, .long 0, .long 0, .long 0, .long 0, .long 0, .null, .null, .null, .int 0, .null, .int 0, .int 0, .null, .long 0, .long 0, .long 0, .long 0, .null, .int 0, .int 0, .int 0, .int 0, .null, .null, .int 0, .null, .int 0], ia 64 (fun _ => 0), ia 64 (fun _ => 0), ia 700 (fun _ => 0), ia 16 (fun _ => 0), ia 8 (fun _ => 0)])) dX11_init_47 fl_X11_45 rfl rfl rfl (Nat.le_of_ble_eq_true rfl) (fun _ => ⟨rfl, rfl⟩) rfl ?_
  refine ab_aload_n dX11_init_50 rfl ?_
  refine ab_bipush (v := 16) dX11_init_51 (by decide) ?_
  refine ab_newiJ (N := 16) (w1 := (WC0, [ob 9 [.int 0, .int 0, .int 0, .int (-1), .ref 1001, .ref 1002, .int 0, .ref 1003, .int 0, .int 0, .int 0, .int 0, .int 0, .ref 1004, .ref 1005, .null, .null, .int 0, .int 0, .int 0, .int 0, .null, .null, .null, .null, .int 0, .int 0, .int 0, .int 0, .int 0, .int 0, .int 0, .int 0, .long 0, .long 0, .long 0, .long 0, .long 0, .long 0, .long 0, .long 0, .long 0, .long 0, .null, .null, .null, .int 0, .null, .int 0, .int 0, .null, .long 0, .long 0, .long 0, .long 0, .null, .int 0, .int 0, .int 0, .int 0, .null, .null, .int 0, .null, .int 0], ia 64 (fun _ => 0), ia 64 (fun _ => 0), ia 700 (fun _ => 0), ia 16 (fun _ => 0), ia 8 (fun _ => 0), ia 16 (fun _ => 0)])) (j := 1006) dX11_init_53 ⟨by decide, by decide, by decide⟩ (tb_of 64 (by decide +kernel) rfl) rfl ⟨by decide, by decide⟩ rfl rfl rfl ?_
  refine ab_putF (w1 := (WC0, [ob 9 [.int 0, .int 0, .int 0, .int (-1), .ref 1001, .ref 1002, .int 0, .ref 1003, .int 0, .int 0, .int 0, .int 0, .int 0, .ref 1004, .ref 1005, .ref 1006, .null, .int 0, .int 0, .int 0, .int 0, .null, .null, .null, .null, .int 0, .int 0, .int 0, .int 0, .int 0, .int 0, .int 0, .int 0, .long 0, .long 0, .long 0, .long 0, .long 0, .long 0, .long 0, .long 0, .long 0, .long 0, .null, .null, .null, .int 0, .null, .int 0, .int 0, .null, .long 0, .long 0, .long 0, .long 0, .null, .int 0, .int 0, .int 0, .int 0, .null, .null, .int 0, .null, .int 0], ia 64 (fun _ => 0), ia 64 (fun _ => 0), ia 700 (fun _ => 0), ia 16 (fun _ => 0), ia 8 (fun _ => 0), ia 16 (fun _ => 0)])) dX11_init_55 fl_X11_48 rfl rfl rfl (Nat.le_of_ble_eq_true rfl) (fun _ => ⟨rfl, rfl⟩) rfl ?_
  refine ab_aload_n dX11_init_58 rfl ?_
  refine ab_bipush (v := 16) dX11_init_59 (by decide) ?_
  refine ab_newiJ (N := 16) (w1 := (WC0, [ob 9 [.int 0, .int 0, .int 0, .int (-1), .ref 1001, .ref 1002, .int 0, .ref 1003, .int 0, .int 0, .int 0, .int 0, .int 0, .ref 1004, .ref 1005, .ref 1006, .null, .int 0, .int 0, .int 0, .int 0, .null, .null, .null, .null, .int 0, .int 0, .int 0, .int 0, .int 0, .int 0, .int 0, .int 0, .long 0, .long 0, .long 0, .long 0, .long 0, .long 0, .long 0, .long 0, .long 0, .long 0, .null, .null, .null, .int 0, .null, .int 0, .int 0, .null, .long 0, .long 0, .long 0, .long 0, .null, .int 0, .int 0, .int 0, .int 0, .null, .null, .int 0, .null, .int 0], ia 64 (fun _ => 0), ia 64 (fun _ => 0), ia 700 (fun _ => 0), ia 16 (fun _ => 0), ia 8 (fun _ => 0), ia 16 (fun _ => 0), ia 16 (fun _ => 0)])) (j := 1007) dX11_init_61 ⟨by decide, by decide, by decide⟩ (tb_of 64 (by decide +kernel) rfl) rfl ⟨by decide, by decide⟩ rfl rfl rfl ?_
  refine ab_putF (w1 := (WC0, [ob 9 [.int 0, .int 0, .int 0, .int (-1), .ref 1001, .ref 1002, .int 0, .ref 1003, .int 0, .int 0, .int 0, .int 0, .int 0, .ref 1004, .ref 1005, .ref 1006, .ref 1007, .int 0, .int 0, .int 0, .int 0, .null, .null, .null, .null, .int 0, .int 0, .int 0, .int 0, .int 0, .int 0, .int 0, .int 0, .long 0, .long 0, .long 0, .long 0, .long 0, .long 0, .long 0, .long 0, .long 0, .long 0, .null, .null, .null, .int 0, .null, .int 0, .int 0, .null, .long 0, .long 0, .long 0, .long 0, .null, .int 0, .int 0, .int 0, .int 0, .null, .null, .int 0, .null, .int 0], ia 64 (fun _ => 0), ia 64 (fun _ => 0), ia 700 (fun _ => 0), ia 16 (fun _ => 0), ia 8 (fun _ => 0), ia 16 (fun _ => 0), ia 16 (fun _ => 0)])) dX11_init_63 fl_X11_51 rfl rfl rfl (Nat.le_of_ble_eq_true rfl) (fun _ => ⟨rfl, rfl⟩) rfl ?_
  refine ab_aload_n dX11_init_66 rfl ?_
  refine ab_bipush (v := 16) dX11_init_67 (by decide) ?_
  refine ab_newiJ (N := 16) (w1 := (WC0, [ob 9 [.int 0, .int 0, .int 0, .int (-1), .ref 1001, .ref 1002, .int 0, .ref 1003, .int 0, .int 0, .int 0, .int 0, .int 0, .ref 1004, .ref 1005, .ref 1006, .ref 1007, .int 0, .int 0, .int 0, .int 0, .null, .null, .null, .null, .int 0, .int 0, .int 0, .int 0, .int 0, .int 0, .int 0, .int 0, .long 0, .long 0, .long 0, .long 0, .long 0, .long 0, .long 0, .long 0, .long 0, .long 0, .null, .null, .null, .int 0, .null, .int 0, .int 0, .null, .long 0, .long 0, .long 0, .long 0, .null, .int 0, .int 0, .int 0, .int 0, .null, .null, .int 0, .null, .int 0], ia 64 (fun _ => 0), ia 64 (fun _ => 0), ia 700 (fun _ => 0), ia 16 (fun _ => 0), ia 8 (fun _ => 0), ia 16 (fun _ => 0), ia 16 (fun _ => 0), ia 16 (fun _ => 0)])) (j := 1008) dX11_init_69 ⟨by decide, by decide, by decide⟩ (tb_of 64 (by decide +kernel) rfl) rfl ⟨by decide, by decide⟩ rfl rfl rfl ?_
  refine ab_putF (w1 := (WC0, [ob 9 [.int 0, .int 0, .int 0, .int (-1), .ref 1001, .ref 1002, .int 0, .ref 1003, .int 0, .int 0, .int 0, .int 0, .int 0, .ref 1004, .ref 1005, .ref 1006, .ref 1007, .int 0, .int 0, .int 0, .int 0, .ref 1008, .null, .null, .null, .int 0, .int 0, .int 0, .int 0, .int 0, .int 0, .int 0, .int 0, .long 0, .long 0, .long 0, .long 0, .long 0, .long 0, .long 0, .long 0, .long 0, .long 0, .null, .null, .null, .int 0, .null, .int 0, .int 0, .null, .long 0, .long 0, .long 0, .long 0, .null, .int 0, .int 0, .int 0, .int 0, .null, .null, .int 0, .null, .int 0], ia 64 (fun _ => 0), ia 64 (fun _ => 0), ia 700 (fun _ => 0), ia 16 (fun _ => 0), ia 8 (fun _ => 0), ia 16 (fun _ => 0), ia 16 (fun _ => 0), ia 16 (fun _ => 0)])) dX11_init_71 fl_X11_54 rfl rfl rfl (Nat.le_of_ble_eq_true rfl) (fun _ => ⟨rfl, rfl⟩) rfl ?_
  refine ab_aload_n dX11_init_74 rfl ?_
  refine ab_bipush (v := 8) dX11_init_75 (by decide) ?_
  refine ab_newiJ (N := 8) (w1 := (WC0, [ob 9 [.int 0, .int 0, .int 0, .int (-1), .ref 1001, .ref 1002, .int 0, .ref 1003, .int 0, .int 0, .int 0, .int 0, .int 0, .ref 1004, .ref 1005, .ref 1006, .ref 1007, .int 0, .int 0, .int 0, .int 0, .ref 1008, .null, .null, .null, .int 0, .int 0, .int 0, .int 0, .int 0, .int 0, .int 0, .int 0, .long 0, .long 0, .long 0, .long 0, .long 0, .long 0, .long 0, .long 0, .long 0, .long 0, .null, .null, .null, .int 0, .null, .int 0, .int 0, .null, .long 0, .long 0, .long 0, .long 0, .null, .int 0, .int 0, .int 0, .int 0, .null, .null, .int 0, .null, .int 0], ia 64 (fun _ => 0), ia 64 (fun _ => 0), ia 700 (fun _ => 0), ia 16 (fun _ => 0), ia 8 (fun _ => 0), ia 16 (fun _ => 0), ia 16 (fun _ => 0), ia 16 (fun _ => 0), ia 8 (fun _ => 0)])) (j := 1009) dX11_init_77 ⟨by decide, by decide, by decide⟩ (tb_of 64 (by decide +kernel) rfl) rfl ⟨by decide, by decide⟩ rfl rfl rfl ?_
  refine ab_putF (w1 := (WC0, [ob 9 [.int 0, .int 0, .int 0, .int (-1), .ref 1001, .ref 1002, .int 0, .ref 1003, .int 0, .int 0, .int 0, .int 0, .int 0, .ref 1004, .ref 1005, .ref 1006, .ref 1007, .int 0, .int 0, .int 0, .int 0, .ref 1008, .ref 1009, .null, .null, .int 0, .int 0, .int 0, .int 0, .int 0, .int 0, .int 0, .int 0, .long 0, .long 0, .long 0, .long 0, .long 0, .long 0, .long 0, .long 0, .long 0, .long 0, .null, .null, .null, .int 0, .null, .int 0, .int 0, .null, .long 0, .long 0, .long 0, .long 0, .null, .int 0, .int 0, .int 0, .int 0, .null, .null, .int 0, .null, .int 0], ia 64 (fun _ => 0), ia 64 (fun _ => 0), ia 700 (fun _ => 0), ia 16 (fun _ => 0), ia 8 (fun _ => 0), ia 16 (fun _ => 0), ia 16 (fun _ => 0), ia 16 (fun _ => 0), ia 8 (fun _ => 0)])) dX11_init_79 fl_X11_57 rfl rfl rfl (Nat.le_of_ble_eq_true rfl) (fun _ => ⟨rfl, rfl⟩) rfl ?_
  refine ab_aload_n dX11_init_82 rfl ?_
  refine ab_bipush (v := 16) dX11_init_83 (by decide) ?_
  refine ab_newiJ (N := 16) (w1 := (WC0, [ob 9 [.int 0, .int 0, .int 0, .int (-1), .ref 1001, .ref 1002, .int 0, .ref 1003, .int 0, .int 0, .int 0, .int 0, .int 0, .ref 1004, .ref 1005, .ref 1006, .ref 1007, .int 0, .int 0, .int 0, .int 0, .ref 1008, .ref 1009, .null, .null, .int 0, .int 0, .int 0, .int 0, .int 0, .int 0, .int 0, .int 0, .long 0, .long 0, .long 0, .long 0, .long 0, .long 0, .long 0, .long 0, .long 0, .long 0, .null, .null, .null, .int 0, .null, .int 0, .int 0, .null, .long 0, .long 0, .long 0, .long 0, .null, .int 0, .int 0, .int 0, .int 0, .null, .null, .int 0, .null, .int 0], ia 64 (fun _ => 0), ia 64 (fun _ => 0), ia 700 (fun _ => 0), ia 16 (fun _ => 0), ia 8 (fun _ => 0), ia 16 (fun _ => 0), ia 16 (fun _ => 0), ia 16 (fun _ => 0), ia 8 (fun _ => 0), ia 16 (fun _ => 0)])) (j := 1010) dX11_init_85 ⟨by decide, by decide, by decide⟩ (tb_of 64 (by decide +kernel) rfl) rfl ⟨by decide, by decide⟩ rfl rfl rfl ?_
  refine ab_putF (w1 := (WC0, [ob 9 [.int 0, .int 0, .int 0, .int (-1), .ref 1001, .ref 1002, .int 0, .ref 1003, .int 0, .int 0, .int 0, .int 0, .int 0, .ref 1004, .ref 1005, .ref 1006, .ref 1007, .int 0, .int 0, .int 0, .int 0, .ref 1008, .ref 1009, .ref 1010, .null, .int 0, .int 0, .int 0, .int 0, .int 0, .int 0, .int 0, .int 0, .long 0, .long 0, .long 0, .long 0, .long 0, .long 0, .long 0, .long 0, .long 0, .long 0, .null, .null, .null, .int 0, .null, .int 0, .int 0, .null, .long 0, .long 0, .long 0, .long 0, .null, .int 0, .int 0, .int 0, .int 0, .null, .null, .int 0, .null, .int 0], ia 64 (fun _ => 0), ia 64 (fun _ => 0), ia 700 (fun _ => 0), ia 16 (fun _ => 0), ia 8 (fun _ => 0), ia 16 (fun _ => 0), ia 16 (fun _ => 0), ia 16 (fun _ => 0), ia 8 (fun _ => 0), ia 16 (fun _ => 0)])) dX11_init_87 fl_X11_60 rfl rfl rfl (Nat.le_of_ble_eq_true rfl) (fun _ => ⟨rfl, rfl⟩) rfl ?_
  refine ab_aload_n dX11_init_90 rfl ?_
  refine ab_bipush (v := 16) dX11_init_91 (by decide) ?_
  refine ab_newiJ (N := 16) (w1 := (WC0, [ob 9 [.int 0, .int 0, .int 0, .int (-1), .ref 1001, .ref 1002, .int 0, .ref 1003, .int 0, .int 0, .int 0, .int 0, .int 0, .ref 1004, .ref 1005, .ref 1006, .ref 1007, .int 0, .int 0, .int 0, .int 0, .ref 1008, .ref 1009, .ref 1010, .null, .int 0, .int 0, .int 0, .int 0, .int 0, .int 0, .int 0, .int 0, .long 0, .long 0, .long 0, .long 0, .long 0, .long 0, .long 0, .long 0, .long 0, .long 0, .null, .null, .null, .int 0, .null, .int 0, .int 0, .null, .long 0, .long 0, .long 0, .long 0, .null, .int 0, .int 0, .int 0, .int 0, .null, .null, .int 0, .null, .int 0], ia 64 (fun _ => 0), ia 64 (fun _ => 0), ia 700 (fun _ => 0), ia 16 (fun _ => 0), ia 8 (fun _ => 0), ia 16 (fun _ => 0), ia 16 (fun _ => 0), ia 16 (fun _ => 0), ia 8 (fun _ => 0), ia 16 (fun _ => 0), ia 16 (fun _ => 0)])) (j := 1011) dX11_init_93 ⟨by decide, by decide, by decide⟩ (tb_of 64 (by decide +kernel) rfl) rfl ⟨by decide, by decide⟩ rfl rfl rfl ?_
  refine ab_putF (w1 := (WC0, [ob 9 [.int 0, .int 0, .int 0, .int (-1), .ref 1001, .ref 1002, .int 0, .ref 1003, .int 0, .int 0, .int 0, .int 0, .int 0, .ref 1004, .ref 1005, .ref 1006, .ref 1007, .int 0, .int 0, .int 0, .int 0, .ref 1008, .ref 1009, .ref 1010, .ref 1011, .int 0, .int 0, .int 0, .int 0, .int 0, .int 0, .int 0, .int 0, .long 0, .long 0, .long 0, .long 0, .long 0, .long 0, .long 0, .long 0, .long 0, .long 0, .null, .null, .null, .int 0, .null, .int 0, .int 0, .null, .long 0, .long 0, .long 0, .long 0, .null, .int 0, .int 0, .int 0, .int 0, .null, .null, .int 0, .null, .int 0], ia 64 (fun _ => 0), ia 64 (fun _ => 0), ia 700 (fun _ => 0), ia 16 (fun _ => 0), ia 8 (fun _ => 0), ia 16 (fun _ => 0), ia 16 (fun _ => 0), ia 16 (fun _ => 0), ia 8 (fun _ => 0), ia 16 (fun _ => 0), ia 16 (fun _ => 0)])) dX11_init_95 fl_X11_63 rfl rfl rfl (Nat.le_of_ble_eq_true rfl) (fun _ => ⟨rfl, rfl⟩) rfl ?_
  refine ab_aload_n dX11_init_98 rfl ?_
  refine ab_bipush (v := 64) dX11_init_99 (by decide) ?_
  refine ab_newiJ (N := 64) (w1 := (WC0, [ob 9 [.int 0, .int 0, .int 0, .int (-1), .ref 1001, .ref 1002, .int 0, .ref 1003, .int 0, .int 0, .int 0, .int 0, .int 0, .ref 1004, .ref 1005, .ref 1006, .ref 1007, .int 0, .int 0, .int 0, .int 0, .ref 1008, .ref 1009, .ref 1010, .ref 1011, .int 0, .int 0, .int 0, .int 0, .int 0, .int 0, .int 0, .int 0, .long 0, .long 0, .long 0, .long 0, .long 0, .long 0, .long 0, .long 0, .long 0, .long 0, .null, .null, .null, .int 0, .null, .int 0, .int 0, .null, .long 0, .long 0, .long 0, .long 0, .null, .int 0, .int 0, .int 0, .int 0, .null, .null, .int 0, .null, .int 0], ia 64 (fun _ => 0), ia 64 (fun _ => 0), ia 700 (fun _ => 0), ia 16 (fun _ => 0), ia 8 (fun _ => 0), ia 16 (fun _ => 0), ia 16 (fun _ => 0), ia 16 (fun _ => 0), ia 8 (fun _ => 0), ia 16 (fun _ => 0), ia 16 (fun _ => 0), ia 64 (fun _ => 0)])) (j := 1012) dX11_init_101 ⟨by decide, by decide, by decide⟩ (tb_of 64 (by decide +kernel) rfl) rfl ⟨by decide, by decide⟩ rfl rfl rfl ?_
  refine ab_putF (w1 := (WC0, [ob 9 [.int 0, .int 0, .int 0, .int (-1), .ref 1001, .ref 1002, .int 0, .ref 1003, .int 0, .int 0, .int 0, .int 0, .int 0, .ref 1004, .ref 1005, .ref 1006, .ref 1007, .int 0, .int 0, .int 0, .int 0, .ref 1008, .ref 1009, .ref 1010, .ref 1011, .int 0, .int 0, .int 0, .int 0, .int 0, .int 0, .int 0, .int 0, .long 0, .long 0, .long 0, .long 0, .long 0, .long 0, .long 0, .long 0, .long 0, .long 0, .ref 1012, .null, .null, .int 0, .null, .int 0, .int 0, .null, .long 0, .long 0, .long 0, .long 0, .null, .int 0, .int 0, .int 0, .int 0, .null, .null, .int 0, .null, .int 0], ia 64 (fun _ => 0), ia 64 (fun _ => 0), ia 700 (fun _ => 0), ia 16 (fun _ => 0), ia 8 (fun _ => 0), ia 16 (fun _ => 0), ia 16 (fun _ => 0), ia 16 (fun _ => 0), ia 8 (fun _ => 0), ia 16 (fun _ => 0), ia 16 (fun _ => 0), ia 64 (fun _ => 0)])) dX11_init_103 fl_X11_66 rfl rfl rfl (Nat.le_of_ble_eq_true rfl) (fun _ => ⟨rfl, rfl⟩) rfl ?_
  refine ab_aload_n dX11_init_106 rfl ?_
  refine ab_bipush (v := 64) dX11_init_107 (by decide) ?_
  refine ab_newiJ (N := 64) (w1 := (WC0, [ob 9 [.int 0, .int 0, .int 0, .int (-1), .ref 1001, .ref 1002, .int 0, .ref 1003, .int 0, .int 0, .int 0, .int 0, .int 0, .ref 1004, .ref 1005, .ref 1006, .ref 1007, .int 0, .int 0, .int 0, .int 0, .ref 1008, .ref 1009, .ref 1010, .ref 1011, .int 0, .int 0, .int 0, .int 0, .int 0, .int 0, .int 0, .int 0, .long 0, .long 0, .long 0, .long 0, .long 0, .long 0, .long 0, .long 0, .long 0, .long 0, .ref 1012, .null, .null, .int 0, .null, .int 0, .int 0, .null, .long 0, .long 0, .long 0, .long 0, .null, .int 0, .int 0, .int 0, .int 0, .null, .null, .int 0, .null, .int 0], ia 64 (fun _ => 0), ia 64 (fun _ => 0), ia 700 (fun _ => 0), ia 16 (fun _ => 0), ia 8 (fun _ => 0), ia 16 (fun _ => 0), ia 16 (fun _ => 0), ia 16 (fun _ => 0), ia 8 (fun _ => 0), ia 16 (fun _ => 0), ia 16 (fun _ => 0), ia 64 (fun _ => 0), ia 64 (fun _ => 0)])) (j := 1013) dX11_init_109 ⟨by decide, by decide, by decide⟩ (tb_of 64 (by decide +kernel) rfl) rfl ⟨by decide, by decide⟩ rfl rfl rfl ?_
  refine ab_putF (w1 := (WC0, [ob 9 [.int 0, .int 0, .int 0, .int (-1), .ref 1001, .ref 1002, .int 0, .ref 1003, .int 0, .int 0, .int 0, .int 0, .int 0, .ref 1004, .ref 1005, .ref 1006, .ref 1007, .int 0, .int 0, .int 0, .int 0, .ref 1008, .ref 1009, .ref 1010, .ref 1011, .int 0, .int 0, .int 0, .int 0, .int 0, .int 0, .int 0, .int 0, .long 0, .long 0, .long 0, .long 0, .long 0, .long 0, .long 0, .long 0, .long 0, .long 0, .ref 1012, .ref 1013, .null, .int 0, .null, .int 0, .int 0, .null, .long 0, .long 0, .long 0, .long 0, .null, .int 0, .int 0, .int 0, .int 0, .null, .null, .int 0, .null, .int 0], ia 64 (fun _ => 0), ia 64 (fun _ => 0), ia 700 (fun _ => 0), ia 16 (fun _ => 0), ia 8 (fun _ => 0), ia 16 (fun _ => 0), ia 16 (fun _ => 0), ia 16 (fun _ => 0), ia 8 (fun _ => 0), ia 16 (fun _ => 0), ia 16 (fun _ => 0), ia 64 (fun _ => 0), ia 64 (fun _ => 0)])) dX11_init_111 fl_X11_69 rfl rfl rfl (Nat.le_of_ble_eq_true rfl) (fun _ => ⟨rfl, rfl⟩) rfl ?_
  refine ab_aload_n dX11_init_114 rfl ?_
  refine ab_bipush (v := 64) dX11_init_115 (by decide) ?_
  refine ab_newiJ (N := 64) (w1 := (WC0, [ob 9 [.int 0, .int 0, .int 0, .int (-1), .ref 1001, .ref 1002, .int 0, .ref 1003, .int 0, .int 0, .int 0, .int 0, .int 0, .ref 1004, .ref 1005, .ref 1006, .ref 1007, .int 0, .int 0, .int 0, .int 0, .ref 1008, .ref 1009, .ref 1010, .ref 1011, .int 0, .int 0, .int 0, .int 0, .int 0, .int 0, .int 0, .int 0, .long 0, .long 0, .long 0, .long 0, .long 0, .long 0, .long 0, .long 0, .long 0, .long 0, .ref 1012, .ref 1013, .null, .int 0, .null, .int 0, .int 0, .null, .long 0, .long 0, .long 0, .long 0, .null, .int 0, .int 0, .int 0, .int 0, .null, .null, .int 0, .null, .int 0], ia 64 (fun _ => 0), ia 64 (fun _ => 0), ia 700 (fun _ => 0), ia 16 (fun _ => 0), ia 8 (fun _ => 0), ia 16 (fun _ => 0), ia 16 (fun _ => 0), ia 16 (fun _ => 0), ia 8 (fun _ => 0), ia 16 (fun _ => 0), ia 16 (fun _ => 0), ia 64 (fun _ => 0), ia 64 (fun _ => 0), ia 64 (fun _ => 0)])) (j := 1014) dX11_init_117 ⟨by decide, by decide, by decide⟩ (tb_of 64 (by decide +kernel) rfl) rfl ⟨by decide, by decide⟩ rfl rfl rfl ?_
  refine ab_putF (w1 := (WC0, [ob 9 [.int 0, .int 0, .int 0, .int (-1), .ref 1001, .ref 1002, .int 0, .ref 1003, .int 0, .int 0, .int 0, .int 0, .int 0, .ref 1004, .ref 1005, .ref 1006, .ref 1007, .int 0, .int 0, .int 0, .int 0, .ref 1008, .ref 1009, .ref 1010, .ref 1011, .int 0, .int 0, .int 0, .int 0, .int 0, .int 0, .int 0, .int 0, .long 0, .long 0, .long 0, .long 0, .long 0, .long 0, .long 0, .long 0, .long 0, .long 0, .ref 1012, .ref 1013, .ref 1014, .int 0, .null, .int 0, .int 0, .null, .long 0, .long 0, .long 0, .long 0, .null, .int 0, .int 0, .int 0, .int 0, .null, .null, .int 0, .null, .int 0], ia 64 (fun _ => 0), ia 64 (fun _ => 0), ia 700 (fun _ => 0), ia 16 (fun _ => 0), ia 8 (fun _ => 0), ia 16 (fun _ => 0), ia 16 (fun _ => 0), ia 16 (fun _ => 0), ia 8 (fun _ => 0), ia 16 (fun _ => 0), ia 16 (fun _ => 0), ia 64 (fun _ => 0), ia 64 (fun _ => 0), ia 64 (fun _ => 0)])) dX11_init_119 fl_X11_72 rfl rfl rfl (Nat.le_of_ble_eq_true rfl) (fun _ => ⟨rfl, rfl⟩) rfl ?_
  refine ab_aload_n dX11_init_122 rfl ?_
  refine ab_bipush (v := 64) dX11_init_123 (by decide) ?_
  refine ab_newiJ (N := 64) (w1 := (WC0, [ob 9 [.int 0, .int 0, .int 0, .int (-1), .ref 1001, .ref 1002, .int 0, .ref 1003, .int 0, .int 0, .int 0, .int 0, .int 0, .ref 1004, .ref 1005, .ref 1006, .ref 1007, .int 0, .int 0, .int 0, .int 0, .ref 1008, .ref 1009, .ref 1010, .ref 1011, .int 0, .int 0, .int 0, .int 0, .int 0, .int 0, .int 0, .int 0, .long 0, .long 0, .long 0, .long 0, .long 0, .long 0, .long 0, .long 0, .long 0, .long 0, .ref 1012, .ref 1013, .ref 1014, .int 0, .null, .int 0, .int 0, .null, .long 0, .long 0, .long 0, .long 0, .null, .int 0, .int 0, .int 0, .int 0, .null, .null, .int 0, .null, .int 0], ia 64 (fun _ => 0), ia 64 (fun _ => 0), ia 700 (fun _ => 0), ia 16 (fun _ => 0), ia 8 (fun _ => 0), ia 16 (fun _ => 0), ia 16 (fun _ => 0), ia 16 (fun _ => 0), ia 8 (fun _ => 0), ia 16 (fun _ => 0), ia 16 (fun _ => 0), ia 64 (fun _ => 0), ia 64 (fun _ => 0), ia 64 (fun _ => 0), ia 64 (fun _ => 0)])) (j := 1015) dX11_init_125 ⟨by decide, by decide, by decide⟩ (tb_of 64 (by decide +kernel) rfl) rfl ⟨by decide, by decide⟩ rfl rfl rfl ?_
  refine ab_putF (w1 := (WC0, [ob 9 [.int 0, .int 0, .int 0, .int (-1), .ref 1001, .ref 1002, .int 0, .ref 1003, .int 0, .int 0, .int 0, .int 0, .int 0, .ref 1004, .ref 1005, .ref 1006, .ref 1007, .int 0, .int 0, .int 0, .int 0, .ref 1008, .ref 1009, .ref 1010, .ref 1011, .int 0, .int 0, .int 0, .int 0, .int 0, .int 0, .int 0, .int 0, .long 0, .long 0, .long 0, .long 0, .long 0, .long 0, .long 0, .long 0, .long 0, .long 0, .ref 1012, .ref 1013, .ref 1014, .int 0, .ref 1015, .int 0, .int 0, .null, .long 0, .long 0, .long 0, .long 0, .null, .int 0, .int 0, .int 0, .int 0, .null, .null, .int 0, .null, .int 0], ia 64 (fun _ => 0), ia 64 (fun _ => 0), ia 700 (fun _ => 0), ia 16 (fun _ => 0), ia 8 (fun _ => 0), ia 16 (fun _ => 0), ia 16 (fun _ => 0), ia 16 (fun _ => 0), ia 8 (fun _ => 0), ia 16 (fun _ => 0), ia 16 (fun _ => 0), ia 64 (fun _ => 0), ia 64 (fun _ => 0), ia 64 (fun _ => 0), ia 64 (fun _ => 0)])) dX11_init_127 fl_X11_75 rfl rfl rfl (Nat.le_of_ble_eq_true rfl) (fun _ => ⟨rfl, rfl⟩) rfl ?_
  refine ab_aload_n dX11_init_130 rfl ?_
  refine ab_iconst (v := 3) dX11_init_131 (by decide) ?_
  refine ab_newiJ (N := 3) (w1 := (WC0, [ob 9 [.int 0, .int 0, .int 0, .int (-1), .ref 1001, .ref 1002, .int 0, .ref 1003, .int 0, .int 0, .int 0, .int 0, .int 0, .ref 1004, .ref 1005, .ref 1006, .ref 1007, .int 0, .int 0, .int 0, .int 0, .ref 1008, .ref 1009, .ref 1010, .ref 1011, .int 0, .int 0, .int 0, .int 0, .int 0, .int 0, .int 0, .int 0, .long 0, .long 0, .long 0, .long 0, .long 0, .long 0, .long 0, .long 0, .long 0, .long 0, .ref 1012, .ref 1013, .ref 1014, .int 0, .ref 1015, .int 0, .int 0, .null, .long 0, .long 0, .long 0, .long 0, .null, .int 0, .int 0, .int 0, .int 0, .null, .null, .int 0, .null, .int 0], ia 64 (fun _ => 0), ia 64 (fun _ => 0), ia 700 (fun _ => 0), ia 16 (fun _ => 0), ia 8 (fun _ => 0), ia 16 (fun _ => 0), ia 16 (fun _ => 0), ia 16 (fun _ => 0), ia 8 (fun _ => 0), ia 16 (fun _ => 0), ia 16 (fun _ => 0), ia 64 (fun _ => 0), ia 64 (fun _ => 0), ia 64 (fun _ => 0), ia 64 (fun _ => 0), ia 3 (fun _ => 0)])) (j := 1016) dX11_init_132 ⟨by decide, by decide, by decide⟩ (tb_of 64 (by decide +kernel) rfl) rfl ⟨by decide, by decide⟩ rfl rfl rfl ?_
  refine ab_putF (w1 := (WC0, [ob 9 [.int 0, .int 0, .int 0, .int (-1), .ref 1001, .ref 1002, .int 0, .ref 1003, .int 0, .int 0, .int 0, .int 0, .int 0, .ref 1004, .ref 1005, .ref 1006, .ref 1007, .int 0, .int 0, .int 0, .int 0, .ref 1008, .ref 1009, .ref 1010, .ref 1011, .int 0, .int 0, .int 0, .int 0, .int 0, .int 0, .int 0, .int 0, .long 0, .long 0, .long 0, .long 0, .long 0, .long 0, .long 0, .long 0, .long 0, .long 0, .ref 1012, .ref 1013, .ref 1014, .int 0, .ref 1015, .int 0, .int 0, .ref 1016, .long 0, .long 0, .long 0, .long 0, .null, .int 0, .int 0, .int 0, .int 0, .null, .null, .int 0, .null, .int 0], ia 64 (fun _ => 0), ia 64 (fun _ => 0), ia 700 (fun _ => 0), ia 16 (fun _ => 0), ia 8 (fun _ => 0), ia 16 (fun _ => 0), ia 16 (fun _ => 0), ia 16 (fun _ => 0), ia 8 (fun _ => 0), ia 16 (fun _ => 0), ia 16 (fun _ => 0), ia 64 (fun _ => 0), ia 64 (fun _ => 0), ia 64 (fun _ => 0), ia 64 (fun _ => 0), ia 3 (fun _ => 0)])) dX11_init_134 fl_X11_78 rfl rfl rfl (Nat.le_of_ble_eq_true rfl) (fun _ => ⟨rfl, rfl⟩) rfl ?_
  refine ab_aload_n dX11_init_137 rfl ?_
  refine ab_bipush (v := 12) dX11_init_138 (by decide) ?_
  refine ab_newlJ (N := 12) (w1 := (WC0, [ob 9 [.int 0, .int 0, .int 0, .int (-1), .ref 1001, .ref 1002, .int 0, .ref 1003, .int 0, .int 0, .int 0, .int 0, .int 0, .ref 1004, .ref 1005, .ref 1006, .ref 1007, .int 0, .int 0, .int 0, .int 0, .ref 1008, .ref 1009, .ref 1010, .ref 1011, .int 0, .int 0, .int 0, .int 0, .int 0, .int 0, .int 0, .int 0, .long 0, .long 0, .long 0, .long 0, .long 0, .long 0, .long 0, .long 0, .long 0, .long 0, .ref 1012, .ref 1013, .ref 1014, .int 0, .ref 1015, .int 0, .int 0, .ref 1016, .long 0, .long 0, .long 0, .long 0, .null, .int 0, .int 0, .int 0, .int 0, .null, .null, .int 0, .null, .int 0], ia 64 (fun _ => 0), ia 64 (fun _ => 0), ia 700 (fun _ => 0), ia 16 (fun _ => 0), ia 8 (fun _ => 0), ia 16 (fun _ => 0), ia 16 (fun _ => 0), ia 16 (fun _ => 0), ia 8 (fun _ => 0), ia 16 (fun _ => 0), ia 16 (fun _ => 0), ia 64 (fun _ => 0), ia 64 (fun _ => 0), ia 64 (fun _ => 0), ia 64 (fun _ => 0), ia 3 (fun _ => 0), ja 12 (fun _ => 0)])) (j := 1017) dX11_init_140 ⟨by decide, by decide, by decide⟩ (tb_of 247 (by decide +kernel) rfl) rfl ⟨by decide, by decide⟩ rfl rfl rfl ?_
  refine ab_putF (w1 := (WC0, [ob 9 [.int 0, .int 0, .int 0, .int (-1), .ref 1001, .ref 1002, .int 0, .ref 1003, .int 0, .int 0, .int 0, .int 0, .int 0, .ref 1004, .ref 1005, .ref 1006, .ref 1007, .int 0, .int 0, .int 0, .int 0, .ref 1008, .ref 1009, .ref 1010, .ref 1011, .int 0, .int 0, .int 0, .int 0, .int 0, .int 0, .int 0, .int 0, .long 0, .long 0, .long 0, .long 0, .long 0, .long 0, .long 0, .long 0, .long 0, .long 0, .ref 1012, .ref 1013, .ref 1014, .int 0, .ref 1015, .int 0, .int 0, .ref 1016, .long 0, .long 0, .long 0, .long 0, .ref 1017, .int 0, .int 0, .int 0, .int 0, .null, .null, .int 0, .null, .int 0], ia 64 (fun _ => 0), ia 64 (fun _ => 0), ia 700 (fun _ => 0), ia 16 (fun _ => 0), ia 8 (fun _ => 0), ia 16 (fun _ => 0), ia 16 (fun _ => 0), ia 16 (fun _ => 0), ia 8 (fun _ => 0), ia 16 (fun _ => 0), ia 16 (fun _ => 0), ia 64 (fun _ => 0), ia 64 (fun _ => 0), ia 64 (fun _ => 0), ia 64 (fun _ => 0), ia 3 (fun _ => 0), ja 12 (fun _ => 0)])) dX11_init_142 fl_X11_81 rfl rfl rfl (Nat.le_of_ble_eq_true rfl) (fun _ => ⟨rfl, rfl⟩) rfl ?_
  refine ab_aload_n dX11_init_145 rfl ?_
  refine ab_iconst (v := -1) dX11_init_146 (by decide) ?_
  refine ab_putf (w1 := (WC0, [ob 9 [.int 0, .int 0, .int 0, .int (-1), .ref 1001, .ref 1002, .int 0, .ref 1003, .int 0, .int 0, .int 0, .int 0, .int 0, .ref 1004, .ref 1005, .ref 1006, .ref 1007, .int 0, .int 0, .int 0, .int 0, .ref 1008, .ref 1009, .ref 1010, .ref 1011, .int 0, .int 0, .int 0, .int 0, .int 0, .int 0, .int 0, .int 0, .long 0, .long 0, .long 0, .long 0, .long 0, .long 0, .long 0, .long 0, .long 0, .long 0, .ref 1012, .ref 1013, .ref 1014, .int 0, .ref 1015, .int 0, .int 0, .ref 1016, .long 0, .long 0, .long 0, .long 0, .ref 1017, .int (-1), .int 0, .int 0, .int 0, .null, .null, .int 0, .null, .int 0], ia 64 (fun _ => 0), ia 64 (fun _ => 0), ia 700 (fun _ => 0), ia 16 (fun _ => 0), ia 8 (fun _ => 0), ia 16 (fun _ => 0), ia 16 (fun _ => 0), ia 16 (fun _ => 0), ia 8 (fun _ => 0), ia 16 (fun _ => 0), ia 16 (fun _ => 0), ia 64 (fun _ => 0), ia 64 (fun _ => 0), ia 64 (fun _ => 0), ia 64 (fun _ => 0), ia 3 (fun _ => 0), ja 12 (fun _ => 0)])) dX11_init_147 fl_X11_85 rfl (Nat.le_of_ble_eq_true rfl) (fun _ => ⟨rfl, rfl⟩) rfl ?_
  refine ab_aload_n dX11_init_150 rfl ?_
  refine ab_sipush (v := 128) dX11_init_151 (by decide) ?_
  refine ab_newiJ (N := 128) (w1 := (WC0, [ob 9 [.int 0, .int 0, .int 0, .int (-1), .ref 1001, .ref 1002, .int 0, .ref 1003, .int 0, .int 0, .int 0, .int 0, .int 0, .ref 1004, .ref 1005, .ref 1006, .ref 1007, .int 0, .int 0, .int 0, .int 0, .ref 1008, .ref 1009, .ref 1010, .ref 1011, .int 0, .int 0, .int 0, .int 0, .int 0, .int 0, .int 0, .int 0, .long 0, .long 0, .long 0, .long 0, .long 0, .long 0, .long 0, .long 0, .long 0, .long 0, .ref 1012, .ref 1013, .ref 1014, .int 0, .ref 1015, .int 0, .int 0, .ref 1016, .long 0, .long 0, .long 0, .long 0, .ref 1017, .int (-1), .int 0, .int 0, .int 0, .null, .null, .int 0, .null, .int 0], ia 64 (fun _ => 0), ia 64 (fun _ => 0), ia 700 (fun _ => 0), ia 16 (fun _ => 0), ia 8 (fun _ => 0), ia 16 (fun _ => 0), ia 16 (fun _ => 0), ia 16 (fun _ => 0), ia 8 (fun _ => 0), ia 16 (fun _ => 0), ia 16 (fun _ => 0), ia 64 (fun _ => 0), ia 64 (fun _ => 0), ia 64 (fun _ => 0), ia 64 (fun _ => 0), ia 3 (fun _ => 0), ja 12 (fun _ => 0), ia 128 (fun _ => 0)])) (j := 1018) dX11_init_154 ⟨by decide, by decide, by decide⟩ (tb_of 64 (by decide +kernel) rfl) rfl ⟨by decide, by decide⟩ rfl rfl rfl ?_
  refine ab_putF (w1 := (WC0, [ob 9 [.int 0, .int 0, .int 0, .int (-1), .ref 1001, .ref 1002, .int 0, .ref 1003, .int 0, .int 0, .int 0, .int 0, .int 0, .ref 1004, .ref 1005, .ref 1006, .ref 1007, .int 0, .int 0, .int 0, .int 0, .ref 1008, .ref 1009, .ref 1010, .ref 1011, .int 0, .int 0, .int 0, .int 0, .int 0, .int 0, .int 0, .int 0, .long 0, .long 0, .long 0, .long 0, .long 0, .long 0, .long 0, .long 0, .long 0, .long 0, .ref 1012, .ref 1013, .ref 1014, .int 0, .ref 1015, .int 0, .int 0, .ref 1016, .long 0, .long 0, .long 0, .long 0, .ref 1017, .int (-1), .int 0, .int 0, .int 0, .ref 1018, .null, .int 0, .null, .int 0], ia 64 (fun _ => 0), ia 64 (fun _ => 0), ia 700 (fun _ => 0), ia 16 (fun _ => 0), ia 8 (fun _ => 0), ia 16 (fun _ => 0), ia 16 (fun _ => 0), ia 16 (fun _ => 0), ia 8 (fun _ => 0), ia 16 (fun _ => 0), ia 16 (fun _ => 0), ia 64 (fun _ => 0), ia 64 (fun _ => 0), ia 64 (fun _ => 0), ia 64 (fun _ => 0), ia 3 (fun _ => 0), ja 12 (fun _ => 0), ia 128 (fun _ => 0)])) dX11_init_156 fl_X11_88 rfl rfl rfl (Nat.le_of_ble_eq_true rfl) (fun _ => ⟨rfl, rfl⟩) rfl ?_
  refine ab_aload_n dX11_init_159 rfl ?_
  refine ab_sipush (v := 128) dX11_init_160 (by decide) ?_
  refine ab_newiJ (N := 128) (w1 := (WC0, [ob 9 [.int 0, .int 0, .int 0, .int (-1), .ref 1001, .ref 1002, .int 0, .ref 1003, .int 0, .int 0, .int 0, .int 0, .int 0, .ref 1004, .ref 1005, .ref 1006, .ref 1007, .int 0, .int 0, .int 0, .int 0, .ref 1008, .ref 1009, .ref 1010, .ref 1011, .int 0, .int 0, .int 0, .int 0, .int 0, .int 0, .int 0, .int 0, .long 0, .long 0, .long 0, .long 0, .long 0, .long 0, .long 0, .long 0, .long 0, .long 0, .ref 1012, .ref 1013, .ref 1014, .int 0, .ref 1015, .int 0, .int 0, .ref 1016, .long 0, .long 0, .long 0, .long 0, .ref 1017, .int (-1), .int 0, .int 0, .int 0, .ref 1018, .null, .int 0, .null, .int 0], ia 64 (fun _ => 0), ia 64 (fun _ => 0), ia 700 (fun _ => 0), ia 16 (fun _ => 0), ia 8 (fun _ => 0), ia 16 (fun _ => 0), ia 16 (fun _ => 0), ia 16 (fun _ => 0), ia 8 (fun _ => 0), ia 16 (fun _ => 0), ia 16 (fun _ => 0), ia 64 (fun _ => 0), ia 64 (fun _ => 0), ia 64 (fun _ => 0), ia 64 (fun _ => 0), ia 3 (fun _ => 0), ja 12 (fun _ => 0), ia 128 (fun _ => 0), ia 128 (fun _ => 0)])) (j := 1019) dX11_init_163 ⟨by decide, by decide, by decide⟩ (tb_of 64 (by decide +kernel) rfl) rfl ⟨by decide, by decide⟩ rfl rfl rfl ?_
  refine ab_putF (w1 := (WC0, [ob 9 [.int 0, .int 0, .int 0, .int (-1), .ref 1001, .ref 1002, .int 0, .ref 1003, .int 0, .int 0, .int 0, .int 0, .int 0, .ref 1004, .ref 1005, .ref 1006, .ref 1007, .int 0, .int 0, .int 0, .int 0, .ref 1008, .ref 1009, .ref 1010, .ref 1011, .int 0, .int 0, .int 0, .int 0, .int 0, .int 0, .int 0, .int 0, .long 0, .long 0, .long 0, .long 0, .long 0, .long 0, .long 0, .long 0, .long 0, .long 0, .ref 1012, .ref 1013, .ref 1014, .int 0, .ref 1015, .int 0, .int 0, .ref 1016, .long 0, .long 0, .long 0, .long 0, .ref 1017, .int (-1), .int 0, .int 0, .int 0, .ref 1018, .ref 1019, .int 0, .null, .int 0], ia 64 (fun _ => 0), ia 64 (fun _ => 0), ia 700 (fun _ => 0), ia 16 (fun _ => 0), ia 8 (fun _ => 0), ia 16 (fun _ => 0), ia 16 (fun _ => 0), ia 16 (fun _ => 0), ia 8 (fun _ => 0), ia 16 (fun _ => 0), ia 16 (fun _ => 0), ia 64 (fun _ => 0), ia 64 (fun _ => 0), ia 64 (fun _ => 0), ia 64 (fun _ => 0), ia 3 (fun _ => 0), ja 12 (fun _ => 0), ia 128 (fun _ => 0), ia 128 (fun _ => 0)])) dX11_init_165 fl_X11_91 rfl rfl rfl (Nat.le_of_ble_eq_true rfl) (fun _ => ⟨rfl, rfl⟩) rfl ?_
  refine ab_aload_n dX11_init_168 rfl ?_
  refine ab_bipush (v := 30) dX11_init_169 (by decide) ?_
  refine ab_newiJ (N := 30) (w1 := (WC0, [ob 9 [.int 0, .int 0, .int 0, .int (-1), .ref 1001, .ref 1002, .int 0, .ref 1003, .int 0, .int 0, .int 0, .int 0, .int 0, .ref 1004, .ref 1005, .ref 1006, .ref 1007, .int 0, .int 0, .int 0, .int 0, .ref 1008, .ref 1009, .ref 1010, .ref 1011, .int 0, .int 0, .int 0, .int 0, .int 0, .int 0, .int 0, .int 0, .long 0, .long 0, .long 0, .long 0, .long 0, .long 0, .long 0, .long 0, .long 0, .long 0, .ref 1012, .ref 1013, .ref 1014, .int 0, .ref 1015, .int 0, .int 0, .ref 1016, .long 0, .long 0, .long 0, .long 0, .ref 1017, .int (-1), .int 0, .int 0, .int 0, .ref 1018, .ref 1019, .int 0, .null, .int 0], ia 64 (fun _ => 0), ia 64 (fun _ => 0), ia 700 (fun _ => 0), ia 16 (fun _ => 0), ia 8 (fun _ => 0), ia 16 (fun _ => 0), ia 16 (fun _ => 0), ia 16 (fun _ => 0), ia 8 (fun _ => 0), ia 16 (fun _ => 0), ia 16 (fun _ => 0), ia 64 (fun _ => 0), ia 64 (fun _ => 0), ia 64 (fun _ => 0), ia 64 (fun _ => 0), ia 3 (fun _ => 0), ja 12 (fun _ => 0), ia 128 (fun _ => 0), ia 128 (fun _ => 0), ia 30 (fun _ => 0)])) (j := 1020) dX11_init_171 ⟨by decide, by decide, by decide⟩ (tb_of 64 (by decide +kernel) rfl) rfl ⟨by decide, by decide⟩ rfl rfl rfl ?_
  refine ab_putF (w1 := (WC0, [ob 9 [.int 0, .int 0, .int 0, .int (-1), .ref 1001, .ref 1002, .int 0, .ref 1003, .int 0, .int 0, .int 0, .int 0, .int 0, .ref 1004, .ref 1005, .ref 1006, .ref 1007, .int 0, .int 0, .int 0, .int 0, .ref 1008, .ref 1009, .ref 1010, .ref 1011, .int 0, .int 0, .int 0, .int 0, .int 0, .int 0, .int 0, .int 0, .long 0, .long 0, .long 0, .long 0, .long 0, .long 0, .long 0, .long 0, .long 0, .long 0, .ref 1012, .ref 1013, .ref 1014, .int 0, .ref 1015, .int 0, .int 0, .ref 1016, .long 0, .long 0, .long 0, .long 0, .ref 1017, .int (-1), .int 0, .int 0, .int 0, .ref 1018, .ref 1019, .int 0, .ref 1020, .int 0], ia 64 (fun _ => 0), ia 64 (fun _ => 0), ia 700 (fun _ => 0), ia 16 (fun _ => 0), ia 8 (fun _ => 0), ia 16 (fun _ => 0), ia 16 (fun _ => 0), ia 16 (fun _ => 0), ia 8 (fun _ => 0), ia 16 (fun _ => 0), ia 16 (fun _ => 0), ia 64 (fun _ => 0), ia 64 (fun _ => 0), ia 64 (fun _ => 0), ia 64 (fun _ => 0), ia 3 (fun _ => 0), ja 12 (fun _ => 0), ia 128 (fun _ => 0), ia 128 (fun _ => 0), ia 30 (fun _ => 0)])) dX11_init_173 fl_X11_94 rfl rfl rfl (Nat.le_of_ble_eq_true rfl) (fun _ => ⟨rfl, rfl⟩) rfl ?_
  refine ab_bipush (v := -5) dX11_init_176 (by decide) ?_
  refine ab_istore_n (la' := [(1, .int (-5)), (0, .ref 1000)]) dX11_init_178 (by decide) rfl ?_
  refine ab_world (WC0, [ob 9 [.int 0, .int 0, .int 0, .int (-1), .ref 1001, .ref 1002, .int 0, .ref 1003, .int 0, .int 0, .int 0, .int 0, .int 0, .ref 1004, .ref 1005, .ref 1006, .ref 1007, .int 0, .int 0, .int 0, .int 0, .ref 1008, .ref 1009, .ref 1010, .ref 1011, .int 0, .int 0, .int 0, .int 0, .int 0, .int 0, .int 0, .int 0, .long 0, .long 0, .long 0, .long 0, .long 0, .long 0, .long 0, .long 0, .long 0, .long 0, .ref 1012, .ref 1013, .ref 1014, .int 0, .ref 1015, .int 0, .int 0, .ref 1016, .long 0, .long 0, .long 0, .long 0, .ref 1017, .int (-1), .int 0, .int 0, .int 0, .ref 1018, .ref 1019, .int 0, .ref 1020, .int 0], ia 64 (lf tL_0), ia 64 (lf tM_0), ia 700 (fun _ => 0), ia 16 (fun _ => 0), ia 8 (fun _ => 0), ia 16 (fun _ => 0), ia 16 (fun _ => 0), ia 16 (fun _ => 0), ia 8 (fun _ => 0), ia 16 (fun _ => 0), ia 16 (fun _ => 0), ia 64 (fun _ => 0), ia 64 (fun _ => 0), ia 64 (fun _ => 0), ia 64 (fun _ => 0), ia 3 (fun _ => 0), ja 12 (fun _ => 0), ia 128 (fun _ => 0), ia 128 (fun _ => 0), ia 30 (fun _ => 0)]) rfl ?_
  refine ab_iload_n dX11_init_179 rfl ?_
  refine ab_iconst (v := 5) dX11_init_180 (by decide) ?_
  refine ab_icmpgt 221 dX11_init_181 (by decide) (fun h_1 => absurd h_1 (by decide)) (fun h_1 => ?_)
  refine ab_iconst (v := 1) dX11_init_184 (by decide) ?_
  refine ab_istore_n (la' := [(2, .int 1), (1, .int (-5)), (0, .ref 1000)]) dX11_init_185 (by decide) rfl ?_
  refine ab_iload_n dX11_init_186 rfl ?_
  refine ab_iconst (v := 5) dX11_init_187 (by decide) ?_
  refine ab_icmpgt 215 dX11_init_188 (by decide) (fun h_2 => absurd h_2 (by decide)) (fun h_2 => ?_)
  refine ab_iload_n dX11_init_191 rfl ?_
  refine ab_i2l dX11_init_192 ?_
  refine ab_iload_n dX11_init_193 rfl ?_
  refine ab_i2l dX11_init_194 ?_
  refine ab_callS (As := [.long (Int32.toInt64 (-5)), .long (Int32.toInt64 1)]) (rest := []) dX11_init_195 ms_X11_common ml_X11_22 ⟨by decide, by decide, rfl, rfl, rfl⟩ (by decide) rfl rfl (Nat.le_of_ble_eq_true rfl) (c_X11_common (by decide) (by decide)) ?_
  rintro r w' ⟨rfl, rfl⟩
  refine ab_topl (v := 1) (by decide) ?_
  refine ab_lconst (v := 1) dX11_init_198 (by decide) ?_
  refine ab_lcmpne 209 dX11_init_199 dX11_init_200 (by decide) (fun h_3 => absurd (by decide) h_3) (fun h_3 => ?_)
  refine ab_aload_n dX11_init_203 rfl ?_
  refine ab_iload_n dX11_init_204 rfl ?_
  refine ab_iload_n dX11_init_205 rfl ?_
  refine ab_callV (As := [.int (-5), .int 1]) (rest := []) dX11_init_206 mv_X11_puts ml_X11_97 ⟨by decide, by decide, rfl, rfl, rfl⟩ (by decide) rfl rfl (Nat.le_of_ble_eq_true rfl) rfl (c_X11_puts (n := 0) (f := (lf tL_0)) (g := (lf tM_0)) (by decide)) ?_
  rintro r w' ⟨rfl, rfl⟩
  refine ab_world (WC0, [ob 9 [.int 0, .int 0, .int 0, .int (-1), .ref 1001, .ref 1002, .int 1, .ref 1003, .int 0, .int 0, .int 0, .int 0, .int 0, .ref 1004, .ref 1005, .ref 1006, .ref 1007, .int 0, .int 0, .int 0, .int 0, .ref 1008, .ref 1009, .ref 1010, .ref 1011, .int 0, .int 0, .int 0, .int 0, .int 0, .int 0, .int 0, .int 0, .long 0, .long 0, .long 0, .long 0, .long 0, .long 0, .long 0, .long 0, .long 0, .long 0, .ref 1012, .ref 1013, .ref 1014, .int 0, .ref 1015, .int 0, .int 0, .ref 1016, .long 0, .long 0, .long 0, .long 0, .ref 1017, .int (-1), .int 0, .int 0, .int 0, .ref 1018, .ref 1019, .int 0, .ref 1020, .int 0], ia 64 (lf tL_1), ia 64 (lf tM_1), ia 700 (fun _ => 0), ia 16 (fun _ => 0), ia 8 (fun _ => 0), ia 16 (fun _ => 0), ia 16 (fun _ => 0), ia 16 (fun _ => 0), ia 8 (fun _ => 0), ia 16 (fun _ => 0), ia 16 (fun _ => 0), ia 64 (fun _ => 0), ia 64 (fun _ => 0), ia 64 (fun _ => 0), ia 64 (fun _ => 0), ia 3 (fun _ => 0), ja 12 (fun _ => 0), ia 128 (fun _ => 0), ia 128 (fun _ => 0), ia 30 (fun _ => 0)]) (by rw [ins_0]; rfl) ?_
  refine ab_iinc (v := 2) (la' := [(2, .int 2), (1, .int (-5)), (0, .ref 1000)]) dX11_init_209 rfl (by decide) (by decide) rfl ?_
  refine ab_goto 186 dX11_init_212 (by decide) ?_
  refine ab_iload_n dX11_init_186 rfl ?_
  refine ab_iconst (v := 5) dX11_init_187 (by decide) ?_
  refine ab_icmpgt 215 dX11_init_188 (by decide) (fun h_4 => absurd h_4 (by decide)) (fun h_4 => ?_)
  refine ab_iload_n dX11_init_191 rfl ?_
  refine ab_i2l dX11_init_192 ?_
  refine ab_iload_n dX11_init_193 rfl ?_
  refine ab_i2l dX11_init_194 ?_
  refine ab_callS (As := [.long (Int32.toInt64 (-5)), .long (Int32.toInt64 2)]) (rest := []) dX11_init_195 ms_X11_common ml_X11_22 ⟨by decide, by decide, rfl, rfl, rfl⟩ (by decide) rfl rfl (Nat.le_of_ble_eq_true rfl) (c_X11_common (by decide) (by decide)) ?_
  rintro r w' ⟨rfl, rfl⟩
  refine ab_topl (v := 1) (by decide) ?_
  refine ab_lconst (v := 1) dX11_init_198 (by decide) ?_
  refine ab_lcmpne 209 dX11_init_199 dX11_init_200 (by decide) (fun h_5 => absurd (by decide) h_5) (fun h_5 => ?_)
  refine ab_aload_n dX11_init_203 rfl ?_
  refine ab_iload_n dX11_init_204 rfl ?_
  refine ab_iload_n dX11_init_205 rfl ?_
  refine ab_callV (As := [.int (-5), .int 2]) (rest := []) dX11_init_206 mv_X11_puts ml_X11_97 ⟨by decide, by decide, rfl, rfl, rfl⟩ (by decide) rfl rfl (Nat.le_of_ble_eq_true rfl) rfl (c_X11_puts (n := 1) (f := (lf tL_1)) (g := (lf tM_1)) (by decide)) ?_
  rintro r w' ⟨rfl, rfl⟩
  refine ab_world (WC0, [ob 9 [.int 0, .int 0, .int 0, .int (-1), .ref 1001, .ref 1002, .int 2, .ref 1003, .int 0, .int 0, .int 0, .int 0, .int 0, .ref 1004, .ref 1005, .ref 1006, .ref 1007, .int 0, .int 0, .int 0, .int 0, .ref 1008, .ref 1009, .ref 1010, .ref 1011, .int 0, .int 0, .int 0, .int 0, .int 0, .int 0, .int 0, .int 0, .long 0, .long 0, .long 0, .long 0, .long 0, .long 0, .long 0, .long 0, .long 0, .long 0, .ref 1012, .ref 1013, .ref 1014, .int 0, .ref 1015, .int 0, .int 0, .ref 1016, .long 0, .long 0, .long 0, .long 0, .ref 1017, .int (-1), .int 0, .int 0, .int 0, .ref 1018, .ref 1019, .int 0, .ref 1020, .int 0], ia 64 (lf tL_2), ia 64 (lf tM_2), ia 700 (fun _ => 0), ia 16 (fun _ => 0), ia 8 (fun _ => 0), ia 16 (fun _ => 0), ia 16 (fun _ => 0), ia 16 (fun _ => 0), ia 8 (fun _ => 0), ia 16 (fun _ => 0), ia 16 (fun _ => 0), ia 64 (fun _ => 0), ia 64 (fun _ => 0), ia 64 (fun _ => 0), ia 64 (fun _ => 0), ia 3 (fun _ => 0), ja 12 (fun _ => 0), ia 128 (fun _ => 0), ia 128 (fun _ => 0), ia 30 (fun _ => 0)]) (by rw [ins_1]; rfl) ?_
  refine ab_iinc (v := 3) (la' := [(2, .int 3), (1, .int (-5)), (0, .ref 1000)]) dX11_init_209 rfl (by decide) (by decide) rfl ?_
  refine ab_goto 186 dX11_init_212 (by decide) ?_
  refine ab_iload_n dX11_init_186 rfl ?_
  refine ab_iconst (v := 5) dX11_init_187 (by decide) ?_
  refine ab_icmpgt 215 dX11_init_188 (by decide) (fun h_6 => absurd h_6 (by decide)) (fun h_6 => ?_)
  refine ab_iload_n dX11_init_191 rfl ?_
  refine ab_i2l dX11_init_192 ?_
  refine ab_iload_n dX11_init_193 rfl ?_
  refine ab_i2l dX11_init_194 ?_
  refine ab_callS (As := [.long (Int32.toInt64 (-5)), .long (Int32.toInt64 3)]) (rest := []) dX11_init_195 ms_X11_common ml_X11_22 ⟨by decide, by decide, rfl, rfl, rfl⟩ (by decide) rfl rfl (Nat.le_of_ble_eq_true rfl) (c_X11_common (by decide) (by decide)) ?_
  rintro r w' ⟨rfl, rfl⟩
  refine ab_topl (v := 1) (by decide) ?_
  refine ab_lconst (v := 1) dX11_init_198 (by decide) ?_
  refine ab_lcmpne 209 dX11_init_199 dX11_init_200 (by decide) (fun h_7 => absurd (by decide) h_7) (fun h_7 => ?_)
  refine ab_aload_n dX11_init_203 rfl ?_
  refine ab_iload_n dX11_init_204 rfl ?_
  refine ab_iload_n dX11_init_205 rfl ?_
  refine ab_callV (As := [.int (-5), .int 3]) (rest := []) dX11_init_206 mv_X11_puts ml_X11_97 ⟨by decide, by decide, rfl, rfl, rfl⟩ (by decide) rfl rfl (Nat.le_of_ble_eq_true rfl) rfl (c_X11_puts (n := 2) (f := (lf tL_2)) (g := (lf tM_2)) (by decide)) ?_
  rintro r w' ⟨rfl, rfl⟩
  refine ab_world (WC0, [ob 9 [.int 0, .int 0, .int 0, .int (-1), .ref 1001, .ref 1002, .int 3, .ref 1003, .int 0, .int 0, .int 0, .int 0, .int 0, .ref 1004, .ref 1005, .ref 1006, .ref 1007, .int 0, .int 0, .int 0, .int 0, .ref 1008, .ref 1009, .ref 1010, .ref 1011, .int 0, .int 0, .int 0, .int 0, .int 0, .int 0, .int 0, .int 0, .long 0, .long 0, .long 0, .long 0, .long 0, .long 0, .long 0, .long 0, .long 0, .long 0, .ref 1012, .ref 1013, .ref 1014, .int 0, .ref 1015, .int 0, .int 0, .ref 1016, .long 0, .long 0, .long 0, .long 0, .ref 1017, .int (-1), .int 0, .int 0, .int 0, .ref 1018, .ref 1019, .int 0, .ref 1020, .int 0], ia 64 (lf tL_3), ia 64 (lf tM_3), ia 700 (fun _ => 0), ia 16 (fun _ => 0), ia 8 (fun _ => 0), ia 16 (fun _ => 0), ia 16 (fun _ => 0), ia 16 (fun _ => 0), ia 8 (fun _ => 0), ia 16 (fun _ => 0), ia 16 (fun _ => 0), ia 64 (fun _ => 0), ia 64 (fun _ => 0), ia 64 (fun _ => 0), ia 64 (fun _ => 0), ia 3 (fun _ => 0), ja 12 (fun _ => 0), ia 128 (fun _ => 0), ia 128 (fun _ => 0), ia 30 (fun _ => 0)]) (by rw [ins_2]; rfl) ?_
  refine ab_iinc (v := 4) (la' := [(2, .int 4), (1, .int (-5)), (0, .ref 1000)]) dX11_init_209 rfl (by decide) (by decide) rfl ?_
  refine ab_goto 186 dX11_init_212 (by decide) ?_
  refine ab_iload_n dX11_init_186 rfl ?_
  refine ab_iconst (v := 5) dX11_init_187 (by decide) ?_
  refine ab_icmpgt 215 dX11_init_188 (by decide) (fun h_8 => absurd h_8 (by decide)) (fun h_8 => ?_)
  refine ab_iload_n dX11_init_191 rfl ?_
  refine ab_i2l dX11_init_192 ?_
  refine ab_iload_n dX11_init_193 rfl ?_
  refine ab_i2l dX11_init_194 ?_
  refine ab_callS (As := [.long (Int32.toInt64 (-5)), .long (Int32.toInt64 4)]) (rest := []) dX11_init_195 ms_X11_common ml_X11_22 ⟨by decide, by decide, rfl, rfl, rfl⟩ (by decide) rfl rfl (Nat.le_of_ble_eq_true rfl) (c_X11_common (by decide) (by decide)) ?_
  rintro r w' ⟨rfl, rfl⟩
  refine ab_topl (v := 1) (by decide) ?_
  refine ab_lconst (v := 1) dX11_init_198 (by decide) ?_
  refine ab_lcmpne 209 dX11_init_199 dX11_init_200 (by decide) (fun h_9 => absurd (by decide) h_9) (fun h_9 => ?_)
  refine ab_aload_n dX11_init_203 rfl ?_
  refine ab_iload_n dX11_init_204 rfl ?_
  refine ab_iload_n dX11_init_205 rfl ?_
  refine ab_callV (As := [.int (-5), .int 4]) (rest := []) dX11_init_206 mv_X11_puts ml_X11_97 ⟨by decide, by decide, rfl, rfl, rfl⟩ (by decide) rfl rfl (Nat.le_of_ble_eq_true rfl) rfl (c_X11_puts (n := 3) (f := (lf tL_3)) (g := (lf tM_3)) (by decide)) ?_
  rintro r w' ⟨rfl, rfl⟩
  refine ab_world (WC0, [ob 9 [.int 0, .int 0, .int 0, .int (-1), .ref 1001, .ref 1002, .int 4, .ref 1003, .int 0, .int 0, .int 0, .int 0, .int 0, .ref 1004, .ref 1005, .ref 1006, .ref 1007, .int 0, .int 0, .int 0, .int 0, .ref 1008, .ref 1009, .ref 1010, .ref 1011, .int 0, .int 0, .int 0, .int 0, .int 0, .int 0, .int 0, .int 0, .long 0, .long 0, .long 0, .long 0, .long 0, .long 0, .long 0, .long 0, .long 0, .long 0, .ref 1012, .ref 1013, .ref 1014, .int 0, .ref 1015, .int 0, .int 0, .ref 1016, .long 0, .long 0, .long 0, .long 0, .ref 1017, .int (-1), .int 0, .int 0, .int 0, .ref 1018, .ref 1019, .int 0, .ref 1020, .int 0], ia 64 (lf tL_4), ia 64 (lf tM_4), ia 700 (fun _ => 0), ia 16 (fun _ => 0), ia 8 (fun _ => 0), ia 16 (fun _ => 0), ia 16 (fun _ => 0), ia 16 (fun _ => 0), ia 8 (fun _ => 0), ia 16 (fun _ => 0), ia 16 (fun _ => 0), ia 64 (fun _ => 0), ia 64 (fun _ => 0), ia 64 (fun _ => 0), ia 64 (fun _ => 0), ia 3 (fun _ => 0), ja 12 (fun _ => 0), ia 128 (fun _ => 0), ia 128 (fun _ => 0), ia 30 (fun _ => 0)]) (by rw [ins_3]; rfl) ?_
  refine ab_iinc (v := 5) (la' := [(2, .int 5), (1, .int (-5)), (0, .ref 1000)]) dX11_init_209 rfl (by decide) (by decide) rfl ?_
  refine ab_goto 186 dX11_init_212 (by decide) ?_
  refine ab_iload_n dX11_init_186 rfl ?_
  refine ab_iconst (v := 5) dX11_init_187 (by decide) ?_
  refine ab_icmpgt 215 dX11_init_188 (by decide) (fun h_10 => absurd h_10 (by decide)) (fun h_10 => ?_)
  refine ab_iload_n dX11_init_191 rfl ?_
  refine ab_i2l dX11_init_192 ?_
  refine ab_iload_n dX11_init_193 rfl ?_
  refine ab_i2l dX11_init_194 ?_
  refine ab_callS (As := [.long (Int32.toInt64 (-5)), .long (Int32.toInt64 5)]) (rest := []) dX11_init_195 ms_X11_common ml_X11_22 ⟨by decide, by decide, rfl, rfl, rfl⟩ (by decide) rfl rfl (Nat.le_of_ble_eq_true rfl) (c_X11_common (by decide) (by decide)) ?_
  rintro r w' ⟨rfl, rfl⟩
  refine ab_topl (v := 5) (by decide) ?_
  refine ab_lconst (v := 1) dX11_init_198 (by decide) ?_
  refine ab_lcmpne 209 dX11_init_199 dX11_init_200 (by decide) (fun h_11 => ?_) (fun h_11 => absurd h_11 (by decide))
  refine ab_iinc (v := 6) (la' := [(2, .int 6), (1, .int (-5)), (0, .ref 1000)]) dX11_init_209 rfl (by decide) (by decide) rfl ?_
  refine ab_goto 186 dX11_init_212 (by decide) ?_
  refine ab_iload_n dX11_init_186 rfl ?_
  refine ab_iconst (v := 5) dX11_init_187 (by decide) ?_
  refine ab_icmpgt 215 dX11_init_188 (by decide) (fun h_12 => ?_) (fun h_12 => absurd (by decide) h_12)
  refine ab_iinc (v := (-4)) (la' := [(1, .int (-4)), (2, .int 6), (0, .ref 1000)]) dX11_init_215 rfl (by decide) (by decide) rfl ?_
  refine ab_goto 179 dX11_init_218 (by decide) ?_
  refine ab_iload_n dX11_init_179 rfl ?_
  refine ab_iconst (v := 5) dX11_init_180 (by decide) ?_
  refine ab_icmpgt 221 dX11_init_181 (by decide) (fun h_13 => absurd h_13 (by decide)) (fun h_13 => ?_)
  refine ab_iconst (v := 1) dX11_init_184 (by decide) ?_
  refine ab_istore_n (la' := [(2, .int 1), (1, .int (-4)), (0, .ref 1000)]) dX11_init_185 (by decide) rfl ?_
  refine ab_iload_n dX11_init_186 rfl ?_
  refine ab_iconst (v := 5) dX11_init_187 (by decide) ?_
  refine ab_icmpgt 215 dX11_init_188 (by decide) (fun h_14 => absurd h_14 (by decide)) (fun h_14 => ?_)
  refine ab_iload_n dX11_init_191 rfl ?_
  refine ab_i2l dX11_init_192 ?_
  refine ab_iload_n dX11_init_193 rfl ?_
  refine ab_i2l dX11_init_194 ?_
  refine ab_callS (As := [.long (Int32.toInt64 (-4)), .long (Int32.toInt64 1)]) (rest := []) dX11_init_195 ms_X11_common ml_X11_22 ⟨by decide, by decide, rfl, rfl, rfl⟩ (by decide) rfl rfl (Nat.le_of_ble_eq_true rfl) (c_X11_common (by decide) (by decide)) ?_
  rintro r w' ⟨rfl, rfl⟩
  refine ab_topl (v := 1) (by decide) ?_
  refine ab_lconst (v := 1) dX11_init_198 (by decide) ?_
  refine ab_lcmpne 209 dX11_init_199 dX11_init_200 (by decide) (fun h_15 => absurd (by decide) h_15) (fun h_15 => ?_)
  refine ab_aload_n dX11_init_203 rfl ?_
  refine ab_iload_n dX11_init_204 rfl ?_
  refine ab_iload_n dX11_init_205 rfl ?_
  refine ab_callV (As := [.int (-4), .int 1]) (rest := []) dX11_init_206 mv_X11_puts ml_X11_97 ⟨by decide, by decide, rfl, rfl, rfl⟩ (by decide) rfl rfl (Nat.le_of_ble_eq_true rfl) rfl (c_X11_puts (n := 4) (f := (lf tL_4)) (g := (lf tM_4)) (by decide)) ?_
  rintro r w' ⟨rfl, rfl⟩
  refine ab_world (WC0, [ob 9 [.int 0, .int 0, .int 0, .int (-1), .ref 1001, .ref 1002, .int 5, .ref 1003, .int 0, .int 0, .int 0, .int 0, .int 0, .ref 1004, .ref 1005, .ref 1006, .ref 1007, .int 0, .int 0, .int 0, .int 0, .ref 1008, .ref 1009, .ref 1010, .ref 1011, .int 0, .int 0, .int 0, .int 0, .int 0, .int 0, .int 0, .int 0, .long 0, .long 0, .long 0, .long 0, .long 0, .long 0, .long 0, .long 0, .long 0, .long 0, .ref 1012, .ref 1013, .ref 1014, .int 0, .ref 1015, .int 0, .int 0, .ref 1016, .long 0, .long 0, .long 0, .long 0, .ref 1017, .int (-1), .int 0, .int 0, .int 0, .ref 1018, .ref 1019, .int 0, .ref 1020, .int 0], ia 64 (lf tL_5), ia 64 (lf tM_5), ia 700 (fun _ => 0), ia 16 (fun _ => 0), ia 8 (fun _ => 0), ia 16 (fun _ => 0), ia 16 (fun _ => 0), ia 16 (fun _ => 0), ia 8 (fun _ => 0), ia 16 (fun _ => 0), ia 16 (fun _ => 0), ia 64 (fun _ => 0), ia 64 (fun _ => 0), ia 64 (fun _ => 0), ia 64 (fun _ => 0), ia 3 (fun _ => 0), ja 12 (fun _ => 0), ia 128 (fun _ => 0), ia 128 (fun _ => 0), ia 30 (fun _ => 0)]) (by rw [ins_4]; rfl) ?_
  refine ab_iinc (v := 2) (la' := [(2, .int 2), (1, .int (-4)), (0, .ref 1000)]) dX11_init_209 rfl (by decide) (by decide) rfl ?_
  refine ab_goto 186 dX11_init_212 (by decide) ?_
  refine ab_iload_n dX11_init_186 rfl ?_
  refine ab_iconst (v := 5) dX11_init_187 (by decide) ?_
  refine ab_icmpgt 215 dX11_init_188 (by decide) (fun h_16 => absurd h_16 (by decide)) (fun h_16 => ?_)
  refine ab_iload_n dX11_init_191 rfl ?_
  refine ab_i2l dX11_init_192 ?_
  refine ab_iload_n dX11_init_193 rfl ?_
  refine ab_i2l dX11_init_194 ?_
  refine ab_callS (As := [.long (Int32.toInt64 (-4)), .long (Int32.toInt64 2)]) (rest := []) dX11_init_195 ms_X11_common ml_X11_22 ⟨by decide, by decide, rfl, rfl, rfl⟩ (by decide) rfl rfl (Nat.le_of_ble_eq_true rfl) (c_X11_common (by decide) (by decide)) ?_
  rintro r w' ⟨rfl, rfl⟩
  refine ab_topl (v := 2) (by decide) ?_
  refine ab_lconst (v := 1) dX11_init_198 (by decide) ?_
  refine ab_lcmpne 209 dX11_init_199 dX11_init_200 (by decide) (fun h_17 => ?_) (fun h_17 => absurd h_17 (by decide))
  refine ab_iinc (v := 3) (la' := [(2, .int 3), (1, .int (-4)), (0, .ref 1000)]) dX11_init_209 rfl (by decide) (by decide) rfl ?_
  refine ab_goto 186 dX11_init_212 (by decide) ?_
  refine ab_iload_n dX11_init_186 rfl ?_
  refine ab_iconst (v := 5) dX11_init_187 (by decide) ?_
  refine ab_icmpgt 215 dX11_init_188 (by decide) (fun h_18 => absurd h_18 (by decide)) (fun h_18 => ?_)
  refine ab_iload_n dX11_init_191 rfl ?_
  refine ab_i2l dX11_init_192 ?_
  refine ab_iload_n dX11_init_193 rfl ?_
  refine ab_i2l dX11_init_194 ?_
  refine ab_callS (As := [.long (Int32.toInt64 (-4)), .long (Int32.toInt64 3)]) (rest := []) dX11_init_195 ms_X11_common ml_X11_22 ⟨by decide, by decide, rfl, rfl, rfl⟩ (by decide) rfl rfl (Nat.le_of_ble_eq_true rfl) (c_X11_common (by decide) (by decide)) ?_
  rintro r w' ⟨rfl, rfl⟩
  refine ab_topl (v := 1) (by decide) ?_
  refine ab_lconst (v := 1) dX11_init_198 (by decide) ?_
  refine ab_lcmpne 209 dX11_init_199 dX11_init_200 (by decide) (fun h_19 => absurd (by decide) h_19) (fun h_19 => ?_)
  refine ab_aload_n dX11_init_203 rfl ?_
  refine ab_iload_n dX11_init_204 rfl ?_
  refine ab_iload_n dX11_init_205 rfl ?_
  refine ab_callV (As := [.int (-4), .int 3]) (rest := []) dX11_init_206 mv_X11_puts ml_X11_97 ⟨by decide, by decide, rfl, rfl, rfl⟩ (by decide) rfl rfl (Nat.le_of_ble_eq_true rfl) rfl (c_X11_puts (n := 5) (f := (lf tL_5)) (g := (lf tM_5)) (by decide)) ?_
  rintro r w' ⟨rfl, rfl⟩
  refine ab_world (WC0, [ob 9 [.int 0, .int 0, .int 0, .int (-1), .ref 1001, .ref 1002, .int 6, .ref 1003, .int 0, .int 0, .int 0, .int 0, .int 0, .ref 1004, .ref 1005, .ref 1006, .ref 1007, .int 0, .int 0, .int 0, .int 0, .ref 1008, .ref 1009, .ref 1010, .ref 1011, .int 0, .int 0, .int 0, .int 0, .int 0, .int 0, .int 0, .int 0, .long 0, .long 0, .long 0, .long 0, .long 0, .long 0, .long 0, .long 0, .long 0, .long 0, .ref 1012, .ref 1013, .ref 1014, .int 0, .ref 1015, .int 0, .int 0, .ref 1016, .long 0, .long 0, .long 0, .long 0, .ref 1017, .int (-1), .int 0, .int 0, .int 0, .ref 1018, .ref 1019, .int 0, .ref 1020, .int 0], ia 64 (lf tL_6), ia 64 (lf tM_6), ia 700 (fun _ => 0), ia 16 (fun _ => 0), ia 8 (fun _ => 0), ia 16 (fun _ => 0), ia 16 (fun _ => 0), ia 16 (fun _ => 0), ia 8 (fun _ => 0), ia 16 (fun _ => 0), ia 16 (fun _ => 0), ia 64 (fun _ => 0), ia 64 (fun _ => 0), ia 64 (fun _ => 0), ia 64 (fun _ => 0), ia 3 (fun _ => 0), ja 12 (fun _ => 0), ia 128 (fun _ => 0), ia 128 (fun _ => 0), ia 30 (fun _ => 0)]) (by rw [ins_5]; rfl) ?_
  refine ab_iinc (v := 4) (la' := [(2, .int 4), (1, .int (-4)), (0, .ref 1000)]) dX11_init_209 rfl (by decide) (by decide) rfl ?_
  refine ab_goto 186 dX11_init_212 (by decide) ?_
  refine ab_iload_n dX11_init_186 rfl ?_
  refine ab_iconst (v := 5) dX11_init_187 (by decide) ?_
  refine ab_icmpgt 215 dX11_init_188 (by decide) (fun h_20 => absurd h_20 (by decide)) (fun h_20 => ?_)
  refine ab_iload_n dX11_init_191 rfl ?_
  refine ab_i2l dX11_init_192 ?_
  refine ab_iload_n dX11_init_193 rfl ?_
  refine ab_i2l dX11_init_194 ?_
  refine ab_callS (As := [.long (Int32.toInt64 (-4)), .long (Int32.toInt64 4)]) (rest := []) dX11_init_195 ms_X11_common ml_X11_22 ⟨by decide, by decide, rfl, rfl, rfl⟩ (by decide) rfl rfl (Nat.le_of_ble_eq_true rfl) (c_X11_common (by decide) (by decide)) ?_
  rintro r w' ⟨rfl, rfl⟩
  refine ab_topl (v := 4) (by decide) ?_
  refine ab_lconst (v := 1) dX11_init_198 (by decide) ?_
  refine ab_lcmpne 209 dX11_init_199 dX11_init_200 (by decide) (fun h_21 => ?_) (fun h_21 => absurd h_21 (by decide))
  refine ab_iinc (v := 5) (la' := [(2, .int 5), (1, .int (-4)), (0, .ref 1000)]) dX11_init_209 rfl (by decide) (by decide) rfl ?_
  refine ab_goto 186 dX11_init_212 (by decide) ?_
  refine ab_iload_n dX11_init_186 rfl ?_
  refine ab_iconst (v := 5) dX11_init_187 (by decide) ?_
  refine ab_icmpgt 215 dX11_init_188 (by decide) (fun h_22 => absurd h_22 (by decide)) (fun h_22 => ?_)
  refine ab_iload_n dX11_init_191 rfl ?_
  refine ab_i2l dX11_init_192 ?_
  refine ab_iload_n dX11_init_193 rfl ?_
  refine ab_i2l dX11_init_194 ?_
  refine ab_callS (As := [.long (Int32.toInt64 (-4)), .long (Int32.toInt64 5)]) (rest := []) dX11_init_195 ms_X11_common ml_X11_22 ⟨by decide, by decide, rfl, rfl, rfl⟩ (by decide) rfl rfl (Nat.le_of_ble_eq_true rfl) (c_X11_common (by decide) (by decide)) ?_
  rintro r w' ⟨rfl, rfl⟩
  refine ab_topl (v := 1) (by decide) ?_
  refine ab_lconst (v := 1) dX11_init_198 (by decide) ?_
  refine ab_lcmpne 209 dX11_init_199 dX11_init_200 (by decide) (fun h_23 => absurd (by decide) h_23) (fun h_23 => ?_)
  refine ab_aload_n dX11_init_203 rfl ?_
  refine ab_iload_n dX11_init_204 rfl ?_
  refine ab_iload_n dX11_init_205 rfl ?_
  refine ab_callV (As := [.int (-4), .int 5]) (rest := []) dX11_init_206 mv_X11_puts ml_X11_97 ⟨by decide, by decide, rfl, rfl, rfl⟩ (by decide) rfl rfl (Nat.le_of_ble_eq_true rfl) rfl (c_X11_puts (n := 6) (f := (lf tL_6)) (g := (lf tM_6)) (by decide)) ?_
  rintro r w' ⟨rfl, rfl⟩
  refine ab_world (WC0, [ob 9 [.int 0, .int 0, .int 0, .int (-1), .ref 1001, .ref 1002, .int 7, .ref 1003, .int 0, .int 0, .int 0, .int 0, .int 0, .ref 1004, .ref 1005, .ref 1006, .ref 1007, .int 0, .int 0, .int 0, .int 0, .ref 1008, .ref 1009, .ref 1010, .ref 1011, .int 0, .int 0, .int 0, .int 0, .int 0, .int 0, .int 0, .int 0, .long 0, .long 0, .long 0, .long 0, .long 0, .long 0, .long 0, .long 0, .long 0, .long 0, .ref 1012, .ref 1013, .ref 1014, .int 0, .ref 1015, .int 0, .int 0, .ref 1016, .long 0, .long 0, .long 0, .long 0, .ref 1017, .int (-1), .int 0, .int 0, .int 0, .ref 1018, .ref 1019, .int 0, .ref 1020, .int 0], ia 64 (lf tL_7), ia 64 (lf tM_7), ia 700 (fun _ => 0), ia 16 (fun _ => 0), ia 8 (fun _ => 0), ia 16 (fun _ => 0), ia 16 (fun _ => 0), ia 16 (fun _ => 0), ia 8 (fun _ => 0), ia 16 (fun _ => 0), ia 16 (fun _ => 0), ia 64 (fun _ => 0), ia 64 (fun _ => 0), ia 64 (fun _ => 0), ia 64 (fun _ => 0), ia 3 (fun _ => 0), ja 12 (fun _ => 0), ia 128 (fun _ => 0), ia 128 (fun _ => 0), ia 30 (fun _ => 0)]) (by rw [ins_6]; rfl) ?_
  refine ab_iinc (v := 6) (la' := [(2, .int 6), (1, .int (-4)), (0, .ref 1000)]) dX11_init_209 rfl (by decide) (by decide) rfl ?_
  refine ab_goto 186 dX11_init_212 (by decide) ?_
  refine ab_iload_n dX11_init_186 rfl ?_
  refine ab_iconst (v := 5) dX11_init_187 (by decide) ?_
  refine ab_icmpgt 215 dX11_init_188 (by decide) (fun h_24 => ?_) (fun h_24 => absurd (by decide) h_24)
  refine ab_iinc (v := (-3)) (la' := [(1, .int (-3)), (2, .int 6), (0, .ref 1000)]) dX11_init_215 rfl (by decide) (by decide) rfl ?_
  refine ab_goto 179 dX11_init_218 (by decide) ?_
  refine ab_iload_n dX11_init_179 rfl ?_
  refine ab_iconst (v := 5) dX11_init_180 (by decide) ?_
  refine ab_icmpgt 221 dX11_init_181 (by decide) (fun h_25 => absurd h_25 (by decide)) (fun h_25 => ?_)
  refine ab_iconst (v := 1) dX11_init_184 (by decide) ?_
  refine ab_istore_n (la' := [(2, .int 1), (1, .int (-3)), (0, .ref 1000)]) dX11_init_185 (by decide) rfl ?_
  refine ab_iload_n dX11_init_186 rfl ?_
  refine ab_iconst (v := 5) dX11_init_187 (by decide) ?_
  refine ab_icmpgt 215 dX11_init_188 (by decide) (fun h_26 => absurd h_26 (by decide)) (fun h_26 => ?_)
  refine ab_iload_n dX11_init_191 rfl ?_
  refine ab_i2l dX11_init_192 ?_
  refine ab_iload_n dX11_init_193 rfl ?_
  refine ab_i2l dX11_init_194 ?_
  refine ab_callS (As := [.long (Int32.toInt64 (-3)), .long (Int32.toInt64 1)]) (rest := []) dX11_init_195 ms_X11_common ml_X11_22 ⟨by decide, by decide, rfl, rfl, rfl⟩ (by decide) rfl rfl (Nat.le_of_ble_eq_true rfl) (c_X11_common (by decide) (by decide)) ?_
  rintro r w' ⟨rfl, rfl⟩
  refine ab_topl (v := 1) (by decide) ?_
  refine ab_lconst (v := 1) dX11_init_198 (by decide) ?_
  refine ab_lcmpne 209 dX11_init_199 dX11_init_200 (by decide) (fun h_27 => absurd (by decide) h_27) (fun h_27 => ?_)
  refine ab_aload_n dX11_init_203 rfl ?_
  refine ab_iload_n dX11_init_204 rfl ?_
  refine ab_iload_n dX11_init_205 rfl ?_
  refine ab_callV (As := [.int (-3), .int 1]) (rest := []) dX11_init_206 mv_X11_puts ml_X11_97 ⟨by decide, by decide, rfl, rfl, rfl⟩ (by decide) rfl rfl (Nat.le_of_ble_eq_true rfl) rfl (c_X11_puts (n := 7) (f := (lf tL_7)) (g := (lf tM_7)) (by decide)) ?_
  rintro r w' ⟨rfl, rfl⟩
  refine ab_world (WC0, [ob 9 [.int 0, .int 0, .int 0, .int (-1), .ref 1001, .ref 1002, .int 8, .ref 1003, .int 0, .int 0, .int 0, .int 0, .int 0, .ref 1004, .ref 1005, .ref 1006, .ref 1007, .int 0, .int 0, .int 0, .int 0, .ref 1008, .ref 1009, .ref 1010, .ref 1011, .int 0, .int 0, .int 0, .int 0, .int 0, .int 0, .int 0, .int 0, .long 0, .long 0, .long 0, .long 0, .long 0, .long 0, .long 0, .long 0, .long 0, .long 0, .ref 1012, .ref 1013, .ref 1014, .int 0, .ref 1015, .int 0, .int 0, .ref 1016, .long 0, .long 0, .long 0, .long 0, .ref 1017, .int (-1), .int 0, .int 0, .int 0, .ref 1018, .ref 1019, .int 0, .ref 1020, .int 0], ia 64 (lf tL_8), ia 64 (lf tM_8), ia 700 (fun _ => 0), ia 16 (fun _ => 0), ia 8 (fun _ => 0), ia 16 (fun _ => 0), ia 16 (fun _ => 0), ia 16 (fun _ => 0), ia 8 (fun _ => 0), ia 16 (fun _ => 0), ia 16 (fun _ => 0), ia 64 (fun _ => 0), ia 64 (fun _ => 0), ia 64 (fun _ => 0), ia 64 (fun _ => 0), ia 3 (fun _ => 0), ja 12 (fun _ => 0), ia 128 (fun _ => 0), ia 128 (fun _ => 0), ia 30 (fun _ => 0)]) (by rw [ins_7]; rfl) ?_
  refine ab_iinc (v := 2) (la' := [(2, .int 2), (1, .int (-3)), (0, .ref 1000)]) dX11_init_209 rfl (by decide) (by decide) rfl ?_
  refine ab_goto 186 dX11_init_212 (by decide) ?_
  refine ab_iload_n dX11_init_186 rfl ?_
  refine ab_iconst (v := 5) dX11_init_187 (by decide) ?_
  refine ab_icmpgt 215 dX11_init_188 (by decide) (fun h_28 => absurd h_28 (by decide)) (fun h_28 => ?_)
  refine ab_iload_n dX11_init_191 rfl ?_
  refine ab_i2l dX11_init_192 ?_
  refine ab_iload_n dX11_init_193 rfl ?_
  refine ab_i2l dX11_init_194 ?_
  refine ab_callS (As := [.long (Int32.toInt64 (-3)), .long (Int32.toInt64 2)]) (rest := []) dX11_init_195 ms_X11_common ml_X11_22 ⟨by decide, by decide, rfl, rfl, rfl⟩ (by decide) rfl rfl (Nat.le_of_ble_eq_true rfl) (c_X11_common (by decide) (by decide)) ?_
  rintro r w' ⟨rfl, rfl⟩
  refine ab_topl (v := 1) (by decide) ?_
  refine ab_lconst (v := 1) dX11_init_198 (by decide) ?_
  refine ab_lcmpne 209 dX11_init_199 dX11_init_200 (by decide) (fun h_29 => absurd (by decide) h_29) (fun h_29 => ?_)
  refine ab_aload_n dX11_init_203 rfl ?_
  refine ab_iload_n dX11_init_204 rfl ?_
  refine ab_iload_n dX11_init_205 rfl ?_
  refine ab_callV (As := [.int (-3), .int 2]) (rest := []) dX11_init_206 mv_X11_puts ml_X11_97 ⟨by decide, by decide, rfl, rfl, rfl⟩ (by decide) rfl rfl (Nat.le_of_ble_eq_true rfl) rfl (c_X11_puts (n := 8) (f := (lf tL_8)) (g := (lf tM_8)) (by decide)) ?_
  rintro r w' ⟨rfl, rfl⟩
  refine ab_world (WC0, [ob 9 [.int 0, .int 0, .int 0, .int (-1), .ref 1001, .ref 1002, .int 9, .ref 1003, .int 0, .int 0, .int 0, .int 0, .int 0, .ref 1004, .ref 1005, .ref 1006, .ref 1007, .int 0, .int 0, .int 0, .int 0, .ref 1008, .ref 1009, .ref 1010, .ref 1011, .int 0, .int 0, .int 0, .int 0, .int 0, .int 0, .int 0, .int 0, .long 0, .long 0, .long 0, .long 0, .long 0, .long 0, .long 0, .long 0, .long 0, .long 0, .ref 1012, .ref 1013, .ref 1014, .int 0, .ref 1015, .int 0, .int 0, .ref 1016, .long 0, .long 0, .long 0, .long 0, .ref 1017, .int (-1), .int 0, .int 0, .int 0, .ref 1018, .ref 1019, .int 0, .ref 1020, .int 0], ia 64 (lf tL_9), ia 64 (lf tM_9), ia 700 (fun _ => 0), ia 16 (fun _ => 0), ia 8 (fun _ => 0), ia 16 (fun _ => 0), ia 16 (fun _ => 0), ia 16 (fun _ => 0), ia 8 (fun _ => 0), ia 16 (fun _ => 0), ia 16 (fun _ => 0), ia 64 (fun _ => 0), ia 64 (fun _ => 0), ia 64 (fun _ => 0), ia 64 (fun _ => 0), ia 3 (fun _ => 0), ja 12 (fun _ => 0), ia 128 (fun _ => 0), ia 128 (fun _ => 0), ia 30 (fun _ => 0)]) (by rw [ins_8]; rfl) ?_
  refine ab_iinc (v := 3) (la' := [(2, .int 3), (1, .int (-3)), (0, .ref 1000)]) dX11_init_209 rfl (by decide) (by decide) rfl ?_
  refine ab_goto 186 dX11_init_212 (by decide) ?_
  refine ab_iload_n dX11_init_186 rfl ?_
  refine ab_iconst (v := 5) dX11_init_187 (by decide) ?_
  refine ab_icmpgt 215 dX11_init_188 (by decide) (fun h_30 => absurd h_30 (by decide)) (fun h_30 => ?_)
  refine ab_iload_n dX11_init_191 rfl ?_
  refine ab_i2l dX11_init_192 ?_
  refine ab_iload_n dX11_init_193 rfl ?_
  refine ab_i2l dX11_init_194 ?_
  refine ab_callS (As := [.long (Int32.toInt64 (-3)), .long (Int32.toInt64 3)]) (rest := []) dX11_init_195 ms_X11_common ml_X11_22 ⟨by decide, by decide, rfl, rfl, rfl⟩ (by decide) rfl rfl (Nat.le_of_ble_eq_true rfl) (c_X11_common (by decide) (by decide)) ?_
  rintro r w' ⟨rfl, rfl⟩
  refine ab_topl (v := 3) (by decide) ?_
  refine ab_lconst (v := 1) dX11_init_198 (by decide) ?_
  refine ab_lcmpne 209 dX11_init_199 dX11_init_200 (by decide) (fun h_31 => ?_) (fun h_31 => absurd h_31 (by decide))
  refine ab_iinc (v := 4) (la' := [(2, .int 4), (1, .int (-3)), (0, .ref 1000)]) dX11_init_209 rfl (by decide) (by decide) rfl ?_
  refine ab_goto 186 dX11_init_212 (by decide) ?_
  refine ab_iload_n dX11_init_186 rfl ?_
  refine ab_iconst (v := 5) dX11_init_187 (by decide) ?_
  refine ab_icmpgt 215 dX11_init_188 (by decide) (fun h_32 => absurd h_32 (by decide)) (fun h_32 => ?_)
  refine ab_iload_n dX11_init_191 rfl ?_
  refine ab_i2l dX11_init_192 ?_
  refine ab_iload_n dX11_init_193 rfl ?_
  refine ab_i2l dX11_init_194 ?_
  refine ab_callS (As := [.long (Int32.toInt64 (-3)), .long (Int32.toInt64 4)]) (rest := []) dX11_init_195 ms_X11_common ml_X11_22 ⟨by decide, by decide, rfl, rfl, rfl⟩ (by decide) rfl rfl (Nat.le_of_ble_eq_true rfl) (c_X11_common (by decide) (by decide)) ?_
  rintro r w' ⟨rfl, rfl⟩
  refine ab_topl (v := 1) (by decide) ?_
  refine ab_lconst (v := 1) dX11_init_198 (by decide) ?_
  refine ab_lcmpne 209 dX11_init_199 dX11_init_200 (by decide) (fun h_33 => absurd (by decide) h_33) (fun h_33 => ?_)
  refine ab_aload_n dX11_init_203 rfl ?_
  refine ab_iload_n dX11_init_204 rfl ?_
  refine ab_iload_n dX11_init_205 rfl ?_
  refine ab_callV (As := [.int (-3), .int 4]) (rest := []) dX11_init_206 mv_X11_puts ml_X11_97 ⟨by decide, by decide, rfl, rfl, rfl⟩ (by decide) rfl rfl (Nat.le_of_ble_eq_true rfl) rfl (c_X11_puts (n := 9) (f := (lf tL_9)) (g := (lf tM_9)) (by decide)) ?_
  rintro r w' ⟨rfl, rfl⟩
  refine ab_world (WC0, [ob 9 [.int 0, .int 0, .int 0, .int (-1), .ref 1001, .ref 1002, .int 10, .ref 1003, .int 0, .int 0, .int 0, .int 0, .int 0, .ref 1004, .ref 1005, .ref 1006, .ref 1007, .int 0, .int 0, .int 0, .int 0, .ref 1008, .ref 1009, .ref 1010, .ref 1011, .int 0, .int 0, .int 0, .int 0, .int 0, .int 0, .int 0, .int 0, .long 0, .long 0, .long 0, .long 0, .long 0, .long 0, .long 0, .long 0, .long 0, .long 0, .ref 1012, .ref 1013, .ref 1014, .int 0, .ref 1015, .int 0, .int 0, .ref 1016, .long 0, .long 0, .long 0, .long 0, .ref 1017, .int (-1), .int 0, .int 0, .int 0, .ref 1018, .ref 1019, .int 0, .ref 1020, .int 0], ia 64 (lf tL_10), ia 64 (lf tM_10), ia 700 (fun _ => 0), ia 16 (fun _ => 0), ia 8 (fun _ => 0), ia 16 (fun _ => 0), ia 16 (fun _ => 0), ia 16 (fun _ => 0), ia 8 (fun _ => 0), ia 16 (fun _ => 0), ia 16 (fun _ => 0), ia 64 (fun _ => 0), ia 64 (fun _ => 0), ia 64 (fun _ => 0), ia 64 (fun _ => 0), ia 3 (fun _ => 0), ja 12 (fun _ => 0), ia 128 (fun _ => 0), ia 128 (fun _ => 0), ia 30 (fun _ => 0)]) (by rw [ins_9]; rfl) ?_
  refine ab_iinc (v := 5) (la' := [(2, .int 5), (1, .int (-3)), (0, .ref 1000)]) dX11_init_209 rfl (by decide) (by decide) rfl ?_
  refine ab_goto 186 dX11_init_212 (by decide) ?_
  refine ab_iload_n dX11_init_186 rfl ?_
  refine ab_iconst (v := 5) dX11_init_187 (by decide) ?_
  refine ab_icmpgt 215 dX11_init_188 (by decide) (fun h_34 => absurd h_34 (by decide)) (fun h_34 => ?_)
  refine ab_iload_n dX11_init_191 rfl ?_
  refine ab_i2l dX11_init_192 ?_
  refine ab_iload_n dX11_init_193 rfl ?_
  refine ab_i2l dX11_init_194 ?_
  refine ab_callS (As := [.long (Int32.toInt64 (-3)), .long (Int32.toInt64 5)]) (rest := []) dX11_init_195 ms_X11_common ml_X11_22 ⟨by decide, by decide, rfl, rfl, rfl⟩ (by decide) rfl rfl (Nat.le_of_ble_eq_true rfl) (c_X11_common (by decide) (by decide)) ?_
  rintro r w' ⟨rfl, rfl⟩
  refine ab_topl (v := 1) (by decide) ?_
  refine ab_lconst (v := 1) dX11_init_198 (by decide) ?_
  refine ab_lcmpne 209 dX11_init_199 dX11_init_200 (by decide) (fun h_35 => absurd (by decide) h_35) (fun h_35 => ?_)
  refine ab_aload_n dX11_init_203 rfl ?_
  refine ab_iload_n dX11_init_204 rfl ?_
  refine ab_iload_n dX11_init_205 rfl ?_
  refine ab_callV (As := [.int (-3), .int 5]) (rest := []) dX11_init_206 mv_X11_puts ml_X11_97 ⟨by decide, by decide, rfl, rfl, rfl⟩ (by decide) rfl rfl (Nat.le_of_ble_eq_true rfl) rfl (c_X11_puts (n := 10) (f := (lf tL_10)) (g := (lf tM_10)) (by decide)) ?_
  rintro r w' ⟨rfl, rfl⟩
  refine ab_world (WC0, [ob 9 [.int 0, .int 0, .int 0, .int (-1), .ref 1001, .ref 1002, .int 11, .ref 1003, .int 0, .int 0, .int 0, .int 0, .int 0, .ref 1004, .ref 1005, .ref 1006, .ref 1007, .int 0, .int 0, .int 0, .int 0, .ref 1008, .ref 1009, .ref 1010, .ref 1011, .int 0, .int 0, .int 0, .int 0, .int 0, .int 0, .int 0, .int 0, .long 0, .long 0, .long 0, .long 0, .long 0, .long 0, .long 0, .long 0, .long 0, .long 0, .ref 1012, .ref 1013, .ref 1014, .int 0, .ref 1015, .int 0, .int 0, .ref 1016, .long 0, .long 0, .long 0, .long 0, .ref 1017, .int (-1), .int 0, .int 0, .int 0, .ref 1018, .ref 1019, .int 0, .ref 1020, .int 0], ia 64 (lf tL_11), ia 64 (lf tM_11), ia 700 (fun _ => 0), ia 16 (fun _ => 0), ia 8 (fun _ => 0), ia 16 (fun _ => 0), ia 16 (fun _ => 0), ia 16 (fun _ => 0), ia 8 (fun _ => 0), ia 16 (fun _ => 0), ia 16 (fun _ => 0), ia 64 (fun _ => 0), ia 64 (fun _ => 0), ia 64 (fun _ => 0), ia 64 (fun _ => 0), ia 3 (fun _ => 0), ja 12 (fun _ => 0), ia 128 (fun _ => 0), ia 128 (fun _ => 0), ia 30 (fun _ => 0)]) (by rw [ins_10]; rfl) ?_
  refine ab_iinc (v := 6) (la' := [(2, .int 6), (1, .int (-3)), (0, .ref 1000)]) dX11_init_209 rfl (by decide) (by decide) rfl ?_
  refine ab_goto 186 dX11_init_212 (by decide) ?_
  refine ab_iload_n dX11_init_186 rfl ?_
  refine ab_iconst (v := 5) dX11_init_187 (by decide) ?_
  refine ab_icmpgt 215 dX11_init_188 (by decide) (fun h_36 => ?_) (fun h_36 => absurd (by decide) h_36)
  refine ab_iinc (v := (-2)) (la' := [(1, .int (-2)), (2, .int 6), (0, .ref 1000)]) dX11_init_215 rfl (by decide) (by decide) rfl ?_
  refine ab_goto 179 dX11_init_218 (by decide) ?_
  refine ab_iload_n dX11_init_179 rfl ?_
  refine ab_iconst (v := 5) dX11_init_180 (by decide) ?_
  refine ab_icmpgt 221 dX11_init_181 (by decide) (fun h_37 => absurd h_37 (by decide)) (fun h_37 => ?_)
  refine ab_iconst (v := 1) dX11_init_184 (by decide) ?_
  refine ab_istore_n (la' := [(2, .int 1), (1, .int (-2)), (0, .ref 1000)]) dX11_init_185 (by decide) rfl ?_
  refine ab_iload_n dX11_init_186 rfl ?_
  refine ab_iconst (v := 5) dX11_init_187 (by decide) ?_
  refine ab_icmpgt 215 dX11_init_188 (by decide) (fun h_38 => absurd h_38 (by decide)) (fun h_38 => ?_)
  refine ab_iload_n dX11_init_191 rfl ?_
  refine ab_i2l dX11_init_192 ?_
  refine ab_iload_n dX11_init_193 rfl ?_
  refine ab_i2l dX11_init_194 ?_
  refine ab_callS (As := [.long (Int32.toInt64 (-2)), .long (Int32.toInt64 1)]) (rest := []) dX11_init_195 ms_X11_common ml_X11_22 ⟨by decide, by decide, rfl, rfl, rfl⟩ (by decide) rfl rfl (Nat.le_of_ble_eq_true rfl) (c_X11_common (by decide) (by decide)) ?_
  rintro r w' ⟨rfl, rfl⟩
  refine ab_topl (v := 1) (by decide) ?_
  refine ab_lconst (v := 1) dX11_init_198 (by decide) ?_
  refine ab_lcmpne 209 dX11_init_199 dX11_init_200 (by decide) (fun h_39 => absurd (by decide) h_39) (fun h_39 => ?_)
  refine ab_aload_n dX11_init_203 rfl ?_
  refine ab_iload_n dX11_init_204 rfl ?_
  refine ab_iload_n dX11_init_205 rfl ?_
  refine ab_callV (As := [.int (-2), .int 1]) (rest := []) dX11_init_206 mv_X11_puts ml_X11_97 ⟨by decide, by decide, rfl, rfl, rfl⟩ (by decide) rfl rfl (Nat.le_of_ble_eq_true rfl) rfl (c_X11_puts (n := 11) (f := (lf tL_11)) (g := (lf tM_11)) (by decide)) ?_
  rintro r w' ⟨rfl, rfl⟩
  refine ab_world (WC0, [ob 9 [.int 0, .int 0, .int 0, .int (-1), .ref 1001, .ref 1002, .int 12, .ref 1003, .int 0, .int 0, .int 0, .int 0, .int 0, .ref 1004, .ref 1005, .ref 1006, .ref 1007, .int 0, .int 0, .int 0, .int 0, .ref 1008, .ref 1009, .ref 1010, .ref 1011, .int 0, .int 0, .int 0, .int 0, .int 0, .int 0, .int 0, .int 0, .long 0, .long 0, .long 0, .long 0, .long 0, .long 0, .long 0, .long 0, .long 0, .long 0, .ref 1012, .ref 1013, .ref 1014, .int 0, .ref 1015, .int 0, .int 0, .ref 1016, .long 0, .long 0, .long 0, .long 0, .ref 1017, .int (-1), .int 0, .int 0, .int 0, .ref 1018, .ref 1019, .int 0, .ref 1020, .int 0], ia 64 (lf tL_12), ia 64 (lf tM_12), ia 700 (fun _ => 0), ia 16 (fun _ => 0), ia 8 (fun _ => 0), ia 16 (fun _ => 0), ia 16 (fun _ => 0), ia 16 (fun _ => 0), ia 8 (fun _ => 0), ia 16 (fun _ => 0), ia 16 (fun _ => 0), ia 64 (fun _ => 0), ia 64 (fun _ => 0), ia 64 (fun _ => 0), ia 64 (fun _ => 0), ia 3 (fun _ => 0), ja 12 (fun _ => 0), ia 128 (fun _ => 0), ia 128 (fun _ => 0), ia 30 (fun _ => 0)]) (by rw [ins_11]; rfl) ?_
  refine ab_iinc (v := 2) (la' := [(2, .int 2), (1, .int (-2)), (0, .ref 1000)]) dX11_init_209 rfl (by decide) (by decide) rfl ?_
  refine ab_goto 186 dX11_init_212 (by decide) ?_
  refine ab_iload_n dX11_init_186 rfl ?_
  refine ab_iconst (v := 5) dX11_init_187 (by decide) ?_
  refine ab_icmpgt 215 dX11_init_188 (by decide) (fun h_40 => absurd h_40 (by decide)) (fun h_40 => ?_)
  refine ab_iload_n dX11_init_191 rfl ?_
  refine ab_i2l dX11_init_192 ?_
  refine ab_iload_n dX11_init_193 rfl ?_
  refine ab_i2l dX11_init_194 ?_
  refine ab_callS (As := [.long (Int32.toInt64 (-2)), .long (Int32.toInt64 2)]) (rest := []) dX11_init_195 ms_X11_common ml_X11_22 ⟨by decide, by decide, rfl, rfl, rfl⟩ (by decide) rfl rfl (Nat.le_of_ble_eq_true rfl) (c_X11_common (by decide) (by decide)) ?_
  rintro r w' ⟨rfl, rfl⟩
  refine ab_topl (v := 2) (by decide) ?_
  refine ab_lconst (v := 1) dX11_init_198 (by decide) ?_
  refine ab_lcmpne 209 dX11_init_199 dX11_init_200 (by decide) (fun h_41 => ?_) (fun h_41 => absurd h_41 (by decide))
  refine ab_iinc (v := 3) (la' := [(2, .int 3), (1, .int (-2)), (0, .ref 1000)]) dX11_init_209 rfl (by decide) (by decide) rfl ?_
  refine ab_goto 186 dX11_init_212 (by decide) ?_
  refine ab_iload_n dX11_init_186 rfl ?_
  refine ab_iconst (v := 5) dX11_init_187 (by decide) ?_
  refine ab_icmpgt 215 dX11_init_188 (by decide) (fun h_42 => absurd h_42 (by decide)) (fun h_42 => ?_)
  refine ab_iload_n dX11_init_191 rfl ?_
  refine ab_i2l dX11_init_192 ?_
  refine ab_iload_n dX11_init_193 rfl ?_
  refine ab_i2l dX11_init_194 ?_
  refine ab_callS (As := [.long (Int32.toInt64 (-2)), .long (Int32.toInt64 3)]) (rest := []) dX11_init_195 ms_X11_common ml_X11_22 ⟨by decide, by decide, rfl, rfl, rfl⟩ (by decide) rfl rfl (Nat.le_of_ble_eq_true rfl) (c_X11_common (by decide) (by decide)) ?_
  rintro r w' ⟨rfl, rfl⟩
  refine ab_topl (v := 1) (by decide) ?_
  refine ab_lconst (v := 1) dX11_init_198 (by decide) ?_
  refine ab_lcmpne 209 dX11_init_199 dX11_init_200 (by decide) (fun h_43 => absurd (by decide) h_43) (fun h_43 => ?_)
  refine ab_aload_n dX11_init_203 rfl ?_
  refine ab_iload_n dX11_init_204 rfl ?_
  refine ab_iload_n dX11_init_205 rfl ?_
  refine ab_callV (As := [.int (-2), .int 3]) (rest := []) dX11_init_206 mv_X11_puts ml_X11_97 ⟨by decide, by decide, rfl, rfl, rfl⟩ (by decide) rfl rfl (Nat.le_of_ble_eq_true rfl) rfl (c_X11_puts (n := 12) (f := (lf tL_12)) (g := (lf tM_12)) (by decide)) ?_
  rintro r w' ⟨rfl, rfl⟩
  refine ab_world (WC0, [ob 9 [.int 0, .int 0, .int 0, .int (-1), .ref 1001, .ref 1002, .int 13, .ref 1003, .int 0, .int 0, .int 0, .int 0, .int 0, .ref 1004, .ref 1005, .ref 1006, .ref 1007, .int 0, .int 0, .int 0, .int 0, .ref 1008, .ref 1009, .ref 1010, .ref 1011, .int 0, .int 0, .int 0, .int 0, .int 0, .int 0, .int 0, .int 0, .long 0, .long 0, .long 0, .long 0, .long 0, .long 0, .long 0, .long 0, .long 0, .long 0, .ref 1012, .ref 1013, .ref 1014, .int 0, .ref 1015, .int 0, .int 0, .ref 1016, .long 0, .long 0, .long 0, .long 0, .ref 1017, .int (-1), .int 0, .int 0, .int 0, .ref 1018, .ref 1019, .int 0, .ref 1020, .int 0], ia 64 (lf tL_13), ia 64 (lf tM_13), ia 700 (fun _ => 0), ia 16 (fun _ => 0), ia 8 (fun _ => 0), ia 16 (fun _ => 0), ia 16 (fun _ => 0), ia 16 (fun _ => 0), ia 8 (fun _ => 0), ia 16 (fun _ => 0), ia 16 (fun _ => 0), ia 64 (fun _ => 0), ia 64 (fun _ => 0), ia 64 (fun _ => 0), ia 64 (fun _ => 0), ia 3 (fun _ => 0), ja 12 (fun _ => 0), ia 128 (fun _ => 0), ia 128 (fun _ => 0), ia 30 (fun _ => 0)]) (by rw [ins_12]; rfl) ?_
  refine ab_iinc (v := 4) (la' := [(2, .int 4), (1, .int (-2)), (0, .ref 1000)]) dX11_init_209 rfl (by decide) (by decide) rfl ?_
  refine ab_goto 186 dX11_init_212 (by decide) ?_
  refine ab_iload_n dX11_init_186 rfl ?_
  refine ab_iconst (v := 5) dX11_init_187 (by decide) ?_
  refine ab_icmpgt 215 dX11_init_188 (by decide) (fun h_44 => absurd h_44 (by decide)) (fun h_44 => ?_)
  refine ab_iload_n dX11_init_191 rfl ?_
  refine ab_i2l dX11_init_192 ?_
  refine ab_iload_n dX11_init_193 rfl ?_
  refine ab_i2l dX11_init_194 ?_
  refine ab_callS (As := [.long (Int32.toInt64 (-2)), .long (Int32.toInt64 4)]) (rest := []) dX11_init_195 ms_X11_common ml_X11_22 ⟨by decide, by decide, rfl, rfl, rfl⟩ (by decide) rfl rfl (Nat.le_of_ble_eq_true rfl) (c_X11_common (by decide) (by decide)) ?_
  rintro r w' ⟨rfl, rfl⟩
  refine ab_topl (v := 2) (by decide) ?_
  refine ab_lconst (v := 1) dX11_init_198 (by decide) ?_
  refine ab_lcmpne 209 dX11_init_199 dX11_init_200 (by decide) (fun h_45 => ?_) (fun h_45 => absurd h_45 (by decide))
  refine ab_iinc (v := 5) (la' := [(2, .int 5), (1, .int (-2)), (0, .ref 1000)]) dX11_init_209 rfl (by decide) (by decide) rfl ?_
  refine ab_goto 186 dX11_init_212 (by decide) ?_
  refine ab_iload_n dX11_init_186 rfl ?_
  refine ab_iconst (v := 5) dX11_init_187 (by decide) ?_
  refine ab_icmpgt 215 dX11_init_188 (by decide) (fun h_46 => absurd h_46 (by decide)) (fun h_46 => ?_)
  refine ab_iload_n dX11_init_191 rfl ?_
  refine ab_i2l dX11_init_192 ?_
  refine ab_iload_n dX11_init_193 rfl ?_
  refine ab_i2l dX11_init_194 ?_
  refine ab_callS (As := [.long (Int32.toInt64 (-2)), .long (Int32.toInt64 5)]) (rest := []) dX11_init_195 ms_X11_common ml_X11_22 ⟨by decide, by decide, rfl, rfl, rfl⟩ (by decide) rfl rfl (Nat.le_of_ble_eq_true rfl) (c_X11_common (by decide) (by decide)) ?_
  rintro r w' ⟨rfl, rfl⟩
  refine ab_topl (v := 1) (by decide) ?_
  refine ab_lconst (v := 1) dX11_init_198 (by decide) ?_
  refine ab_lcmpne 209 dX11_init_199 dX11_init_200 (by decide) (fun h_47 => absurd (by decide) h_47) (fun h_47 => ?_)
  refine ab_aload_n dX11_init_203 rfl ?_
  refine ab_iload_n dX11_init_204 rfl ?_
  refine ab_iload_n dX11_init_205 rfl ?_
  refine ab_callV (As := [.int (-2), .int 5]) (rest := []) dX11_init_206 mv_X11_puts ml_X11_97 ⟨by decide, by decide, rfl, rfl, rfl⟩ (by decide) rfl rfl (Nat.le_of_ble_eq_true rfl) rfl (c_X11_puts (n := 13) (f := (lf tL_13)) (g := (lf tM_13)) (by decide)) ?_
  rintro r w' ⟨rfl, rfl⟩
  refine ab_world (WC0, [ob 9 [.int 0, .int 0, .int 0, .int (-1), .ref 1001, .ref 1002, .int 14, .ref 1003, .int 0, .int 0, .int 0, .int 0, .int 0, .ref 1004, .ref 1005, .ref 1006, .ref 1007, .int 0, .int 0, .int 0, .int 0, .ref 1008, .ref 1009, .ref 1010, .ref 1011, .int 0, .int 0, .int 0, .int 0, .int 0, .int 0, .int 0, .int 0, .long 0, .long 0, .long 0, .long 0, .long 0, .long 0, .long 0, .long 0, .long 0, .long 0, .ref 1012, .ref 1013, .ref 1014, .int 0, .ref 1015, .int 0, .int 0, .ref 1016, .long 0, .long 0, .long 0, .long 0, .ref 1017, .int (-1), .int 0, .int 0, .int 0, .ref 1018, .ref 1019, .int 0, .ref 1020, .int 0], ia 64 (lf tL_14), ia 64 (lf tM_14), ia 700 (fun _ => 0), ia 16 (fun _ => 0), ia 8 (fun _ => 0), ia 16 (fun _ => 0), ia 16 (fun _ => 0), ia 16 (fun _ => 0), ia 8 (fun _ => 0), ia 16 (fun _ => 0), ia 16 (fun _ => 0), ia 64 (fun _ => 0), ia 64 (fun _ => 0), ia 64 (fun _ => 0), ia 64 (fun _ => 0), ia 3 (fun _ => 0), ja 12 (fun _ => 0), ia 128 (fun _ => 0), ia 128 (fun _ => 0), ia 30 (fun _ => 0)]) (by rw [ins_13]; rfl) ?_
  refine ab_iinc (v := 6) (la' := [(2, .int 6), (1, .int (-2)), (0, .ref 1000)]) dX11_init_209 rfl (by decide) (by decide) rfl ?_
  refine ab_goto 186 dX11_init_212 (by decide) ?_
  refine ab_iload_n dX11_init_186 rfl ?_
  refine ab_iconst (v := 5) dX11_init_187 (by decide) ?_
  refine ab_icmpgt 215 dX11_init_188 (by decide) (fun h_48 => ?_) (fun h_48 => absurd (by decide) h_48)
  refine ab_iinc (v := (-1)) (la' := [(1, .int (-1)), (2, .int 6), (0, .ref 1000)]) dX11_init_215 rfl (by decide) (by decide) rfl ?_
  refine ab_goto 179 dX11_init_218 (by decide) ?_
  refine ab_iload_n dX11_init_179 rfl ?_
  refine ab_iconst (v := 5) dX11_init_180 (by decide) ?_
  refine ab_icmpgt 221 dX11_init_181 (by decide) (fun h_49 => absurd h_49 (by decide)) (fun h_49 => ?_)
  refine ab_iconst (v := 1) dX11_init_184 (by decide) ?_
  refine ab_istore_n (la' := [(2, .int 1), (1, .int (-1)), (0, .ref 1000)]) dX11_init_185 (by decide) rfl ?_
  refine ab_iload_n dX11_init_186 rfl ?_
  refine ab_iconst (v := 5) dX11_init_187 (by decide) ?_
  refine ab_icmpgt 215 dX11_init_188 (by decide) (fun h_50 => absurd h_50 (by decide)) (fun h_50 => ?_)
  refine ab_iload_n dX11_init_191 rfl ?_
  refine ab_i2l dX11_init_192 ?_
  refine ab_iload_n dX11_init_193 rfl ?_
  refine ab_i2l dX11_init_194 ?_
  refine ab_callS (As := [.long (Int32.toInt64 (-1)), .long (Int32.toInt64 1)]) (rest := []) dX11_init_195 ms_X11_common ml_X11_22 ⟨by decide, by decide, rfl, rfl, rfl⟩ (by decide) rfl rfl (Nat.le_of_ble_eq_true rfl) (c_X11_common (by decide) (by decide)) ?_
  rintro r w' ⟨rfl, rfl⟩
  refine ab_topl (v := 1) (by decide) ?_
  refine ab_lconst (v := 1) dX11_init_198 (by decide) ?_
  refine ab_lcmpne 209 dX11_init_199 dX11_init_200 (by decide) (fun h_51 => absurd (by decide) h_51) (fun h_51 => ?_)
  refine ab_aload_n dX11_init_203 rfl ?_
  refine ab_iload_n dX11_init_204 rfl ?_
  refine ab_iload_n dX11_init_205 rfl ?_
  refine ab_callV (As := [.int (-1), .int 1]) (rest := []) dX11_init_206 mv_X11_puts ml_X11_97 ⟨by decide, by decide, rfl, rfl, rfl⟩ (by decide) rfl rfl (Nat.le_of_ble_eq_true rfl) rfl (c_X11_puts (n := 14) (f := (lf tL_14)) (g := (lf tM_14)) (by decide)) ?_
  rintro r w' ⟨rfl, rfl⟩
  refine ab_world (WC0, [ob 9 [.int 0, .int 0, .int 0, .int (-1), .ref 1001, .ref 1002, .int 15, .ref 1003, .int 0, .int 0, .int 0, .int 0, .int 0, .ref 1004, .ref 1005, .ref 1006, .ref 1007, .int 0, .int 0, .int 0, .int 0, .ref 1008, .ref 1009, .ref 1010, .ref 1011, .int 0, .int 0, .int 0, .int 0, .int 0, .int 0, .int 0, .int 0, .long 0, .long 0, .long 0, .long 0, .long 0, .long 0, .long 0, .long 0, .long 0, .long 0, .ref 1012, .ref 1013, .ref 1014, .int 0, .ref 1015, .int 0, .int 0, .ref 1016, .long 0, .long 0, .long 0, .long 0, .ref 1017, .int (-1), .int 0, .int 0, .int 0, .ref 1018, .ref 1019, .int 0, .ref 1020, .int 0], ia 64 (lf tL_15), ia 64 (lf tM_15), ia 700 (fun _ => 0), ia 16 (fun _ => 0), ia 8 (fun _ => 0), ia 16 (fun _ => 0), ia 16 (fun _ => 0), ia 16 (fun _ => 0), ia 8 (fun _ => 0), ia 16 (fun _ => 0), ia 16 (fun _ => 0), ia 64 (fun _ => 0), ia 64 (fun _ => 0), ia 64 (fun _ => 0), ia 64 (fun _ => 0), ia 3 (fun _ => 0), ja 12 (fun _ => 0), ia 128 (fun _ => 0), ia 128 (fun _ => 0), ia 30 (fun _ => 0)]) (by rw [ins_14]; rfl) ?_
  refine ab_iinc (v := 2) (la' := [(2, .int 2), (1, .int (-1)), (0, .ref 1000)]) dX11_init_209 rfl (by decide) (by decide) rfl ?_
  refine ab_goto 186 dX11_init_212 (by decide) ?_
  refine ab_iload_n dX11_init_186 rfl ?_
  refine ab_iconst (v := 5) dX11_init_187 (by decide) ?_
  refine ab_icmpgt 215 dX11_init_188 (by decide) (fun h_52 => absurd h_52 (by decide)) (fun h_52 => ?_)
  refine ab_iload_n dX11_init_191 rfl ?_
  refine ab_i2l dX11_init_192 ?_
  refine ab_iload_n dX11_init_193 rfl ?_
  refine ab_i2l dX11_init_194 ?_
  refine ab_callS (As := [.long (Int32.toInt64 (-1)), .long (Int32.toInt64 2)]) (rest := []) dX11_init_195 ms_X11_common ml_X11_22 ⟨by decide, by decide, rfl, rfl, rfl⟩ (by decide) rfl rfl (Nat.le_of_ble_eq_true rfl) (c_X11_common (by decide) (by decide)) ?_
  rintro r w' ⟨rfl, rfl⟩
  refine ab_topl (v := 1) (by decide) ?_
  refine ab_lconst (v := 1) dX11_init_198 (by decide) ?_
  refine ab_lcmpne 209 dX11_init_199 dX11_init_200 (by decide) (fun h_53 => absurd (by decide) h_53) (fun h_53 => ?_)
  refine ab_aload_n dX11_init_203 rfl ?_
  refine ab_iload_n dX11_init_204 rfl ?_
  refine ab_iload_n dX11_init_205 rfl ?_
  refine ab_callV (As := [.int (-1), .int 2]) (rest := []) dX11_init_206 mv_X11_puts ml_X11_97 ⟨by decide, by decide, rfl, rfl, rfl⟩ (by decide) rfl rfl (Nat.le_of_ble_eq_true rfl) rfl (c_X11_puts (n := 15) (f := (lf tL_15)) (g := (lf tM_15)) (by decide)) ?_
  rintro r w' ⟨rfl, rfl⟩
  refine ab_world (WC0, [ob 9 [.int 0, .int 0, .int 0, .int (-1), .ref 1001, .ref 1002, .int 16, .ref 1003, .int 0, .int 0, .int 0, .int 0, .int 0, .ref 1004, .ref 1005, .ref 1006, .ref 1007, .int 0, .int 0, .int 0, .int 0, .ref 1008, .ref 1009, .ref 1010, .ref 1011, .int 0, .int 0, .int 0, .int 0, .int 0, .int 0, .int 0, .int 0, .long 0, .long 0, .long 0, .long 0, .long 0, .long 0, .long 0, .long 0, .long 0, .long 0, .ref 1012, .ref 1013, .ref 1014, .int 0, .ref 1015, .int 0, .int 0, .ref 1016, .long 0, .long 0, .long 0, .long 0, .ref 1017, .int (-1), .int 0, .int 0, .int 0, .ref 1018, .ref 1019, .int 0, .ref 1020, .int 0], ia 64 (lf tL_16), ia 64 (lf tM_16), ia 700 (fun _ => 0), ia 16 (fun _ => 0), ia 8 (fun _ => 0), ia 16 (fun _ => 0), ia 16 (fun _ => 0), ia 16 (fun _ => 0), ia 8 (fun _ => 0), ia 16 (fun _ => 0), ia 16 (fun _ => 0), ia 64 (fun _ => 0), ia 64 (fun _ => 0), ia 64 (fun _ => 0), ia 64 (fun _ => 0), ia 3 (fun _ => 0), ja 12 (fun _ => 0), ia 128 (fun _ => 0), ia 128 (fun _ => 0), ia 30 (fun _ => 0)]) (by rw [ins_15]; rfl) ?_
  refine ab_iinc (v := 3) (la' := [(2, .int 3), (1, .int (-1)), (0, .ref 1000)]) dX11_init_209 rfl (by decide) (by decide) rfl ?_
  refine ab_goto 186 dX11_init_212 (by decide) ?_
  refine ab_iload_n dX11_init_186 rfl ?_
  refine ab_iconst (v := 5) dX11_init_187 (by decide) ?_
  refine ab_icmpgt 215 dX11_init_188 (by decide) (fun h_54 => absurd h_54 (by decide)) (fun h_54 => ?_)
  refine ab_iload_n dX11_init_191 rfl ?_
  refine ab_i2l dX11_init_192 ?_
  refine ab_iload_n dX11_init_193 rfl ?_
  refine ab_i2l dX11_init_194 ?_
  refine ab_callS (As := [.long (Int32.toInt64 (-1)), .long (Int32.toInt64 3)]) (rest := []) dX11_init_195 ms_X11_common ml_X11_22 ⟨by decide, by decide, rfl, rfl, rfl⟩ (by decide) rfl rfl (Nat.le_of_ble_eq_true rfl) (c_X11_common (by decide) (by decide)) ?_
  rintro r w' ⟨rfl, rfl⟩
  refine ab_topl (v := 1) (by decide) ?_
  refine ab_lconst (v := 1) dX11_init_198 (by decide) ?_
  refine ab_lcmpne 209 dX11_init_199 dX11_init_200 (by decide) (fun h_55 => absurd (by decide) h_55) (fun h_55 => ?_)
  refine ab_aload_n dX11_init_203 rfl ?_
  refine ab_iload_n dX11_init_204 rfl ?_
  refine ab_iload_n dX11_init_205 rfl ?_
  refine ab_callV (As := [.int (-1), .int 3]) (rest := []) dX11_init_206 mv_X11_puts ml_X11_97 ⟨by decide, by decide, rfl, rfl, rfl⟩ (by decide) rfl rfl (Nat.le_of_ble_eq_true rfl) rfl (c_X11_puts (n := 16) (f := (lf tL_16)) (g := (lf tM_16)) (by decide)) ?_
  rintro r w' ⟨rfl, rfl⟩
  refine ab_world (WC0, [ob 9 [.int 0, .int 0, .int 0, .int (-1), .ref 1001, .ref 1002, .int 17, .ref 1003, .int 0, .int 0, .int 0, .int 0, .int 0, .ref 1004, .ref 1005, .ref 1006, .ref 1007, .int 0, .int 0, .int 0, .int 0, .ref 1008, .ref 1009, .ref 1010, .ref 1011, .int 0, .int 0, .int 0, .int 0, .int 0, .int 0, .int 0, .int 0, .long 0, .long 0, .long 0, .long 0, .long 0, .long 0, .long 0, .long 0, .long 0, .long 0, .ref 1012, .ref 1013, .ref 1014, .int 0, .ref 1015, .int 0, .int 0, .ref 1016, .long 0, .long 0, .long 0, .long 0, .ref 1017, .int (-1), .int 0, .int 0, .int 0, .ref 1018, .ref 1019, .int 0, .ref 1020, .int 0], ia 64 (lf tL_17), ia 64 (lf tM_17), ia 700 (fun _ => 0), ia 16 (fun _ => 0), ia 8 (fun _ => 0), ia 16 (fun _ => 0), ia 16 (fun _ => 0), ia 16 (fun _ => 0), ia 8 (fun _ => 0), ia 16 (fun _ => 0), ia 16 (fun _ => 0), ia 64 (fun _ => 0), ia 64 (fun _ => 0), ia 64 (fun _ => 0), ia 64 (fun _ => 0), ia 3 (fun _ => 0), ja 12 (fun _ => 0), ia 128 (fun _ => 0), ia 128 (fun _ => 0), ia 30 (fun _ => 0)]) (by rw [ins_16]; rfl) ?_
  refine ab_iinc (v := 4) (la' := [(2, .int 4), (1, .int (-1)), (0, .ref 1000)]) dX11_init_209 rfl (by decide) (by decide) rfl ?_
  refine ab_goto 186 dX11_init_212 (by decide) ?_
  refine ab_iload_n dX11_init_186 rfl ?_
  refine ab_iconst (v := 5) dX11_init_187 (by decide) ?_
  refine ab_icmpgt 215 dX11_init_188 (by decide) (fun h_56 => absurd h_56 (by decide)) (fun h_56 => ?_)
  refine ab_iload_n dX11_init_191 rfl ?_
  refine ab_i2l dX11_init_192 ?_
  refine ab_iload_n dX11_init_193 rfl ?_
  refine ab_i2l dX11_init_194 ?_
  refine ab_callS (As := [.long (Int32.toInt64 (-1)), .long (Int32.toInt64 4)]) (rest := []) dX11_init_195 ms_X11_common ml_X11_22 ⟨by decide, by decide, rfl, rfl, rfl⟩ (by decide) rfl rfl (Nat.le_of_ble_eq_true rfl) (c_X11_common (by decide) (by decide)) ?_
  rintro r w' ⟨rfl, rfl⟩
  refine ab_topl (v := 1) (by decide) ?_
  refine ab_lconst (v := 1) dX11_init_198 (by decide) ?_
  refine ab_lcmpne 209 dX11_init_199 dX11_init_200 (by decide) (fun h_57 => absurd (by decide) h_57) (fun h_57 => ?_)
  refine ab_aload_n dX11_init_203 rfl ?_
  refine ab_iload_n dX11_init_204 rfl ?_
  refine ab_iload_n dX11_init_205 rfl ?_
  refine ab_callV (As := [.int (-1), .int 4]) (rest := []) dX11_init_206 mv_X11_puts ml_X11_97 ⟨by decide, by decide, rfl, rfl, rfl⟩ (by decide) rfl rfl (Nat.le_of_ble_eq_true rfl) rfl (c_X11_puts (n := 17) (f := (lf tL_17)) (g := (lf tM_17)) (by decide)) ?_
  rintro r w' ⟨rfl, rfl⟩
  refine ab_world (WC0, [ob 9 [.int 0, .int 0, .int 0, .int (-1), .ref 1001, .ref 1002, .int 18, .ref 1003, .int 0, .int 0, .int 0, .int 0, .int 0, .ref 1004, .ref 1005, .ref 1006, .ref 1007, .int 0, .int 0, .int 0, .int 0, .ref 1008, .ref 1009, .ref 1010, .ref 1011, .int 0, .int 0, .int 0, .int 0, .int 0, .int 0, .int 0, .int 0, .long 0, .long 0, .long 0, .long 0, .long 0, .long 0, .long 0, .long 0, .long 0, .long 0, .ref 1012, .ref 1013, .ref 1014, .int 0, .ref 1015, .int 0, .int 0, .ref 1016, .long 0, .long 0, .long 0, .long 0, .ref 1017, .int (-1), .int 0, .int 0, .int 0, .ref 1018, .ref 1019, .int 0, .ref 1020, .int 0], ia 64 (lf tL_18), ia 64 (lf tM_18), ia 700 (fun _ => 0), ia 16 (fun _ => 0), ia 8 (fun _ => 0), ia 16 (fun _ => 0), ia 16 (fun _ => 0), ia 16 (fun _ => 0), ia 8 (fun _ => 0), ia 16 (fun _ => 0), ia 16 (fun _ => 0), ia 64 (fun _ => 0), ia 64 (fun _ => 0), ia 64 (fun _ => 0), ia 64 (fun _ => 0), ia 3 (fun _ => 0), ja 12 (fun _ => 0), ia 128 (fun _ => 0), ia 128 (fun _ => 0), ia 30 (fun _ => 0)]) (by rw [ins_17]; rfl) ?_
  refine ab_iinc (v := 5) (la' := [(2, .int 5), (1, .int (-1)), (0, .ref 1000)]) dX11_init_209 rfl (by decide) (by decide) rfl ?_
  refine ab_goto 186 dX11_init_212 (by decide) ?_
  refine ab_iload_n dX11_init_186 rfl ?_
  refine ab_iconst (v := 5) dX11_init_187 (by decide) ?_
  refine ab_icmpgt 215 dX11_init_188 (by decide) (fun h_58 => absurd h_58 (by decide)) (fun h_58 => ?_)
  refine ab_iload_n dX11_init_191 rfl ?_
  refine ab_i2l dX11_init_192 ?_
  refine ab_iload_n dX11_init_193 rfl ?_
  refine ab_i2l dX11_init_194 ?_
  refine ab_callS (As := [.long (Int32.toInt64 (-1)), .long (Int32.toInt64 5)]) (rest := []) dX11_init_195 ms_X11_common ml_X11_22 ⟨by decide, by decide, rfl, rfl, rfl⟩ (by decide) rfl rfl (Nat.le_of_ble_eq_true rfl) (c_X11_common (by decide) (by decide)) ?_
  rintro r w' ⟨rfl, rfl⟩
  refine ab_topl (v := 1) (by decide) ?_
  refine ab_lconst (v := 1) dX11_init_198 (by decide) ?_
  refine ab_lcmpne 209 dX11_init_199 dX11_init_200 (by decide) (fun h_59 => absurd (by decide) h_59) (fun h_59 => ?_)
  refine ab_aload_n dX11_init_203 rfl ?_
  refine ab_iload_n dX11_init_204 rfl ?_
  refine ab_iload_n dX11_init_205 rfl ?_
  refine ab_callV (As := [.int (-1), .int 5]) (rest := []) dX11_init_206 mv_X11_puts ml_X11_97 ⟨by decide, by decide, rfl, rfl, rfl⟩ (by decide) rfl rfl (Nat.le_of_ble_eq_true rfl) rfl (c_X11_puts (n := 18) (f := (lf tL_18)) (g := (lf tM_18)) (by decide)) ?_
  rintro r w' ⟨rfl, rfl⟩
  refine ab_world (WC0, [ob 9 [.int 0, .int 0, .int 0, .int (-1), .ref 1001, .ref 1002, .int 19, .ref 1003, .int 0, .int 0, .int 0, .int 0, .int 0, .ref 1004, .ref 1005, .ref 1006, .ref 1007, .int 0, .int 0, .int 0, .int 0, .ref 1008, .ref 1009, .ref 1010, .ref 1011, .int 0, .int 0, .int 0, .int 0, .int 0, .int 0, .int 0, .int 0, .long 0, .long 0, .long 0, .long 0, .long 0, .long 0, .long 0, .long 0, .long 0, .long 0, .ref 1012, .ref 1013, .ref 1014, .int 0, .ref 1015, .int 0, .int 0, .ref 1016, .long 0, .long 0, .long 0, .long 0, .ref 1017, .int (-1), .int 0, .int 0, .int 0, .ref 1018, .ref 1019, .int 0, .ref 1020, .int 0], ia 64 (lf tL_19), ia 64 (lf tM_19), ia 700 (fun _ => 0), ia 16 (fun _ => 0), ia 8 (fun _ => 0), ia 16 (fun _ => 0), ia 16 (fun _ => 0), ia 16 (fun _ => 0), ia 8 (fun _ => 0), ia 16 (fun _ => 0), ia 16 (fun _ => 0), ia 64 (fun _ => 0), ia 64 (fun _ => 0), ia 64 (fun _ => 0), ia 64 (fun _ => 0), ia 3 (fun _ => 0), ja 12 (fun _ => 0), ia 128 (fun _ => 0), ia 128 (fun _ => 0), ia 30 (fun _ => 0)]) (by rw [ins_18]; rfl) ?_
  refine ab_iinc (v := 6) (la' := [(2, .int 6), (1, .int (-1)), (0, .ref 1000)]) dX11_init_209 rfl (by decide) (by decide) rfl ?_
  refine ab_goto 186 dX11_init_212 (by decide) ?_
  refine ab_iload_n dX11_init_186 rfl ?_
  refine ab_iconst (v := 5) dX11_init_187 (by decide) ?_
  refine ab_icmpgt 215 dX11_init_188 (by decide) (fun h_60 => ?_) (fun h_60 => absurd (by decide) h_60)
  refine ab_iinc (v := 0) (la' := [(1, .int 0), (2, .int 6), (0, .ref 1000)]) dX11_init_215 rfl (by decide) (by decide) rfl ?_
  refine ab_goto 179 dX11_init_218 (by decide) ?_
  refine ab_iload_n dX11_init_179 rfl ?_
  refine ab_iconst (v := 5) dX11_init_180 (by decide) ?_
  refine ab_icmpgt 221 dX11_init_181 (by decide) (fun h_61 => absurd h_61 (by decide)) (fun h_61 => ?_)
  refine ab_iconst (v := 1) dX11_init_184 (by decide) ?_
  refine ab_istore_n (la' := [(2, .int 1), (1, .int 0), (0, .ref 1000)]) dX11_init_185 (by decide) rfl ?_
  refine ab_iload_n dX11_init_186 rfl ?_
  refine ab_iconst (v := 5) dX11_init_187 (by decide) ?_
  refine ab_icmpgt 215 dX11_init_188 (by decide) (fun h_62 => absurd h_62 (by decide)) (fun h_62 => ?_)
  refine ab_iload_n dX11_init_191 rfl ?_
  refine ab_i2l dX11_init_192 ?_
  refine ab_iload_n dX11_init_193 rfl ?_
  refine ab_i2l dX11_init_194 ?_
  refine ab_callS (As := [.long (Int32.toInt64 0), .long (Int32.toInt64 1)]) (rest := []) dX11_init_195 ms_X11_common ml_X11_22 ⟨by decide, by decide, rfl, rfl, rfl⟩ (by decide) rfl rfl (Nat.le_of_ble_eq_true rfl) (c_X11_common (by decide) (by decide)) ?_
  rintro r w' ⟨rfl, rfl⟩
  refine ab_topl (v := 1) (by decide) ?_
  refine ab_lconst (v := 1) dX11_init_198 (by decide) ?_
  refine ab_lcmpne 209 dX11_init_199 dX11_init_200 (by decide) (fun h_63 => absurd (by decide) h_63) (fun h_63 => ?_)
  refine ab_aload_n dX11_init_203 rfl ?_
  refine ab_iload_n dX11_init_204 rfl ?_
  refine ab_iload_n dX11_init_205 rfl ?_
  refine ab_callV (As := [.int 0, .int 1]) (rest := []) dX11_init_206 mv_X11_puts ml_X11_97 ⟨by decide, by decide, rfl, rfl, rfl⟩ (by decide) rfl rfl (Nat.le_of_ble_eq_true rfl) rfl (c_X11_puts (n := 19) (f := (lf tL_19)) (g := (lf tM_19)) (by decide)) ?_
  rintro r w' ⟨rfl, rfl⟩
  refine ab_world (WC0, [ob 9 [.int 0, .int 0, .int 0, .int (-1), .ref 1001, .ref 1002, .int 20, .ref 1003, .int 0, .int 0, .int 0, .int 0, .int 0, .ref 1004, .ref 1005, .ref 1006, .ref 1007, .int 0, .int 0, .int 0, .int 0, .ref 1008, .ref 1009, .ref 1010, .ref 1011, .int 0, .int 0, .int 0, .int 0, .int 0, .int 0, .int 0, .int 0, .long 0, .long 0, .long 0, .long 0, .long 0, .long 0, .long 0, .long 0, .long 0, .long 0, .ref 1012, .ref 1013, .ref 1014, .int 0, .ref 1015, .int 0, .int 0, .ref 1016, .long 0, .long 0, .long 0, .long 0, .ref 1017, .int (-1), .int 0, .int 0, .int 0, .ref 1018, .ref 1019, .int 0, .ref 1020, .int 0], ia 64 (lf tL_20), ia 64 (lf tM_20), ia 700 (fun _ => 0), ia 16 (fun _ => 0), ia 8 (fun _ => 0), ia 16 (fun _ => 0), ia 16 (fun _ => 0), ia 16 (fun _ => 0), ia 8 (fun _ => 0), ia 16 (fun _ => 0), ia 16 (fun _ => 0), ia 64 (fun _ => 0), ia 64 (fun _ => 0), ia 64 (fun _ => 0), ia 64 (fun _ => 0), ia 3 (fun _ => 0), ja 12 (fun _ => 0), ia 128 (fun _ => 0), ia 128 (fun _ => 0), ia 30 (fun _ => 0)]) (by rw [ins_19]; rfl) ?_
  refine ab_iinc (v := 2) (la' := [(2, .int 2), (1, .int 0), (0, .ref 1000)]) dX11_init_209 rfl (by decide) (by decide) rfl ?_
  refine ab_goto 186 dX11_init_212 (by decide) ?_
  refine ab_iload_n dX11_init_186 rfl ?_
  refine ab_iconst (v := 5) dX11_init_187 (by decide) ?_
  refine ab_icmpgt 215 dX11_init_188 (by decide) (fun h_64 => absurd h_64 (by decide)) (fun h_64 => ?_)
  refine ab_iload_n dX11_init_191 rfl ?_
  refine ab_i2l dX11_init_192 ?_
  refine ab_iload_n dX11_init_193 rfl ?_
  refine ab_i2l dX11_init_194 ?_
  refine ab_callS (As := [.long (Int32.toInt64 0), .long (Int32.toInt64 2)]) (rest := []) dX11_init_195 ms_X11_common ml_X11_22 ⟨by decide, by decide, rfl, rfl, rfl⟩ (by decide) rfl rfl (Nat.le_of_ble_eq_true rfl) (c_X11_common (by decide) (by decide)) ?_
  rintro r w' ⟨rfl, rfl⟩
  refine ab_topl (v := 2) (by decide) ?_
  refine ab_lconst (v := 1) dX11_init_198 (by decide) ?_
  refine ab_lcmpne 209 dX11_init_199 dX11_init_200 (by decide) (fun h_65 => ?_) (fun h_65 => absurd h_65 (by decide))
  refine ab_iinc (v := 3) (la' := [(2, .int 3), (1, .int 0), (0, .ref 1000)]) dX11_init_209 rfl (by decide) (by decide) rfl ?_
  refine ab_goto 186 dX11_init_212 (by decide) ?_
  refine ab_iload_n dX11_init_186 rfl ?_
  refine ab_iconst (v := 5) dX11_init_187 (by decide) ?_
  refine ab_icmpgt 215 dX11_init_188 (by decide) (fun h_66 => absurd h_66 (by decide)) (fun h_66 => ?_)
  refine ab_iload_n dX11_init_191 rfl ?_
  refine ab_i2l dX11_init_192 ?_
  refine ab_iload_n dX11_init_193 rfl ?_
  refine ab_i2l dX11_init_194 ?_
  refine ab_callS (As := [.long (Int32.toInt64 0), .long (Int32.toInt64 3)]) (rest := []) dX11_init_195 ms_X11_common ml_X11_22 ⟨by decide, by decide, rfl, rfl, rfl⟩ (by decide) rfl rfl (Nat.le_of_ble_eq_true rfl) (c_X11_common (by decide) (by decide)) ?_
  rintro r w' ⟨rfl, rfl⟩
  refine ab_topl (v := 3) (by decide) ?_
  refine ab_lconst (v := 1) dX11_init_198 (by decide) ?_
  refine ab_lcmpne 209 dX11_init_199 dX11_init_200 (by decide) (fun h_67 => ?_) (fun h_67 => absurd h_67 (by decide))
  refine ab_iinc (v := 4) (la' := [(2, .int 4), (1, .int 0), (0, .ref 1000)]) dX11_init_209 rfl (by decide) (by decide) rfl ?_
  refine ab_goto 186 dX11_init_212 (by decide) ?_
  refine ab_iload_n dX11_init_186 rfl ?_
  refine ab_iconst (v := 5) dX11_init_187 (by decide) ?_
  refine ab_icmpgt 215 dX11_init_188 (by decide) (fun h_68 => absurd h_68 (by decide)) (fun h_68 => ?_)
  refine ab_iload_n dX11_init_191 rfl ?_
  refine ab_i2l dX11_init_192 ?_
  refine ab_iload_n dX11_init_193 rfl ?_
  refine ab_i2l dX11_init_194 ?_
  refine ab_callS (As := [.long (Int32.toInt64 0), .long (Int32.toInt64 4)]) (rest := []) dX11_init_195 ms_X11_common ml_X11_22 ⟨by decide, by decide, rfl, rfl, rfl⟩ (by decide) rfl rfl (Nat.le_of_ble_eq_true rfl) (c_X11_common (by decide) (by decide)) ?_
  rintro r w' ⟨rfl, rfl⟩
  refine ab_topl (v := 4) (by decide) ?_
  refine ab_lconst (v := 1) dX11_init_198 (by decide) ?_
  refine ab_lcmpne 209 dX11_init_199 dX11_init_200 (by decide) (fun h_69 => ?_) (fun h_69 => absurd h_69 (by decide))
  refine ab_iinc (v := 5) (la' := [(2, .int 5), (1, .int 0), (0, .ref 1000)]) dX11_init_209 rfl (by decide) (by decide) rfl ?_
  refine ab_goto 186 dX11_init_212 (by decide) ?_
  refine ab_iload_n dX11_init_186 rfl ?_
  refine ab_iconst (v := 5) dX11_init_187 (by decide) ?_
  refine ab_icmpgt 215 dX11_init_188 (by decide) (fun h_70 => absurd h_70 (by decide)) (fun h_70 => ?_)
  refine ab_iload_n dX11_init_191 rfl ?_
  refine ab_i2l dX11_init_192 ?_
  refine ab_iload_n dX11_init_193 rfl ?_
  refine ab_i2l dX11_init_194 ?_
  refine ab_callS (As := [.long (Int32.toInt64 0), .long (Int32.toInt64 5)]) (rest := []) dX11_init_195 ms_X11_common ml_X11_22 ⟨by decide, by decide, rfl, rfl, rfl⟩ (by decide) rfl rfl (Nat.le_of_ble_eq_true rfl) (c_X11_common (by decide) (by decide)) ?_
  rintro r w' ⟨rfl, rfl⟩
  refine ab_topl (v := 5) (by decide) ?_
  refine ab_lconst (v := 1) dX11_init_198 (by decide) ?_
  refine ab_lcmpne 209 dX11_init_199 dX11_init_200 (by decide) (fun h_71 => ?_) (fun h_71 => absurd h_71 (by decide))
  refine ab_iinc (v := 6) (la' := [(2, .int 6), (1, .int 0), (0, .ref 1000)]) dX11_init_209 rfl (by decide) (by decide) rfl ?_
  refine ab_goto 186 dX11_init_212 (by decide) ?_
  refine ab_iload_n dX11_init_186 rfl ?_
  refine ab_iconst (v := 5) dX11_init_187 (by decide) ?_
  refine ab_icmpgt 215 dX11_init_188 (by decide) (fun h_72 => ?_) (fun h_72 => absurd (by decide) h_72)
  refine ab_iinc (v := 1) (la' := [(1, .int 1), (2, .int 6), (0, .ref 1000)]) dX11_init_215 rfl (by decide) (by decide) rfl ?_
  refine ab_goto 179 dX11_init_218 (by decide) ?_
  refine ab_iload_n dX11_init_179 rfl ?_
  refine ab_iconst (v := 5) dX11_init_180 (by decide) ?_
  refine ab_icmpgt 221 dX11_init_181 (by decide) (fun h_73 => absurd h_73 (by decide)) (fun h_73 => ?_)
  refine ab_iconst (v := 1) dX11_init_184 (by decide) ?_
  refine ab_istore_n (la' := [(2, .int 1), (1, .int 1), (0, .ref 1000)]) dX11_init_185 (by decide) rfl ?_
  refine ab_iload_n dX11_init_186 rfl ?_
  refine ab_iconst (v := 5) dX11_init_187 (by decide) ?_
  refine ab_icmpgt 215 dX11_init_188 (by decide) (fun h_74 => absurd h_74 (by decide)) (fun h_74 => ?_)
  refine ab_iload_n dX11_init_191 rfl ?_
  refine ab_i2l dX11_init_192 ?_
  refine ab_iload_n dX11_init_193 rfl ?_
  refine ab_i2l dX11_init_194 ?_
  refine ab_callS (As := [.long (Int32.toInt64 1), .long (Int32.toInt64 1)]) (rest := []) dX11_init_195 ms_X11_common ml_X11_22 ⟨by decide, by decide, rfl, rfl, rfl⟩ (by decide) rfl rfl (Nat.le_of_ble_eq_true rfl) (c_X11_common (by decide) (by decide)) ?_
  rintro r w' ⟨rfl, rfl⟩
  refine ab_topl (v := 1) (by decide) ?_
  refine ab_lconst (v := 1) dX11_init_198 (by decide) ?_
  refine ab_lcmpne 209 dX11_init_199 dX11_init_200 (by decide) (fun h_75 => absurd (by decide) h_75) (fun h_75 => ?_)
  refine ab_aload_n dX11_init_203 rfl ?_
  refine ab_iload_n dX11_init_204 rfl ?_
  refine ab_iload_n dX11_init_205 rfl ?_
  refine ab_callV (As := [.int 1, .int 1]) (rest := []) dX11_init_206 mv_X11_puts ml_X11_97 ⟨by decide, by decide, rfl, rfl, rfl⟩ (by decide) rfl rfl (Nat.le_of_ble_eq_true rfl) rfl (c_X11_puts (n := 20) (f := (lf tL_20)) (g := (lf tM_20)) (by decide)) ?_
  rintro r w' ⟨rfl, rfl⟩
  refine ab_world (WC0, [ob 9 [.int 0, .int 0, .int 0, .int (-1), .ref 1001, .ref 1002, .int 21, .ref 1003, .int 0, .int 0, .int 0, .int 0, .int 0, .ref 1004, .ref 1005, .ref 1006, .ref 1007, .int 0, .int 0, .int 0, .int 0, .ref 1008, .ref 1009, .ref 1010, .ref 1011, .int 0, .int 0, .int 0, .int 0, .int 0, .int 0, .int 0, .int 0, .long 0, .long 0, .long 0, .long 0, .long 0, .long 0, .long 0, .long 0, .long 0, .long 0, .ref 1012, .ref 1013, .ref 1014, .int 0, .ref 1015, .int 0, .int 0, .ref 1016, .long 0, .long 0, .long 0, .long 0, .ref 1017, .int (-1), .int 0, .int 0, .int 0, .ref 1018, .ref 1019, .int 0, .ref 1020, .int 0], ia 64 (lf tL_21), ia 64 (lf tM_21), ia 700 (fun _ => 0), ia 16 (fun _ => 0), ia 8 (fun _ => 0), ia 16 (fun _ => 0), ia 16 (fun _ => 0), ia 16 (fun _ => 0), ia 8 (fun _ => 0), ia 16 (fun _ => 0), ia 16 (fun _ => 0), ia 64 (fun _ => 0), ia 64 (fun _ => 0), ia 64 (fun _ => 0), ia 64 (fun _ => 0), ia 3 (fun _ => 0), ja 12 (fun _ => 0), ia 128 (fun _ => 0), ia 128 (fun _ => 0), ia 30 (fun _ => 0)]) (by rw [ins_20]; rfl) ?_
  refine ab_iinc (v := 2) (la' := [(2, .int 2), (1, .int 1), (0, .ref 1000)]) dX11_init_209 rfl (by decide) (by decide) rfl ?_
  refine ab_goto 186 dX11_init_212 (by decide) ?_
  refine ab_iload_n dX11_init_186 rfl ?_
  refine ab_iconst (v := 5) dX11_init_187 (by decide) ?_
  refine ab_icmpgt 215 dX11_init_188 (by decide) (fun h_76 => absurd h_76 (by decide)) (fun h_76 => ?_)
  refine ab_iload_n dX11_init_191 rfl ?_
  refine ab_i2l dX11_init_192 ?_
  refine ab_iload_n dX11_init_193 rfl ?_
  refine ab_i2l dX11_init_194 ?_
  refine ab_callS (As := [.long (Int32.toInt64 1), .long (Int32.toInt64 2)]) (rest := []) dX11_init_195 ms_X11_common ml_X11_22 ⟨by decide, by decide, rfl, rfl, rfl⟩ (by decide) rfl rfl (Nat.le_of_ble_eq_true rfl) (c_X11_common (by decide) (by decide)) ?_
  rintro r w' ⟨rfl, rfl⟩
  refine ab_topl (v := 1) (by decide) ?_
  refine ab_lconst (v := 1) dX11_init_198 (by decide) ?_
  refine ab_lcmpne 209 dX11_init_199 dX11_init_200 (by decide) (fun h_77 => absurd (by decide) h_77) (fun h_77 => ?_)
  refine ab_aload_n dX11_init_203 rfl ?_
  refine ab_iload_n dX11_init_204 rfl ?_
  refine ab_iload_n dX11_init_205 rfl ?_
  refine ab_callV (As := [.int 1, .int 2]) (rest := []) dX11_init_206 mv_X11_puts ml_X11_97 ⟨by decide, by decide, rfl, rfl, rfl⟩ (by decide) rfl rfl (Nat.le_of_ble_eq_true rfl) rfl (c_X11_puts (n := 21) (f := (lf tL_21)) (g := (lf tM_21)) (by decide)) ?_
  rintro r w' ⟨rfl, rfl⟩
  refine ab_world (WC0, [ob 9 [.int 0, .int 0, .int 0, .int (-1), .ref 1001, .ref 1002, .int 22, .ref 1003, .int 0, .int 0, .int 0, .int 0, .int 0, .ref 1004, .ref 1005, .ref 1006, .ref 1007, .int 0, .int 0, .int 0, .int 0, .ref 1008, .ref 1009, .ref 1010, .ref 1011, .int 0, .int 0, .int 0, .int 0, .int 0, .int 0, .int 0, .int 0, .long 0, .long 0, .long 0, .long 0, .long 0, .long 0, .long 0, .long 0, .long 0, .long 0, .ref 1012, .ref 1013, .ref 1014, .int 0, .ref 1015, .int 0, .int 0, .ref 1016, .long 0, .long 0, .long 0, .long 0, .ref 1017, .int (-1), .int 0, .int 0, .int 0, .ref 1018, .ref 1019, .int 0, .ref 1020, .int 0], ia 64 (lf tL_22), ia 64 (lf tM_22), ia 700 (fun _ => 0), ia 16 (fun _ => 0), ia 8 (fun _ => 0), ia 16 (fun _ => 0), ia 16 (fun _ => 0), ia 16 (fun _ => 0), ia 8 (fun _ => 0), ia 16 (fun _ => 0), ia 16 (fun _ => 0), ia 64 (fun _ => 0), ia 64 (fun _ => 0), ia 64 (fun _ => 0), ia 64 (fun _ => 0), ia 3 (fun _ => 0), ja 12 (fun _ => 0), ia 128 (fun _ => 0), ia 128 (fun _ => 0), ia 30 (fun _ => 0)]) (by rw [ins_21]; rfl) ?_
  refine ab_iinc (v := 3) (la' := [(2, .int 3), (1, .int 1), (0, .ref 1000)]) dX11_init_209 rfl (by decide) (by decide) rfl ?_
  refine ab_goto 186 dX11_init_212 (by decide) ?_
  refine ab_iload_n dX11_init_186 rfl ?_
  refine ab_iconst (v := 5) dX11_init_187 (by decide) ?_
  refine ab_icmpgt 215 dX11_init_188 (by decide) (fun h_78 => absurd h_78 (by decide)) (fun h_78 => ?_)
  refine ab_iload_n dX11_init_191 rfl ?_
  refine ab_i2l dX11_init_192 ?_
  refine ab_iload_n dX11_init_193 rfl ?_
  refine ab_i2l dX11_init_194 ?_
  refine ab_callS (As := [.long (Int32.toInt64 1), .long (Int32.toInt64 3)]) (rest := []) dX11_init_195 ms_X11_common ml_X11_22 ⟨by decide, by decide, rfl, rfl, rfl⟩ (by decide) rfl rfl (Nat.le_of_ble_eq_true rfl) (c_X11_common (by decide) (by decide)) ?_
  rintro r w' ⟨rfl, rfl⟩
  refine ab_topl (v := 1) (by decide) ?_
  refine ab_lconst (v := 1) dX11_init_198 (by decide) ?_
  refine ab_lcmpne 209 dX11_init_199 dX11_init_200 (by decide) (fun h_79 => absurd (by decide) h_79) (fun h_79 => ?_)
  refine ab_aload_n dX11_init_203 rfl ?_
  refine ab_iload_n dX11_init_204 rfl ?_
  refine ab_iload_n dX11_init_205 rfl ?_
  refine ab_callV (As := [.int 1, .int 3]) (rest := []) dX11_init_206 mv_X11_puts ml_X11_97 ⟨by decide, by decide, rfl, rfl, rfl⟩ (by decide) rfl rfl (Nat.le_of_ble_eq_true rfl) rfl (c_X11_puts (n := 22) (f := (lf tL_22)) (g := (lf tM_22)) (by decide)) ?_
  rintro r w' ⟨rfl, rfl⟩
  refine ab_world (WC0, [ob 9 [.int 0, .int 0, .int 0, .int (-1), .ref 1001, .ref 1002, .int 23, .ref 1003, .int 0, .int 0, .int 0, .int 0, .int 0, .ref 1004, .ref 1005, .ref 1006, .ref 1007, .int 0, .int 0, .int 0, .int 0, .ref 1008, .ref 1009, .ref 1010, .ref 1011, .int 0, .int 0, .int 0, .int 0, .int 0, .int 0, .int 0, .int 0, .long 0, .long 0, .long 0, .long 0, .long 0, .long 0, .long 0, .long 0, .long 0, .long 0, .ref 1012, .ref 1013, .ref 1014, .int 0, .ref 1015, .int 0, .int 0, .ref 1016, .long 0, .long 0, .long 0, .long 0, .ref 1017, .int (-1), .int 0, .int 0, .int 0, .ref 1018, .ref 1019, .int 0, .ref 1020, .int 0], ia 64 (lf tL_23), ia 64 (lf tM_23), ia 700 (fun _ => 0), ia 16 (fun _ => 0), ia 8 (fun _ => 0), ia 16 (fun _ => 0), ia 16 (fun _ => 0), ia 16 (fun _ => 0), ia 8 (fun _ => 0), ia 16 (fun _ => 0), ia 16 (fun _ => 0), ia 64 (fun _ => 0), ia 64 (fun _ => 0), ia 64 (fun _ => 0), ia 64 (fun _ => 0), ia 3 (fun _ => 0), ja 12 (fun _ => 0), ia 128 (fun _ => 0), ia 128 (fun _ => 0), ia 30 (fun _ => 0)]) (by rw [ins_22]; rfl) ?_
  refine ab_iinc (v := 4) (la' := [(2, .int 4), (1, .int 1), (0, .ref 1000)]) dX11_init_209 rfl (by decide) (by decide) rfl ?_
  refine ab_goto 186 dX11_init_212 (by decide) ?_
  refine ab_iload_n dX11_init_186 rfl ?_
  refine ab_iconst (v := 5) dX11_init_187 (by decide) ?_
  refine ab_icmpgt 215 dX11_init_188 (by decide) (fun h_80 => absurd h_80 (by decide)) (fun h_80 => ?_)
  refine ab_iload_n dX11_init_191 rfl ?_
  refine ab_i2l dX11_init_192 ?_
  refine ab_iload_n dX11_init_193 rfl ?_
  refine ab_i2l dX11_init_194 ?_
  refine ab_callS (As := [.long (Int32.toInt64 1), .long (Int32.toInt64 4)]) (rest := []) dX11_init_195 ms_X11_common ml_X11_22 ⟨by decide, by decide, rfl, rfl, rfl⟩ (by decide) rfl rfl (Nat.le_of_ble_eq_true rfl) (c_X11_common (by decide) (by decide)) ?_
  rintro r w' ⟨rfl, rfl⟩
  refine ab_topl (v := 1) (by decide) ?_
  refine ab_lconst (v := 1) dX11_init_198 (by decide) ?_
  refine ab_lcmpne 209 dX11_init_199 dX11_init_200 (by decide) (fun h_81 => absurd (by decide) h_81) (fun h_81 => ?_)
  refine ab_aload_n dX11_init_203 rfl ?_
  refine ab_iload_n dX11_init_204 rfl ?_
  refine ab_iload_n dX11_init_205 rfl ?_
  refine ab_callV (As := [.int 1, .int 4]) (rest := []) dX11_init_206 mv_X11_puts ml_X11_97 ⟨by decide, by decide, rfl, rfl, rfl⟩ (by decide) rfl rfl (Nat.le_of_ble_eq_true rfl) rfl (c_X11_puts (n := 23) (f := (lf tL_23)) (g := (lf tM_23)) (by decide)) ?_
  rintro r w' ⟨rfl, rfl⟩
  refine ab_world (WC0, [ob 9 [.int 0, .int 0, .int 0, .int (-1), .ref 1001, .ref 1002, .int 24, .ref 1003, .int 0, .int 0, .int 0, .int 0, .int 0, .ref 1004, .ref 1005, .ref 1006, .ref 1007, .int 0, .int 0, .int 0, .int 0, .ref 1008, .ref 1009, .ref 1010, .ref 1011, .int 0, .int 0, .int 0, .int 0, .int 0, .int 0, .int 0, .int 0, .long 0, .long 0, .long 0, .long 0, .long 0, .long 0, .long 0, .long 0, .long 0, .long 0, .ref 1012, .ref 1013, .ref 1014, .int 0, .ref 1015, .int 0, .int 0, .ref 1016, .long 0, .long 0, .long 0, .long 0, .ref 1017, .int (-1), .int 0, .int 0, .int 0, .ref 1018, .ref 1019, .int 0, .ref 1020, .int 0], ia 64 (lf tL_24), ia 64 (lf tM_24), ia 700 (fun _ => 0), ia 16 (fun _ => 0), ia 8 (fun _ => 0), ia 16 (fun _ => 0), ia 16 (fun _ => 0), ia 16 (fun _ => 0), ia 8 (fun _ => 0), ia 16 (fun _ => 0), ia 16 (fun _ => 0), ia 64 (fun _ => 0), ia 64 (fun _ => 0), ia 64 (fun _ => 0), ia 64 (fun _ => 0), ia 3 (fun _ => 0), ja 12 (fun _ => 0), ia 128 (fun _ => 0), ia 128 (fun _ => 0), ia 30 (fun _ => 0)]) (by rw [ins_23]; rfl) ?_
  refine ab_iinc (v := 5) (la' := [(2, .int 5), (1, .int 1), (0, .ref 1000)]) dX11_init_209 rfl (by decide) (by decide) rfl ?_
  refine ab_goto 186 dX11_init_212 (by decide) ?_
  refine ab_iload_n dX11_init_186 rfl ?_
  refine ab_iconst (v := 5) dX11_init_187 (by decide) ?_
  refine ab_icmpgt 215 dX11_init_188 (by decide) (fun h_82 => absurd h_82 (by decide)) (fun h_82 => ?_)
  refine ab_iload_n dX11_init_191 rfl ?_
  refine ab_i2l dX11_init_192 ?_
  refine ab_iload_n dX11_init_193 rfl ?_
  refine ab_i2l dX11_init_194 ?_
  refine ab_callS (As := [.long (Int32.toInt64 1), .long (Int32.toInt64 5)]) (rest := []) dX11_init_195 ms_X11_common ml_X11_22 ⟨by decide, by decide, rfl, rfl, rfl⟩ (by decide) rfl rfl (Nat.le_of_ble_eq_true rfl) (c_X11_common (by decide) (by decide)) ?_
  rintro r w' ⟨rfl, rfl⟩
  refine ab_topl (v := 1) (by decide) ?_
  refine ab_lconst (v := 1) dX11_init_198 (by decide) ?_
  refine ab_lcmpne 209 dX11_init_199 dX11_init_200 (by decide) (fun h_83 => absurd (by decide) h_83) (fun h_83 => ?_)
  refine ab_aload_n dX11_init_203 rfl ?_
  refine ab_iload_n dX11_init_204 rfl ?_
  refine ab_iload_n dX11_init_205 rfl ?_
  refine ab_callV (As := [.int 1, .int 5]) (rest := []) dX11_init_206 mv_X11_puts ml_X11_97 ⟨by decide, by decide, rfl, rfl, rfl⟩ (by decide) rfl rfl (Nat.le_of_ble_eq_true rfl) rfl (c_X11_puts (n := 24) (f := (lf tL_24)) (g := (lf tM_24)) (by decide)) ?_
  rintro r w' ⟨rfl, rfl⟩
  refine ab_world (WC0, [ob 9 [.int 0, .int 0, .int 0, .int (-1), .ref 1001, .ref 1002, .int 25, .ref 1003, .int 0, .int 0, .int 0, .int 0, .int 0, .ref 1004, .ref 1005, .ref 1006, .ref 1007, .int 0, .int 0, .int 0, .int 0, .ref 1008, .ref 1009, .ref 1010, .ref 1011, .int 0, .int 0, .int 0, .int 0, .int 0, .int 0, .int 0, .int 0, .long 0, .long 0, .long 0, .long 0, .long 0, .long 0, .long 0, .long 0, .long 0, .long 0, .ref 1012, .ref 1013, .ref 1014, .int 0, .ref 1015, .int 0, .int 0, .ref 1016, .long 0, .long 0, .long 0, .long 0, .ref 1017, .int (-1), .int 0, .int 0, .int 0, .ref 1018, .ref 1019, .int 0, .ref 1020, .int 0], ia 64 (lf tL_25), ia 64 (lf tM_25), ia 700 (fun _ => 0), ia 16 (fun _ => 0), ia 8 (fun _ => 0), ia 16 (fun _ => 0), ia 16 (fun _ => 0), ia 16 (fun _ => 0), ia 8 (fun _ => 0), ia 16 (fun _ => 0), ia 16 (fun _ => 0), ia 64 (fun _ => 0), ia 64 (fun _ => 0), ia 64 (fun _ => 0), ia 64 (fun _ => 0), ia 3 (fun _ => 0), ja 12 (fun _ => 0), ia 128 (fun _ => 0), ia 128 (fun _ => 0), ia 30 (fun _ => 0)]) (by rw [ins_24]; rfl) ?_
  refine ab_iinc (v := 6) (la' := [(2, .int 6), (1, .int 1), (0, .ref 1000)]) dX11_init_209 rfl (by decide) (by decide) rfl ?_
  refine ab_goto 186 dX11_init_212 (by decide) ?_
  refine ab_iload_n dX11_init_186 rfl ?_
  refine ab_iconst (v := 5) dX11_init_187 (by decide) ?_
  refine ab_icmpgt 215 dX11_init_188 (by decide) (fun h_84 => ?_) (fun h_84 => absurd (by decide) h_84)
  refine ab_iinc (v := 2) (la' := [(1, .int 2), (2, .int 6), (0, .ref 1000)]) dX11_init_215 rfl (by decide) (by decide) rfl ?_
  refine ab_goto 179 dX11_init_218 (by decide) ?_
  refine ab_iload_n dX11_init_179 rfl ?_
  refine ab_iconst (v := 5) dX11_init_180 (by decide) ?_
  refine ab_icmpgt 221 dX11_init_181 (by decide) (fun h_85 => absurd h_85 (by decide)) (fun h_85 => ?_)
  refine ab_iconst (v := 1) dX11_init_184 (by decide) ?_
  refine ab_istore_n (la' := [(2, .int 1), (1, .int 2), (0, .ref 1000)]) dX11_init_185 (by decide) rfl ?_
  refine ab_iload_n dX11_init_186 rfl ?_
  refine ab_iconst (v := 5) dX11_init_187 (by decide) ?_
  refine ab_icmpgt 215 dX11_init_188 (by decide) (fun h_86 => absurd h_86 (by decide)) (fun h_86 => ?_)
  refine ab_iload_n dX11_init_191 rfl ?_
  refine ab_i2l dX11_init_192 ?_
  refine ab_iload_n dX11_init_193 rfl ?_
  refine ab_i2l dX11_init_194 ?_
  refine ab_callS (As := [.long (Int32.toInt64 2), .long (Int32.toInt64 1)]) (rest := []) dX11_init_195 ms_X11_common ml_X11_22 ⟨by decide, by decide, rfl, rfl, rfl⟩ (by decide) rfl rfl (Nat.le_of_ble_eq_true rfl) (c_X11_common (by decide) (by decide)) ?_
  rintro r w' ⟨rfl, rfl⟩
  refine ab_topl (v := 1) (by decide) ?_
  refine ab_lconst (v := 1) dX11_init_198 (by decide) ?_
  refine ab_lcmpne 209 dX11_init_199 dX11_init_200 (by decide) (fun h_87 => absurd (by decide) h_87) (fun h_87 => ?_)
  refine ab_aload_n dX11_init_203 rfl ?_
  refine ab_iload_n dX11_init_204 rfl ?_
  refine ab_iload_n dX11_init_205 rfl ?_
  refine ab_callV (As := [.int 2, .int 1]) (rest := []) dX11_init_206 mv_X11_puts ml_X11_97 ⟨by decide, by decide, rfl, rfl, rfl⟩ (by decide) rfl rfl (Nat.le_of_ble_eq_true rfl) rfl (c_X11_puts (n := 25) (f := (lf tL_25)) (g := (lf tM_25)) (by decide)) ?_
  rintro r w' ⟨rfl, rfl⟩
  refine ab_world (WC0, [ob 9 [.int 0, .int 0, .int 0, .int (-1), .ref 1001, .ref 1002, .int 26, .ref 1003, .int 0, .int 0, .int 0, .int 0, .int 0, .ref 1004, .ref 1005, .ref 1006, .ref 1007, .int 0, .int 0, .int 0, .int 0, .ref 1008, .ref 1009, .ref 1010, .ref 1011, .int 0, .int 0, .int 0, .int 0, .int 0, .int 0, .int 0, .int 0, .long 0, .long 0, .long 0, .long 0, .long 0, .long 0, .long 0, .long 0, .long 0, .long 0, .ref 1012, .ref 1013, .ref 1014, .int 0, .ref 1015, .int 0, .int 0, .ref 1016, .long 0, .long 0, .long 0, .long 0, .ref 1017, .int (-1), .int 0, .int 0, .int 0, .ref 1018, .ref 1019, .int 0, .ref 1020, .int 0], ia 64 (lf tL_26), ia 64 (lf tM_26), ia 700 (fun _ => 0), ia 16 (fun _ => 0), ia 8 (fun _ => 0), ia 16 (fun _ => 0), ia 16 (fun _ => 0), ia 16 (fun _ => 0), ia 8 (fun _ => 0), ia 16 (fun _ => 0), ia 16 (fun _ => 0), ia 64 (fun _ => 0), ia 64 (fun _ => 0), ia 64 (fun _ => 0), ia 64 (fun _ => 0), ia 3 (fun _ => 0), ja 12 (fun _ => 0), ia 128 (fun _ => 0), ia 128 (fun _ => 0), ia 30 (fun _ => 0)]) (by rw [ins_25]; rfl) ?_
  refine ab_iinc (v := 2) (la' := [(2, .int 2), (1, .int 2), (0, .ref 1000)]) dX11_init_209 rfl (by decide) (by decide) rfl ?_
  refine ab_goto 186 dX11_init_212 (by decide) ?_
  refine ab_iload_n dX11_init_186 rfl ?_
  refine ab_iconst (v := 5) dX11_init_187 (by decide) ?_
  refine ab_icmpgt 215 dX11_init_188 (by decide) (fun h_88 => absurd h_88 (by decide)) (fun h_88 => ?_)
  refine ab_iload_n dX11_init_191 rfl ?_
  refine ab_i2l dX11_init_192 ?_
  refine ab_iload_n dX11_init_193 rfl ?_
  refine ab_i2l dX11_init_194 ?_
  refine ab_callS (As := [.long (Int32.toInt64 2), .long (Int32.toInt64 2)]) (rest := []) dX11_init_195 ms_X11_common ml_X11_22 ⟨by decide, by decide, rfl, rfl, rfl⟩ (by decide) rfl rfl (Nat.le_of_ble_eq_true rfl) (c_X11_common (by decide) (by decide)) ?_
  rintro r w' ⟨rfl, rfl⟩
  refine ab_topl (v := 2) (by decide) ?_
  refine ab_lconst (v := 1) dX11_init_198 (by decide) ?_
  refine ab_lcmpne 209 dX11_init_199 dX11_init_200 (by decide) (fun h_89 => ?_) (fun h_89 => absurd h_89 (by decide))
  refine ab_iinc (v := 3) (la' := [(2, .int 3), (1, .int 2), (0, .ref 1000)]) dX11_init_209 rfl (by decide) (by decide) rfl ?_
  refine ab_goto 186 dX11_init_212 (by decide) ?_
  refine ab_iload_n dX11_init_186 rfl ?_
  refine ab_iconst (v := 5) dX11_init_187 (by decide) ?_
  refine ab_icmpgt 215 dX11_init_188 (by decide) (fun h_90 => absurd h_90 (by decide)) (fun h_90 => ?_)
  refine ab_iload_n dX11_init_191 rfl ?_
  refine ab_i2l dX11_init_192 ?_
  refine ab_iload_n dX11_init_193 rfl ?_
  refine ab_i2l dX11_init_194 ?_
  refine ab_callS (As := [.long (Int32.toInt64 2), .long (Int32.toInt64 3)]) (rest := []) dX11_init_195 ms_X11_common ml_X11_22 ⟨by decide, by decide, rfl, rfl, rfl⟩ (by decide) rfl rfl (Nat.le_of_ble_eq_true rfl) (c_X11_common (by decide) (by decide)) ?_
  rintro r w' ⟨rfl, rfl⟩
  refine ab_topl (v := 1) (by decide) ?_
  refine ab_lconst (v := 1) dX11_init_198 (by decide) ?_
  refine ab_lcmpne 209 dX11_init_199 dX11_init_200 (by decide) (fun h_91 => absurd (by decide) h_91) (fun h_91 => ?_)
  refine ab_aload_n dX11_init_203 rfl ?_
  refine ab_iload_n dX11_init_204 rfl ?_
  refine ab_iload_n dX11_init_205 rfl ?_
  refine ab_callV (As := [.int 2, .int 3]) (rest := []) dX11_init_206 mv_X11_puts ml_X11_97 ⟨by decide, by decide, rfl, rfl, rfl⟩ (by decide) rfl rfl (Nat.le_of_ble_eq_true rfl) rfl (c_X11_puts (n := 26) (f := (lf tL_26)) (g := (lf tM_26)) (by decide)) ?_
  rintro r w' ⟨rfl, rfl⟩
  refine ab_world (WC0, [ob 9 [.int 0, .int 0, .int 0, .int (-1), .ref 1001, .ref 1002, .int 27, .ref 1003, .int 0, .int 0, .int 0, .int 0, .int 0, .ref 1004, .ref 1005, .ref 1006, .ref 1007, .int 0, .int 0, .int 0, .int 0, .ref 1008, .ref 1009, .ref 1010, .ref 1011, .int 0, .int 0, .int 0, .int 0, .int 0, .int 0, .int 0, .int 0, .long 0, .long 0, .long 0, .long 0, .long 0, .long 0, .long 0, .long 0, .long 0, .long 0, .ref 1012, .ref 1013, .ref 1014, .int 0, .ref 1015, .int 0, .int 0, .ref 1016, .long 0, .long 0, .long 0, .long 0, .ref 1017, .int (-1), .int 0, .int 0, .int 0, .ref 1018, .ref 1019, .int 0, .ref 1020, .int 0], ia 64 (lf tL_27), ia 64 (lf tM_27), ia 700 (fun _ => 0), ia 16 (fun _ => 0), ia 8 (fun _ => 0), ia 16 (fun _ => 0), ia 16 (fun _ => 0), ia 16 (fun _ => 0), ia 8 (fun _ => 0), ia 16 (fun _ => 0), ia 16 (fun _ => 0), ia 64 (fun _ => 0), ia 64 (fun _ => 0), ia 64 (fun _ => 0), ia 64 (fun _ => 0), ia 3 (fun _ => 0), ja 12 (fun _ => 0), ia 128 (fun _ => 0), ia 128 (fun _ => 0), ia 30 (fun _ => 0)]) (by rw [ins_26]; rfl) ?_
  refine ab_iinc (v := 4) (la' := [(2, .int 4), (1, .int 2), (0, .ref 1000)]) dX11_init_209 rfl (by decide) (by decide) rfl ?_
  refine ab_goto 186 dX11_init_212 (by decide) ?_
  refine ab_iload_n dX11_init_186 rfl ?_
  refine ab_iconst (v := 5) dX11_init_187 (by decide) ?_
  refine ab_icmpgt 215 dX11_init_188 (by decide) (fun h_92 => absurd h_92 (by decide)) (fun h_92 => ?_)
  refine ab_iload_n dX11_init_191 rfl ?_
  refine ab_i2l dX11_init_192 ?_
  refine ab_iload_n dX11_init_193 rfl ?_
  refine ab_i2l dX11_init_194 ?_
  refine ab_callS (As := [.long (Int32.toInt64 2), .long (Int32.toInt64 4)]) (rest := []) dX11_init_195 ms_X11_common ml_X11_22 ⟨by decide, by decide, rfl, rfl, rfl⟩ (by decide) rfl rfl (Nat.le_of_ble_eq_true rfl) (c_X11_common (by decide) (by decide)) ?_
  rintro r w' ⟨rfl, rfl⟩
  refine ab_topl (v := 2) (by decide) ?_
  refine ab_lconst (v := 1) dX11_init_198 (by decide) ?_
  refine ab_lcmpne 209 dX11_init_199 dX11_init_200 (by decide) (fun h_93 => ?_) (fun h_93 => absurd h_93 (by decide))
  refine ab_iinc (v := 5) (la' := [(2, .int 5), (1, .int 2), (0, .ref 1000)]) dX11_init_209 rfl (by decide) (by decide) rfl ?_
  refine ab_goto 186 dX11_init_212 (by decide) ?_
  refine ab_iload_n dX11_init_186 rfl ?_
  refine ab_iconst (v := 5) dX11_init_187 (by decide) ?_
  refine ab_icmpgt 215 dX11_init_188 (by decide) (fun h_94 => absurd h_94 (by decide)) (fun h_94 => ?_)
  refine ab_iload_n dX11_init_191 rfl ?_
  refine ab_i2l dX11_init_192 ?_
  refine ab_iload_n dX11_init_193 rfl ?_
  refine ab_i2l dX11_init_194 ?_
  refine ab_callS (As := [.long (Int32.toInt64 2), .long (Int32.toInt64 5)]) (rest := []) dX11_init_195 ms_X11_common ml_X11_22 ⟨by decide, by decide, rfl, rfl, rfl⟩ (by decide) rfl rfl (Nat.le_of_ble_eq_true rfl) (c_X11_common (by decide) (by decide)) ?_
  rintro r w' ⟨rfl, rfl⟩
  refine ab_topl (v := 1) (by decide) ?_
  refine ab_lconst (v := 1) dX11_init_198 (by decide) ?_
  refine ab_lcmpne 209 dX11_init_199 dX11_init_200 (by decide) (fun h_95 => absurd (by decide) h_95) (fun h_95 => ?_)
  refine ab_aload_n dX11_init_203 rfl ?_
  refine ab_iload_n dX11_init_204 rfl ?_
  refine ab_iload_n dX11_init_205 rfl ?_
  refine ab_callV (As := [.int 2, .int 5]) (rest := []) dX11_init_206 mv_X11_puts ml_X11_97 ⟨by decide, by decide, rfl, rfl, rfl⟩ (by decide) rfl rfl (Nat.le_of_ble_eq_true rfl) rfl (c_X11_puts (n := 27) (f := (lf tL_27)) (g := (lf tM_27)) (by decide)) ?_
  rintro r w' ⟨rfl, rfl⟩
  refine ab_world (WC0, [ob 9 [.int 0, .int 0, .int 0, .int (-1), .ref 1001, .ref 1002, .int 28, .ref 1003, .int 0, .int 0, .int 0, .int 0, .int 0, .ref 1004, .ref 1005, .ref 1006, .ref 1007, .int 0, .int 0, .int 0, .int 0, .ref 1008, .ref 1009, .ref 1010, .ref 1011, .int 0, .int 0, .int 0, .int 0, .int 0, .int 0, .int 0, .int 0, .long 0, .long 0, .long 0, .long 0, .long 0, .long 0, .long 0, .long 0, .long 0, .long 0, .ref 1012, .ref 1013, .ref 1014, .int 0, .ref 1015, .int 0, .int 0, .ref 1016, .long 0, .long 0, .long 0, .long 0, .ref 1017, .int (-1), .int 0, .int 0, .int 0, .ref 1018, .ref 1019, .int 0, .ref 1020, .int 0], ia 64 (lf tL_28), ia 64 (lf tM_28), ia 700 (fun _ => 0), ia 16 (fun _ => 0), ia 8 (fun _ => 0), ia 16 (fun _ => 0), ia 16 (fun _ => 0), ia 16 (fun _ => 0), ia 8 (fun _ => 0), ia 16 (fun _ => 0), ia 16 (fun _ => 0), ia 64 (fun _ => 0), ia 64 (fun _ => 0), ia 64 (fun _ => 0), ia 64 (fun _ => 0), ia 3 (fun _ => 0), ja 12 (fun _ => 0), ia 128 (fun _ => 0), ia 128 (fun _ => 0), ia 30 (fun _ => 0)]) (by rw [ins_27]; rfl) ?_
  refine ab_iinc (v := 6) (la' := [(2, .int 6), (1, .int 2), (0, .ref 1000)]) dX11_init_209 rfl (by decide) (by decide) rfl ?_
  refine ab_goto 186 dX11_init_212 (by decide) ?_
  refine ab_iload_n dX11_init_186 rfl ?_
  refine ab_iconst (v := 5) dX11_init_187 (by decide) ?_
  refine ab_icmpgt 215 dX11_init_188 (by decide) (fun h_96 => ?_) (fun h_96 => absurd (by decide) h_96)
  refine ab_iinc (v := 3) (la' := [(1, .int 3), (2, .int 6), (0, .ref 1000)]) dX11_init_215 rfl (by decide) (by decide) rfl ?_
  refine ab_goto 179 dX11_init_218 (by decide) ?_
  refine ab_iload_n dX11_init_179 rfl ?_
  refine ab_iconst (v := 5) dX11_init_180 (by decide) ?_
  refine ab_icmpgt 221 dX11_init_181 (by decide) (fun h_97 => absurd h_97 (by decide)) (fun h_97 => ?_)
  refine ab_iconst (v := 1) dX11_init_184 (by decide) ?_
  refine ab_istore_n (la' := [(2, .int 1), (1, .int 3), (0, .ref 1000)]) dX11_init_185 (by decide) rfl ?_
  refine ab_iload_n dX11_init_186 rfl ?_
  refine ab_iconst (v := 5) dX11_init_187 (by decide) ?_
  refine ab_icmpgt 215 dX11_init_188 (by decide) (fun h_98 => absurd h_98 (by decide)) (fun h_98 => ?_)
  refine ab_iload_n dX11_init_191 rfl ?_
  refine ab_i2l dX11_init_192 ?_
  refine ab_iload_n dX11_init_193 rfl ?_
  refine ab_i2l dX11_init_194 ?_
  refine ab_callS (As := [.long (Int32.toInt64 3), .long (Int32.toInt64 1)]) (rest := []) dX11_init_195 ms_X11_common ml_X11_22 ⟨by decide, by decide, rfl, rfl, rfl⟩ (by decide) rfl rfl (Nat.le_of_ble_eq_true rfl) (c_X11_common (by decide) (by decide)) ?_
  rintro r w' ⟨rfl, rfl⟩
  refine ab_topl (v := 1) (by decide) ?_
  refine ab_lconst (v := 1) dX11_init_198 (by decide) ?_
  refine ab_lcmpne 209 dX11_init_199 dX11_init_200 (by decide) (fun h_99 => absurd (by decide) h_99) (fun h_99 => ?_)
  refine ab_aload_n dX11_init_203 rfl ?_
  refine ab_iload_n dX11_init_204 rfl ?_
  refine ab_iload_n dX11_init_205 rfl ?_
  refine ab_callV (As := [.int 3, .int 1]) (rest := []) dX11_init_206 mv_X11_puts ml_X11_97 ⟨by decide, by decide, rfl, rfl, rfl⟩ (by decide) rfl rfl (Nat.le_of_ble_eq_true rfl) rfl (c_X11_puts (n := 28) (f := (lf tL_28)) (g := (lf tM_28)) (by decide)) ?_
  rintro r w' ⟨rfl, rfl⟩
  refine ab_world (WC0, [ob 9 [.int 0, .int 0, .int 0, .int (-1), .ref 1001, .ref 1002, .int 29, .ref 1003, .int 0, .int 0, .int 0, .int 0, .int 0, .ref 1004, .ref 1005, .ref 1006, .ref 1007, .int 0, .int 0, .int 0, .int 0, .ref 1008, .ref 1009, .ref 1010, .ref 1011, .int 0, .int 0, .int 0, .int 0, .int 0, .int 0, .int 0, .int 0, .long 0, .long 0, .long 0, .long 0, .long 0, .long 0, .long 0, .long 0, .long 0, .long 0, .ref 1012, .ref 1013, .ref 1014, .int 0, .ref 1015, .int 0, .int 0, .ref 1016, .long 0, .long 0, .long 0, .long 0, .ref 1017, .int (-1), .int 0, .int 0, .int 0, .ref 1018, .ref 1019, .int 0, .ref 1020, .int 0], ia 64 (lf tL_29), ia 64 (lf tM_29), ia 700 (fun _ => 0), ia 16 (fun _ => 0), ia 8 (fun _ => 0), ia 16 (fun _ => 0), ia 16 (fun _ => 0), ia 16 (fun _ => 0), ia 8 (fun _ => 0), ia 16 (fun _ => 0), ia 16 (fun _ => 0), ia 64 (fun _ => 0), ia 64 (fun _ => 0), ia 64 (fun _ => 0), ia 64 (fun _ => 0), ia 3 (fun _ => 0), ja 12 (fun _ => 0), ia 128 (fun _ => 0), ia 128 (fun _ => 0), ia 30 (fun _ => 0)]) (by rw [ins_28]; rfl) ?_
  refine ab_iinc (v := 2) (la' := [(2, .int 2), (1, .int 3), (0, .ref 1000)]) dX11_init_209 rfl (by decide) (by decide) rfl ?_
  refine ab_goto 186 dX11_init_212 (by decide) ?_
  refine ab_iload_n dX11_init_186 rfl ?_
  refine ab_iconst (v := 5) dX11_init_187 (by decide) ?_
  refine ab_icmpgt 215 dX11_init_188 (by decide) (fun h_100 => absurd h_100 (by decide)) (fun h_100 => ?_)
  refine ab_iload_n dX11_init_191 rfl ?_
  refine ab_i2l dX11_init_192 ?_
  refine ab_iload_n dX11_init_193 rfl ?_
  refine ab_i2l dX11_init_194 ?_
  refine ab_callS (As := [.long (Int32.toInt64 3), .long (Int32.toInt64 2)]) (rest := []) dX11_init_195 ms_X11_common ml_X11_22 ⟨by decide, by decide, rfl, rfl, rfl⟩ (by decide) rfl rfl (Nat.le_of_ble_eq_true rfl) (c_X11_common (by decide) (by decide)) ?_
  rintro r w' ⟨rfl, rfl⟩
  refine ab_topl (v := 1) (by decide) ?_
  refine ab_lconst (v := 1) dX11_init_198 (by decide) ?_
  refine ab_lcmpne 209 dX11_init_199 dX11_init_200 (by decide) (fun h_101 => absurd (by decide) h_101) (fun h_101 => ?_)
  refine ab_aload_n dX11_init_203 rfl ?_
  refine ab_iload_n dX11_init_204 rfl ?_
  refine ab_iload_n dX11_init_205 rfl ?_
  refine ab_callV (As := [.int 3, .int 2]) (rest := []) dX11_init_206 mv_X11_puts ml_X11_97 ⟨by decide, by decide, rfl, rfl, rfl⟩ (by decide) rfl rfl (Nat.le_of_ble_eq_true rfl) rfl (c_X11_puts (n := 29) (f := (lf tL_29)) (g := (lf tM_29)) (by decide)) ?_
  rintro r w' ⟨rfl, rfl⟩
  refine ab_world (WC0, [ob 9 [.int 0, .int 0, .int 0, .int (-1), .ref 1001, .ref 1002, .int 30, .ref 1003, .int 0, .int 0, .int 0, .int 0, .int 0, .ref 1004, .ref 1005, .ref 1006, .ref 1007, .int 0, .int 0, .int 0, .int 0, .ref 1008, .ref 1009, .ref 1010, .ref 1011, .int 0, .int 0, .int 0, .int 0, .int 0, .int 0, .int 0, .int 0, .long 0, .long 0, .long 0, .long 0, .long 0, .long 0, .long 0, .long 0, .long 0, .long 0, .ref 1012, .ref 1013, .ref 1014, .int 0, .ref 1015, .int 0, .int 0, .ref 1016, .long 0, .long 0, .long 0, .long 0, .ref 1017, .int (-1), .int 0, .int 0, .int 0, .ref 1018, .ref 1019, .int 0, .ref 1020, .int 0], ia 64 (lf tL_30), ia 64 (lf tM_30), ia 700 (fun _ => 0), ia 16 (fun _ => 0), ia 8 (fun _ => 0), ia 16 (fun _ => 0), ia 16 (fun _ => 0), ia 16 (fun _ => 0), ia 8 (fun _ => 0), ia 16 (fun _ => 0), ia 16 (fun _ => 0), ia 64 (fun _ => 0), ia 64 (fun _ => 0), ia 64 (fun _ => 0), ia 64 (fun _ => 0), ia 3 (fun _ => 0), ja 12 (fun _ => 0), ia 128 (fun _ => 0), ia 128 (fun _ => 0), ia 30 (fun _ => 0)]) (by rw [ins_29]; rfl) ?_
  refine ab_iinc (v := 3) (la' := [(2, .int 3), (1, .int 3), (0, .ref 1000)]) dX11_init_209 rfl (by decide) (by decide) rfl ?_
  refine ab_goto 186 dX11_init_212 (by decide) ?_
  refine ab_iload_n dX11_init_186 rfl ?_
  refine ab_iconst (v := 5) dX11_init_187 (by decide) ?_
  refine ab_icmpgt 215 dX11_init_188 (by decide) (fun h_102 => absurd h_102 (by decide)) (fun h_102 => ?_)
  refine ab_iload_n dX11_init_191 rfl ?_
  refine ab_i2l dX11_init_192 ?_
  refine ab_iload_n dX11_init_193 rfl ?_
  refine ab_i2l dX11_init_194 ?_
  refine ab_callS (As := [.long (Int32.toInt64 3), .long (Int32.toInt64 3)]) (rest := []) dX11_init_195 ms_X11_common ml_X11_22 ⟨by decide, by decide, rfl, rfl, rfl⟩ (by decide) rfl rfl (Nat.le_of_ble_eq_true rfl) (c_X11_common (by decide) (by decide)) ?_
  rintro r w' ⟨rfl, rfl⟩
  refine ab_topl (v := 3) (by decide) ?_
  refine ab_lconst (v := 1) dX11_init_198 (by decide) ?_
  refine ab_lcmpne 209 dX11_init_199 dX11_init_200 (by decide) (fun h_103 => ?_) (fun h_103 => absurd h_103 (by decide))
  refine ab_iinc (v := 4) (la' := [(2, .int 4), (1, .int 3), (0, .ref 1000)]) dX11_init_209 rfl (by decide) (by decide) rfl ?_
  refine ab_goto 186 dX11_init_212 (by decide) ?_
  refine ab_iload_n dX11_init_186 rfl ?_
  refine ab_iconst (v := 5) dX11_init_187 (by decide) ?_
  refine ab_icmpgt 215 dX11_init_188 (by decide) (fun h_104 => absurd h_104 (by decide)) (fun h_104 => ?_)
  refine ab_iload_n dX11_init_191 rfl ?_
  refine ab_i2l dX11_init_192 ?_
  refine ab_iload_n dX11_init_193 rfl ?_
  refine ab_i2l dX11_init_194 ?_
  refine ab_callS (As := [.long (Int32.toInt64 3), .long (Int32.toInt64 4)]) (rest := []) dX11_init_195 ms_X11_common ml_X11_22 ⟨by decide, by decide, rfl, rfl, rfl⟩ (by decide) rfl rfl (Nat.le_of_ble_eq_true rfl) (c_X11_common (by decide) (by decide)) ?_
  rintro r w' ⟨rfl, rfl⟩
  refine ab_topl (v := 1) (by decide) ?_
  refine ab_lconst (v := 1) dX11_init_198 (by decide) ?_
  refine ab_lcmpne 209 dX11_init_199 dX11_init_200 (by decide) (fun h_105 => absurd (by decide) h_105) (fun h_105 => ?_)
  refine ab_aload_n dX11_init_203 rfl ?_
  refine ab_iload_n dX11_init_204 rfl ?_
  refine ab_iload_n dX11_init_205 rfl ?_
  refine ab_callV (As := [.int 3, .int 4]) (rest := []) dX11_init_206 mv_X11_puts ml_X11_97 ⟨by decide, by decide, rfl, rfl, rfl⟩ (by decide) rfl rfl (Nat.le_of_ble_eq_true rfl) rfl (c_X11_puts (n := 30) (f := (lf tL_30)) (g := (lf tM_30)) (by decide)) ?_
  rintro r w' ⟨rfl, rfl⟩
  refine ab_world (WC0, [ob 9 [.int 0, .int 0, .int 0, .int (-1), .ref 1001, .ref 1002, .int 31, .ref 1003, .int 0, .int 0, .int 0, .int 0, .int 0, .ref 1004, .ref 1005, .ref 1006, .ref 1007, .int 0, .int 0, .int 0, .int 0, .ref 1008, .ref 1009, .ref 1010, .ref 1011, .int 0, .int 0, .int 0, .int 0, .int 0, .int 0, .int 0, .int 0, .long 0, .long 0, .long 0, .long 0, .long 0, .long 0, .long 0, .long 0, .long 0, .long 0, .ref 1012, .ref 1013, .ref 1014, .int 0, .ref 1015, .int 0, .int 0, .ref 1016, .long 0, .long 0, .long 0, .long 0, .ref 1017, .int (-1), .int 0, .int 0, .int 0, .ref 1018, .ref 1019, .int 0, .ref 1020, .int 0], ia 64 (lf tL_31), ia 64 (lf tM_31), ia 700 (fun _ => 0), ia 16 (fun _ => 0), ia 8 (fun _ => 0), ia 16 (fun _ => 0), ia 16 (fun _ => 0), ia 16 (fun _ => 0), ia 8 (fun _ => 0), ia 16 (fun _ => 0), ia 16 (fun _ => 0), ia 64 (fun _ => 0), ia 64 (fun _ => 0), ia 64 (fun _ => 0), ia 64 (fun _ => 0), ia 3 (fun _ => 0), ja 12 (fun _ => 0), ia 128 (fun _ => 0), ia 128 (fun _ => 0), ia 30 (fun _ => 0)]) (by rw [ins_30]; rfl) ?_
  refine ab_iinc (v := 5) (la' := [(2, .int 5), (1, .int 3), (0, .ref 1000)]) dX11_init_209 rfl (by decide) (by decide) rfl ?_
  refine ab_goto 186 dX11_init_212 (by decide) ?_
  refine ab_iload_n dX11_init_186 rfl ?_
  refine ab_iconst (v := 5) dX11_init_187 (by decide) ?_
  refine ab_icmpgt 215 dX11_init_188 (by decide) (fun h_106 => absurd h_106 (by decide)) (fun h_106 => ?_)
  refine ab_iload_n dX11_init_191 rfl ?_
  refine ab_i2l dX11_init_192 ?_
  refine ab_iload_n dX11_init_193 rfl ?_
  refine ab_i2l dX11_init_194 ?_
  refine ab_callS (As := [.long (Int32.toInt64 3), .long (Int32.toInt64 5)]) (rest := []) dX11_init_195 ms_X11_common ml_X11_22 ⟨by decide, by decide, rfl, rfl, rfl⟩ (by decide) rfl rfl (Nat.le_of_ble_eq_true rfl) (c_X11_common (by decide) (by decide)) ?_
  rintro r w' ⟨rfl, rfl⟩
  refine ab_topl (v := 1) (by decide) ?_
  refine ab_lconst (v := 1) dX11_init_198 (by decide) ?_
  refine ab_lcmpne 209 dX11_init_199 dX11_init_200 (by decide) (fun h_107 => absurd (by decide) h_107) (fun h_107 => ?_)
  refine ab_aload_n dX11_init_203 rfl ?_
  refine ab_iload_n dX11_init_204 rfl ?_
  refine ab_iload_n dX11_init_205 rfl ?_
  refine ab_callV (As := [.int 3, .int 5]) (rest := []) dX11_init_206 mv_X11_puts ml_X11_97 ⟨by decide, by decide, rfl, rfl, rfl⟩ (by decide) rfl rfl (Nat.le_of_ble_eq_true rfl) rfl (c_X11_puts (n := 31) (f := (lf tL_31)) (g := (lf tM_31)) (by decide)) ?_
  rintro r w' ⟨rfl, rfl⟩
  refine ab_world (WC0, [ob 9 [.int 0, .int 0, .int 0, .int (-1), .ref 1001, .ref 1002, .int 32, .ref 1003, .int 0, .int 0, .int 0, .int 0, .int 0, .ref 1004, .ref 1005, .ref 1006, .ref 1007, .int 0, .int 0, .int 0, .int 0, .ref 1008, .ref 1009, .ref 1010, .ref 1011, .int 0, .int 0, .int 0, .int 0, .int 0, .int 0, .int 0, .int 0, .long 0, .long 0, .long 0, .long 0, .long 0, .long 0, .long 0, .long 0, .long 0, .long 0, .ref 1012, .ref 1013, .ref 1014, .int 0, .ref 1015, .int 0, .int 0, .ref 1016, .long 0, .long 0, .long 0, .long 0, .ref 1017, .int (-1), .int 0, .int 0, .int 0, .ref 1018, .ref 1019, .int 0, .ref 1020, .int 0], ia 64 (lf tL_32), ia 64 (lf tM_32), ia 700 (fun _ => 0), ia 16 (fun _ => 0), ia 8 (fun _ => 0), ia 16 (fun _ => 0), ia 16 (fun _ => 0), ia 16 (fun _ => 0), ia 8 (fun _ => 0), ia 16 (fun _ => 0), ia 16 (fun _ => 0), ia 64 (fun _ => 0), ia 64 (fun _ => 0), ia 64 (fun _ => 0), ia 64 (fun _ => 0), ia 3 (fun _ => 0), ja 12 (fun _ => 0), ia 128 (fun _ => 0), ia 128 (fun _ => 0), ia 30 (fun _ => 0)]) (by rw [ins_31]; rfl) ?_
  refine ab_iinc (v := 6) (la' := [(2, .int 6), (1, .int 3), (0, .ref 1000)]) dX11_init_209 rfl (by decide) (by decide) rfl ?_
  refine ab_goto 186 dX11_init_212 (by decide) ?_
  refine ab_iload_n dX11_init_186 rfl ?_
  refine ab_iconst (v := 5) dX11_init_187 (by decide) ?_
  refine ab_icmpgt 215 dX11_init_188 (by decide) (fun h_108 => ?_) (fun h_108 => absurd (by decide) h_108)
  refine ab_iinc (v := 4) (la' := [(1, .int 4), (2, .int 6), (0, .ref 1000)]) dX11_init_215 rfl (by decide) (by decide) rfl ?_
  refine ab_goto 179 dX11_init_218 (by decide) ?_
  refine ab_iload_n dX11_init_179 rfl ?_
  refine ab_iconst (v := 5) dX11_init_180 (by decide) ?_
  refine ab_icmpgt 221 dX11_init_181 (by decide) (fun h_109 => absurd h_109 (by decide)) (fun h_109 => ?_)
  refine ab_iconst (v := 1) dX11_init_184 (by decide) ?_
  refine ab_istore_n (la' := [(2, .int 1), (1, .int 4), (0, .ref 1000)]) dX11_init_185 (by decide) rfl ?_
  refine ab_iload_n dX11_init_186 rfl ?_
  refine ab_iconst (v := 5) dX11_init_187 (by decide) ?_
  refine ab_icmpgt 215 dX11_init_188 (by decide) (fun h_110 => absurd h_110 (by decide)) (fun h_110 => ?_)
  refine ab_iload_n dX11_init_191 rfl ?_
  refine ab_i2l dX11_init_192 ?_
  refine ab_iload_n dX11_init_193 rfl ?_
  refine ab_i2l dX11_init_194 ?_
  refine ab_callS (As := [.long (Int32.toInt64 4), .long (Int32.toInt64 1)]) (rest := []) dX11_init_195 ms_X11_common ml_X11_22 ⟨by decide, by decide, rfl, rfl, rfl⟩ (by decide) rfl rfl (Nat.le_of_ble_eq_true rfl) (c_X11_common (by decide) (by decide)) ?_
  rintro r w' ⟨rfl, rfl⟩
  refine ab_topl (v := 1) (by decide) ?_
  refine ab_lconst (v := 1) dX11_init_198 (by decide) ?_
  refine ab_lcmpne 209 dX11_init_199 dX11_init_200 (by decide) (fun h_111 => absurd (by decide) h_111) (fun h_111 => ?_)
  refine ab_aload_n dX11_init_203 rfl ?_
  refine ab_iload_n dX11_init_204 rfl ?_
  refine ab_iload_n dX11_init_205 rfl ?_
  refine ab_callV (As := [.int 4, .int 1]) (rest := []) dX11_init_206 mv_X11_puts ml_X11_97 ⟨by decide, by decide, rfl, rfl, rfl⟩ (by decide) rfl rfl (Nat.le_of_ble_eq_true rfl) rfl (c_X11_puts (n := 32) (f := (lf tL_32)) (g := (lf tM_32)) (by decide)) ?_
  rintro r w' ⟨rfl, rfl⟩
  refine ab_world (WC0, [ob 9 [.int 0, .int 0, .int 0, .int (-1), .ref 1001, .ref 1002, .int 33, .ref 1003, .int 0, .int 0, .int 0, .int 0, .int 0, .ref 1004, .ref 1005, .ref 1006, .ref 1007, .int 0, .int 0, .int 0, .int 0, .ref 1008, .ref 1009, .ref 1010, .ref 1011, .int 0, .int 0, .int 0, .int 0, .int 0, .int 0, .int 0, .int 0, .long 0, .long 0, .long 0, .long 0, .long 0, .long 0, .long 0, .long 0, .long 0, .long 0, .ref 1012, .ref 1013, .ref 1014, .int 0, .ref 1015, .int 0, .int 0, .ref 1016, .long 0, .long 0, .long 0, .long 0, .ref 1017, .int (-1), .int 0, .int 0, .int 0, .ref 1018, .ref 1019, .int 0, .ref 1020, .int 0], ia 64 (lf tL_33), ia 64 (lf tM_33), ia 700 (fun _ => 0), ia 16 (fun _ => 0), ia 8 (fun _ => 0), ia 16 (fun _ => 0), ia 16 (fun _ => 0), ia 16 (fun _ => 0), ia 8 (fun _ => 0), ia 16 (fun _ => 0), ia 16 (fun _ => 0), ia 64 (fun _ => 0), ia 64 (fun _ => 0), ia 64 (fun _ => 0), ia 64 (fun _ => 0), ia 3 (fun _ => 0), ja 12 (fun _ => 0), ia 128 (fun _ => 0), ia 128 (fun _ => 0), ia 30 (fun _ => 0)]) (by rw [ins_32]; rfl) ?_
  refine ab_iinc (v := 2) (la' := [(2, .int 2), (1, .int 4), (0, .ref 1000)]) dX11_init_209 rfl (by decide) (by decide) rfl ?_
  refine ab_goto 186 dX11_init_212 (by decide) ?_
  refine ab_iload_n dX11_init_186 rfl ?_
  refine ab_iconst (v := 5) dX11_init_187 (by decide) ?_
  refine ab_icmpgt 215 dX11_init_188 (by decide) (fun h_112 => absurd h_112 (by decide)) (fun h_112 => ?_)
  refine ab_iload_n dX11_init_191 rfl ?_
  refine ab_i2l dX11_init_192 ?_
  refine ab_iload_n dX11_init_193 rfl ?_
  refine ab_i2l dX11_init_194 ?_
  refine ab_callS (As := [.long (Int32.toInt64 4), .long (Int32.toInt64 2)]) (rest := []) dX11_init_195 ms_X11_common ml_X11_22 ⟨by decide, by decide, rfl, rfl, rfl⟩ (by decide) rfl rfl (Nat.le_of_ble_eq_true rfl) (c_X11_common (by decide) (by decide)) ?_
  rintro r w' ⟨rfl, rfl⟩
  refine ab_topl (v := 2) (by decide) ?_
  refine ab_lconst (v := 1) dX11_init_198 (by decide) ?_
  refine ab_lcmpne 209 dX11_init_199 dX11_init_200 (by decide) (fun h_113 => ?_) (fun h_113 => absurd h_113 (by decide))
  refine ab_iinc (v := 3) (la' := [(2, .int 3), (1, .int 4), (0, .ref 1000)]) dX11_init_209 rfl (by decide) (by decide) rfl ?_
  refine ab_goto 186 dX11_init_212 (by decide) ?_
  refine ab_iload_n dX11_init_186 rfl ?_
  refine ab_iconst (v := 5) dX11_init_187 (by decide) ?_
  refine ab_icmpgt 215 dX11_init_188 (by decide) (fun h_114 => absurd h_114 (by decide)) (fun h_114 => ?_)
  refine ab_iload_n dX11_init_191 rfl ?_
  refine ab_i2l dX11_init_192 ?_
  refine ab_iload_n dX11_init_193 rfl ?_
  refine ab_i2l dX11_init_194 ?_
  refine ab_callS (As := [.long (Int32.toInt64 4), .long (Int32.toInt64 3)]) (rest := []) dX11_init_195 ms_X11_common ml_X11_22 ⟨by decide, by decide, rfl, rfl, rfl⟩ (by decide) rfl rfl (Nat.le_of_ble_eq_true rfl) (c_X11_common (by decide) (by decide)) ?_
  rintro r w' ⟨rfl, rfl⟩
  refine ab_topl (v := 1) (by decide) ?_
  refine ab_lconst (v := 1) dX11_init_198 (by decide) ?_
  refine ab_lcmpne 209 dX11_init_199 dX11_init_200 (by decide) (fun h_115 => absurd (by decide) h_115) (fun h_115 => ?_)
  refine ab_aload_n dX11_init_203 rfl ?_
  refine ab_iload_n dX11_init_204 rfl ?_
  refine ab_iload_n dX11_init_205 rfl ?_
  refine ab_callV (As := [.int 4, .int 3]) (rest := []) dX11_init_206 mv_X11_puts ml_X11_97 ⟨by decide, by decide, rfl, rfl, rfl⟩ (by decide) rfl rfl (Nat.le_of_ble_eq_true rfl) rfl (c_X11_puts (n := 33) (f := (lf tL_33)) (g := (lf tM_33)) (by decide)) ?_
  rintro r w' ⟨rfl, rfl⟩
  refine ab_world (WC0, [ob 9 [.int 0, .int 0, .int 0, .int (-1), .ref 1001, .ref 1002, .int 34, .ref 1003, .int 0, .int 0, .int 0, .int 0, .int 0, .ref 1004, .ref 1005, .ref 1006, .ref 1007, .int 0, .int 0, .int 0, .int 0, .ref 1008, .ref 1009, .ref 1010, .ref 1011, .int 0, .int 0, .int 0, .int 0, .int 0, .int 0, .int 0, .int 0, .long 0, .long 0, .long 0, .long 0, .long 0, .long 0, .long 0, .long 0, .long 0, .long 0, .ref 1012, .ref 1013, .ref 1014, .int 0, .ref 1015, .int 0, .int 0, .ref 1016, .long 0, .long 0, .long 0, .long 0, .ref 1017, .int (-1), .int 0, .int 0, .int 0, .ref 1018, .ref 1019, .int 0, .ref 1020, .int 0], ia 64 (lf tL_34), ia 64 (lf tM_34), ia 700 (fun _ => 0), ia 16 (fun _ => 0), ia 8 (fun _ => 0), ia 16 (fun _ => 0), ia 16 (fun _ => 0), ia 16 (fun _ => 0), ia 8 (fun _ => 0), ia 16 (fun _ => 0), ia 16 (fun _ => 0), ia 64 (fun _ => 0), ia 64 (fun _ => 0), ia 64 (fun _ => 0), ia 64 (fun _ => 0), ia 3 (fun _ => 0), ja 12 (fun _ => 0), ia 128 (fun _ => 0), ia 128 (fun _ => 0), ia 30 (fun _ => 0)]) (by rw [ins_33]; rfl) ?_
  refine ab_iinc (v := 4) (la' := [(2, .int 4), (1, .int 4), (0, .ref 1000)]) dX11_init_209 rfl (by decide) (by decide) rfl ?_
  refine ab_goto 186 dX11_init_212 (by decide) ?_
  refine ab_iload_n dX11_init_186 rfl ?_
  refine ab_iconst (v := 5) dX11_init_187 (by decide) ?_
  refine ab_icmpgt 215 dX11_init_188 (by decide) (fun h_116 => absurd h_116 (by decide)) (fun h_116 => ?_)
  refine ab_iload_n dX11_init_191 rfl ?_
  refine ab_i2l dX11_init_192 ?_
  refine ab_iload_n dX11_init_193 rfl ?_
  refine ab_i2l dX11_init_194 ?_
  refine ab_callS (As := [.long (Int32.toInt64 4), .long (Int32.toInt64 4)]) (rest := []) dX11_init_195 ms_X11_common ml_X11_22 ⟨by decide, by decide, rfl, rfl, rfl⟩ (by decide) rfl rfl (Nat.le_of_ble_eq_true rfl) (c_X11_common (by decide) (by decide)) ?_
  rintro r w' ⟨rfl, rfl⟩
  refine ab_topl (v := 4) (by decide) ?_
  refine ab_lconst (v := 1) dX11_init_198 (by decide) ?_
  refine ab_lcmpne 209 dX11_init_199 dX11_init_200 (by decide) (fun h_117 => ?_) (fun h_117 => absurd h_117 (by decide))
  refine ab_iinc (v := 5) (la' := [(2, .int 5), (1, .int 4), (0, .ref 1000)]) dX11_init_209 rfl (by decide) (by decide) rfl ?_
  refine ab_goto 186 dX11_init_212 (by decide) ?_
  refine ab_iload_n dX11_init_186 rfl ?_
  refine ab_iconst (v := 5) dX11_init_187 (by decide) ?_
  refine ab_icmpgt 215 dX11_init_188 (by decide) (fun h_118 => absurd h_118 (by decide)) (fun h_118 => ?_)
  refine ab_iload_n dX11_init_191 rfl ?_
  refine ab_i2l dX11_init_192 ?_
  refine ab_iload_n dX11_init_193 rfl ?_
  refine ab_i2l dX11_init_194 ?_
  refine ab_callS (As := [.long (Int32.toInt64 4), .long (Int32.toInt64 5)]) (rest := []) dX11_init_195 ms_X11_common ml_X11_22 ⟨by decide, by decide, rfl, rfl, rfl⟩ (by decide) rfl rfl (Nat.le_of_ble_eq_true rfl) (c_X11_common (by decide) (by decide)) ?_
  rintro r w' ⟨rfl, rfl⟩
  refine ab_topl (v := 1) (by decide) ?_
  refine ab_lconst (v := 1) dX11_init_198 (by decide) ?_
  refine ab_lcmpne 209 dX11_init_199 dX11_init_200 (by decide) (fun h_119 => absurd (by decide) h_119) (fun h_119 => ?_)
  refine ab_aload_n dX11_init_203 rfl ?_
  refine ab_iload_n dX11_init_204 rfl ?_
  refine ab_iload_n dX11_init_205 rfl ?_
  refine ab_callV (As := [.int 4, .int 5]) (rest := []) dX11_init_206 mv_X11_puts ml_X11_97 ⟨by decide, by decide, rfl, rfl, rfl⟩ (by decide) rfl rfl (Nat.le_of_ble_eq_true rfl) rfl (c_X11_puts (n := 34) (f := (lf tL_34)) (g := (lf tM_34)) (by decide)) ?_
  rintro r w' ⟨rfl, rfl⟩
  refine ab_world (WC0, [ob 9 [.int 0, .int 0, .int 0, .int (-1), .ref 1001, .ref 1002, .int 35, .ref 1003, .int 0, .int 0, .int 0, .int 0, .int 0, .ref 1004, .ref 1005, .ref 1006, .ref 1007, .int 0, .int 0, .int 0, .int 0, .ref 1008, .ref 1009, .ref 1010, .ref 1011, .int 0, .int 0, .int 0, .int 0, .int 0, .int 0, .int 0, .int 0, .long 0, .long 0, .long 0, .long 0, .long 0, .long 0, .long 0, .long 0, .long 0, .long 0, .ref 1012, .ref 1013, .ref 1014, .int 0, .ref 1015, .int 0, .int 0, .ref 1016, .long 0, .long 0, .long 0, .long 0, .ref 1017, .int (-1), .int 0, .int 0, .int 0, .ref 1018, .ref 1019, .int 0, .ref 1020, .int 0], ia 64 (lf tL_35), ia 64 (lf tM_35), ia 700 (fun _ => 0), ia 16 (fun _ => 0), ia 8 (fun _ => 0), ia 16 (fun _ => 0), ia 16 (fun _ => 0), ia 16 (fun _ => 0), ia 8 (fun _ => 0), ia 16 (fun _ => 0), ia 16 (fun _ => 0), ia 64 (fun _ => 0), ia 64 (fun _ => 0), ia 64 (fun _ => 0), ia 64 (fun _ => 0), ia 3 (fun _ => 0), ja 12 (fun _ => 0), ia 128 (fun _ => 0), ia 128 (fun _ => 0), ia 30 (fun _ => 0)]) (by rw [ins_34]; rfl) ?_
  refine ab_iinc (v := 6) (la' := [(2, .int 6), (1, .int 4), (0, .ref 1000)]) dX11_init_209 rfl (by decide) (by decide) rfl ?_
  refine ab_goto 186 dX11_init_212 (by decide) ?_
  refine ab_iload_n dX11_init_186 rfl ?_
  refine ab_iconst (v := 5) dX11_init_187 (by decide) ?_
  refine ab_icmpgt 215 dX11_init_188 (by decide) (fun h_120 => ?_) (fun h_120 => absurd (by decide) h_120)
  refine ab_iinc (v := 5) (la' := [(1, .int 5), (2, .int 6), (0, .ref 1000)]) dX11_init_215 rfl (by decide) (by decide) rfl ?_
  refine ab_goto 179 dX11_init_218 (by decide) ?_
  refine ab_iload_n dX11_init_179 rfl ?_
  refine ab_iconst (v := 5) dX11_init_180 (by decide) ?_
  refine ab_icmpgt 221 dX11_init_181 (by decide) (fun h_121 => absurd h_121 (by decide)) (fun h_121 => ?_)
  refine ab_iconst (v := 1) dX11_init_184 (by decide) ?_
  refine ab_istore_n (la' := [(2, .int 1), (1, .int 5), (0, .ref 1000)]) dX11_init_185 (by decide) rfl ?_
  refine ab_iload_n dX11_init_186 rfl ?_
  refine ab_iconst (v := 5) dX11_init_187 (by decide) ?_
  refine ab_icmpgt 215 dX11_init_188 (by decide) (fun h_122 => absurd h_122 (by decide)) (fun h_122 => ?_)
  refine ab_iload_n dX11_init_191 rfl ?_
  refine ab_i2l dX11_init_192 ?_
  refine ab_iload_n dX11_init_193 rfl ?_
  refine ab_i2l dX11_init_194 ?_
  refine ab_callS (As := [.long (Int32.toInt64 5), .long (Int32.toInt64 1)]) (rest := []) dX11_init_195 ms_X11_common ml_X11_22 ⟨by decide, by decide, rfl, rfl, rfl⟩ (by decide) rfl rfl (Nat.le_of_ble_eq_true rfl) (c_X11_common (by decide) (by decide)) ?_
  rintro r w' ⟨rfl, rfl⟩
  refine ab_topl (v := 1) (by decide) ?_
  refine ab_lconst (v := 1) dX11_init_198 (by decide) ?_
  refine ab_lcmpne 209 dX11_init_199 dX11_init_200 (by decide) (fun h_123 => absurd (by decide) h_123) (fun h_123 => ?_)
  refine ab_aload_n dX11_init_203 rfl ?_
  refine ab_iload_n dX11_init_204 rfl ?_
  refine ab_iload_n dX11_init_205 rfl ?_
  refine ab_callV (As := [.int 5, .int 1]) (rest := []) dX11_init_206 mv_X11_puts ml_X11_97 ⟨by decide, by decide, rfl, rfl, rfl⟩ (by decide) rfl rfl (Nat.le_of_ble_eq_true rfl) rfl (c_X11_puts (n := 35) (f := (lf tL_35)) (g := (lf tM_35)) (by decide)) ?_
  rintro r w' ⟨rfl, rfl⟩
  refine ab_world (WC0, [ob 9 [.int 0, .int 0, .int 0, .int (-1), .ref 1001, .ref 1002, .int 36, .ref 1003, .int 0, .int 0, .int 0, .int 0, .int 0, .ref 1004, .ref 1005, .ref 1006, .ref 1007, .int 0, .int 0, .int 0, .int 0, .ref 1008, .ref 1009, .ref 1010, .ref 1011, .int 0, .int 0, .int 0, .int 0, .int 0, .int 0, .int 0, .int 0, .long 0, .long 0, .long 0, .long 0, .long 0, .long 0, .long 0, .long 0, .long 0, .long 0, .ref 1012, .ref 1013, .ref 1014, .int 0, .ref 1015, .int 0, .int 0, .ref 1016, .long 0, .long 0, .long 0, .long 0, .ref 1017, .int (-1), .int 0, .int 0, .int 0, .ref 1018, .ref 1019, .int 0, .ref 1020, .int 0], ia 64 (lf tL_36), ia 64 (lf tM_36), ia 700 (fun _ => 0), ia 16 (fun _ => 0), ia 8 (fun _ => 0), ia 16 (fun _ => 0), ia 16 (fun _ => 0), ia 16 (fun _ => 0), ia 8 (fun _ => 0), ia 16 (fun _ => 0), ia 16 (fun _ => 0), ia 64 (fun _ => 0), ia 64 (fun _ => 0), ia 64 (fun _ => 0), ia 64 (fun _ => 0), ia 3 (fun _ => 0), ja 12 (fun _ => 0), ia 128 (fun _ => 0), ia 128 (fun _ => 0), ia 30 (fun _ => 0)]) (by rw [ins_35]; rfl) ?_
  refine ab_iinc (v := 2) (la' := [(2, .int 2), (1, .int 5), (0, .ref 1000)]) dX11_init_209 rfl (by decide) (by decide) rfl ?_
  refine ab_goto 186 dX11_init_212 (by decide) ?_
  refine ab_iload_n dX11_init_186 rfl ?_
  refine ab_iconst (v := 5) dX11_init_187 (by decide) ?_
  refine ab_icmpgt 215 dX11_init_188 (by decide) (fun h_124 => absurd h_124 (by decide)) (fun h_124 => ?_)
  refine ab_iload_n dX11_init_191 rfl ?_
  refine ab_i2l dX11_init_192 ?_
  refine ab_iload_n dX11_init_193 rfl ?_
  refine ab_i2l dX11_init_194 ?_
  refine ab_callS (As := [.long (Int32.toInt64 5), .long (Int32.toInt64 2)]) (rest := []) dX11_init_195 ms_X11_common ml_X11_22 ⟨by decide, by decide, rfl, rfl, rfl⟩ (by decide) rfl rfl (Nat.le_of_ble_eq_true rfl) (c_X11_common (by decide) (by decide)) ?_
  rintro r w' ⟨rfl, rfl⟩
  refine ab_topl (v := 1) (by decide) ?_
  refine ab_lconst (v := 1) dX11_init_198 (by decide) ?_
  refine ab_lcmpne 209 dX11_init_199 dX11_init_200 (by decide) (fun h_125 => absurd (by decide) h_125) (fun h_125 => ?_)
  refine ab_aload_n dX11_init_203 rfl ?_
  refine ab_iload_n dX11_init_204 rfl ?_
  refine ab_iload_n dX11_init_205 rfl ?_
  refine ab_callV (As := [.int 5, .int 2]) (rest := []) dX11_init_206 mv_X11_puts ml_X11_97 ⟨by decide, by decide, rfl, rfl, rfl⟩ (by decide) rfl rfl (Nat.le_of_ble_eq_true rfl) rfl (c_X11_puts (n := 36) (f := (lf tL_36)) (g := (lf tM_36)) (by decide)) ?_
  rintro r w' ⟨rfl, rfl⟩
  refine ab_world (WC0, [ob 9 [.int 0, .int 0, .int 0, .int (-1), .ref 1001, .ref 1002, .int 37, .ref 1003, .int 0, .int 0, .int 0, .int 0, .int 0, .ref 1004, .ref 1005, .ref 1006, .ref 1007, .int 0, .int 0, .int 0, .int 0, .ref 1008, .ref 1009, .ref 1010, .ref 1011, .int 0, .int 0, .int 0, .int 0, .int 0, .int 0, .int 0, .int 0, .long 0, .long 0, .long 0, .long 0, .long 0, .long 0, .long 0, .long 0, .long 0, .long 0, .ref 1012, .ref 1013, .ref 1014, .int 0, .ref 1015, .int 0, .int 0, .ref 1016, .long 0, .long 0, .long 0, .long 0, .ref 1017, .int (-1), .int 0, .int 0, .int 0, .ref 1018, .ref 1019, .int 0, .ref 1020, .int 0], ia 64 (lf tL_37), ia 64 (lf tM_37), ia 700 (fun _ => 0), ia 16 (fun _ => 0), ia 8 (fun _ => 0), ia 16 (fun _ => 0), ia 16 (fun _ => 0), ia 16 (fun _ => 0), ia 8 (fun _ => 0), ia 16 (fun _ => 0), ia 16 (fun _ => 0), ia 64 (fun _ => 0), ia 64 (fun _ => 0), ia 64 (fun _ => 0), ia 64 (fun _ => 0), ia 3 (fun _ => 0), ja 12 (fun _ => 0), ia 128 (fun _ => 0), ia 128 (fun _ => 0), ia 30 (fun _ => 0)]) (by rw [ins_36]; rfl) ?_
  refine ab_iinc (v := 3) (la' := [(2, .int 3), (1, .int 5), (0, .ref 1000)]) dX11_init_209 rfl (by decide) (by decide) rfl ?_
  refine ab_goto 186 dX11_init_212 (by decide) ?_
  refine ab_iload_n dX11_init_186 rfl ?_
  refine ab_iconst (v := 5) dX11_init_187 (by decide) ?_
  refine ab_icmpgt 215 dX11_init_188 (by decide) (fun h_126 => absurd h_126 (by decide)) (fun h_126 => ?_)
  refine ab_iload_n dX11_init_191 rfl ?_
  refine ab_i2l dX11_init_192 ?_
  refine ab_iload_n dX11_init_193 rfl ?_
  refine ab_i2l dX11_init_194 ?_
  refine ab_callS (As := [.long (Int32.toInt64 5), .long (Int32.toInt64 3)]) (rest := []) dX11_init_195 ms_X11_common ml_X11_22 ⟨by decide, by decide, rfl, rfl, rfl⟩ (by decide) rfl rfl (Nat.le_of_ble_eq_true rfl) (c_X11_common (by decide) (by decide)) ?_
  rintro r w' ⟨rfl, rfl⟩
  refine ab_topl (v := 1) (by decide) ?_
  refine ab_lconst (v := 1) dX11_init_198 (by decide) ?_
  refine ab_lcmpne 209 dX11_init_199 dX11_init_200 (by decide) (fun h_127 => absurd (by decide) h_127) (fun h_127 => ?_)
  refine ab_aload_n dX11_init_203 rfl ?_
  refine ab_iload_n dX11_init_204 rfl ?_
  refine ab_iload_n dX11_init_205 rfl ?_
  refine ab_callV (As := [.int 5, .int 3]) (rest := []) dX11_init_206 mv_X11_puts ml_X11_97 ⟨by decide, by decide, rfl, rfl, rfl⟩ (by decide) rfl rfl (Nat.le_of_ble_eq_true rfl) rfl (c_X11_puts (n := 37) (f := (lf tL_37)) (g := (lf tM_37)) (by decide)) ?_
  rintro r w' ⟨rfl, rfl⟩
  refine ab_world (WC0, [ob 9 [.int 0, .int 0, .int 0, .int (-1), .ref 1001, .ref 1002, .int 38, .ref 1003, .int 0, .int 0, .int 0, .int 0, .int 0, .ref 1004, .ref 1005, .ref 1006, .ref 1007, .int 0, .int 0, .int 0, .int 0, .ref 1008, .ref 1009, .ref 1010, .ref 1011, .int 0, .int 0, .int 0, .int 0, .int 0, .int 0, .int 0, .int 0, .long 0, .long 0, .long 0, .long 0, .long 0, .long 0, .long 0, .long 0, .long 0, .long 0, .ref 1012, .ref 1013, .ref 1014, .int 0, .ref 1015, .int 0, .int 0, .ref 1016, .long 0, .long 0, .long 0, .long 0, .ref 1017, .int (-1), .int 0, .int 0, .int 0, .ref 1018, .ref 1019, .int 0, .ref 1020, .int 0], ia 64 (lf tL_38), ia 64 (lf tM_38), ia 700 (fun _ => 0), ia 16 (fun _ => 0), ia 8 (fun _ => 0), ia 16 (fun _ => 0), ia 16 (fun _ => 0), ia 16 (fun _ => 0), ia 8 (fun _ => 0), ia 16 (fun _ => 0), ia 16 (fun _ => 0), ia 64 (fun _ => 0), ia 64 (fun _ => 0), ia 64 (fun _ => 0), ia 64 (fun _ => 0), ia 3 (fun _ => 0), ja 12 (fun _ => 0), ia 128 (fun _ => 0), ia 128 (fun _ => 0), ia 30 (fun _ => 0)]) (by rw [ins_37]; rfl) ?_
  refine ab_iinc (v := 4) (la' := [(2, .int 4), (1, .int 5), (0, .ref 1000)]) dX11_init_209 rfl (by decide) (by decide) rfl ?_
  refine ab_goto 186 dX11_init_212 (by decide) ?_
  refine ab_iload_n dX11_init_186 rfl ?_
  refine ab_iconst (v := 5) dX11_init_187 (by decide) ?_
  refine ab_icmpgt 215 dX11_init_188 (by decide) (fun h_128 => absurd h_128 (by decide)) (fun h_128 => ?_)
  refine ab_iload_n dX11_init_191 rfl ?_
  refine ab_i2l dX11_init_192 ?_
  refine ab_iload_n dX11_init_193 rfl ?_
  refine ab_i2l dX11_init_194 ?_
  refine ab_callS (As := [.long (Int32.toInt64 5), .long (Int32.toInt64 4)]) (rest := []) dX11_init_195 ms_X11_common ml_X11_22 ⟨by decide, by decide, rfl, rfl, rfl⟩ (by decide) rfl rfl (Nat.le_of_ble_eq_true rfl) (c_X11_common (by decide) (by decide)) ?_
  rintro r w' ⟨rfl, rfl⟩
  refine ab_topl (v := 1) (by decide) ?_
  refine ab_lconst (v := 1) dX11_init_198 (by decide) ?_
  refine ab_lcmpne 209 dX11_init_199 dX11_init_200 (by decide) (fun h_129 => absurd (by decide) h_129) (fun h_129 => ?_)
  refine ab_aload_n dX11_init_203 rfl ?_
  refine ab_iload_n dX11_init_204 rfl ?_
  refine ab_iload_n dX11_init_205 rfl ?_
  refine ab_callV (As := [.int 5, .int 4]) (rest := []) dX11_init_206 mv_X11_puts ml_X11_97 ⟨by decide, by decide, rfl, rfl, rfl⟩ (by decide) rfl rfl (Nat.le_of_ble_eq_true rfl) rfl (c_X11_puts (n := 38) (f := (lf tL_38)) (g := (lf tM_38)) (by decide)) ?_
  rintro r w' ⟨rfl, rfl⟩
  refine ab_world (WC0, [ob 9 [.int 0, .int 0, .int 0, .int (-1), .ref 1001, .ref 1002, .int 39, .ref 1003, .int 0, .int 0, .int 0, .int 0, .int 0, .ref 1004, .ref 1005, .ref 1006, .ref 1007, .int 0, .int 0, .int 0, .int 0, .ref 1008, .ref 1009, .ref 1010, .ref 1011, .int 0, .int 0, .int 0, .int 0, .int 0, .int 0, .int 0, .int 0, .long 0, .long 0, .long 0, .long 0, .long 0, .long 0, .long 0, .long 0, .long 0, .long 0, .ref 1012, .ref 1013, .ref 1014, .int 0, .ref 1015, .int 0, .int 0, .ref 1016, .long 0, .long 0, .long 0, .long 0, .ref 1017, .int (-1), .int 0, .int 0, .int 0, .ref 1018, .ref 1019, .int 0, .ref 1020, .int 0], ia 64 (lf tL_39), ia 64 (lf tM_39), ia 700 (fun _ => 0), ia 16 (fun _ => 0), ia 8 (fun _ => 0), ia 16 (fun _ => 0), ia 16 (fun _ => 0), ia 16 (fun _ => 0), ia 8 (fun _ => 0), ia 16 (fun _ => 0), ia 16 (fun _ => 0), ia 64 (fun _ => 0), ia 64 (fun _ => 0), ia 64 (fun _ => 0), ia 64 (fun _ => 0), ia 3 (fun _ => 0), ja 12 (fun _ => 0), ia 128 (fun _ => 0), ia 128 (fun _ => 0), ia 30 (fun _ => 0)]) (by rw [ins_38]; rfl) ?_
  refine ab_iinc (v := 5) (la' := [(2, .int 5), (1, .int 5), (0, .ref 1000)]) dX11_init_209 rfl (by decide) (by decide) rfl ?_
  refine ab_goto 186 dX11_init_212 (by decide) ?_
  refine ab_iload_n dX11_init_186 rfl ?_
  refine ab_iconst (v := 5) dX11_init_187 (by decide) ?_
  refine ab_icmpgt 215 dX11_init_188 (by decide) (fun h_130 => absurd h_130 (by decide)) (fun h_130 => ?_)
  refine ab_iload_n dX11_init_191 rfl ?_
  refine ab_i2l dX11_init_192 ?_
  refine ab_iload_n dX11_init_193 rfl ?_
  refine ab_i2l dX11_init_194 ?_
  refine ab_callS (As := [.long (Int32.toInt64 5), .long (Int32.toInt64 5)]) (rest := []) dX11_init_195 ms_X11_common ml_X11_22 ⟨by decide, by decide, rfl, rfl, rfl⟩ (by decide) rfl rfl (Nat.le_of_ble_eq_true rfl) (c_X11_common (by decide) (by decide)) ?_
  rintro r w' ⟨rfl, rfl⟩
  refine ab_topl (v := 5) (by decide) ?_
  refine ab_lconst (v := 1) dX11_init_198 (by decide) ?_
  refine ab_lcmpne 209 dX11_init_199 dX11_init_200 (by decide) (fun h_131 => ?_) (fun h_131 => absurd h_131 (by decide))
  refine ab_iinc (v := 6) (la' := [(2, .int 6), (1, .int 5), (0, .ref 1000)]) dX11_init_209 rfl (by decide) (by decide) rfl ?_
  refine ab_goto 186 dX11_init_212 (by decide) ?_
  refine ab_iload_n dX11_init_186 rfl ?_
  refine ab_iconst (v := 5) dX11_init_187 (by decide) ?_
  refine ab_icmpgt 215 dX11_init_188 (by decide) (fun h_132 => ?_) (fun h_132 => absurd (by decide) h_132)
  refine ab_iinc (v := 6) (la' := [(1, .int 6), (2, .int 6), (0, .ref 1000)]) dX11_init_215 rfl (by decide) (by decide) rfl ?_
  refine ab_goto 179 dX11_init_218 (by decide) ?_
  refine ab_iload_n dX11_init_179 rfl ?_
  refine ab_iconst (v := 5) dX11_init_180 (by decide) ?_
  refine ab_icmpgt 221 dX11_init_181 (by decide) (fun h_133 => ?_) (fun h_133 => absurd (by decide) h_133)
  refine ab_aload_n dX11_init_221 rfl ?_
  refine ab_getf dX11_init_222 fl_X11_32 rfl rfl ?_
  refine ab_aload_n dX11_init_225 rfl ?_
  refine ab_getf dX11_init_226 fl_X11_101 rfl rfl ?_
  refine ab_iconst (v := 1) dX11_init_229 (by decide) ?_
  refine ab_iast (w1 := (WC0, [ob 9 [.int 0, .int 0, .int 0, .int (-1), .ref 1001, .ref 1002, .int 39, .ref 1003, .int 0, .int 0, .int 0, .int 0, .int 0, .ref 1004, .ref 1005, .ref 1006, .ref 1007, .int 0, .int 0, .int 0, .int 0, .ref 1008, .ref 1009, .ref 1010, .ref 1011, .int 0, .int 0, .int 0, .int 0, .int 0, .int 0, .int 0, .int 0, .long 0, .long 0, .long 0, .long 0, .long 0, .long 0, .long 0, .long 0, .long 0, .long 0, .ref 1012, .ref 1013, .ref 1014, .int 0, .ref 1015, .int 0, .int 0, .ref 1016, .long 0, .long 0, .long 0, .long 0, .ref 1017, .int (-1), .int 0, .int 0, .int 0, .ref 1018, .ref 1019, .int 0, .ref 1020, .int 0], ia 64 (upd (lf tL_39) 39 1), ia 64 (lf tM_39), ia 700 (fun _ => 0), ia 16 (fun _ => 0), ia 8 (fun _ => 0), ia 16 (fun _ => 0), ia 16 (fun _ => 0), ia 16 (fun _ => 0), ia 8 (fun _ => 0), ia 16 (fun _ => 0), ia 16 (fun _ => 0), ia 64 (fun _ => 0), ia 64 (fun _ => 0), ia 64 (fun _ => 0), ia 64 (fun _ => 0), ia 3 (fun _ => 0), ja 12 (fun _ => 0), ia 128 (fun _ => 0), ia 128 (fun _ => 0), ia 30 (fun _ => 0)])) dX11_init_230 rfl (ix_c (by decide)) rfl ?_
  refine ab_aload_n dX11_init_231 rfl ?_
  refine ab_getf dX11_init_232 fl_X11_36 rfl rfl ?_
  refine ab_aload_n dX11_init_235 rfl ?_
  refine ab_getf dX11_init_236 fl_X11_101 rfl rfl ?_
  refine ab_iconst (v := 0) dX11_init_239 (by decide) ?_
  refine ab_iast (w1 := (WC0, [ob 9 [.int 0, .int 0, .int 0, .int (-1), .ref 1001, .ref 1002, .int 39, .ref 1003, .int 0, .int 0, .int 0, .int 0, .int 0, .ref 1004, .ref 1005, .ref 1006, .ref 1007, .int 0, .int 0, .int 0, .int 0, .ref 1008, .ref 1009, .ref 1010, .ref 1011, .int 0, .int 0, .int 0, .int 0, .int 0, .int 0, .int 0, .int 0, .long 0, .long 0, .long 0, .long 0, .long 0, .long 0, .long 0, .long 0, .long 0, .long 0, .ref 1012, .ref 1013, .ref 1014, .int 0, .ref 1015, .int 0, .int 0, .ref 1016, .long 0, .long 0, .long 0, .long 0, .ref 1017, .int (-1), .int 0, .int 0, .int 0, .ref 1018, .ref 1019, .int 0, .ref 1020, .int 0], ia 64 (upd (lf tL_39) 39 1), ia 64 (upd (lf tM_39) 39 0), ia 700 (fun _ => 0), ia 16 (fun _ => 0), ia 8 (fun _ => 0), ia 16 (fun _ => 0), ia 16 (fun _ => 0), ia 16 (fun _ => 0), ia 8 (fun _ => 0), ia 16 (fun _ => 0), ia 16 (fun _ => 0), ia 64 (fun _ => 0), ia 64 (fun _ => 0), ia 64 (fun _ => 0), ia 64 (fun _ => 0), ia 3 (fun _ => 0), ja 12 (fun _ => 0), ia 128 (fun _ => 0), ia 128 (fun _ => 0), ia 30 (fun _ => 0)])) dX11_init_240 rfl (ix_c (by decide)) rfl ?_
  refine ab_world (WC0, [ob 9 [.int 0, .int 0, .int 0, .int (-1), .ref 1001, .ref 1002, .int 39, .ref 1003, .int 0, .int 0, .int 0, .int 0, .int 0, .ref 1004, .ref 1005, .ref 1006, .ref 1007, .int 0, .int 0, .int 0, .int 0, .ref 1008, .ref 1009, .ref 1010, .ref 1011, .int 0, .int 0, .int 0, .int 0, .int 0, .int 0, .int 0, .int 0, .long 0, .long 0, .long 0, .long 0, .long 0, .long 0, .long 0, .long 0, .long 0, .long 0, .ref 1012, .ref 1013, .ref 1014, .int 0, .ref 1015, .int 0, .int 0, .ref 1016, .long 0, .long 0, .long 0, .long 0, .ref 1017, .int (-1), .int 0, .int 0, .int 0, .ref 1018, .ref 1019, .int 0, .ref 1020, .int 0], ia 64 (ax_tab 0), ia 64 (ax_tab 1), ia 700 (fun _ => 0), ia 16 (fun _ => 0), ia 8 (fun _ => 0), ia 16 (fun _ => 0), ia 16 (fun _ => 0), ia 16 (fun _ => 0), ia 8 (fun _ => 0), ia 16 (fun _ => 0), ia 16 (fun _ => 0), ia 64 (fun _ => 0), ia 64 (fun _ => 0), ia 64 (fun _ => 0), ia 64 (fun _ => 0), ia 3 (fun _ => 0), ja 12 (fun _ => 0), ia 128 (fun _ => 0), ia 128 (fun _ => 0), ia 30 (fun _ => 0)]) (by rw [← fin_0, ← fin_1]) ?_
  refine ab_aload_n dX11_init_241 rfl ?_
  refine ab_dup rfl dX11_init_242 ?_
  refine ab_getf dX11_init_243 fl_X11_101 rfl rfl ?_
  refine ab_iconst (v := 1) dX11_init_246 (by decide) ?_
  refine ab_iadd dX11_init_247 ?_
  refine ab_topi (v := 40) (by decide) ?_
  refine ab_putf (w1 := (WC0, [ob 9 [.int 0, .int 0, .int 0, .int (-1), .ref 1001, .ref 1002, .int 40, .ref 1003, .int 0, .int 0, .int 0, .int 0, .int 0, .ref 1004, .ref 1005, .ref 1006, .ref 1007, .int 0, .int 0, .int 0, .int 0, .ref 1008, .ref 1009, .ref 1010, .ref 1011, .int 0, .int 0, .int 0, .int 0, .int 0, .int 0, .int 0, .int 0, .long 0, .long 0, .long 0, .long 0, .long 0, .long 0, .long 0, .long 0, .long 0, .long 0, .ref 1012, .ref 1013, .ref 1014, .int 0, .ref 1015, .int 0, .int 0, .ref 1016, .long 0, .long 0, .long 0, .long 0, .ref 1017, .int (-1), .int 0, .int 0, .int 0, .ref 1018, .ref 1019, .int 0, .ref 1020, .int 0], ia 64 (ax_tab 0), ia 64 (ax_tab 1), ia 700 (fun _ => 0), ia 16 (fun _ => 0), ia 8 (fun _ => 0), ia 16 (fun _ => 0), ia 16 (fun _ => 0), ia 16 (fun _ => 0), ia 8 (fun _ => 0), ia 16 (fun _ => 0), ia 16 (fun _ => 0), ia 64 (fun _ => 0), ia 64 (fun _ => 0), ia 64 (fun _ => 0), ia 64 (fun _ => 0), ia 3 (fun _ => 0), ja 12 (fun _ => 0), ia 128 (fun _ => 0), ia 128 (fun _ => 0), ia 30 (fun _ => 0)])) dX11_init_248 fl_X11_101 rfl (Nat.le_of_ble_eq_true rfl) (fun _ => ⟨rfl, rfl⟩) rfl ?_
  exact ab_vret dX11_init_251 rfl (by decide) ⟨rfl, rfl⟩
theorem mi_X11_init : ax_mi M_X11_init := ⟨tb_of 1354 (by decide +kernel) rfl, tb_of 10 (by decide +kernel) rfl, tb_of 1355 (by decide +kernel) rfl, by decide +kernel, rfl, rfl⟩
theorem mi_X10_init : ax_mi M_X10_init := ⟨tb_of 30 (by decide +kernel) rfl, tb_of 1 (by decide +kernel) rfl, tb_of 31 (by decide +kernel) rfl, by decide +kernel, rfl, rfl⟩
