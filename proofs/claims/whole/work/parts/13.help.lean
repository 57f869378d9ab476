section XH
theorem x_get_1_0 {a0 : Option Value} : ([a0] : List (Option Value))[0]? = some a0 := rfl
theorem x_set_1_0 {a0 v : Option Value} : List.set [a0] 0 v = [v] := rfl
theorem x_get_2_0 {a0 a1 : Option Value} : ([a0, a1] : List (Option Value))[0]? = some a0 := rfl
theorem x_set_2_0 {a0 a1 v : Option Value} : List.set [a0, a1] 0 v = [v, a1] := rfl
theorem x_get_2_1 {a0 a1 : Option Value} : ([a0, a1] : List (Option Value))[1]? = some a1 := rfl
theorem x_set_2_1 {a0 a1 v : Option Value} : List.set [a0, a1] 1 v = [a0, v] := rfl
theorem x_get_3_0 {a0 a1 a2 : Option Value} : ([a0, a1, a2] : List (Option Value))[0]? = some a0 := rfl
theorem x_set_3_0 {a0 a1 a2 v : Option Value} : List.set [a0, a1, a2] 0 v = [v, a1, a2] := rfl
theorem x_get_3_1 {a0 a1 a2 : Option Value} : ([a0, a1, a2] : List (Option Value))[1]? = some a1 := rfl
theorem x_set_3_1 {a0 a1 a2 v : Option Value} : List.set [a0, a1, a2] 1 v = [a0, v, a2] := rfl
theorem x_get_3_2 {a0 a1 a2 : Option Value} : ([a0, a1, a2] : List (Option Value))[2]? = some a2 := rfl
theorem x_set_3_2 {a0 a1 a2 v : Option Value} : List.set [a0, a1, a2] 2 v = [a0, a1, v] := rfl
theorem x_get_4_0 {a0 a1 a2 a3 : Option Value} : ([a0, a1, a2, a3] : List (Option Value))[0]? = some a0 := rfl
theorem x_set_4_0 {a0 a1 a2 a3 v : Option Value} : List.set [a0, a1, a2, a3] 0 v = [v, a1, a2, a3] := rfl
theorem x_get_4_1 {a0 a1 a2 a3 : Option Value} : ([a0, a1, a2, a3] : List (Option Value))[1]? = some a1 := rfl
theorem x_set_4_1 {a0 a1 a2 a3 v : Option Value} : List.set [a0, a1, a2, a3] 1 v = [a0, v, a2, a3] := rfl
theorem x_get_4_2 {a0 a1 a2 a3 : Option Value} : ([a0, a1, a2, a3] : List (Option Value))[2]? = some a2 := rfl
theorem x_set_4_2 {a0 a1 a2 a3 v : Option Value} : List.set [a0, a1, a2, a3] 2 v = [a0, a1, v, a3] := rfl
theorem x_get_4_3 {a0 a1 a2 a3 : Option Value} : ([a0, a1, a2, a3] : List (Option Value))[3]? = some a3 := rfl
theorem x_set_4_3 {a0 a1 a2 a3 v : Option Value} : List.set [a0, a1, a2, a3] 3 v = [a0, a1, a2, v] := rfl
theorem x_get_5_0 {a0 a1 a2 a3 a4 : Option Value} : ([a0, a1, a2, a3, a4] : List (Option Value))[0]? = some a0 := rfl
theorem x_set_5_0 {a0 a1 a2 a3 a4 v : Option Value} : List.set [a0, a1, a2, a3, a4] 0 v = [v, a1, a2, a3, a4] := rfl
theorem x_get_5_1 {a0 a1 a2 a3 a4 : Option Value} : ([a0, a1, a2, a3, a4] : List (Option Value))[1]? = some a1 := rfl
theorem x_set_5_1 {a0 a1 a2 a3 a4 v : Option Value} : List.set [a0, a1, a2, a3, a4] 1 v = [a0, v, a2, a3, a4] := rfl
theorem x_get_5_2 {a0 a1 a2 a3 a4 : Option Value} : ([a0, a1, a2, a3, a4] : List (Option Value))[2]? = some a2 := rfl
theorem x_set_5_2 {a0 a1 a2 a3 a4 v : Option Value} : List.set [a0, a1, a2, a3, a4] 2 v = [a0, a1, v, a3, a4] := rfl
theorem x_get_5_3 {a0 a1 a2 a3 a4 : Option Value} : ([a0, a1, a2, a3, a4] : List (Option Value))[3]? = some a3 := rfl
theorem x_set_5_3 {a0 a1 a2 a3 a4 v : Option Value} : List.set [a0, a1, a2, a3, a4] 3 v = [a0, a1, a2, v, a4] := rfl
theorem x_get_5_4 {a0 a1 a2 a3 a4 : Option Value} : ([a0, a1, a2, a3, a4] : List (Option Value))[4]? = some a4 := rfl
theorem x_set_5_4 {a0 a1 a2 a3 a4 v : Option Value} : List.set [a0, a1, a2, a3, a4] 4 v = [a0, a1, a2, a3, v] := rfl
theorem x_get_6_0 {a0 a1 a2 a3 a4 a5 : Option Value} : ([a0, a1, a2, a3, a4, a5] : List (Option Value))[0]? = some a0 := rfl
theorem x_set_6_0 {a0 a1 a2 a3 a4 a5 v : Option Value} : List.set [a0, a1, a2, a3, a4, a5] 0 v = [v, a1, a2, a3, a4, a5] := rfl
theorem x_get_6_1 {a0 a1 a2 a3 a4 a5 : Option Value} : ([a0, a1, a2, a3, a4, a5] : List (Option Value))[1]? = some a1 := rfl
theorem x_set_6_1 {a0 a1 a2 a3 a4 a5 v : Option Value} : List.set [a0, a1, a2, a3, a4, a5] 1 v = [a0, v, a2, a3, a4, a5] := rfl
theorem x_get_6_2 {a0 a1 a2 a3 a4 a5 : Option Value} : ([a0, a1, a2, a3, a4, a5] : List (Option Value))[2]? = some a2 := rfl
theorem x_set_6_2 {a0 a1 a2 a3 a4 a5 v : Option Value} : List.set [a0, a1, a2, a3, a4, a5] 2 v = [a0, a1, v, a3, a4, a5] := rfl
theorem x_get_6_3 {a0 a1 a2 a3 a4 a5 : Option Value} : ([a0, a1, a2, a3, a4, a5] : List (Option Value))[3]? = some a3 := rfl
theorem x_set_6_3 {a0 a1 a2 a3 a4 a5 v : Option Value} : List.set [a0, a1, a2, a3, a4, a5] 3 v = [a0, a1, a2, v, a4, a5] := rfl
theorem x_get_6_4 {a0 a1 a2 a3 a4 a5 : Option Value} : ([a0, a1, a2, a3, a4, a5] : List (Option Value))[4]? = some a4 := rfl
theorem x_set_6_4 {a0 a1 a2 a3 a4 a5 v : Option Value} : List.set [a0, a1, a2, a3, a4, a5] 4 v = [a0, a1, a2, a3, v, a5] := rfl
theorem x_get_6_5 {a0 a1 a2 a3 a4 a5 : Option Value} : ([a0, a1, a2, a3, a4, a5] : List (Option Value))[5]? = some a5 := rfl
theorem x_set_6_5 {a0 a1 a2 a3 a4 a5 v : Option Value} : List.set [a0, a1, a2, a3, a4, a5] 5 v = [a0, a1, a2, a3, a4, v] := rfl
theorem x_get_7_0 {a0 a1 a2 a3 a4 a5 a6 : Option Value} : ([a0, a1, a2, a3, a4, a5, a6] : List (Option Value))[0]? = some a0 := rfl
theorem x_set_7_0 {a0 a1 a2 a3 a4 a5 a6 v : Option Value} : List.set [a0, a1, a2, a3, a4, a5, a6] 0 v = [v, a1, a2, a3, a4, a5, a6] := rfl
theorem x_get_7_1 {a0 a1 a2 a3 a4 a5 a6 : Option Value} : ([a0, a1, a2, a3, a4, a5, a6] : List (Option Value))[1]? = some a1 := rfl
theorem x_set_7_1 {a0 a1 a2 a3 a4 a5 a6 v : Option Value} : List.set [a0, a1, a2, a3, a4, a5, a6] 1 v = [a0, v, a2, a3, a4, a5, a6] := rfl
theorem x_get_7_2 {a0 a1 a2 a3 a4 a5 a6 : Option Value} : ([a0, a1, a2, a3, a4, a5, a6] : List (Option Value))[2]? = some a2 := rfl
theorem x_set_7_2 {a0 a1 a2 a3 a4 a5 a6 v : Option Value} : List.set [a0, a1, a2, a3, a4, a5, a6] 2 v = [a0, a1, v, a3, a4, a5, a6] := rfl
theorem x_get_7_3 {a0 a1 a2 a3 a4 a5 a6 : Option Value} : ([a0, a1, a2, a3, a4, a5, a6] : List (Option Value))[3]? = some a3 := rfl
theorem x_set_7_3 {a0 a1 a2 a3 a4 a5 a6 v : Option Value} : List.set [a0, a1, a2, a3, a4, a5, a6] 3 v = [a0, a1, a2, v, a4, a5, a6] := rfl
theorem x_get_7_4 {a0 a1 a2 a3 a4 a5 a6 : Option Value} : ([a0, a1, a2, a3, a4, a5, a6] : List (Option Value))[4]? = some a4 := rfl
theorem x_set_7_4 {a0 a1 a2 a3 a4 a5 a6 v : Option Value} : List.set [a0, a1, a2, a3, a4, a5, a6] 4 v = [a0, a1, a2, a3, v, a5, a6] := rfl
theorem x_get_7_5 {a0 a1 a2 a3 a4 a5 a6 : Option Value} : ([a0, a1, a2, a3, a4, a5, a6] : List (Option Value))[5]? = some a5 := rfl
theorem x_set_7_5 {a0 a1 a2 a3 a4 a5 a6 v : Option Value} : List.set [a0, a1, a2, a3, a4, a5, a6] 5 v = [a0, a1, a2, a3, a4, v, a6] := rfl
theorem x_get_7_6 {a0 a1 a2 a3 a4 a5 a6 : Option Value} : ([a0, a1, a2, a3, a4, a5, a6] : List (Option Value))[6]? = some a6 := rfl
theorem x_set_7_6 {a0 a1 a2 a3 a4 a5 a6 v : Option Value} : List.set [a0, a1, a2, a3, a4, a5, a6] 6 v = [a0, a1, a2, a3, a4, a5, v] := rfl
theorem x_get_8_0 {a0 a1 a2 a3 a4 a5 a6 a7 : Option Value} : ([a0, a1, a2, a3, a4, a5, a6, a7] : List (Option Value))[0]? = some a0 := rfl
theorem x_set_8_0 {a0 a1 a2 a3 a4 a5 a6 a7 v : Option Value} : List.set [a0, a1, a2, a3, a4, a5, a6, a7] 0 v = [v, a1, a2, a3, a4, a5, a6, a7] := rfl
theorem x_get_8_1 {a0 a1 a2 a3 a4 a5 a6 a7 : Option Value} : ([a0, a1, a2, a3, a4, a5, a6, a7] : List (Option Value))[1]? = some a1 := rfl
theorem x_set_8_1 {a0 a1 a2 a3 a4 a5 a6 a7 v : Option Value} : List.set [a0, a1, a2, a3, a4, a5, a6, a7] 1 v = [a0, v, a2, a3, a4, a5, a6, a7] := rfl
theorem x_get_8_2 {a0 a1 a2 a3 a4 a5 a6 a7 : Option Value} : ([a0, a1, a2, a3, a4, a5, a6, a7] : List (Option Value))[2]? = some a2 := rfl
theorem x_set_8_2 {a0 a1 a2 a3 a4 a5 a6 a7 v : Option Value} : List.set [a0, a1, a2, a3, a4, a5, a6, a7] 2 v = [a0, a1, v, a3, a4, a5, a6, a7] := rfl
theorem x_get_8_3 {a0 a1 a2 a3 a4 a5 a6 a7 : Option Value} : ([a0, a1, a2, a3, a4, a5, a6, a7] : List (Option Value))[3]? = some a3 := rfl
theorem x_set_8_3 {a0 a1 a2 a3 a4 a5 a6 a7 v : Option Value} : List.set [a0, a1, a2, a3, a4, a5, a6, a7] 3 v = [a0, a1, a2, v, a4, a5, a6, a7] := rfl
theorem x_get_8_4 {a0 a1 a2 a3 a4 a5 a6 a7 : Option Value} : ([a0, a1, a2, a3, a4, a5, a6, a7] : List (Option Value))[4]? = some a4 := rfl
theorem x_set_8_4 {a0 a1 a2 a3 a4 a5 a6 a7 v : Option Value} : List.set [a0, a1, a2, a3, a4, a5, a6, a7] 4 v = [a0, a1, a2, a3, v, a5, a6, a7] := rfl
theorem x_get_8_5 {a0 a1 a2 a3 a4 a5 a6 a7 : Option Value} : ([a0, a1, a2, a3, a4, a5, a6, a7] : List (Option Value))[5]? = some a5 := rfl
theorem x_set_8_5 {a0 a1 a2 a3 a4 a5 a6 a7 v : Option Value} : List.set [a0, a1, a2, a3, a4, a5, a6, a7] 5 v = [a0, a1, a2, a3, a4, v, a6, a7] := rfl
theorem x_get_8_6 {a0 a1 a2 a3 a4 a5 a6 a7 : Option Value} : ([a0, a1, a2, a3, a4, a5, a6, a7] : List (Option Value))[6]? = some a6 := rfl
theorem x_set_8_6 {a0 a1 a2 a3 a4 a5 a6 a7 v : Option Value} : List.set [a0, a1, a2, a3, a4, a5, a6, a7] 6 v = [a0, a1, a2, a3, a4, a5, v, a7] := rfl
theorem x_get_8_7 {a0 a1 a2 a3 a4 a5 a6 a7 : Option Value} : ([a0, a1, a2, a3, a4, a5, a6, a7] : List (Option Value))[7]? = some a7 := rfl
theorem x_set_8_7 {a0 a1 a2 a3 a4 a5 a6 a7 v : Option Value} : List.set [a0, a1, a2, a3, a4, a5, a6, a7] 7 v = [a0, a1, a2, a3, a4, a5, a6, v] := rfl
theorem x_get_9_0 {a0 a1 a2 a3 a4 a5 a6 a7 a8 : Option Value} : ([a0, a1, a2, a3, a4, a5, a6, a7, a8] : List (Option Value))[0]? = some a0 := rfl
theorem x_set_9_0 {a0 a1 a2 a3 a4 a5 a6 a7 a8 v : Option Value} : List.set [a0, a1, a2, a3, a4, a5, a6, a7, a8] 0 v = [v, a1, a2, a3, a4, a5, a6, a7, a8] := rfl
theorem x_set2_9_0 {a0 a1 a2 a3 a4 a5 a6 a7 a8 v : Option Value} : List.set (List.set [a0, a1, a2, a3, a4, a5, a6, a7, a8] 0 v) (0 + 1) none = [v, none, a2, a3, a4, a5, a6, a7, a8] := rfl
theorem x_get_9_1 {a0 a1 a2 a3 a4 a5 a6 a7 a8 : Option Value} : ([a0, a1, a2, a3, a4, a5, a6, a7, a8] : List (Option Value))[1]? = some a1 := rfl
theorem x_set_9_1 {a0 a1 a2 a3 a4 a5 a6 a7 a8 v : Option Value} : List.set [a0, a1, a2, a3, a4, a5, a6, a7, a8] 1 v = [a0, v, a2, a3, a4, a5, a6, a7, a8] := rfl
theorem x_set2_9_1 {a0 a1 a2 a3 a4 a5 a6 a7 a8 v : Option Value} : List.set (List.set [a0, a1, a2, a3, a4, a5, a6, a7, a8] 1 v) (1 + 1) none = [a0, v, none, a3, a4, a5, a6, a7, a8] := rfl
theorem x_get_9_2 {a0 a1 a2 a3 a4 a5 a6 a7 a8 : Option Value} : ([a0, a1, a2, a3, a4, a5, a6, a7, a8] : List (Option Value))[2]? = some a2 := rfl
theorem x_set_9_2 {a0 a1 a2 a3 a4 a5 a6 a7 a8 v : Option Value} : List.set [a0, a1, a2, a3, a4, a5, a6, a7, a8] 2 v = [a0, a1, v, a3, a4, a5, a6, a7, a8] := rfl
theorem x_set2_9_2 {a0 a1 a2 a3 a4 a5 a6 a7 a8 v : Option Value} : List.set (List.set [a0, a1, a2, a3, a4, a5, a6, a7, a8] 2 v) (2 + 1) none = [a0, a1, v, none, a4, a5, a6, a7, a8] := rfl
theorem x_get_9_3 {a0 a1 a2 a3 a4 a5 a6 a7 a8 : Option Value} : ([a0, a1, a2, a3, a4, a5, a6, a7, a8] : List (Option Value))[3]? = some a3 := rfl
theorem x_set_9_3 {a0 a1 a2 a3 a4 a5 a6 a7 a8 v : Option Value} : List.set [a0, a1, a2, a3, a4, a5, a6, a7, a8] 3 v = [a0, a1, a2, v, a4, a5, a6, a7, a8] := rfl
theorem x_set2_9_3 {a0 a1 a2 a3 a4 a5 a6 a7 a8 v : Option Value} : List.set (List.set [a0, a1, a2, a3, a4, a5, a6, a7, a8] 3 v) (3 + 1) none = [a0, a1, a2, v, none, a5, a6, a7, a8] := rfl
theorem x_get_9_4 {a0 a1 a2 a3 a4 a5 a6 a7 a8 : Option Value} : ([a0, a1, a2, a3, a4, a5, a6, a7, a8] : List (Option Value))[4]? = some a4 := rfl
theorem x_set_9_4 {a0 a1 a2 a3 a4 a5 a6 a7 a8 v : Option Value} : List.set [a0, a1, a2, a3, a4, a5, a6, a7, a8] 4 v = [a0, a1, a2, a3, v, a5, a6, a7, a8] := rfl
theorem x_set2_9_4 {a0 a1 a2 a3 a4 a5 a6 a7 a8 v : Option Value} : List.set (List.set [a0, a1, a2, a3, a4, a5, a6, a7, a8] 4 v) (4 + 1) none = [a0, a1, a2, a3, v, none, a6, a7, a8] := rfl
theorem x_get_9_5 {a0 a1 a2 a3 a4 a5 a6 a7 a8 : Option Value} : ([a0, a1, a2, a3, a4, a5, a6, a7, a8] : List (Option Value))[5]? = some a5 := rfl
theorem x_set_9_5 {a0 a1 a2 a3 a4 a5 a6 a7 a8 v : Option Value} : List.set [a0, a1, a2, a3, a4, a5, a6, a7, a8] 5 v = [a0, a1, a2, a3, a4, v, a6, a7, a8] := rfl
theorem x_set2_9_5 {a0 a1 a2 a3 a4 a5 a6 a7 a8 v : Option Value} : List.set (List.set [a0, a1, a2, a3, a4, a5, a6, a7, a8] 5 v) (5 + 1) none = [a0, a1, a2, a3, a4, v, none, a7, a8] := rfl
theorem x_get_9_6 {a0 a1 a2 a3 a4 a5 a6 a7 a8 : Option Value} : ([a0, a1, a2, a3, a4, a5, a6, a7, a8] : List (Option Value))[6]? = some a6 := rfl
theorem x_set_9_6 {a0 a1 a2 a3 a4 a5 a6 a7 a8 v : Option Value} : List.set [a0, a1, a2, a3, a4, a5, a6, a7, a8] 6 v = [a0, a1, a2, a3, a4, a5, v, a7, a8] := rfl
theorem x_set2_9_6 {a0 a1 a2 a3 a4 a5 a6 a7 a8 v : Option Value} : List.set (List.set [a0, a1, a2, a3, a4, a5, a6, a7, a8] 6 v) (6 + 1) none = [a0, a1, a2, a3, a4, a5, v, none, a8] := rfl
theorem x_get_9_7 {a0 a1 a2 a3 a4 a5 a6 a7 a8 : Option Value} : ([a0, a1, a2, a3, a4, a5, a6, a7, a8] : List (Option Value))[7]? = some a7 := rfl
theorem x_set_9_7 {a0 a1 a2 a3 a4 a5 a6 a7 a8 v : Option Value} : List.set [a0, a1, a2, a3, a4, a5, a6, a7, a8] 7 v = [a0, a1, a2, a3, a4, a5, a6, v, a8] := rfl
theorem x_set2_9_7 {a0 a1 a2 a3 a4 a5 a6 a7 a8 v : Option Value} : List.set (List.set [a0, a1, a2, a3, a4, a5, a6, a7, a8] 7 v) (7 + 1) none = [a0, a1, a2, a3, a4, a5, a6, v, none] := rfl
theorem x_get_9_8 {a0 a1 a2 a3 a4 a5 a6 a7 a8 : Option Value} : ([a0, a1, a2, a3, a4, a5, a6, a7, a8] : List (Option Value))[8]? = some a8 := rfl
theorem x_set_9_8 {a0 a1 a2 a3 a4 a5 a6 a7 a8 v : Option Value} : List.set [a0, a1, a2, a3, a4, a5, a6, a7, a8] 8 v = [a0, a1, a2, a3, a4, a5, a6, a7, v] := rfl
theorem x_get_10_0 {a0 a1 a2 a3 a4 a5 a6 a7 a8 a9 : Option Value} : ([a0, a1, a2, a3, a4, a5, a6, a7, a8, a9] : List (Option Value))[0]? = some a0 := rfl
theorem x_set_10_0 {a0 a1 a2 a3 a4 a5 a6 a7 a8 a9 v : Option Value} : List.set [a0, a1, a2, a3, a4, a5, a6, a7, a8, a9] 0 v = [v, a1, a2, a3, a4, a5, a6, a7, a8, a9] := rfl
theorem x_get_10_1 {a0 a1 a2 a3 a4 a5 a6 a7 a8 a9 : Option Value} : ([a0, a1, a2, a3, a4, a5, a6, a7, a8, a9] : List (Option Value))[1]? = some a1 := rfl
theorem x_set_10_1 {a0 a1 a2 a3 a4 a5 a6 a7 a8 a9 v : Option Value} : List.set [a0, a1, a2, a3, a4, a5, a6, a7, a8, a9] 1 v = [a0, v, a2, a3, a4, a5, a6, a7, a8, a9] := rfl
theorem x_get_10_2 {a0 a1 a2 a3 a4 a5 a6 a7 a8 a9 : Option Value} : ([a0, a1, a2, a3, a4, a5, a6, a7, a8, a9] : List (Option Value))[2]? = some a2 := rfl
theorem x_set_10_2 {a0 a1 a2 a3 a4 a5 a6 a7 a8 a9 v : Option Value} : List.set [a0, a1, a2, a3, a4, a5, a6, a7, a8, a9] 2 v = [a0, a1, v, a3, a4, a5, a6, a7, a8, a9] := rfl
theorem x_get_10_3 {a0 a1 a2 a3 a4 a5 a6 a7 a8 a9 : Option Value} : ([a0, a1, a2, a3, a4, a5, a6, a7, a8, a9] : List (Option Value))[3]? = some a3 := rfl
theorem x_set_10_3 {a0 a1 a2 a3 a4 a5 a6 a7 a8 a9 v : Option Value} : List.set [a0, a1, a2, a3, a4, a5, a6, a7, a8, a9] 3 v = [a0, a1, a2, v, a4, a5, a6, a7, a8, a9] := rfl
theorem x_get_10_4 {a0 a1 a2 a3 a4 a5 a6 a7 a8 a9 : Option Value} : ([a0, a1, a2, a3, a4, a5, a6, a7, a8, a9] : List (Option Value))[4]? = some a4 := rfl
theorem x_set_10_4 {a0 a1 a2 a3 a4 a5 a6 a7 a8 a9 v : Option Value} : List.set [a0, a1, a2, a3, a4, a5, a6, a7, a8, a9] 4 v = [a0, a1, a2, a3, v, a5, a6, a7, a8, a9] := rfl
theorem x_get_10_5 {a0 a1 a2 a3 a4 a5 a6 a7 a8 a9 : Option Value} : ([a0, a1, a2, a3, a4, a5, a6, a7, a8, a9] : List (Option Value))[5]? = some a5 := rfl
theorem x_set_10_5 {a0 a1 a2 a3 a4 a5 a6 a7 a8 a9 v : Option Value} : List.set [a0, a1, a2, a3, a4, a5, a6, a7, a8, a9] 5 v = [a0, a1, a2, a3, a4, v, a6, a7, a8, a9] := rfl
theorem x_get_10_6 {a0 a1 a2 a3 a4 a5 a6 a7 a8 a9 : Option Value} : ([a0, a1, a2, a3, a4, a5, a6, a7, a8, a9] : List (Option Value))[6]? = some a6 := rfl
theorem x_set_10_6 {a0 a1 a2 a3 a4 a5 a6 a7 a8 a9 v : Option Value} : List.set [a0, a1, a2, a3, a4, a5, a6, a7, a8, a9] 6 v = [a0, a1, a2, a3, a4, a5, v, a7, a8, a9] := rfl
theorem x_get_10_7 {a0 a1 a2 a3 a4 a5 a6 a7 a8 a9 : Option Value} : ([a0, a1, a2, a3, a4, a5, a6, a7, a8, a9] : List (Option Value))[7]? = some a7 := rfl
theorem x_set_10_7 {a0 a1 a2 a3 a4 a5 a6 a7 a8 a9 v : Option Value} : List.set [a0, a1, a2, a3, a4, a5, a6, a7, a8, a9] 7 v = [a0, a1, a2, a3, a4, a5, a6, v, a8, a9] := rfl
theorem x_get_10_8 {a0 a1 a2 a3 a4 a5 a6 a7 a8 a9 : Option Value} : ([a0, a1, a2, a3, a4, a5, a6, a7, a8, a9] : List (Option Value))[8]? = some a8 := rfl
theorem x_set_10_8 {a0 a1 a2 a3 a4 a5 a6 a7 a8 a9 v : Option Value} : List.set [a0, a1, a2, a3, a4, a5, a6, a7, a8, a9] 8 v = [a0, a1, a2, a3, a4, a5, a6, a7, v, a9] := rfl
theorem x_get_10_9 {a0 a1 a2 a3 a4 a5 a6 a7 a8 a9 : Option Value} : ([a0, a1, a2, a3, a4, a5, a6, a7, a8, a9] : List (Option Value))[9]? = some a9 := rfl
theorem x_set_10_9 {a0 a1 a2 a3 a4 a5 a6 a7 a8 a9 v : Option Value} : List.set [a0, a1, a2, a3, a4, a5, a6, a7, a8, a9] 9 v = [a0, a1, a2, a3, a4, a5, a6, a7, a8, v] := rfl
theorem x_get_11_0 {a0 a1 a2 a3 a4 a5 a6 a7 a8 a9 a10 : Option Value} : ([a0, a1, a2, a3, a4, a5, a6, a7, a8, a9, a10] : List (Option Value))[0]? = some a0 := rfl
theorem x_set_11_0 {a0 a1 a2 a3 a4 a5 a6 a7 a8 a9 a10 v : Option Value} : List.set [a0, a1, a2, a3, a4, a5, a6, a7, a8, a9, a10] 0 v = [v, a1, a2, a3, a4, a5, a6, a7, a8, a9, a10] := rfl
theorem x_get_11_1 {a0 a1 a2 a3 a4 a5 a6 a7 a8 a9 a10 : Option Value} : ([a0, a1, a2, a3, a4, a5, a6, a7, a8, a9, a10] : List (Option Value))[1]? = some a1 := rfl
theorem x_set_11_1 {a0 a1 a2 a3 a4 a5 a6 a7 a8 a9 a10 v : Option Value} : List.set [a0, a1, a2, a3, a4, a5, a6, a7, a8, a9, a10] 1 v = [a0, v, a2, a3, a4, a5, a6, a7, a8, a9, a10] := rfl
theorem x_get_11_2 {a0 a1 a2 a3 a4 a5 a6 a7 a8 a9 a10 : Option Value} : ([a0, a1, a2, a3, a4, a5, a6, a7, a8, a9, a10] : List (Option Value))[2]? = some a2 := rfl
theorem x_set_11_2 {a0 a1 a2 a3 a4 a5 a6 a7 a8 a9 a10 v : Option Value} : List.set [a0, a1, a2, a3, a4, a5, a6, a7, a8, a9, a10] 2 v = [a0, a1, v, a3, a4, a5, a6, a7, a8, a9, a10] := rfl
theorem x_get_11_3 {a0 a1 a2 a3 a4 a5 a6 a7 a8 a9 a10 : Option Value} : ([a0, a1, a2, a3, a4, a5, a6, a7, a8, a9, a10] : List (Option Value))[3]? = some a3 := rfl
theorem x_set_11_3 {a0 a1 a2 a3 a4 a5 a6 a7 a8 a9 a10 v : Option Value} : List.set [a0, a1, a2, a3, a4, a5, a6, a7, a8, a9, a10] 3 v = [a0, a1, a2, v, a4, a5, a6, a7, a8, a9, a10] := rfl
theorem x_get_11_4 {a0 a1 a2 a3 a4 a5 a6 a7 a8 a9 a10 : Option Value} : ([a0, a1, a2, a3, a4, a5, a6, a7, a8, a9, a10] : List (Option Value))[4]? = some a4 := rfl
theorem x_set_11_4 {a0 a1 a2 a3 a4 a5 a6 a7 a8 a9 a10 v : Option Value} : List.set [a0, a1, a2, a3, a4, a5, a6, a7, a8, a9, a10] 4 v = [a0, a1, a2, a3, v, a5, a6, a7, a8, a9, a10] := rfl
theorem x_get_11_5 {a0 a1 a2 a3 a4 a5 a6 a7 a8 a9 a10 : Option Value} : ([a0, a1, a2, a3, a4, a5, a6, a7, a8, a9, a10] : List (Option Value))[5]? = some a5 := rfl
theorem x_set_11_5 {a0 a1 a2 a3 a4 a5 a6 a7 a8 a9 a10 v : Option Value} : List.set [a0, a1, a2, a3, a4, a5, a6, a7, a8, a9, a10] 5 v = [a0, a1, a2, a3, a4, v, a6, a7, a8, a9, a10] := rfl
theorem x_get_11_6 {a0 a1 a2 a3 a4 a5 a6 a7 a8 a9 a10 : Option Value} : ([a0, a1, a2, a3, a4, a5, a6, a7, a8, a9, a10] : List (Option Value))[6]? = some a6 := rfl
theorem x_set_11_6 {a0 a1 a2 a3 a4 a5 a6 a7 a8 a9 a10 v : Option Value} : List.set [a0, a1, a2, a3, a4, a5, a6, a7, a8, a9, a10] 6 v = [a0, a1, a2, a3, a4, a5, v, a7, a8, a9, a10] := rfl
theorem x_get_11_7 {a0 a1 a2 a3 a4 a5 a6 a7 a8 a9 a10 : Option Value} : ([a0, a1, a2, a3, a4, a5, a6, a7, a8, a9, a10] : List (Option Value))[7]? = some a7 := rfl
theorem x_set_11_7 {a0 a1 a2 a3 a4 a5 a6 a7 a8 a9 a10 v : Option Value} : List.set [a0, a1, a2, a3, a4, a5, a6, a7, a8, a9, a10] 7 v = [a0, a1, a2, a3, a4, a5, a6, v, a8, a9, a10] := rfl
theorem x_get_11_8 {a0 a1 a2 a3 a4 a5 a6 a7 a8 a9 a10 : Option Value} : ([a0, a1, a2, a3, a4, a5, a6, a7, a8, a9, a10] : List (Option Value))[8]? = some a8 := rfl
theorem x_set_11_8 {a0 a1 a2 a3 a4 a5 a6 a7 a8 a9 a10 v : Option Value} : List.set [a0, a1, a2, a3, a4, a5, a6, a7, a8, a9, a10] 8 v = [a0, a1, a2, a3, a4, a5, a6, a7, v, a9, a10] := rfl
theorem x_get_11_9 {a0 a1 a2 a3 a4 a5 a6 a7 a8 a9 a10 : Option Value} : ([a0, a1, a2, a3, a4, a5, a6, a7, a8, a9, a10] : List (Option Value))[9]? = some a9 := rfl
theorem x_set_11_9 {a0 a1 a2 a3 a4 a5 a6 a7 a8 a9 a10 v : Option Value} : List.set [a0, a1, a2, a3, a4, a5, a6, a7, a8, a9, a10] 9 v = [a0, a1, a2, a3, a4, a5, a6, a7, a8, v, a10] := rfl
theorem x_get_11_10 {a0 a1 a2 a3 a4 a5 a6 a7 a8 a9 a10 : Option Value} : ([a0, a1, a2, a3, a4, a5, a6, a7, a8, a9, a10] : List (Option Value))[10]? = some a10 := rfl
theorem x_set_11_10 {a0 a1 a2 a3 a4 a5 a6 a7 a8 a9 a10 v : Option Value} : List.set [a0, a1, a2, a3, a4, a5, a6, a7, a8, a9, a10] 10 v = [a0, a1, a2, a3, a4, a5, a6, a7, a8, a9, v] := rfl
theorem x_get_12_0 {a0 a1 a2 a3 a4 a5 a6 a7 a8 a9 a10 a11 : Option Value} : ([a0, a1, a2, a3, a4, a5, a6, a7, a8, a9, a10, a11] : List (Option Value))[0]? = some a0 := rfl
theorem x_set_12_0 {a0 a1 a2 a3 a4 a5 a6 a7 a8 a9 a10 a11 v : Option Value} : List.set [a0, a1, a2, a3, a4, a5, a6, a7, a8, a9, a10, a11] 0 v = [v, a1, a2, a3, a4, a5, a6, a7, a8, a9, a10, a11] := rfl
theorem x_get_12_1 {a0 a1 a2 a3 a4 a5 a6 a7 a8 a9 a10 a11 : Option Value} : ([a0, a1, a2, a3, a4, a5, a6, a7, a8, a9, a10, a11] : List (Option Value))[1]? = some a1 := rfl
theorem x_set_12_1 {a0 a1 a2 a3 a4 a5 a6 a7 a8 a9 a10 a11 v : Option Value} : List.set [a0, a1, a2, a3, a4, a5, a6, a7, a8, a9, a10, a11] 1 v = [a0, v, a2, a3, a4, a5, a6, a7, a8, a9, a10, a11] := rfl
theorem x_get_12_2 {a0 a1 a2 a3 a4 a5 a6 a7 a8 a9 a10 a11 : Option Value} : ([a0, a1, a2, a3, a4, a5, a6, a7, a8, a9, a10, a11] : List (Option Value))[2]? = some a2 := rfl
theorem x_set_12_2 {a0 a1 a2 a3 a4 a5 a6 a7 a8 a9 a10 a11 v : Option Value} : List.set [a0, a1, a2, a3, a4, a5, a6, a7, a8, a9, a10, a11] 2 v = [a0, a1, v, a3, a4, a5, a6, a7, a8, a9, a10, a11] := rfl
theorem x_get_12_3 {a0 a1 a2 a3 a4 a5 a6 a7 a8 a9 a10 a11 : Option Value} : ([a0, a1, a2, a3, a4, a5, a6, a7, a8, a9, a10, a11] : List (Option Value))[3]? = some a3 := rfl
theorem x_set_12_3 {a0 a1 a2 a3 a4 a5 a6 a7 a8 a9 a10 a11 v : Option Value} : List.set [a0, a1, a2, a3, a4, a5, a6, a7, a8, a9, a10, a11] 3 v = [a0, a1, a2, v, a4, a5, a6, a7, a8, a9, a10, a11] := rfl
theorem x_get_12_4 {a0 a1 a2 a3 a4 a5 a6 a7 a8 a9 a10 a11 : Option Value} : ([a0, a1, a2, a3, a4, a5, a6, a7, a8, a9, a10, a11] : List (Option Value))[4]? = some a4 := rfl
theorem x_set_12_4 {a0 a1 a2 a3 a4 a5 a6 a7 a8 a9 a10 a11 v : Option Value} : List.set [a0, a1, a2, a3, a4, a5, a6, a7, a8, a9, a10, a11] 4 v = [a0, a1, a2, a3, v, a5, a6, a7, a8, a9, a10, a11] := rfl
theorem x_get_12_5 {a0 a1 a2 a3 a4 a5 a6 a7 a8 a9 a10 a11 : Option Value} : ([a0, a1, a2, a3, a4, a5, a6, a7, a8, a9, a10, a11] : List (Option Value))[5]? = some a5 := rfl
theorem x_set_12_5 {a0 a1 a2 a3 a4 a5 a6 a7 a8 a9 a10 a11 v : Option Value} : List.set [a0, a1, a2, a3, a4, a5, a6, a7, a8, a9, a10, a11] 5 v = [a0, a1, a2, a3, a4, v, a6, a7, a8, a9, a10, a11] := rfl
theorem x_get_12_6 {a0 a1 a2 a3 a4 a5 a6 a7 a8 a9 a10 a11 : Option Value} : ([a0, a1, a2, a3, a4, a5, a6, a7, a8, a9, a10, a11] : List (Option Value))[6]? = some a6 := rfl
theorem x_set_12_6 {a0 a1 a2 a3 a4 a5 a6 a7 a8 a9 a10 a11 v : Option Value} : List.set [a0, a1, a2, a3, a4, a5, a6, a7, a8, a9, a10, a11] 6 v = [a0, a1, a2, a3, a4, a5, v, a7, a8, a9, a10, a11] := rfl
theorem x_get_12_7 {a0 a1 a2 a3 a4 a5 a6 a7 a8 a9 a10 a11 : Option Value} : ([a0, a1, a2, a3, a4, a5, a6, a7, a8, a9, a10, a11] : List (Option Value))[7]? = some a7 := rfl
theorem x_set_12_7 {a0 a1 a2 a3 a4 a5 a6 a7 a8 a9 a10 a11 v : Option Value} : List.set [a0, a1, a2, a3, a4, a5, a6, a7, a8, a9, a10, a11] 7 v = [a0, a1, a2, a3, a4, a5, a6, v, a8, a9, a10, a11] := rfl
theorem x_get_12_8 {a0 a1 a2 a3 a4 a5 a6 a7 a8 a9 a10 a11 : Option Value} : ([a0, a1, a2, a3, a4, a5, a6, a7, a8, a9, a10, a11] : List (Option Value))[8]? = some a8 := rfl
theorem x_set_12_8 {a0 a1 a2 a3 a4 a5 a6 a7 a8 a9 a10 a11 v : Option Value} : List.set [a0, a1, a2, a3, a4, a5, a6, a7, a8, a9, a10, a11] 8 v = [a0, a1, a2, a3, a4, a5, a6, a7, v, a9, a10, a11] := rfl
theorem x_get_12_9 {a0 a1 a2 a3 a4 a5 a6 a7 a8 a9 a10 a11 : Option Value} : ([a0, a1, a2, a3, a4, a5, a6, a7, a8, a9, a10, a11] : List (Option Value))[9]? = some a9 := rfl
theorem x_set_12_9 {a0 a1 a2 a3 a4 a5 a6 a7 a8 a9 a10 a11 v : Option Value} : List.set [a0, a1, a2, a3, a4, a5, a6, a7, a8, a9, a10, a11] 9 v = [a0, a1, a2, a3, a4, a5, a6, a7, a8, v, a10, a11] := rfl
theorem x_get_12_10 {a0 a1 a2 a3 a4 a5 a6 a7 a8 a9 a10 a11 : Option Value} : ([a0, a1, a2, a3, a4, a5, a6, a7, a8, a9, a10, a11] : List (Option Value))[10]? = some a10 := rfl
theorem x_set_12_10 {a0 a1 a2 a3 a4 a5 a6 a7 a8 a9 a10 a11 v : Option Value} : List.set [a0, a1, a2, a3, a4, a5, a6, a7, a8, a9, a10, a11] 10 v = [a0, a1, a2, a3, a4, a5, a6, a7, a8, a9, v, a11] := rfl
theorem x_get_12_11 {a0 a1 a2 a3 a4 a5 a6 a7 a8 a9 a10 a11 : Option Value} : ([a0, a1, a2, a3, a4, a5, a6, a7, a8, a9, a10, a11] : List (Option Value))[11]? = some a11 := rfl
theorem x_set_12_11 {a0 a1 a2 a3 a4 a5 a6 a7 a8 a9 a10 a11 v : Option Value} : List.set [a0, a1, a2, a3, a4, a5, a6, a7, a8, a9, a10, a11] 11 v = [a0, a1, a2, a3, a4, a5, a6, a7, a8, a9, a10, v] := rfl
theorem x_down {P : Nat → Prop} (n : Nat) (hend : P n) (hs : ∀ i, i < n → P (i + 1) → P i) : ∀ i, i ≤ n → P i := by
  intro i hi
  obtain ⟨k, hk⟩ : ∃ k, i + k = n := ⟨n - i, by omega⟩
  induction k generalizing i with
  | zero => rw [show i = n by omega]; exact hend
  | succ k ih => exact hs i (by omega) (ih (i + 1) (by omega) (by omega))
section RM
variable {Z : x_Z} {pc : Nat} {L : List (Option Value)} {st : List Value} {k n : Nat} {g : Bool} {N : Nat} {sh : xS} {D : xM}
theorem r_max {idx : Nat} {a b : Int} (hd : decode (z_c Z) pc = .ok (.invokestatic idx, 3)) (hw : x_mw (z_y Z).cls idx Lib.Math.max.name Lib.Math.max.code 2) (ha : x_r a) (hb : x_r b) (hf : 1 ≤ (z_R Z).frames) (hr : (st.map fun v => v.category).sum + 13 ≤ (z_R Z).locals) (hc : k ≤ (z_R Z).cells) (hs : n ≤ (z_R Z).slots) (kk : x_W Z (pc + 3) L (.int (xI (max a b)) :: st) k n g N sh D) : x_W Z pc L (.int (xI b) :: .int (xI a) :: st) k n g N sh D := by
  refine x_max hd hw hf hr hc hs ?_
  rw [x_n_of ha, x_n_of hb]
  have e : (if a < b then b else a) = max a b := by split <;> omega
  rw [e]; exact kk
theorem r_min {idx : Nat} {a b : Int} (hd : decode (z_c Z) pc = .ok (.invokestatic idx, 3)) (hw : x_mw (z_y Z).cls idx Lib.Math.min.name Lib.Math.min.code 2) (ha : x_r a) (hb : x_r b) (hf : 1 ≤ (z_R Z).frames) (hr : (st.map fun v => v.category).sum + 13 ≤ (z_R Z).locals) (hc : k ≤ (z_R Z).cells) (hs : n ≤ (z_R Z).slots) (kk : x_W Z (pc + 3) L (.int (xI (min a b)) :: st) k n g N sh D) : x_W Z pc L (.int (xI b) :: .int (xI a) :: st) k n g N sh D := by
  refine x_min hd hw hf hr hc hs ?_
  rw [x_n_of ha, x_n_of hb]
  have e : (if b < a then b else a) = min a b := by split <;> omega
  rw [e]; exact kk
theorem r_abs {idx : Nat} {a : Int} (hd : decode (z_c Z) pc = .ok (.invokestatic idx, 3)) (hw : x_mw (z_y Z).cls idx Lib.Math.abs.name Lib.Math.abs.code 1) (ha : x_r a) (hf : 1 ≤ (z_R Z).frames) (hr : (st.map fun v => v.category).sum + 13 ≤ (z_R Z).locals) (hc : k ≤ (z_R Z).cells) (hs : n ≤ (z_R Z).slots) (kk : x_W Z (pc + 3) L (.int (xI (if 0 ≤ a then a else 0 - a)) :: st) k n g N sh D) : x_W Z pc L (.int (xI a) :: st) k n g N sh D := by
  refine x_abs hd hw hf hr hc hs ?_
  rw [x_n_of ha]
  exact kk
end RM
end XH
