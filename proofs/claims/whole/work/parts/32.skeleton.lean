/-! the skeleton: what stands behind the two constructors, and stays (written by program) -/
def mm_1 : mm_M := cM (mm_new (cG (mm_new mm_0 (9, 0)) 0) (10, 0)) 71
def sk_L : List (Nat × Nat) := [(9, 0), (7, 0), (21, 600), (24, 2), (2, 0), (20, 8), (20, 8), (20, 8), (20, 6), (20, 6), (20, 6), (2, 0), (20, 8), (20, 8), (20, 8), (20, 6), (20, 6), (20, 6), (25, 2), (8, 0), (20, 40), (20, 40), (20, 40), (8, 0), (20, 40), (20, 40), (20, 40), (26, 2), (4, 0), (20, 8), (20, 8), (4, 0), (20, 8), (20, 8), (20, 3), (27, 3), (5, 0), (2, 0), (20, 8), (20, 8), (20, 8), (20, 6), (20, 6), (20, 6), (8, 0), (20, 40), (20, 40), (20, 40), (4, 0), (20, 8), (20, 8), (20, 3), (20, 3), (3, 0), (20, 6), (20, 48), (20, 6), (0, 0), (20, 8), (20, 6), (20, 6), (20, 256), (20, 1792), (1, 0), (20, 6), (20, 6), (20, 6), (6, 0), (20, 8), (20, 8), (23, 9), (10, 0), (21, 2400), (20, 4), (20, 4), (20, 4), (20, 12), (20, 352), (20, 968), (20, 136), (20, 121), (20, 3), (20, 6), (20, 48), (20, 6), (22, 576), (20, 6), (20, 6859), (20, 56), (20, 64), (20, 2304), (23, 10), (22, 64), (20, 64), (22, 3)]
def sk_P : List (Nat × Nat × Nat) := [(1, 0, 2), (1, 1, 3), (4, 0, 5), (4, 1, 6), (4, 2, 7), (4, 3, 8), (4, 4, 9), (4, 5, 10), (3, 0, 4), (11, 0, 12), (11, 1, 13), (11, 2, 14), (11, 3, 15), (11, 4, 16), (11, 5, 17), (3, 1, 11), (1, 2, 18), (19, 0, 20), (19, 1, 21), (19, 2, 22), (18, 0, 19), (23, 0, 24), (23, 1, 25), (23, 2, 26), (18, 1, 23), (1, 3, 27), (28, 0, 29), (28, 1, 30), (27, 0, 28), (31, 0, 32), (31, 1, 33), (27, 1, 31), (1, 4, 34), (0, 0, 1), (0, 1, 35), (37, 0, 38), (37, 1, 39), (37, 2, 40), (37, 3, 41), (37, 4, 42), (37, 5, 43), (36, 0, 37), (44, 0, 45), (44, 1, 46), (44, 2, 47), (36, 1, 44), (48, 0, 49), (48, 1, 50), (36, 2, 48), (36, 5, 51), (36, 6, 52), (0, 2, 36), (53, 5, 54), (53, 6, 55), (53, 7, 56), (0, 3, 53), (57, 0, 58), (57, 1, 59), (57, 2, 60), (57, 3, 61), (57, 4, 62), (0, 4, 57), (63, 0, 64), (63, 1, 65), (63, 2, 66), (0, 5, 63), (67, 0, 68), (67, 1, 69), (67, 2, 70), (0, 6, 67), (71, 1, 72), (71, 2, 73), (71, 3, 74), (71, 4, 75), (71, 5, 76), (71, 6, 77), (71, 7, 78), (71, 8, 79), (71, 18, 80), (71, 19, 81), (71, 30, 82), (71, 31, 83), (71, 32, 84), (71, 34, 85), (71, 38, 86), (71, 39, 87), (71, 42, 88), (71, 45, 89), (71, 46, 90), (71, 47, 91), (71, 48, 92), (71, 49, 93), (71, 50, 94)]
def SK (μ : mm_M) : Prop := 95 ≤ mm_n μ ∧ (∀ a, a < 95 → mm_sh μ a = sk_L.getD a (0, 0)) ∧ ∀ e ∈ sk_P, mm_P μ e.1 e.2.1 = some e.2.2
theorem SK_1 : SK mm_1 := ⟨by decide +kernel, by decide +kernel, by decide +kernel⟩
theorem SK_n1 : mm_n mm_1 = 95 := by decide +kernel
theorem SK.ob {μ : mm_M} (h : SK μ) {a c : Nat} (ha : a < 95) (e : sk_L.getD a (0, 0) = (c, 0)) (hc : c < 11) : mm_ob μ a c := ⟨Nat.lt_of_lt_of_le ha h.1, (h.2.1 a ha).trans e, hc⟩
theorem SK.ar {μ : mm_M} (h : SK μ) {a t k : Nat} (ha : a < 95) (e : sk_L.getD a (0, 0) = (20 + t, k)) (ht : t < 8) : mm_ar μ a t k := ⟨Nat.lt_of_lt_of_le ha h.1, (h.2.1 a ha).trans e, ht⟩
theorem SK.p {μ : mm_M} (h : SK μ) (i : Nat) {a j r : Nat} (e : sk_P[i]? = some (a, j, r)) : mm_P μ a j = some r := h.2.2 (a, j, r) (List.mem_of_getElem? e)
theorem sk_o_0 {μ : mm_M} (h : SK μ) : mm_ob μ 0 9 := h.ob (by decide) rfl (by decide)
theorem sk_o_1 {μ : mm_M} (h : SK μ) : mm_ob μ 1 7 := h.ob (by decide) rfl (by decide)
theorem sk_a_2 {μ : mm_M} (h : SK μ) : mm_ar μ 2 1 600 := h.ar (by decide) rfl (by decide)
theorem sk_a_3 {μ : mm_M} (h : SK μ) : mm_ar μ 3 4 2 := h.ar (by decide) rfl (by decide)
theorem sk_o_4 {μ : mm_M} (h : SK μ) : mm_ob μ 4 2 := h.ob (by decide) rfl (by decide)
theorem sk_a_5 {μ : mm_M} (h : SK μ) : mm_ar μ 5 0 8 := h.ar (by decide) rfl (by decide)
theorem sk_a_6 {μ : mm_M} (h : SK μ) : mm_ar μ 6 0 8 := h.ar (by decide) rfl (by decide)
theorem sk_a_7 {μ : mm_M} (h : SK μ) : mm_ar μ 7 0 8 := h.ar (by decide) rfl (by decide)
theorem sk_a_8 {μ : mm_M} (h : SK μ) : mm_ar μ 8 0 6 := h.ar (by decide) rfl (by decide)
theorem sk_a_9 {μ : mm_M} (h : SK μ) : mm_ar μ 9 0 6 := h.ar (by decide) rfl (by decide)
theorem sk_a_10 {μ : mm_M} (h : SK μ) : mm_ar μ 10 0 6 := h.ar (by decide) rfl (by decide)
theorem sk_o_11 {μ : mm_M} (h : SK μ) : mm_ob μ 11 2 := h.ob (by decide) rfl (by decide)
theorem sk_a_12 {μ : mm_M} (h : SK μ) : mm_ar μ 12 0 8 := h.ar (by decide) rfl (by decide)
theorem sk_a_13 {μ : mm_M} (h : SK μ) : mm_ar μ 13 0 8 := h.ar (by decide) rfl (by decide)
theorem sk_a_14 {μ : mm_M} (h : SK μ) : mm_ar μ 14 0 8 := h.ar (by decide) rfl (by decide)
theorem sk_a_15 {μ : mm_M} (h : SK μ) : mm_ar μ 15 0 6 := h.ar (by decide) rfl (by decide)
theorem sk_a_16 {μ : mm_M} (h : SK μ) : mm_ar μ 16 0 6 := h.ar (by decide) rfl (by decide)
theorem sk_a_17 {μ : mm_M} (h : SK μ) : mm_ar μ 17 0 6 := h.ar (by decide) rfl (by decide)
theorem sk_a_18 {μ : mm_M} (h : SK μ) : mm_ar μ 18 5 2 := h.ar (by decide) rfl (by decide)
theorem sk_o_19 {μ : mm_M} (h : SK μ) : mm_ob μ 19 8 := h.ob (by decide) rfl (by decide)
theorem sk_a_20 {μ : mm_M} (h : SK μ) : mm_ar μ 20 0 40 := h.ar (by decide) rfl (by decide)
theorem sk_a_21 {μ : mm_M} (h : SK μ) : mm_ar μ 21 0 40 := h.ar (by decide) rfl (by decide)
theorem sk_a_22 {μ : mm_M} (h : SK μ) : mm_ar μ 22 0 40 := h.ar (by decide) rfl (by decide)
theorem sk_o_23 {μ : mm_M} (h : SK μ) : mm_ob μ 23 8 := h.ob (by decide) rfl (by decide)
theorem sk_a_24 {μ : mm_M} (h : SK μ) : mm_ar μ 24 0 40 := h.ar (by decide) rfl (by decide)
theorem sk_a_25 {μ : mm_M} (h : SK μ) : mm_ar μ 25 0 40 := h.ar (by decide) rfl (by decide)
theorem sk_a_26 {μ : mm_M} (h : SK μ) : mm_ar μ 26 0 40 := h.ar (by decide) rfl (by decide)
theorem sk_a_27 {μ : mm_M} (h : SK μ) : mm_ar μ 27 6 2 := h.ar (by decide) rfl (by decide)
theorem sk_o_28 {μ : mm_M} (h : SK μ) : mm_ob μ 28 4 := h.ob (by decide) rfl (by decide)
theorem sk_a_29 {μ : mm_M} (h : SK μ) : mm_ar μ 29 0 8 := h.ar (by decide) rfl (by decide)
theorem sk_a_30 {μ : mm_M} (h : SK μ) : mm_ar μ 30 0 8 := h.ar (by decide) rfl (by decide)
theorem sk_o_31 {μ : mm_M} (h : SK μ) : mm_ob μ 31 4 := h.ob (by decide) rfl (by decide)
theorem sk_a_32 {μ : mm_M} (h : SK μ) : mm_ar μ 32 0 8 := h.ar (by decide) rfl (by decide)
theorem sk_a_33 {μ : mm_M} (h : SK μ) : mm_ar μ 33 0 8 := h.ar (by decide) rfl (by decide)
theorem sk_a_34 {μ : mm_M} (h : SK μ) : mm_ar μ 34 0 3 := h.ar (by decide) rfl (by decide)
theorem sk_a_35 {μ : mm_M} (h : SK μ) : mm_ar μ 35 7 3 := h.ar (by decide) rfl (by decide)
theorem sk_o_36 {μ : mm_M} (h : SK μ) : mm_ob μ 36 5 := h.ob (by decide) rfl (by decide)
theorem sk_o_37 {μ : mm_M} (h : SK μ) : mm_ob μ 37 2 := h.ob (by decide) rfl (by decide)
theorem sk_a_38 {μ : mm_M} (h : SK μ) : mm_ar μ 38 0 8 := h.ar (by decide) rfl (by decide)
theorem sk_a_39 {μ : mm_M} (h : SK μ) : mm_ar μ 39 0 8 := h.ar (by decide) rfl (by decide)
theorem sk_a_40 {μ : mm_M} (h : SK μ) : mm_ar μ 40 0 8 := h.ar (by decide) rfl (by decide)
theorem sk_a_41 {μ : mm_M} (h : SK μ) : mm_ar μ 41 0 6 := h.ar (by decide) rfl (by decide)
theorem sk_a_42 {μ : mm_M} (h : SK μ) : mm_ar μ 42 0 6 := h.ar (by decide) rfl (by decide)
theorem sk_a_43 {μ : mm_M} (h : SK μ) : mm_ar μ 43 0 6 := h.ar (by decide) rfl (by decide)
theorem sk_o_44 {μ : mm_M} (h : SK μ) : mm_ob μ 44 8 := h.ob (by decide) rfl (by decide)
theorem sk_a_45 {μ : mm_M} (h : SK μ) : mm_ar μ 45 0 40 := h.ar (by decide) rfl (by decide)
theorem sk_a_46 {μ : mm_M} (h : SK μ) : mm_ar μ 46 0 40 := h.ar (by decide) rfl (by decide)
theorem sk_a_47 {μ : mm_M} (h : SK μ) : mm_ar μ 47 0 40 := h.ar (by decide) rfl (by decide)
theorem sk_o_48 {μ : mm_M} (h : SK μ) : mm_ob μ 48 4 := h.ob (by decide) rfl (by decide)
theorem sk_a_49 {μ : mm_M} (h : SK μ) : mm_ar μ 49 0 8 := h.ar (by decide) rfl (by decide)
theorem sk_a_50 {μ : mm_M} (h : SK μ) : mm_ar μ 50 0 8 := h.ar (by decide) rfl (by decide)
theorem sk_a_51 {μ : mm_M} (h : SK μ) : mm_ar μ 51 0 3 := h.ar (by decide) rfl (by decide)
theorem sk_a_52 {μ : mm_M} (h : SK μ) : mm_ar μ 52 0 3 := h.ar (by decide) rfl (by decide)
theorem sk_o_53 {μ : mm_M} (h : SK μ) : mm_ob μ 53 3 := h.ob (by decide) rfl (by decide)
theorem sk_a_54 {μ : mm_M} (h : SK μ) : mm_ar μ 54 0 6 := h.ar (by decide) rfl (by decide)
theorem sk_a_55 {μ : mm_M} (h : SK μ) : mm_ar μ 55 0 48 := h.ar (by decide) rfl (by decide)
theorem sk_a_56 {μ : mm_M} (h : SK μ) : mm_ar μ 56 0 6 := h.ar (by decide) rfl (by decide)
theorem sk_o_57 {μ : mm_M} (h : SK μ) : mm_ob μ 57 0 := h.ob (by decide) rfl (by decide)
theorem sk_a_58 {μ : mm_M} (h : SK μ) : mm_ar μ 58 0 8 := h.ar (by decide) rfl (by decide)
theorem sk_a_59 {μ : mm_M} (h : SK μ) : mm_ar μ 59 0 6 := h.ar (by decide) rfl (by decide)
theorem sk_a_60 {μ : mm_M} (h : SK μ) : mm_ar μ 60 0 6 := h.ar (by decide) rfl (by decide)
theorem sk_a_61 {μ : mm_M} (h : SK μ) : mm_ar μ 61 0 256 := h.ar (by decide) rfl (by decide)
theorem sk_a_62 {μ : mm_M} (h : SK μ) : mm_ar μ 62 0 1792 := h.ar (by decide) rfl (by decide)
theorem sk_o_63 {μ : mm_M} (h : SK μ) : mm_ob μ 63 1 := h.ob (by decide) rfl (by decide)
theorem sk_a_64 {μ : mm_M} (h : SK μ) : mm_ar μ 64 0 6 := h.ar (by decide) rfl (by decide)
theorem sk_a_65 {μ : mm_M} (h : SK μ) : mm_ar μ 65 0 6 := h.ar (by decide) rfl (by decide)
theorem sk_a_66 {μ : mm_M} (h : SK μ) : mm_ar μ 66 0 6 := h.ar (by decide) rfl (by decide)
theorem sk_o_67 {μ : mm_M} (h : SK μ) : mm_ob μ 67 6 := h.ob (by decide) rfl (by decide)
theorem sk_a_68 {μ : mm_M} (h : SK μ) : mm_ar μ 68 0 8 := h.ar (by decide) rfl (by decide)
theorem sk_a_69 {μ : mm_M} (h : SK μ) : mm_ar μ 69 0 8 := h.ar (by decide) rfl (by decide)
theorem sk_a_70 {μ : mm_M} (h : SK μ) : mm_ar μ 70 3 9 := h.ar (by decide) rfl (by decide)
theorem sk_o_71 {μ : mm_M} (h : SK μ) : mm_ob μ 71 10 := h.ob (by decide) rfl (by decide)
theorem sk_a_72 {μ : mm_M} (h : SK μ) : mm_ar μ 72 1 2400 := h.ar (by decide) rfl (by decide)
theorem sk_a_73 {μ : mm_M} (h : SK μ) : mm_ar μ 73 0 4 := h.ar (by decide) rfl (by decide)
theorem sk_a_74 {μ : mm_M} (h : SK μ) : mm_ar μ 74 0 4 := h.ar (by decide) rfl (by decide)
theorem sk_a_75 {μ : mm_M} (h : SK μ) : mm_ar μ 75 0 4 := h.ar (by decide) rfl (by decide)
theorem sk_a_76 {μ : mm_M} (h : SK μ) : mm_ar μ 76 0 12 := h.ar (by decide) rfl (by decide)
theorem sk_a_77 {μ : mm_M} (h : SK μ) : mm_ar μ 77 0 352 := h.ar (by decide) rfl (by decide)
theorem sk_a_78 {μ : mm_M} (h : SK μ) : mm_ar μ 78 0 968 := h.ar (by decide) rfl (by decide)
theorem sk_a_79 {μ : mm_M} (h : SK μ) : mm_ar μ 79 0 136 := h.ar (by decide) rfl (by decide)
theorem sk_a_80 {μ : mm_M} (h : SK μ) : mm_ar μ 80 0 121 := h.ar (by decide) rfl (by decide)
theorem sk_a_81 {μ : mm_M} (h : SK μ) : mm_ar μ 81 0 3 := h.ar (by decide) rfl (by decide)
theorem sk_a_82 {μ : mm_M} (h : SK μ) : mm_ar μ 82 0 6 := h.ar (by decide) rfl (by decide)
theorem sk_a_83 {μ : mm_M} (h : SK μ) : mm_ar μ 83 0 48 := h.ar (by decide) rfl (by decide)
theorem sk_a_84 {μ : mm_M} (h : SK μ) : mm_ar μ 84 0 6 := h.ar (by decide) rfl (by decide)
theorem sk_a_85 {μ : mm_M} (h : SK μ) : mm_ar μ 85 2 576 := h.ar (by decide) rfl (by decide)
theorem sk_a_86 {μ : mm_M} (h : SK μ) : mm_ar μ 86 0 6 := h.ar (by decide) rfl (by decide)
theorem sk_a_87 {μ : mm_M} (h : SK μ) : mm_ar μ 87 0 6859 := h.ar (by decide) rfl (by decide)
theorem sk_a_88 {μ : mm_M} (h : SK μ) : mm_ar μ 88 0 56 := h.ar (by decide) rfl (by decide)
theorem sk_a_89 {μ : mm_M} (h : SK μ) : mm_ar μ 89 0 64 := h.ar (by decide) rfl (by decide)
theorem sk_a_90 {μ : mm_M} (h : SK μ) : mm_ar μ 90 0 2304 := h.ar (by decide) rfl (by decide)
theorem sk_a_91 {μ : mm_M} (h : SK μ) : mm_ar μ 91 3 10 := h.ar (by decide) rfl (by decide)
theorem sk_a_92 {μ : mm_M} (h : SK μ) : mm_ar μ 92 2 64 := h.ar (by decide) rfl (by decide)
theorem sk_a_93 {μ : mm_M} (h : SK μ) : mm_ar μ 93 0 64 := h.ar (by decide) rfl (by decide)
theorem sk_a_94 {μ : mm_M} (h : SK μ) : mm_ar μ 94 2 3 := h.ar (by decide) rfl (by decide)
theorem sk_p_1_0 {μ : mm_M} (h : SK μ) : mm_P μ 1 0 = some 2 := h.p 0 rfl
theorem sk_p_1_1 {μ : mm_M} (h : SK μ) : mm_P μ 1 1 = some 3 := h.p 1 rfl
theorem sk_p_4_0 {μ : mm_M} (h : SK μ) : mm_P μ 4 0 = some 5 := h.p 2 rfl
theorem sk_p_4_1 {μ : mm_M} (h : SK μ) : mm_P μ 4 1 = some 6 := h.p 3 rfl
theorem sk_p_4_2 {μ : mm_M} (h : SK μ) : mm_P μ 4 2 = some 7 := h.p 4 rfl
theorem sk_p_4_3 {μ : mm_M} (h : SK μ) : mm_P μ 4 3 = some 8 := h.p 5 rfl
theorem sk_p_4_4 {μ : mm_M} (h : SK μ) : mm_P μ 4 4 = some 9 := h.p 6 rfl
theorem sk_p_4_5 {μ : mm_M} (h : SK μ) : mm_P μ 4 5 = some 10 := h.p 7 rfl
theorem sk_p_3_0 {μ : mm_M} (h : SK μ) : mm_P μ 3 0 = some 4 := h.p 8 rfl
theorem sk_p_11_0 {μ : mm_M} (h : SK μ) : mm_P μ 11 0 = some 12 := h.p 9 rfl
theorem sk_p_11_1 {μ : mm_M} (h : SK μ) : mm_P μ 11 1 = some 13 := h.p 10 rfl
theorem sk_p_11_2 {μ : mm_M} (h : SK μ) : mm_P μ 11 2 = some 14 := h.p 11 rfl
theorem sk_p_11_3 {μ : mm_M} (h : SK μ) : mm_P μ 11 3 = some 15 := h.p 12 rfl
theorem sk_p_11_4 {μ : mm_M} (h : SK μ) : mm_P μ 11 4 = some 16 := h.p 13 rfl
theorem sk_p_11_5 {μ : mm_M} (h : SK μ) : mm_P μ 11 5 = some 17 := h.p 14 rfl
theorem sk_p_3_1 {μ : mm_M} (h : SK μ) : mm_P μ 3 1 = some 11 := h.p 15 rfl
theorem sk_p_1_2 {μ : mm_M} (h : SK μ) : mm_P μ 1 2 = some 18 := h.p 16 rfl
theorem sk_p_19_0 {μ : mm_M} (h : SK μ) : mm_P μ 19 0 = some 20 := h.p 17 rfl
theorem sk_p_19_1 {μ : mm_M} (h : SK μ) : mm_P μ 19 1 = some 21 := h.p 18 rfl
theorem sk_p_19_2 {μ : mm_M} (h : SK μ) : mm_P μ 19 2 = some 22 := h.p 19 rfl
theorem sk_p_18_0 {μ : mm_M} (h : SK μ) : mm_P μ 18 0 = some 19 := h.p 20 rfl
theorem sk_p_23_0 {μ : mm_M} (h : SK μ) : mm_P μ 23 0 = some 24 := h.p 21 rfl
theorem sk_p_23_1 {μ : mm_M} (h : SK μ) : mm_P μ 23 1 = some 25 := h.p 22 rfl
theorem sk_p_23_2 {μ : mm_M} (h : SK μ) : mm_P μ 23 2 = some 26 := h.p 23 rfl
theorem sk_p_18_1 {μ : mm_M} (h : SK μ) : mm_P μ 18 1 = some 23 := h.p 24 rfl
theorem sk_p_1_3 {μ : mm_M} (h : SK μ) : mm_P μ 1 3 = some 27 := h.p 25 rfl
theorem sk_p_28_0 {μ : mm_M} (h : SK μ) : mm_P μ 28 0 = some 29 := h.p 26 rfl
theorem sk_p_28_1 {μ : mm_M} (h : SK μ) : mm_P μ 28 1 = some 30 := h.p 27 rfl
theorem sk_p_27_0 {μ : mm_M} (h : SK μ) : mm_P μ 27 0 = some 28 := h.p 28 rfl
theorem sk_p_31_0 {μ : mm_M} (h : SK μ) : mm_P μ 31 0 = some 32 := h.p 29 rfl
theorem sk_p_31_1 {μ : mm_M} (h : SK μ) : mm_P μ 31 1 = some 33 := h.p 30 rfl
theorem sk_p_27_1 {μ : mm_M} (h : SK μ) : mm_P μ 27 1 = some 31 := h.p 31 rfl
theorem sk_p_1_4 {μ : mm_M} (h : SK μ) : mm_P μ 1 4 = some 34 := h.p 32 rfl
theorem sk_p_0_0 {μ : mm_M} (h : SK μ) : mm_P μ 0 0 = some 1 := h.p 33 rfl
theorem sk_p_0_1 {μ : mm_M} (h : SK μ) : mm_P μ 0 1 = some 35 := h.p 34 rfl
theorem sk_p_37_0 {μ : mm_M} (h : SK μ) : mm_P μ 37 0 = some 38 := h.p 35 rfl
theorem sk_p_37_1 {μ : mm_M} (h : SK μ) : mm_P μ 37 1 = some 39 := h.p 36 rfl
theorem sk_p_37_2 {μ : mm_M} (h : SK μ) : mm_P μ 37 2 = some 40 := h.p 37 rfl
theorem sk_p_37_3 {μ : mm_M} (h : SK μ) : mm_P μ 37 3 = some 41 := h.p 38 rfl
theorem sk_p_37_4 {μ : mm_M} (h : SK μ) : mm_P μ 37 4 = some 42 := h.p 39 rfl
theorem sk_p_37_5 {μ : mm_M} (h : SK μ) : mm_P μ 37 5 = some 43 := h.p 40 rfl
theorem sk_p_36_0 {μ : mm_M} (h : SK μ) : mm_P μ 36 0 = some 37 := h.p 41 rfl
theorem sk_p_44_0 {μ : mm_M} (h : SK μ) : mm_P μ 44 0 = some 45 := h.p 42 rfl
theorem sk_p_44_1 {μ : mm_M} (h : SK μ) : mm_P μ 44 1 = some 46 := h.p 43 rfl
theorem sk_p_44_2 {μ : mm_M} (h : SK μ) : mm_P μ 44 2 = some 47 := h.p 44 rfl
theorem sk_p_36_1 {μ : mm_M} (h : SK μ) : mm_P μ 36 1 = some 44 := h.p 45 rfl
theorem sk_p_48_0 {μ : mm_M} (h : SK μ) : mm_P μ 48 0 = some 49 := h.p 46 rfl
theorem sk_p_48_1 {μ : mm_M} (h : SK μ) : mm_P μ 48 1 = some 50 := h.p 47 rfl
theorem sk_p_36_2 {μ : mm_M} (h : SK μ) : mm_P μ 36 2 = some 48 := h.p 48 rfl
theorem sk_p_36_5 {μ : mm_M} (h : SK μ) : mm_P μ 36 5 = some 51 := h.p 49 rfl
theorem sk_p_36_6 {μ : mm_M} (h : SK μ) : mm_P μ 36 6 = some 52 := h.p 50 rfl
theorem sk_p_0_2 {μ : mm_M} (h : SK μ) : mm_P μ 0 2 = some 36 := h.p 51 rfl
theorem sk_p_53_5 {μ : mm_M} (h : SK μ) : mm_P μ 53 5 = some 54 := h.p 52 rfl
theorem sk_p_53_6 {μ : mm_M} (h : SK μ) : mm_P μ 53 6 = some 55 := h.p 53 rfl
theorem sk_p_53_7 {μ : mm_M} (h : SK μ) : mm_P μ 53 7 = some 56 := h.p 54 rfl
theorem sk_p_0_3 {μ : mm_M} (h : SK μ) : mm_P μ 0 3 = some 53 := h.p 55 rfl
theorem sk_p_57_0 {μ : mm_M} (h : SK μ) : mm_P μ 57 0 = some 58 := h.p 56 rfl
theorem sk_p_57_1 {μ : mm_M} (h : SK μ) : mm_P μ 57 1 = some 59 := h.p 57 rfl
theorem sk_p_57_2 {μ : mm_M} (h : SK μ) : mm_P μ 57 2 = some 60 := h.p 58 rfl
theorem sk_p_57_3 {μ : mm_M} (h : SK μ) : mm_P μ 57 3 = some 61 := h.p 59 rfl
theorem sk_p_57_4 {μ : mm_M} (h : SK μ) : mm_P μ 57 4 = some 62 := h.p 60 rfl
theorem sk_p_0_4 {μ : mm_M} (h : SK μ) : mm_P μ 0 4 = some 57 := h.p 61 rfl
theorem sk_p_63_0 {μ : mm_M} (h : SK μ) : mm_P μ 63 0 = some 64 := h.p 62 rfl
theorem sk_p_63_1 {μ : mm_M} (h : SK μ) : mm_P μ 63 1 = some 65 := h.p 63 rfl
theorem sk_p_63_2 {μ : mm_M} (h : SK μ) : mm_P μ 63 2 = some 66 := h.p 64 rfl
theorem sk_p_0_5 {μ : mm_M} (h : SK μ) : mm_P μ 0 5 = some 63 := h.p 65 rfl
theorem sk_p_67_0 {μ : mm_M} (h : SK μ) : mm_P μ 67 0 = some 68 := h.p 66 rfl
theorem sk_p_67_1 {μ : mm_M} (h : SK μ) : mm_P μ 67 1 = some 69 := h.p 67 rfl
theorem sk_p_67_2 {μ : mm_M} (h : SK μ) : mm_P μ 67 2 = some 70 := h.p 68 rfl
theorem sk_p_0_6 {μ : mm_M} (h : SK μ) : mm_P μ 0 6 = some 67 := h.p 69 rfl
theorem sk_p_71_1 {μ : mm_M} (h : SK μ) : mm_P μ 71 1 = some 72 := h.p 70 rfl
theorem sk_p_71_2 {μ : mm_M} (h : SK μ) : mm_P μ 71 2 = some 73 := h.p 71 rfl
theorem sk_p_71_3 {μ : mm_M} (h : SK μ) : mm_P μ 71 3 = some 74 := h.p 72 rfl
theorem sk_p_71_4 {μ : mm_M} (h : SK μ) : mm_P μ 71 4 = some 75 := h.p 73 rfl
theorem sk_p_71_5 {μ : mm_M} (h : SK μ) : mm_P μ 71 5 = some 76 := h.p 74 rfl
theorem sk_p_71_6 {μ : mm_M} (h : SK μ) : mm_P μ 71 6 = some 77 := h.p 75 rfl
theorem sk_p_71_7 {μ : mm_M} (h : SK μ) : mm_P μ 71 7 = some 78 := h.p 76 rfl
theorem sk_p_71_8 {μ : mm_M} (h : SK μ) : mm_P μ 71 8 = some 79 := h.p 77 rfl
theorem sk_p_71_18 {μ : mm_M} (h : SK μ) : mm_P μ 71 18 = some 80 := h.p 78 rfl
theorem sk_p_71_19 {μ : mm_M} (h : SK μ) : mm_P μ 71 19 = some 81 := h.p 79 rfl
theorem sk_p_71_30 {μ : mm_M} (h : SK μ) : mm_P μ 71 30 = some 82 := h.p 80 rfl
theorem sk_p_71_31 {μ : mm_M} (h : SK μ) : mm_P μ 71 31 = some 83 := h.p 81 rfl
theorem sk_p_71_32 {μ : mm_M} (h : SK μ) : mm_P μ 71 32 = some 84 := h.p 82 rfl
theorem sk_p_71_34 {μ : mm_M} (h : SK μ) : mm_P μ 71 34 = some 85 := h.p 83 rfl
theorem sk_p_71_38 {μ : mm_M} (h : SK μ) : mm_P μ 71 38 = some 86 := h.p 84 rfl
theorem sk_p_71_39 {μ : mm_M} (h : SK μ) : mm_P μ 71 39 = some 87 := h.p 85 rfl
theorem sk_p_71_42 {μ : mm_M} (h : SK μ) : mm_P μ 71 42 = some 88 := h.p 86 rfl
theorem sk_p_71_45 {μ : mm_M} (h : SK μ) : mm_P μ 71 45 = some 89 := h.p 87 rfl
theorem sk_p_71_46 {μ : mm_M} (h : SK μ) : mm_P μ 71 46 = some 90 := h.p 88 rfl
theorem sk_p_71_47 {μ : mm_M} (h : SK μ) : mm_P μ 71 47 = some 91 := h.p 89 rfl
theorem sk_p_71_48 {μ : mm_M} (h : SK μ) : mm_P μ 71 48 = some 92 := h.p 90 rfl
theorem sk_p_71_49 {μ : mm_M} (h : SK μ) : mm_P μ 71 49 = some 93 := h.p 91 rfl
theorem sk_p_71_50 {μ : mm_M} (h : SK μ) : mm_P μ 71 50 = some 94 := h.p 92 rfl
theorem sk_c_4 {μ : mm_M} (h : SK μ) : CoS μ 4 := ⟨sk_o_4 h, ⟨sk_p_4_0 h, sk_a_5 h⟩, ⟨sk_p_4_1 h, sk_a_6 h⟩, ⟨sk_p_4_2 h, sk_a_7 h⟩, ⟨sk_p_4_3 h, sk_a_8 h⟩, ⟨sk_p_4_4 h, sk_a_9 h⟩, ⟨sk_p_4_5 h, sk_a_10 h⟩⟩
theorem sk_c_11 {μ : mm_M} (h : SK μ) : CoS μ 11 := ⟨sk_o_11 h, ⟨sk_p_11_0 h, sk_a_12 h⟩, ⟨sk_p_11_1 h, sk_a_13 h⟩, ⟨sk_p_11_2 h, sk_a_14 h⟩, ⟨sk_p_11_3 h, sk_a_15 h⟩, ⟨sk_p_11_4 h, sk_a_16 h⟩, ⟨sk_p_11_5 h, sk_a_17 h⟩⟩
theorem sk_c_37 {μ : mm_M} (h : SK μ) : CoS μ 37 := ⟨sk_o_37 h, ⟨sk_p_37_0 h, sk_a_38 h⟩, ⟨sk_p_37_1 h, sk_a_39 h⟩, ⟨sk_p_37_2 h, sk_a_40 h⟩, ⟨sk_p_37_3 h, sk_a_41 h⟩, ⟨sk_p_37_4 h, sk_a_42 h⟩, ⟨sk_p_37_5 h, sk_a_43 h⟩⟩
theorem sk_y_19 {μ : mm_M} (h : SK μ) : YeS μ 19 := ⟨sk_o_19 h, ⟨sk_p_19_0 h, sk_a_20 h⟩, ⟨sk_p_19_1 h, sk_a_21 h⟩, ⟨sk_p_19_2 h, sk_a_22 h⟩⟩
theorem sk_y_23 {μ : mm_M} (h : SK μ) : YeS μ 23 := ⟨sk_o_23 h, ⟨sk_p_23_0 h, sk_a_24 h⟩, ⟨sk_p_23_1 h, sk_a_25 h⟩, ⟨sk_p_23_2 h, sk_a_26 h⟩⟩
theorem sk_y_44 {μ : mm_M} (h : SK μ) : YeS μ 44 := ⟨sk_o_44 h, ⟨sk_p_44_0 h, sk_a_45 h⟩, ⟨sk_p_44_1 h, sk_a_46 h⟩, ⟨sk_p_44_2 h, sk_a_47 h⟩⟩
theorem sk_l_28 {μ : mm_M} (h : SK μ) : LoS μ 28 := ⟨sk_o_28 h, ⟨sk_p_28_0 h, sk_a_29 h⟩, ⟨sk_p_28_1 h, sk_a_30 h⟩⟩
theorem sk_l_31 {μ : mm_M} (h : SK μ) : LoS μ 31 := ⟨sk_o_31 h, ⟨sk_p_31_0 h, sk_a_32 h⟩, ⟨sk_p_31_1 h, sk_a_33 h⟩⟩
theorem sk_l_48 {μ : mm_M} (h : SK μ) : LoS μ 48 := ⟨sk_o_48 h, ⟨sk_p_48_0 h, sk_a_49 h⟩, ⟨sk_p_48_1 h, sk_a_50 h⟩⟩
theorem sk_t {μ : mm_M} (h : SK μ) : ToS μ 1 := ⟨sk_o_1 h, ⟨sk_p_1_0 h, sk_a_2 h⟩, ⟨sk_p_1_1 h, sk_a_3 h, sk_p_3_0 h, sk_p_3_1 h, sk_c_4 h, sk_c_11 h⟩, ⟨sk_p_1_2 h, sk_a_18 h, sk_p_18_0 h, sk_p_18_1 h, sk_y_19 h, sk_y_23 h⟩, ⟨sk_p_1_3 h, sk_a_27 h, sk_p_27_0 h, sk_p_27_1 h, sk_l_28 h, sk_l_31 h⟩, ⟨sk_p_1_4 h, sk_a_34 h⟩⟩
theorem SK.sP {μ : mm_M} {b j : Nat} {x : Option Nat} (h : SK μ) (hb : ∀ e ∈ sk_P, ¬ (e.1 = b ∧ e.2.1 = j)) : SK (mm_sP μ b j x) := by
  refine ⟨h.1, h.2.1, fun e he => ?_⟩
  have hne := hb e he
  by_cases h1 : e.1 = b
  · have h2 : e.2.1 ≠ j := fun q => hne ⟨h1, q⟩
    rw [h1, mm_sP_at]
    have := h.2.2 e he
    rw [h1] at this
    rw [← this]
    exact if_neg h2
  · rw [mm_sP_off h1]
    exact h.2.2 e he
