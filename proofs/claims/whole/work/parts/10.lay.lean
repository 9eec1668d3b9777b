def kdL : List Nat := [11, 10, 51, 4, 50, 50, 50, 50, 50, 50, 4, 50, 50, 50, 50, 50, 50, 6, 50, 53, 4, 50, 50, 50, 50, 50, 50, 4, 50, 50, 50, 50, 50, 50, 9, 0, 52, 52, 52, 52, 52, 3, 50, 5, 52, 52, 2, 50, 50, 50, 50, 50, 50, 50, 50, 50, 7, 52, 52, 50, 52, 1, 54, 52, 12, 52, 52, 50, 50, 51, 50, 50, 52, 52, 52, 50, 52, 52, 52, 50, 50, 50, 50, 50, 52]
def lnL : List Nat := [0, 0, 120, 0, 16, 16, 16, 16, 16, 16, 0, 16, 16, 16, 16, 16, 16, 0, 16, 2, 0, 16, 16, 16, 16, 16, 16, 0, 16, 16, 16, 16, 16, 16, 0, 0, 1024, 256, 256, 16, 16, 0, 16, 0, 16, 16, 0, 136, 136, 136, 256, 16, 16, 16, 16, 16, 0, 17, 17, 16, 0, 0, 8, 16, 0, 1074, 8592, 2, 32, 120, 16, 16, 256, 256, 256, 16, 16, 16, 65536, 16, 256, 256, 16, 16, 16]
def refs0 : List (Nat × Nat × Nat) := [(1, 0, 2), (0, 0, 1), (3, 1, 4), (3, 2, 5), (3, 3, 6), (3, 4, 7), (3, 5, 8), (3, 6, 9), (0, 2, 3), (10, 1, 11), (10, 2, 12), (10, 3, 13), (10, 4, 14), (10, 5, 15), (10, 6, 16), (0, 3, 10), (17, 2, 18), (17, 0, 1), (17, 1, 10), (0, 1, 17), (0, 4, 19), (20, 1, 21), (20, 2, 22), (20, 3, 23), (20, 4, 24), (20, 5, 25), (20, 6, 26), (19, 0, 20), (27, 1, 28), (27, 2, 29), (27, 3, 30), (27, 4, 31), (27, 5, 32), (27, 6, 33), (19, 1, 27), (0, 12, 34), (35, 0, 36), (35, 1, 37), (35, 2, 38), (35, 3, 39), (35, 4, 3), (35, 5, 34), (0, 5, 35), (0, 6, 40), (41, 0, 42), (41, 1, 3), (41, 2, 20), (0, 7, 41), (43, 1, 44), (43, 2, 45), (43, 0, 3), (0, 8, 43), (46, 0, 47), (46, 1, 48), (46, 3, 49), (46, 4, 50), (46, 5, 51), (46, 6, 52), (46, 7, 53), (46, 8, 54), (46, 9, 55), (46, 2, 3), (0, 9, 46), (56, 1, 57), (56, 2, 58), (56, 3, 59), (56, 0, 3), (0, 10, 56), (61, 0, 62), (0, 11, 61), (0, 13, 63), (64, 0, 65), (64, 1, 66), (64, 3, 67), (64, 4, 68), (64, 6, 69), (64, 13, 70), (64, 14, 71), (64, 16, 72), (64, 17, 73), (64, 18, 74), (64, 19, 75), (64, 20, 76), (64, 21, 77), (64, 22, 78), (64, 23, 79), (64, 26, 80), (64, 27, 81), (64, 28, 82), (64, 29, 83), (64, 32, 84)]
/-- the cells that both objects are made of -/
def Lay (G : amG) : Prop := 85 ≤ gN G ∧ (∀ p, p < 85 → gK G p = kdL.getD p 0) ∧ (∀ p, p < 85 → gL G p = lnL.getD p 0) ∧ ∀ q ∈ refs0, gR G q.1 q.2.1 = some q.2.2
theorem ln_0 {G : amG} (h : Lay G) : 0 < gN G := Nat.lt_of_lt_of_le (by decide) h.1
theorem lk_0 {G : amG} (h : Lay G) : gK G 0 = 11 := h.2.1 0 (by decide)
theorem ln_1 {G : amG} (h : Lay G) : 1 < gN G := Nat.lt_of_lt_of_le (by decide) h.1
theorem lk_1 {G : amG} (h : Lay G) : gK G 1 = 10 := h.2.1 1 (by decide)
theorem ln_2 {G : amG} (h : Lay G) : 2 < gN G := Nat.lt_of_lt_of_le (by decide) h.1
theorem lk_2 {G : amG} (h : Lay G) : gK G 2 = 51 := h.2.1 2 (by decide)
theorem ll_2 {G : amG} (h : Lay G) : gL G 2 = 120 := h.2.2.1 2 (by decide)
theorem ln_3 {G : amG} (h : Lay G) : 3 < gN G := Nat.lt_of_lt_of_le (by decide) h.1
theorem lk_3 {G : amG} (h : Lay G) : gK G 3 = 4 := h.2.1 3 (by decide)
theorem ln_4 {G : amG} (h : Lay G) : 4 < gN G := Nat.lt_of_lt_of_le (by decide) h.1
theorem lk_4 {G : amG} (h : Lay G) : gK G 4 = 50 := h.2.1 4 (by decide)
theorem ll_4 {G : amG} (h : Lay G) : gL G 4 = 16 := h.2.2.1 4 (by decide)
theorem ln_5 {G : amG} (h : Lay G) : 5 < gN G := Nat.lt_of_lt_of_le (by decide) h.1
theorem lk_5 {G : amG} (h : Lay G) : gK G 5 = 50 := h.2.1 5 (by decide)
theorem ll_5 {G : amG} (h : Lay G) : gL G 5 = 16 := h.2.2.1 5 (by decide)
theorem ln_6 {G : amG} (h : Lay G) : 6 < gN G := Nat.lt_of_lt_of_le (by decide) h.1
theorem lk_6 {G : amG} (h : Lay G) : gK G 6 = 50 := h.2.1 6 (by decide)
theorem ll_6 {G : amG} (h : Lay G) : gL G 6 = 16 := h.2.2.1 6 (by decide)
theorem ln_7 {G : amG} (h : Lay G) : 7 < gN G := Nat.lt_of_lt_of_le (by decide) h.1
theorem lk_7 {G : amG} (h : Lay G) : gK G 7 = 50 := h.2.1 7 (by decide)
theorem ll_7 {G : amG} (h : Lay G) : gL G 7 = 16 := h.2.2.1 7 (by decide)
theorem ln_8 {G : amG} (h : Lay G) : 8 < gN G := Nat.lt_of_lt_of_le (by decide) h.1
theorem lk_8 {G : amG} (h : Lay G) : gK G 8 = 50 := h.2.1 8 (by decide)
theorem ll_8 {G : amG} (h : Lay G) : gL G 8 = 16 := h.2.2.1 8 (by decide)
theorem ln_9 {G : amG} (h : Lay G) : 9 < gN G := Nat.lt_of_lt_of_le (by decide) h.1
theorem lk_9 {G : amG} (h : Lay G) : gK G 9 = 50 := h.2.1 9 (by decide)
theorem ll_9 {G : amG} (h : Lay G) : gL G 9 = 16 := h.2.2.1 9 (by decide)
theorem ln_10 {G : amG} (h : Lay G) : 10 < gN G := Nat.lt_of_lt_of_le (by decide) h.1
theorem lk_10 {G : amG} (h : Lay G) : gK G 10 = 4 := h.2.1 10 (by decide)
theorem ln_11 {G : amG} (h : Lay G) : 11 < gN G := Nat.lt_of_lt_of_le (by decide) h.1
theorem lk_11 {G : amG} (h : Lay G) : gK G 11 = 50 := h.2.1 11 (by decide)
theorem ll_11 {G : amG} (h : Lay G) : gL G 11 = 16 := h.2.2.1 11 (by decide)
theorem ln_12 {G : amG} (h : Lay G) : 12 < gN G := Nat.lt_of_lt_of_le (by decide) h.1
theorem lk_12 {G : amG} (h : Lay G) : gK G 12 = 50 := h.2.1 12 (by decide)
theorem ll_12 {G : amG} (h : Lay G) : gL G 12 = 16 := h.2.2.1 12 (by decide)
theorem ln_13 {G : amG} (h : Lay G) : 13 < gN G := Nat.lt_of_lt_of_le (by decide) h.1
theorem lk_13 {G : amG} (h : Lay G) : gK G 13 = 50 := h.2.1 13 (by decide)
theorem ll_13 {G : amG} (h : Lay G) : gL G 13 = 16 := h.2.2.1 13 (by decide)
theorem ln_14 {G : amG} (h : Lay G) : 14 < gN G := Nat.lt_of_lt_of_le (by decide) h.1
theorem lk_14 {G : amG} (h : Lay G) : gK G 14 = 50 := h.2.1 14 (by decide)
theorem ll_14 {G : amG} (h : Lay G) : gL G 14 = 16 := h.2.2.1 14 (by decide)
theorem ln_15 {G : amG} (h : Lay G) : 15 < gN G := Nat.lt_of_lt_of_le (by decide) h.1
theorem lk_15 {G : amG} (h : Lay G) : gK G 15 = 50 := h.2.1 15 (by decide)
theorem ll_15 {G : amG} (h : Lay G) : gL G 15 = 16 := h.2.2.1 15 (by decide)
theorem ln_16 {G : amG} (h : Lay G) : 16 < gN G := Nat.lt_of_lt_of_le (by decide) h.1
theorem lk_16 {G : amG} (h : Lay G) : gK G 16 = 50 := h.2.1 16 (by decide)
theorem ll_16 {G : amG} (h : Lay G) : gL G 16 = 16 := h.2.2.1 16 (by decide)
theorem ln_17 {G : amG} (h : Lay G) : 17 < gN G := Nat.lt_of_lt_of_le (by decide) h.1
theorem lk_17 {G : amG} (h : Lay G) : gK G 17 = 6 := h.2.1 17 (by decide)
theorem ln_18 {G : amG} (h : Lay G) : 18 < gN G := Nat.lt_of_lt_of_le (by decide) h.1
theorem lk_18 {G : amG} (h : Lay G) : gK G 18 = 50 := h.2.1 18 (by decide)
theorem ll_18 {G : amG} (h : Lay G) : gL G 18 = 16 := h.2.2.1 18 (by decide)
theorem ln_19 {G : amG} (h : Lay G) : 19 < gN G := Nat.lt_of_lt_of_le (by decide) h.1
theorem lk_19 {G : amG} (h : Lay G) : gK G 19 = 53 := h.2.1 19 (by decide)
theorem ll_19 {G : amG} (h : Lay G) : gL G 19 = 2 := h.2.2.1 19 (by decide)
theorem ln_20 {G : amG} (h : Lay G) : 20 < gN G := Nat.lt_of_lt_of_le (by decide) h.1
theorem lk_20 {G : amG} (h : Lay G) : gK G 20 = 4 := h.2.1 20 (by decide)
theorem ln_21 {G : amG} (h : Lay G) : 21 < gN G := Nat.lt_of_lt_of_le (by decide) h.1
theorem lk_21 {G : amG} (h : Lay G) : gK G 21 = 50 := h.2.1 21 (by decide)
theorem ll_21 {G : amG} (h : Lay G) : gL G 21 = 16 := h.2.2.1 21 (by decide)
theorem ln_22 {G : amG} (h : Lay G) : 22 < gN G := Nat.lt_of_lt_of_le (by decide) h.1
theorem lk_22 {G : amG} (h : Lay G) : gK G 22 = 50 := h.2.1 22 (by decide)
theorem ll_22 {G : amG} (h : Lay G) : gL G 22 = 16 := h.2.2.1 22 (by decide)
theorem ln_23 {G : amG} (h : Lay G) : 23 < gN G := Nat.lt_of_lt_of_le (by decide) h.1
theorem lk_23 {G : amG} (h : Lay G) : gK G 23 = 50 := h.2.1 23 (by decide)
theorem ll_23 {G : amG} (h : Lay G) : gL G 23 = 16 := h.2.2.1 23 (by decide)
theorem ln_24 {G : amG} (h : Lay G) : 24 < gN G := Nat.lt_of_lt_of_le (by decide) h.1
theorem lk_24 {G : amG} (h : Lay G) : gK G 24 = 50 := h.2.1 24 (by decide)
theorem ll_24 {G : amG} (h : Lay G) : gL G 24 = 16 := h.2.2.1 24 (by decide)
theorem ln_25 {G : amG} (h : Lay G) : 25 < gN G := Nat.lt_of_lt_of_le (by decide) h.1
theorem lk_25 {G : amG} (h : Lay G) : gK G 25 = 50 := h.2.1 25 (by decide)
theorem ll_25 {G : amG} (h : Lay G) : gL G 25 = 16 := h.2.2.1 25 (by decide)
theorem ln_26 {G : amG} (h : Lay G) : 26 < gN G := Nat.lt_of_lt_of_le (by decide) h.1
theorem lk_26 {G : amG} (h : Lay G) : gK G 26 = 50 := h.2.1 26 (by decide)
theorem ll_26 {G : amG} (h : Lay G) : gL G 26 = 16 := h.2.2.1 26 (by decide)
theorem ln_27 {G : amG} (h : Lay G) : 27 < gN G := Nat.lt_of_lt_of_le (by decide) h.1
theorem lk_27 {G : amG} (h : Lay G) : gK G 27 = 4 := h.2.1 27 (by decide)
theorem ln_28 {G : amG} (h : Lay G) : 28 < gN G := Nat.lt_of_lt_of_le (by decide) h.1
theorem lk_28 {G : amG} (h : Lay G) : gK G 28 = 50 := h.2.1 28 (by decide)
theorem ll_28 {G : amG} (h : Lay G) : gL G 28 = 16 := h.2.2.1 28 (by decide)
theorem ln_29 {G : amG} (h : Lay G) : 29 < gN G := Nat.lt_of_lt_of_le (by decide) h.1
theorem lk_29 {G : amG} (h : Lay G) : gK G 29 = 50 := h.2.1 29 (by decide)
theorem ll_29 {G : amG} (h : Lay G) : gL G 29 = 16 := h.2.2.1 29 (by decide)
theorem ln_30 {G : amG} (h : Lay G) : 30 < gN G := Nat.lt_of_lt_of_le (by decide) h.1
theorem lk_30 {G : amG} (h : Lay G) : gK G 30 = 50 := h.2.1 30 (by decide)
theorem ll_30 {G : amG} (h : Lay G) : gL G 30 = 16 := h.2.2.1 30 (by decide)
theorem ln_31 {G : amG} (h : Lay G) : 31 < gN G := Nat.lt_of_lt_of_le (by decide) h.1
theorem lk_31 {G : amG} (h : Lay G) : gK G 31 = 50 := h.2.1 31 (by decide)
theorem ll_31 {G : amG} (h : Lay G) : gL G 31 = 16 := h.2.2.1 31 (by decide)
theorem ln_32 {G : amG} (h : Lay G) : 32 < gN G := Nat.lt_of_lt_of_le (by decide) h.1
theorem lk_32 {G : amG} (h : Lay G) : gK G 32 = 50 := h.2.1 32 (by decide)
theorem ll_32 {G : amG} (h : Lay G) : gL G 32 = 16 := h.2.2.1 32 (by decide)
theorem ln_33 {G : amG} (h : Lay G) : 33 < gN G := Nat.lt_of_lt_of_le (by decide) h.1
theorem lk_33 {G : amG} (h : Lay G) : gK G 33 = 50 := h.2.1 33 (by decide)
theorem ll_33 {G : amG} (h : Lay G) : gL G 33 = 16 := h.2.2.1 33 (by decide)
theorem ln_34 {G : amG} (h : Lay G) : 34 < gN G := Nat.lt_of_lt_of_le (by decide) h.1
theorem lk_34 {G : amG} (h : Lay G) : gK G 34 = 9 := h.2.1 34 (by decide)
theorem ln_35 {G : amG} (h : Lay G) : 35 < gN G := Nat.lt_of_lt_of_le (by decide) h.1
theorem lk_35 {G : amG} (h : Lay G) : gK G 35 = 0 := h.2.1 35 (by decide)
theorem ln_36 {G : amG} (h : Lay G) : 36 < gN G := Nat.lt_of_lt_of_le (by decide) h.1
theorem lk_36 {G : amG} (h : Lay G) : gK G 36 = 52 := h.2.1 36 (by decide)
theorem ll_36 {G : amG} (h : Lay G) : gL G 36 = 1024 := h.2.2.1 36 (by decide)
theorem ln_37 {G : amG} (h : Lay G) : 37 < gN G := Nat.lt_of_lt_of_le (by decide) h.1
theorem lk_37 {G : amG} (h : Lay G) : gK G 37 = 52 := h.2.1 37 (by decide)
theorem ll_37 {G : amG} (h : Lay G) : gL G 37 = 256 := h.2.2.1 37 (by decide)
theorem ln_38 {G : amG} (h : Lay G) : 38 < gN G := Nat.lt_of_lt_of_le (by decide) h.1
theorem lk_38 {G : amG} (h : Lay G) : gK G 38 = 52 := h.2.1 38 (by decide)
theorem ll_38 {G : amG} (h : Lay G) : gL G 38 = 256 := h.2.2.1 38 (by decide)
theorem ln_39 {G : amG} (h : Lay G) : 39 < gN G := Nat.lt_of_lt_of_le (by decide) h.1
theorem lk_39 {G : amG} (h : Lay G) : gK G 39 = 52 := h.2.1 39 (by decide)
theorem ll_39 {G : amG} (h : Lay G) : gL G 39 = 16 := h.2.2.1 39 (by decide)
theorem ln_40 {G : amG} (h : Lay G) : 40 < gN G := Nat.lt_of_lt_of_le (by decide) h.1
theorem lk_40 {G : amG} (h : Lay G) : gK G 40 = 52 := h.2.1 40 (by decide)
theorem ll_40 {G : amG} (h : Lay G) : gL G 40 = 16 := h.2.2.1 40 (by decide)
theorem ln_41 {G : amG} (h : Lay G) : 41 < gN G := Nat.lt_of_lt_of_le (by decide) h.1
theorem lk_41 {G : amG} (h : Lay G) : gK G 41 = 3 := h.2.1 41 (by decide)
theorem ln_42 {G : amG} (h : Lay G) : 42 < gN G := Nat.lt_of_lt_of_le (by decide) h.1
theorem lk_42 {G : amG} (h : Lay G) : gK G 42 = 50 := h.2.1 42 (by decide)
theorem ll_42 {G : amG} (h : Lay G) : gL G 42 = 16 := h.2.2.1 42 (by decide)
theorem ln_43 {G : amG} (h : Lay G) : 43 < gN G := Nat.lt_of_lt_of_le (by decide) h.1
theorem lk_43 {G : amG} (h : Lay G) : gK G 43 = 5 := h.2.1 43 (by decide)
theorem ln_44 {G : amG} (h : Lay G) : 44 < gN G := Nat.lt_of_lt_of_le (by decide) h.1
theorem lk_44 {G : amG} (h : Lay G) : gK G 44 = 52 := h.2.1 44 (by decide)
theorem ll_44 {G : amG} (h : Lay G) : gL G 44 = 16 := h.2.2.1 44 (by decide)
theorem ln_45 {G : amG} (h : Lay G) : 45 < gN G := Nat.lt_of_lt_of_le (by decide) h.1
theorem lk_45 {G : amG} (h : Lay G) : gK G 45 = 52 := h.2.1 45 (by decide)
theorem ll_45 {G : amG} (h : Lay G) : gL G 45 = 16 := h.2.2.1 45 (by decide)
theorem ln_46 {G : amG} (h : Lay G) : 46 < gN G := Nat.lt_of_lt_of_le (by decide) h.1
theorem lk_46 {G : amG} (h : Lay G) : gK G 46 = 2 := h.2.1 46 (by decide)
theorem ln_47 {G : amG} (h : Lay G) : 47 < gN G := Nat.lt_of_lt_of_le (by decide) h.1
theorem lk_47 {G : amG} (h : Lay G) : gK G 47 = 50 := h.2.1 47 (by decide)
theorem ll_47 {G : amG} (h : Lay G) : gL G 47 = 136 := h.2.2.1 47 (by decide)
theorem ln_48 {G : amG} (h : Lay G) : 48 < gN G := Nat.lt_of_lt_of_le (by decide) h.1
theorem lk_48 {G : amG} (h : Lay G) : gK G 48 = 50 := h.2.1 48 (by decide)
theorem ll_48 {G : amG} (h : Lay G) : gL G 48 = 136 := h.2.2.1 48 (by decide)
theorem ln_49 {G : amG} (h : Lay G) : 49 < gN G := Nat.lt_of_lt_of_le (by decide) h.1
theorem lk_49 {G : amG} (h : Lay G) : gK G 49 = 50 := h.2.1 49 (by decide)
theorem ll_49 {G : amG} (h : Lay G) : gL G 49 = 136 := h.2.2.1 49 (by decide)
theorem ln_50 {G : amG} (h : Lay G) : 50 < gN G := Nat.lt_of_lt_of_le (by decide) h.1
theorem lk_50 {G : amG} (h : Lay G) : gK G 50 = 50 := h.2.1 50 (by decide)
theorem ll_50 {G : amG} (h : Lay G) : gL G 50 = 256 := h.2.2.1 50 (by decide)
theorem ln_51 {G : amG} (h : Lay G) : 51 < gN G := Nat.lt_of_lt_of_le (by decide) h.1
theorem lk_51 {G : amG} (h : Lay G) : gK G 51 = 50 := h.2.1 51 (by decide)
theorem ll_51 {G : amG} (h : Lay G) : gL G 51 = 16 := h.2.2.1 51 (by decide)
theorem ln_52 {G : amG} (h : Lay G) : 52 < gN G := Nat.lt_of_lt_of_le (by decide) h.1
theorem lk_52 {G : amG} (h : Lay G) : gK G 52 = 50 := h.2.1 52 (by decide)
theorem ll_52 {G : amG} (h : Lay G) : gL G 52 = 16 := h.2.2.1 52 (by decide)
theorem ln_53 {G : amG} (h : Lay G) : 53 < gN G := Nat.lt_of_lt_of_le (by decide) h.1
theorem lk_53 {G : amG} (h : Lay G) : gK G 53 = 50 := h.2.1 53 (by decide)
theorem ll_53 {G : amG} (h : Lay G) : gL G 53 = 16 := h.2.2.1 53 (by decide)
theorem ln_54 {G : amG} (h : Lay G) : 54 < gN G := Nat.lt_of_lt_of_le (by decide) h.1
theorem lk_54 {G : amG} (h : Lay G) : gK G 54 = 50 := h.2.1 54 (by decide)
theorem ll_54 {G : amG} (h : Lay G) : gL G 54 = 16 := h.2.2.1 54 (by decide)
theorem ln_55 {G : amG} (h : Lay G) : 55 < gN G := Nat.lt_of_lt_of_le (by decide) h.1
theorem lk_55 {G : amG} (h : Lay G) : gK G 55 = 50 := h.2.1 55 (by decide)
theorem ll_55 {G : amG} (h : Lay G) : gL G 55 = 16 := h.2.2.1 55 (by decide)
theorem ln_56 {G : amG} (h : Lay G) : 56 < gN G := Nat.lt_of_lt_of_le (by decide) h.1
theorem lk_56 {G : amG} (h : Lay G) : gK G 56 = 7 := h.2.1 56 (by decide)
theorem ln_57 {G : amG} (h : Lay G) : 57 < gN G := Nat.lt_of_lt_of_le (by decide) h.1
theorem lk_57 {G : amG} (h : Lay G) : gK G 57 = 52 := h.2.1 57 (by decide)
theorem ll_57 {G : amG} (h : Lay G) : gL G 57 = 17 := h.2.2.1 57 (by decide)
theorem ln_58 {G : amG} (h : Lay G) : 58 < gN G := Nat.lt_of_lt_of_le (by decide) h.1
theorem lk_58 {G : amG} (h : Lay G) : gK G 58 = 52 := h.2.1 58 (by decide)
theorem ll_58 {G : amG} (h : Lay G) : gL G 58 = 17 := h.2.2.1 58 (by decide)
theorem ln_59 {G : amG} (h : Lay G) : 59 < gN G := Nat.lt_of_lt_of_le (by decide) h.1
theorem lk_59 {G : amG} (h : Lay G) : gK G 59 = 50 := h.2.1 59 (by decide)
theorem ll_59 {G : amG} (h : Lay G) : gL G 59 = 16 := h.2.2.1 59 (by decide)
theorem ln_60 {G : amG} (h : Lay G) : 60 < gN G := Nat.lt_of_lt_of_le (by decide) h.1
theorem lk_60 {G : amG} (h : Lay G) : gK G 60 = 52 := h.2.1 60 (by decide)
theorem ll_60 {G : amG} (h : Lay G) : gL G 60 = 0 := h.2.2.1 60 (by decide)
theorem ln_61 {G : amG} (h : Lay G) : 61 < gN G := Nat.lt_of_lt_of_le (by decide) h.1
theorem lk_61 {G : amG} (h : Lay G) : gK G 61 = 1 := h.2.1 61 (by decide)
theorem ln_62 {G : amG} (h : Lay G) : 62 < gN G := Nat.lt_of_lt_of_le (by decide) h.1
theorem lk_62 {G : amG} (h : Lay G) : gK G 62 = 54 := h.2.1 62 (by decide)
theorem ll_62 {G : amG} (h : Lay G) : gL G 62 = 8 := h.2.2.1 62 (by decide)
theorem ln_63 {G : amG} (h : Lay G) : 63 < gN G := Nat.lt_of_lt_of_le (by decide) h.1
theorem lk_63 {G : amG} (h : Lay G) : gK G 63 = 52 := h.2.1 63 (by decide)
theorem ll_63 {G : amG} (h : Lay G) : gL G 63 = 16 := h.2.2.1 63 (by decide)
theorem ln_64 {G : amG} (h : Lay G) : 64 < gN G := Nat.lt_of_lt_of_le (by decide) h.1
theorem lk_64 {G : amG} (h : Lay G) : gK G 64 = 12 := h.2.1 64 (by decide)
theorem ln_65 {G : amG} (h : Lay G) : 65 < gN G := Nat.lt_of_lt_of_le (by decide) h.1
theorem lk_65 {G : amG} (h : Lay G) : gK G 65 = 52 := h.2.1 65 (by decide)
theorem ll_65 {G : amG} (h : Lay G) : gL G 65 = 1074 := h.2.2.1 65 (by decide)
theorem ln_66 {G : amG} (h : Lay G) : 66 < gN G := Nat.lt_of_lt_of_le (by decide) h.1
theorem lk_66 {G : amG} (h : Lay G) : gK G 66 = 52 := h.2.1 66 (by decide)
theorem ll_66 {G : amG} (h : Lay G) : gL G 66 = 8592 := h.2.2.1 66 (by decide)
theorem ln_67 {G : amG} (h : Lay G) : 67 < gN G := Nat.lt_of_lt_of_le (by decide) h.1
theorem lk_67 {G : amG} (h : Lay G) : gK G 67 = 50 := h.2.1 67 (by decide)
theorem ll_67 {G : amG} (h : Lay G) : gL G 67 = 2 := h.2.2.1 67 (by decide)
theorem ln_68 {G : amG} (h : Lay G) : 68 < gN G := Nat.lt_of_lt_of_le (by decide) h.1
theorem lk_68 {G : amG} (h : Lay G) : gK G 68 = 50 := h.2.1 68 (by decide)
theorem ll_68 {G : amG} (h : Lay G) : gL G 68 = 32 := h.2.2.1 68 (by decide)
theorem ln_69 {G : amG} (h : Lay G) : 69 < gN G := Nat.lt_of_lt_of_le (by decide) h.1
theorem lk_69 {G : amG} (h : Lay G) : gK G 69 = 51 := h.2.1 69 (by decide)
theorem ll_69 {G : amG} (h : Lay G) : gL G 69 = 120 := h.2.2.1 69 (by decide)
theorem ln_70 {G : amG} (h : Lay G) : 70 < gN G := Nat.lt_of_lt_of_le (by decide) h.1
theorem lk_70 {G : amG} (h : Lay G) : gK G 70 = 50 := h.2.1 70 (by decide)
theorem ll_70 {G : amG} (h : Lay G) : gL G 70 = 16 := h.2.2.1 70 (by decide)
theorem ln_71 {G : amG} (h : Lay G) : 71 < gN G := Nat.lt_of_lt_of_le (by decide) h.1
theorem lk_71 {G : amG} (h : Lay G) : gK G 71 = 50 := h.2.1 71 (by decide)
theorem ll_71 {G : amG} (h : Lay G) : gL G 71 = 16 := h.2.2.1 71 (by decide)
theorem ln_72 {G : amG} (h : Lay G) : 72 < gN G := Nat.lt_of_lt_of_le (by decide) h.1
theorem lk_72 {G : amG} (h : Lay G) : gK G 72 = 52 := h.2.1 72 (by decide)
theorem ll_72 {G : amG} (h : Lay G) : gL G 72 = 256 := h.2.2.1 72 (by decide)
theorem ln_73 {G : amG} (h : Lay G) : 73 < gN G := Nat.lt_of_lt_of_le (by decide) h.1
theorem lk_73 {G : amG} (h : Lay G) : gK G 73 = 52 := h.2.1 73 (by decide)
theorem ll_73 {G : amG} (h : Lay G) : gL G 73 = 256 := h.2.2.1 73 (by decide)
theorem ln_74 {G : amG} (h : Lay G) : 74 < gN G := Nat.lt_of_lt_of_le (by decide) h.1
theorem lk_74 {G : amG} (h : Lay G) : gK G 74 = 52 := h.2.1 74 (by decide)
theorem ll_74 {G : amG} (h : Lay G) : gL G 74 = 256 := h.2.2.1 74 (by decide)
theorem ln_75 {G : amG} (h : Lay G) : 75 < gN G := Nat.lt_of_lt_of_le (by decide) h.1
theorem lk_75 {G : amG} (h : Lay G) : gK G 75 = 50 := h.2.1 75 (by decide)
theorem ll_75 {G : amG} (h : Lay G) : gL G 75 = 16 := h.2.2.1 75 (by decide)
theorem ln_76 {G : amG} (h : Lay G) : 76 < gN G := Nat.lt_of_lt_of_le (by decide) h.1
theorem lk_76 {G : amG} (h : Lay G) : gK G 76 = 52 := h.2.1 76 (by decide)
theorem ll_76 {G : amG} (h : Lay G) : gL G 76 = 16 := h.2.2.1 76 (by decide)
theorem ln_77 {G : amG} (h : Lay G) : 77 < gN G := Nat.lt_of_lt_of_le (by decide) h.1
theorem lk_77 {G : amG} (h : Lay G) : gK G 77 = 52 := h.2.1 77 (by decide)
theorem ll_77 {G : amG} (h : Lay G) : gL G 77 = 16 := h.2.2.1 77 (by decide)
theorem ln_78 {G : amG} (h : Lay G) : 78 < gN G := Nat.lt_of_lt_of_le (by decide) h.1
theorem lk_78 {G : amG} (h : Lay G) : gK G 78 = 52 := h.2.1 78 (by decide)
theorem ll_78 {G : amG} (h : Lay G) : gL G 78 = 65536 := h.2.2.1 78 (by decide)
theorem ln_79 {G : amG} (h : Lay G) : 79 < gN G := Nat.lt_of_lt_of_le (by decide) h.1
theorem lk_79 {G : amG} (h : Lay G) : gK G 79 = 50 := h.2.1 79 (by decide)
theorem ll_79 {G : amG} (h : Lay G) : gL G 79 = 16 := h.2.2.1 79 (by decide)
theorem ln_80 {G : amG} (h : Lay G) : 80 < gN G := Nat.lt_of_lt_of_le (by decide) h.1
theorem lk_80 {G : amG} (h : Lay G) : gK G 80 = 50 := h.2.1 80 (by decide)
theorem ll_80 {G : amG} (h : Lay G) : gL G 80 = 256 := h.2.2.1 80 (by decide)
theorem ln_81 {G : amG} (h : Lay G) : 81 < gN G := Nat.lt_of_lt_of_le (by decide) h.1
theorem lk_81 {G : amG} (h : Lay G) : gK G 81 = 50 := h.2.1 81 (by decide)
theorem ll_81 {G : amG} (h : Lay G) : gL G 81 = 256 := h.2.2.1 81 (by decide)
theorem ln_82 {G : amG} (h : Lay G) : 82 < gN G := Nat.lt_of_lt_of_le (by decide) h.1
theorem lk_82 {G : amG} (h : Lay G) : gK G 82 = 50 := h.2.1 82 (by decide)
theorem ll_82 {G : amG} (h : Lay G) : gL G 82 = 16 := h.2.2.1 82 (by decide)
theorem ln_83 {G : amG} (h : Lay G) : 83 < gN G := Nat.lt_of_lt_of_le (by decide) h.1
theorem lk_83 {G : amG} (h : Lay G) : gK G 83 = 50 := h.2.1 83 (by decide)
theorem ll_83 {G : amG} (h : Lay G) : gL G 83 = 16 := h.2.2.1 83 (by decide)
theorem ln_84 {G : amG} (h : Lay G) : 84 < gN G := Nat.lt_of_lt_of_le (by decide) h.1
theorem lk_84 {G : amG} (h : Lay G) : gK G 84 = 52 := h.2.1 84 (by decide)
theorem ll_84 {G : amG} (h : Lay G) : gL G 84 = 16 := h.2.2.1 84 (by decide)
theorem lr_1_0 {G : amG} (h : Lay G) : gR G 1 0 = some 2 := h.2.2.2 (1, 0, 2) (by decide)
theorem lr_0_0 {G : amG} (h : Lay G) : gR G 0 0 = some 1 := h.2.2.2 (0, 0, 1) (by decide)
theorem lr_3_1 {G : amG} (h : Lay G) : gR G 3 1 = some 4 := h.2.2.2 (3, 1, 4) (by decide)
theorem lr_3_2 {G : amG} (h : Lay G) : gR G 3 2 = some 5 := h.2.2.2 (3, 2, 5) (by decide)
theorem lr_3_3 {G : amG} (h : Lay G) : gR G 3 3 = some 6 := h.2.2.2 (3, 3, 6) (by decide)
theorem lr_3_4 {G : amG} (h : Lay G) : gR G 3 4 = some 7 := h.2.2.2 (3, 4, 7) (by decide)
theorem lr_3_5 {G : amG} (h : Lay G) : gR G 3 5 = some 8 := h.2.2.2 (3, 5, 8) (by decide)
theorem lr_3_6 {G : amG} (h : Lay G) : gR G 3 6 = some 9 := h.2.2.2 (3, 6, 9) (by decide)
theorem lr_0_2 {G : amG} (h : Lay G) : gR G 0 2 = some 3 := h.2.2.2 (0, 2, 3) (by decide)
theorem lr_10_1 {G : amG} (h : Lay G) : gR G 10 1 = some 11 := h.2.2.2 (10, 1, 11) (by decide)
theorem lr_10_2 {G : amG} (h : Lay G) : gR G 10 2 = some 12 := h.2.2.2 (10, 2, 12) (by decide)
theorem lr_10_3 {G : amG} (h : Lay G) : gR G 10 3 = some 13 := h.2.2.2 (10, 3, 13) (by decide)
theorem lr_10_4 {G : amG} (h : Lay G) : gR G 10 4 = some 14 := h.2.2.2 (10, 4, 14) (by decide)
theorem lr_10_5 {G : amG} (h : Lay G) : gR G 10 5 = some 15 := h.2.2.2 (10, 5, 15) (by decide)
theorem lr_10_6 {G : amG} (h : Lay G) : gR G 10 6 = some 16 := h.2.2.2 (10, 6, 16) (by decide)
theorem lr_0_3 {G : amG} (h : Lay G) : gR G 0 3 = some 10 := h.2.2.2 (0, 3, 10) (by decide)
theorem lr_17_2 {G : amG} (h : Lay G) : gR G 17 2 = some 18 := h.2.2.2 (17, 2, 18) (by decide)
theorem lr_17_0 {G : amG} (h : Lay G) : gR G 17 0 = some 1 := h.2.2.2 (17, 0, 1) (by decide)
theorem lr_17_1 {G : amG} (h : Lay G) : gR G 17 1 = some 10 := h.2.2.2 (17, 1, 10) (by decide)
theorem lr_0_1 {G : amG} (h : Lay G) : gR G 0 1 = some 17 := h.2.2.2 (0, 1, 17) (by decide)
theorem lr_0_4 {G : amG} (h : Lay G) : gR G 0 4 = some 19 := h.2.2.2 (0, 4, 19) (by decide)
theorem lr_20_1 {G : amG} (h : Lay G) : gR G 20 1 = some 21 := h.2.2.2 (20, 1, 21) (by decide)
theorem lr_20_2 {G : amG} (h : Lay G) : gR G 20 2 = some 22 := h.2.2.2 (20, 2, 22) (by decide)
theorem lr_20_3 {G : amG} (h : Lay G) : gR G 20 3 = some 23 := h.2.2.2 (20, 3, 23) (by decide)
theorem lr_20_4 {G : amG} (h : Lay G) : gR G 20 4 = some 24 := h.2.2.2 (20, 4, 24) (by decide)
theorem lr_20_5 {G : amG} (h : Lay G) : gR G 20 5 = some 25 := h.2.2.2 (20, 5, 25) (by decide)
theorem lr_20_6 {G : amG} (h : Lay G) : gR G 20 6 = some 26 := h.2.2.2 (20, 6, 26) (by decide)
theorem lr_19_0 {G : amG} (h : Lay G) : gR G 19 0 = some 20 := h.2.2.2 (19, 0, 20) (by decide)
theorem lr_27_1 {G : amG} (h : Lay G) : gR G 27 1 = some 28 := h.2.2.2 (27, 1, 28) (by decide)
theorem lr_27_2 {G : amG} (h : Lay G) : gR G 27 2 = some 29 := h.2.2.2 (27, 2, 29) (by decide)
theorem lr_27_3 {G : amG} (h : Lay G) : gR G 27 3 = some 30 := h.2.2.2 (27, 3, 30) (by decide)
theorem lr_27_4 {G : amG} (h : Lay G) : gR G 27 4 = some 31 := h.2.2.2 (27, 4, 31) (by decide)
theorem lr_27_5 {G : amG} (h : Lay G) : gR G 27 5 = some 32 := h.2.2.2 (27, 5, 32) (by decide)
theorem lr_27_6 {G : amG} (h : Lay G) : gR G 27 6 = some 33 := h.2.2.2 (27, 6, 33) (by decide)
theorem lr_19_1 {G : amG} (h : Lay G) : gR G 19 1 = some 27 := h.2.2.2 (19, 1, 27) (by decide)
theorem lr_0_12 {G : amG} (h : Lay G) : gR G 0 12 = some 34 := h.2.2.2 (0, 12, 34) (by decide)
theorem lr_35_0 {G : amG} (h : Lay G) : gR G 35 0 = some 36 := h.2.2.2 (35, 0, 36) (by decide)
theorem lr_35_1 {G : amG} (h : Lay G) : gR G 35 1 = some 37 := h.2.2.2 (35, 1, 37) (by decide)
theorem lr_35_2 {G : amG} (h : Lay G) : gR G 35 2 = some 38 := h.2.2.2 (35, 2, 38) (by decide)
theorem lr_35_3 {G : amG} (h : Lay G) : gR G 35 3 = some 39 := h.2.2.2 (35, 3, 39) (by decide)
theorem lr_35_4 {G : amG} (h : Lay G) : gR G 35 4 = some 3 := h.2.2.2 (35, 4, 3) (by decide)
theorem lr_35_5 {G : amG} (h : Lay G) : gR G 35 5 = some 34 := h.2.2.2 (35, 5, 34) (by decide)
theorem lr_0_5 {G : amG} (h : Lay G) : gR G 0 5 = some 35 := h.2.2.2 (0, 5, 35) (by decide)
theorem lr_0_6 {G : amG} (h : Lay G) : gR G 0 6 = some 40 := h.2.2.2 (0, 6, 40) (by decide)
theorem lr_41_0 {G : amG} (h : Lay G) : gR G 41 0 = some 42 := h.2.2.2 (41, 0, 42) (by decide)
theorem lr_41_1 {G : amG} (h : Lay G) : gR G 41 1 = some 3 := h.2.2.2 (41, 1, 3) (by decide)
theorem lr_41_2 {G : amG} (h : Lay G) : gR G 41 2 = some 20 := h.2.2.2 (41, 2, 20) (by decide)
theorem lr_0_7 {G : amG} (h : Lay G) : gR G 0 7 = some 41 := h.2.2.2 (0, 7, 41) (by decide)
theorem lr_43_1 {G : amG} (h : Lay G) : gR G 43 1 = some 44 := h.2.2.2 (43, 1, 44) (by decide)
theorem lr_43_2 {G : amG} (h : Lay G) : gR G 43 2 = some 45 := h.2.2.2 (43, 2, 45) (by decide)
theorem lr_43_0 {G : amG} (h : Lay G) : gR G 43 0 = some 3 := h.2.2.2 (43, 0, 3) (by decide)
theorem lr_0_8 {G : amG} (h : Lay G) : gR G 0 8 = some 43 := h.2.2.2 (0, 8, 43) (by decide)
theorem lr_46_0 {G : amG} (h : Lay G) : gR G 46 0 = some 47 := h.2.2.2 (46, 0, 47) (by decide)
theorem lr_46_1 {G : amG} (h : Lay G) : gR G 46 1 = some 48 := h.2.2.2 (46, 1, 48) (by decide)
theorem lr_46_3 {G : amG} (h : Lay G) : gR G 46 3 = some 49 := h.2.2.2 (46, 3, 49) (by decide)
theorem lr_46_4 {G : amG} (h : Lay G) : gR G 46 4 = some 50 := h.2.2.2 (46, 4, 50) (by decide)
theorem lr_46_5 {G : amG} (h : Lay G) : gR G 46 5 = some 51 := h.2.2.2 (46, 5, 51) (by decide)
theorem lr_46_6 {G : amG} (h : Lay G) : gR G 46 6 = some 52 := h.2.2.2 (46, 6, 52) (by decide)
theorem lr_46_7 {G : amG} (h : Lay G) : gR G 46 7 = some 53 := h.2.2.2 (46, 7, 53) (by decide)
theorem lr_46_8 {G : amG} (h : Lay G) : gR G 46 8 = some 54 := h.2.2.2 (46, 8, 54) (by decide)
theorem lr_46_9 {G : amG} (h : Lay G) : gR G 46 9 = some 55 := h.2.2.2 (46, 9, 55) (by decide)
theorem lr_46_2 {G : amG} (h : Lay G) : gR G 46 2 = some 3 := h.2.2.2 (46, 2, 3) (by decide)
theorem lr_0_9 {G : amG} (h : Lay G) : gR G 0 9 = some 46 := h.2.2.2 (0, 9, 46) (by decide)
theorem lr_56_1 {G : amG} (h : Lay G) : gR G 56 1 = some 57 := h.2.2.2 (56, 1, 57) (by decide)
theorem lr_56_2 {G : amG} (h : Lay G) : gR G 56 2 = some 58 := h.2.2.2 (56, 2, 58) (by decide)
theorem lr_56_3 {G : amG} (h : Lay G) : gR G 56 3 = some 59 := h.2.2.2 (56, 3, 59) (by decide)
theorem lr_56_0 {G : amG} (h : Lay G) : gR G 56 0 = some 3 := h.2.2.2 (56, 0, 3) (by decide)
theorem lr_0_10 {G : amG} (h : Lay G) : gR G 0 10 = some 56 := h.2.2.2 (0, 10, 56) (by decide)
theorem lr_61_0 {G : amG} (h : Lay G) : gR G 61 0 = some 62 := h.2.2.2 (61, 0, 62) (by decide)
theorem lr_0_11 {G : amG} (h : Lay G) : gR G 0 11 = some 61 := h.2.2.2 (0, 11, 61) (by decide)
theorem lr_0_13 {G : amG} (h : Lay G) : gR G 0 13 = some 63 := h.2.2.2 (0, 13, 63) (by decide)
theorem lr_64_0 {G : amG} (h : Lay G) : gR G 64 0 = some 65 := h.2.2.2 (64, 0, 65) (by decide)
theorem lr_64_1 {G : amG} (h : Lay G) : gR G 64 1 = some 66 := h.2.2.2 (64, 1, 66) (by decide)
theorem lr_64_3 {G : amG} (h : Lay G) : gR G 64 3 = some 67 := h.2.2.2 (64, 3, 67) (by decide)
theorem lr_64_4 {G : amG} (h : Lay G) : gR G 64 4 = some 68 := h.2.2.2 (64, 4, 68) (by decide)
theorem lr_64_6 {G : amG} (h : Lay G) : gR G 64 6 = some 69 := h.2.2.2 (64, 6, 69) (by decide)
theorem lr_64_13 {G : amG} (h : Lay G) : gR G 64 13 = some 70 := h.2.2.2 (64, 13, 70) (by decide)
theorem lr_64_14 {G : amG} (h : Lay G) : gR G 64 14 = some 71 := h.2.2.2 (64, 14, 71) (by decide)
theorem lr_64_16 {G : amG} (h : Lay G) : gR G 64 16 = some 72 := h.2.2.2 (64, 16, 72) (by decide)
theorem lr_64_17 {G : amG} (h : Lay G) : gR G 64 17 = some 73 := h.2.2.2 (64, 17, 73) (by decide)
theorem lr_64_18 {G : amG} (h : Lay G) : gR G 64 18 = some 74 := h.2.2.2 (64, 18, 74) (by decide)
theorem lr_64_19 {G : amG} (h : Lay G) : gR G 64 19 = some 75 := h.2.2.2 (64, 19, 75) (by decide)
theorem lr_64_20 {G : amG} (h : Lay G) : gR G 64 20 = some 76 := h.2.2.2 (64, 20, 76) (by decide)
theorem lr_64_21 {G : amG} (h : Lay G) : gR G 64 21 = some 77 := h.2.2.2 (64, 21, 77) (by decide)
theorem lr_64_22 {G : amG} (h : Lay G) : gR G 64 22 = some 78 := h.2.2.2 (64, 22, 78) (by decide)
theorem lr_64_23 {G : amG} (h : Lay G) : gR G 64 23 = some 79 := h.2.2.2 (64, 23, 79) (by decide)
theorem lr_64_26 {G : amG} (h : Lay G) : gR G 64 26 = some 80 := h.2.2.2 (64, 26, 80) (by decide)
theorem lr_64_27 {G : amG} (h : Lay G) : gR G 64 27 = some 81 := h.2.2.2 (64, 27, 81) (by decide)
theorem lr_64_28 {G : amG} (h : Lay G) : gR G 64 28 = some 82 := h.2.2.2 (64, 28, 82) (by decide)
theorem lr_64_29 {G : amG} (h : Lay G) : gR G 64 29 = some 83 := h.2.2.2 (64, 29, 83) (by decide)
theorem lr_64_32 {G : amG} (h : Lay G) : gR G 64 32 = some 84 := h.2.2.2 (64, 32, 84) (by decide)
/-- the four orders -/
def isO (o : Nat) : Prop := o = 3 ∨ o = 10 ∨ o = 20 ∨ o = 27
theorem oN {G : amG} {o : Nat} (h : Lay G) (ho : isO o) : o < gN G := by
  have := h.1
  rcases ho with rfl | rfl | rfl | rfl <;> omega
theorem oK {G : amG} {o : Nat} (h : Lay G) (ho : isO o) : gK G o = 4 := by
  rcases ho with rfl | rfl | rfl | rfl
  · exact lk_3 h
  · exact lk_10 h
  · exact lk_20 h
  · exact lk_27 h
theorem oN1 {G : amG} {o : Nat} (h : Lay G) (ho : isO o) : o + 1 < gN G := by
  have := h.1
  rcases ho with rfl | rfl | rfl | rfl <;> omega
theorem oK1 {G : amG} {o : Nat} (h : Lay G) (ho : isO o) : gK G (o + 1) = 50 := by
  rcases ho with rfl | rfl | rfl | rfl
  · exact lk_4 h
  · exact lk_11 h
  · exact lk_21 h
  · exact lk_28 h
theorem oL1 {G : amG} {o : Nat} (h : Lay G) (ho : isO o) : gL G (o + 1) = 16 := by
  rcases ho with rfl | rfl | rfl | rfl
  · exact ll_4 h
  · exact ll_11 h
  · exact ll_21 h
  · exact ll_28 h
theorem oR1 {G : amG} {o : Nat} (h : Lay G) (ho : isO o) : gR G o 1 = some (o + 1) := by
  rcases ho with rfl | rfl | rfl | rfl
  · exact lr_3_1 h
  · exact lr_10_1 h
  · exact lr_20_1 h
  · exact lr_27_1 h
theorem oN2 {G : amG} {o : Nat} (h : Lay G) (ho : isO o) : o + 2 < gN G := by
  have := h.1
  rcases ho with rfl | rfl | rfl | rfl <;> omega
theorem oK2 {G : amG} {o : Nat} (h : Lay G) (ho : isO o) : gK G (o + 2) = 50 := by
  rcases ho with rfl | rfl | rfl | rfl
  · exact lk_5 h
  · exact lk_12 h
  · exact lk_22 h
  · exact lk_29 h
theorem oL2 {G : amG} {o : Nat} (h : Lay G) (ho : isO o) : gL G (o + 2) = 16 := by
  rcases ho with rfl | rfl | rfl | rfl
  · exact ll_5 h
  · exact ll_12 h
  · exact ll_22 h
  · exact ll_29 h
theorem oR2 {G : amG} {o : Nat} (h : Lay G) (ho : isO o) : gR G o 2 = some (o + 2) := by
  rcases ho with rfl | rfl | rfl | rfl
  · exact lr_3_2 h
  · exact lr_10_2 h
  · exact lr_20_2 h
  · exact lr_27_2 h
theorem oN3 {G : amG} {o : Nat} (h : Lay G) (ho : isO o) : o + 3 < gN G := by
  have := h.1
  rcases ho with rfl | rfl | rfl | rfl <;> omega
theorem oK3 {G : amG} {o : Nat} (h : Lay G) (ho : isO o) : gK G (o + 3) = 50 := by
  rcases ho with rfl | rfl | rfl | rfl
  · exact lk_6 h
  · exact lk_13 h
  · exact lk_23 h
  · exact lk_30 h
theorem oL3 {G : amG} {o : Nat} (h : Lay G) (ho : isO o) : gL G (o + 3) = 16 := by
  rcases ho with rfl | rfl | rfl | rfl
  · exact ll_6 h
  · exact ll_13 h
  · exact ll_23 h
  · exact ll_30 h
theorem oR3 {G : amG} {o : Nat} (h : Lay G) (ho : isO o) : gR G o 3 = some (o + 3) := by
  rcases ho with rfl | rfl | rfl | rfl
  · exact lr_3_3 h
  · exact lr_10_3 h
  · exact lr_20_3 h
  · exact lr_27_3 h
theorem oN4 {G : amG} {o : Nat} (h : Lay G) (ho : isO o) : o + 4 < gN G := by
  have := h.1
  rcases ho with rfl | rfl | rfl | rfl <;> omega
theorem oK4 {G : amG} {o : Nat} (h : Lay G) (ho : isO o) : gK G (o + 4) = 50 := by
  rcases ho with rfl | rfl | rfl | rfl
  · exact lk_7 h
  · exact lk_14 h
  · exact lk_24 h
  · exact lk_31 h
theorem oL4 {G : amG} {o : Nat} (h : Lay G) (ho : isO o) : gL G (o + 4) = 16 := by
  rcases ho with rfl | rfl | rfl | rfl
  · exact ll_7 h
  · exact ll_14 h
  · exact ll_24 h
  · exact ll_31 h
theorem oR4 {G : amG} {o : Nat} (h : Lay G) (ho : isO o) : gR G o 4 = some (o + 4) := by
  rcases ho with rfl | rfl | rfl | rfl
  · exact lr_3_4 h
  · exact lr_10_4 h
  · exact lr_20_4 h
  · exact lr_27_4 h
theorem oN5 {G : amG} {o : Nat} (h : Lay G) (ho : isO o) : o + 5 < gN G := by
  have := h.1
  rcases ho with rfl | rfl | rfl | rfl <;> omega
theorem oK5 {G : amG} {o : Nat} (h : Lay G) (ho : isO o) : gK G (o + 5) = 50 := by
  rcases ho with rfl | rfl | rfl | rfl
  · exact lk_8 h
  · exact lk_15 h
  · exact lk_25 h
  · exact lk_32 h
theorem oL5 {G : amG} {o : Nat} (h : Lay G) (ho : isO o) : gL G (o + 5) = 16 := by
  rcases ho with rfl | rfl | rfl | rfl
  · exact ll_8 h
  · exact ll_15 h
  · exact ll_25 h
  · exact ll_32 h
theorem oR5 {G : amG} {o : Nat} (h : Lay G) (ho : isO o) : gR G o 5 = some (o + 5) := by
  rcases ho with rfl | rfl | rfl | rfl
  · exact lr_3_5 h
  · exact lr_10_5 h
  · exact lr_20_5 h
  · exact lr_27_5 h
theorem oN6 {G : amG} {o : Nat} (h : Lay G) (ho : isO o) : o + 6 < gN G := by
  have := h.1
  rcases ho with rfl | rfl | rfl | rfl <;> omega
theorem oK6 {G : amG} {o : Nat} (h : Lay G) (ho : isO o) : gK G (o + 6) = 50 := by
  rcases ho with rfl | rfl | rfl | rfl
  · exact lk_9 h
  · exact lk_16 h
  · exact lk_26 h
  · exact lk_33 h
theorem oL6 {G : amG} {o : Nat} (h : Lay G) (ho : isO o) : gL G (o + 6) = 16 := by
  rcases ho with rfl | rfl | rfl | rfl
  · exact ll_9 h
  · exact ll_16 h
  · exact ll_26 h
  · exact ll_33 h
theorem oR6 {G : amG} {o : Nat} (h : Lay G) (ho : isO o) : gR G o 6 = some (o + 6) := by
  rcases ho with rfl | rfl | rfl | rfl
  · exact lr_3_6 h
  · exact lr_10_6 h
  · exact lr_20_6 h
  · exact lr_27_6 h
theorem isO_3 : isO 3 := by unfold isO; decide
theorem isO_10 : isO 10 := by unfold isO; decide
theorem isO_20 : isO 20 := by unfold isO; decide
theorem isO_27 : isO 27 := by unfold isO; decide
/-! MORE ROWS -/
def bI (b : Bool) : Int32 := if b = true then 1 else 0
theorem bI_01 (b : Bool) : bI b = 0 ∨ bI b = 1 := by cases b <;> decide
theorem bI_t {b : Bool} (h : b = true) : bI b = 1 := by rw [h]; rfl
theorem bI_f {b : Bool} (h : b = false) : bI b = 0 := by rw [h]; rfl
theorem bI_1 : bI true = 1 := rfl
theorem bI_0 : bI false = 0 := rfl
theorem bI_d1 {c : Prop} [Decidable c] (h : c) : (1 : Int32) = bI (decide c) := by rw [decide_eq_true h]; rfl
theorem bI_d0 {c : Prop} [Decidable c] (h : ¬ c) : (0 : Int32) = bI (decide c) := by rw [decide_eq_false h]; rfl
section AM5
variable {z : amZ} {cc : ByteArray} {own : String} {nL ce sl pc : Nat} {lv : List (Nat × Value)} {rest : List Value} {G : amG} {I : amI} {L : amL}
theorem am_ifb_eq (hz : Ok z cc own nL) {b : Bool} {off : Int} {tgt : Nat} (hd : decode cc pc = .ok (.ifCond .eq off, 3)) (ht : (pc : Int) + off = (tgt : Int)) (kt : b = false → Wx z ce sl tgt lv rest G I L) (kf : b = true → Wx z ce sl (pc + 3) lv rest G I L) : Wx z ce sl pc lv (.int (bI b) :: rest) G I L :=
  am_if_eq hz hd ht (fun h => kt (by cases b; rfl; exact absurd h (by decide))) (fun h => kf (by cases b; exact absurd rfl h; rfl))
theorem am_ifb_ne (hz : Ok z cc own nL) {b : Bool} {off : Int} {tgt : Nat} (hd : decode cc pc = .ok (.ifCond .ne off, 3)) (ht : (pc : Int) + off = (tgt : Int)) (kt : b = true → Wx z ce sl tgt lv rest G I L) (kf : b = false → Wx z ce sl (pc + 3) lv rest G I L) : Wx z ce sl pc lv (.int (bI b) :: rest) G I L :=
  am_if_ne hz hd ht (fun h => kt (by cases b; exact absurd rfl h; rfl)) (fun h => kf (by cases b; rfl; exact absurd h (by decide)))
theorem am_if0 (hz : Ok z cc own nL) {off : Int} {tgt : Nat} (hd : decode cc pc = .ok (.ifCond .eq off, 3)) (ht : (pc : Int) + off = (tgt : Int)) (kt : Wx z ce sl tgt lv rest G I L) : Wx z ce sl pc lv (.int 0 :: rest) G I L := am_if_eq hz hd ht (fun _ => kt) (fun h => absurd rfl h)
theorem am_if1 (hz : Ok z cc own nL) {off : Int} {tgt : Nat} (hd : decode cc pc = .ok (.ifCond .eq off, 3)) (ht : (pc : Int) + off = (tgt : Int)) (kt : Wx z ce sl (pc + 3) lv rest G I L) : Wx z ce sl pc lv (.int 1 :: rest) G I L := am_if_eq hz hd ht (fun h => absurd h (by decide)) (fun _ => kt)
theorem am_ifn0 (hz : Ok z cc own nL) {off : Int} {tgt : Nat} (hd : decode cc pc = .ok (.ifCond .ne off, 3)) (ht : (pc : Int) + off = (tgt : Int)) (kt : Wx z ce sl (pc + 3) lv rest G I L) : Wx z ce sl pc lv (.int 0 :: rest) G I L := am_if_ne hz hd ht (fun h => absurd rfl h) (fun _ => kt)
theorem am_ifn1 (hz : Ok z cc own nL) {off : Int} {tgt : Nat} (hd : decode cc pc = .ok (.ifCond .ne off, 3)) (ht : (pc : Int) + off = (tgt : Int)) (kt : Wx z ce sl tgt lv rest G I L) : Wx z ce sl pc lv (.int 1 :: rest) G I L := am_if_ne hz hd ht (fun _ => kt) (fun h => absurd h (by decide))
theorem am_lif_eq (hz : Ok z cc own nL) {x y : Int64} {off : Int} {tgt : Nat} (hd0 : decode cc pc = .ok (.lcmp, 1)) (hd : decode cc (pc + 1) = .ok (.ifCond .eq off, 3)) (ht : ((pc + 1 : Nat) : Int) + off = (tgt : Int)) (kt : x = y → Wx z ce sl tgt lv rest G I L) (kf : ¬ x = y → Wx z ce sl (pc + 4) lv rest G I L) : Wx z ce sl pc lv (.long y :: .long x :: rest) G I L :=
  am_lcmp hz hd0 (am_if_eq hz hd ht (fun h => kt ((lg_cmp_eq x y).mp h)) (fun h => kf (fun g => h ((lg_cmp_eq x y).mpr g))))
theorem am_lif_lt (hz : Ok z cc own nL) {x y : Int64} {off : Int} {tgt : Nat} (hd0 : decode cc pc = .ok (.lcmp, 1)) (hd : decode cc (pc + 1) = .ok (.ifCond .lt off, 3)) (ht : ((pc + 1 : Nat) : Int) + off = (tgt : Int)) (kt : x < y → Wx z ce sl tgt lv rest G I L) (kf : ¬ x < y → Wx z ce sl (pc + 4) lv rest G I L) : Wx z ce sl pc lv (.long y :: .long x :: rest) G I L :=
  am_lcmp hz hd0 (am_if_lt hz hd ht (fun h => kt ((lg_cmp_lt x y).mp h)) (fun h => kf (fun g => h ((lg_cmp_lt x y).mpr g))))
theorem am_lif_ge (hz : Ok z cc own nL) {x y : Int64} {off : Int} {tgt : Nat} (hd0 : decode cc pc = .ok (.lcmp, 1)) (hd : decode cc (pc + 1) = .ok (.ifCond .ge off, 3)) (ht : ((pc + 1 : Nat) : Int) + off = (tgt : Int)) (kt : y ≤ x → Wx z ce sl tgt lv rest G I L) (kf : ¬ y ≤ x → Wx z ce sl (pc + 4) lv rest G I L) : Wx z ce sl pc lv (.long y :: .long x :: rest) G I L :=
  am_lcmp hz hd0 (am_if_ge hz hd ht (fun h => kt ((lg_cmp_ge x y).mp h)) (fun h => kf (fun g => h ((lg_cmp_ge x y).mpr g))))
theorem am_lif_gt (hz : Ok z cc own nL) {x y : Int64} {off : Int} {tgt : Nat} (hd0 : decode cc pc = .ok (.lcmp, 1)) (hd : decode cc (pc + 1) = .ok (.ifCond .gt off, 3)) (ht : ((pc + 1 : Nat) : Int) + off = (tgt : Int)) (kt : y < x → Wx z ce sl tgt lv rest G I L) (kf : ¬ y < x → Wx z ce sl (pc + 4) lv rest G I L) : Wx z ce sl pc lv (.long y :: .long x :: rest) G I L :=
  am_lcmp hz hd0 (am_if_gt hz hd ht (fun h => kt ((lg_cmp_gt x y).mp h)) (fun h => kf (fun g => h ((lg_cmp_gt x y).mpr g))))
theorem am_lif_le (hz : Ok z cc own nL) {x y : Int64} {off : Int} {tgt : Nat} (hd0 : decode cc pc = .ok (.lcmp, 1)) (hd : decode cc (pc + 1) = .ok (.ifCond .le off, 3)) (ht : ((pc + 1 : Nat) : Int) + off = (tgt : Int)) (kt : x ≤ y → Wx z ce sl tgt lv rest G I L) (kf : ¬ x ≤ y → Wx z ce sl (pc + 4) lv rest G I L) : Wx z ce sl pc lv (.long y :: .long x :: rest) G I L :=
  am_lcmp hz hd0 (am_if_le hz hd ht (fun h => kt ((lg_cmp_le x y).mp h)) (fun h => kf (fun g => h ((lg_cmp_le x y).mpr g))))
theorem am_lif_ne (hz : Ok z cc own nL) {x y : Int64} {off : Int} {tgt : Nat} (hd0 : decode cc pc = .ok (.lcmp, 1)) (hd : decode cc (pc + 1) = .ok (.ifCond .ne off, 3)) (ht : ((pc + 1 : Nat) : Int) + off = (tgt : Int)) (kt : ¬ x = y → Wx z ce sl tgt lv rest G I L) (kf : x = y → Wx z ce sl (pc + 4) lv rest G I L) : Wx z ce sl pc lv (.long y :: .long x :: rest) G I L :=
  am_lcmp hz hd0 (am_if_ne hz hd ht (fun h => kt (fun g => h ((lg_cmp_eq x y).mpr g))) (fun h => kf ((lg_cmp_eq x y).mp h)))
theorem am_tabI (hz : Ok z cc own nL) {dflt lo hi : Int} {offs : Array Int} {len : Nat} {x : Int32} {off : Int} {tgt : Nat} (v : Int32) (hd : decode cc pc = .ok (.tableswitch dflt lo hi offs, len)) (hx : x = v) (h1 : ¬ v.toInt < lo) (h2 : ¬ hi < v.toInt) (ho : offs[(v.toInt - lo).toNat]? = some off) (ht : (pc : Int) + off = (tgt : Int)) (kk : Wx z ce sl tgt lv rest G I L) : Wx z ce sl pc lv (.int x :: rest) G I L := by
  subst hx
  exact fun ls H locs a b c => lv_tableIn hz.1 hz.2.1 hd h1 h2 ho ht (kk ls H locs a b c)
theorem am_tabO (hz : Ok z cc own nL) {dflt lo hi : Int} {offs : Array Int} {len : Nat} {x : Int32} {tgt : Nat} (hd : decode cc pc = .ok (.tableswitch dflt lo hi offs, len)) (h : x.toInt < lo ∨ hi < x.toInt) (ht : (pc : Int) + dflt = (tgt : Int)) (kk : Wx z ce sl tgt lv rest G I L) : Wx z ce sl pc lv (.int x :: rest) G I L :=
  fun ls H locs a b c => lv_tableOut hz.1 hz.2.1 hd h ht (kk ls H locs a b c)
theorem tab_lt {x : Int32} (v : Int32) {lo : Int} (e : v.toInt = lo) (h : x < v) : x.toInt < lo := by rw [← e]; exact Int32.lt_iff_toInt_lt.mp h
theorem tab_gt {x : Int32} (v : Int32) {hi : Int} (e : v.toInt = hi) (h : v < x) : hi < x.toInt := by rw [← e]; exact Int32.lt_iff_toInt_lt.mp h
end AM5
/-- an exact contract: the method returns ro and leaves ints I' and longs L' -/
def Fx (l : Launch) (D : va_G) (B : Heap) (y : MethodName) (bytes : ByteArray) (maxL : Nat) (ret : Option FieldType) (d : Nat) (av : List Value) (G : amG) (I : amI) (L : amL) (ro : Option Value) (I' : amI) (L' : amL) : Prop :=
  Mx l D B y bytes maxL ret d 0 0 av G I L (fun r G1 I1 L1 => r = ro ∧ G1 = G ∧ I1 = I' ∧ L1 = L')
section AM6
variable {z : amZ} {cc : ByteArray} {own : String} {nL ce sl pc d0 mc0 ms0 : Nat} {lv : List (Nat × Value)} {G : amG} {I : amI} {L : amL} {post0 : amP} {ret0 : Option FieldType}
theorem Go.fr {d : Nat} (hz : Go z cc own nL ret0 d0 mc0 ms0 post0) (h : Nat.ble (d + 1) d0 = true) : d + 1 ≤ (zR z).frames := by rw [hz.2.1]; exact Nat.le_of_ble_eq_true h
theorem Go.lo {d : Nat} (hz : Go z cc own nL ret0 d0 mc0 ms0 post0) (h : Nat.ble (d + 1) d0 = true) : 100 * d + 99 ≤ (zR z).locals := by
  rw [hz.2.1]
  have := Nat.le_of_ble_eq_true h
  show 100 * d + 99 ≤ 100 * d0
  omega
theorem am_cVf (hz : Go z cc own nL ret0 d0 mc0 ms0 post0) {index ci o n d maxL : Nat} {y : MethodName} {bytes : ByteArray} {ret : Option FieldType} {ro : Option Value} {I' : amI} {L' : amL} (cv : CV own index ci y bytes maxL ret n) (As rest : List Value) {st : List Value}
    (hM : Fx (zL z) (zD z) (zB z) y bytes maxL ret d (.ref ((zB z).size + o) :: As) G I L ro I' L')
    (ho : o < gN G) (hk : gK G o = ci) (hs : st = As.reverse ++ .ref ((zB z).size + o) :: rest) (hn : As.length = n) (hr : Nat.ble (d + 1) d0 = true) (hR3 : ce ≤ mc0 ∧ sl ≤ ms0) (hc : (rest.map fun v => v.category).sum ≤ 8) (hd : decode cc pc = .ok (.invokevirtual index, 3))
    (kk : Wx z ce sl (pc + 3) lv (ro.toList ++ rest) G I' L') : Wx z ce sl pc lv st G I L :=
  am_callV hz.1 cv As rest hM ho hk hs hn (hz.fr hr) (hz.lo hr) (by rw [hz.2.1]; exact hR3) hc hd (fun r G1 I1 L1 h => by obtain ⟨rfl, rfl, rfl, rfl⟩ := h; exact kk)
theorem am_cSf (hz : Go z cc own nL ret0 d0 mc0 ms0 post0) {index n d maxL : Nat} {y : MethodName} {bytes : ByteArray} {ret : Option FieldType} {ro : Option Value} {I' : amI} {L' : amL} (cv : CT own index y bytes maxL ret n) (As rest : List Value) {st : List Value}
    (hM : Fx (zL z) (zD z) (zB z) y bytes maxL ret d As G I L ro I' L')
    (hs : st = As.reverse ++ rest) (hn : As.length = n) (hr : Nat.ble (d + 1) d0 = true) (hR3 : ce ≤ mc0 ∧ sl ≤ ms0) (hc : (rest.map fun v => v.category).sum ≤ 8) (hd : decode cc pc = .ok (.invokestatic index, 3))
    (kk : Wx z ce sl (pc + 3) lv (ro.toList ++ rest) G I' L') : Wx z ce sl pc lv st G I L :=
  am_callS hz.1 cv As rest hM hs hn (hz.fr hr) (hz.lo hr) (by rw [hz.2.1]; exact hR3) hc hd (fun r G1 I1 L1 h => by obtain ⟨rfl, rfl, rfl, rfl⟩ := h; exact kk)
end AM6
