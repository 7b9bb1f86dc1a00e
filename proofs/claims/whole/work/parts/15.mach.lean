
theorem pC_0_11 {κ : gq_K} {ad : gKey → Nat} {N : Nat → Nat → Nat} {r : Nat → Int32} {x : Int32} {g i : Nat} : gentC κ ad N (grup r 0 x) (0, g, i) = .inr (15, ([.ref (ad (1, 0, 0)), .ref (ad (2, 0, 0)), .ref (ad (4, 0, 0)), .ref (ad (4, 1, 0)), .ref (ad (4, 2, 0)), .ref (ad (4, 3, 0)), .ref (ad (4, 4, 0)), .ref (ad (4, 5, 0)), .ref (ad (4, 6, 0)), .ref (ad (14, 0, 0)), .ref (ad (15, 0, 0)), .int (r 0), .int (r 1), .int (r 2), .int (r 3), .int (r 4)] : List Value).set 11 (.int x)) := rfl
theorem pC_0_12 {κ : gq_K} {ad : gKey → Nat} {N : Nat → Nat → Nat} {r : Nat → Int32} {x : Int32} {g i : Nat} : gentC κ ad N (grup r 1 x) (0, g, i) = .inr (15, ([.ref (ad (1, 0, 0)), .ref (ad (2, 0, 0)), .ref (ad (4, 0, 0)), .ref (ad (4, 1, 0)), .ref (ad (4, 2, 0)), .ref (ad (4, 3, 0)), .ref (ad (4, 4, 0)), .ref (ad (4, 5, 0)), .ref (ad (4, 6, 0)), .ref (ad (14, 0, 0)), .ref (ad (15, 0, 0)), .int (r 0), .int (r 1), .int (r 2), .int (r 3), .int (r 4)] : List Value).set 12 (.int x)) := rfl
theorem pC_0_13 {κ : gq_K} {ad : gKey → Nat} {N : Nat → Nat → Nat} {r : Nat → Int32} {x : Int32} {g i : Nat} : gentC κ ad N (grup r 2 x) (0, g, i) = .inr (15, ([.ref (ad (1, 0, 0)), .ref (ad (2, 0, 0)), .ref (ad (4, 0, 0)), .ref (ad (4, 1, 0)), .ref (ad (4, 2, 0)), .ref (ad (4, 3, 0)), .ref (ad (4, 4, 0)), .ref (ad (4, 5, 0)), .ref (ad (4, 6, 0)), .ref (ad (14, 0, 0)), .ref (ad (15, 0, 0)), .int (r 0), .int (r 1), .int (r 2), .int (r 3), .int (r 4)] : List Value).set 13 (.int x)) := rfl
theorem pC_0_14 {κ : gq_K} {ad : gKey → Nat} {N : Nat → Nat → Nat} {r : Nat → Int32} {x : Int32} {g i : Nat} : gentC κ ad N (grup r 3 x) (0, g, i) = .inr (15, ([.ref (ad (1, 0, 0)), .ref (ad (2, 0, 0)), .ref (ad (4, 0, 0)), .ref (ad (4, 1, 0)), .ref (ad (4, 2, 0)), .ref (ad (4, 3, 0)), .ref (ad (4, 4, 0)), .ref (ad (4, 5, 0)), .ref (ad (4, 6, 0)), .ref (ad (14, 0, 0)), .ref (ad (15, 0, 0)), .int (r 0), .int (r 1), .int (r 2), .int (r 3), .int (r 4)] : List Value).set 14 (.int x)) := rfl
theorem pC_0_15 {κ : gq_K} {ad : gKey → Nat} {N : Nat → Nat → Nat} {r : Nat → Int32} {x : Int32} {g i : Nat} : gentC κ ad N (grup r 4 x) (0, g, i) = .inr (15, ([.ref (ad (1, 0, 0)), .ref (ad (2, 0, 0)), .ref (ad (4, 0, 0)), .ref (ad (4, 1, 0)), .ref (ad (4, 2, 0)), .ref (ad (4, 3, 0)), .ref (ad (4, 4, 0)), .ref (ad (4, 5, 0)), .ref (ad (4, 6, 0)), .ref (ad (14, 0, 0)), .ref (ad (15, 0, 0)), .int (r 0), .int (r 1), .int (r 2), .int (r 3), .int (r 4)] : List Value).set 15 (.int x)) := rfl
theorem pC_1_4 {κ : gq_K} {ad : gKey → Nat} {N : Nat → Nat → Nat} {r : Nat → Int32} {x : Int32} {g i : Nat} : gentC κ ad N (grup r 0 x) (1, g, i) = .inr (5, ([.ref (ad (3, 0, 0)), .ref (ad (3, 0, 1)), .ref (ad (3, 0, 2)), .ref (ad (3, 0, 3)), .int (r 0)] : List Value).set 4 (.int x)) := rfl
theorem pC_2_0 {κ : gq_K} {ad : gKey → Nat} {N : Nat → Nat → Nat} {r : Nat → Int32} {x : Int32} {g i : Nat} : gentC κ ad N (grup r 0 x) (2, g, i) = .inr (14, ([.int (r 0), .int (r 1)] : List Value).set 0 (.int x)) := rfl
theorem pC_2_1 {κ : gq_K} {ad : gKey → Nat} {N : Nat → Nat → Nat} {r : Nat → Int32} {x : Int32} {g i : Nat} : gentC κ ad N (grup r 1 x) (2, g, i) = .inr (14, ([.int (r 0), .int (r 1)] : List Value).set 1 (.int x)) := rfl
theorem pC_3_1 {κ : gq_K} {ad : gKey → Nat} {N : Nat → Nat → Nat} {r : Nat → Int32} {x : Int32} {g i : Nat} : gentC κ ad N (grup r 0 x) (3, g, i) = .inr (8, ([.int (gnm i), .int (r 0), gdrv ad (r 1)] : List Value).set 1 (.int x)) := rfl
theorem pC_3_2 {κ : gq_K} {ad : gKey → Nat} {N : Nat → Nat → Nat} {r : Nat → Int32} {x : Int32} {g i : Nat} : gentC κ ad N (grup r 1 x) (3, g, i) = .inr (8, ([.int (gnm i), .int (r 0), gdrv ad (r 1)] : List Value).set 2 (gdrv ad x)) := rfl
theorem pC_6_0 {κ : gq_K} {ad : gKey → Nat} {N : Nat → Nat → Nat} {r : Nat → Int32} {x : Int32} {g i : Nat} : gentC κ ad N (grup r 0 x) (6, g, i) = .inr (7, ([.int (r 0), .int (r 1), .int (r 2), .int (r 3)] : List Value).set 0 (.int x)) := rfl
theorem pC_6_1 {κ : gq_K} {ad : gKey → Nat} {N : Nat → Nat → Nat} {r : Nat → Int32} {x : Int32} {g i : Nat} : gentC κ ad N (grup r 1 x) (6, g, i) = .inr (7, ([.int (r 0), .int (r 1), .int (r 2), .int (r 3)] : List Value).set 1 (.int x)) := rfl
theorem pC_6_2 {κ : gq_K} {ad : gKey → Nat} {N : Nat → Nat → Nat} {r : Nat → Int32} {x : Int32} {g i : Nat} : gentC κ ad N (grup r 2 x) (6, g, i) = .inr (7, ([.int (r 0), .int (r 1), .int (r 2), .int (r 3)] : List Value).set 2 (.int x)) := rfl
theorem pC_6_3 {κ : gq_K} {ad : gKey → Nat} {N : Nat → Nat → Nat} {r : Nat → Int32} {x : Int32} {g i : Nat} : gentC κ ad N (grup r 3 x) (6, g, i) = .inr (7, ([.int (r 0), .int (r 1), .int (r 2), .int (r 3)] : List Value).set 3 (.int x)) := rfl
theorem pC_7_0 {κ : gq_K} {ad : gKey → Nat} {N : Nat → Nat → Nat} {r : Nat → Int32} {x : Int32} {g i : Nat} : gentC κ ad N (grup r 0 x) (7, g, i) = .inr (9, ([.int (r 0), .int (r 1), .int (r 2), .int (r 3), .int (r 4)] : List Value).set 0 (.int x)) := rfl
theorem pC_7_1 {κ : gq_K} {ad : gKey → Nat} {N : Nat → Nat → Nat} {r : Nat → Int32} {x : Int32} {g i : Nat} : gentC κ ad N (grup r 1 x) (7, g, i) = .inr (9, ([.int (r 0), .int (r 1), .int (r 2), .int (r 3), .int (r 4)] : List Value).set 1 (.int x)) := rfl
theorem pC_7_2 {κ : gq_K} {ad : gKey → Nat} {N : Nat → Nat → Nat} {r : Nat → Int32} {x : Int32} {g i : Nat} : gentC κ ad N (grup r 2 x) (7, g, i) = .inr (9, ([.int (r 0), .int (r 1), .int (r 2), .int (r 3), .int (r 4)] : List Value).set 2 (.int x)) := rfl
theorem pC_7_3 {κ : gq_K} {ad : gKey → Nat} {N : Nat → Nat → Nat} {r : Nat → Int32} {x : Int32} {g i : Nat} : gentC κ ad N (grup r 3 x) (7, g, i) = .inr (9, ([.int (r 0), .int (r 1), .int (r 2), .int (r 3), .int (r 4)] : List Value).set 3 (.int x)) := rfl
theorem pC_7_4 {κ : gq_K} {ad : gKey → Nat} {N : Nat → Nat → Nat} {r : Nat → Int32} {x : Int32} {g i : Nat} : gentC κ ad N (grup r 4 x) (7, g, i) = .inr (9, ([.int (r 0), .int (r 1), .int (r 2), .int (r 3), .int (r 4)] : List Value).set 4 (.int x)) := rfl
theorem pC_8_2 {κ : gq_K} {ad : gKey → Nat} {N : Nat → Nat → Nat} {r : Nat → Int32} {x : Int32} {g i : Nat} : gentC κ ad N (grup r 3 x) (8, g, i) = .inr (4, ([.int (Int32.ofNat i), .ref (ad (7, 0, (r 0).toNatClampNeg)), .int (r 3), .int (r 1), .int (r 2), .int (r 4), .int (r 9), .int (r 10), .int (r 6), .int (r 7), .int (r 5), .int (r 8)] : List Value).set 2 (.int x)) := rfl
theorem pC_8_3 {κ : gq_K} {ad : gKey → Nat} {N : Nat → Nat → Nat} {r : Nat → Int32} {x : Int32} {g i : Nat} : gentC κ ad N (grup r 1 x) (8, g, i) = .inr (4, ([.int (Int32.ofNat i), .ref (ad (7, 0, (r 0).toNatClampNeg)), .int (r 3), .int (r 1), .int (r 2), .int (r 4), .int (r 9), .int (r 10), .int (r 6), .int (r 7), .int (r 5), .int (r 8)] : List Value).set 3 (.int x)) := rfl
theorem pC_8_4 {κ : gq_K} {ad : gKey → Nat} {N : Nat → Nat → Nat} {r : Nat → Int32} {x : Int32} {g i : Nat} : gentC κ ad N (grup r 2 x) (8, g, i) = .inr (4, ([.int (Int32.ofNat i), .ref (ad (7, 0, (r 0).toNatClampNeg)), .int (r 3), .int (r 1), .int (r 2), .int (r 4), .int (r 9), .int (r 10), .int (r 6), .int (r 7), .int (r 5), .int (r 8)] : List Value).set 4 (.int x)) := rfl
theorem pC_8_5 {κ : gq_K} {ad : gKey → Nat} {N : Nat → Nat → Nat} {r : Nat → Int32} {x : Int32} {g i : Nat} : gentC κ ad N (grup r 4 x) (8, g, i) = .inr (4, ([.int (Int32.ofNat i), .ref (ad (7, 0, (r 0).toNatClampNeg)), .int (r 3), .int (r 1), .int (r 2), .int (r 4), .int (r 9), .int (r 10), .int (r 6), .int (r 7), .int (r 5), .int (r 8)] : List Value).set 5 (.int x)) := rfl
theorem pC_8_6 {κ : gq_K} {ad : gKey → Nat} {N : Nat → Nat → Nat} {r : Nat → Int32} {x : Int32} {g i : Nat} : gentC κ ad N (grup r 9 x) (8, g, i) = .inr (4, ([.int (Int32.ofNat i), .ref (ad (7, 0, (r 0).toNatClampNeg)), .int (r 3), .int (r 1), .int (r 2), .int (r 4), .int (r 9), .int (r 10), .int (r 6), .int (r 7), .int (r 5), .int (r 8)] : List Value).set 6 (.int x)) := rfl
theorem pC_8_7 {κ : gq_K} {ad : gKey → Nat} {N : Nat → Nat → Nat} {r : Nat → Int32} {x : Int32} {g i : Nat} : gentC κ ad N (grup r 10 x) (8, g, i) = .inr (4, ([.int (Int32.ofNat i), .ref (ad (7, 0, (r 0).toNatClampNeg)), .int (r 3), .int (r 1), .int (r 2), .int (r 4), .int (r 9), .int (r 10), .int (r 6), .int (r 7), .int (r 5), .int (r 8)] : List Value).set 7 (.int x)) := rfl
theorem pC_8_8 {κ : gq_K} {ad : gKey → Nat} {N : Nat → Nat → Nat} {r : Nat → Int32} {x : Int32} {g i : Nat} : gentC κ ad N (grup r 6 x) (8, g, i) = .inr (4, ([.int (Int32.ofNat i), .ref (ad (7, 0, (r 0).toNatClampNeg)), .int (r 3), .int (r 1), .int (r 2), .int (r 4), .int (r 9), .int (r 10), .int (r 6), .int (r 7), .int (r 5), .int (r 8)] : List Value).set 8 (.int x)) := rfl
theorem pC_8_9 {κ : gq_K} {ad : gKey → Nat} {N : Nat → Nat → Nat} {r : Nat → Int32} {x : Int32} {g i : Nat} : gentC κ ad N (grup r 7 x) (8, g, i) = .inr (4, ([.int (Int32.ofNat i), .ref (ad (7, 0, (r 0).toNatClampNeg)), .int (r 3), .int (r 1), .int (r 2), .int (r 4), .int (r 9), .int (r 10), .int (r 6), .int (r 7), .int (r 5), .int (r 8)] : List Value).set 9 (.int x)) := rfl
theorem pC_8_10 {κ : gq_K} {ad : gKey → Nat} {N : Nat → Nat → Nat} {r : Nat → Int32} {x : Int32} {g i : Nat} : gentC κ ad N (grup r 5 x) (8, g, i) = .inr (4, ([.int (Int32.ofNat i), .ref (ad (7, 0, (r 0).toNatClampNeg)), .int (r 3), .int (r 1), .int (r 2), .int (r 4), .int (r 9), .int (r 10), .int (r 6), .int (r 7), .int (r 5), .int (r 8)] : List Value).set 10 (.int x)) := rfl
theorem pC_8_11 {κ : gq_K} {ad : gKey → Nat} {N : Nat → Nat → Nat} {r : Nat → Int32} {x : Int32} {g i : Nat} : gentC κ ad N (grup r 8 x) (8, g, i) = .inr (4, ([.int (Int32.ofNat i), .ref (ad (7, 0, (r 0).toNatClampNeg)), .int (r 3), .int (r 1), .int (r 2), .int (r 4), .int (r 9), .int (r 10), .int (r 6), .int (r 7), .int (r 5), .int (r 8)] : List Value).set 11 (.int x)) := rfl
theorem pC_9_1 {κ : gq_K} {ad : gKey → Nat} {N : Nat → Nat → Nat} {r : Nat → Int32} {x : Int32} {g i : Nat} : gentC κ ad N (grup r 0 x) (9, g, i) = .inr (13, ([.int (Int32.ofNat i), .int (r 0), .int (r 1), .int (r 2), .int (r 3), .int (r 4), .int (r 5)] : List Value).set 1 (.int x)) := rfl
theorem pC_9_2 {κ : gq_K} {ad : gKey → Nat} {N : Nat → Nat → Nat} {r : Nat → Int32} {x : Int32} {g i : Nat} : gentC κ ad N (grup r 1 x) (9, g, i) = .inr (13, ([.int (Int32.ofNat i), .int (r 0), .int (r 1), .int (r 2), .int (r 3), .int (r 4), .int (r 5)] : List Value).set 2 (.int x)) := rfl
theorem pC_9_3 {κ : gq_K} {ad : gKey → Nat} {N : Nat → Nat → Nat} {r : Nat → Int32} {x : Int32} {g i : Nat} : gentC κ ad N (grup r 2 x) (9, g, i) = .inr (13, ([.int (Int32.ofNat i), .int (r 0), .int (r 1), .int (r 2), .int (r 3), .int (r 4), .int (r 5)] : List Value).set 3 (.int x)) := rfl
theorem pC_9_4 {κ : gq_K} {ad : gKey → Nat} {N : Nat → Nat → Nat} {r : Nat → Int32} {x : Int32} {g i : Nat} : gentC κ ad N (grup r 3 x) (9, g, i) = .inr (13, ([.int (Int32.ofNat i), .int (r 0), .int (r 1), .int (r 2), .int (r 3), .int (r 4), .int (r 5)] : List Value).set 4 (.int x)) := rfl
theorem pC_9_5 {κ : gq_K} {ad : gKey → Nat} {N : Nat → Nat → Nat} {r : Nat → Int32} {x : Int32} {g i : Nat} : gentC κ ad N (grup r 4 x) (9, g, i) = .inr (13, ([.int (Int32.ofNat i), .int (r 0), .int (r 1), .int (r 2), .int (r 3), .int (r 4), .int (r 5)] : List Value).set 5 (.int x)) := rfl
theorem pC_9_6 {κ : gq_K} {ad : gKey → Nat} {N : Nat → Nat → Nat} {r : Nat → Int32} {x : Int32} {g i : Nat} : gentC κ ad N (grup r 5 x) (9, g, i) = .inr (13, ([.int (Int32.ofNat i), .int (r 0), .int (r 1), .int (r 2), .int (r 3), .int (r 4), .int (r 5)] : List Value).set 6 (.int x)) := rfl
theorem pC_10_3 {κ : gq_K} {ad : gKey → Nat} {N : Nat → Nat → Nat} {r : Nat → Int32} {x : Int32} {g i : Nat} : gentC κ ad N (grup r 2 x) (10, g, i) = .inr (12, ([.int (Int32.ofNat i), .ref (ad (8, 0, (r 0).toNatClampNeg)), .ref (ad (9, 0, (r 1).toNatClampNeg)), .int (r 2), .int (r 5), .int (r 3), .int (r 4), .int (r 7), .int (r 8), .int (r 9), .int (r 6), .int (r 10)] : List Value).set 3 (.int x)) := rfl
theorem pC_10_4 {κ : gq_K} {ad : gKey → Nat} {N : Nat → Nat → Nat} {r : Nat → Int32} {x : Int32} {g i : Nat} : gentC κ ad N (grup r 5 x) (10, g, i) = .inr (12, ([.int (Int32.ofNat i), .ref (ad (8, 0, (r 0).toNatClampNeg)), .ref (ad (9, 0, (r 1).toNatClampNeg)), .int (r 2), .int (r 5), .int (r 3), .int (r 4), .int (r 7), .int (r 8), .int (r 9), .int (r 6), .int (r 10)] : List Value).set 4 (.int x)) := rfl
theorem pC_10_5 {κ : gq_K} {ad : gKey → Nat} {N : Nat → Nat → Nat} {r : Nat → Int32} {x : Int32} {g i : Nat} : gentC κ ad N (grup r 3 x) (10, g, i) = .inr (12, ([.int (Int32.ofNat i), .ref (ad (8, 0, (r 0).toNatClampNeg)), .ref (ad (9, 0, (r 1).toNatClampNeg)), .int (r 2), .int (r 5), .int (r 3), .int (r 4), .int (r 7), .int (r 8), .int (r 9), .int (r 6), .int (r 10)] : List Value).set 5 (.int x)) := rfl
theorem pC_10_6 {κ : gq_K} {ad : gKey → Nat} {N : Nat → Nat → Nat} {r : Nat → Int32} {x : Int32} {g i : Nat} : gentC κ ad N (grup r 4 x) (10, g, i) = .inr (12, ([.int (Int32.ofNat i), .ref (ad (8, 0, (r 0).toNatClampNeg)), .ref (ad (9, 0, (r 1).toNatClampNeg)), .int (r 2), .int (r 5), .int (r 3), .int (r 4), .int (r 7), .int (r 8), .int (r 9), .int (r 6), .int (r 10)] : List Value).set 6 (.int x)) := rfl
theorem pC_10_7 {κ : gq_K} {ad : gKey → Nat} {N : Nat → Nat → Nat} {r : Nat → Int32} {x : Int32} {g i : Nat} : gentC κ ad N (grup r 7 x) (10, g, i) = .inr (12, ([.int (Int32.ofNat i), .ref (ad (8, 0, (r 0).toNatClampNeg)), .ref (ad (9, 0, (r 1).toNatClampNeg)), .int (r 2), .int (r 5), .int (r 3), .int (r 4), .int (r 7), .int (r 8), .int (r 9), .int (r 6), .int (r 10)] : List Value).set 7 (.int x)) := rfl
theorem pC_10_8 {κ : gq_K} {ad : gKey → Nat} {N : Nat → Nat → Nat} {r : Nat → Int32} {x : Int32} {g i : Nat} : gentC κ ad N (grup r 8 x) (10, g, i) = .inr (12, ([.int (Int32.ofNat i), .ref (ad (8, 0, (r 0).toNatClampNeg)), .ref (ad (9, 0, (r 1).toNatClampNeg)), .int (r 2), .int (r 5), .int (r 3), .int (r 4), .int (r 7), .int (r 8), .int (r 9), .int (r 6), .int (r 10)] : List Value).set 8 (.int x)) := rfl
theorem pC_10_9 {κ : gq_K} {ad : gKey → Nat} {N : Nat → Nat → Nat} {r : Nat → Int32} {x : Int32} {g i : Nat} : gentC κ ad N (grup r 9 x) (10, g, i) = .inr (12, ([.int (Int32.ofNat i), .ref (ad (8, 0, (r 0).toNatClampNeg)), .ref (ad (9, 0, (r 1).toNatClampNeg)), .int (r 2), .int (r 5), .int (r 3), .int (r 4), .int (r 7), .int (r 8), .int (r 9), .int (r 6), .int (r 10)] : List Value).set 9 (.int x)) := rfl
theorem pC_10_10 {κ : gq_K} {ad : gKey → Nat} {N : Nat → Nat → Nat} {r : Nat → Int32} {x : Int32} {g i : Nat} : gentC κ ad N (grup r 6 x) (10, g, i) = .inr (12, ([.int (Int32.ofNat i), .ref (ad (8, 0, (r 0).toNatClampNeg)), .ref (ad (9, 0, (r 1).toNatClampNeg)), .int (r 2), .int (r 5), .int (r 3), .int (r 4), .int (r 7), .int (r 8), .int (r 9), .int (r 6), .int (r 10)] : List Value).set 10 (.int x)) := rfl
theorem pC_10_11 {κ : gq_K} {ad : gKey → Nat} {N : Nat → Nat → Nat} {r : Nat → Int32} {x : Int32} {g i : Nat} : gentC κ ad N (grup r 10 x) (10, g, i) = .inr (12, ([.int (Int32.ofNat i), .ref (ad (8, 0, (r 0).toNatClampNeg)), .ref (ad (9, 0, (r 1).toNatClampNeg)), .int (r 2), .int (r 5), .int (r 3), .int (r 4), .int (r 7), .int (r 8), .int (r 9), .int (r 6), .int (r 10)] : List Value).set 11 (.int x)) := rfl
theorem pC_11_0 {κ : gq_K} {ad : gKey → Nat} {N : Nat → Nat → Nat} {r : Nat → Int32} {x : Int32} {g i : Nat} : gentC κ ad N (grup r 0 x) (11, g, i) = .inr (6, ([.int (r 0), .ref (ad (4, 7, i)), .int (r 1), .int (r 2)] : List Value).set 0 (.int x)) := rfl
theorem pC_11_2 {κ : gq_K} {ad : gKey → Nat} {N : Nat → Nat → Nat} {r : Nat → Int32} {x : Int32} {g i : Nat} : gentC κ ad N (grup r 1 x) (11, g, i) = .inr (6, ([.int (r 0), .ref (ad (4, 7, i)), .int (r 1), .int (r 2)] : List Value).set 2 (.int x)) := rfl
theorem pC_11_3 {κ : gq_K} {ad : gKey → Nat} {N : Nat → Nat → Nat} {r : Nat → Int32} {x : Int32} {g i : Nat} : gentC κ ad N (grup r 2 x) (11, g, i) = .inr (6, ([.int (r 0), .ref (ad (4, 7, i)), .int (r 1), .int (r 2)] : List Value).set 3 (.int x)) := rfl
theorem pC_12_0 {κ : gq_K} {ad : gKey → Nat} {N : Nat → Nat → Nat} {r : Nat → Int32} {x : Int32} {g i : Nat} : gentC κ ad N (grup r 0 x) (12, g, i) = .inr (10, ([.int (r 0), .int (r 2), .int (r 1), .int (r 3)] : List Value).set 0 (.int x)) := rfl
theorem pC_12_1 {κ : gq_K} {ad : gKey → Nat} {N : Nat → Nat → Nat} {r : Nat → Int32} {x : Int32} {g i : Nat} : gentC κ ad N (grup r 2 x) (12, g, i) = .inr (10, ([.int (r 0), .int (r 2), .int (r 1), .int (r 3)] : List Value).set 1 (.int x)) := rfl
theorem pC_12_2 {κ : gq_K} {ad : gKey → Nat} {N : Nat → Nat → Nat} {r : Nat → Int32} {x : Int32} {g i : Nat} : gentC κ ad N (grup r 1 x) (12, g, i) = .inr (10, ([.int (r 0), .int (r 2), .int (r 1), .int (r 3)] : List Value).set 2 (.int x)) := rfl
theorem pC_12_3 {κ : gq_K} {ad : gKey → Nat} {N : Nat → Nat → Nat} {r : Nat → Int32} {x : Int32} {g i : Nat} : gentC κ ad N (grup r 3 x) (12, g, i) = .inr (10, ([.int (r 0), .int (r 2), .int (r 1), .int (r 3)] : List Value).set 3 (.int x)) := rfl
theorem pC_13_1 {κ : gq_K} {ad : gKey → Nat} {N : Nat → Nat → Nat} {r : Nat → Int32} {x : Int32} {g i : Nat} : gentC κ ad N (grup r 1 x) (13, g, i) = .inr (11, ([.ref (ad (10, 0, (r 0).toNatClampNeg)), .int (r 1), .int (r 2)] : List Value).set 1 (.int x)) := rfl
theorem pC_13_2 {κ : gq_K} {ad : gKey → Nat} {N : Nat → Nat → Nat} {r : Nat → Int32} {x : Int32} {g i : Nat} : gentC κ ad N (grup r 2 x) (13, g, i) = .inr (11, ([.ref (ad (10, 0, (r 0).toNatClampNeg)), .int (r 1), .int (r 2)] : List Value).set 2 (.int x)) := rfl
theorem pR_28_0 {κ : gq_K} {ad : gKey → Nat} {N : Nat → Nat → Nat} {r : Nat → Int32} {x : Int32} {g i : Nat} : gentR1 κ ad N (grup r 0 x) (28, g, i) = .inr (16, ([.int (r 0), .int (r 1), .int (r 2), .int (r 3), .int (r 4), .int (r 5), .int (r 6), .int (r 11), .int (r 8), .int (r 9), .int (r 10)] : List Value).set 0 (.int x)) := rfl
theorem pR_28_1 {κ : gq_K} {ad : gKey → Nat} {N : Nat → Nat → Nat} {r : Nat → Int32} {x : Int32} {g i : Nat} : gentR1 κ ad N (grup r 1 x) (28, g, i) = .inr (16, ([.int (r 0), .int (r 1), .int (r 2), .int (r 3), .int (r 4), .int (r 5), .int (r 6), .int (r 11), .int (r 8), .int (r 9), .int (r 10)] : List Value).set 1 (.int x)) := rfl
theorem pR_28_2 {κ : gq_K} {ad : gKey → Nat} {N : Nat → Nat → Nat} {r : Nat → Int32} {x : Int32} {g i : Nat} : gentR1 κ ad N (grup r 2 x) (28, g, i) = .inr (16, ([.int (r 0), .int (r 1), .int (r 2), .int (r 3), .int (r 4), .int (r 5), .int (r 6), .int (r 11), .int (r 8), .int (r 9), .int (r 10)] : List Value).set 2 (.int x)) := rfl
theorem pR_28_3 {κ : gq_K} {ad : gKey → Nat} {N : Nat → Nat → Nat} {r : Nat → Int32} {x : Int32} {g i : Nat} : gentR1 κ ad N (grup r 3 x) (28, g, i) = .inr (16, ([.int (r 0), .int (r 1), .int (r 2), .int (r 3), .int (r 4), .int (r 5), .int (r 6), .int (r 11), .int (r 8), .int (r 9), .int (r 10)] : List Value).set 3 (.int x)) := rfl
theorem pR_28_4 {κ : gq_K} {ad : gKey → Nat} {N : Nat → Nat → Nat} {r : Nat → Int32} {x : Int32} {g i : Nat} : gentR1 κ ad N (grup r 4 x) (28, g, i) = .inr (16, ([.int (r 0), .int (r 1), .int (r 2), .int (r 3), .int (r 4), .int (r 5), .int (r 6), .int (r 11), .int (r 8), .int (r 9), .int (r 10)] : List Value).set 4 (.int x)) := rfl
theorem pR_28_5 {κ : gq_K} {ad : gKey → Nat} {N : Nat → Nat → Nat} {r : Nat → Int32} {x : Int32} {g i : Nat} : gentR1 κ ad N (grup r 5 x) (28, g, i) = .inr (16, ([.int (r 0), .int (r 1), .int (r 2), .int (r 3), .int (r 4), .int (r 5), .int (r 6), .int (r 11), .int (r 8), .int (r 9), .int (r 10)] : List Value).set 5 (.int x)) := rfl
theorem pR_28_6 {κ : gq_K} {ad : gKey → Nat} {N : Nat → Nat → Nat} {r : Nat → Int32} {x : Int32} {g i : Nat} : gentR1 κ ad N (grup r 6 x) (28, g, i) = .inr (16, ([.int (r 0), .int (r 1), .int (r 2), .int (r 3), .int (r 4), .int (r 5), .int (r 6), .int (r 11), .int (r 8), .int (r 9), .int (r 10)] : List Value).set 6 (.int x)) := rfl
theorem pR_28_7 {κ : gq_K} {ad : gKey → Nat} {N : Nat → Nat → Nat} {r : Nat → Int32} {x : Int32} {g i : Nat} : gentR1 κ ad N (grup r 11 x) (28, g, i) = .inr (16, ([.int (r 0), .int (r 1), .int (r 2), .int (r 3), .int (r 4), .int (r 5), .int (r 6), .int (r 11), .int (r 8), .int (r 9), .int (r 10)] : List Value).set 7 (.int x)) := rfl
theorem pR_28_8 {κ : gq_K} {ad : gKey → Nat} {N : Nat → Nat → Nat} {r : Nat → Int32} {x : Int32} {g i : Nat} : gentR1 κ ad N (grup r 8 x) (28, g, i) = .inr (16, ([.int (r 0), .int (r 1), .int (r 2), .int (r 3), .int (r 4), .int (r 5), .int (r 6), .int (r 11), .int (r 8), .int (r 9), .int (r 10)] : List Value).set 8 (.int x)) := rfl
theorem pR_28_9 {κ : gq_K} {ad : gKey → Nat} {N : Nat → Nat → Nat} {r : Nat → Int32} {x : Int32} {g i : Nat} : gentR1 κ ad N (grup r 9 x) (28, g, i) = .inr (16, ([.int (r 0), .int (r 1), .int (r 2), .int (r 3), .int (r 4), .int (r 5), .int (r 6), .int (r 11), .int (r 8), .int (r 9), .int (r 10)] : List Value).set 9 (.int x)) := rfl
theorem pR_28_10 {κ : gq_K} {ad : gKey → Nat} {N : Nat → Nat → Nat} {r : Nat → Int32} {x : Int32} {g i : Nat} : gentR1 κ ad N (grup r 10 x) (28, g, i) = .inr (16, ([.int (r 0), .int (r 1), .int (r 2), .int (r 3), .int (r 4), .int (r 5), .int (r 6), .int (r 11), .int (r 8), .int (r 9), .int (r 10)] : List Value).set 10 (.int x)) := rfl
theorem pR_29_0 {κ : gq_K} {ad : gKey → Nat} {N : Nat → Nat → Nat} {r : Nat → Int32} {x : Int32} {g i : Nat} : gentR1 κ ad N (grup r 0 x) (29, g, i) = .inr (19, ([.int (r 0), .int (r 1), .int (r 2), .int (r 3), .int (r 4), .int (r 5)] : List Value).set 0 (.int x)) := rfl
theorem pR_29_1 {κ : gq_K} {ad : gKey → Nat} {N : Nat → Nat → Nat} {r : Nat → Int32} {x : Int32} {g i : Nat} : gentR1 κ ad N (grup r 1 x) (29, g, i) = .inr (19, ([.int (r 0), .int (r 1), .int (r 2), .int (r 3), .int (r 4), .int (r 5)] : List Value).set 1 (.int x)) := rfl
theorem pR_29_2 {κ : gq_K} {ad : gKey → Nat} {N : Nat → Nat → Nat} {r : Nat → Int32} {x : Int32} {g i : Nat} : gentR1 κ ad N (grup r 2 x) (29, g, i) = .inr (19, ([.int (r 0), .int (r 1), .int (r 2), .int (r 3), .int (r 4), .int (r 5)] : List Value).set 2 (.int x)) := rfl
theorem pR_29_3 {κ : gq_K} {ad : gKey → Nat} {N : Nat → Nat → Nat} {r : Nat → Int32} {x : Int32} {g i : Nat} : gentR1 κ ad N (grup r 3 x) (29, g, i) = .inr (19, ([.int (r 0), .int (r 1), .int (r 2), .int (r 3), .int (r 4), .int (r 5)] : List Value).set 3 (.int x)) := rfl
theorem pR_29_4 {κ : gq_K} {ad : gKey → Nat} {N : Nat → Nat → Nat} {r : Nat → Int32} {x : Int32} {g i : Nat} : gentR1 κ ad N (grup r 4 x) (29, g, i) = .inr (19, ([.int (r 0), .int (r 1), .int (r 2), .int (r 3), .int (r 4), .int (r 5)] : List Value).set 4 (.int x)) := rfl
theorem pR_29_5 {κ : gq_K} {ad : gKey → Nat} {N : Nat → Nat → Nat} {r : Nat → Int32} {x : Int32} {g i : Nat} : gentR1 κ ad N (grup r 5 x) (29, g, i) = .inr (19, ([.int (r 0), .int (r 1), .int (r 2), .int (r 3), .int (r 4), .int (r 5)] : List Value).set 5 (.int x)) := rfl
theorem pR_30_0 {κ : gq_K} {ad : gKey → Nat} {N : Nat → Nat → Nat} {r : Nat → Int32} {x : Int32} {g i : Nat} : gentR1 κ ad N (grup r 0 x) (30, g, i) = .inr (18, ([.int (r 0), .int (r 1), .int (r 2), .int (r 3), .int (r 4), .int (r 5), .int (r 6), .int (r 7), .int (r 8), .int (r 9), .int (r 10)] : List Value).set 0 (.int x)) := rfl
theorem pR_30_1 {κ : gq_K} {ad : gKey → Nat} {N : Nat → Nat → Nat} {r : Nat → Int32} {x : Int32} {g i : Nat} : gentR1 κ ad N (grup r 1 x) (30, g, i) = .inr (18, ([.int (r 0), .int (r 1), .int (r 2), .int (r 3), .int (r 4), .int (r 5), .int (r 6), .int (r 7), .int (r 8), .int (r 9), .int (r 10)] : List Value).set 1 (.int x)) := rfl
theorem pR_30_2 {κ : gq_K} {ad : gKey → Nat} {N : Nat → Nat → Nat} {r : Nat → Int32} {x : Int32} {g i : Nat} : gentR1 κ ad N (grup r 2 x) (30, g, i) = .inr (18, ([.int (r 0), .int (r 1), .int (r 2), .int (r 3), .int (r 4), .int (r 5), .int (r 6), .int (r 7), .int (r 8), .int (r 9), .int (r 10)] : List Value).set 2 (.int x)) := rfl
theorem pR_30_3 {κ : gq_K} {ad : gKey → Nat} {N : Nat → Nat → Nat} {r : Nat → Int32} {x : Int32} {g i : Nat} : gentR1 κ ad N (grup r 3 x) (30, g, i) = .inr (18, ([.int (r 0), .int (r 1), .int (r 2), .int (r 3), .int (r 4), .int (r 5), .int (r 6), .int (r 7), .int (r 8), .int (r 9), .int (r 10)] : List Value).set 3 (.int x)) := rfl
theorem pR_30_4 {κ : gq_K} {ad : gKey → Nat} {N : Nat → Nat → Nat} {r : Nat → Int32} {x : Int32} {g i : Nat} : gentR1 κ ad N (grup r 4 x) (30, g, i) = .inr (18, ([.int (r 0), .int (r 1), .int (r 2), .int (r 3), .int (r 4), .int (r 5), .int (r 6), .int (r 7), .int (r 8), .int (r 9), .int (r 10)] : List Value).set 4 (.int x)) := rfl
theorem pR_30_5 {κ : gq_K} {ad : gKey → Nat} {N : Nat → Nat → Nat} {r : Nat → Int32} {x : Int32} {g i : Nat} : gentR1 κ ad N (grup r 5 x) (30, g, i) = .inr (18, ([.int (r 0), .int (r 1), .int (r 2), .int (r 3), .int (r 4), .int (r 5), .int (r 6), .int (r 7), .int (r 8), .int (r 9), .int (r 10)] : List Value).set 5 (.int x)) := rfl
theorem pR_30_6 {κ : gq_K} {ad : gKey → Nat} {N : Nat → Nat → Nat} {r : Nat → Int32} {x : Int32} {g i : Nat} : gentR1 κ ad N (grup r 6 x) (30, g, i) = .inr (18, ([.int (r 0), .int (r 1), .int (r 2), .int (r 3), .int (r 4), .int (r 5), .int (r 6), .int (r 7), .int (r 8), .int (r 9), .int (r 10)] : List Value).set 6 (.int x)) := rfl
theorem pR_30_7 {κ : gq_K} {ad : gKey → Nat} {N : Nat → Nat → Nat} {r : Nat → Int32} {x : Int32} {g i : Nat} : gentR1 κ ad N (grup r 7 x) (30, g, i) = .inr (18, ([.int (r 0), .int (r 1), .int (r 2), .int (r 3), .int (r 4), .int (r 5), .int (r 6), .int (r 7), .int (r 8), .int (r 9), .int (r 10)] : List Value).set 7 (.int x)) := rfl
theorem pR_30_8 {κ : gq_K} {ad : gKey → Nat} {N : Nat → Nat → Nat} {r : Nat → Int32} {x : Int32} {g i : Nat} : gentR1 κ ad N (grup r 8 x) (30, g, i) = .inr (18, ([.int (r 0), .int (r 1), .int (r 2), .int (r 3), .int (r 4), .int (r 5), .int (r 6), .int (r 7), .int (r 8), .int (r 9), .int (r 10)] : List Value).set 8 (.int x)) := rfl
theorem pR_30_9 {κ : gq_K} {ad : gKey → Nat} {N : Nat → Nat → Nat} {r : Nat → Int32} {x : Int32} {g i : Nat} : gentR1 κ ad N (grup r 9 x) (30, g, i) = .inr (18, ([.int (r 0), .int (r 1), .int (r 2), .int (r 3), .int (r 4), .int (r 5), .int (r 6), .int (r 7), .int (r 8), .int (r 9), .int (r 10)] : List Value).set 9 (.int x)) := rfl
theorem pR_30_10 {κ : gq_K} {ad : gKey → Nat} {N : Nat → Nat → Nat} {r : Nat → Int32} {x : Int32} {g i : Nat} : gentR1 κ ad N (grup r 10 x) (30, g, i) = .inr (18, ([.int (r 0), .int (r 1), .int (r 2), .int (r 3), .int (r 4), .int (r 5), .int (r 6), .int (r 7), .int (r 8), .int (r 9), .int (r 10)] : List Value).set 10 (.int x)) := rfl
theorem pR_31_0 {κ : gq_K} {ad : gKey → Nat} {N : Nat → Nat → Nat} {r : Nat → Int32} {x : Int32} {g i : Nat} : gentR1 κ ad N (grup r 0 x) (31, g, i) = .inr (17, ([.int (r 0), .ref (ad (24, 7, i)), .int (r 2)] : List Value).set 0 (.int x)) := rfl
theorem pR_31_2 {κ : gq_K} {ad : gKey → Nat} {N : Nat → Nat → Nat} {r : Nat → Int32} {x : Int32} {g i : Nat} : gentR1 κ ad N (grup r 2 x) (31, g, i) = .inr (17, ([.int (r 0), .ref (ad (24, 7, i)), .int (r 2)] : List Value).set 2 (.int x)) := rfl
theorem qC_0_11 {N : Nat → Nat → Nat} {r : Nat → Int32} {x : Int32} {g i : Nat} : grefC N (grup r 0 x) (0, g, i) = grefC N r (0, g, i) := (show ([(1, 0, 0), (2, 0, 0), (4, 0, 0), (4, 1, 0), (4, 2, 0), (4, 3, 0), (4, 4, 0), (4, 5, 0), (4, 6, 0), (14, 0, 0), (15, 0, 0)] : List gKey) = [(1, 0, 0), (2, 0, 0), (4, 0, 0), (4, 1, 0), (4, 2, 0), (4, 3, 0), (4, 4, 0), (4, 5, 0), (4, 6, 0), (14, 0, 0), (15, 0, 0)] from rfl)
theorem qC_0_12 {N : Nat → Nat → Nat} {r : Nat → Int32} {x : Int32} {g i : Nat} : grefC N (grup r 1 x) (0, g, i) = grefC N r (0, g, i) := (show ([(1, 0, 0), (2, 0, 0), (4, 0, 0), (4, 1, 0), (4, 2, 0), (4, 3, 0), (4, 4, 0), (4, 5, 0), (4, 6, 0), (14, 0, 0), (15, 0, 0)] : List gKey) = [(1, 0, 0), (2, 0, 0), (4, 0, 0), (4, 1, 0), (4, 2, 0), (4, 3, 0), (4, 4, 0), (4, 5, 0), (4, 6, 0), (14, 0, 0), (15, 0, 0)] from rfl)
theorem qC_0_13 {N : Nat → Nat → Nat} {r : Nat → Int32} {x : Int32} {g i : Nat} : grefC N (grup r 2 x) (0, g, i) = grefC N r (0, g, i) := (show ([(1, 0, 0), (2, 0, 0), (4, 0, 0), (4, 1, 0), (4, 2, 0), (4, 3, 0), (4, 4, 0), (4, 5, 0), (4, 6, 0), (14, 0, 0), (15, 0, 0)] : List gKey) = [(1, 0, 0), (2, 0, 0), (4, 0, 0), (4, 1, 0), (4, 2, 0), (4, 3, 0), (4, 4, 0), (4, 5, 0), (4, 6, 0), (14, 0, 0), (15, 0, 0)] from rfl)
theorem qC_0_14 {N : Nat → Nat → Nat} {r : Nat → Int32} {x : Int32} {g i : Nat} : grefC N (grup r 3 x) (0, g, i) = grefC N r (0, g, i) := (show ([(1, 0, 0), (2, 0, 0), (4, 0, 0), (4, 1, 0), (4, 2, 0), (4, 3, 0), (4, 4, 0), (4, 5, 0), (4, 6, 0), (14, 0, 0), (15, 0, 0)] : List gKey) = [(1, 0, 0), (2, 0, 0), (4, 0, 0), (4, 1, 0), (4, 2, 0), (4, 3, 0), (4, 4, 0), (4, 5, 0), (4, 6, 0), (14, 0, 0), (15, 0, 0)] from rfl)
theorem qC_0_15 {N : Nat → Nat → Nat} {r : Nat → Int32} {x : Int32} {g i : Nat} : grefC N (grup r 4 x) (0, g, i) = grefC N r (0, g, i) := (show ([(1, 0, 0), (2, 0, 0), (4, 0, 0), (4, 1, 0), (4, 2, 0), (4, 3, 0), (4, 4, 0), (4, 5, 0), (4, 6, 0), (14, 0, 0), (15, 0, 0)] : List gKey) = [(1, 0, 0), (2, 0, 0), (4, 0, 0), (4, 1, 0), (4, 2, 0), (4, 3, 0), (4, 4, 0), (4, 5, 0), (4, 6, 0), (14, 0, 0), (15, 0, 0)] from rfl)
theorem qC_1_4 {N : Nat → Nat → Nat} {r : Nat → Int32} {x : Int32} {g i : Nat} : grefC N (grup r 0 x) (1, g, i) = grefC N r (1, g, i) := (show ([(3, 0, 0), (3, 0, 1), (3, 0, 2), (3, 0, 3)] : List gKey) = [(3, 0, 0), (3, 0, 1), (3, 0, 2), (3, 0, 3)] from rfl)
theorem qC_2_0 {N : Nat → Nat → Nat} {r : Nat → Int32} {x : Int32} {g i : Nat} : grefC N (grup r 0 x) (2, g, i) = grefC N r (2, g, i) := (show ([] : List gKey) = [] from rfl)
theorem qC_2_1 {N : Nat → Nat → Nat} {r : Nat → Int32} {x : Int32} {g i : Nat} : grefC N (grup r 1 x) (2, g, i) = grefC N r (2, g, i) := (show ([] : List gKey) = [] from rfl)
theorem qC_3_1 {N : Nat → Nat → Nat} {r : Nat → Int32} {x : Int32} {g i : Nat} : grefC N (grup r 0 x) (3, g, i) = grefC N r (3, g, i) := (show (if (grup r 0 x 1) = -1 then [] else [(3, 0, (grup r 0 x 1).toNatClampNeg)] : List gKey) = if (r 1) = -1 then [] else [(3, 0, (r 1).toNatClampNeg)] from rfl)
theorem qC_6_0 {N : Nat → Nat → Nat} {r : Nat → Int32} {x : Int32} {g i : Nat} : grefC N (grup r 0 x) (6, g, i) = grefC N r (6, g, i) := (show ([] : List gKey) = [] from rfl)
theorem qC_6_1 {N : Nat → Nat → Nat} {r : Nat → Int32} {x : Int32} {g i : Nat} : grefC N (grup r 1 x) (6, g, i) = grefC N r (6, g, i) := (show ([] : List gKey) = [] from rfl)
theorem qC_6_2 {N : Nat → Nat → Nat} {r : Nat → Int32} {x : Int32} {g i : Nat} : grefC N (grup r 2 x) (6, g, i) = grefC N r (6, g, i) := (show ([] : List gKey) = [] from rfl)
theorem qC_6_3 {N : Nat → Nat → Nat} {r : Nat → Int32} {x : Int32} {g i : Nat} : grefC N (grup r 3 x) (6, g, i) = grefC N r (6, g, i) := (show ([] : List gKey) = [] from rfl)
theorem qC_7_0 {N : Nat → Nat → Nat} {r : Nat → Int32} {x : Int32} {g i : Nat} : grefC N (grup r 0 x) (7, g, i) = grefC N r (7, g, i) := (show ([] : List gKey) = [] from rfl)
theorem qC_7_1 {N : Nat → Nat → Nat} {r : Nat → Int32} {x : Int32} {g i : Nat} : grefC N (grup r 1 x) (7, g, i) = grefC N r (7, g, i) := (show ([] : List gKey) = [] from rfl)
theorem qC_7_2 {N : Nat → Nat → Nat} {r : Nat → Int32} {x : Int32} {g i : Nat} : grefC N (grup r 2 x) (7, g, i) = grefC N r (7, g, i) := (show ([] : List gKey) = [] from rfl)
theorem qC_7_3 {N : Nat → Nat → Nat} {r : Nat → Int32} {x : Int32} {g i : Nat} : grefC N (grup r 3 x) (7, g, i) = grefC N r (7, g, i) := (show ([] : List gKey) = [] from rfl)
theorem qC_7_4 {N : Nat → Nat → Nat} {r : Nat → Int32} {x : Int32} {g i : Nat} : grefC N (grup r 4 x) (7, g, i) = grefC N r (7, g, i) := (show ([] : List gKey) = [] from rfl)
theorem qC_8_2 {N : Nat → Nat → Nat} {r : Nat → Int32} {x : Int32} {g i : Nat} : grefC N (grup r 3 x) (8, g, i) = grefC N r (8, g, i) := (show ([(7, 0, (grup r 3 x 0).toNatClampNeg)] : List gKey) = [(7, 0, (r 0).toNatClampNeg)] from rfl)
theorem qC_8_3 {N : Nat → Nat → Nat} {r : Nat → Int32} {x : Int32} {g i : Nat} : grefC N (grup r 1 x) (8, g, i) = grefC N r (8, g, i) := (show ([(7, 0, (grup r 1 x 0).toNatClampNeg)] : List gKey) = [(7, 0, (r 0).toNatClampNeg)] from rfl)
theorem qC_8_4 {N : Nat → Nat → Nat} {r : Nat → Int32} {x : Int32} {g i : Nat} : grefC N (grup r 2 x) (8, g, i) = grefC N r (8, g, i) := (show ([(7, 0, (grup r 2 x 0).toNatClampNeg)] : List gKey) = [(7, 0, (r 0).toNatClampNeg)] from rfl)
theorem qC_8_5 {N : Nat → Nat → Nat} {r : Nat → Int32} {x : Int32} {g i : Nat} : grefC N (grup r 4 x) (8, g, i) = grefC N r (8, g, i) := (show ([(7, 0, (grup r 4 x 0).toNatClampNeg)] : List gKey) = [(7, 0, (r 0).toNatClampNeg)] from rfl)
theorem qC_8_6 {N : Nat → Nat → Nat} {r : Nat → Int32} {x : Int32} {g i : Nat} : grefC N (grup r 9 x) (8, g, i) = grefC N r (8, g, i) := (show ([(7, 0, (grup r 9 x 0).toNatClampNeg)] : List gKey) = [(7, 0, (r 0).toNatClampNeg)] from rfl)
theorem qC_8_7 {N : Nat → Nat → Nat} {r : Nat → Int32} {x : Int32} {g i : Nat} : grefC N (grup r 10 x) (8, g, i) = grefC N r (8, g, i) := (show ([(7, 0, (grup r 10 x 0).toNatClampNeg)] : List gKey) = [(7, 0, (r 0).toNatClampNeg)] from rfl)
theorem qC_8_8 {N : Nat → Nat → Nat} {r : Nat → Int32} {x : Int32} {g i : Nat} : grefC N (grup r 6 x) (8, g, i) = grefC N r (8, g, i) := (show ([(7, 0, (grup r 6 x 0).toNatClampNeg)] : List gKey) = [(7, 0, (r 0).toNatClampNeg)] from rfl)
theorem qC_8_9 {N : Nat → Nat → Nat} {r : Nat → Int32} {x : Int32} {g i : Nat} : grefC N (grup r 7 x) (8, g, i) = grefC N r (8, g, i) := (show ([(7, 0, (grup r 7 x 0).toNatClampNeg)] : List gKey) = [(7, 0, (r 0).toNatClampNeg)] from rfl)
theorem qC_8_10 {N : Nat → Nat → Nat} {r : Nat → Int32} {x : Int32} {g i : Nat} : grefC N (grup r 5 x) (8, g, i) = grefC N r (8, g, i) := (show ([(7, 0, (grup r 5 x 0).toNatClampNeg)] : List gKey) = [(7, 0, (r 0).toNatClampNeg)] from rfl)
theorem qC_8_11 {N : Nat → Nat → Nat} {r : Nat → Int32} {x : Int32} {g i : Nat} : grefC N (grup r 8 x) (8, g, i) = grefC N r (8, g, i) := (show ([(7, 0, (grup r 8 x 0).toNatClampNeg)] : List gKey) = [(7, 0, (r 0).toNatClampNeg)] from rfl)
theorem qC_9_1 {N : Nat → Nat → Nat} {r : Nat → Int32} {x : Int32} {g i : Nat} : grefC N (grup r 0 x) (9, g, i) = grefC N r (9, g, i) := (show ([] : List gKey) = [] from rfl)
theorem qC_9_2 {N : Nat → Nat → Nat} {r : Nat → Int32} {x : Int32} {g i : Nat} : grefC N (grup r 1 x) (9, g, i) = grefC N r (9, g, i) := (show ([] : List gKey) = [] from rfl)
theorem qC_9_3 {N : Nat → Nat → Nat} {r : Nat → Int32} {x : Int32} {g i : Nat} : grefC N (grup r 2 x) (9, g, i) = grefC N r (9, g, i) := (show ([] : List gKey) = [] from rfl)
theorem qC_9_4 {N : Nat → Nat → Nat} {r : Nat → Int32} {x : Int32} {g i : Nat} : grefC N (grup r 3 x) (9, g, i) = grefC N r (9, g, i) := (show ([] : List gKey) = [] from rfl)
theorem qC_9_5 {N : Nat → Nat → Nat} {r : Nat → Int32} {x : Int32} {g i : Nat} : grefC N (grup r 4 x) (9, g, i) = grefC N r (9, g, i) := (show ([] : List gKey) = [] from rfl)
theorem qC_9_6 {N : Nat → Nat → Nat} {r : Nat → Int32} {x : Int32} {g i : Nat} : grefC N (grup r 5 x) (9, g, i) = grefC N r (9, g, i) := (show ([] : List gKey) = [] from rfl)
theorem qC_10_3 {N : Nat → Nat → Nat} {r : Nat → Int32} {x : Int32} {g i : Nat} : grefC N (grup r 2 x) (10, g, i) = grefC N r (10, g, i) := (show ([(8, 0, (grup r 2 x 0).toNatClampNeg), (9, 0, (grup r 2 x 1).toNatClampNeg)] : List gKey) = [(8, 0, (r 0).toNatClampNeg), (9, 0, (r 1).toNatClampNeg)] from rfl)
theorem qC_10_4 {N : Nat → Nat → Nat} {r : Nat → Int32} {x : Int32} {g i : Nat} : grefC N (grup r 5 x) (10, g, i) = grefC N r (10, g, i) := (show ([(8, 0, (grup r 5 x 0).toNatClampNeg), (9, 0, (grup r 5 x 1).toNatClampNeg)] : List gKey) = [(8, 0, (r 0).toNatClampNeg), (9, 0, (r 1).toNatClampNeg)] from rfl)
theorem qC_10_5 {N : Nat → Nat → Nat} {r : Nat → Int32} {x : Int32} {g i : Nat} : grefC N (grup r 3 x) (10, g, i) = grefC N r (10, g, i) := (show ([(8, 0, (grup r 3 x 0).toNatClampNeg), (9, 0, (grup r 3 x 1).toNatClampNeg)] : List gKey) = [(8, 0, (r 0).toNatClampNeg), (9, 0, (r 1).toNatClampNeg)] from rfl)
theorem qC_10_6 {N : Nat → Nat → Nat} {r : Nat → Int32} {x : Int32} {g i : Nat} : grefC N (grup r 4 x) (10, g, i) = grefC N r (10, g, i) := (show ([(8, 0, (grup r 4 x 0).toNatClampNeg), (9, 0, (grup r 4 x 1).toNatClampNeg)] : List gKey) = [(8, 0, (r 0).toNatClampNeg), (9, 0, (r 1).toNatClampNeg)] from rfl)
theorem qC_10_7 {N : Nat → Nat → Nat} {r : Nat → Int32} {x : Int32} {g i : Nat} : grefC N (grup r 7 x) (10, g, i) = grefC N r (10, g, i) := (show ([(8, 0, (grup r 7 x 0).toNatClampNeg), (9, 0, (grup r 7 x 1).toNatClampNeg)] : List gKey) = [(8, 0, (r 0).toNatClampNeg), (9, 0, (r 1).toNatClampNeg)] from rfl)
theorem qC_10_8 {N : Nat → Nat → Nat} {r : Nat → Int32} {x : Int32} {g i : Nat} : grefC N (grup r 8 x) (10, g, i) = grefC N r (10, g, i) := (show ([(8, 0, (grup r 8 x 0).toNatClampNeg), (9, 0, (grup r 8 x 1).toNatClampNeg)] : List gKey) = [(8, 0, (r 0).toNatClampNeg), (9, 0, (r 1).toNatClampNeg)] from rfl)
theorem qC_10_9 {N : Nat → Nat → Nat} {r : Nat → Int32} {x : Int32} {g i : Nat} : grefC N (grup r 9 x) (10, g, i) = grefC N r (10, g, i) := (show ([(8, 0, (grup r 9 x 0).toNatClampNeg), (9, 0, (grup r 9 x 1).toNatClampNeg)] : List gKey) = [(8, 0, (r 0).toNatClampNeg), (9, 0, (r 1).toNatClampNeg)] from rfl)
theorem qC_10_10 {N : Nat → Nat → Nat} {r : Nat → Int32} {x : Int32} {g i : Nat} : grefC N (grup r 6 x) (10, g, i) = grefC N r (10, g, i) := (show ([(8, 0, (grup r 6 x 0).toNatClampNeg), (9, 0, (grup r 6 x 1).toNatClampNeg)] : List gKey) = [(8, 0, (r 0).toNatClampNeg), (9, 0, (r 1).toNatClampNeg)] from rfl)
theorem qC_10_11 {N : Nat → Nat → Nat} {r : Nat → Int32} {x : Int32} {g i : Nat} : grefC N (grup r 10 x) (10, g, i) = grefC N r (10, g, i) := (show ([(8, 0, (grup r 10 x 0).toNatClampNeg), (9, 0, (grup r 10 x 1).toNatClampNeg)] : List gKey) = [(8, 0, (r 0).toNatClampNeg), (9, 0, (r 1).toNatClampNeg)] from rfl)
theorem qC_11_0 {N : Nat → Nat → Nat} {r : Nat → Int32} {x : Int32} {g i : Nat} : grefC N (grup r 0 x) (11, g, i) = grefC N r (11, g, i) := (show ([(4, 7, i)] : List gKey) = [(4, 7, i)] from rfl)
theorem qC_11_2 {N : Nat → Nat → Nat} {r : Nat → Int32} {x : Int32} {g i : Nat} : grefC N (grup r 1 x) (11, g, i) = grefC N r (11, g, i) := (show ([(4, 7, i)] : List gKey) = [(4, 7, i)] from rfl)
theorem qC_11_3 {N : Nat → Nat → Nat} {r : Nat → Int32} {x : Int32} {g i : Nat} : grefC N (grup r 2 x) (11, g, i) = grefC N r (11, g, i) := (show ([(4, 7, i)] : List gKey) = [(4, 7, i)] from rfl)
theorem qC_12_0 {N : Nat → Nat → Nat} {r : Nat → Int32} {x : Int32} {g i : Nat} : grefC N (grup r 0 x) (12, g, i) = grefC N r (12, g, i) := (show ([] : List gKey) = [] from rfl)
theorem qC_12_1 {N : Nat → Nat → Nat} {r : Nat → Int32} {x : Int32} {g i : Nat} : grefC N (grup r 2 x) (12, g, i) = grefC N r (12, g, i) := (show ([] : List gKey) = [] from rfl)
theorem qC_12_2 {N : Nat → Nat → Nat} {r : Nat → Int32} {x : Int32} {g i : Nat} : grefC N (grup r 1 x) (12, g, i) = grefC N r (12, g, i) := (show ([] : List gKey) = [] from rfl)
theorem qC_12_3 {N : Nat → Nat → Nat} {r : Nat → Int32} {x : Int32} {g i : Nat} : grefC N (grup r 3 x) (12, g, i) = grefC N r (12, g, i) := (show ([] : List gKey) = [] from rfl)
theorem qC_13_1 {N : Nat → Nat → Nat} {r : Nat → Int32} {x : Int32} {g i : Nat} : grefC N (grup r 1 x) (13, g, i) = grefC N r (13, g, i) := (show ([(10, 0, (grup r 1 x 0).toNatClampNeg)] : List gKey) = [(10, 0, (r 0).toNatClampNeg)] from rfl)
theorem qC_13_2 {N : Nat → Nat → Nat} {r : Nat → Int32} {x : Int32} {g i : Nat} : grefC N (grup r 2 x) (13, g, i) = grefC N r (13, g, i) := (show ([(10, 0, (grup r 2 x 0).toNatClampNeg)] : List gKey) = [(10, 0, (r 0).toNatClampNeg)] from rfl)
theorem p20_0 {κ : gq_K} {ad : gKey → Nat} {N : Nat → Nat → Nat} {R : gG} {x : Int32} : gentR κ ad N (gup R (0, 0, 0) 5 x).1 (20, 0, 0) = .inr (20, ([.int (R.1 (0, 0, 0) 5), .int (R.1 (0, 0, 0) 0), .int (R.1 (1, 0, 0) 0), .ref (ad (21, 0, 0)), .ref (ad (22, 0, 0)), .ref (ad (24, 0, 0)), .ref (ad (24, 1, 0)), .ref (ad (34, 0, 0)), .ref (ad (35, 0, 0)), .ref (ad (24, 2, 0)), .ref (ad (24, 3, 0)), .ref (ad (24, 4, 0)), .ref (ad (24, 5, 0)), .ref (ad (24, 6, 0)), .int (R.1 (0, 0, 0) 1), .int (R.1 (2, 0, 0) 2), .int (R.1 (2, 0, 0) 0), .int (R.1 (0, 0, 0) 2)] : List Value).set 0 (.int x)) := rfl
theorem p20_1 {κ : gq_K} {ad : gKey → Nat} {N : Nat → Nat → Nat} {R : gG} {x : Int32} : gentR κ ad N (gup R (0, 0, 0) 0 x).1 (20, 0, 0) = .inr (20, ([.int (R.1 (0, 0, 0) 5), .int (R.1 (0, 0, 0) 0), .int (R.1 (1, 0, 0) 0), .ref (ad (21, 0, 0)), .ref (ad (22, 0, 0)), .ref (ad (24, 0, 0)), .ref (ad (24, 1, 0)), .ref (ad (34, 0, 0)), .ref (ad (35, 0, 0)), .ref (ad (24, 2, 0)), .ref (ad (24, 3, 0)), .ref (ad (24, 4, 0)), .ref (ad (24, 5, 0)), .ref (ad (24, 6, 0)), .int (R.1 (0, 0, 0) 1), .int (R.1 (2, 0, 0) 2), .int (R.1 (2, 0, 0) 0), .int (R.1 (0, 0, 0) 2)] : List Value).set 1 (.int x)) := rfl
theorem p20_2 {κ : gq_K} {ad : gKey → Nat} {N : Nat → Nat → Nat} {R : gG} {x : Int32} : gentR κ ad N (gup R (1, 0, 0) 0 x).1 (20, 0, 0) = .inr (20, ([.int (R.1 (0, 0, 0) 5), .int (R.1 (0, 0, 0) 0), .int (R.1 (1, 0, 0) 0), .ref (ad (21, 0, 0)), .ref (ad (22, 0, 0)), .ref (ad (24, 0, 0)), .ref (ad (24, 1, 0)), .ref (ad (34, 0, 0)), .ref (ad (35, 0, 0)), .ref (ad (24, 2, 0)), .ref (ad (24, 3, 0)), .ref (ad (24, 4, 0)), .ref (ad (24, 5, 0)), .ref (ad (24, 6, 0)), .int (R.1 (0, 0, 0) 1), .int (R.1 (2, 0, 0) 2), .int (R.1 (2, 0, 0) 0), .int (R.1 (0, 0, 0) 2)] : List Value).set 2 (.int x)) := rfl
theorem p20_14 {κ : gq_K} {ad : gKey → Nat} {N : Nat → Nat → Nat} {R : gG} {x : Int32} : gentR κ ad N (gup R (0, 0, 0) 1 x).1 (20, 0, 0) = .inr (20, ([.int (R.1 (0, 0, 0) 5), .int (R.1 (0, 0, 0) 0), .int (R.1 (1, 0, 0) 0), .ref (ad (21, 0, 0)), .ref (ad (22, 0, 0)), .ref (ad (24, 0, 0)), .ref (ad (24, 1, 0)), .ref (ad (34, 0, 0)), .ref (ad (35, 0, 0)), .ref (ad (24, 2, 0)), .ref (ad (24, 3, 0)), .ref (ad (24, 4, 0)), .ref (ad (24, 5, 0)), .ref (ad (24, 6, 0)), .int (R.1 (0, 0, 0) 1), .int (R.1 (2, 0, 0) 2), .int (R.1 (2, 0, 0) 0), .int (R.1 (0, 0, 0) 2)] : List Value).set 14 (.int x)) := rfl
theorem p20_15 {κ : gq_K} {ad : gKey → Nat} {N : Nat → Nat → Nat} {R : gG} {x : Int32} : gentR κ ad N (gup R (2, 0, 0) 2 x).1 (20, 0, 0) = .inr (20, ([.int (R.1 (0, 0, 0) 5), .int (R.1 (0, 0, 0) 0), .int (R.1 (1, 0, 0) 0), .ref (ad (21, 0, 0)), .ref (ad (22, 0, 0)), .ref (ad (24, 0, 0)), .ref (ad (24, 1, 0)), .ref (ad (34, 0, 0)), .ref (ad (35, 0, 0)), .ref (ad (24, 2, 0)), .ref (ad (24, 3, 0)), .ref (ad (24, 4, 0)), .ref (ad (24, 5, 0)), .ref (ad (24, 6, 0)), .int (R.1 (0, 0, 0) 1), .int (R.1 (2, 0, 0) 2), .int (R.1 (2, 0, 0) 0), .int (R.1 (0, 0, 0) 2)] : List Value).set 15 (.int x)) := rfl
theorem p20_16 {κ : gq_K} {ad : gKey → Nat} {N : Nat → Nat → Nat} {R : gG} {x : Int32} : gentR κ ad N (gup R (2, 0, 0) 0 x).1 (20, 0, 0) = .inr (20, ([.int (R.1 (0, 0, 0) 5), .int (R.1 (0, 0, 0) 0), .int (R.1 (1, 0, 0) 0), .ref (ad (21, 0, 0)), .ref (ad (22, 0, 0)), .ref (ad (24, 0, 0)), .ref (ad (24, 1, 0)), .ref (ad (34, 0, 0)), .ref (ad (35, 0, 0)), .ref (ad (24, 2, 0)), .ref (ad (24, 3, 0)), .ref (ad (24, 4, 0)), .ref (ad (24, 5, 0)), .ref (ad (24, 6, 0)), .int (R.1 (0, 0, 0) 1), .int (R.1 (2, 0, 0) 2), .int (R.1 (2, 0, 0) 0), .int (R.1 (0, 0, 0) 2)] : List Value).set 16 (.int x)) := rfl
theorem p20_17 {κ : gq_K} {ad : gKey → Nat} {N : Nat → Nat → Nat} {R : gG} {x : Int32} : gentR κ ad N (gup R (0, 0, 0) 2 x).1 (20, 0, 0) = .inr (20, ([.int (R.1 (0, 0, 0) 5), .int (R.1 (0, 0, 0) 0), .int (R.1 (1, 0, 0) 0), .ref (ad (21, 0, 0)), .ref (ad (22, 0, 0)), .ref (ad (24, 0, 0)), .ref (ad (24, 1, 0)), .ref (ad (34, 0, 0)), .ref (ad (35, 0, 0)), .ref (ad (24, 2, 0)), .ref (ad (24, 3, 0)), .ref (ad (24, 4, 0)), .ref (ad (24, 5, 0)), .ref (ad (24, 6, 0)), .int (R.1 (0, 0, 0) 1), .int (R.1 (2, 0, 0) 2), .int (R.1 (2, 0, 0) 0), .int (R.1 (0, 0, 0) 2)] : List Value).set 17 (.int x)) := rfl
section Z15
variable {κ : gq_K} {ad : gKey → Nat} {S : gG × gG} {C R : gG} {T : List (Nat × va_E)} {h : gq_H}
theorem gdrv_n {ad : gKey → Nat} {x : Int32} (h : x = -1) : gdrv ad x = .null := if_pos h
theorem gdrv_r {ad : gKey → Nat} {x : Int32} (h : ¬ x = -1) : gdrv ad x = .ref (ad (3, 0, x.toNatClampNeg)) := if_neg h
/-- a machine's driver is none or a machine -/
def gmach (C : gG) : Prop := ∀ i : Nat, ¬ C.1 (3, 0, i) 1 = -1 → (C.1 (3, 0, i) 1).toNatClampNeg < 4
theorem gmach_4 {C : gG} (hC : gfix C.2) {i : Nat} (h : i < 4) : i < C.2 3 0 := by rw [hC.2.2.2.1]; exact h
/-- machine i and all that drive it, s at most, are on, and the shaft turns -/
def gmov (C : gG) : Nat → Nat → Bool
  | 0, _ => false
  | s + 1, i => decide (¬ C.1 (3, 0, i) 0 = 0) && (if C.1 (3, 0, i) 1 = -1 then decide (¬ C.1 (1, 0, 0) 0 = 0) else gmov C s (C.1 (3, 0, i) 1).toNatClampNeg)
/-- machine o is i or drives it -/
def ghang (C : gG) (o : Nat) : Nat → Nat → Bool
  | 0, _ => false
  | s + 1, i => decide (i = o) || (if C.1 (3, 0, i) 1 = -1 then false else ghang C o s (C.1 (3, 0, i) 1).toNatClampNeg)
/-- the drivers of i end at the shaft -/
def gchn (C : gG) : Nat → Nat → Bool
  | 0, _ => false
  | s + 1, i => if C.1 (3, 0, i) 1 = -1 then true else gchn C s (C.1 (3, 0, i) 1).toNatClampNeg
theorem z_fact {M : gq_M} {Q : Option Value → gq_H → Prop} {E : String → gq_H → Prop} {f : gq_F} {P : gq_H → Prop} {lv : List (Nat × Value)} {pc : Nat} {st : List Value} {k n : Nat} {p : Prop} (hp : ∀ h, P h → p) (yy : p → gq_Y κ M Q E f P lv pc st k n) : gq_Y κ M Q E f P lv pc st k n := y_mono (P' := fun h => p ∧ P h) (fun h hh => ⟨hp h hh, hh⟩) (y_and yy)
theorem gR.mach (hr : gR κ ad (C, R) T h) (hC : gfix C.2) : ∀ i j : Nat, i < 4 → j < 4 → ad (3, 0, i) = ad (3, 0, j) → i = j := fun i j hi hj e => by
  have := hr.2.1 (3, 0, i) (3, 0, j) (gl_3 (gmach_4 hC hi)) (gl_3 (gmach_4 hC hj)) e
  simpa using this
def gsum (f : Nat → Int32) : Nat → Int32
  | 0 => 0
  | n + 1 => gsum f n + f n
/-- the wheel after it has told one darkness -/
def gtell (C : gG) : gG := gup (gup (gup C (2, 0, 0) 1 (if C.1 (2, 0, 0) 1 + 1 = 8 then 0 else C.1 (2, 0, 0) 1 + 1)) (2, 0, 0) 0 (if C.1 (2, 0, 0) 1 + 1 = 8 then C.1 (2, 0, 0) 0 + 3 else C.1 (2, 0, 0) 0)) (2, 0, 0) 2 (C.1 (2, 0, 0) 2 + 1)
theorem gtell_p {C : gG} (h : C.1 (2, 0, 0) 1 + 1 = 8) : gtell C = gup (gup (gup C (2, 0, 0) 1 0) (2, 0, 0) 0 (C.1 (2, 0, 0) 0 + 3)) (2, 0, 0) 2 (C.1 (2, 0, 0) 2 + 1) := by
  unfold gtell
  rw [if_pos h, if_pos h]
theorem gtell_n {C : gG} (h : ¬ C.1 (2, 0, 0) 1 + 1 = 8) : gtell C = gup (gup C (2, 0, 0) 1 (C.1 (2, 0, 0) 1 + 1)) (2, 0, 0) 2 (C.1 (2, 0, 0) 2 + 1) := by
  unfold gtell
  rw [if_neg h, if_neg h]
  have e := gup_id (gup C (2, 0, 0) 1 (C.1 (2, 0, 0) 1 + 1)) (2, 0, 0) 0
  rw [gup_vf _ (show (0:Nat) ≠ 1 by decide)] at e
  rw [e]
theorem gidx {N i : Nat} (h : i < N) (h' : N ≤ 144) : gix N (Int32.ofNat i) = true ∧ (Int32.ofNat i).toNatClampNeg = i := ⟨gixN (gofs (by omega)).1 ((gofs_lt (by omega) (by omega)).mpr h), (gofs (by omega)).2.1⟩
theorem kMoves {κ : gq_K} {ad : gKey → Nat} {C R : gG} {T : List (Nat × va_E)} (hC : gfix C.2) (hM : gmach C) (i : Nat) (hi : i < 4) : gq_C κ mX1_moves [.ref (ad (1, 0, 0)), .ref (ad (3, 0, i))] (gR κ ad (C, R) T) (fun v9 g => v9 = some (.int (gb (gmov C 4 i = true))) ∧ gR κ ad (C, R) T g) (gq_no) := by
  refine gq_enter (by decide +kernel) rfl (Nat.le_of_ble_eq_true rfl) rfl (fun f o => ?_)
  refine y_aload_n (pc := 0) o dX1_moves_0 rfl ?_
  refine y_astore_n (pc := 1) (i := 2) (lv' := [(2, .ref (ad (3, 0, i))), (0, .ref (ad (1, 0, 0))), (1, .ref (ad (3, 0, i)))]) o dX1_moves_1 rfl (by decide) rfl ?_
  refine y_iconst (pc := 2) (x := 0) o dX1_moves_2 (by decide) ?_
  refine y_istore_n (pc := 3) (i := 3) (lv' := [(3, .int (0)), (2, .ref (ad (3, 0, i))), (0, .ref (ad (1, 0, 0))), (1, .ref (ad (3, 0, i)))]) o dX1_moves_3 rfl (by decide) rfl ?_
  refine y_iload_n (pc := 4) o dX1_moves_4 rfl ?_
  refine y_iconst (pc := 5) (x := 4) o dX1_moves_5 (by decide) ?_
  refine z_icmp_ge (pc := 6) (tgt := 33) o dX1_moves_6 rfl (fun b1 => absurd b1 (by decide)) (fun (b1 : 0 < 4) => ?_)
  refine y_aload_n (pc := 9) o dX1_moves_9 rfl ?_
  refine y_ifnull (pc := 10) o dX1_moves_10 ?_
  refine y_aload_n (pc := 13) o dX1_moves_13 rfl ?_
  refine z_get (pc := 14) (K := (3, 0, i)) (v := .int (C.1 (3, 0, i) 0)) o fl_X1_31 dX1_moves_14 (gl_3 (gmach_4 hC hi)) rfl rfl ?_
  refine y_if_ne (pc := 17) (tgt := 22) o dX1_moves_17 rfl (fun (b2 : ¬ (C.1 (3, 0, i) 0) = 0) => ?_) (fun (b2 : (C.1 (3, 0, i) 0) = 0) => ?_)
  · refine y_aload_n (pc := 22) o dX1_moves_22 rfl ?_
    refine z_get (pc := 23) (K := (3, 0, i)) (v := gdrv ad (C.1 (3, 0, i) 1)) o fl_X1_34 dX1_moves_23 (gl_3 (gmach_4 hC hi)) rfl rfl ?_
    by_cases d3 : C.1 (3, 0, i) 1 = -1
    · refine z_top (gdrv_n d3) ?_
      refine y_astore_nN (pc := 26) (i := 2) (lv' := [(2, .null), (3, .int (0)), (0, .ref (ad (1, 0, 0))), (1, .ref (ad (3, 0, i)))]) o dX1_moves_26 rfl (by decide) rfl ?_
      refine y_iinc (pc := 27) (i := 3) (j := 1) (v := 1) (lv' := [(3, .int (1)), (2, .null), (0, .ref (ad (1, 0, 0))), (1, .ref (ad (3, 0, i)))]) o dX1_moves_27 rfl rfl (by decide) rfl ?_
      refine y_goto (pc := 30) (tgt := 4) o dX1_moves_30 rfl ?_
      refine y_iload_n (pc := 4) o dX1_moves_4 rfl ?_
      refine y_iconst (pc := 5) (x := 4) o dX1_moves_5 (by decide) ?_
      refine z_icmp_ge (pc := 6) (tgt := 33) o dX1_moves_6 rfl (fun b4 => absurd b4 (by decide)) (fun (b4 : 1 < 4) => ?_)
      refine y_aload_nN (pc := 9) o dX1_moves_9 rfl ?_
      refine y_ifnullN (pc := 10) (tgt := 33) o dX1_moves_10 rfl ?_
      refine y_aload_nN (pc := 33) o dX1_moves_33 rfl ?_
      refine y_ifnonnullN (pc := 34) o dX1_moves_34 ?_
      refine y_aload_n (pc := 37) o dX1_moves_37 rfl ?_
      refine z_get (pc := 38) (K := (1, 0, 0)) (v := .int (C.1 (1, 0, 0) 0)) o fl_X1_27 dX1_moves_38 (gl_1 hC) rfl rfl ?_
      refine y_if_eq (pc := 41) (tgt := 48) o dX1_moves_41 rfl (fun (b5 : (C.1 (1, 0, 0) 0) = 0) => ?_) (fun (b5 : ¬ (C.1 (1, 0, 0) 0) = 0) => ?_)
      · refine y_iconst (pc := 48) (x := 0) o dX1_moves_48 (by decide) ?_
        exact y_iret (pc := 49) o dX1_moves_49 rfl rfl (by decide) (by decide) (fun h hp => ⟨congrArg (fun z => some (Value.int z)) (gb_f (p := gmov C 4 i = true) (by simp [gmov, b1, b2, d3, b4, b5])).symm, hp⟩)
      refine y_iconst (pc := 44) (x := 1) o dX1_moves_44 (by decide) ?_
      refine y_goto (pc := 45) (tgt := 49) o dX1_moves_45 rfl ?_
      exact y_iret (pc := 49) o dX1_moves_49 rfl rfl (by decide) (by decide) (fun h hp => ⟨congrArg (fun z => some (Value.int z)) (gb_t (p := gmov C 4 i = true) (by simp [gmov, b1, b2, d3, b4, b5])).symm, hp⟩)
    refine z_top (gdrv_r d3) ?_
    refine y_astore_n (pc := 26) (i := 2) (lv' := [(2, .ref (ad (3, 0, (C.1 (3, 0, i) 1).toNatClampNeg))), (3, .int (0)), (0, .ref (ad (1, 0, 0))), (1, .ref (ad (3, 0, i)))]) o dX1_moves_26 rfl (by decide) rfl ?_
    refine y_iinc (pc := 27) (i := 3) (j := 1) (v := 1) (lv' := [(3, .int (1)), (2, .ref (ad (3, 0, (C.1 (3, 0, i) 1).toNatClampNeg))), (0, .ref (ad (1, 0, 0))), (1, .ref (ad (3, 0, i)))]) o dX1_moves_27 rfl rfl (by decide) rfl ?_
    refine y_goto (pc := 30) (tgt := 4) o dX1_moves_30 rfl ?_
    refine y_iload_n (pc := 4) o dX1_moves_4 rfl ?_
    refine y_iconst (pc := 5) (x := 4) o dX1_moves_5 (by decide) ?_
    refine z_icmp_ge (pc := 6) (tgt := 33) o dX1_moves_6 rfl (fun b6 => absurd b6 (by decide)) (fun (b6 : 1 < 4) => ?_)
    refine y_aload_n (pc := 9) o dX1_moves_9 rfl ?_
    refine y_ifnull (pc := 10) o dX1_moves_10 ?_
    refine y_aload_n (pc := 13) o dX1_moves_13 rfl ?_
    refine z_get (pc := 14) (K := (3, 0, (C.1 (3, 0, i) 1).toNatClampNeg)) (v := .int (C.1 (3, 0, (C.1 (3, 0, i) 1).toNatClampNeg) 0)) o fl_X1_31 dX1_moves_14 (gl_3 (gmach_4 hC (hM i d3))) rfl rfl ?_
    refine y_if_ne (pc := 17) (tgt := 22) o dX1_moves_17 rfl (fun (b7 : ¬ (C.1 (3, 0, (C.1 (3, 0, i) 1).toNatClampNeg) 0) = 0) => ?_) (fun (b7 : (C.1 (3, 0, (C.1 (3, 0, i) 1).toNatClampNeg) 0) = 0) => ?_)
    · refine y_aload_n (pc := 22) o dX1_moves_22 rfl ?_
      refine z_get (pc := 23) (K := (3, 0, (C.1 (3, 0, i) 1).toNatClampNeg)) (v := gdrv ad (C.1 (3, 0, (C.1 (3, 0, i) 1).toNatClampNeg) 1)) o fl_X1_34 dX1_moves_23 (gl_3 (gmach_4 hC (hM i d3))) rfl rfl ?_
      by_cases d8 : C.1 (3, 0, (C.1 (3, 0, i) 1).toNatClampNeg) 1 = -1
      · refine z_top (gdrv_n d8) ?_
        refine y_astore_nN (pc := 26) (i := 2) (lv' := [(2, .null), (3, .int (1)), (0, .ref (ad (1, 0, 0))), (1, .ref (ad (3, 0, i)))]) o dX1_moves_26 rfl (by decide) rfl ?_
        refine y_iinc (pc := 27) (i := 3) (j := 1) (v := 2) (lv' := [(3, .int (2)), (2, .null), (0, .ref (ad (1, 0, 0))), (1, .ref (ad (3, 0, i)))]) o dX1_moves_27 rfl rfl (by decide) rfl ?_
        refine y_goto (pc := 30) (tgt := 4) o dX1_moves_30 rfl ?_
        refine y_iload_n (pc := 4) o dX1_moves_4 rfl ?_
        refine y_iconst (pc := 5) (x := 4) o dX1_moves_5 (by decide) ?_
        refine z_icmp_ge (pc := 6) (tgt := 33) o dX1_moves_6 rfl (fun b9 => absurd b9 (by decide)) (fun (b9 : 2 < 4) => ?_)
        refine y_aload_nN (pc := 9) o dX1_moves_9 rfl ?_
        refine y_ifnullN (pc := 10) (tgt := 33) o dX1_moves_10 rfl ?_
        refine y_aload_nN (pc := 33) o dX1_moves_33 rfl ?_
        refine y_ifnonnullN (pc := 34) o dX1_moves_34 ?_
        refine y_aload_n (pc := 37) o dX1_moves_37 rfl ?_
        refine z_get (pc := 38) (K := (1, 0, 0)) (v := .int (C.1 (1, 0, 0) 0)) o fl_X1_27 dX1_moves_38 (gl_1 hC) rfl rfl ?_
        refine y_if_eq (pc := 41) (tgt := 48) o dX1_moves_41 rfl (fun (b10 : (C.1 (1, 0, 0) 0) = 0) => ?_) (fun (b10 : ¬ (C.1 (1, 0, 0) 0) = 0) => ?_)
        · refine y_iconst (pc := 48) (x := 0) o dX1_moves_48 (by decide) ?_
          exact y_iret (pc := 49) o dX1_moves_49 rfl rfl (by decide) (by decide) (fun h hp => ⟨congrArg (fun z => some (Value.int z)) (gb_f (p := gmov C 4 i = true) (by simp [gmov, b1, b2, d3, b6, b7, d8, b9, b10])).symm, hp⟩)
        refine y_iconst (pc := 44) (x := 1) o dX1_moves_44 (by decide) ?_
        refine y_goto (pc := 45) (tgt := 49) o dX1_moves_45 rfl ?_
        exact y_iret (pc := 49) o dX1_moves_49 rfl rfl (by decide) (by decide) (fun h hp => ⟨congrArg (fun z => some (Value.int z)) (gb_t (p := gmov C 4 i = true) (by simp [gmov, b1, b2, d3, b6, b7, d8, b9, b10])).symm, hp⟩)
      refine z_top (gdrv_r d8) ?_
      refine y_astore_n (pc := 26) (i := 2) (lv' := [(2, .ref (ad (3, 0, (C.1 (3, 0, (C.1 (3, 0, i) 1).toNatClampNeg) 1).toNatClampNeg))), (3, .int (1)), (0, .ref (ad (1, 0, 0))), (1, .ref (ad (3, 0, i)))]) o dX1_moves_26 rfl (by decide) rfl ?_
      refine y_iinc (pc := 27) (i := 3) (j := 1) (v := 2) (lv' := [(3, .int (2)), (2, .ref (ad (3, 0, (C.1 (3, 0, (C.1 (3, 0, i) 1).toNatClampNeg) 1).toNatClampNeg))), (0, .ref (ad (1, 0, 0))), (1, .ref (ad (3, 0, i)))]) o dX1_moves_27 rfl rfl (by decide) rfl ?_
      refine y_goto (pc := 30) (tgt := 4) o dX1_moves_30 rfl ?_
      refine y_iload_n (pc := 4) o dX1_moves_4 rfl ?_
      refine y_iconst (pc := 5) (x := 4) o dX1_moves_5 (by decide) ?_
      refine z_icmp_ge (pc := 6) (tgt := 33) o dX1_moves_6 rfl (fun b11 => absurd b11 (by decide)) (fun (b11 : 2 < 4) => ?_)
      refine y_aload_n (pc := 9) o dX1_moves_9 rfl ?_
      refine y_ifnull (pc := 10) o dX1_moves_10 ?_
      refine y_aload_n (pc := 13) o dX1_moves_13 rfl ?_
      refine z_get (pc := 14) (K := (3, 0, (C.1 (3, 0, (C.1 (3, 0, i) 1).toNatClampNeg) 1).toNatClampNeg)) (v := .int (C.1 (3, 0, (C.1 (3, 0, (C.1 (3, 0, i) 1).toNatClampNeg) 1).toNatClampNeg) 0)) o fl_X1_31 dX1_moves_14 (gl_3 (gmach_4 hC (hM ((C.1 (3, 0, i) 1).toNatClampNeg) d8))) rfl rfl ?_
      refine y_if_ne (pc := 17) (tgt := 22) o dX1_moves_17 rfl (fun (b12 : ¬ (C.1 (3, 0, (C.1 (3, 0, (C.1 (3, 0, i) 1).toNatClampNeg) 1).toNatClampNeg) 0) = 0) => ?_) (fun (b12 : (C.1 (3, 0, (C.1 (3, 0, (C.1 (3, 0, i) 1).toNatClampNeg) 1).toNatClampNeg) 0) = 0) => ?_)
      · refine y_aload_n (pc := 22) o dX1_moves_22 rfl ?_
        refine z_get (pc := 23) (K := (3, 0, (C.1 (3, 0, (C.1 (3, 0, i) 1).toNatClampNeg) 1).toNatClampNeg)) (v := gdrv ad (C.1 (3, 0, (C.1 (3, 0, (C.1 (3, 0, i) 1).toNatClampNeg) 1).toNatClampNeg) 1)) o fl_X1_34 dX1_moves_23 (gl_3 (gmach_4 hC (hM ((C.1 (3, 0, i) 1).toNatClampNeg) d8))) rfl rfl ?_
        by_cases d13 : C.1 (3, 0, (C.1 (3, 0, (C.1 (3, 0, i) 1).toNatClampNeg) 1).toNatClampNeg) 1 = -1
        · refine z_top (gdrv_n d13) ?_
          refine y_astore_nN (pc := 26) (i := 2) (lv' := [(2, .null), (3, .int (2)), (0, .ref (ad (1, 0, 0))), (1, .ref (ad (3, 0, i)))]) o dX1_moves_26 rfl (by decide) rfl ?_
          refine y_iinc (pc := 27) (i := 3) (j := 1) (v := 3) (lv' := [(3, .int (3)), (2, .null), (0, .ref (ad (1, 0, 0))), (1, .ref (ad (3, 0, i)))]) o dX1_moves_27 rfl rfl (by decide) rfl ?_
          refine y_goto (pc := 30) (tgt := 4) o dX1_moves_30 rfl ?_
          refine y_iload_n (pc := 4) o dX1_moves_4 rfl ?_
          refine y_iconst (pc := 5) (x := 4) o dX1_moves_5 (by decide) ?_
          refine z_icmp_ge (pc := 6) (tgt := 33) o dX1_moves_6 rfl (fun b14 => absurd b14 (by decide)) (fun (b14 : 3 < 4) => ?_)
          refine y_aload_nN (pc := 9) o dX1_moves_9 rfl ?_
          refine y_ifnullN (pc := 10) (tgt := 33) o dX1_moves_10 rfl ?_
          refine y_aload_nN (pc := 33) o dX1_moves_33 rfl ?_
          refine y_ifnonnullN (pc := 34) o dX1_moves_34 ?_
          refine y_aload_n (pc := 37) o dX1_moves_37 rfl ?_
          refine z_get (pc := 38) (K := (1, 0, 0)) (v := .int (C.1 (1, 0, 0) 0)) o fl_X1_27 dX1_moves_38 (gl_1 hC) rfl rfl ?_
          refine y_if_eq (pc := 41) (tgt := 48) o dX1_moves_41 rfl (fun (b15 : (C.1 (1, 0, 0) 0) = 0) => ?_) (fun (b15 : ¬ (C.1 (1, 0, 0) 0) = 0) => ?_)
          · refine y_iconst (pc := 48) (x := 0) o dX1_moves_48 (by decide) ?_
            exact y_iret (pc := 49) o dX1_moves_49 rfl rfl (by decide) (by decide) (fun h hp => ⟨congrArg (fun z => some (Value.int z)) (gb_f (p := gmov C 4 i = true) (by simp [gmov, b1, b2, d3, b6, b7, d8, b11, b12, d13, b14, b15])).symm, hp⟩)
          refine y_iconst (pc := 44) (x := 1) o dX1_moves_44 (by decide) ?_
          refine y_goto (pc := 45) (tgt := 49) o dX1_moves_45 rfl ?_
          exact y_iret (pc := 49) o dX1_moves_49 rfl rfl (by decide) (by decide) (fun h hp => ⟨congrArg (fun z => some (Value.int z)) (gb_t (p := gmov C 4 i = true) (by simp [gmov, b1, b2, d3, b6, b7, d8, b11, b12, d13, b14, b15])).symm, hp⟩)
        refine z_top (gdrv_r d13) ?_
        refine y_astore_n (pc := 26) (i := 2) (lv' := [(2, .ref (ad (3, 0, (C.1 (3, 0, (C.1 (3, 0, (C.1 (3, 0, i) 1).toNatClampNeg) 1).toNatClampNeg) 1).toNatClampNeg))), (3, .int (2)), (0, .ref (ad (1, 0, 0))), (1, .ref (ad (3, 0, i)))]) o dX1_moves_26 rfl (by decide) rfl ?_
        refine y_iinc (pc := 27) (i := 3) (j := 1) (v := 3) (lv' := [(3, .int (3)), (2, .ref (ad (3, 0, (C.1 (3, 0, (C.1 (3, 0, (C.1 (3, 0, i) 1).toNatClampNeg) 1).toNatClampNeg) 1).toNatClampNeg))), (0, .ref (ad (1, 0, 0))), (1, .ref (ad (3, 0, i)))]) o dX1_moves_27 rfl rfl (by decide) rfl ?_
        refine y_goto (pc := 30) (tgt := 4) o dX1_moves_30 rfl ?_
        refine y_iload_n (pc := 4) o dX1_moves_4 rfl ?_
        refine y_iconst (pc := 5) (x := 4) o dX1_moves_5 (by decide) ?_
        refine z_icmp_ge (pc := 6) (tgt := 33) o dX1_moves_6 rfl (fun b16 => absurd b16 (by decide)) (fun (b16 : 3 < 4) => ?_)
        refine y_aload_n (pc := 9) o dX1_moves_9 rfl ?_
        refine y_ifnull (pc := 10) o dX1_moves_10 ?_
        refine y_aload_n (pc := 13) o dX1_moves_13 rfl ?_
        refine z_get (pc := 14) (K := (3, 0, (C.1 (3, 0, (C.1 (3, 0, (C.1 (3, 0, i) 1).toNatClampNeg) 1).toNatClampNeg) 1).toNatClampNeg)) (v := .int (C.1 (3, 0, (C.1 (3, 0, (C.1 (3, 0, (C.1 (3, 0, i) 1).toNatClampNeg) 1).toNatClampNeg) 1).toNatClampNeg) 0)) o fl_X1_31 dX1_moves_14 (gl_3 (gmach_4 hC (hM ((C.1 (3, 0, (C.1 (3, 0, i) 1).toNatClampNeg) 1).toNatClampNeg) d13))) rfl rfl ?_
        refine y_if_ne (pc := 17) (tgt := 22) o dX1_moves_17 rfl (fun (b17 : ¬ (C.1 (3, 0, (C.1 (3, 0, (C.1 (3, 0, (C.1 (3, 0, i) 1).toNatClampNeg) 1).toNatClampNeg) 1).toNatClampNeg) 0) = 0) => ?_) (fun (b17 : (C.1 (3, 0, (C.1 (3, 0, (C.1 (3, 0, (C.1 (3, 0, i) 1).toNatClampNeg) 1).toNatClampNeg) 1).toNatClampNeg) 0) = 0) => ?_)
        · refine y_aload_n (pc := 22) o dX1_moves_22 rfl ?_
          refine z_get (pc := 23) (K := (3, 0, (C.1 (3, 0, (C.1 (3, 0, (C.1 (3, 0, i) 1).toNatClampNeg) 1).toNatClampNeg) 1).toNatClampNeg)) (v := gdrv ad (C.1 (3, 0, (C.1 (3, 0, (C.1 (3, 0, (C.1 (3, 0, i) 1).toNatClampNeg) 1).toNatClampNeg) 1).toNatClampNeg) 1)) o fl_X1_34 dX1_moves_23 (gl_3 (gmach_4 hC (hM ((C.1 (3, 0, (C.1 (3, 0, i) 1).toNatClampNeg) 1).toNatClampNeg) d13))) rfl rfl ?_
          by_cases d18 : C.1 (3, 0, (C.1 (3, 0, (C.1 (3, 0, (C.1 (3, 0, i) 1).toNatClampNeg) 1).toNatClampNeg) 1).toNatClampNeg) 1 = -1
          · refine z_top (gdrv_n d18) ?_
            refine y_astore_nN (pc := 26) (i := 2) (lv' := [(2, .null), (3, .int (3)), (0, .ref (ad (1, 0, 0))), (1, .ref (ad (3, 0, i)))]) o dX1_moves_26 rfl (by decide) rfl ?_
            refine y_iinc (pc := 27) (i := 3) (j := 1) (v := 4) (lv' := [(3, .int (4)), (2, .null), (0, .ref (ad (1, 0, 0))), (1, .ref (ad (3, 0, i)))]) o dX1_moves_27 rfl rfl (by decide) rfl ?_
            refine y_goto (pc := 30) (tgt := 4) o dX1_moves_30 rfl ?_
            refine y_iload_n (pc := 4) o dX1_moves_4 rfl ?_
            refine y_iconst (pc := 5) (x := 4) o dX1_moves_5 (by decide) ?_
            refine z_icmp_ge (pc := 6) (tgt := 33) o dX1_moves_6 rfl (fun (b19 : ¬ 4 < 4) => ?_) (fun b19 => absurd b19 (by decide))
            refine y_aload_nN (pc := 33) o dX1_moves_33 rfl ?_
            refine y_ifnonnullN (pc := 34) o dX1_moves_34 ?_
            refine y_aload_n (pc := 37) o dX1_moves_37 rfl ?_
            refine z_get (pc := 38) (K := (1, 0, 0)) (v := .int (C.1 (1, 0, 0) 0)) o fl_X1_27 dX1_moves_38 (gl_1 hC) rfl rfl ?_
            refine y_if_eq (pc := 41) (tgt := 48) o dX1_moves_41 rfl (fun (b20 : (C.1 (1, 0, 0) 0) = 0) => ?_) (fun (b20 : ¬ (C.1 (1, 0, 0) 0) = 0) => ?_)
            · refine y_iconst (pc := 48) (x := 0) o dX1_moves_48 (by decide) ?_
              exact y_iret (pc := 49) o dX1_moves_49 rfl rfl (by decide) (by decide) (fun h hp => ⟨congrArg (fun z => some (Value.int z)) (gb_f (p := gmov C 4 i = true) (by simp [gmov, b1, b2, d3, b6, b7, d8, b11, b12, d13, b16, b17, d18, b19, b20])).symm, hp⟩)
            refine y_iconst (pc := 44) (x := 1) o dX1_moves_44 (by decide) ?_
            refine y_goto (pc := 45) (tgt := 49) o dX1_moves_45 rfl ?_
            exact y_iret (pc := 49) o dX1_moves_49 rfl rfl (by decide) (by decide) (fun h hp => ⟨congrArg (fun z => some (Value.int z)) (gb_t (p := gmov C 4 i = true) (by simp [gmov, b1, b2, d3, b6, b7, d8, b11, b12, d13, b16, b17, d18, b19, b20])).symm, hp⟩)
          refine z_top (gdrv_r d18) ?_
          refine y_astore_n (pc := 26) (i := 2) (lv' := [(2, .ref (ad (3, 0, (C.1 (3, 0, (C.1 (3, 0, (C.1 (3, 0, (C.1 (3, 0, i) 1).toNatClampNeg) 1).toNatClampNeg) 1).toNatClampNeg) 1).toNatClampNeg))), (3, .int (3)), (0, .ref (ad (1, 0, 0))), (1, .ref (ad (3, 0, i)))]) o dX1_moves_26 rfl (by decide) rfl ?_
          refine y_iinc (pc := 27) (i := 3) (j := 1) (v := 4) (lv' := [(3, .int (4)), (2, .ref (ad (3, 0, (C.1 (3, 0, (C.1 (3, 0, (C.1 (3, 0, (C.1 (3, 0, i) 1).toNatClampNeg) 1).toNatClampNeg) 1).toNatClampNeg) 1).toNatClampNeg))), (0, .ref (ad (1, 0, 0))), (1, .ref (ad (3, 0, i)))]) o dX1_moves_27 rfl rfl (by decide) rfl ?_
          refine y_goto (pc := 30) (tgt := 4) o dX1_moves_30 rfl ?_
          refine y_iload_n (pc := 4) o dX1_moves_4 rfl ?_
          refine y_iconst (pc := 5) (x := 4) o dX1_moves_5 (by decide) ?_
          refine z_icmp_ge (pc := 6) (tgt := 33) o dX1_moves_6 rfl (fun (b21 : ¬ 4 < 4) => ?_) (fun b21 => absurd b21 (by decide))
          refine y_aload_n (pc := 33) o dX1_moves_33 rfl ?_
          refine y_ifnonnull (pc := 34) (tgt := 48) o dX1_moves_34 rfl ?_
          refine y_iconst (pc := 48) (x := 0) o dX1_moves_48 (by decide) ?_
          exact y_iret (pc := 49) o dX1_moves_49 rfl rfl (by decide) (by decide) (fun h hp => ⟨congrArg (fun z => some (Value.int z)) (gb_f (p := gmov C 4 i = true) (by simp [gmov, b1, b2, d3, b6, b7, d8, b11, b12, d13, b16, b17, d18, b21])).symm, hp⟩)
        refine y_iconst (pc := 20) (x := 0) o dX1_moves_20 (by decide) ?_
        exact y_iret (pc := 21) o dX1_moves_21 rfl rfl (by decide) (by decide) (fun h hp => ⟨congrArg (fun z => some (Value.int z)) (gb_f (p := gmov C 4 i = true) (by simp [gmov, b1, b2, d3, b6, b7, d8, b11, b12, d13, b16, b17])).symm, hp⟩)
      refine y_iconst (pc := 20) (x := 0) o dX1_moves_20 (by decide) ?_
      exact y_iret (pc := 21) o dX1_moves_21 rfl rfl (by decide) (by decide) (fun h hp => ⟨congrArg (fun z => some (Value.int z)) (gb_f (p := gmov C 4 i = true) (by simp [gmov, b1, b2, d3, b6, b7, d8, b11, b12])).symm, hp⟩)
    refine y_iconst (pc := 20) (x := 0) o dX1_moves_20 (by decide) ?_
    exact y_iret (pc := 21) o dX1_moves_21 rfl rfl (by decide) (by decide) (fun h hp => ⟨congrArg (fun z => some (Value.int z)) (gb_f (p := gmov C 4 i = true) (by simp [gmov, b1, b2, d3, b6, b7])).symm, hp⟩)
  refine y_iconst (pc := 20) (x := 0) o dX1_moves_20 (by decide) ?_
  exact y_iret (pc := 21) o dX1_moves_21 rfl rfl (by decide) (by decide) (fun h hp => ⟨congrArg (fun z => some (Value.int z)) (gb_f (p := gmov C 4 i = true) (by simp [gmov, b1, b2])).symm, hp⟩)

theorem kChain {κ : gq_K} {ad : gKey → Nat} {C R : gG} {T : List (Nat × va_E)} (hC : gfix C.2) (hM : gmach C) (i : Nat) (hi : i < 4) : gq_C κ mX1_hangsOnShaft [.ref (ad (3, 0, i))] (gR κ ad (C, R) T) (fun v9 g => v9 = some (.int (gb (gchn C 4 i = true))) ∧ gR κ ad (C, R) T g) (gq_no) := by
  refine gq_enter (by decide +kernel) rfl (Nat.le_of_ble_eq_true rfl) rfl (fun f o => ?_)
  refine y_aload_n (pc := 0) o dX1_hangsOnShaft_0 rfl ?_
  refine y_astore_n (pc := 1) (i := 1) (lv' := [(1, .ref (ad (3, 0, i))), (0, .ref (ad (3, 0, i)))]) o dX1_hangsOnShaft_1 rfl (by decide) rfl ?_
  refine y_iconst (pc := 2) (x := 0) o dX1_hangsOnShaft_2 (by decide) ?_
  refine y_istore_n (pc := 3) (i := 2) (lv' := [(2, .int (0)), (1, .ref (ad (3, 0, i))), (0, .ref (ad (3, 0, i)))]) o dX1_hangsOnShaft_3 rfl (by decide) rfl ?_
  refine y_iload_n (pc := 4) o dX1_hangsOnShaft_4 rfl ?_
  refine y_iconst (pc := 5) (x := 4) o dX1_hangsOnShaft_5 (by decide) ?_
  refine z_icmp_ge (pc := 6) (tgt := 24) o dX1_hangsOnShaft_6 rfl (fun b1 => absurd b1 (by decide)) (fun (b1 : 0 < 4) => ?_)
  refine y_aload_n (pc := 9) o dX1_hangsOnShaft_9 rfl ?_
  refine y_ifnull (pc := 10) o dX1_hangsOnShaft_10 ?_
  refine y_aload_n (pc := 13) o dX1_hangsOnShaft_13 rfl ?_
  refine z_get (pc := 14) (K := (3, 0, i)) (v := gdrv ad (C.1 (3, 0, i) 1)) o fl_X1_34 dX1_hangsOnShaft_14 (gl_3 (gmach_4 hC hi)) rfl rfl ?_
  by_cases d2 : C.1 (3, 0, i) 1 = -1
  · refine z_top (gdrv_n d2) ?_
    refine y_astore_nN (pc := 17) (i := 1) (lv' := [(1, .null), (2, .int (0)), (0, .ref (ad (3, 0, i)))]) o dX1_hangsOnShaft_17 rfl (by decide) rfl ?_
    refine y_iinc (pc := 18) (i := 2) (j := 1) (v := 1) (lv' := [(2, .int (1)), (1, .null), (0, .ref (ad (3, 0, i)))]) o dX1_hangsOnShaft_18 rfl rfl (by decide) rfl ?_
    refine y_goto (pc := 21) (tgt := 4) o dX1_hangsOnShaft_21 rfl ?_
    refine y_iload_n (pc := 4) o dX1_hangsOnShaft_4 rfl ?_
    refine y_iconst (pc := 5) (x := 4) o dX1_hangsOnShaft_5 (by decide) ?_
    refine z_icmp_ge (pc := 6) (tgt := 24) o dX1_hangsOnShaft_6 rfl (fun b3 => absurd b3 (by decide)) (fun (b3 : 1 < 4) => ?_)
    refine y_aload_nN (pc := 9) o dX1_hangsOnShaft_9 rfl ?_
    refine y_ifnullN (pc := 10) (tgt := 24) o dX1_hangsOnShaft_10 rfl ?_
    refine y_aload_nN (pc := 24) o dX1_hangsOnShaft_24 rfl ?_
    refine y_ifnonnullN (pc := 25) o dX1_hangsOnShaft_25 ?_
    refine y_iconst (pc := 28) (x := 1) o dX1_hangsOnShaft_28 (by decide) ?_
    refine y_goto (pc := 29) (tgt := 33) o dX1_hangsOnShaft_29 rfl ?_
    exact y_iret (pc := 33) o dX1_hangsOnShaft_33 rfl rfl (by decide) (by decide) (fun h hp => ⟨congrArg (fun z => some (Value.int z)) (gb_t (p := gchn C 4 i = true) (by simp [gchn, b1, d2, b3])).symm, hp⟩)
  refine z_top (gdrv_r d2) ?_
  refine y_astore_n (pc := 17) (i := 1) (lv' := [(1, .ref (ad (3, 0, (C.1 (3, 0, i) 1).toNatClampNeg))), (2, .int (0)), (0, .ref (ad (3, 0, i)))]) o dX1_hangsOnShaft_17 rfl (by decide) rfl ?_
  refine y_iinc (pc := 18) (i := 2) (j := 1) (v := 1) (lv' := [(2, .int (1)), (1, .ref (ad (3, 0, (C.1 (3, 0, i) 1).toNatClampNeg))), (0, .ref (ad (3, 0, i)))]) o dX1_hangsOnShaft_18 rfl rfl (by decide) rfl ?_
  refine y_goto (pc := 21) (tgt := 4) o dX1_hangsOnShaft_21 rfl ?_
  refine y_iload_n (pc := 4) o dX1_hangsOnShaft_4 rfl ?_
  refine y_iconst (pc := 5) (x := 4) o dX1_hangsOnShaft_5 (by decide) ?_
  refine z_icmp_ge (pc := 6) (tgt := 24) o dX1_hangsOnShaft_6 rfl (fun b4 => absurd b4 (by decide)) (fun (b4 : 1 < 4) => ?_)
  refine y_aload_n (pc := 9) o dX1_hangsOnShaft_9 rfl ?_
  refine y_ifnull (pc := 10) o dX1_hangsOnShaft_10 ?_
  refine y_aload_n (pc := 13) o dX1_hangsOnShaft_13 rfl ?_
  refine z_get (pc := 14) (K := (3, 0, (C.1 (3, 0, i) 1).toNatClampNeg)) (v := gdrv ad (C.1 (3, 0, (C.1 (3, 0, i) 1).toNatClampNeg) 1)) o fl_X1_34 dX1_hangsOnShaft_14 (gl_3 (gmach_4 hC (hM i d2))) rfl rfl ?_
  by_cases d5 : C.1 (3, 0, (C.1 (3, 0, i) 1).toNatClampNeg) 1 = -1
  · refine z_top (gdrv_n d5) ?_
    refine y_astore_nN (pc := 17) (i := 1) (lv' := [(1, .null), (2, .int (1)), (0, .ref (ad (3, 0, i)))]) o dX1_hangsOnShaft_17 rfl (by decide) rfl ?_
    refine y_iinc (pc := 18) (i := 2) (j := 1) (v := 2) (lv' := [(2, .int (2)), (1, .null), (0, .ref (ad (3, 0, i)))]) o dX1_hangsOnShaft_18 rfl rfl (by decide) rfl ?_
    refine y_goto (pc := 21) (tgt := 4) o dX1_hangsOnShaft_21 rfl ?_
    refine y_iload_n (pc := 4) o dX1_hangsOnShaft_4 rfl ?_
    refine y_iconst (pc := 5) (x := 4) o dX1_hangsOnShaft_5 (by decide) ?_
    refine z_icmp_ge (pc := 6) (tgt := 24) o dX1_hangsOnShaft_6 rfl (fun b6 => absurd b6 (by decide)) (fun (b6 : 2 < 4) => ?_)
    refine y_aload_nN (pc := 9) o dX1_hangsOnShaft_9 rfl ?_
    refine y_ifnullN (pc := 10) (tgt := 24) o dX1_hangsOnShaft_10 rfl ?_
    refine y_aload_nN (pc := 24) o dX1_hangsOnShaft_24 rfl ?_
    refine y_ifnonnullN (pc := 25) o dX1_hangsOnShaft_25 ?_
    refine y_iconst (pc := 28) (x := 1) o dX1_hangsOnShaft_28 (by decide) ?_
    refine y_goto (pc := 29) (tgt := 33) o dX1_hangsOnShaft_29 rfl ?_
    exact y_iret (pc := 33) o dX1_hangsOnShaft_33 rfl rfl (by decide) (by decide) (fun h hp => ⟨congrArg (fun z => some (Value.int z)) (gb_t (p := gchn C 4 i = true) (by simp [gchn, b1, d2, b4, d5, b6])).symm, hp⟩)
  refine z_top (gdrv_r d5) ?_
  refine y_astore_n (pc := 17) (i := 1) (lv' := [(1, .ref (ad (3, 0, (C.1 (3, 0, (C.1 (3, 0, i) 1).toNatClampNeg) 1).toNatClampNeg))), (2, .int (1)), (0, .ref (ad (3, 0, i)))]) o dX1_hangsOnShaft_17 rfl (by decide) rfl ?_
  refine y_iinc (pc := 18) (i := 2) (j := 1) (v := 2) (lv' := [(2, .int (2)), (1, .ref (ad (3, 0, (C.1 (3, 0, (C.1 (3, 0, i) 1).toNatClampNeg) 1).toNatClampNeg))), (0, .ref (ad (3, 0, i)))]) o dX1_hangsOnShaft_18 rfl rfl (by decide) rfl ?_
  refine y_goto (pc := 21) (tgt := 4) o dX1_hangsOnShaft_21 rfl ?_
  refine y_iload_n (pc := 4) o dX1_hangsOnShaft_4 rfl ?_
  refine y_iconst (pc := 5) (x := 4) o dX1_hangsOnShaft_5 (by decide) ?_
  refine z_icmp_ge (pc := 6) (tgt := 24) o dX1_hangsOnShaft_6 rfl (fun b7 => absurd b7 (by decide)) (fun (b7 : 2 < 4) => ?_)
  refine y_aload_n (pc := 9) o dX1_hangsOnShaft_9 rfl ?_
  refine y_ifnull (pc := 10) o dX1_hangsOnShaft_10 ?_
  refine y_aload_n (pc := 13) o dX1_hangsOnShaft_13 rfl ?_
  refine z_get (pc := 14) (K := (3, 0, (C.1 (3, 0, (C.1 (3, 0, i) 1).toNatClampNeg) 1).toNatClampNeg)) (v := gdrv ad (C.1 (3, 0, (C.1 (3, 0, (C.1 (3, 0, i) 1).toNatClampNeg) 1).toNatClampNeg) 1)) o fl_X1_34 dX1_hangsOnShaft_14 (gl_3 (gmach_4 hC (hM ((C.1 (3, 0, i) 1).toNatClampNeg) d5))) rfl rfl ?_
  by_cases d8 : C.1 (3, 0, (C.1 (3, 0, (C.1 (3, 0, i) 1).toNatClampNeg) 1).toNatClampNeg) 1 = -1
  · refine z_top (gdrv_n d8) ?_
    refine y_astore_nN (pc := 17) (i := 1) (lv' := [(1, .null), (2, .int (2)), (0, .ref (ad (3, 0, i)))]) o dX1_hangsOnShaft_17 rfl (by decide) rfl ?_
    refine y_iinc (pc := 18) (i := 2) (j := 1) (v := 3) (lv' := [(2, .int (3)), (1, .null), (0, .ref (ad (3, 0, i)))]) o dX1_hangsOnShaft_18 rfl rfl (by decide) rfl ?_
    refine y_goto (pc := 21) (tgt := 4) o dX1_hangsOnShaft_21 rfl ?_
    refine y_iload_n (pc := 4) o dX1_hangsOnShaft_4 rfl ?_
    refine y_iconst (pc := 5) (x := 4) o dX1_hangsOnShaft_5 (by decide) ?_
    refine z_icmp_ge (pc := 6) (tgt := 24) o dX1_hangsOnShaft_6 rfl (fun b9 => absurd b9 (by decide)) (fun (b9 : 3 < 4) => ?_)
    refine y_aload_nN (pc := 9) o dX1_hangsOnShaft_9 rfl ?_
    refine y_ifnullN (pc := 10) (tgt := 24) o dX1_hangsOnShaft_10 rfl ?_
    refine y_aload_nN (pc := 24) o dX1_hangsOnShaft_24 rfl ?_
    refine y_ifnonnullN (pc := 25) o dX1_hangsOnShaft_25 ?_
    refine y_iconst (pc := 28) (x := 1) o dX1_hangsOnShaft_28 (by decide) ?_
    refine y_goto (pc := 29) (tgt := 33) o dX1_hangsOnShaft_29 rfl ?_
    exact y_iret (pc := 33) o dX1_hangsOnShaft_33 rfl rfl (by decide) (by decide) (fun h hp => ⟨congrArg (fun z => some (Value.int z)) (gb_t (p := gchn C 4 i = true) (by simp [gchn, b1, d2, b4, d5, b7, d8, b9])).symm, hp⟩)
  refine z_top (gdrv_r d8) ?_
  refine y_astore_n (pc := 17) (i := 1) (lv' := [(1, .ref (ad (3, 0, (C.1 (3, 0, (C.1 (3, 0, (C.1 (3, 0, i) 1).toNatClampNeg) 1).toNatClampNeg) 1).toNatClampNeg))), (2, .int (2)), (0, .ref (ad (3, 0, i)))]) o dX1_hangsOnShaft_17 rfl (by decide) rfl ?_
  refine y_iinc (pc := 18) (i := 2) (j := 1) (v := 3) (lv' := [(2, .int (3)), (1, .ref (ad (3, 0, (C.1 (3, 0, (C.1 (3, 0, (C.1 (3, 0, i) 1).toNatClampNeg) 1).toNatClampNeg) 1).toNatClampNeg))), (0, .ref (ad (3, 0, i)))]) o dX1_hangsOnShaft_18 rfl rfl (by decide) rfl ?_
  refine y_goto (pc := 21) (tgt := 4) o dX1_hangsOnShaft_21 rfl ?_
  refine y_iload_n (pc := 4) o dX1_hangsOnShaft_4 rfl ?_
  refine y_iconst (pc := 5) (x := 4) o dX1_hangsOnShaft_5 (by decide) ?_
  refine z_icmp_ge (pc := 6) (tgt := 24) o dX1_hangsOnShaft_6 rfl (fun b10 => absurd b10 (by decide)) (fun (b10 : 3 < 4) => ?_)
  refine y_aload_n (pc := 9) o dX1_hangsOnShaft_9 rfl ?_
  refine y_ifnull (pc := 10) o dX1_hangsOnShaft_10 ?_
  refine y_aload_n (pc := 13) o dX1_hangsOnShaft_13 rfl ?_
  refine z_get (pc := 14) (K := (3, 0, (C.1 (3, 0, (C.1 (3, 0, (C.1 (3, 0, i) 1).toNatClampNeg) 1).toNatClampNeg) 1).toNatClampNeg)) (v := gdrv ad (C.1 (3, 0, (C.1 (3, 0, (C.1 (3, 0, (C.1 (3, 0, i) 1).toNatClampNeg) 1).toNatClampNeg) 1).toNatClampNeg) 1)) o fl_X1_34 dX1_hangsOnShaft_14 (gl_3 (gmach_4 hC (hM ((C.1 (3, 0, (C.1 (3, 0, i) 1).toNatClampNeg) 1).toNatClampNeg) d8))) rfl rfl ?_
  by_cases d11 : C.1 (3, 0, (C.1 (3, 0, (C.1 (3, 0, (C.1 (3, 0, i) 1).toNatClampNeg) 1).toNatClampNeg) 1).toNatClampNeg) 1 = -1
  · refine z_top (gdrv_n d11) ?_
    refine y_astore_nN (pc := 17) (i := 1) (lv' := [(1, .null), (2, .int (3)), (0, .ref (ad (3, 0, i)))]) o dX1_hangsOnShaft_17 rfl (by decide) rfl ?_
    refine y_iinc (pc := 18) (i := 2) (j := 1) (v := 4) (lv' := [(2, .int (4)), (1, .null), (0, .ref (ad (3, 0, i)))]) o dX1_hangsOnShaft_18 rfl rfl (by decide) rfl ?_
    refine y_goto (pc := 21) (tgt := 4) o dX1_hangsOnShaft_21 rfl ?_
    refine y_iload_n (pc := 4) o dX1_hangsOnShaft_4 rfl ?_
    refine y_iconst (pc := 5) (x := 4) o dX1_hangsOnShaft_5 (by decide) ?_
    refine z_icmp_ge (pc := 6) (tgt := 24) o dX1_hangsOnShaft_6 rfl (fun (b12 : ¬ 4 < 4) => ?_) (fun b12 => absurd b12 (by decide))
    refine y_aload_nN (pc := 24) o dX1_hangsOnShaft_24 rfl ?_
    refine y_ifnonnullN (pc := 25) o dX1_hangsOnShaft_25 ?_
    refine y_iconst (pc := 28) (x := 1) o dX1_hangsOnShaft_28 (by decide) ?_
    refine y_goto (pc := 29) (tgt := 33) o dX1_hangsOnShaft_29 rfl ?_
    exact y_iret (pc := 33) o dX1_hangsOnShaft_33 rfl rfl (by decide) (by decide) (fun h hp => ⟨congrArg (fun z => some (Value.int z)) (gb_t (p := gchn C 4 i = true) (by simp [gchn, b1, d2, b4, d5, b7, d8, b10, d11, b12])).symm, hp⟩)
  refine z_top (gdrv_r d11) ?_
  refine y_astore_n (pc := 17) (i := 1) (lv' := [(1, .ref (ad (3, 0, (C.1 (3, 0, (C.1 (3, 0, (C.1 (3, 0, (C.1 (3, 0, i) 1).toNatClampNeg) 1).toNatClampNeg) 1).toNatClampNeg) 1).toNatClampNeg))), (2, .int (3)), (0, .ref (ad (3, 0, i)))]) o dX1_hangsOnShaft_17 rfl (by decide) rfl ?_
  refine y_iinc (pc := 18) (i := 2) (j := 1) (v := 4) (lv' := [(2, .int (4)), (1, .ref (ad (3, 0, (C.1 (3, 0, (C.1 (3, 0, (C.1 (3, 0, (C.1 (3, 0, i) 1).toNatClampNeg) 1).toNatClampNeg) 1).toNatClampNeg) 1).toNatClampNeg))), (0, .ref (ad (3, 0, i)))]) o dX1_hangsOnShaft_18 rfl rfl (by decide) rfl ?_
  refine y_goto (pc := 21) (tgt := 4) o dX1_hangsOnShaft_21 rfl ?_
  refine y_iload_n (pc := 4) o dX1_hangsOnShaft_4 rfl ?_
  refine y_iconst (pc := 5) (x := 4) o dX1_hangsOnShaft_5 (by decide) ?_
  refine z_icmp_ge (pc := 6) (tgt := 24) o dX1_hangsOnShaft_6 rfl (fun (b13 : ¬ 4 < 4) => ?_) (fun b13 => absurd b13 (by decide))
  refine y_aload_n (pc := 24) o dX1_hangsOnShaft_24 rfl ?_
  refine y_ifnonnull (pc := 25) (tgt := 32) o dX1_hangsOnShaft_25 rfl ?_
  refine y_iconst (pc := 32) (x := 0) o dX1_hangsOnShaft_32 (by decide) ?_
  exact y_iret (pc := 33) o dX1_hangsOnShaft_33 rfl rfl (by decide) (by decide) (fun h hp => ⟨congrArg (fun z => some (Value.int z)) (gb_f (p := gchn C 4 i = true) (by simp [gchn, b1, d2, b4, d5, b7, d8, b10, d11, b13])).symm, hp⟩)

theorem kHang {κ : gq_K} {ad : gKey → Nat} {C R : gG} {T : List (Nat × va_E)} (hC : gfix C.2) (hM : gmach C) (i j : Nat) (hi : i < 4) (hj : j < 4) : gq_C κ mX1_hangsOn [.ref (ad (1, 0, 0)), .ref (ad (3, 0, i)), .ref (ad (3, 0, j))] (gR κ ad (C, R) T) (fun v9 g => v9 = some (.int (gb (ghang C j 4 i = true))) ∧ gR κ ad (C, R) T g) (gq_no) := by
  refine gq_enter (by decide +kernel) rfl (Nat.le_of_ble_eq_true rfl) rfl (fun f o => ?_)
  refine z_fact (fun h hr => hr.mach hC) (fun hinj => ?_)
  refine y_aload_n (pc := 0) o dX1_hangsOn_0 rfl ?_
  refine y_astore_n (pc := 1) (i := 3) (lv' := [(3, .ref (ad (3, 0, i))), (0, .ref (ad (1, 0, 0))), (1, .ref (ad (3, 0, i))), (2, .ref (ad (3, 0, j)))]) o dX1_hangsOn_1 rfl (by decide) rfl ?_
  refine y_iconst (pc := 2) (x := 0) o dX1_hangsOn_2 (by decide) ?_
  refine y_istore (pc := 3) (i := 4) (lv' := [(4, .int (0)), (3, .ref (ad (3, 0, i))), (0, .ref (ad (1, 0, 0))), (1, .ref (ad (3, 0, i))), (2, .ref (ad (3, 0, j)))]) o dX1_hangsOn_3 (by decide) rfl ?_
  refine y_iload (pc := 5) o dX1_hangsOn_5 rfl ?_
  refine y_iconst (pc := 7) (x := 4) o dX1_hangsOn_7 (by decide) ?_
  refine z_icmp_ge (pc := 8) (tgt := 33) o dX1_hangsOn_8 rfl (fun b1 => absurd b1 (by decide)) (fun (b1 : 0 < 4) => ?_)
  refine y_aload_n (pc := 11) o dX1_hangsOn_11 rfl ?_
  refine y_ifnull (pc := 12) o dX1_hangsOn_12 ?_
  refine y_aload_n (pc := 15) o dX1_hangsOn_15 rfl ?_
  refine y_aload_n (pc := 16) o dX1_hangsOn_16 rfl ?_
  by_cases e2 : i = j
  · refine y_acmp_ne (pc := 17) (tgt := 22) (x := some (ad (3, 0, i))) (y := some (ad (3, 0, j))) o dX1_hangsOn_17 rfl rfl rfl (fun z => absurd (by rw [e2]) z) (fun _ => ?_)
    refine y_iconst (pc := 20) (x := 1) o dX1_hangsOn_20 (by decide) ?_
    exact y_iret (pc := 21) o dX1_hangsOn_21 rfl rfl (by decide) (by decide) (fun h hp => ⟨congrArg (fun z => some (Value.int z)) (gb_t (p := ghang C j 4 i = true) (by simp [ghang, b1, e2])).symm, hp⟩)
  refine y_acmp_ne (pc := 17) (tgt := 22) (x := some (ad (3, 0, i))) (y := some (ad (3, 0, j))) o dX1_hangsOn_17 rfl rfl rfl (fun _ => ?_) (fun z => absurd (hinj _ _ hi hj (by simpa using z)) e2)
  refine y_aload_n (pc := 22) o dX1_hangsOn_22 rfl ?_
  refine z_get (pc := 23) (K := (3, 0, i)) (v := gdrv ad (C.1 (3, 0, i) 1)) o fl_X1_34 dX1_hangsOn_23 (gl_3 (gmach_4 hC hi)) rfl rfl ?_
  by_cases d3 : C.1 (3, 0, i) 1 = -1
  · refine z_top (gdrv_n d3) ?_
    refine y_astore_nN (pc := 26) (i := 3) (lv' := [(3, .null), (4, .int (0)), (0, .ref (ad (1, 0, 0))), (1, .ref (ad (3, 0, i))), (2, .ref (ad (3, 0, j)))]) o dX1_hangsOn_26 rfl (by decide) rfl ?_
    refine y_iinc (pc := 27) (i := 4) (j := 1) (v := 1) (lv' := [(4, .int (1)), (3, .null), (0, .ref (ad (1, 0, 0))), (1, .ref (ad (3, 0, i))), (2, .ref (ad (3, 0, j)))]) o dX1_hangsOn_27 rfl rfl (by decide) rfl ?_
    refine y_goto (pc := 30) (tgt := 5) o dX1_hangsOn_30 rfl ?_
    refine y_iload (pc := 5) o dX1_hangsOn_5 rfl ?_
    refine y_iconst (pc := 7) (x := 4) o dX1_hangsOn_7 (by decide) ?_
    refine z_icmp_ge (pc := 8) (tgt := 33) o dX1_hangsOn_8 rfl (fun b4 => absurd b4 (by decide)) (fun (b4 : 1 < 4) => ?_)
    refine y_aload_nN (pc := 11) o dX1_hangsOn_11 rfl ?_
    refine y_ifnullN (pc := 12) (tgt := 33) o dX1_hangsOn_12 rfl ?_
    refine y_iconst (pc := 33) (x := 0) o dX1_hangsOn_33 (by decide) ?_
    exact y_iret (pc := 34) o dX1_hangsOn_34 rfl rfl (by decide) (by decide) (fun h hp => ⟨congrArg (fun z => some (Value.int z)) (gb_f (p := ghang C j 4 i = true) (by simp [ghang, b1, e2, d3, b4])).symm, hp⟩)
  refine z_top (gdrv_r d3) ?_
  refine y_astore_n (pc := 26) (i := 3) (lv' := [(3, .ref (ad (3, 0, (C.1 (3, 0, i) 1).toNatClampNeg))), (4, .int (0)), (0, .ref (ad (1, 0, 0))), (1, .ref (ad (3, 0, i))), (2, .ref (ad (3, 0, j)))]) o dX1_hangsOn_26 rfl (by decide) rfl ?_
  refine y_iinc (pc := 27) (i := 4) (j := 1) (v := 1) (lv' := [(4, .int (1)), (3, .ref (ad (3, 0, (C.1 (3, 0, i) 1).toNatClampNeg))), (0, .ref (ad (1, 0, 0))), (1, .ref (ad (3, 0, i))), (2, .ref (ad (3, 0, j)))]) o dX1_hangsOn_27 rfl rfl (by decide) rfl ?_
  refine y_goto (pc := 30) (tgt := 5) o dX1_hangsOn_30 rfl ?_
  refine y_iload (pc := 5) o dX1_hangsOn_5 rfl ?_
  refine y_iconst (pc := 7) (x := 4) o dX1_hangsOn_7 (by decide) ?_
  refine z_icmp_ge (pc := 8) (tgt := 33) o dX1_hangsOn_8 rfl (fun b5 => absurd b5 (by decide)) (fun (b5 : 1 < 4) => ?_)
  refine y_aload_n (pc := 11) o dX1_hangsOn_11 rfl ?_
  refine y_ifnull (pc := 12) o dX1_hangsOn_12 ?_
  refine y_aload_n (pc := 15) o dX1_hangsOn_15 rfl ?_
  refine y_aload_n (pc := 16) o dX1_hangsOn_16 rfl ?_
  by_cases e6 : (C.1 (3, 0, i) 1).toNatClampNeg = j
  · refine y_acmp_ne (pc := 17) (tgt := 22) (x := some (ad (3, 0, (C.1 (3, 0, i) 1).toNatClampNeg))) (y := some (ad (3, 0, j))) o dX1_hangsOn_17 rfl rfl rfl (fun z => absurd (by rw [e6]) z) (fun _ => ?_)
    refine y_iconst (pc := 20) (x := 1) o dX1_hangsOn_20 (by decide) ?_
    exact y_iret (pc := 21) o dX1_hangsOn_21 rfl rfl (by decide) (by decide) (fun h hp => ⟨congrArg (fun z => some (Value.int z)) (gb_t (p := ghang C j 4 i = true) (by simp [ghang, b1, e2, d3, b5, e6])).symm, hp⟩)
  refine y_acmp_ne (pc := 17) (tgt := 22) (x := some (ad (3, 0, (C.1 (3, 0, i) 1).toNatClampNeg))) (y := some (ad (3, 0, j))) o dX1_hangsOn_17 rfl rfl rfl (fun _ => ?_) (fun z => absurd (hinj _ _ (hM i d3) hj (by simpa using z)) e6)
  refine y_aload_n (pc := 22) o dX1_hangsOn_22 rfl ?_
  refine z_get (pc := 23) (K := (3, 0, (C.1 (3, 0, i) 1).toNatClampNeg)) (v := gdrv ad (C.1 (3, 0, (C.1 (3, 0, i) 1).toNatClampNeg) 1)) o fl_X1_34 dX1_hangsOn_23 (gl_3 (gmach_4 hC (hM i d3))) rfl rfl ?_
  by_cases d7 : C.1 (3, 0, (C.1 (3, 0, i) 1).toNatClampNeg) 1 = -1
  · refine z_top (gdrv_n d7) ?_
    refine y_astore_nN (pc := 26) (i := 3) (lv' := [(3, .null), (4, .int (1)), (0, .ref (ad (1, 0, 0))), (1, .ref (ad (3, 0, i))), (2, .ref (ad (3, 0, j)))]) o dX1_hangsOn_26 rfl (by decide) rfl ?_
    refine y_iinc (pc := 27) (i := 4) (j := 1) (v := 2) (lv' := [(4, .int (2)), (3, .null), (0, .ref (ad (1, 0, 0))), (1, .ref (ad (3, 0, i))), (2, .ref (ad (3, 0, j)))]) o dX1_hangsOn_27 rfl rfl (by decide) rfl ?_
    refine y_goto (pc := 30) (tgt := 5) o dX1_hangsOn_30 rfl ?_
    refine y_iload (pc := 5) o dX1_hangsOn_5 rfl ?_
    refine y_iconst (pc := 7) (x := 4) o dX1_hangsOn_7 (by decide) ?_
    refine z_icmp_ge (pc := 8) (tgt := 33) o dX1_hangsOn_8 rfl (fun b8 => absurd b8 (by decide)) (fun (b8 : 2 < 4) => ?_)
    refine y_aload_nN (pc := 11) o dX1_hangsOn_11 rfl ?_
    refine y_ifnullN (pc := 12) (tgt := 33) o dX1_hangsOn_12 rfl ?_
    refine y_iconst (pc := 33) (x := 0) o dX1_hangsOn_33 (by decide) ?_
    exact y_iret (pc := 34) o dX1_hangsOn_34 rfl rfl (by decide) (by decide) (fun h hp => ⟨congrArg (fun z => some (Value.int z)) (gb_f (p := ghang C j 4 i = true) (by simp [ghang, b1, e2, d3, b5, e6, d7, b8])).symm, hp⟩)
  refine z_top (gdrv_r d7) ?_
  refine y_astore_n (pc := 26) (i := 3) (lv' := [(3, .ref (ad (3, 0, (C.1 (3, 0, (C.1 (3, 0, i) 1).toNatClampNeg) 1).toNatClampNeg))), (4, .int (1)), (0, .ref (ad (1, 0, 0))), (1, .ref (ad (3, 0, i))), (2, .ref (ad (3, 0, j)))]) o dX1_hangsOn_26 rfl (by decide) rfl ?_
  refine y_iinc (pc := 27) (i := 4) (j := 1) (v := 2) (lv' := [(4, .int (2)), (3, .ref (ad (3, 0, (C.1 (3, 0, (C.1 (3, 0, i) 1).toNatClampNeg) 1).toNatClampNeg))), (0, .ref (ad (1, 0, 0))), (1, .ref (ad (3, 0, i))), (2, .ref (ad (3, 0, j)))]) o dX1_hangsOn_27 rfl rfl (by decide) rfl ?_
  refine y_goto (pc := 30) (tgt := 5) o dX1_hangsOn_30 rfl ?_
  refine y_iload (pc := 5) o dX1_hangsOn_5 rfl ?_
  refine y_iconst (pc := 7) (x := 4) o dX1_hangsOn_7 (by decide) ?_
  refine z_icmp_ge (pc := 8) (tgt := 33) o dX1_hangsOn_8 rfl (fun b9 => absurd b9 (by decide)) (fun (b9 : 2 < 4) => ?_)
  refine y_aload_n (pc := 11) o dX1_hangsOn_11 rfl ?_
  refine y_ifnull (pc := 12) o dX1_hangsOn_12 ?_
  refine y_aload_n (pc := 15) o dX1_hangsOn_15 rfl ?_
  refine y_aload_n (pc := 16) o dX1_hangsOn_16 rfl ?_
  by_cases e10 : (C.1 (3, 0, (C.1 (3, 0, i) 1).toNatClampNeg) 1).toNatClampNeg = j
  · refine y_acmp_ne (pc := 17) (tgt := 22) (x := some (ad (3, 0, (C.1 (3, 0, (C.1 (3, 0, i) 1).toNatClampNeg) 1).toNatClampNeg))) (y := some (ad (3, 0, j))) o dX1_hangsOn_17 rfl rfl rfl (fun z => absurd (by rw [e10]) z) (fun _ => ?_)
    refine y_iconst (pc := 20) (x := 1) o dX1_hangsOn_20 (by decide) ?_
    exact y_iret (pc := 21) o dX1_hangsOn_21 rfl rfl (by decide) (by decide) (fun h hp => ⟨congrArg (fun z => some (Value.int z)) (gb_t (p := ghang C j 4 i = true) (by simp [ghang, b1, e2, d3, b5, e6, d7, b9, e10])).symm, hp⟩)
  refine y_acmp_ne (pc := 17) (tgt := 22) (x := some (ad (3, 0, (C.1 (3, 0, (C.1 (3, 0, i) 1).toNatClampNeg) 1).toNatClampNeg))) (y := some (ad (3, 0, j))) o dX1_hangsOn_17 rfl rfl rfl (fun _ => ?_) (fun z => absurd (hinj _ _ (hM ((C.1 (3, 0, i) 1).toNatClampNeg) d7) hj (by simpa using z)) e10)
  refine y_aload_n (pc := 22) o dX1_hangsOn_22 rfl ?_
  refine z_get (pc := 23) (K := (3, 0, (C.1 (3, 0, (C.1 (3, 0, i) 1).toNatClampNeg) 1).toNatClampNeg)) (v := gdrv ad (C.1 (3, 0, (C.1 (3, 0, (C.1 (3, 0, i) 1).toNatClampNeg) 1).toNatClampNeg) 1)) o fl_X1_34 dX1_hangsOn_23 (gl_3 (gmach_4 hC (hM ((C.1 (3, 0, i) 1).toNatClampNeg) d7))) rfl rfl ?_
  by_cases d11 : C.1 (3, 0, (C.1 (3, 0, (C.1 (3, 0, i) 1).toNatClampNeg) 1).toNatClampNeg) 1 = -1
  · refine z_top (gdrv_n d11) ?_
    refine y_astore_nN (pc := 26) (i := 3) (lv' := [(3, .null), (4, .int (2)), (0, .ref (ad (1, 0, 0))), (1, .ref (ad (3, 0, i))), (2, .ref (ad (3, 0, j)))]) o dX1_hangsOn_26 rfl (by decide) rfl ?_
    refine y_iinc (pc := 27) (i := 4) (j := 1) (v := 3) (lv' := [(4, .int (3)), (3, .null), (0, .ref (ad (1, 0, 0))), (1, .ref (ad (3, 0, i))), (2, .ref (ad (3, 0, j)))]) o dX1_hangsOn_27 rfl rfl (by decide) rfl ?_
    refine y_goto (pc := 30) (tgt := 5) o dX1_hangsOn_30 rfl ?_
    refine y_iload (pc := 5) o dX1_hangsOn_5 rfl ?_
    refine y_iconst (pc := 7) (x := 4) o dX1_hangsOn_7 (by decide) ?_
    refine z_icmp_ge (pc := 8) (tgt := 33) o dX1_hangsOn_8 rfl (fun b12 => absurd b12 (by decide)) (fun (b12 : 3 < 4) => ?_)
    refine y_aload_nN (pc := 11) o dX1_hangsOn_11 rfl ?_
    refine y_ifnullN (pc := 12) (tgt := 33) o dX1_hangsOn_12 rfl ?_
    refine y_iconst (pc := 33) (x := 0) o dX1_hangsOn_33 (by decide) ?_
    exact y_iret (pc := 34) o dX1_hangsOn_34 rfl rfl (by decide) (by decide) (fun h hp => ⟨congrArg (fun z => some (Value.int z)) (gb_f (p := ghang C j 4 i = true) (by simp [ghang, b1, e2, d3, b5, e6, d7, b9, e10, d11, b12])).symm, hp⟩)
  refine z_top (gdrv_r d11) ?_
  refine y_astore_n (pc := 26) (i := 3) (lv' := [(3, .ref (ad (3, 0, (C.1 (3, 0, (C.1 (3, 0, (C.1 (3, 0, i) 1).toNatClampNeg) 1).toNatClampNeg) 1).toNatClampNeg))), (4, .int (2)), (0, .ref (ad (1, 0, 0))), (1, .ref (ad (3, 0, i))), (2, .ref (ad (3, 0, j)))]) o dX1_hangsOn_26 rfl (by decide) rfl ?_
  refine y_iinc (pc := 27) (i := 4) (j := 1) (v := 3) (lv' := [(4, .int (3)), (3, .ref (ad (3, 0, (C.1 (3, 0, (C.1 (3, 0, (C.1 (3, 0, i) 1).toNatClampNeg) 1).toNatClampNeg) 1).toNatClampNeg))), (0, .ref (ad (1, 0, 0))), (1, .ref (ad (3, 0, i))), (2, .ref (ad (3, 0, j)))]) o dX1_hangsOn_27 rfl rfl (by decide) rfl ?_
  refine y_goto (pc := 30) (tgt := 5) o dX1_hangsOn_30 rfl ?_
  refine y_iload (pc := 5) o dX1_hangsOn_5 rfl ?_
  refine y_iconst (pc := 7) (x := 4) o dX1_hangsOn_7 (by decide) ?_
  refine z_icmp_ge (pc := 8) (tgt := 33) o dX1_hangsOn_8 rfl (fun b13 => absurd b13 (by decide)) (fun (b13 : 3 < 4) => ?_)
  refine y_aload_n (pc := 11) o dX1_hangsOn_11 rfl ?_
  refine y_ifnull (pc := 12) o dX1_hangsOn_12 ?_
  refine y_aload_n (pc := 15) o dX1_hangsOn_15 rfl ?_
  refine y_aload_n (pc := 16) o dX1_hangsOn_16 rfl ?_
  by_cases e14 : (C.1 (3, 0, (C.1 (3, 0, (C.1 (3, 0, i) 1).toNatClampNeg) 1).toNatClampNeg) 1).toNatClampNeg = j
  · refine y_acmp_ne (pc := 17) (tgt := 22) (x := some (ad (3, 0, (C.1 (3, 0, (C.1 (3, 0, (C.1 (3, 0, i) 1).toNatClampNeg) 1).toNatClampNeg) 1).toNatClampNeg))) (y := some (ad (3, 0, j))) o dX1_hangsOn_17 rfl rfl rfl (fun z => absurd (by rw [e14]) z) (fun _ => ?_)
    refine y_iconst (pc := 20) (x := 1) o dX1_hangsOn_20 (by decide) ?_
    exact y_iret (pc := 21) o dX1_hangsOn_21 rfl rfl (by decide) (by decide) (fun h hp => ⟨congrArg (fun z => some (Value.int z)) (gb_t (p := ghang C j 4 i = true) (by simp [ghang, b1, e2, d3, b5, e6, d7, b9, e10, d11, b13, e14])).symm, hp⟩)
  refine y_acmp_ne (pc := 17) (tgt := 22) (x := some (ad (3, 0, (C.1 (3, 0, (C.1 (3, 0, (C.1 (3, 0, i) 1).toNatClampNeg) 1).toNatClampNeg) 1).toNatClampNeg))) (y := some (ad (3, 0, j))) o dX1_hangsOn_17 rfl rfl rfl (fun _ => ?_) (fun z => absurd (hinj _ _ (hM ((C.1 (3, 0, (C.1 (3, 0, i) 1).toNatClampNeg) 1).toNatClampNeg) d11) hj (by simpa using z)) e14)
  refine y_aload_n (pc := 22) o dX1_hangsOn_22 rfl ?_
  refine z_get (pc := 23) (K := (3, 0, (C.1 (3, 0, (C.1 (3, 0, (C.1 (3, 0, i) 1).toNatClampNeg) 1).toNatClampNeg) 1).toNatClampNeg)) (v := gdrv ad (C.1 (3, 0, (C.1 (3, 0, (C.1 (3, 0, (C.1 (3, 0, i) 1).toNatClampNeg) 1).toNatClampNeg) 1).toNatClampNeg) 1)) o fl_X1_34 dX1_hangsOn_23 (gl_3 (gmach_4 hC (hM ((C.1 (3, 0, (C.1 (3, 0, i) 1).toNatClampNeg) 1).toNatClampNeg) d11))) rfl rfl ?_
  by_cases d15 : C.1 (3, 0, (C.1 (3, 0, (C.1 (3, 0, (C.1 (3, 0, i) 1).toNatClampNeg) 1).toNatClampNeg) 1).toNatClampNeg) 1 = -1
  · refine z_top (gdrv_n d15) ?_
    refine y_astore_nN (pc := 26) (i := 3) (lv' := [(3, .null), (4, .int (3)), (0, .ref (ad (1, 0, 0))), (1, .ref (ad (3, 0, i))), (2, .ref (ad (3, 0, j)))]) o dX1_hangsOn_26 rfl (by decide) rfl ?_
    refine y_iinc (pc := 27) (i := 4) (j := 1) (v := 4) (lv' := [(4, .int (4)), (3, .null), (0, .ref (ad (1, 0, 0))), (1, .ref (ad (3, 0, i))), (2, .ref (ad (3, 0, j)))]) o dX1_hangsOn_27 rfl rfl (by decide) rfl ?_
    refine y_goto (pc := 30) (tgt := 5) o dX1_hangsOn_30 rfl ?_
    refine y_iload (pc := 5) o dX1_hangsOn_5 rfl ?_
    refine y_iconst (pc := 7) (x := 4) o dX1_hangsOn_7 (by decide) ?_
    refine z_icmp_ge (pc := 8) (tgt := 33) o dX1_hangsOn_8 rfl (fun (b16 : ¬ 4 < 4) => ?_) (fun b16 => absurd b16 (by decide))
    refine y_iconst (pc := 33) (x := 0) o dX1_hangsOn_33 (by decide) ?_
    exact y_iret (pc := 34) o dX1_hangsOn_34 rfl rfl (by decide) (by decide) (fun h hp => ⟨congrArg (fun z => some (Value.int z)) (gb_f (p := ghang C j 4 i = true) (by simp [ghang, b1, e2, d3, b5, e6, d7, b9, e10, d11, b13, e14, d15, b16])).symm, hp⟩)
  refine z_top (gdrv_r d15) ?_
  refine y_astore_n (pc := 26) (i := 3) (lv' := [(3, .ref (ad (3, 0, (C.1 (3, 0, (C.1 (3, 0, (C.1 (3, 0, (C.1 (3, 0, i) 1).toNatClampNeg) 1).toNatClampNeg) 1).toNatClampNeg) 1).toNatClampNeg))), (4, .int (3)), (0, .ref (ad (1, 0, 0))), (1, .ref (ad (3, 0, i))), (2, .ref (ad (3, 0, j)))]) o dX1_hangsOn_26 rfl (by decide) rfl ?_
  refine y_iinc (pc := 27) (i := 4) (j := 1) (v := 4) (lv' := [(4, .int (4)), (3, .ref (ad (3, 0, (C.1 (3, 0, (C.1 (3, 0, (C.1 (3, 0, (C.1 (3, 0, i) 1).toNatClampNeg) 1).toNatClampNeg) 1).toNatClampNeg) 1).toNatClampNeg))), (0, .ref (ad (1, 0, 0))), (1, .ref (ad (3, 0, i))), (2, .ref (ad (3, 0, j)))]) o dX1_hangsOn_27 rfl rfl (by decide) rfl ?_
  refine y_goto (pc := 30) (tgt := 5) o dX1_hangsOn_30 rfl ?_
  refine y_iload (pc := 5) o dX1_hangsOn_5 rfl ?_
  refine y_iconst (pc := 7) (x := 4) o dX1_hangsOn_7 (by decide) ?_
  refine z_icmp_ge (pc := 8) (tgt := 33) o dX1_hangsOn_8 rfl (fun (b17 : ¬ 4 < 4) => ?_) (fun b17 => absurd b17 (by decide))
  refine y_iconst (pc := 33) (x := 0) o dX1_hangsOn_33 (by decide) ?_
  exact y_iret (pc := 34) o dX1_hangsOn_34 rfl rfl (by decide) (by decide) (fun h hp => ⟨congrArg (fun z => some (Value.int z)) (gb_f (p := ghang C j 4 i = true) (by simp [ghang, b1, e2, d3, b5, e6, d7, b9, e10, d11, b13, e14, d15, b17])).symm, hp⟩)

theorem kHang0 {κ : gq_K} {ad : gKey → Nat} {C R : gG} {T : List (Nat × va_E)} (j : Nat) : gq_C κ mX1_hangsOn [.ref (ad (1, 0, 0)), .null, .ref (ad (3, 0, j))] (gR κ ad (C, R) T) (fun v9 g => v9 = some (.int 0) ∧ gR κ ad (C, R) T g) (gq_no) := by
  refine gq_enter (by decide +kernel) rfl (Nat.le_of_ble_eq_true rfl) rfl (fun f o => ?_)
  refine y_aload_nN (pc := 0) o dX1_hangsOn_0 rfl ?_
  refine y_astore_nN (pc := 1) (i := 3) (lv' := [(3, .null), (0, .ref (ad (1, 0, 0))), (1, .null), (2, .ref (ad (3, 0, j)))]) o dX1_hangsOn_1 rfl (by decide) rfl ?_
  refine y_iconst (pc := 2) (x := 0) o dX1_hangsOn_2 (by decide) ?_
  refine y_istore (pc := 3) (i := 4) (lv' := [(4, .int (0)), (3, .null), (0, .ref (ad (1, 0, 0))), (1, .null), (2, .ref (ad (3, 0, j)))]) o dX1_hangsOn_3 (by decide) rfl ?_
  refine y_iload (pc := 5) o dX1_hangsOn_5 rfl ?_
  refine y_iconst (pc := 7) (x := 4) o dX1_hangsOn_7 (by decide) ?_
  refine z_icmp_ge (pc := 8) (tgt := 33) o dX1_hangsOn_8 rfl (fun b1 => absurd b1 (by decide)) (fun (b1 : 0 < 4) => ?_)
  refine y_aload_nN (pc := 11) o dX1_hangsOn_11 rfl ?_
  refine y_ifnullN (pc := 12) (tgt := 33) o dX1_hangsOn_12 rfl ?_
  refine y_iconst (pc := 33) (x := 0) o dX1_hangsOn_33 (by decide) ?_
  exact y_iret (pc := 34) o dX1_hangsOn_34 rfl rfl (by decide) (by decide) (fun h hp => ⟨rfl, hp⟩)

theorem kNoRing {κ : gq_K} {ad : gKey → Nat} {C R : gG} {T : List (Nat × va_E)} (hC : gfix C.2) (hM : gmach C) (hA : ∀ i, i < 4 → gchn C 4 i = true) : gq_C κ mX1_hasNoRing [.ref (ad (1, 0, 0))] (gR κ ad (C, R) T) (fun v9 g => v9 = some (.int 1) ∧ gR κ ad (C, R) T g) (gq_no) := by
  refine gq_enter (by decide +kernel) rfl (Nat.le_of_ble_eq_true rfl) rfl (fun f o => ?_)
  refine y_aload_n (pc := 0) o dX1_hasNoRing_0 rfl ?_
  refine z_get (pc := 1) (K := (1, 0, 0)) (v := .ref (ad (3, 0, 0))) o fl_X1_12 dX1_hasNoRing_1 (gl_1 hC) rfl rfl ?_
  refine z_callS (pc := 4) (k := 0) (n := 0) (k' := 0) (n' := 0) o (As := [.ref (ad (3, 0, 0))]) (rest := []) (kChain hC hM 0 (by decide)) ln_X1_37 dX1_hasNoRing_4 rfl rfl (Nat.le_of_ble_eq_true rfl) ⟨by decide, by decide⟩ ⟨rfl, rfl⟩ ⟨by decide, by decide⟩ rfl gq_nox2 ?_
  refine z_beq (pc := 7) (tgt := 44) o dX1_hasNoRing_7 rfl (fun b1 => absurd (hA 0 (by decide)) b1) (fun (b1 : gchn C 4 0 = true) => ?_)
  refine y_aload_n (pc := 10) o dX1_hasNoRing_10 rfl ?_
  refine z_get (pc := 11) (K := (1, 0, 0)) (v := .ref (ad (3, 0, 1))) o fl_X1_18 dX1_hasNoRing_11 (gl_1 hC) rfl rfl ?_
  refine z_callS (pc := 14) (k := 0) (n := 0) (k' := 0) (n' := 0) o (As := [.ref (ad (3, 0, 1))]) (rest := []) (kChain hC hM 1 (by decide)) ln_X1_37 dX1_hasNoRing_14 rfl rfl (Nat.le_of_ble_eq_true rfl) ⟨by decide, by decide⟩ ⟨rfl, rfl⟩ ⟨by decide, by decide⟩ rfl gq_nox2 ?_
  refine z_beq (pc := 17) (tgt := 44) o dX1_hasNoRing_17 rfl (fun b2 => absurd (hA 1 (by decide)) b2) (fun (b2 : gchn C 4 1 = true) => ?_)
  refine y_aload_n (pc := 20) o dX1_hasNoRing_20 rfl ?_
  refine z_get (pc := 21) (K := (1, 0, 0)) (v := .ref (ad (3, 0, 2))) o fl_X1_21 dX1_hasNoRing_21 (gl_1 hC) rfl rfl ?_
  refine z_callS (pc := 24) (k := 0) (n := 0) (k' := 0) (n' := 0) o (As := [.ref (ad (3, 0, 2))]) (rest := []) (kChain hC hM 2 (by decide)) ln_X1_37 dX1_hasNoRing_24 rfl rfl (Nat.le_of_ble_eq_true rfl) ⟨by decide, by decide⟩ ⟨rfl, rfl⟩ ⟨by decide, by decide⟩ rfl gq_nox2 ?_
  refine z_beq (pc := 27) (tgt := 44) o dX1_hasNoRing_27 rfl (fun b3 => absurd (hA 2 (by decide)) b3) (fun (b3 : gchn C 4 2 = true) => ?_)
  refine y_aload_n (pc := 30) o dX1_hasNoRing_30 rfl ?_
  refine z_get (pc := 31) (K := (1, 0, 0)) (v := .ref (ad (3, 0, 3))) o fl_X1_24 dX1_hasNoRing_31 (gl_1 hC) rfl rfl ?_
  refine z_callS (pc := 34) (k := 0) (n := 0) (k' := 0) (n' := 0) o (As := [.ref (ad (3, 0, 3))]) (rest := []) (kChain hC hM 3 (by decide)) ln_X1_37 dX1_hasNoRing_34 rfl rfl (Nat.le_of_ble_eq_true rfl) ⟨by decide, by decide⟩ ⟨rfl, rfl⟩ ⟨by decide, by decide⟩ rfl gq_nox2 ?_
  refine z_beq (pc := 37) (tgt := 44) o dX1_hasNoRing_37 rfl (fun b4 => absurd (hA 3 (by decide)) b4) (fun (b4 : gchn C 4 3 = true) => ?_)
  refine y_iconst (pc := 40) (x := 1) o dX1_hasNoRing_40 (by decide) ?_
  refine y_goto (pc := 41) (tgt := 45) o dX1_hasNoRing_41 rfl ?_
  exact y_iret (pc := 45) o dX1_hasNoRing_45 rfl rfl (by decide) (by decide) (fun h hp => ⟨rfl, hp⟩)

theorem kTell {κ : gq_K} {ad : gKey → Nat} {C R : gG} {T : List (Nat × va_E)} (hC : gfix C.2) (d : Int32) : gq_C κ mX10_tell [.ref (ad (2, 0, 0)), .int (d)] (gR κ ad (C, R) T) (fun v9 g => v9 = some (.int (gclamp (d + C.1 (2, 0, 0) 0) 0 999)) ∧ gR κ ad (gtell C, R) T g) (gq_no) := by
  refine gq_enter (by decide +kernel) rfl (Nat.le_of_ble_eq_true rfl) rfl (fun f o => ?_)
  refine y_iload_n (pc := 0) o dX10_tell_0 rfl ?_
  refine y_aload_n (pc := 1) o dX10_tell_1 rfl ?_
  refine z_get (pc := 2) (K := (2, 0, 0)) (v := .int (C.1 (2, 0, 0) 0)) o fl_X10_9 dX10_tell_2 (gl_2 hC) rfl rfl ?_
  refine y_iadd (pc := 5) o dX10_tell_5 ?_
  refine y_iconst (pc := 6) (x := 0) o dX10_tell_6 (by decide) ?_
  refine y_sipush (pc := 7) (x := 999) o dX10_tell_7 (by decide) ?_
  refine z_callSN (pc := 10) (k := 0) (n := 0) (k' := 0) (n' := 0) o (As := [.int (d + (C.1 (2, 0, 0) 0)), .int (0), .int (999)]) (rest := []) (kClamp _ _ _) ln_X10_18 dX10_tell_10 rfl rfl (Nat.le_of_ble_eq_true rfl) ⟨by decide, by decide⟩ ⟨rfl, rfl⟩ ⟨by decide, by decide⟩ ?_
  refine y_istore_n (pc := 13) (i := 2) (lv' := [(2, .int (gclamp (d + C.1 (2, 0, 0) 0) 0 999)), (0, .ref (ad (2, 0, 0))), (1, .int (d))]) o dX10_tell_13 rfl (by decide) rfl ?_
  refine y_aload_n (pc := 14) o dX10_tell_14 rfl ?_
  refine y_dup (pc := 15) o dX10_tell_15 rfl ?_
  refine z_get (pc := 16) (K := (2, 0, 0)) (v := .int (C.1 (2, 0, 0) 1)) o fl_X10_15 dX10_tell_16 (gl_2 hC) rfl rfl ?_
  refine y_iconst (pc := 19) (x := 1) o dX10_tell_19 (by decide) ?_
  refine y_iadd (pc := 20) o dX10_tell_20 ?_
  refine z_putC (pc := 21) (K := (2, 0, 0)) (fd := 1) (x := (C.1 (2, 0, 0) 1) + 1) o fw_X10_15 dX10_tell_21 (gl_2 hC) (show (2:Nat) < 20 by decide) rfl (Nat.le_of_ble_eq_true rfl) (vp_nar_int _) rfl rfl pC_2_1 (z_refC (show (2:Nat) < 20 by decide) (gl_2 hC) qC_2_1) ?_
  refine y_aload_n (pc := 24) o dX10_tell_24 rfl ?_
  refine z_get (pc := 25) (K := (2, 0, 0)) (v := .int ((gup C (2, 0, 0) 1 ((C.1 (2, 0, 0) 1) + 1)).1 (2, 0, 0) 1)) o fl_X10_15 dX10_tell_25 (gl_2 hC) rfl rfl ?_
  refine z_top (congrArg Value.int (gup_v _ _ _ _)) ?_
  refine y_bipush (pc := 28) (x := 8) o dX10_tell_28 (by decide) ?_
  refine y_icmp_ne (pc := 30) (tgt := 48) o dX10_tell_30 rfl (fun (b1 : ¬ ((C.1 (2, 0, 0) 1) + 1) = 8) => ?_) (fun (b1 : ((C.1 (2, 0, 0) 1) + 1) = 8) => ?_)
  · refine y_iload_n (pc := 48) o dX10_tell_48 rfl ?_
    exact y_iret (pc := 49) o dX10_tell_49 rfl (vp_nar_int _) (by decide) (by decide) (fun h hp => ⟨rfl, by rw [gtell_n b1]; exact hp.ghostC _ 2 _ (fun _ _ _ => rfl) (fun _ _ => rfl)⟩)
  refine y_aload_n (pc := 33) o dX10_tell_33 rfl ?_
  refine y_iconst (pc := 34) (x := 0) o dX10_tell_34 (by decide) ?_
  refine z_putC (pc := 35) (K := (2, 0, 0)) (fd := 1) (x := 0) o fw_X10_15 dX10_tell_35 (gl_2 hC) (show (2:Nat) < 20 by decide) rfl (Nat.le_of_ble_eq_true rfl) (vp_nar_int _) rfl rfl pC_2_1 (z_refC (show (2:Nat) < 20 by decide) (gl_2 hC) qC_2_1) ?_
  refine y_aload_n (pc := 38) o dX10_tell_38 rfl ?_
  refine y_dup (pc := 39) o dX10_tell_39 rfl ?_
  refine z_get (pc := 40) (K := (2, 0, 0)) (v := .int ((gup (gup C (2, 0, 0) 1 ((C.1 (2, 0, 0) 1) + 1)) (2, 0, 0) 1 0).1 (2, 0, 0) 0)) o fl_X10_9 dX10_tell_40 (gl_2 hC) rfl rfl ?_
  refine z_top (congrArg Value.int (Eq.trans (gup_vf _ (show (0:Nat) ≠ 1 by decide)) (gup_vf _ (show (0:Nat) ≠ 1 by decide)))) ?_
  refine y_iconst (pc := 43) (x := 3) o dX10_tell_43 (by decide) ?_
  refine y_iadd (pc := 44) o dX10_tell_44 ?_
  refine z_putC (pc := 45) (K := (2, 0, 0)) (fd := 0) (x := (C.1 (2, 0, 0) 0) + 3) o fw_X10_9 dX10_tell_45 (gl_2 hC) (show (2:Nat) < 20 by decide) rfl (Nat.le_of_ble_eq_true rfl) (vp_nar_int _) rfl rfl pC_2_0 (z_refC (show (2:Nat) < 20 by decide) (gl_2 hC) qC_2_0) ?_
  refine y_iload_n (pc := 48) o dX10_tell_48 rfl ?_
  exact y_iret (pc := 49) o dX10_tell_49 rfl (vp_nar_int _) (by decide) (by decide) (fun h hp => ⟨rfl, by rw [gup_gup] at hp; rw [gtell_p b1]; exact hp.ghostC _ 2 _ (fun _ _ _ => rfl) (fun _ _ => rfl)⟩)

theorem kBias {κ : gq_K} {ad : gKey → Nat} {C R : gG} {T : List (Nat × va_E)} (hC : gfix C.2) : gq_C κ mX10_takeBias [.ref (ad (2, 0, 0))] (gR κ ad (C, R) T) (fun v9 g => v9 = some (.int (C.1 (2, 0, 0) 0)) ∧ gR κ ad (gup (gup (gup C (2, 0, 0) 0 0) (2, 0, 0) 1 0) (2, 0, 0) 2 0, R) T g) (gq_no) := by
  refine gq_enter (by decide +kernel) rfl (Nat.le_of_ble_eq_true rfl) rfl (fun f o => ?_)
  refine y_aload_n (pc := 0) o dX10_takeBias_0 rfl ?_
  refine z_get (pc := 1) (K := (2, 0, 0)) (v := .int (C.1 (2, 0, 0) 0)) o fl_X10_9 dX10_takeBias_1 (gl_2 hC) rfl rfl ?_
  refine y_istore_n (pc := 4) (i := 1) (lv' := [(1, .int (C.1 (2, 0, 0) 0)), (0, .ref (ad (2, 0, 0)))]) o dX10_takeBias_4 rfl (by decide) rfl ?_
  refine y_aload_n (pc := 5) o dX10_takeBias_5 rfl ?_
  refine y_iconst (pc := 6) (x := 0) o dX10_takeBias_6 (by decide) ?_
  refine z_putC (pc := 7) (K := (2, 0, 0)) (fd := 0) (x := 0) o fw_X10_9 dX10_takeBias_7 (gl_2 hC) (show (2:Nat) < 20 by decide) rfl (Nat.le_of_ble_eq_true rfl) (vp_nar_int _) rfl rfl pC_2_0 (z_refC (show (2:Nat) < 20 by decide) (gl_2 hC) qC_2_0) ?_
  refine y_aload_n (pc := 10) o dX10_takeBias_10 rfl ?_
  refine y_iconst (pc := 11) (x := 0) o dX10_takeBias_11 (by decide) ?_
  refine z_putC (pc := 12) (K := (2, 0, 0)) (fd := 1) (x := 0) o fw_X10_15 dX10_takeBias_12 (gl_2 hC) (show (2:Nat) < 20 by decide) rfl (Nat.le_of_ble_eq_true rfl) (vp_nar_int _) rfl rfl pC_2_1 (z_refC (show (2:Nat) < 20 by decide) (gl_2 hC) qC_2_1) ?_
  refine y_iload_n (pc := 15) o dX10_takeBias_15 rfl ?_
  exact y_iret (pc := 16) o dX10_takeBias_16 rfl (vp_nar_int _) (by decide) (by decide) (fun h hp => ⟨rfl, hp.ghostC _ 2 _ (fun _ _ _ => rfl) (fun _ _ => rfl)⟩)

theorem kPencils {κ : gq_K} {ad : gKey → Nat} {C R : gG} {T : List (Nat × va_E)} (hC : gfix C.2) (hBC : gcnt C.2) : gq_C κ mX11_pencilsInRuns [.ref (ad (0, 0, 0))] (gR κ ad (C, R) T) (fun v9 g => v9 = some (.int (gsum (fun i => C.1 (10, 0, i) 3) (C.2 10 0))) ∧ gR κ ad (C, R) T g) (gq_no) := by
  refine gq_enter (by decide +kernel) rfl (Nat.le_of_ble_eq_true rfl) rfl (fun f o => ?_)
  have hNB : C.2 10 0 ≤ 144 := hBC 4 0 (by decide)
  refine y_iconst (pc := 0) (x := 0) o dX11_pencilsInRuns_0 (by decide) ?_
  refine y_istore_n (pc := 1) (i := 1) (lv' := [(1, .int (0)), (0, .ref (ad (0, 0, 0)))]) o dX11_pencilsInRuns_1 rfl (by decide) rfl ?_
  refine y_iconst (pc := 2) (x := 0) o dX11_pencilsInRuns_2 (by decide) ?_
  refine y_istore_n (pc := 3) (i := 2) (lv' := [(2, .int (0)), (1, .int (0)), (0, .ref (ad (0, 0, 0)))]) o dX11_pencilsInRuns_3 rfl (by decide) rfl ?_
  suffices H : ∀ m i : Nat, i + m = C.2 10 0 → gq_Y κ mX11_pencilsInRuns (fun v9 g => v9 = some (.int (gsum (fun i => C.1 (10, 0, i) 3) (C.2 10 0))) ∧ gR κ ad (C, R) T g) (gq_no) f (gR κ ad (C, R) T) [(2, .int (Int32.ofNat i)), (1, .int (gsum (fun i => C.1 (10, 0, i) 3) i)), (0, .ref (ad (0, 0, 0)))] 4 [] 0 0 from ?_
  · exact H (C.2 10 0) 0 (Nat.zero_add _)
  intro m
  induction m with
  | zero =>
    intro i hi
    have hlt : ¬ Int32.ofNat i < Int32.ofNat (C.2 10 0) := fun z => by rw [gofs_lt (by omega) (by omega)] at z; omega
    refine y_iload_n (pc := 4) o dX11_pencilsInRuns_4 rfl ?_
    refine y_aload_n (pc := 5) o dX11_pencilsInRuns_5 rfl ?_
    refine z_get (pc := 6) (K := (0, 0, 0)) (v := .ref (ad (4, 4, 0))) o fl_X11_39 dX11_pencilsInRuns_6 (gl_0 hC) rfl rfl ?_
    refine z_callV (pc := 9) (k := 0) (n := 0) (k' := 0) (n' := 0) o (b := ad (4, 4, 0)) (As := []) (rest := [.int (Int32.ofNat i)]) (sizeC (l := 4) (g := 0) (gl_4_4 hC)) ln_X11_127 dX11_pencilsInRuns_9 (z_rc (ci := 3) (K := (4, 4, 0)) rfl (gl_4_4 hC) rfl) rfl rfl (Nat.le_of_ble_eq_true rfl) ⟨by decide, by decide⟩ ⟨rfl, rfl⟩ ⟨by decide, by decide⟩ rfl gq_nox2 ?_
    refine z_icmp_ge (pc := 12) (tgt := 38) o dX11_pencilsInRuns_12 rfl (fun (b1 : ¬ (Int32.ofNat i) < (Int32.ofNat (C.2 10 0))) => ?_) (fun b1 => absurd b1 hlt)
    refine y_iload_n (pc := 38) o dX11_pencilsInRuns_38 rfl ?_
    exact y_iret (pc := 39) o dX11_pencilsInRuns_39 rfl (vp_nar_int _) (by decide) (by decide) (fun h hp => ⟨by rw [show i = C.2 10 0 by omega], hp⟩)
  | succ m ih =>
    intro i hi
    have hlt : Int32.ofNat i < Int32.ofNat (C.2 10 0) := by rw [gofs_lt (by omega) (by omega)]; omega
    have hgx := gidx (N := C.2 10 0) (i := i) (by omega) hNB
    refine y_iload_n (pc := 4) o dX11_pencilsInRuns_4 rfl ?_
    refine y_aload_n (pc := 5) o dX11_pencilsInRuns_5 rfl ?_
    refine z_get (pc := 6) (K := (0, 0, 0)) (v := .ref (ad (4, 4, 0))) o fl_X11_39 dX11_pencilsInRuns_6 (gl_0 hC) rfl rfl ?_
    refine z_callV (pc := 9) (k := 0) (n := 0) (k' := 0) (n' := 0) o (b := ad (4, 4, 0)) (As := []) (rest := [.int (Int32.ofNat i)]) (sizeC (l := 4) (g := 0) (gl_4_4 hC)) ln_X11_127 dX11_pencilsInRuns_9 (z_rc (ci := 3) (K := (4, 4, 0)) rfl (gl_4_4 hC) rfl) rfl rfl (Nat.le_of_ble_eq_true rfl) ⟨by decide, by decide⟩ ⟨rfl, rfl⟩ ⟨by decide, by decide⟩ rfl gq_nox2 ?_
    refine z_icmp_ge (pc := 12) (tgt := 38) o dX11_pencilsInRuns_12 rfl (fun b2 => absurd hlt b2) (fun (b2 : (Int32.ofNat i) < (Int32.ofNat (C.2 10 0))) => ?_)
    refine y_iload_n (pc := 15) o dX11_pencilsInRuns_15 rfl ?_
    refine y_aload_n (pc := 16) o dX11_pencilsInRuns_16 rfl ?_
    refine z_get (pc := 17) (K := (0, 0, 0)) (v := .ref (ad (4, 4, 0))) o fl_X11_39 dX11_pencilsInRuns_17 (gl_0 hC) rfl rfl ?_
    refine y_iload_n (pc := 20) o dX11_pencilsInRuns_20 rfl ?_
    refine z_callV (pc := 21) (k := 0) (n := 0) (k' := 0) (n' := 0) o (b := ad (4, 4, 0)) (As := [.int (Int32.ofNat i)]) (rest := [.int (gsum (fun i => C.1 (10, 0, i) 3) i)]) (getC (l := 4) (g := 0) (gl_4_4 hC) (hBC 4 0 (by decide)) hgx.1) ln_X11_492 dX11_pencilsInRuns_21 (z_rc (ci := 3) (K := (4, 4, 0)) rfl (gl_4_4 hC) rfl) rfl rfl (Nat.le_of_ble_eq_true rfl) ⟨by decide, by decide⟩ ⟨rfl, rfl⟩ ⟨by decide, by decide⟩ rfl gq_nox2 ?_
    refine z_top (w := .ref (ad (10, 0, i))) (congrArg (fun z => Value.ref (ad (10, 0, z))) hgx.2) ?_
    refine z_cast (pc := 24) (ci := 12) (K := (10, 0, i)) o rfl qw_254 dX11_pencilsInRuns_24 (gl_10 (show i < C.2 10 0 by omega)) rfl ?_
    refine z_get (pc := 27) (K := (10, 0, i)) (v := .int (C.1 (10, 0, i) 3)) o fl_X11_400 dX11_pencilsInRuns_27 (gl_10 (show i < C.2 10 0 by omega)) rfl rfl ?_
    refine y_iadd (pc := 30) o dX11_pencilsInRuns_30 ?_
    refine y_istore_n (pc := 31) (i := 1) (lv' := [(1, .int ((gsum (fun i => C.1 (10, 0, i) 3) i) + (C.1 (10, 0, i) 3))), (2, .int (Int32.ofNat i)), (0, .ref (ad (0, 0, 0)))]) o dX11_pencilsInRuns_31 rfl (by decide) rfl ?_
    refine y_iinc (pc := 32) (i := 2) (j := 1) (v := (Int32.ofNat i) + 1) (lv' := [(2, .int ((Int32.ofNat i) + 1)), (1, .int ((gsum (fun i => C.1 (10, 0, i) 3) i) + (C.1 (10, 0, i) 3))), (0, .ref (ad (0, 0, 0)))]) o dX11_pencilsInRuns_32 rfl rfl (by decide) rfl ?_
    refine y_goto (pc := 35) (tgt := 4) o dX11_pencilsInRuns_35 rfl ?_
    rw [(gofs (n := i) (by omega)).2.2]
    exact ih (i + 1) (by omega)

end Z15
