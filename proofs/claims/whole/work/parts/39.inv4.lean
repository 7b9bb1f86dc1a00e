
section Z39
theorem ginc_1 (C : gG) (a g : Nat) : (ginc C a g).1 = C.1 := rfl
theorem ship_e (C : gG) (a b : Nat) (x : Int32) {A : Prop} [Decidable A] : (if A then gup (gup (gup C (11, 0, b) 2 1) (12, 0, a) 1 x) (12, 0, a) 3 1 else gup (gup C (11, 0, b) 2 1) (12, 0, a) 1 x) = gup (gup (gup C (11, 0, b) 2 1) (12, 0, a) 1 x) (12, 0, a) 3 (if A then 1 else C.1 (12, 0, a) 3) := by
  by_cases h : A
  · rw [if_pos h, if_pos h]
  · rw [if_neg h, if_neg h]
    exact (gup_same (by simp +decide only [gup_at, gnew_at, gup_2, gnew_2, gtell, Prod.mk.injEq, true_and, and_true, false_and, and_false, if_true, if_false, eq_self, and_self, ginc_1, ginc_2])).symm
theorem gbl_if {A : Prop} [Decidable A] {x : Int32} (h : gbl x) : gbl (if A then 1 else x) := by
  by_cases z : A
  · rw [if_pos z]; exact Or.inr rfl
  · rw [if_neg z]; exact h
theorem i_stamp {C : gG} {n : Nat} (hI : gI n C) (hn : n ≤ 512) (hz5 : C.1 (0, 0, 0) 5 = 0) (a : Int32) : gok1 n (F_stamp C a) := by
  unfold F_stamp
  by_cases h1 : ¬ gix (C.2 10 0) a = true
  · rw [if_pos h1]
    exact gok_thr hI hn _
  rw [if_neg h1]
  by_cases h2 : C.1 (0, 0, 0) 0 < C.1 (10, 0, a.toNatClampNeg) 6 ∨ C.1 (10, 0, a.toNatClampNeg) 7 < 3 ∨ ¬ C.1 (10, 0, a.toNatClampNeg) 9 < 0
  · rw [if_pos h2]
    exact gok_thr hI hn _
  rw [if_neg h2]
  by_cases h3 : C.1 (0, 0, 0) 0 < C.1 (8, 0, (C.1 (10, 0, a.toNatClampNeg) 0).toNatClampNeg) 4
  · rw [if_pos h3]
    exact gok_thr hI hn _
  rw [if_neg h3]
  have hx := hI.2.2.2.2.2.2.2.2.2.2
  refine ⟨⟨?_, ?_, ?_, ?_, ?_, ?_, ?_, ?_, ?_, ?_, ?_, ?_, ?_, ?_, ?_, ?_, ?_, ?_⟩, (by simp +decide only [gup_at, gnew_at, gup_2, gnew_2, gtell, Prod.mk.injEq, true_and, and_true, false_and, and_false, if_true, if_false, eq_self, and_self, ginc_1, ginc_2, hz5])⟩
  · exact hI.1
  · exact (gI2_f (fun _ _ _ => by simp +decide only [gup_at, gnew_at, gup_2, gnew_2, gtell, Prod.mk.injEq, true_and, and_true, false_and, and_false, if_true, if_false, eq_self, and_self, ginc_1, ginc_2]) (fun _ _ _ => by simp +decide only [gup_at, gnew_at, gup_2, gnew_2, gtell, Prod.mk.injEq, true_and, and_true, false_and, and_false, if_true, if_false, eq_self, and_self, ginc_1, ginc_2]) hI.2.1)
  · exact (gI3_f (C := gtell C) (Nat.le_refl _) (by omega) (by simp +decide only [gup_at, gnew_at, gup_2, gnew_2, gtell, Prod.mk.injEq, true_and, and_true, false_and, and_false, if_true, if_false, eq_self, and_self, ginc_1, ginc_2]) (by simp +decide only [gup_at, gnew_at, gup_2, gnew_2, gtell, Prod.mk.injEq, true_and, and_true, false_and, and_false, if_true, if_false, eq_self, and_self, ginc_1, ginc_2]) (fun _ _ _ => by simp +decide only [gup_at, gnew_at, gup_2, gnew_2, gtell, Prod.mk.injEq, true_and, and_true, false_and, and_false, if_true, if_false, eq_self, and_self, ginc_1, ginc_2]) (gI3_tell hI.2.2.1 hn))
  · exact (gI6_f (by simp +decide only [gup_at, gnew_at, gup_2, gnew_2, gtell, Prod.mk.injEq, true_and, and_true, false_and, and_false, if_true, if_false, eq_self, and_self, ginc_1, ginc_2]) (fun _ _ _ => by simp +decide only [gup_at, gnew_at, gup_2, gnew_2, gtell, Prod.mk.injEq, true_and, and_true, false_and, and_false, if_true, if_false, eq_self, and_self, ginc_1, ginc_2]) hI.2.2.2.1)
  · exact (gI8_f (by simp +decide only [gup_at, gnew_at, gup_2, gnew_2, gtell, Prod.mk.injEq, true_and, and_true, false_and, and_false, if_true, if_false, eq_self, and_self, ginc_1, ginc_2]) (by simp +decide only [gup_at, gnew_at, gup_2, gnew_2, gtell, Prod.mk.injEq, true_and, and_true, false_and, and_false, if_true, if_false, eq_self, and_self, ginc_1, ginc_2]) (fun _ _ _ => by simp +decide only [gup_at, gnew_at, gup_2, gnew_2, gtell, Prod.mk.injEq, true_and, and_true, false_and, and_false, if_true, if_false, eq_self, and_self, ginc_1, ginc_2]) hI.2.2.2.2.1)
  · exact (fun i hi => by
    have hi : i < C.2 10 0 := by simpa +decide only [gup_at, gnew_at, gup_2, gnew_2, gtell, Prod.mk.injEq, true_and, and_true, false_and, and_false, if_true, if_false, eq_self, and_self, ginc_1, ginc_2] using hi
    have h := hI.2.2.2.2.2.1 i hi
    by_cases hq : i = a.toNatClampNeg
    · subst hq
      simp +decide only [gup_at, gnew_at, gup_2, gnew_2, gtell, Prod.mk.injEq, true_and, and_true, false_and, and_false, if_true, if_false, eq_self, and_self, ginc_1, ginc_2]
      exact ⟨h.1, h.2.1, h.2.2.1, h.2.2.2.1, fun z => ga_stamp (ga_clamp (by decide)) (Int32.lt_trans z (by decide)), h.2.2.2.2.2⟩
    · simp +decide only [gup_at, gnew_at, gup_2, gnew_2, gtell, Prod.mk.injEq, true_and, and_true, false_and, and_false, if_true, if_false, eq_self, and_self, ginc_1, ginc_2, hq]
      exact h)
  · exact (gI11_f (by simp +decide only [gup_at, gnew_at, gup_2, gnew_2, gtell, Prod.mk.injEq, true_and, and_true, false_and, and_false, if_true, if_false, eq_self, and_self, ginc_1, ginc_2]) (fun _ => by simp +decide only [gup_at, gnew_at, gup_2, gnew_2, gtell, Prod.mk.injEq, true_and, and_true, false_and, and_false, if_true, if_false, eq_self, and_self, ginc_1, ginc_2]) (fun _ _ _ => by simp +decide only [gup_at, gnew_at, gup_2, gnew_2, gtell, Prod.mk.injEq, true_and, and_true, false_and, and_false, if_true, if_false, eq_self, and_self, ginc_1, ginc_2]) (fun _ _ => by simp +decide only [gup_at, gnew_at, gup_2, gnew_2, gtell, Prod.mk.injEq, true_and, and_true, false_and, and_false, if_true, if_false, eq_self, and_self, ginc_1, ginc_2]) hI.2.2.2.2.2.2.1)
  · exact (fun i j hi hj => by
    have hi : i < C.2 11 0 := by simpa +decide only [gup_at, gnew_at, gup_2, gnew_2, gtell, Prod.mk.injEq, true_and, and_true, false_and, and_false, if_true, if_false, eq_self, and_self, ginc_1, ginc_2] using hi
    have hj : j < C.2 13 i := by simpa +decide only [gup_at, gnew_at, gup_2, gnew_2, gtell, Prod.mk.injEq, true_and, and_true, false_and, and_false, if_true, if_false, eq_self, and_self, ginc_1, ginc_2] using hj
    have h := hI.2.2.2.2.2.2.2.1 i j hi hj
    by_cases hq : (C.1 (13, i, j) 0).toNatClampNeg = a.toNatClampNeg
    · have hh2 := h.2.1
      rw [hq] at hh2
      have hh3 : C.1 (10, 0, a.toNatClampNeg) 9 < 0 := (Classical.not_not.mp (fun z => h2 (Or.inr (Or.inr z))))
      rw [hh2] at hh3
      exact absurd hh3 (hI.2.2.2.2.2.2.1 i hi).2.2.2.1
    · simp +decide only [gup_at, gnew_at, gup_2, gnew_2, gtell, Prod.mk.injEq, true_and, and_true, false_and, and_false, if_true, if_false, eq_self, and_self, ginc_1, ginc_2, hq]
      exact h)
  · exact (gI12_f (by simp +decide only [gup_at, gnew_at, gup_2, gnew_2, gtell, Prod.mk.injEq, true_and, and_true, false_and, and_false, if_true, if_false, eq_self, and_self, ginc_1, ginc_2]) (fun _ _ _ => by simp +decide only [gup_at, gnew_at, gup_2, gnew_2, gtell, Prod.mk.injEq, true_and, and_true, false_and, and_false, if_true, if_false, eq_self, and_self, ginc_1, ginc_2]) hI.2.2.2.2.2.2.2.2.1)
  · exact (gmiss_f (by simp +decide only [gup_at, gnew_at, gup_2, gnew_2, gtell, Prod.mk.injEq, true_and, and_true, false_and, and_false, if_true, if_false, eq_self, and_self, ginc_1, ginc_2]) (by simp +decide only [gup_at, gnew_at, gup_2, gnew_2, gtell, Prod.mk.injEq, true_and, and_true, false_and, and_false, if_true, if_false, eq_self, and_self, ginc_1, ginc_2]) (by simp +decide only [gup_at, gnew_at, gup_2, gnew_2, gtell, Prod.mk.injEq, true_and, and_true, false_and, and_false, if_true, if_false, eq_self, and_self, ginc_1, ginc_2]) (by simp +decide only [gup_at, gnew_at, gup_2, gnew_2, gtell, Prod.mk.injEq, true_and, and_true, false_and, and_false, if_true, if_false, eq_self, and_self, ginc_1, ginc_2]) (fun _ => by simp +decide only [gup_at, gnew_at, gup_2, gnew_2, gtell, Prod.mk.injEq, true_and, and_true, false_and, and_false, if_true, if_false, eq_self, and_self, ginc_1, ginc_2]) (fun _ => by simp +decide only [gup_at, gnew_at, gup_2, gnew_2, gtell, Prod.mk.injEq, true_and, and_true, false_and, and_false, if_true, if_false, eq_self, and_self, ginc_1, ginc_2]) hI.2.2.2.2.2.2.2.2.2.1)
  · exact (fun i hi => by
        have hi : i < C.2 6 0 := by simpa +decide only [gup_at, gnew_at, gup_2, gnew_2, gtell, Prod.mk.injEq, true_and, and_true, false_and, and_false, if_true, if_false, eq_self, and_self, ginc_1, ginc_2] using hi
        simp +decide only [gup_at, gnew_at, gup_2, gnew_2, gtell, Prod.mk.injEq, true_and, and_true, false_and, and_false, if_true, if_false, eq_self, and_self, ginc_1, ginc_2]
        exact hx.1 i hi)
  · exact (fun i hi => by
        have hi : i < C.2 7 0 := by simpa +decide only [gup_at, gnew_at, gup_2, gnew_2, gtell, Prod.mk.injEq, true_and, and_true, false_and, and_false, if_true, if_false, eq_self, and_self, ginc_1, ginc_2] using hi
        simp +decide only [gup_at, gnew_at, gup_2, gnew_2, gtell, Prod.mk.injEq, true_and, and_true, false_and, and_false, if_true, if_false, eq_self, and_self, ginc_1, ginc_2]
        exact hx.2.1 i hi)
  · exact (fun i hi => by
        have hi : i < C.2 8 0 := by simpa +decide only [gup_at, gnew_at, gup_2, gnew_2, gtell, Prod.mk.injEq, true_and, and_true, false_and, and_false, if_true, if_false, eq_self, and_self, ginc_1, ginc_2] using hi
        simp +decide only [gup_at, gnew_at, gup_2, gnew_2, gtell, Prod.mk.injEq, true_and, and_true, false_and, and_false, if_true, if_false, eq_self, and_self, ginc_1, ginc_2]
        exact gin_up (hx.2.2.1 i hi) (by omega) (by omega))
  · exact (fun i hi => by
        have hi : i < C.2 9 0 := by simpa +decide only [gup_at, gnew_at, gup_2, gnew_2, gtell, Prod.mk.injEq, true_and, and_true, false_and, and_false, if_true, if_false, eq_self, and_self, ginc_1, ginc_2] using hi
        simp +decide only [gup_at, gnew_at, gup_2, gnew_2, gtell, Prod.mk.injEq, true_and, and_true, false_and, and_false, if_true, if_false, eq_self, and_self, ginc_1, ginc_2]
        exact hx.2.2.2.1 i hi)
  · exact (fun i hi => by
        have hi : i < C.2 10 0 := by simpa +decide only [gup_at, gnew_at, gup_2, gnew_2, gtell, Prod.mk.injEq, true_and, and_true, false_and, and_false, if_true, if_false, eq_self, and_self, ginc_1, ginc_2] using hi
        simp +decide only [gup_at, gnew_at, gup_2, gnew_2, gtell, Prod.mk.injEq, true_and, and_true, false_and, and_false, if_true, if_false, eq_self, and_self, ginc_1, ginc_2]
        exact hx.2.2.2.2.1 i hi)
  · exact (by simp +decide only [gup_at, gnew_at, gup_2, gnew_2, gtell, Prod.mk.injEq, true_and, and_true, false_and, and_false, if_true, if_false, eq_self, and_self, ginc_1, ginc_2]; exact hx.2.2.2.2.2.1)
  · exact (fun i hi => by
        have hi : i < C.2 9 0 := by simpa +decide only [gup_at, gnew_at, gup_2, gnew_2, gtell, Prod.mk.injEq, true_and, and_true, false_and, and_false, if_true, if_false, eq_self, and_self, ginc_1, ginc_2] using hi
        simp +decide only [gup_at, gnew_at, gup_2, gnew_2, gtell, Prod.mk.injEq, true_and, and_true, false_and, and_false, if_true, if_false, eq_self, and_self, ginc_1, ginc_2]
        exact hx.2.2.2.2.2.2.1 i hi)
  · exact (fun i hi => by
        have hi : i < C.2 8 0 := by simpa +decide only [gup_at, gnew_at, gup_2, gnew_2, gtell, Prod.mk.injEq, true_and, and_true, false_and, and_false, if_true, if_false, eq_self, and_self, ginc_1, ginc_2] using hi
        simp +decide only [gup_at, gnew_at, gup_2, gnew_2, gtell, Prod.mk.injEq, true_and, and_true, false_and, and_false, if_true, if_false, eq_self, and_self, ginc_1, ginc_2]
        exact hx.2.2.2.2.2.2.2 i hi)

theorem i_ship {C : gG} {n : Nat} (hI : gI n C) (hn : n ≤ 512) (hz5 : C.1 (0, 0, 0) 5 = 0) (a : Int32) (b : Int32) : gok1 n (F_ship C a b) := by
  unfold F_ship
  by_cases h1 : ¬ gix (C.2 12 0) a = true
  · rw [if_pos h1]
    exact gok_thr hI hn _
  rw [if_neg h1]
  by_cases h2 : ¬ gix (C.2 11 0) b = true
  · rw [if_pos h2]
    exact gok_thr hI hn _
  rw [if_neg h2]
  by_cases h3 : C.1 (11, 0, b.toNatClampNeg) 1 < 144 ∨ ¬ C.1 (11, 0, b.toNatClampNeg) 0 = C.1 (12, 0, a.toNatClampNeg) 0 ∨ ¬ C.1 (11, 0, b.toNatClampNeg) 2 = 0
  · rw [if_pos h3]
    exact gok_thr hI hn _
  rw [if_neg h3]
  by_cases h4 : C.1 (12, 0, a.toNatClampNeg) 1 < 1
  · rw [if_pos h4]
    exact gok_thr hI hn _
  rw [if_neg h4]
  rw [ship_e]
  have hx := hI.2.2.2.2.2.2.2.2.2.2
  refine ⟨⟨?_, ?_, ?_, ?_, ?_, ?_, ?_, ?_, ?_, ?_, ?_, ?_, ?_, ?_, ?_, ?_, ?_, ?_⟩, (by simp +decide only [gup_at, gnew_at, gup_2, gnew_2, gtell, Prod.mk.injEq, true_and, and_true, false_and, and_false, if_true, if_false, eq_self, and_self, ginc_1, ginc_2, hz5])⟩
  · exact hI.1
  · exact (gI2_f (fun _ _ _ => by simp +decide only [gup_at, gnew_at, gup_2, gnew_2, gtell, Prod.mk.injEq, true_and, and_true, false_and, and_false, if_true, if_false, eq_self, and_self, ginc_1, ginc_2]) (fun _ _ _ => by simp +decide only [gup_at, gnew_at, gup_2, gnew_2, gtell, Prod.mk.injEq, true_and, and_true, false_and, and_false, if_true, if_false, eq_self, and_self, ginc_1, ginc_2]) hI.2.1)
  · exact (gI3_f (Nat.le_succ n) (by omega) (by simp +decide only [gup_at, gnew_at, gup_2, gnew_2, gtell, Prod.mk.injEq, true_and, and_true, false_and, and_false, if_true, if_false, eq_self, and_self, ginc_1, ginc_2]) (by simp +decide only [gup_at, gnew_at, gup_2, gnew_2, gtell, Prod.mk.injEq, true_and, and_true, false_and, and_false, if_true, if_false, eq_self, and_self, ginc_1, ginc_2]) (fun _ _ _ => by simp +decide only [gup_at, gnew_at, gup_2, gnew_2, gtell, Prod.mk.injEq, true_and, and_true, false_and, and_false, if_true, if_false, eq_self, and_self, ginc_1, ginc_2]) hI.2.2.1)
  · exact (gI6_f (by simp +decide only [gup_at, gnew_at, gup_2, gnew_2, gtell, Prod.mk.injEq, true_and, and_true, false_and, and_false, if_true, if_false, eq_self, and_self, ginc_1, ginc_2]) (fun _ _ _ => by simp +decide only [gup_at, gnew_at, gup_2, gnew_2, gtell, Prod.mk.injEq, true_and, and_true, false_and, and_false, if_true, if_false, eq_self, and_self, ginc_1, ginc_2]) hI.2.2.2.1)
  · exact (gI8_f (by simp +decide only [gup_at, gnew_at, gup_2, gnew_2, gtell, Prod.mk.injEq, true_and, and_true, false_and, and_false, if_true, if_false, eq_self, and_self, ginc_1, ginc_2]) (by simp +decide only [gup_at, gnew_at, gup_2, gnew_2, gtell, Prod.mk.injEq, true_and, and_true, false_and, and_false, if_true, if_false, eq_self, and_self, ginc_1, ginc_2]) (fun _ _ _ => by simp +decide only [gup_at, gnew_at, gup_2, gnew_2, gtell, Prod.mk.injEq, true_and, and_true, false_and, and_false, if_true, if_false, eq_self, and_self, ginc_1, ginc_2]) hI.2.2.2.2.1)
  · exact (gI10_f (by simp +decide only [gup_at, gnew_at, gup_2, gnew_2, gtell, Prod.mk.injEq, true_and, and_true, false_and, and_false, if_true, if_false, eq_self, and_self, ginc_1, ginc_2]) (by simp +decide only [gup_at, gnew_at, gup_2, gnew_2, gtell, Prod.mk.injEq, true_and, and_true, false_and, and_false, if_true, if_false, eq_self, and_self, ginc_1, ginc_2]) (by simp +decide only [gup_at, gnew_at, gup_2, gnew_2, gtell, Prod.mk.injEq, true_and, and_true, false_and, and_false, if_true, if_false, eq_self, and_self, ginc_1, ginc_2]) (fun _ _ _ => by simp +decide only [gup_at, gnew_at, gup_2, gnew_2, gtell, Prod.mk.injEq, true_and, and_true, false_and, and_false, if_true, if_false, eq_self, and_self, ginc_1, ginc_2]) (fun _ => by simp +decide only [gup_at, gnew_at, gup_2, gnew_2, gtell, Prod.mk.injEq, true_and, and_true, false_and, and_false, if_true, if_false, eq_self, and_self, ginc_1, ginc_2]) hI.2.2.2.2.2.1)
  · exact (fun i hi => by
    have hi : i < C.2 11 0 := by simpa +decide only [gup_at, gnew_at, gup_2, gnew_2, gtell, Prod.mk.injEq, true_and, and_true, false_and, and_false, if_true, if_false, eq_self, and_self, ginc_1, ginc_2] using hi
    have h := hI.2.2.2.2.2.2.1 i hi
    by_cases hq : i = b.toNatClampNeg
    · subst hq
      simp +decide only [gup_at, gnew_at, gup_2, gnew_2, gtell, Prod.mk.injEq, true_and, and_true, false_and, and_false, if_true, if_false, eq_self, and_self, ginc_1, ginc_2]
      exact ⟨h.1, h.2.1, h.2.2.1, h.2.2.2.1, Or.inr rfl⟩
    · simp +decide only [gup_at, gnew_at, gup_2, gnew_2, gtell, Prod.mk.injEq, true_and, and_true, false_and, and_false, if_true, if_false, eq_self, and_self, ginc_1, ginc_2, hq]
      exact h)
  · exact (gI13_f (by simp +decide only [gup_at, gnew_at, gup_2, gnew_2, gtell, Prod.mk.injEq, true_and, and_true, false_and, and_false, if_true, if_false, eq_self, and_self, ginc_1, ginc_2]) (fun _ => by simp +decide only [gup_at, gnew_at, gup_2, gnew_2, gtell, Prod.mk.injEq, true_and, and_true, false_and, and_false, if_true, if_false, eq_self, and_self, ginc_1, ginc_2]) (by simp +decide only [gup_at, gnew_at, gup_2, gnew_2, gtell, Prod.mk.injEq, true_and, and_true, false_and, and_false, if_true, if_false, eq_self, and_self, ginc_1, ginc_2]) (fun _ _ _ => by simp +decide only [gup_at, gnew_at, gup_2, gnew_2, gtell, Prod.mk.injEq, true_and, and_true, false_and, and_false, if_true, if_false, eq_self, and_self, ginc_1, ginc_2]) (fun _ => by simp +decide only [gup_at, gnew_at, gup_2, gnew_2, gtell, Prod.mk.injEq, true_and, and_true, false_and, and_false, if_true, if_false, eq_self, and_self, ginc_1, ginc_2]) (fun _ => by simp +decide only [gup_at, gnew_at, gup_2, gnew_2, gtell, Prod.mk.injEq, true_and, and_true, false_and, and_false, if_true, if_false, eq_self, and_self, ginc_1, ginc_2]) hI.2.2.2.2.2.2.2.1)
  · exact (fun i hi => by
    have hi : i < C.2 12 0 := by simpa +decide only [gup_at, gnew_at, gup_2, gnew_2, gtell, Prod.mk.injEq, true_and, and_true, false_and, and_false, if_true, if_false, eq_self, and_self, ginc_1, ginc_2] using hi
    have h := hI.2.2.2.2.2.2.2.2.1 i hi
    by_cases hq : i = a.toNatClampNeg
    · subst hq
      simp +decide only [gup_at, gnew_at, gup_2, gnew_2, gtell, Prod.mk.injEq, true_and, and_true, false_and, and_false, if_true, if_false, eq_self, and_self, ginc_1, ginc_2]
      exact ⟨ga_ship h4, gbl_if h.2⟩
    · simp +decide only [gup_at, gnew_at, gup_2, gnew_2, gtell, Prod.mk.injEq, true_and, and_true, false_and, and_false, if_true, if_false, eq_self, and_self, ginc_1, ginc_2, hq]
      exact h)
  · exact (gmiss_f (by simp +decide only [gup_at, gnew_at, gup_2, gnew_2, gtell, Prod.mk.injEq, true_and, and_true, false_and, and_false, if_true, if_false, eq_self, and_self, ginc_1, ginc_2]) (by simp +decide only [gup_at, gnew_at, gup_2, gnew_2, gtell, Prod.mk.injEq, true_and, and_true, false_and, and_false, if_true, if_false, eq_self, and_self, ginc_1, ginc_2]) (by simp +decide only [gup_at, gnew_at, gup_2, gnew_2, gtell, Prod.mk.injEq, true_and, and_true, false_and, and_false, if_true, if_false, eq_self, and_self, ginc_1, ginc_2]) (by simp +decide only [gup_at, gnew_at, gup_2, gnew_2, gtell, Prod.mk.injEq, true_and, and_true, false_and, and_false, if_true, if_false, eq_self, and_self, ginc_1, ginc_2]) (fun _ => by simp +decide only [gup_at, gnew_at, gup_2, gnew_2, gtell, Prod.mk.injEq, true_and, and_true, false_and, and_false, if_true, if_false, eq_self, and_self, ginc_1, ginc_2]) (fun _ => by simp +decide only [gup_at, gnew_at, gup_2, gnew_2, gtell, Prod.mk.injEq, true_and, and_true, false_and, and_false, if_true, if_false, eq_self, and_self, ginc_1, ginc_2]) hI.2.2.2.2.2.2.2.2.2.1)
  · exact (fun i hi => by
        have hi : i < C.2 6 0 := by simpa +decide only [gup_at, gnew_at, gup_2, gnew_2, gtell, Prod.mk.injEq, true_and, and_true, false_and, and_false, if_true, if_false, eq_self, and_self, ginc_1, ginc_2] using hi
        simp +decide only [gup_at, gnew_at, gup_2, gnew_2, gtell, Prod.mk.injEq, true_and, and_true, false_and, and_false, if_true, if_false, eq_self, and_self, ginc_1, ginc_2]
        exact hx.1 i hi)
  · exact (fun i hi => by
        have hi : i < C.2 7 0 := by simpa +decide only [gup_at, gnew_at, gup_2, gnew_2, gtell, Prod.mk.injEq, true_and, and_true, false_and, and_false, if_true, if_false, eq_self, and_self, ginc_1, ginc_2] using hi
        simp +decide only [gup_at, gnew_at, gup_2, gnew_2, gtell, Prod.mk.injEq, true_and, and_true, false_and, and_false, if_true, if_false, eq_self, and_self, ginc_1, ginc_2]
        exact hx.2.1 i hi)
  · exact (fun i hi => by
        have hi : i < C.2 8 0 := by simpa +decide only [gup_at, gnew_at, gup_2, gnew_2, gtell, Prod.mk.injEq, true_and, and_true, false_and, and_false, if_true, if_false, eq_self, and_self, ginc_1, ginc_2] using hi
        simp +decide only [gup_at, gnew_at, gup_2, gnew_2, gtell, Prod.mk.injEq, true_and, and_true, false_and, and_false, if_true, if_false, eq_self, and_self, ginc_1, ginc_2]
        exact gin_up (hx.2.2.1 i hi) (by omega) (by omega))
  · exact (fun i hi => by
        have hi : i < C.2 9 0 := by simpa +decide only [gup_at, gnew_at, gup_2, gnew_2, gtell, Prod.mk.injEq, true_and, and_true, false_and, and_false, if_true, if_false, eq_self, and_self, ginc_1, ginc_2] using hi
        simp +decide only [gup_at, gnew_at, gup_2, gnew_2, gtell, Prod.mk.injEq, true_and, and_true, false_and, and_false, if_true, if_false, eq_self, and_self, ginc_1, ginc_2]
        exact hx.2.2.2.1 i hi)
  · exact (fun i hi => by
        have hi : i < C.2 10 0 := by simpa +decide only [gup_at, gnew_at, gup_2, gnew_2, gtell, Prod.mk.injEq, true_and, and_true, false_and, and_false, if_true, if_false, eq_self, and_self, ginc_1, ginc_2] using hi
        simp +decide only [gup_at, gnew_at, gup_2, gnew_2, gtell, Prod.mk.injEq, true_and, and_true, false_and, and_false, if_true, if_false, eq_self, and_self, ginc_1, ginc_2]
        exact hx.2.2.2.2.1 i hi)
  · exact (by simp +decide only [gup_at, gnew_at, gup_2, gnew_2, gtell, Prod.mk.injEq, true_and, and_true, false_and, and_false, if_true, if_false, eq_self, and_self, ginc_1, ginc_2]; exact hx.2.2.2.2.2.1)
  · exact (fun i hi => by
        have hi : i < C.2 9 0 := by simpa +decide only [gup_at, gnew_at, gup_2, gnew_2, gtell, Prod.mk.injEq, true_and, and_true, false_and, and_false, if_true, if_false, eq_self, and_self, ginc_1, ginc_2] using hi
        simp +decide only [gup_at, gnew_at, gup_2, gnew_2, gtell, Prod.mk.injEq, true_and, and_true, false_and, and_false, if_true, if_false, eq_self, and_self, ginc_1, ginc_2]
        exact hx.2.2.2.2.2.2.1 i hi)
  · exact (fun i hi => by
        have hi : i < C.2 8 0 := by simpa +decide only [gup_at, gnew_at, gup_2, gnew_2, gtell, Prod.mk.injEq, true_and, and_true, false_and, and_false, if_true, if_false, eq_self, and_self, ginc_1, ginc_2] using hi
        simp +decide only [gup_at, gnew_at, gup_2, gnew_2, gtell, Prod.mk.injEq, true_and, and_true, false_and, and_false, if_true, if_false, eq_self, and_self, ginc_1, ginc_2]
        exact hx.2.2.2.2.2.2.2 i hi)

theorem i_gross {C : gG} {n : Nat} (hI : gI n C) (hn : n ≤ 512) (hz5 : C.1 (0, 0, 0) 5 = 0) (a : Int32) : gok1 n (F_gross C a) := by
  unfold F_gross
  by_cases h1 : ¬ gin 0 a 19 = true
  · rw [if_pos h1]
    exact gok_thr hI hn _
  rw [if_neg h1]
  by_cases h2 : ¬ Int32.ofNat (C.2 11 0) < 30
  · rw [if_pos h2]
    exact gok_thr hI hn _
  rw [if_neg h2]
  have h13 : C.2 13 (C.2 11 0) = 0 := hI.1.2.2.2 _ (Nat.le_refl _)
  have hx := hI.2.2.2.2.2.2.2.2.2.2
  refine ⟨⟨?_, ?_, ?_, ?_, ?_, ?_, ?_, ?_, ?_, ?_, ?_, ?_, ?_, ?_, ?_, ?_, ?_, ?_⟩, (by simp +decide only [gup_at, gnew_at, gup_2, gnew_2, gtell, Prod.mk.injEq, true_and, and_true, false_and, and_false, if_true, if_false, eq_self, and_self, ginc_1, ginc_2, hz5])⟩
  · exact (by
    obtain ⟨h1, ⟨b6, b7, b8, b9, b10, b11, b12⟩, h3, h4⟩ := hI.1
    have hb : C.2 11 0 < 30 := (gsz_n (m := 30) (hI.cnt 5 0 (by decide)) (Classical.not_not.mp h2))
    refine ⟨gfix_gross h1, ⟨?_, ?_, ?_, ?_, ?_, ?_, ?_⟩, fun l g hl hg => ?_, fun g hg => ?_⟩
    all_goals first | (simp +decide only [gup_at, gnew_at, gup_2, gnew_2, gtell, Prod.mk.injEq, true_and, and_true, false_and, and_false, if_true, if_false, eq_self, and_self, ginc_1, ginc_2]; omega) | skip
    · have e1 : ¬ (6 + l = 11 ∧ g = 0) := fun z => hg z.2
      have e2 : ¬ (6 + l = 4 ∧ g = 7) := fun z => by omega
      simp +decide only [gup_at, gnew_at, gup_2, gnew_2, gtell, Prod.mk.injEq, true_and, and_true, false_and, and_false, if_true, if_false, eq_self, and_self, ginc_1, ginc_2, e1, e2]
      exact h3 l g hl hg
    · have hg : C.2 11 0 + 1 ≤ g := by simpa +decide only [gup_at, gnew_at, gup_2, gnew_2, gtell, Prod.mk.injEq, true_and, and_true, false_and, and_false, if_true, if_false, eq_self, and_self, ginc_1, ginc_2] using hg
      simp +decide only [gup_at, gnew_at, gup_2, gnew_2, gtell, Prod.mk.injEq, true_and, and_true, false_and, and_false, if_true, if_false, eq_self, and_self, ginc_1, ginc_2]
      exact h4 g (by omega))
  · exact (gI2_f (fun _ _ _ => by simp +decide only [gup_at, gnew_at, gup_2, gnew_2, gtell, Prod.mk.injEq, true_and, and_true, false_and, and_false, if_true, if_false, eq_self, and_self, ginc_1, ginc_2]) (fun _ _ _ => by simp +decide only [gup_at, gnew_at, gup_2, gnew_2, gtell, Prod.mk.injEq, true_and, and_true, false_and, and_false, if_true, if_false, eq_self, and_self, ginc_1, ginc_2]) hI.2.1)
  · exact (gI3_f (Nat.le_succ n) (by omega) (by simp +decide only [gup_at, gnew_at, gup_2, gnew_2, gtell, Prod.mk.injEq, true_and, and_true, false_and, and_false, if_true, if_false, eq_self, and_self, ginc_1, ginc_2]) (by simp +decide only [gup_at, gnew_at, gup_2, gnew_2, gtell, Prod.mk.injEq, true_and, and_true, false_and, and_false, if_true, if_false, eq_self, and_self, ginc_1, ginc_2]) (fun _ _ _ => by simp +decide only [gup_at, gnew_at, gup_2, gnew_2, gtell, Prod.mk.injEq, true_and, and_true, false_and, and_false, if_true, if_false, eq_self, and_self, ginc_1, ginc_2]) hI.2.2.1)
  · exact (gI6_f (by simp +decide only [gup_at, gnew_at, gup_2, gnew_2, gtell, Prod.mk.injEq, true_and, and_true, false_and, and_false, if_true, if_false, eq_self, and_self, ginc_1, ginc_2]) (fun _ _ _ => by simp +decide only [gup_at, gnew_at, gup_2, gnew_2, gtell, Prod.mk.injEq, true_and, and_true, false_and, and_false, if_true, if_false, eq_self, and_self, ginc_1, ginc_2]) hI.2.2.2.1)
  · exact (gI8_f (by simp +decide only [gup_at, gnew_at, gup_2, gnew_2, gtell, Prod.mk.injEq, true_and, and_true, false_and, and_false, if_true, if_false, eq_self, and_self, ginc_1, ginc_2]) (by simp +decide only [gup_at, gnew_at, gup_2, gnew_2, gtell, Prod.mk.injEq, true_and, and_true, false_and, and_false, if_true, if_false, eq_self, and_self, ginc_1, ginc_2]) (fun _ _ _ => by simp +decide only [gup_at, gnew_at, gup_2, gnew_2, gtell, Prod.mk.injEq, true_and, and_true, false_and, and_false, if_true, if_false, eq_self, and_self, ginc_1, ginc_2]) hI.2.2.2.2.1)
  · exact (gI10_f (by simp +decide only [gup_at, gnew_at, gup_2, gnew_2, gtell, Prod.mk.injEq, true_and, and_true, false_and, and_false, if_true, if_false, eq_self, and_self, ginc_1, ginc_2]) (by simp +decide only [gup_at, gnew_at, gup_2, gnew_2, gtell, Prod.mk.injEq, true_and, and_true, false_and, and_false, if_true, if_false, eq_self, and_self, ginc_1, ginc_2]) (by simp +decide only [gup_at, gnew_at, gup_2, gnew_2, gtell, Prod.mk.injEq, true_and, and_true, false_and, and_false, if_true, if_false, eq_self, and_self, ginc_1, ginc_2]) (fun _ _ _ => by simp +decide only [gup_at, gnew_at, gup_2, gnew_2, gtell, Prod.mk.injEq, true_and, and_true, false_and, and_false, if_true, if_false, eq_self, and_self, ginc_1, ginc_2]) (fun _ => by simp +decide only [gup_at, gnew_at, gup_2, gnew_2, gtell, Prod.mk.injEq, true_and, and_true, false_and, and_false, if_true, if_false, eq_self, and_self, ginc_1, ginc_2]) hI.2.2.2.2.2.1)
  · exact (fun i hi => by
    have hi : i < C.2 11 0 + 1 := by simpa +decide only [gup_at, gnew_at, gup_2, gnew_2, gtell, Prod.mk.injEq, true_and, and_true, false_and, and_false, if_true, if_false, eq_self, and_self, ginc_1, ginc_2] using hi
    by_cases hq : i = C.2 11 0
    · subst hq
      simp +decide only [gup_at, gnew_at, gup_2, gnew_2, gtell, Prod.mk.injEq, true_and, and_true, false_and, and_false, if_true, if_false, eq_self, and_self, ginc_1, ginc_2]
      exact ⟨by rw [h13]; rfl, by rw [h13]; exact Int.le_refl 0, (by decide : ¬ 144 < (0 : Int32)), (gin_iff.mp (Classical.not_not.mp h1)).1, Or.inl rfl⟩
    · have hi : i < C.2 11 0 := by omega
      have h := hI.2.2.2.2.2.2.1 i hi
      simp +decide only [gup_at, gnew_at, gup_2, gnew_2, gtell, Prod.mk.injEq, true_and, and_true, false_and, and_false, if_true, if_false, eq_self, and_self, ginc_1, ginc_2, hq]
      exact h)
  · exact (fun i j hi hj => by
    have hi : i < C.2 11 0 + 1 := by simpa +decide only [gup_at, gnew_at, gup_2, gnew_2, gtell, Prod.mk.injEq, true_and, and_true, false_and, and_false, if_true, if_false, eq_self, and_self, ginc_1, ginc_2] using hi
    have hj : j < C.2 13 i := by simpa +decide only [gup_at, gnew_at, gup_2, gnew_2, gtell, Prod.mk.injEq, true_and, and_true, false_and, and_false, if_true, if_false, eq_self, and_self, ginc_1, ginc_2] using hj
    have hq : ¬ i = C.2 11 0 := fun z => by rw [z, h13] at hj; omega
    simp +decide only [gup_at, gnew_at, gup_2, gnew_2, gtell, Prod.mk.injEq, true_and, and_true, false_and, and_false, if_true, if_false, eq_self, and_self, ginc_1, ginc_2, hq]
    exact hI.2.2.2.2.2.2.2.1 i j (by omega) hj)
  · exact (gI12_f (by simp +decide only [gup_at, gnew_at, gup_2, gnew_2, gtell, Prod.mk.injEq, true_and, and_true, false_and, and_false, if_true, if_false, eq_self, and_self, ginc_1, ginc_2]) (fun _ _ _ => by simp +decide only [gup_at, gnew_at, gup_2, gnew_2, gtell, Prod.mk.injEq, true_and, and_true, false_and, and_false, if_true, if_false, eq_self, and_self, ginc_1, ginc_2]) hI.2.2.2.2.2.2.2.2.1)
  · exact (by
    have h := hI.2.2.2.2.2.2.2.2.2.1
    unfold gmiss at h ⊢
    have e : gsum (fun i => (gnew (ginc C 4 7) (11, 0, C.2 11 0) (glist [a, 0, 0])).1 (11, 0, i) 1) (C.2 11 0 + 1) = gsum (fun i => C.1 (11, 0, i) 1) (C.2 11 0) := by
      rw [gsum_1]
      rw [gsum_c (g := fun i => C.1 (11, 0, i) 1) (fun i hi => ?_)]
      · simp +decide only [gup_at, gnew_at, gup_2, gnew_2, gtell, Prod.mk.injEq, true_and, and_true, false_and, and_false, if_true, if_false, eq_self, and_self, ginc_1, ginc_2]
        exact Int32.add_zero _
      · have hne : ¬ i = C.2 11 0 := by omega
        simp +decide only [gup_at, gnew_at, gup_2, gnew_2, gtell, Prod.mk.injEq, true_and, and_true, false_and, and_false, if_true, if_false, eq_self, and_self, ginc_1, ginc_2, hne]
    simp +decide only [gnew_2, ginc_2, if_true, if_false, and_self, false_and, true_and, and_true]
    rw [e]
    simp +decide only [gup_at, gnew_at, gup_2, gnew_2, gtell, Prod.mk.injEq, true_and, and_true, false_and, and_false, if_true, if_false, eq_self, and_self, ginc_1, ginc_2]
    exact h)
  · exact (fun i hi => by
        have hi : i < C.2 6 0 := by simpa +decide only [gup_at, gnew_at, gup_2, gnew_2, gtell, Prod.mk.injEq, true_and, and_true, false_and, and_false, if_true, if_false, eq_self, and_self, ginc_1, ginc_2] using hi
        simp +decide only [gup_at, gnew_at, gup_2, gnew_2, gtell, Prod.mk.injEq, true_and, and_true, false_and, and_false, if_true, if_false, eq_self, and_self, ginc_1, ginc_2]
        exact hx.1 i hi)
  · exact (fun i hi => by
        have hi : i < C.2 7 0 := by simpa +decide only [gup_at, gnew_at, gup_2, gnew_2, gtell, Prod.mk.injEq, true_and, and_true, false_and, and_false, if_true, if_false, eq_self, and_self, ginc_1, ginc_2] using hi
        simp +decide only [gup_at, gnew_at, gup_2, gnew_2, gtell, Prod.mk.injEq, true_and, and_true, false_and, and_false, if_true, if_false, eq_self, and_self, ginc_1, ginc_2]
        exact hx.2.1 i hi)
  · exact (fun i hi => by
        have hi : i < C.2 8 0 := by simpa +decide only [gup_at, gnew_at, gup_2, gnew_2, gtell, Prod.mk.injEq, true_and, and_true, false_and, and_false, if_true, if_false, eq_self, and_self, ginc_1, ginc_2] using hi
        simp +decide only [gup_at, gnew_at, gup_2, gnew_2, gtell, Prod.mk.injEq, true_and, and_true, false_and, and_false, if_true, if_false, eq_self, and_self, ginc_1, ginc_2]
        exact gin_up (hx.2.2.1 i hi) (by omega) (by omega))
  · exact (fun i hi => by
        have hi : i < C.2 9 0 := by simpa +decide only [gup_at, gnew_at, gup_2, gnew_2, gtell, Prod.mk.injEq, true_and, and_true, false_and, and_false, if_true, if_false, eq_self, and_self, ginc_1, ginc_2] using hi
        simp +decide only [gup_at, gnew_at, gup_2, gnew_2, gtell, Prod.mk.injEq, true_and, and_true, false_and, and_false, if_true, if_false, eq_self, and_self, ginc_1, ginc_2]
        exact hx.2.2.2.1 i hi)
  · exact (fun i hi => by
        have hi : i < C.2 10 0 := by simpa +decide only [gup_at, gnew_at, gup_2, gnew_2, gtell, Prod.mk.injEq, true_and, and_true, false_and, and_false, if_true, if_false, eq_self, and_self, ginc_1, ginc_2] using hi
        simp +decide only [gup_at, gnew_at, gup_2, gnew_2, gtell, Prod.mk.injEq, true_and, and_true, false_and, and_false, if_true, if_false, eq_self, and_self, ginc_1, ginc_2]
        exact hx.2.2.2.2.1 i hi)
  · exact (by simp +decide only [gup_at, gnew_at, gup_2, gnew_2, gtell, Prod.mk.injEq, true_and, and_true, false_and, and_false, if_true, if_false, eq_self, and_self, ginc_1, ginc_2]; exact hx.2.2.2.2.2.1)
  · exact (fun i hi => by
        have hi : i < C.2 9 0 := by simpa +decide only [gup_at, gnew_at, gup_2, gnew_2, gtell, Prod.mk.injEq, true_and, and_true, false_and, and_false, if_true, if_false, eq_self, and_self, ginc_1, ginc_2] using hi
        simp +decide only [gup_at, gnew_at, gup_2, gnew_2, gtell, Prod.mk.injEq, true_and, and_true, false_and, and_false, if_true, if_false, eq_self, and_self, ginc_1, ginc_2]
        exact hx.2.2.2.2.2.2.1 i hi)
  · exact (fun i hi => by
        have hi : i < C.2 8 0 := by simpa +decide only [gup_at, gnew_at, gup_2, gnew_2, gtell, Prod.mk.injEq, true_and, and_true, false_and, and_false, if_true, if_false, eq_self, and_self, ginc_1, ginc_2] using hi
        simp +decide only [gup_at, gnew_at, gup_2, gnew_2, gtell, Prod.mk.injEq, true_and, and_true, false_and, and_false, if_true, if_false, eq_self, and_self, ginc_1, ginc_2]
        exact hx.2.2.2.2.2.2.2 i hi)

theorem i_pack {C : gG} {n : Nat} (hI : gI n C) (hn : n ≤ 512) (hz5 : C.1 (0, 0, 0) 5 = 0) (a : Int32) (b : Int32) (c : Int32) : gok1 n (F_pack C a b c) := by
  unfold F_pack
  by_cases h1 : ¬ gix (C.2 11 0) a = true
  · rw [if_pos h1]
    exact gok_thr hI hn _
  rw [if_neg h1]
  by_cases h2 : ¬ gix (C.2 10 0) b = true
  · rw [if_pos h2]
    exact gok_thr hI hn _
  rw [if_neg h2]
  by_cases h3 : ¬ gin 1 c 144 = true
  · rw [if_pos h3]
    exact gok_thr hI hn _
  rw [if_neg h3]
  by_cases h4 : ¬ C.1 (10, 0, b.toNatClampNeg) 9 = C.1 (11, 0, a.toNatClampNeg) 0 ∨ C.1 (0, 0, 0) 0 < C.1 (10, 0, b.toNatClampNeg) 6 ∨ C.1 (10, 0, b.toNatClampNeg) 3 < c
  · rw [if_pos h4]
    exact gok_thr hI hn _
  rw [if_neg h4]
  by_cases h5 : 144 < C.1 (11, 0, a.toNatClampNeg) 1 + c ∨ ¬ C.1 (11, 0, a.toNatClampNeg) 2 = 0
  · rw [if_pos h5]
    exact gok_thr hI hn _
  rw [if_neg h5]
  have eA : ((gnew (gup (gup C (10, 0, b.toNatClampNeg) 3 ((C.1 (10, 0, b.toNatClampNeg) 3) - c)) (10, 0, b.toNatClampNeg) 4 ((C.1 (10, 0, b.toNatClampNeg) 4) - (c - (gmin c ((C.1 (10, 0, b.toNatClampNeg) 3) - (C.1 (10, 0, b.toNatClampNeg) 4)))))) (13, a.toNatClampNeg, (C.2 13 a.toNatClampNeg)) ((glist [b, c, c - gmin c (C.1 (10, 0, b.toNatClampNeg) 3 - C.1 (10, 0, b.toNatClampNeg) 4)]))).1 (11, 0, a.toNatClampNeg) 1) + ((gnew (gup (gup C (10, 0, b.toNatClampNeg) 3 ((C.1 (10, 0, b.toNatClampNeg) 3) - c)) (10, 0, b.toNatClampNeg) 4 ((C.1 (10, 0, b.toNatClampNeg) 4) - (c - (gmin c ((C.1 (10, 0, b.toNatClampNeg) 3) - (C.1 (10, 0, b.toNatClampNeg) 4)))))) (13, a.toNatClampNeg, (C.2 13 a.toNatClampNeg)) ((glist [b, c, c - gmin c (C.1 (10, 0, b.toNatClampNeg) 3 - C.1 (10, 0, b.toNatClampNeg) 4)]))).1 (13, a.toNatClampNeg, (C.2 13 a.toNatClampNeg)) 1) = C.1 (11, 0, a.toNatClampNeg) 1 + c := by
    simp +decide only [gup_at, gnew_at, gup_2, gnew_2, gtell, Prod.mk.injEq, true_and, and_true, false_and, and_false, if_true, if_false, eq_self, and_self, ginc_1, ginc_2]
    rfl
  rw [eA]
  have hc9 := (Classical.not_not.mp h3)
  have h10 := hI.2.2.2.2.2.1 b.toNatClampNeg (gix_lt (Nat.le_trans (hI.cnt 4 0 (by decide)) (by decide)) (Classical.not_not.mp h2))
  have h11 := hI.2.2.2.2.2.2.1 a.toNatClampNeg (gix_lt (Nat.le_trans (hI.cnt 5 0 (by decide)) (by decide)) (Classical.not_not.mp h1))
  have hP := ga_pack h10.2.2.1 h10.2.2.2.1 hc9 (fun z => h4 (Or.inr (Or.inr z)))
  have h144 : ¬ 144 < C.1 (11, 0, a.toNatClampNeg) 1 + c := (fun z => h5 (Or.inl z))
  have hst : C.1 (10, 0, b.toNatClampNeg) 9 = C.1 (11, 0, a.toNatClampNeg) 0 := (Classical.not_not.mp (fun z => h4 (Or.inl z)))
  have ha11 : a.toNatClampNeg < C.2 11 0 := (gix_lt (Nat.le_trans (hI.cnt 5 0 (by decide)) (by decide)) (Classical.not_not.mp h1))
  have hb10 : b.toNatClampNeg < C.2 10 0 := (gix_lt (Nat.le_trans (hI.cnt 4 0 (by decide)) (by decide)) (Classical.not_not.mp h2))
  have hx := hI.2.2.2.2.2.2.2.2.2.2
  refine ⟨⟨?_, ?_, ?_, ?_, ?_, ?_, ?_, ?_, ?_, ?_, ?_, ?_, ?_, ?_, ?_, ?_, ?_, ?_⟩, (by simp +decide only [gup_at, gnew_at, gup_2, gnew_2, gtell, Prod.mk.injEq, true_and, and_true, false_and, and_false, if_true, if_false, eq_self, and_self, ginc_1, ginc_2, hz5])⟩
  · exact (by
    obtain ⟨h1, ⟨b6, b7, b8, b9, b10, b11, b12⟩, h3, h4⟩ := hI.1
    refine ⟨gfix_new (a := 13) (C := C) (g := a.toNatClampNeg) (n := 0) (row := fun _ => 0) (by decide) h1, ⟨b6, b7, b8, b9, b10, b11, b12⟩, fun l g hl hg => ?_, fun g hg => ?_⟩
    · have e1 : ¬ (6 + l = 13 ∧ g = a.toNatClampNeg) := fun z => by omega
      simp +decide only [gup_at, gnew_at, gup_2, gnew_2, gtell, Prod.mk.injEq, true_and, and_true, false_and, and_false, if_true, if_false, eq_self, and_self, ginc_1, ginc_2, e1]
      exact h3 l g hl hg
    · have hg : C.2 11 0 ≤ g := by simpa +decide only [gup_at, gnew_at, gup_2, gnew_2, gtell, Prod.mk.injEq, true_and, and_true, false_and, and_false, if_true, if_false, eq_self, and_self, ginc_1, ginc_2] using hg
      have e1 : ¬ g = a.toNatClampNeg := by omega
      simp +decide only [gup_at, gnew_at, gup_2, gnew_2, gtell, Prod.mk.injEq, true_and, and_true, false_and, and_false, if_true, if_false, eq_self, and_self, ginc_1, ginc_2, e1]
      exact h4 g hg)
  · exact (gI2_f (fun _ _ _ => by simp +decide only [gup_at, gnew_at, gup_2, gnew_2, gtell, Prod.mk.injEq, true_and, and_true, false_and, and_false, if_true, if_false, eq_self, and_self, ginc_1, ginc_2]) (fun _ _ _ => by simp +decide only [gup_at, gnew_at, gup_2, gnew_2, gtell, Prod.mk.injEq, true_and, and_true, false_and, and_false, if_true, if_false, eq_self, and_self, ginc_1, ginc_2]) hI.2.1)
  · exact (gI3_f (Nat.le_succ n) (by omega) (by simp +decide only [gup_at, gnew_at, gup_2, gnew_2, gtell, Prod.mk.injEq, true_and, and_true, false_and, and_false, if_true, if_false, eq_self, and_self, ginc_1, ginc_2]) (by simp +decide only [gup_at, gnew_at, gup_2, gnew_2, gtell, Prod.mk.injEq, true_and, and_true, false_and, and_false, if_true, if_false, eq_self, and_self, ginc_1, ginc_2]) (fun _ _ _ => by simp +decide only [gup_at, gnew_at, gup_2, gnew_2, gtell, Prod.mk.injEq, true_and, and_true, false_and, and_false, if_true, if_false, eq_self, and_self, ginc_1, ginc_2]) hI.2.2.1)
  · exact (gI6_f (by simp +decide only [gup_at, gnew_at, gup_2, gnew_2, gtell, Prod.mk.injEq, true_and, and_true, false_and, and_false, if_true, if_false, eq_self, and_self, ginc_1, ginc_2]) (fun _ _ _ => by simp +decide only [gup_at, gnew_at, gup_2, gnew_2, gtell, Prod.mk.injEq, true_and, and_true, false_and, and_false, if_true, if_false, eq_self, and_self, ginc_1, ginc_2]) hI.2.2.2.1)
  · exact (gI8_f (by simp +decide only [gup_at, gnew_at, gup_2, gnew_2, gtell, Prod.mk.injEq, true_and, and_true, false_and, and_false, if_true, if_false, eq_self, and_self, ginc_1, ginc_2]) (by simp +decide only [gup_at, gnew_at, gup_2, gnew_2, gtell, Prod.mk.injEq, true_and, and_true, false_and, and_false, if_true, if_false, eq_self, and_self, ginc_1, ginc_2]) (fun _ _ _ => by simp +decide only [gup_at, gnew_at, gup_2, gnew_2, gtell, Prod.mk.injEq, true_and, and_true, false_and, and_false, if_true, if_false, eq_self, and_self, ginc_1, ginc_2]) hI.2.2.2.2.1)
  · exact (fun i hi => by
    have hi : i < C.2 10 0 := by simpa +decide only [gup_at, gnew_at, gup_2, gnew_2, gtell, Prod.mk.injEq, true_and, and_true, false_and, and_false, if_true, if_false, eq_self, and_self, ginc_1, ginc_2] using hi
    have h := hI.2.2.2.2.2.1 i hi
    by_cases hq : i = b.toNatClampNeg
    · subst hq
      simp +decide only [gup_at, gnew_at, gup_2, gnew_2, gtell, Prod.mk.injEq, true_and, and_true, false_and, and_false, if_true, if_false, eq_self, and_self, ginc_1, ginc_2]
      exact ⟨h.1, h.2.1, hP.1, hP.2.1, h.2.2.2.2⟩
    · simp +decide only [gup_at, gnew_at, gup_2, gnew_2, gtell, Prod.mk.injEq, true_and, and_true, false_and, and_false, if_true, if_false, eq_self, and_self, ginc_1, ginc_2, hq]
      exact h)
  · exact (fun i hi => by
    have hi : i < C.2 11 0 := by simpa +decide only [gup_at, gnew_at, gup_2, gnew_2, gtell, Prod.mk.injEq, true_and, and_true, false_and, and_false, if_true, if_false, eq_self, and_self, ginc_1, ginc_2] using hi
    have h := hI.2.2.2.2.2.2.1 i hi
    by_cases hq : i = a.toNatClampNeg
    · subst hq
      have e : gsum (fun j => if j = C.2 13 a.toNatClampNeg then glist [b, c, c - gmin c (C.1 (10, 0, b.toNatClampNeg) 3 - C.1 (10, 0, b.toNatClampNeg) 4)] 1 else C.1 (13, a.toNatClampNeg, j) 1) (C.2 13 a.toNatClampNeg + 1) = C.1 (11, 0, a.toNatClampNeg) 1 + c := by
        rw [gsum_1, h.1]
        refine congr (congrArg _ (gsum_c fun j hj => if_neg (by omega))) (if_pos rfl)
      simp +decide only [gup_at, gnew_at, gup_2, gnew_2, gtell, Prod.mk.injEq, true_and, and_true, false_and, and_false, if_true, if_false, eq_self, and_self, ginc_1, ginc_2]
      exact ⟨e.symm, ga_packg h.2.1 h.2.2.1 hc9, h144, h.2.2.2⟩
    · simp +decide only [gup_at, gnew_at, gup_2, gnew_2, gtell, Prod.mk.injEq, true_and, and_true, false_and, and_false, if_true, if_false, eq_self, and_self, ginc_1, ginc_2, hq]
      exact h)
  · exact (fun i j hi hj => by
    have hi : i < C.2 11 0 := by simpa +decide only [gup_at, gnew_at, gup_2, gnew_2, gtell, Prod.mk.injEq, true_and, and_true, false_and, and_false, if_true, if_false, eq_self, and_self, ginc_1, ginc_2] using hi
    by_cases hq : i = a.toNatClampNeg
    · subst hq
      have hj : j < C.2 13 a.toNatClampNeg + 1 := by simpa +decide only [gup_at, gnew_at, gup_2, gnew_2, gtell, Prod.mk.injEq, true_and, and_true, false_and, and_false, if_true, if_false, eq_self, and_self, ginc_1, ginc_2] using hj
      by_cases hp : j = C.2 13 a.toNatClampNeg
      · subst hp
        simp +decide only [gup_at, gnew_at, gup_2, gnew_2, gtell, Prod.mk.injEq, true_and, and_true, false_and, and_false, if_true, if_false, eq_self, and_self, ginc_1, ginc_2]
        exact ⟨(Classical.not_not.mp h2), hst, hP.2.2⟩
      · simp +decide only [gup_at, gnew_at, gup_2, gnew_2, gtell, Prod.mk.injEq, true_and, and_true, false_and, and_false, if_true, if_false, eq_self, and_self, ginc_1, ginc_2, hp]
        exact hI.2.2.2.2.2.2.2.1 _ j hi (by omega)
    · have hj : j < C.2 13 i := by simpa +decide only [gup_at, gnew_at, gup_2, gnew_2, gtell, Prod.mk.injEq, true_and, and_true, false_and, and_false, if_true, if_false, eq_self, and_self, ginc_1, ginc_2, hq] using hj
      simp +decide only [gup_at, gnew_at, gup_2, gnew_2, gtell, Prod.mk.injEq, true_and, and_true, false_and, and_false, if_true, if_false, eq_self, and_self, ginc_1, ginc_2, hq]
      exact hI.2.2.2.2.2.2.2.1 i j hi hj)
  · exact (gI12_f (by simp +decide only [gup_at, gnew_at, gup_2, gnew_2, gtell, Prod.mk.injEq, true_and, and_true, false_and, and_false, if_true, if_false, eq_self, and_self, ginc_1, ginc_2]) (fun _ _ _ => by simp +decide only [gup_at, gnew_at, gup_2, gnew_2, gtell, Prod.mk.injEq, true_and, and_true, false_and, and_false, if_true, if_false, eq_self, and_self, ginc_1, ginc_2]) hI.2.2.2.2.2.2.2.2.1)
  · exact (by
    have h := hI.2.2.2.2.2.2.2.2.2.1
    unfold gmiss at h ⊢
    simp +decide only [gup_at, gnew_at, gup_2, gnew_2, gtell, Prod.mk.injEq, true_and, and_true, false_and, and_false, if_true, if_false, eq_self, and_self, ginc_1, ginc_2]
    rw [gsum_up (f := fun i => C.1 (10, 0, i) 3) (δ := -c) hb10 (fun i _ hi => by simp only [hi, if_false]) (by simp only [if_true]; exact Int32.sub_eq_add_neg _ _), gsum_up (f := fun i => C.1 (11, 0, i) 1) (δ := c) ha11 (fun i _ hi => by simp only [hi, if_false]) (by simp only [if_true])]
    exact gm_pack _ _ _ _ _ h)
  · exact (fun i hi => by
        have hi : i < C.2 6 0 := by simpa +decide only [gup_at, gnew_at, gup_2, gnew_2, gtell, Prod.mk.injEq, true_and, and_true, false_and, and_false, if_true, if_false, eq_self, and_self, ginc_1, ginc_2] using hi
        simp +decide only [gup_at, gnew_at, gup_2, gnew_2, gtell, Prod.mk.injEq, true_and, and_true, false_and, and_false, if_true, if_false, eq_self, and_self, ginc_1, ginc_2]
        exact hx.1 i hi)
  · exact (fun i hi => by
        have hi : i < C.2 7 0 := by simpa +decide only [gup_at, gnew_at, gup_2, gnew_2, gtell, Prod.mk.injEq, true_and, and_true, false_and, and_false, if_true, if_false, eq_self, and_self, ginc_1, ginc_2] using hi
        simp +decide only [gup_at, gnew_at, gup_2, gnew_2, gtell, Prod.mk.injEq, true_and, and_true, false_and, and_false, if_true, if_false, eq_self, and_self, ginc_1, ginc_2]
        exact hx.2.1 i hi)
  · exact (fun i hi => by
        have hi : i < C.2 8 0 := by simpa +decide only [gup_at, gnew_at, gup_2, gnew_2, gtell, Prod.mk.injEq, true_and, and_true, false_and, and_false, if_true, if_false, eq_self, and_self, ginc_1, ginc_2] using hi
        simp +decide only [gup_at, gnew_at, gup_2, gnew_2, gtell, Prod.mk.injEq, true_and, and_true, false_and, and_false, if_true, if_false, eq_self, and_self, ginc_1, ginc_2]
        exact gin_up (hx.2.2.1 i hi) (by omega) (by omega))
  · exact (fun i hi => by
        have hi : i < C.2 9 0 := by simpa +decide only [gup_at, gnew_at, gup_2, gnew_2, gtell, Prod.mk.injEq, true_and, and_true, false_and, and_false, if_true, if_false, eq_self, and_self, ginc_1, ginc_2] using hi
        simp +decide only [gup_at, gnew_at, gup_2, gnew_2, gtell, Prod.mk.injEq, true_and, and_true, false_and, and_false, if_true, if_false, eq_self, and_self, ginc_1, ginc_2]
        exact hx.2.2.2.1 i hi)
  · exact (fun i hi => by
        have hi : i < C.2 10 0 := by simpa +decide only [gup_at, gnew_at, gup_2, gnew_2, gtell, Prod.mk.injEq, true_and, and_true, false_and, and_false, if_true, if_false, eq_self, and_self, ginc_1, ginc_2] using hi
        simp +decide only [gup_at, gnew_at, gup_2, gnew_2, gtell, Prod.mk.injEq, true_and, and_true, false_and, and_false, if_true, if_false, eq_self, and_self, ginc_1, ginc_2]
        exact hx.2.2.2.2.1 i hi)
  · exact (by simp +decide only [gup_at, gnew_at, gup_2, gnew_2, gtell, Prod.mk.injEq, true_and, and_true, false_and, and_false, if_true, if_false, eq_self, and_self, ginc_1, ginc_2]; exact hx.2.2.2.2.2.1)
  · exact (fun i hi => by
        have hi : i < C.2 9 0 := by simpa +decide only [gup_at, gnew_at, gup_2, gnew_2, gtell, Prod.mk.injEq, true_and, and_true, false_and, and_false, if_true, if_false, eq_self, and_self, ginc_1, ginc_2] using hi
        simp +decide only [gup_at, gnew_at, gup_2, gnew_2, gtell, Prod.mk.injEq, true_and, and_true, false_and, and_false, if_true, if_false, eq_self, and_self, ginc_1, ginc_2]
        exact hx.2.2.2.2.2.2.1 i hi)
  · exact (fun i hi => by
        have hi : i < C.2 8 0 := by simpa +decide only [gup_at, gnew_at, gup_2, gnew_2, gtell, Prod.mk.injEq, true_and, and_true, false_and, and_false, if_true, if_false, eq_self, and_self, ginc_1, ginc_2] using hi
        simp +decide only [gup_at, gnew_at, gup_2, gnew_2, gtell, Prod.mk.injEq, true_and, and_true, false_and, and_false, if_true, if_false, eq_self, and_self, ginc_1, ginc_2]
        exact hx.2.2.2.2.2.2.2 i hi)

theorem i_const {C : gG} {n : Nat} (hI : gI n C) (hn : n ≤ 512) (hz5 : C.1 (0, 0, 0) 5 = 0) (v : Int32) : gok1 n (F_const C v) := gok_id hI hn hz5 v
/-- pencils are taken: what changes, and what holds of it -/
theorem gsmp_f (C : gG) (r n : Nat) : ∀ (K : gKey) (f : Nat), ¬ (K = (0, 0, 0) ∧ f = 2) → ¬ (K = (10, 0, r) ∧ (f = 3 ∨ f = 4)) → (gsmp C r n).1 K f = C.1 K f := by
  induction n with
  | zero => intro K f _ _; rfl
  | succ n ih =>
    intro K f h1 h2
    rw [← ih K f h1 h2]
    show (gsmp1 (gsmp C r n) r).1 K f = _
    generalize gsmp C r n = D
    unfold gsmp1
    have e3 : ¬ (K = (10, 0, r) ∧ f = 3) := fun z => h2 ⟨z.1, Or.inl z.2⟩
    have e4 : ¬ (K = (10, 0, r) ∧ f = 4) := fun z => h2 ⟨z.1, Or.inr z.2⟩
    split
    · simp only [gup_at, h1, e3, e4, if_false]
    · simp only [gup_at, h1, e3, if_false]
theorem gsmp_g (C : gG) (r m : Nat) (hz : ¬ C.1 (0, 0, 0) 2 < 0) (hb : gin 0 (C.1 (10, 0, r) 4) (C.1 (10, 0, r) 3) = true) (hm : ∀ j, j < m → 0 < C.1 (10, 0, r) 3 - Int32.ofNat j) : ∀ n, n ≤ m → ¬ (gsmp C r n).1 (0, 0, 0) 2 < 0 ∧ gin 0 ((gsmp C r n).1 (10, 0, r) 4) ((gsmp C r n).1 (10, 0, r) 3) = true := by
  intro n
  induction n with
  | zero => intro _; exact ⟨hz, hb⟩
  | succ n ih =>
    intro hn
    obtain ⟨g1, g2⟩ := ih (by omega)
    have g3 := hm n (by omega)
    rw [← gsmp_3] at g3
    show ¬ (gsmp1 (gsmp C r n) r).1 (0, 0, 0) 2 < 0 ∧ gin 0 ((gsmp1 (gsmp C r n) r).1 (10, 0, r) 4) ((gsmp1 (gsmp C r n) r).1 (10, 0, r) 3) = true
    generalize gsmp C r n = D at g1 g2 g3
    obtain ⟨s1, s2⟩ := ga_smp (ga_nz g1) g2 g3
    unfold gsmp1
    split
    · rename_i h
      simp +decide only [gup_at, gnew_at, gup_2, gnew_2, gtell, Prod.mk.injEq, true_and, and_true, false_and, and_false, if_true, if_false, eq_self, and_self, ginc_1, ginc_2]
      exact ⟨ga_nz g1, s1 h⟩
    · rename_i h
      simp +decide only [gup_at, gnew_at, gup_2, gnew_2, gtell, Prod.mk.injEq, true_and, and_true, false_and, and_false, if_true, if_false, eq_self, and_self, ginc_1, ginc_2]
      exact ⟨ga_nz g1, s2 h⟩
theorem i_sample {C : gG} {n : Nat} (hI : gI n C) (hn : n ≤ 512) (hz5 : C.1 (0, 0, 0) 5 = 0) (a b : Int32) : gok1 n (F_sample C a b) := by
  unfold F_sample
  by_cases h1 : ¬ gix (C.2 10 0) a = true
  · rw [if_pos h1]; exact gok_thr hI hn _
  rw [if_neg h1]
  by_cases h2 : ¬ gin 1 b 50 = true
  · rw [if_pos h2]; exact gok_thr hI hn _
  rw [if_neg h2]
  by_cases h3 : C.1 (10, 0, a.toNatClampNeg) 3 < b
  · rw [if_pos h3]; exact gok_thr hI hn _
  rw [if_neg h3]
  have h1 := Classical.not_not.mp h1
  have h2 := Classical.not_not.mp h2
  have hr : a.toNatClampNeg < C.2 10 0 := gix_lt (Nat.le_trans (hI.cnt 4 0 (by decide)) (by decide)) h1
  obtain ⟨eb, hb50⟩ := gin50 h2
  have hx := hI.2.2.2.2.2.2.2.2.2.2
  have h10 := hI.2.2.2.2.2.1 _ hr
  have hf := gsmp_f C a.toNatClampNeg b.toNatClampNeg
  have hg := gsmp_g C a.toNatClampNeg b.toNatClampNeg hx.2.2.2.2.2.1 h10.2.2.1 (fun j hj => gsmp_pos h2 h3 hj) _ (Nat.le_refl _)
  have hN := gsmp_2 C a.toNatClampNeg b.toNatClampNeg
  have h33 := gsmp_3 C a.toNatClampNeg b.toNatClampNeg
  rw [← eb] at h33
  have hup : ¬ 500 < C.1 (10, 0, a.toNatClampNeg) 3 - b := ga_kilos h10.2.2.2.1 (gin_iff.mp h2).1 h3
  generalize gsmp C a.toNatClampNeg b.toNatClampNeg = S at hf hg hN h33
  have U : ∀ (K : gKey) (f : Nat), ¬ (K = (0, 0, 0) ∧ (f = 2 ∨ f = 4)) → ¬ (K = (10, 0, a.toNatClampNeg) ∧ (f = 3 ∨ f = 4)) → (gup S (0, 0, 0) 4 (S.1 (0, 0, 0) 4 + b)).1 K f = C.1 K f := fun K f e1 e2 => by
    rw [gup_at, if_neg (fun z => e1 ⟨z.1, Or.inr z.2⟩)]
    exact hf K f (fun z => e1 ⟨z.1, Or.inl z.2⟩) e2
  have Ug : ∀ k : Nat, k ≠ 0 → k ≠ 10 → gag C (gup S (0, 0, 0) 4 (S.1 (0, 0, 0) 4 + b)) k := fun k e0 e10 _ _ _ => U _ _ (fun z => e0 (congrArg (·.1) z.1)) (fun z => e10 (congrArg (·.1) z.1))
  have UN : ∀ x y : Nat, (gup S (0, 0, 0) 4 (S.1 (0, 0, 0) 4 + b)).2 x y = C.2 x y := fun x y => by rw [gup_2, hN]
  have U10 : ∀ i f : Nat, f ≠ 3 → f ≠ 4 → (gup S (0, 0, 0) 4 (S.1 (0, 0, 0) 4 + b)).1 (10, 0, i) f = C.1 (10, 0, i) f := fun i f e3 e4 => U _ _ (fun z => absurd (congrArg (·.1) z.1) (show (10 : Nat) ≠ 0 by decide)) (fun z => z.2.elim e3 e4)
  have U10n : ∀ i f : Nat, i ≠ a.toNatClampNeg → (gup S (0, 0, 0) 4 (S.1 (0, 0, 0) 4 + b)).1 (10, 0, i) f = C.1 (10, 0, i) f := fun i f e => U _ _ (fun z => absurd (congrArg (·.1) z.1) (show (10 : Nat) ≠ 0 by decide)) (fun z => e (congrArg (·.2.2) z.1))
  have V3 : (gup S (0, 0, 0) 4 (S.1 (0, 0, 0) 4 + b)).1 (10, 0, a.toNatClampNeg) 3 = S.1 (10, 0, a.toNatClampNeg) 3 := gup_vc _ (show (10 : Nat) ≠ 0 by decide)
  have V4 : (gup S (0, 0, 0) 4 (S.1 (0, 0, 0) 4 + b)).1 (10, 0, a.toNatClampNeg) 4 = S.1 (10, 0, a.toNatClampNeg) 4 := gup_vc _ (show (10 : Nat) ≠ 0 by decide)
  refine ⟨⟨by show gI1 S.2; rw [hN]; exact hI.1, gI2_f (Ug 3 (by decide) (by decide)) (Ug 1 (by decide) (by decide)) hI.2.1, gI3_f (Nat.le_succ n) (by omega) (U _ _ (by simp) (by simp)) (U _ _ (by simp) (by simp)) (Ug 2 (by decide) (by decide)) hI.2.2.1, gI6_f (UN _ _) (Ug 6 (by decide) (by decide)) hI.2.2.2.1, gI8_f (UN _ _) (UN _ _) (Ug 8 (by decide) (by decide)) hI.2.2.2.2.1, ?_, gI11_f (UN _ _) (fun _ => UN _ _) (Ug 11 (by decide) (by decide)) (fun _ _ => Ug 13 (by decide) (by decide) _ _ _) hI.2.2.2.2.2.2.1, gI13_f (UN _ _) (fun _ => UN _ _) (UN _ _) (Ug 13 (by decide) (by decide)) (fun i => U10 i 9 (by decide) (by decide)) (fun _ => Ug 11 (by decide) (by decide) _ _ _) hI.2.2.2.2.2.2.2.1, gI12_f (UN _ _) (Ug 12 (by decide) (by decide)) hI.2.2.2.2.2.2.2.2.1, ?_, ?_⟩, ?_⟩
  · intro i hi
    rw [UN] at hi
    have h := hI.2.2.2.2.2.1 i hi
    rw [UN, UN, U10 i 0 (by decide) (by decide), U10 i 1 (by decide) (by decide), U10 i 9 (by decide) (by decide), U10 i 7 (by decide) (by decide), U10 i 10 (by decide) (by decide), Ug 8 (by decide) (by decide)]
    by_cases hq : i = a.toNatClampNeg
    · subst hq
      rw [V3, V4]
      exact ⟨h.1, h.2.1, hg.2, by rw [h33]; exact hup, h.2.2.2.2⟩
    · rw [U10n i 3 hq, U10n i 4 hq]
      exact h
  · have h := hI.2.2.2.2.2.2.2.2.2.1
    show gmiss (gup S (0, 0, 0) 4 (S.1 (0, 0, 0) 4 + b))
    unfold gmiss at h ⊢
    rw [UN, UN, U _ 3 (by simp) (by simp), gup_v]
    rw [gsum_up (f := fun i => C.1 (10, 0, i) 3) (δ := -b) hr (fun i _ hi => U10n i 3 hi) (by rw [V3, h33]; exact Int32.sub_eq_add_neg _ _), gsum_c (g := fun i => C.1 (11, 0, i) 1) (fun i _ => Ug 11 (by decide) (by decide) 0 i 1)]
    rw [← Int32.sub_eq_add_neg, hf (0, 0, 0) 4 (by simp) (by simp)]
    exact gm_smp _ _ _ _ _ h
  · obtain ⟨x0, x1, x2, x3, x4, x5, x6, x7⟩ := hx
    refine ⟨fun i hi => ?_, fun i hi => ?_, fun i hi => ?_, fun i hi => ?_, fun i hi => ?_, ?_, fun i hi => ?_, fun i hi => ?_⟩
    · rw [UN] at hi; rw [Ug 6 (by decide) (by decide)]; exact x0 i hi
    · rw [UN] at hi; rw [Ug 7 (by decide) (by decide), Ug 7 (by decide) (by decide)]; exact x1 i hi
    · rw [UN] at hi; rw [Ug 8 (by decide) (by decide)]; exact gin_up (x2 i hi) (by omega) (by omega)
    · rw [UN] at hi; rw [Ug 9 (by decide) (by decide)]; exact x3 i hi
    · rw [UN] at hi; rw [U10 i 5 (by decide) (by decide)]; exact x4 i hi
    · rw [gup_vf _ (by decide)]; exact hg.1
    · rw [UN] at hi; rw [Ug 9 (by decide) (by decide)]; exact x6 i hi
    · rw [UN] at hi; rw [Ug 8 (by decide) (by decide)]; exact x7 i hi
  · rw [U _ 5 (by simp) (by simp)]
    exact hz5
/-- at the start it holds -/
theorem gI_0 : gI 0 gst := by
  have hN : ∀ a : Nat, 5 < a → a < 14 → ∀ b, gst.2 a b = 0 := fun a h1 h2 b => by
    unfold gst
    simp only [ginc_2, giC]
    repeat rw [if_neg (by omega)]
  refine ⟨⟨⟨by decide, by decide, by decide, by decide, fun l hl => ?_, by decide, by decide, by decide⟩, ⟨by decide, by decide, by decide, by decide, by decide, by decide, by decide⟩, fun l g hl hg => hN _ (by omega) (by omega) g, fun g _ => hN 13 (by decide) (by decide) g⟩, ⟨fun i => Or.inl rfl, fun i hi => ?_, Or.inr rfl, fun i => Or.inr rfl⟩, ⟨by decide, by decide, by decide, by decide, by decide⟩, fun i hi => ?_, fun i hi => ?_, fun i hi => ?_, fun i hi => ?_, fun i j hi hj => ?_, fun i hi => ?_, ?_, ⟨fun i hi => ?_, fun i hi => ?_, fun i hi => ?_, fun i hi => ?_, fun i hi => ?_, by decide, fun i hi => ?_, fun i hi => ?_⟩⟩
  · obtain rfl | rfl | rfl | rfl | rfl | rfl | rfl : l = 0 ∨ l = 1 ∨ l = 2 ∨ l = 3 ∨ l = 4 ∨ l = 5 ∨ l = 6 := by omega
    all_goals decide
  · rfl
  all_goals first | (rw [hN _ (by decide) (by decide)] at hi; omega) | skip
  unfold gmiss
  rw [hN 10 (by decide) (by decide), hN 11 (by decide) (by decide)]
  decide

end Z39
