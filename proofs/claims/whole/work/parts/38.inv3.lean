
section Z38
theorem gnew_at (C : gG) (K K' : gKey) (row : Nat → Int32) (j : Nat) : (gnew C K row).1 K' j = if K' = K then row j else C.1 K' j := by
  by_cases h : K' = K
  · rw [h, gnew_1, if_pos rfl]
  · rw [gnew_1n row h, if_neg h]
theorem gsz_n {N m : Nat} (h : N ≤ 144) (hl : Int32.ofNat N < Int32.ofNat m) (hm : m ≤ 1000 := by omega) : N < m := (gofs_lt (by omega) (by omega)).mp hl
theorem gin_0n (m : Nat) (hm : m ≤ 100000) : gin 0 0 (Int32.ofNat m) = true := gin_t (by decide) (fun z => by
  rw [Int32.lt_iff_toInt_lt, Int32.toInt_ofNat_of_lt (by omega)] at z
  have e0 : (0 : Int32).toInt = 0 := rfl
  omega)
theorem ga_bore {w : Int32} (h : w < 200) : gin (-100000000) (20 + w / 40) 1000 = true := by
  have em : (-100000000 : Int32).toInt = -100000000 := by decide
  have e20 : (20 : Int32).toInt = 20 := rfl
  have e40 : (40 : Int32).toInt = 40 := rfl
  have e200 : (200 : Int32).toInt = 200 := rfl
  have e1000 : (1000 : Int32).toInt = 1000 := rfl
  rw [Int32.lt_iff_toInt_lt] at h
  have h2 := w.le_toInt
  obtain ⟨q, hq, hb⟩ : ∃ q : Int, (w / 40).toInt = q ∧ -60000000 ≤ q ∧ q ≤ 4 := by
    refine ⟨_, rfl, ?_⟩
    rw [Int32.toInt_div, e40]
    obtain ⟨q, hq, hh⟩ : ∃ q : Int, w.toInt.tdiv 40 = q ∧ ((0 ≤ w.toInt ∧ q = w.toInt / 40) ∨ (w.toInt < 0 ∧ q = -((-w.toInt) / 40))) := by
      refine ⟨_, rfl, ?_⟩
      by_cases h0 : 0 ≤ w.toInt
      · exact Or.inl ⟨h0, Int.tdiv_eq_ediv_of_nonneg h0⟩
      · refine Or.inr ⟨by omega, ?_⟩
        have e := Int.neg_tdiv (a := -w.toInt) (b := 40)
        rw [Int.neg_neg] at e
        rw [e, Int.tdiv_eq_ediv_of_nonneg (by omega)]
    rw [hq, Int.bmod_def]
    split <;> omega
  have s : (20 + w / 40).toInt = 20 + q := by
    rw [Int32.toInt_add, hq, Int.bmod_def]
    split <;> omega
  exact gin_t (fun z => by rw [Int32.lt_iff_toInt_lt, s] at z; omega) (fun z => by rw [Int32.lt_iff_toInt_lt, s] at z; omega)
theorem gsum_up {f g : Nat → Int32} {n r : Nat} {δ : Int32} (hr : r < n) (h : ∀ i, i < n → i ≠ r → g i = f i) (hd : g r = f r + δ) : gsum g n = gsum f n + δ := by
  induction n with
  | zero => omega
  | succ n ih =>
    rw [gsum_1, gsum_1]
    by_cases z : r = n
    · subst z
      rw [hd, gsum_c (fun i hi => h i (by omega) (by omega)), Int32.add_assoc]
    · rw [ih (by omega) (fun i hi => h i (by omega)), h n (by omega) (fun q => z q.symm), Int32.add_assoc, Int32.add_comm δ, Int32.add_assoc]
theorem gI1_new6 {C : gG} {n : Nat} {row : Nat → Int32} (h : gI1 C.2) (hb : C.2 6 0 < 16) : gI1 (gnew C (6, 0, n) row).2 := by
  obtain ⟨h1, ⟨b6, b7, b8, b9, b10, b11, b12⟩, h3, h4⟩ := h
  refine ⟨gfix_new (a := 6) (by decide) h1, ⟨?_, ?_, ?_, ?_, ?_, ?_, ?_⟩, fun l g hl hg => by rw [gnew_2, if_neg (fun z => hg z.2)]; exact h3 l g hl hg, fun g hg => ?_⟩
  all_goals first | (simp +decide only [gnew_2, if_true, if_false, true_and, and_true, false_and, and_self]; omega) | skip
  simp +decide only [gnew_2, if_false, false_and] at hg ⊢
  exact h4 g hg
theorem gI1_new7 {C : gG} {n : Nat} {row : Nat → Int32} (h : gI1 C.2) (hb : C.2 7 0 < 12) : gI1 (gnew C (7, 0, n) row).2 := by
  obtain ⟨h1, ⟨b6, b7, b8, b9, b10, b11, b12⟩, h3, h4⟩ := h
  refine ⟨gfix_new (a := 7) (by decide) h1, ⟨?_, ?_, ?_, ?_, ?_, ?_, ?_⟩, fun l g hl hg => by rw [gnew_2, if_neg (fun z => hg z.2)]; exact h3 l g hl hg, fun g hg => ?_⟩
  all_goals first | (simp +decide only [gnew_2, if_true, if_false, true_and, and_true, false_and, and_self]; omega) | skip
  simp +decide only [gnew_2, if_false, false_and] at hg ⊢
  exact h4 g hg
theorem gI1_new8 {C : gG} {n : Nat} {row : Nat → Int32} (h : gI1 C.2) (hb : C.2 8 0 < 16) : gI1 (gnew C (8, 0, n) row).2 := by
  obtain ⟨h1, ⟨b6, b7, b8, b9, b10, b11, b12⟩, h3, h4⟩ := h
  refine ⟨gfix_new (a := 8) (by decide) h1, ⟨?_, ?_, ?_, ?_, ?_, ?_, ?_⟩, fun l g hl hg => by rw [gnew_2, if_neg (fun z => hg z.2)]; exact h3 l g hl hg, fun g hg => ?_⟩
  all_goals first | (simp +decide only [gnew_2, if_true, if_false, true_and, and_true, false_and, and_self]; omega) | skip
  simp +decide only [gnew_2, if_false, false_and] at hg ⊢
  exact h4 g hg
theorem gI1_new9 {C : gG} {n : Nat} {row : Nat → Int32} (h : gI1 C.2) (hb : C.2 9 0 < 12) : gI1 (gnew C (9, 0, n) row).2 := by
  obtain ⟨h1, ⟨b6, b7, b8, b9, b10, b11, b12⟩, h3, h4⟩ := h
  refine ⟨gfix_new (a := 9) (by decide) h1, ⟨?_, ?_, ?_, ?_, ?_, ?_, ?_⟩, fun l g hl hg => by rw [gnew_2, if_neg (fun z => hg z.2)]; exact h3 l g hl hg, fun g hg => ?_⟩
  all_goals first | (simp +decide only [gnew_2, if_true, if_false, true_and, and_true, false_and, and_self]; omega) | skip
  simp +decide only [gnew_2, if_false, false_and] at hg ⊢
  exact h4 g hg
theorem gI1_new10 {C : gG} {n : Nat} {row : Nat → Int32} (h : gI1 C.2) (hb : C.2 10 0 < 16) : gI1 (gnew C (10, 0, n) row).2 := by
  obtain ⟨h1, ⟨b6, b7, b8, b9, b10, b11, b12⟩, h3, h4⟩ := h
  refine ⟨gfix_new (a := 10) (by decide) h1, ⟨?_, ?_, ?_, ?_, ?_, ?_, ?_⟩, fun l g hl hg => by rw [gnew_2, if_neg (fun z => hg z.2)]; exact h3 l g hl hg, fun g hg => ?_⟩
  all_goals first | (simp +decide only [gnew_2, if_true, if_false, true_and, and_true, false_and, and_self]; omega) | skip
  simp +decide only [gnew_2, if_false, false_and] at hg ⊢
  exact h4 g hg
theorem gI1_new12 {C : gG} {n : Nat} {row : Nat → Int32} (h : gI1 C.2) (hb : C.2 12 0 < 12) : gI1 (gnew C (12, 0, n) row).2 := by
  obtain ⟨h1, ⟨b6, b7, b8, b9, b10, b11, b12⟩, h3, h4⟩ := h
  refine ⟨gfix_new (a := 12) (by decide) h1, ⟨?_, ?_, ?_, ?_, ?_, ?_, ?_⟩, fun l g hl hg => by rw [gnew_2, if_neg (fun z => hg z.2)]; exact h3 l g hl hg, fun g hg => ?_⟩
  all_goals first | (simp +decide only [gnew_2, if_true, if_false, true_and, and_true, false_and, and_self]; omega) | skip
  simp +decide only [gnew_2, if_false, false_and] at hg ⊢
  exact h4 g hg
theorem gtell_0 (C : gG) : (gtell C).1 (2, 0, 0) 0 = if C.1 (2, 0, 0) 1 + 1 = 8 then C.1 (2, 0, 0) 0 + 3 else C.1 (2, 0, 0) 0 := by simp +decide only [gup_at, gnew_at, gup_2, gnew_2, gtell, Prod.mk.injEq, true_and, and_true, false_and, and_false, if_true, if_false, eq_self, and_self]
theorem gtell_1 (C : gG) : (gtell C).1 (2, 0, 0) 1 = if C.1 (2, 0, 0) 1 + 1 = 8 then 0 else C.1 (2, 0, 0) 1 + 1 := by simp +decide only [gup_at, gnew_at, gup_2, gnew_2, gtell, Prod.mk.injEq, true_and, and_true, false_and, and_false, if_true, if_false, eq_self, and_self]
theorem gtell_2 (C : gG) : (gtell C).1 (2, 0, 0) 2 = C.1 (2, 0, 0) 2 + 1 := by simp +decide only [gup_at, gnew_at, gup_2, gnew_2, gtell, Prod.mk.injEq, true_and, and_true, false_and, and_false, if_true, if_false, eq_self, and_self]
theorem gI3_tell {C : gG} {n : Nat} (h : gI3 n C) (hn : n ≤ 512) : gI3 (n + 1) (gtell C) := by
  have hs := ga_since h.2.2.2.1 h.2.2.2.2
  refine ⟨by simp +decide only [gup_at, gnew_at, gup_2, gnew_2, gtell, Prod.mk.injEq, true_and, and_true, false_and, and_false, if_true, if_false, eq_self, and_self]; exact h.1, by simp +decide only [gup_at, gnew_at, gup_2, gnew_2, gtell, Prod.mk.injEq, true_and, and_true, false_and, and_false, if_true, if_false, eq_self, and_self]; exact gin_up h.2.1 (by omega) (by omega), ?_, by rw [gtell_1]; exact hs.1, by rw [gtell_1, gtell_2]; exact hs.2⟩
  rw [gtell_0]
  by_cases z : C.1 (2, 0, 0) 1 + 1 = 8
  · rw [if_pos z]; exact ga_inc3 (by omega) h.2.2.1
  · rw [if_neg z]; exact gin_up h.2.2.1 (by omega) (by omega)
theorem ga_5 {b : Int32} (h : gin 5 b 30 = true) : gin 0 b 30 = true := gin_t (fun z => (gin_iff.mp h).1 (Int32.lt_trans z (by decide))) (gin_iff.mp h).2
theorem ga_1 {b : Int32} (h : gin 1 b 500 = true) : gin 0 0 b = true := gin_t (by decide) (fun z => (gin_iff.mp h).1 (Int32.lt_trans z (by decide)))
theorem gm_lay (l d s p q : Int32) (h : l - s - p - q = 0) : l + d - (s + d) - p - q = 0 := by grind
theorem gm_pack (l s p q c : Int32) (h : l - s - p - q = 0) : l - (s + -c) - (p + c) - q = 0 := by grind
theorem gm_smp (l s p q c : Int32) (h : l - s - p - q = 0) : l - (s - c) - p - (q + c) = 0 := by grind
theorem i_kilos {C : gG} {n : Nat} (hI : gI n C) (hn : n ≤ 512) (hz5 : C.1 (0, 0, 0) 5 = 0) (a : Int32) : gok1 n (F_kilos C a) := by
  unfold F_kilos
  by_cases h1 : ¬ gix (C.2 6 0) a = true
  · rw [if_pos h1]
    exact gok_thr hI hn _
  rw [if_neg h1]
  exact gok_id hI hn hz5 _

theorem i_mixture {C : gG} {n : Nat} (hI : gI n C) (hn : n ≤ 512) (hz5 : C.1 (0, 0, 0) 5 = 0) (a : Int32) (b : Int32) : gok1 n (F_mixture C a b) := by
  unfold F_mixture
  by_cases h1 : ¬ gix (C.2 7 0) a = true
  · rw [if_pos h1]
    exact gok_thr hI hn _
  rw [if_neg h1]
  by_cases h2 : b = 99
  · rw [if_pos h2]
    exact gok_id hI hn hz5 _
  rw [if_neg h2]
  by_cases h3 : b = 102
  · rw [if_pos h3]
    exact gok_id hI hn hz5 _
  rw [if_neg h3]
  by_cases h4 : b = 107
  · rw [if_pos h4]
    exact gok_id hI hn hz5 _
  rw [if_neg h4]
  exact gok_thr hI hn _

theorem i_worn {C : gG} {n : Nat} (hI : gI n C) (hn : n ≤ 512) (hz5 : C.1 (0, 0, 0) 5 = 0) (a : Int32) : gok1 n (F_worn C a) := by
  unfold F_worn
  by_cases h1 : a < 0 ∨ ¬ a < 4
  · rw [if_pos h1]
    exact gok_thr hI hn _
  rw [if_neg h1]
  exact gok_id hI hn hz5 _

theorem i_batch {C : gG} {n : Nat} (hI : gI n C) (hn : n ≤ 512) (hz5 : C.1 (0, 0, 0) 5 = 0) (a : Int32) (b : Int32) : gok1 n (F_batch C a b) := by
  unfold F_batch
  by_cases h1 : ¬ gix (C.2 8 0) a = true
  · rw [if_pos h1]
    exact gok_thr hI hn _
  rw [if_neg h1]
  by_cases h2 : b = 98
  · rw [if_pos h2]
    exact gok_id hI hn hz5 _
  rw [if_neg h2]
  by_cases h3 : b = 100
  · rw [if_pos h3]
    exact gok_id hI hn hz5 _
  rw [if_neg h3]
  by_cases h4 : b = 102
  · rw [if_pos h4]
    exact gok_id hI hn hz5 _
  rw [if_neg h4]
  by_cases h5 : b = 110
  · rw [if_pos h5]
    exact gok_id hI hn hz5 _
  rw [if_neg h5]
  by_cases h6 : b = 114
  · rw [if_pos h6]
    exact gok_id hI hn hz5 _
  rw [if_neg h6]
  by_cases h7 : b = 115
  · rw [if_pos h7]
    exact gok_id hI hn hz5 _
  rw [if_neg h7]
  by_cases h8 : b = 119
  · rw [if_pos h8]
    exact gok_id hI hn hz5 _
  rw [if_neg h8]
  exact gok_thr hI hn _

theorem i_slat {C : gG} {n : Nat} (hI : gI n C) (hn : n ≤ 512) (hz5 : C.1 (0, 0, 0) 5 = 0) (a : Int32) (b : Int32) : gok1 n (F_slat C a b) := by
  unfold F_slat
  by_cases h1 : ¬ gix (C.2 9 0) a = true
  · rw [if_pos h1]
    exact gok_thr hI hn _
  rw [if_neg h1]
  by_cases h2 : b = 103
  · rw [if_pos h2]
    exact gok_id hI hn hz5 _
  rw [if_neg h2]
  by_cases h3 : b = 110
  · rw [if_pos h3]
    exact gok_id hI hn hz5 _
  rw [if_neg h3]
  by_cases h4 : b = 114
  · rw [if_pos h4]
    exact gok_id hI hn hz5 _
  rw [if_neg h4]
  by_cases h5 : b = 119
  · rw [if_pos h5]
    exact gok_id hI hn hz5 _
  rw [if_neg h5]
  exact gok_thr hI hn _

theorem i_run {C : gG} {n : Nat} (hI : gI n C) (hn : n ≤ 512) (hz5 : C.1 (0, 0, 0) 5 = 0) (a : Int32) (b : Int32) : gok1 n (F_run C a b) := by
  unfold F_run
  by_cases h1 : ¬ gix (C.2 10 0) a = true
  · rw [if_pos h1]
    exact gok_thr hI hn _
  rw [if_neg h1]
  by_cases h2 : b = 98
  · rw [if_pos h2]
    exact gok_id hI hn hz5 _
  rw [if_neg h2]
  by_cases h3 : b = 99
  · rw [if_pos h3]
    exact gok_id hI hn hz5 _
  rw [if_neg h3]
  by_cases h4 : b = 103
  · rw [if_pos h4]
    exact gok_id hI hn hz5 _
  rw [if_neg h4]
  by_cases h5 : b = 108
  · rw [if_pos h5]
    exact gok_id hI hn hz5 _
  rw [if_neg h5]
  by_cases h6 : b = 110
  · rw [if_pos h6]
    exact gok_id hI hn hz5 _
  rw [if_neg h6]
  by_cases h7 : b = 111
  · rw [if_pos h7]
    exact gok_id hI hn hz5 _
  rw [if_neg h7]
  by_cases h8 : b = 114
  · rw [if_pos h8]
    exact gok_id hI hn hz5 _
  rw [if_neg h8]
  exact gok_thr hI hn _

theorem i_runs {C : gG} {n : Nat} (hI : gI n C) (hn : n ≤ 512) (hz5 : C.1 (0, 0, 0) 5 = 0) (a : Int32) : gok1 n (F_runs C a) := by
  unfold F_runs
  by_cases h1 : gmi a = -1
  · rw [if_pos h1]
    exact gok_thr hI hn _
  rw [if_neg h1]
  exact gok_id hI hn hz5 _

theorem i_claim {C : gG} {n : Nat} (hI : gI n C) (hn : n ≤ 512) (hz5 : C.1 (0, 0, 0) 5 = 0) (a : Int32) : gok1 n (F_claim C a) := by
  unfold F_claim
  by_cases h1 : ¬ gix (C.2 11 0) a = true
  · rw [if_pos h1]
    exact gok_thr hI hn _
  rw [if_neg h1]
  exact gok_id hI hn hz5 _

theorem i_isLate {C : gG} {n : Nat} (hI : gI n C) (hn : n ≤ 512) (hz5 : C.1 (0, 0, 0) 5 = 0) (a : Int32) : gok1 n (F_isLate C a) := by
  unfold F_isLate
  by_cases h1 : ¬ gix (C.2 12 0) a = true
  · rw [if_pos h1]
    exact gok_thr hI hn _
  rw [if_neg h1]
  exact gok_id hI hn hz5 _

theorem i_parts {C : gG} {n : Nat} (hI : gI n C) (hn : n ≤ 512) (hz5 : C.1 (0, 0, 0) 5 = 0) (a : Int32) : gok1 n (F_parts C a) := by
  unfold F_parts
  by_cases h1 : ¬ gix (C.2 11 0) a = true
  · rw [if_pos h1]
    exact gok_thr hI hn _
  rw [if_neg h1]
  exact gok_id hI hn hz5 _

theorem i_trace {C : gG} {n : Nat} (hI : gI n C) (hn : n ≤ 512) (hz5 : C.1 (0, 0, 0) 5 = 0) (a : Int32) (b : Int32) (c : Int32) : gok1 n (F_trace C a b c) := by
  unfold F_trace
  by_cases h1 : ¬ gix (C.2 11 0) a = true
  · rw [if_pos h1]
    exact gok_thr hI hn _
  rw [if_neg h1]
  by_cases h2 : ¬ gix (C.2 13 a.toNatClampNeg) b = true
  · rw [if_pos h2]
    exact gok_thr hI hn _
  rw [if_neg h2]
  by_cases h3 : c = 98
  · rw [if_pos h3]
    exact gok_id hI hn hz5 _
  rw [if_neg h3]
  by_cases h4 : c = 99
  · rw [if_pos h4]
    exact gok_id hI hn hz5 _
  rw [if_neg h4]
  by_cases h5 : c = 102
  · rw [if_pos h5]
    exact gok_id hI hn hz5 _
  rw [if_neg h5]
  by_cases h6 : c = 103
  · rw [if_pos h6]
    exact gok_id hI hn hz5 _
  rw [if_neg h6]
  by_cases h7 : c = 104
  · rw [if_pos h7]
    exact gok_id hI hn hz5 _
  rw [if_neg h7]
  by_cases h8 : c = 107
  · rw [if_pos h8]
    exact gok_id hI hn hz5 _
  rw [if_neg h8]
  by_cases h9 : c = 110
  · rw [if_pos h9]
    exact gok_id hI hn hz5 _
  rw [if_neg h9]
  by_cases h10 : c = 114
  · rw [if_pos h10]
    exact gok_id hI hn hz5 _
  rw [if_neg h10]
  by_cases h11 : c = 115
  · rw [if_pos h11]
    exact gok_id hI hn hz5 _
  rw [if_neg h11]
  by_cases h12 : c = 120
  · rw [if_pos h12]
    exact gok_id hI hn hz5 _
  rw [if_neg h12]
  exact gok_thr hI hn _

theorem i_go {C : gG} {n : Nat} (hI : gI n C) (hn : n ≤ 512) (hz5 : C.1 (0, 0, 0) 5 = 0) (a : Int32) : gok1 n (F_go C a) := by
  unfold F_go
  by_cases h1 : ¬ gin 1 a 500 = true
  · rw [if_pos h1]
    exact gok_thr hI hn _
  rw [if_neg h1]
  by_cases h2 : 9999 < C.1 (0, 0, 0) 0 + a
  · rw [if_pos h2]
    exact gok_thr hI hn _
  rw [if_neg h2]
  have hx := hI.2.2.2.2.2.2.2.2.2.2
  refine ⟨⟨?_, ?_, ?_, ?_, ?_, ?_, ?_, ?_, ?_, ?_, ?_, ?_, ?_, ?_, ?_, ?_, ?_, ?_⟩, (by simp +decide only [gup_at, gnew_at, gup_2, gnew_2, gtell, Prod.mk.injEq, true_and, and_true, false_and, and_false, if_true, if_false, eq_self, and_self, hz5])⟩
  · exact hI.1
  · exact (gI2_f (fun _ _ _ => by simp +decide only [gup_at, gnew_at, gup_2, gnew_2, gtell, Prod.mk.injEq, true_and, and_true, false_and, and_false, if_true, if_false, eq_self, and_self]) (fun _ _ _ => by simp +decide only [gup_at, gnew_at, gup_2, gnew_2, gtell, Prod.mk.injEq, true_and, and_true, false_and, and_false, if_true, if_false, eq_self, and_self]) hI.2.1)
  · exact (by
    have h3 := hI.2.2.1
    unfold gI3
    simp +decide only [gup_at, gnew_at, gup_2, gnew_2, gtell, Prod.mk.injEq, true_and, and_true, false_and, and_false, if_true, if_false, eq_self, and_self]
    exact ⟨ga_go h3.1 (Classical.not_not.mp h1) h2, gin_up h3.2.1 (by omega) (by omega), gin_up h3.2.2.1 (by omega) (by omega), h3.2.2.2.1, h3.2.2.2.2⟩)
  · exact (gI6_f (by simp +decide only [gup_at, gnew_at, gup_2, gnew_2, gtell, Prod.mk.injEq, true_and, and_true, false_and, and_false, if_true, if_false, eq_self, and_self]) (fun _ _ _ => by simp +decide only [gup_at, gnew_at, gup_2, gnew_2, gtell, Prod.mk.injEq, true_and, and_true, false_and, and_false, if_true, if_false, eq_self, and_self]) hI.2.2.2.1)
  · exact (gI8_f (by simp +decide only [gup_at, gnew_at, gup_2, gnew_2, gtell, Prod.mk.injEq, true_and, and_true, false_and, and_false, if_true, if_false, eq_self, and_self]) (by simp +decide only [gup_at, gnew_at, gup_2, gnew_2, gtell, Prod.mk.injEq, true_and, and_true, false_and, and_false, if_true, if_false, eq_self, and_self]) (fun _ _ _ => by simp +decide only [gup_at, gnew_at, gup_2, gnew_2, gtell, Prod.mk.injEq, true_and, and_true, false_and, and_false, if_true, if_false, eq_self, and_self]) hI.2.2.2.2.1)
  · exact (gI10_f (by simp +decide only [gup_at, gnew_at, gup_2, gnew_2, gtell, Prod.mk.injEq, true_and, and_true, false_and, and_false, if_true, if_false, eq_self, and_self]) (by simp +decide only [gup_at, gnew_at, gup_2, gnew_2, gtell, Prod.mk.injEq, true_and, and_true, false_and, and_false, if_true, if_false, eq_self, and_self]) (by simp +decide only [gup_at, gnew_at, gup_2, gnew_2, gtell, Prod.mk.injEq, true_and, and_true, false_and, and_false, if_true, if_false, eq_self, and_self]) (fun _ _ _ => by simp +decide only [gup_at, gnew_at, gup_2, gnew_2, gtell, Prod.mk.injEq, true_and, and_true, false_and, and_false, if_true, if_false, eq_self, and_self]) (fun _ => by simp +decide only [gup_at, gnew_at, gup_2, gnew_2, gtell, Prod.mk.injEq, true_and, and_true, false_and, and_false, if_true, if_false, eq_self, and_self]) hI.2.2.2.2.2.1)
  · exact (gI11_f (by simp +decide only [gup_at, gnew_at, gup_2, gnew_2, gtell, Prod.mk.injEq, true_and, and_true, false_and, and_false, if_true, if_false, eq_self, and_self]) (fun _ => by simp +decide only [gup_at, gnew_at, gup_2, gnew_2, gtell, Prod.mk.injEq, true_and, and_true, false_and, and_false, if_true, if_false, eq_self, and_self]) (fun _ _ _ => by simp +decide only [gup_at, gnew_at, gup_2, gnew_2, gtell, Prod.mk.injEq, true_and, and_true, false_and, and_false, if_true, if_false, eq_self, and_self]) (fun _ _ => by simp +decide only [gup_at, gnew_at, gup_2, gnew_2, gtell, Prod.mk.injEq, true_and, and_true, false_and, and_false, if_true, if_false, eq_self, and_self]) hI.2.2.2.2.2.2.1)
  · exact (gI13_f (by simp +decide only [gup_at, gnew_at, gup_2, gnew_2, gtell, Prod.mk.injEq, true_and, and_true, false_and, and_false, if_true, if_false, eq_self, and_self]) (fun _ => by simp +decide only [gup_at, gnew_at, gup_2, gnew_2, gtell, Prod.mk.injEq, true_and, and_true, false_and, and_false, if_true, if_false, eq_self, and_self]) (by simp +decide only [gup_at, gnew_at, gup_2, gnew_2, gtell, Prod.mk.injEq, true_and, and_true, false_and, and_false, if_true, if_false, eq_self, and_self]) (fun _ _ _ => by simp +decide only [gup_at, gnew_at, gup_2, gnew_2, gtell, Prod.mk.injEq, true_and, and_true, false_and, and_false, if_true, if_false, eq_self, and_self]) (fun _ => by simp +decide only [gup_at, gnew_at, gup_2, gnew_2, gtell, Prod.mk.injEq, true_and, and_true, false_and, and_false, if_true, if_false, eq_self, and_self]) (fun _ => by simp +decide only [gup_at, gnew_at, gup_2, gnew_2, gtell, Prod.mk.injEq, true_and, and_true, false_and, and_false, if_true, if_false, eq_self, and_self]) hI.2.2.2.2.2.2.2.1)
  · exact (gI12_f (by simp +decide only [gup_at, gnew_at, gup_2, gnew_2, gtell, Prod.mk.injEq, true_and, and_true, false_and, and_false, if_true, if_false, eq_self, and_self]) (fun _ _ _ => by simp +decide only [gup_at, gnew_at, gup_2, gnew_2, gtell, Prod.mk.injEq, true_and, and_true, false_and, and_false, if_true, if_false, eq_self, and_self]) hI.2.2.2.2.2.2.2.2.1)
  · exact (gmiss_f (by simp +decide only [gup_at, gnew_at, gup_2, gnew_2, gtell, Prod.mk.injEq, true_and, and_true, false_and, and_false, if_true, if_false, eq_self, and_self]) (by simp +decide only [gup_at, gnew_at, gup_2, gnew_2, gtell, Prod.mk.injEq, true_and, and_true, false_and, and_false, if_true, if_false, eq_self, and_self]) (by simp +decide only [gup_at, gnew_at, gup_2, gnew_2, gtell, Prod.mk.injEq, true_and, and_true, false_and, and_false, if_true, if_false, eq_self, and_self]) (by simp +decide only [gup_at, gnew_at, gup_2, gnew_2, gtell, Prod.mk.injEq, true_and, and_true, false_and, and_false, if_true, if_false, eq_self, and_self]) (fun _ => by simp +decide only [gup_at, gnew_at, gup_2, gnew_2, gtell, Prod.mk.injEq, true_and, and_true, false_and, and_false, if_true, if_false, eq_self, and_self]) (fun _ => by simp +decide only [gup_at, gnew_at, gup_2, gnew_2, gtell, Prod.mk.injEq, true_and, and_true, false_and, and_false, if_true, if_false, eq_self, and_self]) hI.2.2.2.2.2.2.2.2.2.1)
  · exact (fun i hi => by
        have hi : i < C.2 6 0 := by simpa +decide only [gup_at, gnew_at, gup_2, gnew_2, gtell, Prod.mk.injEq, true_and, and_true, false_and, and_false, if_true, if_false, eq_self, and_self] using hi
        simp +decide only [gup_at, gnew_at, gup_2, gnew_2, gtell, Prod.mk.injEq, true_and, and_true, false_and, and_false, if_true, if_false, eq_self, and_self]
        exact hx.1 i hi)
  · exact (fun i hi => by
        have hi : i < C.2 7 0 := by simpa +decide only [gup_at, gnew_at, gup_2, gnew_2, gtell, Prod.mk.injEq, true_and, and_true, false_and, and_false, if_true, if_false, eq_self, and_self] using hi
        simp +decide only [gup_at, gnew_at, gup_2, gnew_2, gtell, Prod.mk.injEq, true_and, and_true, false_and, and_false, if_true, if_false, eq_self, and_self]
        exact hx.2.1 i hi)
  · exact (fun i hi => by
        have hi : i < C.2 8 0 := by simpa +decide only [gup_at, gnew_at, gup_2, gnew_2, gtell, Prod.mk.injEq, true_and, and_true, false_and, and_false, if_true, if_false, eq_self, and_self] using hi
        simp +decide only [gup_at, gnew_at, gup_2, gnew_2, gtell, Prod.mk.injEq, true_and, and_true, false_and, and_false, if_true, if_false, eq_self, and_self]
        exact gin_up (hx.2.2.1 i hi) (by omega) (by omega))
  · exact (fun i hi => by
        have hi : i < C.2 9 0 := by simpa +decide only [gup_at, gnew_at, gup_2, gnew_2, gtell, Prod.mk.injEq, true_and, and_true, false_and, and_false, if_true, if_false, eq_self, and_self] using hi
        simp +decide only [gup_at, gnew_at, gup_2, gnew_2, gtell, Prod.mk.injEq, true_and, and_true, false_and, and_false, if_true, if_false, eq_self, and_self]
        exact hx.2.2.2.1 i hi)
  · exact (fun i hi => by
        have hi : i < C.2 10 0 := by simpa +decide only [gup_at, gnew_at, gup_2, gnew_2, gtell, Prod.mk.injEq, true_and, and_true, false_and, and_false, if_true, if_false, eq_self, and_self] using hi
        simp +decide only [gup_at, gnew_at, gup_2, gnew_2, gtell, Prod.mk.injEq, true_and, and_true, false_and, and_false, if_true, if_false, eq_self, and_self]
        exact hx.2.2.2.2.1 i hi)
  · exact (by simp +decide only [gup_at, gnew_at, gup_2, gnew_2, gtell, Prod.mk.injEq, true_and, and_true, false_and, and_false, if_true, if_false, eq_self, and_self]; exact hx.2.2.2.2.2.1)
  · exact (fun i hi => by
        have hi : i < C.2 9 0 := by simpa +decide only [gup_at, gnew_at, gup_2, gnew_2, gtell, Prod.mk.injEq, true_and, and_true, false_and, and_false, if_true, if_false, eq_self, and_self] using hi
        simp +decide only [gup_at, gnew_at, gup_2, gnew_2, gtell, Prod.mk.injEq, true_and, and_true, false_and, and_false, if_true, if_false, eq_self, and_self]
        exact hx.2.2.2.2.2.2.1 i hi)
  · exact (fun i hi => by
        have hi : i < C.2 8 0 := by simpa +decide only [gup_at, gnew_at, gup_2, gnew_2, gtell, Prod.mk.injEq, true_and, and_true, false_and, and_false, if_true, if_false, eq_self, and_self] using hi
        simp +decide only [gup_at, gnew_at, gup_2, gnew_2, gtell, Prod.mk.injEq, true_and, and_true, false_and, and_false, if_true, if_false, eq_self, and_self]
        exact hx.2.2.2.2.2.2.2 i hi)

theorem i_shaft {C : gG} {n : Nat} (hI : gI n C) (hn : n ≤ 512) (hz5 : C.1 (0, 0, 0) 5 = 0) (p : Prop) [Decidable p] : gok1 n (F_shaft C (gb p)) := by
  unfold F_shaft
  have hx := hI.2.2.2.2.2.2.2.2.2.2
  refine ⟨⟨?_, ?_, ?_, ?_, ?_, ?_, ?_, ?_, ?_, ?_, ?_, ?_, ?_, ?_, ?_, ?_, ?_, ?_⟩, (by simp +decide only [gup_at, gnew_at, gup_2, gnew_2, gtell, Prod.mk.injEq, true_and, and_true, false_and, and_false, if_true, if_false, eq_self, and_self, hz5])⟩
  · exact hI.1
  · exact ⟨fun i => by simp +decide only [gup_at, gnew_at, gup_2, gnew_2, gtell, Prod.mk.injEq, true_and, and_true, false_and, and_false, if_true, if_false, eq_self, and_self]; exact hI.2.1.1 i, fun i hi => by rw [gchn_c (C := C) (fun _ => by simp +decide only [gup_at, gnew_at, gup_2, gnew_2, gtell, Prod.mk.injEq, true_and, and_true, false_and, and_false, if_true, if_false, eq_self, and_self])]; exact hI.2.1.2.1 i hi, by simp +decide only [gup_at, gnew_at, gup_2, gnew_2, gtell, Prod.mk.injEq, true_and, and_true, false_and, and_false, if_true, if_false, eq_self, and_self]; exact gbl_gb, fun i => by simp +decide only [gup_at, gnew_at, gup_2, gnew_2, gtell, Prod.mk.injEq, true_and, and_true, false_and, and_false, if_true, if_false, eq_self, and_self]; exact hI.2.1.2.2.2 i⟩
  · exact (gI3_f (Nat.le_succ n) (by omega) (by simp +decide only [gup_at, gnew_at, gup_2, gnew_2, gtell, Prod.mk.injEq, true_and, and_true, false_and, and_false, if_true, if_false, eq_self, and_self]) (by simp +decide only [gup_at, gnew_at, gup_2, gnew_2, gtell, Prod.mk.injEq, true_and, and_true, false_and, and_false, if_true, if_false, eq_self, and_self]) (fun _ _ _ => by simp +decide only [gup_at, gnew_at, gup_2, gnew_2, gtell, Prod.mk.injEq, true_and, and_true, false_and, and_false, if_true, if_false, eq_self, and_self]) hI.2.2.1)
  · exact (gI6_f (by simp +decide only [gup_at, gnew_at, gup_2, gnew_2, gtell, Prod.mk.injEq, true_and, and_true, false_and, and_false, if_true, if_false, eq_self, and_self]) (fun _ _ _ => by simp +decide only [gup_at, gnew_at, gup_2, gnew_2, gtell, Prod.mk.injEq, true_and, and_true, false_and, and_false, if_true, if_false, eq_self, and_self]) hI.2.2.2.1)
  · exact (gI8_f (by simp +decide only [gup_at, gnew_at, gup_2, gnew_2, gtell, Prod.mk.injEq, true_and, and_true, false_and, and_false, if_true, if_false, eq_self, and_self]) (by simp +decide only [gup_at, gnew_at, gup_2, gnew_2, gtell, Prod.mk.injEq, true_and, and_true, false_and, and_false, if_true, if_false, eq_self, and_self]) (fun _ _ _ => by simp +decide only [gup_at, gnew_at, gup_2, gnew_2, gtell, Prod.mk.injEq, true_and, and_true, false_and, and_false, if_true, if_false, eq_self, and_self]) hI.2.2.2.2.1)
  · exact (gI10_f (by simp +decide only [gup_at, gnew_at, gup_2, gnew_2, gtell, Prod.mk.injEq, true_and, and_true, false_and, and_false, if_true, if_false, eq_self, and_self]) (by simp +decide only [gup_at, gnew_at, gup_2, gnew_2, gtell, Prod.mk.injEq, true_and, and_true, false_and, and_false, if_true, if_false, eq_self, and_self]) (by simp +decide only [gup_at, gnew_at, gup_2, gnew_2, gtell, Prod.mk.injEq, true_and, and_true, false_and, and_false, if_true, if_false, eq_self, and_self]) (fun _ _ _ => by simp +decide only [gup_at, gnew_at, gup_2, gnew_2, gtell, Prod.mk.injEq, true_and, and_true, false_and, and_false, if_true, if_false, eq_self, and_self]) (fun _ => by simp +decide only [gup_at, gnew_at, gup_2, gnew_2, gtell, Prod.mk.injEq, true_and, and_true, false_and, and_false, if_true, if_false, eq_self, and_self]) hI.2.2.2.2.2.1)
  · exact (gI11_f (by simp +decide only [gup_at, gnew_at, gup_2, gnew_2, gtell, Prod.mk.injEq, true_and, and_true, false_and, and_false, if_true, if_false, eq_self, and_self]) (fun _ => by simp +decide only [gup_at, gnew_at, gup_2, gnew_2, gtell, Prod.mk.injEq, true_and, and_true, false_and, and_false, if_true, if_false, eq_self, and_self]) (fun _ _ _ => by simp +decide only [gup_at, gnew_at, gup_2, gnew_2, gtell, Prod.mk.injEq, true_and, and_true, false_and, and_false, if_true, if_false, eq_self, and_self]) (fun _ _ => by simp +decide only [gup_at, gnew_at, gup_2, gnew_2, gtell, Prod.mk.injEq, true_and, and_true, false_and, and_false, if_true, if_false, eq_self, and_self]) hI.2.2.2.2.2.2.1)
  · exact (gI13_f (by simp +decide only [gup_at, gnew_at, gup_2, gnew_2, gtell, Prod.mk.injEq, true_and, and_true, false_and, and_false, if_true, if_false, eq_self, and_self]) (fun _ => by simp +decide only [gup_at, gnew_at, gup_2, gnew_2, gtell, Prod.mk.injEq, true_and, and_true, false_and, and_false, if_true, if_false, eq_self, and_self]) (by simp +decide only [gup_at, gnew_at, gup_2, gnew_2, gtell, Prod.mk.injEq, true_and, and_true, false_and, and_false, if_true, if_false, eq_self, and_self]) (fun _ _ _ => by simp +decide only [gup_at, gnew_at, gup_2, gnew_2, gtell, Prod.mk.injEq, true_and, and_true, false_and, and_false, if_true, if_false, eq_self, and_self]) (fun _ => by simp +decide only [gup_at, gnew_at, gup_2, gnew_2, gtell, Prod.mk.injEq, true_and, and_true, false_and, and_false, if_true, if_false, eq_self, and_self]) (fun _ => by simp +decide only [gup_at, gnew_at, gup_2, gnew_2, gtell, Prod.mk.injEq, true_and, and_true, false_and, and_false, if_true, if_false, eq_self, and_self]) hI.2.2.2.2.2.2.2.1)
  · exact (gI12_f (by simp +decide only [gup_at, gnew_at, gup_2, gnew_2, gtell, Prod.mk.injEq, true_and, and_true, false_and, and_false, if_true, if_false, eq_self, and_self]) (fun _ _ _ => by simp +decide only [gup_at, gnew_at, gup_2, gnew_2, gtell, Prod.mk.injEq, true_and, and_true, false_and, and_false, if_true, if_false, eq_self, and_self]) hI.2.2.2.2.2.2.2.2.1)
  · exact (gmiss_f (by simp +decide only [gup_at, gnew_at, gup_2, gnew_2, gtell, Prod.mk.injEq, true_and, and_true, false_and, and_false, if_true, if_false, eq_self, and_self]) (by simp +decide only [gup_at, gnew_at, gup_2, gnew_2, gtell, Prod.mk.injEq, true_and, and_true, false_and, and_false, if_true, if_false, eq_self, and_self]) (by simp +decide only [gup_at, gnew_at, gup_2, gnew_2, gtell, Prod.mk.injEq, true_and, and_true, false_and, and_false, if_true, if_false, eq_self, and_self]) (by simp +decide only [gup_at, gnew_at, gup_2, gnew_2, gtell, Prod.mk.injEq, true_and, and_true, false_and, and_false, if_true, if_false, eq_self, and_self]) (fun _ => by simp +decide only [gup_at, gnew_at, gup_2, gnew_2, gtell, Prod.mk.injEq, true_and, and_true, false_and, and_false, if_true, if_false, eq_self, and_self]) (fun _ => by simp +decide only [gup_at, gnew_at, gup_2, gnew_2, gtell, Prod.mk.injEq, true_and, and_true, false_and, and_false, if_true, if_false, eq_self, and_self]) hI.2.2.2.2.2.2.2.2.2.1)
  · exact (fun i hi => by
        have hi : i < C.2 6 0 := by simpa +decide only [gup_at, gnew_at, gup_2, gnew_2, gtell, Prod.mk.injEq, true_and, and_true, false_and, and_false, if_true, if_false, eq_self, and_self] using hi
        simp +decide only [gup_at, gnew_at, gup_2, gnew_2, gtell, Prod.mk.injEq, true_and, and_true, false_and, and_false, if_true, if_false, eq_self, and_self]
        exact hx.1 i hi)
  · exact (fun i hi => by
        have hi : i < C.2 7 0 := by simpa +decide only [gup_at, gnew_at, gup_2, gnew_2, gtell, Prod.mk.injEq, true_and, and_true, false_and, and_false, if_true, if_false, eq_self, and_self] using hi
        simp +decide only [gup_at, gnew_at, gup_2, gnew_2, gtell, Prod.mk.injEq, true_and, and_true, false_and, and_false, if_true, if_false, eq_self, and_self]
        exact hx.2.1 i hi)
  · exact (fun i hi => by
        have hi : i < C.2 8 0 := by simpa +decide only [gup_at, gnew_at, gup_2, gnew_2, gtell, Prod.mk.injEq, true_and, and_true, false_and, and_false, if_true, if_false, eq_self, and_self] using hi
        simp +decide only [gup_at, gnew_at, gup_2, gnew_2, gtell, Prod.mk.injEq, true_and, and_true, false_and, and_false, if_true, if_false, eq_self, and_self]
        exact gin_up (hx.2.2.1 i hi) (by omega) (by omega))
  · exact (fun i hi => by
        have hi : i < C.2 9 0 := by simpa +decide only [gup_at, gnew_at, gup_2, gnew_2, gtell, Prod.mk.injEq, true_and, and_true, false_and, and_false, if_true, if_false, eq_self, and_self] using hi
        simp +decide only [gup_at, gnew_at, gup_2, gnew_2, gtell, Prod.mk.injEq, true_and, and_true, false_and, and_false, if_true, if_false, eq_self, and_self]
        exact hx.2.2.2.1 i hi)
  · exact (fun i hi => by
        have hi : i < C.2 10 0 := by simpa +decide only [gup_at, gnew_at, gup_2, gnew_2, gtell, Prod.mk.injEq, true_and, and_true, false_and, and_false, if_true, if_false, eq_self, and_self] using hi
        simp +decide only [gup_at, gnew_at, gup_2, gnew_2, gtell, Prod.mk.injEq, true_and, and_true, false_and, and_false, if_true, if_false, eq_self, and_self]
        exact hx.2.2.2.2.1 i hi)
  · exact (by simp +decide only [gup_at, gnew_at, gup_2, gnew_2, gtell, Prod.mk.injEq, true_and, and_true, false_and, and_false, if_true, if_false, eq_self, and_self]; exact hx.2.2.2.2.2.1)
  · exact (fun i hi => by
        have hi : i < C.2 9 0 := by simpa +decide only [gup_at, gnew_at, gup_2, gnew_2, gtell, Prod.mk.injEq, true_and, and_true, false_and, and_false, if_true, if_false, eq_self, and_self] using hi
        simp +decide only [gup_at, gnew_at, gup_2, gnew_2, gtell, Prod.mk.injEq, true_and, and_true, false_and, and_false, if_true, if_false, eq_self, and_self]
        exact hx.2.2.2.2.2.2.1 i hi)
  · exact (fun i hi => by
        have hi : i < C.2 8 0 := by simpa +decide only [gup_at, gnew_at, gup_2, gnew_2, gtell, Prod.mk.injEq, true_and, and_true, false_and, and_false, if_true, if_false, eq_self, and_self] using hi
        simp +decide only [gup_at, gnew_at, gup_2, gnew_2, gtell, Prod.mk.injEq, true_and, and_true, false_and, and_false, if_true, if_false, eq_self, and_self]
        exact hx.2.2.2.2.2.2.2 i hi)

theorem i_on {C : gG} {n : Nat} (hI : gI n C) (hn : n ≤ 512) (hz5 : C.1 (0, 0, 0) 5 = 0) (a : Int32) (p : Prop) [Decidable p] : gok1 n (F_on C a (gb p)) := by
  unfold F_on
  by_cases h1 : gmi a = -1
  · rw [if_pos h1]
    exact gok_thr hI hn _
  rw [if_neg h1]
  have hx := hI.2.2.2.2.2.2.2.2.2.2
  refine ⟨⟨?_, ?_, ?_, ?_, ?_, ?_, ?_, ?_, ?_, ?_, ?_, ?_, ?_, ?_, ?_, ?_, ?_, ?_⟩, (by simp +decide only [gup_at, gnew_at, gup_2, gnew_2, gtell, Prod.mk.injEq, true_and, and_true, false_and, and_false, if_true, if_false, eq_self, and_self, hz5])⟩
  · exact hI.1
  · exact ⟨fun i => by simp +decide only [gup_at, gnew_at, gup_2, gnew_2, gtell, Prod.mk.injEq, true_and, and_true, false_and, and_false, if_true, if_false, eq_self, and_self]; exact hI.2.1.1 i, fun i hi => by rw [gchn_c (C := C) (fun _ => by simp +decide only [gup_at, gnew_at, gup_2, gnew_2, gtell, Prod.mk.injEq, true_and, and_true, false_and, and_false, if_true, if_false, eq_self, and_self])]; exact hI.2.1.2.1 i hi, by simp +decide only [gup_at, gnew_at, gup_2, gnew_2, gtell, Prod.mk.injEq, true_and, and_true, false_and, and_false, if_true, if_false, eq_self, and_self]; exact hI.2.1.2.2.1, fun i => by
    by_cases hq : i = (gmi a).toNatClampNeg
    · subst hq
      simp +decide only [gup_at, gnew_at, gup_2, gnew_2, gtell, Prod.mk.injEq, true_and, and_true, false_and, and_false, if_true, if_false, eq_self, and_self]
      exact gbl_gb
    · simp +decide only [gup_at, gnew_at, gup_2, gnew_2, gtell, Prod.mk.injEq, true_and, and_true, false_and, and_false, if_true, if_false, eq_self, and_self, hq]
      exact hI.2.1.2.2.2 i⟩
  · exact (gI3_f (Nat.le_succ n) (by omega) (by simp +decide only [gup_at, gnew_at, gup_2, gnew_2, gtell, Prod.mk.injEq, true_and, and_true, false_and, and_false, if_true, if_false, eq_self, and_self]) (by simp +decide only [gup_at, gnew_at, gup_2, gnew_2, gtell, Prod.mk.injEq, true_and, and_true, false_and, and_false, if_true, if_false, eq_self, and_self]) (fun _ _ _ => by simp +decide only [gup_at, gnew_at, gup_2, gnew_2, gtell, Prod.mk.injEq, true_and, and_true, false_and, and_false, if_true, if_false, eq_self, and_self]) hI.2.2.1)
  · exact (gI6_f (by simp +decide only [gup_at, gnew_at, gup_2, gnew_2, gtell, Prod.mk.injEq, true_and, and_true, false_and, and_false, if_true, if_false, eq_self, and_self]) (fun _ _ _ => by simp +decide only [gup_at, gnew_at, gup_2, gnew_2, gtell, Prod.mk.injEq, true_and, and_true, false_and, and_false, if_true, if_false, eq_self, and_self]) hI.2.2.2.1)
  · exact (gI8_f (by simp +decide only [gup_at, gnew_at, gup_2, gnew_2, gtell, Prod.mk.injEq, true_and, and_true, false_and, and_false, if_true, if_false, eq_self, and_self]) (by simp +decide only [gup_at, gnew_at, gup_2, gnew_2, gtell, Prod.mk.injEq, true_and, and_true, false_and, and_false, if_true, if_false, eq_self, and_self]) (fun _ _ _ => by simp +decide only [gup_at, gnew_at, gup_2, gnew_2, gtell, Prod.mk.injEq, true_and, and_true, false_and, and_false, if_true, if_false, eq_self, and_self]) hI.2.2.2.2.1)
  · exact (gI10_f (by simp +decide only [gup_at, gnew_at, gup_2, gnew_2, gtell, Prod.mk.injEq, true_and, and_true, false_and, and_false, if_true, if_false, eq_self, and_self]) (by simp +decide only [gup_at, gnew_at, gup_2, gnew_2, gtell, Prod.mk.injEq, true_and, and_true, false_and, and_false, if_true, if_false, eq_self, and_self]) (by simp +decide only [gup_at, gnew_at, gup_2, gnew_2, gtell, Prod.mk.injEq, true_and, and_true, false_and, and_false, if_true, if_false, eq_self, and_self]) (fun _ _ _ => by simp +decide only [gup_at, gnew_at, gup_2, gnew_2, gtell, Prod.mk.injEq, true_and, and_true, false_and, and_false, if_true, if_false, eq_self, and_self]) (fun _ => by simp +decide only [gup_at, gnew_at, gup_2, gnew_2, gtell, Prod.mk.injEq, true_and, and_true, false_and, and_false, if_true, if_false, eq_self, and_self]) hI.2.2.2.2.2.1)
  · exact (gI11_f (by simp +decide only [gup_at, gnew_at, gup_2, gnew_2, gtell, Prod.mk.injEq, true_and, and_true, false_and, and_false, if_true, if_false, eq_self, and_self]) (fun _ => by simp +decide only [gup_at, gnew_at, gup_2, gnew_2, gtell, Prod.mk.injEq, true_and, and_true, false_and, and_false, if_true, if_false, eq_self, and_self]) (fun _ _ _ => by simp +decide only [gup_at, gnew_at, gup_2, gnew_2, gtell, Prod.mk.injEq, true_and, and_true, false_and, and_false, if_true, if_false, eq_self, and_self]) (fun _ _ => by simp +decide only [gup_at, gnew_at, gup_2, gnew_2, gtell, Prod.mk.injEq, true_and, and_true, false_and, and_false, if_true, if_false, eq_self, and_self]) hI.2.2.2.2.2.2.1)
  · exact (gI13_f (by simp +decide only [gup_at, gnew_at, gup_2, gnew_2, gtell, Prod.mk.injEq, true_and, and_true, false_and, and_false, if_true, if_false, eq_self, and_self]) (fun _ => by simp +decide only [gup_at, gnew_at, gup_2, gnew_2, gtell, Prod.mk.injEq, true_and, and_true, false_and, and_false, if_true, if_false, eq_self, and_self]) (by simp +decide only [gup_at, gnew_at, gup_2, gnew_2, gtell, Prod.mk.injEq, true_and, and_true, false_and, and_false, if_true, if_false, eq_self, and_self]) (fun _ _ _ => by simp +decide only [gup_at, gnew_at, gup_2, gnew_2, gtell, Prod.mk.injEq, true_and, and_true, false_and, and_false, if_true, if_false, eq_self, and_self]) (fun _ => by simp +decide only [gup_at, gnew_at, gup_2, gnew_2, gtell, Prod.mk.injEq, true_and, and_true, false_and, and_false, if_true, if_false, eq_self, and_self]) (fun _ => by simp +decide only [gup_at, gnew_at, gup_2, gnew_2, gtell, Prod.mk.injEq, true_and, and_true, false_and, and_false, if_true, if_false, eq_self, and_self]) hI.2.2.2.2.2.2.2.1)
  · exact (gI12_f (by simp +decide only [gup_at, gnew_at, gup_2, gnew_2, gtell, Prod.mk.injEq, true_and, and_true, false_and, and_false, if_true, if_false, eq_self, and_self]) (fun _ _ _ => by simp +decide only [gup_at, gnew_at, gup_2, gnew_2, gtell, Prod.mk.injEq, true_and, and_true, false_and, and_false, if_true, if_false, eq_self, and_self]) hI.2.2.2.2.2.2.2.2.1)
  · exact (gmiss_f (by simp +decide only [gup_at, gnew_at, gup_2, gnew_2, gtell, Prod.mk.injEq, true_and, and_true, false_and, and_false, if_true, if_false, eq_self, and_self]) (by simp +decide only [gup_at, gnew_at, gup_2, gnew_2, gtell, Prod.mk.injEq, true_and, and_true, false_and, and_false, if_true, if_false, eq_self, and_self]) (by simp +decide only [gup_at, gnew_at, gup_2, gnew_2, gtell, Prod.mk.injEq, true_and, and_true, false_and, and_false, if_true, if_false, eq_self, and_self]) (by simp +decide only [gup_at, gnew_at, gup_2, gnew_2, gtell, Prod.mk.injEq, true_and, and_true, false_and, and_false, if_true, if_false, eq_self, and_self]) (fun _ => by simp +decide only [gup_at, gnew_at, gup_2, gnew_2, gtell, Prod.mk.injEq, true_and, and_true, false_and, and_false, if_true, if_false, eq_self, and_self]) (fun _ => by simp +decide only [gup_at, gnew_at, gup_2, gnew_2, gtell, Prod.mk.injEq, true_and, and_true, false_and, and_false, if_true, if_false, eq_self, and_self]) hI.2.2.2.2.2.2.2.2.2.1)
  · exact (fun i hi => by
        have hi : i < C.2 6 0 := by simpa +decide only [gup_at, gnew_at, gup_2, gnew_2, gtell, Prod.mk.injEq, true_and, and_true, false_and, and_false, if_true, if_false, eq_self, and_self] using hi
        simp +decide only [gup_at, gnew_at, gup_2, gnew_2, gtell, Prod.mk.injEq, true_and, and_true, false_and, and_false, if_true, if_false, eq_self, and_self]
        exact hx.1 i hi)
  · exact (fun i hi => by
        have hi : i < C.2 7 0 := by simpa +decide only [gup_at, gnew_at, gup_2, gnew_2, gtell, Prod.mk.injEq, true_and, and_true, false_and, and_false, if_true, if_false, eq_self, and_self] using hi
        simp +decide only [gup_at, gnew_at, gup_2, gnew_2, gtell, Prod.mk.injEq, true_and, and_true, false_and, and_false, if_true, if_false, eq_self, and_self]
        exact hx.2.1 i hi)
  · exact (fun i hi => by
        have hi : i < C.2 8 0 := by simpa +decide only [gup_at, gnew_at, gup_2, gnew_2, gtell, Prod.mk.injEq, true_and, and_true, false_and, and_false, if_true, if_false, eq_self, and_self] using hi
        simp +decide only [gup_at, gnew_at, gup_2, gnew_2, gtell, Prod.mk.injEq, true_and, and_true, false_and, and_false, if_true, if_false, eq_self, and_self]
        exact gin_up (hx.2.2.1 i hi) (by omega) (by omega))
  · exact (fun i hi => by
        have hi : i < C.2 9 0 := by simpa +decide only [gup_at, gnew_at, gup_2, gnew_2, gtell, Prod.mk.injEq, true_and, and_true, false_and, and_false, if_true, if_false, eq_self, and_self] using hi
        simp +decide only [gup_at, gnew_at, gup_2, gnew_2, gtell, Prod.mk.injEq, true_and, and_true, false_and, and_false, if_true, if_false, eq_self, and_self]
        exact hx.2.2.2.1 i hi)
  · exact (fun i hi => by
        have hi : i < C.2 10 0 := by simpa +decide only [gup_at, gnew_at, gup_2, gnew_2, gtell, Prod.mk.injEq, true_and, and_true, false_and, and_false, if_true, if_false, eq_self, and_self] using hi
        simp +decide only [gup_at, gnew_at, gup_2, gnew_2, gtell, Prod.mk.injEq, true_and, and_true, false_and, and_false, if_true, if_false, eq_self, and_self]
        exact hx.2.2.2.2.1 i hi)
  · exact (by simp +decide only [gup_at, gnew_at, gup_2, gnew_2, gtell, Prod.mk.injEq, true_and, and_true, false_and, and_false, if_true, if_false, eq_self, and_self]; exact hx.2.2.2.2.2.1)
  · exact (fun i hi => by
        have hi : i < C.2 9 0 := by simpa +decide only [gup_at, gnew_at, gup_2, gnew_2, gtell, Prod.mk.injEq, true_and, and_true, false_and, and_false, if_true, if_false, eq_self, and_self] using hi
        simp +decide only [gup_at, gnew_at, gup_2, gnew_2, gtell, Prod.mk.injEq, true_and, and_true, false_and, and_false, if_true, if_false, eq_self, and_self]
        exact hx.2.2.2.2.2.2.1 i hi)
  · exact (fun i hi => by
        have hi : i < C.2 8 0 := by simpa +decide only [gup_at, gnew_at, gup_2, gnew_2, gtell, Prod.mk.injEq, true_and, and_true, false_and, and_false, if_true, if_false, eq_self, and_self] using hi
        simp +decide only [gup_at, gnew_at, gup_2, gnew_2, gtell, Prod.mk.injEq, true_and, and_true, false_and, and_false, if_true, if_false, eq_self, and_self]
        exact hx.2.2.2.2.2.2.2 i hi)

theorem i_belt {C : gG} {n : Nat} (hI : gI n C) (hn : n ≤ 512) (hz5 : C.1 (0, 0, 0) 5 = 0) (a : Int32) (b : Int32) : gok1 n (F_belt C a b) := by
  unfold F_belt
  by_cases h1 : gmi a = -1
  · rw [if_pos h1]
    exact gok_thr hI hn _
  rw [if_neg h1]
  by_cases h2 : b = 45
  · rw [if_pos h2]
    have hx := hI.2.2.2.2.2.2.2.2.2.2
    refine ⟨⟨?_, ?_, ?_, ?_, ?_, ?_, ?_, ?_, ?_, ?_, ?_, ?_, ?_, ?_, ?_, ?_, ?_, ?_⟩, (by simp +decide only [gup_at, gnew_at, gup_2, gnew_2, gtell, Prod.mk.injEq, true_and, and_true, false_and, and_false, if_true, if_false, eq_self, and_self, hz5])⟩
    · exact hI.1
    · exact (gI2_belt hI.2.1 (gmi_in h1).1 (-1) (Or.inl rfl))
    · exact (gI3_f (Nat.le_succ n) (by omega) (by simp +decide only [gup_at, gnew_at, gup_2, gnew_2, gtell, Prod.mk.injEq, true_and, and_true, false_and, and_false, if_true, if_false, eq_self, and_self]) (by simp +decide only [gup_at, gnew_at, gup_2, gnew_2, gtell, Prod.mk.injEq, true_and, and_true, false_and, and_false, if_true, if_false, eq_self, and_self]) (fun _ _ _ => by simp +decide only [gup_at, gnew_at, gup_2, gnew_2, gtell, Prod.mk.injEq, true_and, and_true, false_and, and_false, if_true, if_false, eq_self, and_self]) hI.2.2.1)
    · exact (gI6_f (by simp +decide only [gup_at, gnew_at, gup_2, gnew_2, gtell, Prod.mk.injEq, true_and, and_true, false_and, and_false, if_true, if_false, eq_self, and_self]) (fun _ _ _ => by simp +decide only [gup_at, gnew_at, gup_2, gnew_2, gtell, Prod.mk.injEq, true_and, and_true, false_and, and_false, if_true, if_false, eq_self, and_self]) hI.2.2.2.1)
    · exact (gI8_f (by simp +decide only [gup_at, gnew_at, gup_2, gnew_2, gtell, Prod.mk.injEq, true_and, and_true, false_and, and_false, if_true, if_false, eq_self, and_self]) (by simp +decide only [gup_at, gnew_at, gup_2, gnew_2, gtell, Prod.mk.injEq, true_and, and_true, false_and, and_false, if_true, if_false, eq_self, and_self]) (fun _ _ _ => by simp +decide only [gup_at, gnew_at, gup_2, gnew_2, gtell, Prod.mk.injEq, true_and, and_true, false_and, and_false, if_true, if_false, eq_self, and_self]) hI.2.2.2.2.1)
    · exact (gI10_f (by simp +decide only [gup_at, gnew_at, gup_2, gnew_2, gtell, Prod.mk.injEq, true_and, and_true, false_and, and_false, if_true, if_false, eq_self, and_self]) (by simp +decide only [gup_at, gnew_at, gup_2, gnew_2, gtell, Prod.mk.injEq, true_and, and_true, false_and, and_false, if_true, if_false, eq_self, and_self]) (by simp +decide only [gup_at, gnew_at, gup_2, gnew_2, gtell, Prod.mk.injEq, true_and, and_true, false_and, and_false, if_true, if_false, eq_self, and_self]) (fun _ _ _ => by simp +decide only [gup_at, gnew_at, gup_2, gnew_2, gtell, Prod.mk.injEq, true_and, and_true, false_and, and_false, if_true, if_false, eq_self, and_self]) (fun _ => by simp +decide only [gup_at, gnew_at, gup_2, gnew_2, gtell, Prod.mk.injEq, true_and, and_true, false_and, and_false, if_true, if_false, eq_self, and_self]) hI.2.2.2.2.2.1)
    · exact (gI11_f (by simp +decide only [gup_at, gnew_at, gup_2, gnew_2, gtell, Prod.mk.injEq, true_and, and_true, false_and, and_false, if_true, if_false, eq_self, and_self]) (fun _ => by simp +decide only [gup_at, gnew_at, gup_2, gnew_2, gtell, Prod.mk.injEq, true_and, and_true, false_and, and_false, if_true, if_false, eq_self, and_self]) (fun _ _ _ => by simp +decide only [gup_at, gnew_at, gup_2, gnew_2, gtell, Prod.mk.injEq, true_and, and_true, false_and, and_false, if_true, if_false, eq_self, and_self]) (fun _ _ => by simp +decide only [gup_at, gnew_at, gup_2, gnew_2, gtell, Prod.mk.injEq, true_and, and_true, false_and, and_false, if_true, if_false, eq_self, and_self]) hI.2.2.2.2.2.2.1)
    · exact (gI13_f (by simp +decide only [gup_at, gnew_at, gup_2, gnew_2, gtell, Prod.mk.injEq, true_and, and_true, false_and, and_false, if_true, if_false, eq_self, and_self]) (fun _ => by simp +decide only [gup_at, gnew_at, gup_2, gnew_2, gtell, Prod.mk.injEq, true_and, and_true, false_and, and_false, if_true, if_false, eq_self, and_self]) (by simp +decide only [gup_at, gnew_at, gup_2, gnew_2, gtell, Prod.mk.injEq, true_and, and_true, false_and, and_false, if_true, if_false, eq_self, and_self]) (fun _ _ _ => by simp +decide only [gup_at, gnew_at, gup_2, gnew_2, gtell, Prod.mk.injEq, true_and, and_true, false_and, and_false, if_true, if_false, eq_self, and_self]) (fun _ => by simp +decide only [gup_at, gnew_at, gup_2, gnew_2, gtell, Prod.mk.injEq, true_and, and_true, false_and, and_false, if_true, if_false, eq_self, and_self]) (fun _ => by simp +decide only [gup_at, gnew_at, gup_2, gnew_2, gtell, Prod.mk.injEq, true_and, and_true, false_and, and_false, if_true, if_false, eq_self, and_self]) hI.2.2.2.2.2.2.2.1)
    · exact (gI12_f (by simp +decide only [gup_at, gnew_at, gup_2, gnew_2, gtell, Prod.mk.injEq, true_and, and_true, false_and, and_false, if_true, if_false, eq_self, and_self]) (fun _ _ _ => by simp +decide only [gup_at, gnew_at, gup_2, gnew_2, gtell, Prod.mk.injEq, true_and, and_true, false_and, and_false, if_true, if_false, eq_self, and_self]) hI.2.2.2.2.2.2.2.2.1)
    · exact (gmiss_f (by simp +decide only [gup_at, gnew_at, gup_2, gnew_2, gtell, Prod.mk.injEq, true_and, and_true, false_and, and_false, if_true, if_false, eq_self, and_self]) (by simp +decide only [gup_at, gnew_at, gup_2, gnew_2, gtell, Prod.mk.injEq, true_and, and_true, false_and, and_false, if_true, if_false, eq_self, and_self]) (by simp +decide only [gup_at, gnew_at, gup_2, gnew_2, gtell, Prod.mk.injEq, true_and, and_true, false_and, and_false, if_true, if_false, eq_self, and_self]) (by simp +decide only [gup_at, gnew_at, gup_2, gnew_2, gtell, Prod.mk.injEq, true_and, and_true, false_and, and_false, if_true, if_false, eq_self, and_self]) (fun _ => by simp +decide only [gup_at, gnew_at, gup_2, gnew_2, gtell, Prod.mk.injEq, true_and, and_true, false_and, and_false, if_true, if_false, eq_self, and_self]) (fun _ => by simp +decide only [gup_at, gnew_at, gup_2, gnew_2, gtell, Prod.mk.injEq, true_and, and_true, false_and, and_false, if_true, if_false, eq_self, and_self]) hI.2.2.2.2.2.2.2.2.2.1)
    · exact (fun i hi => by
          have hi : i < C.2 6 0 := by simpa +decide only [gup_at, gnew_at, gup_2, gnew_2, gtell, Prod.mk.injEq, true_and, and_true, false_and, and_false, if_true, if_false, eq_self, and_self] using hi
          simp +decide only [gup_at, gnew_at, gup_2, gnew_2, gtell, Prod.mk.injEq, true_and, and_true, false_and, and_false, if_true, if_false, eq_self, and_self]
          exact hx.1 i hi)
    · exact (fun i hi => by
          have hi : i < C.2 7 0 := by simpa +decide only [gup_at, gnew_at, gup_2, gnew_2, gtell, Prod.mk.injEq, true_and, and_true, false_and, and_false, if_true, if_false, eq_self, and_self] using hi
          simp +decide only [gup_at, gnew_at, gup_2, gnew_2, gtell, Prod.mk.injEq, true_and, and_true, false_and, and_false, if_true, if_false, eq_self, and_self]
          exact hx.2.1 i hi)
    · exact (fun i hi => by
          have hi : i < C.2 8 0 := by simpa +decide only [gup_at, gnew_at, gup_2, gnew_2, gtell, Prod.mk.injEq, true_and, and_true, false_and, and_false, if_true, if_false, eq_self, and_self] using hi
          simp +decide only [gup_at, gnew_at, gup_2, gnew_2, gtell, Prod.mk.injEq, true_and, and_true, false_and, and_false, if_true, if_false, eq_self, and_self]
          exact gin_up (hx.2.2.1 i hi) (by omega) (by omega))
    · exact (fun i hi => by
          have hi : i < C.2 9 0 := by simpa +decide only [gup_at, gnew_at, gup_2, gnew_2, gtell, Prod.mk.injEq, true_and, and_true, false_and, and_false, if_true, if_false, eq_self, and_self] using hi
          simp +decide only [gup_at, gnew_at, gup_2, gnew_2, gtell, Prod.mk.injEq, true_and, and_true, false_and, and_false, if_true, if_false, eq_self, and_self]
          exact hx.2.2.2.1 i hi)
    · exact (fun i hi => by
          have hi : i < C.2 10 0 := by simpa +decide only [gup_at, gnew_at, gup_2, gnew_2, gtell, Prod.mk.injEq, true_and, and_true, false_and, and_false, if_true, if_false, eq_self, and_self] using hi
          simp +decide only [gup_at, gnew_at, gup_2, gnew_2, gtell, Prod.mk.injEq, true_and, and_true, false_and, and_false, if_true, if_false, eq_self, and_self]
          exact hx.2.2.2.2.1 i hi)
    · exact (by simp +decide only [gup_at, gnew_at, gup_2, gnew_2, gtell, Prod.mk.injEq, true_and, and_true, false_and, and_false, if_true, if_false, eq_self, and_self]; exact hx.2.2.2.2.2.1)
    · exact (fun i hi => by
          have hi : i < C.2 9 0 := by simpa +decide only [gup_at, gnew_at, gup_2, gnew_2, gtell, Prod.mk.injEq, true_and, and_true, false_and, and_false, if_true, if_false, eq_self, and_self] using hi
          simp +decide only [gup_at, gnew_at, gup_2, gnew_2, gtell, Prod.mk.injEq, true_and, and_true, false_and, and_false, if_true, if_false, eq_self, and_self]
          exact hx.2.2.2.2.2.2.1 i hi)
    · exact (fun i hi => by
          have hi : i < C.2 8 0 := by simpa +decide only [gup_at, gnew_at, gup_2, gnew_2, gtell, Prod.mk.injEq, true_and, and_true, false_and, and_false, if_true, if_false, eq_self, and_self] using hi
          simp +decide only [gup_at, gnew_at, gup_2, gnew_2, gtell, Prod.mk.injEq, true_and, and_true, false_and, and_false, if_true, if_false, eq_self, and_self]
          exact hx.2.2.2.2.2.2.2 i hi)
  rw [if_neg h2]
  by_cases h3 : gmi b = -1
  · rw [if_pos h3]
    exact gok_thr hI hn _
  rw [if_neg h3]
  by_cases h4 : a = b
  · rw [if_pos h4]
    exact gok_thr hI hn _
  rw [if_neg h4]
  by_cases h5 : ghang C (gmi a).toNatClampNeg 4 (gmi b).toNatClampNeg = true
  · rw [if_pos h5]
    exact gok_thr hI hn _
  rw [if_neg h5]
  have hx := hI.2.2.2.2.2.2.2.2.2.2
  refine ⟨⟨?_, ?_, ?_, ?_, ?_, ?_, ?_, ?_, ?_, ?_, ?_, ?_, ?_, ?_, ?_, ?_, ?_, ?_⟩, (by simp +decide only [gup_at, gnew_at, gup_2, gnew_2, gtell, Prod.mk.injEq, true_and, and_true, false_and, and_false, if_true, if_false, eq_self, and_self, hz5])⟩
  · exact hI.1
  · exact (gI2_belt hI.2.1 (gmi_in h1).1 (gmi b) (Or.inr ⟨gmi_gix (fun z => h3 (gmi_ltm z)), by simpa using h5⟩))
  · exact (gI3_f (Nat.le_succ n) (by omega) (by simp +decide only [gup_at, gnew_at, gup_2, gnew_2, gtell, Prod.mk.injEq, true_and, and_true, false_and, and_false, if_true, if_false, eq_self, and_self]) (by simp +decide only [gup_at, gnew_at, gup_2, gnew_2, gtell, Prod.mk.injEq, true_and, and_true, false_and, and_false, if_true, if_false, eq_self, and_self]) (fun _ _ _ => by simp +decide only [gup_at, gnew_at, gup_2, gnew_2, gtell, Prod.mk.injEq, true_and, and_true, false_and, and_false, if_true, if_false, eq_self, and_self]) hI.2.2.1)
  · exact (gI6_f (by simp +decide only [gup_at, gnew_at, gup_2, gnew_2, gtell, Prod.mk.injEq, true_and, and_true, false_and, and_false, if_true, if_false, eq_self, and_self]) (fun _ _ _ => by simp +decide only [gup_at, gnew_at, gup_2, gnew_2, gtell, Prod.mk.injEq, true_and, and_true, false_and, and_false, if_true, if_false, eq_self, and_self]) hI.2.2.2.1)
  · exact (gI8_f (by simp +decide only [gup_at, gnew_at, gup_2, gnew_2, gtell, Prod.mk.injEq, true_and, and_true, false_and, and_false, if_true, if_false, eq_self, and_self]) (by simp +decide only [gup_at, gnew_at, gup_2, gnew_2, gtell, Prod.mk.injEq, true_and, and_true, false_and, and_false, if_true, if_false, eq_self, and_self]) (fun _ _ _ => by simp +decide only [gup_at, gnew_at, gup_2, gnew_2, gtell, Prod.mk.injEq, true_and, and_true, false_and, and_false, if_true, if_false, eq_self, and_self]) hI.2.2.2.2.1)
  · exact (gI10_f (by simp +decide only [gup_at, gnew_at, gup_2, gnew_2, gtell, Prod.mk.injEq, true_and, and_true, false_and, and_false, if_true, if_false, eq_self, and_self]) (by simp +decide only [gup_at, gnew_at, gup_2, gnew_2, gtell, Prod.mk.injEq, true_and, and_true, false_and, and_false, if_true, if_false, eq_self, and_self]) (by simp +decide only [gup_at, gnew_at, gup_2, gnew_2, gtell, Prod.mk.injEq, true_and, and_true, false_and, and_false, if_true, if_false, eq_self, and_self]) (fun _ _ _ => by simp +decide only [gup_at, gnew_at, gup_2, gnew_2, gtell, Prod.mk.injEq, true_and, and_true, false_and, and_false, if_true, if_false, eq_self, and_self]) (fun _ => by simp +decide only [gup_at, gnew_at, gup_2, gnew_2, gtell, Prod.mk.injEq, true_and, and_true, false_and, and_false, if_true, if_false, eq_self, and_self]) hI.2.2.2.2.2.1)
  · exact (gI11_f (by simp +decide only [gup_at, gnew_at, gup_2, gnew_2, gtell, Prod.mk.injEq, true_and, and_true, false_and, and_false, if_true, if_false, eq_self, and_self]) (fun _ => by simp +decide only [gup_at, gnew_at, gup_2, gnew_2, gtell, Prod.mk.injEq, true_and, and_true, false_and, and_false, if_true, if_false, eq_self, and_self]) (fun _ _ _ => by simp +decide only [gup_at, gnew_at, gup_2, gnew_2, gtell, Prod.mk.injEq, true_and, and_true, false_and, and_false, if_true, if_false, eq_self, and_self]) (fun _ _ => by simp +decide only [gup_at, gnew_at, gup_2, gnew_2, gtell, Prod.mk.injEq, true_and, and_true, false_and, and_false, if_true, if_false, eq_self, and_self]) hI.2.2.2.2.2.2.1)
  · exact (gI13_f (by simp +decide only [gup_at, gnew_at, gup_2, gnew_2, gtell, Prod.mk.injEq, true_and, and_true, false_and, and_false, if_true, if_false, eq_self, and_self]) (fun _ => by simp +decide only [gup_at, gnew_at, gup_2, gnew_2, gtell, Prod.mk.injEq, true_and, and_true, false_and, and_false, if_true, if_false, eq_self, and_self]) (by simp +decide only [gup_at, gnew_at, gup_2, gnew_2, gtell, Prod.mk.injEq, true_and, and_true, false_and, and_false, if_true, if_false, eq_self, and_self]) (fun _ _ _ => by simp +decide only [gup_at, gnew_at, gup_2, gnew_2, gtell, Prod.mk.injEq, true_and, and_true, false_and, and_false, if_true, if_false, eq_self, and_self]) (fun _ => by simp +decide only [gup_at, gnew_at, gup_2, gnew_2, gtell, Prod.mk.injEq, true_and, and_true, false_and, and_false, if_true, if_false, eq_self, and_self]) (fun _ => by simp +decide only [gup_at, gnew_at, gup_2, gnew_2, gtell, Prod.mk.injEq, true_and, and_true, false_and, and_false, if_true, if_false, eq_self, and_self]) hI.2.2.2.2.2.2.2.1)
  · exact (gI12_f (by simp +decide only [gup_at, gnew_at, gup_2, gnew_2, gtell, Prod.mk.injEq, true_and, and_true, false_and, and_false, if_true, if_false, eq_self, and_self]) (fun _ _ _ => by simp +decide only [gup_at, gnew_at, gup_2, gnew_2, gtell, Prod.mk.injEq, true_and, and_true, false_and, and_false, if_true, if_false, eq_self, and_self]) hI.2.2.2.2.2.2.2.2.1)
  · exact (gmiss_f (by simp +decide only [gup_at, gnew_at, gup_2, gnew_2, gtell, Prod.mk.injEq, true_and, and_true, false_and, and_false, if_true, if_false, eq_self, and_self]) (by simp +decide only [gup_at, gnew_at, gup_2, gnew_2, gtell, Prod.mk.injEq, true_and, and_true, false_and, and_false, if_true, if_false, eq_self, and_self]) (by simp +decide only [gup_at, gnew_at, gup_2, gnew_2, gtell, Prod.mk.injEq, true_and, and_true, false_and, and_false, if_true, if_false, eq_self, and_self]) (by simp +decide only [gup_at, gnew_at, gup_2, gnew_2, gtell, Prod.mk.injEq, true_and, and_true, false_and, and_false, if_true, if_false, eq_self, and_self]) (fun _ => by simp +decide only [gup_at, gnew_at, gup_2, gnew_2, gtell, Prod.mk.injEq, true_and, and_true, false_and, and_false, if_true, if_false, eq_self, and_self]) (fun _ => by simp +decide only [gup_at, gnew_at, gup_2, gnew_2, gtell, Prod.mk.injEq, true_and, and_true, false_and, and_false, if_true, if_false, eq_self, and_self]) hI.2.2.2.2.2.2.2.2.2.1)
  · exact (fun i hi => by
        have hi : i < C.2 6 0 := by simpa +decide only [gup_at, gnew_at, gup_2, gnew_2, gtell, Prod.mk.injEq, true_and, and_true, false_and, and_false, if_true, if_false, eq_self, and_self] using hi
        simp +decide only [gup_at, gnew_at, gup_2, gnew_2, gtell, Prod.mk.injEq, true_and, and_true, false_and, and_false, if_true, if_false, eq_self, and_self]
        exact hx.1 i hi)
  · exact (fun i hi => by
        have hi : i < C.2 7 0 := by simpa +decide only [gup_at, gnew_at, gup_2, gnew_2, gtell, Prod.mk.injEq, true_and, and_true, false_and, and_false, if_true, if_false, eq_self, and_self] using hi
        simp +decide only [gup_at, gnew_at, gup_2, gnew_2, gtell, Prod.mk.injEq, true_and, and_true, false_and, and_false, if_true, if_false, eq_self, and_self]
        exact hx.2.1 i hi)
  · exact (fun i hi => by
        have hi : i < C.2 8 0 := by simpa +decide only [gup_at, gnew_at, gup_2, gnew_2, gtell, Prod.mk.injEq, true_and, and_true, false_and, and_false, if_true, if_false, eq_self, and_self] using hi
        simp +decide only [gup_at, gnew_at, gup_2, gnew_2, gtell, Prod.mk.injEq, true_and, and_true, false_and, and_false, if_true, if_false, eq_self, and_self]
        exact gin_up (hx.2.2.1 i hi) (by omega) (by omega))
  · exact (fun i hi => by
        have hi : i < C.2 9 0 := by simpa +decide only [gup_at, gnew_at, gup_2, gnew_2, gtell, Prod.mk.injEq, true_and, and_true, false_and, and_false, if_true, if_false, eq_self, and_self] using hi
        simp +decide only [gup_at, gnew_at, gup_2, gnew_2, gtell, Prod.mk.injEq, true_and, and_true, false_and, and_false, if_true, if_false, eq_self, and_self]
        exact hx.2.2.2.1 i hi)
  · exact (fun i hi => by
        have hi : i < C.2 10 0 := by simpa +decide only [gup_at, gnew_at, gup_2, gnew_2, gtell, Prod.mk.injEq, true_and, and_true, false_and, and_false, if_true, if_false, eq_self, and_self] using hi
        simp +decide only [gup_at, gnew_at, gup_2, gnew_2, gtell, Prod.mk.injEq, true_and, and_true, false_and, and_false, if_true, if_false, eq_self, and_self]
        exact hx.2.2.2.2.1 i hi)
  · exact (by simp +decide only [gup_at, gnew_at, gup_2, gnew_2, gtell, Prod.mk.injEq, true_and, and_true, false_and, and_false, if_true, if_false, eq_self, and_self]; exact hx.2.2.2.2.2.1)
  · exact (fun i hi => by
        have hi : i < C.2 9 0 := by simpa +decide only [gup_at, gnew_at, gup_2, gnew_2, gtell, Prod.mk.injEq, true_and, and_true, false_and, and_false, if_true, if_false, eq_self, and_self] using hi
        simp +decide only [gup_at, gnew_at, gup_2, gnew_2, gtell, Prod.mk.injEq, true_and, and_true, false_and, and_false, if_true, if_false, eq_self, and_self]
        exact hx.2.2.2.2.2.2.1 i hi)
  · exact (fun i hi => by
        have hi : i < C.2 8 0 := by simpa +decide only [gup_at, gnew_at, gup_2, gnew_2, gtell, Prod.mk.injEq, true_and, and_true, false_and, and_false, if_true, if_false, eq_self, and_self] using hi
        simp +decide only [gup_at, gnew_at, gup_2, gnew_2, gtell, Prod.mk.injEq, true_and, and_true, false_and, and_false, if_true, if_false, eq_self, and_self]
        exact hx.2.2.2.2.2.2.2 i hi)

theorem i_lot {C : gG} {n : Nat} (hI : gI n C) (hn : n ≤ 512) (hz5 : C.1 (0, 0, 0) 5 = 0) (a : Int32) (b : Int32) (c : Int32) (d : Int32) : gok1 n (F_lot C a b c d) := by
  unfold F_lot
  by_cases h1 : ¬ a = 103 ∧ ¬ a = 99
  · rw [if_pos h1]
    exact gok_thr hI hn _
  rw [if_neg h1]
  by_cases h2 : ¬ gin 50 b 99 = true ∨ ¬ gin 1 c 9 = true ∨ ¬ gin 1 d 500 = true
  · rw [if_pos h2]
    exact gok_thr hI hn _
  rw [if_neg h2]
  by_cases h3 : ¬ Int32.ofNat (C.2 6 0) < 16
  · rw [if_pos h3]
    exact gok_thr hI hn _
  rw [if_neg h3]
  have hx := hI.2.2.2.2.2.2.2.2.2.2
  refine ⟨⟨?_, ?_, ?_, ?_, ?_, ?_, ?_, ?_, ?_, ?_, ?_, ?_, ?_, ?_, ?_, ?_, ?_, ?_⟩, (by simp +decide only [gup_at, gnew_at, gup_2, gnew_2, gtell, Prod.mk.injEq, true_and, and_true, false_and, and_false, if_true, if_false, eq_self, and_self, hz5])⟩
  · exact (gI1_new6 hI.1 (gsz_n (m := 16) (hI.cnt 0 0 (by decide)) (Classical.not_not.mp h3)))
  · exact (gI2_f (fun _ _ _ => by simp +decide only [gup_at, gnew_at, gup_2, gnew_2, gtell, Prod.mk.injEq, true_and, and_true, false_and, and_false, if_true, if_false, eq_self, and_self]) (fun _ _ _ => by simp +decide only [gup_at, gnew_at, gup_2, gnew_2, gtell, Prod.mk.injEq, true_and, and_true, false_and, and_false, if_true, if_false, eq_self, and_self]) hI.2.1)
  · exact (gI3_f (Nat.le_succ n) (by omega) (by simp +decide only [gup_at, gnew_at, gup_2, gnew_2, gtell, Prod.mk.injEq, true_and, and_true, false_and, and_false, if_true, if_false, eq_self, and_self]) (by simp +decide only [gup_at, gnew_at, gup_2, gnew_2, gtell, Prod.mk.injEq, true_and, and_true, false_and, and_false, if_true, if_false, eq_self, and_self]) (fun _ _ _ => by simp +decide only [gup_at, gnew_at, gup_2, gnew_2, gtell, Prod.mk.injEq, true_and, and_true, false_and, and_false, if_true, if_false, eq_self, and_self]) hI.2.2.1)
  · exact (fun i hi => by
    have hi : i < C.2 6 0 + 1 := by simpa +decide only [gup_at, gnew_at, gup_2, gnew_2, gtell, Prod.mk.injEq, true_and, and_true, false_and, and_false, if_true, if_false, eq_self, and_self] using hi
    by_cases hq : i = C.2 6 0
    · subst hq
      simp +decide only [gup_at, gnew_at, gup_2, gnew_2, gtell, Prod.mk.injEq, true_and, and_true, false_and, and_false, if_true, if_false, eq_self, and_self]
      exact (gin_iff.mp (Classical.not_not.mp (fun z => h2 (Or.inr (Or.inr z))))).2
    · have hi : i < C.2 6 0 := by omega
      have h := hI.2.2.2.1 i hi
      simp +decide only [gup_at, gnew_at, gup_2, gnew_2, gtell, Prod.mk.injEq, true_and, and_true, false_and, and_false, if_true, if_false, eq_self, and_self, hq]
      exact h)
  · exact (gI8_f (by simp +decide only [gup_at, gnew_at, gup_2, gnew_2, gtell, Prod.mk.injEq, true_and, and_true, false_and, and_false, if_true, if_false, eq_self, and_self]) (by simp +decide only [gup_at, gnew_at, gup_2, gnew_2, gtell, Prod.mk.injEq, true_and, and_true, false_and, and_false, if_true, if_false, eq_self, and_self]) (fun _ _ _ => by simp +decide only [gup_at, gnew_at, gup_2, gnew_2, gtell, Prod.mk.injEq, true_and, and_true, false_and, and_false, if_true, if_false, eq_self, and_self]) hI.2.2.2.2.1)
  · exact (gI10_f (by simp +decide only [gup_at, gnew_at, gup_2, gnew_2, gtell, Prod.mk.injEq, true_and, and_true, false_and, and_false, if_true, if_false, eq_self, and_self]) (by simp +decide only [gup_at, gnew_at, gup_2, gnew_2, gtell, Prod.mk.injEq, true_and, and_true, false_and, and_false, if_true, if_false, eq_self, and_self]) (by simp +decide only [gup_at, gnew_at, gup_2, gnew_2, gtell, Prod.mk.injEq, true_and, and_true, false_and, and_false, if_true, if_false, eq_self, and_self]) (fun _ _ _ => by simp +decide only [gup_at, gnew_at, gup_2, gnew_2, gtell, Prod.mk.injEq, true_and, and_true, false_and, and_false, if_true, if_false, eq_self, and_self]) (fun _ => by simp +decide only [gup_at, gnew_at, gup_2, gnew_2, gtell, Prod.mk.injEq, true_and, and_true, false_and, and_false, if_true, if_false, eq_self, and_self]) hI.2.2.2.2.2.1)
  · exact (gI11_f (by simp +decide only [gup_at, gnew_at, gup_2, gnew_2, gtell, Prod.mk.injEq, true_and, and_true, false_and, and_false, if_true, if_false, eq_self, and_self]) (fun _ => by simp +decide only [gup_at, gnew_at, gup_2, gnew_2, gtell, Prod.mk.injEq, true_and, and_true, false_and, and_false, if_true, if_false, eq_self, and_self]) (fun _ _ _ => by simp +decide only [gup_at, gnew_at, gup_2, gnew_2, gtell, Prod.mk.injEq, true_and, and_true, false_and, and_false, if_true, if_false, eq_self, and_self]) (fun _ _ => by simp +decide only [gup_at, gnew_at, gup_2, gnew_2, gtell, Prod.mk.injEq, true_and, and_true, false_and, and_false, if_true, if_false, eq_self, and_self]) hI.2.2.2.2.2.2.1)
  · exact (gI13_f (by simp +decide only [gup_at, gnew_at, gup_2, gnew_2, gtell, Prod.mk.injEq, true_and, and_true, false_and, and_false, if_true, if_false, eq_self, and_self]) (fun _ => by simp +decide only [gup_at, gnew_at, gup_2, gnew_2, gtell, Prod.mk.injEq, true_and, and_true, false_and, and_false, if_true, if_false, eq_self, and_self]) (by simp +decide only [gup_at, gnew_at, gup_2, gnew_2, gtell, Prod.mk.injEq, true_and, and_true, false_and, and_false, if_true, if_false, eq_self, and_self]) (fun _ _ _ => by simp +decide only [gup_at, gnew_at, gup_2, gnew_2, gtell, Prod.mk.injEq, true_and, and_true, false_and, and_false, if_true, if_false, eq_self, and_self]) (fun _ => by simp +decide only [gup_at, gnew_at, gup_2, gnew_2, gtell, Prod.mk.injEq, true_and, and_true, false_and, and_false, if_true, if_false, eq_self, and_self]) (fun _ => by simp +decide only [gup_at, gnew_at, gup_2, gnew_2, gtell, Prod.mk.injEq, true_and, and_true, false_and, and_false, if_true, if_false, eq_self, and_self]) hI.2.2.2.2.2.2.2.1)
  · exact (gI12_f (by simp +decide only [gup_at, gnew_at, gup_2, gnew_2, gtell, Prod.mk.injEq, true_and, and_true, false_and, and_false, if_true, if_false, eq_self, and_self]) (fun _ _ _ => by simp +decide only [gup_at, gnew_at, gup_2, gnew_2, gtell, Prod.mk.injEq, true_and, and_true, false_and, and_false, if_true, if_false, eq_self, and_self]) hI.2.2.2.2.2.2.2.2.1)
  · exact (gmiss_f (by simp +decide only [gup_at, gnew_at, gup_2, gnew_2, gtell, Prod.mk.injEq, true_and, and_true, false_and, and_false, if_true, if_false, eq_self, and_self]) (by simp +decide only [gup_at, gnew_at, gup_2, gnew_2, gtell, Prod.mk.injEq, true_and, and_true, false_and, and_false, if_true, if_false, eq_self, and_self]) (by simp +decide only [gup_at, gnew_at, gup_2, gnew_2, gtell, Prod.mk.injEq, true_and, and_true, false_and, and_false, if_true, if_false, eq_self, and_self]) (by simp +decide only [gup_at, gnew_at, gup_2, gnew_2, gtell, Prod.mk.injEq, true_and, and_true, false_and, and_false, if_true, if_false, eq_self, and_self]) (fun _ => by simp +decide only [gup_at, gnew_at, gup_2, gnew_2, gtell, Prod.mk.injEq, true_and, and_true, false_and, and_false, if_true, if_false, eq_self, and_self]) (fun _ => by simp +decide only [gup_at, gnew_at, gup_2, gnew_2, gtell, Prod.mk.injEq, true_and, and_true, false_and, and_false, if_true, if_false, eq_self, and_self]) hI.2.2.2.2.2.2.2.2.2.1)
  · exact (fun i hi => by
    have hi : i < C.2 6 0 + 1 := by simpa +decide only [gup_at, gnew_at, gup_2, gnew_2, gtell, Prod.mk.injEq, true_and, and_true, false_and, and_false, if_true, if_false, eq_self, and_self] using hi
    by_cases hq : i = C.2 6 0
    · subst hq
      simp +decide only [gup_at, gnew_at, gup_2, gnew_2, gtell, Prod.mk.injEq, true_and, and_true, false_and, and_false, if_true, if_false, eq_self, and_self]
      exact (Classical.not_not.mp (fun z => h2 (Or.inl z)))
    · have hi : i < C.2 6 0 := by omega
      have h := hx.1 i hi
      simp +decide only [gup_at, gnew_at, gup_2, gnew_2, gtell, Prod.mk.injEq, true_and, and_true, false_and, and_false, if_true, if_false, eq_self, and_self, hq]
      exact h)
  · exact (fun i hi => by
        have hi : i < C.2 7 0 := by simpa +decide only [gup_at, gnew_at, gup_2, gnew_2, gtell, Prod.mk.injEq, true_and, and_true, false_and, and_false, if_true, if_false, eq_self, and_self] using hi
        simp +decide only [gup_at, gnew_at, gup_2, gnew_2, gtell, Prod.mk.injEq, true_and, and_true, false_and, and_false, if_true, if_false, eq_self, and_self]
        exact hx.2.1 i hi)
  · exact (fun i hi => by
        have hi : i < C.2 8 0 := by simpa +decide only [gup_at, gnew_at, gup_2, gnew_2, gtell, Prod.mk.injEq, true_and, and_true, false_and, and_false, if_true, if_false, eq_self, and_self] using hi
        simp +decide only [gup_at, gnew_at, gup_2, gnew_2, gtell, Prod.mk.injEq, true_and, and_true, false_and, and_false, if_true, if_false, eq_self, and_self]
        exact gin_up (hx.2.2.1 i hi) (by omega) (by omega))
  · exact (fun i hi => by
        have hi : i < C.2 9 0 := by simpa +decide only [gup_at, gnew_at, gup_2, gnew_2, gtell, Prod.mk.injEq, true_and, and_true, false_and, and_false, if_true, if_false, eq_self, and_self] using hi
        simp +decide only [gup_at, gnew_at, gup_2, gnew_2, gtell, Prod.mk.injEq, true_and, and_true, false_and, and_false, if_true, if_false, eq_self, and_self]
        exact hx.2.2.2.1 i hi)
  · exact (fun i hi => by
        have hi : i < C.2 10 0 := by simpa +decide only [gup_at, gnew_at, gup_2, gnew_2, gtell, Prod.mk.injEq, true_and, and_true, false_and, and_false, if_true, if_false, eq_self, and_self] using hi
        simp +decide only [gup_at, gnew_at, gup_2, gnew_2, gtell, Prod.mk.injEq, true_and, and_true, false_and, and_false, if_true, if_false, eq_self, and_self]
        exact hx.2.2.2.2.1 i hi)
  · exact (by simp +decide only [gup_at, gnew_at, gup_2, gnew_2, gtell, Prod.mk.injEq, true_and, and_true, false_and, and_false, if_true, if_false, eq_self, and_self]; exact hx.2.2.2.2.2.1)
  · exact (fun i hi => by
        have hi : i < C.2 9 0 := by simpa +decide only [gup_at, gnew_at, gup_2, gnew_2, gtell, Prod.mk.injEq, true_and, and_true, false_and, and_false, if_true, if_false, eq_self, and_self] using hi
        simp +decide only [gup_at, gnew_at, gup_2, gnew_2, gtell, Prod.mk.injEq, true_and, and_true, false_and, and_false, if_true, if_false, eq_self, and_self]
        exact hx.2.2.2.2.2.2.1 i hi)
  · exact (fun i hi => by
        have hi : i < C.2 8 0 := by simpa +decide only [gup_at, gnew_at, gup_2, gnew_2, gtell, Prod.mk.injEq, true_and, and_true, false_and, and_false, if_true, if_false, eq_self, and_self] using hi
        simp +decide only [gup_at, gnew_at, gup_2, gnew_2, gtell, Prod.mk.injEq, true_and, and_true, false_and, and_false, if_true, if_false, eq_self, and_self]
        exact hx.2.2.2.2.2.2.2 i hi)

theorem i_mix {C : gG} {n : Nat} (hI : gI n C) (hn : n ≤ 512) (hz5 : C.1 (0, 0, 0) 5 = 0) (a : Int32) (b : Int32) (c : Int32) (d : Int32) (e : Int32) : gok1 n (F_mix C a b c d e) := by
  unfold F_mix
  by_cases h1 : ¬ gix (C.2 6 0) a = true
  · rw [if_pos h1]
    exact gok_thr hI hn _
  rw [if_neg h1]
  by_cases h2 : ¬ gix (C.2 6 0) b = true
  · rw [if_pos h2]
    exact gok_thr hI hn _
  rw [if_neg h2]
  by_cases h3 : c < 1 ∨ d < 1 ∨ ¬ gin 1 e 9 = true
  · rw [if_pos h3]
    exact gok_thr hI hn _
  rw [if_neg h3]
  by_cases h4 : ¬ C.1 (6, 0, a.toNatClampNeg) 0 = 103 ∨ ¬ C.1 (6, 0, b.toNatClampNeg) 0 = 99
  · rw [if_pos h4]
    exact gok_thr hI hn _
  rw [if_neg h4]
  by_cases h5 : C.1 (6, 0, a.toNatClampNeg) 3 < c ∨ C.1 (6, 0, b.toNatClampNeg) 3 < d
  · rw [if_pos h5]
    exact gok_thr hI hn _
  rw [if_neg h5]
  by_cases h6 : ¬ gmov C 4 0 = true
  · rw [if_pos h6]
    exact gok_thr hI hn _
  rw [if_neg h6]
  by_cases h7 : ¬ Int32.ofNat (C.2 7 0) < 12
  · rw [if_pos h7]
    exact gok_thr hI hn _
  rw [if_neg h7]
  have hne : ¬ b.toNatClampNeg = a.toNatClampNeg := fun z => by
    have e1 := (Classical.not_not.mp (fun z => h4 (Or.inl z)))
    have e2 := (Classical.not_not.mp (fun z => h4 (Or.inr z)))
    rw [z, e1] at e2
    exact absurd e2 (by decide)
  have ka := hI.2.2.2.1 a.toNatClampNeg (gix_lt (Nat.le_trans (hI.cnt 0 0 (by decide)) (by decide)) (Classical.not_not.mp h1))
  have kb := hI.2.2.2.1 b.toNatClampNeg (gix_lt (Nat.le_trans (hI.cnt 0 0 (by decide)) (by decide)) (Classical.not_not.mp h2))
  have hc1 : ¬ c < 1 := (fun z => h3 (Or.inl z))
  have hd1 : ¬ d < 1 := (fun z => h3 (Or.inr (Or.inl z)))
  have hc2 : ¬ C.1 (6, 0, a.toNatClampNeg) 3 < c := (fun z => h5 (Or.inl z))
  have hd2 : ¬ C.1 (6, 0, b.toNatClampNeg) 3 < d := (fun z => h5 (Or.inr z))
  have hx := hI.2.2.2.2.2.2.2.2.2.2
  refine ⟨⟨?_, ?_, ?_, ?_, ?_, ?_, ?_, ?_, ?_, ?_, ?_, ?_, ?_, ?_, ?_, ?_, ?_, ?_⟩, (by simp +decide only [gup_at, gnew_at, gup_2, gnew_2, gtell, Prod.mk.injEq, true_and, and_true, false_and, and_false, if_true, if_false, eq_self, and_self, hz5])⟩
  · exact (gI1_new7 (C := gup (gup C _ _ _) _ _ _) hI.1 (gsz_n (m := 12) (hI.cnt 1 0 (by decide)) (Classical.not_not.mp h7)))
  · exact (gI2_f (fun _ _ _ => by simp +decide only [gup_at, gnew_at, gup_2, gnew_2, gtell, Prod.mk.injEq, true_and, and_true, false_and, and_false, if_true, if_false, eq_self, and_self]) (fun _ _ _ => by simp +decide only [gup_at, gnew_at, gup_2, gnew_2, gtell, Prod.mk.injEq, true_and, and_true, false_and, and_false, if_true, if_false, eq_self, and_self]) hI.2.1)
  · exact (gI3_f (Nat.le_succ n) (by omega) (by simp +decide only [gup_at, gnew_at, gup_2, gnew_2, gtell, Prod.mk.injEq, true_and, and_true, false_and, and_false, if_true, if_false, eq_self, and_self]) (by simp +decide only [gup_at, gnew_at, gup_2, gnew_2, gtell, Prod.mk.injEq, true_and, and_true, false_and, and_false, if_true, if_false, eq_self, and_self]) (fun _ _ _ => by simp +decide only [gup_at, gnew_at, gup_2, gnew_2, gtell, Prod.mk.injEq, true_and, and_true, false_and, and_false, if_true, if_false, eq_self, and_self]) hI.2.2.1)
  · exact (fun i hi => by
    have hi : i < C.2 6 0 := by simpa +decide only [gup_at, gnew_at, gup_2, gnew_2, gtell, Prod.mk.injEq, true_and, and_true, false_and, and_false, if_true, if_false, eq_self, and_self] using hi
    have h := hI.2.2.2.1 i hi
    by_cases hq : i = b.toNatClampNeg
    · subst hq
      simp +decide only [gup_at, gnew_at, gup_2, gnew_2, gtell, Prod.mk.injEq, true_and, and_true, false_and, and_false, if_true, if_false, eq_self, and_self, hne]
      exact ga_kilos kb hd1 hd2
    · by_cases hp : i = a.toNatClampNeg
      · subst hp
        simp +decide only [gup_at, gnew_at, gup_2, gnew_2, gtell, Prod.mk.injEq, true_and, and_true, false_and, and_false, if_true, if_false, eq_self, and_self, hq]
        exact ga_kilos ka hc1 hc2
      · simp +decide only [gup_at, gnew_at, gup_2, gnew_2, gtell, Prod.mk.injEq, true_and, and_true, false_and, and_false, if_true, if_false, eq_self, and_self, hq, hp]
        exact h)
  · exact (fun i hi => by
    have hi : i < C.2 8 0 := by simpa +decide only [gup_at, gnew_at, gup_2, gnew_2, gtell, Prod.mk.injEq, true_and, and_true, false_and, and_false, if_true, if_false, eq_self, and_self] using hi
    have h := hI.2.2.2.2.1 i hi
    simp +decide only [gup_at, gnew_at, gup_2, gnew_2, gtell, Prod.mk.injEq, true_and, and_true, false_and, and_false, if_true, if_false, eq_self, and_self]
    exact ⟨gix_up h.1 (by omega) (by have := hI.1.2.1; omega), h.2⟩)
  · exact (gI10_f (by simp +decide only [gup_at, gnew_at, gup_2, gnew_2, gtell, Prod.mk.injEq, true_and, and_true, false_and, and_false, if_true, if_false, eq_self, and_self]) (by simp +decide only [gup_at, gnew_at, gup_2, gnew_2, gtell, Prod.mk.injEq, true_and, and_true, false_and, and_false, if_true, if_false, eq_self, and_self]) (by simp +decide only [gup_at, gnew_at, gup_2, gnew_2, gtell, Prod.mk.injEq, true_and, and_true, false_and, and_false, if_true, if_false, eq_self, and_self]) (fun _ _ _ => by simp +decide only [gup_at, gnew_at, gup_2, gnew_2, gtell, Prod.mk.injEq, true_and, and_true, false_and, and_false, if_true, if_false, eq_self, and_self]) (fun _ => by simp +decide only [gup_at, gnew_at, gup_2, gnew_2, gtell, Prod.mk.injEq, true_and, and_true, false_and, and_false, if_true, if_false, eq_self, and_self]) hI.2.2.2.2.2.1)
  · exact (gI11_f (by simp +decide only [gup_at, gnew_at, gup_2, gnew_2, gtell, Prod.mk.injEq, true_and, and_true, false_and, and_false, if_true, if_false, eq_self, and_self]) (fun _ => by simp +decide only [gup_at, gnew_at, gup_2, gnew_2, gtell, Prod.mk.injEq, true_and, and_true, false_and, and_false, if_true, if_false, eq_self, and_self]) (fun _ _ _ => by simp +decide only [gup_at, gnew_at, gup_2, gnew_2, gtell, Prod.mk.injEq, true_and, and_true, false_and, and_false, if_true, if_false, eq_self, and_self]) (fun _ _ => by simp +decide only [gup_at, gnew_at, gup_2, gnew_2, gtell, Prod.mk.injEq, true_and, and_true, false_and, and_false, if_true, if_false, eq_self, and_self]) hI.2.2.2.2.2.2.1)
  · exact (gI13_f (by simp +decide only [gup_at, gnew_at, gup_2, gnew_2, gtell, Prod.mk.injEq, true_and, and_true, false_and, and_false, if_true, if_false, eq_self, and_self]) (fun _ => by simp +decide only [gup_at, gnew_at, gup_2, gnew_2, gtell, Prod.mk.injEq, true_and, and_true, false_and, and_false, if_true, if_false, eq_self, and_self]) (by simp +decide only [gup_at, gnew_at, gup_2, gnew_2, gtell, Prod.mk.injEq, true_and, and_true, false_and, and_false, if_true, if_false, eq_self, and_self]) (fun _ _ _ => by simp +decide only [gup_at, gnew_at, gup_2, gnew_2, gtell, Prod.mk.injEq, true_and, and_true, false_and, and_false, if_true, if_false, eq_self, and_self]) (fun _ => by simp +decide only [gup_at, gnew_at, gup_2, gnew_2, gtell, Prod.mk.injEq, true_and, and_true, false_and, and_false, if_true, if_false, eq_self, and_self]) (fun _ => by simp +decide only [gup_at, gnew_at, gup_2, gnew_2, gtell, Prod.mk.injEq, true_and, and_true, false_and, and_false, if_true, if_false, eq_self, and_self]) hI.2.2.2.2.2.2.2.1)
  · exact (gI12_f (by simp +decide only [gup_at, gnew_at, gup_2, gnew_2, gtell, Prod.mk.injEq, true_and, and_true, false_and, and_false, if_true, if_false, eq_self, and_self]) (fun _ _ _ => by simp +decide only [gup_at, gnew_at, gup_2, gnew_2, gtell, Prod.mk.injEq, true_and, and_true, false_and, and_false, if_true, if_false, eq_self, and_self]) hI.2.2.2.2.2.2.2.2.1)
  · exact (gmiss_f (by simp +decide only [gup_at, gnew_at, gup_2, gnew_2, gtell, Prod.mk.injEq, true_and, and_true, false_and, and_false, if_true, if_false, eq_self, and_self]) (by simp +decide only [gup_at, gnew_at, gup_2, gnew_2, gtell, Prod.mk.injEq, true_and, and_true, false_and, and_false, if_true, if_false, eq_self, and_self]) (by simp +decide only [gup_at, gnew_at, gup_2, gnew_2, gtell, Prod.mk.injEq, true_and, and_true, false_and, and_false, if_true, if_false, eq_self, and_self]) (by simp +decide only [gup_at, gnew_at, gup_2, gnew_2, gtell, Prod.mk.injEq, true_and, and_true, false_and, and_false, if_true, if_false, eq_self, and_self]) (fun _ => by simp +decide only [gup_at, gnew_at, gup_2, gnew_2, gtell, Prod.mk.injEq, true_and, and_true, false_and, and_false, if_true, if_false, eq_self, and_self]) (fun _ => by simp +decide only [gup_at, gnew_at, gup_2, gnew_2, gtell, Prod.mk.injEq, true_and, and_true, false_and, and_false, if_true, if_false, eq_self, and_self]) hI.2.2.2.2.2.2.2.2.2.1)
  · exact (fun i hi => by
        have hi : i < C.2 6 0 := by simpa +decide only [gup_at, gnew_at, gup_2, gnew_2, gtell, Prod.mk.injEq, true_and, and_true, false_and, and_false, if_true, if_false, eq_self, and_self] using hi
        simp +decide only [gup_at, gnew_at, gup_2, gnew_2, gtell, Prod.mk.injEq, true_and, and_true, false_and, and_false, if_true, if_false, eq_self, and_self]
        exact hx.1 i hi)
  · exact (fun i hi => by
    have hi : i < C.2 7 0 + 1 := by simpa +decide only [gup_at, gnew_at, gup_2, gnew_2, gtell, Prod.mk.injEq, true_and, and_true, false_and, and_false, if_true, if_false, eq_self, and_self] using hi
    by_cases hq : i = C.2 7 0
    · subst hq
      simp +decide only [gup_at, gnew_at, gup_2, gnew_2, gtell, Prod.mk.injEq, true_and, and_true, false_and, and_false, if_true, if_false, eq_self, and_self]
      exact ⟨ga_carbon (hx.1 _ (gix_lt (Nat.le_trans (hI.cnt 0 0 (by decide)) (by decide)) (Classical.not_not.mp h1))) hc1 hd1 ka kb hc2 hd2, ga_clamp (by decide)⟩
    · have hi : i < C.2 7 0 := by omega
      have h := hx.2.1 i hi
      simp +decide only [gup_at, gnew_at, gup_2, gnew_2, gtell, Prod.mk.injEq, true_and, and_true, false_and, and_false, if_true, if_false, eq_self, and_self, hq]
      exact h)
  · exact (fun i hi => by
        have hi : i < C.2 8 0 := by simpa +decide only [gup_at, gnew_at, gup_2, gnew_2, gtell, Prod.mk.injEq, true_and, and_true, false_and, and_false, if_true, if_false, eq_self, and_self] using hi
        simp +decide only [gup_at, gnew_at, gup_2, gnew_2, gtell, Prod.mk.injEq, true_and, and_true, false_and, and_false, if_true, if_false, eq_self, and_self]
        exact gin_up (hx.2.2.1 i hi) (by omega) (by omega))
  · exact (fun i hi => by
        have hi : i < C.2 9 0 := by simpa +decide only [gup_at, gnew_at, gup_2, gnew_2, gtell, Prod.mk.injEq, true_and, and_true, false_and, and_false, if_true, if_false, eq_self, and_self] using hi
        simp +decide only [gup_at, gnew_at, gup_2, gnew_2, gtell, Prod.mk.injEq, true_and, and_true, false_and, and_false, if_true, if_false, eq_self, and_self]
        exact hx.2.2.2.1 i hi)
  · exact (fun i hi => by
        have hi : i < C.2 10 0 := by simpa +decide only [gup_at, gnew_at, gup_2, gnew_2, gtell, Prod.mk.injEq, true_and, and_true, false_and, and_false, if_true, if_false, eq_self, and_self] using hi
        simp +decide only [gup_at, gnew_at, gup_2, gnew_2, gtell, Prod.mk.injEq, true_and, and_true, false_and, and_false, if_true, if_false, eq_self, and_self]
        exact hx.2.2.2.2.1 i hi)
  · exact (by simp +decide only [gup_at, gnew_at, gup_2, gnew_2, gtell, Prod.mk.injEq, true_and, and_true, false_and, and_false, if_true, if_false, eq_self, and_self]; exact hx.2.2.2.2.2.1)
  · exact (fun i hi => by
        have hi : i < C.2 9 0 := by simpa +decide only [gup_at, gnew_at, gup_2, gnew_2, gtell, Prod.mk.injEq, true_and, and_true, false_and, and_false, if_true, if_false, eq_self, and_self] using hi
        simp +decide only [gup_at, gnew_at, gup_2, gnew_2, gtell, Prod.mk.injEq, true_and, and_true, false_and, and_false, if_true, if_false, eq_self, and_self]
        exact hx.2.2.2.2.2.2.1 i hi)
  · exact (fun i hi => by
        have hi : i < C.2 8 0 := by simpa +decide only [gup_at, gnew_at, gup_2, gnew_2, gtell, Prod.mk.injEq, true_and, and_true, false_and, and_false, if_true, if_false, eq_self, and_self] using hi
        simp +decide only [gup_at, gnew_at, gup_2, gnew_2, gtell, Prod.mk.injEq, true_and, and_true, false_and, and_false, if_true, if_false, eq_self, and_self]
        exact hx.2.2.2.2.2.2.2 i hi)

theorem i_press {C : gG} {n : Nat} (hI : gI n C) (hn : n ≤ 512) (hz5 : C.1 (0, 0, 0) 5 = 0) (a : Int32) (b : Int32) (c : Int32) : gok1 n (F_press C a b c) := by
  unfold F_press
  by_cases h1 : ¬ gix (C.2 7 0) a = true
  · rw [if_pos h1]
    exact gok_thr hI hn _
  rw [if_neg h1]
  by_cases h2 : b < 0 ∨ ¬ b < 4 ∨ c < 1
  · rw [if_pos h2]
    exact gok_thr hI hn _
  rw [if_neg h2]
  by_cases h3 : C.1 (7, 0, a.toNatClampNeg) 4 < c
  · rw [if_pos h3]
    exact gok_thr hI hn _
  rw [if_neg h3]
  by_cases h4 : ¬ C.1 (14, 0, 0) b.toNatClampNeg < 200
  · rw [if_pos h4]
    exact gok_thr hI hn _
  rw [if_neg h4]
  by_cases h5 : ¬ gmov C 4 1 = true
  · rw [if_pos h5]
    exact gok_thr hI hn _
  rw [if_neg h5]
  by_cases h6 : ¬ Int32.ofNat (C.2 8 0) < 16
  · rw [if_pos h6]
    exact gok_thr hI hn _
  rw [if_neg h6]
  have hx := hI.2.2.2.2.2.2.2.2.2.2
  refine ⟨⟨?_, ?_, ?_, ?_, ?_, ?_, ?_, ?_, ?_, ?_, ?_, ?_, ?_, ?_, ?_, ?_, ?_, ?_⟩, (by simp +decide only [gup_at, gnew_at, gup_2, gnew_2, gtell, Prod.mk.injEq, true_and, and_true, false_and, and_false, if_true, if_false, eq_self, and_self, hz5])⟩
  · exact (gI1_new8 (C := gup (gup C _ _ _) _ _ _) hI.1 (gsz_n (m := 16) (hI.cnt 2 0 (by decide)) (Classical.not_not.mp h6)))
  · exact (gI2_f (fun _ _ _ => by simp +decide only [gup_at, gnew_at, gup_2, gnew_2, gtell, Prod.mk.injEq, true_and, and_true, false_and, and_false, if_true, if_false, eq_self, and_self]) (fun _ _ _ => by simp +decide only [gup_at, gnew_at, gup_2, gnew_2, gtell, Prod.mk.injEq, true_and, and_true, false_and, and_false, if_true, if_false, eq_self, and_self]) hI.2.1)
  · exact (gI3_f (Nat.le_succ n) (by omega) (by simp +decide only [gup_at, gnew_at, gup_2, gnew_2, gtell, Prod.mk.injEq, true_and, and_true, false_and, and_false, if_true, if_false, eq_self, and_self]) (by simp +decide only [gup_at, gnew_at, gup_2, gnew_2, gtell, Prod.mk.injEq, true_and, and_true, false_and, and_false, if_true, if_false, eq_self, and_self]) (fun _ _ _ => by simp +decide only [gup_at, gnew_at, gup_2, gnew_2, gtell, Prod.mk.injEq, true_and, and_true, false_and, and_false, if_true, if_false, eq_self, and_self]) hI.2.2.1)
  · exact (gI6_f (by simp +decide only [gup_at, gnew_at, gup_2, gnew_2, gtell, Prod.mk.injEq, true_and, and_true, false_and, and_false, if_true, if_false, eq_self, and_self]) (fun _ _ _ => by simp +decide only [gup_at, gnew_at, gup_2, gnew_2, gtell, Prod.mk.injEq, true_and, and_true, false_and, and_false, if_true, if_false, eq_self, and_self]) hI.2.2.2.1)
  · exact (fun i hi => by
    have hi : i < C.2 8 0 + 1 := by simpa +decide only [gup_at, gnew_at, gup_2, gnew_2, gtell, Prod.mk.injEq, true_and, and_true, false_and, and_false, if_true, if_false, eq_self, and_self] using hi
    by_cases hq : i = C.2 8 0
    · subst hq
      simp +decide only [gup_at, gnew_at, gup_2, gnew_2, gtell, Prod.mk.injEq, true_and, and_true, false_and, and_false, if_true, if_false, eq_self, and_self]
      exact ⟨(Classical.not_not.mp h1), (by decide : gin 0 (0 : Int32) 999 = true), (by decide : ¬ (-1 : Int32) < -1), fun z => absurd (by decide : (-1 : Int32) < 0) z, Or.inl rfl, Or.inl rfl⟩
    · have hi : i < C.2 8 0 := by omega
      have h := hI.2.2.2.2.1 i hi
      simp +decide only [gup_at, gnew_at, gup_2, gnew_2, gtell, Prod.mk.injEq, true_and, and_true, false_and, and_false, if_true, if_false, eq_self, and_self, hq]
      exact h)
  · exact (fun i hi => by
    have hi : i < C.2 10 0 := by simpa +decide only [gup_at, gnew_at, gup_2, gnew_2, gtell, Prod.mk.injEq, true_and, and_true, false_and, and_false, if_true, if_false, eq_self, and_self] using hi
    have h := hI.2.2.2.2.2.1 i hi
    have hne : ¬ (C.1 (10, 0, i) 0).toNatClampNeg = C.2 8 0 := Nat.ne_of_lt (gix_lt (Nat.le_trans (hI.cnt 2 0 (by decide)) (by decide)) h.1)
    simp +decide only [gup_at, gnew_at, gup_2, gnew_2, gtell, Prod.mk.injEq, true_and, and_true, false_and, and_false, if_true, if_false, eq_self, and_self, hne]
    exact ⟨gix_up h.1 (by omega) (by have := hI.1.2.1; omega), h.2⟩)
  · exact (gI11_f (by simp +decide only [gup_at, gnew_at, gup_2, gnew_2, gtell, Prod.mk.injEq, true_and, and_true, false_and, and_false, if_true, if_false, eq_self, and_self]) (fun _ => by simp +decide only [gup_at, gnew_at, gup_2, gnew_2, gtell, Prod.mk.injEq, true_and, and_true, false_and, and_false, if_true, if_false, eq_self, and_self]) (fun _ _ _ => by simp +decide only [gup_at, gnew_at, gup_2, gnew_2, gtell, Prod.mk.injEq, true_and, and_true, false_and, and_false, if_true, if_false, eq_self, and_self]) (fun _ _ => by simp +decide only [gup_at, gnew_at, gup_2, gnew_2, gtell, Prod.mk.injEq, true_and, and_true, false_and, and_false, if_true, if_false, eq_self, and_self]) hI.2.2.2.2.2.2.1)
  · exact (gI13_f (by simp +decide only [gup_at, gnew_at, gup_2, gnew_2, gtell, Prod.mk.injEq, true_and, and_true, false_and, and_false, if_true, if_false, eq_self, and_self]) (fun _ => by simp +decide only [gup_at, gnew_at, gup_2, gnew_2, gtell, Prod.mk.injEq, true_and, and_true, false_and, and_false, if_true, if_false, eq_self, and_self]) (by simp +decide only [gup_at, gnew_at, gup_2, gnew_2, gtell, Prod.mk.injEq, true_and, and_true, false_and, and_false, if_true, if_false, eq_self, and_self]) (fun _ _ _ => by simp +decide only [gup_at, gnew_at, gup_2, gnew_2, gtell, Prod.mk.injEq, true_and, and_true, false_and, and_false, if_true, if_false, eq_self, and_self]) (fun _ => by simp +decide only [gup_at, gnew_at, gup_2, gnew_2, gtell, Prod.mk.injEq, true_and, and_true, false_and, and_false, if_true, if_false, eq_self, and_self]) (fun _ => by simp +decide only [gup_at, gnew_at, gup_2, gnew_2, gtell, Prod.mk.injEq, true_and, and_true, false_and, and_false, if_true, if_false, eq_self, and_self]) hI.2.2.2.2.2.2.2.1)
  · exact (gI12_f (by simp +decide only [gup_at, gnew_at, gup_2, gnew_2, gtell, Prod.mk.injEq, true_and, and_true, false_and, and_false, if_true, if_false, eq_self, and_self]) (fun _ _ _ => by simp +decide only [gup_at, gnew_at, gup_2, gnew_2, gtell, Prod.mk.injEq, true_and, and_true, false_and, and_false, if_true, if_false, eq_self, and_self]) hI.2.2.2.2.2.2.2.2.1)
  · exact (gmiss_f (by simp +decide only [gup_at, gnew_at, gup_2, gnew_2, gtell, Prod.mk.injEq, true_and, and_true, false_and, and_false, if_true, if_false, eq_self, and_self]) (by simp +decide only [gup_at, gnew_at, gup_2, gnew_2, gtell, Prod.mk.injEq, true_and, and_true, false_and, and_false, if_true, if_false, eq_self, and_self]) (by simp +decide only [gup_at, gnew_at, gup_2, gnew_2, gtell, Prod.mk.injEq, true_and, and_true, false_and, and_false, if_true, if_false, eq_self, and_self]) (by simp +decide only [gup_at, gnew_at, gup_2, gnew_2, gtell, Prod.mk.injEq, true_and, and_true, false_and, and_false, if_true, if_false, eq_self, and_self]) (fun _ => by simp +decide only [gup_at, gnew_at, gup_2, gnew_2, gtell, Prod.mk.injEq, true_and, and_true, false_and, and_false, if_true, if_false, eq_self, and_self]) (fun _ => by simp +decide only [gup_at, gnew_at, gup_2, gnew_2, gtell, Prod.mk.injEq, true_and, and_true, false_and, and_false, if_true, if_false, eq_self, and_self]) hI.2.2.2.2.2.2.2.2.2.1)
  · exact (fun i hi => by
        have hi : i < C.2 6 0 := by simpa +decide only [gup_at, gnew_at, gup_2, gnew_2, gtell, Prod.mk.injEq, true_and, and_true, false_and, and_false, if_true, if_false, eq_self, and_self] using hi
        simp +decide only [gup_at, gnew_at, gup_2, gnew_2, gtell, Prod.mk.injEq, true_and, and_true, false_and, and_false, if_true, if_false, eq_self, and_self]
        exact hx.1 i hi)
  · exact (fun i hi => by
        have hi : i < C.2 7 0 := by simpa +decide only [gup_at, gnew_at, gup_2, gnew_2, gtell, Prod.mk.injEq, true_and, and_true, false_and, and_false, if_true, if_false, eq_self, and_self] using hi
        simp +decide only [gup_at, gnew_at, gup_2, gnew_2, gtell, Prod.mk.injEq, true_and, and_true, false_and, and_false, if_true, if_false, eq_self, and_self]
        exact hx.2.1 i hi)
  · exact (fun i hi => by
    have hi : i < C.2 8 0 + 1 := by simpa +decide only [gup_at, gnew_at, gup_2, gnew_2, gtell, Prod.mk.injEq, true_and, and_true, false_and, and_false, if_true, if_false, eq_self, and_self] using hi
    by_cases hq : i = C.2 8 0
    · subst hq
      simp +decide only [gup_at, gnew_at, gup_2, gnew_2, gtell, Prod.mk.injEq, true_and, and_true, false_and, and_false, if_true, if_false, eq_self, and_self]
      exact gin_0n _ (by omega)
    · have hi : i < C.2 8 0 := by omega
      have h := hx.2.2.1 i hi
      simp +decide only [gup_at, gnew_at, gup_2, gnew_2, gtell, Prod.mk.injEq, true_and, and_true, false_and, and_false, if_true, if_false, eq_self, and_self, hq]
      exact gin_up h (by omega) (by omega))
  · exact (fun i hi => by
        have hi : i < C.2 9 0 := by simpa +decide only [gup_at, gnew_at, gup_2, gnew_2, gtell, Prod.mk.injEq, true_and, and_true, false_and, and_false, if_true, if_false, eq_self, and_self] using hi
        simp +decide only [gup_at, gnew_at, gup_2, gnew_2, gtell, Prod.mk.injEq, true_and, and_true, false_and, and_false, if_true, if_false, eq_self, and_self]
        exact hx.2.2.2.1 i hi)
  · exact (fun i hi => by
        have hi : i < C.2 10 0 := by simpa +decide only [gup_at, gnew_at, gup_2, gnew_2, gtell, Prod.mk.injEq, true_and, and_true, false_and, and_false, if_true, if_false, eq_self, and_self] using hi
        simp +decide only [gup_at, gnew_at, gup_2, gnew_2, gtell, Prod.mk.injEq, true_and, and_true, false_and, and_false, if_true, if_false, eq_self, and_self]
        exact hx.2.2.2.2.1 i hi)
  · exact (by simp +decide only [gup_at, gnew_at, gup_2, gnew_2, gtell, Prod.mk.injEq, true_and, and_true, false_and, and_false, if_true, if_false, eq_self, and_self]; exact hx.2.2.2.2.2.1)
  · exact (fun i hi => by
        have hi : i < C.2 9 0 := by simpa +decide only [gup_at, gnew_at, gup_2, gnew_2, gtell, Prod.mk.injEq, true_and, and_true, false_and, and_false, if_true, if_false, eq_self, and_self] using hi
        simp +decide only [gup_at, gnew_at, gup_2, gnew_2, gtell, Prod.mk.injEq, true_and, and_true, false_and, and_false, if_true, if_false, eq_self, and_self]
        exact hx.2.2.2.2.2.2.1 i hi)
  · exact (fun i hi => by
    have hi : i < C.2 8 0 + 1 := by simpa +decide only [gup_at, gnew_at, gup_2, gnew_2, gtell, Prod.mk.injEq, true_and, and_true, false_and, and_false, if_true, if_false, eq_self, and_self] using hi
    by_cases hq : i = C.2 8 0
    · subst hq
      simp +decide only [gup_at, gnew_at, gup_2, gnew_2, gtell, Prod.mk.injEq, true_and, and_true, false_and, and_false, if_true, if_false, eq_self, and_self]
      exact ga_bore (Classical.not_not.mp h4)
    · have hi : i < C.2 8 0 := by omega
      have h := hx.2.2.2.2.2.2.2 i hi
      simp +decide only [gup_at, gnew_at, gup_2, gnew_2, gtell, Prod.mk.injEq, true_and, and_true, false_and, and_false, if_true, if_false, eq_self, and_self, hq]
      exact h)

theorem i_renew {C : gG} {n : Nat} (hI : gI n C) (hn : n ≤ 512) (hz5 : C.1 (0, 0, 0) 5 = 0) (a : Int32) : gok1 n (F_renew C a) := by
  unfold F_renew
  by_cases h1 : a < 0 ∨ ¬ a < 4
  · rw [if_pos h1]
    exact gok_thr hI hn _
  rw [if_neg h1]
  have hx := hI.2.2.2.2.2.2.2.2.2.2
  refine ⟨⟨?_, ?_, ?_, ?_, ?_, ?_, ?_, ?_, ?_, ?_, ?_, ?_, ?_, ?_, ?_, ?_, ?_, ?_⟩, (by simp +decide only [gup_at, gnew_at, gup_2, gnew_2, gtell, Prod.mk.injEq, true_and, and_true, false_and, and_false, if_true, if_false, eq_self, and_self, hz5])⟩
  · exact hI.1
  · exact (gI2_f (fun _ _ _ => by simp +decide only [gup_at, gnew_at, gup_2, gnew_2, gtell, Prod.mk.injEq, true_and, and_true, false_and, and_false, if_true, if_false, eq_self, and_self]) (fun _ _ _ => by simp +decide only [gup_at, gnew_at, gup_2, gnew_2, gtell, Prod.mk.injEq, true_and, and_true, false_and, and_false, if_true, if_false, eq_self, and_self]) hI.2.1)
  · exact (gI3_f (Nat.le_succ n) (by omega) (by simp +decide only [gup_at, gnew_at, gup_2, gnew_2, gtell, Prod.mk.injEq, true_and, and_true, false_and, and_false, if_true, if_false, eq_self, and_self]) (by simp +decide only [gup_at, gnew_at, gup_2, gnew_2, gtell, Prod.mk.injEq, true_and, and_true, false_and, and_false, if_true, if_false, eq_self, and_self]) (fun _ _ _ => by simp +decide only [gup_at, gnew_at, gup_2, gnew_2, gtell, Prod.mk.injEq, true_and, and_true, false_and, and_false, if_true, if_false, eq_self, and_self]) hI.2.2.1)
  · exact (gI6_f (by simp +decide only [gup_at, gnew_at, gup_2, gnew_2, gtell, Prod.mk.injEq, true_and, and_true, false_and, and_false, if_true, if_false, eq_self, and_self]) (fun _ _ _ => by simp +decide only [gup_at, gnew_at, gup_2, gnew_2, gtell, Prod.mk.injEq, true_and, and_true, false_and, and_false, if_true, if_false, eq_self, and_self]) hI.2.2.2.1)
  · exact (gI8_f (by simp +decide only [gup_at, gnew_at, gup_2, gnew_2, gtell, Prod.mk.injEq, true_and, and_true, false_and, and_false, if_true, if_false, eq_self, and_self]) (by simp +decide only [gup_at, gnew_at, gup_2, gnew_2, gtell, Prod.mk.injEq, true_and, and_true, false_and, and_false, if_true, if_false, eq_self, and_self]) (fun _ _ _ => by simp +decide only [gup_at, gnew_at, gup_2, gnew_2, gtell, Prod.mk.injEq, true_and, and_true, false_and, and_false, if_true, if_false, eq_self, and_self]) hI.2.2.2.2.1)
  · exact (gI10_f (by simp +decide only [gup_at, gnew_at, gup_2, gnew_2, gtell, Prod.mk.injEq, true_and, and_true, false_and, and_false, if_true, if_false, eq_self, and_self]) (by simp +decide only [gup_at, gnew_at, gup_2, gnew_2, gtell, Prod.mk.injEq, true_and, and_true, false_and, and_false, if_true, if_false, eq_self, and_self]) (by simp +decide only [gup_at, gnew_at, gup_2, gnew_2, gtell, Prod.mk.injEq, true_and, and_true, false_and, and_false, if_true, if_false, eq_self, and_self]) (fun _ _ _ => by simp +decide only [gup_at, gnew_at, gup_2, gnew_2, gtell, Prod.mk.injEq, true_and, and_true, false_and, and_false, if_true, if_false, eq_self, and_self]) (fun _ => by simp +decide only [gup_at, gnew_at, gup_2, gnew_2, gtell, Prod.mk.injEq, true_and, and_true, false_and, and_false, if_true, if_false, eq_self, and_self]) hI.2.2.2.2.2.1)
  · exact (gI11_f (by simp +decide only [gup_at, gnew_at, gup_2, gnew_2, gtell, Prod.mk.injEq, true_and, and_true, false_and, and_false, if_true, if_false, eq_self, and_self]) (fun _ => by simp +decide only [gup_at, gnew_at, gup_2, gnew_2, gtell, Prod.mk.injEq, true_and, and_true, false_and, and_false, if_true, if_false, eq_self, and_self]) (fun _ _ _ => by simp +decide only [gup_at, gnew_at, gup_2, gnew_2, gtell, Prod.mk.injEq, true_and, and_true, false_and, and_false, if_true, if_false, eq_self, and_self]) (fun _ _ => by simp +decide only [gup_at, gnew_at, gup_2, gnew_2, gtell, Prod.mk.injEq, true_and, and_true, false_and, and_false, if_true, if_false, eq_self, and_self]) hI.2.2.2.2.2.2.1)
  · exact (gI13_f (by simp +decide only [gup_at, gnew_at, gup_2, gnew_2, gtell, Prod.mk.injEq, true_and, and_true, false_and, and_false, if_true, if_false, eq_self, and_self]) (fun _ => by simp +decide only [gup_at, gnew_at, gup_2, gnew_2, gtell, Prod.mk.injEq, true_and, and_true, false_and, and_false, if_true, if_false, eq_self, and_self]) (by simp +decide only [gup_at, gnew_at, gup_2, gnew_2, gtell, Prod.mk.injEq, true_and, and_true, false_and, and_false, if_true, if_false, eq_self, and_self]) (fun _ _ _ => by simp +decide only [gup_at, gnew_at, gup_2, gnew_2, gtell, Prod.mk.injEq, true_and, and_true, false_and, and_false, if_true, if_false, eq_self, and_self]) (fun _ => by simp +decide only [gup_at, gnew_at, gup_2, gnew_2, gtell, Prod.mk.injEq, true_and, and_true, false_and, and_false, if_true, if_false, eq_self, and_self]) (fun _ => by simp +decide only [gup_at, gnew_at, gup_2, gnew_2, gtell, Prod.mk.injEq, true_and, and_true, false_and, and_false, if_true, if_false, eq_self, and_self]) hI.2.2.2.2.2.2.2.1)
  · exact (gI12_f (by simp +decide only [gup_at, gnew_at, gup_2, gnew_2, gtell, Prod.mk.injEq, true_and, and_true, false_and, and_false, if_true, if_false, eq_self, and_self]) (fun _ _ _ => by simp +decide only [gup_at, gnew_at, gup_2, gnew_2, gtell, Prod.mk.injEq, true_and, and_true, false_and, and_false, if_true, if_false, eq_self, and_self]) hI.2.2.2.2.2.2.2.2.1)
  · exact (gmiss_f (by simp +decide only [gup_at, gnew_at, gup_2, gnew_2, gtell, Prod.mk.injEq, true_and, and_true, false_and, and_false, if_true, if_false, eq_self, and_self]) (by simp +decide only [gup_at, gnew_at, gup_2, gnew_2, gtell, Prod.mk.injEq, true_and, and_true, false_and, and_false, if_true, if_false, eq_self, and_self]) (by simp +decide only [gup_at, gnew_at, gup_2, gnew_2, gtell, Prod.mk.injEq, true_and, and_true, false_and, and_false, if_true, if_false, eq_self, and_self]) (by simp +decide only [gup_at, gnew_at, gup_2, gnew_2, gtell, Prod.mk.injEq, true_and, and_true, false_and, and_false, if_true, if_false, eq_self, and_self]) (fun _ => by simp +decide only [gup_at, gnew_at, gup_2, gnew_2, gtell, Prod.mk.injEq, true_and, and_true, false_and, and_false, if_true, if_false, eq_self, and_self]) (fun _ => by simp +decide only [gup_at, gnew_at, gup_2, gnew_2, gtell, Prod.mk.injEq, true_and, and_true, false_and, and_false, if_true, if_false, eq_self, and_self]) hI.2.2.2.2.2.2.2.2.2.1)
  · exact (fun i hi => by
        have hi : i < C.2 6 0 := by simpa +decide only [gup_at, gnew_at, gup_2, gnew_2, gtell, Prod.mk.injEq, true_and, and_true, false_and, and_false, if_true, if_false, eq_self, and_self] using hi
        simp +decide only [gup_at, gnew_at, gup_2, gnew_2, gtell, Prod.mk.injEq, true_and, and_true, false_and, and_false, if_true, if_false, eq_self, and_self]
        exact hx.1 i hi)
  · exact (fun i hi => by
        have hi : i < C.2 7 0 := by simpa +decide only [gup_at, gnew_at, gup_2, gnew_2, gtell, Prod.mk.injEq, true_and, and_true, false_and, and_false, if_true, if_false, eq_self, and_self] using hi
        simp +decide only [gup_at, gnew_at, gup_2, gnew_2, gtell, Prod.mk.injEq, true_and, and_true, false_and, and_false, if_true, if_false, eq_self, and_self]
        exact hx.2.1 i hi)
  · exact (fun i hi => by
        have hi : i < C.2 8 0 := by simpa +decide only [gup_at, gnew_at, gup_2, gnew_2, gtell, Prod.mk.injEq, true_and, and_true, false_and, and_false, if_true, if_false, eq_self, and_self] using hi
        simp +decide only [gup_at, gnew_at, gup_2, gnew_2, gtell, Prod.mk.injEq, true_and, and_true, false_and, and_false, if_true, if_false, eq_self, and_self]
        exact gin_up (hx.2.2.1 i hi) (by omega) (by omega))
  · exact (fun i hi => by
        have hi : i < C.2 9 0 := by simpa +decide only [gup_at, gnew_at, gup_2, gnew_2, gtell, Prod.mk.injEq, true_and, and_true, false_and, and_false, if_true, if_false, eq_self, and_self] using hi
        simp +decide only [gup_at, gnew_at, gup_2, gnew_2, gtell, Prod.mk.injEq, true_and, and_true, false_and, and_false, if_true, if_false, eq_self, and_self]
        exact hx.2.2.2.1 i hi)
  · exact (fun i hi => by
        have hi : i < C.2 10 0 := by simpa +decide only [gup_at, gnew_at, gup_2, gnew_2, gtell, Prod.mk.injEq, true_and, and_true, false_and, and_false, if_true, if_false, eq_self, and_self] using hi
        simp +decide only [gup_at, gnew_at, gup_2, gnew_2, gtell, Prod.mk.injEq, true_and, and_true, false_and, and_false, if_true, if_false, eq_self, and_self]
        exact hx.2.2.2.2.1 i hi)
  · exact (by simp +decide only [gup_at, gnew_at, gup_2, gnew_2, gtell, Prod.mk.injEq, true_and, and_true, false_and, and_false, if_true, if_false, eq_self, and_self]; exact hx.2.2.2.2.2.1)
  · exact (fun i hi => by
        have hi : i < C.2 9 0 := by simpa +decide only [gup_at, gnew_at, gup_2, gnew_2, gtell, Prod.mk.injEq, true_and, and_true, false_and, and_false, if_true, if_false, eq_self, and_self] using hi
        simp +decide only [gup_at, gnew_at, gup_2, gnew_2, gtell, Prod.mk.injEq, true_and, and_true, false_and, and_false, if_true, if_false, eq_self, and_self]
        exact hx.2.2.2.2.2.2.1 i hi)
  · exact (fun i hi => by
        have hi : i < C.2 8 0 := by simpa +decide only [gup_at, gnew_at, gup_2, gnew_2, gtell, Prod.mk.injEq, true_and, and_true, false_and, and_false, if_true, if_false, eq_self, and_self] using hi
        simp +decide only [gup_at, gnew_at, gup_2, gnew_2, gtell, Prod.mk.injEq, true_and, and_true, false_and, and_false, if_true, if_false, eq_self, and_self]
        exact hx.2.2.2.2.2.2.2 i hi)

theorem i_dry {C : gG} {n : Nat} (hI : gI n C) (hn : n ≤ 512) (hz5 : C.1 (0, 0, 0) 5 = 0) (a : Int32) (b : Int32) : gok1 n (F_dry C a b) := by
  unfold F_dry
  by_cases h1 : ¬ gix (C.2 8 0) a = true
  · rw [if_pos h1]
    exact gok_thr hI hn _
  rw [if_neg h1]
  by_cases h2 : b < 1 ∨ 5 < b
  · rw [if_pos h2]
    exact gok_thr hI hn _
  rw [if_neg h2]
  by_cases h3 : ¬ C.1 (8, 0, a.toNatClampNeg) 5 = 0
  · rw [if_pos h3]
    exact gok_thr hI hn _
  rw [if_neg h3]
  have hx := hI.2.2.2.2.2.2.2.2.2.2
  refine ⟨⟨?_, ?_, ?_, ?_, ?_, ?_, ?_, ?_, ?_, ?_, ?_, ?_, ?_, ?_, ?_, ?_, ?_, ?_⟩, (by simp +decide only [gup_at, gnew_at, gup_2, gnew_2, gtell, Prod.mk.injEq, true_and, and_true, false_and, and_false, if_true, if_false, eq_self, and_self, hz5])⟩
  · exact hI.1
  · exact (gI2_f (fun _ _ _ => by simp +decide only [gup_at, gnew_at, gup_2, gnew_2, gtell, Prod.mk.injEq, true_and, and_true, false_and, and_false, if_true, if_false, eq_self, and_self]) (fun _ _ _ => by simp +decide only [gup_at, gnew_at, gup_2, gnew_2, gtell, Prod.mk.injEq, true_and, and_true, false_and, and_false, if_true, if_false, eq_self, and_self]) hI.2.1)
  · exact (gI3_f (Nat.le_succ n) (by omega) (by simp +decide only [gup_at, gnew_at, gup_2, gnew_2, gtell, Prod.mk.injEq, true_and, and_true, false_and, and_false, if_true, if_false, eq_self, and_self]) (by simp +decide only [gup_at, gnew_at, gup_2, gnew_2, gtell, Prod.mk.injEq, true_and, and_true, false_and, and_false, if_true, if_false, eq_self, and_self]) (fun _ _ _ => by simp +decide only [gup_at, gnew_at, gup_2, gnew_2, gtell, Prod.mk.injEq, true_and, and_true, false_and, and_false, if_true, if_false, eq_self, and_self]) hI.2.2.1)
  · exact (gI6_f (by simp +decide only [gup_at, gnew_at, gup_2, gnew_2, gtell, Prod.mk.injEq, true_and, and_true, false_and, and_false, if_true, if_false, eq_self, and_self]) (fun _ _ _ => by simp +decide only [gup_at, gnew_at, gup_2, gnew_2, gtell, Prod.mk.injEq, true_and, and_true, false_and, and_false, if_true, if_false, eq_self, and_self]) hI.2.2.2.1)
  · exact (fun i hi => by
    have hi : i < C.2 8 0 := by simpa +decide only [gup_at, gnew_at, gup_2, gnew_2, gtell, Prod.mk.injEq, true_and, and_true, false_and, and_false, if_true, if_false, eq_self, and_self] using hi
    have h := hI.2.2.2.2.1 i hi
    by_cases hq : i = a.toNatClampNeg
    · subst hq
      simp +decide only [gup_at, gnew_at, gup_2, gnew_2, gtell, Prod.mk.injEq, true_and, and_true, false_and, and_false, if_true, if_false, eq_self, and_self]
      exact ⟨h.1, h.2.1, h.2.2.1, h.2.2.2.1, Or.inr rfl, h.2.2.2.2.2⟩
    · simp +decide only [gup_at, gnew_at, gup_2, gnew_2, gtell, Prod.mk.injEq, true_and, and_true, false_and, and_false, if_true, if_false, eq_self, and_self, hq]
      exact h)
  · exact (gI10_f (by simp +decide only [gup_at, gnew_at, gup_2, gnew_2, gtell, Prod.mk.injEq, true_and, and_true, false_and, and_false, if_true, if_false, eq_self, and_self]) (by simp +decide only [gup_at, gnew_at, gup_2, gnew_2, gtell, Prod.mk.injEq, true_and, and_true, false_and, and_false, if_true, if_false, eq_self, and_self]) (by simp +decide only [gup_at, gnew_at, gup_2, gnew_2, gtell, Prod.mk.injEq, true_and, and_true, false_and, and_false, if_true, if_false, eq_self, and_self]) (fun _ _ _ => by simp +decide only [gup_at, gnew_at, gup_2, gnew_2, gtell, Prod.mk.injEq, true_and, and_true, false_and, and_false, if_true, if_false, eq_self, and_self]) (fun _ => by simp +decide only [gup_at, gnew_at, gup_2, gnew_2, gtell, Prod.mk.injEq, true_and, and_true, false_and, and_false, if_true, if_false, eq_self, and_self]) hI.2.2.2.2.2.1)
  · exact (gI11_f (by simp +decide only [gup_at, gnew_at, gup_2, gnew_2, gtell, Prod.mk.injEq, true_and, and_true, false_and, and_false, if_true, if_false, eq_self, and_self]) (fun _ => by simp +decide only [gup_at, gnew_at, gup_2, gnew_2, gtell, Prod.mk.injEq, true_and, and_true, false_and, and_false, if_true, if_false, eq_self, and_self]) (fun _ _ _ => by simp +decide only [gup_at, gnew_at, gup_2, gnew_2, gtell, Prod.mk.injEq, true_and, and_true, false_and, and_false, if_true, if_false, eq_self, and_self]) (fun _ _ => by simp +decide only [gup_at, gnew_at, gup_2, gnew_2, gtell, Prod.mk.injEq, true_and, and_true, false_and, and_false, if_true, if_false, eq_self, and_self]) hI.2.2.2.2.2.2.1)
  · exact (gI13_f (by simp +decide only [gup_at, gnew_at, gup_2, gnew_2, gtell, Prod.mk.injEq, true_and, and_true, false_and, and_false, if_true, if_false, eq_self, and_self]) (fun _ => by simp +decide only [gup_at, gnew_at, gup_2, gnew_2, gtell, Prod.mk.injEq, true_and, and_true, false_and, and_false, if_true, if_false, eq_self, and_self]) (by simp +decide only [gup_at, gnew_at, gup_2, gnew_2, gtell, Prod.mk.injEq, true_and, and_true, false_and, and_false, if_true, if_false, eq_self, and_self]) (fun _ _ _ => by simp +decide only [gup_at, gnew_at, gup_2, gnew_2, gtell, Prod.mk.injEq, true_and, and_true, false_and, and_false, if_true, if_false, eq_self, and_self]) (fun _ => by simp +decide only [gup_at, gnew_at, gup_2, gnew_2, gtell, Prod.mk.injEq, true_and, and_true, false_and, and_false, if_true, if_false, eq_self, and_self]) (fun _ => by simp +decide only [gup_at, gnew_at, gup_2, gnew_2, gtell, Prod.mk.injEq, true_and, and_true, false_and, and_false, if_true, if_false, eq_self, and_self]) hI.2.2.2.2.2.2.2.1)
  · exact (gI12_f (by simp +decide only [gup_at, gnew_at, gup_2, gnew_2, gtell, Prod.mk.injEq, true_and, and_true, false_and, and_false, if_true, if_false, eq_self, and_self]) (fun _ _ _ => by simp +decide only [gup_at, gnew_at, gup_2, gnew_2, gtell, Prod.mk.injEq, true_and, and_true, false_and, and_false, if_true, if_false, eq_self, and_self]) hI.2.2.2.2.2.2.2.2.1)
  · exact (gmiss_f (by simp +decide only [gup_at, gnew_at, gup_2, gnew_2, gtell, Prod.mk.injEq, true_and, and_true, false_and, and_false, if_true, if_false, eq_self, and_self]) (by simp +decide only [gup_at, gnew_at, gup_2, gnew_2, gtell, Prod.mk.injEq, true_and, and_true, false_and, and_false, if_true, if_false, eq_self, and_self]) (by simp +decide only [gup_at, gnew_at, gup_2, gnew_2, gtell, Prod.mk.injEq, true_and, and_true, false_and, and_false, if_true, if_false, eq_self, and_self]) (by simp +decide only [gup_at, gnew_at, gup_2, gnew_2, gtell, Prod.mk.injEq, true_and, and_true, false_and, and_false, if_true, if_false, eq_self, and_self]) (fun _ => by simp +decide only [gup_at, gnew_at, gup_2, gnew_2, gtell, Prod.mk.injEq, true_and, and_true, false_and, and_false, if_true, if_false, eq_self, and_self]) (fun _ => by simp +decide only [gup_at, gnew_at, gup_2, gnew_2, gtell, Prod.mk.injEq, true_and, and_true, false_and, and_false, if_true, if_false, eq_self, and_self]) hI.2.2.2.2.2.2.2.2.2.1)
  · exact (fun i hi => by
        have hi : i < C.2 6 0 := by simpa +decide only [gup_at, gnew_at, gup_2, gnew_2, gtell, Prod.mk.injEq, true_and, and_true, false_and, and_false, if_true, if_false, eq_self, and_self] using hi
        simp +decide only [gup_at, gnew_at, gup_2, gnew_2, gtell, Prod.mk.injEq, true_and, and_true, false_and, and_false, if_true, if_false, eq_self, and_self]
        exact hx.1 i hi)
  · exact (fun i hi => by
        have hi : i < C.2 7 0 := by simpa +decide only [gup_at, gnew_at, gup_2, gnew_2, gtell, Prod.mk.injEq, true_and, and_true, false_and, and_false, if_true, if_false, eq_self, and_self] using hi
        simp +decide only [gup_at, gnew_at, gup_2, gnew_2, gtell, Prod.mk.injEq, true_and, and_true, false_and, and_false, if_true, if_false, eq_self, and_self]
        exact hx.2.1 i hi)
  · exact (fun i hi => by
        have hi : i < C.2 8 0 := by simpa +decide only [gup_at, gnew_at, gup_2, gnew_2, gtell, Prod.mk.injEq, true_and, and_true, false_and, and_false, if_true, if_false, eq_self, and_self] using hi
        simp +decide only [gup_at, gnew_at, gup_2, gnew_2, gtell, Prod.mk.injEq, true_and, and_true, false_and, and_false, if_true, if_false, eq_self, and_self]
        exact gin_up (hx.2.2.1 i hi) (by omega) (by omega))
  · exact (fun i hi => by
        have hi : i < C.2 9 0 := by simpa +decide only [gup_at, gnew_at, gup_2, gnew_2, gtell, Prod.mk.injEq, true_and, and_true, false_and, and_false, if_true, if_false, eq_self, and_self] using hi
        simp +decide only [gup_at, gnew_at, gup_2, gnew_2, gtell, Prod.mk.injEq, true_and, and_true, false_and, and_false, if_true, if_false, eq_self, and_self]
        exact hx.2.2.2.1 i hi)
  · exact (fun i hi => by
        have hi : i < C.2 10 0 := by simpa +decide only [gup_at, gnew_at, gup_2, gnew_2, gtell, Prod.mk.injEq, true_and, and_true, false_and, and_false, if_true, if_false, eq_self, and_self] using hi
        simp +decide only [gup_at, gnew_at, gup_2, gnew_2, gtell, Prod.mk.injEq, true_and, and_true, false_and, and_false, if_true, if_false, eq_self, and_self]
        exact hx.2.2.2.2.1 i hi)
  · exact (by simp +decide only [gup_at, gnew_at, gup_2, gnew_2, gtell, Prod.mk.injEq, true_and, and_true, false_and, and_false, if_true, if_false, eq_self, and_self]; exact hx.2.2.2.2.2.1)
  · exact (fun i hi => by
        have hi : i < C.2 9 0 := by simpa +decide only [gup_at, gnew_at, gup_2, gnew_2, gtell, Prod.mk.injEq, true_and, and_true, false_and, and_false, if_true, if_false, eq_self, and_self] using hi
        simp +decide only [gup_at, gnew_at, gup_2, gnew_2, gtell, Prod.mk.injEq, true_and, and_true, false_and, and_false, if_true, if_false, eq_self, and_self]
        exact hx.2.2.2.2.2.2.1 i hi)
  · exact (fun i hi => by
        have hi : i < C.2 8 0 := by simpa +decide only [gup_at, gnew_at, gup_2, gnew_2, gtell, Prod.mk.injEq, true_and, and_true, false_and, and_false, if_true, if_false, eq_self, and_self] using hi
        simp +decide only [gup_at, gnew_at, gup_2, gnew_2, gtell, Prod.mk.injEq, true_and, and_true, false_and, and_false, if_true, if_false, eq_self, and_self]
        exact hx.2.2.2.2.2.2.2 i hi)

theorem i_fire {C : gG} {n : Nat} (hI : gI n C) (hn : n ≤ 512) (hz5 : C.1 (0, 0, 0) 5 = 0) (a : Int32) (b : Int32) (c : Int32) (d : Int32) : gok1 n (F_fire C a b c d) := by
  unfold F_fire
  by_cases h1 : ¬ gix (C.2 8 0) a = true
  · rw [if_pos h1]
    exact gok_thr hI hn _
  rw [if_neg h1]
  by_cases h2 : b < 0 ∨ ¬ b < 2 ∨ ¬ gin 700 c 1200 = true ∨ ¬ gin 1 d 12 = true
  · rw [if_pos h2]
    exact gok_thr hI hn _
  rw [if_neg h2]
  by_cases h3 : C.1 (8, 0, a.toNatClampNeg) 5 = 0 ∨ C.1 (0, 0, 0) 0 < C.1 (8, 0, a.toNatClampNeg) 4 ∨ ¬ C.1 (8, 0, a.toNatClampNeg) 6 < 0
  · rw [if_pos h3]
    exact gok_thr hI hn _
  rw [if_neg h3]
  by_cases h4 : C.1 (0, 0, 0) 0 < C.1 (15, 0, 0) b.toNatClampNeg
  · rw [if_pos h4]
    exact gok_thr hI hn _
  rw [if_neg h4]
  have hm : (C.1 (8, 0, a.toNatClampNeg) 0).toNatClampNeg < C.2 7 0 := gix_lt (Nat.le_trans (hI.cnt 1 0 (by decide)) (by decide)) (hI.2.2.2.2.1 _ (gix_lt (Nat.le_trans (hI.cnt 2 0 (by decide)) (by decide)) (Classical.not_not.mp h1))).1
  have hx := hI.2.2.2.2.2.2.2.2.2.2
  refine ⟨⟨?_, ?_, ?_, ?_, ?_, ?_, ?_, ?_, ?_, ?_, ?_, ?_, ?_, ?_, ?_, ?_, ?_, ?_⟩, (by simp +decide only [gup_at, gnew_at, gup_2, gnew_2, gtell, Prod.mk.injEq, true_and, and_true, false_and, and_false, if_true, if_false, eq_self, and_self, hz5])⟩
  · exact hI.1
  · exact (gI2_f (fun _ _ _ => by simp +decide only [gup_at, gnew_at, gup_2, gnew_2, gtell, Prod.mk.injEq, true_and, and_true, false_and, and_false, if_true, if_false, eq_self, and_self]) (fun _ _ _ => by simp +decide only [gup_at, gnew_at, gup_2, gnew_2, gtell, Prod.mk.injEq, true_and, and_true, false_and, and_false, if_true, if_false, eq_self, and_self]) hI.2.1)
  · exact (by
    have h3 := hI.2.2.1
    unfold gI3
    simp +decide only [gup_at, gnew_at, gup_2, gnew_2, gtell, Prod.mk.injEq, true_and, and_true, false_and, and_false, if_true, if_false, eq_self, and_self]
    exact ⟨h3.1, ga_inc (by omega) h3.2.1, gin_up h3.2.2.1 (by omega) (by omega), h3.2.2.2.1, h3.2.2.2.2⟩)
  · exact (gI6_f (by simp +decide only [gup_at, gnew_at, gup_2, gnew_2, gtell, Prod.mk.injEq, true_and, and_true, false_and, and_false, if_true, if_false, eq_self, and_self]) (fun _ _ _ => by simp +decide only [gup_at, gnew_at, gup_2, gnew_2, gtell, Prod.mk.injEq, true_and, and_true, false_and, and_false, if_true, if_false, eq_self, and_self]) hI.2.2.2.1)
  · exact (fun i hi => by
    have hi : i < C.2 8 0 := by simpa +decide only [gup_at, gnew_at, gup_2, gnew_2, gtell, Prod.mk.injEq, true_and, and_true, false_and, and_false, if_true, if_false, eq_self, and_self] using hi
    have h := hI.2.2.2.2.1 i hi
    by_cases hq : i = a.toNatClampNeg
    · subst hq
      simp +decide only [gup_at, gnew_at, gup_2, gnew_2, gtell, Prod.mk.injEq, true_and, and_true, false_and, and_false, if_true, if_false, eq_self, and_self]
      exact ⟨h.1, ga_clamp (by decide), fun z => (gin_iff.mp hI.2.2.1.2.1).1 (Int32.lt_trans z (by decide)), fun _ => trivial, h.2.2.2.2⟩
    · simp +decide only [gup_at, gnew_at, gup_2, gnew_2, gtell, Prod.mk.injEq, true_and, and_true, false_and, and_false, if_true, if_false, eq_self, and_self, hq]
      exact h)
  · exact (fun i hi => by
    have hi : i < C.2 10 0 := by simpa +decide only [gup_at, gnew_at, gup_2, gnew_2, gtell, Prod.mk.injEq, true_and, and_true, false_and, and_false, if_true, if_false, eq_self, and_self] using hi
    have h := hI.2.2.2.2.2.1 i hi
    by_cases hq : (C.1 (10, 0, i) 0).toNatClampNeg = a.toNatClampNeg
    · simp +decide only [gup_at, gnew_at, gup_2, gnew_2, gtell, Prod.mk.injEq, true_and, and_true, false_and, and_false, if_true, if_false, eq_self, and_self, hq]
      exact ⟨h.1, h.2.1, h.2.2.1, h.2.2.2.1, h.2.2.2.2.1, h.2.2.2.2.2.1, (gin_iff.mp hI.2.2.1.2.1).1, h.2.2.2.2.2.2.2⟩
    · simp +decide only [gup_at, gnew_at, gup_2, gnew_2, gtell, Prod.mk.injEq, true_and, and_true, false_and, and_false, if_true, if_false, eq_self, and_self, hq]
      exact h)
  · exact (gI11_f (by simp +decide only [gup_at, gnew_at, gup_2, gnew_2, gtell, Prod.mk.injEq, true_and, and_true, false_and, and_false, if_true, if_false, eq_self, and_self]) (fun _ => by simp +decide only [gup_at, gnew_at, gup_2, gnew_2, gtell, Prod.mk.injEq, true_and, and_true, false_and, and_false, if_true, if_false, eq_self, and_self]) (fun _ _ _ => by simp +decide only [gup_at, gnew_at, gup_2, gnew_2, gtell, Prod.mk.injEq, true_and, and_true, false_and, and_false, if_true, if_false, eq_self, and_self]) (fun _ _ => by simp +decide only [gup_at, gnew_at, gup_2, gnew_2, gtell, Prod.mk.injEq, true_and, and_true, false_and, and_false, if_true, if_false, eq_self, and_self]) hI.2.2.2.2.2.2.1)
  · exact (gI13_f (by simp +decide only [gup_at, gnew_at, gup_2, gnew_2, gtell, Prod.mk.injEq, true_and, and_true, false_and, and_false, if_true, if_false, eq_self, and_self]) (fun _ => by simp +decide only [gup_at, gnew_at, gup_2, gnew_2, gtell, Prod.mk.injEq, true_and, and_true, false_and, and_false, if_true, if_false, eq_self, and_self]) (by simp +decide only [gup_at, gnew_at, gup_2, gnew_2, gtell, Prod.mk.injEq, true_and, and_true, false_and, and_false, if_true, if_false, eq_self, and_self]) (fun _ _ _ => by simp +decide only [gup_at, gnew_at, gup_2, gnew_2, gtell, Prod.mk.injEq, true_and, and_true, false_and, and_false, if_true, if_false, eq_self, and_self]) (fun _ => by simp +decide only [gup_at, gnew_at, gup_2, gnew_2, gtell, Prod.mk.injEq, true_and, and_true, false_and, and_false, if_true, if_false, eq_self, and_self]) (fun _ => by simp +decide only [gup_at, gnew_at, gup_2, gnew_2, gtell, Prod.mk.injEq, true_and, and_true, false_and, and_false, if_true, if_false, eq_self, and_self]) hI.2.2.2.2.2.2.2.1)
  · exact (gI12_f (by simp +decide only [gup_at, gnew_at, gup_2, gnew_2, gtell, Prod.mk.injEq, true_and, and_true, false_and, and_false, if_true, if_false, eq_self, and_self]) (fun _ _ _ => by simp +decide only [gup_at, gnew_at, gup_2, gnew_2, gtell, Prod.mk.injEq, true_and, and_true, false_and, and_false, if_true, if_false, eq_self, and_self]) hI.2.2.2.2.2.2.2.2.1)
  · exact (gmiss_f (by simp +decide only [gup_at, gnew_at, gup_2, gnew_2, gtell, Prod.mk.injEq, true_and, and_true, false_and, and_false, if_true, if_false, eq_self, and_self]) (by simp +decide only [gup_at, gnew_at, gup_2, gnew_2, gtell, Prod.mk.injEq, true_and, and_true, false_and, and_false, if_true, if_false, eq_self, and_self]) (by simp +decide only [gup_at, gnew_at, gup_2, gnew_2, gtell, Prod.mk.injEq, true_and, and_true, false_and, and_false, if_true, if_false, eq_self, and_self]) (by simp +decide only [gup_at, gnew_at, gup_2, gnew_2, gtell, Prod.mk.injEq, true_and, and_true, false_and, and_false, if_true, if_false, eq_self, and_self]) (fun _ => by simp +decide only [gup_at, gnew_at, gup_2, gnew_2, gtell, Prod.mk.injEq, true_and, and_true, false_and, and_false, if_true, if_false, eq_self, and_self]) (fun _ => by simp +decide only [gup_at, gnew_at, gup_2, gnew_2, gtell, Prod.mk.injEq, true_and, and_true, false_and, and_false, if_true, if_false, eq_self, and_self]) hI.2.2.2.2.2.2.2.2.2.1)
  · exact (fun i hi => by
        have hi : i < C.2 6 0 := by simpa +decide only [gup_at, gnew_at, gup_2, gnew_2, gtell, Prod.mk.injEq, true_and, and_true, false_and, and_false, if_true, if_false, eq_self, and_self] using hi
        simp +decide only [gup_at, gnew_at, gup_2, gnew_2, gtell, Prod.mk.injEq, true_and, and_true, false_and, and_false, if_true, if_false, eq_self, and_self]
        exact hx.1 i hi)
  · exact (fun i hi => by
        have hi : i < C.2 7 0 := by simpa +decide only [gup_at, gnew_at, gup_2, gnew_2, gtell, Prod.mk.injEq, true_and, and_true, false_and, and_false, if_true, if_false, eq_self, and_self] using hi
        simp +decide only [gup_at, gnew_at, gup_2, gnew_2, gtell, Prod.mk.injEq, true_and, and_true, false_and, and_false, if_true, if_false, eq_self, and_self]
        exact hx.2.1 i hi)
  · exact (fun i hi => by
    have hi : i < C.2 8 0 := by simpa +decide only [gup_at, gnew_at, gup_2, gnew_2, gtell, Prod.mk.injEq, true_and, and_true, false_and, and_false, if_true, if_false, eq_self, and_self] using hi
    have h := hx.2.2.1 i hi
    by_cases hq : i = a.toNatClampNeg
    · subst hq
      simp +decide only [gup_at, gnew_at, gup_2, gnew_2, gtell, Prod.mk.injEq, true_and, and_true, false_and, and_false, if_true, if_false, eq_self, and_self]
      exact gin_up (ga_fire (hx.2.1 _ hm).1 (hx.2.1 _ hm).2 (Classical.not_not.mp (fun z => h2 (Or.inr (Or.inr (Or.inl z))))) (Classical.not_not.mp (fun z => h2 (Or.inr (Or.inr (Or.inr z))))) (show n ≤ 600 by omega)) (by omega) (by omega)
    · simp +decide only [gup_at, gnew_at, gup_2, gnew_2, gtell, Prod.mk.injEq, true_and, and_true, false_and, and_false, if_true, if_false, eq_self, and_self, hq]
      exact gin_up h (by omega) (by omega))
  · exact (fun i hi => by
        have hi : i < C.2 9 0 := by simpa +decide only [gup_at, gnew_at, gup_2, gnew_2, gtell, Prod.mk.injEq, true_and, and_true, false_and, and_false, if_true, if_false, eq_self, and_self] using hi
        simp +decide only [gup_at, gnew_at, gup_2, gnew_2, gtell, Prod.mk.injEq, true_and, and_true, false_and, and_false, if_true, if_false, eq_self, and_self]
        exact hx.2.2.2.1 i hi)
  · exact (fun i hi => by
        have hi : i < C.2 10 0 := by simpa +decide only [gup_at, gnew_at, gup_2, gnew_2, gtell, Prod.mk.injEq, true_and, and_true, false_and, and_false, if_true, if_false, eq_self, and_self] using hi
        simp +decide only [gup_at, gnew_at, gup_2, gnew_2, gtell, Prod.mk.injEq, true_and, and_true, false_and, and_false, if_true, if_false, eq_self, and_self]
        exact hx.2.2.2.2.1 i hi)
  · exact (by simp +decide only [gup_at, gnew_at, gup_2, gnew_2, gtell, Prod.mk.injEq, true_and, and_true, false_and, and_false, if_true, if_false, eq_self, and_self]; exact hx.2.2.2.2.2.1)
  · exact (fun i hi => by
        have hi : i < C.2 9 0 := by simpa +decide only [gup_at, gnew_at, gup_2, gnew_2, gtell, Prod.mk.injEq, true_and, and_true, false_and, and_false, if_true, if_false, eq_self, and_self] using hi
        simp +decide only [gup_at, gnew_at, gup_2, gnew_2, gtell, Prod.mk.injEq, true_and, and_true, false_and, and_false, if_true, if_false, eq_self, and_self]
        exact hx.2.2.2.2.2.2.1 i hi)
  · exact (fun i hi => by
        have hi : i < C.2 8 0 := by simpa +decide only [gup_at, gnew_at, gup_2, gnew_2, gtell, Prod.mk.injEq, true_and, and_true, false_and, and_false, if_true, if_false, eq_self, and_self] using hi
        simp +decide only [gup_at, gnew_at, gup_2, gnew_2, gtell, Prod.mk.injEq, true_and, and_true, false_and, and_false, if_true, if_false, eq_self, and_self]
        exact hx.2.2.2.2.2.2.2 i hi)

theorem i_soak {C : gG} {n : Nat} (hI : gI n C) (hn : n ≤ 512) (hz5 : C.1 (0, 0, 0) 5 = 0) (a : Int32) (b : Int32) : gok1 n (F_soak C a b) := by
  unfold F_soak
  by_cases h1 : ¬ gix (C.2 8 0) a = true
  · rw [if_pos h1]
    exact gok_thr hI hn _
  rw [if_neg h1]
  by_cases h2 : ¬ gin 1 b 5 = true
  · rw [if_pos h2]
    exact gok_thr hI hn _
  rw [if_neg h2]
  by_cases h3 : C.1 (8, 0, a.toNatClampNeg) 6 < 0 ∨ C.1 (0, 0, 0) 0 < C.1 (8, 0, a.toNatClampNeg) 4 ∨ ¬ C.1 (8, 0, a.toNatClampNeg) 8 = 0
  · rw [if_pos h3]
    exact gok_thr hI hn _
  rw [if_neg h3]
  have hx := hI.2.2.2.2.2.2.2.2.2.2
  refine ⟨⟨?_, ?_, ?_, ?_, ?_, ?_, ?_, ?_, ?_, ?_, ?_, ?_, ?_, ?_, ?_, ?_, ?_, ?_⟩, (by simp +decide only [gup_at, gnew_at, gup_2, gnew_2, gtell, Prod.mk.injEq, true_and, and_true, false_and, and_false, if_true, if_false, eq_self, and_self, hz5])⟩
  · exact hI.1
  · exact (gI2_f (fun _ _ _ => by simp +decide only [gup_at, gnew_at, gup_2, gnew_2, gtell, Prod.mk.injEq, true_and, and_true, false_and, and_false, if_true, if_false, eq_self, and_self]) (fun _ _ _ => by simp +decide only [gup_at, gnew_at, gup_2, gnew_2, gtell, Prod.mk.injEq, true_and, and_true, false_and, and_false, if_true, if_false, eq_self, and_self]) hI.2.1)
  · exact (gI3_f (Nat.le_succ n) (by omega) (by simp +decide only [gup_at, gnew_at, gup_2, gnew_2, gtell, Prod.mk.injEq, true_and, and_true, false_and, and_false, if_true, if_false, eq_self, and_self]) (by simp +decide only [gup_at, gnew_at, gup_2, gnew_2, gtell, Prod.mk.injEq, true_and, and_true, false_and, and_false, if_true, if_false, eq_self, and_self]) (fun _ _ _ => by simp +decide only [gup_at, gnew_at, gup_2, gnew_2, gtell, Prod.mk.injEq, true_and, and_true, false_and, and_false, if_true, if_false, eq_self, and_self]) hI.2.2.1)
  · exact (gI6_f (by simp +decide only [gup_at, gnew_at, gup_2, gnew_2, gtell, Prod.mk.injEq, true_and, and_true, false_and, and_false, if_true, if_false, eq_self, and_self]) (fun _ _ _ => by simp +decide only [gup_at, gnew_at, gup_2, gnew_2, gtell, Prod.mk.injEq, true_and, and_true, false_and, and_false, if_true, if_false, eq_self, and_self]) hI.2.2.2.1)
  · exact (fun i hi => by
    have hi : i < C.2 8 0 := by simpa +decide only [gup_at, gnew_at, gup_2, gnew_2, gtell, Prod.mk.injEq, true_and, and_true, false_and, and_false, if_true, if_false, eq_self, and_self] using hi
    have h := hI.2.2.2.2.1 i hi
    by_cases hq : i = a.toNatClampNeg
    · subst hq
      simp +decide only [gup_at, gnew_at, gup_2, gnew_2, gtell, Prod.mk.injEq, true_and, and_true, false_and, and_false, if_true, if_false, eq_self, and_self]
      exact ⟨h.1, ga_clamp (by decide), h.2.2.1, h.2.2.2.1, h.2.2.2.2.1, Or.inr rfl⟩
    · simp +decide only [gup_at, gnew_at, gup_2, gnew_2, gtell, Prod.mk.injEq, true_and, and_true, false_and, and_false, if_true, if_false, eq_self, and_self, hq]
      exact h)
  · exact (gI10_f (by simp +decide only [gup_at, gnew_at, gup_2, gnew_2, gtell, Prod.mk.injEq, true_and, and_true, false_and, and_false, if_true, if_false, eq_self, and_self]) (by simp +decide only [gup_at, gnew_at, gup_2, gnew_2, gtell, Prod.mk.injEq, true_and, and_true, false_and, and_false, if_true, if_false, eq_self, and_self]) (by simp +decide only [gup_at, gnew_at, gup_2, gnew_2, gtell, Prod.mk.injEq, true_and, and_true, false_and, and_false, if_true, if_false, eq_self, and_self]) (fun _ _ _ => by simp +decide only [gup_at, gnew_at, gup_2, gnew_2, gtell, Prod.mk.injEq, true_and, and_true, false_and, and_false, if_true, if_false, eq_self, and_self]) (fun _ => by simp +decide only [gup_at, gnew_at, gup_2, gnew_2, gtell, Prod.mk.injEq, true_and, and_true, false_and, and_false, if_true, if_false, eq_self, and_self]) hI.2.2.2.2.2.1)
  · exact (gI11_f (by simp +decide only [gup_at, gnew_at, gup_2, gnew_2, gtell, Prod.mk.injEq, true_and, and_true, false_and, and_false, if_true, if_false, eq_self, and_self]) (fun _ => by simp +decide only [gup_at, gnew_at, gup_2, gnew_2, gtell, Prod.mk.injEq, true_and, and_true, false_and, and_false, if_true, if_false, eq_self, and_self]) (fun _ _ _ => by simp +decide only [gup_at, gnew_at, gup_2, gnew_2, gtell, Prod.mk.injEq, true_and, and_true, false_and, and_false, if_true, if_false, eq_self, and_self]) (fun _ _ => by simp +decide only [gup_at, gnew_at, gup_2, gnew_2, gtell, Prod.mk.injEq, true_and, and_true, false_and, and_false, if_true, if_false, eq_self, and_self]) hI.2.2.2.2.2.2.1)
  · exact (gI13_f (by simp +decide only [gup_at, gnew_at, gup_2, gnew_2, gtell, Prod.mk.injEq, true_and, and_true, false_and, and_false, if_true, if_false, eq_self, and_self]) (fun _ => by simp +decide only [gup_at, gnew_at, gup_2, gnew_2, gtell, Prod.mk.injEq, true_and, and_true, false_and, and_false, if_true, if_false, eq_self, and_self]) (by simp +decide only [gup_at, gnew_at, gup_2, gnew_2, gtell, Prod.mk.injEq, true_and, and_true, false_and, and_false, if_true, if_false, eq_self, and_self]) (fun _ _ _ => by simp +decide only [gup_at, gnew_at, gup_2, gnew_2, gtell, Prod.mk.injEq, true_and, and_true, false_and, and_false, if_true, if_false, eq_self, and_self]) (fun _ => by simp +decide only [gup_at, gnew_at, gup_2, gnew_2, gtell, Prod.mk.injEq, true_and, and_true, false_and, and_false, if_true, if_false, eq_self, and_self]) (fun _ => by simp +decide only [gup_at, gnew_at, gup_2, gnew_2, gtell, Prod.mk.injEq, true_and, and_true, false_and, and_false, if_true, if_false, eq_self, and_self]) hI.2.2.2.2.2.2.2.1)
  · exact (gI12_f (by simp +decide only [gup_at, gnew_at, gup_2, gnew_2, gtell, Prod.mk.injEq, true_and, and_true, false_and, and_false, if_true, if_false, eq_self, and_self]) (fun _ _ _ => by simp +decide only [gup_at, gnew_at, gup_2, gnew_2, gtell, Prod.mk.injEq, true_and, and_true, false_and, and_false, if_true, if_false, eq_self, and_self]) hI.2.2.2.2.2.2.2.2.1)
  · exact (gmiss_f (by simp +decide only [gup_at, gnew_at, gup_2, gnew_2, gtell, Prod.mk.injEq, true_and, and_true, false_and, and_false, if_true, if_false, eq_self, and_self]) (by simp +decide only [gup_at, gnew_at, gup_2, gnew_2, gtell, Prod.mk.injEq, true_and, and_true, false_and, and_false, if_true, if_false, eq_self, and_self]) (by simp +decide only [gup_at, gnew_at, gup_2, gnew_2, gtell, Prod.mk.injEq, true_and, and_true, false_and, and_false, if_true, if_false, eq_self, and_self]) (by simp +decide only [gup_at, gnew_at, gup_2, gnew_2, gtell, Prod.mk.injEq, true_and, and_true, false_and, and_false, if_true, if_false, eq_self, and_self]) (fun _ => by simp +decide only [gup_at, gnew_at, gup_2, gnew_2, gtell, Prod.mk.injEq, true_and, and_true, false_and, and_false, if_true, if_false, eq_self, and_self]) (fun _ => by simp +decide only [gup_at, gnew_at, gup_2, gnew_2, gtell, Prod.mk.injEq, true_and, and_true, false_and, and_false, if_true, if_false, eq_self, and_self]) hI.2.2.2.2.2.2.2.2.2.1)
  · exact (fun i hi => by
        have hi : i < C.2 6 0 := by simpa +decide only [gup_at, gnew_at, gup_2, gnew_2, gtell, Prod.mk.injEq, true_and, and_true, false_and, and_false, if_true, if_false, eq_self, and_self] using hi
        simp +decide only [gup_at, gnew_at, gup_2, gnew_2, gtell, Prod.mk.injEq, true_and, and_true, false_and, and_false, if_true, if_false, eq_self, and_self]
        exact hx.1 i hi)
  · exact (fun i hi => by
        have hi : i < C.2 7 0 := by simpa +decide only [gup_at, gnew_at, gup_2, gnew_2, gtell, Prod.mk.injEq, true_and, and_true, false_and, and_false, if_true, if_false, eq_self, and_self] using hi
        simp +decide only [gup_at, gnew_at, gup_2, gnew_2, gtell, Prod.mk.injEq, true_and, and_true, false_and, and_false, if_true, if_false, eq_self, and_self]
        exact hx.2.1 i hi)
  · exact (fun i hi => by
    have hi : i < C.2 8 0 := by simpa +decide only [gup_at, gnew_at, gup_2, gnew_2, gtell, Prod.mk.injEq, true_and, and_true, false_and, and_false, if_true, if_false, eq_self, and_self] using hi
    have h := hx.2.2.1 i hi
    by_cases hq : i = a.toNatClampNeg
    · subst hq
      simp +decide only [gup_at, gnew_at, gup_2, gnew_2, gtell, Prod.mk.injEq, true_and, and_true, false_and, and_false, if_true, if_false, eq_self, and_self]
      exact ga_soak h (Classical.not_not.mp h2) (by omega)
    · simp +decide only [gup_at, gnew_at, gup_2, gnew_2, gtell, Prod.mk.injEq, true_and, and_true, false_and, and_false, if_true, if_false, eq_self, and_self, hq]
      exact gin_up h (by omega) (by omega))
  · exact (fun i hi => by
        have hi : i < C.2 9 0 := by simpa +decide only [gup_at, gnew_at, gup_2, gnew_2, gtell, Prod.mk.injEq, true_and, and_true, false_and, and_false, if_true, if_false, eq_self, and_self] using hi
        simp +decide only [gup_at, gnew_at, gup_2, gnew_2, gtell, Prod.mk.injEq, true_and, and_true, false_and, and_false, if_true, if_false, eq_self, and_self]
        exact hx.2.2.2.1 i hi)
  · exact (fun i hi => by
        have hi : i < C.2 10 0 := by simpa +decide only [gup_at, gnew_at, gup_2, gnew_2, gtell, Prod.mk.injEq, true_and, and_true, false_and, and_false, if_true, if_false, eq_self, and_self] using hi
        simp +decide only [gup_at, gnew_at, gup_2, gnew_2, gtell, Prod.mk.injEq, true_and, and_true, false_and, and_false, if_true, if_false, eq_self, and_self]
        exact hx.2.2.2.2.1 i hi)
  · exact (by simp +decide only [gup_at, gnew_at, gup_2, gnew_2, gtell, Prod.mk.injEq, true_and, and_true, false_and, and_false, if_true, if_false, eq_self, and_self]; exact hx.2.2.2.2.2.1)
  · exact (fun i hi => by
        have hi : i < C.2 9 0 := by simpa +decide only [gup_at, gnew_at, gup_2, gnew_2, gtell, Prod.mk.injEq, true_and, and_true, false_and, and_false, if_true, if_false, eq_self, and_self] using hi
        simp +decide only [gup_at, gnew_at, gup_2, gnew_2, gtell, Prod.mk.injEq, true_and, and_true, false_and, and_false, if_true, if_false, eq_self, and_self]
        exact hx.2.2.2.2.2.2.1 i hi)
  · exact (fun i hi => by
        have hi : i < C.2 8 0 := by simpa +decide only [gup_at, gnew_at, gup_2, gnew_2, gtell, Prod.mk.injEq, true_and, and_true, false_and, and_false, if_true, if_false, eq_self, and_self] using hi
        simp +decide only [gup_at, gnew_at, gup_2, gnew_2, gtell, Prod.mk.injEq, true_and, and_true, false_and, and_false, if_true, if_false, eq_self, and_self]
        exact hx.2.2.2.2.2.2.2 i hi)

theorem i_draw {C : gG} {n : Nat} (hI : gI n C) (hn : n ≤ 512) (hz5 : C.1 (0, 0, 0) 5 = 0) (a : Int32) : gok1 n (F_draw C a) := by
  unfold F_draw
  by_cases h1 : ¬ gix (C.2 8 0) a = true
  · rw [if_pos h1]
    exact gok_thr hI hn _
  rw [if_neg h1]
  by_cases h2 : C.1 (8, 0, a.toNatClampNeg) 6 < 0 ∨ C.1 (0, 0, 0) 0 < C.1 (8, 0, a.toNatClampNeg) 4
  · rw [if_pos h2]
    exact gok_thr hI hn _
  rw [if_neg h2]
  have hx := hI.2.2.2.2.2.2.2.2.2.2
  refine ⟨⟨?_, ?_, ?_, ?_, ?_, ?_, ?_, ?_, ?_, ?_, ?_, ?_, ?_, ?_, ?_, ?_, ?_, ?_⟩, (by simp +decide only [gup_at, gnew_at, gup_2, gnew_2, gtell, Prod.mk.injEq, true_and, and_true, false_and, and_false, if_true, if_false, eq_self, and_self, hz5])⟩
  · exact hI.1
  · exact (gI2_f (fun _ _ _ => by simp +decide only [gup_at, gnew_at, gup_2, gnew_2, gtell, Prod.mk.injEq, true_and, and_true, false_and, and_false, if_true, if_false, eq_self, and_self]) (fun _ _ _ => by simp +decide only [gup_at, gnew_at, gup_2, gnew_2, gtell, Prod.mk.injEq, true_and, and_true, false_and, and_false, if_true, if_false, eq_self, and_self]) hI.2.1)
  · exact (gI3_tell hI.2.2.1 hn)
  · exact (gI6_f (by simp +decide only [gup_at, gnew_at, gup_2, gnew_2, gtell, Prod.mk.injEq, true_and, and_true, false_and, and_false, if_true, if_false, eq_self, and_self]) (fun _ _ _ => by simp +decide only [gup_at, gnew_at, gup_2, gnew_2, gtell, Prod.mk.injEq, true_and, and_true, false_and, and_false, if_true, if_false, eq_self, and_self]) hI.2.2.2.1)
  · exact (gI8_f (by simp +decide only [gup_at, gnew_at, gup_2, gnew_2, gtell, Prod.mk.injEq, true_and, and_true, false_and, and_false, if_true, if_false, eq_self, and_self]) (by simp +decide only [gup_at, gnew_at, gup_2, gnew_2, gtell, Prod.mk.injEq, true_and, and_true, false_and, and_false, if_true, if_false, eq_self, and_self]) (fun _ _ _ => by simp +decide only [gup_at, gnew_at, gup_2, gnew_2, gtell, Prod.mk.injEq, true_and, and_true, false_and, and_false, if_true, if_false, eq_self, and_self]) hI.2.2.2.2.1)
  · exact (gI10_f (by simp +decide only [gup_at, gnew_at, gup_2, gnew_2, gtell, Prod.mk.injEq, true_and, and_true, false_and, and_false, if_true, if_false, eq_self, and_self]) (by simp +decide only [gup_at, gnew_at, gup_2, gnew_2, gtell, Prod.mk.injEq, true_and, and_true, false_and, and_false, if_true, if_false, eq_self, and_self]) (by simp +decide only [gup_at, gnew_at, gup_2, gnew_2, gtell, Prod.mk.injEq, true_and, and_true, false_and, and_false, if_true, if_false, eq_self, and_self]) (fun _ _ _ => by simp +decide only [gup_at, gnew_at, gup_2, gnew_2, gtell, Prod.mk.injEq, true_and, and_true, false_and, and_false, if_true, if_false, eq_self, and_self]) (fun _ => by simp +decide only [gup_at, gnew_at, gup_2, gnew_2, gtell, Prod.mk.injEq, true_and, and_true, false_and, and_false, if_true, if_false, eq_self, and_self]) hI.2.2.2.2.2.1)
  · exact (gI11_f (by simp +decide only [gup_at, gnew_at, gup_2, gnew_2, gtell, Prod.mk.injEq, true_and, and_true, false_and, and_false, if_true, if_false, eq_self, and_self]) (fun _ => by simp +decide only [gup_at, gnew_at, gup_2, gnew_2, gtell, Prod.mk.injEq, true_and, and_true, false_and, and_false, if_true, if_false, eq_self, and_self]) (fun _ _ _ => by simp +decide only [gup_at, gnew_at, gup_2, gnew_2, gtell, Prod.mk.injEq, true_and, and_true, false_and, and_false, if_true, if_false, eq_self, and_self]) (fun _ _ => by simp +decide only [gup_at, gnew_at, gup_2, gnew_2, gtell, Prod.mk.injEq, true_and, and_true, false_and, and_false, if_true, if_false, eq_self, and_self]) hI.2.2.2.2.2.2.1)
  · exact (gI13_f (by simp +decide only [gup_at, gnew_at, gup_2, gnew_2, gtell, Prod.mk.injEq, true_and, and_true, false_and, and_false, if_true, if_false, eq_self, and_self]) (fun _ => by simp +decide only [gup_at, gnew_at, gup_2, gnew_2, gtell, Prod.mk.injEq, true_and, and_true, false_and, and_false, if_true, if_false, eq_self, and_self]) (by simp +decide only [gup_at, gnew_at, gup_2, gnew_2, gtell, Prod.mk.injEq, true_and, and_true, false_and, and_false, if_true, if_false, eq_self, and_self]) (fun _ _ _ => by simp +decide only [gup_at, gnew_at, gup_2, gnew_2, gtell, Prod.mk.injEq, true_and, and_true, false_and, and_false, if_true, if_false, eq_self, and_self]) (fun _ => by simp +decide only [gup_at, gnew_at, gup_2, gnew_2, gtell, Prod.mk.injEq, true_and, and_true, false_and, and_false, if_true, if_false, eq_self, and_self]) (fun _ => by simp +decide only [gup_at, gnew_at, gup_2, gnew_2, gtell, Prod.mk.injEq, true_and, and_true, false_and, and_false, if_true, if_false, eq_self, and_self]) hI.2.2.2.2.2.2.2.1)
  · exact (gI12_f (by simp +decide only [gup_at, gnew_at, gup_2, gnew_2, gtell, Prod.mk.injEq, true_and, and_true, false_and, and_false, if_true, if_false, eq_self, and_self]) (fun _ _ _ => by simp +decide only [gup_at, gnew_at, gup_2, gnew_2, gtell, Prod.mk.injEq, true_and, and_true, false_and, and_false, if_true, if_false, eq_self, and_self]) hI.2.2.2.2.2.2.2.2.1)
  · exact (gmiss_f (by simp +decide only [gup_at, gnew_at, gup_2, gnew_2, gtell, Prod.mk.injEq, true_and, and_true, false_and, and_false, if_true, if_false, eq_self, and_self]) (by simp +decide only [gup_at, gnew_at, gup_2, gnew_2, gtell, Prod.mk.injEq, true_and, and_true, false_and, and_false, if_true, if_false, eq_self, and_self]) (by simp +decide only [gup_at, gnew_at, gup_2, gnew_2, gtell, Prod.mk.injEq, true_and, and_true, false_and, and_false, if_true, if_false, eq_self, and_self]) (by simp +decide only [gup_at, gnew_at, gup_2, gnew_2, gtell, Prod.mk.injEq, true_and, and_true, false_and, and_false, if_true, if_false, eq_self, and_self]) (fun _ => by simp +decide only [gup_at, gnew_at, gup_2, gnew_2, gtell, Prod.mk.injEq, true_and, and_true, false_and, and_false, if_true, if_false, eq_self, and_self]) (fun _ => by simp +decide only [gup_at, gnew_at, gup_2, gnew_2, gtell, Prod.mk.injEq, true_and, and_true, false_and, and_false, if_true, if_false, eq_self, and_self]) hI.2.2.2.2.2.2.2.2.2.1)
  · exact (fun i hi => by
        have hi : i < C.2 6 0 := by simpa +decide only [gup_at, gnew_at, gup_2, gnew_2, gtell, Prod.mk.injEq, true_and, and_true, false_and, and_false, if_true, if_false, eq_self, and_self] using hi
        simp +decide only [gup_at, gnew_at, gup_2, gnew_2, gtell, Prod.mk.injEq, true_and, and_true, false_and, and_false, if_true, if_false, eq_self, and_self]
        exact hx.1 i hi)
  · exact (fun i hi => by
        have hi : i < C.2 7 0 := by simpa +decide only [gup_at, gnew_at, gup_2, gnew_2, gtell, Prod.mk.injEq, true_and, and_true, false_and, and_false, if_true, if_false, eq_self, and_self] using hi
        simp +decide only [gup_at, gnew_at, gup_2, gnew_2, gtell, Prod.mk.injEq, true_and, and_true, false_and, and_false, if_true, if_false, eq_self, and_self]
        exact hx.2.1 i hi)
  · exact (fun i hi => by
        have hi : i < C.2 8 0 := by simpa +decide only [gup_at, gnew_at, gup_2, gnew_2, gtell, Prod.mk.injEq, true_and, and_true, false_and, and_false, if_true, if_false, eq_self, and_self] using hi
        simp +decide only [gup_at, gnew_at, gup_2, gnew_2, gtell, Prod.mk.injEq, true_and, and_true, false_and, and_false, if_true, if_false, eq_self, and_self]
        exact gin_up (hx.2.2.1 i hi) (by omega) (by omega))
  · exact (fun i hi => by
        have hi : i < C.2 9 0 := by simpa +decide only [gup_at, gnew_at, gup_2, gnew_2, gtell, Prod.mk.injEq, true_and, and_true, false_and, and_false, if_true, if_false, eq_self, and_self] using hi
        simp +decide only [gup_at, gnew_at, gup_2, gnew_2, gtell, Prod.mk.injEq, true_and, and_true, false_and, and_false, if_true, if_false, eq_self, and_self]
        exact hx.2.2.2.1 i hi)
  · exact (fun i hi => by
        have hi : i < C.2 10 0 := by simpa +decide only [gup_at, gnew_at, gup_2, gnew_2, gtell, Prod.mk.injEq, true_and, and_true, false_and, and_false, if_true, if_false, eq_self, and_self] using hi
        simp +decide only [gup_at, gnew_at, gup_2, gnew_2, gtell, Prod.mk.injEq, true_and, and_true, false_and, and_false, if_true, if_false, eq_self, and_self]
        exact hx.2.2.2.2.1 i hi)
  · exact (by simp +decide only [gup_at, gnew_at, gup_2, gnew_2, gtell, Prod.mk.injEq, true_and, and_true, false_and, and_false, if_true, if_false, eq_self, and_self]; exact hx.2.2.2.2.2.1)
  · exact (fun i hi => by
        have hi : i < C.2 9 0 := by simpa +decide only [gup_at, gnew_at, gup_2, gnew_2, gtell, Prod.mk.injEq, true_and, and_true, false_and, and_false, if_true, if_false, eq_self, and_self] using hi
        simp +decide only [gup_at, gnew_at, gup_2, gnew_2, gtell, Prod.mk.injEq, true_and, and_true, false_and, and_false, if_true, if_false, eq_self, and_self]
        exact hx.2.2.2.2.2.2.1 i hi)
  · exact (fun i hi => by
        have hi : i < C.2 8 0 := by simpa +decide only [gup_at, gnew_at, gup_2, gnew_2, gtell, Prod.mk.injEq, true_and, and_true, false_and, and_false, if_true, if_false, eq_self, and_self] using hi
        simp +decide only [gup_at, gnew_at, gup_2, gnew_2, gtell, Prod.mk.injEq, true_and, and_true, false_and, and_false, if_true, if_false, eq_self, and_self]
        exact hx.2.2.2.2.2.2.2 i hi)

theorem i_check {C : gG} {n : Nat} (hI : gI n C) (hn : n ≤ 512) (hz5 : C.1 (0, 0, 0) 5 = 0) : gok1 n (F_check C) := by
  unfold F_check
  have hx := hI.2.2.2.2.2.2.2.2.2.2
  refine ⟨⟨?_, ?_, ?_, ?_, ?_, ?_, ?_, ?_, ?_, ?_, ?_, ?_, ?_, ?_, ?_, ?_, ?_, ?_⟩, (by simp +decide only [gup_at, gnew_at, gup_2, gnew_2, gtell, Prod.mk.injEq, true_and, and_true, false_and, and_false, if_true, if_false, eq_self, and_self, hz5])⟩
  · exact hI.1
  · exact (gI2_f (fun _ _ _ => by simp +decide only [gup_at, gnew_at, gup_2, gnew_2, gtell, Prod.mk.injEq, true_and, and_true, false_and, and_false, if_true, if_false, eq_self, and_self]) (fun _ _ _ => by simp +decide only [gup_at, gnew_at, gup_2, gnew_2, gtell, Prod.mk.injEq, true_and, and_true, false_and, and_false, if_true, if_false, eq_self, and_self]) hI.2.1)
  · exact ⟨by simp +decide only [gup_at, gnew_at, gup_2, gnew_2, gtell, Prod.mk.injEq, true_and, and_true, false_and, and_false, if_true, if_false, eq_self, and_self]; exact hI.2.2.1.1, by simp +decide only [gup_at, gnew_at, gup_2, gnew_2, gtell, Prod.mk.injEq, true_and, and_true, false_and, and_false, if_true, if_false, eq_self, and_self]; exact gin_up hI.2.2.1.2.1 (by omega) (by omega), by simp +decide only [gup_at, gnew_at, gup_2, gnew_2, gtell, Prod.mk.injEq, true_and, and_true, false_and, and_false, if_true, if_false, eq_self, and_self]; exact gin_0n _ (by omega), by simp +decide only [gup_at, gnew_at, gup_2, gnew_2, gtell, Prod.mk.injEq, true_and, and_true, false_and, and_false, if_true, if_false, eq_self, and_self], by simp +decide only [gup_at, gnew_at, gup_2, gnew_2, gtell, Prod.mk.injEq, true_and, and_true, false_and, and_false, if_true, if_false, eq_self, and_self]⟩
  · exact (gI6_f (by simp +decide only [gup_at, gnew_at, gup_2, gnew_2, gtell, Prod.mk.injEq, true_and, and_true, false_and, and_false, if_true, if_false, eq_self, and_self]) (fun _ _ _ => by simp +decide only [gup_at, gnew_at, gup_2, gnew_2, gtell, Prod.mk.injEq, true_and, and_true, false_and, and_false, if_true, if_false, eq_self, and_self]) hI.2.2.2.1)
  · exact (gI8_f (by simp +decide only [gup_at, gnew_at, gup_2, gnew_2, gtell, Prod.mk.injEq, true_and, and_true, false_and, and_false, if_true, if_false, eq_self, and_self]) (by simp +decide only [gup_at, gnew_at, gup_2, gnew_2, gtell, Prod.mk.injEq, true_and, and_true, false_and, and_false, if_true, if_false, eq_self, and_self]) (fun _ _ _ => by simp +decide only [gup_at, gnew_at, gup_2, gnew_2, gtell, Prod.mk.injEq, true_and, and_true, false_and, and_false, if_true, if_false, eq_self, and_self]) hI.2.2.2.2.1)
  · exact (gI10_f (by simp +decide only [gup_at, gnew_at, gup_2, gnew_2, gtell, Prod.mk.injEq, true_and, and_true, false_and, and_false, if_true, if_false, eq_self, and_self]) (by simp +decide only [gup_at, gnew_at, gup_2, gnew_2, gtell, Prod.mk.injEq, true_and, and_true, false_and, and_false, if_true, if_false, eq_self, and_self]) (by simp +decide only [gup_at, gnew_at, gup_2, gnew_2, gtell, Prod.mk.injEq, true_and, and_true, false_and, and_false, if_true, if_false, eq_self, and_self]) (fun _ _ _ => by simp +decide only [gup_at, gnew_at, gup_2, gnew_2, gtell, Prod.mk.injEq, true_and, and_true, false_and, and_false, if_true, if_false, eq_self, and_self]) (fun _ => by simp +decide only [gup_at, gnew_at, gup_2, gnew_2, gtell, Prod.mk.injEq, true_and, and_true, false_and, and_false, if_true, if_false, eq_self, and_self]) hI.2.2.2.2.2.1)
  · exact (gI11_f (by simp +decide only [gup_at, gnew_at, gup_2, gnew_2, gtell, Prod.mk.injEq, true_and, and_true, false_and, and_false, if_true, if_false, eq_self, and_self]) (fun _ => by simp +decide only [gup_at, gnew_at, gup_2, gnew_2, gtell, Prod.mk.injEq, true_and, and_true, false_and, and_false, if_true, if_false, eq_self, and_self]) (fun _ _ _ => by simp +decide only [gup_at, gnew_at, gup_2, gnew_2, gtell, Prod.mk.injEq, true_and, and_true, false_and, and_false, if_true, if_false, eq_self, and_self]) (fun _ _ => by simp +decide only [gup_at, gnew_at, gup_2, gnew_2, gtell, Prod.mk.injEq, true_and, and_true, false_and, and_false, if_true, if_false, eq_self, and_self]) hI.2.2.2.2.2.2.1)
  · exact (gI13_f (by simp +decide only [gup_at, gnew_at, gup_2, gnew_2, gtell, Prod.mk.injEq, true_and, and_true, false_and, and_false, if_true, if_false, eq_self, and_self]) (fun _ => by simp +decide only [gup_at, gnew_at, gup_2, gnew_2, gtell, Prod.mk.injEq, true_and, and_true, false_and, and_false, if_true, if_false, eq_self, and_self]) (by simp +decide only [gup_at, gnew_at, gup_2, gnew_2, gtell, Prod.mk.injEq, true_and, and_true, false_and, and_false, if_true, if_false, eq_self, and_self]) (fun _ _ _ => by simp +decide only [gup_at, gnew_at, gup_2, gnew_2, gtell, Prod.mk.injEq, true_and, and_true, false_and, and_false, if_true, if_false, eq_self, and_self]) (fun _ => by simp +decide only [gup_at, gnew_at, gup_2, gnew_2, gtell, Prod.mk.injEq, true_and, and_true, false_and, and_false, if_true, if_false, eq_self, and_self]) (fun _ => by simp +decide only [gup_at, gnew_at, gup_2, gnew_2, gtell, Prod.mk.injEq, true_and, and_true, false_and, and_false, if_true, if_false, eq_self, and_self]) hI.2.2.2.2.2.2.2.1)
  · exact (gI12_f (by simp +decide only [gup_at, gnew_at, gup_2, gnew_2, gtell, Prod.mk.injEq, true_and, and_true, false_and, and_false, if_true, if_false, eq_self, and_self]) (fun _ _ _ => by simp +decide only [gup_at, gnew_at, gup_2, gnew_2, gtell, Prod.mk.injEq, true_and, and_true, false_and, and_false, if_true, if_false, eq_self, and_self]) hI.2.2.2.2.2.2.2.2.1)
  · exact (gmiss_f (by simp +decide only [gup_at, gnew_at, gup_2, gnew_2, gtell, Prod.mk.injEq, true_and, and_true, false_and, and_false, if_true, if_false, eq_self, and_self]) (by simp +decide only [gup_at, gnew_at, gup_2, gnew_2, gtell, Prod.mk.injEq, true_and, and_true, false_and, and_false, if_true, if_false, eq_self, and_self]) (by simp +decide only [gup_at, gnew_at, gup_2, gnew_2, gtell, Prod.mk.injEq, true_and, and_true, false_and, and_false, if_true, if_false, eq_self, and_self]) (by simp +decide only [gup_at, gnew_at, gup_2, gnew_2, gtell, Prod.mk.injEq, true_and, and_true, false_and, and_false, if_true, if_false, eq_self, and_self]) (fun _ => by simp +decide only [gup_at, gnew_at, gup_2, gnew_2, gtell, Prod.mk.injEq, true_and, and_true, false_and, and_false, if_true, if_false, eq_self, and_self]) (fun _ => by simp +decide only [gup_at, gnew_at, gup_2, gnew_2, gtell, Prod.mk.injEq, true_and, and_true, false_and, and_false, if_true, if_false, eq_self, and_self]) hI.2.2.2.2.2.2.2.2.2.1)
  · exact (fun i hi => by
        have hi : i < C.2 6 0 := by simpa +decide only [gup_at, gnew_at, gup_2, gnew_2, gtell, Prod.mk.injEq, true_and, and_true, false_and, and_false, if_true, if_false, eq_self, and_self] using hi
        simp +decide only [gup_at, gnew_at, gup_2, gnew_2, gtell, Prod.mk.injEq, true_and, and_true, false_and, and_false, if_true, if_false, eq_self, and_self]
        exact hx.1 i hi)
  · exact (fun i hi => by
        have hi : i < C.2 7 0 := by simpa +decide only [gup_at, gnew_at, gup_2, gnew_2, gtell, Prod.mk.injEq, true_and, and_true, false_and, and_false, if_true, if_false, eq_self, and_self] using hi
        simp +decide only [gup_at, gnew_at, gup_2, gnew_2, gtell, Prod.mk.injEq, true_and, and_true, false_and, and_false, if_true, if_false, eq_self, and_self]
        exact hx.2.1 i hi)
  · exact (fun i hi => by
        have hi : i < C.2 8 0 := by simpa +decide only [gup_at, gnew_at, gup_2, gnew_2, gtell, Prod.mk.injEq, true_and, and_true, false_and, and_false, if_true, if_false, eq_self, and_self] using hi
        simp +decide only [gup_at, gnew_at, gup_2, gnew_2, gtell, Prod.mk.injEq, true_and, and_true, false_and, and_false, if_true, if_false, eq_self, and_self]
        exact gin_up (hx.2.2.1 i hi) (by omega) (by omega))
  · exact (fun i hi => by
        have hi : i < C.2 9 0 := by simpa +decide only [gup_at, gnew_at, gup_2, gnew_2, gtell, Prod.mk.injEq, true_and, and_true, false_and, and_false, if_true, if_false, eq_self, and_self] using hi
        simp +decide only [gup_at, gnew_at, gup_2, gnew_2, gtell, Prod.mk.injEq, true_and, and_true, false_and, and_false, if_true, if_false, eq_self, and_self]
        exact hx.2.2.2.1 i hi)
  · exact (fun i hi => by
        have hi : i < C.2 10 0 := by simpa +decide only [gup_at, gnew_at, gup_2, gnew_2, gtell, Prod.mk.injEq, true_and, and_true, false_and, and_false, if_true, if_false, eq_self, and_self] using hi
        simp +decide only [gup_at, gnew_at, gup_2, gnew_2, gtell, Prod.mk.injEq, true_and, and_true, false_and, and_false, if_true, if_false, eq_self, and_self]
        exact hx.2.2.2.2.1 i hi)
  · exact (by simp +decide only [gup_at, gnew_at, gup_2, gnew_2, gtell, Prod.mk.injEq, true_and, and_true, false_and, and_false, if_true, if_false, eq_self, and_self]; exact hx.2.2.2.2.2.1)
  · exact (fun i hi => by
        have hi : i < C.2 9 0 := by simpa +decide only [gup_at, gnew_at, gup_2, gnew_2, gtell, Prod.mk.injEq, true_and, and_true, false_and, and_false, if_true, if_false, eq_self, and_self] using hi
        simp +decide only [gup_at, gnew_at, gup_2, gnew_2, gtell, Prod.mk.injEq, true_and, and_true, false_and, and_false, if_true, if_false, eq_self, and_self]
        exact hx.2.2.2.2.2.2.1 i hi)
  · exact (fun i hi => by
        have hi : i < C.2 8 0 := by simpa +decide only [gup_at, gnew_at, gup_2, gnew_2, gtell, Prod.mk.injEq, true_and, and_true, false_and, and_false, if_true, if_false, eq_self, and_self] using hi
        simp +decide only [gup_at, gnew_at, gup_2, gnew_2, gtell, Prod.mk.injEq, true_and, and_true, false_and, and_false, if_true, if_false, eq_self, and_self]
        exact hx.2.2.2.2.2.2.2 i hi)

theorem i_slats {C : gG} {n : Nat} (hI : gI n C) (hn : n ≤ 512) (hz5 : C.1 (0, 0, 0) 5 = 0) (a : Int32) (b : Int32) (c : Int32) (d : Int32) : gok1 n (F_slats C a b c d) := by
  unfold F_slats
  by_cases h1 : ¬ a = 99 ∧ ¬ a = 98
  · rw [if_pos h1]
    exact gok_thr hI hn _
  rw [if_neg h1]
  by_cases h2 : ¬ gin 0 b 9 = true ∨ ¬ gin 0 c 40 = true ∨ ¬ gin 1 d 500 = true
  · rw [if_pos h2]
    exact gok_thr hI hn _
  rw [if_neg h2]
  by_cases h3 : ¬ Int32.ofNat (C.2 9 0) < 12
  · rw [if_pos h3]
    exact gok_thr hI hn _
  rw [if_neg h3]
  have hx := hI.2.2.2.2.2.2.2.2.2.2
  refine ⟨⟨?_, ?_, ?_, ?_, ?_, ?_, ?_, ?_, ?_, ?_, ?_, ?_, ?_, ?_, ?_, ?_, ?_, ?_⟩, (by simp +decide only [gup_at, gnew_at, gup_2, gnew_2, gtell, Prod.mk.injEq, true_and, and_true, false_and, and_false, if_true, if_false, eq_self, and_self, hz5])⟩
  · exact (gI1_new9 hI.1 (gsz_n (m := 12) (hI.cnt 3 0 (by decide)) (Classical.not_not.mp h3)))
  · exact (gI2_f (fun _ _ _ => by simp +decide only [gup_at, gnew_at, gup_2, gnew_2, gtell, Prod.mk.injEq, true_and, and_true, false_and, and_false, if_true, if_false, eq_self, and_self]) (fun _ _ _ => by simp +decide only [gup_at, gnew_at, gup_2, gnew_2, gtell, Prod.mk.injEq, true_and, and_true, false_and, and_false, if_true, if_false, eq_self, and_self]) hI.2.1)
  · exact (gI3_f (Nat.le_succ n) (by omega) (by simp +decide only [gup_at, gnew_at, gup_2, gnew_2, gtell, Prod.mk.injEq, true_and, and_true, false_and, and_false, if_true, if_false, eq_self, and_self]) (by simp +decide only [gup_at, gnew_at, gup_2, gnew_2, gtell, Prod.mk.injEq, true_and, and_true, false_and, and_false, if_true, if_false, eq_self, and_self]) (fun _ _ _ => by simp +decide only [gup_at, gnew_at, gup_2, gnew_2, gtell, Prod.mk.injEq, true_and, and_true, false_and, and_false, if_true, if_false, eq_self, and_self]) hI.2.2.1)
  · exact (gI6_f (by simp +decide only [gup_at, gnew_at, gup_2, gnew_2, gtell, Prod.mk.injEq, true_and, and_true, false_and, and_false, if_true, if_false, eq_self, and_self]) (fun _ _ _ => by simp +decide only [gup_at, gnew_at, gup_2, gnew_2, gtell, Prod.mk.injEq, true_and, and_true, false_and, and_false, if_true, if_false, eq_self, and_self]) hI.2.2.2.1)
  · exact (gI8_f (by simp +decide only [gup_at, gnew_at, gup_2, gnew_2, gtell, Prod.mk.injEq, true_and, and_true, false_and, and_false, if_true, if_false, eq_self, and_self]) (by simp +decide only [gup_at, gnew_at, gup_2, gnew_2, gtell, Prod.mk.injEq, true_and, and_true, false_and, and_false, if_true, if_false, eq_self, and_self]) (fun _ _ _ => by simp +decide only [gup_at, gnew_at, gup_2, gnew_2, gtell, Prod.mk.injEq, true_and, and_true, false_and, and_false, if_true, if_false, eq_self, and_self]) hI.2.2.2.2.1)
  · exact (fun i hi => by
    have hi : i < C.2 10 0 := by simpa +decide only [gup_at, gnew_at, gup_2, gnew_2, gtell, Prod.mk.injEq, true_and, and_true, false_and, and_false, if_true, if_false, eq_self, and_self] using hi
    have h := hI.2.2.2.2.2.1 i hi
    simp +decide only [gup_at, gnew_at, gup_2, gnew_2, gtell, Prod.mk.injEq, true_and, and_true, false_and, and_false, if_true, if_false, eq_self, and_self]
    exact ⟨h.1, gix_up h.2.1 (by omega) (by have := hI.1.2.1; omega), h.2.2⟩)
  · exact (gI11_f (by simp +decide only [gup_at, gnew_at, gup_2, gnew_2, gtell, Prod.mk.injEq, true_and, and_true, false_and, and_false, if_true, if_false, eq_self, and_self]) (fun _ => by simp +decide only [gup_at, gnew_at, gup_2, gnew_2, gtell, Prod.mk.injEq, true_and, and_true, false_and, and_false, if_true, if_false, eq_self, and_self]) (fun _ _ _ => by simp +decide only [gup_at, gnew_at, gup_2, gnew_2, gtell, Prod.mk.injEq, true_and, and_true, false_and, and_false, if_true, if_false, eq_self, and_self]) (fun _ _ => by simp +decide only [gup_at, gnew_at, gup_2, gnew_2, gtell, Prod.mk.injEq, true_and, and_true, false_and, and_false, if_true, if_false, eq_self, and_self]) hI.2.2.2.2.2.2.1)
  · exact (gI13_f (by simp +decide only [gup_at, gnew_at, gup_2, gnew_2, gtell, Prod.mk.injEq, true_and, and_true, false_and, and_false, if_true, if_false, eq_self, and_self]) (fun _ => by simp +decide only [gup_at, gnew_at, gup_2, gnew_2, gtell, Prod.mk.injEq, true_and, and_true, false_and, and_false, if_true, if_false, eq_self, and_self]) (by simp +decide only [gup_at, gnew_at, gup_2, gnew_2, gtell, Prod.mk.injEq, true_and, and_true, false_and, and_false, if_true, if_false, eq_self, and_self]) (fun _ _ _ => by simp +decide only [gup_at, gnew_at, gup_2, gnew_2, gtell, Prod.mk.injEq, true_and, and_true, false_and, and_false, if_true, if_false, eq_self, and_self]) (fun _ => by simp +decide only [gup_at, gnew_at, gup_2, gnew_2, gtell, Prod.mk.injEq, true_and, and_true, false_and, and_false, if_true, if_false, eq_self, and_self]) (fun _ => by simp +decide only [gup_at, gnew_at, gup_2, gnew_2, gtell, Prod.mk.injEq, true_and, and_true, false_and, and_false, if_true, if_false, eq_self, and_self]) hI.2.2.2.2.2.2.2.1)
  · exact (gI12_f (by simp +decide only [gup_at, gnew_at, gup_2, gnew_2, gtell, Prod.mk.injEq, true_and, and_true, false_and, and_false, if_true, if_false, eq_self, and_self]) (fun _ _ _ => by simp +decide only [gup_at, gnew_at, gup_2, gnew_2, gtell, Prod.mk.injEq, true_and, and_true, false_and, and_false, if_true, if_false, eq_self, and_self]) hI.2.2.2.2.2.2.2.2.1)
  · exact (gmiss_f (by simp +decide only [gup_at, gnew_at, gup_2, gnew_2, gtell, Prod.mk.injEq, true_and, and_true, false_and, and_false, if_true, if_false, eq_self, and_self]) (by simp +decide only [gup_at, gnew_at, gup_2, gnew_2, gtell, Prod.mk.injEq, true_and, and_true, false_and, and_false, if_true, if_false, eq_self, and_self]) (by simp +decide only [gup_at, gnew_at, gup_2, gnew_2, gtell, Prod.mk.injEq, true_and, and_true, false_and, and_false, if_true, if_false, eq_self, and_self]) (by simp +decide only [gup_at, gnew_at, gup_2, gnew_2, gtell, Prod.mk.injEq, true_and, and_true, false_and, and_false, if_true, if_false, eq_self, and_self]) (fun _ => by simp +decide only [gup_at, gnew_at, gup_2, gnew_2, gtell, Prod.mk.injEq, true_and, and_true, false_and, and_false, if_true, if_false, eq_self, and_self]) (fun _ => by simp +decide only [gup_at, gnew_at, gup_2, gnew_2, gtell, Prod.mk.injEq, true_and, and_true, false_and, and_false, if_true, if_false, eq_self, and_self]) hI.2.2.2.2.2.2.2.2.2.1)
  · exact (fun i hi => by
        have hi : i < C.2 6 0 := by simpa +decide only [gup_at, gnew_at, gup_2, gnew_2, gtell, Prod.mk.injEq, true_and, and_true, false_and, and_false, if_true, if_false, eq_self, and_self] using hi
        simp +decide only [gup_at, gnew_at, gup_2, gnew_2, gtell, Prod.mk.injEq, true_and, and_true, false_and, and_false, if_true, if_false, eq_self, and_self]
        exact hx.1 i hi)
  · exact (fun i hi => by
        have hi : i < C.2 7 0 := by simpa +decide only [gup_at, gnew_at, gup_2, gnew_2, gtell, Prod.mk.injEq, true_and, and_true, false_and, and_false, if_true, if_false, eq_self, and_self] using hi
        simp +decide only [gup_at, gnew_at, gup_2, gnew_2, gtell, Prod.mk.injEq, true_and, and_true, false_and, and_false, if_true, if_false, eq_self, and_self]
        exact hx.2.1 i hi)
  · exact (fun i hi => by
        have hi : i < C.2 8 0 := by simpa +decide only [gup_at, gnew_at, gup_2, gnew_2, gtell, Prod.mk.injEq, true_and, and_true, false_and, and_false, if_true, if_false, eq_self, and_self] using hi
        simp +decide only [gup_at, gnew_at, gup_2, gnew_2, gtell, Prod.mk.injEq, true_and, and_true, false_and, and_false, if_true, if_false, eq_self, and_self]
        exact gin_up (hx.2.2.1 i hi) (by omega) (by omega))
  · exact (fun i hi => by
    have hi : i < C.2 9 0 + 1 := by simpa +decide only [gup_at, gnew_at, gup_2, gnew_2, gtell, Prod.mk.injEq, true_and, and_true, false_and, and_false, if_true, if_false, eq_self, and_self] using hi
    by_cases hq : i = C.2 9 0
    · subst hq
      simp +decide only [gup_at, gnew_at, gup_2, gnew_2, gtell, Prod.mk.injEq, true_and, and_true, false_and, and_false, if_true, if_false, eq_self, and_self]
      exact (Classical.not_not.mp (fun z => h2 (Or.inl z)))
    · have hi : i < C.2 9 0 := by omega
      have h := hx.2.2.2.1 i hi
      simp +decide only [gup_at, gnew_at, gup_2, gnew_2, gtell, Prod.mk.injEq, true_and, and_true, false_and, and_false, if_true, if_false, eq_self, and_self, hq]
      exact h)
  · exact (fun i hi => by
        have hi : i < C.2 10 0 := by simpa +decide only [gup_at, gnew_at, gup_2, gnew_2, gtell, Prod.mk.injEq, true_and, and_true, false_and, and_false, if_true, if_false, eq_self, and_self] using hi
        simp +decide only [gup_at, gnew_at, gup_2, gnew_2, gtell, Prod.mk.injEq, true_and, and_true, false_and, and_false, if_true, if_false, eq_self, and_self]
        exact hx.2.2.2.2.1 i hi)
  · exact (by simp +decide only [gup_at, gnew_at, gup_2, gnew_2, gtell, Prod.mk.injEq, true_and, and_true, false_and, and_false, if_true, if_false, eq_self, and_self]; exact hx.2.2.2.2.2.1)
  · exact (fun i hi => by
    have hi : i < C.2 9 0 + 1 := by simpa +decide only [gup_at, gnew_at, gup_2, gnew_2, gtell, Prod.mk.injEq, true_and, and_true, false_and, and_false, if_true, if_false, eq_self, and_self] using hi
    by_cases hq : i = C.2 9 0
    · subst hq
      simp +decide only [gup_at, gnew_at, gup_2, gnew_2, gtell, Prod.mk.injEq, true_and, and_true, false_and, and_false, if_true, if_false, eq_self, and_self]
      exact (by decide : gin 0 (0 : Int32) 30 = true)
    · have hi : i < C.2 9 0 := by omega
      have h := hx.2.2.2.2.2.2.1 i hi
      simp +decide only [gup_at, gnew_at, gup_2, gnew_2, gtell, Prod.mk.injEq, true_and, and_true, false_and, and_false, if_true, if_false, eq_self, and_self, hq]
      exact h)
  · exact (fun i hi => by
        have hi : i < C.2 8 0 := by simpa +decide only [gup_at, gnew_at, gup_2, gnew_2, gtell, Prod.mk.injEq, true_and, and_true, false_and, and_false, if_true, if_false, eq_self, and_self] using hi
        simp +decide only [gup_at, gnew_at, gup_2, gnew_2, gtell, Prod.mk.injEq, true_and, and_true, false_and, and_false, if_true, if_false, eq_self, and_self]
        exact hx.2.2.2.2.2.2.2 i hi)

theorem i_season {C : gG} {n : Nat} (hI : gI n C) (hn : n ≤ 512) (hz5 : C.1 (0, 0, 0) 5 = 0) (a : Int32) (b : Int32) : gok1 n (F_season C a b) := by
  unfold F_season
  by_cases h1 : ¬ gix (C.2 9 0) a = true
  · rw [if_pos h1]
    exact gok_thr hI hn _
  rw [if_neg h1]
  by_cases h2 : ¬ gin 1 b 200 = true
  · rw [if_pos h2]
    exact gok_thr hI hn _
  rw [if_neg h2]
  by_cases h3 : C.1 (0, 0, 0) 0 < C.1 (9, 0, a.toNatClampNeg) 5
  · rw [if_pos h3]
    exact gok_thr hI hn _
  rw [if_neg h3]
  have hx := hI.2.2.2.2.2.2.2.2.2.2
  refine ⟨⟨?_, ?_, ?_, ?_, ?_, ?_, ?_, ?_, ?_, ?_, ?_, ?_, ?_, ?_, ?_, ?_, ?_, ?_⟩, (by simp +decide only [gup_at, gnew_at, gup_2, gnew_2, gtell, Prod.mk.injEq, true_and, and_true, false_and, and_false, if_true, if_false, eq_self, and_self, hz5])⟩
  · exact hI.1
  · exact (gI2_f (fun _ _ _ => by simp +decide only [gup_at, gnew_at, gup_2, gnew_2, gtell, Prod.mk.injEq, true_and, and_true, false_and, and_false, if_true, if_false, eq_self, and_self]) (fun _ _ _ => by simp +decide only [gup_at, gnew_at, gup_2, gnew_2, gtell, Prod.mk.injEq, true_and, and_true, false_and, and_false, if_true, if_false, eq_self, and_self]) hI.2.1)
  · exact (gI3_f (Nat.le_succ n) (by omega) (by simp +decide only [gup_at, gnew_at, gup_2, gnew_2, gtell, Prod.mk.injEq, true_and, and_true, false_and, and_false, if_true, if_false, eq_self, and_self]) (by simp +decide only [gup_at, gnew_at, gup_2, gnew_2, gtell, Prod.mk.injEq, true_and, and_true, false_and, and_false, if_true, if_false, eq_self, and_self]) (fun _ _ _ => by simp +decide only [gup_at, gnew_at, gup_2, gnew_2, gtell, Prod.mk.injEq, true_and, and_true, false_and, and_false, if_true, if_false, eq_self, and_self]) hI.2.2.1)
  · exact (gI6_f (by simp +decide only [gup_at, gnew_at, gup_2, gnew_2, gtell, Prod.mk.injEq, true_and, and_true, false_and, and_false, if_true, if_false, eq_self, and_self]) (fun _ _ _ => by simp +decide only [gup_at, gnew_at, gup_2, gnew_2, gtell, Prod.mk.injEq, true_and, and_true, false_and, and_false, if_true, if_false, eq_self, and_self]) hI.2.2.2.1)
  · exact (gI8_f (by simp +decide only [gup_at, gnew_at, gup_2, gnew_2, gtell, Prod.mk.injEq, true_and, and_true, false_and, and_false, if_true, if_false, eq_self, and_self]) (by simp +decide only [gup_at, gnew_at, gup_2, gnew_2, gtell, Prod.mk.injEq, true_and, and_true, false_and, and_false, if_true, if_false, eq_self, and_self]) (fun _ _ _ => by simp +decide only [gup_at, gnew_at, gup_2, gnew_2, gtell, Prod.mk.injEq, true_and, and_true, false_and, and_false, if_true, if_false, eq_self, and_self]) hI.2.2.2.2.1)
  · exact (gI10_f (by simp +decide only [gup_at, gnew_at, gup_2, gnew_2, gtell, Prod.mk.injEq, true_and, and_true, false_and, and_false, if_true, if_false, eq_self, and_self]) (by simp +decide only [gup_at, gnew_at, gup_2, gnew_2, gtell, Prod.mk.injEq, true_and, and_true, false_and, and_false, if_true, if_false, eq_self, and_self]) (by simp +decide only [gup_at, gnew_at, gup_2, gnew_2, gtell, Prod.mk.injEq, true_and, and_true, false_and, and_false, if_true, if_false, eq_self, and_self]) (fun _ _ _ => by simp +decide only [gup_at, gnew_at, gup_2, gnew_2, gtell, Prod.mk.injEq, true_and, and_true, false_and, and_false, if_true, if_false, eq_self, and_self]) (fun _ => by simp +decide only [gup_at, gnew_at, gup_2, gnew_2, gtell, Prod.mk.injEq, true_and, and_true, false_and, and_false, if_true, if_false, eq_self, and_self]) hI.2.2.2.2.2.1)
  · exact (gI11_f (by simp +decide only [gup_at, gnew_at, gup_2, gnew_2, gtell, Prod.mk.injEq, true_and, and_true, false_and, and_false, if_true, if_false, eq_self, and_self]) (fun _ => by simp +decide only [gup_at, gnew_at, gup_2, gnew_2, gtell, Prod.mk.injEq, true_and, and_true, false_and, and_false, if_true, if_false, eq_self, and_self]) (fun _ _ _ => by simp +decide only [gup_at, gnew_at, gup_2, gnew_2, gtell, Prod.mk.injEq, true_and, and_true, false_and, and_false, if_true, if_false, eq_self, and_self]) (fun _ _ => by simp +decide only [gup_at, gnew_at, gup_2, gnew_2, gtell, Prod.mk.injEq, true_and, and_true, false_and, and_false, if_true, if_false, eq_self, and_self]) hI.2.2.2.2.2.2.1)
  · exact (gI13_f (by simp +decide only [gup_at, gnew_at, gup_2, gnew_2, gtell, Prod.mk.injEq, true_and, and_true, false_and, and_false, if_true, if_false, eq_self, and_self]) (fun _ => by simp +decide only [gup_at, gnew_at, gup_2, gnew_2, gtell, Prod.mk.injEq, true_and, and_true, false_and, and_false, if_true, if_false, eq_self, and_self]) (by simp +decide only [gup_at, gnew_at, gup_2, gnew_2, gtell, Prod.mk.injEq, true_and, and_true, false_and, and_false, if_true, if_false, eq_self, and_self]) (fun _ _ _ => by simp +decide only [gup_at, gnew_at, gup_2, gnew_2, gtell, Prod.mk.injEq, true_and, and_true, false_and, and_false, if_true, if_false, eq_self, and_self]) (fun _ => by simp +decide only [gup_at, gnew_at, gup_2, gnew_2, gtell, Prod.mk.injEq, true_and, and_true, false_and, and_false, if_true, if_false, eq_self, and_self]) (fun _ => by simp +decide only [gup_at, gnew_at, gup_2, gnew_2, gtell, Prod.mk.injEq, true_and, and_true, false_and, and_false, if_true, if_false, eq_self, and_self]) hI.2.2.2.2.2.2.2.1)
  · exact (gI12_f (by simp +decide only [gup_at, gnew_at, gup_2, gnew_2, gtell, Prod.mk.injEq, true_and, and_true, false_and, and_false, if_true, if_false, eq_self, and_self]) (fun _ _ _ => by simp +decide only [gup_at, gnew_at, gup_2, gnew_2, gtell, Prod.mk.injEq, true_and, and_true, false_and, and_false, if_true, if_false, eq_self, and_self]) hI.2.2.2.2.2.2.2.2.1)
  · exact (gmiss_f (by simp +decide only [gup_at, gnew_at, gup_2, gnew_2, gtell, Prod.mk.injEq, true_and, and_true, false_and, and_false, if_true, if_false, eq_self, and_self]) (by simp +decide only [gup_at, gnew_at, gup_2, gnew_2, gtell, Prod.mk.injEq, true_and, and_true, false_and, and_false, if_true, if_false, eq_self, and_self]) (by simp +decide only [gup_at, gnew_at, gup_2, gnew_2, gtell, Prod.mk.injEq, true_and, and_true, false_and, and_false, if_true, if_false, eq_self, and_self]) (by simp +decide only [gup_at, gnew_at, gup_2, gnew_2, gtell, Prod.mk.injEq, true_and, and_true, false_and, and_false, if_true, if_false, eq_self, and_self]) (fun _ => by simp +decide only [gup_at, gnew_at, gup_2, gnew_2, gtell, Prod.mk.injEq, true_and, and_true, false_and, and_false, if_true, if_false, eq_self, and_self]) (fun _ => by simp +decide only [gup_at, gnew_at, gup_2, gnew_2, gtell, Prod.mk.injEq, true_and, and_true, false_and, and_false, if_true, if_false, eq_self, and_self]) hI.2.2.2.2.2.2.2.2.2.1)
  · exact (fun i hi => by
        have hi : i < C.2 6 0 := by simpa +decide only [gup_at, gnew_at, gup_2, gnew_2, gtell, Prod.mk.injEq, true_and, and_true, false_and, and_false, if_true, if_false, eq_self, and_self] using hi
        simp +decide only [gup_at, gnew_at, gup_2, gnew_2, gtell, Prod.mk.injEq, true_and, and_true, false_and, and_false, if_true, if_false, eq_self, and_self]
        exact hx.1 i hi)
  · exact (fun i hi => by
        have hi : i < C.2 7 0 := by simpa +decide only [gup_at, gnew_at, gup_2, gnew_2, gtell, Prod.mk.injEq, true_and, and_true, false_and, and_false, if_true, if_false, eq_self, and_self] using hi
        simp +decide only [gup_at, gnew_at, gup_2, gnew_2, gtell, Prod.mk.injEq, true_and, and_true, false_and, and_false, if_true, if_false, eq_self, and_self]
        exact hx.2.1 i hi)
  · exact (fun i hi => by
        have hi : i < C.2 8 0 := by simpa +decide only [gup_at, gnew_at, gup_2, gnew_2, gtell, Prod.mk.injEq, true_and, and_true, false_and, and_false, if_true, if_false, eq_self, and_self] using hi
        simp +decide only [gup_at, gnew_at, gup_2, gnew_2, gtell, Prod.mk.injEq, true_and, and_true, false_and, and_false, if_true, if_false, eq_self, and_self]
        exact gin_up (hx.2.2.1 i hi) (by omega) (by omega))
  · exact (fun i hi => by
        have hi : i < C.2 9 0 := by simpa +decide only [gup_at, gnew_at, gup_2, gnew_2, gtell, Prod.mk.injEq, true_and, and_true, false_and, and_false, if_true, if_false, eq_self, and_self] using hi
        simp +decide only [gup_at, gnew_at, gup_2, gnew_2, gtell, Prod.mk.injEq, true_and, and_true, false_and, and_false, if_true, if_false, eq_self, and_self]
        exact hx.2.2.2.1 i hi)
  · exact (fun i hi => by
        have hi : i < C.2 10 0 := by simpa +decide only [gup_at, gnew_at, gup_2, gnew_2, gtell, Prod.mk.injEq, true_and, and_true, false_and, and_false, if_true, if_false, eq_self, and_self] using hi
        simp +decide only [gup_at, gnew_at, gup_2, gnew_2, gtell, Prod.mk.injEq, true_and, and_true, false_and, and_false, if_true, if_false, eq_self, and_self]
        exact hx.2.2.2.2.1 i hi)
  · exact (by simp +decide only [gup_at, gnew_at, gup_2, gnew_2, gtell, Prod.mk.injEq, true_and, and_true, false_and, and_false, if_true, if_false, eq_self, and_self]; exact hx.2.2.2.2.2.1)
  · exact (fun i hi => by
        have hi : i < C.2 9 0 := by simpa +decide only [gup_at, gnew_at, gup_2, gnew_2, gtell, Prod.mk.injEq, true_and, and_true, false_and, and_false, if_true, if_false, eq_self, and_self] using hi
        simp +decide only [gup_at, gnew_at, gup_2, gnew_2, gtell, Prod.mk.injEq, true_and, and_true, false_and, and_false, if_true, if_false, eq_self, and_self]
        exact hx.2.2.2.2.2.2.1 i hi)
  · exact (fun i hi => by
        have hi : i < C.2 8 0 := by simpa +decide only [gup_at, gnew_at, gup_2, gnew_2, gtell, Prod.mk.injEq, true_and, and_true, false_and, and_false, if_true, if_false, eq_self, and_self] using hi
        simp +decide only [gup_at, gnew_at, gup_2, gnew_2, gtell, Prod.mk.injEq, true_and, and_true, false_and, and_false, if_true, if_false, eq_self, and_self]
        exact hx.2.2.2.2.2.2.2 i hi)

theorem i_groove {C : gG} {n : Nat} (hI : gI n C) (hn : n ≤ 512) (hz5 : C.1 (0, 0, 0) 5 = 0) (a : Int32) (b : Int32) : gok1 n (F_groove C a b) := by
  unfold F_groove
  by_cases h1 : ¬ gix (C.2 9 0) a = true
  · rw [if_pos h1]
    exact gok_thr hI hn _
  rw [if_neg h1]
  by_cases h2 : ¬ gin 5 b 30 = true
  · rw [if_pos h2]
    exact gok_thr hI hn _
  rw [if_neg h2]
  by_cases h3 : C.1 (0, 0, 0) 0 < C.1 (9, 0, a.toNatClampNeg) 5 ∨ 10 < C.1 (9, 0, a.toNatClampNeg) 2 ∨ 0 < C.1 (9, 0, a.toNatClampNeg) 4
  · rw [if_pos h3]
    exact gok_thr hI hn _
  rw [if_neg h3]
  by_cases h4 : ¬ gmov C 4 2 = true
  · rw [if_pos h4]
    exact gok_thr hI hn _
  rw [if_neg h4]
  have hx := hI.2.2.2.2.2.2.2.2.2.2
  refine ⟨⟨?_, ?_, ?_, ?_, ?_, ?_, ?_, ?_, ?_, ?_, ?_, ?_, ?_, ?_, ?_, ?_, ?_, ?_⟩, (by simp +decide only [gup_at, gnew_at, gup_2, gnew_2, gtell, Prod.mk.injEq, true_and, and_true, false_and, and_false, if_true, if_false, eq_self, and_self, hz5])⟩
  · exact hI.1
  · exact (gI2_f (fun _ _ _ => by simp +decide only [gup_at, gnew_at, gup_2, gnew_2, gtell, Prod.mk.injEq, true_and, and_true, false_and, and_false, if_true, if_false, eq_self, and_self]) (fun _ _ _ => by simp +decide only [gup_at, gnew_at, gup_2, gnew_2, gtell, Prod.mk.injEq, true_and, and_true, false_and, and_false, if_true, if_false, eq_self, and_self]) hI.2.1)
  · exact (gI3_f (Nat.le_succ n) (by omega) (by simp +decide only [gup_at, gnew_at, gup_2, gnew_2, gtell, Prod.mk.injEq, true_and, and_true, false_and, and_false, if_true, if_false, eq_self, and_self]) (by simp +decide only [gup_at, gnew_at, gup_2, gnew_2, gtell, Prod.mk.injEq, true_and, and_true, false_and, and_false, if_true, if_false, eq_self, and_self]) (fun _ _ _ => by simp +decide only [gup_at, gnew_at, gup_2, gnew_2, gtell, Prod.mk.injEq, true_and, and_true, false_and, and_false, if_true, if_false, eq_self, and_self]) hI.2.2.1)
  · exact (gI6_f (by simp +decide only [gup_at, gnew_at, gup_2, gnew_2, gtell, Prod.mk.injEq, true_and, and_true, false_and, and_false, if_true, if_false, eq_self, and_self]) (fun _ _ _ => by simp +decide only [gup_at, gnew_at, gup_2, gnew_2, gtell, Prod.mk.injEq, true_and, and_true, false_and, and_false, if_true, if_false, eq_self, and_self]) hI.2.2.2.1)
  · exact (gI8_f (by simp +decide only [gup_at, gnew_at, gup_2, gnew_2, gtell, Prod.mk.injEq, true_and, and_true, false_and, and_false, if_true, if_false, eq_self, and_self]) (by simp +decide only [gup_at, gnew_at, gup_2, gnew_2, gtell, Prod.mk.injEq, true_and, and_true, false_and, and_false, if_true, if_false, eq_self, and_self]) (fun _ _ _ => by simp +decide only [gup_at, gnew_at, gup_2, gnew_2, gtell, Prod.mk.injEq, true_and, and_true, false_and, and_false, if_true, if_false, eq_self, and_self]) hI.2.2.2.2.1)
  · exact (gI10_f (by simp +decide only [gup_at, gnew_at, gup_2, gnew_2, gtell, Prod.mk.injEq, true_and, and_true, false_and, and_false, if_true, if_false, eq_self, and_self]) (by simp +decide only [gup_at, gnew_at, gup_2, gnew_2, gtell, Prod.mk.injEq, true_and, and_true, false_and, and_false, if_true, if_false, eq_self, and_self]) (by simp +decide only [gup_at, gnew_at, gup_2, gnew_2, gtell, Prod.mk.injEq, true_and, and_true, false_and, and_false, if_true, if_false, eq_self, and_self]) (fun _ _ _ => by simp +decide only [gup_at, gnew_at, gup_2, gnew_2, gtell, Prod.mk.injEq, true_and, and_true, false_and, and_false, if_true, if_false, eq_self, and_self]) (fun _ => by simp +decide only [gup_at, gnew_at, gup_2, gnew_2, gtell, Prod.mk.injEq, true_and, and_true, false_and, and_false, if_true, if_false, eq_self, and_self]) hI.2.2.2.2.2.1)
  · exact (gI11_f (by simp +decide only [gup_at, gnew_at, gup_2, gnew_2, gtell, Prod.mk.injEq, true_and, and_true, false_and, and_false, if_true, if_false, eq_self, and_self]) (fun _ => by simp +decide only [gup_at, gnew_at, gup_2, gnew_2, gtell, Prod.mk.injEq, true_and, and_true, false_and, and_false, if_true, if_false, eq_self, and_self]) (fun _ _ _ => by simp +decide only [gup_at, gnew_at, gup_2, gnew_2, gtell, Prod.mk.injEq, true_and, and_true, false_and, and_false, if_true, if_false, eq_self, and_self]) (fun _ _ => by simp +decide only [gup_at, gnew_at, gup_2, gnew_2, gtell, Prod.mk.injEq, true_and, and_true, false_and, and_false, if_true, if_false, eq_self, and_self]) hI.2.2.2.2.2.2.1)
  · exact (gI13_f (by simp +decide only [gup_at, gnew_at, gup_2, gnew_2, gtell, Prod.mk.injEq, true_and, and_true, false_and, and_false, if_true, if_false, eq_self, and_self]) (fun _ => by simp +decide only [gup_at, gnew_at, gup_2, gnew_2, gtell, Prod.mk.injEq, true_and, and_true, false_and, and_false, if_true, if_false, eq_self, and_self]) (by simp +decide only [gup_at, gnew_at, gup_2, gnew_2, gtell, Prod.mk.injEq, true_and, and_true, false_and, and_false, if_true, if_false, eq_self, and_self]) (fun _ _ _ => by simp +decide only [gup_at, gnew_at, gup_2, gnew_2, gtell, Prod.mk.injEq, true_and, and_true, false_and, and_false, if_true, if_false, eq_self, and_self]) (fun _ => by simp +decide only [gup_at, gnew_at, gup_2, gnew_2, gtell, Prod.mk.injEq, true_and, and_true, false_and, and_false, if_true, if_false, eq_self, and_self]) (fun _ => by simp +decide only [gup_at, gnew_at, gup_2, gnew_2, gtell, Prod.mk.injEq, true_and, and_true, false_and, and_false, if_true, if_false, eq_self, and_self]) hI.2.2.2.2.2.2.2.1)
  · exact (gI12_f (by simp +decide only [gup_at, gnew_at, gup_2, gnew_2, gtell, Prod.mk.injEq, true_and, and_true, false_and, and_false, if_true, if_false, eq_self, and_self]) (fun _ _ _ => by simp +decide only [gup_at, gnew_at, gup_2, gnew_2, gtell, Prod.mk.injEq, true_and, and_true, false_and, and_false, if_true, if_false, eq_self, and_self]) hI.2.2.2.2.2.2.2.2.1)
  · exact (gmiss_f (by simp +decide only [gup_at, gnew_at, gup_2, gnew_2, gtell, Prod.mk.injEq, true_and, and_true, false_and, and_false, if_true, if_false, eq_self, and_self]) (by simp +decide only [gup_at, gnew_at, gup_2, gnew_2, gtell, Prod.mk.injEq, true_and, and_true, false_and, and_false, if_true, if_false, eq_self, and_self]) (by simp +decide only [gup_at, gnew_at, gup_2, gnew_2, gtell, Prod.mk.injEq, true_and, and_true, false_and, and_false, if_true, if_false, eq_self, and_self]) (by simp +decide only [gup_at, gnew_at, gup_2, gnew_2, gtell, Prod.mk.injEq, true_and, and_true, false_and, and_false, if_true, if_false, eq_self, and_self]) (fun _ => by simp +decide only [gup_at, gnew_at, gup_2, gnew_2, gtell, Prod.mk.injEq, true_and, and_true, false_and, and_false, if_true, if_false, eq_self, and_self]) (fun _ => by simp +decide only [gup_at, gnew_at, gup_2, gnew_2, gtell, Prod.mk.injEq, true_and, and_true, false_and, and_false, if_true, if_false, eq_self, and_self]) hI.2.2.2.2.2.2.2.2.2.1)
  · exact (fun i hi => by
        have hi : i < C.2 6 0 := by simpa +decide only [gup_at, gnew_at, gup_2, gnew_2, gtell, Prod.mk.injEq, true_and, and_true, false_and, and_false, if_true, if_false, eq_self, and_self] using hi
        simp +decide only [gup_at, gnew_at, gup_2, gnew_2, gtell, Prod.mk.injEq, true_and, and_true, false_and, and_false, if_true, if_false, eq_self, and_self]
        exact hx.1 i hi)
  · exact (fun i hi => by
        have hi : i < C.2 7 0 := by simpa +decide only [gup_at, gnew_at, gup_2, gnew_2, gtell, Prod.mk.injEq, true_and, and_true, false_and, and_false, if_true, if_false, eq_self, and_self] using hi
        simp +decide only [gup_at, gnew_at, gup_2, gnew_2, gtell, Prod.mk.injEq, true_and, and_true, false_and, and_false, if_true, if_false, eq_self, and_self]
        exact hx.2.1 i hi)
  · exact (fun i hi => by
        have hi : i < C.2 8 0 := by simpa +decide only [gup_at, gnew_at, gup_2, gnew_2, gtell, Prod.mk.injEq, true_and, and_true, false_and, and_false, if_true, if_false, eq_self, and_self] using hi
        simp +decide only [gup_at, gnew_at, gup_2, gnew_2, gtell, Prod.mk.injEq, true_and, and_true, false_and, and_false, if_true, if_false, eq_self, and_self]
        exact gin_up (hx.2.2.1 i hi) (by omega) (by omega))
  · exact (fun i hi => by
        have hi : i < C.2 9 0 := by simpa +decide only [gup_at, gnew_at, gup_2, gnew_2, gtell, Prod.mk.injEq, true_and, and_true, false_and, and_false, if_true, if_false, eq_self, and_self] using hi
        simp +decide only [gup_at, gnew_at, gup_2, gnew_2, gtell, Prod.mk.injEq, true_and, and_true, false_and, and_false, if_true, if_false, eq_self, and_self]
        exact hx.2.2.2.1 i hi)
  · exact (fun i hi => by
        have hi : i < C.2 10 0 := by simpa +decide only [gup_at, gnew_at, gup_2, gnew_2, gtell, Prod.mk.injEq, true_and, and_true, false_and, and_false, if_true, if_false, eq_self, and_self] using hi
        simp +decide only [gup_at, gnew_at, gup_2, gnew_2, gtell, Prod.mk.injEq, true_and, and_true, false_and, and_false, if_true, if_false, eq_self, and_self]
        exact hx.2.2.2.2.1 i hi)
  · exact (by simp +decide only [gup_at, gnew_at, gup_2, gnew_2, gtell, Prod.mk.injEq, true_and, and_true, false_and, and_false, if_true, if_false, eq_self, and_self]; exact hx.2.2.2.2.2.1)
  · exact (fun i hi => by
    have hi : i < C.2 9 0 := by simpa +decide only [gup_at, gnew_at, gup_2, gnew_2, gtell, Prod.mk.injEq, true_and, and_true, false_and, and_false, if_true, if_false, eq_self, and_self] using hi
    have h := hx.2.2.2.2.2.2.1 i hi
    by_cases hq : i = a.toNatClampNeg
    · subst hq
      simp +decide only [gup_at, gnew_at, gup_2, gnew_2, gtell, Prod.mk.injEq, true_and, and_true, false_and, and_false, if_true, if_false, eq_self, and_self]
      exact ga_5 (Classical.not_not.mp h2)
    · simp +decide only [gup_at, gnew_at, gup_2, gnew_2, gtell, Prod.mk.injEq, true_and, and_true, false_and, and_false, if_true, if_false, eq_self, and_self, hq]
      exact h)
  · exact (fun i hi => by
        have hi : i < C.2 8 0 := by simpa +decide only [gup_at, gnew_at, gup_2, gnew_2, gtell, Prod.mk.injEq, true_and, and_true, false_and, and_false, if_true, if_false, eq_self, and_self] using hi
        simp +decide only [gup_at, gnew_at, gup_2, gnew_2, gtell, Prod.mk.injEq, true_and, and_true, false_and, and_false, if_true, if_false, eq_self, and_self]
        exact hx.2.2.2.2.2.2.2 i hi)

theorem i_lay {C : gG} {n : Nat} (hI : gI n C) (hn : n ≤ 512) (hz5 : C.1 (0, 0, 0) 5 = 0) (a : Int32) (b : Int32) (c : Int32) (d : Int32) (e : Int32) : gok1 n (F_lay C a b c d e) := by
  unfold F_lay
  by_cases h1 : ¬ gix (C.2 8 0) a = true
  · rw [if_pos h1]
    exact gok_thr hI hn _
  rw [if_neg h1]
  by_cases h2 : ¬ gix (C.2 9 0) b = true
  · rw [if_pos h2]
    exact gok_thr hI hn _
  rw [if_neg h2]
  by_cases h3 : gper c < 1 ∨ ¬ gin 1 d 500 = true ∨ ¬ gin 0 e 9 = true
  · rw [if_pos h3]
    exact gok_thr hI hn _
  rw [if_neg h3]
  by_cases h4 : C.1 (8, 0, a.toNatClampNeg) 6 < 0 ∨ C.1 (0, 0, 0) 0 < C.1 (8, 0, a.toNatClampNeg) 4 ∨ C.1 (0, 0, 0) 0 < C.1 (9, 0, b.toNatClampNeg) 5 ∨ ¬ 0 < C.1 (9, 0, b.toNatClampNeg) 4
  · rw [if_pos h4]
    exact gok_thr hI hn _
  rw [if_neg h4]
  by_cases h5 : 2 < gabs (2 * C.1 (9, 0, b.toNatClampNeg) 4 - C.1 (8, 0, a.toNatClampNeg) 3)
  · rw [if_pos h5]
    exact gok_thr hI hn _
  rw [if_neg h5]
  by_cases h6 : C.1 (8, 0, a.toNatClampNeg) 1 < d ∨ C.1 (9, 0, b.toNatClampNeg) 3 < (d + gper c - 1) / gper c * 2
  · rw [if_pos h6]
    exact gok_thr hI hn _
  rw [if_neg h6]
  by_cases h7 : ¬ Int32.ofNat (C.2 10 0) < 16
  · rw [if_pos h7]
    exact gok_thr hI hn _
  rw [if_neg h7]
  have hx := hI.2.2.2.2.2.2.2.2.2.2
  refine ⟨⟨?_, ?_, ?_, ?_, ?_, ?_, ?_, ?_, ?_, ?_, ?_, ?_, ?_, ?_, ?_, ?_, ?_, ?_⟩, (by simp +decide only [gup_at, gnew_at, gup_2, gnew_2, gtell, Prod.mk.injEq, true_and, and_true, false_and, and_false, if_true, if_false, eq_self, and_self, hz5])⟩
  · exact (gI1_new10 (C := gup (gup (gup C _ _ _) _ _ _) _ _ _) hI.1 (gsz_n (m := 16) (hI.cnt 4 0 (by decide)) (Classical.not_not.mp h7)))
  · exact (gI2_f (fun _ _ _ => by simp +decide only [gup_at, gnew_at, gup_2, gnew_2, gtell, Prod.mk.injEq, true_and, and_true, false_and, and_false, if_true, if_false, eq_self, and_self]) (fun _ _ _ => by simp +decide only [gup_at, gnew_at, gup_2, gnew_2, gtell, Prod.mk.injEq, true_and, and_true, false_and, and_false, if_true, if_false, eq_self, and_self]) hI.2.1)
  · exact (gI3_f (Nat.le_succ n) (by omega) (by simp +decide only [gup_at, gnew_at, gup_2, gnew_2, gtell, Prod.mk.injEq, true_and, and_true, false_and, and_false, if_true, if_false, eq_self, and_self]) (by simp +decide only [gup_at, gnew_at, gup_2, gnew_2, gtell, Prod.mk.injEq, true_and, and_true, false_and, and_false, if_true, if_false, eq_self, and_self]) (fun _ _ _ => by simp +decide only [gup_at, gnew_at, gup_2, gnew_2, gtell, Prod.mk.injEq, true_and, and_true, false_and, and_false, if_true, if_false, eq_self, and_self]) hI.2.2.1)
  · exact (gI6_f (by simp +decide only [gup_at, gnew_at, gup_2, gnew_2, gtell, Prod.mk.injEq, true_and, and_true, false_and, and_false, if_true, if_false, eq_self, and_self]) (fun _ _ _ => by simp +decide only [gup_at, gnew_at, gup_2, gnew_2, gtell, Prod.mk.injEq, true_and, and_true, false_and, and_false, if_true, if_false, eq_self, and_self]) hI.2.2.2.1)
  · exact (fun i hi => by
    have hi : i < C.2 8 0 := by simpa +decide only [gup_at, gnew_at, gup_2, gnew_2, gtell, Prod.mk.injEq, true_and, and_true, false_and, and_false, if_true, if_false, eq_self, and_self] using hi
    have h := hI.2.2.2.2.1 i hi
    by_cases hq : i = a.toNatClampNeg
    · subst hq
      simp +decide only [gup_at, gnew_at, gup_2, gnew_2, gtell, Prod.mk.injEq, true_and, and_true, false_and, and_false, if_true, if_false, eq_self, and_self]
      exact h
    · simp +decide only [gup_at, gnew_at, gup_2, gnew_2, gtell, Prod.mk.injEq, true_and, and_true, false_and, and_false, if_true, if_false, eq_self, and_self, hq]
      exact h)
  · exact (fun i hi => by
    have hi : i < C.2 10 0 + 1 := by simpa +decide only [gup_at, gnew_at, gup_2, gnew_2, gtell, Prod.mk.injEq, true_and, and_true, false_and, and_false, if_true, if_false, eq_self, and_self] using hi
    by_cases hq : i = C.2 10 0
    · subst hq
      simp +decide only [gup_at, gnew_at, gup_2, gnew_2, gtell, Prod.mk.injEq, true_and, and_true, false_and, and_false, if_true, if_false, eq_self, and_self]
      exact ⟨(Classical.not_not.mp h1), (Classical.not_not.mp h2), ga_1 (Classical.not_not.mp (fun z => h3 (Or.inr (Or.inl z)))), (gin_iff.mp (Classical.not_not.mp (fun z => h3 (Or.inr (Or.inl z))))).2, (by decide : ¬ (-1 : Int32) < -1), (by decide : ¬ 8 < (0 : Int32)), (fun z => h4 (Or.inl z)), Or.inl rfl⟩
    · have hi : i < C.2 10 0 := by omega
      have h := hI.2.2.2.2.2.1 i hi
      simp +decide only [gup_at, gnew_at, gup_2, gnew_2, gtell, Prod.mk.injEq, true_and, and_true, false_and, and_false, if_true, if_false, eq_self, and_self, hq]
      exact h)
  · exact (gI11_f (by simp +decide only [gup_at, gnew_at, gup_2, gnew_2, gtell, Prod.mk.injEq, true_and, and_true, false_and, and_false, if_true, if_false, eq_self, and_self]) (fun _ => by simp +decide only [gup_at, gnew_at, gup_2, gnew_2, gtell, Prod.mk.injEq, true_and, and_true, false_and, and_false, if_true, if_false, eq_self, and_self]) (fun _ _ _ => by simp +decide only [gup_at, gnew_at, gup_2, gnew_2, gtell, Prod.mk.injEq, true_and, and_true, false_and, and_false, if_true, if_false, eq_self, and_self]) (fun _ _ => by simp +decide only [gup_at, gnew_at, gup_2, gnew_2, gtell, Prod.mk.injEq, true_and, and_true, false_and, and_false, if_true, if_false, eq_self, and_self]) hI.2.2.2.2.2.2.1)
  · exact (fun i j hi hj => by
    have hi : i < C.2 11 0 := by simpa +decide only [gup_at, gnew_at, gup_2, gnew_2, gtell, Prod.mk.injEq, true_and, and_true, false_and, and_false, if_true, if_false, eq_self, and_self] using hi
    have hj : j < C.2 13 i := by simpa +decide only [gup_at, gnew_at, gup_2, gnew_2, gtell, Prod.mk.injEq, true_and, and_true, false_and, and_false, if_true, if_false, eq_self, and_self] using hj
    have h := hI.2.2.2.2.2.2.2.1 i j hi hj
    have hne : ¬ (C.1 (13, i, j) 0).toNatClampNeg = C.2 10 0 := Nat.ne_of_lt (gix_lt (Nat.le_trans (hI.cnt 4 0 (by decide)) (by decide)) h.1)
    simp +decide only [gup_at, gnew_at, gup_2, gnew_2, gtell, Prod.mk.injEq, true_and, and_true, false_and, and_false, if_true, if_false, eq_self, and_self, hne]
    exact ⟨gix_up h.1 (by omega) (by have := hI.1.2.1; omega), h.2⟩)
  · exact (gI12_f (by simp +decide only [gup_at, gnew_at, gup_2, gnew_2, gtell, Prod.mk.injEq, true_and, and_true, false_and, and_false, if_true, if_false, eq_self, and_self]) (fun _ _ _ => by simp +decide only [gup_at, gnew_at, gup_2, gnew_2, gtell, Prod.mk.injEq, true_and, and_true, false_and, and_false, if_true, if_false, eq_self, and_self]) hI.2.2.2.2.2.2.2.2.1)
  · exact (by
    have h := hI.2.2.2.2.2.2.2.2.2.1
    unfold gmiss at h ⊢
    have e : gsum (fun i => (gnew (gup (gup (gup C (8, 0, a.toNatClampNeg) 1 (C.1 (8, 0, a.toNatClampNeg) 1 - d)) (9, 0, b.toNatClampNeg) 3 (C.1 (9, 0, b.toNatClampNeg) 3 - (d + gper c - 1) / gper c * 2)) (0, 0, 0) 3 (C.1 (0, 0, 0) 3 + d)) (10, 0, C.2 10 0) (glist [a, b, e, d, 0, gabs (2 * C.1 (9, 0, b.toNatClampNeg) 4 - C.1 (8, 0, a.toNatClampNeg) 3) + C.1 (9, 0, b.toNatClampNeg) 1 / 4, C.1 (0, 0, 0) 0 + 6, 0, -1, -1, 0])).1 (10, 0, i) 3) (C.2 10 0 + 1) = gsum (fun i => C.1 (10, 0, i) 3) (C.2 10 0) + d := by
      rw [gsum_1]
      refine congr (congrArg _ (gsum_c fun i hi => ?_)) ?_
      · have hne : ¬ i = C.2 10 0 := by omega
        simp +decide only [gup_at, gnew_at, gup_2, gnew_2, gtell, Prod.mk.injEq, true_and, and_true, false_and, and_false, if_true, if_false, eq_self, and_self, hne]
      · simp +decide only [gup_at, gnew_at, gup_2, gnew_2, gtell, Prod.mk.injEq, true_and, and_true, false_and, and_false, if_true, if_false, eq_self, and_self]
        rfl
    simp +decide only [gnew_2, gup_2, if_true, if_false, and_self, false_and, true_and, and_true]
    rw [e]
    simp +decide only [gup_at, gnew_at, gup_2, gnew_2, gtell, Prod.mk.injEq, true_and, and_true, false_and, and_false, if_true, if_false, eq_self, and_self]
    exact gm_lay _ _ _ _ _ h)
  · exact (fun i hi => by
        have hi : i < C.2 6 0 := by simpa +decide only [gup_at, gnew_at, gup_2, gnew_2, gtell, Prod.mk.injEq, true_and, and_true, false_and, and_false, if_true, if_false, eq_self, and_self] using hi
        simp +decide only [gup_at, gnew_at, gup_2, gnew_2, gtell, Prod.mk.injEq, true_and, and_true, false_and, and_false, if_true, if_false, eq_self, and_self]
        exact hx.1 i hi)
  · exact (fun i hi => by
        have hi : i < C.2 7 0 := by simpa +decide only [gup_at, gnew_at, gup_2, gnew_2, gtell, Prod.mk.injEq, true_and, and_true, false_and, and_false, if_true, if_false, eq_self, and_self] using hi
        simp +decide only [gup_at, gnew_at, gup_2, gnew_2, gtell, Prod.mk.injEq, true_and, and_true, false_and, and_false, if_true, if_false, eq_self, and_self]
        exact hx.2.1 i hi)
  · exact (fun i hi => by
        have hi : i < C.2 8 0 := by simpa +decide only [gup_at, gnew_at, gup_2, gnew_2, gtell, Prod.mk.injEq, true_and, and_true, false_and, and_false, if_true, if_false, eq_self, and_self] using hi
        simp +decide only [gup_at, gnew_at, gup_2, gnew_2, gtell, Prod.mk.injEq, true_and, and_true, false_and, and_false, if_true, if_false, eq_self, and_self]
        exact gin_up (hx.2.2.1 i hi) (by omega) (by omega))
  · exact (fun i hi => by
        have hi : i < C.2 9 0 := by simpa +decide only [gup_at, gnew_at, gup_2, gnew_2, gtell, Prod.mk.injEq, true_and, and_true, false_and, and_false, if_true, if_false, eq_self, and_self] using hi
        simp +decide only [gup_at, gnew_at, gup_2, gnew_2, gtell, Prod.mk.injEq, true_and, and_true, false_and, and_false, if_true, if_false, eq_self, and_self]
        exact hx.2.2.2.1 i hi)
  · exact (fun i hi => by
    have hi : i < C.2 10 0 + 1 := by simpa +decide only [gup_at, gnew_at, gup_2, gnew_2, gtell, Prod.mk.injEq, true_and, and_true, false_and, and_false, if_true, if_false, eq_self, and_self] using hi
    by_cases hq : i = C.2 10 0
    · subst hq
      simp +decide only [gup_at, gnew_at, gup_2, gnew_2, gtell, Prod.mk.injEq, true_and, and_true, false_and, and_false, if_true, if_false, eq_self, and_self]
      exact ga_off h5 (hx.2.2.2.1 _ (gix_lt (Nat.le_trans (hI.cnt 3 0 (by decide)) (by decide)) (Classical.not_not.mp h2))) (hx.2.2.2.2.2.2.1 _ (gix_lt (Nat.le_trans (hI.cnt 3 0 (by decide)) (by decide)) (Classical.not_not.mp h2))) (hx.2.2.2.2.2.2.2 _ (gix_lt (Nat.le_trans (hI.cnt 2 0 (by decide)) (by decide)) (Classical.not_not.mp h1)))
    · have hi : i < C.2 10 0 := by omega
      have h := hx.2.2.2.2.1 i hi
      simp +decide only [gup_at, gnew_at, gup_2, gnew_2, gtell, Prod.mk.injEq, true_and, and_true, false_and, and_false, if_true, if_false, eq_self, and_self, hq]
      exact h)
  · exact (by simp +decide only [gup_at, gnew_at, gup_2, gnew_2, gtell, Prod.mk.injEq, true_and, and_true, false_and, and_false, if_true, if_false, eq_self, and_self]; exact hx.2.2.2.2.2.1)
  · exact (fun i hi => by
        have hi : i < C.2 9 0 := by simpa +decide only [gup_at, gnew_at, gup_2, gnew_2, gtell, Prod.mk.injEq, true_and, and_true, false_and, and_false, if_true, if_false, eq_self, and_self] using hi
        simp +decide only [gup_at, gnew_at, gup_2, gnew_2, gtell, Prod.mk.injEq, true_and, and_true, false_and, and_false, if_true, if_false, eq_self, and_self]
        exact hx.2.2.2.2.2.2.1 i hi)
  · exact (fun i hi => by
        have hi : i < C.2 8 0 := by simpa +decide only [gup_at, gnew_at, gup_2, gnew_2, gtell, Prod.mk.injEq, true_and, and_true, false_and, and_false, if_true, if_false, eq_self, and_self] using hi
        simp +decide only [gup_at, gnew_at, gup_2, gnew_2, gtell, Prod.mk.injEq, true_and, and_true, false_and, and_false, if_true, if_false, eq_self, and_self]
        exact hx.2.2.2.2.2.2.2 i hi)

theorem i_coat {C : gG} {n : Nat} (hI : gI n C) (hn : n ≤ 512) (hz5 : C.1 (0, 0, 0) 5 = 0) (a : Int32) (b : Int32) : gok1 n (F_coat C a b) := by
  unfold F_coat
  by_cases h1 : ¬ gix (C.2 10 0) a = true
  · rw [if_pos h1]
    exact gok_thr hI hn _
  rw [if_neg h1]
  by_cases h2 : ¬ gin 0 b 9 = true
  · rw [if_pos h2]
    exact gok_thr hI hn _
  rw [if_neg h2]
  by_cases h3 : C.1 (0, 0, 0) 0 < C.1 (10, 0, a.toNatClampNeg) 6 ∨ ¬ C.1 (10, 0, a.toNatClampNeg) 7 < 8
  · rw [if_pos h3]
    exact gok_thr hI hn _
  rw [if_neg h3]
  by_cases h4 : ¬ gmov C 4 3 = true
  · rw [if_pos h4]
    exact gok_thr hI hn _
  rw [if_neg h4]
  have hx := hI.2.2.2.2.2.2.2.2.2.2
  refine ⟨⟨?_, ?_, ?_, ?_, ?_, ?_, ?_, ?_, ?_, ?_, ?_, ?_, ?_, ?_, ?_, ?_, ?_, ?_⟩, (by simp +decide only [gup_at, gnew_at, gup_2, gnew_2, gtell, Prod.mk.injEq, true_and, and_true, false_and, and_false, if_true, if_false, eq_self, and_self, hz5])⟩
  · exact hI.1
  · exact (gI2_f (fun _ _ _ => by simp +decide only [gup_at, gnew_at, gup_2, gnew_2, gtell, Prod.mk.injEq, true_and, and_true, false_and, and_false, if_true, if_false, eq_self, and_self]) (fun _ _ _ => by simp +decide only [gup_at, gnew_at, gup_2, gnew_2, gtell, Prod.mk.injEq, true_and, and_true, false_and, and_false, if_true, if_false, eq_self, and_self]) hI.2.1)
  · exact (gI3_f (Nat.le_succ n) (by omega) (by simp +decide only [gup_at, gnew_at, gup_2, gnew_2, gtell, Prod.mk.injEq, true_and, and_true, false_and, and_false, if_true, if_false, eq_self, and_self]) (by simp +decide only [gup_at, gnew_at, gup_2, gnew_2, gtell, Prod.mk.injEq, true_and, and_true, false_and, and_false, if_true, if_false, eq_self, and_self]) (fun _ _ _ => by simp +decide only [gup_at, gnew_at, gup_2, gnew_2, gtell, Prod.mk.injEq, true_and, and_true, false_and, and_false, if_true, if_false, eq_self, and_self]) hI.2.2.1)
  · exact (gI6_f (by simp +decide only [gup_at, gnew_at, gup_2, gnew_2, gtell, Prod.mk.injEq, true_and, and_true, false_and, and_false, if_true, if_false, eq_self, and_self]) (fun _ _ _ => by simp +decide only [gup_at, gnew_at, gup_2, gnew_2, gtell, Prod.mk.injEq, true_and, and_true, false_and, and_false, if_true, if_false, eq_self, and_self]) hI.2.2.2.1)
  · exact (gI8_f (by simp +decide only [gup_at, gnew_at, gup_2, gnew_2, gtell, Prod.mk.injEq, true_and, and_true, false_and, and_false, if_true, if_false, eq_self, and_self]) (by simp +decide only [gup_at, gnew_at, gup_2, gnew_2, gtell, Prod.mk.injEq, true_and, and_true, false_and, and_false, if_true, if_false, eq_self, and_self]) (fun _ _ _ => by simp +decide only [gup_at, gnew_at, gup_2, gnew_2, gtell, Prod.mk.injEq, true_and, and_true, false_and, and_false, if_true, if_false, eq_self, and_self]) hI.2.2.2.2.1)
  · exact (fun i hi => by
    have hi : i < C.2 10 0 := by simpa +decide only [gup_at, gnew_at, gup_2, gnew_2, gtell, Prod.mk.injEq, true_and, and_true, false_and, and_false, if_true, if_false, eq_self, and_self] using hi
    have h := hI.2.2.2.2.2.1 i hi
    by_cases hq : i = a.toNatClampNeg
    · subst hq
      simp +decide only [gup_at, gnew_at, gup_2, gnew_2, gtell, Prod.mk.injEq, true_and, and_true, false_and, and_false, if_true, if_false, eq_self, and_self]
      exact ⟨h.1, h.2.1, h.2.2.1, h.2.2.2.1, h.2.2.2.2.1, ga_coat (Classical.not_not.mp (fun z => h3 (Or.inr z))), h.2.2.2.2.2.2⟩
    · simp +decide only [gup_at, gnew_at, gup_2, gnew_2, gtell, Prod.mk.injEq, true_and, and_true, false_and, and_false, if_true, if_false, eq_self, and_self, hq]
      exact h)
  · exact (gI11_f (by simp +decide only [gup_at, gnew_at, gup_2, gnew_2, gtell, Prod.mk.injEq, true_and, and_true, false_and, and_false, if_true, if_false, eq_self, and_self]) (fun _ => by simp +decide only [gup_at, gnew_at, gup_2, gnew_2, gtell, Prod.mk.injEq, true_and, and_true, false_and, and_false, if_true, if_false, eq_self, and_self]) (fun _ _ _ => by simp +decide only [gup_at, gnew_at, gup_2, gnew_2, gtell, Prod.mk.injEq, true_and, and_true, false_and, and_false, if_true, if_false, eq_self, and_self]) (fun _ _ => by simp +decide only [gup_at, gnew_at, gup_2, gnew_2, gtell, Prod.mk.injEq, true_and, and_true, false_and, and_false, if_true, if_false, eq_self, and_self]) hI.2.2.2.2.2.2.1)
  · exact (gI13_f (by simp +decide only [gup_at, gnew_at, gup_2, gnew_2, gtell, Prod.mk.injEq, true_and, and_true, false_and, and_false, if_true, if_false, eq_self, and_self]) (fun _ => by simp +decide only [gup_at, gnew_at, gup_2, gnew_2, gtell, Prod.mk.injEq, true_and, and_true, false_and, and_false, if_true, if_false, eq_self, and_self]) (by simp +decide only [gup_at, gnew_at, gup_2, gnew_2, gtell, Prod.mk.injEq, true_and, and_true, false_and, and_false, if_true, if_false, eq_self, and_self]) (fun _ _ _ => by simp +decide only [gup_at, gnew_at, gup_2, gnew_2, gtell, Prod.mk.injEq, true_and, and_true, false_and, and_false, if_true, if_false, eq_self, and_self]) (fun _ => by simp +decide only [gup_at, gnew_at, gup_2, gnew_2, gtell, Prod.mk.injEq, true_and, and_true, false_and, and_false, if_true, if_false, eq_self, and_self]) (fun _ => by simp +decide only [gup_at, gnew_at, gup_2, gnew_2, gtell, Prod.mk.injEq, true_and, and_true, false_and, and_false, if_true, if_false, eq_self, and_self]) hI.2.2.2.2.2.2.2.1)
  · exact (gI12_f (by simp +decide only [gup_at, gnew_at, gup_2, gnew_2, gtell, Prod.mk.injEq, true_and, and_true, false_and, and_false, if_true, if_false, eq_self, and_self]) (fun _ _ _ => by simp +decide only [gup_at, gnew_at, gup_2, gnew_2, gtell, Prod.mk.injEq, true_and, and_true, false_and, and_false, if_true, if_false, eq_self, and_self]) hI.2.2.2.2.2.2.2.2.1)
  · exact (gmiss_f (by simp +decide only [gup_at, gnew_at, gup_2, gnew_2, gtell, Prod.mk.injEq, true_and, and_true, false_and, and_false, if_true, if_false, eq_self, and_self]) (by simp +decide only [gup_at, gnew_at, gup_2, gnew_2, gtell, Prod.mk.injEq, true_and, and_true, false_and, and_false, if_true, if_false, eq_self, and_self]) (by simp +decide only [gup_at, gnew_at, gup_2, gnew_2, gtell, Prod.mk.injEq, true_and, and_true, false_and, and_false, if_true, if_false, eq_self, and_self]) (by simp +decide only [gup_at, gnew_at, gup_2, gnew_2, gtell, Prod.mk.injEq, true_and, and_true, false_and, and_false, if_true, if_false, eq_self, and_self]) (fun _ => by simp +decide only [gup_at, gnew_at, gup_2, gnew_2, gtell, Prod.mk.injEq, true_and, and_true, false_and, and_false, if_true, if_false, eq_self, and_self]) (fun _ => by simp +decide only [gup_at, gnew_at, gup_2, gnew_2, gtell, Prod.mk.injEq, true_and, and_true, false_and, and_false, if_true, if_false, eq_self, and_self]) hI.2.2.2.2.2.2.2.2.2.1)
  · exact (fun i hi => by
        have hi : i < C.2 6 0 := by simpa +decide only [gup_at, gnew_at, gup_2, gnew_2, gtell, Prod.mk.injEq, true_and, and_true, false_and, and_false, if_true, if_false, eq_self, and_self] using hi
        simp +decide only [gup_at, gnew_at, gup_2, gnew_2, gtell, Prod.mk.injEq, true_and, and_true, false_and, and_false, if_true, if_false, eq_self, and_self]
        exact hx.1 i hi)
  · exact (fun i hi => by
        have hi : i < C.2 7 0 := by simpa +decide only [gup_at, gnew_at, gup_2, gnew_2, gtell, Prod.mk.injEq, true_and, and_true, false_and, and_false, if_true, if_false, eq_self, and_self] using hi
        simp +decide only [gup_at, gnew_at, gup_2, gnew_2, gtell, Prod.mk.injEq, true_and, and_true, false_and, and_false, if_true, if_false, eq_self, and_self]
        exact hx.2.1 i hi)
  · exact (fun i hi => by
        have hi : i < C.2 8 0 := by simpa +decide only [gup_at, gnew_at, gup_2, gnew_2, gtell, Prod.mk.injEq, true_and, and_true, false_and, and_false, if_true, if_false, eq_self, and_self] using hi
        simp +decide only [gup_at, gnew_at, gup_2, gnew_2, gtell, Prod.mk.injEq, true_and, and_true, false_and, and_false, if_true, if_false, eq_self, and_self]
        exact gin_up (hx.2.2.1 i hi) (by omega) (by omega))
  · exact (fun i hi => by
        have hi : i < C.2 9 0 := by simpa +decide only [gup_at, gnew_at, gup_2, gnew_2, gtell, Prod.mk.injEq, true_and, and_true, false_and, and_false, if_true, if_false, eq_self, and_self] using hi
        simp +decide only [gup_at, gnew_at, gup_2, gnew_2, gtell, Prod.mk.injEq, true_and, and_true, false_and, and_false, if_true, if_false, eq_self, and_self]
        exact hx.2.2.2.1 i hi)
  · exact (fun i hi => by
        have hi : i < C.2 10 0 := by simpa +decide only [gup_at, gnew_at, gup_2, gnew_2, gtell, Prod.mk.injEq, true_and, and_true, false_and, and_false, if_true, if_false, eq_self, and_self] using hi
        simp +decide only [gup_at, gnew_at, gup_2, gnew_2, gtell, Prod.mk.injEq, true_and, and_true, false_and, and_false, if_true, if_false, eq_self, and_self]
        exact hx.2.2.2.2.1 i hi)
  · exact (by simp +decide only [gup_at, gnew_at, gup_2, gnew_2, gtell, Prod.mk.injEq, true_and, and_true, false_and, and_false, if_true, if_false, eq_self, and_self]; exact hx.2.2.2.2.2.1)
  · exact (fun i hi => by
        have hi : i < C.2 9 0 := by simpa +decide only [gup_at, gnew_at, gup_2, gnew_2, gtell, Prod.mk.injEq, true_and, and_true, false_and, and_false, if_true, if_false, eq_self, and_self] using hi
        simp +decide only [gup_at, gnew_at, gup_2, gnew_2, gtell, Prod.mk.injEq, true_and, and_true, false_and, and_false, if_true, if_false, eq_self, and_self]
        exact hx.2.2.2.2.2.2.1 i hi)
  · exact (fun i hi => by
        have hi : i < C.2 8 0 := by simpa +decide only [gup_at, gnew_at, gup_2, gnew_2, gtell, Prod.mk.injEq, true_and, and_true, false_and, and_false, if_true, if_false, eq_self, and_self] using hi
        simp +decide only [gup_at, gnew_at, gup_2, gnew_2, gtell, Prod.mk.injEq, true_and, and_true, false_and, and_false, if_true, if_false, eq_self, and_self]
        exact hx.2.2.2.2.2.2.2 i hi)

theorem i_erase {C : gG} {n : Nat} (hI : gI n C) (hn : n ≤ 512) (hz5 : C.1 (0, 0, 0) 5 = 0) (a : Int32) (b : Int32) : gok1 n (F_erase C a b) := by
  unfold F_erase
  by_cases h1 : ¬ gix (C.2 10 0) a = true
  · rw [if_pos h1]
    exact gok_thr hI hn _
  rw [if_neg h1]
  by_cases h2 : ¬ gin 0 b 9 = true
  · rw [if_pos h2]
    exact gok_thr hI hn _
  rw [if_neg h2]
  by_cases h3 : C.1 (10, 0, a.toNatClampNeg) 9 < 0 ∨ ¬ C.1 (10, 0, a.toNatClampNeg) 10 = 0
  · rw [if_pos h3]
    exact gok_thr hI hn _
  rw [if_neg h3]
  have hx := hI.2.2.2.2.2.2.2.2.2.2
  refine ⟨⟨?_, ?_, ?_, ?_, ?_, ?_, ?_, ?_, ?_, ?_, ?_, ?_, ?_, ?_, ?_, ?_, ?_, ?_⟩, (by simp +decide only [gup_at, gnew_at, gup_2, gnew_2, gtell, Prod.mk.injEq, true_and, and_true, false_and, and_false, if_true, if_false, eq_self, and_self, hz5])⟩
  · exact hI.1
  · exact (gI2_f (fun _ _ _ => by simp +decide only [gup_at, gnew_at, gup_2, gnew_2, gtell, Prod.mk.injEq, true_and, and_true, false_and, and_false, if_true, if_false, eq_self, and_self]) (fun _ _ _ => by simp +decide only [gup_at, gnew_at, gup_2, gnew_2, gtell, Prod.mk.injEq, true_and, and_true, false_and, and_false, if_true, if_false, eq_self, and_self]) hI.2.1)
  · exact (gI3_f (Nat.le_succ n) (by omega) (by simp +decide only [gup_at, gnew_at, gup_2, gnew_2, gtell, Prod.mk.injEq, true_and, and_true, false_and, and_false, if_true, if_false, eq_self, and_self]) (by simp +decide only [gup_at, gnew_at, gup_2, gnew_2, gtell, Prod.mk.injEq, true_and, and_true, false_and, and_false, if_true, if_false, eq_self, and_self]) (fun _ _ _ => by simp +decide only [gup_at, gnew_at, gup_2, gnew_2, gtell, Prod.mk.injEq, true_and, and_true, false_and, and_false, if_true, if_false, eq_self, and_self]) hI.2.2.1)
  · exact (gI6_f (by simp +decide only [gup_at, gnew_at, gup_2, gnew_2, gtell, Prod.mk.injEq, true_and, and_true, false_and, and_false, if_true, if_false, eq_self, and_self]) (fun _ _ _ => by simp +decide only [gup_at, gnew_at, gup_2, gnew_2, gtell, Prod.mk.injEq, true_and, and_true, false_and, and_false, if_true, if_false, eq_self, and_self]) hI.2.2.2.1)
  · exact (gI8_f (by simp +decide only [gup_at, gnew_at, gup_2, gnew_2, gtell, Prod.mk.injEq, true_and, and_true, false_and, and_false, if_true, if_false, eq_self, and_self]) (by simp +decide only [gup_at, gnew_at, gup_2, gnew_2, gtell, Prod.mk.injEq, true_and, and_true, false_and, and_false, if_true, if_false, eq_self, and_self]) (fun _ _ _ => by simp +decide only [gup_at, gnew_at, gup_2, gnew_2, gtell, Prod.mk.injEq, true_and, and_true, false_and, and_false, if_true, if_false, eq_self, and_self]) hI.2.2.2.2.1)
  · exact (fun i hi => by
    have hi : i < C.2 10 0 := by simpa +decide only [gup_at, gnew_at, gup_2, gnew_2, gtell, Prod.mk.injEq, true_and, and_true, false_and, and_false, if_true, if_false, eq_self, and_self] using hi
    have h := hI.2.2.2.2.2.1 i hi
    by_cases hq : i = a.toNatClampNeg
    · subst hq
      simp +decide only [gup_at, gnew_at, gup_2, gnew_2, gtell, Prod.mk.injEq, true_and, and_true, false_and, and_false, if_true, if_false, eq_self, and_self]
      exact ⟨h.1, h.2.1, h.2.2.1, h.2.2.2.1, h.2.2.2.2.1, h.2.2.2.2.2.1, h.2.2.2.2.2.2.1, Or.inr rfl⟩
    · simp +decide only [gup_at, gnew_at, gup_2, gnew_2, gtell, Prod.mk.injEq, true_and, and_true, false_and, and_false, if_true, if_false, eq_self, and_self, hq]
      exact h)
  · exact (gI11_f (by simp +decide only [gup_at, gnew_at, gup_2, gnew_2, gtell, Prod.mk.injEq, true_and, and_true, false_and, and_false, if_true, if_false, eq_self, and_self]) (fun _ => by simp +decide only [gup_at, gnew_at, gup_2, gnew_2, gtell, Prod.mk.injEq, true_and, and_true, false_and, and_false, if_true, if_false, eq_self, and_self]) (fun _ _ _ => by simp +decide only [gup_at, gnew_at, gup_2, gnew_2, gtell, Prod.mk.injEq, true_and, and_true, false_and, and_false, if_true, if_false, eq_self, and_self]) (fun _ _ => by simp +decide only [gup_at, gnew_at, gup_2, gnew_2, gtell, Prod.mk.injEq, true_and, and_true, false_and, and_false, if_true, if_false, eq_self, and_self]) hI.2.2.2.2.2.2.1)
  · exact (gI13_f (by simp +decide only [gup_at, gnew_at, gup_2, gnew_2, gtell, Prod.mk.injEq, true_and, and_true, false_and, and_false, if_true, if_false, eq_self, and_self]) (fun _ => by simp +decide only [gup_at, gnew_at, gup_2, gnew_2, gtell, Prod.mk.injEq, true_and, and_true, false_and, and_false, if_true, if_false, eq_self, and_self]) (by simp +decide only [gup_at, gnew_at, gup_2, gnew_2, gtell, Prod.mk.injEq, true_and, and_true, false_and, and_false, if_true, if_false, eq_self, and_self]) (fun _ _ _ => by simp +decide only [gup_at, gnew_at, gup_2, gnew_2, gtell, Prod.mk.injEq, true_and, and_true, false_and, and_false, if_true, if_false, eq_self, and_self]) (fun _ => by simp +decide only [gup_at, gnew_at, gup_2, gnew_2, gtell, Prod.mk.injEq, true_and, and_true, false_and, and_false, if_true, if_false, eq_self, and_self]) (fun _ => by simp +decide only [gup_at, gnew_at, gup_2, gnew_2, gtell, Prod.mk.injEq, true_and, and_true, false_and, and_false, if_true, if_false, eq_self, and_self]) hI.2.2.2.2.2.2.2.1)
  · exact (gI12_f (by simp +decide only [gup_at, gnew_at, gup_2, gnew_2, gtell, Prod.mk.injEq, true_and, and_true, false_and, and_false, if_true, if_false, eq_self, and_self]) (fun _ _ _ => by simp +decide only [gup_at, gnew_at, gup_2, gnew_2, gtell, Prod.mk.injEq, true_and, and_true, false_and, and_false, if_true, if_false, eq_self, and_self]) hI.2.2.2.2.2.2.2.2.1)
  · exact (gmiss_f (by simp +decide only [gup_at, gnew_at, gup_2, gnew_2, gtell, Prod.mk.injEq, true_and, and_true, false_and, and_false, if_true, if_false, eq_self, and_self]) (by simp +decide only [gup_at, gnew_at, gup_2, gnew_2, gtell, Prod.mk.injEq, true_and, and_true, false_and, and_false, if_true, if_false, eq_self, and_self]) (by simp +decide only [gup_at, gnew_at, gup_2, gnew_2, gtell, Prod.mk.injEq, true_and, and_true, false_and, and_false, if_true, if_false, eq_self, and_self]) (by simp +decide only [gup_at, gnew_at, gup_2, gnew_2, gtell, Prod.mk.injEq, true_and, and_true, false_and, and_false, if_true, if_false, eq_self, and_self]) (fun _ => by simp +decide only [gup_at, gnew_at, gup_2, gnew_2, gtell, Prod.mk.injEq, true_and, and_true, false_and, and_false, if_true, if_false, eq_self, and_self]) (fun _ => by simp +decide only [gup_at, gnew_at, gup_2, gnew_2, gtell, Prod.mk.injEq, true_and, and_true, false_and, and_false, if_true, if_false, eq_self, and_self]) hI.2.2.2.2.2.2.2.2.2.1)
  · exact (fun i hi => by
        have hi : i < C.2 6 0 := by simpa +decide only [gup_at, gnew_at, gup_2, gnew_2, gtell, Prod.mk.injEq, true_and, and_true, false_and, and_false, if_true, if_false, eq_self, and_self] using hi
        simp +decide only [gup_at, gnew_at, gup_2, gnew_2, gtell, Prod.mk.injEq, true_and, and_true, false_and, and_false, if_true, if_false, eq_self, and_self]
        exact hx.1 i hi)
  · exact (fun i hi => by
        have hi : i < C.2 7 0 := by simpa +decide only [gup_at, gnew_at, gup_2, gnew_2, gtell, Prod.mk.injEq, true_and, and_true, false_and, and_false, if_true, if_false, eq_self, and_self] using hi
        simp +decide only [gup_at, gnew_at, gup_2, gnew_2, gtell, Prod.mk.injEq, true_and, and_true, false_and, and_false, if_true, if_false, eq_self, and_self]
        exact hx.2.1 i hi)
  · exact (fun i hi => by
        have hi : i < C.2 8 0 := by simpa +decide only [gup_at, gnew_at, gup_2, gnew_2, gtell, Prod.mk.injEq, true_and, and_true, false_and, and_false, if_true, if_false, eq_self, and_self] using hi
        simp +decide only [gup_at, gnew_at, gup_2, gnew_2, gtell, Prod.mk.injEq, true_and, and_true, false_and, and_false, if_true, if_false, eq_self, and_self]
        exact gin_up (hx.2.2.1 i hi) (by omega) (by omega))
  · exact (fun i hi => by
        have hi : i < C.2 9 0 := by simpa +decide only [gup_at, gnew_at, gup_2, gnew_2, gtell, Prod.mk.injEq, true_and, and_true, false_and, and_false, if_true, if_false, eq_self, and_self] using hi
        simp +decide only [gup_at, gnew_at, gup_2, gnew_2, gtell, Prod.mk.injEq, true_and, and_true, false_and, and_false, if_true, if_false, eq_self, and_self]
        exact hx.2.2.2.1 i hi)
  · exact (fun i hi => by
        have hi : i < C.2 10 0 := by simpa +decide only [gup_at, gnew_at, gup_2, gnew_2, gtell, Prod.mk.injEq, true_and, and_true, false_and, and_false, if_true, if_false, eq_self, and_self] using hi
        simp +decide only [gup_at, gnew_at, gup_2, gnew_2, gtell, Prod.mk.injEq, true_and, and_true, false_and, and_false, if_true, if_false, eq_self, and_self]
        exact hx.2.2.2.2.1 i hi)
  · exact (by simp +decide only [gup_at, gnew_at, gup_2, gnew_2, gtell, Prod.mk.injEq, true_and, and_true, false_and, and_false, if_true, if_false, eq_self, and_self]; exact hx.2.2.2.2.2.1)
  · exact (fun i hi => by
        have hi : i < C.2 9 0 := by simpa +decide only [gup_at, gnew_at, gup_2, gnew_2, gtell, Prod.mk.injEq, true_and, and_true, false_and, and_false, if_true, if_false, eq_self, and_self] using hi
        simp +decide only [gup_at, gnew_at, gup_2, gnew_2, gtell, Prod.mk.injEq, true_and, and_true, false_and, and_false, if_true, if_false, eq_self, and_self]
        exact hx.2.2.2.2.2.2.1 i hi)
  · exact (fun i hi => by
        have hi : i < C.2 8 0 := by simpa +decide only [gup_at, gnew_at, gup_2, gnew_2, gtell, Prod.mk.injEq, true_and, and_true, false_and, and_false, if_true, if_false, eq_self, and_self] using hi
        simp +decide only [gup_at, gnew_at, gup_2, gnew_2, gtell, Prod.mk.injEq, true_and, and_true, false_and, and_false, if_true, if_false, eq_self, and_self]
        exact hx.2.2.2.2.2.2.2 i hi)

theorem i_fall {C : gG} {n : Nat} (hI : gI n C) (hn : n ≤ 512) (hz5 : C.1 (0, 0, 0) 5 = 0) (a : Int32) (b : Int32) : gok1 n (F_fall C a b) := by
  unfold F_fall
  by_cases h1 : ¬ gix (C.2 10 0) a = true
  · rw [if_pos h1]
    exact gok_thr hI hn _
  rw [if_neg h1]
  by_cases h2 : ¬ gin 1 b 9 = true
  · rw [if_pos h2]
    exact gok_thr hI hn _
  rw [if_neg h2]
  have hx := hI.2.2.2.2.2.2.2.2.2.2
  refine ⟨⟨?_, ?_, ?_, ?_, ?_, ?_, ?_, ?_, ?_, ?_, ?_, ?_, ?_, ?_, ?_, ?_, ?_, ?_⟩, (by simp +decide only [gup_at, gnew_at, gup_2, gnew_2, gtell, Prod.mk.injEq, true_and, and_true, false_and, and_false, if_true, if_false, eq_self, and_self, hz5])⟩
  · exact hI.1
  · exact (gI2_f (fun _ _ _ => by simp +decide only [gup_at, gnew_at, gup_2, gnew_2, gtell, Prod.mk.injEq, true_and, and_true, false_and, and_false, if_true, if_false, eq_self, and_self]) (fun _ _ _ => by simp +decide only [gup_at, gnew_at, gup_2, gnew_2, gtell, Prod.mk.injEq, true_and, and_true, false_and, and_false, if_true, if_false, eq_self, and_self]) hI.2.1)
  · exact (gI3_f (Nat.le_succ n) (by omega) (by simp +decide only [gup_at, gnew_at, gup_2, gnew_2, gtell, Prod.mk.injEq, true_and, and_true, false_and, and_false, if_true, if_false, eq_self, and_self]) (by simp +decide only [gup_at, gnew_at, gup_2, gnew_2, gtell, Prod.mk.injEq, true_and, and_true, false_and, and_false, if_true, if_false, eq_self, and_self]) (fun _ _ _ => by simp +decide only [gup_at, gnew_at, gup_2, gnew_2, gtell, Prod.mk.injEq, true_and, and_true, false_and, and_false, if_true, if_false, eq_self, and_self]) hI.2.2.1)
  · exact (gI6_f (by simp +decide only [gup_at, gnew_at, gup_2, gnew_2, gtell, Prod.mk.injEq, true_and, and_true, false_and, and_false, if_true, if_false, eq_self, and_self]) (fun _ _ _ => by simp +decide only [gup_at, gnew_at, gup_2, gnew_2, gtell, Prod.mk.injEq, true_and, and_true, false_and, and_false, if_true, if_false, eq_self, and_self]) hI.2.2.2.1)
  · exact (gI8_f (by simp +decide only [gup_at, gnew_at, gup_2, gnew_2, gtell, Prod.mk.injEq, true_and, and_true, false_and, and_false, if_true, if_false, eq_self, and_self]) (by simp +decide only [gup_at, gnew_at, gup_2, gnew_2, gtell, Prod.mk.injEq, true_and, and_true, false_and, and_false, if_true, if_false, eq_self, and_self]) (fun _ _ _ => by simp +decide only [gup_at, gnew_at, gup_2, gnew_2, gtell, Prod.mk.injEq, true_and, and_true, false_and, and_false, if_true, if_false, eq_self, and_self]) hI.2.2.2.2.1)
  · exact (fun i hi => by
    have hi : i < C.2 10 0 := by simpa +decide only [gup_at, gnew_at, gup_2, gnew_2, gtell, Prod.mk.injEq, true_and, and_true, false_and, and_false, if_true, if_false, eq_self, and_self] using hi
    have h := hI.2.2.2.2.2.1 i hi
    by_cases hq : i = a.toNatClampNeg
    · subst hq
      simp +decide only [gup_at, gnew_at, gup_2, gnew_2, gtell, Prod.mk.injEq, true_and, and_true, false_and, and_false, if_true, if_false, eq_self, and_self]
      exact ⟨h.1, h.2.1, ga_fall h.2.2.1 h.2.2.2.1 (Classical.not_not.mp h2) (hx.2.2.2.2.1 _ hi) (hx.2.2.1 _ (gix_lt (Nat.le_trans (hI.cnt 2 0 (by decide)) (by decide)) h.1)) (by omega), h.2.2.2⟩
    · simp +decide only [gup_at, gnew_at, gup_2, gnew_2, gtell, Prod.mk.injEq, true_and, and_true, false_and, and_false, if_true, if_false, eq_self, and_self, hq]
      exact h)
  · exact (gI11_f (by simp +decide only [gup_at, gnew_at, gup_2, gnew_2, gtell, Prod.mk.injEq, true_and, and_true, false_and, and_false, if_true, if_false, eq_self, and_self]) (fun _ => by simp +decide only [gup_at, gnew_at, gup_2, gnew_2, gtell, Prod.mk.injEq, true_and, and_true, false_and, and_false, if_true, if_false, eq_self, and_self]) (fun _ _ _ => by simp +decide only [gup_at, gnew_at, gup_2, gnew_2, gtell, Prod.mk.injEq, true_and, and_true, false_and, and_false, if_true, if_false, eq_self, and_self]) (fun _ _ => by simp +decide only [gup_at, gnew_at, gup_2, gnew_2, gtell, Prod.mk.injEq, true_and, and_true, false_and, and_false, if_true, if_false, eq_self, and_self]) hI.2.2.2.2.2.2.1)
  · exact (gI13_f (by simp +decide only [gup_at, gnew_at, gup_2, gnew_2, gtell, Prod.mk.injEq, true_and, and_true, false_and, and_false, if_true, if_false, eq_self, and_self]) (fun _ => by simp +decide only [gup_at, gnew_at, gup_2, gnew_2, gtell, Prod.mk.injEq, true_and, and_true, false_and, and_false, if_true, if_false, eq_self, and_self]) (by simp +decide only [gup_at, gnew_at, gup_2, gnew_2, gtell, Prod.mk.injEq, true_and, and_true, false_and, and_false, if_true, if_false, eq_self, and_self]) (fun _ _ _ => by simp +decide only [gup_at, gnew_at, gup_2, gnew_2, gtell, Prod.mk.injEq, true_and, and_true, false_and, and_false, if_true, if_false, eq_self, and_self]) (fun _ => by simp +decide only [gup_at, gnew_at, gup_2, gnew_2, gtell, Prod.mk.injEq, true_and, and_true, false_and, and_false, if_true, if_false, eq_self, and_self]) (fun _ => by simp +decide only [gup_at, gnew_at, gup_2, gnew_2, gtell, Prod.mk.injEq, true_and, and_true, false_and, and_false, if_true, if_false, eq_self, and_self]) hI.2.2.2.2.2.2.2.1)
  · exact (gI12_f (by simp +decide only [gup_at, gnew_at, gup_2, gnew_2, gtell, Prod.mk.injEq, true_and, and_true, false_and, and_false, if_true, if_false, eq_self, and_self]) (fun _ _ _ => by simp +decide only [gup_at, gnew_at, gup_2, gnew_2, gtell, Prod.mk.injEq, true_and, and_true, false_and, and_false, if_true, if_false, eq_self, and_self]) hI.2.2.2.2.2.2.2.2.1)
  · exact (gmiss_f (by simp +decide only [gup_at, gnew_at, gup_2, gnew_2, gtell, Prod.mk.injEq, true_and, and_true, false_and, and_false, if_true, if_false, eq_self, and_self]) (by simp +decide only [gup_at, gnew_at, gup_2, gnew_2, gtell, Prod.mk.injEq, true_and, and_true, false_and, and_false, if_true, if_false, eq_self, and_self]) (by simp +decide only [gup_at, gnew_at, gup_2, gnew_2, gtell, Prod.mk.injEq, true_and, and_true, false_and, and_false, if_true, if_false, eq_self, and_self]) (by simp +decide only [gup_at, gnew_at, gup_2, gnew_2, gtell, Prod.mk.injEq, true_and, and_true, false_and, and_false, if_true, if_false, eq_self, and_self]) (fun _ => by simp +decide only [gup_at, gnew_at, gup_2, gnew_2, gtell, Prod.mk.injEq, true_and, and_true, false_and, and_false, if_true, if_false, eq_self, and_self]) (fun _ => by simp +decide only [gup_at, gnew_at, gup_2, gnew_2, gtell, Prod.mk.injEq, true_and, and_true, false_and, and_false, if_true, if_false, eq_self, and_self]) hI.2.2.2.2.2.2.2.2.2.1)
  · exact (fun i hi => by
        have hi : i < C.2 6 0 := by simpa +decide only [gup_at, gnew_at, gup_2, gnew_2, gtell, Prod.mk.injEq, true_and, and_true, false_and, and_false, if_true, if_false, eq_self, and_self] using hi
        simp +decide only [gup_at, gnew_at, gup_2, gnew_2, gtell, Prod.mk.injEq, true_and, and_true, false_and, and_false, if_true, if_false, eq_self, and_self]
        exact hx.1 i hi)
  · exact (fun i hi => by
        have hi : i < C.2 7 0 := by simpa +decide only [gup_at, gnew_at, gup_2, gnew_2, gtell, Prod.mk.injEq, true_and, and_true, false_and, and_false, if_true, if_false, eq_self, and_self] using hi
        simp +decide only [gup_at, gnew_at, gup_2, gnew_2, gtell, Prod.mk.injEq, true_and, and_true, false_and, and_false, if_true, if_false, eq_self, and_self]
        exact hx.2.1 i hi)
  · exact (fun i hi => by
        have hi : i < C.2 8 0 := by simpa +decide only [gup_at, gnew_at, gup_2, gnew_2, gtell, Prod.mk.injEq, true_and, and_true, false_and, and_false, if_true, if_false, eq_self, and_self] using hi
        simp +decide only [gup_at, gnew_at, gup_2, gnew_2, gtell, Prod.mk.injEq, true_and, and_true, false_and, and_false, if_true, if_false, eq_self, and_self]
        exact gin_up (hx.2.2.1 i hi) (by omega) (by omega))
  · exact (fun i hi => by
        have hi : i < C.2 9 0 := by simpa +decide only [gup_at, gnew_at, gup_2, gnew_2, gtell, Prod.mk.injEq, true_and, and_true, false_and, and_false, if_true, if_false, eq_self, and_self] using hi
        simp +decide only [gup_at, gnew_at, gup_2, gnew_2, gtell, Prod.mk.injEq, true_and, and_true, false_and, and_false, if_true, if_false, eq_self, and_self]
        exact hx.2.2.2.1 i hi)
  · exact (fun i hi => by
        have hi : i < C.2 10 0 := by simpa +decide only [gup_at, gnew_at, gup_2, gnew_2, gtell, Prod.mk.injEq, true_and, and_true, false_and, and_false, if_true, if_false, eq_self, and_self] using hi
        simp +decide only [gup_at, gnew_at, gup_2, gnew_2, gtell, Prod.mk.injEq, true_and, and_true, false_and, and_false, if_true, if_false, eq_self, and_self]
        exact hx.2.2.2.2.1 i hi)
  · exact (by simp +decide only [gup_at, gnew_at, gup_2, gnew_2, gtell, Prod.mk.injEq, true_and, and_true, false_and, and_false, if_true, if_false, eq_self, and_self]; exact hx.2.2.2.2.2.1)
  · exact (fun i hi => by
        have hi : i < C.2 9 0 := by simpa +decide only [gup_at, gnew_at, gup_2, gnew_2, gtell, Prod.mk.injEq, true_and, and_true, false_and, and_false, if_true, if_false, eq_self, and_self] using hi
        simp +decide only [gup_at, gnew_at, gup_2, gnew_2, gtell, Prod.mk.injEq, true_and, and_true, false_and, and_false, if_true, if_false, eq_self, and_self]
        exact hx.2.2.2.2.2.2.1 i hi)
  · exact (fun i hi => by
        have hi : i < C.2 8 0 := by simpa +decide only [gup_at, gnew_at, gup_2, gnew_2, gtell, Prod.mk.injEq, true_and, and_true, false_and, and_false, if_true, if_false, eq_self, and_self] using hi
        simp +decide only [gup_at, gnew_at, gup_2, gnew_2, gtell, Prod.mk.injEq, true_and, and_true, false_and, and_false, if_true, if_false, eq_self, and_self]
        exact hx.2.2.2.2.2.2.2 i hi)

theorem i_seed {C : gG} {n : Nat} (hI : gI n C) (hn : n ≤ 512) (hz5 : C.1 (0, 0, 0) 5 = 0) (a : Int32) : gok1 n (F_seed C a) := by
  unfold F_seed
  by_cases h1 : ¬ gin 1 a 2147483646 = true
  · rw [if_pos h1]
    exact gok_thr hI hn _
  rw [if_neg h1]
  have hx := hI.2.2.2.2.2.2.2.2.2.2
  refine ⟨⟨?_, ?_, ?_, ?_, ?_, ?_, ?_, ?_, ?_, ?_, ?_, ?_, ?_, ?_, ?_, ?_, ?_, ?_⟩, (by simp +decide only [gup_at, gnew_at, gup_2, gnew_2, gtell, Prod.mk.injEq, true_and, and_true, false_and, and_false, if_true, if_false, eq_self, and_self, hz5])⟩
  · exact hI.1
  · exact (gI2_f (fun _ _ _ => by simp +decide only [gup_at, gnew_at, gup_2, gnew_2, gtell, Prod.mk.injEq, true_and, and_true, false_and, and_false, if_true, if_false, eq_self, and_self]) (fun _ _ _ => by simp +decide only [gup_at, gnew_at, gup_2, gnew_2, gtell, Prod.mk.injEq, true_and, and_true, false_and, and_false, if_true, if_false, eq_self, and_self]) hI.2.1)
  · exact (gI3_f (Nat.le_succ n) (by omega) (by simp +decide only [gup_at, gnew_at, gup_2, gnew_2, gtell, Prod.mk.injEq, true_and, and_true, false_and, and_false, if_true, if_false, eq_self, and_self]) (by simp +decide only [gup_at, gnew_at, gup_2, gnew_2, gtell, Prod.mk.injEq, true_and, and_true, false_and, and_false, if_true, if_false, eq_self, and_self]) (fun _ _ _ => by simp +decide only [gup_at, gnew_at, gup_2, gnew_2, gtell, Prod.mk.injEq, true_and, and_true, false_and, and_false, if_true, if_false, eq_self, and_self]) hI.2.2.1)
  · exact (gI6_f (by simp +decide only [gup_at, gnew_at, gup_2, gnew_2, gtell, Prod.mk.injEq, true_and, and_true, false_and, and_false, if_true, if_false, eq_self, and_self]) (fun _ _ _ => by simp +decide only [gup_at, gnew_at, gup_2, gnew_2, gtell, Prod.mk.injEq, true_and, and_true, false_and, and_false, if_true, if_false, eq_self, and_self]) hI.2.2.2.1)
  · exact (gI8_f (by simp +decide only [gup_at, gnew_at, gup_2, gnew_2, gtell, Prod.mk.injEq, true_and, and_true, false_and, and_false, if_true, if_false, eq_self, and_self]) (by simp +decide only [gup_at, gnew_at, gup_2, gnew_2, gtell, Prod.mk.injEq, true_and, and_true, false_and, and_false, if_true, if_false, eq_self, and_self]) (fun _ _ _ => by simp +decide only [gup_at, gnew_at, gup_2, gnew_2, gtell, Prod.mk.injEq, true_and, and_true, false_and, and_false, if_true, if_false, eq_self, and_self]) hI.2.2.2.2.1)
  · exact (gI10_f (by simp +decide only [gup_at, gnew_at, gup_2, gnew_2, gtell, Prod.mk.injEq, true_and, and_true, false_and, and_false, if_true, if_false, eq_self, and_self]) (by simp +decide only [gup_at, gnew_at, gup_2, gnew_2, gtell, Prod.mk.injEq, true_and, and_true, false_and, and_false, if_true, if_false, eq_self, and_self]) (by simp +decide only [gup_at, gnew_at, gup_2, gnew_2, gtell, Prod.mk.injEq, true_and, and_true, false_and, and_false, if_true, if_false, eq_self, and_self]) (fun _ _ _ => by simp +decide only [gup_at, gnew_at, gup_2, gnew_2, gtell, Prod.mk.injEq, true_and, and_true, false_and, and_false, if_true, if_false, eq_self, and_self]) (fun _ => by simp +decide only [gup_at, gnew_at, gup_2, gnew_2, gtell, Prod.mk.injEq, true_and, and_true, false_and, and_false, if_true, if_false, eq_self, and_self]) hI.2.2.2.2.2.1)
  · exact (gI11_f (by simp +decide only [gup_at, gnew_at, gup_2, gnew_2, gtell, Prod.mk.injEq, true_and, and_true, false_and, and_false, if_true, if_false, eq_self, and_self]) (fun _ => by simp +decide only [gup_at, gnew_at, gup_2, gnew_2, gtell, Prod.mk.injEq, true_and, and_true, false_and, and_false, if_true, if_false, eq_self, and_self]) (fun _ _ _ => by simp +decide only [gup_at, gnew_at, gup_2, gnew_2, gtell, Prod.mk.injEq, true_and, and_true, false_and, and_false, if_true, if_false, eq_self, and_self]) (fun _ _ => by simp +decide only [gup_at, gnew_at, gup_2, gnew_2, gtell, Prod.mk.injEq, true_and, and_true, false_and, and_false, if_true, if_false, eq_self, and_self]) hI.2.2.2.2.2.2.1)
  · exact (gI13_f (by simp +decide only [gup_at, gnew_at, gup_2, gnew_2, gtell, Prod.mk.injEq, true_and, and_true, false_and, and_false, if_true, if_false, eq_self, and_self]) (fun _ => by simp +decide only [gup_at, gnew_at, gup_2, gnew_2, gtell, Prod.mk.injEq, true_and, and_true, false_and, and_false, if_true, if_false, eq_self, and_self]) (by simp +decide only [gup_at, gnew_at, gup_2, gnew_2, gtell, Prod.mk.injEq, true_and, and_true, false_and, and_false, if_true, if_false, eq_self, and_self]) (fun _ _ _ => by simp +decide only [gup_at, gnew_at, gup_2, gnew_2, gtell, Prod.mk.injEq, true_and, and_true, false_and, and_false, if_true, if_false, eq_self, and_self]) (fun _ => by simp +decide only [gup_at, gnew_at, gup_2, gnew_2, gtell, Prod.mk.injEq, true_and, and_true, false_and, and_false, if_true, if_false, eq_self, and_self]) (fun _ => by simp +decide only [gup_at, gnew_at, gup_2, gnew_2, gtell, Prod.mk.injEq, true_and, and_true, false_and, and_false, if_true, if_false, eq_self, and_self]) hI.2.2.2.2.2.2.2.1)
  · exact (gI12_f (by simp +decide only [gup_at, gnew_at, gup_2, gnew_2, gtell, Prod.mk.injEq, true_and, and_true, false_and, and_false, if_true, if_false, eq_self, and_self]) (fun _ _ _ => by simp +decide only [gup_at, gnew_at, gup_2, gnew_2, gtell, Prod.mk.injEq, true_and, and_true, false_and, and_false, if_true, if_false, eq_self, and_self]) hI.2.2.2.2.2.2.2.2.1)
  · exact (gmiss_f (by simp +decide only [gup_at, gnew_at, gup_2, gnew_2, gtell, Prod.mk.injEq, true_and, and_true, false_and, and_false, if_true, if_false, eq_self, and_self]) (by simp +decide only [gup_at, gnew_at, gup_2, gnew_2, gtell, Prod.mk.injEq, true_and, and_true, false_and, and_false, if_true, if_false, eq_self, and_self]) (by simp +decide only [gup_at, gnew_at, gup_2, gnew_2, gtell, Prod.mk.injEq, true_and, and_true, false_and, and_false, if_true, if_false, eq_self, and_self]) (by simp +decide only [gup_at, gnew_at, gup_2, gnew_2, gtell, Prod.mk.injEq, true_and, and_true, false_and, and_false, if_true, if_false, eq_self, and_self]) (fun _ => by simp +decide only [gup_at, gnew_at, gup_2, gnew_2, gtell, Prod.mk.injEq, true_and, and_true, false_and, and_false, if_true, if_false, eq_self, and_self]) (fun _ => by simp +decide only [gup_at, gnew_at, gup_2, gnew_2, gtell, Prod.mk.injEq, true_and, and_true, false_and, and_false, if_true, if_false, eq_self, and_self]) hI.2.2.2.2.2.2.2.2.2.1)
  · exact (fun i hi => by
        have hi : i < C.2 6 0 := by simpa +decide only [gup_at, gnew_at, gup_2, gnew_2, gtell, Prod.mk.injEq, true_and, and_true, false_and, and_false, if_true, if_false, eq_self, and_self] using hi
        simp +decide only [gup_at, gnew_at, gup_2, gnew_2, gtell, Prod.mk.injEq, true_and, and_true, false_and, and_false, if_true, if_false, eq_self, and_self]
        exact hx.1 i hi)
  · exact (fun i hi => by
        have hi : i < C.2 7 0 := by simpa +decide only [gup_at, gnew_at, gup_2, gnew_2, gtell, Prod.mk.injEq, true_and, and_true, false_and, and_false, if_true, if_false, eq_self, and_self] using hi
        simp +decide only [gup_at, gnew_at, gup_2, gnew_2, gtell, Prod.mk.injEq, true_and, and_true, false_and, and_false, if_true, if_false, eq_self, and_self]
        exact hx.2.1 i hi)
  · exact (fun i hi => by
        have hi : i < C.2 8 0 := by simpa +decide only [gup_at, gnew_at, gup_2, gnew_2, gtell, Prod.mk.injEq, true_and, and_true, false_and, and_false, if_true, if_false, eq_self, and_self] using hi
        simp +decide only [gup_at, gnew_at, gup_2, gnew_2, gtell, Prod.mk.injEq, true_and, and_true, false_and, and_false, if_true, if_false, eq_self, and_self]
        exact gin_up (hx.2.2.1 i hi) (by omega) (by omega))
  · exact (fun i hi => by
        have hi : i < C.2 9 0 := by simpa +decide only [gup_at, gnew_at, gup_2, gnew_2, gtell, Prod.mk.injEq, true_and, and_true, false_and, and_false, if_true, if_false, eq_self, and_self] using hi
        simp +decide only [gup_at, gnew_at, gup_2, gnew_2, gtell, Prod.mk.injEq, true_and, and_true, false_and, and_false, if_true, if_false, eq_self, and_self]
        exact hx.2.2.2.1 i hi)
  · exact (fun i hi => by
        have hi : i < C.2 10 0 := by simpa +decide only [gup_at, gnew_at, gup_2, gnew_2, gtell, Prod.mk.injEq, true_and, and_true, false_and, and_false, if_true, if_false, eq_self, and_self] using hi
        simp +decide only [gup_at, gnew_at, gup_2, gnew_2, gtell, Prod.mk.injEq, true_and, and_true, false_and, and_false, if_true, if_false, eq_self, and_self]
        exact hx.2.2.2.2.1 i hi)
  · exact (by simp +decide only [gup_at, gnew_at, gup_2, gnew_2, gtell, Prod.mk.injEq, true_and, and_true, false_and, and_false, if_true, if_false, eq_self, and_self]; exact fun z => (gin_iff.mp (Classical.not_not.mp h1)).1 (Int32.lt_trans z (by decide)))
  · exact (fun i hi => by
        have hi : i < C.2 9 0 := by simpa +decide only [gup_at, gnew_at, gup_2, gnew_2, gtell, Prod.mk.injEq, true_and, and_true, false_and, and_false, if_true, if_false, eq_self, and_self] using hi
        simp +decide only [gup_at, gnew_at, gup_2, gnew_2, gtell, Prod.mk.injEq, true_and, and_true, false_and, and_false, if_true, if_false, eq_self, and_self]
        exact hx.2.2.2.2.2.2.1 i hi)
  · exact (fun i hi => by
        have hi : i < C.2 8 0 := by simpa +decide only [gup_at, gnew_at, gup_2, gnew_2, gtell, Prod.mk.injEq, true_and, and_true, false_and, and_false, if_true, if_false, eq_self, and_self] using hi
        simp +decide only [gup_at, gnew_at, gup_2, gnew_2, gtell, Prod.mk.injEq, true_and, and_true, false_and, and_false, if_true, if_false, eq_self, and_self]
        exact hx.2.2.2.2.2.2.2 i hi)

theorem i_order {C : gG} {n : Nat} (hI : gI n C) (hn : n ≤ 512) (hz5 : C.1 (0, 0, 0) 5 = 0) (a : Int32) (b : Int32) (c : Int32) : gok1 n (F_order C a b c) := by
  unfold F_order
  by_cases h1 : ¬ gin 0 a 19 = true ∨ ¬ gin 1 b 9 = true ∨ ¬ gin 0 c 9999 = true
  · rw [if_pos h1]
    exact gok_thr hI hn _
  rw [if_neg h1]
  by_cases h2 : c < C.1 (0, 0, 0) 0
  · rw [if_pos h2]
    exact gok_thr hI hn _
  rw [if_neg h2]
  by_cases h3 : ¬ Int32.ofNat (C.2 12 0) < 12
  · rw [if_pos h3]
    exact gok_thr hI hn _
  rw [if_neg h3]
  have hx := hI.2.2.2.2.2.2.2.2.2.2
  refine ⟨⟨?_, ?_, ?_, ?_, ?_, ?_, ?_, ?_, ?_, ?_, ?_, ?_, ?_, ?_, ?_, ?_, ?_, ?_⟩, (by simp +decide only [gup_at, gnew_at, gup_2, gnew_2, gtell, Prod.mk.injEq, true_and, and_true, false_and, and_false, if_true, if_false, eq_self, and_self, hz5])⟩
  · exact (gI1_new12 hI.1 (gsz_n (m := 12) (hI.cnt 6 0 (by decide)) (Classical.not_not.mp h3)))
  · exact (gI2_f (fun _ _ _ => by simp +decide only [gup_at, gnew_at, gup_2, gnew_2, gtell, Prod.mk.injEq, true_and, and_true, false_and, and_false, if_true, if_false, eq_self, and_self]) (fun _ _ _ => by simp +decide only [gup_at, gnew_at, gup_2, gnew_2, gtell, Prod.mk.injEq, true_and, and_true, false_and, and_false, if_true, if_false, eq_self, and_self]) hI.2.1)
  · exact (gI3_f (Nat.le_succ n) (by omega) (by simp +decide only [gup_at, gnew_at, gup_2, gnew_2, gtell, Prod.mk.injEq, true_and, and_true, false_and, and_false, if_true, if_false, eq_self, and_self]) (by simp +decide only [gup_at, gnew_at, gup_2, gnew_2, gtell, Prod.mk.injEq, true_and, and_true, false_and, and_false, if_true, if_false, eq_self, and_self]) (fun _ _ _ => by simp +decide only [gup_at, gnew_at, gup_2, gnew_2, gtell, Prod.mk.injEq, true_and, and_true, false_and, and_false, if_true, if_false, eq_self, and_self]) hI.2.2.1)
  · exact (gI6_f (by simp +decide only [gup_at, gnew_at, gup_2, gnew_2, gtell, Prod.mk.injEq, true_and, and_true, false_and, and_false, if_true, if_false, eq_self, and_self]) (fun _ _ _ => by simp +decide only [gup_at, gnew_at, gup_2, gnew_2, gtell, Prod.mk.injEq, true_and, and_true, false_and, and_false, if_true, if_false, eq_self, and_self]) hI.2.2.2.1)
  · exact (gI8_f (by simp +decide only [gup_at, gnew_at, gup_2, gnew_2, gtell, Prod.mk.injEq, true_and, and_true, false_and, and_false, if_true, if_false, eq_self, and_self]) (by simp +decide only [gup_at, gnew_at, gup_2, gnew_2, gtell, Prod.mk.injEq, true_and, and_true, false_and, and_false, if_true, if_false, eq_self, and_self]) (fun _ _ _ => by simp +decide only [gup_at, gnew_at, gup_2, gnew_2, gtell, Prod.mk.injEq, true_and, and_true, false_and, and_false, if_true, if_false, eq_self, and_self]) hI.2.2.2.2.1)
  · exact (gI10_f (by simp +decide only [gup_at, gnew_at, gup_2, gnew_2, gtell, Prod.mk.injEq, true_and, and_true, false_and, and_false, if_true, if_false, eq_self, and_self]) (by simp +decide only [gup_at, gnew_at, gup_2, gnew_2, gtell, Prod.mk.injEq, true_and, and_true, false_and, and_false, if_true, if_false, eq_self, and_self]) (by simp +decide only [gup_at, gnew_at, gup_2, gnew_2, gtell, Prod.mk.injEq, true_and, and_true, false_and, and_false, if_true, if_false, eq_self, and_self]) (fun _ _ _ => by simp +decide only [gup_at, gnew_at, gup_2, gnew_2, gtell, Prod.mk.injEq, true_and, and_true, false_and, and_false, if_true, if_false, eq_self, and_self]) (fun _ => by simp +decide only [gup_at, gnew_at, gup_2, gnew_2, gtell, Prod.mk.injEq, true_and, and_true, false_and, and_false, if_true, if_false, eq_self, and_self]) hI.2.2.2.2.2.1)
  · exact (gI11_f (by simp +decide only [gup_at, gnew_at, gup_2, gnew_2, gtell, Prod.mk.injEq, true_and, and_true, false_and, and_false, if_true, if_false, eq_self, and_self]) (fun _ => by simp +decide only [gup_at, gnew_at, gup_2, gnew_2, gtell, Prod.mk.injEq, true_and, and_true, false_and, and_false, if_true, if_false, eq_self, and_self]) (fun _ _ _ => by simp +decide only [gup_at, gnew_at, gup_2, gnew_2, gtell, Prod.mk.injEq, true_and, and_true, false_and, and_false, if_true, if_false, eq_self, and_self]) (fun _ _ => by simp +decide only [gup_at, gnew_at, gup_2, gnew_2, gtell, Prod.mk.injEq, true_and, and_true, false_and, and_false, if_true, if_false, eq_self, and_self]) hI.2.2.2.2.2.2.1)
  · exact (gI13_f (by simp +decide only [gup_at, gnew_at, gup_2, gnew_2, gtell, Prod.mk.injEq, true_and, and_true, false_and, and_false, if_true, if_false, eq_self, and_self]) (fun _ => by simp +decide only [gup_at, gnew_at, gup_2, gnew_2, gtell, Prod.mk.injEq, true_and, and_true, false_and, and_false, if_true, if_false, eq_self, and_self]) (by simp +decide only [gup_at, gnew_at, gup_2, gnew_2, gtell, Prod.mk.injEq, true_and, and_true, false_and, and_false, if_true, if_false, eq_self, and_self]) (fun _ _ _ => by simp +decide only [gup_at, gnew_at, gup_2, gnew_2, gtell, Prod.mk.injEq, true_and, and_true, false_and, and_false, if_true, if_false, eq_self, and_self]) (fun _ => by simp +decide only [gup_at, gnew_at, gup_2, gnew_2, gtell, Prod.mk.injEq, true_and, and_true, false_and, and_false, if_true, if_false, eq_self, and_self]) (fun _ => by simp +decide only [gup_at, gnew_at, gup_2, gnew_2, gtell, Prod.mk.injEq, true_and, and_true, false_and, and_false, if_true, if_false, eq_self, and_self]) hI.2.2.2.2.2.2.2.1)
  · exact (fun i hi => by
    have hi : i < C.2 12 0 + 1 := by simpa +decide only [gup_at, gnew_at, gup_2, gnew_2, gtell, Prod.mk.injEq, true_and, and_true, false_and, and_false, if_true, if_false, eq_self, and_self] using hi
    by_cases hq : i = C.2 12 0
    · subst hq
      simp +decide only [gup_at, gnew_at, gup_2, gnew_2, gtell, Prod.mk.injEq, true_and, and_true, false_and, and_false, if_true, if_false, eq_self, and_self]
      exact ⟨fun z => (gin_iff.mp (Classical.not_not.mp (fun z => h1 (Or.inr (Or.inl z))))).1 (Int32.lt_trans z (by decide)), Or.inl rfl⟩
    · have hi : i < C.2 12 0 := by omega
      have h := hI.2.2.2.2.2.2.2.2.1 i hi
      simp +decide only [gup_at, gnew_at, gup_2, gnew_2, gtell, Prod.mk.injEq, true_and, and_true, false_and, and_false, if_true, if_false, eq_self, and_self, hq]
      exact h)
  · exact (gmiss_f (by simp +decide only [gup_at, gnew_at, gup_2, gnew_2, gtell, Prod.mk.injEq, true_and, and_true, false_and, and_false, if_true, if_false, eq_self, and_self]) (by simp +decide only [gup_at, gnew_at, gup_2, gnew_2, gtell, Prod.mk.injEq, true_and, and_true, false_and, and_false, if_true, if_false, eq_self, and_self]) (by simp +decide only [gup_at, gnew_at, gup_2, gnew_2, gtell, Prod.mk.injEq, true_and, and_true, false_and, and_false, if_true, if_false, eq_self, and_self]) (by simp +decide only [gup_at, gnew_at, gup_2, gnew_2, gtell, Prod.mk.injEq, true_and, and_true, false_and, and_false, if_true, if_false, eq_self, and_self]) (fun _ => by simp +decide only [gup_at, gnew_at, gup_2, gnew_2, gtell, Prod.mk.injEq, true_and, and_true, false_and, and_false, if_true, if_false, eq_self, and_self]) (fun _ => by simp +decide only [gup_at, gnew_at, gup_2, gnew_2, gtell, Prod.mk.injEq, true_and, and_true, false_and, and_false, if_true, if_false, eq_self, and_self]) hI.2.2.2.2.2.2.2.2.2.1)
  · exact (fun i hi => by
        have hi : i < C.2 6 0 := by simpa +decide only [gup_at, gnew_at, gup_2, gnew_2, gtell, Prod.mk.injEq, true_and, and_true, false_and, and_false, if_true, if_false, eq_self, and_self] using hi
        simp +decide only [gup_at, gnew_at, gup_2, gnew_2, gtell, Prod.mk.injEq, true_and, and_true, false_and, and_false, if_true, if_false, eq_self, and_self]
        exact hx.1 i hi)
  · exact (fun i hi => by
        have hi : i < C.2 7 0 := by simpa +decide only [gup_at, gnew_at, gup_2, gnew_2, gtell, Prod.mk.injEq, true_and, and_true, false_and, and_false, if_true, if_false, eq_self, and_self] using hi
        simp +decide only [gup_at, gnew_at, gup_2, gnew_2, gtell, Prod.mk.injEq, true_and, and_true, false_and, and_false, if_true, if_false, eq_self, and_self]
        exact hx.2.1 i hi)
  · exact (fun i hi => by
        have hi : i < C.2 8 0 := by simpa +decide only [gup_at, gnew_at, gup_2, gnew_2, gtell, Prod.mk.injEq, true_and, and_true, false_and, and_false, if_true, if_false, eq_self, and_self] using hi
        simp +decide only [gup_at, gnew_at, gup_2, gnew_2, gtell, Prod.mk.injEq, true_and, and_true, false_and, and_false, if_true, if_false, eq_self, and_self]
        exact gin_up (hx.2.2.1 i hi) (by omega) (by omega))
  · exact (fun i hi => by
        have hi : i < C.2 9 0 := by simpa +decide only [gup_at, gnew_at, gup_2, gnew_2, gtell, Prod.mk.injEq, true_and, and_true, false_and, and_false, if_true, if_false, eq_self, and_self] using hi
        simp +decide only [gup_at, gnew_at, gup_2, gnew_2, gtell, Prod.mk.injEq, true_and, and_true, false_and, and_false, if_true, if_false, eq_self, and_self]
        exact hx.2.2.2.1 i hi)
  · exact (fun i hi => by
        have hi : i < C.2 10 0 := by simpa +decide only [gup_at, gnew_at, gup_2, gnew_2, gtell, Prod.mk.injEq, true_and, and_true, false_and, and_false, if_true, if_false, eq_self, and_self] using hi
        simp +decide only [gup_at, gnew_at, gup_2, gnew_2, gtell, Prod.mk.injEq, true_and, and_true, false_and, and_false, if_true, if_false, eq_self, and_self]
        exact hx.2.2.2.2.1 i hi)
  · exact (by simp +decide only [gup_at, gnew_at, gup_2, gnew_2, gtell, Prod.mk.injEq, true_and, and_true, false_and, and_false, if_true, if_false, eq_self, and_self]; exact hx.2.2.2.2.2.1)
  · exact (fun i hi => by
        have hi : i < C.2 9 0 := by simpa +decide only [gup_at, gnew_at, gup_2, gnew_2, gtell, Prod.mk.injEq, true_and, and_true, false_and, and_false, if_true, if_false, eq_self, and_self] using hi
        simp +decide only [gup_at, gnew_at, gup_2, gnew_2, gtell, Prod.mk.injEq, true_and, and_true, false_and, and_false, if_true, if_false, eq_self, and_self]
        exact hx.2.2.2.2.2.2.1 i hi)
  · exact (fun i hi => by
        have hi : i < C.2 8 0 := by simpa +decide only [gup_at, gnew_at, gup_2, gnew_2, gtell, Prod.mk.injEq, true_and, and_true, false_and, and_false, if_true, if_false, eq_self, and_self] using hi
        simp +decide only [gup_at, gnew_at, gup_2, gnew_2, gtell, Prod.mk.injEq, true_and, and_true, false_and, and_false, if_true, if_false, eq_self, and_self]
        exact hx.2.2.2.2.2.2.2 i hi)

end Z38
