
section Z33
variable {κ : gq_K} {ad ad' : gKey → Nat} {C C' R : gG} {T : List (Nat × va_E)} {h : gq_H}
/-- a new list of parts gets its key -/
theorem gR.partsR {q : Nat} (hr : gR κ ad (C, R) ((q, .inr (3, [.int 0, .ref (κ.2.2 100), .int 0])) :: T) h) (hR : gfix R.2) (h13 : R.2 13 (R.2 11 0) = 0) : gR κ (gset ad (24, 7, R.2 11 0) q) (C, ginc R 4 7) T h := by
  refine hr.keyR (a := 4) (g := 7) (i := R.2 11 0) (Or.inr (Or.inr (Or.inr ⟨rfl, by decide, h13⟩))) hR.2.2.2.2.2.1 ?_ ?_
  · show _ = ghdr κ (R.2 (6 + 7) (R.2 11 0)) _
    rw [h13]
    rfl
  · show ∀ K' ∈ (if R.2 (6 + 7) (R.2 11 0) = 0 then [] else [((25, 7, R.2 11 0) : gKey)]), _
    rw [h13, if_pos rfl]
    intro K hK
    cases hK
theorem gl20i (hR : gfix R.2) : glive (C, ginc R 4 7) (20, 0, 0) := gl_R (by decide) (by decide) (by decide) (by decide) (by show 0 < (ginc R 4 7).2 0 0; rw [ginc_2, if_neg (fun z => absurd z.1 (by decide)), hR.1]; decide)
theorem gl245i (hR : gfix R.2) : glive (C, ginc R 4 7) (24, 5, 0) := gl_24 (by decide) (by show 0 < (ginc R 4 7).2 4 5; rw [ginc_2, if_neg (fun z => absurd z.2 (by decide)), hR.2.2.2.2.1 5 (by decide)]; decide)
theorem gl247i (hR : gfix R.2) : glive (C, ginc R 4 7) (24, 7, R.2 11 0) := gl_24 (by decide) (by show R.2 11 0 < (ginc R 4 7).2 4 7; rw [ginc_2, if_pos ⟨rfl, rfl⟩, hR.2.2.2.2.2.1]; omega)
theorem nR_11 {N : Nat → Nat → Nat} {x0 x1 x2 : Int32} {i q : Nat} (e : ad (24, 7, i) = q) : (.inr (17, [.int x0, .ref q, .int x2]) : va_E) = gentR1 κ ad N (glist [x0, x1, x2]) (31, 0, i) := by
  rw [← e]
  rfl
theorem gcnt_new {a g n : Nat} {row : Nat → Int32} (h : gcnt R.2) (hk : R.2 a g + 1 ≤ 144) : gcnt (gnew R (a, g, n) row).2 := by
  intro l g' hl
  rw [gnew_2]
  by_cases z : 6 + l = a ∧ g' = g
  · rw [if_pos z, z.1, z.2]; exact hk
  · rw [if_neg z]; exact h l g' hl
theorem gpk {p b c : Int32} (hb : gin 0 b p = true) (hp : ¬ 500 < p) (hc : gin 1 c 144 = true) : gmax 0 (c - (p - b)) = c - gmin c (p - b) := by
  obtain ⟨h1, h2⟩ := gin_iff.mp hb
  obtain ⟨h3, h4⟩ := gin_iff.mp hc
  rw [Int32.lt_iff_toInt_lt] at h1 h2 h3 h4 hp
  have e0 : (0 : Int32).toInt = 0 := rfl
  have e1 : (1 : Int32).toInt = 1 := rfl
  have e4 : (144 : Int32).toInt = 144 := rfl
  have e5 : (500 : Int32).toInt = 500 := rfl
  have s1 : (p - b).toInt = p.toInt - b.toInt := by
    rw [Int32.toInt_sub, Int.bmod_def]
    split <;> omega
  have s2 : (c - (p - b)).toInt = c.toInt - (p.toInt - b.toInt) := by
    rw [Int32.toInt_sub, s1, Int.bmod_def]
    split <;> omega
  unfold gmax gmin
  by_cases z : p - b < c
  · rw [if_pos z]
    rw [Int32.lt_iff_toInt_lt, s1] at z
    rw [if_pos (by rw [Int32.lt_iff_toInt_lt, s2]; omega)]
  · rw [if_neg z]
    rw [Int32.lt_iff_toInt_lt, s1] at z
    rw [if_neg (by rw [Int32.lt_iff_toInt_lt, s2]; omega), Int32.sub_self]
theorem gpk_n {p c : Int32} {n : Nat} (hn : (n : Int) ≤ p.toInt) (h1 : ¬ 144 < p) (h2 : ¬ 144 < p + c) (hc : gin 1 c 144 = true) : n + 1 ≤ 144 := by
  obtain ⟨h3, h4⟩ := gin_iff.mp hc
  rw [Int32.lt_iff_toInt_lt] at h1 h2 h3 h4
  have e1 : (1 : Int32).toInt = 1 := rfl
  have e4 : (144 : Int32).toInt = 144 := rfl
  rw [Int32.toInt_add, Int.bmod_def] at h2
  split at h2 <;> omega
/-- the pencils of a gross with one part more -/
theorem gpk_sum {S : gG} {g : Nat} {row : Nat → Int32} (he : R.1 (11, 0, g) 1 = gsum (fun j => R.1 (13, g, j) 1) (R.2 13 g)) (h2 : S.2 = R.2) (h13 : ∀ j, S.1 (13, g, j) 1 = R.1 (13, g, j) 1) (h11 : S.1 (11, 0, g) 1 = R.1 (11, 0, g) 1) : gsum (fun j => (gnew S (13, g, R.2 13 g) row).1 (13, g, j) 1) ((gnew S (13, g, R.2 13 g) row).2 13 g) = (gnew S (13, g, R.2 13 g) row).1 (11, 0, g) 1 + (gnew S (13, g, R.2 13 g) row).1 (13, g, R.2 13 g) 1 := by
  rw [gnew_n, h2, gsum_1]
  rw [gnew_1n (K' := (11, 0, g)) row (by simp), h11, he]
  refine congrArg (· + _) (gsum_c fun j hj => ?_)
  rw [gnew_1n row (by intro z; have := congrArg (·.2.2) z; simp only at this; omega), h13]
theorem gnew_2n {R : gG} {a g n x y : Nat} {row : Nat → Int32} (h : x ≠ a) : (gnew R (a, g, n) row).2 x y = R.2 x y := if_neg (fun z => h z.1)

theorem r_gross {κ : gq_K} {ad : gKey → Nat} {C Rp R : gG} {T : List (Nat × va_E)} {n : Nat} (hb : gup Rp (0, 0, 0) 5 0 = R) (hI : gI n R) (hn : n ≤ 512) (a : Int32) : gq_C κ mX16_gross [.ref (ad (20, 0, 0)), .int (a)] (gR κ ad (C, Rp) T) (gP κ ad C T (F_gross R a)) (gq_no) := by
  refine gq_enter (by decide +kernel) rfl (Nat.le_of_ble_eq_true rfl) rfl (fun f o => ?_)
  have hR := hI.fix
  have hBR := hI.cnt
  have hRp : gfix Rp.2 := by rw [← hb] at hR; exact hR
  have h5 : R.1 (0, 0, 0) 5 = 0 := by rw [← hb]; exact gup_v _ _ _ _
  have h13 : R.2 13 (R.2 11 0) = 0 := hI.1.2.2.2 _ (Nat.le_refl _)
  refine y_aload_n (pc := 0) o dX16_gross_0 rfl ?_
  refine z_callVv (pc := 1) (k := 0) (n := 0) (k' := 0) (n' := 0) o (b := ad (20, 0, 0)) (As := []) (rest := []) (kBegins hRp) ln_X16_69 dX16_gross_1 (z_rc (ci := 20) (K := (20, 0, 0)) rfl (gl_20 hRp) rfl) rfl rfl (Nat.le_of_ble_eq_true rfl) ⟨by decide, by decide⟩ ⟨rfl, rfl⟩ ⟨by decide, by decide⟩ rfl gq_nox2 ?_
  rw [hb]
  refine y_aload_n (pc := 4) o dX16_gross_4 rfl ?_
  refine y_iload_n (pc := 5) o dX16_gross_5 rfl ?_
  refine y_i2l (pc := 6) o dX16_gross_6 ?_
  refine y_lconst (pc := 7) (x := 0) o dX16_gross_7 (by decide) ?_
  refine y_ldc2 (pc := 8) o dX16_gross_8 qw_1683 ?_
  refine z_callS (pc := 11) (k := 0) (n := 0) (k' := 0) (n' := 0) o (As := [.long (a.toInt64), .long (0), .long (19)]) (rest := [.ref (ad (20, 0, 0))]) (kIn a 0 19) ln_X16_13 dX16_gross_11 rfl rfl (Nat.le_of_ble_eq_true rfl) ⟨by decide, by decide⟩ ⟨rfl, rfl⟩ ⟨by decide, by decide⟩ rfl gq_nox2 ?_
  refine z_bne (pc := 14) (tgt := 21) o dX16_gross_14 rfl (fun (b1 : gin 0 a 19 = true) => ?_) (fun (b1 : ¬ (gin 0 a 19 = true)) => ?_)
  · refine y_iconst (pc := 21) (x := 0) o dX16_gross_21 (by decide) ?_
    refine y_iconst (pc := 22) (x := 1) o dX16_gross_22 (by decide) ?_
    refine z_callV (pc := 23) (k := 0) (n := 0) (k' := 0) (n' := 0) o (b := ad (20, 0, 0)) (As := [.int (0), .int (1)]) (rest := []) (kFailsF hR h5 1) ln_X16_74 dX16_gross_23 (z_rc (ci := 20) (K := (20, 0, 0)) rfl (gl_20 hR) rfl) rfl rfl (Nat.le_of_ble_eq_true rfl) ⟨by decide, by decide⟩ ⟨rfl, rfl⟩ ⟨by decide, by decide⟩ rfl gq_nox2 ?_
    refine y_if_ne (pc := 26) (tgt := 56) o dX16_gross_26 rfl (fun b2 => absurd b2 (by decide)) (fun (b2 : 0 = 0) => ?_)
    refine y_aload_n (pc := 29) o dX16_gross_29 rfl ?_
    refine y_aload_n (pc := 30) o dX16_gross_30 rfl ?_
    refine z_get (pc := 31) (K := (20, 0, 0)) (v := .ref (ad (24, 5, 0))) o fl_X16_60 dX16_gross_31 (gl_20 hR) rfl rfl ?_
    refine z_callF (pc := 34) (k := 0) (n := 0) (k' := 0) (n' := 0) (ci := 3) o (b := ad (24, 5, 0)) (As := []) (rest := [.ref (ad (20, 0, 0))]) (sizeR (l := 5) (g := 0) (gl_24_5 hR)) rfl lf_X16_7 dX16_gross_34 (fun h hr => ⟨_, ghdr_R (R := R) (gl_24_5 hR) hr⟩) rfl rfl (Nat.le_of_ble_eq_true rfl) ⟨by decide, by decide⟩ ⟨rfl, rfl⟩ ⟨by decide, by decide⟩ ?_
    refine y_bipush (pc := 39) (x := 30) o dX16_gross_39 (by decide) ?_
    refine y_icmp_ne (pc := 41) (tgt := 48) o dX16_gross_41 rfl (fun (b3 : ¬ (Int32.ofNat (R.2 11 0)) = 30) => ?_) (fun (b3 : (Int32.ofNat (R.2 11 0)) = 30) => ?_)
    · refine y_iconst (pc := 48) (x := 0) o dX16_gross_48 (by decide) ?_
      refine y_iconst (pc := 49) (x := 2) o dX16_gross_49 (by decide) ?_
      refine z_callV (pc := 50) (k := 0) (n := 0) (k' := 0) (n' := 0) o (b := ad (20, 0, 0)) (As := [.int (0), .int (2)]) (rest := []) (kFailsF hR h5 2) ln_X16_74 dX16_gross_50 (z_rc (ci := 20) (K := (20, 0, 0)) rfl (gl_20 hR) rfl) rfl rfl (Nat.le_of_ble_eq_true rfl) ⟨by decide, by decide⟩ ⟨rfl, rfl⟩ ⟨by decide, by decide⟩ rfl gq_nox2 ?_
      refine y_if_eq (pc := 53) (tgt := 58) o dX16_gross_53 rfl (fun (b4 : 0 = 0) => ?_) (fun b4 => absurd b4 (by rw [b2]; decide))
      refine z_new (pc := 58) (k := 0) (n := 0) o nw_X16_281 dX16_gross_58 (by decide) (by decide) (fun q5 => ?_)
      refine y_dup (pc := 61) o dX16_gross_61 rfl ?_
      refine y_callI (pc := 62) (k := 1) (n := 3) o (b := q5) (As := []) (rest := [.ref (q5)]) (kX13_init _) ln_X16_283 dX16_gross_62 rfl rfl (Nat.le_of_ble_eq_true rfl) ⟨by decide, by decide⟩ ⟨by decide, by decide⟩ (fun _ e => e) gq_nox2 (fun v => y_and fun ev => y_ex fun ql => ?_)
      subst ev
      refine y_mono (P' := gR κ (gset ad (24, 7, R.2 11 0) ql) (C, ginc R 4 7) ((q5, .inr (17, [.int 0, .ref ql, .int 0])) :: T)) (fun h hr => hr.partsR hR h13) ?_
      obtain ⟨ad1, ha1⟩ : ∃ ad1, ad1 = gset ad (24, 7, R.2 11 0) ql := ⟨_, rfl⟩
      rw [← ha1]
      have h47 : ad1 (24, 7, R.2 11 0) = ql := by rw [ha1, gset_eq]
      have hk1 : ∀ K : gKey, K ≠ (24, 7, R.2 11 0) → ad1 K = ad K := fun K hK => by rw [ha1, gset_ne _ _ hK]
      have f0 : ad1 (0, 0, 0) = ad (0, 0, 0) := hk1 _ (by simp)
      have f20 : ad1 (20, 0, 0) = ad (20, 0, 0) := hk1 _ (by simp)
      refine z_st (st' := [.ref (q5)]) rfl ?_
      rw [← f20]
      refine y_astore_n (pc := 65) (i := 2) (lv' := [(2, .ref (q5)), (0, .ref (ad1 (20, 0, 0))), (1, .int (a))]) o dX16_gross_65 rfl (by decide) rfl ?_
      refine y_aload_n (pc := 66) o dX16_gross_66 rfl ?_
      refine y_iload_n (pc := 67) o dX16_gross_67 rfl ?_
      refine z_putT (pc := 68) (fs' := [.int (a), .ref (ql), .int (0)]) (T' := (q5, .inr (17, [.int (a), .ref (ql), .int (0)])) :: T) o 0 fw_X16_284 dX16_gross_68 rfl (Nat.le_of_ble_eq_true rfl) (vp_nar_int _) rfl rfl rfl ?_
      refine y_aload_n (pc := 71) o dX16_gross_71 rfl ?_
      refine z_get (pc := 72) (K := (20, 0, 0)) (v := .ref (ad1 (24, 5, 0))) o fl_X16_60 dX16_gross_72 (gl20i hR) rfl rfl ?_
      refine y_aload_n (pc := 75) o dX16_gross_75 rfl ?_
      refine y_callF (pc := 76) (ci := 3) (k := 2) (n := 6) o (b := ad1 (24, 5, 0)) (As := [.ref q5]) (rest := []) (addRa (C := C) (R := ginc R 4 7) (l := 5) (g := 0) (n := R.2 11 0) (row := glist [a, 0, 0]) (a := 11) rfl (gl245i hR) (Or.inr rfl) rfl (hBR 5 0 (by decide)) (nR_11 h47) (by intro K hK; have hK : K ∈ ([(24, 7, R.2 11 0)] : List gKey) := hK; rw [List.mem_singleton] at hK; rw [hK]; exact gl247i hR)) rfl lf_X16_107 dX16_gross_76 (fun h hr => ⟨_, ghdr_R (R := ginc R 4 7) (gl245i hR) hr⟩) rfl rfl (Nat.le_of_ble_eq_true rfl) ⟨by decide, by decide⟩ ⟨by decide, by decide⟩ (fun _ e => e) (fun _ _ z => z) (fun v => y_and fun ev => y_ex fun ad2 => y_and fun had => y_and fun hadq => ?_)
      subst ev
      have e1 : ad2 (20, 0, 0) = ad1 (20, 0, 0) := had _ (by simp) (by simp)
      have e0 : ad2 (0, 0, 0) = ad (0, 0, 0) := (had _ (by simp) (by simp)).trans f0
      have e20 : ad2 (20, 0, 0) = ad (20, 0, 0) := e1.trans f20
      refine z_st (st' := [.int 1]) rfl ?_
      rw [← e1]
      refine y_pop (pc := 81) o dX16_gross_81 rfl ?_
      refine y_aload_n (pc := 82) o dX16_gross_82 rfl ?_
      refine z_get (pc := 83) (K := (20, 0, 0)) (v := .ref (ad2 (24, 5, 0))) o fl_X16_60 dX16_gross_83 (gl_20 (gfix_gross hR)) rfl rfl ?_
      refine z_callF (pc := 86) (k := 3) (n := 262) (k' := 3) (n' := 262) (ci := 3) o (b := ad2 (24, 5, 0)) (As := []) (rest := []) (sizeR (l := 5) (g := 0) (gl_24_5 (gfix_gross hR))) rfl lf_X16_7 dX16_gross_86 (fun h hr => ⟨_, ghdr_R (R := (gnew (ginc R 4 7) (11, 0, R.2 11 0) (glist [a, 0, 0]))) (gl_24_5 (gfix_gross hR)) hr⟩) rfl rfl (Nat.le_of_ble_eq_true rfl) ⟨by decide, by decide⟩ ⟨rfl, rfl⟩ ⟨by decide, by decide⟩ ?_
      refine z_top (w := .int (Int32.ofNat (R.2 11 0 + 1))) (congrArg (fun z => Value.int (Int32.ofNat z)) (gnew_n2 _ _ _)) ?_
      refine y_iconst (pc := 91) (x := 1) o dX16_gross_91 (by decide) ?_
      refine y_isub (pc := 92) o dX16_gross_92 ?_
      exact y_iret (pc := 93) o dX16_gross_93 rfl (vp_nar_int _) (by decide) (by decide) (fun h hp => gP_mk (by simp +decide only [F_gross, b1, gsz_f (k := 30) 30 rfl (by decide) hI.1.2.1.2.2.2.2.2.1 b3, gtc0, gtc1, gtc2, gtc3, gtc4, not_true_eq_false, not_false_eq_true, if_true, if_false, or_true, true_or, or_false, false_or, and_true, true_and, and_false, false_and, or_self, and_self, eq_self, Bool.false_eq_true, ne_eq, reduceIte]) e0 e20 hp)
    refine y_iconst (pc := 44) (x := 1) o dX16_gross_44 (by decide) ?_
    refine y_goto (pc := 45) (tgt := 49) o dX16_gross_45 rfl ?_
    refine y_iconst (pc := 49) (x := 2) o dX16_gross_49 (by decide) ?_
    refine z_callV (pc := 50) (k := 0) (n := 0) (k' := 0) (n' := 0) o (b := ad (20, 0, 0)) (As := [.int (1), .int (2)]) (rest := []) (kFailsT hR h5 2 (by decide)) ln_X16_74 dX16_gross_50 (z_rc (ci := 20) (K := (20, 0, 0)) rfl (gl_20 hR) rfl) rfl rfl (Nat.le_of_ble_eq_true rfl) ⟨by decide, by decide⟩ ⟨rfl, rfl⟩ ⟨by decide, by decide⟩ rfl gq_nox2 ?_
    refine y_if_eq (pc := 53) (tgt := 58) o dX16_gross_53 rfl (fun b6 => absurd b6 (by decide)) (fun (b6 : ¬ 1 = 0) => ?_)
    refine y_iconst (pc := 56) (x := -1) o dX16_gross_56 (by decide) ?_
    exact y_iret (pc := 57) o dX16_gross_57 rfl (vp_nar_int _) (by decide) (by decide) (fun h hp => gP_thr (k := 2) (by simp +decide only [F_gross, b1, gsz_t b3, gtc0, gtc1, gtc2, gtc3, gtc4, not_true_eq_false, not_false_eq_true, if_true, if_false, or_true, true_or, or_false, false_or, and_true, true_and, and_false, false_and, or_self, and_self, eq_self, Bool.false_eq_true, ne_eq, reduceIte]) (by decide) hp)
  refine y_iconst (pc := 17) (x := 1) o dX16_gross_17 (by decide) ?_
  refine y_goto (pc := 18) (tgt := 22) o dX16_gross_18 rfl ?_
  refine y_iconst (pc := 22) (x := 1) o dX16_gross_22 (by decide) ?_
  refine z_callV (pc := 23) (k := 0) (n := 0) (k' := 0) (n' := 0) o (b := ad (20, 0, 0)) (As := [.int (1), .int (1)]) (rest := []) (kFailsT hR h5 1 (by decide)) ln_X16_74 dX16_gross_23 (z_rc (ci := 20) (K := (20, 0, 0)) rfl (gl_20 hR) rfl) rfl rfl (Nat.le_of_ble_eq_true rfl) ⟨by decide, by decide⟩ ⟨rfl, rfl⟩ ⟨by decide, by decide⟩ rfl gq_nox2 ?_
  refine y_if_ne (pc := 26) (tgt := 56) o dX16_gross_26 rfl (fun (b7 : ¬ 1 = 0) => ?_) (fun b7 => absurd b7 (by decide))
  refine y_iconst (pc := 56) (x := -1) o dX16_gross_56 (by decide) ?_
  exact y_iret (pc := 57) o dX16_gross_57 rfl (vp_nar_int _) (by decide) (by decide) (fun h hp => gP_thr (k := 1) (by simp +decide only [F_gross, b1, gtc0, gtc1, gtc2, gtc3, gtc4, not_true_eq_false, not_false_eq_true, if_true, if_false, or_true, true_or, or_false, false_or, and_true, true_and, and_false, false_and, or_self, and_self, eq_self, Bool.false_eq_true, ne_eq, reduceIte]) (by decide) hp)

theorem r_pack {κ : gq_K} {ad : gKey → Nat} {C Rp R : gG} {T : List (Nat × va_E)} {n : Nat} (hb : gup Rp (0, 0, 0) 5 0 = R) (hI : gI n R) (hn : n ≤ 512) (a : Int32) (b : Int32) (c : Int32) : gq_C κ mX16_pack [.ref (ad (20, 0, 0)), .int (a), .int (b), .int (c)] (gR κ ad (C, Rp) T) (gP κ ad C T (F_pack R a b c)) (gq_no) := by
  refine gq_enter (by decide +kernel) rfl (Nat.le_of_ble_eq_true rfl) rfl (fun f o => ?_)
  have hR := hI.fix
  have hBR := hI.cnt
  have hRp : gfix Rp.2 := by rw [← hb] at hR; exact hR
  have h5 : R.1 (0, 0, 0) 5 = 0 := by rw [← hb]; exact gup_v _ _ _ _
  refine y_aload_n (pc := 0) o dX16_pack_0 rfl ?_
  refine z_callVv (pc := 1) (k := 0) (n := 0) (k' := 0) (n' := 0) o (b := ad (20, 0, 0)) (As := []) (rest := []) (kBegins hRp) ln_X16_69 dX16_pack_1 (z_rc (ci := 20) (K := (20, 0, 0)) rfl (gl_20 hRp) rfl) rfl rfl (Nat.le_of_ble_eq_true rfl) ⟨by decide, by decide⟩ ⟨rfl, rfl⟩ ⟨by decide, by decide⟩ rfl gq_nox2 ?_
  rw [hb]
  refine y_aload_n (pc := 4) o dX16_pack_4 rfl ?_
  refine y_aload_n (pc := 5) o dX16_pack_5 rfl ?_
  refine z_get (pc := 6) (K := (20, 0, 0)) (v := .ref (ad (24, 5, 0))) o fl_X16_60 dX16_pack_6 (gl_20 hR) rfl rfl ?_
  refine y_iload_n (pc := 9) o dX16_pack_9 rfl ?_
  refine z_callS (pc := 10) (k := 0) (n := 0) (k' := 0) (n' := 0) o (As := [.ref (ad (24, 5, 0)), .int (a)]) (rest := [.ref (ad (20, 0, 0))]) (kIsOf (l := 5) (g := 0) (gl_24_5 hR) hBR a) ln_X16_97 dX16_pack_10 rfl rfl (Nat.le_of_ble_eq_true rfl) ⟨by decide, by decide⟩ ⟨rfl, rfl⟩ ⟨by decide, by decide⟩ rfl gq_nox2 ?_
  refine z_beq (pc := 13) (tgt := 27) o dX16_pack_13 rfl (fun (b1 : ¬ (gix (R.2 11 0) a = true)) => ?_) (fun (b1 : gix (R.2 11 0) a = true) => ?_)
  · refine y_iconst (pc := 27) (x := 1) o dX16_pack_27 (by decide) ?_
    refine y_goto (pc := 28) (tgt := 32) o dX16_pack_28 rfl ?_
    refine y_iconst (pc := 32) (x := 1) o dX16_pack_32 (by decide) ?_
    refine z_callV (pc := 33) (k := 0) (n := 0) (k' := 0) (n' := 0) o (b := ad (20, 0, 0)) (As := [.int (1), .int (1)]) (rest := []) (kFailsT hR h5 1 (by decide)) ln_X16_74 dX16_pack_33 (z_rc (ci := 20) (K := (20, 0, 0)) rfl (gl_20 hR) rfl) rfl rfl (Nat.le_of_ble_eq_true rfl) ⟨by decide, by decide⟩ ⟨rfl, rfl⟩ ⟨by decide, by decide⟩ rfl gq_nox2 ?_
    refine y_if_ne (pc := 36) (tgt := 64) o dX16_pack_36 rfl (fun (b2 : ¬ 1 = 0) => ?_) (fun b2 => absurd b2 (by decide))
    refine y_iconst (pc := 64) (x := -1) o dX16_pack_64 (by decide) ?_
    exact y_iret (pc := 65) o dX16_pack_65 rfl (vp_nar_int _) (by decide) (by decide) (fun h hp => gP_thr (k := 1) (by simp +decide only [F_pack, b1, gtc0, gtc1, gtc2, gtc3, gtc4, not_true_eq_false, not_false_eq_true, if_true, if_false, or_true, true_or, or_false, false_or, and_true, true_and, and_false, false_and, or_self, and_self, eq_self, Bool.false_eq_true, ne_eq, reduceIte]) (by decide) hp)
  refine y_aload_n (pc := 16) o dX16_pack_16 rfl ?_
  refine z_get (pc := 17) (K := (20, 0, 0)) (v := .ref (ad (24, 4, 0))) o fl_X16_57 dX16_pack_17 (gl_20 hR) rfl rfl ?_
  refine y_iload_n (pc := 20) o dX16_pack_20 rfl ?_
  refine z_callS (pc := 21) (k := 0) (n := 0) (k' := 0) (n' := 0) o (As := [.ref (ad (24, 4, 0)), .int (b)]) (rest := [.ref (ad (20, 0, 0))]) (kIsOf (l := 4) (g := 0) (gl_24_4 hR) hBR b) ln_X16_97 dX16_pack_21 rfl rfl (Nat.le_of_ble_eq_true rfl) ⟨by decide, by decide⟩ ⟨rfl, rfl⟩ ⟨by decide, by decide⟩ rfl gq_nox2 ?_
  refine z_bne (pc := 24) (tgt := 31) o dX16_pack_24 rfl (fun (b3 : gix (R.2 10 0) b = true) => ?_) (fun (b3 : ¬ (gix (R.2 10 0) b = true)) => ?_)
  · refine y_iconst (pc := 31) (x := 0) o dX16_pack_31 (by decide) ?_
    refine y_iconst (pc := 32) (x := 1) o dX16_pack_32 (by decide) ?_
    refine z_callV (pc := 33) (k := 0) (n := 0) (k' := 0) (n' := 0) o (b := ad (20, 0, 0)) (As := [.int (0), .int (1)]) (rest := []) (kFailsF hR h5 1) ln_X16_74 dX16_pack_33 (z_rc (ci := 20) (K := (20, 0, 0)) rfl (gl_20 hR) rfl) rfl rfl (Nat.le_of_ble_eq_true rfl) ⟨by decide, by decide⟩ ⟨rfl, rfl⟩ ⟨by decide, by decide⟩ rfl gq_nox2 ?_
    refine y_if_ne (pc := 36) (tgt := 64) o dX16_pack_36 rfl (fun b4 => absurd b4 (by decide)) (fun (b4 : 0 = 0) => ?_)
    refine y_aload_n (pc := 39) o dX16_pack_39 rfl ?_
    refine y_iload_n (pc := 40) o dX16_pack_40 rfl ?_
    refine y_i2l (pc := 41) o dX16_pack_41 ?_
    refine y_lconst (pc := 42) (x := 1) o dX16_pack_42 (by decide) ?_
    refine y_ldc2 (pc := 43) o dX16_pack_43 qw_1707 ?_
    refine z_callS (pc := 46) (k := 0) (n := 0) (k' := 0) (n' := 0) o (As := [.long (c.toInt64), .long (1), .long (144)]) (rest := [.ref (ad (20, 0, 0))]) (kIn c 1 144) ln_X16_13 dX16_pack_46 rfl rfl (Nat.le_of_ble_eq_true rfl) ⟨by decide, by decide⟩ ⟨rfl, rfl⟩ ⟨by decide, by decide⟩ rfl gq_nox2 ?_
    refine z_bne (pc := 49) (tgt := 56) o dX16_pack_49 rfl (fun (b5 : gin 1 c 144 = true) => ?_) (fun (b5 : ¬ (gin 1 c 144 = true)) => ?_)
    · refine y_iconst (pc := 56) (x := 0) o dX16_pack_56 (by decide) ?_
      refine y_iconst (pc := 57) (x := 2) o dX16_pack_57 (by decide) ?_
      refine z_callV (pc := 58) (k := 0) (n := 0) (k' := 0) (n' := 0) o (b := ad (20, 0, 0)) (As := [.int (0), .int (2)]) (rest := []) (kFailsF hR h5 2) ln_X16_74 dX16_pack_58 (z_rc (ci := 20) (K := (20, 0, 0)) rfl (gl_20 hR) rfl) rfl rfl (Nat.le_of_ble_eq_true rfl) ⟨by decide, by decide⟩ ⟨rfl, rfl⟩ ⟨by decide, by decide⟩ rfl gq_nox2 ?_
      refine y_if_eq (pc := 61) (tgt := 66) o dX16_pack_61 rfl (fun (b6 : 0 = 0) => ?_) (fun b6 => absurd b6 (by rw [b4]; decide))
      refine y_aload_n (pc := 66) o dX16_pack_66 rfl ?_
      refine z_get (pc := 67) (K := (20, 0, 0)) (v := .ref (ad (24, 5, 0))) o fl_X16_60 dX16_pack_67 (gl_20 hR) rfl rfl ?_
      refine y_iload_n (pc := 70) o dX16_pack_70 rfl ?_
      refine z_callF (pc := 71) (k := 0) (n := 0) (k' := 0) (n' := 0) (ci := 3) o (b := ad (24, 5, 0)) (As := [.int (a)]) (rest := []) (getR (l := 5) (g := 0) (gl_24_5 hR) (hBR 5 0 (by decide)) b1) rfl lf_X16_114 dX16_pack_71 (fun h hr => ⟨_, ghdr_R (R := R) (gl_24_5 hR) hr⟩) rfl rfl (Nat.le_of_ble_eq_true rfl) ⟨by decide, by decide⟩ ⟨rfl, rfl⟩ ⟨by decide, by decide⟩ ?_
      refine z_cast (pc := 76) (ci := 17) (K := (31, 0, a.toNatClampNeg)) o rfl qw_1684 dX16_pack_76 (gl_31 (gix_lt (Nat.le_trans (hBR 5 0 (by decide)) (by decide)) b1)) rfl ?_
      refine y_astore (pc := 79) (i := 4) (lv' := [(4, .ref (ad (31, 0, a.toNatClampNeg))), (0, .ref (ad (20, 0, 0))), (1, .int (a)), (2, .int (b)), (3, .int (c))]) o dX16_pack_79 (by decide) rfl ?_
      refine y_aload_n (pc := 81) o dX16_pack_81 rfl ?_
      refine z_get (pc := 82) (K := (20, 0, 0)) (v := .ref (ad (24, 4, 0))) o fl_X16_57 dX16_pack_82 (gl_20 hR) rfl rfl ?_
      refine y_iload_n (pc := 85) o dX16_pack_85 rfl ?_
      refine z_callF (pc := 86) (k := 0) (n := 0) (k' := 0) (n' := 0) (ci := 3) o (b := ad (24, 4, 0)) (As := [.int (b)]) (rest := []) (getR (l := 4) (g := 0) (gl_24_4 hR) (hBR 4 0 (by decide)) b3) rfl lf_X16_114 dX16_pack_86 (fun h hr => ⟨_, ghdr_R (R := R) (gl_24_4 hR) hr⟩) rfl rfl (Nat.le_of_ble_eq_true rfl) ⟨by decide, by decide⟩ ⟨rfl, rfl⟩ ⟨by decide, by decide⟩ ?_
      refine z_cast (pc := 91) (ci := 18) (K := (30, 0, b.toNatClampNeg)) o rfl qw_1601 dX16_pack_91 (gl_30 (gix_lt (Nat.le_trans (hBR 4 0 (by decide)) (by decide)) b3)) rfl ?_
      refine y_astore (pc := 94) (i := 5) (lv' := [(5, .ref (ad (30, 0, b.toNatClampNeg))), (4, .ref (ad (31, 0, a.toNatClampNeg))), (0, .ref (ad (20, 0, 0))), (1, .int (a)), (2, .int (b)), (3, .int (c))]) o dX16_pack_94 (by decide) rfl ?_
      refine y_aload_n (pc := 96) o dX16_pack_96 rfl ?_
      refine y_aload (pc := 97) o dX16_pack_97 rfl ?_
      refine z_get (pc := 99) (K := (30, 0, b.toNatClampNeg)) (v := .int (R.1 (10, 0, b.toNatClampNeg) 9)) o fl_X16_262 dX16_pack_99 (gl_30 (gix_lt (Nat.le_trans (hBR 4 0 (by decide)) (by decide)) b3)) rfl rfl ?_
      refine y_aload (pc := 102) o dX16_pack_102 rfl ?_
      refine z_get (pc := 104) (K := (31, 0, a.toNatClampNeg)) (v := .int (R.1 (11, 0, a.toNatClampNeg) 0)) o fl_X16_284 dX16_pack_104 (gl_31 (gix_lt (Nat.le_trans (hBR 5 0 (by decide)) (by decide)) b1)) rfl rfl ?_
      refine y_icmp_ne (pc := 107) (tgt := 152) o dX16_pack_107 rfl (fun (b7 : ¬ (R.1 (10, 0, b.toNatClampNeg) 9) = (R.1 (11, 0, a.toNatClampNeg) 0)) => ?_) (fun (b7 : (R.1 (10, 0, b.toNatClampNeg) 9) = (R.1 (11, 0, a.toNatClampNeg) 0)) => ?_)
      · refine y_iconst (pc := 152) (x := 1) o dX16_pack_152 (by decide) ?_
        refine y_goto (pc := 153) (tgt := 157) o dX16_pack_153 rfl ?_
        refine y_iconst (pc := 157) (x := 3) o dX16_pack_157 (by decide) ?_
        refine z_callV (pc := 158) (k := 0) (n := 0) (k' := 0) (n' := 0) o (b := ad (20, 0, 0)) (As := [.int (1), .int (3)]) (rest := []) (kFailsT hR h5 3 (by decide)) ln_X16_74 dX16_pack_158 (z_rc (ci := 20) (K := (20, 0, 0)) rfl (gl_20 hR) rfl) rfl rfl (Nat.le_of_ble_eq_true rfl) ⟨by decide, by decide⟩ ⟨rfl, rfl⟩ ⟨by decide, by decide⟩ rfl gq_nox2 ?_
        refine y_if_eq (pc := 161) (tgt := 166) o dX16_pack_161 rfl (fun b8 => absurd b8 (by decide)) (fun (b8 : ¬ 1 = 0) => ?_)
        refine y_iconst (pc := 164) (x := -1) o dX16_pack_164 (by decide) ?_
        exact y_iret (pc := 165) o dX16_pack_165 rfl (vp_nar_int _) (by decide) (by decide) (fun h hp => gP_thr (k := 3) (by simp +decide only [F_pack, b1, b3, b5, b7, gtc0, gtc1, gtc2, gtc3, gtc4, not_true_eq_false, not_false_eq_true, if_true, if_false, or_true, true_or, or_false, false_or, and_true, true_and, and_false, false_and, or_self, and_self, eq_self, Bool.false_eq_true, ne_eq, reduceIte]) (by decide) hp)
      refine y_aload_n (pc := 110) o dX16_pack_110 rfl ?_
      refine z_get (pc := 111) (K := (20, 0, 0)) (v := .int (R.1 (0, 0, 0) 0)) o fl_X16_78 dX16_pack_111 (gl_20 hR) rfl rfl ?_
      refine y_aload (pc := 114) o dX16_pack_114 rfl ?_
      refine z_get (pc := 116) (K := (30, 0, b.toNatClampNeg)) (v := .int (R.1 (10, 0, b.toNatClampNeg) 6)) o fl_X16_252 dX16_pack_116 (gl_30 (gix_lt (Nat.le_trans (hBR 4 0 (by decide)) (by decide)) b3)) rfl rfl ?_
      refine y_icmp_lt (pc := 119) (tgt := 152) o dX16_pack_119 rfl (fun (b9 : (R.1 (0, 0, 0) 0) < (R.1 (10, 0, b.toNatClampNeg) 6)) => ?_) (fun (b9 : ¬ (R.1 (0, 0, 0) 0) < (R.1 (10, 0, b.toNatClampNeg) 6)) => ?_)
      · refine y_iconst (pc := 152) (x := 1) o dX16_pack_152 (by decide) ?_
        refine y_goto (pc := 153) (tgt := 157) o dX16_pack_153 rfl ?_
        refine y_iconst (pc := 157) (x := 3) o dX16_pack_157 (by decide) ?_
        refine z_callV (pc := 158) (k := 0) (n := 0) (k' := 0) (n' := 0) o (b := ad (20, 0, 0)) (As := [.int (1), .int (3)]) (rest := []) (kFailsT hR h5 3 (by decide)) ln_X16_74 dX16_pack_158 (z_rc (ci := 20) (K := (20, 0, 0)) rfl (gl_20 hR) rfl) rfl rfl (Nat.le_of_ble_eq_true rfl) ⟨by decide, by decide⟩ ⟨rfl, rfl⟩ ⟨by decide, by decide⟩ rfl gq_nox2 ?_
        refine y_if_eq (pc := 161) (tgt := 166) o dX16_pack_161 rfl (fun b10 => absurd b10 (by decide)) (fun (b10 : ¬ 1 = 0) => ?_)
        refine y_iconst (pc := 164) (x := -1) o dX16_pack_164 (by decide) ?_
        exact y_iret (pc := 165) o dX16_pack_165 rfl (vp_nar_int _) (by decide) (by decide) (fun h hp => gP_thr (k := 3) (by simp +decide only [F_pack, b1, b3, b5, b7, b9, gtc0, gtc1, gtc2, gtc3, gtc4, not_true_eq_false, not_false_eq_true, if_true, if_false, or_true, true_or, or_false, false_or, and_true, true_and, and_false, false_and, or_self, and_self, eq_self, Bool.false_eq_true, ne_eq, reduceIte]) (by decide) hp)
      refine y_aload (pc := 122) o dX16_pack_122 rfl ?_
      refine z_get (pc := 124) (K := (30, 0, b.toNatClampNeg)) (v := .int (R.1 (10, 0, b.toNatClampNeg) 3)) o fl_X16_248 dX16_pack_124 (gl_30 (gix_lt (Nat.le_trans (hBR 4 0 (by decide)) (by decide)) b3)) rfl rfl ?_
      refine y_iload_n (pc := 127) o dX16_pack_127 rfl ?_
      refine y_icmp_lt (pc := 128) (tgt := 152) o dX16_pack_128 rfl (fun (b11 : (R.1 (10, 0, b.toNatClampNeg) 3) < c) => ?_) (fun (b11 : ¬ (R.1 (10, 0, b.toNatClampNeg) 3) < c) => ?_)
      · refine y_iconst (pc := 152) (x := 1) o dX16_pack_152 (by decide) ?_
        refine y_goto (pc := 153) (tgt := 157) o dX16_pack_153 rfl ?_
        refine y_iconst (pc := 157) (x := 3) o dX16_pack_157 (by decide) ?_
        refine z_callV (pc := 158) (k := 0) (n := 0) (k' := 0) (n' := 0) o (b := ad (20, 0, 0)) (As := [.int (1), .int (3)]) (rest := []) (kFailsT hR h5 3 (by decide)) ln_X16_74 dX16_pack_158 (z_rc (ci := 20) (K := (20, 0, 0)) rfl (gl_20 hR) rfl) rfl rfl (Nat.le_of_ble_eq_true rfl) ⟨by decide, by decide⟩ ⟨rfl, rfl⟩ ⟨by decide, by decide⟩ rfl gq_nox2 ?_
        refine y_if_eq (pc := 161) (tgt := 166) o dX16_pack_161 rfl (fun b12 => absurd b12 (by decide)) (fun (b12 : ¬ 1 = 0) => ?_)
        refine y_iconst (pc := 164) (x := -1) o dX16_pack_164 (by decide) ?_
        exact y_iret (pc := 165) o dX16_pack_165 rfl (vp_nar_int _) (by decide) (by decide) (fun h hp => gP_thr (k := 3) (by simp +decide only [F_pack, b1, b3, b5, b7, b9, b11, gtc0, gtc1, gtc2, gtc3, gtc4, not_true_eq_false, not_false_eq_true, if_true, if_false, or_true, true_or, or_false, false_or, and_true, true_and, and_false, false_and, or_self, and_self, eq_self, Bool.false_eq_true, ne_eq, reduceIte]) (by decide) hp)
      refine y_aload (pc := 131) o dX16_pack_131 rfl ?_
      refine z_callV (pc := 133) (k := 0) (n := 0) (k' := 1) (n' := 4) o (b := ad (31, 0, a.toNatClampNeg)) (As := []) (rest := [.ref (ad (20, 0, 0))]) (kMany hR hBR a.toNatClampNeg (gix_lt (Nat.le_trans (hBR 5 0 (by decide)) (by decide)) b1) (hI.2.2.2.2.2.2.1 _ (gix_lt (Nat.le_trans (hBR 5 0 (by decide)) (by decide)) b1)).1) ln_X16_289 dX16_pack_133 (z_rc (ci := 17) (K := (31, 0, a.toNatClampNeg)) rfl (gl_31 (gix_lt (Nat.le_trans (hBR 5 0 (by decide)) (by decide)) b1)) rfl) rfl rfl (Nat.le_of_ble_eq_true rfl) ⟨by decide, by decide⟩ ⟨rfl, rfl⟩ ⟨by decide, by decide⟩ rfl gq_nox2 ?_
      refine y_iload_n (pc := 136) o dX16_pack_136 rfl ?_
      refine y_iadd (pc := 137) o dX16_pack_137 ?_
      refine y_sipush (pc := 138) (x := 144) o dX16_pack_138 (by decide) ?_
      refine y_icmp_gt (pc := 141) (tgt := 152) o dX16_pack_141 rfl (fun (b13 : 144 < ((R.1 (11, 0, a.toNatClampNeg) 1) + c)) => ?_) (fun (b13 : ¬ 144 < ((R.1 (11, 0, a.toNatClampNeg) 1) + c)) => ?_)
      · refine y_iconst (pc := 152) (x := 1) o dX16_pack_152 (by decide) ?_
        refine y_goto (pc := 153) (tgt := 157) o dX16_pack_153 rfl ?_
        refine y_iconst (pc := 157) (x := 3) o dX16_pack_157 (by decide) ?_
        refine z_callV (pc := 158) (k := 1) (n := 4) (k' := 1) (n' := 4) o (b := ad (20, 0, 0)) (As := [.int (1), .int (3)]) (rest := []) (kFailsT hR h5 3 (by decide)) ln_X16_74 dX16_pack_158 (z_rc (ci := 20) (K := (20, 0, 0)) rfl (gl_20 hR) rfl) rfl rfl (Nat.le_of_ble_eq_true rfl) ⟨by decide, by decide⟩ ⟨rfl, rfl⟩ ⟨by decide, by decide⟩ rfl gq_nox2 ?_
        refine y_if_eq (pc := 161) (tgt := 166) o dX16_pack_161 rfl (fun b14 => absurd b14 (by decide)) (fun (b14 : ¬ 1 = 0) => ?_)
        refine y_iconst (pc := 164) (x := -1) o dX16_pack_164 (by decide) ?_
        exact y_iret (pc := 165) o dX16_pack_165 rfl (vp_nar_int _) (by decide) (by decide) (fun h hp => gP_thr (k := 3) (by simp +decide only [F_pack, b1, b3, b5, b7, b9, b11, b13, gtc0, gtc1, gtc2, gtc3, gtc4, not_true_eq_false, not_false_eq_true, if_true, if_false, or_true, true_or, or_false, false_or, and_true, true_and, and_false, false_and, or_self, and_self, eq_self, Bool.false_eq_true, ne_eq, reduceIte]) (by decide) hp)
      refine y_aload (pc := 144) o dX16_pack_144 rfl ?_
      refine z_get (pc := 146) (K := (31, 0, a.toNatClampNeg)) (v := .int (R.1 (11, 0, a.toNatClampNeg) 2)) o fl_X16_291 dX16_pack_146 (gl_31 (gix_lt (Nat.le_trans (hBR 5 0 (by decide)) (by decide)) b1)) rfl rfl ?_
      refine y_if_eq (pc := 149) (tgt := 156) o dX16_pack_149 rfl (fun (b15 : (R.1 (11, 0, a.toNatClampNeg) 2) = 0) => ?_) (fun (b15 : ¬ (R.1 (11, 0, a.toNatClampNeg) 2) = 0) => ?_)
      · refine y_iconst (pc := 156) (x := 0) o dX16_pack_156 (by decide) ?_
        refine y_iconst (pc := 157) (x := 3) o dX16_pack_157 (by decide) ?_
        refine z_callV (pc := 158) (k := 1) (n := 4) (k' := 1) (n' := 4) o (b := ad (20, 0, 0)) (As := [.int (0), .int (3)]) (rest := []) (kFailsF hR h5 3) ln_X16_74 dX16_pack_158 (z_rc (ci := 20) (K := (20, 0, 0)) rfl (gl_20 hR) rfl) rfl rfl (Nat.le_of_ble_eq_true rfl) ⟨by decide, by decide⟩ ⟨rfl, rfl⟩ ⟨by decide, by decide⟩ rfl gq_nox2 ?_
        refine y_if_eq (pc := 161) (tgt := 166) o dX16_pack_161 rfl (fun (b16 : 0 = 0) => ?_) (fun b16 => absurd b16 (by rw [b4]; decide))
        refine y_iconst (pc := 166) (x := 0) o dX16_pack_166 (by decide) ?_
        refine y_iload_n (pc := 167) o dX16_pack_167 rfl ?_
        refine y_aload (pc := 168) o dX16_pack_168 rfl ?_
        refine z_get (pc := 170) (K := (30, 0, b.toNatClampNeg)) (v := .int (R.1 (10, 0, b.toNatClampNeg) 3)) o fl_X16_248 dX16_pack_170 (gl_30 (gix_lt (Nat.le_trans (hBR 4 0 (by decide)) (by decide)) b3)) rfl rfl ?_
        refine y_aload (pc := 173) o dX16_pack_173 rfl ?_
        refine z_get (pc := 175) (K := (30, 0, b.toNatClampNeg)) (v := .int (R.1 (10, 0, b.toNatClampNeg) 4)) o fl_X16_270 dX16_pack_175 (gl_30 (gix_lt (Nat.le_trans (hBR 4 0 (by decide)) (by decide)) b3)) rfl rfl ?_
        refine y_isub (pc := 178) o dX16_pack_178 ?_
        refine y_isub (pc := 179) o dX16_pack_179 ?_
        refine y_mmax (pc := 180) o qw_1441 dX16_pack_180 ⟨by decide, Nat.le_of_ble_eq_true rfl⟩ (by decide) (by decide) ?_
        refine z_top (w := .int (c - (gmin c ((R.1 (10, 0, b.toNatClampNeg) 3) - (R.1 (10, 0, b.toNatClampNeg) 4))))) (congrArg Value.int (gpk (hI.2.2.2.2.2.1 _ (gix_lt (Nat.le_trans (hBR 4 0 (by decide)) (by decide)) b3)).2.2.1 (hI.2.2.2.2.2.1 _ (gix_lt (Nat.le_trans (hBR 4 0 (by decide)) (by decide)) b3)).2.2.2.1 b5)) ?_
        refine y_istore (pc := 183) (i := 6) (lv' := [(6, .int (c - (gmin c ((R.1 (10, 0, b.toNatClampNeg) 3) - (R.1 (10, 0, b.toNatClampNeg) 4))))), (5, .ref (ad (30, 0, b.toNatClampNeg))), (4, .ref (ad (31, 0, a.toNatClampNeg))), (0, .ref (ad (20, 0, 0))), (1, .int (a)), (2, .int (b)), (3, .int (c))]) o dX16_pack_183 (by decide) rfl ?_
        refine y_aload (pc := 185) o dX16_pack_185 rfl ?_
        refine y_dup (pc := 187) o dX16_pack_187 rfl ?_
        refine z_get (pc := 188) (K := (30, 0, b.toNatClampNeg)) (v := .int (R.1 (10, 0, b.toNatClampNeg) 3)) o fl_X16_248 dX16_pack_188 (gl_30 (gix_lt (Nat.le_trans (hBR 4 0 (by decide)) (by decide)) b3)) rfl rfl ?_
        refine y_iload_n (pc := 191) o dX16_pack_191 rfl ?_
        refine y_isub (pc := 192) o dX16_pack_192 ?_
        refine z_putR (pc := 193) (K := (30, 0, b.toNatClampNeg)) (fd := 3) (x := (R.1 (10, 0, b.toNatClampNeg) 3) - c) (B := (10, 0, b.toNatClampNeg)) o fw_X16_248 dX16_pack_193 (gl_30 (gix_lt (Nat.le_trans (hBR 4 0 (by decide)) (by decide)) b3)) (show 24 ≤ (30:Nat) by decide) rfl rfl (Nat.le_of_ble_eq_true rfl) (vp_nar_int _) rfl rfl pR_30_3 ?_
        refine y_aload (pc := 196) o dX16_pack_196 rfl ?_
        refine y_dup (pc := 198) o dX16_pack_198 rfl ?_
        refine z_get (pc := 199) (K := (30, 0, b.toNatClampNeg)) (v := .int ((gup R (10, 0, b.toNatClampNeg) 3 ((R.1 (10, 0, b.toNatClampNeg) 3) - c)).1 (10, 0, b.toNatClampNeg) 4)) o fl_X16_270 dX16_pack_199 (gl_30 (gix_lt (Nat.le_trans (hBR 4 0 (by decide)) (by decide)) b3)) rfl rfl ?_
        refine z_top (congrArg Value.int (gup_vf _ (show (4:Nat) ≠ 3 by decide))) ?_
        refine y_iload (pc := 202) o dX16_pack_202 rfl ?_
        refine y_isub (pc := 204) o dX16_pack_204 ?_
        refine z_putR (pc := 205) (K := (30, 0, b.toNatClampNeg)) (fd := 4) (x := (R.1 (10, 0, b.toNatClampNeg) 4) - (c - (gmin c ((R.1 (10, 0, b.toNatClampNeg) 3) - (R.1 (10, 0, b.toNatClampNeg) 4))))) (B := (10, 0, b.toNatClampNeg)) o fw_X16_270 dX16_pack_205 (gl_30 (gix_lt (Nat.le_trans (hBR 4 0 (by decide)) (by decide)) b3)) (show 24 ≤ (30:Nat) by decide) rfl rfl (Nat.le_of_ble_eq_true rfl) (vp_nar_int _) rfl rfl pR_30_4 ?_
        refine y_lv [3, 4, 5, 6, 2, 0] (lv' := [(0, .ref (ad (20, 0, 0))), (1, .int (a)), (2, .int (b)), (3, .int (c)), (4, .ref (ad (31, 0, a.toNatClampNeg))), (6, .int (c - (gmin c ((R.1 (10, 0, b.toNatClampNeg) 3) - (R.1 (10, 0, b.toNatClampNeg) 4)))))]) rfl ?_
        refine y_aload (pc := 208) o dX16_pack_208 rfl ?_
        refine z_get (pc := 210) (K := (31, 0, a.toNatClampNeg)) (v := .ref (ad (24, 7, a.toNatClampNeg))) o fl_X16_294 dX16_pack_210 (gl_31 (gix_lt (Nat.le_trans (hBR 5 0 (by decide)) (by decide)) b1)) rfl rfl ?_
        refine y_iconst (pc := 213) (x := 3) o dX16_pack_213 (by decide) ?_
        refine z_newI (pc := 214) (k := 1) (n := 4) (N := 3) o dX16_pack_214 (by decide) (by decide) (by decide) (by decide) (by decide) (fun q17 => ?_)
        refine y_dup (pc := 216) o dX16_pack_216 rfl ?_
        refine y_iconst (pc := 217) (x := 0) o dX16_pack_217 (by decide) ?_
        refine y_iload_n (pc := 218) o dX16_pack_218 rfl ?_
        refine z_iastT (pc := 219) (i := 0) (x := b) (T' := (q17, .inl (κ.2.1 0, 3, .inl (upd (fun _ => 0) (0 : Int32).toNatClampNeg b))) :: T) o 0 dX16_pack_219 rfl (by unfold vp_in; decide) rfl ?_
        refine y_dup (pc := 220) o dX16_pack_220 rfl ?_
        refine y_iconst (pc := 221) (x := 1) o dX16_pack_221 (by decide) ?_
        refine y_iload_n (pc := 222) o dX16_pack_222 rfl ?_
        refine z_iastT (pc := 223) (i := 1) (x := c) (T' := (q17, .inl (κ.2.1 0, 3, .inl (upd (upd (fun _ => 0) (0 : Int32).toNatClampNeg b) (1 : Int32).toNatClampNeg c))) :: T) o 0 dX16_pack_223 rfl (by unfold vp_in; decide) rfl ?_
        refine y_dup (pc := 224) o dX16_pack_224 rfl ?_
        refine y_iconst (pc := 225) (x := 2) o dX16_pack_225 (by decide) ?_
        refine y_iload (pc := 226) o dX16_pack_226 rfl ?_
        refine z_iastT (pc := 228) (i := 2) (x := c - (gmin c ((R.1 (10, 0, b.toNatClampNeg) 3) - (R.1 (10, 0, b.toNatClampNeg) 4)))) (T' := (q17, .inl (κ.2.1 0, 3, .inl (upd (upd (upd (fun _ => 0) (0 : Int32).toNatClampNeg b) (1 : Int32).toNatClampNeg c) (2 : Int32).toNatClampNeg (c - (gmin c ((R.1 (10, 0, b.toNatClampNeg) 3) - (R.1 (10, 0, b.toNatClampNeg) 4))))))) :: T) o 0 dX16_pack_228 rfl (by unfold vp_in; decide) rfl ?_
        refine y_callF (pc := 229) (ci := 3) (k := 2) (n := 7) o (b := ad (24, 7, a.toNatClampNeg)) (As := [.ref q17]) (rest := []) (addRa (C := C) (R := (gup (gup R (10, 0, b.toNatClampNeg) 3 ((R.1 (10, 0, b.toNatClampNeg) 3) - c)) (10, 0, b.toNatClampNeg) 4 ((R.1 (10, 0, b.toNatClampNeg) 4) - (c - (gmin c ((R.1 (10, 0, b.toNatClampNeg) 3) - (R.1 (10, 0, b.toNatClampNeg) 4))))))) (l := 7) (g := a.toNatClampNeg) (n := R.2 13 a.toNatClampNeg) (row := (glist [b, c, c - (gmin c ((R.1 (10, 0, b.toNatClampNeg) 3) - (R.1 (10, 0, b.toNatClampNeg) 4)))])) (a := 13) rfl (gl_24_7 hR (gix_lt (Nat.le_trans (hBR 5 0 (by decide)) (by decide)) b1)) (Or.inl rfl) rfl (hBR 7 a.toNatClampNeg (by decide)) nA3_13 (fun K hK => by cases hK)) rfl lf_X16_107 dX16_pack_229 (fun h hr => ⟨_, ghdr_R (R := (gup (gup R (10, 0, b.toNatClampNeg) 3 ((R.1 (10, 0, b.toNatClampNeg) 3) - c)) (10, 0, b.toNatClampNeg) 4 ((R.1 (10, 0, b.toNatClampNeg) 4) - (c - (gmin c ((R.1 (10, 0, b.toNatClampNeg) 3) - (R.1 (10, 0, b.toNatClampNeg) 4))))))) (gl_24_7 hR (gix_lt (Nat.le_trans (hBR 5 0 (by decide)) (by decide)) b1)) hr⟩) rfl rfl (Nat.le_of_ble_eq_true rfl) ⟨by decide, by decide⟩ ⟨by decide, by decide⟩ (fun _ e => e) (fun _ _ z => z) (fun v => y_and fun ev => y_ex fun ad18 => y_and fun had => y_and fun hadq => ?_)
        subst ev
        have e0 : ad18 (0, 0, 0) = ad (0, 0, 0) := had (0, 0, 0) (by simp) (by simp)
        have e20 : ad18 (20, 0, 0) = ad (20, 0, 0) := had (20, 0, 0) (by simp) (by simp)
        refine z_st (st' := [.int (1)]) rfl ?_
        rw [← e20]
        have e4 : ad18 (31, 0, a.toNatClampNeg) = ad (31, 0, a.toNatClampNeg) := had _ (by simp) (by simp)
        rw [← e4]
        refine y_pop (pc := 234) o dX16_pack_234 rfl ?_
        refine y_aload (pc := 235) o dX16_pack_235 rfl ?_
        have h11 := hI.2.2.2.2.2.2.1 _ (gix_lt (Nat.le_trans (hBR 5 0 (by decide)) (by decide)) b1)
        refine z_callV (pc := 237) (k := 3) (n := 263) (k' := 4) (n' := 267) o (b := ad18 (31, 0, a.toNatClampNeg)) (As := []) (rest := []) (kMany0 (R := (gnew (gup (gup R (10, 0, b.toNatClampNeg) 3 ((R.1 (10, 0, b.toNatClampNeg) 3) - c)) (10, 0, b.toNatClampNeg) 4 ((R.1 (10, 0, b.toNatClampNeg) 4) - (c - (gmin c ((R.1 (10, 0, b.toNatClampNeg) 3) - (R.1 (10, 0, b.toNatClampNeg) 4)))))) (13, a.toNatClampNeg, (R.2 13 a.toNatClampNeg)) ((glist [b, c, c - (gmin c ((R.1 (10, 0, b.toNatClampNeg) 3) - (R.1 (10, 0, b.toNatClampNeg) 4)))])))) (gfix_new (a := 13) (by decide) hR) (gcnt_new hBR (gpk_n h11.2.1 h11.2.2.1 b13 b5)) a.toNatClampNeg (Nat.lt_of_lt_of_le (gix_lt (Nat.le_trans (hBR 5 0 (by decide)) (by decide)) b1) (Nat.le_of_eq (gnew_2n (R := (gup (gup R (10, 0, b.toNatClampNeg) 3 ((R.1 (10, 0, b.toNatClampNeg) 3) - c)) (10, 0, b.toNatClampNeg) 4 ((R.1 (10, 0, b.toNatClampNeg) 4) - (c - (gmin c ((R.1 (10, 0, b.toNatClampNeg) 3) - (R.1 (10, 0, b.toNatClampNeg) 4))))))) (by decide)).symm))) ln_X16_289 dX16_pack_237 (z_rc (ci := 17) (K := (31, 0, a.toNatClampNeg)) rfl (gl_31 (Nat.lt_of_lt_of_le (gix_lt (Nat.le_trans (hBR 5 0 (by decide)) (by decide)) b1) (Nat.le_of_eq (gnew_2n (R := (gup (gup R (10, 0, b.toNatClampNeg) 3 ((R.1 (10, 0, b.toNatClampNeg) 3) - c)) (10, 0, b.toNatClampNeg) 4 ((R.1 (10, 0, b.toNatClampNeg) 4) - (c - (gmin c ((R.1 (10, 0, b.toNatClampNeg) 3) - (R.1 (10, 0, b.toNatClampNeg) 4))))))) (by decide)).symm))) rfl) rfl rfl (Nat.le_of_ble_eq_true rfl) ⟨by decide, by decide⟩ ⟨rfl, rfl⟩ ⟨by decide, by decide⟩ rfl gq_nox2 ?_
        refine z_top (w := .int (((gnew (gup (gup R (10, 0, b.toNatClampNeg) 3 ((R.1 (10, 0, b.toNatClampNeg) 3) - c)) (10, 0, b.toNatClampNeg) 4 ((R.1 (10, 0, b.toNatClampNeg) 4) - (c - (gmin c ((R.1 (10, 0, b.toNatClampNeg) 3) - (R.1 (10, 0, b.toNatClampNeg) 4)))))) (13, a.toNatClampNeg, (R.2 13 a.toNatClampNeg)) ((glist [b, c, c - (gmin c ((R.1 (10, 0, b.toNatClampNeg) 3) - (R.1 (10, 0, b.toNatClampNeg) 4)))]))).1 (11, 0, a.toNatClampNeg) 1) + ((gnew (gup (gup R (10, 0, b.toNatClampNeg) 3 ((R.1 (10, 0, b.toNatClampNeg) 3) - c)) (10, 0, b.toNatClampNeg) 4 ((R.1 (10, 0, b.toNatClampNeg) 4) - (c - (gmin c ((R.1 (10, 0, b.toNatClampNeg) 3) - (R.1 (10, 0, b.toNatClampNeg) 4)))))) (13, a.toNatClampNeg, (R.2 13 a.toNatClampNeg)) ((glist [b, c, c - (gmin c ((R.1 (10, 0, b.toNatClampNeg) 3) - (R.1 (10, 0, b.toNatClampNeg) 4)))]))).1 (13, a.toNatClampNeg, (R.2 13 a.toNatClampNeg)) 1))) (congrArg Value.int (gpk_sum (R := R) (S := (gup (gup R (10, 0, b.toNatClampNeg) 3 ((R.1 (10, 0, b.toNatClampNeg) 3) - c)) (10, 0, b.toNatClampNeg) 4 ((R.1 (10, 0, b.toNatClampNeg) 4) - (c - (gmin c ((R.1 (10, 0, b.toNatClampNeg) 3) - (R.1 (10, 0, b.toNatClampNeg) 4))))))) h11.1 rfl (fun j => (gup_vc _ (show (13:Nat) ≠ 10 by decide)).trans (gup_vc _ (show (13:Nat) ≠ 10 by decide))) ((gup_vc _ (show (11:Nat) ≠ 10 by decide)).trans (gup_vc _ (show (11:Nat) ≠ 10 by decide))))) ?_
        exact y_iret (pc := 240) o dX16_pack_240 rfl (vp_nar_int _) (by decide) (by decide) (fun h hp => gP_mk (by simp +decide only [F_pack, b1, b3, b5, b7, b9, b11, b13, b15, gtc0, gtc1, gtc2, gtc3, gtc4, not_true_eq_false, not_false_eq_true, if_true, if_false, or_true, true_or, or_false, false_or, and_true, true_and, and_false, false_and, or_self, and_self, eq_self, Bool.false_eq_true, ne_eq, reduceIte]) e0 e20 (hp.ghostR1 (11, 0, a.toNatClampNeg) 1 (((gnew (gup (gup R (10, 0, b.toNatClampNeg) 3 ((R.1 (10, 0, b.toNatClampNeg) 3) - c)) (10, 0, b.toNatClampNeg) 4 ((R.1 (10, 0, b.toNatClampNeg) 4) - (c - (gmin c ((R.1 (10, 0, b.toNatClampNeg) 3) - (R.1 (10, 0, b.toNatClampNeg) 4)))))) (13, a.toNatClampNeg, (R.2 13 a.toNatClampNeg)) ((glist [b, c, c - (gmin c ((R.1 (10, 0, b.toNatClampNeg) 3) - (R.1 (10, 0, b.toNatClampNeg) 4)))]))).1 (11, 0, a.toNatClampNeg) 1) + ((gnew (gup (gup R (10, 0, b.toNatClampNeg) 3 ((R.1 (10, 0, b.toNatClampNeg) 3) - c)) (10, 0, b.toNatClampNeg) 4 ((R.1 (10, 0, b.toNatClampNeg) 4) - (c - (gmin c ((R.1 (10, 0, b.toNatClampNeg) 3) - (R.1 (10, 0, b.toNatClampNeg) 4)))))) (13, a.toNatClampNeg, (R.2 13 a.toNatClampNeg)) ((glist [b, c, c - (gmin c ((R.1 (10, 0, b.toNatClampNeg) 3) - (R.1 (10, 0, b.toNatClampNeg) 4)))]))).1 (13, a.toNatClampNeg, (R.2 13 a.toNatClampNeg)) 1)) (Nat.le_of_ble_eq_true rfl) (fun _ _ _ => rfl)))
      refine y_iconst (pc := 152) (x := 1) o dX16_pack_152 (by decide) ?_
      refine y_goto (pc := 153) (tgt := 157) o dX16_pack_153 rfl ?_
      refine y_iconst (pc := 157) (x := 3) o dX16_pack_157 (by decide) ?_
      refine z_callV (pc := 158) (k := 1) (n := 4) (k' := 1) (n' := 4) o (b := ad (20, 0, 0)) (As := [.int (1), .int (3)]) (rest := []) (kFailsT hR h5 3 (by decide)) ln_X16_74 dX16_pack_158 (z_rc (ci := 20) (K := (20, 0, 0)) rfl (gl_20 hR) rfl) rfl rfl (Nat.le_of_ble_eq_true rfl) ⟨by decide, by decide⟩ ⟨rfl, rfl⟩ ⟨by decide, by decide⟩ rfl gq_nox2 ?_
      refine y_if_eq (pc := 161) (tgt := 166) o dX16_pack_161 rfl (fun b19 => absurd b19 (by decide)) (fun (b19 : ¬ 1 = 0) => ?_)
      refine y_iconst (pc := 164) (x := -1) o dX16_pack_164 (by decide) ?_
      exact y_iret (pc := 165) o dX16_pack_165 rfl (vp_nar_int _) (by decide) (by decide) (fun h hp => gP_thr (k := 3) (by simp +decide only [F_pack, b1, b3, b5, b7, b9, b11, b13, b15, gtc0, gtc1, gtc2, gtc3, gtc4, not_true_eq_false, not_false_eq_true, if_true, if_false, or_true, true_or, or_false, false_or, and_true, true_and, and_false, false_and, or_self, and_self, eq_self, Bool.false_eq_true, ne_eq, reduceIte]) (by decide) hp)
    refine y_iconst (pc := 52) (x := 1) o dX16_pack_52 (by decide) ?_
    refine y_goto (pc := 53) (tgt := 57) o dX16_pack_53 rfl ?_
    refine y_iconst (pc := 57) (x := 2) o dX16_pack_57 (by decide) ?_
    refine z_callV (pc := 58) (k := 0) (n := 0) (k' := 0) (n' := 0) o (b := ad (20, 0, 0)) (As := [.int (1), .int (2)]) (rest := []) (kFailsT hR h5 2 (by decide)) ln_X16_74 dX16_pack_58 (z_rc (ci := 20) (K := (20, 0, 0)) rfl (gl_20 hR) rfl) rfl rfl (Nat.le_of_ble_eq_true rfl) ⟨by decide, by decide⟩ ⟨rfl, rfl⟩ ⟨by decide, by decide⟩ rfl gq_nox2 ?_
    refine y_if_eq (pc := 61) (tgt := 66) o dX16_pack_61 rfl (fun b20 => absurd b20 (by decide)) (fun (b20 : ¬ 1 = 0) => ?_)
    refine y_iconst (pc := 64) (x := -1) o dX16_pack_64 (by decide) ?_
    exact y_iret (pc := 65) o dX16_pack_65 rfl (vp_nar_int _) (by decide) (by decide) (fun h hp => gP_thr (k := 2) (by simp +decide only [F_pack, b1, b3, b5, gtc0, gtc1, gtc2, gtc3, gtc4, not_true_eq_false, not_false_eq_true, if_true, if_false, or_true, true_or, or_false, false_or, and_true, true_and, and_false, false_and, or_self, and_self, eq_self, Bool.false_eq_true, ne_eq, reduceIte]) (by decide) hp)
  refine y_iconst (pc := 27) (x := 1) o dX16_pack_27 (by decide) ?_
  refine y_goto (pc := 28) (tgt := 32) o dX16_pack_28 rfl ?_
  refine y_iconst (pc := 32) (x := 1) o dX16_pack_32 (by decide) ?_
  refine z_callV (pc := 33) (k := 0) (n := 0) (k' := 0) (n' := 0) o (b := ad (20, 0, 0)) (As := [.int (1), .int (1)]) (rest := []) (kFailsT hR h5 1 (by decide)) ln_X16_74 dX16_pack_33 (z_rc (ci := 20) (K := (20, 0, 0)) rfl (gl_20 hR) rfl) rfl rfl (Nat.le_of_ble_eq_true rfl) ⟨by decide, by decide⟩ ⟨rfl, rfl⟩ ⟨by decide, by decide⟩ rfl gq_nox2 ?_
  refine y_if_ne (pc := 36) (tgt := 64) o dX16_pack_36 rfl (fun (b21 : ¬ 1 = 0) => ?_) (fun b21 => absurd b21 (by decide))
  refine y_iconst (pc := 64) (x := -1) o dX16_pack_64 (by decide) ?_
  exact y_iret (pc := 65) o dX16_pack_65 rfl (vp_nar_int _) (by decide) (by decide) (fun h hp => gP_thr (k := 1) (by simp +decide only [F_pack, b1, b3, gtc0, gtc1, gtc2, gtc3, gtc4, not_true_eq_false, not_false_eq_true, if_true, if_false, or_true, true_or, or_false, false_or, and_true, true_and, and_false, false_and, or_self, and_self, eq_self, Bool.false_eq_true, ne_eq, reduceIte]) (by decide) hp)

end Z33
