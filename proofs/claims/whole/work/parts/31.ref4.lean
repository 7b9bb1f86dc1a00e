
section Z31
theorem gall_1 (p : Nat → Bool) (n : Nat) : gall p (n + 1) = (gall p n && p n) := rfl
theorem gnm_at : ∀ i : Nat, i < 4 → (gq_sbyt.getD 0 [])[i]? = some (gnm i) := by decide
theorem gix_ne {N M : Nat} {x y : Int32} (hx : gix N x = true) (hy : gix M y = true) (h : ¬ x = y) : ¬ x.toNatClampNeg = y.toNatClampNeg := fun z => h (by rw [← gix_of hx, ← gix_of hy, z])
theorem gsn (x y : Int32) : x - y + 1 = x - (y - 1) := by
  rw [Int32.sub_eq_add_neg (a := x) (b := y - 1), Int32.neg_sub, Int32.sub_eq_add_neg, Int32.sub_eq_add_neg, Int32.add_assoc, Int32.add_comm (-y) 1]
theorem gpos0 {x : Int32} (h1 : ¬ x < 0) (h : ¬ x = 0) : 0 < x := by
  rw [Int32.lt_iff_toInt_lt] at h1 ⊢
  rw [← Int32.toInt_inj] at h
  have e0 : (0 : Int32).toInt = 0 := rfl
  omega

theorem r_belt {κ : gq_K} {ad : gKey → Nat} {C Rp R : gG} {T : List (Nat × va_E)} {n : Nat} (hb : gup Rp (0, 0, 0) 5 0 = R) (hI : gI n R) (hn : n ≤ 512) (a : Int32) (b : Int32) : gq_C κ mX16_belt [.ref (ad (20, 0, 0)), .int (a), .int (b)] (gR κ ad (C, Rp) T) (gP κ ad C T (F_belt R a b)) (gq_no) := by
  refine gq_enter (by decide +kernel) rfl (Nat.le_of_ble_eq_true rfl) rfl (fun f o => ?_)
  have hR := hI.fix
  have hBR := hI.cnt
  have hRp : gfix Rp.2 := by rw [← hb] at hR; exact hR
  have h5 : R.1 (0, 0, 0) 5 = 0 := by rw [← hb]; exact gup_v _ _ _ _
  refine y_aload_n (pc := 0) o dX16_belt_0 rfl ?_
  refine z_callVv (pc := 1) (k := 0) (n := 0) (k' := 0) (n' := 0) o (b := ad (20, 0, 0)) (As := []) (rest := []) (kBegins hRp) ln_X16_69 dX16_belt_1 (z_rc (ci := 20) (K := (20, 0, 0)) rfl (gl_20 hRp) rfl) rfl rfl (Nat.le_of_ble_eq_true rfl) ⟨by decide, by decide⟩ ⟨rfl, rfl⟩ ⟨by decide, by decide⟩ rfl gq_nox2 ?_
  rw [hb]
  refine y_ldcS (pc := 4) o 0 dX16_belt_4 rfl ?_
  refine y_iload_n (pc := 6) o dX16_belt_6 rfl ?_
  refine z_callV (pc := 7) (k := 0) (n := 0) (k' := 0) (n' := 0) o (b := κ.2.2 0) (As := [.int (a)]) (rest := []) (c_indexOf 0 (by decide) a) ln_X16_83 dX16_belt_7 (gq_rs 0 (by decide)) rfl rfl (Nat.le_of_ble_eq_true rfl) ⟨by decide, by decide⟩ ⟨rfl, rfl⟩ ⟨by decide, by decide⟩ rfl gq_nox2 ?_
  rw [gfind_gmi]
  refine y_istore_n (pc := 10) (i := 3) (lv' := [(3, .int (gmi a)), (0, .ref (ad (20, 0, 0))), (1, .int (a)), (2, .int (b))]) o dX16_belt_10 rfl (by decide) rfl ?_
  refine y_ldcS (pc := 11) o 0 dX16_belt_11 rfl ?_
  refine y_iload_n (pc := 13) o dX16_belt_13 rfl ?_
  refine z_callV (pc := 14) (k := 0) (n := 0) (k' := 0) (n' := 0) o (b := κ.2.2 0) (As := [.int (b)]) (rest := []) (c_indexOf 0 (by decide) b) ln_X16_83 dX16_belt_14 (gq_rs 0 (by decide)) rfl rfl (Nat.le_of_ble_eq_true rfl) ⟨by decide, by decide⟩ ⟨rfl, rfl⟩ ⟨by decide, by decide⟩ rfl gq_nox2 ?_
  rw [gfind_gmi]
  refine y_istore (pc := 17) (i := 4) (lv' := [(4, .int (gmi b)), (3, .int (gmi a)), (0, .ref (ad (20, 0, 0))), (1, .int (a)), (2, .int (b))]) o dX16_belt_17 (by decide) rfl ?_
  refine y_aload_n (pc := 19) o dX16_belt_19 rfl ?_
  refine y_iload_n (pc := 20) o dX16_belt_20 rfl ?_
  refine y_if_lt (pc := 21) (tgt := 40) o dX16_belt_21 rfl (fun (b1 : (gmi a) < 0) => ?_) (fun (b1 : ¬ (gmi a) < 0) => ?_)
  · refine y_iconst (pc := 40) (x := 1) o dX16_belt_40 (by decide) ?_
    refine y_goto (pc := 41) (tgt := 45) o dX16_belt_41 rfl ?_
    refine y_iconst (pc := 45) (x := 1) o dX16_belt_45 (by decide) ?_
    refine z_callV (pc := 46) (k := 0) (n := 0) (k' := 0) (n' := 0) o (b := ad (20, 0, 0)) (As := [.int (1), .int (1)]) (rest := []) (kFailsT hR h5 1 (by decide)) ln_X16_74 dX16_belt_46 (z_rc (ci := 20) (K := (20, 0, 0)) rfl (gl_20 hR) rfl) rfl rfl (Nat.le_of_ble_eq_true rfl) ⟨by decide, by decide⟩ ⟨rfl, rfl⟩ ⟨by decide, by decide⟩ rfl gq_nox2 ?_
    refine y_if_eq (pc := 49) (tgt := 55) o dX16_belt_49 rfl (fun b2 => absurd b2 (by decide)) (fun (b2 : ¬ 1 = 0) => ?_)
    refine y_bipush (pc := 52) (x := 32) o dX16_belt_52 (by decide) ?_
    exact y_iret (pc := 54) o dX16_belt_54 rfl rfl (by decide) (by decide) (fun h hp => gP_thr (k := 1) (by simp +decide only [F_belt, gmi_ltm b1, gmi45, gtc0, gtc1, gtc2, gtc3, gtc4, not_true_eq_false, not_false_eq_true, if_true, if_false, or_true, true_or, or_false, false_or, and_true, true_and, and_false, false_and, or_self, and_self, eq_self, Bool.false_eq_true, ne_eq, reduceIte]) (by decide) hp)
  refine y_iload (pc := 24) o dX16_belt_24 rfl ?_
  refine z_if_ge (pc := 26) (tgt := 35) o dX16_belt_26 rfl (fun (b3 : ¬ (gmi b) < 0) => ?_) (fun (b3 : (gmi b) < 0) => ?_)
  · refine y_iload_n (pc := 35) o dX16_belt_35 rfl ?_
    refine y_iload_n (pc := 36) o dX16_belt_36 rfl ?_
    refine y_icmp_ne (pc := 37) (tgt := 44) o dX16_belt_37 rfl (fun (b4 : ¬ a = b) => ?_) (fun (b4 : a = b) => ?_)
    · refine y_iconst (pc := 44) (x := 0) o dX16_belt_44 (by decide) ?_
      refine y_iconst (pc := 45) (x := 1) o dX16_belt_45 (by decide) ?_
      refine z_callV (pc := 46) (k := 0) (n := 0) (k' := 0) (n' := 0) o (b := ad (20, 0, 0)) (As := [.int (0), .int (1)]) (rest := []) (kFailsF hR h5 1) ln_X16_74 dX16_belt_46 (z_rc (ci := 20) (K := (20, 0, 0)) rfl (gl_20 hR) rfl) rfl rfl (Nat.le_of_ble_eq_true rfl) ⟨by decide, by decide⟩ ⟨rfl, rfl⟩ ⟨by decide, by decide⟩ rfl gq_nox2 ?_
      refine y_if_eq (pc := 49) (tgt := 55) o dX16_belt_49 rfl (fun (b5 : 0 = 0) => ?_) (fun b5 => absurd b5 (by decide))
      refine y_iconst (pc := 55) (x := 0) o dX16_belt_55 (by decide) ?_
      refine y_istore (pc := 56) (i := 5) (lv' := [(5, .int (0)), (4, .int (gmi b)), (3, .int (gmi a)), (0, .ref (ad (20, 0, 0))), (1, .int (a)), (2, .int (b))]) o dX16_belt_56 (by decide) rfl ?_
      refine y_iload (pc := 58) o dX16_belt_58 rfl ?_
      refine y_istore (pc := 60) (i := 6) (lv' := [(6, .int (gmi b)), (5, .int (0)), (4, .int (gmi b)), (3, .int (gmi a)), (0, .ref (ad (20, 0, 0))), (1, .int (a)), (2, .int (b))]) o dX16_belt_60 (by decide) rfl ?_
      have K : ∀ k : Int32, gq_Y κ mX16_belt (gP κ ad C T (F_belt R a b)) gq_no f (gR κ ad (C, R) T) [(5, .int (gb (ghang R (gmi a).toNatClampNeg 4 (gmi b).toNatClampNeg = true))), (6, .int (k)), (4, .int (gmi b)), (3, .int (gmi a)), (0, .ref (ad (20, 0, 0))), (1, .int (a)), (2, .int (b))] 98 [] 0 0 := by
        intro k
        refine y_aload_n (pc := 98) o dX16_belt_98 rfl ?_
        refine y_iload (pc := 99) o dX16_belt_99 rfl ?_
        refine y_iconst (pc := 101) (x := 2) o dX16_belt_101 (by decide) ?_
        by_cases c6 : ghang R (gmi a).toNatClampNeg 4 (gmi b).toNatClampNeg = true
        · rw [gb_t c6]
          refine z_callV (pc := 102) (k := 0) (n := 0) (k' := 0) (n' := 0) o (b := ad (20, 0, 0)) (As := [.int (1), .int (2)]) (rest := []) (kFailsT hR h5 2 (by decide)) ln_X16_74 dX16_belt_102 (z_rc (ci := 20) (K := (20, 0, 0)) rfl (gl_20 hR) rfl) rfl rfl (Nat.le_of_ble_eq_true rfl) ⟨by decide, by decide⟩ ⟨rfl, rfl⟩ ⟨by decide, by decide⟩ rfl gq_nox2 ?_
          refine y_if_eq (pc := 105) (tgt := 111) o dX16_belt_105 rfl (fun b7 => absurd b7 (by decide)) (fun (b7 : ¬ 1 = 0) => ?_)
          refine y_bipush (pc := 108) (x := 32) o dX16_belt_108 (by decide) ?_
          exact y_iret (pc := 110) o dX16_belt_110 rfl rfl (by decide) (by decide) (fun h hp => gP_thr (k := 2) (by simp +decide only [F_belt, gmi_ltn b1, gmi_n45 b1, gmi_ltn b3, gmi_n45 b3, b4, c6, gmi45, gtc0, gtc1, gtc2, gtc3, gtc4, not_true_eq_false, not_false_eq_true, if_true, if_false, or_true, true_or, or_false, false_or, and_true, true_and, and_false, false_and, or_self, and_self, eq_self, Bool.false_eq_true, ne_eq, reduceIte]) (by decide) hp)
        rw [gb_f c6]
        refine z_callV (pc := 102) (k := 0) (n := 0) (k' := 0) (n' := 0) o (b := ad (20, 0, 0)) (As := [.int (0), .int (2)]) (rest := []) (kFailsF hR h5 2) ln_X16_74 dX16_belt_102 (z_rc (ci := 20) (K := (20, 0, 0)) rfl (gl_20 hR) rfl) rfl rfl (Nat.le_of_ble_eq_true rfl) ⟨by decide, by decide⟩ ⟨rfl, rfl⟩ ⟨by decide, by decide⟩ rfl gq_nox2 ?_
        refine y_if_eq (pc := 105) (tgt := 111) o dX16_belt_105 rfl (fun (b8 : 0 = 0) => ?_) (fun b8 => absurd b8 (by rw [b5]; decide))
        refine y_aload_n (pc := 111) o dX16_belt_111 rfl ?_
        refine z_get (pc := 112) (K := (20, 0, 0)) (v := .ref (ad (22, 0, 0))) o fl_X16_31 dX16_belt_112 (gl_20 hR) rfl rfl ?_
        refine y_iload_n (pc := 115) o dX16_belt_115 rfl ?_
        refine z_iald (pc := 116) (K := (22, 0, 0)) (i := gmi a) (v := R.1 (3, 0, (gmi a).toNatClampNeg) 1) o dX16_belt_116 (gl_22 hR) rfl (gmi_vp b1) (if_pos (gin_lt (gmi_vp b1))) ?_
        refine y_istore (pc := 117) (i := 6) (lv' := [(6, .int (R.1 (3, 0, (gmi a).toNatClampNeg) 1)), (5, .int (0)), (4, .int (gmi b)), (3, .int (gmi a)), (0, .ref (ad (20, 0, 0))), (1, .int (a)), (2, .int (b))]) o dX16_belt_117 (by decide) rfl ?_
        refine y_aload_n (pc := 119) o dX16_belt_119 rfl ?_
        refine z_get (pc := 120) (K := (20, 0, 0)) (v := .ref (ad (22, 0, 0))) o fl_X16_31 dX16_belt_120 (gl_20 hR) rfl rfl ?_
        refine y_iload_n (pc := 123) o dX16_belt_123 rfl ?_
        refine y_iload (pc := 124) o dX16_belt_124 rfl ?_
        refine z_iast22 (pc := 126) (i := gmi a) (x := gmi b) o dX16_belt_126 (gfix_2 hR) (gl_22 hR) (gmi_vp b1) ?_
        refine y_iload (pc := 127) o dX16_belt_127 rfl ?_
        refine y_iconst (pc := 129) (x := -1) o dX16_belt_129 (by decide) ?_
        refine y_icmp_ne (pc := 130) (tgt := 138) o dX16_belt_130 rfl (fun (b9 : ¬ (R.1 (3, 0, (gmi a).toNatClampNeg) 1) = (-1)) => ?_) (fun (b9 : (R.1 (3, 0, (gmi a).toNatClampNeg) 1) = (-1)) => ?_)
        · refine y_ldcS (pc := 138) o 0 dX16_belt_138 rfl ?_
          refine y_iload (pc := 140) o dX16_belt_140 rfl ?_
          have hdv := (hI.drv (gmi a).toNatClampNeg).resolve_left b9
          refine z_callV (pc := 142) (k := 0) (n := 0) (k' := 0) (n' := 0) o (b := κ.2.2 0) (As := [.int (R.1 (3, 0, (gmi a).toNatClampNeg) 1)]) (rest := []) (c_charAt 0 (by decide) (R.1 (3, 0, (gmi a).toNatClampNeg) 1) (gnm (R.1 (3, 0, (gmi a).toNatClampNeg) 1).toNatClampNeg) (gix_iff.mp hdv).1 (gix_iff.mp hdv).2 (gix4 hdv) (gnm_at _ (gix_lt (by decide) hdv))) ln_X16_89 dX16_belt_142 (gq_rs 0 (by decide)) rfl rfl (Nat.le_of_ble_eq_true rfl) ⟨by decide, by decide⟩ ⟨rfl, rfl⟩ ⟨by decide, by decide⟩ rfl gq_nox2 ?_
          exact y_iret (pc := 145) o dX16_belt_145 rfl gnm_ch (by decide) (by decide) (fun h hp => gP_mk (by simp +decide only [F_belt, gmi_ltn b1, gmi_n45 b1, gmi_ltn b3, gmi_n45 b3, b4, c6, b9, gmi45, gtc0, gtc1, gtc2, gtc3, gtc4, not_true_eq_false, not_false_eq_true, if_true, if_false, or_true, true_or, or_false, false_or, and_true, true_and, and_false, false_and, or_self, and_self, eq_self, Bool.false_eq_true, ne_eq, reduceIte]) rfl rfl hp)
        refine y_bipush (pc := 133) (x := 45) o dX16_belt_133 (by decide) ?_
        refine y_goto (pc := 135) (tgt := 145) o dX16_belt_135 rfl ?_
        exact y_iret (pc := 145) o dX16_belt_145 rfl rfl (by decide) (by decide) (fun h hp => gP_mk (by simp +decide only [F_belt, gmi_ltn b1, gmi_n45 b1, gmi_ltn b3, gmi_n45 b3, b4, c6, b9, gmi45, gtc0, gtc1, gtc2, gtc3, gtc4, not_true_eq_false, not_false_eq_true, if_true, if_false, or_true, true_or, or_false, false_or, and_true, true_and, and_false, false_and, or_self, and_self, eq_self, Bool.false_eq_true, ne_eq, reduceIte]) rfl rfl hp)
      generalize hVV : ghang R (gmi a).toNatClampNeg 4 (gmi b).toNatClampNeg = V at K
      suffices H : ∀ (s : Nat) (k : Int32), gix 4 k = true → gchn R s k.toNatClampNeg = true → ghang R (gmi a).toNatClampNeg s k.toNatClampNeg = V → gq_Y κ mX16_belt (gP κ ad C T (F_belt R a b)) gq_no f (gR κ ad (C, R) T) [(5, .int (0)), (6, .int (k)), (4, .int (gmi b)), (3, .int (gmi a)), (0, .ref (ad (20, 0, 0))), (1, .int (a)), (2, .int (b))] 62 [] 0 0 from ?_
      · refine y_lv [1, 0, 2, 3, 4, 5, 6] (lv' := [(5, .int (0)), (6, .int (gmi b)), (4, .int (gmi b)), (3, .int (gmi a)), (0, .ref (ad (20, 0, 0))), (1, .int (a)), (2, .int (b))]) rfl ?_
        exact H 4 (gmi b) (gmi_gix b3) (hI.chn _ (gmi_in (gmi_ltn b3)).1) hVV
      intro s
      induction s with
      | zero => intro k _ hc0; cases hc0
      | succ s ih =>
        intro k hk hc0 hv
        unfold gchn at hc0
        unfold ghang at hv
        refine y_iload (pc := 62) o dX16_belt_62 rfl ?_
        refine y_iconst (pc := 64) (x := -1) o dX16_belt_64 (by decide) ?_
        refine y_icmp_eq (pc := 65) (tgt := 98) o dX16_belt_65 rfl (fun b10 => absurd b10 (fun z => by rw [z] at hk; revert hk; decide)) (fun (b10 : ¬ k = (-1)) => ?_)
        refine y_iload (pc := 68) o dX16_belt_68 rfl ?_
        refine y_if_ne (pc := 70) (tgt := 98) o dX16_belt_70 rfl (fun b11 => absurd b11 (by rw [b5]; decide)) (fun (b11 : 0 = 0) => ?_)
        refine y_iload (pc := 73) o dX16_belt_73 rfl ?_
        refine y_iload_n (pc := 75) o dX16_belt_75 rfl ?_
        refine y_icmp_ne (pc := 76) (tgt := 83) o dX16_belt_76 rfl (fun (b12 : ¬ k = (gmi a)) => ?_) (fun (b12 : k = (gmi a)) => ?_)
        · refine y_iconst (pc := 83) (x := 0) o dX16_belt_83 (by decide) ?_
          refine y_istore (pc := 84) (i := 5) (lv' := [(5, .int (0)), (6, .int (k)), (4, .int (gmi b)), (3, .int (gmi a)), (0, .ref (ad (20, 0, 0))), (1, .int (a)), (2, .int (b))]) o dX16_belt_84 (by decide) rfl ?_
          refine y_aload_n (pc := 86) o dX16_belt_86 rfl ?_
          refine z_get (pc := 87) (K := (20, 0, 0)) (v := .ref (ad (22, 0, 0))) o fl_X16_31 dX16_belt_87 (gl_20 hR) rfl rfl ?_
          refine y_iload (pc := 90) o dX16_belt_90 rfl ?_
          refine z_iald (pc := 92) (K := (22, 0, 0)) (i := k) (v := R.1 (3, 0, k.toNatClampNeg) 1) o dX16_belt_92 (gl_22 hR) rfl (gix4 hk) (if_pos (gin_lt (gix4 hk))) ?_
          refine y_istore (pc := 93) (i := 6) (lv' := [(6, .int (R.1 (3, 0, k.toNatClampNeg) 1)), (5, .int (0)), (4, .int (gmi b)), (3, .int (gmi a)), (0, .ref (ad (20, 0, 0))), (1, .int (a)), (2, .int (b))]) o dX16_belt_93 (by decide) rfl ?_
          refine y_goto (pc := 95) (tgt := 62) o dX16_belt_95 rfl ?_
          have hk9 : ¬ k.toNatClampNeg = (gmi a).toNatClampNeg := gix_ne hk (gmi_gix b1) b12
          by_cases hd : R.1 (3, 0, k.toNatClampNeg) 1 = -1
          · have hg : gb (V = true) = 0 := gb_f (by rw [← hv]; simp [hk9, hd])
            have K9 := K (R.1 (3, 0, k.toNatClampNeg) 1)
            rw [hg] at K9
            refine y_lv [1, 0, 2, 3, 4, 5, 6] (lv' := [(5, .int (0)), (6, .int (R.1 (3, 0, k.toNatClampNeg) 1)), (4, .int (gmi b)), (3, .int (gmi a)), (0, .ref (ad (20, 0, 0))), (1, .int (a)), (2, .int (b))]) rfl ?_
            refine y_iload (pc := 62) o dX16_belt_62 rfl ?_
            refine y_iconst (pc := 64) (x := -1) o dX16_belt_64 (by decide) ?_
            refine y_icmp_eq (pc := 65) (tgt := 98) o dX16_belt_65 rfl (fun (b13 : (R.1 (3, 0, k.toNatClampNeg) 1) = (-1)) => ?_) (fun b13 => absurd hd b13)
            exact K9
          refine y_lv [1, 0, 2, 3, 4, 5, 6] (lv' := [(5, .int (0)), (6, .int (R.1 (3, 0, k.toNatClampNeg) 1)), (4, .int (gmi b)), (3, .int (gmi a)), (0, .ref (ad (20, 0, 0))), (1, .int (a)), (2, .int (b))]) rfl ?_
          exact ih _ ((hI.drv _).resolve_left hd) (by simpa [hd] using hc0) (by rw [← hv]; simp [hk9, hd])
        refine y_iconst (pc := 79) (x := 1) o dX16_belt_79 (by decide) ?_
        refine y_goto (pc := 80) (tgt := 84) o dX16_belt_80 rfl ?_
        refine y_istore (pc := 84) (i := 5) (lv' := [(5, .int (1)), (6, .int (k)), (4, .int (gmi b)), (3, .int (gmi a)), (0, .ref (ad (20, 0, 0))), (1, .int (a)), (2, .int (b))]) o dX16_belt_84 (by decide) rfl ?_
        refine y_aload_n (pc := 86) o dX16_belt_86 rfl ?_
        refine z_get (pc := 87) (K := (20, 0, 0)) (v := .ref (ad (22, 0, 0))) o fl_X16_31 dX16_belt_87 (gl_20 hR) rfl rfl ?_
        refine y_iload (pc := 90) o dX16_belt_90 rfl ?_
        refine z_iald (pc := 92) (K := (22, 0, 0)) (i := k) (v := R.1 (3, 0, k.toNatClampNeg) 1) o dX16_belt_92 (gl_22 hR) rfl (gix4 hk) (if_pos (gin_lt (gix4 hk))) ?_
        refine y_istore (pc := 93) (i := 6) (lv' := [(6, .int (R.1 (3, 0, k.toNatClampNeg) 1)), (5, .int (1)), (4, .int (gmi b)), (3, .int (gmi a)), (0, .ref (ad (20, 0, 0))), (1, .int (a)), (2, .int (b))]) o dX16_belt_93 (by decide) rfl ?_
        refine y_goto (pc := 95) (tgt := 62) o dX16_belt_95 rfl ?_
        have hk9 : k.toNatClampNeg = (gmi a).toNatClampNeg := congrArg _ b12
        have hg : gb (V = true) = 1 := gb_t (by rw [← hv]; simp [hk9])
        rw [← hg]
        refine y_lv [1, 0, 2, 3, 4, 5, 6] (lv' := [(5, .int (gb (V = true))), (6, .int (R.1 (3, 0, k.toNatClampNeg) 1)), (4, .int (gmi b)), (3, .int (gmi a)), (0, .ref (ad (20, 0, 0))), (1, .int (a)), (2, .int (b))]) rfl ?_
        have K9 := K (R.1 (3, 0, k.toNatClampNeg) 1)
        clear hv
        by_cases hd : R.1 (3, 0, k.toNatClampNeg) 1 = -1
        · refine y_iload (pc := 62) o dX16_belt_62 rfl ?_
          refine y_iconst (pc := 64) (x := -1) o dX16_belt_64 (by decide) ?_
          refine y_icmp_eq (pc := 65) (tgt := 98) o dX16_belt_65 rfl (fun (b14 : (R.1 (3, 0, k.toNatClampNeg) 1) = (-1)) => ?_) (fun b14 => absurd hd b14)
          exact K9
        refine y_iload (pc := 62) o dX16_belt_62 rfl ?_
        refine y_iconst (pc := 64) (x := -1) o dX16_belt_64 (by decide) ?_
        refine y_icmp_eq (pc := 65) (tgt := 98) o dX16_belt_65 rfl (fun b15 => absurd b15 hd) (fun (b15 : ¬ (R.1 (3, 0, k.toNatClampNeg) 1) = (-1)) => ?_)
        refine y_iload (pc := 68) o dX16_belt_68 rfl ?_
        refine z_bne (pc := 70) (tgt := 98) o dX16_belt_70 rfl (fun (b16 : V = true) => ?_) (fun b16 => absurd (gb_1.mp hg) b16)
        exact K9
    refine y_iconst (pc := 40) (x := 1) o dX16_belt_40 (by decide) ?_
    refine y_goto (pc := 41) (tgt := 45) o dX16_belt_41 rfl ?_
    refine y_iconst (pc := 45) (x := 1) o dX16_belt_45 (by decide) ?_
    refine z_callV (pc := 46) (k := 0) (n := 0) (k' := 0) (n' := 0) o (b := ad (20, 0, 0)) (As := [.int (1), .int (1)]) (rest := []) (kFailsT hR h5 1 (by decide)) ln_X16_74 dX16_belt_46 (z_rc (ci := 20) (K := (20, 0, 0)) rfl (gl_20 hR) rfl) rfl rfl (Nat.le_of_ble_eq_true rfl) ⟨by decide, by decide⟩ ⟨rfl, rfl⟩ ⟨by decide, by decide⟩ rfl gq_nox2 ?_
    refine y_if_eq (pc := 49) (tgt := 55) o dX16_belt_49 rfl (fun b17 => absurd b17 (by decide)) (fun (b17 : ¬ 1 = 0) => ?_)
    refine y_bipush (pc := 52) (x := 32) o dX16_belt_52 (by decide) ?_
    exact y_iret (pc := 54) o dX16_belt_54 rfl rfl (by decide) (by decide) (fun h hp => gP_thr (k := 1) (by simp +decide only [F_belt, gmi_ltn b1, gmi_n45 b1, gmi_ltn b3, gmi_n45 b3, b4, gmi45, gtc0, gtc1, gtc2, gtc3, gtc4, not_true_eq_false, not_false_eq_true, if_true, if_false, or_true, true_or, or_false, false_or, and_true, true_and, and_false, false_and, or_self, and_self, eq_self, Bool.false_eq_true, ne_eq, reduceIte]) (by decide) hp)
  refine y_iload_n (pc := 29) o dX16_belt_29 rfl ?_
  refine y_bipush (pc := 30) (x := 45) o dX16_belt_30 (by decide) ?_
  refine y_icmp_ne (pc := 32) (tgt := 40) o dX16_belt_32 rfl (fun (b18 : ¬ b = 45) => ?_) (fun (b18 : b = 45) => ?_)
  · refine y_iconst (pc := 40) (x := 1) o dX16_belt_40 (by decide) ?_
    refine y_goto (pc := 41) (tgt := 45) o dX16_belt_41 rfl ?_
    refine y_iconst (pc := 45) (x := 1) o dX16_belt_45 (by decide) ?_
    refine z_callV (pc := 46) (k := 0) (n := 0) (k' := 0) (n' := 0) o (b := ad (20, 0, 0)) (As := [.int (1), .int (1)]) (rest := []) (kFailsT hR h5 1 (by decide)) ln_X16_74 dX16_belt_46 (z_rc (ci := 20) (K := (20, 0, 0)) rfl (gl_20 hR) rfl) rfl rfl (Nat.le_of_ble_eq_true rfl) ⟨by decide, by decide⟩ ⟨rfl, rfl⟩ ⟨by decide, by decide⟩ rfl gq_nox2 ?_
    refine y_if_eq (pc := 49) (tgt := 55) o dX16_belt_49 rfl (fun b19 => absurd b19 (by decide)) (fun (b19 : ¬ 1 = 0) => ?_)
    refine y_bipush (pc := 52) (x := 32) o dX16_belt_52 (by decide) ?_
    exact y_iret (pc := 54) o dX16_belt_54 rfl rfl (by decide) (by decide) (fun h hp => gP_thr (k := 1) (by simp +decide only [F_belt, gmi_ltn b1, gmi_n45 b1, gmi_ltm b3, b18, gmi45, gtc0, gtc1, gtc2, gtc3, gtc4, not_true_eq_false, not_false_eq_true, if_true, if_false, or_true, true_or, or_false, false_or, and_true, true_and, and_false, false_and, or_self, and_self, eq_self, Bool.false_eq_true, ne_eq, reduceIte]) (by decide) hp)
  refine y_iload_n (pc := 35) o dX16_belt_35 rfl ?_
  refine y_iload_n (pc := 36) o dX16_belt_36 rfl ?_
  refine y_icmp_ne (pc := 37) (tgt := 44) o dX16_belt_37 rfl (fun (b20 : ¬ a = b) => ?_) (fun b20 => absurd (show gmi a < 0 from by rw [b20, b18]; decide) b1)
  refine y_iconst (pc := 44) (x := 0) o dX16_belt_44 (by decide) ?_
  refine y_iconst (pc := 45) (x := 1) o dX16_belt_45 (by decide) ?_
  refine z_callV (pc := 46) (k := 0) (n := 0) (k' := 0) (n' := 0) o (b := ad (20, 0, 0)) (As := [.int (0), .int (1)]) (rest := []) (kFailsF hR h5 1) ln_X16_74 dX16_belt_46 (z_rc (ci := 20) (K := (20, 0, 0)) rfl (gl_20 hR) rfl) rfl rfl (Nat.le_of_ble_eq_true rfl) ⟨by decide, by decide⟩ ⟨rfl, rfl⟩ ⟨by decide, by decide⟩ rfl gq_nox2 ?_
  refine y_if_eq (pc := 49) (tgt := 55) o dX16_belt_49 rfl (fun (b21 : 0 = 0) => ?_) (fun b21 => absurd b21 (by decide))
  refine y_iconst (pc := 55) (x := 0) o dX16_belt_55 (by decide) ?_
  refine y_istore (pc := 56) (i := 5) (lv' := [(5, .int (0)), (4, .int (gmi b)), (3, .int (gmi a)), (0, .ref (ad (20, 0, 0))), (1, .int (a)), (2, .int (b))]) o dX16_belt_56 (by decide) rfl ?_
  refine y_iload (pc := 58) o dX16_belt_58 rfl ?_
  refine y_istore (pc := 60) (i := 6) (lv' := [(6, .int (gmi b)), (5, .int (0)), (4, .int (gmi b)), (3, .int (gmi a)), (0, .ref (ad (20, 0, 0))), (1, .int (a)), (2, .int (b))]) o dX16_belt_60 (by decide) rfl ?_
  refine y_iload (pc := 62) o dX16_belt_62 rfl ?_
  refine y_iconst (pc := 64) (x := -1) o dX16_belt_64 (by decide) ?_
  refine y_icmp_eq (pc := 65) (tgt := 98) o dX16_belt_65 rfl (fun (b22 : (gmi b) = (-1)) => ?_) (fun b22 => absurd (gmi_ltm b3) b22)
  refine y_aload_n (pc := 98) o dX16_belt_98 rfl ?_
  refine y_iload (pc := 99) o dX16_belt_99 rfl ?_
  refine y_iconst (pc := 101) (x := 2) o dX16_belt_101 (by decide) ?_
  refine z_callV (pc := 102) (k := 0) (n := 0) (k' := 0) (n' := 0) o (b := ad (20, 0, 0)) (As := [.int (0), .int (2)]) (rest := []) (kFailsF hR h5 2) ln_X16_74 dX16_belt_102 (z_rc (ci := 20) (K := (20, 0, 0)) rfl (gl_20 hR) rfl) rfl rfl (Nat.le_of_ble_eq_true rfl) ⟨by decide, by decide⟩ ⟨rfl, rfl⟩ ⟨by decide, by decide⟩ rfl gq_nox2 ?_
  refine y_if_eq (pc := 105) (tgt := 111) o dX16_belt_105 rfl (fun (b23 : 0 = 0) => ?_) (fun b23 => absurd b23 (by rw [b21]; decide))
  refine y_aload_n (pc := 111) o dX16_belt_111 rfl ?_
  refine z_get (pc := 112) (K := (20, 0, 0)) (v := .ref (ad (22, 0, 0))) o fl_X16_31 dX16_belt_112 (gl_20 hR) rfl rfl ?_
  refine y_iload_n (pc := 115) o dX16_belt_115 rfl ?_
  refine z_iald (pc := 116) (K := (22, 0, 0)) (i := gmi a) (v := R.1 (3, 0, (gmi a).toNatClampNeg) 1) o dX16_belt_116 (gl_22 hR) rfl (gmi_vp b1) (if_pos (gin_lt (gmi_vp b1))) ?_
  refine y_istore (pc := 117) (i := 6) (lv' := [(6, .int (R.1 (3, 0, (gmi a).toNatClampNeg) 1)), (5, .int (0)), (4, .int (gmi b)), (3, .int (gmi a)), (0, .ref (ad (20, 0, 0))), (1, .int (a)), (2, .int (b))]) o dX16_belt_117 (by decide) rfl ?_
  refine y_aload_n (pc := 119) o dX16_belt_119 rfl ?_
  refine z_get (pc := 120) (K := (20, 0, 0)) (v := .ref (ad (22, 0, 0))) o fl_X16_31 dX16_belt_120 (gl_20 hR) rfl rfl ?_
  refine y_iload_n (pc := 123) o dX16_belt_123 rfl ?_
  refine y_iload (pc := 124) o dX16_belt_124 rfl ?_
  refine z_iast22 (pc := 126) (i := gmi a) (x := gmi b) o dX16_belt_126 (gfix_2 hR) (gl_22 hR) (gmi_vp b1) ?_
  refine y_iload (pc := 127) o dX16_belt_127 rfl ?_
  refine y_iconst (pc := 129) (x := -1) o dX16_belt_129 (by decide) ?_
  refine y_icmp_ne (pc := 130) (tgt := 138) o dX16_belt_130 rfl (fun (b24 : ¬ (R.1 (3, 0, (gmi a).toNatClampNeg) 1) = (-1)) => ?_) (fun (b24 : (R.1 (3, 0, (gmi a).toNatClampNeg) 1) = (-1)) => ?_)
  · refine y_ldcS (pc := 138) o 0 dX16_belt_138 rfl ?_
    refine y_iload (pc := 140) o dX16_belt_140 rfl ?_
    have hdv := (hI.drv (gmi a).toNatClampNeg).resolve_left b24
    refine z_callV (pc := 142) (k := 0) (n := 0) (k' := 0) (n' := 0) o (b := κ.2.2 0) (As := [.int (R.1 (3, 0, (gmi a).toNatClampNeg) 1)]) (rest := []) (c_charAt 0 (by decide) (R.1 (3, 0, (gmi a).toNatClampNeg) 1) (gnm (R.1 (3, 0, (gmi a).toNatClampNeg) 1).toNatClampNeg) (gix_iff.mp hdv).1 (gix_iff.mp hdv).2 (gix4 hdv) (gnm_at _ (gix_lt (by decide) hdv))) ln_X16_89 dX16_belt_142 (gq_rs 0 (by decide)) rfl rfl (Nat.le_of_ble_eq_true rfl) ⟨by decide, by decide⟩ ⟨rfl, rfl⟩ ⟨by decide, by decide⟩ rfl gq_nox2 ?_
    exact y_iret (pc := 145) o dX16_belt_145 rfl gnm_ch (by decide) (by decide) (fun h hp => gP_mk (by simp +decide only [F_belt, gmi_ltn b1, gmi_n45 b1, gmi_ltm b3, b18, b20, b22, b24, gmi45, gtc0, gtc1, gtc2, gtc3, gtc4, not_true_eq_false, not_false_eq_true, if_true, if_false, or_true, true_or, or_false, false_or, and_true, true_and, and_false, false_and, or_self, and_self, eq_self, Bool.false_eq_true, ne_eq, reduceIte]) rfl rfl hp)
  refine y_bipush (pc := 133) (x := 45) o dX16_belt_133 (by decide) ?_
  refine y_goto (pc := 135) (tgt := 145) o dX16_belt_135 rfl ?_
  exact y_iret (pc := 145) o dX16_belt_145 rfl rfl (by decide) (by decide) (fun h hp => gP_mk (by simp +decide only [F_belt, gmi_ltn b1, gmi_n45 b1, gmi_ltm b3, b18, b20, b22, b24, gmi45, gtc0, gtc1, gtc2, gtc3, gtc4, not_true_eq_false, not_false_eq_true, if_true, if_false, or_true, true_or, or_false, false_or, and_true, true_and, and_false, false_and, or_self, and_self, eq_self, Bool.false_eq_true, ne_eq, reduceIte]) rfl rfl hp)

theorem r_sample {κ : gq_K} {ad : gKey → Nat} {C Rp R : gG} {T : List (Nat × va_E)} {n : Nat} (hb : gup Rp (0, 0, 0) 5 0 = R) (hI : gI n R) (hn : n ≤ 512) (a : Int32) (b : Int32) : gq_C κ mX16_sample [.ref (ad (20, 0, 0)), .int (a), .int (b)] (gR κ ad (C, Rp) T) (gP κ ad C T (F_sample R a b)) (gq_no) := by
  refine gq_enter (by decide +kernel) rfl (Nat.le_of_ble_eq_true rfl) rfl (fun f o => ?_)
  have hR := hI.fix
  have hBR := hI.cnt
  have hRp : gfix Rp.2 := by rw [← hb] at hR; exact hR
  have h5 : R.1 (0, 0, 0) 5 = 0 := by rw [← hb]; exact gup_v _ _ _ _
  refine y_aload_n (pc := 0) o dX16_sample_0 rfl ?_
  refine z_callVv (pc := 1) (k := 0) (n := 0) (k' := 0) (n' := 0) o (b := ad (20, 0, 0)) (As := []) (rest := []) (kBegins hRp) ln_X16_69 dX16_sample_1 (z_rc (ci := 20) (K := (20, 0, 0)) rfl (gl_20 hRp) rfl) rfl rfl (Nat.le_of_ble_eq_true rfl) ⟨by decide, by decide⟩ ⟨rfl, rfl⟩ ⟨by decide, by decide⟩ rfl gq_nox2 ?_
  rw [hb]
  refine y_aload_n (pc := 4) o dX16_sample_4 rfl ?_
  refine y_iload_n (pc := 5) o dX16_sample_5 rfl ?_
  by_cases g1 : gix (R.2 10 0) a = true
  · refine z_callV (pc := 6) (k := 0) (n := 0) (k' := 0) (n' := 0) o (b := ad (20, 0, 0)) (As := [.int (a)]) (rest := []) (knoRunF hR hBR h5 a g1) ln_X16_253 dX16_sample_6 (z_rc (ci := 20) (K := (20, 0, 0)) rfl (gl_20 hR) rfl) rfl rfl (Nat.le_of_ble_eq_true rfl) ⟨by decide, by decide⟩ ⟨rfl, rfl⟩ ⟨by decide, by decide⟩ rfl gq_nox2 ?_
    refine y_if_ne (pc := 9) (tgt := 70) o dX16_sample_9 rfl (fun b2 => absurd b2 (by decide)) (fun (b2 : 0 = 0) => ?_)
    refine y_aload_n (pc := 12) o dX16_sample_12 rfl ?_
    refine y_iload_n (pc := 13) o dX16_sample_13 rfl ?_
    refine y_i2l (pc := 14) o dX16_sample_14 ?_
    refine y_lconst (pc := 15) (x := 1) o dX16_sample_15 (by decide) ?_
    refine y_ldc2 (pc := 16) o dX16_sample_16 qw_1399 ?_
    refine z_callS (pc := 19) (k := 0) (n := 0) (k' := 0) (n' := 0) o (As := [.long (b.toInt64), .long (1), .long (50)]) (rest := [.ref (ad (20, 0, 0))]) (kIn b 1 50) ln_X16_13 dX16_sample_19 rfl rfl (Nat.le_of_ble_eq_true rfl) ⟨by decide, by decide⟩ ⟨rfl, rfl⟩ ⟨by decide, by decide⟩ rfl gq_nox2 ?_
    refine z_bne (pc := 22) (tgt := 29) o dX16_sample_22 rfl (fun (b3 : gin 1 b 50 = true) => ?_) (fun (b3 : ¬ (gin 1 b 50 = true)) => ?_)
    · refine y_iconst (pc := 29) (x := 0) o dX16_sample_29 (by decide) ?_
      refine y_iconst (pc := 30) (x := 2) o dX16_sample_30 (by decide) ?_
      refine z_callV (pc := 31) (k := 0) (n := 0) (k' := 0) (n' := 0) o (b := ad (20, 0, 0)) (As := [.int (0), .int (2)]) (rest := []) (kFailsF hR h5 2) ln_X16_74 dX16_sample_31 (z_rc (ci := 20) (K := (20, 0, 0)) rfl (gl_20 hR) rfl) rfl rfl (Nat.le_of_ble_eq_true rfl) ⟨by decide, by decide⟩ ⟨rfl, rfl⟩ ⟨by decide, by decide⟩ rfl gq_nox2 ?_
      refine y_if_ne (pc := 34) (tgt := 70) o dX16_sample_34 rfl (fun b4 => absurd b4 (by rw [b2]; decide)) (fun (b4 : 0 = 0) => ?_)
      refine y_aload_n (pc := 37) o dX16_sample_37 rfl ?_
      refine y_aload_n (pc := 38) o dX16_sample_38 rfl ?_
      refine z_get (pc := 39) (K := (20, 0, 0)) (v := .ref (ad (24, 4, 0))) o fl_X16_57 dX16_sample_39 (gl_20 hR) rfl rfl ?_
      refine y_iload_n (pc := 42) o dX16_sample_42 rfl ?_
      refine z_callF (pc := 43) (k := 0) (n := 0) (k' := 0) (n' := 0) (ci := 3) o (b := ad (24, 4, 0)) (As := [.int (a)]) (rest := [.ref (ad (20, 0, 0))]) (getR (l := 4) (g := 0) (gl_24_4 hR) (hBR 4 0 (by decide)) g1) rfl lf_X16_114 dX16_sample_43 (fun h hr => ⟨_, ghdr_R (R := R) (gl_24_4 hR) hr⟩) rfl rfl (Nat.le_of_ble_eq_true rfl) ⟨by decide, by decide⟩ ⟨rfl, rfl⟩ ⟨by decide, by decide⟩ ?_
      refine z_cast (pc := 48) (ci := 18) (K := (30, 0, a.toNatClampNeg)) o rfl qw_1601 dX16_sample_48 (gl_30 (gix_lt (Nat.le_trans (hBR 4 0 (by decide)) (by decide)) g1)) rfl ?_
      refine z_get (pc := 51) (K := (30, 0, a.toNatClampNeg)) (v := .int (R.1 (10, 0, a.toNatClampNeg) 3)) o fl_X16_248 dX16_sample_51 (gl_30 (gix_lt (Nat.le_trans (hBR 4 0 (by decide)) (by decide)) g1)) rfl rfl ?_
      refine y_iload_n (pc := 54) o dX16_sample_54 rfl ?_
      refine z_icmp_ge (pc := 55) (tgt := 62) o dX16_sample_55 rfl (fun (b5 : ¬ (R.1 (10, 0, a.toNatClampNeg) 3) < b) => ?_) (fun (b5 : (R.1 (10, 0, a.toNatClampNeg) 3) < b) => ?_)
      · refine y_iconst (pc := 62) (x := 0) o dX16_sample_62 (by decide) ?_
        refine y_iconst (pc := 63) (x := 3) o dX16_sample_63 (by decide) ?_
        refine z_callV (pc := 64) (k := 0) (n := 0) (k' := 0) (n' := 0) o (b := ad (20, 0, 0)) (As := [.int (0), .int (3)]) (rest := []) (kFailsF hR h5 3) ln_X16_74 dX16_sample_64 (z_rc (ci := 20) (K := (20, 0, 0)) rfl (gl_20 hR) rfl) rfl rfl (Nat.le_of_ble_eq_true rfl) ⟨by decide, by decide⟩ ⟨rfl, rfl⟩ ⟨by decide, by decide⟩ rfl gq_nox2 ?_
        refine y_if_eq (pc := 67) (tgt := 72) o dX16_sample_67 rfl (fun (b6 : 0 = 0) => ?_) (fun b6 => absurd b6 (by rw [b2]; decide))
        refine y_aload_n (pc := 72) o dX16_sample_72 rfl ?_
        refine z_get (pc := 73) (K := (20, 0, 0)) (v := .ref (ad (24, 4, 0))) o fl_X16_57 dX16_sample_73 (gl_20 hR) rfl rfl ?_
        refine y_iload_n (pc := 76) o dX16_sample_76 rfl ?_
        refine z_callF (pc := 77) (k := 0) (n := 0) (k' := 0) (n' := 0) (ci := 3) o (b := ad (24, 4, 0)) (As := [.int (a)]) (rest := []) (getR (l := 4) (g := 0) (gl_24_4 hR) (hBR 4 0 (by decide)) g1) rfl lf_X16_114 dX16_sample_77 (fun h hr => ⟨_, ghdr_R (R := R) (gl_24_4 hR) hr⟩) rfl rfl (Nat.le_of_ble_eq_true rfl) ⟨by decide, by decide⟩ ⟨rfl, rfl⟩ ⟨by decide, by decide⟩ ?_
        refine z_cast (pc := 82) (ci := 18) (K := (30, 0, a.toNatClampNeg)) o rfl qw_1601 dX16_sample_82 (gl_30 (gix_lt (Nat.le_trans (hBR 4 0 (by decide)) (by decide)) g1)) rfl ?_
        refine y_astore_n (pc := 85) (i := 3) (lv' := [(3, .ref (ad (30, 0, a.toNatClampNeg))), (0, .ref (ad (20, 0, 0))), (1, .int (a)), (2, .int (b))]) o dX16_sample_85 rfl (by decide) rfl ?_
        refine y_iconst (pc := 86) (x := 0) o dX16_sample_86 (by decide) ?_
        refine y_istore (pc := 87) (i := 4) (lv' := [(4, .int (0)), (3, .ref (ad (30, 0, a.toNatClampNeg))), (0, .ref (ad (20, 0, 0))), (1, .int (a)), (2, .int (b))]) o dX16_sample_87 (by decide) rfl ?_
        refine y_iconst (pc := 89) (x := 0) o dX16_sample_89 (by decide) ?_
        refine y_istore (pc := 90) (i := 5) (lv' := [(5, .int (0)), (4, .int (0)), (3, .ref (ad (30, 0, a.toNatClampNeg))), (0, .ref (ad (20, 0, 0))), (1, .int (a)), (2, .int (b))]) o dX16_sample_90 (by decide) rfl ?_
        have hr0 : a.toNatClampNeg < R.2 10 0 := (gix_lt (Nat.le_trans (hBR 4 0 (by decide)) (by decide)) g1)
        have hin : gin 1 b 50 = true := b3
        have hpb := b5
        have hb0 : b = Int32.ofNat b.toNatClampNeg ∧ b.toNatClampNeg ≤ 50 := gin50 hin
        suffices H : ∀ m j : Nat, j + m = b.toNatClampNeg → gq_Y κ mX16_sample (gP κ ad C T (F_sample R a b)) gq_no f (gR κ ad (C, gsmp R a.toNatClampNeg j) T) [(5, .int (Int32.ofNat j)), (4, .int (R.1 (10, 0, a.toNatClampNeg) 4 - (gsmp R a.toNatClampNeg j).1 (10, 0, a.toNatClampNeg) 4)), (3, .ref (ad (30, 0, a.toNatClampNeg))), (0, .ref (ad (20, 0, 0))), (1, .int (a)), (2, .int (b))] 92 [] 0 0 from ?_
        · have e0 : (0 : Int32) = R.1 (10, 0, a.toNatClampNeg) 4 - R.1 (10, 0, a.toNatClampNeg) 4 := (Int32.sub_self _).symm
          have H0 := H b.toNatClampNeg 0 (Nat.zero_add _)
          have e1 : R.1 (10, 0, a.toNatClampNeg) 4 - (gsmp R a.toNatClampNeg 0).1 (10, 0, a.toNatClampNeg) 4 = 0 := Int32.sub_self _
          rw [e1] at H0
          exact H0
        intro m
        induction m with
        | zero =>
          intro j hj
          have h2 := gsmp_2 R a.toNatClampNeg j
          have h3 := gsmp_3 R a.toNatClampNeg j
          have hjb : j = b.toNatClampNeg := by omega
          obtain ⟨D, hD⟩ : ∃ D, D = gsmp R a.toNatClampNeg j := ⟨_, rfl⟩
          rw [← hD] at h2 h3 ⊢
          have hD2 : gfix D.2 := by rw [h2]; exact hR
          have hrD : a.toNatClampNeg < D.2 10 0 := by rw [h2]; exact hr0
          refine y_iload (pc := 92) o dX16_sample_92 rfl ?_
          refine y_iload_n (pc := 94) o dX16_sample_94 rfl ?_
          refine z_icmp_ge (pc := 95) (tgt := 161) o dX16_sample_95 rfl (fun (b7 : ¬ (Int32.ofNat j) < b) => ?_) (fun b7 => absurd ((gofs_lt (by omega) (by omega)).mp (hb0.1 ▸ b7)) (by omega))
          refine y_iload (pc := 161) o dX16_sample_161 rfl ?_
          rw [hjb] at hD
          subst hD
          exact y_iret (pc := 163) o dX16_sample_163 rfl (vp_nar_int _) (by decide) (by decide) (fun h hp => gP_mk (by simp +decide only [F_sample, g1, hin, hpb, gtc0, gtc1, gtc2, gtc3, gtc4, not_true_eq_false, not_false_eq_true, if_true, if_false, or_true, true_or, or_false, false_or, and_true, true_and, and_false, false_and, or_self, and_self, eq_self, Bool.false_eq_true, ne_eq, reduceIte]) rfl rfl (hp.ghost20 0 4 ((gsmp R a.toNatClampNeg b.toNatClampNeg).1 (0, 0, 0) 4 + b) (by decide) (fun _ _ => rfl)))
        | succ m ih =>
          intro j hj
          have h2 := gsmp_2 R a.toNatClampNeg j
          have h3 := gsmp_3 R a.toNatClampNeg j
          have hpos := gsmp_pos hin hpb (show j < b.toNatClampNeg by omega)
          rw [← h3] at hpos
          have hstep : gsmp R a.toNatClampNeg (j + 1) = gsmp1 (gsmp R a.toNatClampNeg j) a.toNatClampNeg := rfl
          generalize gsmp R a.toNatClampNeg j = D at *
          have hD2 : gfix D.2 := by rw [h2]; exact hR
          have hrD : a.toNatClampNeg < D.2 10 0 := by rw [h2]; exact hr0
          refine y_iload (pc := 92) o dX16_sample_92 rfl ?_
          refine y_iload_n (pc := 94) o dX16_sample_94 rfl ?_
          refine z_icmp_ge (pc := 95) (tgt := 161) o dX16_sample_95 rfl (fun b8 => absurd (by rw [hb0.1]; exact (gofs_lt (by omega) (by omega)).mpr (by omega)) b8) (fun (b8 : (Int32.ofNat j) < b) => ?_)
          refine y_aload_n (pc := 98) o dX16_sample_98 rfl ?_
          refine y_aload_n (pc := 99) o dX16_sample_99 rfl ?_
          refine z_get (pc := 100) (K := (20, 0, 0)) (v := .int (D.1 (0, 0, 0) 2)) o fl_X16_66 dX16_sample_100 (gl_20 hD2) rfl rfl ?_
          refine y_i2l (pc := 103) o dX16_sample_103 ?_
          refine y_ldc2 (pc := 104) o dX16_sample_104 qw_1672 ?_
          refine y_lmul (pc := 107) o dX16_sample_107 ?_
          refine y_ldc2 (pc := 108) o dX16_sample_108 qw_1673 ?_
          refine y_lrem (pc := 111) o dX16_sample_111 (by decide) ?_
          refine y_l2i (pc := 112) o dX16_sample_112 ?_
          refine z_put20 (pc := 113) (b := 0) (fd := 2) (x := ((((D.1 (0, 0, 0) 2).toInt64) * 48271) - (((D.1 (0, 0, 0) 2).toInt64) * 48271) / 2147483647 * 2147483647).toInt32) o fw_X16_66 dX16_sample_113 (gfix_0 hD2) (gl_20 hD2) (by decide) rfl (Nat.le_of_ble_eq_true rfl) (vp_nar_int _) rfl rfl p20_17 ?_
          refine y_aload_n (pc := 116) o dX16_sample_116 rfl ?_
          refine z_get (pc := 117) (K := (20, 0, 0)) (v := .int ((gup D (0, 0, 0) 2 (((((D.1 (0, 0, 0) 2).toInt64) * 48271) - (((D.1 (0, 0, 0) 2).toInt64) * 48271) / 2147483647 * 2147483647).toInt32)).1 (0, 0, 0) 2)) o fl_X16_66 dX16_sample_117 (gl_20 hD2) rfl rfl ?_
          refine z_top (congrArg Value.int (gup_v _ _ _ _)) ?_
          refine y_aload_n (pc := 120) o dX16_sample_120 rfl ?_
          refine z_get (pc := 121) (K := (30, 0, a.toNatClampNeg)) (v := .int ((gup D (0, 0, 0) 2 (((((D.1 (0, 0, 0) 2).toInt64) * 48271) - (((D.1 (0, 0, 0) 2).toInt64) * 48271) / 2147483647 * 2147483647).toInt32)).1 (10, 0, a.toNatClampNeg) 3)) o fl_X16_248 dX16_sample_121 (gl_30 hrD) rfl rfl ?_
          refine z_top (congrArg Value.int (gup_ff _ (show (3:Nat) ≠ 2 by decide))) ?_
          refine y_irem (pc := 124) o dX16_sample_124 (fun z => by rw [z] at hpos; exact absurd hpos (by decide)) ?_
          refine y_aload_n (pc := 125) o dX16_sample_125 rfl ?_
          refine z_get (pc := 126) (K := (30, 0, a.toNatClampNeg)) (v := .int ((gup D (0, 0, 0) 2 (((((D.1 (0, 0, 0) 2).toInt64) * 48271) - (((D.1 (0, 0, 0) 2).toInt64) * 48271) / 2147483647 * 2147483647).toInt32)).1 (10, 0, a.toNatClampNeg) 4)) o fl_X16_270 dX16_sample_126 (gl_30 hrD) rfl rfl ?_
          refine z_top (congrArg Value.int (gup_ff _ (show (4:Nat) ≠ 2 by decide))) ?_
          refine z_icmp_ge (pc := 129) (tgt := 145) o dX16_sample_129 rfl (fun (b9 : ¬ ((((((D.1 (0, 0, 0) 2).toInt64) * 48271) - (((D.1 (0, 0, 0) 2).toInt64) * 48271) / 2147483647 * 2147483647).toInt32) - (((((D.1 (0, 0, 0) 2).toInt64) * 48271) - (((D.1 (0, 0, 0) 2).toInt64) * 48271) / 2147483647 * 2147483647).toInt32) / (D.1 (10, 0, a.toNatClampNeg) 3) * (D.1 (10, 0, a.toNatClampNeg) 3)) < (D.1 (10, 0, a.toNatClampNeg) 4)) => ?_) (fun (b9 : ((((((D.1 (0, 0, 0) 2).toInt64) * 48271) - (((D.1 (0, 0, 0) 2).toInt64) * 48271) / 2147483647 * 2147483647).toInt32) - (((((D.1 (0, 0, 0) 2).toInt64) * 48271) - (((D.1 (0, 0, 0) 2).toInt64) * 48271) / 2147483647 * 2147483647).toInt32) / (D.1 (10, 0, a.toNatClampNeg) 3) * (D.1 (10, 0, a.toNatClampNeg) 3)) < (D.1 (10, 0, a.toNatClampNeg) 4)) => ?_)
          · refine y_aload_n (pc := 145) o dX16_sample_145 rfl ?_
            refine y_dup (pc := 146) o dX16_sample_146 rfl ?_
            refine z_get (pc := 147) (K := (30, 0, a.toNatClampNeg)) (v := .int ((gup D (0, 0, 0) 2 (((((D.1 (0, 0, 0) 2).toInt64) * 48271) - (((D.1 (0, 0, 0) 2).toInt64) * 48271) / 2147483647 * 2147483647).toInt32)).1 (10, 0, a.toNatClampNeg) 3)) o fl_X16_248 dX16_sample_147 (gl_30 hrD) rfl rfl ?_
            refine z_top (congrArg Value.int (gup_ff _ (show (3:Nat) ≠ 2 by decide))) ?_
            refine y_iconst (pc := 150) (x := 1) o dX16_sample_150 (by decide) ?_
            refine y_isub (pc := 151) o dX16_sample_151 ?_
            refine z_putR (pc := 152) (K := (30, 0, a.toNatClampNeg)) (fd := 3) (x := (D.1 (10, 0, a.toNatClampNeg) 3) - 1) (B := (10, 0, a.toNatClampNeg)) o fw_X16_248 dX16_sample_152 (gl_30 hrD) (show 24 ≤ (30:Nat) by decide) rfl rfl (Nat.le_of_ble_eq_true rfl) (vp_nar_int _) rfl rfl pR_30_3 ?_
            refine y_iinc (pc := 155) (i := 5) (j := 0) (v := (Int32.ofNat j) + 1) (lv' := [(5, .int ((Int32.ofNat j) + 1)), (4, .int (R.1 (10, 0, a.toNatClampNeg) 4 - D.1 (10, 0, a.toNatClampNeg) 4)), (3, .ref (ad (30, 0, a.toNatClampNeg))), (0, .ref (ad (20, 0, 0))), (1, .int (a)), (2, .int (b))]) o dX16_sample_155 rfl rfl (by decide) rfl ?_
            refine y_goto (pc := 158) (tgt := 92) o dX16_sample_158 rfl ?_
            rw [(gofs (n := j) (by omega)).2.2]
            have hs : gsmp1 D a.toNatClampNeg = (gup (gup D (0, 0, 0) 2 (((((D.1 (0, 0, 0) 2).toInt64) * 48271) - (((D.1 (0, 0, 0) 2).toInt64) * 48271) / 2147483647 * 2147483647).toInt32)) (10, 0, a.toNatClampNeg) 3 ((D.1 (10, 0, a.toNatClampNeg) 3) - 1)) := by unfold gsmp1 gnz; rw [if_neg b9]
            have hs4 : (gsmp1 D a.toNatClampNeg).1 (10, 0, a.toNatClampNeg) 4 = D.1 (10, 0, a.toNatClampNeg) 4 := by rw [hs]; exact (Eq.trans (gup_vf _ (show (4:Nat) ≠ 3 by decide)) (gup_ff _ (show (4:Nat) ≠ 2 by decide)))
            have H1 := ih (j + 1) (by omega)
            rw [hstep, hs4] at H1
            rw [← hs]
            exact H1
          refine y_aload_n (pc := 132) o dX16_sample_132 rfl ?_
          refine y_dup (pc := 133) o dX16_sample_133 rfl ?_
          refine z_get (pc := 134) (K := (30, 0, a.toNatClampNeg)) (v := .int ((gup D (0, 0, 0) 2 (((((D.1 (0, 0, 0) 2).toInt64) * 48271) - (((D.1 (0, 0, 0) 2).toInt64) * 48271) / 2147483647 * 2147483647).toInt32)).1 (10, 0, a.toNatClampNeg) 4)) o fl_X16_270 dX16_sample_134 (gl_30 hrD) rfl rfl ?_
          refine z_top (congrArg Value.int (gup_ff _ (show (4:Nat) ≠ 2 by decide))) ?_
          refine y_iconst (pc := 137) (x := 1) o dX16_sample_137 (by decide) ?_
          refine y_isub (pc := 138) o dX16_sample_138 ?_
          refine z_putR (pc := 139) (K := (30, 0, a.toNatClampNeg)) (fd := 4) (x := (D.1 (10, 0, a.toNatClampNeg) 4) - 1) (B := (10, 0, a.toNatClampNeg)) o fw_X16_270 dX16_sample_139 (gl_30 hrD) (show 24 ≤ (30:Nat) by decide) rfl rfl (Nat.le_of_ble_eq_true rfl) (vp_nar_int _) rfl rfl pR_30_4 ?_
          refine y_iinc (pc := 142) (i := 4) (j := 1) (v := (R.1 (10, 0, a.toNatClampNeg) 4 - D.1 (10, 0, a.toNatClampNeg) 4) + 1) (lv' := [(4, .int ((R.1 (10, 0, a.toNatClampNeg) 4 - D.1 (10, 0, a.toNatClampNeg) 4) + 1)), (5, .int (Int32.ofNat j)), (3, .ref (ad (30, 0, a.toNatClampNeg))), (0, .ref (ad (20, 0, 0))), (1, .int (a)), (2, .int (b))]) o dX16_sample_142 rfl rfl (by decide) rfl ?_
          refine y_aload_n (pc := 145) o dX16_sample_145 rfl ?_
          refine y_dup (pc := 146) o dX16_sample_146 rfl ?_
          refine z_get (pc := 147) (K := (30, 0, a.toNatClampNeg)) (v := .int ((gup (gup D (0, 0, 0) 2 (((((D.1 (0, 0, 0) 2).toInt64) * 48271) - (((D.1 (0, 0, 0) 2).toInt64) * 48271) / 2147483647 * 2147483647).toInt32)) (10, 0, a.toNatClampNeg) 4 ((D.1 (10, 0, a.toNatClampNeg) 4) - 1)).1 (10, 0, a.toNatClampNeg) 3)) o fl_X16_248 dX16_sample_147 (gl_30 hrD) rfl rfl ?_
          refine z_top (congrArg Value.int (Eq.trans (gup_vf _ (show (3:Nat) ≠ 4 by decide)) (gup_ff _ (show (3:Nat) ≠ 2 by decide)))) ?_
          refine y_iconst (pc := 150) (x := 1) o dX16_sample_150 (by decide) ?_
          refine y_isub (pc := 151) o dX16_sample_151 ?_
          refine z_putR (pc := 152) (K := (30, 0, a.toNatClampNeg)) (fd := 3) (x := (D.1 (10, 0, a.toNatClampNeg) 3) - 1) (B := (10, 0, a.toNatClampNeg)) o fw_X16_248 dX16_sample_152 (gl_30 hrD) (show 24 ≤ (30:Nat) by decide) rfl rfl (Nat.le_of_ble_eq_true rfl) (vp_nar_int _) rfl rfl pR_30_3 ?_
          refine y_iinc (pc := 155) (i := 5) (j := 1) (v := (Int32.ofNat j) + 1) (lv' := [(5, .int ((Int32.ofNat j) + 1)), (4, .int ((R.1 (10, 0, a.toNatClampNeg) 4 - D.1 (10, 0, a.toNatClampNeg) 4) + 1)), (3, .ref (ad (30, 0, a.toNatClampNeg))), (0, .ref (ad (20, 0, 0))), (1, .int (a)), (2, .int (b))]) o dX16_sample_155 rfl rfl (by decide) rfl ?_
          refine y_goto (pc := 158) (tgt := 92) o dX16_sample_158 rfl ?_
          rw [(gofs (n := j) (by omega)).2.2]
          have hs : gsmp1 D a.toNatClampNeg = (gup (gup (gup D (0, 0, 0) 2 (((((D.1 (0, 0, 0) 2).toInt64) * 48271) - (((D.1 (0, 0, 0) 2).toInt64) * 48271) / 2147483647 * 2147483647).toInt32)) (10, 0, a.toNatClampNeg) 4 ((D.1 (10, 0, a.toNatClampNeg) 4) - 1)) (10, 0, a.toNatClampNeg) 3 ((D.1 (10, 0, a.toNatClampNeg) 3) - 1)) := by unfold gsmp1 gnz; rw [if_pos b9]
          have hs4 : (gsmp1 D a.toNatClampNeg).1 (10, 0, a.toNatClampNeg) 4 = (D.1 (10, 0, a.toNatClampNeg) 4) - 1 := by rw [hs]; exact (Eq.trans (gup_vf _ (show (4:Nat) ≠ 3 by decide)) (gup_v _ _ _ _))
          have H1 := ih (j + 1) (by omega)
          rw [hstep, hs4] at H1
          rw [gsn]
          rw [← hs]
          exact H1
      refine y_iconst (pc := 58) (x := 1) o dX16_sample_58 (by decide) ?_
      refine y_goto (pc := 59) (tgt := 63) o dX16_sample_59 rfl ?_
      refine y_iconst (pc := 63) (x := 3) o dX16_sample_63 (by decide) ?_
      refine z_callV (pc := 64) (k := 0) (n := 0) (k' := 0) (n' := 0) o (b := ad (20, 0, 0)) (As := [.int (1), .int (3)]) (rest := []) (kFailsT hR h5 3 (by decide)) ln_X16_74 dX16_sample_64 (z_rc (ci := 20) (K := (20, 0, 0)) rfl (gl_20 hR) rfl) rfl rfl (Nat.le_of_ble_eq_true rfl) ⟨by decide, by decide⟩ ⟨rfl, rfl⟩ ⟨by decide, by decide⟩ rfl gq_nox2 ?_
      refine y_if_eq (pc := 67) (tgt := 72) o dX16_sample_67 rfl (fun b10 => absurd b10 (by decide)) (fun (b10 : ¬ 1 = 0) => ?_)
      refine y_iconst (pc := 70) (x := -1) o dX16_sample_70 (by decide) ?_
      exact y_iret (pc := 71) o dX16_sample_71 rfl (vp_nar_int _) (by decide) (by decide) (fun h hp => gP_thr (k := 3) (by simp +decide only [F_sample, g1, b3, b5, gtc0, gtc1, gtc2, gtc3, gtc4, not_true_eq_false, not_false_eq_true, if_true, if_false, or_true, true_or, or_false, false_or, and_true, true_and, and_false, false_and, or_self, and_self, eq_self, Bool.false_eq_true, ne_eq, reduceIte]) (by decide) hp)
    refine y_iconst (pc := 25) (x := 1) o dX16_sample_25 (by decide) ?_
    refine y_goto (pc := 26) (tgt := 30) o dX16_sample_26 rfl ?_
    refine y_iconst (pc := 30) (x := 2) o dX16_sample_30 (by decide) ?_
    refine z_callV (pc := 31) (k := 0) (n := 0) (k' := 0) (n' := 0) o (b := ad (20, 0, 0)) (As := [.int (1), .int (2)]) (rest := []) (kFailsT hR h5 2 (by decide)) ln_X16_74 dX16_sample_31 (z_rc (ci := 20) (K := (20, 0, 0)) rfl (gl_20 hR) rfl) rfl rfl (Nat.le_of_ble_eq_true rfl) ⟨by decide, by decide⟩ ⟨rfl, rfl⟩ ⟨by decide, by decide⟩ rfl gq_nox2 ?_
    refine y_if_ne (pc := 34) (tgt := 70) o dX16_sample_34 rfl (fun (b11 : ¬ 1 = 0) => ?_) (fun b11 => absurd b11 (by decide))
    refine y_iconst (pc := 70) (x := -1) o dX16_sample_70 (by decide) ?_
    exact y_iret (pc := 71) o dX16_sample_71 rfl (vp_nar_int _) (by decide) (by decide) (fun h hp => gP_thr (k := 2) (by simp +decide only [F_sample, g1, b3, gtc0, gtc1, gtc2, gtc3, gtc4, not_true_eq_false, not_false_eq_true, if_true, if_false, or_true, true_or, or_false, false_or, and_true, true_and, and_false, false_and, or_self, and_self, eq_self, Bool.false_eq_true, ne_eq, reduceIte]) (by decide) hp)
  refine z_callV (pc := 6) (k := 0) (n := 0) (k' := 0) (n' := 0) o (b := ad (20, 0, 0)) (As := [.int (a)]) (rest := []) (knoRunT hR hBR h5 a g1) ln_X16_253 dX16_sample_6 (z_rc (ci := 20) (K := (20, 0, 0)) rfl (gl_20 hR) rfl) rfl rfl (Nat.le_of_ble_eq_true rfl) ⟨by decide, by decide⟩ ⟨rfl, rfl⟩ ⟨by decide, by decide⟩ rfl gq_nox2 ?_
  refine y_if_ne (pc := 9) (tgt := 70) o dX16_sample_9 rfl (fun (b12 : ¬ 1 = 0) => ?_) (fun b12 => absurd b12 (by decide))
  refine y_iconst (pc := 70) (x := -1) o dX16_sample_70 (by decide) ?_
  exact y_iret (pc := 71) o dX16_sample_71 rfl (vp_nar_int _) (by decide) (by decide) (fun h hp => gP_thr (k := 1) (by simp +decide only [F_sample, g1, gtc0, gtc1, gtc2, gtc3, gtc4, not_true_eq_false, not_false_eq_true, if_true, if_false, or_true, true_or, or_false, false_or, and_true, true_and, and_false, false_and, or_self, and_self, eq_self, Bool.false_eq_true, ne_eq, reduceIte]) (by decide) hp)

theorem r_claim {κ : gq_K} {ad : gKey → Nat} {C Rp R : gG} {T : List (Nat × va_E)} {n : Nat} (hb : gup Rp (0, 0, 0) 5 0 = R) (hI : gI n R) (hn : n ≤ 512) (a : Int32) : gq_C κ mX16_claim [.ref (ad (20, 0, 0)), .int (a)] (gR κ ad (C, Rp) T) (gP κ ad C T (F_claim R a)) (gq_no) := by
  refine gq_enter (by decide +kernel) rfl (Nat.le_of_ble_eq_true rfl) rfl (fun f o => ?_)
  have hR := hI.fix
  have hBR := hI.cnt
  have hRp : gfix Rp.2 := by rw [← hb] at hR; exact hR
  have h5 : R.1 (0, 0, 0) 5 = 0 := by rw [← hb]; exact gup_v _ _ _ _
  have hN9 : R.2 13 a.toNatClampNeg ≤ 144 := hBR 7 _ (by decide)
  refine y_aload_n (pc := 0) o dX16_claim_0 rfl ?_
  refine z_callVv (pc := 1) (k := 0) (n := 0) (k' := 0) (n' := 0) o (b := ad (20, 0, 0)) (As := []) (rest := []) (kBegins hRp) ln_X16_69 dX16_claim_1 (z_rc (ci := 20) (K := (20, 0, 0)) rfl (gl_20 hRp) rfl) rfl rfl (Nat.le_of_ble_eq_true rfl) ⟨by decide, by decide⟩ ⟨rfl, rfl⟩ ⟨by decide, by decide⟩ rfl gq_nox2 ?_
  rw [hb]
  refine y_aload_n (pc := 4) o dX16_claim_4 rfl ?_
  refine y_iload_n (pc := 5) o dX16_claim_5 rfl ?_
  by_cases g1 : gix (R.2 11 0) a = true
  · refine z_callV (pc := 6) (k := 0) (n := 0) (k' := 0) (n' := 0) o (b := ad (20, 0, 0)) (As := [.int (a)]) (rest := []) (knoGrossF hR hBR h5 a g1) ln_X16_299 dX16_claim_6 (z_rc (ci := 20) (K := (20, 0, 0)) rfl (gl_20 hR) rfl) rfl rfl (Nat.le_of_ble_eq_true rfl) ⟨by decide, by decide⟩ ⟨rfl, rfl⟩ ⟨by decide, by decide⟩ rfl gq_nox2 ?_
    refine y_if_eq (pc := 9) (tgt := 14) o dX16_claim_9 rfl (fun (b2 : 0 = 0) => ?_) (fun b2 => absurd b2 (by decide))
    refine y_iconst (pc := 14) (x := 1) o dX16_claim_14 (by decide) ?_
    refine y_istore_n (pc := 15) (i := 2) (lv' := [(2, .int (1)), (0, .ref (ad (20, 0, 0))), (1, .int (a))]) o dX16_claim_15 rfl (by decide) rfl ?_
    refine y_aload_n (pc := 16) o dX16_claim_16 rfl ?_
    refine z_get (pc := 17) (K := (20, 0, 0)) (v := .ref (ad (24, 5, 0))) o fl_X16_60 dX16_claim_17 (gl_20 hR) rfl rfl ?_
    refine y_iload_n (pc := 20) o dX16_claim_20 rfl ?_
    refine z_callF (pc := 21) (k := 0) (n := 0) (k' := 0) (n' := 0) (ci := 3) o (b := ad (24, 5, 0)) (As := [.int (a)]) (rest := []) (getR (l := 5) (g := 0) (gl_24_5 hR) (hBR 5 0 (by decide)) g1) rfl lf_X16_114 dX16_claim_21 (fun h hr => ⟨_, ghdr_R (R := R) (gl_24_5 hR) hr⟩) rfl rfl (Nat.le_of_ble_eq_true rfl) ⟨by decide, by decide⟩ ⟨rfl, rfl⟩ ⟨by decide, by decide⟩ ?_
    refine z_cast (pc := 26) (ci := 17) (K := (31, 0, a.toNatClampNeg)) o rfl qw_1684 dX16_claim_26 (gl_31 (gix_lt (Nat.le_trans (hBR 5 0 (by decide)) (by decide)) g1)) rfl ?_
    refine z_get (pc := 29) (K := (31, 0, a.toNatClampNeg)) (v := .ref (ad (24, 7, a.toNatClampNeg))) o fl_X16_294 dX16_claim_29 (gl_31 (gix_lt (Nat.le_trans (hBR 5 0 (by decide)) (by decide)) g1)) rfl rfl ?_
    refine y_callF (pc := 32) (ci := 3) (k := 0) (n := 0) o (b := ad (24, 7, a.toNatClampNeg)) (As := []) (rest := []) (kIter (l := 7) (g := a.toNatClampNeg) (gl_24_7 hR (gix_lt (Nat.le_trans (hBR 5 0 (by decide)) (by decide)) g1))) rfl lf_X16_302 dX16_claim_32 (fun h hr => ⟨_, ghdr_R (R := R) (gl_24_7 hR (gix_lt (Nat.le_trans (hBR 5 0 (by decide)) (by decide)) g1)) hr⟩) rfl rfl (Nat.le_of_ble_eq_true rfl) ⟨by decide, by decide⟩ ⟨by decide, by decide⟩ (fun _ e => e) (fun _ _ z => z) (fun v => y_ex fun q1 => y_and fun ev => ?_)
    subst ev
    refine z_st (st' := [.ref (q1)]) rfl ?_
    refine y_astore_n (pc := 37) (i := 3) (lv' := [(3, .ref (q1)), (2, .int (1)), (0, .ref (ad (20, 0, 0))), (1, .int (a))]) o dX16_claim_37 rfl (by decide) rfl ?_
    suffices H : ∀ m j : Nat, j + m = R.2 13 a.toNatClampNeg → gq_Y κ mX16_claim (gP κ ad C T (F_claim R a)) (gq_no) f (gR κ ad (C, R) ((q1, .inr (2, [.int (Int32.ofNat j), .int (Int32.ofNat j - 1), .int (Int32.ofNat (R.2 13 a.toNatClampNeg)), .ref (ad (24, 7, a.toNatClampNeg))])) :: T)) [(3, .ref (q1)), (2, .int (gb (gall (gok R a.toNatClampNeg) j = true))), (0, .ref (ad (20, 0, 0))), (1, .int (a))] 38 [] 1 4 from ?_
    · exact H (R.2 13 a.toNatClampNeg) 0 (Nat.zero_add _)
    intro m
    induction m with
    | zero =>
      intro j hj
      have hjN : Int32.ofNat j = Int32.ofNat (R.2 13 a.toNatClampNeg) := by rw [show j = R.2 13 a.toNatClampNeg by omega]
      refine y_aload_n (pc := 38) o dX16_claim_38 rfl ?_
      refine z_callF (pc := 39) (k := 1) (n := 4) (k' := 1) (n' := 4) (ci := 2) o (b := q1) (As := []) (rest := []) (kHasN (l := 7) (g := a.toNatClampNeg) (gl_24_7 hR (gix_lt (Nat.le_trans (hBR 5 0 (by decide)) (by decide)) g1)) q1 (Int32.ofNat j) _) rfl lf_X16_306 dX16_claim_39 (fun h hr => ⟨_, hr.2.2.2.1 _ List.mem_cons_self⟩) rfl rfl (Nat.le_of_ble_eq_true rfl) ⟨by decide, by decide⟩ ⟨rfl, rfl⟩ ⟨by decide, by decide⟩ ?_
      refine z_beq (pc := 44) (tgt := 143) o dX16_claim_44 rfl (fun (b3 : ¬ (¬ Int32.ofNat j = Int32.ofNat (R.2 13 a.toNatClampNeg))) => ?_) (fun b3 => absurd hjN b3)
      refine y_iload_n (pc := 143) o dX16_claim_143 rfl ?_
      obtain rfl : j = R.2 13 a.toNatClampNeg := by omega
      exact y_iret (pc := 144) o dX16_claim_144 rfl gb_nar (by decide) (by decide) (fun h hp => gP_mk (by simp +decide only [F_claim, g1, gtc0, gtc1, gtc2, gtc3, gtc4, not_true_eq_false, not_false_eq_true, if_true, if_false, or_true, true_or, or_false, false_or, and_true, true_and, and_false, false_and, or_self, and_self, eq_self, Bool.false_eq_true, ne_eq, reduceIte]) rfl rfl hp.drop1)
    | succ m ih =>
      intro j hj
      have hjN : ¬ Int32.ofNat j = Int32.ofNat (R.2 13 a.toNatClampNeg) := fun z => by have := (gneqN (by omega) (by omega)).mp z; omega
      refine y_aload_n (pc := 38) o dX16_claim_38 rfl ?_
      refine z_callF (pc := 39) (k := 1) (n := 4) (k' := 1) (n' := 4) (ci := 2) o (b := q1) (As := []) (rest := []) (kHasN (l := 7) (g := a.toNatClampNeg) (gl_24_7 hR (gix_lt (Nat.le_trans (hBR 5 0 (by decide)) (by decide)) g1)) q1 (Int32.ofNat j) _) rfl lf_X16_306 dX16_claim_39 (fun h hr => ⟨_, hr.2.2.2.1 _ List.mem_cons_self⟩) rfl rfl (Nat.le_of_ble_eq_true rfl) ⟨by decide, by decide⟩ ⟨rfl, rfl⟩ ⟨by decide, by decide⟩ ?_
      refine z_beq (pc := 44) (tgt := 143) o dX16_claim_44 rfl (fun b4 => absurd hjN b4) (fun (b4 : ¬ Int32.ofNat j = Int32.ofNat (R.2 13 a.toNatClampNeg)) => ?_)
      refine y_aload_n (pc := 47) o dX16_claim_47 rfl ?_
      refine z_callF (pc := 48) (k := 1) (n := 4) (k' := 1) (n' := 4) (ci := 2) o (b := q1) (As := []) (rest := []) (kNext (l := 7) (g := a.toNatClampNeg) (gl_24_7 hR (gix_lt (Nat.le_trans (hBR 5 0 (by decide)) (by decide)) g1)) (hBR 7 a.toNatClampNeg (by decide)) q1 j (show j < R.2 13 a.toNatClampNeg by omega) _) rfl lf_X16_312 dX16_claim_48 (fun h hr => ⟨_, hr.2.2.2.1 _ List.mem_cons_self⟩) rfl rfl (Nat.le_of_ble_eq_true rfl) ⟨by decide, by decide⟩ ⟨rfl, rfl⟩ ⟨by decide, by decide⟩ ?_
      refine z_castI (pc := 53) (K := (33, a.toNatClampNeg, j)) (N := 3) o qw_1435 dX16_claim_53 (gl_33 (show j < R.2 13 a.toNatClampNeg by omega)) rfl ?_
      refine y_astore (pc := 56) (i := 4) (lv' := [(4, .ref (ad (33, a.toNatClampNeg, j))), (3, .ref (q1)), (2, .int (gb (gall (gok R a.toNatClampNeg) j = true))), (0, .ref (ad (20, 0, 0))), (1, .int (a))]) o dX16_claim_56 (by decide) rfl ?_
      refine y_aload_n (pc := 58) o dX16_claim_58 rfl ?_
      refine z_get (pc := 59) (K := (20, 0, 0)) (v := .ref (ad (24, 2, 0))) o fl_X16_51 dX16_claim_59 (gl_20 hR) rfl rfl ?_
      refine y_aload_n (pc := 62) o dX16_claim_62 rfl ?_
      refine z_get (pc := 63) (K := (20, 0, 0)) (v := .ref (ad (24, 4, 0))) o fl_X16_57 dX16_claim_63 (gl_20 hR) rfl rfl ?_
      refine y_aload (pc := 66) o dX16_claim_66 rfl ?_
      refine y_iconst (pc := 68) (x := 0) o dX16_claim_68 (by decide) ?_
      refine z_iald (pc := 69) (K := (33, a.toNatClampNeg, j)) (i := 0) (v := R.1 (13, a.toNatClampNeg, j) 0) o dX16_claim_69 (gl_33 (show j < R.2 13 a.toNatClampNeg by omega)) rfl (by unfold vp_in; decide) rfl ?_
      refine z_callF (pc := 70) (k := 1) (n := 4) (k' := 1) (n' := 4) (ci := 3) o (b := ad (24, 4, 0)) (As := [.int (R.1 (13, a.toNatClampNeg, j) 0)]) (rest := [.ref (ad (24, 2, 0))]) (getR (l := 4) (g := 0) (gl_24_4 hR) (hBR 4 0 (by decide)) (hI.2.2.2.2.2.2.2.1 a.toNatClampNeg j (gix_lt (Nat.le_trans (hBR 5 0 (by decide)) (by decide)) g1) (show j < R.2 13 a.toNatClampNeg by omega)).1) rfl lf_X16_114 dX16_claim_70 (fun h hr => ⟨_, ghdr_R (R := R) (gl_24_4 hR) hr⟩) rfl rfl (Nat.le_of_ble_eq_true rfl) ⟨by decide, by decide⟩ ⟨rfl, rfl⟩ ⟨by decide, by decide⟩ ?_
      refine z_cast (pc := 75) (ci := 18) (K := (30, 0, (R.1 (13, a.toNatClampNeg, j) 0).toNatClampNeg)) o rfl qw_1601 dX16_claim_75 (gl_30 (gix_lt (Nat.le_trans (hBR 4 0 (by decide)) (by decide)) (hI.2.2.2.2.2.2.2.1 a.toNatClampNeg j (gix_lt (Nat.le_trans (hBR 5 0 (by decide)) (by decide)) g1) (show j < R.2 13 a.toNatClampNeg by omega)).1)) rfl ?_
      refine z_get (pc := 78) (K := (30, 0, (R.1 (13, a.toNatClampNeg, j) 0).toNatClampNeg)) (v := .int (R.1 (10, 0, (R.1 (13, a.toNatClampNeg, j) 0).toNatClampNeg) 0)) o fl_X16_240 dX16_claim_78 (gl_30 (gix_lt (Nat.le_trans (hBR 4 0 (by decide)) (by decide)) (hI.2.2.2.2.2.2.2.1 a.toNatClampNeg j (gix_lt (Nat.le_trans (hBR 5 0 (by decide)) (by decide)) g1) (show j < R.2 13 a.toNatClampNeg by omega)).1)) rfl rfl ?_
      refine z_callF (pc := 81) (k := 1) (n := 4) (k' := 1) (n' := 4) (ci := 3) o (b := ad (24, 2, 0)) (As := [.int (R.1 (10, 0, (R.1 (13, a.toNatClampNeg, j) 0).toNatClampNeg) 0)]) (rest := []) (getR (l := 2) (g := 0) (gl_24_2 hR) (hBR 2 0 (by decide)) (hI.2.2.2.2.2.1 _ (gix_lt (Nat.le_trans (hBR 4 0 (by decide)) (by decide)) (hI.2.2.2.2.2.2.2.1 a.toNatClampNeg j (gix_lt (Nat.le_trans (hBR 5 0 (by decide)) (by decide)) g1) (show j < R.2 13 a.toNatClampNeg by omega)).1)).1) rfl lf_X16_114 dX16_claim_81 (fun h hr => ⟨_, ghdr_R (R := R) (gl_24_2 hR) hr⟩) rfl rfl (Nat.le_of_ble_eq_true rfl) ⟨by decide, by decide⟩ ⟨rfl, rfl⟩ ⟨by decide, by decide⟩ ?_
      refine z_cast (pc := 86) (ci := 16) (K := (28, 0, (R.1 (10, 0, (R.1 (13, a.toNatClampNeg, j) 0).toNatClampNeg) 0).toNatClampNeg)) o rfl qw_1452 dX16_claim_86 (gl_28 (gix_lt (Nat.le_trans (hBR 2 0 (by decide)) (by decide)) (hI.2.2.2.2.2.1 _ (gix_lt (Nat.le_trans (hBR 4 0 (by decide)) (by decide)) (hI.2.2.2.2.2.2.2.1 a.toNatClampNeg j (gix_lt (Nat.le_trans (hBR 5 0 (by decide)) (by decide)) g1) (show j < R.2 13 a.toNatClampNeg by omega)).1)).1)) rfl ?_
      refine z_get (pc := 89) (K := (28, 0, (R.1 (10, 0, (R.1 (13, a.toNatClampNeg, j) 0).toNatClampNeg) 0).toNatClampNeg)) (v := .int (R.1 (8, 0, (R.1 (10, 0, (R.1 (13, a.toNatClampNeg, j) 0).toNatClampNeg) 0).toNatClampNeg) 10)) o fl_X16_180 dX16_claim_89 (gl_28 (gix_lt (Nat.le_trans (hBR 2 0 (by decide)) (by decide)) (hI.2.2.2.2.2.1 _ (gix_lt (Nat.le_trans (hBR 4 0 (by decide)) (by decide)) (hI.2.2.2.2.2.2.2.1 a.toNatClampNeg j (gix_lt (Nat.le_trans (hBR 5 0 (by decide)) (by decide)) g1) (show j < R.2 13 a.toNatClampNeg by omega)).1)).1)) rfl rfl ?_
      refine y_bipush (pc := 92) (x := 50) o dX16_claim_92 (by decide) ?_
      refine y_idiv (pc := 94) o dX16_claim_94 (by decide) ?_
      refine y_istore (pc := 95) (i := 5) (lv' := [(5, .int ((R.1 (8, 0, (R.1 (10, 0, (R.1 (13, a.toNatClampNeg, j) 0).toNatClampNeg) 0).toNatClampNeg) 10) / 50)), (4, .ref (ad (33, a.toNatClampNeg, j))), (3, .ref (q1)), (2, .int (gb (gall (gok R a.toNatClampNeg) j = true))), (0, .ref (ad (20, 0, 0))), (1, .int (a))]) o dX16_claim_95 (by decide) rfl ?_
      refine y_iload_n (pc := 97) o dX16_claim_97 rfl ?_
      refine z_beq (pc := 98) (tgt := 138) o dX16_claim_98 rfl (fun (b5 : ¬ (gall (gok R a.toNatClampNeg) j = true)) => ?_) (fun (b5 : gall (gok R a.toNatClampNeg) j = true) => ?_)
      · refine y_iconst (pc := 138) (x := 0) o dX16_claim_138 (by decide) ?_
        refine y_istore_n (pc := 139) (i := 2) (lv' := [(2, .int (0)), (5, .int ((R.1 (8, 0, (R.1 (10, 0, (R.1 (13, a.toNatClampNeg, j) 0).toNatClampNeg) 0).toNatClampNeg) 10) / 50)), (4, .ref (ad (33, a.toNatClampNeg, j))), (3, .ref (q1)), (0, .ref (ad (20, 0, 0))), (1, .int (a))]) o dX16_claim_139 rfl (by decide) rfl ?_
        refine y_goto (pc := 140) (tgt := 38) o dX16_claim_140 rfl ?_
        have e9 : Value.int 0 = .int (gb (gall (gok R a.toNatClampNeg) (j + 1) = true)) := congrArg Value.int (gb_f (by simp [gall_1, b5])).symm
        refine y_lv [3, 0, 4, 5] (lv' := [(3, .ref (q1)), (2, .int (gb (gall (gok R a.toNatClampNeg) (j + 1) = true))), (0, .ref (ad (20, 0, 0))), (1, .int (a))]) (by rw [← e9]; rfl) ?_
        refine y_mono (P' := gR κ ad (C, R) ((q1, .inr (2, [.int (Int32.ofNat (j + 1)), .int (Int32.ofNat (j + 1) - 1), .int (Int32.ofNat (R.2 13 a.toNatClampNeg)), .ref (ad (24, 7, a.toNatClampNeg))])) :: T)) (fun h hr => by rw [gofN1]; exact hr) ?_
        exact ih (j + 1) (by omega)
      refine y_aload (pc := 101) o dX16_claim_101 rfl ?_
      refine y_iconst (pc := 103) (x := 2) o dX16_claim_103 (by decide) ?_
      refine z_iald (pc := 104) (K := (33, a.toNatClampNeg, j)) (i := 2) (v := R.1 (13, a.toNatClampNeg, j) 2) o dX16_claim_104 (gl_33 (show j < R.2 13 a.toNatClampNeg by omega)) rfl (by unfold vp_in; decide) rfl ?_
      refine y_if_ne (pc := 105) (tgt := 138) o dX16_claim_105 rfl (fun (b6 : ¬ (R.1 (13, a.toNatClampNeg, j) 2) = 0) => ?_) (fun (b6 : (R.1 (13, a.toNatClampNeg, j) 2) = 0) => ?_)
      · refine y_iconst (pc := 138) (x := 0) o dX16_claim_138 (by decide) ?_
        refine y_istore_n (pc := 139) (i := 2) (lv' := [(2, .int (0)), (5, .int ((R.1 (8, 0, (R.1 (10, 0, (R.1 (13, a.toNatClampNeg, j) 0).toNatClampNeg) 0).toNatClampNeg) 10) / 50)), (4, .ref (ad (33, a.toNatClampNeg, j))), (3, .ref (q1)), (0, .ref (ad (20, 0, 0))), (1, .int (a))]) o dX16_claim_139 rfl (by decide) rfl ?_
        refine y_goto (pc := 140) (tgt := 38) o dX16_claim_140 rfl ?_
        have e9 : Value.int 0 = .int (gb (gall (gok R a.toNatClampNeg) (j + 1) = true)) := congrArg Value.int (gb_f (by rw [gall_1, b5]; unfold gok; simp [(hI.2.2.2.2.2.2.2.1 a.toNatClampNeg j (gix_lt (Nat.le_trans (hBR 5 0 (by decide)) (by decide)) g1) (show j < R.2 13 a.toNatClampNeg by omega)).2.1, gpos0 (hI.2.2.2.2.2.2.2.1 a.toNatClampNeg j (gix_lt (Nat.le_trans (hBR 5 0 (by decide)) (by decide)) g1) (show j < R.2 13 a.toNatClampNeg by omega)).2.2 b6])).symm
        refine y_lv [3, 0, 4, 5] (lv' := [(3, .ref (q1)), (2, .int (gb (gall (gok R a.toNatClampNeg) (j + 1) = true))), (0, .ref (ad (20, 0, 0))), (1, .int (a))]) (by rw [← e9]; rfl) ?_
        refine y_mono (P' := gR κ ad (C, R) ((q1, .inr (2, [.int (Int32.ofNat (j + 1)), .int (Int32.ofNat (j + 1) - 1), .int (Int32.ofNat (R.2 13 a.toNatClampNeg)), .ref (ad (24, 7, a.toNatClampNeg))])) :: T)) (fun h hr => by rw [gofN1]; exact hr) ?_
        exact ih (j + 1) (by omega)
      refine y_iload (pc := 108) o dX16_claim_108 rfl ?_
      refine y_aload_n (pc := 110) o dX16_claim_110 rfl ?_
      refine z_get (pc := 111) (K := (20, 0, 0)) (v := .ref (ad (24, 5, 0))) o fl_X16_60 dX16_claim_111 (gl_20 hR) rfl rfl ?_
      refine y_iload_n (pc := 114) o dX16_claim_114 rfl ?_
      refine z_callF (pc := 115) (k := 1) (n := 4) (k' := 1) (n' := 4) (ci := 3) o (b := ad (24, 5, 0)) (As := [.int (a)]) (rest := [.int ((R.1 (8, 0, (R.1 (10, 0, (R.1 (13, a.toNatClampNeg, j) 0).toNatClampNeg) 0).toNatClampNeg) 10) / 50)]) (getR (l := 5) (g := 0) (gl_24_5 hR) (hBR 5 0 (by decide)) g1) rfl lf_X16_114 dX16_claim_115 (fun h hr => ⟨_, ghdr_R (R := R) (gl_24_5 hR) hr⟩) rfl rfl (Nat.le_of_ble_eq_true rfl) ⟨by decide, by decide⟩ ⟨rfl, rfl⟩ ⟨by decide, by decide⟩ ?_
      refine z_cast (pc := 120) (ci := 17) (K := (31, 0, a.toNatClampNeg)) o rfl qw_1684 dX16_claim_120 (gl_31 (gix_lt (Nat.le_trans (hBR 5 0 (by decide)) (by decide)) g1)) rfl ?_
      refine z_get (pc := 123) (K := (31, 0, a.toNatClampNeg)) (v := .int (R.1 (11, 0, a.toNatClampNeg) 0)) o fl_X16_284 dX16_claim_123 (gl_31 (gix_lt (Nat.le_trans (hBR 5 0 (by decide)) (by decide)) g1)) rfl rfl ?_
      refine y_isub (pc := 126) o dX16_claim_126 ?_
      refine y_mabs (pc := 127) o qw_1600 dX16_claim_127 ⟨by decide, Nat.le_of_ble_eq_true rfl⟩ (by decide) (by decide) ?_
      refine y_iconst (pc := 130) (x := 1) o dX16_claim_130 (by decide) ?_
      refine y_icmp_gt (pc := 131) (tgt := 138) o dX16_claim_131 rfl (fun (b7 : 1 < (gabs (((R.1 (8, 0, (R.1 (10, 0, (R.1 (13, a.toNatClampNeg, j) 0).toNatClampNeg) 0).toNatClampNeg) 10) / 50) - (R.1 (11, 0, a.toNatClampNeg) 0)))) => ?_) (fun (b7 : ¬ 1 < (gabs (((R.1 (8, 0, (R.1 (10, 0, (R.1 (13, a.toNatClampNeg, j) 0).toNatClampNeg) 0).toNatClampNeg) 10) / 50) - (R.1 (11, 0, a.toNatClampNeg) 0)))) => ?_)
      · refine y_iconst (pc := 138) (x := 0) o dX16_claim_138 (by decide) ?_
        refine y_istore_n (pc := 139) (i := 2) (lv' := [(2, .int (0)), (5, .int ((R.1 (8, 0, (R.1 (10, 0, (R.1 (13, a.toNatClampNeg, j) 0).toNatClampNeg) 0).toNatClampNeg) 10) / 50)), (4, .ref (ad (33, a.toNatClampNeg, j))), (3, .ref (q1)), (0, .ref (ad (20, 0, 0))), (1, .int (a))]) o dX16_claim_139 rfl (by decide) rfl ?_
        refine y_goto (pc := 140) (tgt := 38) o dX16_claim_140 rfl ?_
        have e9 : Value.int 0 = .int (gb (gall (gok R a.toNatClampNeg) (j + 1) = true)) := congrArg Value.int (gb_f (by rw [gall_1, b5]; unfold gok; simp [(hI.2.2.2.2.2.2.2.1 a.toNatClampNeg j (gix_lt (Nat.le_trans (hBR 5 0 (by decide)) (by decide)) g1) (show j < R.2 13 a.toNatClampNeg by omega)).2.1, b6, b7])).symm
        refine y_lv [3, 0, 4, 5] (lv' := [(3, .ref (q1)), (2, .int (gb (gall (gok R a.toNatClampNeg) (j + 1) = true))), (0, .ref (ad (20, 0, 0))), (1, .int (a))]) (by rw [← e9]; rfl) ?_
        refine y_mono (P' := gR κ ad (C, R) ((q1, .inr (2, [.int (Int32.ofNat (j + 1)), .int (Int32.ofNat (j + 1) - 1), .int (Int32.ofNat (R.2 13 a.toNatClampNeg)), .ref (ad (24, 7, a.toNatClampNeg))])) :: T)) (fun h hr => by rw [gofN1]; exact hr) ?_
        exact ih (j + 1) (by omega)
      refine y_iconst (pc := 134) (x := 1) o dX16_claim_134 (by decide) ?_
      refine y_goto (pc := 135) (tgt := 139) o dX16_claim_135 rfl ?_
      refine y_istore_n (pc := 139) (i := 2) (lv' := [(2, .int (1)), (5, .int ((R.1 (8, 0, (R.1 (10, 0, (R.1 (13, a.toNatClampNeg, j) 0).toNatClampNeg) 0).toNatClampNeg) 10) / 50)), (4, .ref (ad (33, a.toNatClampNeg, j))), (3, .ref (q1)), (0, .ref (ad (20, 0, 0))), (1, .int (a))]) o dX16_claim_139 rfl (by decide) rfl ?_
      refine y_goto (pc := 140) (tgt := 38) o dX16_claim_140 rfl ?_
      have e9 : Value.int 1 = .int (gb (gall (gok R a.toNatClampNeg) (j + 1) = true)) := congrArg Value.int (gb_t (by rw [gall_1, b5]; unfold gok; simp [(hI.2.2.2.2.2.2.2.1 a.toNatClampNeg j (gix_lt (Nat.le_trans (hBR 5 0 (by decide)) (by decide)) g1) (show j < R.2 13 a.toNatClampNeg by omega)).2.1, b6, b7])).symm
      refine y_lv [3, 0, 4, 5] (lv' := [(3, .ref (q1)), (2, .int (gb (gall (gok R a.toNatClampNeg) (j + 1) = true))), (0, .ref (ad (20, 0, 0))), (1, .int (a))]) (by rw [← e9]; rfl) ?_
      refine y_mono (P' := gR κ ad (C, R) ((q1, .inr (2, [.int (Int32.ofNat (j + 1)), .int (Int32.ofNat (j + 1) - 1), .int (Int32.ofNat (R.2 13 a.toNatClampNeg)), .ref (ad (24, 7, a.toNatClampNeg))])) :: T)) (fun h hr => by rw [gofN1]; exact hr) ?_
      exact ih (j + 1) (by omega)
  refine z_callV (pc := 6) (k := 0) (n := 0) (k' := 0) (n' := 0) o (b := ad (20, 0, 0)) (As := [.int (a)]) (rest := []) (knoGrossT hR hBR h5 a g1) ln_X16_299 dX16_claim_6 (z_rc (ci := 20) (K := (20, 0, 0)) rfl (gl_20 hR) rfl) rfl rfl (Nat.le_of_ble_eq_true rfl) ⟨by decide, by decide⟩ ⟨rfl, rfl⟩ ⟨by decide, by decide⟩ rfl gq_nox2 ?_
  refine y_if_eq (pc := 9) (tgt := 14) o dX16_claim_9 rfl (fun b8 => absurd b8 (by decide)) (fun (b8 : ¬ 1 = 0) => ?_)
  refine y_iconst (pc := 12) (x := 0) o dX16_claim_12 (by decide) ?_
  exact y_iret (pc := 13) o dX16_claim_13 rfl rfl (by decide) (by decide) (fun h hp => gP_thr (k := 1) (by simp +decide only [F_claim, g1, gtc0, gtc1, gtc2, gtc3, gtc4, not_true_eq_false, not_false_eq_true, if_true, if_false, or_true, true_or, or_false, false_or, and_true, true_and, and_false, false_and, or_self, and_self, eq_self, Bool.false_eq_true, ne_eq, reduceIte]) (by decide) hp)

end Z31
