
section Z30
theorem gch_cb {x : Int32} (h : x = 99 ∨ x = 98) : gch x := by unfold gch; rcases h with rfl | rfl <;> decide

theorem r_mix {κ : gq_K} {ad : gKey → Nat} {C Rp R : gG} {T : List (Nat × va_E)} {n : Nat} (hb : gup Rp (0, 0, 0) 5 0 = R) (hI : gI n R) (hn : n ≤ 512) (a : Int32) (b : Int32) (c : Int32) (d : Int32) (e : Int32) : gq_C κ mX16_mix [.ref (ad (20, 0, 0)), .int (a), .int (b), .int (c), .int (d), .int (e)] (gR κ ad (C, Rp) T) (gP κ ad C T (F_mix R a b c d e)) (gq_no) := by
  refine gq_enter (by decide +kernel) rfl (Nat.le_of_ble_eq_true rfl) rfl (fun f o => ?_)
  have hR := hI.fix
  have hBR := hI.cnt
  have hRp : gfix Rp.2 := by rw [← hb] at hR; exact hR
  have h5 : R.1 (0, 0, 0) 5 = 0 := by rw [← hb]; exact gup_v _ _ _ _
  refine y_aload_n (pc := 0) o dX16_mix_0 rfl ?_
  refine z_callVv (pc := 1) (k := 0) (n := 0) (k' := 0) (n' := 0) o (b := ad (20, 0, 0)) (As := []) (rest := []) (kBegins hRp) ln_X16_69 dX16_mix_1 (z_rc (ci := 20) (K := (20, 0, 0)) rfl (gl_20 hRp) rfl) rfl rfl (Nat.le_of_ble_eq_true rfl) ⟨by decide, by decide⟩ ⟨rfl, rfl⟩ ⟨by decide, by decide⟩ rfl gq_nox2 ?_
  rw [hb]
  refine y_aload_n (pc := 4) o dX16_mix_4 rfl ?_
  refine y_aload_n (pc := 5) o dX16_mix_5 rfl ?_
  refine z_get (pc := 6) (K := (20, 0, 0)) (v := .ref (ad (24, 0, 0))) o fl_X16_38 dX16_mix_6 (gl_20 hR) rfl rfl ?_
  refine y_iload_n (pc := 9) o dX16_mix_9 rfl ?_
  refine z_callS (pc := 10) (k := 0) (n := 0) (k' := 0) (n' := 0) o (As := [.ref (ad (24, 0, 0)), .int (a)]) (rest := [.ref (ad (20, 0, 0))]) (kIsOf (l := 0) (g := 0) (gl_24_0 hR) hBR a) ln_X16_97 dX16_mix_10 rfl rfl (Nat.le_of_ble_eq_true rfl) ⟨by decide, by decide⟩ ⟨rfl, rfl⟩ ⟨by decide, by decide⟩ rfl gq_nox2 ?_
  refine z_beq (pc := 13) (tgt := 27) o dX16_mix_13 rfl (fun (b1 : ¬ (gix (R.2 6 0) a = true)) => ?_) (fun (b1 : gix (R.2 6 0) a = true) => ?_)
  · refine y_iconst (pc := 27) (x := 1) o dX16_mix_27 (by decide) ?_
    refine y_goto (pc := 28) (tgt := 32) o dX16_mix_28 rfl ?_
    refine y_iconst (pc := 32) (x := 1) o dX16_mix_32 (by decide) ?_
    refine z_callV (pc := 33) (k := 0) (n := 0) (k' := 0) (n' := 0) o (b := ad (20, 0, 0)) (As := [.int (1), .int (1)]) (rest := []) (kFailsT hR h5 1 (by decide)) ln_X16_74 dX16_mix_33 (z_rc (ci := 20) (K := (20, 0, 0)) rfl (gl_20 hR) rfl) rfl rfl (Nat.le_of_ble_eq_true rfl) ⟨by decide, by decide⟩ ⟨rfl, rfl⟩ ⟨by decide, by decide⟩ rfl gq_nox2 ?_
    refine y_if_ne (pc := 36) (tgt := 76) o dX16_mix_36 rfl (fun (b2 : ¬ 1 = 0) => ?_) (fun b2 => absurd b2 (by decide))
    refine y_iconst (pc := 76) (x := -1) o dX16_mix_76 (by decide) ?_
    exact y_iret (pc := 77) o dX16_mix_77 rfl (vp_nar_int _) (by decide) (by decide) (fun h hp => gP_thr (k := 1) (by simp +decide only [F_mix, b1, gclamp, gtc0, gtc1, gtc2, gtc3, gtc4, not_true_eq_false, not_false_eq_true, if_true, if_false, or_true, true_or, or_false, false_or, and_true, true_and, and_false, false_and, or_self, and_self, eq_self, Bool.false_eq_true, ne_eq, reduceIte]) (by decide) hp)
  refine y_aload_n (pc := 16) o dX16_mix_16 rfl ?_
  refine z_get (pc := 17) (K := (20, 0, 0)) (v := .ref (ad (24, 0, 0))) o fl_X16_38 dX16_mix_17 (gl_20 hR) rfl rfl ?_
  refine y_iload_n (pc := 20) o dX16_mix_20 rfl ?_
  refine z_callS (pc := 21) (k := 0) (n := 0) (k' := 0) (n' := 0) o (As := [.ref (ad (24, 0, 0)), .int (b)]) (rest := [.ref (ad (20, 0, 0))]) (kIsOf (l := 0) (g := 0) (gl_24_0 hR) hBR b) ln_X16_97 dX16_mix_21 rfl rfl (Nat.le_of_ble_eq_true rfl) ⟨by decide, by decide⟩ ⟨rfl, rfl⟩ ⟨by decide, by decide⟩ rfl gq_nox2 ?_
  refine z_bne (pc := 24) (tgt := 31) o dX16_mix_24 rfl (fun (b3 : gix (R.2 6 0) b = true) => ?_) (fun (b3 : ¬ (gix (R.2 6 0) b = true)) => ?_)
  · refine y_iconst (pc := 31) (x := 0) o dX16_mix_31 (by decide) ?_
    refine y_iconst (pc := 32) (x := 1) o dX16_mix_32 (by decide) ?_
    refine z_callV (pc := 33) (k := 0) (n := 0) (k' := 0) (n' := 0) o (b := ad (20, 0, 0)) (As := [.int (0), .int (1)]) (rest := []) (kFailsF hR h5 1) ln_X16_74 dX16_mix_33 (z_rc (ci := 20) (K := (20, 0, 0)) rfl (gl_20 hR) rfl) rfl rfl (Nat.le_of_ble_eq_true rfl) ⟨by decide, by decide⟩ ⟨rfl, rfl⟩ ⟨by decide, by decide⟩ rfl gq_nox2 ?_
    refine y_if_ne (pc := 36) (tgt := 76) o dX16_mix_36 rfl (fun b4 => absurd b4 (by decide)) (fun (b4 : 0 = 0) => ?_)
    refine y_aload_n (pc := 39) o dX16_mix_39 rfl ?_
    refine y_iload_n (pc := 40) o dX16_mix_40 rfl ?_
    refine y_iconst (pc := 41) (x := 1) o dX16_mix_41 (by decide) ?_
    refine y_icmp_lt (pc := 42) (tgt := 64) o dX16_mix_42 rfl (fun (b5 : c < 1) => ?_) (fun (b5 : ¬ c < 1) => ?_)
    · refine y_iconst (pc := 64) (x := 1) o dX16_mix_64 (by decide) ?_
      refine y_goto (pc := 65) (tgt := 69) o dX16_mix_65 rfl ?_
      refine y_iconst (pc := 69) (x := 2) o dX16_mix_69 (by decide) ?_
      refine z_callV (pc := 70) (k := 0) (n := 0) (k' := 0) (n' := 0) o (b := ad (20, 0, 0)) (As := [.int (1), .int (2)]) (rest := []) (kFailsT hR h5 2 (by decide)) ln_X16_74 dX16_mix_70 (z_rc (ci := 20) (K := (20, 0, 0)) rfl (gl_20 hR) rfl) rfl rfl (Nat.le_of_ble_eq_true rfl) ⟨by decide, by decide⟩ ⟨rfl, rfl⟩ ⟨by decide, by decide⟩ rfl gq_nox2 ?_
      refine y_if_eq (pc := 73) (tgt := 78) o dX16_mix_73 rfl (fun b6 => absurd b6 (by decide)) (fun (b6 : ¬ 1 = 0) => ?_)
      refine y_iconst (pc := 76) (x := -1) o dX16_mix_76 (by decide) ?_
      exact y_iret (pc := 77) o dX16_mix_77 rfl (vp_nar_int _) (by decide) (by decide) (fun h hp => gP_thr (k := 2) (by simp +decide only [F_mix, b1, b3, b5, gclamp, gtc0, gtc1, gtc2, gtc3, gtc4, not_true_eq_false, not_false_eq_true, if_true, if_false, or_true, true_or, or_false, false_or, and_true, true_and, and_false, false_and, or_self, and_self, eq_self, Bool.false_eq_true, ne_eq, reduceIte]) (by decide) hp)
    refine y_iload (pc := 45) o dX16_mix_45 rfl ?_
    refine y_iconst (pc := 47) (x := 1) o dX16_mix_47 (by decide) ?_
    refine y_icmp_lt (pc := 48) (tgt := 64) o dX16_mix_48 rfl (fun (b7 : d < 1) => ?_) (fun (b7 : ¬ d < 1) => ?_)
    · refine y_iconst (pc := 64) (x := 1) o dX16_mix_64 (by decide) ?_
      refine y_goto (pc := 65) (tgt := 69) o dX16_mix_65 rfl ?_
      refine y_iconst (pc := 69) (x := 2) o dX16_mix_69 (by decide) ?_
      refine z_callV (pc := 70) (k := 0) (n := 0) (k' := 0) (n' := 0) o (b := ad (20, 0, 0)) (As := [.int (1), .int (2)]) (rest := []) (kFailsT hR h5 2 (by decide)) ln_X16_74 dX16_mix_70 (z_rc (ci := 20) (K := (20, 0, 0)) rfl (gl_20 hR) rfl) rfl rfl (Nat.le_of_ble_eq_true rfl) ⟨by decide, by decide⟩ ⟨rfl, rfl⟩ ⟨by decide, by decide⟩ rfl gq_nox2 ?_
      refine y_if_eq (pc := 73) (tgt := 78) o dX16_mix_73 rfl (fun b8 => absurd b8 (by decide)) (fun (b8 : ¬ 1 = 0) => ?_)
      refine y_iconst (pc := 76) (x := -1) o dX16_mix_76 (by decide) ?_
      exact y_iret (pc := 77) o dX16_mix_77 rfl (vp_nar_int _) (by decide) (by decide) (fun h hp => gP_thr (k := 2) (by simp +decide only [F_mix, b1, b3, b5, b7, gclamp, gtc0, gtc1, gtc2, gtc3, gtc4, not_true_eq_false, not_false_eq_true, if_true, if_false, or_true, true_or, or_false, false_or, and_true, true_and, and_false, false_and, or_self, and_self, eq_self, Bool.false_eq_true, ne_eq, reduceIte]) (by decide) hp)
    refine y_iload (pc := 51) o dX16_mix_51 rfl ?_
    refine y_i2l (pc := 53) o dX16_mix_53 ?_
    refine y_lconst (pc := 54) (x := 1) o dX16_mix_54 (by decide) ?_
    refine y_ldc2 (pc := 55) o dX16_mix_55 qw_1401 ?_
    refine z_callS (pc := 58) (k := 0) (n := 0) (k' := 0) (n' := 0) o (As := [.long (e.toInt64), .long (1), .long (9)]) (rest := [.ref (ad (20, 0, 0))]) (kIn e 1 9) ln_X16_13 dX16_mix_58 rfl rfl (Nat.le_of_ble_eq_true rfl) ⟨by decide, by decide⟩ ⟨rfl, rfl⟩ ⟨by decide, by decide⟩ rfl gq_nox2 ?_
    refine z_bne (pc := 61) (tgt := 68) o dX16_mix_61 rfl (fun (b9 : gin 1 e 9 = true) => ?_) (fun (b9 : ¬ (gin 1 e 9 = true)) => ?_)
    · refine y_iconst (pc := 68) (x := 0) o dX16_mix_68 (by decide) ?_
      refine y_iconst (pc := 69) (x := 2) o dX16_mix_69 (by decide) ?_
      refine z_callV (pc := 70) (k := 0) (n := 0) (k' := 0) (n' := 0) o (b := ad (20, 0, 0)) (As := [.int (0), .int (2)]) (rest := []) (kFailsF hR h5 2) ln_X16_74 dX16_mix_70 (z_rc (ci := 20) (K := (20, 0, 0)) rfl (gl_20 hR) rfl) rfl rfl (Nat.le_of_ble_eq_true rfl) ⟨by decide, by decide⟩ ⟨rfl, rfl⟩ ⟨by decide, by decide⟩ rfl gq_nox2 ?_
      refine y_if_eq (pc := 73) (tgt := 78) o dX16_mix_73 rfl (fun (b10 : 0 = 0) => ?_) (fun b10 => absurd b10 (by rw [b4]; decide))
      refine y_aload_n (pc := 78) o dX16_mix_78 rfl ?_
      refine z_get (pc := 79) (K := (20, 0, 0)) (v := .ref (ad (24, 0, 0))) o fl_X16_38 dX16_mix_79 (gl_20 hR) rfl rfl ?_
      refine y_iload_n (pc := 82) o dX16_mix_82 rfl ?_
      refine z_callF (pc := 83) (k := 0) (n := 0) (k' := 0) (n' := 0) (ci := 3) o (b := ad (24, 0, 0)) (As := [.int (a)]) (rest := []) (getR (l := 0) (g := 0) (gl_24_0 hR) (hBR 0 0 (by decide)) b1) rfl lf_X16_114 dX16_mix_83 (fun h hr => ⟨_, ghdr_R (R := R) (gl_24_0 hR) hr⟩) rfl rfl (Nat.le_of_ble_eq_true rfl) ⟨by decide, by decide⟩ ⟨rfl, rfl⟩ ⟨by decide, by decide⟩ ?_
      refine z_castI (pc := 88) (K := (26, 0, a.toNatClampNeg)) (N := 4) o qw_1435 dX16_mix_88 (gl_26 (gix_lt (Nat.le_trans (hBR 0 0 (by decide)) (by decide)) b1)) rfl ?_
      refine y_astore (pc := 91) (i := 6) (lv' := [(6, .ref (ad (26, 0, a.toNatClampNeg))), (0, .ref (ad (20, 0, 0))), (1, .int (a)), (2, .int (b)), (3, .int (c)), (4, .int (d)), (5, .int (e))]) o dX16_mix_91 (by decide) rfl ?_
      refine y_aload_n (pc := 93) o dX16_mix_93 rfl ?_
      refine z_get (pc := 94) (K := (20, 0, 0)) (v := .ref (ad (24, 0, 0))) o fl_X16_38 dX16_mix_94 (gl_20 hR) rfl rfl ?_
      refine y_iload_n (pc := 97) o dX16_mix_97 rfl ?_
      refine z_callF (pc := 98) (k := 0) (n := 0) (k' := 0) (n' := 0) (ci := 3) o (b := ad (24, 0, 0)) (As := [.int (b)]) (rest := []) (getR (l := 0) (g := 0) (gl_24_0 hR) (hBR 0 0 (by decide)) b3) rfl lf_X16_114 dX16_mix_98 (fun h hr => ⟨_, ghdr_R (R := R) (gl_24_0 hR) hr⟩) rfl rfl (Nat.le_of_ble_eq_true rfl) ⟨by decide, by decide⟩ ⟨rfl, rfl⟩ ⟨by decide, by decide⟩ ?_
      refine z_castI (pc := 103) (K := (26, 0, b.toNatClampNeg)) (N := 4) o qw_1435 dX16_mix_103 (gl_26 (gix_lt (Nat.le_trans (hBR 0 0 (by decide)) (by decide)) b3)) rfl ?_
      refine y_astore (pc := 106) (i := 7) (lv' := [(7, .ref (ad (26, 0, b.toNatClampNeg))), (6, .ref (ad (26, 0, a.toNatClampNeg))), (0, .ref (ad (20, 0, 0))), (1, .int (a)), (2, .int (b)), (3, .int (c)), (4, .int (d)), (5, .int (e))]) o dX16_mix_106 (by decide) rfl ?_
      refine y_aload (pc := 108) o dX16_mix_108 rfl ?_
      refine y_iconst (pc := 110) (x := 0) o dX16_mix_110 (by decide) ?_
      refine z_iald (pc := 111) (K := (26, 0, a.toNatClampNeg)) (i := 0) (v := R.1 (6, 0, a.toNatClampNeg) 0) o dX16_mix_111 (gl_26 (gix_lt (Nat.le_trans (hBR 0 0 (by decide)) (by decide)) b1)) rfl (by unfold vp_in; decide) rfl ?_
      refine y_bipush (pc := 112) (x := 103) o dX16_mix_112 (by decide) ?_
      refine y_icmp_ne (pc := 114) (tgt := 155) o dX16_mix_114 rfl (fun (b11 : ¬ (R.1 (6, 0, a.toNatClampNeg) 0) = 103) => ?_) (fun (b11 : (R.1 (6, 0, a.toNatClampNeg) 0) = 103) => ?_)
      · refine y_iconst (pc := 155) (x := 0) o dX16_mix_155 (by decide) ?_
        refine y_istore (pc := 156) (i := 8) (lv' := [(8, .int (0)), (7, .ref (ad (26, 0, b.toNatClampNeg))), (6, .ref (ad (26, 0, a.toNatClampNeg))), (0, .ref (ad (20, 0, 0))), (1, .int (a)), (2, .int (b)), (3, .int (c)), (4, .int (d)), (5, .int (e))]) o dX16_mix_156 (by decide) rfl ?_
        refine y_aload_n (pc := 158) o dX16_mix_158 rfl ?_
        refine y_iload (pc := 159) o dX16_mix_159 rfl ?_
        refine y_if_ne (pc := 161) (tgt := 168) o dX16_mix_161 rfl (fun b12 => absurd b12 (by rw [b4]; decide)) (fun (b12 : 0 = 0) => ?_)
        refine y_iconst (pc := 164) (x := 1) o dX16_mix_164 (by decide) ?_
        refine y_goto (pc := 165) (tgt := 169) o dX16_mix_165 rfl ?_
        refine y_iconst (pc := 169) (x := 3) o dX16_mix_169 (by decide) ?_
        refine z_callV (pc := 170) (k := 0) (n := 0) (k' := 0) (n' := 0) o (b := ad (20, 0, 0)) (As := [.int (1), .int (3)]) (rest := []) (kFailsT hR h5 3 (by decide)) ln_X16_74 dX16_mix_170 (z_rc (ci := 20) (K := (20, 0, 0)) rfl (gl_20 hR) rfl) rfl rfl (Nat.le_of_ble_eq_true rfl) ⟨by decide, by decide⟩ ⟨rfl, rfl⟩ ⟨by decide, by decide⟩ rfl gq_nox2 ?_
        refine y_if_ne (pc := 173) (tgt := 203) o dX16_mix_173 rfl (fun (b13 : ¬ 1 = 0) => ?_) (fun b13 => absurd b13 (by decide))
        refine y_iconst (pc := 203) (x := -1) o dX16_mix_203 (by decide) ?_
        exact y_iret (pc := 204) o dX16_mix_204 rfl (vp_nar_int _) (by decide) (by decide) (fun h hp => gP_thr (k := 3) (by simp +decide only [F_mix, b1, b3, b5, b7, b9, b11, gclamp, gtc0, gtc1, gtc2, gtc3, gtc4, not_true_eq_false, not_false_eq_true, if_true, if_false, or_true, true_or, or_false, false_or, and_true, true_and, and_false, false_and, or_self, and_self, eq_self, Bool.false_eq_true, ne_eq, reduceIte]) (by decide) hp)
      refine y_aload (pc := 117) o dX16_mix_117 rfl ?_
      refine y_iconst (pc := 119) (x := 0) o dX16_mix_119 (by decide) ?_
      refine z_iald (pc := 120) (K := (26, 0, b.toNatClampNeg)) (i := 0) (v := R.1 (6, 0, b.toNatClampNeg) 0) o dX16_mix_120 (gl_26 (gix_lt (Nat.le_trans (hBR 0 0 (by decide)) (by decide)) b3)) rfl (by unfold vp_in; decide) rfl ?_
      refine y_bipush (pc := 121) (x := 99) o dX16_mix_121 (by decide) ?_
      refine y_icmp_ne (pc := 123) (tgt := 155) o dX16_mix_123 rfl (fun (b14 : ¬ (R.1 (6, 0, b.toNatClampNeg) 0) = 99) => ?_) (fun (b14 : (R.1 (6, 0, b.toNatClampNeg) 0) = 99) => ?_)
      · refine y_iconst (pc := 155) (x := 0) o dX16_mix_155 (by decide) ?_
        refine y_istore (pc := 156) (i := 8) (lv' := [(8, .int (0)), (7, .ref (ad (26, 0, b.toNatClampNeg))), (6, .ref (ad (26, 0, a.toNatClampNeg))), (0, .ref (ad (20, 0, 0))), (1, .int (a)), (2, .int (b)), (3, .int (c)), (4, .int (d)), (5, .int (e))]) o dX16_mix_156 (by decide) rfl ?_
        refine y_aload_n (pc := 158) o dX16_mix_158 rfl ?_
        refine y_iload (pc := 159) o dX16_mix_159 rfl ?_
        refine y_if_ne (pc := 161) (tgt := 168) o dX16_mix_161 rfl (fun b15 => absurd b15 (by rw [b4]; decide)) (fun (b15 : 0 = 0) => ?_)
        refine y_iconst (pc := 164) (x := 1) o dX16_mix_164 (by decide) ?_
        refine y_goto (pc := 165) (tgt := 169) o dX16_mix_165 rfl ?_
        refine y_iconst (pc := 169) (x := 3) o dX16_mix_169 (by decide) ?_
        refine z_callV (pc := 170) (k := 0) (n := 0) (k' := 0) (n' := 0) o (b := ad (20, 0, 0)) (As := [.int (1), .int (3)]) (rest := []) (kFailsT hR h5 3 (by decide)) ln_X16_74 dX16_mix_170 (z_rc (ci := 20) (K := (20, 0, 0)) rfl (gl_20 hR) rfl) rfl rfl (Nat.le_of_ble_eq_true rfl) ⟨by decide, by decide⟩ ⟨rfl, rfl⟩ ⟨by decide, by decide⟩ rfl gq_nox2 ?_
        refine y_if_ne (pc := 173) (tgt := 203) o dX16_mix_173 rfl (fun (b16 : ¬ 1 = 0) => ?_) (fun b16 => absurd b16 (by decide))
        refine y_iconst (pc := 203) (x := -1) o dX16_mix_203 (by decide) ?_
        exact y_iret (pc := 204) o dX16_mix_204 rfl (vp_nar_int _) (by decide) (by decide) (fun h hp => gP_thr (k := 3) (by simp +decide only [F_mix, b1, b3, b5, b7, b9, b11, b14, gclamp, gtc0, gtc1, gtc2, gtc3, gtc4, not_true_eq_false, not_false_eq_true, if_true, if_false, or_true, true_or, or_false, false_or, and_true, true_and, and_false, false_and, or_self, and_self, eq_self, Bool.false_eq_true, ne_eq, reduceIte]) (by decide) hp)
      refine y_aload (pc := 126) o dX16_mix_126 rfl ?_
      refine y_iconst (pc := 128) (x := 3) o dX16_mix_128 (by decide) ?_
      refine z_iald (pc := 129) (K := (26, 0, a.toNatClampNeg)) (i := 3) (v := R.1 (6, 0, a.toNatClampNeg) 3) o dX16_mix_129 (gl_26 (gix_lt (Nat.le_trans (hBR 0 0 (by decide)) (by decide)) b1)) rfl (by unfold vp_in; decide) rfl ?_
      refine y_iload_n (pc := 130) o dX16_mix_130 rfl ?_
      refine y_icmp_lt (pc := 131) (tgt := 155) o dX16_mix_131 rfl (fun (b17 : (R.1 (6, 0, a.toNatClampNeg) 3) < c) => ?_) (fun (b17 : ¬ (R.1 (6, 0, a.toNatClampNeg) 3) < c) => ?_)
      · refine y_iconst (pc := 155) (x := 0) o dX16_mix_155 (by decide) ?_
        refine y_istore (pc := 156) (i := 8) (lv' := [(8, .int (0)), (7, .ref (ad (26, 0, b.toNatClampNeg))), (6, .ref (ad (26, 0, a.toNatClampNeg))), (0, .ref (ad (20, 0, 0))), (1, .int (a)), (2, .int (b)), (3, .int (c)), (4, .int (d)), (5, .int (e))]) o dX16_mix_156 (by decide) rfl ?_
        refine y_aload_n (pc := 158) o dX16_mix_158 rfl ?_
        refine y_iload (pc := 159) o dX16_mix_159 rfl ?_
        refine y_if_ne (pc := 161) (tgt := 168) o dX16_mix_161 rfl (fun b18 => absurd b18 (by rw [b4]; decide)) (fun (b18 : 0 = 0) => ?_)
        refine y_iconst (pc := 164) (x := 1) o dX16_mix_164 (by decide) ?_
        refine y_goto (pc := 165) (tgt := 169) o dX16_mix_165 rfl ?_
        refine y_iconst (pc := 169) (x := 3) o dX16_mix_169 (by decide) ?_
        refine z_callV (pc := 170) (k := 0) (n := 0) (k' := 0) (n' := 0) o (b := ad (20, 0, 0)) (As := [.int (1), .int (3)]) (rest := []) (kFailsT hR h5 3 (by decide)) ln_X16_74 dX16_mix_170 (z_rc (ci := 20) (K := (20, 0, 0)) rfl (gl_20 hR) rfl) rfl rfl (Nat.le_of_ble_eq_true rfl) ⟨by decide, by decide⟩ ⟨rfl, rfl⟩ ⟨by decide, by decide⟩ rfl gq_nox2 ?_
        refine y_if_ne (pc := 173) (tgt := 203) o dX16_mix_173 rfl (fun (b19 : ¬ 1 = 0) => ?_) (fun b19 => absurd b19 (by decide))
        refine y_iconst (pc := 203) (x := -1) o dX16_mix_203 (by decide) ?_
        exact y_iret (pc := 204) o dX16_mix_204 rfl (vp_nar_int _) (by decide) (by decide) (fun h hp => gP_thr (k := 3) (by simp +decide only [F_mix, b1, b3, b5, b7, b9, b11, b14, b17, gclamp, gtc0, gtc1, gtc2, gtc3, gtc4, not_true_eq_false, not_false_eq_true, if_true, if_false, or_true, true_or, or_false, false_or, and_true, true_and, and_false, false_and, or_self, and_self, eq_self, Bool.false_eq_true, ne_eq, reduceIte]) (by decide) hp)
      refine y_aload (pc := 134) o dX16_mix_134 rfl ?_
      refine y_iconst (pc := 136) (x := 3) o dX16_mix_136 (by decide) ?_
      refine z_iald (pc := 137) (K := (26, 0, b.toNatClampNeg)) (i := 3) (v := R.1 (6, 0, b.toNatClampNeg) 3) o dX16_mix_137 (gl_26 (gix_lt (Nat.le_trans (hBR 0 0 (by decide)) (by decide)) b3)) rfl (by unfold vp_in; decide) rfl ?_
      refine y_iload (pc := 138) o dX16_mix_138 rfl ?_
      refine y_icmp_lt (pc := 140) (tgt := 155) o dX16_mix_140 rfl (fun (b20 : (R.1 (6, 0, b.toNatClampNeg) 3) < d) => ?_) (fun (b20 : ¬ (R.1 (6, 0, b.toNatClampNeg) 3) < d) => ?_)
      · refine y_iconst (pc := 155) (x := 0) o dX16_mix_155 (by decide) ?_
        refine y_istore (pc := 156) (i := 8) (lv' := [(8, .int (0)), (7, .ref (ad (26, 0, b.toNatClampNeg))), (6, .ref (ad (26, 0, a.toNatClampNeg))), (0, .ref (ad (20, 0, 0))), (1, .int (a)), (2, .int (b)), (3, .int (c)), (4, .int (d)), (5, .int (e))]) o dX16_mix_156 (by decide) rfl ?_
        refine y_aload_n (pc := 158) o dX16_mix_158 rfl ?_
        refine y_iload (pc := 159) o dX16_mix_159 rfl ?_
        refine y_if_ne (pc := 161) (tgt := 168) o dX16_mix_161 rfl (fun b21 => absurd b21 (by rw [b4]; decide)) (fun (b21 : 0 = 0) => ?_)
        refine y_iconst (pc := 164) (x := 1) o dX16_mix_164 (by decide) ?_
        refine y_goto (pc := 165) (tgt := 169) o dX16_mix_165 rfl ?_
        refine y_iconst (pc := 169) (x := 3) o dX16_mix_169 (by decide) ?_
        refine z_callV (pc := 170) (k := 0) (n := 0) (k' := 0) (n' := 0) o (b := ad (20, 0, 0)) (As := [.int (1), .int (3)]) (rest := []) (kFailsT hR h5 3 (by decide)) ln_X16_74 dX16_mix_170 (z_rc (ci := 20) (K := (20, 0, 0)) rfl (gl_20 hR) rfl) rfl rfl (Nat.le_of_ble_eq_true rfl) ⟨by decide, by decide⟩ ⟨rfl, rfl⟩ ⟨by decide, by decide⟩ rfl gq_nox2 ?_
        refine y_if_ne (pc := 173) (tgt := 203) o dX16_mix_173 rfl (fun (b22 : ¬ 1 = 0) => ?_) (fun b22 => absurd b22 (by decide))
        refine y_iconst (pc := 203) (x := -1) o dX16_mix_203 (by decide) ?_
        exact y_iret (pc := 204) o dX16_mix_204 rfl (vp_nar_int _) (by decide) (by decide) (fun h hp => gP_thr (k := 3) (by simp +decide only [F_mix, b1, b3, b5, b7, b9, b11, b14, b17, b20, gclamp, gtc0, gtc1, gtc2, gtc3, gtc4, not_true_eq_false, not_false_eq_true, if_true, if_false, or_true, true_or, or_false, false_or, and_true, true_and, and_false, false_and, or_self, and_self, eq_self, Bool.false_eq_true, ne_eq, reduceIte]) (by decide) hp)
      refine y_aload_n (pc := 143) o dX16_mix_143 rfl ?_
      refine y_iconst (pc := 144) (x := 0) o dX16_mix_144 (by decide) ?_
      refine z_callV (pc := 145) (k := 0) (n := 0) (k' := 0) (n' := 0) o (b := ad (20, 0, 0)) (As := [.int (0)]) (rest := []) (kGoing0 hR hI.drv hI.2.1.2.2.1 0 (by decide) (hI.chn _ (by decide))) ln_X16_93 dX16_mix_145 (z_rc (ci := 20) (K := (20, 0, 0)) rfl (gl_20 hR) rfl) rfl rfl (Nat.le_of_ble_eq_true rfl) ⟨by decide, by decide⟩ ⟨rfl, rfl⟩ ⟨by decide, by decide⟩ rfl gq_nox2 ?_
      refine z_beq (pc := 148) (tgt := 155) o dX16_mix_148 rfl (fun (b23 : ¬ (gmov R 4 0 = true)) => ?_) (fun (b23 : gmov R 4 0 = true) => ?_)
      · refine y_iconst (pc := 155) (x := 0) o dX16_mix_155 (by decide) ?_
        refine y_istore (pc := 156) (i := 8) (lv' := [(8, .int (0)), (7, .ref (ad (26, 0, b.toNatClampNeg))), (6, .ref (ad (26, 0, a.toNatClampNeg))), (0, .ref (ad (20, 0, 0))), (1, .int (a)), (2, .int (b)), (3, .int (c)), (4, .int (d)), (5, .int (e))]) o dX16_mix_156 (by decide) rfl ?_
        refine y_aload_n (pc := 158) o dX16_mix_158 rfl ?_
        refine y_iload (pc := 159) o dX16_mix_159 rfl ?_
        refine y_if_ne (pc := 161) (tgt := 168) o dX16_mix_161 rfl (fun b24 => absurd b24 (by rw [b4]; decide)) (fun (b24 : 0 = 0) => ?_)
        refine y_iconst (pc := 164) (x := 1) o dX16_mix_164 (by decide) ?_
        refine y_goto (pc := 165) (tgt := 169) o dX16_mix_165 rfl ?_
        refine y_iconst (pc := 169) (x := 3) o dX16_mix_169 (by decide) ?_
        refine z_callV (pc := 170) (k := 0) (n := 0) (k' := 0) (n' := 0) o (b := ad (20, 0, 0)) (As := [.int (1), .int (3)]) (rest := []) (kFailsT hR h5 3 (by decide)) ln_X16_74 dX16_mix_170 (z_rc (ci := 20) (K := (20, 0, 0)) rfl (gl_20 hR) rfl) rfl rfl (Nat.le_of_ble_eq_true rfl) ⟨by decide, by decide⟩ ⟨rfl, rfl⟩ ⟨by decide, by decide⟩ rfl gq_nox2 ?_
        refine y_if_ne (pc := 173) (tgt := 203) o dX16_mix_173 rfl (fun (b25 : ¬ 1 = 0) => ?_) (fun b25 => absurd b25 (by decide))
        refine y_iconst (pc := 203) (x := -1) o dX16_mix_203 (by decide) ?_
        exact y_iret (pc := 204) o dX16_mix_204 rfl (vp_nar_int _) (by decide) (by decide) (fun h hp => gP_thr (k := 3) (by simp +decide only [F_mix, b1, b3, b5, b7, b9, b11, b14, b17, b20, b23, gclamp, gtc0, gtc1, gtc2, gtc3, gtc4, not_true_eq_false, not_false_eq_true, if_true, if_false, or_true, true_or, or_false, false_or, and_true, true_and, and_false, false_and, or_self, and_self, eq_self, Bool.false_eq_true, ne_eq, reduceIte]) (by decide) hp)
      refine y_iconst (pc := 151) (x := 1) o dX16_mix_151 (by decide) ?_
      refine y_goto (pc := 152) (tgt := 156) o dX16_mix_152 rfl ?_
      refine y_istore (pc := 156) (i := 8) (lv' := [(8, .int (1)), (7, .ref (ad (26, 0, b.toNatClampNeg))), (6, .ref (ad (26, 0, a.toNatClampNeg))), (0, .ref (ad (20, 0, 0))), (1, .int (a)), (2, .int (b)), (3, .int (c)), (4, .int (d)), (5, .int (e))]) o dX16_mix_156 (by decide) rfl ?_
      refine y_aload_n (pc := 158) o dX16_mix_158 rfl ?_
      refine y_iload (pc := 159) o dX16_mix_159 rfl ?_
      refine y_if_ne (pc := 161) (tgt := 168) o dX16_mix_161 rfl (fun (b26 : ¬ 1 = 0) => ?_) (fun b26 => absurd b26 (by decide))
      refine y_iconst (pc := 168) (x := 0) o dX16_mix_168 (by decide) ?_
      refine y_iconst (pc := 169) (x := 3) o dX16_mix_169 (by decide) ?_
      refine z_callV (pc := 170) (k := 0) (n := 0) (k' := 0) (n' := 0) o (b := ad (20, 0, 0)) (As := [.int (0), .int (3)]) (rest := []) (kFailsF hR h5 3) ln_X16_74 dX16_mix_170 (z_rc (ci := 20) (K := (20, 0, 0)) rfl (gl_20 hR) rfl) rfl rfl (Nat.le_of_ble_eq_true rfl) ⟨by decide, by decide⟩ ⟨rfl, rfl⟩ ⟨by decide, by decide⟩ rfl gq_nox2 ?_
      refine y_if_ne (pc := 173) (tgt := 203) o dX16_mix_173 rfl (fun b27 => absurd b27 (by rw [b4]; decide)) (fun (b27 : 0 = 0) => ?_)
      refine y_aload_n (pc := 176) o dX16_mix_176 rfl ?_
      refine y_aload_n (pc := 177) o dX16_mix_177 rfl ?_
      refine z_get (pc := 178) (K := (20, 0, 0)) (v := .ref (ad (24, 1, 0))) o fl_X16_42 dX16_mix_178 (gl_20 hR) rfl rfl ?_
      refine z_callF (pc := 181) (k := 0) (n := 0) (k' := 0) (n' := 0) (ci := 3) o (b := ad (24, 1, 0)) (As := []) (rest := [.ref (ad (20, 0, 0))]) (sizeR (l := 1) (g := 0) (gl_24_1 hR)) rfl lf_X16_7 dX16_mix_181 (fun h hr => ⟨_, ghdr_R (R := R) (gl_24_1 hR) hr⟩) rfl rfl (Nat.le_of_ble_eq_true rfl) ⟨by decide, by decide⟩ ⟨rfl, rfl⟩ ⟨by decide, by decide⟩ ?_
      refine y_bipush (pc := 186) (x := 12) o dX16_mix_186 (by decide) ?_
      refine y_icmp_ne (pc := 188) (tgt := 195) o dX16_mix_188 rfl (fun (b28 : ¬ (Int32.ofNat (R.2 7 0)) = 12) => ?_) (fun (b28 : (Int32.ofNat (R.2 7 0)) = 12) => ?_)
      · refine y_iconst (pc := 195) (x := 0) o dX16_mix_195 (by decide) ?_
        refine y_iconst (pc := 196) (x := 4) o dX16_mix_196 (by decide) ?_
        refine z_callV (pc := 197) (k := 0) (n := 0) (k' := 0) (n' := 0) o (b := ad (20, 0, 0)) (As := [.int (0), .int (4)]) (rest := []) (kFailsF hR h5 4) ln_X16_74 dX16_mix_197 (z_rc (ci := 20) (K := (20, 0, 0)) rfl (gl_20 hR) rfl) rfl rfl (Nat.le_of_ble_eq_true rfl) ⟨by decide, by decide⟩ ⟨rfl, rfl⟩ ⟨by decide, by decide⟩ rfl gq_nox2 ?_
        refine y_if_eq (pc := 200) (tgt := 205) o dX16_mix_200 rfl (fun (b29 : 0 = 0) => ?_) (fun b29 => absurd b29 (by rw [b4]; decide))
        refine y_aload (pc := 205) o dX16_mix_205 rfl ?_
        refine y_iconst (pc := 207) (x := 3) o dX16_mix_207 (by decide) ?_
        refine y_dup2 (pc := 208) o dX16_mix_208 rfl rfl ?_
        refine z_iald (pc := 209) (K := (26, 0, a.toNatClampNeg)) (i := 3) (v := R.1 (6, 0, a.toNatClampNeg) 3) o dX16_mix_209 (gl_26 (gix_lt (Nat.le_trans (hBR 0 0 (by decide)) (by decide)) b1)) rfl (by unfold vp_in; decide) rfl ?_
        refine y_iload_n (pc := 210) o dX16_mix_210 rfl ?_
        refine y_isub (pc := 211) o dX16_mix_211 ?_
        refine z_iastR (pc := 212) (K := (26, 0, a.toNatClampNeg)) (i := 3) (x := (R.1 (6, 0, a.toNatClampNeg) 3) - c) (B := (6, 0, a.toNatClampNeg)) o dX16_mix_212 (gl_26 (gix_lt (Nat.le_trans (hBR 0 0 (by decide)) (by decide)) b1)) (show 24 ≤ (26:Nat) by decide) rfl (fun _ => rfl) (by unfold vp_in; decide) ?_
        refine y_aload (pc := 213) o dX16_mix_213 rfl ?_
        refine y_iconst (pc := 215) (x := 3) o dX16_mix_215 (by decide) ?_
        refine y_dup2 (pc := 216) o dX16_mix_216 rfl rfl ?_
        refine z_iald (pc := 217) (K := (26, 0, b.toNatClampNeg)) (i := 3) (v := (gup R (6, 0, a.toNatClampNeg) 3 ((R.1 (6, 0, a.toNatClampNeg) 3) - c)).1 (6, 0, b.toNatClampNeg) 3) o dX16_mix_217 (gl_26 (gix_lt (Nat.le_trans (hBR 0 0 (by decide)) (by decide)) b3)) rfl (by unfold vp_in; decide) rfl ?_
        refine y_iload (pc := 218) o dX16_mix_218 rfl ?_
        refine y_isub (pc := 220) o dX16_mix_220 ?_
        refine z_iastR (pc := 221) (K := (26, 0, b.toNatClampNeg)) (i := 3) (x := ((gup R (6, 0, a.toNatClampNeg) 3 ((R.1 (6, 0, a.toNatClampNeg) 3) - c)).1 (6, 0, b.toNatClampNeg) 3) - d) (B := (6, 0, b.toNatClampNeg)) o dX16_mix_221 (gl_26 (gix_lt (Nat.le_trans (hBR 0 0 (by decide)) (by decide)) b3)) (show 24 ≤ (26:Nat) by decide) rfl (fun _ => rfl) (by unfold vp_in; decide) ?_
        refine y_iload (pc := 222) o dX16_mix_222 rfl ?_
        refine y_bipush (pc := 224) (x := 9) o dX16_mix_224 (by decide) ?_
        refine y_iadd (pc := 226) o dX16_mix_226 ?_
        refine y_aload (pc := 227) o dX16_mix_227 rfl ?_
        refine y_iconst (pc := 229) (x := 2) o dX16_mix_229 (by decide) ?_
        refine z_iald (pc := 230) (K := (26, 0, a.toNatClampNeg)) (i := 2) (v := (gup (gup R (6, 0, a.toNatClampNeg) 3 ((R.1 (6, 0, a.toNatClampNeg) 3) - c)) (6, 0, b.toNatClampNeg) 3 (((gup R (6, 0, a.toNatClampNeg) 3 ((R.1 (6, 0, a.toNatClampNeg) 3) - c)).1 (6, 0, b.toNatClampNeg) 3) - d)).1 (6, 0, a.toNatClampNeg) 2) o dX16_mix_230 (gl_26 (gix_lt (Nat.le_trans (hBR 0 0 (by decide)) (by decide)) b1)) rfl (by unfold vp_in; decide) rfl ?_
        refine z_top (congrArg Value.int (Eq.trans (gup_ff _ (show (2:Nat) ≠ 3 by decide)) (gup_vf _ (show (2:Nat) ≠ 3 by decide)))) ?_
        refine y_isub (pc := 231) o dX16_mix_231 ?_
        refine y_aload (pc := 232) o dX16_mix_232 rfl ?_
        refine y_iconst (pc := 234) (x := 2) o dX16_mix_234 (by decide) ?_
        refine z_iald (pc := 235) (K := (26, 0, b.toNatClampNeg)) (i := 2) (v := (gup (gup R (6, 0, a.toNatClampNeg) 3 ((R.1 (6, 0, a.toNatClampNeg) 3) - c)) (6, 0, b.toNatClampNeg) 3 (((gup R (6, 0, a.toNatClampNeg) 3 ((R.1 (6, 0, a.toNatClampNeg) 3) - c)).1 (6, 0, b.toNatClampNeg) 3) - d)).1 (6, 0, b.toNatClampNeg) 2) o dX16_mix_235 (gl_26 (gix_lt (Nat.le_trans (hBR 0 0 (by decide)) (by decide)) b3)) rfl (by unfold vp_in; decide) rfl ?_
        refine z_top (congrArg Value.int (Eq.trans (gup_vf _ (show (2:Nat) ≠ 3 by decide)) (gup_ff _ (show (2:Nat) ≠ 3 by decide)))) ?_
        refine y_iconst (pc := 236) (x := 3) o dX16_mix_236 (by decide) ?_
        refine y_idiv (pc := 237) o dX16_mix_237 (by decide) ?_
        refine y_isub (pc := 238) o dX16_mix_238 ?_
        refine y_istore (pc := 239) (i := 9) (lv' := [(9, .int (((e + 9) - (R.1 (6, 0, a.toNatClampNeg) 2)) - ((R.1 (6, 0, b.toNatClampNeg) 2) / 3))), (8, .int (1)), (7, .ref (ad (26, 0, b.toNatClampNeg))), (6, .ref (ad (26, 0, a.toNatClampNeg))), (0, .ref (ad (20, 0, 0))), (1, .int (a)), (2, .int (b)), (3, .int (c)), (4, .int (d)), (5, .int (e))]) o dX16_mix_239 (by decide) rfl ?_
        refine y_aload_n (pc := 241) o dX16_mix_241 rfl ?_
        refine z_get (pc := 242) (K := (20, 0, 0)) (v := .ref (ad (24, 1, 0))) o fl_X16_42 dX16_mix_242 (gl_20 hR) rfl rfl ?_
        refine y_iconst (pc := 245) (x := 5) o dX16_mix_245 (by decide) ?_
        refine z_newI (pc := 246) (k := 0) (n := 0) (N := 5) o dX16_mix_246 (by decide) (by decide) (by decide) (by decide) (by decide) (fun q30 => ?_)
        refine y_dup (pc := 248) o dX16_mix_248 rfl ?_
        refine y_iconst (pc := 249) (x := 0) o dX16_mix_249 (by decide) ?_
        refine y_iload_n (pc := 250) o dX16_mix_250 rfl ?_
        refine z_iastT (pc := 251) (i := 0) (x := a) (T' := (q30, .inl (κ.2.1 0, 5, .inl (upd (fun _ => 0) (0 : Int32).toNatClampNeg a))) :: T) o 0 dX16_mix_251 rfl (by unfold vp_in; decide) rfl ?_
        refine y_dup (pc := 252) o dX16_mix_252 rfl ?_
        refine y_iconst (pc := 253) (x := 1) o dX16_mix_253 (by decide) ?_
        refine y_iload_n (pc := 254) o dX16_mix_254 rfl ?_
        refine z_iastT (pc := 255) (i := 1) (x := b) (T' := (q30, .inl (κ.2.1 0, 5, .inl (upd (upd (fun _ => 0) (0 : Int32).toNatClampNeg a) (1 : Int32).toNatClampNeg b))) :: T) o 0 dX16_mix_255 rfl (by unfold vp_in; decide) rfl ?_
        refine y_dup (pc := 256) o dX16_mix_256 rfl ?_
        refine y_iconst (pc := 257) (x := 2) o dX16_mix_257 (by decide) ?_
        refine y_bipush (pc := 258) (x := 10) o dX16_mix_258 (by decide) ?_
        refine y_iload_n (pc := 260) o dX16_mix_260 rfl ?_
        refine y_imul (pc := 261) o dX16_mix_261 ?_
        refine y_aload (pc := 262) o dX16_mix_262 rfl ?_
        refine y_iconst (pc := 264) (x := 1) o dX16_mix_264 (by decide) ?_
        refine z_iald (pc := 265) (K := (26, 0, a.toNatClampNeg)) (i := 1) (v := (gup (gup R (6, 0, a.toNatClampNeg) 3 ((R.1 (6, 0, a.toNatClampNeg) 3) - c)) (6, 0, b.toNatClampNeg) 3 (((gup R (6, 0, a.toNatClampNeg) 3 ((R.1 (6, 0, a.toNatClampNeg) 3) - c)).1 (6, 0, b.toNatClampNeg) 3) - d)).1 (6, 0, a.toNatClampNeg) 1) o dX16_mix_265 (gl_26 (gix_lt (Nat.le_trans (hBR 0 0 (by decide)) (by decide)) b1)) rfl (by unfold vp_in; decide) rfl ?_
        refine z_top (congrArg Value.int (Eq.trans (gup_ff _ (show (1:Nat) ≠ 3 by decide)) (gup_vf _ (show (1:Nat) ≠ 3 by decide)))) ?_
        refine y_imul (pc := 266) o dX16_mix_266 ?_
        refine y_iload_n (pc := 267) o dX16_mix_267 rfl ?_
        refine y_iload (pc := 268) o dX16_mix_268 rfl ?_
        refine y_iadd (pc := 270) o dX16_mix_270 ?_
        refine y_idiv (pc := 271) o dX16_mix_271 (hdiv (hI.2.2.2.1 _ (gix_lt (Nat.le_trans (hBR 0 0 (by decide)) (by decide)) b1)) (hI.2.2.2.1 _ (gix_lt (Nat.le_trans (hBR 0 0 (by decide)) (by decide)) b3)) b5 b7 b17 b20) ?_
        refine z_iastT (pc := 272) (i := 2) (x := ((10 * c) * (R.1 (6, 0, a.toNatClampNeg) 1)) / (c + d)) (T' := (q30, .inl (κ.2.1 0, 5, .inl (upd (upd (upd (fun _ => 0) (0 : Int32).toNatClampNeg a) (1 : Int32).toNatClampNeg b) (2 : Int32).toNatClampNeg (((10 * c) * (R.1 (6, 0, a.toNatClampNeg) 1)) / (c + d))))) :: T) o 0 dX16_mix_272 rfl (by unfold vp_in; decide) rfl ?_
        refine y_dup (pc := 273) o dX16_mix_273 rfl ?_
        refine y_iconst (pc := 274) (x := 3) o dX16_mix_274 (by decide) ?_
        refine y_iconst (pc := 275) (x := 0) o dX16_mix_275 (by decide) ?_
        refine y_bipush (pc := 276) (x := 9) o dX16_mix_276 (by decide) ?_
        refine y_iload (pc := 278) o dX16_mix_278 rfl ?_
        refine y_mmin (pc := 280) o qw_1440 dX16_mix_280 ⟨by decide, Nat.le_of_ble_eq_true rfl⟩ (by decide) (by decide) ?_
        refine y_mmax (pc := 283) o qw_1441 dX16_mix_283 ⟨by decide, Nat.le_of_ble_eq_true rfl⟩ (by decide) (by decide) ?_
        refine z_iastT (pc := 286) (i := 3) (x := gmax 0 (gmin 9 (((e + 9) - (R.1 (6, 0, a.toNatClampNeg) 2)) - ((R.1 (6, 0, b.toNatClampNeg) 2) / 3)))) (T' := (q30, .inl (κ.2.1 0, 5, .inl (upd (upd (upd (upd (fun _ => 0) (0 : Int32).toNatClampNeg a) (1 : Int32).toNatClampNeg b) (2 : Int32).toNatClampNeg (((10 * c) * (R.1 (6, 0, a.toNatClampNeg) 1)) / (c + d))) (3 : Int32).toNatClampNeg (gmax 0 (gmin 9 (((e + 9) - (R.1 (6, 0, a.toNatClampNeg) 2)) - ((R.1 (6, 0, b.toNatClampNeg) 2) / 3))))))) :: T) o 0 dX16_mix_286 rfl (by unfold vp_in; decide) rfl ?_
        refine y_dup (pc := 287) o dX16_mix_287 rfl ?_
        refine y_iconst (pc := 288) (x := 4) o dX16_mix_288 (by decide) ?_
        refine y_iload_n (pc := 289) o dX16_mix_289 rfl ?_
        refine y_iload (pc := 290) o dX16_mix_290 rfl ?_
        refine y_iadd (pc := 292) o dX16_mix_292 ?_
        refine z_iastT (pc := 293) (i := 4) (x := c + d) (T' := (q30, .inl (κ.2.1 0, 5, .inl (upd (upd (upd (upd (upd (fun _ => 0) (0 : Int32).toNatClampNeg a) (1 : Int32).toNatClampNeg b) (2 : Int32).toNatClampNeg (((10 * c) * (R.1 (6, 0, a.toNatClampNeg) 1)) / (c + d))) (3 : Int32).toNatClampNeg (gmax 0 (gmin 9 (((e + 9) - (R.1 (6, 0, a.toNatClampNeg) 2)) - ((R.1 (6, 0, b.toNatClampNeg) 2) / 3))))) (4 : Int32).toNatClampNeg (c + d)))) :: T) o 0 dX16_mix_293 rfl (by unfold vp_in; decide) rfl ?_
        refine y_callF (pc := 294) (ci := 3) (k := 1) (n := 5) o (b := ad (24, 1, 0)) (As := [.ref q30]) (rest := []) (addRa (C := C) (R := (gup (gup R (6, 0, a.toNatClampNeg) 3 ((R.1 (6, 0, a.toNatClampNeg) 3) - c)) (6, 0, b.toNatClampNeg) 3 (((gup R (6, 0, a.toNatClampNeg) 3 ((R.1 (6, 0, a.toNatClampNeg) 3) - c)).1 (6, 0, b.toNatClampNeg) 3) - d))) (l := 1) (g := 0) (n := R.2 7 0) (row := (glist [a, b, ((10 * c) * (R.1 (6, 0, a.toNatClampNeg) 1)) / (c + d), gmax 0 (gmin 9 (((e + 9) - (R.1 (6, 0, a.toNatClampNeg) 2)) - ((R.1 (6, 0, b.toNatClampNeg) 2) / 3))), c + d])) (a := 7) rfl (gl_24_1 hR) (Or.inr rfl) rfl (hBR 1 0 (by decide)) nA5_7 (fun K hK => by cases hK)) rfl lf_X16_107 dX16_mix_294 (fun h hr => ⟨_, ghdr_R (R := (gup (gup R (6, 0, a.toNatClampNeg) 3 ((R.1 (6, 0, a.toNatClampNeg) 3) - c)) (6, 0, b.toNatClampNeg) 3 (((gup R (6, 0, a.toNatClampNeg) 3 ((R.1 (6, 0, a.toNatClampNeg) 3) - c)).1 (6, 0, b.toNatClampNeg) 3) - d))) (gl_24_1 hR) hr⟩) rfl rfl (Nat.le_of_ble_eq_true rfl) ⟨by decide, by decide⟩ ⟨by decide, by decide⟩ (fun _ e => e) (fun _ _ z => z) (fun v => y_and fun ev => y_ex fun ad31 => y_and fun had => y_and fun hadq => ?_)
        subst ev
        have e0 : ad31 (0, 0, 0) = ad (0, 0, 0) := had (0, 0, 0) (by simp) (by simp)
        have e20 : ad31 (20, 0, 0) = ad (20, 0, 0) := had (20, 0, 0) (by simp) (by simp)
        refine z_st (st' := [.int (1)]) rfl ?_
        rw [← e20]
        refine y_pop (pc := 299) o dX16_mix_299 rfl ?_
        refine y_aload_n (pc := 300) o dX16_mix_300 rfl ?_
        refine z_get (pc := 301) (K := (20, 0, 0)) (v := .ref (ad31 (24, 1, 0))) o fl_X16_42 dX16_mix_301 (gl_20 (gfix_new (a := 7) (by decide) hR)) rfl rfl ?_
        refine z_callF (pc := 304) (k := 2) (n := 261) (k' := 2) (n' := 261) (ci := 3) o (b := ad31 (24, 1, 0)) (As := []) (rest := []) (sizeR (l := 1) (g := 0) (gl_24_1 (gfix_new (a := 7) (by decide) hR))) rfl lf_X16_7 dX16_mix_304 (fun h hr => ⟨_, ghdr_R (R := (gnew (gup (gup R (6, 0, a.toNatClampNeg) 3 ((R.1 (6, 0, a.toNatClampNeg) 3) - c)) (6, 0, b.toNatClampNeg) 3 (((gup R (6, 0, a.toNatClampNeg) 3 ((R.1 (6, 0, a.toNatClampNeg) 3) - c)).1 (6, 0, b.toNatClampNeg) 3) - d)) (7, 0, (R.2 7 0)) ((glist [a, b, ((10 * c) * (R.1 (6, 0, a.toNatClampNeg) 1)) / (c + d), gmax 0 (gmin 9 (((e + 9) - (R.1 (6, 0, a.toNatClampNeg) 2)) - ((R.1 (6, 0, b.toNatClampNeg) 2) / 3))), c + d])))) (gl_24_1 (gfix_new (a := 7) (by decide) hR)) hr⟩) rfl rfl (Nat.le_of_ble_eq_true rfl) ⟨by decide, by decide⟩ ⟨rfl, rfl⟩ ⟨by decide, by decide⟩ ?_
        refine z_top (w := .int (Int32.ofNat (R.2 7 0 + 1))) (congrArg (fun z => Value.int (Int32.ofNat z)) (gnew_n _ _)) ?_
        refine y_iconst (pc := 309) (x := 1) o dX16_mix_309 (by decide) ?_
        refine y_isub (pc := 310) o dX16_mix_310 ?_
        exact y_iret (pc := 311) o dX16_mix_311 rfl (vp_nar_int _) (by decide) (by decide) (fun h hp => gP_mk (by simp +decide only [F_mix, b1, b3, b5, b7, b9, b11, b14, b17, b20, b23, gsz_f (k := 12) 12 rfl (by decide) hI.1.2.1.2.1 b28, gclamp, gtc0, gtc1, gtc2, gtc3, gtc4, not_true_eq_false, not_false_eq_true, if_true, if_false, or_true, true_or, or_false, false_or, and_true, true_and, and_false, false_and, or_self, and_self, eq_self, Bool.false_eq_true, ne_eq, reduceIte]) e0 e20 hp)
      refine y_iconst (pc := 191) (x := 1) o dX16_mix_191 (by decide) ?_
      refine y_goto (pc := 192) (tgt := 196) o dX16_mix_192 rfl ?_
      refine y_iconst (pc := 196) (x := 4) o dX16_mix_196 (by decide) ?_
      refine z_callV (pc := 197) (k := 0) (n := 0) (k' := 0) (n' := 0) o (b := ad (20, 0, 0)) (As := [.int (1), .int (4)]) (rest := []) (kFailsT hR h5 4 (by decide)) ln_X16_74 dX16_mix_197 (z_rc (ci := 20) (K := (20, 0, 0)) rfl (gl_20 hR) rfl) rfl rfl (Nat.le_of_ble_eq_true rfl) ⟨by decide, by decide⟩ ⟨rfl, rfl⟩ ⟨by decide, by decide⟩ rfl gq_nox2 ?_
      refine y_if_eq (pc := 200) (tgt := 205) o dX16_mix_200 rfl (fun b32 => absurd b32 (by decide)) (fun (b32 : ¬ 1 = 0) => ?_)
      refine y_iconst (pc := 203) (x := -1) o dX16_mix_203 (by decide) ?_
      exact y_iret (pc := 204) o dX16_mix_204 rfl (vp_nar_int _) (by decide) (by decide) (fun h hp => gP_thr (k := 4) (by simp +decide only [F_mix, b1, b3, b5, b7, b9, b11, b14, b17, b20, b23, gsz_t b28, gclamp, gtc0, gtc1, gtc2, gtc3, gtc4, not_true_eq_false, not_false_eq_true, if_true, if_false, or_true, true_or, or_false, false_or, and_true, true_and, and_false, false_and, or_self, and_self, eq_self, Bool.false_eq_true, ne_eq, reduceIte]) (by decide) hp)
    refine y_iconst (pc := 64) (x := 1) o dX16_mix_64 (by decide) ?_
    refine y_goto (pc := 65) (tgt := 69) o dX16_mix_65 rfl ?_
    refine y_iconst (pc := 69) (x := 2) o dX16_mix_69 (by decide) ?_
    refine z_callV (pc := 70) (k := 0) (n := 0) (k' := 0) (n' := 0) o (b := ad (20, 0, 0)) (As := [.int (1), .int (2)]) (rest := []) (kFailsT hR h5 2 (by decide)) ln_X16_74 dX16_mix_70 (z_rc (ci := 20) (K := (20, 0, 0)) rfl (gl_20 hR) rfl) rfl rfl (Nat.le_of_ble_eq_true rfl) ⟨by decide, by decide⟩ ⟨rfl, rfl⟩ ⟨by decide, by decide⟩ rfl gq_nox2 ?_
    refine y_if_eq (pc := 73) (tgt := 78) o dX16_mix_73 rfl (fun b33 => absurd b33 (by decide)) (fun (b33 : ¬ 1 = 0) => ?_)
    refine y_iconst (pc := 76) (x := -1) o dX16_mix_76 (by decide) ?_
    exact y_iret (pc := 77) o dX16_mix_77 rfl (vp_nar_int _) (by decide) (by decide) (fun h hp => gP_thr (k := 2) (by simp +decide only [F_mix, b1, b3, b5, b7, b9, gclamp, gtc0, gtc1, gtc2, gtc3, gtc4, not_true_eq_false, not_false_eq_true, if_true, if_false, or_true, true_or, or_false, false_or, and_true, true_and, and_false, false_and, or_self, and_self, eq_self, Bool.false_eq_true, ne_eq, reduceIte]) (by decide) hp)
  refine y_iconst (pc := 27) (x := 1) o dX16_mix_27 (by decide) ?_
  refine y_goto (pc := 28) (tgt := 32) o dX16_mix_28 rfl ?_
  refine y_iconst (pc := 32) (x := 1) o dX16_mix_32 (by decide) ?_
  refine z_callV (pc := 33) (k := 0) (n := 0) (k' := 0) (n' := 0) o (b := ad (20, 0, 0)) (As := [.int (1), .int (1)]) (rest := []) (kFailsT hR h5 1 (by decide)) ln_X16_74 dX16_mix_33 (z_rc (ci := 20) (K := (20, 0, 0)) rfl (gl_20 hR) rfl) rfl rfl (Nat.le_of_ble_eq_true rfl) ⟨by decide, by decide⟩ ⟨rfl, rfl⟩ ⟨by decide, by decide⟩ rfl gq_nox2 ?_
  refine y_if_ne (pc := 36) (tgt := 76) o dX16_mix_36 rfl (fun (b34 : ¬ 1 = 0) => ?_) (fun b34 => absurd b34 (by decide))
  refine y_iconst (pc := 76) (x := -1) o dX16_mix_76 (by decide) ?_
  exact y_iret (pc := 77) o dX16_mix_77 rfl (vp_nar_int _) (by decide) (by decide) (fun h hp => gP_thr (k := 1) (by simp +decide only [F_mix, b1, b3, gclamp, gtc0, gtc1, gtc2, gtc3, gtc4, not_true_eq_false, not_false_eq_true, if_true, if_false, or_true, true_or, or_false, false_or, and_true, true_and, and_false, false_and, or_self, and_self, eq_self, Bool.false_eq_true, ne_eq, reduceIte]) (by decide) hp)

theorem r_press {κ : gq_K} {ad : gKey → Nat} {C Rp R : gG} {T : List (Nat × va_E)} {n : Nat} (hb : gup Rp (0, 0, 0) 5 0 = R) (hI : gI n R) (hn : n ≤ 512) (a : Int32) (b : Int32) (c : Int32) : gq_C κ mX16_press [.ref (ad (20, 0, 0)), .int (a), .int (b), .int (c)] (gR κ ad (C, Rp) T) (gP κ ad C T (F_press R a b c)) (gq_no) := by
  refine gq_enter (by decide +kernel) rfl (Nat.le_of_ble_eq_true rfl) rfl (fun f o => ?_)
  have hR := hI.fix
  have hBR := hI.cnt
  have hRp : gfix Rp.2 := by rw [← hb] at hR; exact hR
  have h5 : R.1 (0, 0, 0) 5 = 0 := by rw [← hb]; exact gup_v _ _ _ _
  refine y_aload_n (pc := 0) o dX16_press_0 rfl ?_
  refine z_callVv (pc := 1) (k := 0) (n := 0) (k' := 0) (n' := 0) o (b := ad (20, 0, 0)) (As := []) (rest := []) (kBegins hRp) ln_X16_69 dX16_press_1 (z_rc (ci := 20) (K := (20, 0, 0)) rfl (gl_20 hRp) rfl) rfl rfl (Nat.le_of_ble_eq_true rfl) ⟨by decide, by decide⟩ ⟨rfl, rfl⟩ ⟨by decide, by decide⟩ rfl gq_nox2 ?_
  rw [hb]
  refine y_aload_n (pc := 4) o dX16_press_4 rfl ?_
  refine y_aload_n (pc := 5) o dX16_press_5 rfl ?_
  refine z_get (pc := 6) (K := (20, 0, 0)) (v := .ref (ad (24, 1, 0))) o fl_X16_42 dX16_press_6 (gl_20 hR) rfl rfl ?_
  refine y_iload_n (pc := 9) o dX16_press_9 rfl ?_
  refine z_callS (pc := 10) (k := 0) (n := 0) (k' := 0) (n' := 0) o (As := [.ref (ad (24, 1, 0)), .int (a)]) (rest := [.ref (ad (20, 0, 0))]) (kIsOf (l := 1) (g := 0) (gl_24_1 hR) hBR a) ln_X16_97 dX16_press_10 rfl rfl (Nat.le_of_ble_eq_true rfl) ⟨by decide, by decide⟩ ⟨rfl, rfl⟩ ⟨by decide, by decide⟩ rfl gq_nox2 ?_
  refine z_bne (pc := 13) (tgt := 20) o dX16_press_13 rfl (fun (b1 : gix (R.2 7 0) a = true) => ?_) (fun (b1 : ¬ (gix (R.2 7 0) a = true)) => ?_)
  · refine y_iconst (pc := 20) (x := 0) o dX16_press_20 (by decide) ?_
    refine y_iconst (pc := 21) (x := 1) o dX16_press_21 (by decide) ?_
    refine z_callV (pc := 22) (k := 0) (n := 0) (k' := 0) (n' := 0) o (b := ad (20, 0, 0)) (As := [.int (0), .int (1)]) (rest := []) (kFailsF hR h5 1) ln_X16_74 dX16_press_22 (z_rc (ci := 20) (K := (20, 0, 0)) rfl (gl_20 hR) rfl) rfl rfl (Nat.le_of_ble_eq_true rfl) ⟨by decide, by decide⟩ ⟨rfl, rfl⟩ ⟨by decide, by decide⟩ rfl gq_nox2 ?_
    refine y_if_ne (pc := 25) (tgt := 58) o dX16_press_25 rfl (fun b2 => absurd b2 (by decide)) (fun (b2 : 0 = 0) => ?_)
    refine y_aload_n (pc := 28) o dX16_press_28 rfl ?_
    refine y_iload_n (pc := 29) o dX16_press_29 rfl ?_
    refine y_i2l (pc := 30) o dX16_press_30 ?_
    refine y_lconst (pc := 31) (x := 0) o dX16_press_31 (by decide) ?_
    refine y_ldc2 (pc := 32) o dX16_press_32 qw_1451 ?_
    refine z_callS (pc := 35) (k := 0) (n := 0) (k' := 0) (n' := 0) o (As := [.long (b.toInt64), .long (0), .long (3)]) (rest := [.ref (ad (20, 0, 0))]) (kIn b 0 3) ln_X16_13 dX16_press_35 rfl rfl (Nat.le_of_ble_eq_true rfl) ⟨by decide, by decide⟩ ⟨rfl, rfl⟩ ⟨by decide, by decide⟩ rfl gq_nox2 ?_
    refine z_beq (pc := 38) (tgt := 46) o dX16_press_38 rfl (fun (b3 : ¬ (gin 0 b 3 = true)) => ?_) (fun (b3 : gin 0 b 3 = true) => ?_)
    · refine y_iconst (pc := 46) (x := 1) o dX16_press_46 (by decide) ?_
      refine y_goto (pc := 47) (tgt := 51) o dX16_press_47 rfl ?_
      refine y_iconst (pc := 51) (x := 2) o dX16_press_51 (by decide) ?_
      refine z_callV (pc := 52) (k := 0) (n := 0) (k' := 0) (n' := 0) o (b := ad (20, 0, 0)) (As := [.int (1), .int (2)]) (rest := []) (kFailsT hR h5 2 (by decide)) ln_X16_74 dX16_press_52 (z_rc (ci := 20) (K := (20, 0, 0)) rfl (gl_20 hR) rfl) rfl rfl (Nat.le_of_ble_eq_true rfl) ⟨by decide, by decide⟩ ⟨rfl, rfl⟩ ⟨by decide, by decide⟩ rfl gq_nox2 ?_
      refine y_if_eq (pc := 55) (tgt := 60) o dX16_press_55 rfl (fun b4 => absurd b4 (by decide)) (fun (b4 : ¬ 1 = 0) => ?_)
      refine y_iconst (pc := 58) (x := -1) o dX16_press_58 (by decide) ?_
      exact y_iret (pc := 59) o dX16_press_59 rfl (vp_nar_int _) (by decide) (by decide) (fun h hp => gP_thr (k := 2) (by simp +decide only [F_press, b1, b3, gin3o, gin3p, gtc0, gtc1, gtc2, gtc3, gtc4, not_true_eq_false, not_false_eq_true, if_true, if_false, or_true, true_or, or_false, false_or, and_true, true_and, and_false, false_and, or_self, and_self, eq_self, Bool.false_eq_true, ne_eq, reduceIte]) (by decide) hp)
    refine y_iload_n (pc := 41) o dX16_press_41 rfl ?_
    refine y_iconst (pc := 42) (x := 1) o dX16_press_42 (by decide) ?_
    refine z_icmp_ge (pc := 43) (tgt := 50) o dX16_press_43 rfl (fun (b5 : ¬ c < 1) => ?_) (fun (b5 : c < 1) => ?_)
    · refine y_iconst (pc := 50) (x := 0) o dX16_press_50 (by decide) ?_
      refine y_iconst (pc := 51) (x := 2) o dX16_press_51 (by decide) ?_
      refine z_callV (pc := 52) (k := 0) (n := 0) (k' := 0) (n' := 0) o (b := ad (20, 0, 0)) (As := [.int (0), .int (2)]) (rest := []) (kFailsF hR h5 2) ln_X16_74 dX16_press_52 (z_rc (ci := 20) (K := (20, 0, 0)) rfl (gl_20 hR) rfl) rfl rfl (Nat.le_of_ble_eq_true rfl) ⟨by decide, by decide⟩ ⟨rfl, rfl⟩ ⟨by decide, by decide⟩ rfl gq_nox2 ?_
      refine y_if_eq (pc := 55) (tgt := 60) o dX16_press_55 rfl (fun (b6 : 0 = 0) => ?_) (fun b6 => absurd b6 (by rw [b2]; decide))
      refine y_aload_n (pc := 60) o dX16_press_60 rfl ?_
      refine z_get (pc := 61) (K := (20, 0, 0)) (v := .ref (ad (24, 1, 0))) o fl_X16_42 dX16_press_61 (gl_20 hR) rfl rfl ?_
      refine y_iload_n (pc := 64) o dX16_press_64 rfl ?_
      refine z_callF (pc := 65) (k := 0) (n := 0) (k' := 0) (n' := 0) (ci := 3) o (b := ad (24, 1, 0)) (As := [.int (a)]) (rest := []) (getR (l := 1) (g := 0) (gl_24_1 hR) (hBR 1 0 (by decide)) b1) rfl lf_X16_114 dX16_press_65 (fun h hr => ⟨_, ghdr_R (R := R) (gl_24_1 hR) hr⟩) rfl rfl (Nat.le_of_ble_eq_true rfl) ⟨by decide, by decide⟩ ⟨rfl, rfl⟩ ⟨by decide, by decide⟩ ?_
      refine z_castI (pc := 70) (K := (27, 0, a.toNatClampNeg)) (N := 5) o qw_1435 dX16_press_70 (gl_27 (gix_lt (Nat.le_trans (hBR 1 0 (by decide)) (by decide)) b1)) rfl ?_
      refine y_astore (pc := 73) (i := 4) (lv' := [(4, .ref (ad (27, 0, a.toNatClampNeg))), (0, .ref (ad (20, 0, 0))), (1, .int (a)), (2, .int (b)), (3, .int (c))]) o dX16_press_73 (by decide) rfl ?_
      refine y_aload_n (pc := 75) o dX16_press_75 rfl ?_
      refine y_aload (pc := 76) o dX16_press_76 rfl ?_
      refine y_iconst (pc := 78) (x := 4) o dX16_press_78 (by decide) ?_
      refine z_iald (pc := 79) (K := (27, 0, a.toNatClampNeg)) (i := 4) (v := R.1 (7, 0, a.toNatClampNeg) 4) o dX16_press_79 (gl_27 (gix_lt (Nat.le_trans (hBR 1 0 (by decide)) (by decide)) b1)) rfl (by unfold vp_in; decide) rfl ?_
      refine y_iload_n (pc := 80) o dX16_press_80 rfl ?_
      refine y_icmp_lt (pc := 81) (tgt := 104) o dX16_press_81 rfl (fun (b7 : (R.1 (7, 0, a.toNatClampNeg) 4) < c) => ?_) (fun (b7 : ¬ (R.1 (7, 0, a.toNatClampNeg) 4) < c) => ?_)
      · refine y_iconst (pc := 104) (x := 1) o dX16_press_104 (by decide) ?_
        refine y_goto (pc := 105) (tgt := 109) o dX16_press_105 rfl ?_
        refine y_iconst (pc := 109) (x := 3) o dX16_press_109 (by decide) ?_
        refine z_callV (pc := 110) (k := 0) (n := 0) (k' := 0) (n' := 0) o (b := ad (20, 0, 0)) (As := [.int (1), .int (3)]) (rest := []) (kFailsT hR h5 3 (by decide)) ln_X16_74 dX16_press_110 (z_rc (ci := 20) (K := (20, 0, 0)) rfl (gl_20 hR) rfl) rfl rfl (Nat.le_of_ble_eq_true rfl) ⟨by decide, by decide⟩ ⟨rfl, rfl⟩ ⟨by decide, by decide⟩ rfl gq_nox2 ?_
        refine y_if_ne (pc := 113) (tgt := 143) o dX16_press_113 rfl (fun (b8 : ¬ 1 = 0) => ?_) (fun b8 => absurd b8 (by decide))
        refine y_iconst (pc := 143) (x := -1) o dX16_press_143 (by decide) ?_
        exact y_iret (pc := 144) o dX16_press_144 rfl (vp_nar_int _) (by decide) (by decide) (fun h hp => gP_thr (k := 3) (by simp +decide only [F_press, b1, b3, b5, b7, gin3o, gin3p, gtc0, gtc1, gtc2, gtc3, gtc4, not_true_eq_false, not_false_eq_true, if_true, if_false, or_true, true_or, or_false, false_or, and_true, true_and, and_false, false_and, or_self, and_self, eq_self, Bool.false_eq_true, ne_eq, reduceIte]) (by decide) hp)
      refine y_aload_n (pc := 84) o dX16_press_84 rfl ?_
      refine z_get (pc := 85) (K := (20, 0, 0)) (v := .ref (ad (34, 0, 0))) o fl_X16_45 dX16_press_85 (gl_20 hR) rfl rfl ?_
      refine y_iload_n (pc := 88) o dX16_press_88 rfl ?_
      refine z_iald (pc := 89) (K := (34, 0, 0)) (i := b) (v := R.1 (14, 0, 0) b.toNatClampNeg) o dX16_press_89 (gl_34 hR) rfl (gin4g b3) (if_pos (gin_lt (gin4g b3))) ?_
      refine y_sipush (pc := 90) (x := 200) o dX16_press_90 (by decide) ?_
      refine z_icmp_ge (pc := 93) (tgt := 104) o dX16_press_93 rfl (fun (b9 : ¬ (R.1 (14, 0, 0) b.toNatClampNeg) < 200) => ?_) (fun (b9 : (R.1 (14, 0, 0) b.toNatClampNeg) < 200) => ?_)
      · refine y_iconst (pc := 104) (x := 1) o dX16_press_104 (by decide) ?_
        refine y_goto (pc := 105) (tgt := 109) o dX16_press_105 rfl ?_
        refine y_iconst (pc := 109) (x := 3) o dX16_press_109 (by decide) ?_
        refine z_callV (pc := 110) (k := 0) (n := 0) (k' := 0) (n' := 0) o (b := ad (20, 0, 0)) (As := [.int (1), .int (3)]) (rest := []) (kFailsT hR h5 3 (by decide)) ln_X16_74 dX16_press_110 (z_rc (ci := 20) (K := (20, 0, 0)) rfl (gl_20 hR) rfl) rfl rfl (Nat.le_of_ble_eq_true rfl) ⟨by decide, by decide⟩ ⟨rfl, rfl⟩ ⟨by decide, by decide⟩ rfl gq_nox2 ?_
        refine y_if_ne (pc := 113) (tgt := 143) o dX16_press_113 rfl (fun (b10 : ¬ 1 = 0) => ?_) (fun b10 => absurd b10 (by decide))
        refine y_iconst (pc := 143) (x := -1) o dX16_press_143 (by decide) ?_
        exact y_iret (pc := 144) o dX16_press_144 rfl (vp_nar_int _) (by decide) (by decide) (fun h hp => gP_thr (k := 3) (by simp +decide only [F_press, b1, b3, b5, b7, b9, gin3o, gin3p, gtc0, gtc1, gtc2, gtc3, gtc4, not_true_eq_false, not_false_eq_true, if_true, if_false, or_true, true_or, or_false, false_or, and_true, true_and, and_false, false_and, or_self, and_self, eq_self, Bool.false_eq_true, ne_eq, reduceIte]) (by decide) hp)
      refine y_aload_n (pc := 96) o dX16_press_96 rfl ?_
      refine y_iconst (pc := 97) (x := 1) o dX16_press_97 (by decide) ?_
      refine z_callV (pc := 98) (k := 0) (n := 0) (k' := 0) (n' := 0) o (b := ad (20, 0, 0)) (As := [.int (1)]) (rest := [.ref (ad (20, 0, 0))]) (kGoing0 hR hI.drv hI.2.1.2.2.1 1 (by decide) (hI.chn _ (by decide))) ln_X16_93 dX16_press_98 (z_rc (ci := 20) (K := (20, 0, 0)) rfl (gl_20 hR) rfl) rfl rfl (Nat.le_of_ble_eq_true rfl) ⟨by decide, by decide⟩ ⟨rfl, rfl⟩ ⟨by decide, by decide⟩ rfl gq_nox2 ?_
      refine z_bne (pc := 101) (tgt := 108) o dX16_press_101 rfl (fun (b11 : gmov R 4 1 = true) => ?_) (fun (b11 : ¬ (gmov R 4 1 = true)) => ?_)
      · refine y_iconst (pc := 108) (x := 0) o dX16_press_108 (by decide) ?_
        refine y_iconst (pc := 109) (x := 3) o dX16_press_109 (by decide) ?_
        refine z_callV (pc := 110) (k := 0) (n := 0) (k' := 0) (n' := 0) o (b := ad (20, 0, 0)) (As := [.int (0), .int (3)]) (rest := []) (kFailsF hR h5 3) ln_X16_74 dX16_press_110 (z_rc (ci := 20) (K := (20, 0, 0)) rfl (gl_20 hR) rfl) rfl rfl (Nat.le_of_ble_eq_true rfl) ⟨by decide, by decide⟩ ⟨rfl, rfl⟩ ⟨by decide, by decide⟩ rfl gq_nox2 ?_
        refine y_if_ne (pc := 113) (tgt := 143) o dX16_press_113 rfl (fun b12 => absurd b12 (by rw [b2]; decide)) (fun (b12 : 0 = 0) => ?_)
        refine y_aload_n (pc := 116) o dX16_press_116 rfl ?_
        refine y_aload_n (pc := 117) o dX16_press_117 rfl ?_
        refine z_get (pc := 118) (K := (20, 0, 0)) (v := .ref (ad (24, 2, 0))) o fl_X16_51 dX16_press_118 (gl_20 hR) rfl rfl ?_
        refine z_callF (pc := 121) (k := 0) (n := 0) (k' := 0) (n' := 0) (ci := 3) o (b := ad (24, 2, 0)) (As := []) (rest := [.ref (ad (20, 0, 0))]) (sizeR (l := 2) (g := 0) (gl_24_2 hR)) rfl lf_X16_7 dX16_press_121 (fun h hr => ⟨_, ghdr_R (R := R) (gl_24_2 hR) hr⟩) rfl rfl (Nat.le_of_ble_eq_true rfl) ⟨by decide, by decide⟩ ⟨rfl, rfl⟩ ⟨by decide, by decide⟩ ?_
        refine y_bipush (pc := 126) (x := 16) o dX16_press_126 (by decide) ?_
        refine y_icmp_ne (pc := 128) (tgt := 135) o dX16_press_128 rfl (fun (b13 : ¬ (Int32.ofNat (R.2 8 0)) = 16) => ?_) (fun (b13 : (Int32.ofNat (R.2 8 0)) = 16) => ?_)
        · refine y_iconst (pc := 135) (x := 0) o dX16_press_135 (by decide) ?_
          refine y_iconst (pc := 136) (x := 4) o dX16_press_136 (by decide) ?_
          refine z_callV (pc := 137) (k := 0) (n := 0) (k' := 0) (n' := 0) o (b := ad (20, 0, 0)) (As := [.int (0), .int (4)]) (rest := []) (kFailsF hR h5 4) ln_X16_74 dX16_press_137 (z_rc (ci := 20) (K := (20, 0, 0)) rfl (gl_20 hR) rfl) rfl rfl (Nat.le_of_ble_eq_true rfl) ⟨by decide, by decide⟩ ⟨rfl, rfl⟩ ⟨by decide, by decide⟩ rfl gq_nox2 ?_
          refine y_if_eq (pc := 140) (tgt := 145) o dX16_press_140 rfl (fun (b14 : 0 = 0) => ?_) (fun b14 => absurd b14 (by rw [b2]; decide))
          refine z_new (pc := 145) (k := 0) (n := 0) o nw_X16_132 dX16_press_145 (by decide) (by decide) (fun q15 => ?_)
          refine y_dup (pc := 148) o dX16_press_148 rfl ?_
          refine z_callI (pc := 149) (k := 1) (n := 11) (k' := 1) (n' := 11) o (b := q15) (As := []) (rest := [.ref (q15)]) (kX12_init _ ) ln_X16_134 dX16_press_149 rfl rfl (Nat.le_of_ble_eq_true rfl) ⟨by decide, by decide⟩ ⟨rfl, rfl⟩ ⟨by decide, by decide⟩ ?_
          refine y_astore (pc := 152) (i := 5) (lv' := [(5, .ref (q15)), (4, .ref (ad (27, 0, a.toNatClampNeg))), (0, .ref (ad (20, 0, 0))), (1, .int (a)), (2, .int (b)), (3, .int (c))]) o dX16_press_152 (by decide) rfl ?_
          refine y_aload (pc := 154) o dX16_press_154 rfl ?_
          refine y_iload_n (pc := 156) o dX16_press_156 rfl ?_
          refine z_putT (pc := 157) (fs' := [.int (a), .int (0), .int (0), .int (0), .int (0), .int (0), .int (-1), .int (0), .int (0), .int (0), .int (0)]) (T' := (q15, .inr (16, [.int (a), .int (0), .int (0), .int (0), .int (0), .int (0), .int (-1), .int (0), .int (0), .int (0), .int (0)])) :: T) o 0 fw_X16_135 dX16_press_157 rfl (Nat.le_of_ble_eq_true rfl) (vp_nar_int _) rfl rfl rfl ?_
          refine y_aload (pc := 160) o dX16_press_160 rfl ?_
          refine y_bipush (pc := 162) (x := 20) o dX16_press_162 (by decide) ?_
          refine y_iload_n (pc := 164) o dX16_press_164 rfl ?_
          refine y_imul (pc := 165) o dX16_press_165 ?_
          refine z_putT (pc := 166) (fs' := [.int (a), .int (20 * c), .int (0), .int (0), .int (0), .int (0), .int (-1), .int (0), .int (0), .int (0), .int (0)]) (T' := (q15, .inr (16, [.int (a), .int (20 * c), .int (0), .int (0), .int (0), .int (0), .int (-1), .int (0), .int (0), .int (0), .int (0)])) :: T) o 0 fw_X16_138 dX16_press_166 rfl (Nat.le_of_ble_eq_true rfl) (vp_nar_int _) rfl rfl rfl ?_
          refine y_aload (pc := 169) o dX16_press_169 rfl ?_
          refine y_bipush (pc := 171) (x := 20) o dX16_press_171 (by decide) ?_
          refine y_aload_n (pc := 173) o dX16_press_173 rfl ?_
          refine z_get (pc := 174) (K := (20, 0, 0)) (v := .ref (ad (34, 0, 0))) o fl_X16_45 dX16_press_174 (gl_20 hR) rfl rfl ?_
          refine y_iload_n (pc := 177) o dX16_press_177 rfl ?_
          refine z_iald (pc := 178) (K := (34, 0, 0)) (i := b) (v := R.1 (14, 0, 0) b.toNatClampNeg) o dX16_press_178 (gl_34 hR) rfl (gin4g b3) (if_pos (gin_lt (gin4g b3))) ?_
          refine y_bipush (pc := 179) (x := 40) o dX16_press_179 (by decide) ?_
          refine y_idiv (pc := 181) o dX16_press_181 (by decide) ?_
          refine y_iadd (pc := 182) o dX16_press_182 ?_
          refine z_putT (pc := 183) (fs' := [.int (a), .int (20 * c), .int (0), .int (20 + ((R.1 (14, 0, 0) b.toNatClampNeg) / 40)), .int (0), .int (0), .int (-1), .int (0), .int (0), .int (0), .int (0)]) (T' := (q15, .inr (16, [.int (a), .int (20 * c), .int (0), .int (20 + ((R.1 (14, 0, 0) b.toNatClampNeg) / 40)), .int (0), .int (0), .int (-1), .int (0), .int (0), .int (0), .int (0)])) :: T) o 0 fw_X16_141 dX16_press_183 rfl (Nat.le_of_ble_eq_true rfl) (vp_nar_int _) rfl rfl rfl ?_
          refine y_aload_n (pc := 186) o dX16_press_186 rfl ?_
          refine z_get (pc := 187) (K := (20, 0, 0)) (v := .ref (ad (34, 0, 0))) o fl_X16_45 dX16_press_187 (gl_20 hR) rfl rfl ?_
          refine y_iload_n (pc := 190) o dX16_press_190 rfl ?_
          refine y_dup2 (pc := 191) o dX16_press_191 rfl rfl ?_
          refine z_iald (pc := 192) (K := (34, 0, 0)) (i := b) (v := R.1 (14, 0, 0) b.toNatClampNeg) o dX16_press_192 (gl_34 hR) rfl (gin4g b3) (if_pos (gin_lt (gin4g b3))) ?_
          refine y_iload_n (pc := 193) o dX16_press_193 rfl ?_
          refine y_bipush (pc := 194) (x := 10) o dX16_press_194 (by decide) ?_
          refine y_aload (pc := 196) o dX16_press_196 rfl ?_
          refine y_iconst (pc := 198) (x := 3) o dX16_press_198 (by decide) ?_
          refine z_iald (pc := 199) (K := (27, 0, a.toNatClampNeg)) (i := 3) (v := R.1 (7, 0, a.toNatClampNeg) 3) o dX16_press_199 (gl_27 (gix_lt (Nat.le_trans (hBR 1 0 (by decide)) (by decide)) b1)) rfl (by unfold vp_in; decide) rfl ?_
          refine y_isub (pc := 200) o dX16_press_200 ?_
          refine y_imul (pc := 201) o dX16_press_201 ?_
          refine y_iconst (pc := 202) (x := 5) o dX16_press_202 (by decide) ?_
          refine y_idiv (pc := 203) o dX16_press_203 (by decide) ?_
          refine y_iadd (pc := 204) o dX16_press_204 ?_
          refine z_iastR (pc := 205) (K := (34, 0, 0)) (i := b) (x := (R.1 (14, 0, 0) b.toNatClampNeg) + ((c * (10 - (R.1 (7, 0, a.toNatClampNeg) 3))) / 5)) (B := (14, 0, 0)) o dX16_press_205 (gl_34 hR) (show 24 ≤ (34:Nat) by decide) rfl (fun _ => rfl) (gin4g b3) ?_
          refine y_aload (pc := 206) o dX16_press_206 rfl ?_
          refine y_iconst (pc := 208) (x := 4) o dX16_press_208 (by decide) ?_
          refine y_dup2 (pc := 209) o dX16_press_209 rfl rfl ?_
          refine z_iald (pc := 210) (K := (27, 0, a.toNatClampNeg)) (i := 4) (v := (gup R (14, 0, 0) b.toNatClampNeg ((R.1 (14, 0, 0) b.toNatClampNeg) + ((c * (10 - (R.1 (7, 0, a.toNatClampNeg) 3))) / 5))).1 (7, 0, a.toNatClampNeg) 4) o dX16_press_210 (gl_27 (gix_lt (Nat.le_trans (hBR 1 0 (by decide)) (by decide)) b1)) rfl (by unfold vp_in; decide) rfl ?_
          refine z_top (congrArg Value.int (gup_vc _ (show (7:Nat) ≠ 14 by decide))) ?_
          refine y_iload_n (pc := 211) o dX16_press_211 rfl ?_
          refine y_isub (pc := 212) o dX16_press_212 ?_
          refine z_iastR (pc := 213) (K := (27, 0, a.toNatClampNeg)) (i := 4) (x := (R.1 (7, 0, a.toNatClampNeg) 4) - c) (B := (7, 0, a.toNatClampNeg)) o dX16_press_213 (gl_27 (gix_lt (Nat.le_trans (hBR 1 0 (by decide)) (by decide)) b1)) (show 24 ≤ (27:Nat) by decide) rfl (fun _ => rfl) (by unfold vp_in; decide) ?_
          refine y_aload_n (pc := 214) o dX16_press_214 rfl ?_
          refine z_get (pc := 215) (K := (20, 0, 0)) (v := .ref (ad (24, 2, 0))) o fl_X16_51 dX16_press_215 (gl_20 hR) rfl rfl ?_
          refine y_aload (pc := 218) o dX16_press_218 rfl ?_
          refine y_callF (pc := 220) (ci := 3) (k := 1) (n := 11) o (b := ad (24, 2, 0)) (As := [.ref q15]) (rest := []) (addRa (C := C) (R := (gup (gup R (14, 0, 0) b.toNatClampNeg ((R.1 (14, 0, 0) b.toNatClampNeg) + ((c * (10 - (R.1 (7, 0, a.toNatClampNeg) 3))) / 5))) (7, 0, a.toNatClampNeg) 4 ((R.1 (7, 0, a.toNatClampNeg) 4) - c))) (l := 2) (g := 0) (n := R.2 8 0) (row := (glist [a, 20 * c, 0, 20 + ((R.1 (14, 0, 0) b.toNatClampNeg) / 40), 0, 0, -1, -1, 0, 0, 0, 0])) (a := 8) rfl (gl_24_2 hR) (Or.inr rfl) rfl (hBR 2 0 (by decide)) nR_8 (fun K hK => by cases hK)) rfl lf_X16_107 dX16_press_220 (fun h hr => ⟨_, ghdr_R (R := (gup (gup R (14, 0, 0) b.toNatClampNeg ((R.1 (14, 0, 0) b.toNatClampNeg) + ((c * (10 - (R.1 (7, 0, a.toNatClampNeg) 3))) / 5))) (7, 0, a.toNatClampNeg) 4 ((R.1 (7, 0, a.toNatClampNeg) 4) - c))) (gl_24_2 hR) hr⟩) rfl rfl (Nat.le_of_ble_eq_true rfl) ⟨by decide, by decide⟩ ⟨by decide, by decide⟩ (fun _ e => e) (fun _ _ z => z) (fun v => y_and fun ev => y_ex fun ad16 => y_and fun had => y_and fun hadq => ?_)
          subst ev
          have e0 : ad16 (0, 0, 0) = ad (0, 0, 0) := had (0, 0, 0) (by simp) (by simp)
          have e20 : ad16 (20, 0, 0) = ad (20, 0, 0) := had (20, 0, 0) (by simp) (by simp)
          refine z_st (st' := [.int (1)]) rfl ?_
          rw [← e20]
          refine y_pop (pc := 225) o dX16_press_225 rfl ?_
          refine y_aload_n (pc := 226) o dX16_press_226 rfl ?_
          refine z_get (pc := 227) (K := (20, 0, 0)) (v := .ref (ad16 (24, 2, 0))) o fl_X16_51 dX16_press_227 (gl_20 (gfix_new (a := 8) (by decide) hR)) rfl rfl ?_
          refine z_callF (pc := 230) (k := 2) (n := 267) (k' := 2) (n' := 267) (ci := 3) o (b := ad16 (24, 2, 0)) (As := []) (rest := []) (sizeR (l := 2) (g := 0) (gl_24_2 (gfix_new (a := 8) (by decide) hR))) rfl lf_X16_7 dX16_press_230 (fun h hr => ⟨_, ghdr_R (R := (gnew (gup (gup R (14, 0, 0) b.toNatClampNeg ((R.1 (14, 0, 0) b.toNatClampNeg) + ((c * (10 - (R.1 (7, 0, a.toNatClampNeg) 3))) / 5))) (7, 0, a.toNatClampNeg) 4 ((R.1 (7, 0, a.toNatClampNeg) 4) - c)) (8, 0, (R.2 8 0)) ((glist [a, 20 * c, 0, 20 + ((R.1 (14, 0, 0) b.toNatClampNeg) / 40), 0, 0, -1, -1, 0, 0, 0, 0])))) (gl_24_2 (gfix_new (a := 8) (by decide) hR)) hr⟩) rfl rfl (Nat.le_of_ble_eq_true rfl) ⟨by decide, by decide⟩ ⟨rfl, rfl⟩ ⟨by decide, by decide⟩ ?_
          refine z_top (w := .int (Int32.ofNat (R.2 8 0 + 1))) (congrArg (fun z => Value.int (Int32.ofNat z)) (gnew_n _ _)) ?_
          refine y_iconst (pc := 235) (x := 1) o dX16_press_235 (by decide) ?_
          refine y_isub (pc := 236) o dX16_press_236 ?_
          exact y_iret (pc := 237) o dX16_press_237 rfl (vp_nar_int _) (by decide) (by decide) (fun h hp => gP_mk (by simp +decide only [F_press, b1, b3, b5, b7, b9, b11, gsz_f (k := 16) 16 rfl (by decide) hI.1.2.1.2.2.1 b13, gin3o, gin3p, gtc0, gtc1, gtc2, gtc3, gtc4, not_true_eq_false, not_false_eq_true, if_true, if_false, or_true, true_or, or_false, false_or, and_true, true_and, and_false, false_and, or_self, and_self, eq_self, Bool.false_eq_true, ne_eq, reduceIte]) e0 e20 hp)
        refine y_iconst (pc := 131) (x := 1) o dX16_press_131 (by decide) ?_
        refine y_goto (pc := 132) (tgt := 136) o dX16_press_132 rfl ?_
        refine y_iconst (pc := 136) (x := 4) o dX16_press_136 (by decide) ?_
        refine z_callV (pc := 137) (k := 0) (n := 0) (k' := 0) (n' := 0) o (b := ad (20, 0, 0)) (As := [.int (1), .int (4)]) (rest := []) (kFailsT hR h5 4 (by decide)) ln_X16_74 dX16_press_137 (z_rc (ci := 20) (K := (20, 0, 0)) rfl (gl_20 hR) rfl) rfl rfl (Nat.le_of_ble_eq_true rfl) ⟨by decide, by decide⟩ ⟨rfl, rfl⟩ ⟨by decide, by decide⟩ rfl gq_nox2 ?_
        refine y_if_eq (pc := 140) (tgt := 145) o dX16_press_140 rfl (fun b17 => absurd b17 (by decide)) (fun (b17 : ¬ 1 = 0) => ?_)
        refine y_iconst (pc := 143) (x := -1) o dX16_press_143 (by decide) ?_
        exact y_iret (pc := 144) o dX16_press_144 rfl (vp_nar_int _) (by decide) (by decide) (fun h hp => gP_thr (k := 4) (by simp +decide only [F_press, b1, b3, b5, b7, b9, b11, gsz_t b13, gin3o, gin3p, gtc0, gtc1, gtc2, gtc3, gtc4, not_true_eq_false, not_false_eq_true, if_true, if_false, or_true, true_or, or_false, false_or, and_true, true_and, and_false, false_and, or_self, and_self, eq_self, Bool.false_eq_true, ne_eq, reduceIte]) (by decide) hp)
      refine y_iconst (pc := 104) (x := 1) o dX16_press_104 (by decide) ?_
      refine y_goto (pc := 105) (tgt := 109) o dX16_press_105 rfl ?_
      refine y_iconst (pc := 109) (x := 3) o dX16_press_109 (by decide) ?_
      refine z_callV (pc := 110) (k := 0) (n := 0) (k' := 0) (n' := 0) o (b := ad (20, 0, 0)) (As := [.int (1), .int (3)]) (rest := []) (kFailsT hR h5 3 (by decide)) ln_X16_74 dX16_press_110 (z_rc (ci := 20) (K := (20, 0, 0)) rfl (gl_20 hR) rfl) rfl rfl (Nat.le_of_ble_eq_true rfl) ⟨by decide, by decide⟩ ⟨rfl, rfl⟩ ⟨by decide, by decide⟩ rfl gq_nox2 ?_
      refine y_if_ne (pc := 113) (tgt := 143) o dX16_press_113 rfl (fun (b18 : ¬ 1 = 0) => ?_) (fun b18 => absurd b18 (by decide))
      refine y_iconst (pc := 143) (x := -1) o dX16_press_143 (by decide) ?_
      exact y_iret (pc := 144) o dX16_press_144 rfl (vp_nar_int _) (by decide) (by decide) (fun h hp => gP_thr (k := 3) (by simp +decide only [F_press, b1, b3, b5, b7, b9, b11, gin3o, gin3p, gtc0, gtc1, gtc2, gtc3, gtc4, not_true_eq_false, not_false_eq_true, if_true, if_false, or_true, true_or, or_false, false_or, and_true, true_and, and_false, false_and, or_self, and_self, eq_self, Bool.false_eq_true, ne_eq, reduceIte]) (by decide) hp)
    refine y_iconst (pc := 46) (x := 1) o dX16_press_46 (by decide) ?_
    refine y_goto (pc := 47) (tgt := 51) o dX16_press_47 rfl ?_
    refine y_iconst (pc := 51) (x := 2) o dX16_press_51 (by decide) ?_
    refine z_callV (pc := 52) (k := 0) (n := 0) (k' := 0) (n' := 0) o (b := ad (20, 0, 0)) (As := [.int (1), .int (2)]) (rest := []) (kFailsT hR h5 2 (by decide)) ln_X16_74 dX16_press_52 (z_rc (ci := 20) (K := (20, 0, 0)) rfl (gl_20 hR) rfl) rfl rfl (Nat.le_of_ble_eq_true rfl) ⟨by decide, by decide⟩ ⟨rfl, rfl⟩ ⟨by decide, by decide⟩ rfl gq_nox2 ?_
    refine y_if_eq (pc := 55) (tgt := 60) o dX16_press_55 rfl (fun b19 => absurd b19 (by decide)) (fun (b19 : ¬ 1 = 0) => ?_)
    refine y_iconst (pc := 58) (x := -1) o dX16_press_58 (by decide) ?_
    exact y_iret (pc := 59) o dX16_press_59 rfl (vp_nar_int _) (by decide) (by decide) (fun h hp => gP_thr (k := 2) (by simp +decide only [F_press, b1, b3, b5, gin3o, gin3p, gtc0, gtc1, gtc2, gtc3, gtc4, not_true_eq_false, not_false_eq_true, if_true, if_false, or_true, true_or, or_false, false_or, and_true, true_and, and_false, false_and, or_self, and_self, eq_self, Bool.false_eq_true, ne_eq, reduceIte]) (by decide) hp)
  refine y_iconst (pc := 16) (x := 1) o dX16_press_16 (by decide) ?_
  refine y_goto (pc := 17) (tgt := 21) o dX16_press_17 rfl ?_
  refine y_iconst (pc := 21) (x := 1) o dX16_press_21 (by decide) ?_
  refine z_callV (pc := 22) (k := 0) (n := 0) (k' := 0) (n' := 0) o (b := ad (20, 0, 0)) (As := [.int (1), .int (1)]) (rest := []) (kFailsT hR h5 1 (by decide)) ln_X16_74 dX16_press_22 (z_rc (ci := 20) (K := (20, 0, 0)) rfl (gl_20 hR) rfl) rfl rfl (Nat.le_of_ble_eq_true rfl) ⟨by decide, by decide⟩ ⟨rfl, rfl⟩ ⟨by decide, by decide⟩ rfl gq_nox2 ?_
  refine y_if_ne (pc := 25) (tgt := 58) o dX16_press_25 rfl (fun (b20 : ¬ 1 = 0) => ?_) (fun b20 => absurd b20 (by decide))
  refine y_iconst (pc := 58) (x := -1) o dX16_press_58 (by decide) ?_
  exact y_iret (pc := 59) o dX16_press_59 rfl (vp_nar_int _) (by decide) (by decide) (fun h hp => gP_thr (k := 1) (by simp +decide only [F_press, b1, gin3o, gin3p, gtc0, gtc1, gtc2, gtc3, gtc4, not_true_eq_false, not_false_eq_true, if_true, if_false, or_true, true_or, or_false, false_or, and_true, true_and, and_false, false_and, or_self, and_self, eq_self, Bool.false_eq_true, ne_eq, reduceIte]) (by decide) hp)

theorem r_fire {κ : gq_K} {ad : gKey → Nat} {C Rp R : gG} {T : List (Nat × va_E)} {n : Nat} (hb : gup Rp (0, 0, 0) 5 0 = R) (hI : gI n R) (hn : n ≤ 512) (a : Int32) (b : Int32) (c : Int32) (d : Int32) : gq_C κ mX16_fire [.ref (ad (20, 0, 0)), .int (a), .int (b), .int (c), .int (d)] (gR κ ad (C, Rp) T) (gP κ ad C T (F_fire R a b c d)) (gq_no) := by
  refine gq_enter (by decide +kernel) rfl (Nat.le_of_ble_eq_true rfl) rfl (fun f o => ?_)
  have hR := hI.fix
  have hBR := hI.cnt
  have hRp : gfix Rp.2 := by rw [← hb] at hR; exact hR
  have h5 : R.1 (0, 0, 0) 5 = 0 := by rw [← hb]; exact gup_v _ _ _ _
  refine y_aload_n (pc := 0) o dX16_fire_0 rfl ?_
  refine z_callVv (pc := 1) (k := 0) (n := 0) (k' := 0) (n' := 0) o (b := ad (20, 0, 0)) (As := []) (rest := []) (kBegins hRp) ln_X16_69 dX16_fire_1 (z_rc (ci := 20) (K := (20, 0, 0)) rfl (gl_20 hRp) rfl) rfl rfl (Nat.le_of_ble_eq_true rfl) ⟨by decide, by decide⟩ ⟨rfl, rfl⟩ ⟨by decide, by decide⟩ rfl gq_nox2 ?_
  rw [hb]
  refine y_aload_n (pc := 4) o dX16_fire_4 rfl ?_
  refine y_iload_n (pc := 5) o dX16_fire_5 rfl ?_
  by_cases g1 : gix (R.2 8 0) a = true
  · refine z_callV (pc := 6) (k := 0) (n := 0) (k' := 0) (n' := 0) o (b := ad (20, 0, 0)) (As := [.int (a)]) (rest := []) (knoBatchF hR hBR h5 a g1) ln_X16_144 dX16_fire_6 (z_rc (ci := 20) (K := (20, 0, 0)) rfl (gl_20 hR) rfl) rfl rfl (Nat.le_of_ble_eq_true rfl) ⟨by decide, by decide⟩ ⟨rfl, rfl⟩ ⟨by decide, by decide⟩ rfl gq_nox2 ?_
    refine y_if_ne (pc := 9) (tgt := 62) o dX16_fire_9 rfl (fun b2 => absurd b2 (by decide)) (fun (b2 : 0 = 0) => ?_)
    refine y_aload_n (pc := 12) o dX16_fire_12 rfl ?_
    refine y_iload_n (pc := 13) o dX16_fire_13 rfl ?_
    refine y_i2l (pc := 14) o dX16_fire_14 ?_
    refine y_lconst (pc := 15) (x := 0) o dX16_fire_15 (by decide) ?_
    refine y_lconst (pc := 16) (x := 1) o dX16_fire_16 (by decide) ?_
    refine z_callS (pc := 17) (k := 0) (n := 0) (k' := 0) (n' := 0) o (As := [.long (b.toInt64), .long (0), .long (1)]) (rest := [.ref (ad (20, 0, 0))]) (kIn b 0 1) ln_X16_13 dX16_fire_17 rfl rfl (Nat.le_of_ble_eq_true rfl) ⟨by decide, by decide⟩ ⟨rfl, rfl⟩ ⟨by decide, by decide⟩ rfl gq_nox2 ?_
    refine z_beq (pc := 20) (tgt := 50) o dX16_fire_20 rfl (fun (b3 : ¬ (gin 0 b 1 = true)) => ?_) (fun (b3 : gin 0 b 1 = true) => ?_)
    · refine y_iconst (pc := 50) (x := 1) o dX16_fire_50 (by decide) ?_
      refine y_goto (pc := 51) (tgt := 55) o dX16_fire_51 rfl ?_
      refine y_iconst (pc := 55) (x := 2) o dX16_fire_55 (by decide) ?_
      refine z_callV (pc := 56) (k := 0) (n := 0) (k' := 0) (n' := 0) o (b := ad (20, 0, 0)) (As := [.int (1), .int (2)]) (rest := []) (kFailsT hR h5 2 (by decide)) ln_X16_74 dX16_fire_56 (z_rc (ci := 20) (K := (20, 0, 0)) rfl (gl_20 hR) rfl) rfl rfl (Nat.le_of_ble_eq_true rfl) ⟨by decide, by decide⟩ ⟨rfl, rfl⟩ ⟨by decide, by decide⟩ rfl gq_nox2 ?_
      refine y_if_eq (pc := 59) (tgt := 64) o dX16_fire_59 rfl (fun b4 => absurd b4 (by decide)) (fun (b4 : ¬ 1 = 0) => ?_)
      refine y_iconst (pc := 62) (x := -1) o dX16_fire_62 (by decide) ?_
      exact y_iret (pc := 63) o dX16_fire_63 rfl (vp_nar_int _) (by decide) (by decide) (fun h hp => gP_thr (k := 2) (by simp +decide only [F_fire, g1, b3, gin1o, gin1p, gclamp, gtc0, gtc1, gtc2, gtc3, gtc4, not_true_eq_false, not_false_eq_true, if_true, if_false, or_true, true_or, or_false, false_or, and_true, true_and, and_false, false_and, or_self, and_self, eq_self, Bool.false_eq_true, ne_eq, reduceIte]) (by decide) hp)
    refine y_iload_n (pc := 23) o dX16_fire_23 rfl ?_
    refine y_i2l (pc := 24) o dX16_fire_24 ?_
    refine y_ldc2 (pc := 25) o dX16_fire_25 qw_1518 ?_
    refine y_ldc2 (pc := 28) o dX16_fire_28 qw_1519 ?_
    refine z_callS (pc := 31) (k := 0) (n := 0) (k' := 0) (n' := 0) o (As := [.long (c.toInt64), .long (700), .long (1200)]) (rest := [.ref (ad (20, 0, 0))]) (kIn c 700 1200) ln_X16_13 dX16_fire_31 rfl rfl (Nat.le_of_ble_eq_true rfl) ⟨by decide, by decide⟩ ⟨rfl, rfl⟩ ⟨by decide, by decide⟩ rfl gq_nox2 ?_
    refine z_beq (pc := 34) (tgt := 50) o dX16_fire_34 rfl (fun (b5 : ¬ (gin 700 c 1200 = true)) => ?_) (fun (b5 : gin 700 c 1200 = true) => ?_)
    · refine y_iconst (pc := 50) (x := 1) o dX16_fire_50 (by decide) ?_
      refine y_goto (pc := 51) (tgt := 55) o dX16_fire_51 rfl ?_
      refine y_iconst (pc := 55) (x := 2) o dX16_fire_55 (by decide) ?_
      refine z_callV (pc := 56) (k := 0) (n := 0) (k' := 0) (n' := 0) o (b := ad (20, 0, 0)) (As := [.int (1), .int (2)]) (rest := []) (kFailsT hR h5 2 (by decide)) ln_X16_74 dX16_fire_56 (z_rc (ci := 20) (K := (20, 0, 0)) rfl (gl_20 hR) rfl) rfl rfl (Nat.le_of_ble_eq_true rfl) ⟨by decide, by decide⟩ ⟨rfl, rfl⟩ ⟨by decide, by decide⟩ rfl gq_nox2 ?_
      refine y_if_eq (pc := 59) (tgt := 64) o dX16_fire_59 rfl (fun b6 => absurd b6 (by decide)) (fun (b6 : ¬ 1 = 0) => ?_)
      refine y_iconst (pc := 62) (x := -1) o dX16_fire_62 (by decide) ?_
      exact y_iret (pc := 63) o dX16_fire_63 rfl (vp_nar_int _) (by decide) (by decide) (fun h hp => gP_thr (k := 2) (by simp +decide only [F_fire, g1, b3, b5, gin1o, gin1p, gclamp, gtc0, gtc1, gtc2, gtc3, gtc4, not_true_eq_false, not_false_eq_true, if_true, if_false, or_true, true_or, or_false, false_or, and_true, true_and, and_false, false_and, or_self, and_self, eq_self, Bool.false_eq_true, ne_eq, reduceIte]) (by decide) hp)
    refine y_iload (pc := 37) o dX16_fire_37 rfl ?_
    refine y_i2l (pc := 39) o dX16_fire_39 ?_
    refine y_lconst (pc := 40) (x := 1) o dX16_fire_40 (by decide) ?_
    refine y_ldc2 (pc := 41) o dX16_fire_41 qw_1520 ?_
    refine z_callS (pc := 44) (k := 0) (n := 0) (k' := 0) (n' := 0) o (As := [.long (d.toInt64), .long (1), .long (12)]) (rest := [.ref (ad (20, 0, 0))]) (kIn d 1 12) ln_X16_13 dX16_fire_44 rfl rfl (Nat.le_of_ble_eq_true rfl) ⟨by decide, by decide⟩ ⟨rfl, rfl⟩ ⟨by decide, by decide⟩ rfl gq_nox2 ?_
    refine z_bne (pc := 47) (tgt := 54) o dX16_fire_47 rfl (fun (b7 : gin 1 d 12 = true) => ?_) (fun (b7 : ¬ (gin 1 d 12 = true)) => ?_)
    · refine y_iconst (pc := 54) (x := 0) o dX16_fire_54 (by decide) ?_
      refine y_iconst (pc := 55) (x := 2) o dX16_fire_55 (by decide) ?_
      refine z_callV (pc := 56) (k := 0) (n := 0) (k' := 0) (n' := 0) o (b := ad (20, 0, 0)) (As := [.int (0), .int (2)]) (rest := []) (kFailsF hR h5 2) ln_X16_74 dX16_fire_56 (z_rc (ci := 20) (K := (20, 0, 0)) rfl (gl_20 hR) rfl) rfl rfl (Nat.le_of_ble_eq_true rfl) ⟨by decide, by decide⟩ ⟨rfl, rfl⟩ ⟨by decide, by decide⟩ rfl gq_nox2 ?_
      refine y_if_eq (pc := 59) (tgt := 64) o dX16_fire_59 rfl (fun (b8 : 0 = 0) => ?_) (fun b8 => absurd b8 (by rw [b2]; decide))
      refine y_aload_n (pc := 64) o dX16_fire_64 rfl ?_
      refine z_get (pc := 65) (K := (20, 0, 0)) (v := .ref (ad (24, 2, 0))) o fl_X16_51 dX16_fire_65 (gl_20 hR) rfl rfl ?_
      refine y_iload_n (pc := 68) o dX16_fire_68 rfl ?_
      refine z_callF (pc := 69) (k := 0) (n := 0) (k' := 0) (n' := 0) (ci := 3) o (b := ad (24, 2, 0)) (As := [.int (a)]) (rest := []) (getR (l := 2) (g := 0) (gl_24_2 hR) (hBR 2 0 (by decide)) g1) rfl lf_X16_114 dX16_fire_69 (fun h hr => ⟨_, ghdr_R (R := R) (gl_24_2 hR) hr⟩) rfl rfl (Nat.le_of_ble_eq_true rfl) ⟨by decide, by decide⟩ ⟨rfl, rfl⟩ ⟨by decide, by decide⟩ ?_
      refine z_cast (pc := 74) (ci := 16) (K := (28, 0, a.toNatClampNeg)) o rfl qw_1452 dX16_fire_74 (gl_28 (gix_lt (Nat.le_trans (hBR 2 0 (by decide)) (by decide)) g1)) rfl ?_
      refine y_astore (pc := 77) (i := 5) (lv' := [(5, .ref (ad (28, 0, a.toNatClampNeg))), (0, .ref (ad (20, 0, 0))), (1, .int (a)), (2, .int (b)), (3, .int (c)), (4, .int (d))]) o dX16_fire_77 (by decide) rfl ?_
      refine y_aload_n (pc := 79) o dX16_fire_79 rfl ?_
      refine y_aload (pc := 80) o dX16_fire_80 rfl ?_
      refine z_get (pc := 82) (K := (28, 0, a.toNatClampNeg)) (v := .int (R.1 (8, 0, a.toNatClampNeg) 5)) o fl_X16_149 dX16_fire_82 (gl_28 (gix_lt (Nat.le_trans (hBR 2 0 (by decide)) (by decide)) g1)) rfl rfl ?_
      refine y_if_eq (pc := 85) (tgt := 122) o dX16_fire_85 rfl (fun (b9 : (R.1 (8, 0, a.toNatClampNeg) 5) = 0) => ?_) (fun (b9 : ¬ (R.1 (8, 0, a.toNatClampNeg) 5) = 0) => ?_)
      · refine y_iconst (pc := 122) (x := 1) o dX16_fire_122 (by decide) ?_
        refine y_goto (pc := 123) (tgt := 127) o dX16_fire_123 rfl ?_
        refine y_iconst (pc := 127) (x := 3) o dX16_fire_127 (by decide) ?_
        refine z_callV (pc := 128) (k := 0) (n := 0) (k' := 0) (n' := 0) o (b := ad (20, 0, 0)) (As := [.int (1), .int (3)]) (rest := []) (kFailsT hR h5 3 (by decide)) ln_X16_74 dX16_fire_128 (z_rc (ci := 20) (K := (20, 0, 0)) rfl (gl_20 hR) rfl) rfl rfl (Nat.le_of_ble_eq_true rfl) ⟨by decide, by decide⟩ ⟨rfl, rfl⟩ ⟨by decide, by decide⟩ rfl gq_nox2 ?_
        refine y_if_eq (pc := 131) (tgt := 136) o dX16_fire_131 rfl (fun b10 => absurd b10 (by decide)) (fun (b10 : ¬ 1 = 0) => ?_)
        refine y_iconst (pc := 134) (x := -1) o dX16_fire_134 (by decide) ?_
        exact y_iret (pc := 135) o dX16_fire_135 rfl (vp_nar_int _) (by decide) (by decide) (fun h hp => gP_thr (k := 3) (by simp +decide only [F_fire, g1, b3, b5, b7, b9, gin1o, gin1p, gclamp, gtc0, gtc1, gtc2, gtc3, gtc4, not_true_eq_false, not_false_eq_true, if_true, if_false, or_true, true_or, or_false, false_or, and_true, true_and, and_false, false_and, or_self, and_self, eq_self, Bool.false_eq_true, ne_eq, reduceIte]) (by decide) hp)
      refine y_aload_n (pc := 88) o dX16_fire_88 rfl ?_
      refine z_get (pc := 89) (K := (20, 0, 0)) (v := .int (R.1 (0, 0, 0) 0)) o fl_X16_78 dX16_fire_89 (gl_20 hR) rfl rfl ?_
      refine y_aload (pc := 92) o dX16_fire_92 rfl ?_
      refine z_get (pc := 94) (K := (28, 0, a.toNatClampNeg)) (v := .int (R.1 (8, 0, a.toNatClampNeg) 4)) o fl_X16_152 dX16_fire_94 (gl_28 (gix_lt (Nat.le_trans (hBR 2 0 (by decide)) (by decide)) g1)) rfl rfl ?_
      refine y_icmp_lt (pc := 97) (tgt := 122) o dX16_fire_97 rfl (fun (b11 : (R.1 (0, 0, 0) 0) < (R.1 (8, 0, a.toNatClampNeg) 4)) => ?_) (fun (b11 : ¬ (R.1 (0, 0, 0) 0) < (R.1 (8, 0, a.toNatClampNeg) 4)) => ?_)
      · refine y_iconst (pc := 122) (x := 1) o dX16_fire_122 (by decide) ?_
        refine y_goto (pc := 123) (tgt := 127) o dX16_fire_123 rfl ?_
        refine y_iconst (pc := 127) (x := 3) o dX16_fire_127 (by decide) ?_
        refine z_callV (pc := 128) (k := 0) (n := 0) (k' := 0) (n' := 0) o (b := ad (20, 0, 0)) (As := [.int (1), .int (3)]) (rest := []) (kFailsT hR h5 3 (by decide)) ln_X16_74 dX16_fire_128 (z_rc (ci := 20) (K := (20, 0, 0)) rfl (gl_20 hR) rfl) rfl rfl (Nat.le_of_ble_eq_true rfl) ⟨by decide, by decide⟩ ⟨rfl, rfl⟩ ⟨by decide, by decide⟩ rfl gq_nox2 ?_
        refine y_if_eq (pc := 131) (tgt := 136) o dX16_fire_131 rfl (fun b12 => absurd b12 (by decide)) (fun (b12 : ¬ 1 = 0) => ?_)
        refine y_iconst (pc := 134) (x := -1) o dX16_fire_134 (by decide) ?_
        exact y_iret (pc := 135) o dX16_fire_135 rfl (vp_nar_int _) (by decide) (by decide) (fun h hp => gP_thr (k := 3) (by simp +decide only [F_fire, g1, b3, b5, b7, b9, b11, gin1o, gin1p, gclamp, gtc0, gtc1, gtc2, gtc3, gtc4, not_true_eq_false, not_false_eq_true, if_true, if_false, or_true, true_or, or_false, false_or, and_true, true_and, and_false, false_and, or_self, and_self, eq_self, Bool.false_eq_true, ne_eq, reduceIte]) (by decide) hp)
      refine y_aload (pc := 100) o dX16_fire_100 rfl ?_
      refine z_get (pc := 102) (K := (28, 0, a.toNatClampNeg)) (v := .int (R.1 (8, 0, a.toNatClampNeg) 6)) o fl_X16_168 dX16_fire_102 (gl_28 (gix_lt (Nat.le_trans (hBR 2 0 (by decide)) (by decide)) g1)) rfl rfl ?_
      refine y_iconst (pc := 105) (x := -1) o dX16_fire_105 (by decide) ?_
      refine y_icmp_ne (pc := 106) (tgt := 122) o dX16_fire_106 rfl (fun (b13 : ¬ (R.1 (8, 0, a.toNatClampNeg) 6) = (-1)) => ?_) (fun (b13 : (R.1 (8, 0, a.toNatClampNeg) 6) = (-1)) => ?_)
      · refine y_iconst (pc := 122) (x := 1) o dX16_fire_122 (by decide) ?_
        refine y_goto (pc := 123) (tgt := 127) o dX16_fire_123 rfl ?_
        refine y_iconst (pc := 127) (x := 3) o dX16_fire_127 (by decide) ?_
        refine z_callV (pc := 128) (k := 0) (n := 0) (k' := 0) (n' := 0) o (b := ad (20, 0, 0)) (As := [.int (1), .int (3)]) (rest := []) (kFailsT hR h5 3 (by decide)) ln_X16_74 dX16_fire_128 (z_rc (ci := 20) (K := (20, 0, 0)) rfl (gl_20 hR) rfl) rfl rfl (Nat.le_of_ble_eq_true rfl) ⟨by decide, by decide⟩ ⟨rfl, rfl⟩ ⟨by decide, by decide⟩ rfl gq_nox2 ?_
        refine y_if_eq (pc := 131) (tgt := 136) o dX16_fire_131 rfl (fun b14 => absurd b14 (by decide)) (fun (b14 : ¬ 1 = 0) => ?_)
        refine y_iconst (pc := 134) (x := -1) o dX16_fire_134 (by decide) ?_
        exact y_iret (pc := 135) o dX16_fire_135 rfl (vp_nar_int _) (by decide) (by decide) (fun h hp => gP_thr (k := 3) (by simp +decide only [F_fire, g1, b3, b5, b7, b9, b11, gm1_f (hI.2.2.2.2.1 _ (gix_lt (Nat.le_trans (hBR 2 0 (by decide)) (by decide)) g1)).2.2.1 b13, gin1o, gin1p, gclamp, gtc0, gtc1, gtc2, gtc3, gtc4, not_true_eq_false, not_false_eq_true, if_true, if_false, or_true, true_or, or_false, false_or, and_true, true_and, and_false, false_and, or_self, and_self, eq_self, Bool.false_eq_true, ne_eq, reduceIte]) (by decide) hp)
      refine y_aload_n (pc := 109) o dX16_fire_109 rfl ?_
      refine z_get (pc := 110) (K := (20, 0, 0)) (v := .int (R.1 (0, 0, 0) 0)) o fl_X16_78 dX16_fire_110 (gl_20 hR) rfl rfl ?_
      refine y_aload_n (pc := 113) o dX16_fire_113 rfl ?_
      refine z_get (pc := 114) (K := (20, 0, 0)) (v := .ref (ad (35, 0, 0))) o fl_X16_48 dX16_fire_114 (gl_20 hR) rfl rfl ?_
      refine y_iload_n (pc := 117) o dX16_fire_117 rfl ?_
      refine z_iald (pc := 118) (K := (35, 0, 0)) (i := b) (v := R.1 (15, 0, 0) b.toNatClampNeg) o dX16_fire_118 (gl_35 hR) rfl (gin2g b3) (if_pos (gin_lt (gin2g b3))) ?_
      refine z_icmp_ge (pc := 119) (tgt := 126) o dX16_fire_119 rfl (fun (b15 : ¬ (R.1 (0, 0, 0) 0) < (R.1 (15, 0, 0) b.toNatClampNeg)) => ?_) (fun (b15 : (R.1 (0, 0, 0) 0) < (R.1 (15, 0, 0) b.toNatClampNeg)) => ?_)
      · refine y_iconst (pc := 126) (x := 0) o dX16_fire_126 (by decide) ?_
        refine y_iconst (pc := 127) (x := 3) o dX16_fire_127 (by decide) ?_
        refine z_callV (pc := 128) (k := 0) (n := 0) (k' := 0) (n' := 0) o (b := ad (20, 0, 0)) (As := [.int (0), .int (3)]) (rest := []) (kFailsF hR h5 3) ln_X16_74 dX16_fire_128 (z_rc (ci := 20) (K := (20, 0, 0)) rfl (gl_20 hR) rfl) rfl rfl (Nat.le_of_ble_eq_true rfl) ⟨by decide, by decide⟩ ⟨rfl, rfl⟩ ⟨by decide, by decide⟩ rfl gq_nox2 ?_
        refine y_if_eq (pc := 131) (tgt := 136) o dX16_fire_131 rfl (fun (b16 : 0 = 0) => ?_) (fun b16 => absurd b16 (by rw [b2]; decide))
        refine y_aload_n (pc := 136) o dX16_fire_136 rfl ?_
        refine z_get (pc := 137) (K := (20, 0, 0)) (v := .ref (ad (24, 1, 0))) o fl_X16_42 dX16_fire_137 (gl_20 hR) rfl rfl ?_
        refine y_aload (pc := 140) o dX16_fire_140 rfl ?_
        refine z_get (pc := 142) (K := (28, 0, a.toNatClampNeg)) (v := .int (R.1 (8, 0, a.toNatClampNeg) 0)) o fl_X16_135 dX16_fire_142 (gl_28 (gix_lt (Nat.le_trans (hBR 2 0 (by decide)) (by decide)) g1)) rfl rfl ?_
        refine z_callF (pc := 145) (k := 0) (n := 0) (k' := 0) (n' := 0) (ci := 3) o (b := ad (24, 1, 0)) (As := [.int (R.1 (8, 0, a.toNatClampNeg) 0)]) (rest := []) (getR (l := 1) (g := 0) (gl_24_1 hR) (hBR 1 0 (by decide)) (hI.2.2.2.2.1 _ (gix_lt (Nat.le_trans (hBR 2 0 (by decide)) (by decide)) g1)).1) rfl lf_X16_114 dX16_fire_145 (fun h hr => ⟨_, ghdr_R (R := R) (gl_24_1 hR) hr⟩) rfl rfl (Nat.le_of_ble_eq_true rfl) ⟨by decide, by decide⟩ ⟨rfl, rfl⟩ ⟨by decide, by decide⟩ ?_
        refine z_castI (pc := 150) (K := (27, 0, (R.1 (8, 0, a.toNatClampNeg) 0).toNatClampNeg)) (N := 5) o qw_1435 dX16_fire_150 (gl_27 (gix_lt (Nat.le_trans (hBR 1 0 (by decide)) (by decide)) (hI.2.2.2.2.1 _ (gix_lt (Nat.le_trans (hBR 2 0 (by decide)) (by decide)) g1)).1)) rfl ?_
        refine y_iconst (pc := 153) (x := 2) o dX16_fire_153 (by decide) ?_
        refine z_iald (pc := 154) (K := (27, 0, (R.1 (8, 0, a.toNatClampNeg) 0).toNatClampNeg)) (i := 2) (v := R.1 (7, 0, (R.1 (8, 0, a.toNatClampNeg) 0).toNatClampNeg) 2) o dX16_fire_154 (gl_27 (gix_lt (Nat.le_trans (hBR 1 0 (by decide)) (by decide)) (hI.2.2.2.2.1 _ (gix_lt (Nat.le_trans (hBR 2 0 (by decide)) (by decide)) g1)).1)) rfl (by unfold vp_in; decide) rfl ?_
        refine y_istore (pc := 155) (i := 6) (lv' := [(6, .int (R.1 (7, 0, (R.1 (8, 0, a.toNatClampNeg) 0).toNatClampNeg) 2)), (5, .ref (ad (28, 0, a.toNatClampNeg))), (0, .ref (ad (20, 0, 0))), (1, .int (a)), (2, .int (b)), (3, .int (c)), (4, .int (d))]) o dX16_fire_155 (by decide) rfl ?_
        refine y_aload (pc := 157) o dX16_fire_157 rfl ?_
        refine y_aload_n (pc := 159) o dX16_fire_159 rfl ?_
        refine z_get (pc := 160) (K := (20, 0, 0)) (v := .int (R.1 (0, 0, 0) 1)) o fl_X16_171 dX16_fire_160 (gl_20 hR) rfl rfl ?_
        refine z_putR (pc := 163) (K := (28, 0, a.toNatClampNeg)) (fd := 6) (x := R.1 (0, 0, 0) 1) (B := (8, 0, a.toNatClampNeg)) o fw_X16_168 dX16_fire_163 (gl_28 (gix_lt (Nat.le_trans (hBR 2 0 (by decide)) (by decide)) g1)) (show 24 ≤ (28:Nat) by decide) rfl rfl (Nat.le_of_ble_eq_true rfl) (vp_nar_int _) rfl rfl pR_28_6 ?_
        refine y_aload_n (pc := 166) o dX16_fire_166 rfl ?_
        refine y_dup (pc := 167) o dX16_fire_167 rfl ?_
        refine z_get (pc := 168) (K := (20, 0, 0)) (v := .int ((gup R (8, 0, a.toNatClampNeg) 6 (R.1 (0, 0, 0) 1)).1 (0, 0, 0) 1)) o fl_X16_171 dX16_fire_168 (gl_20 hR) rfl rfl ?_
        refine z_top (congrArg Value.int (gup_ff _ (show (1:Nat) ≠ 6 by decide))) ?_
        refine y_iconst (pc := 171) (x := 1) o dX16_fire_171 (by decide) ?_
        refine y_iadd (pc := 172) o dX16_fire_172 ?_
        refine z_put20 (pc := 173) (b := 0) (fd := 1) (x := (R.1 (0, 0, 0) 1) + 1) o fw_X16_171 dX16_fire_173 (gfix_0 hR) (gl_20 hR) (by decide) rfl (Nat.le_of_ble_eq_true rfl) (vp_nar_int _) rfl rfl p20_14 ?_
        refine y_aload (pc := 176) o dX16_fire_176 rfl ?_
        refine y_iload_n (pc := 178) o dX16_fire_178 rfl ?_
        refine z_putR (pc := 179) (K := (28, 0, a.toNatClampNeg)) (fd := 11) (x := b) (B := (8, 0, a.toNatClampNeg)) o fw_X16_174 dX16_fire_179 (gl_28 (gix_lt (Nat.le_trans (hBR 2 0 (by decide)) (by decide)) g1)) (show 24 ≤ (28:Nat) by decide) rfl rfl (Nat.le_of_ble_eq_true rfl) (vp_nar_int _) rfl rfl pR_28_7 ?_
        refine y_aload (pc := 182) o dX16_fire_182 rfl ?_
        refine y_aload_n (pc := 184) o dX16_fire_184 rfl ?_
        refine z_get (pc := 185) (K := (20, 0, 0)) (v := .int ((gup (gup (gup R (8, 0, a.toNatClampNeg) 6 (R.1 (0, 0, 0) 1)) (0, 0, 0) 1 ((R.1 (0, 0, 0) 1) + 1)) (8, 0, a.toNatClampNeg) 11 b).1 (0, 0, 0) 0)) o fl_X16_78 dX16_fire_185 (gl_20 hR) rfl rfl ?_
        refine z_top (congrArg Value.int (Eq.trans (gup_ff _ (show (0:Nat) ≠ 11 by decide)) (Eq.trans (gup_vf _ (show (0:Nat) ≠ 1 by decide)) (gup_ff _ (show (0:Nat) ≠ 6 by decide))))) ?_
        refine y_iload (pc := 188) o dX16_fire_188 rfl ?_
        refine y_iadd (pc := 190) o dX16_fire_190 ?_
        refine z_putR (pc := 191) (K := (28, 0, a.toNatClampNeg)) (fd := 4) (x := (R.1 (0, 0, 0) 0) + d) (B := (8, 0, a.toNatClampNeg)) o fw_X16_152 dX16_fire_191 (gl_28 (gix_lt (Nat.le_trans (hBR 2 0 (by decide)) (by decide)) g1)) (show 24 ≤ (28:Nat) by decide) rfl rfl (Nat.le_of_ble_eq_true rfl) (vp_nar_int _) rfl rfl pR_28_4 ?_
        refine y_aload_n (pc := 194) o dX16_fire_194 rfl ?_
        refine z_get (pc := 195) (K := (20, 0, 0)) (v := .ref (ad (35, 0, 0))) o fl_X16_48 dX16_fire_195 (gl_20 hR) rfl rfl ?_
        refine y_iload_n (pc := 198) o dX16_fire_198 rfl ?_
        refine y_aload (pc := 199) o dX16_fire_199 rfl ?_
        refine z_get (pc := 201) (K := (28, 0, a.toNatClampNeg)) (v := .int ((gup (gup (gup (gup R (8, 0, a.toNatClampNeg) 6 (R.1 (0, 0, 0) 1)) (0, 0, 0) 1 ((R.1 (0, 0, 0) 1) + 1)) (8, 0, a.toNatClampNeg) 11 b) (8, 0, a.toNatClampNeg) 4 ((R.1 (0, 0, 0) 0) + d)).1 (8, 0, a.toNatClampNeg) 4)) o fl_X16_152 dX16_fire_201 (gl_28 (gix_lt (Nat.le_trans (hBR 2 0 (by decide)) (by decide)) g1)) rfl rfl ?_
        refine z_top (congrArg Value.int (gup_v _ _ _ _)) ?_
        refine z_iastR (pc := 204) (K := (35, 0, 0)) (i := b) (x := (R.1 (0, 0, 0) 0) + d) (B := (15, 0, 0)) o dX16_fire_204 (gl_35 hR) (show 24 ≤ (35:Nat) by decide) rfl (fun _ => rfl) (gin2g b3) ?_
        refine y_aload (pc := 205) o dX16_fire_205 rfl ?_
        refine y_sipush (pc := 207) (x := 1000) o dX16_fire_207 (by decide) ?_
        refine y_iload (pc := 210) o dX16_fire_210 rfl ?_
        refine y_isub (pc := 212) o dX16_fire_212 ?_
        refine y_iload_n (pc := 213) o dX16_fire_213 rfl ?_
        refine y_sipush (pc := 214) (x := 600) o dX16_fire_214 (by decide) ?_
        refine y_isub (pc := 217) o dX16_fire_217 ?_
        refine y_imul (pc := 218) o dX16_fire_218 ?_
        refine y_sipush (pc := 219) (x := 1000) o dX16_fire_219 (by decide) ?_
        refine y_idiv (pc := 222) o dX16_fire_222 (by decide) ?_
        refine y_bipush (pc := 223) (x := 20) o dX16_fire_223 (by decide) ?_
        refine y_aload_n (pc := 225) o dX16_fire_225 rfl ?_
        refine y_aload (pc := 226) o dX16_fire_226 rfl ?_
        have f17 : (gup (gup (gup (gup (gup R (8, 0, a.toNatClampNeg) 6 (R.1 (0, 0, 0) 1)) (0, 0, 0) 1 ((R.1 (0, 0, 0) 1) + 1)) (8, 0, a.toNatClampNeg) 11 b) (8, 0, a.toNatClampNeg) 4 ((R.1 (0, 0, 0) 0) + d)) (15, 0, 0) b.toNatClampNeg ((R.1 (0, 0, 0) 0) + d)).1 (8, 0, a.toNatClampNeg) 0 = R.1 (8, 0, a.toNatClampNeg) 0 := (Eq.trans (gup_vc _ (show (8:Nat) ≠ 15 by decide)) (Eq.trans (gup_vf _ (show (0:Nat) ≠ 4 by decide)) (Eq.trans (gup_vf _ (show (0:Nat) ≠ 11 by decide)) (Eq.trans (gup_ff _ (show (0:Nat) ≠ 1 by decide)) (gup_vf _ (show (0:Nat) ≠ 6 by decide))))))
        refine z_callV (pc := 228) (k := 0) (n := 0) (k' := 0) (n' := 0) o (b := ad (20, 0, 0)) (As := [.ref (ad (28, 0, a.toNatClampNeg))]) (rest := [.int (20), .int (((1000 - (R.1 (7, 0, (R.1 (8, 0, a.toNatClampNeg) 0).toNatClampNeg) 2)) * (c - 600)) / 1000), .ref (ad (28, 0, a.toNatClampNeg))]) (kFine (R := (gup (gup (gup (gup (gup R (8, 0, a.toNatClampNeg) 6 (R.1 (0, 0, 0) 1)) (0, 0, 0) 1 ((R.1 (0, 0, 0) 1) + 1)) (8, 0, a.toNatClampNeg) 11 b) (8, 0, a.toNatClampNeg) 4 ((R.1 (0, 0, 0) 0) + d)) (15, 0, 0) b.toNatClampNeg ((R.1 (0, 0, 0) 0) + d))) hR hBR a.toNatClampNeg (gix_lt (Nat.le_trans (hBR 2 0 (by decide)) (by decide)) g1) (by rw [f17]; exact (hI.2.2.2.2.1 _ (gix_lt (Nat.le_trans (hBR 2 0 (by decide)) (by decide)) g1)).1)) ln_X16_155 dX16_fire_228 (z_rc (ci := 20) (K := (20, 0, 0)) rfl (gl_20 hR) rfl) rfl rfl (Nat.le_of_ble_eq_true rfl) ⟨by decide, by decide⟩ ⟨rfl, rfl⟩ ⟨by decide, by decide⟩ rfl gq_nox2 ?_
        rw [f17]
        refine z_top (congrArg Value.int (Eq.trans (gup_vc _ (show (7:Nat) ≠ 15 by decide)) (Eq.trans (gup_ff _ (show (3:Nat) ≠ 4 by decide)) (Eq.trans (gup_ff _ (show (3:Nat) ≠ 11 by decide)) (Eq.trans (gup_ff _ (show (3:Nat) ≠ 1 by decide)) (gup_ff _ (show (3:Nat) ≠ 6 by decide))))))) ?_
        refine y_imul (pc := 231) o dX16_fire_231 ?_
        refine y_iadd (pc := 232) o dX16_fire_232 ?_
        refine y_iconst (pc := 233) (x := 5) o dX16_fire_233 (by decide) ?_
        refine y_iload (pc := 234) o dX16_fire_234 rfl ?_
        refine y_imul (pc := 236) o dX16_fire_236 ?_
        refine y_iadd (pc := 237) o dX16_fire_237 ?_
        refine z_putR (pc := 238) (K := (28, 0, a.toNatClampNeg)) (fd := 9) (x := ((((1000 - (R.1 (7, 0, (R.1 (8, 0, a.toNatClampNeg) 0).toNatClampNeg) 2)) * (c - 600)) / 1000) + (20 * (R.1 (7, 0, (R.1 (8, 0, a.toNatClampNeg) 0).toNatClampNeg) 3))) + (5 * d)) (B := (8, 0, a.toNatClampNeg)) o fw_X16_177 dX16_fire_238 (gl_28 (gix_lt (Nat.le_trans (hBR 2 0 (by decide)) (by decide)) g1)) (show 24 ≤ (28:Nat) by decide) rfl rfl (Nat.le_of_ble_eq_true rfl) (vp_nar_int _) rfl rfl pR_28_9 ?_
        refine y_aload (pc := 241) o dX16_fire_241 rfl ?_
        refine y_iconst (pc := 243) (x := 0) o dX16_fire_243 (by decide) ?_
        refine y_sipush (pc := 244) (x := 999) o dX16_fire_244 (by decide) ?_
        refine y_iload (pc := 247) o dX16_fire_247 rfl ?_
        refine y_iload_n (pc := 249) o dX16_fire_249 rfl ?_
        refine y_sipush (pc := 250) (x := 700) o dX16_fire_250 (by decide) ?_
        refine y_isub (pc := 253) o dX16_fire_253 ?_
        refine y_bipush (pc := 254) (x := 10) o dX16_fire_254 (by decide) ?_
        refine y_idiv (pc := 256) o dX16_fire_256 (by decide) ?_
        refine y_isub (pc := 257) o dX16_fire_257 ?_
        refine y_iconst (pc := 258) (x := 5) o dX16_fire_258 (by decide) ?_
        refine y_aload_n (pc := 259) o dX16_fire_259 rfl ?_
        refine y_aload (pc := 260) o dX16_fire_260 rfl ?_
        have f18 : (gup (gup (gup (gup (gup (gup R (8, 0, a.toNatClampNeg) 6 (R.1 (0, 0, 0) 1)) (0, 0, 0) 1 ((R.1 (0, 0, 0) 1) + 1)) (8, 0, a.toNatClampNeg) 11 b) (8, 0, a.toNatClampNeg) 4 ((R.1 (0, 0, 0) 0) + d)) (15, 0, 0) b.toNatClampNeg ((R.1 (0, 0, 0) 0) + d)) (8, 0, a.toNatClampNeg) 9 (((((1000 - (R.1 (7, 0, (R.1 (8, 0, a.toNatClampNeg) 0).toNatClampNeg) 2)) * (c - 600)) / 1000) + (20 * (R.1 (7, 0, (R.1 (8, 0, a.toNatClampNeg) 0).toNatClampNeg) 3))) + (5 * d))).1 (8, 0, a.toNatClampNeg) 0 = R.1 (8, 0, a.toNatClampNeg) 0 := (Eq.trans (gup_vf _ (show (0:Nat) ≠ 9 by decide)) (Eq.trans (gup_vc _ (show (8:Nat) ≠ 15 by decide)) (Eq.trans (gup_vf _ (show (0:Nat) ≠ 4 by decide)) (Eq.trans (gup_vf _ (show (0:Nat) ≠ 11 by decide)) (Eq.trans (gup_ff _ (show (0:Nat) ≠ 1 by decide)) (gup_vf _ (show (0:Nat) ≠ 6 by decide)))))))
        refine z_callV (pc := 262) (k := 0) (n := 0) (k' := 0) (n' := 0) o (b := ad (20, 0, 0)) (As := [.ref (ad (28, 0, a.toNatClampNeg))]) (rest := [.int (5), .int ((R.1 (7, 0, (R.1 (8, 0, a.toNatClampNeg) 0).toNatClampNeg) 2) - ((c - 700) / 10)), .int (999), .int (0), .ref (ad (28, 0, a.toNatClampNeg))]) (kFine (R := (gup (gup (gup (gup (gup (gup R (8, 0, a.toNatClampNeg) 6 (R.1 (0, 0, 0) 1)) (0, 0, 0) 1 ((R.1 (0, 0, 0) 1) + 1)) (8, 0, a.toNatClampNeg) 11 b) (8, 0, a.toNatClampNeg) 4 ((R.1 (0, 0, 0) 0) + d)) (15, 0, 0) b.toNatClampNeg ((R.1 (0, 0, 0) 0) + d)) (8, 0, a.toNatClampNeg) 9 (((((1000 - (R.1 (7, 0, (R.1 (8, 0, a.toNatClampNeg) 0).toNatClampNeg) 2)) * (c - 600)) / 1000) + (20 * (R.1 (7, 0, (R.1 (8, 0, a.toNatClampNeg) 0).toNatClampNeg) 3))) + (5 * d)))) hR hBR a.toNatClampNeg (gix_lt (Nat.le_trans (hBR 2 0 (by decide)) (by decide)) g1) (by rw [f18]; exact (hI.2.2.2.2.1 _ (gix_lt (Nat.le_trans (hBR 2 0 (by decide)) (by decide)) g1)).1)) ln_X16_155 dX16_fire_262 (z_rc (ci := 20) (K := (20, 0, 0)) rfl (gl_20 hR) rfl) rfl rfl (Nat.le_of_ble_eq_true rfl) ⟨by decide, by decide⟩ ⟨rfl, rfl⟩ ⟨by decide, by decide⟩ rfl gq_nox2 ?_
        rw [f18]
        refine z_top (congrArg Value.int (Eq.trans (gup_ff _ (show (3:Nat) ≠ 9 by decide)) (Eq.trans (gup_vc _ (show (7:Nat) ≠ 15 by decide)) (Eq.trans (gup_ff _ (show (3:Nat) ≠ 4 by decide)) (Eq.trans (gup_ff _ (show (3:Nat) ≠ 11 by decide)) (Eq.trans (gup_ff _ (show (3:Nat) ≠ 1 by decide)) (gup_ff _ (show (3:Nat) ≠ 6 by decide)))))))) ?_
        refine y_imul (pc := 265) o dX16_fire_265 ?_
        refine y_iadd (pc := 266) o dX16_fire_266 ?_
        refine y_mmin (pc := 267) o qw_1440 dX16_fire_267 ⟨by decide, Nat.le_of_ble_eq_true rfl⟩ (by decide) (by decide) ?_
        refine y_mmax (pc := 270) o qw_1441 dX16_fire_270 ⟨by decide, Nat.le_of_ble_eq_true rfl⟩ (by decide) (by decide) ?_
        refine z_putR (pc := 273) (K := (28, 0, a.toNatClampNeg)) (fd := 10) (x := gmax 0 (gmin 999 (((R.1 (7, 0, (R.1 (8, 0, a.toNatClampNeg) 0).toNatClampNeg) 2) - ((c - 700) / 10)) + (5 * (R.1 (7, 0, (R.1 (8, 0, a.toNatClampNeg) 0).toNatClampNeg) 3))))) (B := (8, 0, a.toNatClampNeg)) o fw_X16_180 dX16_fire_273 (gl_28 (gix_lt (Nat.le_trans (hBR 2 0 (by decide)) (by decide)) g1)) (show 24 ≤ (28:Nat) by decide) rfl rfl (Nat.le_of_ble_eq_true rfl) (vp_nar_int _) rfl rfl pR_28_10 ?_
        refine y_aload (pc := 276) o dX16_fire_276 rfl ?_
        refine z_get (pc := 278) (K := (28, 0, a.toNatClampNeg)) (v := .int ((gup (gup (gup (gup (gup (gup (gup R (8, 0, a.toNatClampNeg) 6 (R.1 (0, 0, 0) 1)) (0, 0, 0) 1 ((R.1 (0, 0, 0) 1) + 1)) (8, 0, a.toNatClampNeg) 11 b) (8, 0, a.toNatClampNeg) 4 ((R.1 (0, 0, 0) 0) + d)) (15, 0, 0) b.toNatClampNeg ((R.1 (0, 0, 0) 0) + d)) (8, 0, a.toNatClampNeg) 9 (((((1000 - (R.1 (7, 0, (R.1 (8, 0, a.toNatClampNeg) 0).toNatClampNeg) 2)) * (c - 600)) / 1000) + (20 * (R.1 (7, 0, (R.1 (8, 0, a.toNatClampNeg) 0).toNatClampNeg) 3))) + (5 * d))) (8, 0, a.toNatClampNeg) 10 (gmax 0 (gmin 999 (((R.1 (7, 0, (R.1 (8, 0, a.toNatClampNeg) 0).toNatClampNeg) 2) - ((c - 700) / 10)) + (5 * (R.1 (7, 0, (R.1 (8, 0, a.toNatClampNeg) 0).toNatClampNeg) 3)))))).1 (8, 0, a.toNatClampNeg) 6)) o fl_X16_168 dX16_fire_278 (gl_28 (gix_lt (Nat.le_trans (hBR 2 0 (by decide)) (by decide)) g1)) rfl rfl ?_
        refine z_top (congrArg Value.int (Eq.trans (gup_vf _ (show (6:Nat) ≠ 10 by decide)) (Eq.trans (gup_vf _ (show (6:Nat) ≠ 9 by decide)) (Eq.trans (gup_vc _ (show (8:Nat) ≠ 15 by decide)) (Eq.trans (gup_vf _ (show (6:Nat) ≠ 4 by decide)) (Eq.trans (gup_vf _ (show (6:Nat) ≠ 11 by decide)) (Eq.trans (gup_ff _ (show (6:Nat) ≠ 1 by decide)) (gup_v _ _ _ _)))))))) ?_
        exact y_iret (pc := 281) o dX16_fire_281 rfl (vp_nar_int _) (by decide) (by decide) (fun h hp => gP_mk (by simp +decide only [F_fire, g1, b3, b5, b7, b9, b11, gm1_t b13, b15, gin1o, gin1p, gclamp, gtc0, gtc1, gtc2, gtc3, gtc4, not_true_eq_false, not_false_eq_true, if_true, if_false, or_true, true_or, or_false, false_or, and_true, true_and, and_false, false_and, or_self, and_self, eq_self, Bool.false_eq_true, ne_eq, reduceIte]; exact congrArg (fun z => ((0 : Int32), R.1 (0, 0, 0) 1, z)) (gfire_eq _ _ _ _ _ _ _ _ _ _ _)) rfl rfl (hp.ghostR1 (8, 0, a.toNatClampNeg) 7 b (Nat.le_of_ble_eq_true rfl) (fun _ _ _ => rfl)))
      refine y_iconst (pc := 122) (x := 1) o dX16_fire_122 (by decide) ?_
      refine y_goto (pc := 123) (tgt := 127) o dX16_fire_123 rfl ?_
      refine y_iconst (pc := 127) (x := 3) o dX16_fire_127 (by decide) ?_
      refine z_callV (pc := 128) (k := 0) (n := 0) (k' := 0) (n' := 0) o (b := ad (20, 0, 0)) (As := [.int (1), .int (3)]) (rest := []) (kFailsT hR h5 3 (by decide)) ln_X16_74 dX16_fire_128 (z_rc (ci := 20) (K := (20, 0, 0)) rfl (gl_20 hR) rfl) rfl rfl (Nat.le_of_ble_eq_true rfl) ⟨by decide, by decide⟩ ⟨rfl, rfl⟩ ⟨by decide, by decide⟩ rfl gq_nox2 ?_
      refine y_if_eq (pc := 131) (tgt := 136) o dX16_fire_131 rfl (fun b19 => absurd b19 (by decide)) (fun (b19 : ¬ 1 = 0) => ?_)
      refine y_iconst (pc := 134) (x := -1) o dX16_fire_134 (by decide) ?_
      exact y_iret (pc := 135) o dX16_fire_135 rfl (vp_nar_int _) (by decide) (by decide) (fun h hp => gP_thr (k := 3) (by simp +decide only [F_fire, g1, b3, b5, b7, b9, b11, gm1_t b13, b15, gin1o, gin1p, gclamp, gtc0, gtc1, gtc2, gtc3, gtc4, not_true_eq_false, not_false_eq_true, if_true, if_false, or_true, true_or, or_false, false_or, and_true, true_and, and_false, false_and, or_self, and_self, eq_self, Bool.false_eq_true, ne_eq, reduceIte]) (by decide) hp)
    refine y_iconst (pc := 50) (x := 1) o dX16_fire_50 (by decide) ?_
    refine y_goto (pc := 51) (tgt := 55) o dX16_fire_51 rfl ?_
    refine y_iconst (pc := 55) (x := 2) o dX16_fire_55 (by decide) ?_
    refine z_callV (pc := 56) (k := 0) (n := 0) (k' := 0) (n' := 0) o (b := ad (20, 0, 0)) (As := [.int (1), .int (2)]) (rest := []) (kFailsT hR h5 2 (by decide)) ln_X16_74 dX16_fire_56 (z_rc (ci := 20) (K := (20, 0, 0)) rfl (gl_20 hR) rfl) rfl rfl (Nat.le_of_ble_eq_true rfl) ⟨by decide, by decide⟩ ⟨rfl, rfl⟩ ⟨by decide, by decide⟩ rfl gq_nox2 ?_
    refine y_if_eq (pc := 59) (tgt := 64) o dX16_fire_59 rfl (fun b20 => absurd b20 (by decide)) (fun (b20 : ¬ 1 = 0) => ?_)
    refine y_iconst (pc := 62) (x := -1) o dX16_fire_62 (by decide) ?_
    exact y_iret (pc := 63) o dX16_fire_63 rfl (vp_nar_int _) (by decide) (by decide) (fun h hp => gP_thr (k := 2) (by simp +decide only [F_fire, g1, b3, b5, b7, gin1o, gin1p, gclamp, gtc0, gtc1, gtc2, gtc3, gtc4, not_true_eq_false, not_false_eq_true, if_true, if_false, or_true, true_or, or_false, false_or, and_true, true_and, and_false, false_and, or_self, and_self, eq_self, Bool.false_eq_true, ne_eq, reduceIte]) (by decide) hp)
  refine z_callV (pc := 6) (k := 0) (n := 0) (k' := 0) (n' := 0) o (b := ad (20, 0, 0)) (As := [.int (a)]) (rest := []) (knoBatchT hR hBR h5 a g1) ln_X16_144 dX16_fire_6 (z_rc (ci := 20) (K := (20, 0, 0)) rfl (gl_20 hR) rfl) rfl rfl (Nat.le_of_ble_eq_true rfl) ⟨by decide, by decide⟩ ⟨rfl, rfl⟩ ⟨by decide, by decide⟩ rfl gq_nox2 ?_
  refine y_if_ne (pc := 9) (tgt := 62) o dX16_fire_9 rfl (fun (b21 : ¬ 1 = 0) => ?_) (fun b21 => absurd b21 (by decide))
  refine y_iconst (pc := 62) (x := -1) o dX16_fire_62 (by decide) ?_
  exact y_iret (pc := 63) o dX16_fire_63 rfl (vp_nar_int _) (by decide) (by decide) (fun h hp => gP_thr (k := 1) (by simp +decide only [F_fire, g1, gin1o, gin1p, gclamp, gtc0, gtc1, gtc2, gtc3, gtc4, not_true_eq_false, not_false_eq_true, if_true, if_false, or_true, true_or, or_false, false_or, and_true, true_and, and_false, false_and, or_self, and_self, eq_self, Bool.false_eq_true, ne_eq, reduceIte]) (by decide) hp)

theorem r_fall {κ : gq_K} {ad : gKey → Nat} {C Rp R : gG} {T : List (Nat × va_E)} {n : Nat} (hb : gup Rp (0, 0, 0) 5 0 = R) (hI : gI n R) (hn : n ≤ 512) (a : Int32) (b : Int32) : gq_C κ mX16_fall [.ref (ad (20, 0, 0)), .int (a), .int (b)] (gR κ ad (C, Rp) T) (gP κ ad C T (F_fall R a b)) (gq_no) := by
  refine gq_enter (by decide +kernel) rfl (Nat.le_of_ble_eq_true rfl) rfl (fun f o => ?_)
  have hR := hI.fix
  have hBR := hI.cnt
  have hRp : gfix Rp.2 := by rw [← hb] at hR; exact hR
  have h5 : R.1 (0, 0, 0) 5 = 0 := by rw [← hb]; exact gup_v _ _ _ _
  refine y_aload_n (pc := 0) o dX16_fall_0 rfl ?_
  refine z_callVv (pc := 1) (k := 0) (n := 0) (k' := 0) (n' := 0) o (b := ad (20, 0, 0)) (As := []) (rest := []) (kBegins hRp) ln_X16_69 dX16_fall_1 (z_rc (ci := 20) (K := (20, 0, 0)) rfl (gl_20 hRp) rfl) rfl rfl (Nat.le_of_ble_eq_true rfl) ⟨by decide, by decide⟩ ⟨rfl, rfl⟩ ⟨by decide, by decide⟩ rfl gq_nox2 ?_
  rw [hb]
  refine y_aload_n (pc := 4) o dX16_fall_4 rfl ?_
  refine y_iload_n (pc := 5) o dX16_fall_5 rfl ?_
  by_cases g1 : gix (R.2 10 0) a = true
  · refine z_callV (pc := 6) (k := 0) (n := 0) (k' := 0) (n' := 0) o (b := ad (20, 0, 0)) (As := [.int (a)]) (rest := []) (knoRunF hR hBR h5 a g1) ln_X16_253 dX16_fall_6 (z_rc (ci := 20) (K := (20, 0, 0)) rfl (gl_20 hR) rfl) rfl rfl (Nat.le_of_ble_eq_true rfl) ⟨by decide, by decide⟩ ⟨rfl, rfl⟩ ⟨by decide, by decide⟩ rfl gq_nox2 ?_
    refine y_if_ne (pc := 9) (tgt := 37) o dX16_fall_9 rfl (fun b2 => absurd b2 (by decide)) (fun (b2 : 0 = 0) => ?_)
    refine y_aload_n (pc := 12) o dX16_fall_12 rfl ?_
    refine y_iload_n (pc := 13) o dX16_fall_13 rfl ?_
    refine y_i2l (pc := 14) o dX16_fall_14 ?_
    refine y_lconst (pc := 15) (x := 1) o dX16_fall_15 (by decide) ?_
    refine y_ldc2 (pc := 16) o dX16_fall_16 qw_1401 ?_
    refine z_callS (pc := 19) (k := 0) (n := 0) (k' := 0) (n' := 0) o (As := [.long (b.toInt64), .long (1), .long (9)]) (rest := [.ref (ad (20, 0, 0))]) (kIn b 1 9) ln_X16_13 dX16_fall_19 rfl rfl (Nat.le_of_ble_eq_true rfl) ⟨by decide, by decide⟩ ⟨rfl, rfl⟩ ⟨by decide, by decide⟩ rfl gq_nox2 ?_
    refine z_bne (pc := 22) (tgt := 29) o dX16_fall_22 rfl (fun (b3 : gin 1 b 9 = true) => ?_) (fun (b3 : ¬ (gin 1 b 9 = true)) => ?_)
    · refine y_iconst (pc := 29) (x := 0) o dX16_fall_29 (by decide) ?_
      refine y_iconst (pc := 30) (x := 2) o dX16_fall_30 (by decide) ?_
      refine z_callV (pc := 31) (k := 0) (n := 0) (k' := 0) (n' := 0) o (b := ad (20, 0, 0)) (As := [.int (0), .int (2)]) (rest := []) (kFailsF hR h5 2) ln_X16_74 dX16_fall_31 (z_rc (ci := 20) (K := (20, 0, 0)) rfl (gl_20 hR) rfl) rfl rfl (Nat.le_of_ble_eq_true rfl) ⟨by decide, by decide⟩ ⟨rfl, rfl⟩ ⟨by decide, by decide⟩ rfl gq_nox2 ?_
      refine y_if_eq (pc := 34) (tgt := 39) o dX16_fall_34 rfl (fun (b4 : 0 = 0) => ?_) (fun b4 => absurd b4 (by rw [b2]; decide))
      refine y_aload_n (pc := 39) o dX16_fall_39 rfl ?_
      refine z_get (pc := 40) (K := (20, 0, 0)) (v := .ref (ad (24, 4, 0))) o fl_X16_57 dX16_fall_40 (gl_20 hR) rfl rfl ?_
      refine y_iload_n (pc := 43) o dX16_fall_43 rfl ?_
      refine z_callF (pc := 44) (k := 0) (n := 0) (k' := 0) (n' := 0) (ci := 3) o (b := ad (24, 4, 0)) (As := [.int (a)]) (rest := []) (getR (l := 4) (g := 0) (gl_24_4 hR) (hBR 4 0 (by decide)) g1) rfl lf_X16_114 dX16_fall_44 (fun h hr => ⟨_, ghdr_R (R := R) (gl_24_4 hR) hr⟩) rfl rfl (Nat.le_of_ble_eq_true rfl) ⟨by decide, by decide⟩ ⟨rfl, rfl⟩ ⟨by decide, by decide⟩ ?_
      refine z_cast (pc := 49) (ci := 18) (K := (30, 0, a.toNatClampNeg)) o rfl qw_1601 dX16_fall_49 (gl_30 (gix_lt (Nat.le_trans (hBR 4 0 (by decide)) (by decide)) g1)) rfl ?_
      refine y_astore_n (pc := 52) (i := 3) (lv' := [(3, .ref (ad (30, 0, a.toNatClampNeg))), (0, .ref (ad (20, 0, 0))), (1, .int (a)), (2, .int (b))]) o dX16_fall_52 rfl (by decide) rfl ?_
      refine y_iconst (pc := 53) (x := 0) o dX16_fall_53 (by decide) ?_
      refine y_bipush (pc := 54) (x := 40) o dX16_fall_54 (by decide) ?_
      refine y_iload_n (pc := 56) o dX16_fall_56 rfl ?_
      refine y_imul (pc := 57) o dX16_fall_57 ?_
      refine y_bipush (pc := 58) (x := 20) o dX16_fall_58 (by decide) ?_
      refine y_aload_n (pc := 60) o dX16_fall_60 rfl ?_
      refine z_get (pc := 61) (K := (30, 0, a.toNatClampNeg)) (v := .int (R.1 (10, 0, a.toNatClampNeg) 5)) o fl_X16_249 dX16_fall_61 (gl_30 (gix_lt (Nat.le_trans (hBR 4 0 (by decide)) (by decide)) g1)) rfl rfl ?_
      refine y_imul (pc := 64) o dX16_fall_64 ?_
      refine y_iadd (pc := 65) o dX16_fall_65 ?_
      refine y_aload_n (pc := 66) o dX16_fall_66 rfl ?_
      refine z_get (pc := 67) (K := (20, 0, 0)) (v := .ref (ad (24, 2, 0))) o fl_X16_51 dX16_fall_67 (gl_20 hR) rfl rfl ?_
      refine y_aload_n (pc := 70) o dX16_fall_70 rfl ?_
      refine z_get (pc := 71) (K := (30, 0, a.toNatClampNeg)) (v := .int (R.1 (10, 0, a.toNatClampNeg) 0)) o fl_X16_240 dX16_fall_71 (gl_30 (gix_lt (Nat.le_trans (hBR 4 0 (by decide)) (by decide)) g1)) rfl rfl ?_
      refine z_callF (pc := 74) (k := 0) (n := 0) (k' := 0) (n' := 0) (ci := 3) o (b := ad (24, 2, 0)) (As := [.int (R.1 (10, 0, a.toNatClampNeg) 0)]) (rest := [.int ((40 * b) + (20 * (R.1 (10, 0, a.toNatClampNeg) 5))), .int (0)]) (getR (l := 2) (g := 0) (gl_24_2 hR) (hBR 2 0 (by decide)) (hI.2.2.2.2.2.1 _ (gix_lt (Nat.le_trans (hBR 4 0 (by decide)) (by decide)) g1)).1) rfl lf_X16_114 dX16_fall_74 (fun h hr => ⟨_, ghdr_R (R := R) (gl_24_2 hR) hr⟩) rfl rfl (Nat.le_of_ble_eq_true rfl) ⟨by decide, by decide⟩ ⟨rfl, rfl⟩ ⟨by decide, by decide⟩ ?_
      refine z_cast (pc := 79) (ci := 16) (K := (28, 0, (R.1 (10, 0, a.toNatClampNeg) 0).toNatClampNeg)) o rfl qw_1452 dX16_fall_79 (gl_28 (gix_lt (Nat.le_trans (hBR 2 0 (by decide)) (by decide)) (hI.2.2.2.2.2.1 _ (gix_lt (Nat.le_trans (hBR 4 0 (by decide)) (by decide)) g1)).1)) rfl ?_
      refine z_get (pc := 82) (K := (28, 0, (R.1 (10, 0, a.toNatClampNeg) 0).toNatClampNeg)) (v := .int (R.1 (8, 0, (R.1 (10, 0, a.toNatClampNeg) 0).toNatClampNeg) 9)) o fl_X16_177 dX16_fall_82 (gl_28 (gix_lt (Nat.le_trans (hBR 2 0 (by decide)) (by decide)) (hI.2.2.2.2.2.1 _ (gix_lt (Nat.le_trans (hBR 4 0 (by decide)) (by decide)) g1)).1)) rfl rfl ?_
      refine y_isub (pc := 85) o dX16_fall_85 ?_
      refine y_mmax (pc := 86) o qw_1441 dX16_fall_86 ⟨by decide, Nat.le_of_ble_eq_true rfl⟩ (by decide) (by decide) ?_
      refine y_istore (pc := 89) (i := 4) (lv' := [(4, .int (gmax 0 (((40 * b) + (20 * (R.1 (10, 0, a.toNatClampNeg) 5))) - (R.1 (8, 0, (R.1 (10, 0, a.toNatClampNeg) 0).toNatClampNeg) 9)))), (3, .ref (ad (30, 0, a.toNatClampNeg))), (0, .ref (ad (20, 0, 0))), (1, .int (a)), (2, .int (b))]) o dX16_fall_89 (by decide) rfl ?_
      refine y_aload_n (pc := 91) o dX16_fall_91 rfl ?_
      refine z_get (pc := 92) (K := (30, 0, a.toNatClampNeg)) (v := .int (R.1 (10, 0, a.toNatClampNeg) 3)) o fl_X16_248 dX16_fall_92 (gl_30 (gix_lt (Nat.le_trans (hBR 4 0 (by decide)) (by decide)) g1)) rfl rfl ?_
      refine y_aload_n (pc := 95) o dX16_fall_95 rfl ?_
      refine z_get (pc := 96) (K := (30, 0, a.toNatClampNeg)) (v := .int (R.1 (10, 0, a.toNatClampNeg) 4)) o fl_X16_270 dX16_fall_96 (gl_30 (gix_lt (Nat.le_trans (hBR 4 0 (by decide)) (by decide)) g1)) rfl rfl ?_
      refine y_isub (pc := 99) o dX16_fall_99 ?_
      refine y_aload_n (pc := 100) o dX16_fall_100 rfl ?_
      refine z_get (pc := 101) (K := (30, 0, a.toNatClampNeg)) (v := .int (R.1 (10, 0, a.toNatClampNeg) 3)) o fl_X16_248 dX16_fall_101 (gl_30 (gix_lt (Nat.le_trans (hBR 4 0 (by decide)) (by decide)) g1)) rfl rfl ?_
      refine y_iload (pc := 104) o dX16_fall_104 rfl ?_
      refine y_imul (pc := 106) o dX16_fall_106 ?_
      refine y_sipush (pc := 107) (x := 400) o dX16_fall_107 (by decide) ?_
      refine y_idiv (pc := 110) o dX16_fall_110 (by decide) ?_
      refine y_mmin (pc := 111) o qw_1440 dX16_fall_111 ⟨by decide, Nat.le_of_ble_eq_true rfl⟩ (by decide) (by decide) ?_
      refine y_istore (pc := 114) (i := 5) (lv' := [(5, .int (gmin ((R.1 (10, 0, a.toNatClampNeg) 3) - (R.1 (10, 0, a.toNatClampNeg) 4)) (((R.1 (10, 0, a.toNatClampNeg) 3) * (gmax 0 (((40 * b) + (20 * (R.1 (10, 0, a.toNatClampNeg) 5))) - (R.1 (8, 0, (R.1 (10, 0, a.toNatClampNeg) 0).toNatClampNeg) 9)))) / 400))), (4, .int (gmax 0 (((40 * b) + (20 * (R.1 (10, 0, a.toNatClampNeg) 5))) - (R.1 (8, 0, (R.1 (10, 0, a.toNatClampNeg) 0).toNatClampNeg) 9)))), (3, .ref (ad (30, 0, a.toNatClampNeg))), (0, .ref (ad (20, 0, 0))), (1, .int (a)), (2, .int (b))]) o dX16_fall_114 (by decide) rfl ?_
      refine y_aload_n (pc := 116) o dX16_fall_116 rfl ?_
      refine y_dup (pc := 117) o dX16_fall_117 rfl ?_
      refine z_get (pc := 118) (K := (30, 0, a.toNatClampNeg)) (v := .int (R.1 (10, 0, a.toNatClampNeg) 4)) o fl_X16_270 dX16_fall_118 (gl_30 (gix_lt (Nat.le_trans (hBR 4 0 (by decide)) (by decide)) g1)) rfl rfl ?_
      refine y_iload (pc := 121) o dX16_fall_121 rfl ?_
      refine y_iadd (pc := 123) o dX16_fall_123 ?_
      refine z_putR (pc := 124) (K := (30, 0, a.toNatClampNeg)) (fd := 4) (x := (R.1 (10, 0, a.toNatClampNeg) 4) + (gmin ((R.1 (10, 0, a.toNatClampNeg) 3) - (R.1 (10, 0, a.toNatClampNeg) 4)) (((R.1 (10, 0, a.toNatClampNeg) 3) * (gmax 0 (((40 * b) + (20 * (R.1 (10, 0, a.toNatClampNeg) 5))) - (R.1 (8, 0, (R.1 (10, 0, a.toNatClampNeg) 0).toNatClampNeg) 9)))) / 400))) (B := (10, 0, a.toNatClampNeg)) o fw_X16_270 dX16_fall_124 (gl_30 (gix_lt (Nat.le_trans (hBR 4 0 (by decide)) (by decide)) g1)) (show 24 ≤ (30:Nat) by decide) rfl rfl (Nat.le_of_ble_eq_true rfl) (vp_nar_int _) rfl rfl pR_30_4 ?_
      refine y_iload (pc := 127) o dX16_fall_127 rfl ?_
      exact y_iret (pc := 129) o dX16_fall_129 rfl (vp_nar_int _) (by decide) (by decide) (fun h hp => gP_mk (by simp +decide only [F_fall, g1, b3, gtc0, gtc1, gtc2, gtc3, gtc4, not_true_eq_false, not_false_eq_true, if_true, if_false, or_true, true_or, or_false, false_or, and_true, true_and, and_false, false_and, or_self, and_self, eq_self, Bool.false_eq_true, ne_eq, reduceIte]; rw [gmx_min]) rfl rfl hp)
    refine y_iconst (pc := 25) (x := 1) o dX16_fall_25 (by decide) ?_
    refine y_goto (pc := 26) (tgt := 30) o dX16_fall_26 rfl ?_
    refine y_iconst (pc := 30) (x := 2) o dX16_fall_30 (by decide) ?_
    refine z_callV (pc := 31) (k := 0) (n := 0) (k' := 0) (n' := 0) o (b := ad (20, 0, 0)) (As := [.int (1), .int (2)]) (rest := []) (kFailsT hR h5 2 (by decide)) ln_X16_74 dX16_fall_31 (z_rc (ci := 20) (K := (20, 0, 0)) rfl (gl_20 hR) rfl) rfl rfl (Nat.le_of_ble_eq_true rfl) ⟨by decide, by decide⟩ ⟨rfl, rfl⟩ ⟨by decide, by decide⟩ rfl gq_nox2 ?_
    refine y_if_eq (pc := 34) (tgt := 39) o dX16_fall_34 rfl (fun b5 => absurd b5 (by decide)) (fun (b5 : ¬ 1 = 0) => ?_)
    refine y_iconst (pc := 37) (x := -1) o dX16_fall_37 (by decide) ?_
    exact y_iret (pc := 38) o dX16_fall_38 rfl (vp_nar_int _) (by decide) (by decide) (fun h hp => gP_thr (k := 2) (by simp +decide only [F_fall, g1, b3, gtc0, gtc1, gtc2, gtc3, gtc4, not_true_eq_false, not_false_eq_true, if_true, if_false, or_true, true_or, or_false, false_or, and_true, true_and, and_false, false_and, or_self, and_self, eq_self, Bool.false_eq_true, ne_eq, reduceIte]) (by decide) hp)
  refine z_callV (pc := 6) (k := 0) (n := 0) (k' := 0) (n' := 0) o (b := ad (20, 0, 0)) (As := [.int (a)]) (rest := []) (knoRunT hR hBR h5 a g1) ln_X16_253 dX16_fall_6 (z_rc (ci := 20) (K := (20, 0, 0)) rfl (gl_20 hR) rfl) rfl rfl (Nat.le_of_ble_eq_true rfl) ⟨by decide, by decide⟩ ⟨rfl, rfl⟩ ⟨by decide, by decide⟩ rfl gq_nox2 ?_
  refine y_if_ne (pc := 9) (tgt := 37) o dX16_fall_9 rfl (fun (b6 : ¬ 1 = 0) => ?_) (fun b6 => absurd b6 (by decide))
  refine y_iconst (pc := 37) (x := -1) o dX16_fall_37 (by decide) ?_
  exact y_iret (pc := 38) o dX16_fall_38 rfl (vp_nar_int _) (by decide) (by decide) (fun h hp => gP_thr (k := 1) (by simp +decide only [F_fall, g1, gtc0, gtc1, gtc2, gtc3, gtc4, not_true_eq_false, not_false_eq_true, if_true, if_false, or_true, true_or, or_false, false_or, and_true, true_and, and_false, false_and, or_self, and_self, eq_self, Bool.false_eq_true, ne_eq, reduceIte]) (by decide) hp)

theorem r_slats {κ : gq_K} {ad : gKey → Nat} {C Rp R : gG} {T : List (Nat × va_E)} {n : Nat} (hb : gup Rp (0, 0, 0) 5 0 = R) (hI : gI n R) (hn : n ≤ 512) (a : Int32) (b : Int32) (c : Int32) (d : Int32) : gq_C κ mX16_slats [.ref (ad (20, 0, 0)), .int (a), .int (b), .int (c), .int (d)] (gR κ ad (C, Rp) T) (gP κ ad C T (F_slats R a b c d)) (gq_no) := by
  refine gq_enter (by decide +kernel) rfl (Nat.le_of_ble_eq_true rfl) rfl (fun f o => ?_)
  have hR := hI.fix
  have hBR := hI.cnt
  have hRp : gfix Rp.2 := by rw [← hb] at hR; exact hR
  have h5 : R.1 (0, 0, 0) 5 = 0 := by rw [← hb]; exact gup_v _ _ _ _
  refine y_aload_n (pc := 0) o dX16_slats_0 rfl ?_
  refine z_callVv (pc := 1) (k := 0) (n := 0) (k' := 0) (n' := 0) o (b := ad (20, 0, 0)) (As := []) (rest := []) (kBegins hRp) ln_X16_69 dX16_slats_1 (z_rc (ci := 20) (K := (20, 0, 0)) rfl (gl_20 hRp) rfl) rfl rfl (Nat.le_of_ble_eq_true rfl) ⟨by decide, by decide⟩ ⟨rfl, rfl⟩ ⟨by decide, by decide⟩ rfl gq_nox2 ?_
  rw [hb]
  refine y_iload_n (pc := 4) o dX16_slats_4 rfl ?_
  refine y_bipush (pc := 5) (x := 99) o dX16_slats_5 (by decide) ?_
  refine y_icmp_eq (pc := 7) (tgt := 16) o dX16_slats_7 rfl (fun (b1 : a = 99) => ?_) (fun (b1 : ¬ a = 99) => ?_)
  · refine y_iload_n (pc := 16) o dX16_slats_16 rfl ?_
    refine y_i2l (pc := 17) o dX16_slats_17 ?_
    refine y_lconst (pc := 18) (x := 0) o dX16_slats_18 (by decide) ?_
    refine y_ldc2 (pc := 19) o dX16_slats_19 qw_1401 ?_
    refine z_callS (pc := 22) (k := 0) (n := 0) (k' := 0) (n' := 0) o (As := [.long (b.toInt64), .long (0), .long (9)]) (rest := []) (kIn b 0 9) ln_X16_13 dX16_slats_22 rfl rfl (Nat.le_of_ble_eq_true rfl) ⟨by decide, by decide⟩ ⟨rfl, rfl⟩ ⟨by decide, by decide⟩ rfl gq_nox2 ?_
    refine z_beq (pc := 25) (tgt := 57) o dX16_slats_25 rfl (fun (b2 : ¬ (gin 0 b 9 = true)) => ?_) (fun (b2 : gin 0 b 9 = true) => ?_)
    · refine y_iconst (pc := 57) (x := 0) o dX16_slats_57 (by decide) ?_
      refine y_istore (pc := 58) (i := 5) (lv' := [(5, .int (0)), (0, .ref (ad (20, 0, 0))), (1, .int (a)), (2, .int (b)), (3, .int (c)), (4, .int (d))]) o dX16_slats_58 (by decide) rfl ?_
      refine y_aload_n (pc := 60) o dX16_slats_60 rfl ?_
      refine y_iload (pc := 61) o dX16_slats_61 rfl ?_
      refine y_if_ne (pc := 63) (tgt := 70) o dX16_slats_63 rfl (fun b3 => absurd b3 (by decide)) (fun (b3 : 0 = 0) => ?_)
      refine y_iconst (pc := 66) (x := 1) o dX16_slats_66 (by decide) ?_
      refine y_goto (pc := 67) (tgt := 71) o dX16_slats_67 rfl ?_
      refine y_iconst (pc := 71) (x := 1) o dX16_slats_71 (by decide) ?_
      refine z_callV (pc := 72) (k := 0) (n := 0) (k' := 0) (n' := 0) o (b := ad (20, 0, 0)) (As := [.int (1), .int (1)]) (rest := []) (kFailsT hR h5 1 (by decide)) ln_X16_74 dX16_slats_72 (z_rc (ci := 20) (K := (20, 0, 0)) rfl (gl_20 hR) rfl) rfl rfl (Nat.le_of_ble_eq_true rfl) ⟨by decide, by decide⟩ ⟨rfl, rfl⟩ ⟨by decide, by decide⟩ rfl gq_nox2 ?_
      refine y_if_ne (pc := 75) (tgt := 105) o dX16_slats_75 rfl (fun (b4 : ¬ 1 = 0) => ?_) (fun b4 => absurd b4 (by decide))
      refine y_iconst (pc := 105) (x := -1) o dX16_slats_105 (by decide) ?_
      exact y_iret (pc := 106) o dX16_slats_106 rfl (vp_nar_int _) (by decide) (by decide) (fun h hp => gP_thr (k := 1) (by simp +decide only [F_slats, b1, b2, gtc0, gtc1, gtc2, gtc3, gtc4, not_true_eq_false, not_false_eq_true, if_true, if_false, or_true, true_or, or_false, false_or, and_true, true_and, and_false, false_and, or_self, and_self, eq_self, Bool.false_eq_true, ne_eq, reduceIte]) (by decide) hp)
    refine y_iload_n (pc := 28) o dX16_slats_28 rfl ?_
    refine y_i2l (pc := 29) o dX16_slats_29 ?_
    refine y_lconst (pc := 30) (x := 0) o dX16_slats_30 (by decide) ?_
    refine y_ldc2 (pc := 31) o dX16_slats_31 qw_1550 ?_
    refine z_callS (pc := 34) (k := 0) (n := 0) (k' := 0) (n' := 0) o (As := [.long (c.toInt64), .long (0), .long (40)]) (rest := []) (kIn c 0 40) ln_X16_13 dX16_slats_34 rfl rfl (Nat.le_of_ble_eq_true rfl) ⟨by decide, by decide⟩ ⟨rfl, rfl⟩ ⟨by decide, by decide⟩ rfl gq_nox2 ?_
    refine z_beq (pc := 37) (tgt := 57) o dX16_slats_37 rfl (fun (b5 : ¬ (gin 0 c 40 = true)) => ?_) (fun (b5 : gin 0 c 40 = true) => ?_)
    · refine y_iconst (pc := 57) (x := 0) o dX16_slats_57 (by decide) ?_
      refine y_istore (pc := 58) (i := 5) (lv' := [(5, .int (0)), (0, .ref (ad (20, 0, 0))), (1, .int (a)), (2, .int (b)), (3, .int (c)), (4, .int (d))]) o dX16_slats_58 (by decide) rfl ?_
      refine y_aload_n (pc := 60) o dX16_slats_60 rfl ?_
      refine y_iload (pc := 61) o dX16_slats_61 rfl ?_
      refine y_if_ne (pc := 63) (tgt := 70) o dX16_slats_63 rfl (fun b6 => absurd b6 (by decide)) (fun (b6 : 0 = 0) => ?_)
      refine y_iconst (pc := 66) (x := 1) o dX16_slats_66 (by decide) ?_
      refine y_goto (pc := 67) (tgt := 71) o dX16_slats_67 rfl ?_
      refine y_iconst (pc := 71) (x := 1) o dX16_slats_71 (by decide) ?_
      refine z_callV (pc := 72) (k := 0) (n := 0) (k' := 0) (n' := 0) o (b := ad (20, 0, 0)) (As := [.int (1), .int (1)]) (rest := []) (kFailsT hR h5 1 (by decide)) ln_X16_74 dX16_slats_72 (z_rc (ci := 20) (K := (20, 0, 0)) rfl (gl_20 hR) rfl) rfl rfl (Nat.le_of_ble_eq_true rfl) ⟨by decide, by decide⟩ ⟨rfl, rfl⟩ ⟨by decide, by decide⟩ rfl gq_nox2 ?_
      refine y_if_ne (pc := 75) (tgt := 105) o dX16_slats_75 rfl (fun (b7 : ¬ 1 = 0) => ?_) (fun b7 => absurd b7 (by decide))
      refine y_iconst (pc := 105) (x := -1) o dX16_slats_105 (by decide) ?_
      exact y_iret (pc := 106) o dX16_slats_106 rfl (vp_nar_int _) (by decide) (by decide) (fun h hp => gP_thr (k := 1) (by simp +decide only [F_slats, b1, b2, b5, gtc0, gtc1, gtc2, gtc3, gtc4, not_true_eq_false, not_false_eq_true, if_true, if_false, or_true, true_or, or_false, false_or, and_true, true_and, and_false, false_and, or_self, and_self, eq_self, Bool.false_eq_true, ne_eq, reduceIte]) (by decide) hp)
    refine y_iload (pc := 40) o dX16_slats_40 rfl ?_
    refine y_i2l (pc := 42) o dX16_slats_42 ?_
    refine y_lconst (pc := 43) (x := 1) o dX16_slats_43 (by decide) ?_
    refine y_ldc2 (pc := 44) o dX16_slats_44 qw_1266 ?_
    refine z_callS (pc := 47) (k := 0) (n := 0) (k' := 0) (n' := 0) o (As := [.long (d.toInt64), .long (1), .long (500)]) (rest := []) (kIn d 1 500) ln_X16_13 dX16_slats_47 rfl rfl (Nat.le_of_ble_eq_true rfl) ⟨by decide, by decide⟩ ⟨rfl, rfl⟩ ⟨by decide, by decide⟩ rfl gq_nox2 ?_
    refine z_beq (pc := 50) (tgt := 57) o dX16_slats_50 rfl (fun (b8 : ¬ (gin 1 d 500 = true)) => ?_) (fun (b8 : gin 1 d 500 = true) => ?_)
    · refine y_iconst (pc := 57) (x := 0) o dX16_slats_57 (by decide) ?_
      refine y_istore (pc := 58) (i := 5) (lv' := [(5, .int (0)), (0, .ref (ad (20, 0, 0))), (1, .int (a)), (2, .int (b)), (3, .int (c)), (4, .int (d))]) o dX16_slats_58 (by decide) rfl ?_
      refine y_aload_n (pc := 60) o dX16_slats_60 rfl ?_
      refine y_iload (pc := 61) o dX16_slats_61 rfl ?_
      refine y_if_ne (pc := 63) (tgt := 70) o dX16_slats_63 rfl (fun b9 => absurd b9 (by decide)) (fun (b9 : 0 = 0) => ?_)
      refine y_iconst (pc := 66) (x := 1) o dX16_slats_66 (by decide) ?_
      refine y_goto (pc := 67) (tgt := 71) o dX16_slats_67 rfl ?_
      refine y_iconst (pc := 71) (x := 1) o dX16_slats_71 (by decide) ?_
      refine z_callV (pc := 72) (k := 0) (n := 0) (k' := 0) (n' := 0) o (b := ad (20, 0, 0)) (As := [.int (1), .int (1)]) (rest := []) (kFailsT hR h5 1 (by decide)) ln_X16_74 dX16_slats_72 (z_rc (ci := 20) (K := (20, 0, 0)) rfl (gl_20 hR) rfl) rfl rfl (Nat.le_of_ble_eq_true rfl) ⟨by decide, by decide⟩ ⟨rfl, rfl⟩ ⟨by decide, by decide⟩ rfl gq_nox2 ?_
      refine y_if_ne (pc := 75) (tgt := 105) o dX16_slats_75 rfl (fun (b10 : ¬ 1 = 0) => ?_) (fun b10 => absurd b10 (by decide))
      refine y_iconst (pc := 105) (x := -1) o dX16_slats_105 (by decide) ?_
      exact y_iret (pc := 106) o dX16_slats_106 rfl (vp_nar_int _) (by decide) (by decide) (fun h hp => gP_thr (k := 1) (by simp +decide only [F_slats, b1, b2, b5, b8, gtc0, gtc1, gtc2, gtc3, gtc4, not_true_eq_false, not_false_eq_true, if_true, if_false, or_true, true_or, or_false, false_or, and_true, true_and, and_false, false_and, or_self, and_self, eq_self, Bool.false_eq_true, ne_eq, reduceIte]) (by decide) hp)
    refine y_iconst (pc := 53) (x := 1) o dX16_slats_53 (by decide) ?_
    refine y_goto (pc := 54) (tgt := 58) o dX16_slats_54 rfl ?_
    refine y_istore (pc := 58) (i := 5) (lv' := [(5, .int (1)), (0, .ref (ad (20, 0, 0))), (1, .int (a)), (2, .int (b)), (3, .int (c)), (4, .int (d))]) o dX16_slats_58 (by decide) rfl ?_
    refine y_aload_n (pc := 60) o dX16_slats_60 rfl ?_
    refine y_iload (pc := 61) o dX16_slats_61 rfl ?_
    refine y_if_ne (pc := 63) (tgt := 70) o dX16_slats_63 rfl (fun (b11 : ¬ 1 = 0) => ?_) (fun b11 => absurd b11 (by decide))
    refine y_iconst (pc := 70) (x := 0) o dX16_slats_70 (by decide) ?_
    refine y_iconst (pc := 71) (x := 1) o dX16_slats_71 (by decide) ?_
    refine z_callV (pc := 72) (k := 0) (n := 0) (k' := 0) (n' := 0) o (b := ad (20, 0, 0)) (As := [.int (0), .int (1)]) (rest := []) (kFailsF hR h5 1) ln_X16_74 dX16_slats_72 (z_rc (ci := 20) (K := (20, 0, 0)) rfl (gl_20 hR) rfl) rfl rfl (Nat.le_of_ble_eq_true rfl) ⟨by decide, by decide⟩ ⟨rfl, rfl⟩ ⟨by decide, by decide⟩ rfl gq_nox2 ?_
    refine y_if_ne (pc := 75) (tgt := 105) o dX16_slats_75 rfl (fun b12 => absurd b12 (by decide)) (fun (b12 : 0 = 0) => ?_)
    refine y_aload_n (pc := 78) o dX16_slats_78 rfl ?_
    refine y_aload_n (pc := 79) o dX16_slats_79 rfl ?_
    refine z_get (pc := 80) (K := (20, 0, 0)) (v := .ref (ad (24, 3, 0))) o fl_X16_54 dX16_slats_80 (gl_20 hR) rfl rfl ?_
    refine z_callF (pc := 83) (k := 0) (n := 0) (k' := 0) (n' := 0) (ci := 3) o (b := ad (24, 3, 0)) (As := []) (rest := [.ref (ad (20, 0, 0))]) (sizeR (l := 3) (g := 0) (gl_24_3 hR)) rfl lf_X16_7 dX16_slats_83 (fun h hr => ⟨_, ghdr_R (R := R) (gl_24_3 hR) hr⟩) rfl rfl (Nat.le_of_ble_eq_true rfl) ⟨by decide, by decide⟩ ⟨rfl, rfl⟩ ⟨by decide, by decide⟩ ?_
    refine y_bipush (pc := 88) (x := 12) o dX16_slats_88 (by decide) ?_
    refine y_icmp_ne (pc := 90) (tgt := 97) o dX16_slats_90 rfl (fun (b13 : ¬ (Int32.ofNat (R.2 9 0)) = 12) => ?_) (fun (b13 : (Int32.ofNat (R.2 9 0)) = 12) => ?_)
    · refine y_iconst (pc := 97) (x := 0) o dX16_slats_97 (by decide) ?_
      refine y_iconst (pc := 98) (x := 2) o dX16_slats_98 (by decide) ?_
      refine z_callV (pc := 99) (k := 0) (n := 0) (k' := 0) (n' := 0) o (b := ad (20, 0, 0)) (As := [.int (0), .int (2)]) (rest := []) (kFailsF hR h5 2) ln_X16_74 dX16_slats_99 (z_rc (ci := 20) (K := (20, 0, 0)) rfl (gl_20 hR) rfl) rfl rfl (Nat.le_of_ble_eq_true rfl) ⟨by decide, by decide⟩ ⟨rfl, rfl⟩ ⟨by decide, by decide⟩ rfl gq_nox2 ?_
      refine y_if_eq (pc := 102) (tgt := 107) o dX16_slats_102 rfl (fun (b14 : 0 = 0) => ?_) (fun b14 => absurd b14 (by rw [b12]; decide))
      refine z_new (pc := 107) (k := 0) (n := 0) o nw_X16_203 dX16_slats_107 (by decide) (by decide) (fun q15 => ?_)
      refine y_dup (pc := 110) o dX16_slats_110 rfl ?_
      refine z_callI (pc := 111) (k := 1) (n := 6) (k' := 1) (n' := 6) o (b := q15) (As := []) (rest := [.ref (q15)]) (kX15_init _ ) ln_X16_205 dX16_slats_111 rfl rfl (Nat.le_of_ble_eq_true rfl) ⟨by decide, by decide⟩ ⟨rfl, rfl⟩ ⟨by decide, by decide⟩ ?_
      refine y_astore (pc := 114) (i := 6) (lv' := [(6, .ref (q15)), (5, .int (1)), (0, .ref (ad (20, 0, 0))), (1, .int (a)), (2, .int (b)), (3, .int (c)), (4, .int (d))]) o dX16_slats_114 (by decide) rfl ?_
      refine y_aload (pc := 116) o dX16_slats_116 rfl ?_
      refine y_iload_n (pc := 118) o dX16_slats_118 rfl ?_
      refine z_putT (pc := 119) (fs' := [.int (a), .int (0), .int (0), .int (0), .int (0), .int (0)]) (T' := (q15, .inr (19, [.int (a), .int (0), .int (0), .int (0), .int (0), .int (0)])) :: T) o 0 fw_X16_206 dX16_slats_119 rfl (Nat.le_of_ble_eq_true rfl) (gch_n (gch_cb (Or.inl b1))) (gch_f (gch_cb (Or.inl b1))) rfl rfl ?_
      refine y_aload (pc := 122) o dX16_slats_122 rfl ?_
      refine y_iload_n (pc := 124) o dX16_slats_124 rfl ?_
      refine z_putT (pc := 125) (fs' := [.int (a), .int (b), .int (0), .int (0), .int (0), .int (0)]) (T' := (q15, .inr (19, [.int (a), .int (b), .int (0), .int (0), .int (0), .int (0)])) :: T) o 0 fw_X16_210 dX16_slats_125 rfl (Nat.le_of_ble_eq_true rfl) (vp_nar_int _) rfl rfl rfl ?_
      refine y_aload (pc := 128) o dX16_slats_128 rfl ?_
      refine y_iload_n (pc := 130) o dX16_slats_130 rfl ?_
      refine z_putT (pc := 131) (fs' := [.int (a), .int (b), .int (c), .int (0), .int (0), .int (0)]) (T' := (q15, .inr (19, [.int (a), .int (b), .int (c), .int (0), .int (0), .int (0)])) :: T) o 0 fw_X16_213 dX16_slats_131 rfl (Nat.le_of_ble_eq_true rfl) (vp_nar_int _) rfl rfl rfl ?_
      refine y_aload (pc := 134) o dX16_slats_134 rfl ?_
      refine y_iload (pc := 136) o dX16_slats_136 rfl ?_
      refine z_putT (pc := 138) (fs' := [.int (a), .int (b), .int (c), .int (d), .int (0), .int (0)]) (T' := (q15, .inr (19, [.int (a), .int (b), .int (c), .int (d), .int (0), .int (0)])) :: T) o 0 fw_X16_216 dX16_slats_138 rfl (Nat.le_of_ble_eq_true rfl) (vp_nar_int _) rfl rfl rfl ?_
      refine y_aload_n (pc := 141) o dX16_slats_141 rfl ?_
      refine z_get (pc := 142) (K := (20, 0, 0)) (v := .ref (ad (24, 3, 0))) o fl_X16_54 dX16_slats_142 (gl_20 hR) rfl rfl ?_
      refine y_aload (pc := 145) o dX16_slats_145 rfl ?_
      refine y_callF (pc := 147) (ci := 3) (k := 1) (n := 6) o (b := ad (24, 3, 0)) (As := [.ref q15]) (rest := []) (addRa (C := C) (R := R) (l := 3) (g := 0) (n := R.2 9 0) (row := (glist [a, b, c, d, 0, 0])) (a := 9) rfl (gl_24_3 hR) (Or.inr rfl) rfl (hBR 3 0 (by decide)) nR_9 (fun K hK => by cases hK)) rfl lf_X16_107 dX16_slats_147 (fun h hr => ⟨_, ghdr_R (R := R) (gl_24_3 hR) hr⟩) rfl rfl (Nat.le_of_ble_eq_true rfl) ⟨by decide, by decide⟩ ⟨by decide, by decide⟩ (fun _ e => e) (fun _ _ z => z) (fun v => y_and fun ev => y_ex fun ad16 => y_and fun had => y_and fun hadq => ?_)
      subst ev
      have e0 : ad16 (0, 0, 0) = ad (0, 0, 0) := had (0, 0, 0) (by simp) (by simp)
      have e20 : ad16 (20, 0, 0) = ad (20, 0, 0) := had (20, 0, 0) (by simp) (by simp)
      refine z_st (st' := [.int (1)]) rfl ?_
      rw [← e20]
      refine y_pop (pc := 152) o dX16_slats_152 rfl ?_
      refine y_aload_n (pc := 153) o dX16_slats_153 rfl ?_
      refine z_get (pc := 154) (K := (20, 0, 0)) (v := .ref (ad16 (24, 3, 0))) o fl_X16_54 dX16_slats_154 (gl_20 (gfix_new (a := 9) (by decide) hR)) rfl rfl ?_
      refine z_callF (pc := 157) (k := 2) (n := 262) (k' := 2) (n' := 262) (ci := 3) o (b := ad16 (24, 3, 0)) (As := []) (rest := []) (sizeR (l := 3) (g := 0) (gl_24_3 (gfix_new (a := 9) (by decide) hR))) rfl lf_X16_7 dX16_slats_157 (fun h hr => ⟨_, ghdr_R (R := (gnew R (9, 0, (R.2 9 0)) ((glist [a, b, c, d, 0, 0])))) (gl_24_3 (gfix_new (a := 9) (by decide) hR)) hr⟩) rfl rfl (Nat.le_of_ble_eq_true rfl) ⟨by decide, by decide⟩ ⟨rfl, rfl⟩ ⟨by decide, by decide⟩ ?_
      refine z_top (w := .int (Int32.ofNat (R.2 9 0 + 1))) (congrArg (fun z => Value.int (Int32.ofNat z)) (gnew_n _ _)) ?_
      refine y_iconst (pc := 162) (x := 1) o dX16_slats_162 (by decide) ?_
      refine y_isub (pc := 163) o dX16_slats_163 ?_
      exact y_iret (pc := 164) o dX16_slats_164 rfl (vp_nar_int _) (by decide) (by decide) (fun h hp => gP_mk (by simp +decide only [F_slats, b1, b2, b5, b8, gsz_f (k := 12) 12 rfl (by decide) hI.1.2.1.2.2.2.1 b13, gtc0, gtc1, gtc2, gtc3, gtc4, not_true_eq_false, not_false_eq_true, if_true, if_false, or_true, true_or, or_false, false_or, and_true, true_and, and_false, false_and, or_self, and_self, eq_self, Bool.false_eq_true, ne_eq, reduceIte]) e0 e20 hp)
    refine y_iconst (pc := 93) (x := 1) o dX16_slats_93 (by decide) ?_
    refine y_goto (pc := 94) (tgt := 98) o dX16_slats_94 rfl ?_
    refine y_iconst (pc := 98) (x := 2) o dX16_slats_98 (by decide) ?_
    refine z_callV (pc := 99) (k := 0) (n := 0) (k' := 0) (n' := 0) o (b := ad (20, 0, 0)) (As := [.int (1), .int (2)]) (rest := []) (kFailsT hR h5 2 (by decide)) ln_X16_74 dX16_slats_99 (z_rc (ci := 20) (K := (20, 0, 0)) rfl (gl_20 hR) rfl) rfl rfl (Nat.le_of_ble_eq_true rfl) ⟨by decide, by decide⟩ ⟨rfl, rfl⟩ ⟨by decide, by decide⟩ rfl gq_nox2 ?_
    refine y_if_eq (pc := 102) (tgt := 107) o dX16_slats_102 rfl (fun b17 => absurd b17 (by decide)) (fun (b17 : ¬ 1 = 0) => ?_)
    refine y_iconst (pc := 105) (x := -1) o dX16_slats_105 (by decide) ?_
    exact y_iret (pc := 106) o dX16_slats_106 rfl (vp_nar_int _) (by decide) (by decide) (fun h hp => gP_thr (k := 2) (by simp +decide only [F_slats, b1, b2, b5, b8, gsz_t b13, gtc0, gtc1, gtc2, gtc3, gtc4, not_true_eq_false, not_false_eq_true, if_true, if_false, or_true, true_or, or_false, false_or, and_true, true_and, and_false, false_and, or_self, and_self, eq_self, Bool.false_eq_true, ne_eq, reduceIte]) (by decide) hp)
  refine y_iload_n (pc := 10) o dX16_slats_10 rfl ?_
  refine y_bipush (pc := 11) (x := 98) o dX16_slats_11 (by decide) ?_
  refine y_icmp_ne (pc := 13) (tgt := 57) o dX16_slats_13 rfl (fun (b18 : ¬ a = 98) => ?_) (fun (b18 : a = 98) => ?_)
  · refine y_iconst (pc := 57) (x := 0) o dX16_slats_57 (by decide) ?_
    refine y_istore (pc := 58) (i := 5) (lv' := [(5, .int (0)), (0, .ref (ad (20, 0, 0))), (1, .int (a)), (2, .int (b)), (3, .int (c)), (4, .int (d))]) o dX16_slats_58 (by decide) rfl ?_
    refine y_aload_n (pc := 60) o dX16_slats_60 rfl ?_
    refine y_iload (pc := 61) o dX16_slats_61 rfl ?_
    refine y_if_ne (pc := 63) (tgt := 70) o dX16_slats_63 rfl (fun b19 => absurd b19 (by decide)) (fun (b19 : 0 = 0) => ?_)
    refine y_iconst (pc := 66) (x := 1) o dX16_slats_66 (by decide) ?_
    refine y_goto (pc := 67) (tgt := 71) o dX16_slats_67 rfl ?_
    refine y_iconst (pc := 71) (x := 1) o dX16_slats_71 (by decide) ?_
    refine z_callV (pc := 72) (k := 0) (n := 0) (k' := 0) (n' := 0) o (b := ad (20, 0, 0)) (As := [.int (1), .int (1)]) (rest := []) (kFailsT hR h5 1 (by decide)) ln_X16_74 dX16_slats_72 (z_rc (ci := 20) (K := (20, 0, 0)) rfl (gl_20 hR) rfl) rfl rfl (Nat.le_of_ble_eq_true rfl) ⟨by decide, by decide⟩ ⟨rfl, rfl⟩ ⟨by decide, by decide⟩ rfl gq_nox2 ?_
    refine y_if_ne (pc := 75) (tgt := 105) o dX16_slats_75 rfl (fun (b20 : ¬ 1 = 0) => ?_) (fun b20 => absurd b20 (by decide))
    refine y_iconst (pc := 105) (x := -1) o dX16_slats_105 (by decide) ?_
    exact y_iret (pc := 106) o dX16_slats_106 rfl (vp_nar_int _) (by decide) (by decide) (fun h hp => gP_thr (k := 1) (by simp +decide only [F_slats, b1, b18, gtc0, gtc1, gtc2, gtc3, gtc4, not_true_eq_false, not_false_eq_true, if_true, if_false, or_true, true_or, or_false, false_or, and_true, true_and, and_false, false_and, or_self, and_self, eq_self, Bool.false_eq_true, ne_eq, reduceIte]) (by decide) hp)
  refine y_iload_n (pc := 16) o dX16_slats_16 rfl ?_
  refine y_i2l (pc := 17) o dX16_slats_17 ?_
  refine y_lconst (pc := 18) (x := 0) o dX16_slats_18 (by decide) ?_
  refine y_ldc2 (pc := 19) o dX16_slats_19 qw_1401 ?_
  refine z_callS (pc := 22) (k := 0) (n := 0) (k' := 0) (n' := 0) o (As := [.long (b.toInt64), .long (0), .long (9)]) (rest := []) (kIn b 0 9) ln_X16_13 dX16_slats_22 rfl rfl (Nat.le_of_ble_eq_true rfl) ⟨by decide, by decide⟩ ⟨rfl, rfl⟩ ⟨by decide, by decide⟩ rfl gq_nox2 ?_
  refine z_beq (pc := 25) (tgt := 57) o dX16_slats_25 rfl (fun (b21 : ¬ (gin 0 b 9 = true)) => ?_) (fun (b21 : gin 0 b 9 = true) => ?_)
  · refine y_iconst (pc := 57) (x := 0) o dX16_slats_57 (by decide) ?_
    refine y_istore (pc := 58) (i := 5) (lv' := [(5, .int (0)), (0, .ref (ad (20, 0, 0))), (1, .int (a)), (2, .int (b)), (3, .int (c)), (4, .int (d))]) o dX16_slats_58 (by decide) rfl ?_
    refine y_aload_n (pc := 60) o dX16_slats_60 rfl ?_
    refine y_iload (pc := 61) o dX16_slats_61 rfl ?_
    refine y_if_ne (pc := 63) (tgt := 70) o dX16_slats_63 rfl (fun b22 => absurd b22 (by decide)) (fun (b22 : 0 = 0) => ?_)
    refine y_iconst (pc := 66) (x := 1) o dX16_slats_66 (by decide) ?_
    refine y_goto (pc := 67) (tgt := 71) o dX16_slats_67 rfl ?_
    refine y_iconst (pc := 71) (x := 1) o dX16_slats_71 (by decide) ?_
    refine z_callV (pc := 72) (k := 0) (n := 0) (k' := 0) (n' := 0) o (b := ad (20, 0, 0)) (As := [.int (1), .int (1)]) (rest := []) (kFailsT hR h5 1 (by decide)) ln_X16_74 dX16_slats_72 (z_rc (ci := 20) (K := (20, 0, 0)) rfl (gl_20 hR) rfl) rfl rfl (Nat.le_of_ble_eq_true rfl) ⟨by decide, by decide⟩ ⟨rfl, rfl⟩ ⟨by decide, by decide⟩ rfl gq_nox2 ?_
    refine y_if_ne (pc := 75) (tgt := 105) o dX16_slats_75 rfl (fun (b23 : ¬ 1 = 0) => ?_) (fun b23 => absurd b23 (by decide))
    refine y_iconst (pc := 105) (x := -1) o dX16_slats_105 (by decide) ?_
    exact y_iret (pc := 106) o dX16_slats_106 rfl (vp_nar_int _) (by decide) (by decide) (fun h hp => gP_thr (k := 1) (by simp +decide only [F_slats, b1, b18, b21, gtc0, gtc1, gtc2, gtc3, gtc4, not_true_eq_false, not_false_eq_true, if_true, if_false, or_true, true_or, or_false, false_or, and_true, true_and, and_false, false_and, or_self, and_self, eq_self, Bool.false_eq_true, ne_eq, reduceIte]) (by decide) hp)
  refine y_iload_n (pc := 28) o dX16_slats_28 rfl ?_
  refine y_i2l (pc := 29) o dX16_slats_29 ?_
  refine y_lconst (pc := 30) (x := 0) o dX16_slats_30 (by decide) ?_
  refine y_ldc2 (pc := 31) o dX16_slats_31 qw_1550 ?_
  refine z_callS (pc := 34) (k := 0) (n := 0) (k' := 0) (n' := 0) o (As := [.long (c.toInt64), .long (0), .long (40)]) (rest := []) (kIn c 0 40) ln_X16_13 dX16_slats_34 rfl rfl (Nat.le_of_ble_eq_true rfl) ⟨by decide, by decide⟩ ⟨rfl, rfl⟩ ⟨by decide, by decide⟩ rfl gq_nox2 ?_
  refine z_beq (pc := 37) (tgt := 57) o dX16_slats_37 rfl (fun (b24 : ¬ (gin 0 c 40 = true)) => ?_) (fun (b24 : gin 0 c 40 = true) => ?_)
  · refine y_iconst (pc := 57) (x := 0) o dX16_slats_57 (by decide) ?_
    refine y_istore (pc := 58) (i := 5) (lv' := [(5, .int (0)), (0, .ref (ad (20, 0, 0))), (1, .int (a)), (2, .int (b)), (3, .int (c)), (4, .int (d))]) o dX16_slats_58 (by decide) rfl ?_
    refine y_aload_n (pc := 60) o dX16_slats_60 rfl ?_
    refine y_iload (pc := 61) o dX16_slats_61 rfl ?_
    refine y_if_ne (pc := 63) (tgt := 70) o dX16_slats_63 rfl (fun b25 => absurd b25 (by decide)) (fun (b25 : 0 = 0) => ?_)
    refine y_iconst (pc := 66) (x := 1) o dX16_slats_66 (by decide) ?_
    refine y_goto (pc := 67) (tgt := 71) o dX16_slats_67 rfl ?_
    refine y_iconst (pc := 71) (x := 1) o dX16_slats_71 (by decide) ?_
    refine z_callV (pc := 72) (k := 0) (n := 0) (k' := 0) (n' := 0) o (b := ad (20, 0, 0)) (As := [.int (1), .int (1)]) (rest := []) (kFailsT hR h5 1 (by decide)) ln_X16_74 dX16_slats_72 (z_rc (ci := 20) (K := (20, 0, 0)) rfl (gl_20 hR) rfl) rfl rfl (Nat.le_of_ble_eq_true rfl) ⟨by decide, by decide⟩ ⟨rfl, rfl⟩ ⟨by decide, by decide⟩ rfl gq_nox2 ?_
    refine y_if_ne (pc := 75) (tgt := 105) o dX16_slats_75 rfl (fun (b26 : ¬ 1 = 0) => ?_) (fun b26 => absurd b26 (by decide))
    refine y_iconst (pc := 105) (x := -1) o dX16_slats_105 (by decide) ?_
    exact y_iret (pc := 106) o dX16_slats_106 rfl (vp_nar_int _) (by decide) (by decide) (fun h hp => gP_thr (k := 1) (by simp +decide only [F_slats, b1, b18, b21, b24, gtc0, gtc1, gtc2, gtc3, gtc4, not_true_eq_false, not_false_eq_true, if_true, if_false, or_true, true_or, or_false, false_or, and_true, true_and, and_false, false_and, or_self, and_self, eq_self, Bool.false_eq_true, ne_eq, reduceIte]) (by decide) hp)
  refine y_iload (pc := 40) o dX16_slats_40 rfl ?_
  refine y_i2l (pc := 42) o dX16_slats_42 ?_
  refine y_lconst (pc := 43) (x := 1) o dX16_slats_43 (by decide) ?_
  refine y_ldc2 (pc := 44) o dX16_slats_44 qw_1266 ?_
  refine z_callS (pc := 47) (k := 0) (n := 0) (k' := 0) (n' := 0) o (As := [.long (d.toInt64), .long (1), .long (500)]) (rest := []) (kIn d 1 500) ln_X16_13 dX16_slats_47 rfl rfl (Nat.le_of_ble_eq_true rfl) ⟨by decide, by decide⟩ ⟨rfl, rfl⟩ ⟨by decide, by decide⟩ rfl gq_nox2 ?_
  refine z_beq (pc := 50) (tgt := 57) o dX16_slats_50 rfl (fun (b27 : ¬ (gin 1 d 500 = true)) => ?_) (fun (b27 : gin 1 d 500 = true) => ?_)
  · refine y_iconst (pc := 57) (x := 0) o dX16_slats_57 (by decide) ?_
    refine y_istore (pc := 58) (i := 5) (lv' := [(5, .int (0)), (0, .ref (ad (20, 0, 0))), (1, .int (a)), (2, .int (b)), (3, .int (c)), (4, .int (d))]) o dX16_slats_58 (by decide) rfl ?_
    refine y_aload_n (pc := 60) o dX16_slats_60 rfl ?_
    refine y_iload (pc := 61) o dX16_slats_61 rfl ?_
    refine y_if_ne (pc := 63) (tgt := 70) o dX16_slats_63 rfl (fun b28 => absurd b28 (by decide)) (fun (b28 : 0 = 0) => ?_)
    refine y_iconst (pc := 66) (x := 1) o dX16_slats_66 (by decide) ?_
    refine y_goto (pc := 67) (tgt := 71) o dX16_slats_67 rfl ?_
    refine y_iconst (pc := 71) (x := 1) o dX16_slats_71 (by decide) ?_
    refine z_callV (pc := 72) (k := 0) (n := 0) (k' := 0) (n' := 0) o (b := ad (20, 0, 0)) (As := [.int (1), .int (1)]) (rest := []) (kFailsT hR h5 1 (by decide)) ln_X16_74 dX16_slats_72 (z_rc (ci := 20) (K := (20, 0, 0)) rfl (gl_20 hR) rfl) rfl rfl (Nat.le_of_ble_eq_true rfl) ⟨by decide, by decide⟩ ⟨rfl, rfl⟩ ⟨by decide, by decide⟩ rfl gq_nox2 ?_
    refine y_if_ne (pc := 75) (tgt := 105) o dX16_slats_75 rfl (fun (b29 : ¬ 1 = 0) => ?_) (fun b29 => absurd b29 (by decide))
    refine y_iconst (pc := 105) (x := -1) o dX16_slats_105 (by decide) ?_
    exact y_iret (pc := 106) o dX16_slats_106 rfl (vp_nar_int _) (by decide) (by decide) (fun h hp => gP_thr (k := 1) (by simp +decide only [F_slats, b1, b18, b21, b24, b27, gtc0, gtc1, gtc2, gtc3, gtc4, not_true_eq_false, not_false_eq_true, if_true, if_false, or_true, true_or, or_false, false_or, and_true, true_and, and_false, false_and, or_self, and_self, eq_self, Bool.false_eq_true, ne_eq, reduceIte]) (by decide) hp)
  refine y_iconst (pc := 53) (x := 1) o dX16_slats_53 (by decide) ?_
  refine y_goto (pc := 54) (tgt := 58) o dX16_slats_54 rfl ?_
  refine y_istore (pc := 58) (i := 5) (lv' := [(5, .int (1)), (0, .ref (ad (20, 0, 0))), (1, .int (a)), (2, .int (b)), (3, .int (c)), (4, .int (d))]) o dX16_slats_58 (by decide) rfl ?_
  refine y_aload_n (pc := 60) o dX16_slats_60 rfl ?_
  refine y_iload (pc := 61) o dX16_slats_61 rfl ?_
  refine y_if_ne (pc := 63) (tgt := 70) o dX16_slats_63 rfl (fun (b30 : ¬ 1 = 0) => ?_) (fun b30 => absurd b30 (by decide))
  refine y_iconst (pc := 70) (x := 0) o dX16_slats_70 (by decide) ?_
  refine y_iconst (pc := 71) (x := 1) o dX16_slats_71 (by decide) ?_
  refine z_callV (pc := 72) (k := 0) (n := 0) (k' := 0) (n' := 0) o (b := ad (20, 0, 0)) (As := [.int (0), .int (1)]) (rest := []) (kFailsF hR h5 1) ln_X16_74 dX16_slats_72 (z_rc (ci := 20) (K := (20, 0, 0)) rfl (gl_20 hR) rfl) rfl rfl (Nat.le_of_ble_eq_true rfl) ⟨by decide, by decide⟩ ⟨rfl, rfl⟩ ⟨by decide, by decide⟩ rfl gq_nox2 ?_
  refine y_if_ne (pc := 75) (tgt := 105) o dX16_slats_75 rfl (fun b31 => absurd b31 (by decide)) (fun (b31 : 0 = 0) => ?_)
  refine y_aload_n (pc := 78) o dX16_slats_78 rfl ?_
  refine y_aload_n (pc := 79) o dX16_slats_79 rfl ?_
  refine z_get (pc := 80) (K := (20, 0, 0)) (v := .ref (ad (24, 3, 0))) o fl_X16_54 dX16_slats_80 (gl_20 hR) rfl rfl ?_
  refine z_callF (pc := 83) (k := 0) (n := 0) (k' := 0) (n' := 0) (ci := 3) o (b := ad (24, 3, 0)) (As := []) (rest := [.ref (ad (20, 0, 0))]) (sizeR (l := 3) (g := 0) (gl_24_3 hR)) rfl lf_X16_7 dX16_slats_83 (fun h hr => ⟨_, ghdr_R (R := R) (gl_24_3 hR) hr⟩) rfl rfl (Nat.le_of_ble_eq_true rfl) ⟨by decide, by decide⟩ ⟨rfl, rfl⟩ ⟨by decide, by decide⟩ ?_
  refine y_bipush (pc := 88) (x := 12) o dX16_slats_88 (by decide) ?_
  refine y_icmp_ne (pc := 90) (tgt := 97) o dX16_slats_90 rfl (fun (b32 : ¬ (Int32.ofNat (R.2 9 0)) = 12) => ?_) (fun (b32 : (Int32.ofNat (R.2 9 0)) = 12) => ?_)
  · refine y_iconst (pc := 97) (x := 0) o dX16_slats_97 (by decide) ?_
    refine y_iconst (pc := 98) (x := 2) o dX16_slats_98 (by decide) ?_
    refine z_callV (pc := 99) (k := 0) (n := 0) (k' := 0) (n' := 0) o (b := ad (20, 0, 0)) (As := [.int (0), .int (2)]) (rest := []) (kFailsF hR h5 2) ln_X16_74 dX16_slats_99 (z_rc (ci := 20) (K := (20, 0, 0)) rfl (gl_20 hR) rfl) rfl rfl (Nat.le_of_ble_eq_true rfl) ⟨by decide, by decide⟩ ⟨rfl, rfl⟩ ⟨by decide, by decide⟩ rfl gq_nox2 ?_
    refine y_if_eq (pc := 102) (tgt := 107) o dX16_slats_102 rfl (fun (b33 : 0 = 0) => ?_) (fun b33 => absurd b33 (by rw [b31]; decide))
    refine z_new (pc := 107) (k := 0) (n := 0) o nw_X16_203 dX16_slats_107 (by decide) (by decide) (fun q34 => ?_)
    refine y_dup (pc := 110) o dX16_slats_110 rfl ?_
    refine z_callI (pc := 111) (k := 1) (n := 6) (k' := 1) (n' := 6) o (b := q34) (As := []) (rest := [.ref (q34)]) (kX15_init _ ) ln_X16_205 dX16_slats_111 rfl rfl (Nat.le_of_ble_eq_true rfl) ⟨by decide, by decide⟩ ⟨rfl, rfl⟩ ⟨by decide, by decide⟩ ?_
    refine y_astore (pc := 114) (i := 6) (lv' := [(6, .ref (q34)), (5, .int (1)), (0, .ref (ad (20, 0, 0))), (1, .int (a)), (2, .int (b)), (3, .int (c)), (4, .int (d))]) o dX16_slats_114 (by decide) rfl ?_
    refine y_aload (pc := 116) o dX16_slats_116 rfl ?_
    refine y_iload_n (pc := 118) o dX16_slats_118 rfl ?_
    refine z_putT (pc := 119) (fs' := [.int (a), .int (0), .int (0), .int (0), .int (0), .int (0)]) (T' := (q34, .inr (19, [.int (a), .int (0), .int (0), .int (0), .int (0), .int (0)])) :: T) o 0 fw_X16_206 dX16_slats_119 rfl (Nat.le_of_ble_eq_true rfl) (gch_n (gch_cb (Or.inr b18))) (gch_f (gch_cb (Or.inr b18))) rfl rfl ?_
    refine y_aload (pc := 122) o dX16_slats_122 rfl ?_
    refine y_iload_n (pc := 124) o dX16_slats_124 rfl ?_
    refine z_putT (pc := 125) (fs' := [.int (a), .int (b), .int (0), .int (0), .int (0), .int (0)]) (T' := (q34, .inr (19, [.int (a), .int (b), .int (0), .int (0), .int (0), .int (0)])) :: T) o 0 fw_X16_210 dX16_slats_125 rfl (Nat.le_of_ble_eq_true rfl) (vp_nar_int _) rfl rfl rfl ?_
    refine y_aload (pc := 128) o dX16_slats_128 rfl ?_
    refine y_iload_n (pc := 130) o dX16_slats_130 rfl ?_
    refine z_putT (pc := 131) (fs' := [.int (a), .int (b), .int (c), .int (0), .int (0), .int (0)]) (T' := (q34, .inr (19, [.int (a), .int (b), .int (c), .int (0), .int (0), .int (0)])) :: T) o 0 fw_X16_213 dX16_slats_131 rfl (Nat.le_of_ble_eq_true rfl) (vp_nar_int _) rfl rfl rfl ?_
    refine y_aload (pc := 134) o dX16_slats_134 rfl ?_
    refine y_iload (pc := 136) o dX16_slats_136 rfl ?_
    refine z_putT (pc := 138) (fs' := [.int (a), .int (b), .int (c), .int (d), .int (0), .int (0)]) (T' := (q34, .inr (19, [.int (a), .int (b), .int (c), .int (d), .int (0), .int (0)])) :: T) o 0 fw_X16_216 dX16_slats_138 rfl (Nat.le_of_ble_eq_true rfl) (vp_nar_int _) rfl rfl rfl ?_
    refine y_aload_n (pc := 141) o dX16_slats_141 rfl ?_
    refine z_get (pc := 142) (K := (20, 0, 0)) (v := .ref (ad (24, 3, 0))) o fl_X16_54 dX16_slats_142 (gl_20 hR) rfl rfl ?_
    refine y_aload (pc := 145) o dX16_slats_145 rfl ?_
    refine y_callF (pc := 147) (ci := 3) (k := 1) (n := 6) o (b := ad (24, 3, 0)) (As := [.ref q34]) (rest := []) (addRa (C := C) (R := R) (l := 3) (g := 0) (n := R.2 9 0) (row := (glist [a, b, c, d, 0, 0])) (a := 9) rfl (gl_24_3 hR) (Or.inr rfl) rfl (hBR 3 0 (by decide)) nR_9 (fun K hK => by cases hK)) rfl lf_X16_107 dX16_slats_147 (fun h hr => ⟨_, ghdr_R (R := R) (gl_24_3 hR) hr⟩) rfl rfl (Nat.le_of_ble_eq_true rfl) ⟨by decide, by decide⟩ ⟨by decide, by decide⟩ (fun _ e => e) (fun _ _ z => z) (fun v => y_and fun ev => y_ex fun ad35 => y_and fun had => y_and fun hadq => ?_)
    subst ev
    have e0 : ad35 (0, 0, 0) = ad (0, 0, 0) := had (0, 0, 0) (by simp) (by simp)
    have e20 : ad35 (20, 0, 0) = ad (20, 0, 0) := had (20, 0, 0) (by simp) (by simp)
    refine z_st (st' := [.int (1)]) rfl ?_
    rw [← e20]
    refine y_pop (pc := 152) o dX16_slats_152 rfl ?_
    refine y_aload_n (pc := 153) o dX16_slats_153 rfl ?_
    refine z_get (pc := 154) (K := (20, 0, 0)) (v := .ref (ad35 (24, 3, 0))) o fl_X16_54 dX16_slats_154 (gl_20 (gfix_new (a := 9) (by decide) hR)) rfl rfl ?_
    refine z_callF (pc := 157) (k := 2) (n := 262) (k' := 2) (n' := 262) (ci := 3) o (b := ad35 (24, 3, 0)) (As := []) (rest := []) (sizeR (l := 3) (g := 0) (gl_24_3 (gfix_new (a := 9) (by decide) hR))) rfl lf_X16_7 dX16_slats_157 (fun h hr => ⟨_, ghdr_R (R := (gnew R (9, 0, (R.2 9 0)) ((glist [a, b, c, d, 0, 0])))) (gl_24_3 (gfix_new (a := 9) (by decide) hR)) hr⟩) rfl rfl (Nat.le_of_ble_eq_true rfl) ⟨by decide, by decide⟩ ⟨rfl, rfl⟩ ⟨by decide, by decide⟩ ?_
    refine z_top (w := .int (Int32.ofNat (R.2 9 0 + 1))) (congrArg (fun z => Value.int (Int32.ofNat z)) (gnew_n _ _)) ?_
    refine y_iconst (pc := 162) (x := 1) o dX16_slats_162 (by decide) ?_
    refine y_isub (pc := 163) o dX16_slats_163 ?_
    exact y_iret (pc := 164) o dX16_slats_164 rfl (vp_nar_int _) (by decide) (by decide) (fun h hp => gP_mk (by simp +decide only [F_slats, b1, b18, b21, b24, b27, gsz_f (k := 12) 12 rfl (by decide) hI.1.2.1.2.2.2.1 b32, gtc0, gtc1, gtc2, gtc3, gtc4, not_true_eq_false, not_false_eq_true, if_true, if_false, or_true, true_or, or_false, false_or, and_true, true_and, and_false, false_and, or_self, and_self, eq_self, Bool.false_eq_true, ne_eq, reduceIte]) e0 e20 hp)
  refine y_iconst (pc := 93) (x := 1) o dX16_slats_93 (by decide) ?_
  refine y_goto (pc := 94) (tgt := 98) o dX16_slats_94 rfl ?_
  refine y_iconst (pc := 98) (x := 2) o dX16_slats_98 (by decide) ?_
  refine z_callV (pc := 99) (k := 0) (n := 0) (k' := 0) (n' := 0) o (b := ad (20, 0, 0)) (As := [.int (1), .int (2)]) (rest := []) (kFailsT hR h5 2 (by decide)) ln_X16_74 dX16_slats_99 (z_rc (ci := 20) (K := (20, 0, 0)) rfl (gl_20 hR) rfl) rfl rfl (Nat.le_of_ble_eq_true rfl) ⟨by decide, by decide⟩ ⟨rfl, rfl⟩ ⟨by decide, by decide⟩ rfl gq_nox2 ?_
  refine y_if_eq (pc := 102) (tgt := 107) o dX16_slats_102 rfl (fun b36 => absurd b36 (by decide)) (fun (b36 : ¬ 1 = 0) => ?_)
  refine y_iconst (pc := 105) (x := -1) o dX16_slats_105 (by decide) ?_
  exact y_iret (pc := 106) o dX16_slats_106 rfl (vp_nar_int _) (by decide) (by decide) (fun h hp => gP_thr (k := 2) (by simp +decide only [F_slats, b1, b18, b21, b24, b27, gsz_t b32, gtc0, gtc1, gtc2, gtc3, gtc4, not_true_eq_false, not_false_eq_true, if_true, if_false, or_true, true_or, or_false, false_or, and_true, true_and, and_false, false_and, or_self, and_self, eq_self, Bool.false_eq_true, ne_eq, reduceIte]) (by decide) hp)

theorem r_order {κ : gq_K} {ad : gKey → Nat} {C Rp R : gG} {T : List (Nat × va_E)} {n : Nat} (hb : gup Rp (0, 0, 0) 5 0 = R) (hI : gI n R) (hn : n ≤ 512) (a : Int32) (b : Int32) (c : Int32) : gq_C κ mX16_order [.ref (ad (20, 0, 0)), .int (a), .int (b), .int (c)] (gR κ ad (C, Rp) T) (gP κ ad C T (F_order R a b c)) (gq_no) := by
  refine gq_enter (by decide +kernel) rfl (Nat.le_of_ble_eq_true rfl) rfl (fun f o => ?_)
  have hR := hI.fix
  have hBR := hI.cnt
  have hRp : gfix Rp.2 := by rw [← hb] at hR; exact hR
  have h5 : R.1 (0, 0, 0) 5 = 0 := by rw [← hb]; exact gup_v _ _ _ _
  refine y_aload_n (pc := 0) o dX16_order_0 rfl ?_
  refine z_callVv (pc := 1) (k := 0) (n := 0) (k' := 0) (n' := 0) o (b := ad (20, 0, 0)) (As := []) (rest := []) (kBegins hRp) ln_X16_69 dX16_order_1 (z_rc (ci := 20) (K := (20, 0, 0)) rfl (gl_20 hRp) rfl) rfl rfl (Nat.le_of_ble_eq_true rfl) ⟨by decide, by decide⟩ ⟨rfl, rfl⟩ ⟨by decide, by decide⟩ rfl gq_nox2 ?_
  rw [hb]
  refine y_aload_n (pc := 4) o dX16_order_4 rfl ?_
  refine y_iload_n (pc := 5) o dX16_order_5 rfl ?_
  refine y_i2l (pc := 6) o dX16_order_6 ?_
  refine y_lconst (pc := 7) (x := 0) o dX16_order_7 (by decide) ?_
  refine y_ldc2 (pc := 8) o dX16_order_8 qw_1683 ?_
  refine z_callS (pc := 11) (k := 0) (n := 0) (k' := 0) (n' := 0) o (As := [.long (a.toInt64), .long (0), .long (19)]) (rest := [.ref (ad (20, 0, 0))]) (kIn a 0 19) ln_X16_13 dX16_order_11 rfl rfl (Nat.le_of_ble_eq_true rfl) ⟨by decide, by decide⟩ ⟨rfl, rfl⟩ ⟨by decide, by decide⟩ rfl gq_nox2 ?_
  refine z_beq (pc := 14) (tgt := 45) o dX16_order_14 rfl (fun (b1 : ¬ (gin 0 a 19 = true)) => ?_) (fun (b1 : gin 0 a 19 = true) => ?_)
  · refine y_iconst (pc := 45) (x := 1) o dX16_order_45 (by decide) ?_
    refine y_goto (pc := 46) (tgt := 50) o dX16_order_46 rfl ?_
    refine y_iconst (pc := 50) (x := 1) o dX16_order_50 (by decide) ?_
    refine z_callV (pc := 51) (k := 0) (n := 0) (k' := 0) (n' := 0) o (b := ad (20, 0, 0)) (As := [.int (1), .int (1)]) (rest := []) (kFailsT hR h5 1 (by decide)) ln_X16_74 dX16_order_51 (z_rc (ci := 20) (K := (20, 0, 0)) rfl (gl_20 hR) rfl) rfl rfl (Nat.le_of_ble_eq_true rfl) ⟨by decide, by decide⟩ ⟨rfl, rfl⟩ ⟨by decide, by decide⟩ rfl gq_nox2 ?_
    refine y_if_ne (pc := 54) (tgt := 84) o dX16_order_54 rfl (fun (b2 : ¬ 1 = 0) => ?_) (fun b2 => absurd b2 (by decide))
    refine y_iconst (pc := 84) (x := -1) o dX16_order_84 (by decide) ?_
    exact y_iret (pc := 85) o dX16_order_85 rfl (vp_nar_int _) (by decide) (by decide) (fun h hp => gP_thr (k := 1) (by simp +decide only [F_order, b1, gtc0, gtc1, gtc2, gtc3, gtc4, not_true_eq_false, not_false_eq_true, if_true, if_false, or_true, true_or, or_false, false_or, and_true, true_and, and_false, false_and, or_self, and_self, eq_self, Bool.false_eq_true, ne_eq, reduceIte]) (by decide) hp)
  refine y_iload_n (pc := 17) o dX16_order_17 rfl ?_
  refine y_i2l (pc := 18) o dX16_order_18 ?_
  refine y_lconst (pc := 19) (x := 1) o dX16_order_19 (by decide) ?_
  refine y_ldc2 (pc := 20) o dX16_order_20 qw_1401 ?_
  refine z_callS (pc := 23) (k := 0) (n := 0) (k' := 0) (n' := 0) o (As := [.long (b.toInt64), .long (1), .long (9)]) (rest := [.ref (ad (20, 0, 0))]) (kIn b 1 9) ln_X16_13 dX16_order_23 rfl rfl (Nat.le_of_ble_eq_true rfl) ⟨by decide, by decide⟩ ⟨rfl, rfl⟩ ⟨by decide, by decide⟩ rfl gq_nox2 ?_
  refine z_beq (pc := 26) (tgt := 45) o dX16_order_26 rfl (fun (b3 : ¬ (gin 1 b 9 = true)) => ?_) (fun (b3 : gin 1 b 9 = true) => ?_)
  · refine y_iconst (pc := 45) (x := 1) o dX16_order_45 (by decide) ?_
    refine y_goto (pc := 46) (tgt := 50) o dX16_order_46 rfl ?_
    refine y_iconst (pc := 50) (x := 1) o dX16_order_50 (by decide) ?_
    refine z_callV (pc := 51) (k := 0) (n := 0) (k' := 0) (n' := 0) o (b := ad (20, 0, 0)) (As := [.int (1), .int (1)]) (rest := []) (kFailsT hR h5 1 (by decide)) ln_X16_74 dX16_order_51 (z_rc (ci := 20) (K := (20, 0, 0)) rfl (gl_20 hR) rfl) rfl rfl (Nat.le_of_ble_eq_true rfl) ⟨by decide, by decide⟩ ⟨rfl, rfl⟩ ⟨by decide, by decide⟩ rfl gq_nox2 ?_
    refine y_if_ne (pc := 54) (tgt := 84) o dX16_order_54 rfl (fun (b4 : ¬ 1 = 0) => ?_) (fun b4 => absurd b4 (by decide))
    refine y_iconst (pc := 84) (x := -1) o dX16_order_84 (by decide) ?_
    exact y_iret (pc := 85) o dX16_order_85 rfl (vp_nar_int _) (by decide) (by decide) (fun h hp => gP_thr (k := 1) (by simp +decide only [F_order, b1, b3, gtc0, gtc1, gtc2, gtc3, gtc4, not_true_eq_false, not_false_eq_true, if_true, if_false, or_true, true_or, or_false, false_or, and_true, true_and, and_false, false_and, or_self, and_self, eq_self, Bool.false_eq_true, ne_eq, reduceIte]) (by decide) hp)
  refine y_iload_n (pc := 29) o dX16_order_29 rfl ?_
  refine y_i2l (pc := 30) o dX16_order_30 ?_
  refine y_aload_n (pc := 31) o dX16_order_31 rfl ?_
  refine z_get (pc := 32) (K := (20, 0, 0)) (v := .int (R.1 (0, 0, 0) 0)) o fl_X16_78 dX16_order_32 (gl_20 hR) rfl rfl ?_
  refine y_i2l (pc := 35) o dX16_order_35 ?_
  refine y_ldc2 (pc := 36) o dX16_order_36 qw_1768 ?_
  refine z_callS (pc := 39) (k := 0) (n := 0) (k' := 0) (n' := 0) o (As := [.long (c.toInt64), .long ((R.1 (0, 0, 0) 0).toInt64), .long (9999)]) (rest := [.ref (ad (20, 0, 0))]) (kIn c (R.1 (0, 0, 0) 0) 9999) ln_X16_13 dX16_order_39 rfl rfl (Nat.le_of_ble_eq_true rfl) ⟨by decide, by decide⟩ ⟨rfl, rfl⟩ ⟨by decide, by decide⟩ rfl gq_nox2 ?_
  by_cases f5 : gin 0 c 9999 = true
  · by_cases f6 : c < R.1 (0, 0, 0) 0
    · rw [gb_f (fun z => (gin_iff.mp z).1 f6)]
      refine y_if_ne (pc := 42) (tgt := 49) o dX16_order_42 rfl (fun b7 => absurd b7 (by decide)) (fun (b7 : 0 = 0) => ?_)
      refine y_iconst (pc := 45) (x := 1) o dX16_order_45 (by decide) ?_
      refine y_goto (pc := 46) (tgt := 50) o dX16_order_46 rfl ?_
      refine y_iconst (pc := 50) (x := 1) o dX16_order_50 (by decide) ?_
      refine z_callV (pc := 51) (k := 0) (n := 0) (k' := 0) (n' := 0) o (b := ad (20, 0, 0)) (As := [.int (1), .int (1)]) (rest := []) (kFailsT hR h5 1 (by decide)) ln_X16_74 dX16_order_51 (z_rc (ci := 20) (K := (20, 0, 0)) rfl (gl_20 hR) rfl) rfl rfl (Nat.le_of_ble_eq_true rfl) ⟨by decide, by decide⟩ ⟨rfl, rfl⟩ ⟨by decide, by decide⟩ rfl gq_nox2 ?_
      refine y_if_ne (pc := 54) (tgt := 84) o dX16_order_54 rfl (fun (b8 : ¬ 1 = 0) => ?_) (fun b8 => absurd b8 (by decide))
      refine y_iconst (pc := 84) (x := -1) o dX16_order_84 (by decide) ?_
      exact y_iret (pc := 85) o dX16_order_85 rfl (vp_nar_int _) (by decide) (by decide) (fun h hp => gP_thr (k := 1) (by simp +decide only [F_order, b1, b3, f5, f6, gtc0, gtc1, gtc2, gtc3, gtc4, not_true_eq_false, not_false_eq_true, if_true, if_false, or_true, true_or, or_false, false_or, and_true, true_and, and_false, false_and, or_self, and_self, eq_self, Bool.false_eq_true, ne_eq, reduceIte]) (by decide) hp)
    rw [gb_t (gin_t f6 (gin_iff.mp f5).2)]
    refine y_if_ne (pc := 42) (tgt := 49) o dX16_order_42 rfl (fun (b9 : ¬ 1 = 0) => ?_) (fun b9 => absurd b9 (by decide))
    refine y_iconst (pc := 49) (x := 0) o dX16_order_49 (by decide) ?_
    refine y_iconst (pc := 50) (x := 1) o dX16_order_50 (by decide) ?_
    refine z_callV (pc := 51) (k := 0) (n := 0) (k' := 0) (n' := 0) o (b := ad (20, 0, 0)) (As := [.int (0), .int (1)]) (rest := []) (kFailsF hR h5 1) ln_X16_74 dX16_order_51 (z_rc (ci := 20) (K := (20, 0, 0)) rfl (gl_20 hR) rfl) rfl rfl (Nat.le_of_ble_eq_true rfl) ⟨by decide, by decide⟩ ⟨rfl, rfl⟩ ⟨by decide, by decide⟩ rfl gq_nox2 ?_
    refine y_if_ne (pc := 54) (tgt := 84) o dX16_order_54 rfl (fun b10 => absurd b10 (by decide)) (fun (b10 : 0 = 0) => ?_)
    refine y_aload_n (pc := 57) o dX16_order_57 rfl ?_
    refine y_aload_n (pc := 58) o dX16_order_58 rfl ?_
    refine z_get (pc := 59) (K := (20, 0, 0)) (v := .ref (ad (24, 6, 0))) o fl_X16_63 dX16_order_59 (gl_20 hR) rfl rfl ?_
    refine z_callF (pc := 62) (k := 0) (n := 0) (k' := 0) (n' := 0) (ci := 3) o (b := ad (24, 6, 0)) (As := []) (rest := [.ref (ad (20, 0, 0))]) (sizeR (l := 6) (g := 0) (gl_24_6 hR)) rfl lf_X16_7 dX16_order_62 (fun h hr => ⟨_, ghdr_R (R := R) (gl_24_6 hR) hr⟩) rfl rfl (Nat.le_of_ble_eq_true rfl) ⟨by decide, by decide⟩ ⟨rfl, rfl⟩ ⟨by decide, by decide⟩ ?_
    refine y_bipush (pc := 67) (x := 12) o dX16_order_67 (by decide) ?_
    refine y_icmp_ne (pc := 69) (tgt := 76) o dX16_order_69 rfl (fun (b11 : ¬ (Int32.ofNat (R.2 12 0)) = 12) => ?_) (fun (b11 : (Int32.ofNat (R.2 12 0)) = 12) => ?_)
    · refine y_iconst (pc := 76) (x := 0) o dX16_order_76 (by decide) ?_
      refine y_iconst (pc := 77) (x := 2) o dX16_order_77 (by decide) ?_
      refine z_callV (pc := 78) (k := 0) (n := 0) (k' := 0) (n' := 0) o (b := ad (20, 0, 0)) (As := [.int (0), .int (2)]) (rest := []) (kFailsF hR h5 2) ln_X16_74 dX16_order_78 (z_rc (ci := 20) (K := (20, 0, 0)) rfl (gl_20 hR) rfl) rfl rfl (Nat.le_of_ble_eq_true rfl) ⟨by decide, by decide⟩ ⟨rfl, rfl⟩ ⟨by decide, by decide⟩ rfl gq_nox2 ?_
      refine y_if_eq (pc := 81) (tgt := 86) o dX16_order_81 rfl (fun (b12 : 0 = 0) => ?_) (fun b12 => absurd b12 (by rw [b10]; decide))
      refine y_aload_n (pc := 86) o dX16_order_86 rfl ?_
      refine z_get (pc := 87) (K := (20, 0, 0)) (v := .ref (ad (24, 6, 0))) o fl_X16_63 dX16_order_87 (gl_20 hR) rfl rfl ?_
      refine y_iconst (pc := 90) (x := 4) o dX16_order_90 (by decide) ?_
      refine z_newI (pc := 91) (k := 0) (n := 0) (N := 4) o dX16_order_91 (by decide) (by decide) (by decide) (by decide) (by decide) (fun q13 => ?_)
      refine y_dup (pc := 93) o dX16_order_93 rfl ?_
      refine y_iconst (pc := 94) (x := 0) o dX16_order_94 (by decide) ?_
      refine y_iload_n (pc := 95) o dX16_order_95 rfl ?_
      refine z_iastT (pc := 96) (i := 0) (x := a) (T' := (q13, .inl (κ.2.1 0, 4, .inl (upd (fun _ => 0) (0 : Int32).toNatClampNeg a))) :: T) o 0 dX16_order_96 rfl (by unfold vp_in; decide) rfl ?_
      refine y_dup (pc := 97) o dX16_order_97 rfl ?_
      refine y_iconst (pc := 98) (x := 1) o dX16_order_98 (by decide) ?_
      refine y_iload_n (pc := 99) o dX16_order_99 rfl ?_
      refine z_iastT (pc := 100) (i := 1) (x := b) (T' := (q13, .inl (κ.2.1 0, 4, .inl (upd (upd (fun _ => 0) (0 : Int32).toNatClampNeg a) (1 : Int32).toNatClampNeg b))) :: T) o 0 dX16_order_100 rfl (by unfold vp_in; decide) rfl ?_
      refine y_dup (pc := 101) o dX16_order_101 rfl ?_
      refine y_iconst (pc := 102) (x := 2) o dX16_order_102 (by decide) ?_
      refine y_iload_n (pc := 103) o dX16_order_103 rfl ?_
      refine z_iastT (pc := 104) (i := 2) (x := c) (T' := (q13, .inl (κ.2.1 0, 4, .inl (upd (upd (upd (fun _ => 0) (0 : Int32).toNatClampNeg a) (1 : Int32).toNatClampNeg b) (2 : Int32).toNatClampNeg c))) :: T) o 0 dX16_order_104 rfl (by unfold vp_in; decide) rfl ?_
      refine y_dup (pc := 105) o dX16_order_105 rfl ?_
      refine y_iconst (pc := 106) (x := 3) o dX16_order_106 (by decide) ?_
      refine y_iconst (pc := 107) (x := 0) o dX16_order_107 (by decide) ?_
      refine z_iastT (pc := 108) (i := 3) (x := 0) (T' := (q13, .inl (κ.2.1 0, 4, .inl (upd (upd (upd (upd (fun _ => 0) (0 : Int32).toNatClampNeg a) (1 : Int32).toNatClampNeg b) (2 : Int32).toNatClampNeg c) (3 : Int32).toNatClampNeg 0))) :: T) o 0 dX16_order_108 rfl (by unfold vp_in; decide) rfl ?_
      refine y_callF (pc := 109) (ci := 3) (k := 1) (n := 4) o (b := ad (24, 6, 0)) (As := [.ref q13]) (rest := []) (addRa (C := C) (R := R) (l := 6) (g := 0) (n := R.2 12 0) (row := (glist [a, b, c, 0])) (a := 12) rfl (gl_24_6 hR) (Or.inr rfl) rfl (hBR 6 0 (by decide)) nA4_12 (fun K hK => by cases hK)) rfl lf_X16_107 dX16_order_109 (fun h hr => ⟨_, ghdr_R (R := R) (gl_24_6 hR) hr⟩) rfl rfl (Nat.le_of_ble_eq_true rfl) ⟨by decide, by decide⟩ ⟨by decide, by decide⟩ (fun _ e => e) (fun _ _ z => z) (fun v => y_and fun ev => y_ex fun ad14 => y_and fun had => y_and fun hadq => ?_)
      subst ev
      have e0 : ad14 (0, 0, 0) = ad (0, 0, 0) := had (0, 0, 0) (by simp) (by simp)
      have e20 : ad14 (20, 0, 0) = ad (20, 0, 0) := had (20, 0, 0) (by simp) (by simp)
      refine z_st (st' := [.int (1)]) rfl ?_
      rw [← e20]
      refine y_pop (pc := 114) o dX16_order_114 rfl ?_
      refine y_aload_n (pc := 115) o dX16_order_115 rfl ?_
      refine z_get (pc := 116) (K := (20, 0, 0)) (v := .ref (ad14 (24, 6, 0))) o fl_X16_63 dX16_order_116 (gl_20 (gfix_new (a := 12) (by decide) hR)) rfl rfl ?_
      refine z_callF (pc := 119) (k := 2) (n := 260) (k' := 2) (n' := 260) (ci := 3) o (b := ad14 (24, 6, 0)) (As := []) (rest := []) (sizeR (l := 6) (g := 0) (gl_24_6 (gfix_new (a := 12) (by decide) hR))) rfl lf_X16_7 dX16_order_119 (fun h hr => ⟨_, ghdr_R (R := (gnew R (12, 0, (R.2 12 0)) ((glist [a, b, c, 0])))) (gl_24_6 (gfix_new (a := 12) (by decide) hR)) hr⟩) rfl rfl (Nat.le_of_ble_eq_true rfl) ⟨by decide, by decide⟩ ⟨rfl, rfl⟩ ⟨by decide, by decide⟩ ?_
      refine z_top (w := .int (Int32.ofNat (R.2 12 0 + 1))) (congrArg (fun z => Value.int (Int32.ofNat z)) (gnew_n _ _)) ?_
      refine y_iconst (pc := 124) (x := 1) o dX16_order_124 (by decide) ?_
      refine y_isub (pc := 125) o dX16_order_125 ?_
      exact y_iret (pc := 126) o dX16_order_126 rfl (vp_nar_int _) (by decide) (by decide) (fun h hp => gP_mk (by simp +decide only [F_order, b1, b3, f5, f6, gsz_f (k := 12) 12 rfl (by decide) hI.1.2.1.2.2.2.2.2.2 b11, gtc0, gtc1, gtc2, gtc3, gtc4, not_true_eq_false, not_false_eq_true, if_true, if_false, or_true, true_or, or_false, false_or, and_true, true_and, and_false, false_and, or_self, and_self, eq_self, Bool.false_eq_true, ne_eq, reduceIte]) e0 e20 hp)
    refine y_iconst (pc := 72) (x := 1) o dX16_order_72 (by decide) ?_
    refine y_goto (pc := 73) (tgt := 77) o dX16_order_73 rfl ?_
    refine y_iconst (pc := 77) (x := 2) o dX16_order_77 (by decide) ?_
    refine z_callV (pc := 78) (k := 0) (n := 0) (k' := 0) (n' := 0) o (b := ad (20, 0, 0)) (As := [.int (1), .int (2)]) (rest := []) (kFailsT hR h5 2 (by decide)) ln_X16_74 dX16_order_78 (z_rc (ci := 20) (K := (20, 0, 0)) rfl (gl_20 hR) rfl) rfl rfl (Nat.le_of_ble_eq_true rfl) ⟨by decide, by decide⟩ ⟨rfl, rfl⟩ ⟨by decide, by decide⟩ rfl gq_nox2 ?_
    refine y_if_eq (pc := 81) (tgt := 86) o dX16_order_81 rfl (fun b15 => absurd b15 (by decide)) (fun (b15 : ¬ 1 = 0) => ?_)
    refine y_iconst (pc := 84) (x := -1) o dX16_order_84 (by decide) ?_
    exact y_iret (pc := 85) o dX16_order_85 rfl (vp_nar_int _) (by decide) (by decide) (fun h hp => gP_thr (k := 2) (by simp +decide only [F_order, b1, b3, f5, f6, gsz_t b11, gtc0, gtc1, gtc2, gtc3, gtc4, not_true_eq_false, not_false_eq_true, if_true, if_false, or_true, true_or, or_false, false_or, and_true, true_and, and_false, false_and, or_self, and_self, eq_self, Bool.false_eq_true, ne_eq, reduceIte]) (by decide) hp)
  rw [gb_f (fun z => f5 (gin_t (fun q => (gin_iff.mp z).1 (Int32.lt_of_lt_of_le q (gle.mpr (gin_iff.mp hI.2.2.1.1).1))) (gin_iff.mp z).2))]
  refine y_if_ne (pc := 42) (tgt := 49) o dX16_order_42 rfl (fun b16 => absurd b16 (by decide)) (fun (b16 : 0 = 0) => ?_)
  refine y_iconst (pc := 45) (x := 1) o dX16_order_45 (by decide) ?_
  refine y_goto (pc := 46) (tgt := 50) o dX16_order_46 rfl ?_
  refine y_iconst (pc := 50) (x := 1) o dX16_order_50 (by decide) ?_
  refine z_callV (pc := 51) (k := 0) (n := 0) (k' := 0) (n' := 0) o (b := ad (20, 0, 0)) (As := [.int (1), .int (1)]) (rest := []) (kFailsT hR h5 1 (by decide)) ln_X16_74 dX16_order_51 (z_rc (ci := 20) (K := (20, 0, 0)) rfl (gl_20 hR) rfl) rfl rfl (Nat.le_of_ble_eq_true rfl) ⟨by decide, by decide⟩ ⟨rfl, rfl⟩ ⟨by decide, by decide⟩ rfl gq_nox2 ?_
  refine y_if_ne (pc := 54) (tgt := 84) o dX16_order_54 rfl (fun (b17 : ¬ 1 = 0) => ?_) (fun b17 => absurd b17 (by decide))
  refine y_iconst (pc := 84) (x := -1) o dX16_order_84 (by decide) ?_
  exact y_iret (pc := 85) o dX16_order_85 rfl (vp_nar_int _) (by decide) (by decide) (fun h hp => gP_thr (k := 1) (by simp +decide only [F_order, b1, b3, f5, gtc0, gtc1, gtc2, gtc3, gtc4, not_true_eq_false, not_false_eq_true, if_true, if_false, or_true, true_or, or_false, false_or, and_true, true_and, and_false, false_and, or_self, and_self, eq_self, Bool.false_eq_true, ne_eq, reduceIte]) (by decide) hp)

theorem r_ship {κ : gq_K} {ad : gKey → Nat} {C Rp R : gG} {T : List (Nat × va_E)} {n : Nat} (hb : gup Rp (0, 0, 0) 5 0 = R) (hI : gI n R) (hn : n ≤ 512) (a : Int32) (b : Int32) : gq_C κ mX16_ship [.ref (ad (20, 0, 0)), .int (a), .int (b)] (gR κ ad (C, Rp) T) (gP κ ad C T (F_ship R a b)) (gq_no) := by
  refine gq_enter (by decide +kernel) rfl (Nat.le_of_ble_eq_true rfl) rfl (fun f o => ?_)
  have hR := hI.fix
  have hBR := hI.cnt
  have hRp : gfix Rp.2 := by rw [← hb] at hR; exact hR
  have h5 : R.1 (0, 0, 0) 5 = 0 := by rw [← hb]; exact gup_v _ _ _ _
  refine y_aload_n (pc := 0) o dX16_ship_0 rfl ?_
  refine z_callVv (pc := 1) (k := 0) (n := 0) (k' := 0) (n' := 0) o (b := ad (20, 0, 0)) (As := []) (rest := []) (kBegins hRp) ln_X16_69 dX16_ship_1 (z_rc (ci := 20) (K := (20, 0, 0)) rfl (gl_20 hRp) rfl) rfl rfl (Nat.le_of_ble_eq_true rfl) ⟨by decide, by decide⟩ ⟨rfl, rfl⟩ ⟨by decide, by decide⟩ rfl gq_nox2 ?_
  rw [hb]
  refine y_aload_n (pc := 4) o dX16_ship_4 rfl ?_
  refine y_aload_n (pc := 5) o dX16_ship_5 rfl ?_
  refine z_get (pc := 6) (K := (20, 0, 0)) (v := .ref (ad (24, 6, 0))) o fl_X16_63 dX16_ship_6 (gl_20 hR) rfl rfl ?_
  refine y_iload_n (pc := 9) o dX16_ship_9 rfl ?_
  refine z_callS (pc := 10) (k := 0) (n := 0) (k' := 0) (n' := 0) o (As := [.ref (ad (24, 6, 0)), .int (a)]) (rest := [.ref (ad (20, 0, 0))]) (kIsOf (l := 6) (g := 0) (gl_24_6 hR) hBR a) ln_X16_97 dX16_ship_10 rfl rfl (Nat.le_of_ble_eq_true rfl) ⟨by decide, by decide⟩ ⟨rfl, rfl⟩ ⟨by decide, by decide⟩ rfl gq_nox2 ?_
  refine z_beq (pc := 13) (tgt := 27) o dX16_ship_13 rfl (fun (b1 : ¬ (gix (R.2 12 0) a = true)) => ?_) (fun (b1 : gix (R.2 12 0) a = true) => ?_)
  · refine y_iconst (pc := 27) (x := 1) o dX16_ship_27 (by decide) ?_
    refine y_goto (pc := 28) (tgt := 32) o dX16_ship_28 rfl ?_
    refine y_iconst (pc := 32) (x := 1) o dX16_ship_32 (by decide) ?_
    refine z_callV (pc := 33) (k := 0) (n := 0) (k' := 0) (n' := 0) o (b := ad (20, 0, 0)) (As := [.int (1), .int (1)]) (rest := []) (kFailsT hR h5 1 (by decide)) ln_X16_74 dX16_ship_33 (z_rc (ci := 20) (K := (20, 0, 0)) rfl (gl_20 hR) rfl) rfl rfl (Nat.le_of_ble_eq_true rfl) ⟨by decide, by decide⟩ ⟨rfl, rfl⟩ ⟨by decide, by decide⟩ rfl gq_nox2 ?_
    refine y_if_eq (pc := 36) (tgt := 41) o dX16_ship_36 rfl (fun b2 => absurd b2 (by decide)) (fun (b2 : ¬ 1 = 0) => ?_)
    refine y_iconst (pc := 39) (x := -1) o dX16_ship_39 (by decide) ?_
    exact y_iret (pc := 40) o dX16_ship_40 rfl (vp_nar_int _) (by decide) (by decide) (fun h hp => gP_thr (k := 1) (by simp +decide only [F_ship, b1, gtc0, gtc1, gtc2, gtc3, gtc4, not_true_eq_false, not_false_eq_true, if_true, if_false, or_true, true_or, or_false, false_or, and_true, true_and, and_false, false_and, or_self, and_self, eq_self, Bool.false_eq_true, ne_eq, reduceIte]) (by decide) hp)
  refine y_aload_n (pc := 16) o dX16_ship_16 rfl ?_
  refine z_get (pc := 17) (K := (20, 0, 0)) (v := .ref (ad (24, 5, 0))) o fl_X16_60 dX16_ship_17 (gl_20 hR) rfl rfl ?_
  refine y_iload_n (pc := 20) o dX16_ship_20 rfl ?_
  refine z_callS (pc := 21) (k := 0) (n := 0) (k' := 0) (n' := 0) o (As := [.ref (ad (24, 5, 0)), .int (b)]) (rest := [.ref (ad (20, 0, 0))]) (kIsOf (l := 5) (g := 0) (gl_24_5 hR) hBR b) ln_X16_97 dX16_ship_21 rfl rfl (Nat.le_of_ble_eq_true rfl) ⟨by decide, by decide⟩ ⟨rfl, rfl⟩ ⟨by decide, by decide⟩ rfl gq_nox2 ?_
  refine z_bne (pc := 24) (tgt := 31) o dX16_ship_24 rfl (fun (b3 : gix (R.2 11 0) b = true) => ?_) (fun (b3 : ¬ (gix (R.2 11 0) b = true)) => ?_)
  · refine y_iconst (pc := 31) (x := 0) o dX16_ship_31 (by decide) ?_
    refine y_iconst (pc := 32) (x := 1) o dX16_ship_32 (by decide) ?_
    refine z_callV (pc := 33) (k := 0) (n := 0) (k' := 0) (n' := 0) o (b := ad (20, 0, 0)) (As := [.int (0), .int (1)]) (rest := []) (kFailsF hR h5 1) ln_X16_74 dX16_ship_33 (z_rc (ci := 20) (K := (20, 0, 0)) rfl (gl_20 hR) rfl) rfl rfl (Nat.le_of_ble_eq_true rfl) ⟨by decide, by decide⟩ ⟨rfl, rfl⟩ ⟨by decide, by decide⟩ rfl gq_nox2 ?_
    refine y_if_eq (pc := 36) (tgt := 41) o dX16_ship_36 rfl (fun (b4 : 0 = 0) => ?_) (fun b4 => absurd b4 (by decide))
    refine y_aload_n (pc := 41) o dX16_ship_41 rfl ?_
    refine z_get (pc := 42) (K := (20, 0, 0)) (v := .ref (ad (24, 6, 0))) o fl_X16_63 dX16_ship_42 (gl_20 hR) rfl rfl ?_
    refine y_iload_n (pc := 45) o dX16_ship_45 rfl ?_
    refine z_callF (pc := 46) (k := 0) (n := 0) (k' := 0) (n' := 0) (ci := 3) o (b := ad (24, 6, 0)) (As := [.int (a)]) (rest := []) (getR (l := 6) (g := 0) (gl_24_6 hR) (hBR 6 0 (by decide)) b1) rfl lf_X16_114 dX16_ship_46 (fun h hr => ⟨_, ghdr_R (R := R) (gl_24_6 hR) hr⟩) rfl rfl (Nat.le_of_ble_eq_true rfl) ⟨by decide, by decide⟩ ⟨rfl, rfl⟩ ⟨by decide, by decide⟩ ?_
    refine z_castI (pc := 51) (K := (32, 0, a.toNatClampNeg)) (N := 4) o qw_1435 dX16_ship_51 (gl_32 (gix_lt (Nat.le_trans (hBR 6 0 (by decide)) (by decide)) b1)) rfl ?_
    refine y_astore_n (pc := 54) (i := 3) (lv' := [(3, .ref (ad (32, 0, a.toNatClampNeg))), (0, .ref (ad (20, 0, 0))), (1, .int (a)), (2, .int (b))]) o dX16_ship_54 rfl (by decide) rfl ?_
    refine y_aload_n (pc := 55) o dX16_ship_55 rfl ?_
    refine z_get (pc := 56) (K := (20, 0, 0)) (v := .ref (ad (24, 5, 0))) o fl_X16_60 dX16_ship_56 (gl_20 hR) rfl rfl ?_
    refine y_iload_n (pc := 59) o dX16_ship_59 rfl ?_
    refine z_callF (pc := 60) (k := 0) (n := 0) (k' := 0) (n' := 0) (ci := 3) o (b := ad (24, 5, 0)) (As := [.int (b)]) (rest := []) (getR (l := 5) (g := 0) (gl_24_5 hR) (hBR 5 0 (by decide)) b3) rfl lf_X16_114 dX16_ship_60 (fun h hr => ⟨_, ghdr_R (R := R) (gl_24_5 hR) hr⟩) rfl rfl (Nat.le_of_ble_eq_true rfl) ⟨by decide, by decide⟩ ⟨rfl, rfl⟩ ⟨by decide, by decide⟩ ?_
    refine z_cast (pc := 65) (ci := 17) (K := (31, 0, b.toNatClampNeg)) o rfl qw_1684 dX16_ship_65 (gl_31 (gix_lt (Nat.le_trans (hBR 5 0 (by decide)) (by decide)) b3)) rfl ?_
    refine y_astore (pc := 68) (i := 4) (lv' := [(4, .ref (ad (31, 0, b.toNatClampNeg))), (3, .ref (ad (32, 0, a.toNatClampNeg))), (0, .ref (ad (20, 0, 0))), (1, .int (a)), (2, .int (b))]) o dX16_ship_68 (by decide) rfl ?_
    refine y_aload_n (pc := 70) o dX16_ship_70 rfl ?_
    refine y_aload (pc := 71) o dX16_ship_71 rfl ?_
    refine z_callV (pc := 73) (k := 0) (n := 0) (k' := 1) (n' := 4) o (b := ad (31, 0, b.toNatClampNeg)) (As := []) (rest := [.ref (ad (20, 0, 0))]) (kMany hR hBR b.toNatClampNeg (gix_lt (Nat.le_trans (hBR 5 0 (by decide)) (by decide)) b3) (hI.2.2.2.2.2.2.1 _ (gix_lt (Nat.le_trans (hBR 5 0 (by decide)) (by decide)) b3)).1) ln_X16_289 dX16_ship_73 (z_rc (ci := 17) (K := (31, 0, b.toNatClampNeg)) rfl (gl_31 (gix_lt (Nat.le_trans (hBR 5 0 (by decide)) (by decide)) b3)) rfl) rfl rfl (Nat.le_of_ble_eq_true rfl) ⟨by decide, by decide⟩ ⟨rfl, rfl⟩ ⟨by decide, by decide⟩ rfl gq_nox2 ?_
    refine y_sipush (pc := 76) (x := 144) o dX16_ship_76 (by decide) ?_
    refine y_icmp_lt (pc := 79) (tgt := 107) o dX16_ship_79 rfl (fun (b5 : (R.1 (11, 0, b.toNatClampNeg) 1) < 144) => ?_) (fun (b5 : ¬ (R.1 (11, 0, b.toNatClampNeg) 1) < 144) => ?_)
    · refine y_iconst (pc := 107) (x := 1) o dX16_ship_107 (by decide) ?_
      refine y_goto (pc := 108) (tgt := 112) o dX16_ship_108 rfl ?_
      refine y_iconst (pc := 112) (x := 2) o dX16_ship_112 (by decide) ?_
      refine z_callV (pc := 113) (k := 1) (n := 4) (k' := 1) (n' := 4) o (b := ad (20, 0, 0)) (As := [.int (1), .int (2)]) (rest := []) (kFailsT hR h5 2 (by decide)) ln_X16_74 dX16_ship_113 (z_rc (ci := 20) (K := (20, 0, 0)) rfl (gl_20 hR) rfl) rfl rfl (Nat.le_of_ble_eq_true rfl) ⟨by decide, by decide⟩ ⟨rfl, rfl⟩ ⟨by decide, by decide⟩ rfl gq_nox2 ?_
      refine y_if_eq (pc := 116) (tgt := 121) o dX16_ship_116 rfl (fun b6 => absurd b6 (by decide)) (fun (b6 : ¬ 1 = 0) => ?_)
      refine y_iconst (pc := 119) (x := -1) o dX16_ship_119 (by decide) ?_
      exact y_iret (pc := 120) o dX16_ship_120 rfl (vp_nar_int _) (by decide) (by decide) (fun h hp => gP_thr (k := 2) (by simp +decide only [F_ship, b1, b3, b5, gtc0, gtc1, gtc2, gtc3, gtc4, not_true_eq_false, not_false_eq_true, if_true, if_false, or_true, true_or, or_false, false_or, and_true, true_and, and_false, false_and, or_self, and_self, eq_self, Bool.false_eq_true, ne_eq, reduceIte]) (by decide) hp)
    refine y_aload (pc := 82) o dX16_ship_82 rfl ?_
    refine z_get (pc := 84) (K := (31, 0, b.toNatClampNeg)) (v := .int (R.1 (11, 0, b.toNatClampNeg) 0)) o fl_X16_284 dX16_ship_84 (gl_31 (gix_lt (Nat.le_trans (hBR 5 0 (by decide)) (by decide)) b3)) rfl rfl ?_
    refine y_aload_n (pc := 87) o dX16_ship_87 rfl ?_
    refine y_iconst (pc := 88) (x := 0) o dX16_ship_88 (by decide) ?_
    refine z_iald (pc := 89) (K := (32, 0, a.toNatClampNeg)) (i := 0) (v := R.1 (12, 0, a.toNatClampNeg) 0) o dX16_ship_89 (gl_32 (gix_lt (Nat.le_trans (hBR 6 0 (by decide)) (by decide)) b1)) rfl (by unfold vp_in; decide) rfl ?_
    refine y_icmp_ne (pc := 90) (tgt := 107) o dX16_ship_90 rfl (fun (b7 : ¬ (R.1 (11, 0, b.toNatClampNeg) 0) = (R.1 (12, 0, a.toNatClampNeg) 0)) => ?_) (fun (b7 : (R.1 (11, 0, b.toNatClampNeg) 0) = (R.1 (12, 0, a.toNatClampNeg) 0)) => ?_)
    · refine y_iconst (pc := 107) (x := 1) o dX16_ship_107 (by decide) ?_
      refine y_goto (pc := 108) (tgt := 112) o dX16_ship_108 rfl ?_
      refine y_iconst (pc := 112) (x := 2) o dX16_ship_112 (by decide) ?_
      refine z_callV (pc := 113) (k := 1) (n := 4) (k' := 1) (n' := 4) o (b := ad (20, 0, 0)) (As := [.int (1), .int (2)]) (rest := []) (kFailsT hR h5 2 (by decide)) ln_X16_74 dX16_ship_113 (z_rc (ci := 20) (K := (20, 0, 0)) rfl (gl_20 hR) rfl) rfl rfl (Nat.le_of_ble_eq_true rfl) ⟨by decide, by decide⟩ ⟨rfl, rfl⟩ ⟨by decide, by decide⟩ rfl gq_nox2 ?_
      refine y_if_eq (pc := 116) (tgt := 121) o dX16_ship_116 rfl (fun b8 => absurd b8 (by decide)) (fun (b8 : ¬ 1 = 0) => ?_)
      refine y_iconst (pc := 119) (x := -1) o dX16_ship_119 (by decide) ?_
      exact y_iret (pc := 120) o dX16_ship_120 rfl (vp_nar_int _) (by decide) (by decide) (fun h hp => gP_thr (k := 2) (by simp +decide only [F_ship, b1, b3, b5, b7, gtc0, gtc1, gtc2, gtc3, gtc4, not_true_eq_false, not_false_eq_true, if_true, if_false, or_true, true_or, or_false, false_or, and_true, true_and, and_false, false_and, or_self, and_self, eq_self, Bool.false_eq_true, ne_eq, reduceIte]) (by decide) hp)
    refine y_aload (pc := 93) o dX16_ship_93 rfl ?_
    refine z_get (pc := 95) (K := (31, 0, b.toNatClampNeg)) (v := .int (R.1 (11, 0, b.toNatClampNeg) 2)) o fl_X16_291 dX16_ship_95 (gl_31 (gix_lt (Nat.le_trans (hBR 5 0 (by decide)) (by decide)) b3)) rfl rfl ?_
    refine y_if_ne (pc := 98) (tgt := 107) o dX16_ship_98 rfl (fun (b9 : ¬ (R.1 (11, 0, b.toNatClampNeg) 2) = 0) => ?_) (fun (b9 : (R.1 (11, 0, b.toNatClampNeg) 2) = 0) => ?_)
    · refine y_iconst (pc := 107) (x := 1) o dX16_ship_107 (by decide) ?_
      refine y_goto (pc := 108) (tgt := 112) o dX16_ship_108 rfl ?_
      refine y_iconst (pc := 112) (x := 2) o dX16_ship_112 (by decide) ?_
      refine z_callV (pc := 113) (k := 1) (n := 4) (k' := 1) (n' := 4) o (b := ad (20, 0, 0)) (As := [.int (1), .int (2)]) (rest := []) (kFailsT hR h5 2 (by decide)) ln_X16_74 dX16_ship_113 (z_rc (ci := 20) (K := (20, 0, 0)) rfl (gl_20 hR) rfl) rfl rfl (Nat.le_of_ble_eq_true rfl) ⟨by decide, by decide⟩ ⟨rfl, rfl⟩ ⟨by decide, by decide⟩ rfl gq_nox2 ?_
      refine y_if_eq (pc := 116) (tgt := 121) o dX16_ship_116 rfl (fun b10 => absurd b10 (by decide)) (fun (b10 : ¬ 1 = 0) => ?_)
      refine y_iconst (pc := 119) (x := -1) o dX16_ship_119 (by decide) ?_
      exact y_iret (pc := 120) o dX16_ship_120 rfl (vp_nar_int _) (by decide) (by decide) (fun h hp => gP_thr (k := 2) (by simp +decide only [F_ship, b1, b3, b5, b7, b9, gtc0, gtc1, gtc2, gtc3, gtc4, not_true_eq_false, not_false_eq_true, if_true, if_false, or_true, true_or, or_false, false_or, and_true, true_and, and_false, false_and, or_self, and_self, eq_self, Bool.false_eq_true, ne_eq, reduceIte]) (by decide) hp)
    refine y_aload_n (pc := 101) o dX16_ship_101 rfl ?_
    refine y_iconst (pc := 102) (x := 1) o dX16_ship_102 (by decide) ?_
    refine z_iald (pc := 103) (K := (32, 0, a.toNatClampNeg)) (i := 1) (v := R.1 (12, 0, a.toNatClampNeg) 1) o dX16_ship_103 (gl_32 (gix_lt (Nat.le_trans (hBR 6 0 (by decide)) (by decide)) b1)) rfl (by unfold vp_in; decide) rfl ?_
    refine y_if_ne (pc := 104) (tgt := 111) o dX16_ship_104 rfl (fun (b11 : ¬ (R.1 (12, 0, a.toNatClampNeg) 1) = 0) => ?_) (fun (b11 : (R.1 (12, 0, a.toNatClampNeg) 1) = 0) => ?_)
    · refine y_iconst (pc := 111) (x := 0) o dX16_ship_111 (by decide) ?_
      refine y_iconst (pc := 112) (x := 2) o dX16_ship_112 (by decide) ?_
      refine z_callV (pc := 113) (k := 1) (n := 4) (k' := 1) (n' := 4) o (b := ad (20, 0, 0)) (As := [.int (0), .int (2)]) (rest := []) (kFailsF hR h5 2) ln_X16_74 dX16_ship_113 (z_rc (ci := 20) (K := (20, 0, 0)) rfl (gl_20 hR) rfl) rfl rfl (Nat.le_of_ble_eq_true rfl) ⟨by decide, by decide⟩ ⟨rfl, rfl⟩ ⟨by decide, by decide⟩ rfl gq_nox2 ?_
      refine y_if_eq (pc := 116) (tgt := 121) o dX16_ship_116 rfl (fun (b12 : 0 = 0) => ?_) (fun b12 => absurd b12 (by rw [b4]; decide))
      refine y_aload (pc := 121) o dX16_ship_121 rfl ?_
      refine y_iconst (pc := 123) (x := 1) o dX16_ship_123 (by decide) ?_
      refine z_putR (pc := 124) (K := (31, 0, b.toNatClampNeg)) (fd := 2) (x := 1) (B := (11, 0, b.toNatClampNeg)) o fw_X16_291 dX16_ship_124 (gl_31 (gix_lt (Nat.le_trans (hBR 5 0 (by decide)) (by decide)) b3)) (show 24 ≤ (31:Nat) by decide) rfl rfl (Nat.le_of_ble_eq_true rfl) rfl rfl rfl pR_31_2 ?_
      refine y_aload_n (pc := 127) o dX16_ship_127 rfl ?_
      refine y_iconst (pc := 128) (x := 1) o dX16_ship_128 (by decide) ?_
      refine y_dup2 (pc := 129) o dX16_ship_129 rfl rfl ?_
      refine z_iald (pc := 130) (K := (32, 0, a.toNatClampNeg)) (i := 1) (v := (gup R (11, 0, b.toNatClampNeg) 2 1).1 (12, 0, a.toNatClampNeg) 1) o dX16_ship_130 (gl_32 (gix_lt (Nat.le_trans (hBR 6 0 (by decide)) (by decide)) b1)) rfl (by unfold vp_in; decide) rfl ?_
      refine z_top (congrArg Value.int (gup_ff _ (show (1:Nat) ≠ 2 by decide))) ?_
      refine y_iconst (pc := 131) (x := 1) o dX16_ship_131 (by decide) ?_
      refine y_isub (pc := 132) o dX16_ship_132 ?_
      refine z_iastR (pc := 133) (K := (32, 0, a.toNatClampNeg)) (i := 1) (x := (R.1 (12, 0, a.toNatClampNeg) 1) - 1) (B := (12, 0, a.toNatClampNeg)) o dX16_ship_133 (gl_32 (gix_lt (Nat.le_trans (hBR 6 0 (by decide)) (by decide)) b1)) (show 24 ≤ (32:Nat) by decide) rfl (fun _ => rfl) (by unfold vp_in; decide) ?_
      refine y_aload_n (pc := 134) o dX16_ship_134 rfl ?_
      refine y_iconst (pc := 135) (x := 3) o dX16_ship_135 (by decide) ?_
      refine y_aload_n (pc := 136) o dX16_ship_136 rfl ?_
      refine z_get (pc := 137) (K := (20, 0, 0)) (v := .int ((gup (gup R (11, 0, b.toNatClampNeg) 2 1) (12, 0, a.toNatClampNeg) 1 ((R.1 (12, 0, a.toNatClampNeg) 1) - 1)).1 (0, 0, 0) 0)) o fl_X16_78 dX16_ship_137 (gl_20 hR) rfl rfl ?_
      refine z_top (congrArg Value.int (Eq.trans (gup_ff _ (show (0:Nat) ≠ 1 by decide)) (gup_ff _ (show (0:Nat) ≠ 2 by decide)))) ?_
      refine y_aload_n (pc := 140) o dX16_ship_140 rfl ?_
      refine y_iconst (pc := 141) (x := 2) o dX16_ship_141 (by decide) ?_
      refine z_iald (pc := 142) (K := (32, 0, a.toNatClampNeg)) (i := 2) (v := (gup (gup R (11, 0, b.toNatClampNeg) 2 1) (12, 0, a.toNatClampNeg) 1 ((R.1 (12, 0, a.toNatClampNeg) 1) - 1)).1 (12, 0, a.toNatClampNeg) 2) o dX16_ship_142 (gl_32 (gix_lt (Nat.le_trans (hBR 6 0 (by decide)) (by decide)) b1)) rfl (by unfold vp_in; decide) rfl ?_
      refine z_top (congrArg Value.int (Eq.trans (gup_vf _ (show (2:Nat) ≠ 1 by decide)) (gup_vc _ (show (12:Nat) ≠ 11 by decide)))) ?_
      refine z_icmp_le (pc := 143) (tgt := 150) o dX16_ship_143 rfl (fun (b13 : ¬ (R.1 (12, 0, a.toNatClampNeg) 2) < (R.1 (0, 0, 0) 0)) => ?_) (fun (b13 : (R.1 (12, 0, a.toNatClampNeg) 2) < (R.1 (0, 0, 0) 0)) => ?_)
      · refine y_aload_n (pc := 150) o dX16_ship_150 rfl ?_
        refine y_iconst (pc := 151) (x := 3) o dX16_ship_151 (by decide) ?_
        refine z_iald (pc := 152) (K := (32, 0, a.toNatClampNeg)) (i := 3) (v := (gup (gup R (11, 0, b.toNatClampNeg) 2 1) (12, 0, a.toNatClampNeg) 1 ((R.1 (12, 0, a.toNatClampNeg) 1) - 1)).1 (12, 0, a.toNatClampNeg) 3) o dX16_ship_152 (gl_32 (gix_lt (Nat.le_trans (hBR 6 0 (by decide)) (by decide)) b1)) rfl (by unfold vp_in; decide) rfl ?_
        refine z_top (congrArg Value.int (Eq.trans (gup_vf _ (show (3:Nat) ≠ 1 by decide)) (gup_ff _ (show (3:Nat) ≠ 2 by decide)))) ?_
        refine z_iastR (pc := 153) (K := (32, 0, a.toNatClampNeg)) (i := 3) (x := R.1 (12, 0, a.toNatClampNeg) 3) (B := (12, 0, a.toNatClampNeg)) o dX16_ship_153 (gl_32 (gix_lt (Nat.le_trans (hBR 6 0 (by decide)) (by decide)) b1)) (show 24 ≤ (32:Nat) by decide) rfl (fun _ => rfl) (by unfold vp_in; decide) ?_
        refine y_aload_n (pc := 154) o dX16_ship_154 rfl ?_
        refine y_iconst (pc := 155) (x := 1) o dX16_ship_155 (by decide) ?_
        refine z_iald (pc := 156) (K := (32, 0, a.toNatClampNeg)) (i := 1) (v := (gup (gup (gup R (11, 0, b.toNatClampNeg) 2 1) (12, 0, a.toNatClampNeg) 1 ((R.1 (12, 0, a.toNatClampNeg) 1) - 1)) (12, 0, a.toNatClampNeg) 3 (R.1 (12, 0, a.toNatClampNeg) 3)).1 (12, 0, a.toNatClampNeg) 1) o dX16_ship_156 (gl_32 (gix_lt (Nat.le_trans (hBR 6 0 (by decide)) (by decide)) b1)) rfl (by unfold vp_in; decide) rfl ?_
        refine z_top (congrArg Value.int (Eq.trans (gup_vf _ (show (1:Nat) ≠ 3 by decide)) (gup_v _ _ _ _))) ?_
        exact y_iret (pc := 157) o dX16_ship_157 rfl (vp_nar_int _) (by decide) (by decide) (fun h hp => gP_mk (by simp +decide only [F_ship, b1, b3, b5, b7, b9, geq0_f (hI.2.2.2.2.2.2.2.2.1 _ (gix_lt (Nat.le_trans (hBR 6 0 (by decide)) (by decide)) b1)).1 b11, b13, gup_same (C := (gup (gup R (11, 0, b.toNatClampNeg) 2 1) (12, 0, a.toNatClampNeg) 1 ((R.1 (12, 0, a.toNatClampNeg) 1) - 1))) (K := (12, 0, a.toNatClampNeg)) (f := 3) (x := R.1 (12, 0, a.toNatClampNeg) 3) (Eq.trans (gup_vf _ (show (3:Nat) ≠ 1 by decide)) (gup_ff _ (show (3:Nat) ≠ 2 by decide))), gtc0, gtc1, gtc2, gtc3, gtc4, not_true_eq_false, not_false_eq_true, if_true, if_false, or_true, true_or, or_false, false_or, and_true, true_and, and_false, false_and, or_self, and_self, eq_self, Bool.false_eq_true, ne_eq, reduceIte]) rfl rfl hp)
      refine y_iconst (pc := 146) (x := 1) o dX16_ship_146 (by decide) ?_
      refine y_goto (pc := 147) (tgt := 153) o dX16_ship_147 rfl ?_
      refine z_iastR (pc := 153) (K := (32, 0, a.toNatClampNeg)) (i := 3) (x := 1) (B := (12, 0, a.toNatClampNeg)) o dX16_ship_153 (gl_32 (gix_lt (Nat.le_trans (hBR 6 0 (by decide)) (by decide)) b1)) (show 24 ≤ (32:Nat) by decide) rfl (fun _ => rfl) (by unfold vp_in; decide) ?_
      refine y_aload_n (pc := 154) o dX16_ship_154 rfl ?_
      refine y_iconst (pc := 155) (x := 1) o dX16_ship_155 (by decide) ?_
      refine z_iald (pc := 156) (K := (32, 0, a.toNatClampNeg)) (i := 1) (v := (gup (gup (gup R (11, 0, b.toNatClampNeg) 2 1) (12, 0, a.toNatClampNeg) 1 ((R.1 (12, 0, a.toNatClampNeg) 1) - 1)) (12, 0, a.toNatClampNeg) 3 1).1 (12, 0, a.toNatClampNeg) 1) o dX16_ship_156 (gl_32 (gix_lt (Nat.le_trans (hBR 6 0 (by decide)) (by decide)) b1)) rfl (by unfold vp_in; decide) rfl ?_
      refine z_top (congrArg Value.int (Eq.trans (gup_vf _ (show (1:Nat) ≠ 3 by decide)) (gup_v _ _ _ _))) ?_
      exact y_iret (pc := 157) o dX16_ship_157 rfl (vp_nar_int _) (by decide) (by decide) (fun h hp => gP_mk (by simp +decide only [F_ship, b1, b3, b5, b7, b9, geq0_f (hI.2.2.2.2.2.2.2.2.1 _ (gix_lt (Nat.le_trans (hBR 6 0 (by decide)) (by decide)) b1)).1 b11, b13, gtc0, gtc1, gtc2, gtc3, gtc4, not_true_eq_false, not_false_eq_true, if_true, if_false, or_true, true_or, or_false, false_or, and_true, true_and, and_false, false_and, or_self, and_self, eq_self, Bool.false_eq_true, ne_eq, reduceIte]) rfl rfl hp)
    refine y_iconst (pc := 107) (x := 1) o dX16_ship_107 (by decide) ?_
    refine y_goto (pc := 108) (tgt := 112) o dX16_ship_108 rfl ?_
    refine y_iconst (pc := 112) (x := 2) o dX16_ship_112 (by decide) ?_
    refine z_callV (pc := 113) (k := 1) (n := 4) (k' := 1) (n' := 4) o (b := ad (20, 0, 0)) (As := [.int (1), .int (2)]) (rest := []) (kFailsT hR h5 2 (by decide)) ln_X16_74 dX16_ship_113 (z_rc (ci := 20) (K := (20, 0, 0)) rfl (gl_20 hR) rfl) rfl rfl (Nat.le_of_ble_eq_true rfl) ⟨by decide, by decide⟩ ⟨rfl, rfl⟩ ⟨by decide, by decide⟩ rfl gq_nox2 ?_
    refine y_if_eq (pc := 116) (tgt := 121) o dX16_ship_116 rfl (fun b14 => absurd b14 (by decide)) (fun (b14 : ¬ 1 = 0) => ?_)
    refine y_iconst (pc := 119) (x := -1) o dX16_ship_119 (by decide) ?_
    exact y_iret (pc := 120) o dX16_ship_120 rfl (vp_nar_int _) (by decide) (by decide) (fun h hp => gP_thr (k := 2) (by simp +decide only [F_ship, b1, b3, b5, b7, b9, geq0_t b11, gtc0, gtc1, gtc2, gtc3, gtc4, not_true_eq_false, not_false_eq_true, if_true, if_false, or_true, true_or, or_false, false_or, and_true, true_and, and_false, false_and, or_self, and_self, eq_self, Bool.false_eq_true, ne_eq, reduceIte]) (by decide) hp)
  refine y_iconst (pc := 27) (x := 1) o dX16_ship_27 (by decide) ?_
  refine y_goto (pc := 28) (tgt := 32) o dX16_ship_28 rfl ?_
  refine y_iconst (pc := 32) (x := 1) o dX16_ship_32 (by decide) ?_
  refine z_callV (pc := 33) (k := 0) (n := 0) (k' := 0) (n' := 0) o (b := ad (20, 0, 0)) (As := [.int (1), .int (1)]) (rest := []) (kFailsT hR h5 1 (by decide)) ln_X16_74 dX16_ship_33 (z_rc (ci := 20) (K := (20, 0, 0)) rfl (gl_20 hR) rfl) rfl rfl (Nat.le_of_ble_eq_true rfl) ⟨by decide, by decide⟩ ⟨rfl, rfl⟩ ⟨by decide, by decide⟩ rfl gq_nox2 ?_
  refine y_if_eq (pc := 36) (tgt := 41) o dX16_ship_36 rfl (fun b15 => absurd b15 (by decide)) (fun (b15 : ¬ 1 = 0) => ?_)
  refine y_iconst (pc := 39) (x := -1) o dX16_ship_39 (by decide) ?_
  exact y_iret (pc := 40) o dX16_ship_40 rfl (vp_nar_int _) (by decide) (by decide) (fun h hp => gP_thr (k := 1) (by simp +decide only [F_ship, b1, b3, gtc0, gtc1, gtc2, gtc3, gtc4, not_true_eq_false, not_false_eq_true, if_true, if_false, or_true, true_or, or_false, false_or, and_true, true_and, and_false, false_and, or_self, and_self, eq_self, Bool.false_eq_true, ne_eq, reduceIte]) (by decide) hp)

theorem r_isLate {κ : gq_K} {ad : gKey → Nat} {C Rp R : gG} {T : List (Nat × va_E)} {n : Nat} (hb : gup Rp (0, 0, 0) 5 0 = R) (hI : gI n R) (hn : n ≤ 512) (a : Int32) : gq_C κ mX16_isLate [.ref (ad (20, 0, 0)), .int (a)] (gR κ ad (C, Rp) T) (gP κ ad C T (F_isLate R a)) (gq_no) := by
  refine gq_enter (by decide +kernel) rfl (Nat.le_of_ble_eq_true rfl) rfl (fun f o => ?_)
  have hR := hI.fix
  have hBR := hI.cnt
  have hRp : gfix Rp.2 := by rw [← hb] at hR; exact hR
  have h5 : R.1 (0, 0, 0) 5 = 0 := by rw [← hb]; exact gup_v _ _ _ _
  refine y_aload_n (pc := 0) o dX16_isLate_0 rfl ?_
  refine z_callVv (pc := 1) (k := 0) (n := 0) (k' := 0) (n' := 0) o (b := ad (20, 0, 0)) (As := []) (rest := []) (kBegins hRp) ln_X16_69 dX16_isLate_1 (z_rc (ci := 20) (K := (20, 0, 0)) rfl (gl_20 hRp) rfl) rfl rfl (Nat.le_of_ble_eq_true rfl) ⟨by decide, by decide⟩ ⟨rfl, rfl⟩ ⟨by decide, by decide⟩ rfl gq_nox2 ?_
  rw [hb]
  refine y_aload_n (pc := 4) o dX16_isLate_4 rfl ?_
  refine y_aload_n (pc := 5) o dX16_isLate_5 rfl ?_
  refine z_get (pc := 6) (K := (20, 0, 0)) (v := .ref (ad (24, 6, 0))) o fl_X16_63 dX16_isLate_6 (gl_20 hR) rfl rfl ?_
  refine y_iload_n (pc := 9) o dX16_isLate_9 rfl ?_
  refine z_callS (pc := 10) (k := 0) (n := 0) (k' := 0) (n' := 0) o (As := [.ref (ad (24, 6, 0)), .int (a)]) (rest := [.ref (ad (20, 0, 0))]) (kIsOf (l := 6) (g := 0) (gl_24_6 hR) hBR a) ln_X16_97 dX16_isLate_10 rfl rfl (Nat.le_of_ble_eq_true rfl) ⟨by decide, by decide⟩ ⟨rfl, rfl⟩ ⟨by decide, by decide⟩ rfl gq_nox2 ?_
  refine z_bne (pc := 13) (tgt := 20) o dX16_isLate_13 rfl (fun (b1 : gix (R.2 12 0) a = true) => ?_) (fun (b1 : ¬ (gix (R.2 12 0) a = true)) => ?_)
  · refine y_iconst (pc := 20) (x := 0) o dX16_isLate_20 (by decide) ?_
    refine y_iconst (pc := 21) (x := 1) o dX16_isLate_21 (by decide) ?_
    refine z_callV (pc := 22) (k := 0) (n := 0) (k' := 0) (n' := 0) o (b := ad (20, 0, 0)) (As := [.int (0), .int (1)]) (rest := []) (kFailsF hR h5 1) ln_X16_74 dX16_isLate_22 (z_rc (ci := 20) (K := (20, 0, 0)) rfl (gl_20 hR) rfl) rfl rfl (Nat.le_of_ble_eq_true rfl) ⟨by decide, by decide⟩ ⟨rfl, rfl⟩ ⟨by decide, by decide⟩ rfl gq_nox2 ?_
    refine y_if_ne (pc := 25) (tgt := 91) o dX16_isLate_25 rfl (fun b2 => absurd b2 (by decide)) (fun (b2 : 0 = 0) => ?_)
    refine y_aload_n (pc := 28) o dX16_isLate_28 rfl ?_
    refine z_get (pc := 29) (K := (20, 0, 0)) (v := .ref (ad (24, 6, 0))) o fl_X16_63 dX16_isLate_29 (gl_20 hR) rfl rfl ?_
    refine y_iload_n (pc := 32) o dX16_isLate_32 rfl ?_
    refine z_callF (pc := 33) (k := 0) (n := 0) (k' := 0) (n' := 0) (ci := 3) o (b := ad (24, 6, 0)) (As := [.int (a)]) (rest := []) (getR (l := 6) (g := 0) (gl_24_6 hR) (hBR 6 0 (by decide)) b1) rfl lf_X16_114 dX16_isLate_33 (fun h hr => ⟨_, ghdr_R (R := R) (gl_24_6 hR) hr⟩) rfl rfl (Nat.le_of_ble_eq_true rfl) ⟨by decide, by decide⟩ ⟨rfl, rfl⟩ ⟨by decide, by decide⟩ ?_
    refine z_castI (pc := 38) (K := (32, 0, a.toNatClampNeg)) (N := 4) o qw_1435 dX16_isLate_38 (gl_32 (gix_lt (Nat.le_trans (hBR 6 0 (by decide)) (by decide)) b1)) rfl ?_
    refine y_iconst (pc := 41) (x := 3) o dX16_isLate_41 (by decide) ?_
    refine z_iald (pc := 42) (K := (32, 0, a.toNatClampNeg)) (i := 3) (v := R.1 (12, 0, a.toNatClampNeg) 3) o dX16_isLate_42 (gl_32 (gix_lt (Nat.le_trans (hBR 6 0 (by decide)) (by decide)) b1)) rfl (by unfold vp_in; decide) rfl ?_
    refine y_iconst (pc := 43) (x := 1) o dX16_isLate_43 (by decide) ?_
    refine y_icmp_eq (pc := 44) (tgt := 87) o dX16_isLate_44 rfl (fun (b3 : (R.1 (12, 0, a.toNatClampNeg) 3) = 1) => ?_) (fun (b3 : ¬ (R.1 (12, 0, a.toNatClampNeg) 3) = 1) => ?_)
    · refine y_iconst (pc := 87) (x := 1) o dX16_isLate_87 (by decide) ?_
      refine y_goto (pc := 88) (tgt := 92) o dX16_isLate_88 rfl ?_
      exact y_iret (pc := 92) o dX16_isLate_92 rfl rfl (by decide) (by decide) (fun h hp => gP_mk (by simp +decide only [F_isLate, b1, gbl1_t b3, gb_tt, gb_ff, gtc0, gtc1, gtc2, gtc3, gtc4, not_true_eq_false, not_false_eq_true, if_true, if_false, or_true, true_or, or_false, false_or, and_true, true_and, and_false, false_and, or_self, and_self, eq_self, Bool.false_eq_true, ne_eq, reduceIte]) rfl rfl hp)
    refine y_aload_n (pc := 47) o dX16_isLate_47 rfl ?_
    refine z_get (pc := 48) (K := (20, 0, 0)) (v := .ref (ad (24, 6, 0))) o fl_X16_63 dX16_isLate_48 (gl_20 hR) rfl rfl ?_
    refine y_iload_n (pc := 51) o dX16_isLate_51 rfl ?_
    refine z_callF (pc := 52) (k := 0) (n := 0) (k' := 0) (n' := 0) (ci := 3) o (b := ad (24, 6, 0)) (As := [.int (a)]) (rest := []) (getR (l := 6) (g := 0) (gl_24_6 hR) (hBR 6 0 (by decide)) b1) rfl lf_X16_114 dX16_isLate_52 (fun h hr => ⟨_, ghdr_R (R := R) (gl_24_6 hR) hr⟩) rfl rfl (Nat.le_of_ble_eq_true rfl) ⟨by decide, by decide⟩ ⟨rfl, rfl⟩ ⟨by decide, by decide⟩ ?_
    refine z_castI (pc := 57) (K := (32, 0, a.toNatClampNeg)) (N := 4) o qw_1435 dX16_isLate_57 (gl_32 (gix_lt (Nat.le_trans (hBR 6 0 (by decide)) (by decide)) b1)) rfl ?_
    refine y_iconst (pc := 60) (x := 1) o dX16_isLate_60 (by decide) ?_
    refine z_iald (pc := 61) (K := (32, 0, a.toNatClampNeg)) (i := 1) (v := R.1 (12, 0, a.toNatClampNeg) 1) o dX16_isLate_61 (gl_32 (gix_lt (Nat.le_trans (hBR 6 0 (by decide)) (by decide)) b1)) rfl (by unfold vp_in; decide) rfl ?_
    refine z_if_le (pc := 62) (tgt := 91) o dX16_isLate_62 rfl (fun (b4 : ¬ 0 < (R.1 (12, 0, a.toNatClampNeg) 1)) => ?_) (fun (b4 : 0 < (R.1 (12, 0, a.toNatClampNeg) 1)) => ?_)
    · refine y_iconst (pc := 91) (x := 0) o dX16_isLate_91 (by decide) ?_
      exact y_iret (pc := 92) o dX16_isLate_92 rfl rfl (by decide) (by decide) (fun h hp => gP_mk (by simp +decide only [F_isLate, b1, gbl1_f (hI.2.2.2.2.2.2.2.2.1 _ (gix_lt (Nat.le_trans (hBR 6 0 (by decide)) (by decide)) b1)).2 b3, b4, gb_tt, gb_ff, gtc0, gtc1, gtc2, gtc3, gtc4, not_true_eq_false, not_false_eq_true, if_true, if_false, or_true, true_or, or_false, false_or, and_true, true_and, and_false, false_and, or_self, and_self, eq_self, Bool.false_eq_true, ne_eq, reduceIte]) rfl rfl hp)
    refine y_aload_n (pc := 65) o dX16_isLate_65 rfl ?_
    refine z_get (pc := 66) (K := (20, 0, 0)) (v := .int (R.1 (0, 0, 0) 0)) o fl_X16_78 dX16_isLate_66 (gl_20 hR) rfl rfl ?_
    refine y_aload_n (pc := 69) o dX16_isLate_69 rfl ?_
    refine z_get (pc := 70) (K := (20, 0, 0)) (v := .ref (ad (24, 6, 0))) o fl_X16_63 dX16_isLate_70 (gl_20 hR) rfl rfl ?_
    refine y_iload_n (pc := 73) o dX16_isLate_73 rfl ?_
    refine z_callF (pc := 74) (k := 0) (n := 0) (k' := 0) (n' := 0) (ci := 3) o (b := ad (24, 6, 0)) (As := [.int (a)]) (rest := [.int (R.1 (0, 0, 0) 0)]) (getR (l := 6) (g := 0) (gl_24_6 hR) (hBR 6 0 (by decide)) b1) rfl lf_X16_114 dX16_isLate_74 (fun h hr => ⟨_, ghdr_R (R := R) (gl_24_6 hR) hr⟩) rfl rfl (Nat.le_of_ble_eq_true rfl) ⟨by decide, by decide⟩ ⟨rfl, rfl⟩ ⟨by decide, by decide⟩ ?_
    refine z_castI (pc := 79) (K := (32, 0, a.toNatClampNeg)) (N := 4) o qw_1435 dX16_isLate_79 (gl_32 (gix_lt (Nat.le_trans (hBR 6 0 (by decide)) (by decide)) b1)) rfl ?_
    refine y_iconst (pc := 82) (x := 2) o dX16_isLate_82 (by decide) ?_
    refine z_iald (pc := 83) (K := (32, 0, a.toNatClampNeg)) (i := 2) (v := R.1 (12, 0, a.toNatClampNeg) 2) o dX16_isLate_83 (gl_32 (gix_lt (Nat.le_trans (hBR 6 0 (by decide)) (by decide)) b1)) rfl (by unfold vp_in; decide) rfl ?_
    refine z_icmp_le (pc := 84) (tgt := 91) o dX16_isLate_84 rfl (fun (b5 : ¬ (R.1 (12, 0, a.toNatClampNeg) 2) < (R.1 (0, 0, 0) 0)) => ?_) (fun (b5 : (R.1 (12, 0, a.toNatClampNeg) 2) < (R.1 (0, 0, 0) 0)) => ?_)
    · refine y_iconst (pc := 91) (x := 0) o dX16_isLate_91 (by decide) ?_
      exact y_iret (pc := 92) o dX16_isLate_92 rfl rfl (by decide) (by decide) (fun h hp => gP_mk (by simp +decide only [F_isLate, b1, gbl1_f (hI.2.2.2.2.2.2.2.2.1 _ (gix_lt (Nat.le_trans (hBR 6 0 (by decide)) (by decide)) b1)).2 b3, b4, b5, gb_tt, gb_ff, gtc0, gtc1, gtc2, gtc3, gtc4, not_true_eq_false, not_false_eq_true, if_true, if_false, or_true, true_or, or_false, false_or, and_true, true_and, and_false, false_and, or_self, and_self, eq_self, Bool.false_eq_true, ne_eq, reduceIte]) rfl rfl hp)
    refine y_iconst (pc := 87) (x := 1) o dX16_isLate_87 (by decide) ?_
    refine y_goto (pc := 88) (tgt := 92) o dX16_isLate_88 rfl ?_
    exact y_iret (pc := 92) o dX16_isLate_92 rfl rfl (by decide) (by decide) (fun h hp => gP_mk (by simp +decide only [F_isLate, b1, gbl1_f (hI.2.2.2.2.2.2.2.2.1 _ (gix_lt (Nat.le_trans (hBR 6 0 (by decide)) (by decide)) b1)).2 b3, b4, b5, gb_tt, gb_ff, gtc0, gtc1, gtc2, gtc3, gtc4, not_true_eq_false, not_false_eq_true, if_true, if_false, or_true, true_or, or_false, false_or, and_true, true_and, and_false, false_and, or_self, and_self, eq_self, Bool.false_eq_true, ne_eq, reduceIte]) rfl rfl hp)
  refine y_iconst (pc := 16) (x := 1) o dX16_isLate_16 (by decide) ?_
  refine y_goto (pc := 17) (tgt := 21) o dX16_isLate_17 rfl ?_
  refine y_iconst (pc := 21) (x := 1) o dX16_isLate_21 (by decide) ?_
  refine z_callV (pc := 22) (k := 0) (n := 0) (k' := 0) (n' := 0) o (b := ad (20, 0, 0)) (As := [.int (1), .int (1)]) (rest := []) (kFailsT hR h5 1 (by decide)) ln_X16_74 dX16_isLate_22 (z_rc (ci := 20) (K := (20, 0, 0)) rfl (gl_20 hR) rfl) rfl rfl (Nat.le_of_ble_eq_true rfl) ⟨by decide, by decide⟩ ⟨rfl, rfl⟩ ⟨by decide, by decide⟩ rfl gq_nox2 ?_
  refine y_if_ne (pc := 25) (tgt := 91) o dX16_isLate_25 rfl (fun (b6 : ¬ 1 = 0) => ?_) (fun b6 => absurd b6 (by decide))
  refine y_iconst (pc := 91) (x := 0) o dX16_isLate_91 (by decide) ?_
  exact y_iret (pc := 92) o dX16_isLate_92 rfl rfl (by decide) (by decide) (fun h hp => gP_thr (k := 1) (by simp +decide only [F_isLate, b1, gb_tt, gb_ff, gtc0, gtc1, gtc2, gtc3, gtc4, not_true_eq_false, not_false_eq_true, if_true, if_false, or_true, true_or, or_false, false_or, and_true, true_and, and_false, false_and, or_self, and_self, eq_self, Bool.false_eq_true, ne_eq, reduceIte]) (by decide) hp)

theorem r_parts {κ : gq_K} {ad : gKey → Nat} {C Rp R : gG} {T : List (Nat × va_E)} {n : Nat} (hb : gup Rp (0, 0, 0) 5 0 = R) (hI : gI n R) (hn : n ≤ 512) (a : Int32) : gq_C κ mX16_parts [.ref (ad (20, 0, 0)), .int (a)] (gR κ ad (C, Rp) T) (gP κ ad C T (F_parts R a)) (gq_no) := by
  refine gq_enter (by decide +kernel) rfl (Nat.le_of_ble_eq_true rfl) rfl (fun f o => ?_)
  have hR := hI.fix
  have hBR := hI.cnt
  have hRp : gfix Rp.2 := by rw [← hb] at hR; exact hR
  have h5 : R.1 (0, 0, 0) 5 = 0 := by rw [← hb]; exact gup_v _ _ _ _
  refine y_aload_n (pc := 0) o dX16_parts_0 rfl ?_
  refine z_callVv (pc := 1) (k := 0) (n := 0) (k' := 0) (n' := 0) o (b := ad (20, 0, 0)) (As := []) (rest := []) (kBegins hRp) ln_X16_69 dX16_parts_1 (z_rc (ci := 20) (K := (20, 0, 0)) rfl (gl_20 hRp) rfl) rfl rfl (Nat.le_of_ble_eq_true rfl) ⟨by decide, by decide⟩ ⟨rfl, rfl⟩ ⟨by decide, by decide⟩ rfl gq_nox2 ?_
  rw [hb]
  refine y_aload_n (pc := 4) o dX16_parts_4 rfl ?_
  refine y_iload_n (pc := 5) o dX16_parts_5 rfl ?_
  by_cases g1 : gix (R.2 11 0) a = true
  · refine z_callV (pc := 6) (k := 0) (n := 0) (k' := 0) (n' := 0) o (b := ad (20, 0, 0)) (As := [.int (a)]) (rest := []) (knoGrossF hR hBR h5 a g1) ln_X16_299 dX16_parts_6 (z_rc (ci := 20) (K := (20, 0, 0)) rfl (gl_20 hR) rfl) rfl rfl (Nat.le_of_ble_eq_true rfl) ⟨by decide, by decide⟩ ⟨rfl, rfl⟩ ⟨by decide, by decide⟩ rfl gq_nox2 ?_
    refine y_if_eq (pc := 9) (tgt := 16) o dX16_parts_9 rfl (fun (b2 : 0 = 0) => ?_) (fun b2 => absurd b2 (by decide))
    refine y_aload_n (pc := 16) o dX16_parts_16 rfl ?_
    refine z_get (pc := 17) (K := (20, 0, 0)) (v := .ref (ad (24, 5, 0))) o fl_X16_60 dX16_parts_17 (gl_20 hR) rfl rfl ?_
    refine y_iload_n (pc := 20) o dX16_parts_20 rfl ?_
    refine z_callF (pc := 21) (k := 0) (n := 0) (k' := 0) (n' := 0) (ci := 3) o (b := ad (24, 5, 0)) (As := [.int (a)]) (rest := []) (getR (l := 5) (g := 0) (gl_24_5 hR) (hBR 5 0 (by decide)) g1) rfl lf_X16_114 dX16_parts_21 (fun h hr => ⟨_, ghdr_R (R := R) (gl_24_5 hR) hr⟩) rfl rfl (Nat.le_of_ble_eq_true rfl) ⟨by decide, by decide⟩ ⟨rfl, rfl⟩ ⟨by decide, by decide⟩ ?_
    refine z_cast (pc := 26) (ci := 17) (K := (31, 0, a.toNatClampNeg)) o rfl qw_1684 dX16_parts_26 (gl_31 (gix_lt (Nat.le_trans (hBR 5 0 (by decide)) (by decide)) g1)) rfl ?_
    refine z_get (pc := 29) (K := (31, 0, a.toNatClampNeg)) (v := .ref (ad (24, 7, a.toNatClampNeg))) o fl_X16_294 dX16_parts_29 (gl_31 (gix_lt (Nat.le_trans (hBR 5 0 (by decide)) (by decide)) g1)) rfl rfl ?_
    refine z_callF (pc := 32) (k := 0) (n := 0) (k' := 0) (n' := 0) (ci := 3) o (b := ad (24, 7, a.toNatClampNeg)) (As := []) (rest := []) (sizeR (l := 7) (g := a.toNatClampNeg) (gl_24_7 hR (gix_lt (Nat.le_trans (hBR 5 0 (by decide)) (by decide)) g1))) rfl lf_X16_7 dX16_parts_32 (fun h hr => ⟨_, ghdr_R (R := R) (gl_24_7 hR (gix_lt (Nat.le_trans (hBR 5 0 (by decide)) (by decide)) g1)) hr⟩) rfl rfl (Nat.le_of_ble_eq_true rfl) ⟨by decide, by decide⟩ ⟨rfl, rfl⟩ ⟨by decide, by decide⟩ ?_
    exact y_iret (pc := 37) o dX16_parts_37 rfl (vp_nar_int _) (by decide) (by decide) (fun h hp => gP_mk (by simp +decide only [F_parts, g1, gtc0, gtc1, gtc2, gtc3, gtc4, not_true_eq_false, not_false_eq_true, if_true, if_false, or_true, true_or, or_false, false_or, and_true, true_and, and_false, false_and, or_self, and_self, eq_self, Bool.false_eq_true, ne_eq, reduceIte]) rfl rfl hp)
  refine z_callV (pc := 6) (k := 0) (n := 0) (k' := 0) (n' := 0) o (b := ad (20, 0, 0)) (As := [.int (a)]) (rest := []) (knoGrossT hR hBR h5 a g1) ln_X16_299 dX16_parts_6 (z_rc (ci := 20) (K := (20, 0, 0)) rfl (gl_20 hR) rfl) rfl rfl (Nat.le_of_ble_eq_true rfl) ⟨by decide, by decide⟩ ⟨rfl, rfl⟩ ⟨by decide, by decide⟩ rfl gq_nox2 ?_
  refine y_if_eq (pc := 9) (tgt := 16) o dX16_parts_9 rfl (fun b3 => absurd b3 (by decide)) (fun (b3 : ¬ 1 = 0) => ?_)
  refine y_iconst (pc := 12) (x := -1) o dX16_parts_12 (by decide) ?_
  refine y_goto (pc := 13) (tgt := 37) o dX16_parts_13 rfl ?_
  exact y_iret (pc := 37) o dX16_parts_37 rfl (vp_nar_int _) (by decide) (by decide) (fun h hp => gP_thr (k := 1) (by simp +decide only [F_parts, g1, gtc0, gtc1, gtc2, gtc3, gtc4, not_true_eq_false, not_false_eq_true, if_true, if_false, or_true, true_or, or_false, false_or, and_true, true_and, and_false, false_and, or_self, and_self, eq_self, Bool.false_eq_true, ne_eq, reduceIte]) (by decide) hp)

theorem r_trace {κ : gq_K} {ad : gKey → Nat} {C Rp R : gG} {T : List (Nat × va_E)} {n : Nat} (hb : gup Rp (0, 0, 0) 5 0 = R) (hI : gI n R) (hn : n ≤ 512) (a : Int32) (b : Int32) (c : Int32) : gq_C κ mX16_trace [.ref (ad (20, 0, 0)), .int (a), .int (b), .int (c)] (gR κ ad (C, Rp) T) (gP κ ad C T (F_trace R a b c)) (gq_no) := by
  refine gq_enter (by decide +kernel) rfl (Nat.le_of_ble_eq_true rfl) rfl (fun f o => ?_)
  have hR := hI.fix
  have hBR := hI.cnt
  have hRp : gfix Rp.2 := by rw [← hb] at hR; exact hR
  have h5 : R.1 (0, 0, 0) 5 = 0 := by rw [← hb]; exact gup_v _ _ _ _
  refine y_aload_n (pc := 0) o dX16_trace_0 rfl ?_
  refine z_callVv (pc := 1) (k := 0) (n := 0) (k' := 0) (n' := 0) o (b := ad (20, 0, 0)) (As := []) (rest := []) (kBegins hRp) ln_X16_69 dX16_trace_1 (z_rc (ci := 20) (K := (20, 0, 0)) rfl (gl_20 hRp) rfl) rfl rfl (Nat.le_of_ble_eq_true rfl) ⟨by decide, by decide⟩ ⟨rfl, rfl⟩ ⟨by decide, by decide⟩ rfl gq_nox2 ?_
  rw [hb]
  refine y_aload_n (pc := 4) o dX16_trace_4 rfl ?_
  refine y_aload_n (pc := 5) o dX16_trace_5 rfl ?_
  refine z_get (pc := 6) (K := (20, 0, 0)) (v := .ref (ad (24, 5, 0))) o fl_X16_60 dX16_trace_6 (gl_20 hR) rfl rfl ?_
  refine y_iload_n (pc := 9) o dX16_trace_9 rfl ?_
  refine z_callS (pc := 10) (k := 0) (n := 0) (k' := 0) (n' := 0) o (As := [.ref (ad (24, 5, 0)), .int (a)]) (rest := [.ref (ad (20, 0, 0))]) (kIsOf (l := 5) (g := 0) (gl_24_5 hR) hBR a) ln_X16_97 dX16_trace_10 rfl rfl (Nat.le_of_ble_eq_true rfl) ⟨by decide, by decide⟩ ⟨rfl, rfl⟩ ⟨by decide, by decide⟩ rfl gq_nox2 ?_
  refine z_beq (pc := 13) (tgt := 39) o dX16_trace_13 rfl (fun (b1 : ¬ (gix (R.2 11 0) a = true)) => ?_) (fun (b1 : gix (R.2 11 0) a = true) => ?_)
  · refine y_iconst (pc := 39) (x := 1) o dX16_trace_39 (by decide) ?_
    refine y_goto (pc := 40) (tgt := 44) o dX16_trace_40 rfl ?_
    refine y_iconst (pc := 44) (x := 1) o dX16_trace_44 (by decide) ?_
    refine z_callV (pc := 45) (k := 0) (n := 0) (k' := 0) (n' := 0) o (b := ad (20, 0, 0)) (As := [.int (1), .int (1)]) (rest := []) (kFailsT hR h5 1 (by decide)) ln_X16_74 dX16_trace_45 (z_rc (ci := 20) (K := (20, 0, 0)) rfl (gl_20 hR) rfl) rfl rfl (Nat.le_of_ble_eq_true rfl) ⟨by decide, by decide⟩ ⟨rfl, rfl⟩ ⟨by decide, by decide⟩ rfl gq_nox2 ?_
    refine y_if_ne (pc := 48) (tgt := 74) o dX16_trace_48 rfl (fun (b2 : ¬ 1 = 0) => ?_) (fun b2 => absurd b2 (by decide))
    refine y_iconst (pc := 74) (x := -1) o dX16_trace_74 (by decide) ?_
    exact y_iret (pc := 75) o dX16_trace_75 rfl (vp_nar_int _) (by decide) (by decide) (fun h hp => gP_thr (k := 1) (by simp +decide only [F_trace, b1, gtc0, gtc1, gtc2, gtc3, gtc4, not_true_eq_false, not_false_eq_true, if_true, if_false, or_true, true_or, or_false, false_or, and_true, true_and, and_false, false_and, or_self, and_self, eq_self, Bool.false_eq_true, ne_eq, reduceIte]) (by decide) hp)
  refine y_aload_n (pc := 16) o dX16_trace_16 rfl ?_
  refine z_get (pc := 17) (K := (20, 0, 0)) (v := .ref (ad (24, 5, 0))) o fl_X16_60 dX16_trace_17 (gl_20 hR) rfl rfl ?_
  refine y_iload_n (pc := 20) o dX16_trace_20 rfl ?_
  refine z_callF (pc := 21) (k := 0) (n := 0) (k' := 0) (n' := 0) (ci := 3) o (b := ad (24, 5, 0)) (As := [.int (a)]) (rest := [.ref (ad (20, 0, 0))]) (getR (l := 5) (g := 0) (gl_24_5 hR) (hBR 5 0 (by decide)) b1) rfl lf_X16_114 dX16_trace_21 (fun h hr => ⟨_, ghdr_R (R := R) (gl_24_5 hR) hr⟩) rfl rfl (Nat.le_of_ble_eq_true rfl) ⟨by decide, by decide⟩ ⟨rfl, rfl⟩ ⟨by decide, by decide⟩ ?_
  refine z_cast (pc := 26) (ci := 17) (K := (31, 0, a.toNatClampNeg)) o rfl qw_1684 dX16_trace_26 (gl_31 (gix_lt (Nat.le_trans (hBR 5 0 (by decide)) (by decide)) b1)) rfl ?_
  refine z_get (pc := 29) (K := (31, 0, a.toNatClampNeg)) (v := .ref (ad (24, 7, a.toNatClampNeg))) o fl_X16_294 dX16_trace_29 (gl_31 (gix_lt (Nat.le_trans (hBR 5 0 (by decide)) (by decide)) b1)) rfl rfl ?_
  refine y_iload_n (pc := 32) o dX16_trace_32 rfl ?_
  refine z_callS (pc := 33) (k := 0) (n := 0) (k' := 0) (n' := 0) o (As := [.ref (ad (24, 7, a.toNatClampNeg)), .int (b)]) (rest := [.ref (ad (20, 0, 0))]) (kIsOf (l := 7) (g := a.toNatClampNeg) (gl_24_7 hR (gix_lt (Nat.le_trans (hBR 5 0 (by decide)) (by decide)) b1)) hBR b) ln_X16_97 dX16_trace_33 rfl rfl (Nat.le_of_ble_eq_true rfl) ⟨by decide, by decide⟩ ⟨rfl, rfl⟩ ⟨by decide, by decide⟩ rfl gq_nox2 ?_
  refine z_bne (pc := 36) (tgt := 43) o dX16_trace_36 rfl (fun (b3 : gix (R.2 13 a.toNatClampNeg) b = true) => ?_) (fun (b3 : ¬ (gix (R.2 13 a.toNatClampNeg) b = true)) => ?_)
  · refine y_iconst (pc := 43) (x := 0) o dX16_trace_43 (by decide) ?_
    refine y_iconst (pc := 44) (x := 1) o dX16_trace_44 (by decide) ?_
    refine z_callV (pc := 45) (k := 0) (n := 0) (k' := 0) (n' := 0) o (b := ad (20, 0, 0)) (As := [.int (0), .int (1)]) (rest := []) (kFailsF hR h5 1) ln_X16_74 dX16_trace_45 (z_rc (ci := 20) (K := (20, 0, 0)) rfl (gl_20 hR) rfl) rfl rfl (Nat.le_of_ble_eq_true rfl) ⟨by decide, by decide⟩ ⟨rfl, rfl⟩ ⟨by decide, by decide⟩ rfl gq_nox2 ?_
    refine y_if_ne (pc := 48) (tgt := 74) o dX16_trace_48 rfl (fun b4 => absurd b4 (by decide)) (fun (b4 : 0 = 0) => ?_)
    refine y_aload_n (pc := 51) o dX16_trace_51 rfl ?_
    refine y_ldcSW (pc := 52) o 6 dX16_trace_52 rfl ?_
    refine y_iload_n (pc := 55) o dX16_trace_55 rfl ?_
    refine z_callV (pc := 56) (k := 0) (n := 0) (k' := 0) (n' := 0) o (b := κ.2.2 6) (As := [.int (c)]) (rest := [.ref (ad (20, 0, 0))]) (c_indexOf 6 (by decide) c) ln_X16_83 dX16_trace_56 (gq_rs 6 (by decide)) rfl rfl (Nat.le_of_ble_eq_true rfl) ⟨by decide, by decide⟩ ⟨rfl, rfl⟩ ⟨by decide, by decide⟩ rfl gq_nox2 ?_
    refine z_if_ge (pc := 59) (tgt := 66) o dX16_trace_59 rfl (fun (b5 : ¬ (gfind (gq_sbyt.getD 6 []) 0 c) < 0) => ?_) (fun (b5 : (gfind (gq_sbyt.getD 6 []) 0 c) < 0) => ?_)
    · rcases gf_or6 b5 with c6 | c6 | c6 | c6 | c6 | c6 | c6 | c6 | c6 | c6
      · refine y_iconst (pc := 66) (x := 0) o dX16_trace_66 (by decide) ?_
        refine y_iconst (pc := 67) (x := 2) o dX16_trace_67 (by decide) ?_
        refine z_callV (pc := 68) (k := 0) (n := 0) (k' := 0) (n' := 0) o (b := ad (20, 0, 0)) (As := [.int (0), .int (2)]) (rest := []) (kFailsF hR h5 2) ln_X16_74 dX16_trace_68 (z_rc (ci := 20) (K := (20, 0, 0)) rfl (gl_20 hR) rfl) rfl rfl (Nat.le_of_ble_eq_true rfl) ⟨by decide, by decide⟩ ⟨rfl, rfl⟩ ⟨by decide, by decide⟩ rfl gq_nox2 ?_
        refine y_if_eq (pc := 71) (tgt := 76) o dX16_trace_71 rfl (fun (b7 : 0 = 0) => ?_) (fun b7 => absurd b7 (by rw [b4]; decide))
        refine y_aload_n (pc := 76) o dX16_trace_76 rfl ?_
        refine z_get (pc := 77) (K := (20, 0, 0)) (v := .ref (ad (24, 5, 0))) o fl_X16_60 dX16_trace_77 (gl_20 hR) rfl rfl ?_
        refine y_iload_n (pc := 80) o dX16_trace_80 rfl ?_
        refine z_callF (pc := 81) (k := 0) (n := 0) (k' := 0) (n' := 0) (ci := 3) o (b := ad (24, 5, 0)) (As := [.int (a)]) (rest := []) (getR (l := 5) (g := 0) (gl_24_5 hR) (hBR 5 0 (by decide)) b1) rfl lf_X16_114 dX16_trace_81 (fun h hr => ⟨_, ghdr_R (R := R) (gl_24_5 hR) hr⟩) rfl rfl (Nat.le_of_ble_eq_true rfl) ⟨by decide, by decide⟩ ⟨rfl, rfl⟩ ⟨by decide, by decide⟩ ?_
        refine z_cast (pc := 86) (ci := 17) (K := (31, 0, a.toNatClampNeg)) o rfl qw_1684 dX16_trace_86 (gl_31 (gix_lt (Nat.le_trans (hBR 5 0 (by decide)) (by decide)) b1)) rfl ?_
        refine z_get (pc := 89) (K := (31, 0, a.toNatClampNeg)) (v := .ref (ad (24, 7, a.toNatClampNeg))) o fl_X16_294 dX16_trace_89 (gl_31 (gix_lt (Nat.le_trans (hBR 5 0 (by decide)) (by decide)) b1)) rfl rfl ?_
        refine y_iload_n (pc := 92) o dX16_trace_92 rfl ?_
        refine z_callF (pc := 93) (k := 0) (n := 0) (k' := 0) (n' := 0) (ci := 3) o (b := ad (24, 7, a.toNatClampNeg)) (As := [.int (b)]) (rest := []) (getR (l := 7) (g := a.toNatClampNeg) (gl_24_7 hR (gix_lt (Nat.le_trans (hBR 5 0 (by decide)) (by decide)) b1)) (hBR 7 a.toNatClampNeg (by decide)) b3) rfl lf_X16_114 dX16_trace_93 (fun h hr => ⟨_, ghdr_R (R := R) (gl_24_7 hR (gix_lt (Nat.le_trans (hBR 5 0 (by decide)) (by decide)) b1)) hr⟩) rfl rfl (Nat.le_of_ble_eq_true rfl) ⟨by decide, by decide⟩ ⟨rfl, rfl⟩ ⟨by decide, by decide⟩ ?_
        refine z_castI (pc := 98) (K := (33, a.toNatClampNeg, b.toNatClampNeg)) (N := 3) o qw_1435 dX16_trace_98 (gl_33 (gix_lt (Nat.le_trans (hBR 7 a.toNatClampNeg (by decide)) (by decide)) b3)) rfl ?_
        refine y_astore (pc := 101) (i := 4) (lv' := [(4, .ref (ad (33, a.toNatClampNeg, b.toNatClampNeg))), (0, .ref (ad (20, 0, 0))), (1, .int (a)), (2, .int (b)), (3, .int (c))]) o dX16_trace_101 (by decide) rfl ?_
        refine y_aload_n (pc := 103) o dX16_trace_103 rfl ?_
        refine z_get (pc := 104) (K := (20, 0, 0)) (v := .ref (ad (24, 4, 0))) o fl_X16_57 dX16_trace_104 (gl_20 hR) rfl rfl ?_
        refine y_aload (pc := 107) o dX16_trace_107 rfl ?_
        refine y_iconst (pc := 109) (x := 0) o dX16_trace_109 (by decide) ?_
        refine z_iald (pc := 110) (K := (33, a.toNatClampNeg, b.toNatClampNeg)) (i := 0) (v := R.1 (13, a.toNatClampNeg, b.toNatClampNeg) 0) o dX16_trace_110 (gl_33 (gix_lt (Nat.le_trans (hBR 7 a.toNatClampNeg (by decide)) (by decide)) b3)) rfl (by unfold vp_in; decide) rfl ?_
        refine z_callF (pc := 111) (k := 0) (n := 0) (k' := 0) (n' := 0) (ci := 3) o (b := ad (24, 4, 0)) (As := [.int (R.1 (13, a.toNatClampNeg, b.toNatClampNeg) 0)]) (rest := []) (getR (l := 4) (g := 0) (gl_24_4 hR) (hBR 4 0 (by decide)) (hI.2.2.2.2.2.2.2.1 a.toNatClampNeg b.toNatClampNeg (gix_lt (Nat.le_trans (hBR 5 0 (by decide)) (by decide)) b1) (gix_lt (Nat.le_trans (hBR 7 _ (by decide)) (by decide)) b3)).1) rfl lf_X16_114 dX16_trace_111 (fun h hr => ⟨_, ghdr_R (R := R) (gl_24_4 hR) hr⟩) rfl rfl (Nat.le_of_ble_eq_true rfl) ⟨by decide, by decide⟩ ⟨rfl, rfl⟩ ⟨by decide, by decide⟩ ?_
        refine z_cast (pc := 116) (ci := 18) (K := (30, 0, (R.1 (13, a.toNatClampNeg, b.toNatClampNeg) 0).toNatClampNeg)) o rfl qw_1601 dX16_trace_116 (gl_30 (gix_lt (Nat.le_trans (hBR 4 0 (by decide)) (by decide)) (hI.2.2.2.2.2.2.2.1 a.toNatClampNeg b.toNatClampNeg (gix_lt (Nat.le_trans (hBR 5 0 (by decide)) (by decide)) b1) (gix_lt (Nat.le_trans (hBR 7 _ (by decide)) (by decide)) b3)).1)) rfl ?_
        refine y_astore (pc := 119) (i := 5) (lv' := [(5, .ref (ad (30, 0, (R.1 (13, a.toNatClampNeg, b.toNatClampNeg) 0).toNatClampNeg))), (4, .ref (ad (33, a.toNatClampNeg, b.toNatClampNeg))), (0, .ref (ad (20, 0, 0))), (1, .int (a)), (2, .int (b)), (3, .int (c))]) o dX16_trace_119 (by decide) rfl ?_
        refine y_aload_n (pc := 121) o dX16_trace_121 rfl ?_
        refine z_get (pc := 122) (K := (20, 0, 0)) (v := .ref (ad (24, 2, 0))) o fl_X16_51 dX16_trace_122 (gl_20 hR) rfl rfl ?_
        refine y_aload (pc := 125) o dX16_trace_125 rfl ?_
        refine z_get (pc := 127) (K := (30, 0, (R.1 (13, a.toNatClampNeg, b.toNatClampNeg) 0).toNatClampNeg)) (v := .int (R.1 (10, 0, (R.1 (13, a.toNatClampNeg, b.toNatClampNeg) 0).toNatClampNeg) 0)) o fl_X16_240 dX16_trace_127 (gl_30 (gix_lt (Nat.le_trans (hBR 4 0 (by decide)) (by decide)) (hI.2.2.2.2.2.2.2.1 a.toNatClampNeg b.toNatClampNeg (gix_lt (Nat.le_trans (hBR 5 0 (by decide)) (by decide)) b1) (gix_lt (Nat.le_trans (hBR 7 _ (by decide)) (by decide)) b3)).1)) rfl rfl ?_
        refine z_callF (pc := 130) (k := 0) (n := 0) (k' := 0) (n' := 0) (ci := 3) o (b := ad (24, 2, 0)) (As := [.int (R.1 (10, 0, (R.1 (13, a.toNatClampNeg, b.toNatClampNeg) 0).toNatClampNeg) 0)]) (rest := []) (getR (l := 2) (g := 0) (gl_24_2 hR) (hBR 2 0 (by decide)) (hI.2.2.2.2.2.1 _ (gix_lt (Nat.le_trans (hBR 4 0 (by decide)) (by decide)) (hI.2.2.2.2.2.2.2.1 a.toNatClampNeg b.toNatClampNeg (gix_lt (Nat.le_trans (hBR 5 0 (by decide)) (by decide)) b1) (gix_lt (Nat.le_trans (hBR 7 _ (by decide)) (by decide)) b3)).1)).1) rfl lf_X16_114 dX16_trace_130 (fun h hr => ⟨_, ghdr_R (R := R) (gl_24_2 hR) hr⟩) rfl rfl (Nat.le_of_ble_eq_true rfl) ⟨by decide, by decide⟩ ⟨rfl, rfl⟩ ⟨by decide, by decide⟩ ?_
        refine z_cast (pc := 135) (ci := 16) (K := (28, 0, (R.1 (10, 0, (R.1 (13, a.toNatClampNeg, b.toNatClampNeg) 0).toNatClampNeg) 0).toNatClampNeg)) o rfl qw_1452 dX16_trace_135 (gl_28 (gix_lt (Nat.le_trans (hBR 2 0 (by decide)) (by decide)) (hI.2.2.2.2.2.1 _ (gix_lt (Nat.le_trans (hBR 4 0 (by decide)) (by decide)) (hI.2.2.2.2.2.2.2.1 a.toNatClampNeg b.toNatClampNeg (gix_lt (Nat.le_trans (hBR 5 0 (by decide)) (by decide)) b1) (gix_lt (Nat.le_trans (hBR 7 _ (by decide)) (by decide)) b3)).1)).1)) rfl ?_
        refine y_astore (pc := 138) (i := 6) (lv' := [(6, .ref (ad (28, 0, (R.1 (10, 0, (R.1 (13, a.toNatClampNeg, b.toNatClampNeg) 0).toNatClampNeg) 0).toNatClampNeg))), (5, .ref (ad (30, 0, (R.1 (13, a.toNatClampNeg, b.toNatClampNeg) 0).toNatClampNeg))), (4, .ref (ad (33, a.toNatClampNeg, b.toNatClampNeg))), (0, .ref (ad (20, 0, 0))), (1, .int (a)), (2, .int (b)), (3, .int (c))]) o dX16_trace_138 (by decide) rfl ?_
        refine y_aload_n (pc := 140) o dX16_trace_140 rfl ?_
        refine z_get (pc := 141) (K := (20, 0, 0)) (v := .ref (ad (24, 1, 0))) o fl_X16_42 dX16_trace_141 (gl_20 hR) rfl rfl ?_
        refine y_aload (pc := 144) o dX16_trace_144 rfl ?_
        refine z_get (pc := 146) (K := (28, 0, (R.1 (10, 0, (R.1 (13, a.toNatClampNeg, b.toNatClampNeg) 0).toNatClampNeg) 0).toNatClampNeg)) (v := .int (R.1 (8, 0, (R.1 (10, 0, (R.1 (13, a.toNatClampNeg, b.toNatClampNeg) 0).toNatClampNeg) 0).toNatClampNeg) 0)) o fl_X16_135 dX16_trace_146 (gl_28 (gix_lt (Nat.le_trans (hBR 2 0 (by decide)) (by decide)) (hI.2.2.2.2.2.1 _ (gix_lt (Nat.le_trans (hBR 4 0 (by decide)) (by decide)) (hI.2.2.2.2.2.2.2.1 a.toNatClampNeg b.toNatClampNeg (gix_lt (Nat.le_trans (hBR 5 0 (by decide)) (by decide)) b1) (gix_lt (Nat.le_trans (hBR 7 _ (by decide)) (by decide)) b3)).1)).1)) rfl rfl ?_
        refine z_callF (pc := 149) (k := 0) (n := 0) (k' := 0) (n' := 0) (ci := 3) o (b := ad (24, 1, 0)) (As := [.int (R.1 (8, 0, (R.1 (10, 0, (R.1 (13, a.toNatClampNeg, b.toNatClampNeg) 0).toNatClampNeg) 0).toNatClampNeg) 0)]) (rest := []) (getR (l := 1) (g := 0) (gl_24_1 hR) (hBR 1 0 (by decide)) (hI.2.2.2.2.1 _ (gix_lt (Nat.le_trans (hBR 2 0 (by decide)) (by decide)) (hI.2.2.2.2.2.1 _ (gix_lt (Nat.le_trans (hBR 4 0 (by decide)) (by decide)) (hI.2.2.2.2.2.2.2.1 a.toNatClampNeg b.toNatClampNeg (gix_lt (Nat.le_trans (hBR 5 0 (by decide)) (by decide)) b1) (gix_lt (Nat.le_trans (hBR 7 _ (by decide)) (by decide)) b3)).1)).1)).1) rfl lf_X16_114 dX16_trace_149 (fun h hr => ⟨_, ghdr_R (R := R) (gl_24_1 hR) hr⟩) rfl rfl (Nat.le_of_ble_eq_true rfl) ⟨by decide, by decide⟩ ⟨rfl, rfl⟩ ⟨by decide, by decide⟩ ?_
        refine z_castI (pc := 154) (K := (27, 0, (R.1 (8, 0, (R.1 (10, 0, (R.1 (13, a.toNatClampNeg, b.toNatClampNeg) 0).toNatClampNeg) 0).toNatClampNeg) 0).toNatClampNeg)) (N := 5) o qw_1435 dX16_trace_154 (gl_27 (gix_lt (Nat.le_trans (hBR 1 0 (by decide)) (by decide)) (hI.2.2.2.2.1 _ (gix_lt (Nat.le_trans (hBR 2 0 (by decide)) (by decide)) (hI.2.2.2.2.2.1 _ (gix_lt (Nat.le_trans (hBR 4 0 (by decide)) (by decide)) (hI.2.2.2.2.2.2.2.1 a.toNatClampNeg b.toNatClampNeg (gix_lt (Nat.le_trans (hBR 5 0 (by decide)) (by decide)) b1) (gix_lt (Nat.le_trans (hBR 7 _ (by decide)) (by decide)) b3)).1)).1)).1)) rfl ?_
        refine y_astore (pc := 157) (i := 7) (lv' := [(7, .ref (ad (27, 0, (R.1 (8, 0, (R.1 (10, 0, (R.1 (13, a.toNatClampNeg, b.toNatClampNeg) 0).toNatClampNeg) 0).toNatClampNeg) 0).toNatClampNeg))), (6, .ref (ad (28, 0, (R.1 (10, 0, (R.1 (13, a.toNatClampNeg, b.toNatClampNeg) 0).toNatClampNeg) 0).toNatClampNeg))), (5, .ref (ad (30, 0, (R.1 (13, a.toNatClampNeg, b.toNatClampNeg) 0).toNatClampNeg))), (4, .ref (ad (33, a.toNatClampNeg, b.toNatClampNeg))), (0, .ref (ad (20, 0, 0))), (1, .int (a)), (2, .int (b)), (3, .int (c))]) o dX16_trace_157 (by decide) rfl ?_
        refine y_iload_n (pc := 159) o dX16_trace_159 rfl ?_
        refine z_tableK (pc := 160) (tgt := 268) (off := 108) o 114 dX16_trace_160 c6 (by decide) rfl ?_
        refine y_aload (pc := 268) o dX16_trace_268 rfl ?_
        refine y_iconst (pc := 270) (x := 0) o dX16_trace_270 (by decide) ?_
        refine z_iald (pc := 271) (K := (33, a.toNatClampNeg, b.toNatClampNeg)) (i := 0) (v := R.1 (13, a.toNatClampNeg, b.toNatClampNeg) 0) o dX16_trace_271 (gl_33 (gix_lt (Nat.le_trans (hBR 7 a.toNatClampNeg (by decide)) (by decide)) b3)) rfl (by unfold vp_in; decide) rfl ?_
        exact y_iret (pc := 272) o dX16_trace_272 rfl (vp_nar_int _) (by decide) (by decide) (fun h hp => gP_mk (by simp +decide only [F_trace, b1, b3, c6, gix_of (hI.2.2.2.2.2.2.2.1 a.toNatClampNeg b.toNatClampNeg (gix_lt (Nat.le_trans (hBR 5 0 (by decide)) (by decide)) b1) (gix_lt (Nat.le_trans (hBR 7 _ (by decide)) (by decide)) b3)).1, gtc0, gtc1, gtc2, gtc3, gtc4, not_true_eq_false, not_false_eq_true, if_true, if_false, or_true, true_or, or_false, false_or, and_true, true_and, and_false, false_and, or_self, and_self, eq_self, Bool.false_eq_true, ne_eq, reduceIte]) rfl rfl hp)
      · refine y_iconst (pc := 66) (x := 0) o dX16_trace_66 (by decide) ?_
        refine y_iconst (pc := 67) (x := 2) o dX16_trace_67 (by decide) ?_
        refine z_callV (pc := 68) (k := 0) (n := 0) (k' := 0) (n' := 0) o (b := ad (20, 0, 0)) (As := [.int (0), .int (2)]) (rest := []) (kFailsF hR h5 2) ln_X16_74 dX16_trace_68 (z_rc (ci := 20) (K := (20, 0, 0)) rfl (gl_20 hR) rfl) rfl rfl (Nat.le_of_ble_eq_true rfl) ⟨by decide, by decide⟩ ⟨rfl, rfl⟩ ⟨by decide, by decide⟩ rfl gq_nox2 ?_
        refine y_if_eq (pc := 71) (tgt := 76) o dX16_trace_71 rfl (fun (b8 : 0 = 0) => ?_) (fun b8 => absurd b8 (by rw [b4]; decide))
        refine y_aload_n (pc := 76) o dX16_trace_76 rfl ?_
        refine z_get (pc := 77) (K := (20, 0, 0)) (v := .ref (ad (24, 5, 0))) o fl_X16_60 dX16_trace_77 (gl_20 hR) rfl rfl ?_
        refine y_iload_n (pc := 80) o dX16_trace_80 rfl ?_
        refine z_callF (pc := 81) (k := 0) (n := 0) (k' := 0) (n' := 0) (ci := 3) o (b := ad (24, 5, 0)) (As := [.int (a)]) (rest := []) (getR (l := 5) (g := 0) (gl_24_5 hR) (hBR 5 0 (by decide)) b1) rfl lf_X16_114 dX16_trace_81 (fun h hr => ⟨_, ghdr_R (R := R) (gl_24_5 hR) hr⟩) rfl rfl (Nat.le_of_ble_eq_true rfl) ⟨by decide, by decide⟩ ⟨rfl, rfl⟩ ⟨by decide, by decide⟩ ?_
        refine z_cast (pc := 86) (ci := 17) (K := (31, 0, a.toNatClampNeg)) o rfl qw_1684 dX16_trace_86 (gl_31 (gix_lt (Nat.le_trans (hBR 5 0 (by decide)) (by decide)) b1)) rfl ?_
        refine z_get (pc := 89) (K := (31, 0, a.toNatClampNeg)) (v := .ref (ad (24, 7, a.toNatClampNeg))) o fl_X16_294 dX16_trace_89 (gl_31 (gix_lt (Nat.le_trans (hBR 5 0 (by decide)) (by decide)) b1)) rfl rfl ?_
        refine y_iload_n (pc := 92) o dX16_trace_92 rfl ?_
        refine z_callF (pc := 93) (k := 0) (n := 0) (k' := 0) (n' := 0) (ci := 3) o (b := ad (24, 7, a.toNatClampNeg)) (As := [.int (b)]) (rest := []) (getR (l := 7) (g := a.toNatClampNeg) (gl_24_7 hR (gix_lt (Nat.le_trans (hBR 5 0 (by decide)) (by decide)) b1)) (hBR 7 a.toNatClampNeg (by decide)) b3) rfl lf_X16_114 dX16_trace_93 (fun h hr => ⟨_, ghdr_R (R := R) (gl_24_7 hR (gix_lt (Nat.le_trans (hBR 5 0 (by decide)) (by decide)) b1)) hr⟩) rfl rfl (Nat.le_of_ble_eq_true rfl) ⟨by decide, by decide⟩ ⟨rfl, rfl⟩ ⟨by decide, by decide⟩ ?_
        refine z_castI (pc := 98) (K := (33, a.toNatClampNeg, b.toNatClampNeg)) (N := 3) o qw_1435 dX16_trace_98 (gl_33 (gix_lt (Nat.le_trans (hBR 7 a.toNatClampNeg (by decide)) (by decide)) b3)) rfl ?_
        refine y_astore (pc := 101) (i := 4) (lv' := [(4, .ref (ad (33, a.toNatClampNeg, b.toNatClampNeg))), (0, .ref (ad (20, 0, 0))), (1, .int (a)), (2, .int (b)), (3, .int (c))]) o dX16_trace_101 (by decide) rfl ?_
        refine y_aload_n (pc := 103) o dX16_trace_103 rfl ?_
        refine z_get (pc := 104) (K := (20, 0, 0)) (v := .ref (ad (24, 4, 0))) o fl_X16_57 dX16_trace_104 (gl_20 hR) rfl rfl ?_
        refine y_aload (pc := 107) o dX16_trace_107 rfl ?_
        refine y_iconst (pc := 109) (x := 0) o dX16_trace_109 (by decide) ?_
        refine z_iald (pc := 110) (K := (33, a.toNatClampNeg, b.toNatClampNeg)) (i := 0) (v := R.1 (13, a.toNatClampNeg, b.toNatClampNeg) 0) o dX16_trace_110 (gl_33 (gix_lt (Nat.le_trans (hBR 7 a.toNatClampNeg (by decide)) (by decide)) b3)) rfl (by unfold vp_in; decide) rfl ?_
        refine z_callF (pc := 111) (k := 0) (n := 0) (k' := 0) (n' := 0) (ci := 3) o (b := ad (24, 4, 0)) (As := [.int (R.1 (13, a.toNatClampNeg, b.toNatClampNeg) 0)]) (rest := []) (getR (l := 4) (g := 0) (gl_24_4 hR) (hBR 4 0 (by decide)) (hI.2.2.2.2.2.2.2.1 a.toNatClampNeg b.toNatClampNeg (gix_lt (Nat.le_trans (hBR 5 0 (by decide)) (by decide)) b1) (gix_lt (Nat.le_trans (hBR 7 _ (by decide)) (by decide)) b3)).1) rfl lf_X16_114 dX16_trace_111 (fun h hr => ⟨_, ghdr_R (R := R) (gl_24_4 hR) hr⟩) rfl rfl (Nat.le_of_ble_eq_true rfl) ⟨by decide, by decide⟩ ⟨rfl, rfl⟩ ⟨by decide, by decide⟩ ?_
        refine z_cast (pc := 116) (ci := 18) (K := (30, 0, (R.1 (13, a.toNatClampNeg, b.toNatClampNeg) 0).toNatClampNeg)) o rfl qw_1601 dX16_trace_116 (gl_30 (gix_lt (Nat.le_trans (hBR 4 0 (by decide)) (by decide)) (hI.2.2.2.2.2.2.2.1 a.toNatClampNeg b.toNatClampNeg (gix_lt (Nat.le_trans (hBR 5 0 (by decide)) (by decide)) b1) (gix_lt (Nat.le_trans (hBR 7 _ (by decide)) (by decide)) b3)).1)) rfl ?_
        refine y_astore (pc := 119) (i := 5) (lv' := [(5, .ref (ad (30, 0, (R.1 (13, a.toNatClampNeg, b.toNatClampNeg) 0).toNatClampNeg))), (4, .ref (ad (33, a.toNatClampNeg, b.toNatClampNeg))), (0, .ref (ad (20, 0, 0))), (1, .int (a)), (2, .int (b)), (3, .int (c))]) o dX16_trace_119 (by decide) rfl ?_
        refine y_aload_n (pc := 121) o dX16_trace_121 rfl ?_
        refine z_get (pc := 122) (K := (20, 0, 0)) (v := .ref (ad (24, 2, 0))) o fl_X16_51 dX16_trace_122 (gl_20 hR) rfl rfl ?_
        refine y_aload (pc := 125) o dX16_trace_125 rfl ?_
        refine z_get (pc := 127) (K := (30, 0, (R.1 (13, a.toNatClampNeg, b.toNatClampNeg) 0).toNatClampNeg)) (v := .int (R.1 (10, 0, (R.1 (13, a.toNatClampNeg, b.toNatClampNeg) 0).toNatClampNeg) 0)) o fl_X16_240 dX16_trace_127 (gl_30 (gix_lt (Nat.le_trans (hBR 4 0 (by decide)) (by decide)) (hI.2.2.2.2.2.2.2.1 a.toNatClampNeg b.toNatClampNeg (gix_lt (Nat.le_trans (hBR 5 0 (by decide)) (by decide)) b1) (gix_lt (Nat.le_trans (hBR 7 _ (by decide)) (by decide)) b3)).1)) rfl rfl ?_
        refine z_callF (pc := 130) (k := 0) (n := 0) (k' := 0) (n' := 0) (ci := 3) o (b := ad (24, 2, 0)) (As := [.int (R.1 (10, 0, (R.1 (13, a.toNatClampNeg, b.toNatClampNeg) 0).toNatClampNeg) 0)]) (rest := []) (getR (l := 2) (g := 0) (gl_24_2 hR) (hBR 2 0 (by decide)) (hI.2.2.2.2.2.1 _ (gix_lt (Nat.le_trans (hBR 4 0 (by decide)) (by decide)) (hI.2.2.2.2.2.2.2.1 a.toNatClampNeg b.toNatClampNeg (gix_lt (Nat.le_trans (hBR 5 0 (by decide)) (by decide)) b1) (gix_lt (Nat.le_trans (hBR 7 _ (by decide)) (by decide)) b3)).1)).1) rfl lf_X16_114 dX16_trace_130 (fun h hr => ⟨_, ghdr_R (R := R) (gl_24_2 hR) hr⟩) rfl rfl (Nat.le_of_ble_eq_true rfl) ⟨by decide, by decide⟩ ⟨rfl, rfl⟩ ⟨by decide, by decide⟩ ?_
        refine z_cast (pc := 135) (ci := 16) (K := (28, 0, (R.1 (10, 0, (R.1 (13, a.toNatClampNeg, b.toNatClampNeg) 0).toNatClampNeg) 0).toNatClampNeg)) o rfl qw_1452 dX16_trace_135 (gl_28 (gix_lt (Nat.le_trans (hBR 2 0 (by decide)) (by decide)) (hI.2.2.2.2.2.1 _ (gix_lt (Nat.le_trans (hBR 4 0 (by decide)) (by decide)) (hI.2.2.2.2.2.2.2.1 a.toNatClampNeg b.toNatClampNeg (gix_lt (Nat.le_trans (hBR 5 0 (by decide)) (by decide)) b1) (gix_lt (Nat.le_trans (hBR 7 _ (by decide)) (by decide)) b3)).1)).1)) rfl ?_
        refine y_astore (pc := 138) (i := 6) (lv' := [(6, .ref (ad (28, 0, (R.1 (10, 0, (R.1 (13, a.toNatClampNeg, b.toNatClampNeg) 0).toNatClampNeg) 0).toNatClampNeg))), (5, .ref (ad (30, 0, (R.1 (13, a.toNatClampNeg, b.toNatClampNeg) 0).toNatClampNeg))), (4, .ref (ad (33, a.toNatClampNeg, b.toNatClampNeg))), (0, .ref (ad (20, 0, 0))), (1, .int (a)), (2, .int (b)), (3, .int (c))]) o dX16_trace_138 (by decide) rfl ?_
        refine y_aload_n (pc := 140) o dX16_trace_140 rfl ?_
        refine z_get (pc := 141) (K := (20, 0, 0)) (v := .ref (ad (24, 1, 0))) o fl_X16_42 dX16_trace_141 (gl_20 hR) rfl rfl ?_
        refine y_aload (pc := 144) o dX16_trace_144 rfl ?_
        refine z_get (pc := 146) (K := (28, 0, (R.1 (10, 0, (R.1 (13, a.toNatClampNeg, b.toNatClampNeg) 0).toNatClampNeg) 0).toNatClampNeg)) (v := .int (R.1 (8, 0, (R.1 (10, 0, (R.1 (13, a.toNatClampNeg, b.toNatClampNeg) 0).toNatClampNeg) 0).toNatClampNeg) 0)) o fl_X16_135 dX16_trace_146 (gl_28 (gix_lt (Nat.le_trans (hBR 2 0 (by decide)) (by decide)) (hI.2.2.2.2.2.1 _ (gix_lt (Nat.le_trans (hBR 4 0 (by decide)) (by decide)) (hI.2.2.2.2.2.2.2.1 a.toNatClampNeg b.toNatClampNeg (gix_lt (Nat.le_trans (hBR 5 0 (by decide)) (by decide)) b1) (gix_lt (Nat.le_trans (hBR 7 _ (by decide)) (by decide)) b3)).1)).1)) rfl rfl ?_
        refine z_callF (pc := 149) (k := 0) (n := 0) (k' := 0) (n' := 0) (ci := 3) o (b := ad (24, 1, 0)) (As := [.int (R.1 (8, 0, (R.1 (10, 0, (R.1 (13, a.toNatClampNeg, b.toNatClampNeg) 0).toNatClampNeg) 0).toNatClampNeg) 0)]) (rest := []) (getR (l := 1) (g := 0) (gl_24_1 hR) (hBR 1 0 (by decide)) (hI.2.2.2.2.1 _ (gix_lt (Nat.le_trans (hBR 2 0 (by decide)) (by decide)) (hI.2.2.2.2.2.1 _ (gix_lt (Nat.le_trans (hBR 4 0 (by decide)) (by decide)) (hI.2.2.2.2.2.2.2.1 a.toNatClampNeg b.toNatClampNeg (gix_lt (Nat.le_trans (hBR 5 0 (by decide)) (by decide)) b1) (gix_lt (Nat.le_trans (hBR 7 _ (by decide)) (by decide)) b3)).1)).1)).1) rfl lf_X16_114 dX16_trace_149 (fun h hr => ⟨_, ghdr_R (R := R) (gl_24_1 hR) hr⟩) rfl rfl (Nat.le_of_ble_eq_true rfl) ⟨by decide, by decide⟩ ⟨rfl, rfl⟩ ⟨by decide, by decide⟩ ?_
        refine z_castI (pc := 154) (K := (27, 0, (R.1 (8, 0, (R.1 (10, 0, (R.1 (13, a.toNatClampNeg, b.toNatClampNeg) 0).toNatClampNeg) 0).toNatClampNeg) 0).toNatClampNeg)) (N := 5) o qw_1435 dX16_trace_154 (gl_27 (gix_lt (Nat.le_trans (hBR 1 0 (by decide)) (by decide)) (hI.2.2.2.2.1 _ (gix_lt (Nat.le_trans (hBR 2 0 (by decide)) (by decide)) (hI.2.2.2.2.2.1 _ (gix_lt (Nat.le_trans (hBR 4 0 (by decide)) (by decide)) (hI.2.2.2.2.2.2.2.1 a.toNatClampNeg b.toNatClampNeg (gix_lt (Nat.le_trans (hBR 5 0 (by decide)) (by decide)) b1) (gix_lt (Nat.le_trans (hBR 7 _ (by decide)) (by decide)) b3)).1)).1)).1)) rfl ?_
        refine y_astore (pc := 157) (i := 7) (lv' := [(7, .ref (ad (27, 0, (R.1 (8, 0, (R.1 (10, 0, (R.1 (13, a.toNatClampNeg, b.toNatClampNeg) 0).toNatClampNeg) 0).toNatClampNeg) 0).toNatClampNeg))), (6, .ref (ad (28, 0, (R.1 (10, 0, (R.1 (13, a.toNatClampNeg, b.toNatClampNeg) 0).toNatClampNeg) 0).toNatClampNeg))), (5, .ref (ad (30, 0, (R.1 (13, a.toNatClampNeg, b.toNatClampNeg) 0).toNatClampNeg))), (4, .ref (ad (33, a.toNatClampNeg, b.toNatClampNeg))), (0, .ref (ad (20, 0, 0))), (1, .int (a)), (2, .int (b)), (3, .int (c))]) o dX16_trace_157 (by decide) rfl ?_
        refine y_iload_n (pc := 159) o dX16_trace_159 rfl ?_
        refine z_tableK (pc := 160) (tgt := 273) (off := 113) o 110 dX16_trace_160 c6 (by decide) rfl ?_
        refine y_aload (pc := 273) o dX16_trace_273 rfl ?_
        refine y_iconst (pc := 275) (x := 1) o dX16_trace_275 (by decide) ?_
        refine z_iald (pc := 276) (K := (33, a.toNatClampNeg, b.toNatClampNeg)) (i := 1) (v := R.1 (13, a.toNatClampNeg, b.toNatClampNeg) 1) o dX16_trace_276 (gl_33 (gix_lt (Nat.le_trans (hBR 7 a.toNatClampNeg (by decide)) (by decide)) b3)) rfl (by unfold vp_in; decide) rfl ?_
        exact y_iret (pc := 277) o dX16_trace_277 rfl (vp_nar_int _) (by decide) (by decide) (fun h hp => gP_mk (by simp +decide only [F_trace, b1, b3, c6, gtc0, gtc1, gtc2, gtc3, gtc4, not_true_eq_false, not_false_eq_true, if_true, if_false, or_true, true_or, or_false, false_or, and_true, true_and, and_false, false_and, or_self, and_self, eq_self, Bool.false_eq_true, ne_eq, reduceIte]) rfl rfl hp)
      · refine y_iconst (pc := 66) (x := 0) o dX16_trace_66 (by decide) ?_
        refine y_iconst (pc := 67) (x := 2) o dX16_trace_67 (by decide) ?_
        refine z_callV (pc := 68) (k := 0) (n := 0) (k' := 0) (n' := 0) o (b := ad (20, 0, 0)) (As := [.int (0), .int (2)]) (rest := []) (kFailsF hR h5 2) ln_X16_74 dX16_trace_68 (z_rc (ci := 20) (K := (20, 0, 0)) rfl (gl_20 hR) rfl) rfl rfl (Nat.le_of_ble_eq_true rfl) ⟨by decide, by decide⟩ ⟨rfl, rfl⟩ ⟨by decide, by decide⟩ rfl gq_nox2 ?_
        refine y_if_eq (pc := 71) (tgt := 76) o dX16_trace_71 rfl (fun (b9 : 0 = 0) => ?_) (fun b9 => absurd b9 (by rw [b4]; decide))
        refine y_aload_n (pc := 76) o dX16_trace_76 rfl ?_
        refine z_get (pc := 77) (K := (20, 0, 0)) (v := .ref (ad (24, 5, 0))) o fl_X16_60 dX16_trace_77 (gl_20 hR) rfl rfl ?_
        refine y_iload_n (pc := 80) o dX16_trace_80 rfl ?_
        refine z_callF (pc := 81) (k := 0) (n := 0) (k' := 0) (n' := 0) (ci := 3) o (b := ad (24, 5, 0)) (As := [.int (a)]) (rest := []) (getR (l := 5) (g := 0) (gl_24_5 hR) (hBR 5 0 (by decide)) b1) rfl lf_X16_114 dX16_trace_81 (fun h hr => ⟨_, ghdr_R (R := R) (gl_24_5 hR) hr⟩) rfl rfl (Nat.le_of_ble_eq_true rfl) ⟨by decide, by decide⟩ ⟨rfl, rfl⟩ ⟨by decide, by decide⟩ ?_
        refine z_cast (pc := 86) (ci := 17) (K := (31, 0, a.toNatClampNeg)) o rfl qw_1684 dX16_trace_86 (gl_31 (gix_lt (Nat.le_trans (hBR 5 0 (by decide)) (by decide)) b1)) rfl ?_
        refine z_get (pc := 89) (K := (31, 0, a.toNatClampNeg)) (v := .ref (ad (24, 7, a.toNatClampNeg))) o fl_X16_294 dX16_trace_89 (gl_31 (gix_lt (Nat.le_trans (hBR 5 0 (by decide)) (by decide)) b1)) rfl rfl ?_
        refine y_iload_n (pc := 92) o dX16_trace_92 rfl ?_
        refine z_callF (pc := 93) (k := 0) (n := 0) (k' := 0) (n' := 0) (ci := 3) o (b := ad (24, 7, a.toNatClampNeg)) (As := [.int (b)]) (rest := []) (getR (l := 7) (g := a.toNatClampNeg) (gl_24_7 hR (gix_lt (Nat.le_trans (hBR 5 0 (by decide)) (by decide)) b1)) (hBR 7 a.toNatClampNeg (by decide)) b3) rfl lf_X16_114 dX16_trace_93 (fun h hr => ⟨_, ghdr_R (R := R) (gl_24_7 hR (gix_lt (Nat.le_trans (hBR 5 0 (by decide)) (by decide)) b1)) hr⟩) rfl rfl (Nat.le_of_ble_eq_true rfl) ⟨by decide, by decide⟩ ⟨rfl, rfl⟩ ⟨by decide, by decide⟩ ?_
        refine z_castI (pc := 98) (K := (33, a.toNatClampNeg, b.toNatClampNeg)) (N := 3) o qw_1435 dX16_trace_98 (gl_33 (gix_lt (Nat.le_trans (hBR 7 a.toNatClampNeg (by decide)) (by decide)) b3)) rfl ?_
        refine y_astore (pc := 101) (i := 4) (lv' := [(4, .ref (ad (33, a.toNatClampNeg, b.toNatClampNeg))), (0, .ref (ad (20, 0, 0))), (1, .int (a)), (2, .int (b)), (3, .int (c))]) o dX16_trace_101 (by decide) rfl ?_
        refine y_aload_n (pc := 103) o dX16_trace_103 rfl ?_
        refine z_get (pc := 104) (K := (20, 0, 0)) (v := .ref (ad (24, 4, 0))) o fl_X16_57 dX16_trace_104 (gl_20 hR) rfl rfl ?_
        refine y_aload (pc := 107) o dX16_trace_107 rfl ?_
        refine y_iconst (pc := 109) (x := 0) o dX16_trace_109 (by decide) ?_
        refine z_iald (pc := 110) (K := (33, a.toNatClampNeg, b.toNatClampNeg)) (i := 0) (v := R.1 (13, a.toNatClampNeg, b.toNatClampNeg) 0) o dX16_trace_110 (gl_33 (gix_lt (Nat.le_trans (hBR 7 a.toNatClampNeg (by decide)) (by decide)) b3)) rfl (by unfold vp_in; decide) rfl ?_
        refine z_callF (pc := 111) (k := 0) (n := 0) (k' := 0) (n' := 0) (ci := 3) o (b := ad (24, 4, 0)) (As := [.int (R.1 (13, a.toNatClampNeg, b.toNatClampNeg) 0)]) (rest := []) (getR (l := 4) (g := 0) (gl_24_4 hR) (hBR 4 0 (by decide)) (hI.2.2.2.2.2.2.2.1 a.toNatClampNeg b.toNatClampNeg (gix_lt (Nat.le_trans (hBR 5 0 (by decide)) (by decide)) b1) (gix_lt (Nat.le_trans (hBR 7 _ (by decide)) (by decide)) b3)).1) rfl lf_X16_114 dX16_trace_111 (fun h hr => ⟨_, ghdr_R (R := R) (gl_24_4 hR) hr⟩) rfl rfl (Nat.le_of_ble_eq_true rfl) ⟨by decide, by decide⟩ ⟨rfl, rfl⟩ ⟨by decide, by decide⟩ ?_
        refine z_cast (pc := 116) (ci := 18) (K := (30, 0, (R.1 (13, a.toNatClampNeg, b.toNatClampNeg) 0).toNatClampNeg)) o rfl qw_1601 dX16_trace_116 (gl_30 (gix_lt (Nat.le_trans (hBR 4 0 (by decide)) (by decide)) (hI.2.2.2.2.2.2.2.1 a.toNatClampNeg b.toNatClampNeg (gix_lt (Nat.le_trans (hBR 5 0 (by decide)) (by decide)) b1) (gix_lt (Nat.le_trans (hBR 7 _ (by decide)) (by decide)) b3)).1)) rfl ?_
        refine y_astore (pc := 119) (i := 5) (lv' := [(5, .ref (ad (30, 0, (R.1 (13, a.toNatClampNeg, b.toNatClampNeg) 0).toNatClampNeg))), (4, .ref (ad (33, a.toNatClampNeg, b.toNatClampNeg))), (0, .ref (ad (20, 0, 0))), (1, .int (a)), (2, .int (b)), (3, .int (c))]) o dX16_trace_119 (by decide) rfl ?_
        refine y_aload_n (pc := 121) o dX16_trace_121 rfl ?_
        refine z_get (pc := 122) (K := (20, 0, 0)) (v := .ref (ad (24, 2, 0))) o fl_X16_51 dX16_trace_122 (gl_20 hR) rfl rfl ?_
        refine y_aload (pc := 125) o dX16_trace_125 rfl ?_
        refine z_get (pc := 127) (K := (30, 0, (R.1 (13, a.toNatClampNeg, b.toNatClampNeg) 0).toNatClampNeg)) (v := .int (R.1 (10, 0, (R.1 (13, a.toNatClampNeg, b.toNatClampNeg) 0).toNatClampNeg) 0)) o fl_X16_240 dX16_trace_127 (gl_30 (gix_lt (Nat.le_trans (hBR 4 0 (by decide)) (by decide)) (hI.2.2.2.2.2.2.2.1 a.toNatClampNeg b.toNatClampNeg (gix_lt (Nat.le_trans (hBR 5 0 (by decide)) (by decide)) b1) (gix_lt (Nat.le_trans (hBR 7 _ (by decide)) (by decide)) b3)).1)) rfl rfl ?_
        refine z_callF (pc := 130) (k := 0) (n := 0) (k' := 0) (n' := 0) (ci := 3) o (b := ad (24, 2, 0)) (As := [.int (R.1 (10, 0, (R.1 (13, a.toNatClampNeg, b.toNatClampNeg) 0).toNatClampNeg) 0)]) (rest := []) (getR (l := 2) (g := 0) (gl_24_2 hR) (hBR 2 0 (by decide)) (hI.2.2.2.2.2.1 _ (gix_lt (Nat.le_trans (hBR 4 0 (by decide)) (by decide)) (hI.2.2.2.2.2.2.2.1 a.toNatClampNeg b.toNatClampNeg (gix_lt (Nat.le_trans (hBR 5 0 (by decide)) (by decide)) b1) (gix_lt (Nat.le_trans (hBR 7 _ (by decide)) (by decide)) b3)).1)).1) rfl lf_X16_114 dX16_trace_130 (fun h hr => ⟨_, ghdr_R (R := R) (gl_24_2 hR) hr⟩) rfl rfl (Nat.le_of_ble_eq_true rfl) ⟨by decide, by decide⟩ ⟨rfl, rfl⟩ ⟨by decide, by decide⟩ ?_
        refine z_cast (pc := 135) (ci := 16) (K := (28, 0, (R.1 (10, 0, (R.1 (13, a.toNatClampNeg, b.toNatClampNeg) 0).toNatClampNeg) 0).toNatClampNeg)) o rfl qw_1452 dX16_trace_135 (gl_28 (gix_lt (Nat.le_trans (hBR 2 0 (by decide)) (by decide)) (hI.2.2.2.2.2.1 _ (gix_lt (Nat.le_trans (hBR 4 0 (by decide)) (by decide)) (hI.2.2.2.2.2.2.2.1 a.toNatClampNeg b.toNatClampNeg (gix_lt (Nat.le_trans (hBR 5 0 (by decide)) (by decide)) b1) (gix_lt (Nat.le_trans (hBR 7 _ (by decide)) (by decide)) b3)).1)).1)) rfl ?_
        refine y_astore (pc := 138) (i := 6) (lv' := [(6, .ref (ad (28, 0, (R.1 (10, 0, (R.1 (13, a.toNatClampNeg, b.toNatClampNeg) 0).toNatClampNeg) 0).toNatClampNeg))), (5, .ref (ad (30, 0, (R.1 (13, a.toNatClampNeg, b.toNatClampNeg) 0).toNatClampNeg))), (4, .ref (ad (33, a.toNatClampNeg, b.toNatClampNeg))), (0, .ref (ad (20, 0, 0))), (1, .int (a)), (2, .int (b)), (3, .int (c))]) o dX16_trace_138 (by decide) rfl ?_
        refine y_aload_n (pc := 140) o dX16_trace_140 rfl ?_
        refine z_get (pc := 141) (K := (20, 0, 0)) (v := .ref (ad (24, 1, 0))) o fl_X16_42 dX16_trace_141 (gl_20 hR) rfl rfl ?_
        refine y_aload (pc := 144) o dX16_trace_144 rfl ?_
        refine z_get (pc := 146) (K := (28, 0, (R.1 (10, 0, (R.1 (13, a.toNatClampNeg, b.toNatClampNeg) 0).toNatClampNeg) 0).toNatClampNeg)) (v := .int (R.1 (8, 0, (R.1 (10, 0, (R.1 (13, a.toNatClampNeg, b.toNatClampNeg) 0).toNatClampNeg) 0).toNatClampNeg) 0)) o fl_X16_135 dX16_trace_146 (gl_28 (gix_lt (Nat.le_trans (hBR 2 0 (by decide)) (by decide)) (hI.2.2.2.2.2.1 _ (gix_lt (Nat.le_trans (hBR 4 0 (by decide)) (by decide)) (hI.2.2.2.2.2.2.2.1 a.toNatClampNeg b.toNatClampNeg (gix_lt (Nat.le_trans (hBR 5 0 (by decide)) (by decide)) b1) (gix_lt (Nat.le_trans (hBR 7 _ (by decide)) (by decide)) b3)).1)).1)) rfl rfl ?_
        refine z_callF (pc := 149) (k := 0) (n := 0) (k' := 0) (n' := 0) (ci := 3) o (b := ad (24, 1, 0)) (As := [.int (R.1 (8, 0, (R.1 (10, 0, (R.1 (13, a.toNatClampNeg, b.toNatClampNeg) 0).toNatClampNeg) 0).toNatClampNeg) 0)]) (rest := []) (getR (l := 1) (g := 0) (gl_24_1 hR) (hBR 1 0 (by decide)) (hI.2.2.2.2.1 _ (gix_lt (Nat.le_trans (hBR 2 0 (by decide)) (by decide)) (hI.2.2.2.2.2.1 _ (gix_lt (Nat.le_trans (hBR 4 0 (by decide)) (by decide)) (hI.2.2.2.2.2.2.2.1 a.toNatClampNeg b.toNatClampNeg (gix_lt (Nat.le_trans (hBR 5 0 (by decide)) (by decide)) b1) (gix_lt (Nat.le_trans (hBR 7 _ (by decide)) (by decide)) b3)).1)).1)).1) rfl lf_X16_114 dX16_trace_149 (fun h hr => ⟨_, ghdr_R (R := R) (gl_24_1 hR) hr⟩) rfl rfl (Nat.le_of_ble_eq_true rfl) ⟨by decide, by decide⟩ ⟨rfl, rfl⟩ ⟨by decide, by decide⟩ ?_
        refine z_castI (pc := 154) (K := (27, 0, (R.1 (8, 0, (R.1 (10, 0, (R.1 (13, a.toNatClampNeg, b.toNatClampNeg) 0).toNatClampNeg) 0).toNatClampNeg) 0).toNatClampNeg)) (N := 5) o qw_1435 dX16_trace_154 (gl_27 (gix_lt (Nat.le_trans (hBR 1 0 (by decide)) (by decide)) (hI.2.2.2.2.1 _ (gix_lt (Nat.le_trans (hBR 2 0 (by decide)) (by decide)) (hI.2.2.2.2.2.1 _ (gix_lt (Nat.le_trans (hBR 4 0 (by decide)) (by decide)) (hI.2.2.2.2.2.2.2.1 a.toNatClampNeg b.toNatClampNeg (gix_lt (Nat.le_trans (hBR 5 0 (by decide)) (by decide)) b1) (gix_lt (Nat.le_trans (hBR 7 _ (by decide)) (by decide)) b3)).1)).1)).1)) rfl ?_
        refine y_astore (pc := 157) (i := 7) (lv' := [(7, .ref (ad (27, 0, (R.1 (8, 0, (R.1 (10, 0, (R.1 (13, a.toNatClampNeg, b.toNatClampNeg) 0).toNatClampNeg) 0).toNatClampNeg) 0).toNatClampNeg))), (6, .ref (ad (28, 0, (R.1 (10, 0, (R.1 (13, a.toNatClampNeg, b.toNatClampNeg) 0).toNatClampNeg) 0).toNatClampNeg))), (5, .ref (ad (30, 0, (R.1 (13, a.toNatClampNeg, b.toNatClampNeg) 0).toNatClampNeg))), (4, .ref (ad (33, a.toNatClampNeg, b.toNatClampNeg))), (0, .ref (ad (20, 0, 0))), (1, .int (a)), (2, .int (b)), (3, .int (c))]) o dX16_trace_157 (by decide) rfl ?_
        refine y_iload_n (pc := 159) o dX16_trace_159 rfl ?_
        refine z_tableK (pc := 160) (tgt := 278) (off := 118) o 120 dX16_trace_160 c6 (by decide) rfl ?_
        refine y_aload (pc := 278) o dX16_trace_278 rfl ?_
        refine y_iconst (pc := 280) (x := 2) o dX16_trace_280 (by decide) ?_
        refine z_iald (pc := 281) (K := (33, a.toNatClampNeg, b.toNatClampNeg)) (i := 2) (v := R.1 (13, a.toNatClampNeg, b.toNatClampNeg) 2) o dX16_trace_281 (gl_33 (gix_lt (Nat.le_trans (hBR 7 a.toNatClampNeg (by decide)) (by decide)) b3)) rfl (by unfold vp_in; decide) rfl ?_
        exact y_iret (pc := 282) o dX16_trace_282 rfl (vp_nar_int _) (by decide) (by decide) (fun h hp => gP_mk (by simp +decide only [F_trace, b1, b3, c6, gtc0, gtc1, gtc2, gtc3, gtc4, not_true_eq_false, not_false_eq_true, if_true, if_false, or_true, true_or, or_false, false_or, and_true, true_and, and_false, false_and, or_self, and_self, eq_self, Bool.false_eq_true, ne_eq, reduceIte]) rfl rfl hp)
      · refine y_iconst (pc := 66) (x := 0) o dX16_trace_66 (by decide) ?_
        refine y_iconst (pc := 67) (x := 2) o dX16_trace_67 (by decide) ?_
        refine z_callV (pc := 68) (k := 0) (n := 0) (k' := 0) (n' := 0) o (b := ad (20, 0, 0)) (As := [.int (0), .int (2)]) (rest := []) (kFailsF hR h5 2) ln_X16_74 dX16_trace_68 (z_rc (ci := 20) (K := (20, 0, 0)) rfl (gl_20 hR) rfl) rfl rfl (Nat.le_of_ble_eq_true rfl) ⟨by decide, by decide⟩ ⟨rfl, rfl⟩ ⟨by decide, by decide⟩ rfl gq_nox2 ?_
        refine y_if_eq (pc := 71) (tgt := 76) o dX16_trace_71 rfl (fun (b10 : 0 = 0) => ?_) (fun b10 => absurd b10 (by rw [b4]; decide))
        refine y_aload_n (pc := 76) o dX16_trace_76 rfl ?_
        refine z_get (pc := 77) (K := (20, 0, 0)) (v := .ref (ad (24, 5, 0))) o fl_X16_60 dX16_trace_77 (gl_20 hR) rfl rfl ?_
        refine y_iload_n (pc := 80) o dX16_trace_80 rfl ?_
        refine z_callF (pc := 81) (k := 0) (n := 0) (k' := 0) (n' := 0) (ci := 3) o (b := ad (24, 5, 0)) (As := [.int (a)]) (rest := []) (getR (l := 5) (g := 0) (gl_24_5 hR) (hBR 5 0 (by decide)) b1) rfl lf_X16_114 dX16_trace_81 (fun h hr => ⟨_, ghdr_R (R := R) (gl_24_5 hR) hr⟩) rfl rfl (Nat.le_of_ble_eq_true rfl) ⟨by decide, by decide⟩ ⟨rfl, rfl⟩ ⟨by decide, by decide⟩ ?_
        refine z_cast (pc := 86) (ci := 17) (K := (31, 0, a.toNatClampNeg)) o rfl qw_1684 dX16_trace_86 (gl_31 (gix_lt (Nat.le_trans (hBR 5 0 (by decide)) (by decide)) b1)) rfl ?_
        refine z_get (pc := 89) (K := (31, 0, a.toNatClampNeg)) (v := .ref (ad (24, 7, a.toNatClampNeg))) o fl_X16_294 dX16_trace_89 (gl_31 (gix_lt (Nat.le_trans (hBR 5 0 (by decide)) (by decide)) b1)) rfl rfl ?_
        refine y_iload_n (pc := 92) o dX16_trace_92 rfl ?_
        refine z_callF (pc := 93) (k := 0) (n := 0) (k' := 0) (n' := 0) (ci := 3) o (b := ad (24, 7, a.toNatClampNeg)) (As := [.int (b)]) (rest := []) (getR (l := 7) (g := a.toNatClampNeg) (gl_24_7 hR (gix_lt (Nat.le_trans (hBR 5 0 (by decide)) (by decide)) b1)) (hBR 7 a.toNatClampNeg (by decide)) b3) rfl lf_X16_114 dX16_trace_93 (fun h hr => ⟨_, ghdr_R (R := R) (gl_24_7 hR (gix_lt (Nat.le_trans (hBR 5 0 (by decide)) (by decide)) b1)) hr⟩) rfl rfl (Nat.le_of_ble_eq_true rfl) ⟨by decide, by decide⟩ ⟨rfl, rfl⟩ ⟨by decide, by decide⟩ ?_
        refine z_castI (pc := 98) (K := (33, a.toNatClampNeg, b.toNatClampNeg)) (N := 3) o qw_1435 dX16_trace_98 (gl_33 (gix_lt (Nat.le_trans (hBR 7 a.toNatClampNeg (by decide)) (by decide)) b3)) rfl ?_
        refine y_astore (pc := 101) (i := 4) (lv' := [(4, .ref (ad (33, a.toNatClampNeg, b.toNatClampNeg))), (0, .ref (ad (20, 0, 0))), (1, .int (a)), (2, .int (b)), (3, .int (c))]) o dX16_trace_101 (by decide) rfl ?_
        refine y_aload_n (pc := 103) o dX16_trace_103 rfl ?_
        refine z_get (pc := 104) (K := (20, 0, 0)) (v := .ref (ad (24, 4, 0))) o fl_X16_57 dX16_trace_104 (gl_20 hR) rfl rfl ?_
        refine y_aload (pc := 107) o dX16_trace_107 rfl ?_
        refine y_iconst (pc := 109) (x := 0) o dX16_trace_109 (by decide) ?_
        refine z_iald (pc := 110) (K := (33, a.toNatClampNeg, b.toNatClampNeg)) (i := 0) (v := R.1 (13, a.toNatClampNeg, b.toNatClampNeg) 0) o dX16_trace_110 (gl_33 (gix_lt (Nat.le_trans (hBR 7 a.toNatClampNeg (by decide)) (by decide)) b3)) rfl (by unfold vp_in; decide) rfl ?_
        refine z_callF (pc := 111) (k := 0) (n := 0) (k' := 0) (n' := 0) (ci := 3) o (b := ad (24, 4, 0)) (As := [.int (R.1 (13, a.toNatClampNeg, b.toNatClampNeg) 0)]) (rest := []) (getR (l := 4) (g := 0) (gl_24_4 hR) (hBR 4 0 (by decide)) (hI.2.2.2.2.2.2.2.1 a.toNatClampNeg b.toNatClampNeg (gix_lt (Nat.le_trans (hBR 5 0 (by decide)) (by decide)) b1) (gix_lt (Nat.le_trans (hBR 7 _ (by decide)) (by decide)) b3)).1) rfl lf_X16_114 dX16_trace_111 (fun h hr => ⟨_, ghdr_R (R := R) (gl_24_4 hR) hr⟩) rfl rfl (Nat.le_of_ble_eq_true rfl) ⟨by decide, by decide⟩ ⟨rfl, rfl⟩ ⟨by decide, by decide⟩ ?_
        refine z_cast (pc := 116) (ci := 18) (K := (30, 0, (R.1 (13, a.toNatClampNeg, b.toNatClampNeg) 0).toNatClampNeg)) o rfl qw_1601 dX16_trace_116 (gl_30 (gix_lt (Nat.le_trans (hBR 4 0 (by decide)) (by decide)) (hI.2.2.2.2.2.2.2.1 a.toNatClampNeg b.toNatClampNeg (gix_lt (Nat.le_trans (hBR 5 0 (by decide)) (by decide)) b1) (gix_lt (Nat.le_trans (hBR 7 _ (by decide)) (by decide)) b3)).1)) rfl ?_
        refine y_astore (pc := 119) (i := 5) (lv' := [(5, .ref (ad (30, 0, (R.1 (13, a.toNatClampNeg, b.toNatClampNeg) 0).toNatClampNeg))), (4, .ref (ad (33, a.toNatClampNeg, b.toNatClampNeg))), (0, .ref (ad (20, 0, 0))), (1, .int (a)), (2, .int (b)), (3, .int (c))]) o dX16_trace_119 (by decide) rfl ?_
        refine y_aload_n (pc := 121) o dX16_trace_121 rfl ?_
        refine z_get (pc := 122) (K := (20, 0, 0)) (v := .ref (ad (24, 2, 0))) o fl_X16_51 dX16_trace_122 (gl_20 hR) rfl rfl ?_
        refine y_aload (pc := 125) o dX16_trace_125 rfl ?_
        refine z_get (pc := 127) (K := (30, 0, (R.1 (13, a.toNatClampNeg, b.toNatClampNeg) 0).toNatClampNeg)) (v := .int (R.1 (10, 0, (R.1 (13, a.toNatClampNeg, b.toNatClampNeg) 0).toNatClampNeg) 0)) o fl_X16_240 dX16_trace_127 (gl_30 (gix_lt (Nat.le_trans (hBR 4 0 (by decide)) (by decide)) (hI.2.2.2.2.2.2.2.1 a.toNatClampNeg b.toNatClampNeg (gix_lt (Nat.le_trans (hBR 5 0 (by decide)) (by decide)) b1) (gix_lt (Nat.le_trans (hBR 7 _ (by decide)) (by decide)) b3)).1)) rfl rfl ?_
        refine z_callF (pc := 130) (k := 0) (n := 0) (k' := 0) (n' := 0) (ci := 3) o (b := ad (24, 2, 0)) (As := [.int (R.1 (10, 0, (R.1 (13, a.toNatClampNeg, b.toNatClampNeg) 0).toNatClampNeg) 0)]) (rest := []) (getR (l := 2) (g := 0) (gl_24_2 hR) (hBR 2 0 (by decide)) (hI.2.2.2.2.2.1 _ (gix_lt (Nat.le_trans (hBR 4 0 (by decide)) (by decide)) (hI.2.2.2.2.2.2.2.1 a.toNatClampNeg b.toNatClampNeg (gix_lt (Nat.le_trans (hBR 5 0 (by decide)) (by decide)) b1) (gix_lt (Nat.le_trans (hBR 7 _ (by decide)) (by decide)) b3)).1)).1) rfl lf_X16_114 dX16_trace_130 (fun h hr => ⟨_, ghdr_R (R := R) (gl_24_2 hR) hr⟩) rfl rfl (Nat.le_of_ble_eq_true rfl) ⟨by decide, by decide⟩ ⟨rfl, rfl⟩ ⟨by decide, by decide⟩ ?_
        refine z_cast (pc := 135) (ci := 16) (K := (28, 0, (R.1 (10, 0, (R.1 (13, a.toNatClampNeg, b.toNatClampNeg) 0).toNatClampNeg) 0).toNatClampNeg)) o rfl qw_1452 dX16_trace_135 (gl_28 (gix_lt (Nat.le_trans (hBR 2 0 (by decide)) (by decide)) (hI.2.2.2.2.2.1 _ (gix_lt (Nat.le_trans (hBR 4 0 (by decide)) (by decide)) (hI.2.2.2.2.2.2.2.1 a.toNatClampNeg b.toNatClampNeg (gix_lt (Nat.le_trans (hBR 5 0 (by decide)) (by decide)) b1) (gix_lt (Nat.le_trans (hBR 7 _ (by decide)) (by decide)) b3)).1)).1)) rfl ?_
        refine y_astore (pc := 138) (i := 6) (lv' := [(6, .ref (ad (28, 0, (R.1 (10, 0, (R.1 (13, a.toNatClampNeg, b.toNatClampNeg) 0).toNatClampNeg) 0).toNatClampNeg))), (5, .ref (ad (30, 0, (R.1 (13, a.toNatClampNeg, b.toNatClampNeg) 0).toNatClampNeg))), (4, .ref (ad (33, a.toNatClampNeg, b.toNatClampNeg))), (0, .ref (ad (20, 0, 0))), (1, .int (a)), (2, .int (b)), (3, .int (c))]) o dX16_trace_138 (by decide) rfl ?_
        refine y_aload_n (pc := 140) o dX16_trace_140 rfl ?_
        refine z_get (pc := 141) (K := (20, 0, 0)) (v := .ref (ad (24, 1, 0))) o fl_X16_42 dX16_trace_141 (gl_20 hR) rfl rfl ?_
        refine y_aload (pc := 144) o dX16_trace_144 rfl ?_
        refine z_get (pc := 146) (K := (28, 0, (R.1 (10, 0, (R.1 (13, a.toNatClampNeg, b.toNatClampNeg) 0).toNatClampNeg) 0).toNatClampNeg)) (v := .int (R.1 (8, 0, (R.1 (10, 0, (R.1 (13, a.toNatClampNeg, b.toNatClampNeg) 0).toNatClampNeg) 0).toNatClampNeg) 0)) o fl_X16_135 dX16_trace_146 (gl_28 (gix_lt (Nat.le_trans (hBR 2 0 (by decide)) (by decide)) (hI.2.2.2.2.2.1 _ (gix_lt (Nat.le_trans (hBR 4 0 (by decide)) (by decide)) (hI.2.2.2.2.2.2.2.1 a.toNatClampNeg b.toNatClampNeg (gix_lt (Nat.le_trans (hBR 5 0 (by decide)) (by decide)) b1) (gix_lt (Nat.le_trans (hBR 7 _ (by decide)) (by decide)) b3)).1)).1)) rfl rfl ?_
        refine z_callF (pc := 149) (k := 0) (n := 0) (k' := 0) (n' := 0) (ci := 3) o (b := ad (24, 1, 0)) (As := [.int (R.1 (8, 0, (R.1 (10, 0, (R.1 (13, a.toNatClampNeg, b.toNatClampNeg) 0).toNatClampNeg) 0).toNatClampNeg) 0)]) (rest := []) (getR (l := 1) (g := 0) (gl_24_1 hR) (hBR 1 0 (by decide)) (hI.2.2.2.2.1 _ (gix_lt (Nat.le_trans (hBR 2 0 (by decide)) (by decide)) (hI.2.2.2.2.2.1 _ (gix_lt (Nat.le_trans (hBR 4 0 (by decide)) (by decide)) (hI.2.2.2.2.2.2.2.1 a.toNatClampNeg b.toNatClampNeg (gix_lt (Nat.le_trans (hBR 5 0 (by decide)) (by decide)) b1) (gix_lt (Nat.le_trans (hBR 7 _ (by decide)) (by decide)) b3)).1)).1)).1) rfl lf_X16_114 dX16_trace_149 (fun h hr => ⟨_, ghdr_R (R := R) (gl_24_1 hR) hr⟩) rfl rfl (Nat.le_of_ble_eq_true rfl) ⟨by decide, by decide⟩ ⟨rfl, rfl⟩ ⟨by decide, by decide⟩ ?_
        refine z_castI (pc := 154) (K := (27, 0, (R.1 (8, 0, (R.1 (10, 0, (R.1 (13, a.toNatClampNeg, b.toNatClampNeg) 0).toNatClampNeg) 0).toNatClampNeg) 0).toNatClampNeg)) (N := 5) o qw_1435 dX16_trace_154 (gl_27 (gix_lt (Nat.le_trans (hBR 1 0 (by decide)) (by decide)) (hI.2.2.2.2.1 _ (gix_lt (Nat.le_trans (hBR 2 0 (by decide)) (by decide)) (hI.2.2.2.2.2.1 _ (gix_lt (Nat.le_trans (hBR 4 0 (by decide)) (by decide)) (hI.2.2.2.2.2.2.2.1 a.toNatClampNeg b.toNatClampNeg (gix_lt (Nat.le_trans (hBR 5 0 (by decide)) (by decide)) b1) (gix_lt (Nat.le_trans (hBR 7 _ (by decide)) (by decide)) b3)).1)).1)).1)) rfl ?_
        refine y_astore (pc := 157) (i := 7) (lv' := [(7, .ref (ad (27, 0, (R.1 (8, 0, (R.1 (10, 0, (R.1 (13, a.toNatClampNeg, b.toNatClampNeg) 0).toNatClampNeg) 0).toNatClampNeg) 0).toNatClampNeg))), (6, .ref (ad (28, 0, (R.1 (10, 0, (R.1 (13, a.toNatClampNeg, b.toNatClampNeg) 0).toNatClampNeg) 0).toNatClampNeg))), (5, .ref (ad (30, 0, (R.1 (13, a.toNatClampNeg, b.toNatClampNeg) 0).toNatClampNeg))), (4, .ref (ad (33, a.toNatClampNeg, b.toNatClampNeg))), (0, .ref (ad (20, 0, 0))), (1, .int (a)), (2, .int (b)), (3, .int (c))]) o dX16_trace_157 (by decide) rfl ?_
        refine y_iload_n (pc := 159) o dX16_trace_159 rfl ?_
        refine z_tableK (pc := 160) (tgt := 283) (off := 123) o 98 dX16_trace_160 c6 (by decide) rfl ?_
        refine y_aload (pc := 283) o dX16_trace_283 rfl ?_
        refine z_get (pc := 285) (K := (30, 0, (R.1 (13, a.toNatClampNeg, b.toNatClampNeg) 0).toNatClampNeg)) (v := .int (R.1 (10, 0, (R.1 (13, a.toNatClampNeg, b.toNatClampNeg) 0).toNatClampNeg) 0)) o fl_X16_240 dX16_trace_285 (gl_30 (gix_lt (Nat.le_trans (hBR 4 0 (by decide)) (by decide)) (hI.2.2.2.2.2.2.2.1 a.toNatClampNeg b.toNatClampNeg (gix_lt (Nat.le_trans (hBR 5 0 (by decide)) (by decide)) b1) (gix_lt (Nat.le_trans (hBR 7 _ (by decide)) (by decide)) b3)).1)) rfl rfl ?_
        exact y_iret (pc := 288) o dX16_trace_288 rfl (vp_nar_int _) (by decide) (by decide) (fun h hp => gP_mk (by simp +decide only [F_trace, b1, b3, c6, gix_of (hI.2.2.2.2.2.1 _ (gix_lt (Nat.le_trans (hBR 4 0 (by decide)) (by decide)) (hI.2.2.2.2.2.2.2.1 a.toNatClampNeg b.toNatClampNeg (gix_lt (Nat.le_trans (hBR 5 0 (by decide)) (by decide)) b1) (gix_lt (Nat.le_trans (hBR 7 _ (by decide)) (by decide)) b3)).1)).1, gtc0, gtc1, gtc2, gtc3, gtc4, not_true_eq_false, not_false_eq_true, if_true, if_false, or_true, true_or, or_false, false_or, and_true, true_and, and_false, false_and, or_self, and_self, eq_self, Bool.false_eq_true, ne_eq, reduceIte]) rfl rfl hp)
      · refine y_iconst (pc := 66) (x := 0) o dX16_trace_66 (by decide) ?_
        refine y_iconst (pc := 67) (x := 2) o dX16_trace_67 (by decide) ?_
        refine z_callV (pc := 68) (k := 0) (n := 0) (k' := 0) (n' := 0) o (b := ad (20, 0, 0)) (As := [.int (0), .int (2)]) (rest := []) (kFailsF hR h5 2) ln_X16_74 dX16_trace_68 (z_rc (ci := 20) (K := (20, 0, 0)) rfl (gl_20 hR) rfl) rfl rfl (Nat.le_of_ble_eq_true rfl) ⟨by decide, by decide⟩ ⟨rfl, rfl⟩ ⟨by decide, by decide⟩ rfl gq_nox2 ?_
        refine y_if_eq (pc := 71) (tgt := 76) o dX16_trace_71 rfl (fun (b11 : 0 = 0) => ?_) (fun b11 => absurd b11 (by rw [b4]; decide))
        refine y_aload_n (pc := 76) o dX16_trace_76 rfl ?_
        refine z_get (pc := 77) (K := (20, 0, 0)) (v := .ref (ad (24, 5, 0))) o fl_X16_60 dX16_trace_77 (gl_20 hR) rfl rfl ?_
        refine y_iload_n (pc := 80) o dX16_trace_80 rfl ?_
        refine z_callF (pc := 81) (k := 0) (n := 0) (k' := 0) (n' := 0) (ci := 3) o (b := ad (24, 5, 0)) (As := [.int (a)]) (rest := []) (getR (l := 5) (g := 0) (gl_24_5 hR) (hBR 5 0 (by decide)) b1) rfl lf_X16_114 dX16_trace_81 (fun h hr => ⟨_, ghdr_R (R := R) (gl_24_5 hR) hr⟩) rfl rfl (Nat.le_of_ble_eq_true rfl) ⟨by decide, by decide⟩ ⟨rfl, rfl⟩ ⟨by decide, by decide⟩ ?_
        refine z_cast (pc := 86) (ci := 17) (K := (31, 0, a.toNatClampNeg)) o rfl qw_1684 dX16_trace_86 (gl_31 (gix_lt (Nat.le_trans (hBR 5 0 (by decide)) (by decide)) b1)) rfl ?_
        refine z_get (pc := 89) (K := (31, 0, a.toNatClampNeg)) (v := .ref (ad (24, 7, a.toNatClampNeg))) o fl_X16_294 dX16_trace_89 (gl_31 (gix_lt (Nat.le_trans (hBR 5 0 (by decide)) (by decide)) b1)) rfl rfl ?_
        refine y_iload_n (pc := 92) o dX16_trace_92 rfl ?_
        refine z_callF (pc := 93) (k := 0) (n := 0) (k' := 0) (n' := 0) (ci := 3) o (b := ad (24, 7, a.toNatClampNeg)) (As := [.int (b)]) (rest := []) (getR (l := 7) (g := a.toNatClampNeg) (gl_24_7 hR (gix_lt (Nat.le_trans (hBR 5 0 (by decide)) (by decide)) b1)) (hBR 7 a.toNatClampNeg (by decide)) b3) rfl lf_X16_114 dX16_trace_93 (fun h hr => ⟨_, ghdr_R (R := R) (gl_24_7 hR (gix_lt (Nat.le_trans (hBR 5 0 (by decide)) (by decide)) b1)) hr⟩) rfl rfl (Nat.le_of_ble_eq_true rfl) ⟨by decide, by decide⟩ ⟨rfl, rfl⟩ ⟨by decide, by decide⟩ ?_
        refine z_castI (pc := 98) (K := (33, a.toNatClampNeg, b.toNatClampNeg)) (N := 3) o qw_1435 dX16_trace_98 (gl_33 (gix_lt (Nat.le_trans (hBR 7 a.toNatClampNeg (by decide)) (by decide)) b3)) rfl ?_
        refine y_astore (pc := 101) (i := 4) (lv' := [(4, .ref (ad (33, a.toNatClampNeg, b.toNatClampNeg))), (0, .ref (ad (20, 0, 0))), (1, .int (a)), (2, .int (b)), (3, .int (c))]) o dX16_trace_101 (by decide) rfl ?_
        refine y_aload_n (pc := 103) o dX16_trace_103 rfl ?_
        refine z_get (pc := 104) (K := (20, 0, 0)) (v := .ref (ad (24, 4, 0))) o fl_X16_57 dX16_trace_104 (gl_20 hR) rfl rfl ?_
        refine y_aload (pc := 107) o dX16_trace_107 rfl ?_
        refine y_iconst (pc := 109) (x := 0) o dX16_trace_109 (by decide) ?_
        refine z_iald (pc := 110) (K := (33, a.toNatClampNeg, b.toNatClampNeg)) (i := 0) (v := R.1 (13, a.toNatClampNeg, b.toNatClampNeg) 0) o dX16_trace_110 (gl_33 (gix_lt (Nat.le_trans (hBR 7 a.toNatClampNeg (by decide)) (by decide)) b3)) rfl (by unfold vp_in; decide) rfl ?_
        refine z_callF (pc := 111) (k := 0) (n := 0) (k' := 0) (n' := 0) (ci := 3) o (b := ad (24, 4, 0)) (As := [.int (R.1 (13, a.toNatClampNeg, b.toNatClampNeg) 0)]) (rest := []) (getR (l := 4) (g := 0) (gl_24_4 hR) (hBR 4 0 (by decide)) (hI.2.2.2.2.2.2.2.1 a.toNatClampNeg b.toNatClampNeg (gix_lt (Nat.le_trans (hBR 5 0 (by decide)) (by decide)) b1) (gix_lt (Nat.le_trans (hBR 7 _ (by decide)) (by decide)) b3)).1) rfl lf_X16_114 dX16_trace_111 (fun h hr => ⟨_, ghdr_R (R := R) (gl_24_4 hR) hr⟩) rfl rfl (Nat.le_of_ble_eq_true rfl) ⟨by decide, by decide⟩ ⟨rfl, rfl⟩ ⟨by decide, by decide⟩ ?_
        refine z_cast (pc := 116) (ci := 18) (K := (30, 0, (R.1 (13, a.toNatClampNeg, b.toNatClampNeg) 0).toNatClampNeg)) o rfl qw_1601 dX16_trace_116 (gl_30 (gix_lt (Nat.le_trans (hBR 4 0 (by decide)) (by decide)) (hI.2.2.2.2.2.2.2.1 a.toNatClampNeg b.toNatClampNeg (gix_lt (Nat.le_trans (hBR 5 0 (by decide)) (by decide)) b1) (gix_lt (Nat.le_trans (hBR 7 _ (by decide)) (by decide)) b3)).1)) rfl ?_
        refine y_astore (pc := 119) (i := 5) (lv' := [(5, .ref (ad (30, 0, (R.1 (13, a.toNatClampNeg, b.toNatClampNeg) 0).toNatClampNeg))), (4, .ref (ad (33, a.toNatClampNeg, b.toNatClampNeg))), (0, .ref (ad (20, 0, 0))), (1, .int (a)), (2, .int (b)), (3, .int (c))]) o dX16_trace_119 (by decide) rfl ?_
        refine y_aload_n (pc := 121) o dX16_trace_121 rfl ?_
        refine z_get (pc := 122) (K := (20, 0, 0)) (v := .ref (ad (24, 2, 0))) o fl_X16_51 dX16_trace_122 (gl_20 hR) rfl rfl ?_
        refine y_aload (pc := 125) o dX16_trace_125 rfl ?_
        refine z_get (pc := 127) (K := (30, 0, (R.1 (13, a.toNatClampNeg, b.toNatClampNeg) 0).toNatClampNeg)) (v := .int (R.1 (10, 0, (R.1 (13, a.toNatClampNeg, b.toNatClampNeg) 0).toNatClampNeg) 0)) o fl_X16_240 dX16_trace_127 (gl_30 (gix_lt (Nat.le_trans (hBR 4 0 (by decide)) (by decide)) (hI.2.2.2.2.2.2.2.1 a.toNatClampNeg b.toNatClampNeg (gix_lt (Nat.le_trans (hBR 5 0 (by decide)) (by decide)) b1) (gix_lt (Nat.le_trans (hBR 7 _ (by decide)) (by decide)) b3)).1)) rfl rfl ?_
        refine z_callF (pc := 130) (k := 0) (n := 0) (k' := 0) (n' := 0) (ci := 3) o (b := ad (24, 2, 0)) (As := [.int (R.1 (10, 0, (R.1 (13, a.toNatClampNeg, b.toNatClampNeg) 0).toNatClampNeg) 0)]) (rest := []) (getR (l := 2) (g := 0) (gl_24_2 hR) (hBR 2 0 (by decide)) (hI.2.2.2.2.2.1 _ (gix_lt (Nat.le_trans (hBR 4 0 (by decide)) (by decide)) (hI.2.2.2.2.2.2.2.1 a.toNatClampNeg b.toNatClampNeg (gix_lt (Nat.le_trans (hBR 5 0 (by decide)) (by decide)) b1) (gix_lt (Nat.le_trans (hBR 7 _ (by decide)) (by decide)) b3)).1)).1) rfl lf_X16_114 dX16_trace_130 (fun h hr => ⟨_, ghdr_R (R := R) (gl_24_2 hR) hr⟩) rfl rfl (Nat.le_of_ble_eq_true rfl) ⟨by decide, by decide⟩ ⟨rfl, rfl⟩ ⟨by decide, by decide⟩ ?_
        refine z_cast (pc := 135) (ci := 16) (K := (28, 0, (R.1 (10, 0, (R.1 (13, a.toNatClampNeg, b.toNatClampNeg) 0).toNatClampNeg) 0).toNatClampNeg)) o rfl qw_1452 dX16_trace_135 (gl_28 (gix_lt (Nat.le_trans (hBR 2 0 (by decide)) (by decide)) (hI.2.2.2.2.2.1 _ (gix_lt (Nat.le_trans (hBR 4 0 (by decide)) (by decide)) (hI.2.2.2.2.2.2.2.1 a.toNatClampNeg b.toNatClampNeg (gix_lt (Nat.le_trans (hBR 5 0 (by decide)) (by decide)) b1) (gix_lt (Nat.le_trans (hBR 7 _ (by decide)) (by decide)) b3)).1)).1)) rfl ?_
        refine y_astore (pc := 138) (i := 6) (lv' := [(6, .ref (ad (28, 0, (R.1 (10, 0, (R.1 (13, a.toNatClampNeg, b.toNatClampNeg) 0).toNatClampNeg) 0).toNatClampNeg))), (5, .ref (ad (30, 0, (R.1 (13, a.toNatClampNeg, b.toNatClampNeg) 0).toNatClampNeg))), (4, .ref (ad (33, a.toNatClampNeg, b.toNatClampNeg))), (0, .ref (ad (20, 0, 0))), (1, .int (a)), (2, .int (b)), (3, .int (c))]) o dX16_trace_138 (by decide) rfl ?_
        refine y_aload_n (pc := 140) o dX16_trace_140 rfl ?_
        refine z_get (pc := 141) (K := (20, 0, 0)) (v := .ref (ad (24, 1, 0))) o fl_X16_42 dX16_trace_141 (gl_20 hR) rfl rfl ?_
        refine y_aload (pc := 144) o dX16_trace_144 rfl ?_
        refine z_get (pc := 146) (K := (28, 0, (R.1 (10, 0, (R.1 (13, a.toNatClampNeg, b.toNatClampNeg) 0).toNatClampNeg) 0).toNatClampNeg)) (v := .int (R.1 (8, 0, (R.1 (10, 0, (R.1 (13, a.toNatClampNeg, b.toNatClampNeg) 0).toNatClampNeg) 0).toNatClampNeg) 0)) o fl_X16_135 dX16_trace_146 (gl_28 (gix_lt (Nat.le_trans (hBR 2 0 (by decide)) (by decide)) (hI.2.2.2.2.2.1 _ (gix_lt (Nat.le_trans (hBR 4 0 (by decide)) (by decide)) (hI.2.2.2.2.2.2.2.1 a.toNatClampNeg b.toNatClampNeg (gix_lt (Nat.le_trans (hBR 5 0 (by decide)) (by decide)) b1) (gix_lt (Nat.le_trans (hBR 7 _ (by decide)) (by decide)) b3)).1)).1)) rfl rfl ?_
        refine z_callF (pc := 149) (k := 0) (n := 0) (k' := 0) (n' := 0) (ci := 3) o (b := ad (24, 1, 0)) (As := [.int (R.1 (8, 0, (R.1 (10, 0, (R.1 (13, a.toNatClampNeg, b.toNatClampNeg) 0).toNatClampNeg) 0).toNatClampNeg) 0)]) (rest := []) (getR (l := 1) (g := 0) (gl_24_1 hR) (hBR 1 0 (by decide)) (hI.2.2.2.2.1 _ (gix_lt (Nat.le_trans (hBR 2 0 (by decide)) (by decide)) (hI.2.2.2.2.2.1 _ (gix_lt (Nat.le_trans (hBR 4 0 (by decide)) (by decide)) (hI.2.2.2.2.2.2.2.1 a.toNatClampNeg b.toNatClampNeg (gix_lt (Nat.le_trans (hBR 5 0 (by decide)) (by decide)) b1) (gix_lt (Nat.le_trans (hBR 7 _ (by decide)) (by decide)) b3)).1)).1)).1) rfl lf_X16_114 dX16_trace_149 (fun h hr => ⟨_, ghdr_R (R := R) (gl_24_1 hR) hr⟩) rfl rfl (Nat.le_of_ble_eq_true rfl) ⟨by decide, by decide⟩ ⟨rfl, rfl⟩ ⟨by decide, by decide⟩ ?_
        refine z_castI (pc := 154) (K := (27, 0, (R.1 (8, 0, (R.1 (10, 0, (R.1 (13, a.toNatClampNeg, b.toNatClampNeg) 0).toNatClampNeg) 0).toNatClampNeg) 0).toNatClampNeg)) (N := 5) o qw_1435 dX16_trace_154 (gl_27 (gix_lt (Nat.le_trans (hBR 1 0 (by decide)) (by decide)) (hI.2.2.2.2.1 _ (gix_lt (Nat.le_trans (hBR 2 0 (by decide)) (by decide)) (hI.2.2.2.2.2.1 _ (gix_lt (Nat.le_trans (hBR 4 0 (by decide)) (by decide)) (hI.2.2.2.2.2.2.2.1 a.toNatClampNeg b.toNatClampNeg (gix_lt (Nat.le_trans (hBR 5 0 (by decide)) (by decide)) b1) (gix_lt (Nat.le_trans (hBR 7 _ (by decide)) (by decide)) b3)).1)).1)).1)) rfl ?_
        refine y_astore (pc := 157) (i := 7) (lv' := [(7, .ref (ad (27, 0, (R.1 (8, 0, (R.1 (10, 0, (R.1 (13, a.toNatClampNeg, b.toNatClampNeg) 0).toNatClampNeg) 0).toNatClampNeg) 0).toNatClampNeg))), (6, .ref (ad (28, 0, (R.1 (10, 0, (R.1 (13, a.toNatClampNeg, b.toNatClampNeg) 0).toNatClampNeg) 0).toNatClampNeg))), (5, .ref (ad (30, 0, (R.1 (13, a.toNatClampNeg, b.toNatClampNeg) 0).toNatClampNeg))), (4, .ref (ad (33, a.toNatClampNeg, b.toNatClampNeg))), (0, .ref (ad (20, 0, 0))), (1, .int (a)), (2, .int (b)), (3, .int (c))]) o dX16_trace_157 (by decide) rfl ?_
        refine y_iload_n (pc := 159) o dX16_trace_159 rfl ?_
        refine z_tableK (pc := 160) (tgt := 289) (off := 129) o 102 dX16_trace_160 c6 (by decide) rfl ?_
        refine y_aload (pc := 289) o dX16_trace_289 rfl ?_
        refine z_get (pc := 291) (K := (28, 0, (R.1 (10, 0, (R.1 (13, a.toNatClampNeg, b.toNatClampNeg) 0).toNatClampNeg) 0).toNatClampNeg)) (v := .int (R.1 (8, 0, (R.1 (10, 0, (R.1 (13, a.toNatClampNeg, b.toNatClampNeg) 0).toNatClampNeg) 0).toNatClampNeg) 6)) o fl_X16_168 dX16_trace_291 (gl_28 (gix_lt (Nat.le_trans (hBR 2 0 (by decide)) (by decide)) (hI.2.2.2.2.2.1 _ (gix_lt (Nat.le_trans (hBR 4 0 (by decide)) (by decide)) (hI.2.2.2.2.2.2.2.1 a.toNatClampNeg b.toNatClampNeg (gix_lt (Nat.le_trans (hBR 5 0 (by decide)) (by decide)) b1) (gix_lt (Nat.le_trans (hBR 7 _ (by decide)) (by decide)) b3)).1)).1)) rfl rfl ?_
        exact y_iret (pc := 294) o dX16_trace_294 rfl (vp_nar_int _) (by decide) (by decide) (fun h hp => gP_mk (by simp +decide only [F_trace, b1, b3, c6, gtc0, gtc1, gtc2, gtc3, gtc4, not_true_eq_false, not_false_eq_true, if_true, if_false, or_true, true_or, or_false, false_or, and_true, true_and, and_false, false_and, or_self, and_self, eq_self, Bool.false_eq_true, ne_eq, reduceIte]) rfl rfl hp)
      · refine y_iconst (pc := 66) (x := 0) o dX16_trace_66 (by decide) ?_
        refine y_iconst (pc := 67) (x := 2) o dX16_trace_67 (by decide) ?_
        refine z_callV (pc := 68) (k := 0) (n := 0) (k' := 0) (n' := 0) o (b := ad (20, 0, 0)) (As := [.int (0), .int (2)]) (rest := []) (kFailsF hR h5 2) ln_X16_74 dX16_trace_68 (z_rc (ci := 20) (K := (20, 0, 0)) rfl (gl_20 hR) rfl) rfl rfl (Nat.le_of_ble_eq_true rfl) ⟨by decide, by decide⟩ ⟨rfl, rfl⟩ ⟨by decide, by decide⟩ rfl gq_nox2 ?_
        refine y_if_eq (pc := 71) (tgt := 76) o dX16_trace_71 rfl (fun (b12 : 0 = 0) => ?_) (fun b12 => absurd b12 (by rw [b4]; decide))
        refine y_aload_n (pc := 76) o dX16_trace_76 rfl ?_
        refine z_get (pc := 77) (K := (20, 0, 0)) (v := .ref (ad (24, 5, 0))) o fl_X16_60 dX16_trace_77 (gl_20 hR) rfl rfl ?_
        refine y_iload_n (pc := 80) o dX16_trace_80 rfl ?_
        refine z_callF (pc := 81) (k := 0) (n := 0) (k' := 0) (n' := 0) (ci := 3) o (b := ad (24, 5, 0)) (As := [.int (a)]) (rest := []) (getR (l := 5) (g := 0) (gl_24_5 hR) (hBR 5 0 (by decide)) b1) rfl lf_X16_114 dX16_trace_81 (fun h hr => ⟨_, ghdr_R (R := R) (gl_24_5 hR) hr⟩) rfl rfl (Nat.le_of_ble_eq_true rfl) ⟨by decide, by decide⟩ ⟨rfl, rfl⟩ ⟨by decide, by decide⟩ ?_
        refine z_cast (pc := 86) (ci := 17) (K := (31, 0, a.toNatClampNeg)) o rfl qw_1684 dX16_trace_86 (gl_31 (gix_lt (Nat.le_trans (hBR 5 0 (by decide)) (by decide)) b1)) rfl ?_
        refine z_get (pc := 89) (K := (31, 0, a.toNatClampNeg)) (v := .ref (ad (24, 7, a.toNatClampNeg))) o fl_X16_294 dX16_trace_89 (gl_31 (gix_lt (Nat.le_trans (hBR 5 0 (by decide)) (by decide)) b1)) rfl rfl ?_
        refine y_iload_n (pc := 92) o dX16_trace_92 rfl ?_
        refine z_callF (pc := 93) (k := 0) (n := 0) (k' := 0) (n' := 0) (ci := 3) o (b := ad (24, 7, a.toNatClampNeg)) (As := [.int (b)]) (rest := []) (getR (l := 7) (g := a.toNatClampNeg) (gl_24_7 hR (gix_lt (Nat.le_trans (hBR 5 0 (by decide)) (by decide)) b1)) (hBR 7 a.toNatClampNeg (by decide)) b3) rfl lf_X16_114 dX16_trace_93 (fun h hr => ⟨_, ghdr_R (R := R) (gl_24_7 hR (gix_lt (Nat.le_trans (hBR 5 0 (by decide)) (by decide)) b1)) hr⟩) rfl rfl (Nat.le_of_ble_eq_true rfl) ⟨by decide, by decide⟩ ⟨rfl, rfl⟩ ⟨by decide, by decide⟩ ?_
        refine z_castI (pc := 98) (K := (33, a.toNatClampNeg, b.toNatClampNeg)) (N := 3) o qw_1435 dX16_trace_98 (gl_33 (gix_lt (Nat.le_trans (hBR 7 a.toNatClampNeg (by decide)) (by decide)) b3)) rfl ?_
        refine y_astore (pc := 101) (i := 4) (lv' := [(4, .ref (ad (33, a.toNatClampNeg, b.toNatClampNeg))), (0, .ref (ad (20, 0, 0))), (1, .int (a)), (2, .int (b)), (3, .int (c))]) o dX16_trace_101 (by decide) rfl ?_
        refine y_aload_n (pc := 103) o dX16_trace_103 rfl ?_
        refine z_get (pc := 104) (K := (20, 0, 0)) (v := .ref (ad (24, 4, 0))) o fl_X16_57 dX16_trace_104 (gl_20 hR) rfl rfl ?_
        refine y_aload (pc := 107) o dX16_trace_107 rfl ?_
        refine y_iconst (pc := 109) (x := 0) o dX16_trace_109 (by decide) ?_
        refine z_iald (pc := 110) (K := (33, a.toNatClampNeg, b.toNatClampNeg)) (i := 0) (v := R.1 (13, a.toNatClampNeg, b.toNatClampNeg) 0) o dX16_trace_110 (gl_33 (gix_lt (Nat.le_trans (hBR 7 a.toNatClampNeg (by decide)) (by decide)) b3)) rfl (by unfold vp_in; decide) rfl ?_
        refine z_callF (pc := 111) (k := 0) (n := 0) (k' := 0) (n' := 0) (ci := 3) o (b := ad (24, 4, 0)) (As := [.int (R.1 (13, a.toNatClampNeg, b.toNatClampNeg) 0)]) (rest := []) (getR (l := 4) (g := 0) (gl_24_4 hR) (hBR 4 0 (by decide)) (hI.2.2.2.2.2.2.2.1 a.toNatClampNeg b.toNatClampNeg (gix_lt (Nat.le_trans (hBR 5 0 (by decide)) (by decide)) b1) (gix_lt (Nat.le_trans (hBR 7 _ (by decide)) (by decide)) b3)).1) rfl lf_X16_114 dX16_trace_111 (fun h hr => ⟨_, ghdr_R (R := R) (gl_24_4 hR) hr⟩) rfl rfl (Nat.le_of_ble_eq_true rfl) ⟨by decide, by decide⟩ ⟨rfl, rfl⟩ ⟨by decide, by decide⟩ ?_
        refine z_cast (pc := 116) (ci := 18) (K := (30, 0, (R.1 (13, a.toNatClampNeg, b.toNatClampNeg) 0).toNatClampNeg)) o rfl qw_1601 dX16_trace_116 (gl_30 (gix_lt (Nat.le_trans (hBR 4 0 (by decide)) (by decide)) (hI.2.2.2.2.2.2.2.1 a.toNatClampNeg b.toNatClampNeg (gix_lt (Nat.le_trans (hBR 5 0 (by decide)) (by decide)) b1) (gix_lt (Nat.le_trans (hBR 7 _ (by decide)) (by decide)) b3)).1)) rfl ?_
        refine y_astore (pc := 119) (i := 5) (lv' := [(5, .ref (ad (30, 0, (R.1 (13, a.toNatClampNeg, b.toNatClampNeg) 0).toNatClampNeg))), (4, .ref (ad (33, a.toNatClampNeg, b.toNatClampNeg))), (0, .ref (ad (20, 0, 0))), (1, .int (a)), (2, .int (b)), (3, .int (c))]) o dX16_trace_119 (by decide) rfl ?_
        refine y_aload_n (pc := 121) o dX16_trace_121 rfl ?_
        refine z_get (pc := 122) (K := (20, 0, 0)) (v := .ref (ad (24, 2, 0))) o fl_X16_51 dX16_trace_122 (gl_20 hR) rfl rfl ?_
        refine y_aload (pc := 125) o dX16_trace_125 rfl ?_
        refine z_get (pc := 127) (K := (30, 0, (R.1 (13, a.toNatClampNeg, b.toNatClampNeg) 0).toNatClampNeg)) (v := .int (R.1 (10, 0, (R.1 (13, a.toNatClampNeg, b.toNatClampNeg) 0).toNatClampNeg) 0)) o fl_X16_240 dX16_trace_127 (gl_30 (gix_lt (Nat.le_trans (hBR 4 0 (by decide)) (by decide)) (hI.2.2.2.2.2.2.2.1 a.toNatClampNeg b.toNatClampNeg (gix_lt (Nat.le_trans (hBR 5 0 (by decide)) (by decide)) b1) (gix_lt (Nat.le_trans (hBR 7 _ (by decide)) (by decide)) b3)).1)) rfl rfl ?_
        refine z_callF (pc := 130) (k := 0) (n := 0) (k' := 0) (n' := 0) (ci := 3) o (b := ad (24, 2, 0)) (As := [.int (R.1 (10, 0, (R.1 (13, a.toNatClampNeg, b.toNatClampNeg) 0).toNatClampNeg) 0)]) (rest := []) (getR (l := 2) (g := 0) (gl_24_2 hR) (hBR 2 0 (by decide)) (hI.2.2.2.2.2.1 _ (gix_lt (Nat.le_trans (hBR 4 0 (by decide)) (by decide)) (hI.2.2.2.2.2.2.2.1 a.toNatClampNeg b.toNatClampNeg (gix_lt (Nat.le_trans (hBR 5 0 (by decide)) (by decide)) b1) (gix_lt (Nat.le_trans (hBR 7 _ (by decide)) (by decide)) b3)).1)).1) rfl lf_X16_114 dX16_trace_130 (fun h hr => ⟨_, ghdr_R (R := R) (gl_24_2 hR) hr⟩) rfl rfl (Nat.le_of_ble_eq_true rfl) ⟨by decide, by decide⟩ ⟨rfl, rfl⟩ ⟨by decide, by decide⟩ ?_
        refine z_cast (pc := 135) (ci := 16) (K := (28, 0, (R.1 (10, 0, (R.1 (13, a.toNatClampNeg, b.toNatClampNeg) 0).toNatClampNeg) 0).toNatClampNeg)) o rfl qw_1452 dX16_trace_135 (gl_28 (gix_lt (Nat.le_trans (hBR 2 0 (by decide)) (by decide)) (hI.2.2.2.2.2.1 _ (gix_lt (Nat.le_trans (hBR 4 0 (by decide)) (by decide)) (hI.2.2.2.2.2.2.2.1 a.toNatClampNeg b.toNatClampNeg (gix_lt (Nat.le_trans (hBR 5 0 (by decide)) (by decide)) b1) (gix_lt (Nat.le_trans (hBR 7 _ (by decide)) (by decide)) b3)).1)).1)) rfl ?_
        refine y_astore (pc := 138) (i := 6) (lv' := [(6, .ref (ad (28, 0, (R.1 (10, 0, (R.1 (13, a.toNatClampNeg, b.toNatClampNeg) 0).toNatClampNeg) 0).toNatClampNeg))), (5, .ref (ad (30, 0, (R.1 (13, a.toNatClampNeg, b.toNatClampNeg) 0).toNatClampNeg))), (4, .ref (ad (33, a.toNatClampNeg, b.toNatClampNeg))), (0, .ref (ad (20, 0, 0))), (1, .int (a)), (2, .int (b)), (3, .int (c))]) o dX16_trace_138 (by decide) rfl ?_
        refine y_aload_n (pc := 140) o dX16_trace_140 rfl ?_
        refine z_get (pc := 141) (K := (20, 0, 0)) (v := .ref (ad (24, 1, 0))) o fl_X16_42 dX16_trace_141 (gl_20 hR) rfl rfl ?_
        refine y_aload (pc := 144) o dX16_trace_144 rfl ?_
        refine z_get (pc := 146) (K := (28, 0, (R.1 (10, 0, (R.1 (13, a.toNatClampNeg, b.toNatClampNeg) 0).toNatClampNeg) 0).toNatClampNeg)) (v := .int (R.1 (8, 0, (R.1 (10, 0, (R.1 (13, a.toNatClampNeg, b.toNatClampNeg) 0).toNatClampNeg) 0).toNatClampNeg) 0)) o fl_X16_135 dX16_trace_146 (gl_28 (gix_lt (Nat.le_trans (hBR 2 0 (by decide)) (by decide)) (hI.2.2.2.2.2.1 _ (gix_lt (Nat.le_trans (hBR 4 0 (by decide)) (by decide)) (hI.2.2.2.2.2.2.2.1 a.toNatClampNeg b.toNatClampNeg (gix_lt (Nat.le_trans (hBR 5 0 (by decide)) (by decide)) b1) (gix_lt (Nat.le_trans (hBR 7 _ (by decide)) (by decide)) b3)).1)).1)) rfl rfl ?_
        refine z_callF (pc := 149) (k := 0) (n := 0) (k' := 0) (n' := 0) (ci := 3) o (b := ad (24, 1, 0)) (As := [.int (R.1 (8, 0, (R.1 (10, 0, (R.1 (13, a.toNatClampNeg, b.toNatClampNeg) 0).toNatClampNeg) 0).toNatClampNeg) 0)]) (rest := []) (getR (l := 1) (g := 0) (gl_24_1 hR) (hBR 1 0 (by decide)) (hI.2.2.2.2.1 _ (gix_lt (Nat.le_trans (hBR 2 0 (by decide)) (by decide)) (hI.2.2.2.2.2.1 _ (gix_lt (Nat.le_trans (hBR 4 0 (by decide)) (by decide)) (hI.2.2.2.2.2.2.2.1 a.toNatClampNeg b.toNatClampNeg (gix_lt (Nat.le_trans (hBR 5 0 (by decide)) (by decide)) b1) (gix_lt (Nat.le_trans (hBR 7 _ (by decide)) (by decide)) b3)).1)).1)).1) rfl lf_X16_114 dX16_trace_149 (fun h hr => ⟨_, ghdr_R (R := R) (gl_24_1 hR) hr⟩) rfl rfl (Nat.le_of_ble_eq_true rfl) ⟨by decide, by decide⟩ ⟨rfl, rfl⟩ ⟨by decide, by decide⟩ ?_
        refine z_castI (pc := 154) (K := (27, 0, (R.1 (8, 0, (R.1 (10, 0, (R.1 (13, a.toNatClampNeg, b.toNatClampNeg) 0).toNatClampNeg) 0).toNatClampNeg) 0).toNatClampNeg)) (N := 5) o qw_1435 dX16_trace_154 (gl_27 (gix_lt (Nat.le_trans (hBR 1 0 (by decide)) (by decide)) (hI.2.2.2.2.1 _ (gix_lt (Nat.le_trans (hBR 2 0 (by decide)) (by decide)) (hI.2.2.2.2.2.1 _ (gix_lt (Nat.le_trans (hBR 4 0 (by decide)) (by decide)) (hI.2.2.2.2.2.2.2.1 a.toNatClampNeg b.toNatClampNeg (gix_lt (Nat.le_trans (hBR 5 0 (by decide)) (by decide)) b1) (gix_lt (Nat.le_trans (hBR 7 _ (by decide)) (by decide)) b3)).1)).1)).1)) rfl ?_
        refine y_astore (pc := 157) (i := 7) (lv' := [(7, .ref (ad (27, 0, (R.1 (8, 0, (R.1 (10, 0, (R.1 (13, a.toNatClampNeg, b.toNatClampNeg) 0).toNatClampNeg) 0).toNatClampNeg) 0).toNatClampNeg))), (6, .ref (ad (28, 0, (R.1 (10, 0, (R.1 (13, a.toNatClampNeg, b.toNatClampNeg) 0).toNatClampNeg) 0).toNatClampNeg))), (5, .ref (ad (30, 0, (R.1 (13, a.toNatClampNeg, b.toNatClampNeg) 0).toNatClampNeg))), (4, .ref (ad (33, a.toNatClampNeg, b.toNatClampNeg))), (0, .ref (ad (20, 0, 0))), (1, .int (a)), (2, .int (b)), (3, .int (c))]) o dX16_trace_157 (by decide) rfl ?_
        refine y_iload_n (pc := 159) o dX16_trace_159 rfl ?_
        refine z_tableK (pc := 160) (tgt := 295) (off := 135) o 107 dX16_trace_160 c6 (by decide) rfl ?_
        refine y_aload (pc := 295) o dX16_trace_295 rfl ?_
        refine z_get (pc := 297) (K := (28, 0, (R.1 (10, 0, (R.1 (13, a.toNatClampNeg, b.toNatClampNeg) 0).toNatClampNeg) 0).toNatClampNeg)) (v := .int (R.1 (8, 0, (R.1 (10, 0, (R.1 (13, a.toNatClampNeg, b.toNatClampNeg) 0).toNatClampNeg) 0).toNatClampNeg) 11)) o fl_X16_174 dX16_trace_297 (gl_28 (gix_lt (Nat.le_trans (hBR 2 0 (by decide)) (by decide)) (hI.2.2.2.2.2.1 _ (gix_lt (Nat.le_trans (hBR 4 0 (by decide)) (by decide)) (hI.2.2.2.2.2.2.2.1 a.toNatClampNeg b.toNatClampNeg (gix_lt (Nat.le_trans (hBR 5 0 (by decide)) (by decide)) b1) (gix_lt (Nat.le_trans (hBR 7 _ (by decide)) (by decide)) b3)).1)).1)) rfl rfl ?_
        exact y_iret (pc := 300) o dX16_trace_300 rfl (vp_nar_int _) (by decide) (by decide) (fun h hp => gP_mk (by simp +decide only [F_trace, b1, b3, c6, (hI.2.2.2.2.1 _ (gix_lt (Nat.le_trans (hBR 2 0 (by decide)) (by decide)) (hI.2.2.2.2.2.1 _ (gix_lt (Nat.le_trans (hBR 4 0 (by decide)) (by decide)) (hI.2.2.2.2.2.2.2.1 a.toNatClampNeg b.toNatClampNeg (gix_lt (Nat.le_trans (hBR 5 0 (by decide)) (by decide)) b1) (gix_lt (Nat.le_trans (hBR 7 _ (by decide)) (by decide)) b3)).1)).1)).2.2.2.1 (hI.2.2.2.2.2.1 _ (gix_lt (Nat.le_trans (hBR 4 0 (by decide)) (by decide)) (hI.2.2.2.2.2.2.2.1 a.toNatClampNeg b.toNatClampNeg (gix_lt (Nat.le_trans (hBR 5 0 (by decide)) (by decide)) b1) (gix_lt (Nat.le_trans (hBR 7 _ (by decide)) (by decide)) b3)).1)).2.2.2.2.2.2.1, gtc0, gtc1, gtc2, gtc3, gtc4, not_true_eq_false, not_false_eq_true, if_true, if_false, or_true, true_or, or_false, false_or, and_true, true_and, and_false, false_and, or_self, and_self, eq_self, Bool.false_eq_true, ne_eq, reduceIte]) rfl rfl hp)
      · refine y_iconst (pc := 66) (x := 0) o dX16_trace_66 (by decide) ?_
        refine y_iconst (pc := 67) (x := 2) o dX16_trace_67 (by decide) ?_
        refine z_callV (pc := 68) (k := 0) (n := 0) (k' := 0) (n' := 0) o (b := ad (20, 0, 0)) (As := [.int (0), .int (2)]) (rest := []) (kFailsF hR h5 2) ln_X16_74 dX16_trace_68 (z_rc (ci := 20) (K := (20, 0, 0)) rfl (gl_20 hR) rfl) rfl rfl (Nat.le_of_ble_eq_true rfl) ⟨by decide, by decide⟩ ⟨rfl, rfl⟩ ⟨by decide, by decide⟩ rfl gq_nox2 ?_
        refine y_if_eq (pc := 71) (tgt := 76) o dX16_trace_71 rfl (fun (b13 : 0 = 0) => ?_) (fun b13 => absurd b13 (by rw [b4]; decide))
        refine y_aload_n (pc := 76) o dX16_trace_76 rfl ?_
        refine z_get (pc := 77) (K := (20, 0, 0)) (v := .ref (ad (24, 5, 0))) o fl_X16_60 dX16_trace_77 (gl_20 hR) rfl rfl ?_
        refine y_iload_n (pc := 80) o dX16_trace_80 rfl ?_
        refine z_callF (pc := 81) (k := 0) (n := 0) (k' := 0) (n' := 0) (ci := 3) o (b := ad (24, 5, 0)) (As := [.int (a)]) (rest := []) (getR (l := 5) (g := 0) (gl_24_5 hR) (hBR 5 0 (by decide)) b1) rfl lf_X16_114 dX16_trace_81 (fun h hr => ⟨_, ghdr_R (R := R) (gl_24_5 hR) hr⟩) rfl rfl (Nat.le_of_ble_eq_true rfl) ⟨by decide, by decide⟩ ⟨rfl, rfl⟩ ⟨by decide, by decide⟩ ?_
        refine z_cast (pc := 86) (ci := 17) (K := (31, 0, a.toNatClampNeg)) o rfl qw_1684 dX16_trace_86 (gl_31 (gix_lt (Nat.le_trans (hBR 5 0 (by decide)) (by decide)) b1)) rfl ?_
        refine z_get (pc := 89) (K := (31, 0, a.toNatClampNeg)) (v := .ref (ad (24, 7, a.toNatClampNeg))) o fl_X16_294 dX16_trace_89 (gl_31 (gix_lt (Nat.le_trans (hBR 5 0 (by decide)) (by decide)) b1)) rfl rfl ?_
        refine y_iload_n (pc := 92) o dX16_trace_92 rfl ?_
        refine z_callF (pc := 93) (k := 0) (n := 0) (k' := 0) (n' := 0) (ci := 3) o (b := ad (24, 7, a.toNatClampNeg)) (As := [.int (b)]) (rest := []) (getR (l := 7) (g := a.toNatClampNeg) (gl_24_7 hR (gix_lt (Nat.le_trans (hBR 5 0 (by decide)) (by decide)) b1)) (hBR 7 a.toNatClampNeg (by decide)) b3) rfl lf_X16_114 dX16_trace_93 (fun h hr => ⟨_, ghdr_R (R := R) (gl_24_7 hR (gix_lt (Nat.le_trans (hBR 5 0 (by decide)) (by decide)) b1)) hr⟩) rfl rfl (Nat.le_of_ble_eq_true rfl) ⟨by decide, by decide⟩ ⟨rfl, rfl⟩ ⟨by decide, by decide⟩ ?_
        refine z_castI (pc := 98) (K := (33, a.toNatClampNeg, b.toNatClampNeg)) (N := 3) o qw_1435 dX16_trace_98 (gl_33 (gix_lt (Nat.le_trans (hBR 7 a.toNatClampNeg (by decide)) (by decide)) b3)) rfl ?_
        refine y_astore (pc := 101) (i := 4) (lv' := [(4, .ref (ad (33, a.toNatClampNeg, b.toNatClampNeg))), (0, .ref (ad (20, 0, 0))), (1, .int (a)), (2, .int (b)), (3, .int (c))]) o dX16_trace_101 (by decide) rfl ?_
        refine y_aload_n (pc := 103) o dX16_trace_103 rfl ?_
        refine z_get (pc := 104) (K := (20, 0, 0)) (v := .ref (ad (24, 4, 0))) o fl_X16_57 dX16_trace_104 (gl_20 hR) rfl rfl ?_
        refine y_aload (pc := 107) o dX16_trace_107 rfl ?_
        refine y_iconst (pc := 109) (x := 0) o dX16_trace_109 (by decide) ?_
        refine z_iald (pc := 110) (K := (33, a.toNatClampNeg, b.toNatClampNeg)) (i := 0) (v := R.1 (13, a.toNatClampNeg, b.toNatClampNeg) 0) o dX16_trace_110 (gl_33 (gix_lt (Nat.le_trans (hBR 7 a.toNatClampNeg (by decide)) (by decide)) b3)) rfl (by unfold vp_in; decide) rfl ?_
        refine z_callF (pc := 111) (k := 0) (n := 0) (k' := 0) (n' := 0) (ci := 3) o (b := ad (24, 4, 0)) (As := [.int (R.1 (13, a.toNatClampNeg, b.toNatClampNeg) 0)]) (rest := []) (getR (l := 4) (g := 0) (gl_24_4 hR) (hBR 4 0 (by decide)) (hI.2.2.2.2.2.2.2.1 a.toNatClampNeg b.toNatClampNeg (gix_lt (Nat.le_trans (hBR 5 0 (by decide)) (by decide)) b1) (gix_lt (Nat.le_trans (hBR 7 _ (by decide)) (by decide)) b3)).1) rfl lf_X16_114 dX16_trace_111 (fun h hr => ⟨_, ghdr_R (R := R) (gl_24_4 hR) hr⟩) rfl rfl (Nat.le_of_ble_eq_true rfl) ⟨by decide, by decide⟩ ⟨rfl, rfl⟩ ⟨by decide, by decide⟩ ?_
        refine z_cast (pc := 116) (ci := 18) (K := (30, 0, (R.1 (13, a.toNatClampNeg, b.toNatClampNeg) 0).toNatClampNeg)) o rfl qw_1601 dX16_trace_116 (gl_30 (gix_lt (Nat.le_trans (hBR 4 0 (by decide)) (by decide)) (hI.2.2.2.2.2.2.2.1 a.toNatClampNeg b.toNatClampNeg (gix_lt (Nat.le_trans (hBR 5 0 (by decide)) (by decide)) b1) (gix_lt (Nat.le_trans (hBR 7 _ (by decide)) (by decide)) b3)).1)) rfl ?_
        refine y_astore (pc := 119) (i := 5) (lv' := [(5, .ref (ad (30, 0, (R.1 (13, a.toNatClampNeg, b.toNatClampNeg) 0).toNatClampNeg))), (4, .ref (ad (33, a.toNatClampNeg, b.toNatClampNeg))), (0, .ref (ad (20, 0, 0))), (1, .int (a)), (2, .int (b)), (3, .int (c))]) o dX16_trace_119 (by decide) rfl ?_
        refine y_aload_n (pc := 121) o dX16_trace_121 rfl ?_
        refine z_get (pc := 122) (K := (20, 0, 0)) (v := .ref (ad (24, 2, 0))) o fl_X16_51 dX16_trace_122 (gl_20 hR) rfl rfl ?_
        refine y_aload (pc := 125) o dX16_trace_125 rfl ?_
        refine z_get (pc := 127) (K := (30, 0, (R.1 (13, a.toNatClampNeg, b.toNatClampNeg) 0).toNatClampNeg)) (v := .int (R.1 (10, 0, (R.1 (13, a.toNatClampNeg, b.toNatClampNeg) 0).toNatClampNeg) 0)) o fl_X16_240 dX16_trace_127 (gl_30 (gix_lt (Nat.le_trans (hBR 4 0 (by decide)) (by decide)) (hI.2.2.2.2.2.2.2.1 a.toNatClampNeg b.toNatClampNeg (gix_lt (Nat.le_trans (hBR 5 0 (by decide)) (by decide)) b1) (gix_lt (Nat.le_trans (hBR 7 _ (by decide)) (by decide)) b3)).1)) rfl rfl ?_
        refine z_callF (pc := 130) (k := 0) (n := 0) (k' := 0) (n' := 0) (ci := 3) o (b := ad (24, 2, 0)) (As := [.int (R.1 (10, 0, (R.1 (13, a.toNatClampNeg, b.toNatClampNeg) 0).toNatClampNeg) 0)]) (rest := []) (getR (l := 2) (g := 0) (gl_24_2 hR) (hBR 2 0 (by decide)) (hI.2.2.2.2.2.1 _ (gix_lt (Nat.le_trans (hBR 4 0 (by decide)) (by decide)) (hI.2.2.2.2.2.2.2.1 a.toNatClampNeg b.toNatClampNeg (gix_lt (Nat.le_trans (hBR 5 0 (by decide)) (by decide)) b1) (gix_lt (Nat.le_trans (hBR 7 _ (by decide)) (by decide)) b3)).1)).1) rfl lf_X16_114 dX16_trace_130 (fun h hr => ⟨_, ghdr_R (R := R) (gl_24_2 hR) hr⟩) rfl rfl (Nat.le_of_ble_eq_true rfl) ⟨by decide, by decide⟩ ⟨rfl, rfl⟩ ⟨by decide, by decide⟩ ?_
        refine z_cast (pc := 135) (ci := 16) (K := (28, 0, (R.1 (10, 0, (R.1 (13, a.toNatClampNeg, b.toNatClampNeg) 0).toNatClampNeg) 0).toNatClampNeg)) o rfl qw_1452 dX16_trace_135 (gl_28 (gix_lt (Nat.le_trans (hBR 2 0 (by decide)) (by decide)) (hI.2.2.2.2.2.1 _ (gix_lt (Nat.le_trans (hBR 4 0 (by decide)) (by decide)) (hI.2.2.2.2.2.2.2.1 a.toNatClampNeg b.toNatClampNeg (gix_lt (Nat.le_trans (hBR 5 0 (by decide)) (by decide)) b1) (gix_lt (Nat.le_trans (hBR 7 _ (by decide)) (by decide)) b3)).1)).1)) rfl ?_
        refine y_astore (pc := 138) (i := 6) (lv' := [(6, .ref (ad (28, 0, (R.1 (10, 0, (R.1 (13, a.toNatClampNeg, b.toNatClampNeg) 0).toNatClampNeg) 0).toNatClampNeg))), (5, .ref (ad (30, 0, (R.1 (13, a.toNatClampNeg, b.toNatClampNeg) 0).toNatClampNeg))), (4, .ref (ad (33, a.toNatClampNeg, b.toNatClampNeg))), (0, .ref (ad (20, 0, 0))), (1, .int (a)), (2, .int (b)), (3, .int (c))]) o dX16_trace_138 (by decide) rfl ?_
        refine y_aload_n (pc := 140) o dX16_trace_140 rfl ?_
        refine z_get (pc := 141) (K := (20, 0, 0)) (v := .ref (ad (24, 1, 0))) o fl_X16_42 dX16_trace_141 (gl_20 hR) rfl rfl ?_
        refine y_aload (pc := 144) o dX16_trace_144 rfl ?_
        refine z_get (pc := 146) (K := (28, 0, (R.1 (10, 0, (R.1 (13, a.toNatClampNeg, b.toNatClampNeg) 0).toNatClampNeg) 0).toNatClampNeg)) (v := .int (R.1 (8, 0, (R.1 (10, 0, (R.1 (13, a.toNatClampNeg, b.toNatClampNeg) 0).toNatClampNeg) 0).toNatClampNeg) 0)) o fl_X16_135 dX16_trace_146 (gl_28 (gix_lt (Nat.le_trans (hBR 2 0 (by decide)) (by decide)) (hI.2.2.2.2.2.1 _ (gix_lt (Nat.le_trans (hBR 4 0 (by decide)) (by decide)) (hI.2.2.2.2.2.2.2.1 a.toNatClampNeg b.toNatClampNeg (gix_lt (Nat.le_trans (hBR 5 0 (by decide)) (by decide)) b1) (gix_lt (Nat.le_trans (hBR 7 _ (by decide)) (by decide)) b3)).1)).1)) rfl rfl ?_
        refine z_callF (pc := 149) (k := 0) (n := 0) (k' := 0) (n' := 0) (ci := 3) o (b := ad (24, 1, 0)) (As := [.int (R.1 (8, 0, (R.1 (10, 0, (R.1 (13, a.toNatClampNeg, b.toNatClampNeg) 0).toNatClampNeg) 0).toNatClampNeg) 0)]) (rest := []) (getR (l := 1) (g := 0) (gl_24_1 hR) (hBR 1 0 (by decide)) (hI.2.2.2.2.1 _ (gix_lt (Nat.le_trans (hBR 2 0 (by decide)) (by decide)) (hI.2.2.2.2.2.1 _ (gix_lt (Nat.le_trans (hBR 4 0 (by decide)) (by decide)) (hI.2.2.2.2.2.2.2.1 a.toNatClampNeg b.toNatClampNeg (gix_lt (Nat.le_trans (hBR 5 0 (by decide)) (by decide)) b1) (gix_lt (Nat.le_trans (hBR 7 _ (by decide)) (by decide)) b3)).1)).1)).1) rfl lf_X16_114 dX16_trace_149 (fun h hr => ⟨_, ghdr_R (R := R) (gl_24_1 hR) hr⟩) rfl rfl (Nat.le_of_ble_eq_true rfl) ⟨by decide, by decide⟩ ⟨rfl, rfl⟩ ⟨by decide, by decide⟩ ?_
        refine z_castI (pc := 154) (K := (27, 0, (R.1 (8, 0, (R.1 (10, 0, (R.1 (13, a.toNatClampNeg, b.toNatClampNeg) 0).toNatClampNeg) 0).toNatClampNeg) 0).toNatClampNeg)) (N := 5) o qw_1435 dX16_trace_154 (gl_27 (gix_lt (Nat.le_trans (hBR 1 0 (by decide)) (by decide)) (hI.2.2.2.2.1 _ (gix_lt (Nat.le_trans (hBR 2 0 (by decide)) (by decide)) (hI.2.2.2.2.2.1 _ (gix_lt (Nat.le_trans (hBR 4 0 (by decide)) (by decide)) (hI.2.2.2.2.2.2.2.1 a.toNatClampNeg b.toNatClampNeg (gix_lt (Nat.le_trans (hBR 5 0 (by decide)) (by decide)) b1) (gix_lt (Nat.le_trans (hBR 7 _ (by decide)) (by decide)) b3)).1)).1)).1)) rfl ?_
        refine y_astore (pc := 157) (i := 7) (lv' := [(7, .ref (ad (27, 0, (R.1 (8, 0, (R.1 (10, 0, (R.1 (13, a.toNatClampNeg, b.toNatClampNeg) 0).toNatClampNeg) 0).toNatClampNeg) 0).toNatClampNeg))), (6, .ref (ad (28, 0, (R.1 (10, 0, (R.1 (13, a.toNatClampNeg, b.toNatClampNeg) 0).toNatClampNeg) 0).toNatClampNeg))), (5, .ref (ad (30, 0, (R.1 (13, a.toNatClampNeg, b.toNatClampNeg) 0).toNatClampNeg))), (4, .ref (ad (33, a.toNatClampNeg, b.toNatClampNeg))), (0, .ref (ad (20, 0, 0))), (1, .int (a)), (2, .int (b)), (3, .int (c))]) o dX16_trace_157 (by decide) rfl ?_
        refine y_iload_n (pc := 159) o dX16_trace_159 rfl ?_
        refine z_tableK (pc := 160) (tgt := 301) (off := 141) o 115 dX16_trace_160 c6 (by decide) rfl ?_
        refine y_aload (pc := 301) o dX16_trace_301 rfl ?_
        refine z_get (pc := 303) (K := (30, 0, (R.1 (13, a.toNatClampNeg, b.toNatClampNeg) 0).toNatClampNeg)) (v := .int (R.1 (10, 0, (R.1 (13, a.toNatClampNeg, b.toNatClampNeg) 0).toNatClampNeg) 1)) o fl_X16_243 dX16_trace_303 (gl_30 (gix_lt (Nat.le_trans (hBR 4 0 (by decide)) (by decide)) (hI.2.2.2.2.2.2.2.1 a.toNatClampNeg b.toNatClampNeg (gix_lt (Nat.le_trans (hBR 5 0 (by decide)) (by decide)) b1) (gix_lt (Nat.le_trans (hBR 7 _ (by decide)) (by decide)) b3)).1)) rfl rfl ?_
        exact y_iret (pc := 306) o dX16_trace_306 rfl (vp_nar_int _) (by decide) (by decide) (fun h hp => gP_mk (by simp +decide only [F_trace, b1, b3, c6, gix_of (hI.2.2.2.2.2.1 _ (gix_lt (Nat.le_trans (hBR 4 0 (by decide)) (by decide)) (hI.2.2.2.2.2.2.2.1 a.toNatClampNeg b.toNatClampNeg (gix_lt (Nat.le_trans (hBR 5 0 (by decide)) (by decide)) b1) (gix_lt (Nat.le_trans (hBR 7 _ (by decide)) (by decide)) b3)).1)).2.1, gtc0, gtc1, gtc2, gtc3, gtc4, not_true_eq_false, not_false_eq_true, if_true, if_false, or_true, true_or, or_false, false_or, and_true, true_and, and_false, false_and, or_self, and_self, eq_self, Bool.false_eq_true, ne_eq, reduceIte]) rfl rfl hp)
      · refine y_iconst (pc := 66) (x := 0) o dX16_trace_66 (by decide) ?_
        refine y_iconst (pc := 67) (x := 2) o dX16_trace_67 (by decide) ?_
        refine z_callV (pc := 68) (k := 0) (n := 0) (k' := 0) (n' := 0) o (b := ad (20, 0, 0)) (As := [.int (0), .int (2)]) (rest := []) (kFailsF hR h5 2) ln_X16_74 dX16_trace_68 (z_rc (ci := 20) (K := (20, 0, 0)) rfl (gl_20 hR) rfl) rfl rfl (Nat.le_of_ble_eq_true rfl) ⟨by decide, by decide⟩ ⟨rfl, rfl⟩ ⟨by decide, by decide⟩ rfl gq_nox2 ?_
        refine y_if_eq (pc := 71) (tgt := 76) o dX16_trace_71 rfl (fun (b14 : 0 = 0) => ?_) (fun b14 => absurd b14 (by rw [b4]; decide))
        refine y_aload_n (pc := 76) o dX16_trace_76 rfl ?_
        refine z_get (pc := 77) (K := (20, 0, 0)) (v := .ref (ad (24, 5, 0))) o fl_X16_60 dX16_trace_77 (gl_20 hR) rfl rfl ?_
        refine y_iload_n (pc := 80) o dX16_trace_80 rfl ?_
        refine z_callF (pc := 81) (k := 0) (n := 0) (k' := 0) (n' := 0) (ci := 3) o (b := ad (24, 5, 0)) (As := [.int (a)]) (rest := []) (getR (l := 5) (g := 0) (gl_24_5 hR) (hBR 5 0 (by decide)) b1) rfl lf_X16_114 dX16_trace_81 (fun h hr => ⟨_, ghdr_R (R := R) (gl_24_5 hR) hr⟩) rfl rfl (Nat.le_of_ble_eq_true rfl) ⟨by decide, by decide⟩ ⟨rfl, rfl⟩ ⟨by decide, by decide⟩ ?_
        refine z_cast (pc := 86) (ci := 17) (K := (31, 0, a.toNatClampNeg)) o rfl qw_1684 dX16_trace_86 (gl_31 (gix_lt (Nat.le_trans (hBR 5 0 (by decide)) (by decide)) b1)) rfl ?_
        refine z_get (pc := 89) (K := (31, 0, a.toNatClampNeg)) (v := .ref (ad (24, 7, a.toNatClampNeg))) o fl_X16_294 dX16_trace_89 (gl_31 (gix_lt (Nat.le_trans (hBR 5 0 (by decide)) (by decide)) b1)) rfl rfl ?_
        refine y_iload_n (pc := 92) o dX16_trace_92 rfl ?_
        refine z_callF (pc := 93) (k := 0) (n := 0) (k' := 0) (n' := 0) (ci := 3) o (b := ad (24, 7, a.toNatClampNeg)) (As := [.int (b)]) (rest := []) (getR (l := 7) (g := a.toNatClampNeg) (gl_24_7 hR (gix_lt (Nat.le_trans (hBR 5 0 (by decide)) (by decide)) b1)) (hBR 7 a.toNatClampNeg (by decide)) b3) rfl lf_X16_114 dX16_trace_93 (fun h hr => ⟨_, ghdr_R (R := R) (gl_24_7 hR (gix_lt (Nat.le_trans (hBR 5 0 (by decide)) (by decide)) b1)) hr⟩) rfl rfl (Nat.le_of_ble_eq_true rfl) ⟨by decide, by decide⟩ ⟨rfl, rfl⟩ ⟨by decide, by decide⟩ ?_
        refine z_castI (pc := 98) (K := (33, a.toNatClampNeg, b.toNatClampNeg)) (N := 3) o qw_1435 dX16_trace_98 (gl_33 (gix_lt (Nat.le_trans (hBR 7 a.toNatClampNeg (by decide)) (by decide)) b3)) rfl ?_
        refine y_astore (pc := 101) (i := 4) (lv' := [(4, .ref (ad (33, a.toNatClampNeg, b.toNatClampNeg))), (0, .ref (ad (20, 0, 0))), (1, .int (a)), (2, .int (b)), (3, .int (c))]) o dX16_trace_101 (by decide) rfl ?_
        refine y_aload_n (pc := 103) o dX16_trace_103 rfl ?_
        refine z_get (pc := 104) (K := (20, 0, 0)) (v := .ref (ad (24, 4, 0))) o fl_X16_57 dX16_trace_104 (gl_20 hR) rfl rfl ?_
        refine y_aload (pc := 107) o dX16_trace_107 rfl ?_
        refine y_iconst (pc := 109) (x := 0) o dX16_trace_109 (by decide) ?_
        refine z_iald (pc := 110) (K := (33, a.toNatClampNeg, b.toNatClampNeg)) (i := 0) (v := R.1 (13, a.toNatClampNeg, b.toNatClampNeg) 0) o dX16_trace_110 (gl_33 (gix_lt (Nat.le_trans (hBR 7 a.toNatClampNeg (by decide)) (by decide)) b3)) rfl (by unfold vp_in; decide) rfl ?_
        refine z_callF (pc := 111) (k := 0) (n := 0) (k' := 0) (n' := 0) (ci := 3) o (b := ad (24, 4, 0)) (As := [.int (R.1 (13, a.toNatClampNeg, b.toNatClampNeg) 0)]) (rest := []) (getR (l := 4) (g := 0) (gl_24_4 hR) (hBR 4 0 (by decide)) (hI.2.2.2.2.2.2.2.1 a.toNatClampNeg b.toNatClampNeg (gix_lt (Nat.le_trans (hBR 5 0 (by decide)) (by decide)) b1) (gix_lt (Nat.le_trans (hBR 7 _ (by decide)) (by decide)) b3)).1) rfl lf_X16_114 dX16_trace_111 (fun h hr => ⟨_, ghdr_R (R := R) (gl_24_4 hR) hr⟩) rfl rfl (Nat.le_of_ble_eq_true rfl) ⟨by decide, by decide⟩ ⟨rfl, rfl⟩ ⟨by decide, by decide⟩ ?_
        refine z_cast (pc := 116) (ci := 18) (K := (30, 0, (R.1 (13, a.toNatClampNeg, b.toNatClampNeg) 0).toNatClampNeg)) o rfl qw_1601 dX16_trace_116 (gl_30 (gix_lt (Nat.le_trans (hBR 4 0 (by decide)) (by decide)) (hI.2.2.2.2.2.2.2.1 a.toNatClampNeg b.toNatClampNeg (gix_lt (Nat.le_trans (hBR 5 0 (by decide)) (by decide)) b1) (gix_lt (Nat.le_trans (hBR 7 _ (by decide)) (by decide)) b3)).1)) rfl ?_
        refine y_astore (pc := 119) (i := 5) (lv' := [(5, .ref (ad (30, 0, (R.1 (13, a.toNatClampNeg, b.toNatClampNeg) 0).toNatClampNeg))), (4, .ref (ad (33, a.toNatClampNeg, b.toNatClampNeg))), (0, .ref (ad (20, 0, 0))), (1, .int (a)), (2, .int (b)), (3, .int (c))]) o dX16_trace_119 (by decide) rfl ?_
        refine y_aload_n (pc := 121) o dX16_trace_121 rfl ?_
        refine z_get (pc := 122) (K := (20, 0, 0)) (v := .ref (ad (24, 2, 0))) o fl_X16_51 dX16_trace_122 (gl_20 hR) rfl rfl ?_
        refine y_aload (pc := 125) o dX16_trace_125 rfl ?_
        refine z_get (pc := 127) (K := (30, 0, (R.1 (13, a.toNatClampNeg, b.toNatClampNeg) 0).toNatClampNeg)) (v := .int (R.1 (10, 0, (R.1 (13, a.toNatClampNeg, b.toNatClampNeg) 0).toNatClampNeg) 0)) o fl_X16_240 dX16_trace_127 (gl_30 (gix_lt (Nat.le_trans (hBR 4 0 (by decide)) (by decide)) (hI.2.2.2.2.2.2.2.1 a.toNatClampNeg b.toNatClampNeg (gix_lt (Nat.le_trans (hBR 5 0 (by decide)) (by decide)) b1) (gix_lt (Nat.le_trans (hBR 7 _ (by decide)) (by decide)) b3)).1)) rfl rfl ?_
        refine z_callF (pc := 130) (k := 0) (n := 0) (k' := 0) (n' := 0) (ci := 3) o (b := ad (24, 2, 0)) (As := [.int (R.1 (10, 0, (R.1 (13, a.toNatClampNeg, b.toNatClampNeg) 0).toNatClampNeg) 0)]) (rest := []) (getR (l := 2) (g := 0) (gl_24_2 hR) (hBR 2 0 (by decide)) (hI.2.2.2.2.2.1 _ (gix_lt (Nat.le_trans (hBR 4 0 (by decide)) (by decide)) (hI.2.2.2.2.2.2.2.1 a.toNatClampNeg b.toNatClampNeg (gix_lt (Nat.le_trans (hBR 5 0 (by decide)) (by decide)) b1) (gix_lt (Nat.le_trans (hBR 7 _ (by decide)) (by decide)) b3)).1)).1) rfl lf_X16_114 dX16_trace_130 (fun h hr => ⟨_, ghdr_R (R := R) (gl_24_2 hR) hr⟩) rfl rfl (Nat.le_of_ble_eq_true rfl) ⟨by decide, by decide⟩ ⟨rfl, rfl⟩ ⟨by decide, by decide⟩ ?_
        refine z_cast (pc := 135) (ci := 16) (K := (28, 0, (R.1 (10, 0, (R.1 (13, a.toNatClampNeg, b.toNatClampNeg) 0).toNatClampNeg) 0).toNatClampNeg)) o rfl qw_1452 dX16_trace_135 (gl_28 (gix_lt (Nat.le_trans (hBR 2 0 (by decide)) (by decide)) (hI.2.2.2.2.2.1 _ (gix_lt (Nat.le_trans (hBR 4 0 (by decide)) (by decide)) (hI.2.2.2.2.2.2.2.1 a.toNatClampNeg b.toNatClampNeg (gix_lt (Nat.le_trans (hBR 5 0 (by decide)) (by decide)) b1) (gix_lt (Nat.le_trans (hBR 7 _ (by decide)) (by decide)) b3)).1)).1)) rfl ?_
        refine y_astore (pc := 138) (i := 6) (lv' := [(6, .ref (ad (28, 0, (R.1 (10, 0, (R.1 (13, a.toNatClampNeg, b.toNatClampNeg) 0).toNatClampNeg) 0).toNatClampNeg))), (5, .ref (ad (30, 0, (R.1 (13, a.toNatClampNeg, b.toNatClampNeg) 0).toNatClampNeg))), (4, .ref (ad (33, a.toNatClampNeg, b.toNatClampNeg))), (0, .ref (ad (20, 0, 0))), (1, .int (a)), (2, .int (b)), (3, .int (c))]) o dX16_trace_138 (by decide) rfl ?_
        refine y_aload_n (pc := 140) o dX16_trace_140 rfl ?_
        refine z_get (pc := 141) (K := (20, 0, 0)) (v := .ref (ad (24, 1, 0))) o fl_X16_42 dX16_trace_141 (gl_20 hR) rfl rfl ?_
        refine y_aload (pc := 144) o dX16_trace_144 rfl ?_
        refine z_get (pc := 146) (K := (28, 0, (R.1 (10, 0, (R.1 (13, a.toNatClampNeg, b.toNatClampNeg) 0).toNatClampNeg) 0).toNatClampNeg)) (v := .int (R.1 (8, 0, (R.1 (10, 0, (R.1 (13, a.toNatClampNeg, b.toNatClampNeg) 0).toNatClampNeg) 0).toNatClampNeg) 0)) o fl_X16_135 dX16_trace_146 (gl_28 (gix_lt (Nat.le_trans (hBR 2 0 (by decide)) (by decide)) (hI.2.2.2.2.2.1 _ (gix_lt (Nat.le_trans (hBR 4 0 (by decide)) (by decide)) (hI.2.2.2.2.2.2.2.1 a.toNatClampNeg b.toNatClampNeg (gix_lt (Nat.le_trans (hBR 5 0 (by decide)) (by decide)) b1) (gix_lt (Nat.le_trans (hBR 7 _ (by decide)) (by decide)) b3)).1)).1)) rfl rfl ?_
        refine z_callF (pc := 149) (k := 0) (n := 0) (k' := 0) (n' := 0) (ci := 3) o (b := ad (24, 1, 0)) (As := [.int (R.1 (8, 0, (R.1 (10, 0, (R.1 (13, a.toNatClampNeg, b.toNatClampNeg) 0).toNatClampNeg) 0).toNatClampNeg) 0)]) (rest := []) (getR (l := 1) (g := 0) (gl_24_1 hR) (hBR 1 0 (by decide)) (hI.2.2.2.2.1 _ (gix_lt (Nat.le_trans (hBR 2 0 (by decide)) (by decide)) (hI.2.2.2.2.2.1 _ (gix_lt (Nat.le_trans (hBR 4 0 (by decide)) (by decide)) (hI.2.2.2.2.2.2.2.1 a.toNatClampNeg b.toNatClampNeg (gix_lt (Nat.le_trans (hBR 5 0 (by decide)) (by decide)) b1) (gix_lt (Nat.le_trans (hBR 7 _ (by decide)) (by decide)) b3)).1)).1)).1) rfl lf_X16_114 dX16_trace_149 (fun h hr => ⟨_, ghdr_R (R := R) (gl_24_1 hR) hr⟩) rfl rfl (Nat.le_of_ble_eq_true rfl) ⟨by decide, by decide⟩ ⟨rfl, rfl⟩ ⟨by decide, by decide⟩ ?_
        refine z_castI (pc := 154) (K := (27, 0, (R.1 (8, 0, (R.1 (10, 0, (R.1 (13, a.toNatClampNeg, b.toNatClampNeg) 0).toNatClampNeg) 0).toNatClampNeg) 0).toNatClampNeg)) (N := 5) o qw_1435 dX16_trace_154 (gl_27 (gix_lt (Nat.le_trans (hBR 1 0 (by decide)) (by decide)) (hI.2.2.2.2.1 _ (gix_lt (Nat.le_trans (hBR 2 0 (by decide)) (by decide)) (hI.2.2.2.2.2.1 _ (gix_lt (Nat.le_trans (hBR 4 0 (by decide)) (by decide)) (hI.2.2.2.2.2.2.2.1 a.toNatClampNeg b.toNatClampNeg (gix_lt (Nat.le_trans (hBR 5 0 (by decide)) (by decide)) b1) (gix_lt (Nat.le_trans (hBR 7 _ (by decide)) (by decide)) b3)).1)).1)).1)) rfl ?_
        refine y_astore (pc := 157) (i := 7) (lv' := [(7, .ref (ad (27, 0, (R.1 (8, 0, (R.1 (10, 0, (R.1 (13, a.toNatClampNeg, b.toNatClampNeg) 0).toNatClampNeg) 0).toNatClampNeg) 0).toNatClampNeg))), (6, .ref (ad (28, 0, (R.1 (10, 0, (R.1 (13, a.toNatClampNeg, b.toNatClampNeg) 0).toNatClampNeg) 0).toNatClampNeg))), (5, .ref (ad (30, 0, (R.1 (13, a.toNatClampNeg, b.toNatClampNeg) 0).toNatClampNeg))), (4, .ref (ad (33, a.toNatClampNeg, b.toNatClampNeg))), (0, .ref (ad (20, 0, 0))), (1, .int (a)), (2, .int (b)), (3, .int (c))]) o dX16_trace_157 (by decide) rfl ?_
        refine y_iload_n (pc := 159) o dX16_trace_159 rfl ?_
        refine z_tableK (pc := 160) (tgt := 307) (off := 147) o 104 dX16_trace_160 c6 (by decide) rfl ?_
        refine y_aload (pc := 307) o dX16_trace_307 rfl ?_
        refine z_get (pc := 309) (K := (30, 0, (R.1 (13, a.toNatClampNeg, b.toNatClampNeg) 0).toNatClampNeg)) (v := .int (R.1 (10, 0, (R.1 (13, a.toNatClampNeg, b.toNatClampNeg) 0).toNatClampNeg) 2)) o fl_X16_245 dX16_trace_309 (gl_30 (gix_lt (Nat.le_trans (hBR 4 0 (by decide)) (by decide)) (hI.2.2.2.2.2.2.2.1 a.toNatClampNeg b.toNatClampNeg (gix_lt (Nat.le_trans (hBR 5 0 (by decide)) (by decide)) b1) (gix_lt (Nat.le_trans (hBR 7 _ (by decide)) (by decide)) b3)).1)) rfl rfl ?_
        exact y_iret (pc := 312) o dX16_trace_312 rfl (vp_nar_int _) (by decide) (by decide) (fun h hp => gP_mk (by simp +decide only [F_trace, b1, b3, c6, gtc0, gtc1, gtc2, gtc3, gtc4, not_true_eq_false, not_false_eq_true, if_true, if_false, or_true, true_or, or_false, false_or, and_true, true_and, and_false, false_and, or_self, and_self, eq_self, Bool.false_eq_true, ne_eq, reduceIte]) rfl rfl hp)
      · refine y_iconst (pc := 66) (x := 0) o dX16_trace_66 (by decide) ?_
        refine y_iconst (pc := 67) (x := 2) o dX16_trace_67 (by decide) ?_
        refine z_callV (pc := 68) (k := 0) (n := 0) (k' := 0) (n' := 0) o (b := ad (20, 0, 0)) (As := [.int (0), .int (2)]) (rest := []) (kFailsF hR h5 2) ln_X16_74 dX16_trace_68 (z_rc (ci := 20) (K := (20, 0, 0)) rfl (gl_20 hR) rfl) rfl rfl (Nat.le_of_ble_eq_true rfl) ⟨by decide, by decide⟩ ⟨rfl, rfl⟩ ⟨by decide, by decide⟩ rfl gq_nox2 ?_
        refine y_if_eq (pc := 71) (tgt := 76) o dX16_trace_71 rfl (fun (b15 : 0 = 0) => ?_) (fun b15 => absurd b15 (by rw [b4]; decide))
        refine y_aload_n (pc := 76) o dX16_trace_76 rfl ?_
        refine z_get (pc := 77) (K := (20, 0, 0)) (v := .ref (ad (24, 5, 0))) o fl_X16_60 dX16_trace_77 (gl_20 hR) rfl rfl ?_
        refine y_iload_n (pc := 80) o dX16_trace_80 rfl ?_
        refine z_callF (pc := 81) (k := 0) (n := 0) (k' := 0) (n' := 0) (ci := 3) o (b := ad (24, 5, 0)) (As := [.int (a)]) (rest := []) (getR (l := 5) (g := 0) (gl_24_5 hR) (hBR 5 0 (by decide)) b1) rfl lf_X16_114 dX16_trace_81 (fun h hr => ⟨_, ghdr_R (R := R) (gl_24_5 hR) hr⟩) rfl rfl (Nat.le_of_ble_eq_true rfl) ⟨by decide, by decide⟩ ⟨rfl, rfl⟩ ⟨by decide, by decide⟩ ?_
        refine z_cast (pc := 86) (ci := 17) (K := (31, 0, a.toNatClampNeg)) o rfl qw_1684 dX16_trace_86 (gl_31 (gix_lt (Nat.le_trans (hBR 5 0 (by decide)) (by decide)) b1)) rfl ?_
        refine z_get (pc := 89) (K := (31, 0, a.toNatClampNeg)) (v := .ref (ad (24, 7, a.toNatClampNeg))) o fl_X16_294 dX16_trace_89 (gl_31 (gix_lt (Nat.le_trans (hBR 5 0 (by decide)) (by decide)) b1)) rfl rfl ?_
        refine y_iload_n (pc := 92) o dX16_trace_92 rfl ?_
        refine z_callF (pc := 93) (k := 0) (n := 0) (k' := 0) (n' := 0) (ci := 3) o (b := ad (24, 7, a.toNatClampNeg)) (As := [.int (b)]) (rest := []) (getR (l := 7) (g := a.toNatClampNeg) (gl_24_7 hR (gix_lt (Nat.le_trans (hBR 5 0 (by decide)) (by decide)) b1)) (hBR 7 a.toNatClampNeg (by decide)) b3) rfl lf_X16_114 dX16_trace_93 (fun h hr => ⟨_, ghdr_R (R := R) (gl_24_7 hR (gix_lt (Nat.le_trans (hBR 5 0 (by decide)) (by decide)) b1)) hr⟩) rfl rfl (Nat.le_of_ble_eq_true rfl) ⟨by decide, by decide⟩ ⟨rfl, rfl⟩ ⟨by decide, by decide⟩ ?_
        refine z_castI (pc := 98) (K := (33, a.toNatClampNeg, b.toNatClampNeg)) (N := 3) o qw_1435 dX16_trace_98 (gl_33 (gix_lt (Nat.le_trans (hBR 7 a.toNatClampNeg (by decide)) (by decide)) b3)) rfl ?_
        refine y_astore (pc := 101) (i := 4) (lv' := [(4, .ref (ad (33, a.toNatClampNeg, b.toNatClampNeg))), (0, .ref (ad (20, 0, 0))), (1, .int (a)), (2, .int (b)), (3, .int (c))]) o dX16_trace_101 (by decide) rfl ?_
        refine y_aload_n (pc := 103) o dX16_trace_103 rfl ?_
        refine z_get (pc := 104) (K := (20, 0, 0)) (v := .ref (ad (24, 4, 0))) o fl_X16_57 dX16_trace_104 (gl_20 hR) rfl rfl ?_
        refine y_aload (pc := 107) o dX16_trace_107 rfl ?_
        refine y_iconst (pc := 109) (x := 0) o dX16_trace_109 (by decide) ?_
        refine z_iald (pc := 110) (K := (33, a.toNatClampNeg, b.toNatClampNeg)) (i := 0) (v := R.1 (13, a.toNatClampNeg, b.toNatClampNeg) 0) o dX16_trace_110 (gl_33 (gix_lt (Nat.le_trans (hBR 7 a.toNatClampNeg (by decide)) (by decide)) b3)) rfl (by unfold vp_in; decide) rfl ?_
        refine z_callF (pc := 111) (k := 0) (n := 0) (k' := 0) (n' := 0) (ci := 3) o (b := ad (24, 4, 0)) (As := [.int (R.1 (13, a.toNatClampNeg, b.toNatClampNeg) 0)]) (rest := []) (getR (l := 4) (g := 0) (gl_24_4 hR) (hBR 4 0 (by decide)) (hI.2.2.2.2.2.2.2.1 a.toNatClampNeg b.toNatClampNeg (gix_lt (Nat.le_trans (hBR 5 0 (by decide)) (by decide)) b1) (gix_lt (Nat.le_trans (hBR 7 _ (by decide)) (by decide)) b3)).1) rfl lf_X16_114 dX16_trace_111 (fun h hr => ⟨_, ghdr_R (R := R) (gl_24_4 hR) hr⟩) rfl rfl (Nat.le_of_ble_eq_true rfl) ⟨by decide, by decide⟩ ⟨rfl, rfl⟩ ⟨by decide, by decide⟩ ?_
        refine z_cast (pc := 116) (ci := 18) (K := (30, 0, (R.1 (13, a.toNatClampNeg, b.toNatClampNeg) 0).toNatClampNeg)) o rfl qw_1601 dX16_trace_116 (gl_30 (gix_lt (Nat.le_trans (hBR 4 0 (by decide)) (by decide)) (hI.2.2.2.2.2.2.2.1 a.toNatClampNeg b.toNatClampNeg (gix_lt (Nat.le_trans (hBR 5 0 (by decide)) (by decide)) b1) (gix_lt (Nat.le_trans (hBR 7 _ (by decide)) (by decide)) b3)).1)) rfl ?_
        refine y_astore (pc := 119) (i := 5) (lv' := [(5, .ref (ad (30, 0, (R.1 (13, a.toNatClampNeg, b.toNatClampNeg) 0).toNatClampNeg))), (4, .ref (ad (33, a.toNatClampNeg, b.toNatClampNeg))), (0, .ref (ad (20, 0, 0))), (1, .int (a)), (2, .int (b)), (3, .int (c))]) o dX16_trace_119 (by decide) rfl ?_
        refine y_aload_n (pc := 121) o dX16_trace_121 rfl ?_
        refine z_get (pc := 122) (K := (20, 0, 0)) (v := .ref (ad (24, 2, 0))) o fl_X16_51 dX16_trace_122 (gl_20 hR) rfl rfl ?_
        refine y_aload (pc := 125) o dX16_trace_125 rfl ?_
        refine z_get (pc := 127) (K := (30, 0, (R.1 (13, a.toNatClampNeg, b.toNatClampNeg) 0).toNatClampNeg)) (v := .int (R.1 (10, 0, (R.1 (13, a.toNatClampNeg, b.toNatClampNeg) 0).toNatClampNeg) 0)) o fl_X16_240 dX16_trace_127 (gl_30 (gix_lt (Nat.le_trans (hBR 4 0 (by decide)) (by decide)) (hI.2.2.2.2.2.2.2.1 a.toNatClampNeg b.toNatClampNeg (gix_lt (Nat.le_trans (hBR 5 0 (by decide)) (by decide)) b1) (gix_lt (Nat.le_trans (hBR 7 _ (by decide)) (by decide)) b3)).1)) rfl rfl ?_
        refine z_callF (pc := 130) (k := 0) (n := 0) (k' := 0) (n' := 0) (ci := 3) o (b := ad (24, 2, 0)) (As := [.int (R.1 (10, 0, (R.1 (13, a.toNatClampNeg, b.toNatClampNeg) 0).toNatClampNeg) 0)]) (rest := []) (getR (l := 2) (g := 0) (gl_24_2 hR) (hBR 2 0 (by decide)) (hI.2.2.2.2.2.1 _ (gix_lt (Nat.le_trans (hBR 4 0 (by decide)) (by decide)) (hI.2.2.2.2.2.2.2.1 a.toNatClampNeg b.toNatClampNeg (gix_lt (Nat.le_trans (hBR 5 0 (by decide)) (by decide)) b1) (gix_lt (Nat.le_trans (hBR 7 _ (by decide)) (by decide)) b3)).1)).1) rfl lf_X16_114 dX16_trace_130 (fun h hr => ⟨_, ghdr_R (R := R) (gl_24_2 hR) hr⟩) rfl rfl (Nat.le_of_ble_eq_true rfl) ⟨by decide, by decide⟩ ⟨rfl, rfl⟩ ⟨by decide, by decide⟩ ?_
        refine z_cast (pc := 135) (ci := 16) (K := (28, 0, (R.1 (10, 0, (R.1 (13, a.toNatClampNeg, b.toNatClampNeg) 0).toNatClampNeg) 0).toNatClampNeg)) o rfl qw_1452 dX16_trace_135 (gl_28 (gix_lt (Nat.le_trans (hBR 2 0 (by decide)) (by decide)) (hI.2.2.2.2.2.1 _ (gix_lt (Nat.le_trans (hBR 4 0 (by decide)) (by decide)) (hI.2.2.2.2.2.2.2.1 a.toNatClampNeg b.toNatClampNeg (gix_lt (Nat.le_trans (hBR 5 0 (by decide)) (by decide)) b1) (gix_lt (Nat.le_trans (hBR 7 _ (by decide)) (by decide)) b3)).1)).1)) rfl ?_
        refine y_astore (pc := 138) (i := 6) (lv' := [(6, .ref (ad (28, 0, (R.1 (10, 0, (R.1 (13, a.toNatClampNeg, b.toNatClampNeg) 0).toNatClampNeg) 0).toNatClampNeg))), (5, .ref (ad (30, 0, (R.1 (13, a.toNatClampNeg, b.toNatClampNeg) 0).toNatClampNeg))), (4, .ref (ad (33, a.toNatClampNeg, b.toNatClampNeg))), (0, .ref (ad (20, 0, 0))), (1, .int (a)), (2, .int (b)), (3, .int (c))]) o dX16_trace_138 (by decide) rfl ?_
        refine y_aload_n (pc := 140) o dX16_trace_140 rfl ?_
        refine z_get (pc := 141) (K := (20, 0, 0)) (v := .ref (ad (24, 1, 0))) o fl_X16_42 dX16_trace_141 (gl_20 hR) rfl rfl ?_
        refine y_aload (pc := 144) o dX16_trace_144 rfl ?_
        refine z_get (pc := 146) (K := (28, 0, (R.1 (10, 0, (R.1 (13, a.toNatClampNeg, b.toNatClampNeg) 0).toNatClampNeg) 0).toNatClampNeg)) (v := .int (R.1 (8, 0, (R.1 (10, 0, (R.1 (13, a.toNatClampNeg, b.toNatClampNeg) 0).toNatClampNeg) 0).toNatClampNeg) 0)) o fl_X16_135 dX16_trace_146 (gl_28 (gix_lt (Nat.le_trans (hBR 2 0 (by decide)) (by decide)) (hI.2.2.2.2.2.1 _ (gix_lt (Nat.le_trans (hBR 4 0 (by decide)) (by decide)) (hI.2.2.2.2.2.2.2.1 a.toNatClampNeg b.toNatClampNeg (gix_lt (Nat.le_trans (hBR 5 0 (by decide)) (by decide)) b1) (gix_lt (Nat.le_trans (hBR 7 _ (by decide)) (by decide)) b3)).1)).1)) rfl rfl ?_
        refine z_callF (pc := 149) (k := 0) (n := 0) (k' := 0) (n' := 0) (ci := 3) o (b := ad (24, 1, 0)) (As := [.int (R.1 (8, 0, (R.1 (10, 0, (R.1 (13, a.toNatClampNeg, b.toNatClampNeg) 0).toNatClampNeg) 0).toNatClampNeg) 0)]) (rest := []) (getR (l := 1) (g := 0) (gl_24_1 hR) (hBR 1 0 (by decide)) (hI.2.2.2.2.1 _ (gix_lt (Nat.le_trans (hBR 2 0 (by decide)) (by decide)) (hI.2.2.2.2.2.1 _ (gix_lt (Nat.le_trans (hBR 4 0 (by decide)) (by decide)) (hI.2.2.2.2.2.2.2.1 a.toNatClampNeg b.toNatClampNeg (gix_lt (Nat.le_trans (hBR 5 0 (by decide)) (by decide)) b1) (gix_lt (Nat.le_trans (hBR 7 _ (by decide)) (by decide)) b3)).1)).1)).1) rfl lf_X16_114 dX16_trace_149 (fun h hr => ⟨_, ghdr_R (R := R) (gl_24_1 hR) hr⟩) rfl rfl (Nat.le_of_ble_eq_true rfl) ⟨by decide, by decide⟩ ⟨rfl, rfl⟩ ⟨by decide, by decide⟩ ?_
        refine z_castI (pc := 154) (K := (27, 0, (R.1 (8, 0, (R.1 (10, 0, (R.1 (13, a.toNatClampNeg, b.toNatClampNeg) 0).toNatClampNeg) 0).toNatClampNeg) 0).toNatClampNeg)) (N := 5) o qw_1435 dX16_trace_154 (gl_27 (gix_lt (Nat.le_trans (hBR 1 0 (by decide)) (by decide)) (hI.2.2.2.2.1 _ (gix_lt (Nat.le_trans (hBR 2 0 (by decide)) (by decide)) (hI.2.2.2.2.2.1 _ (gix_lt (Nat.le_trans (hBR 4 0 (by decide)) (by decide)) (hI.2.2.2.2.2.2.2.1 a.toNatClampNeg b.toNatClampNeg (gix_lt (Nat.le_trans (hBR 5 0 (by decide)) (by decide)) b1) (gix_lt (Nat.le_trans (hBR 7 _ (by decide)) (by decide)) b3)).1)).1)).1)) rfl ?_
        refine y_astore (pc := 157) (i := 7) (lv' := [(7, .ref (ad (27, 0, (R.1 (8, 0, (R.1 (10, 0, (R.1 (13, a.toNatClampNeg, b.toNatClampNeg) 0).toNatClampNeg) 0).toNatClampNeg) 0).toNatClampNeg))), (6, .ref (ad (28, 0, (R.1 (10, 0, (R.1 (13, a.toNatClampNeg, b.toNatClampNeg) 0).toNatClampNeg) 0).toNatClampNeg))), (5, .ref (ad (30, 0, (R.1 (13, a.toNatClampNeg, b.toNatClampNeg) 0).toNatClampNeg))), (4, .ref (ad (33, a.toNatClampNeg, b.toNatClampNeg))), (0, .ref (ad (20, 0, 0))), (1, .int (a)), (2, .int (b)), (3, .int (c))]) o dX16_trace_157 (by decide) rfl ?_
        refine y_iload_n (pc := 159) o dX16_trace_159 rfl ?_
        refine z_tableK (pc := 160) (tgt := 313) (off := 153) o 103 dX16_trace_160 c6 (by decide) rfl ?_
        refine y_aload (pc := 313) o dX16_trace_313 rfl ?_
        refine y_iconst (pc := 315) (x := 0) o dX16_trace_315 (by decide) ?_
        refine z_iald (pc := 316) (K := (27, 0, (R.1 (8, 0, (R.1 (10, 0, (R.1 (13, a.toNatClampNeg, b.toNatClampNeg) 0).toNatClampNeg) 0).toNatClampNeg) 0).toNatClampNeg)) (i := 0) (v := R.1 (7, 0, (R.1 (8, 0, (R.1 (10, 0, (R.1 (13, a.toNatClampNeg, b.toNatClampNeg) 0).toNatClampNeg) 0).toNatClampNeg) 0).toNatClampNeg) 0) o dX16_trace_316 (gl_27 (gix_lt (Nat.le_trans (hBR 1 0 (by decide)) (by decide)) (hI.2.2.2.2.1 _ (gix_lt (Nat.le_trans (hBR 2 0 (by decide)) (by decide)) (hI.2.2.2.2.2.1 _ (gix_lt (Nat.le_trans (hBR 4 0 (by decide)) (by decide)) (hI.2.2.2.2.2.2.2.1 a.toNatClampNeg b.toNatClampNeg (gix_lt (Nat.le_trans (hBR 5 0 (by decide)) (by decide)) b1) (gix_lt (Nat.le_trans (hBR 7 _ (by decide)) (by decide)) b3)).1)).1)).1)) rfl (by unfold vp_in; decide) rfl ?_
        exact y_iret (pc := 317) o dX16_trace_317 rfl (vp_nar_int _) (by decide) (by decide) (fun h hp => gP_mk (by simp +decide only [F_trace, b1, b3, c6, gtc0, gtc1, gtc2, gtc3, gtc4, not_true_eq_false, not_false_eq_true, if_true, if_false, or_true, true_or, or_false, false_or, and_true, true_and, and_false, false_and, or_self, and_self, eq_self, Bool.false_eq_true, ne_eq, reduceIte]) rfl rfl hp)
      · refine y_iconst (pc := 66) (x := 0) o dX16_trace_66 (by decide) ?_
        refine y_iconst (pc := 67) (x := 2) o dX16_trace_67 (by decide) ?_
        refine z_callV (pc := 68) (k := 0) (n := 0) (k' := 0) (n' := 0) o (b := ad (20, 0, 0)) (As := [.int (0), .int (2)]) (rest := []) (kFailsF hR h5 2) ln_X16_74 dX16_trace_68 (z_rc (ci := 20) (K := (20, 0, 0)) rfl (gl_20 hR) rfl) rfl rfl (Nat.le_of_ble_eq_true rfl) ⟨by decide, by decide⟩ ⟨rfl, rfl⟩ ⟨by decide, by decide⟩ rfl gq_nox2 ?_
        refine y_if_eq (pc := 71) (tgt := 76) o dX16_trace_71 rfl (fun (b16 : 0 = 0) => ?_) (fun b16 => absurd b16 (by rw [b4]; decide))
        refine y_aload_n (pc := 76) o dX16_trace_76 rfl ?_
        refine z_get (pc := 77) (K := (20, 0, 0)) (v := .ref (ad (24, 5, 0))) o fl_X16_60 dX16_trace_77 (gl_20 hR) rfl rfl ?_
        refine y_iload_n (pc := 80) o dX16_trace_80 rfl ?_
        refine z_callF (pc := 81) (k := 0) (n := 0) (k' := 0) (n' := 0) (ci := 3) o (b := ad (24, 5, 0)) (As := [.int (a)]) (rest := []) (getR (l := 5) (g := 0) (gl_24_5 hR) (hBR 5 0 (by decide)) b1) rfl lf_X16_114 dX16_trace_81 (fun h hr => ⟨_, ghdr_R (R := R) (gl_24_5 hR) hr⟩) rfl rfl (Nat.le_of_ble_eq_true rfl) ⟨by decide, by decide⟩ ⟨rfl, rfl⟩ ⟨by decide, by decide⟩ ?_
        refine z_cast (pc := 86) (ci := 17) (K := (31, 0, a.toNatClampNeg)) o rfl qw_1684 dX16_trace_86 (gl_31 (gix_lt (Nat.le_trans (hBR 5 0 (by decide)) (by decide)) b1)) rfl ?_
        refine z_get (pc := 89) (K := (31, 0, a.toNatClampNeg)) (v := .ref (ad (24, 7, a.toNatClampNeg))) o fl_X16_294 dX16_trace_89 (gl_31 (gix_lt (Nat.le_trans (hBR 5 0 (by decide)) (by decide)) b1)) rfl rfl ?_
        refine y_iload_n (pc := 92) o dX16_trace_92 rfl ?_
        refine z_callF (pc := 93) (k := 0) (n := 0) (k' := 0) (n' := 0) (ci := 3) o (b := ad (24, 7, a.toNatClampNeg)) (As := [.int (b)]) (rest := []) (getR (l := 7) (g := a.toNatClampNeg) (gl_24_7 hR (gix_lt (Nat.le_trans (hBR 5 0 (by decide)) (by decide)) b1)) (hBR 7 a.toNatClampNeg (by decide)) b3) rfl lf_X16_114 dX16_trace_93 (fun h hr => ⟨_, ghdr_R (R := R) (gl_24_7 hR (gix_lt (Nat.le_trans (hBR 5 0 (by decide)) (by decide)) b1)) hr⟩) rfl rfl (Nat.le_of_ble_eq_true rfl) ⟨by decide, by decide⟩ ⟨rfl, rfl⟩ ⟨by decide, by decide⟩ ?_
        refine z_castI (pc := 98) (K := (33, a.toNatClampNeg, b.toNatClampNeg)) (N := 3) o qw_1435 dX16_trace_98 (gl_33 (gix_lt (Nat.le_trans (hBR 7 a.toNatClampNeg (by decide)) (by decide)) b3)) rfl ?_
        refine y_astore (pc := 101) (i := 4) (lv' := [(4, .ref (ad (33, a.toNatClampNeg, b.toNatClampNeg))), (0, .ref (ad (20, 0, 0))), (1, .int (a)), (2, .int (b)), (3, .int (c))]) o dX16_trace_101 (by decide) rfl ?_
        refine y_aload_n (pc := 103) o dX16_trace_103 rfl ?_
        refine z_get (pc := 104) (K := (20, 0, 0)) (v := .ref (ad (24, 4, 0))) o fl_X16_57 dX16_trace_104 (gl_20 hR) rfl rfl ?_
        refine y_aload (pc := 107) o dX16_trace_107 rfl ?_
        refine y_iconst (pc := 109) (x := 0) o dX16_trace_109 (by decide) ?_
        refine z_iald (pc := 110) (K := (33, a.toNatClampNeg, b.toNatClampNeg)) (i := 0) (v := R.1 (13, a.toNatClampNeg, b.toNatClampNeg) 0) o dX16_trace_110 (gl_33 (gix_lt (Nat.le_trans (hBR 7 a.toNatClampNeg (by decide)) (by decide)) b3)) rfl (by unfold vp_in; decide) rfl ?_
        refine z_callF (pc := 111) (k := 0) (n := 0) (k' := 0) (n' := 0) (ci := 3) o (b := ad (24, 4, 0)) (As := [.int (R.1 (13, a.toNatClampNeg, b.toNatClampNeg) 0)]) (rest := []) (getR (l := 4) (g := 0) (gl_24_4 hR) (hBR 4 0 (by decide)) (hI.2.2.2.2.2.2.2.1 a.toNatClampNeg b.toNatClampNeg (gix_lt (Nat.le_trans (hBR 5 0 (by decide)) (by decide)) b1) (gix_lt (Nat.le_trans (hBR 7 _ (by decide)) (by decide)) b3)).1) rfl lf_X16_114 dX16_trace_111 (fun h hr => ⟨_, ghdr_R (R := R) (gl_24_4 hR) hr⟩) rfl rfl (Nat.le_of_ble_eq_true rfl) ⟨by decide, by decide⟩ ⟨rfl, rfl⟩ ⟨by decide, by decide⟩ ?_
        refine z_cast (pc := 116) (ci := 18) (K := (30, 0, (R.1 (13, a.toNatClampNeg, b.toNatClampNeg) 0).toNatClampNeg)) o rfl qw_1601 dX16_trace_116 (gl_30 (gix_lt (Nat.le_trans (hBR 4 0 (by decide)) (by decide)) (hI.2.2.2.2.2.2.2.1 a.toNatClampNeg b.toNatClampNeg (gix_lt (Nat.le_trans (hBR 5 0 (by decide)) (by decide)) b1) (gix_lt (Nat.le_trans (hBR 7 _ (by decide)) (by decide)) b3)).1)) rfl ?_
        refine y_astore (pc := 119) (i := 5) (lv' := [(5, .ref (ad (30, 0, (R.1 (13, a.toNatClampNeg, b.toNatClampNeg) 0).toNatClampNeg))), (4, .ref (ad (33, a.toNatClampNeg, b.toNatClampNeg))), (0, .ref (ad (20, 0, 0))), (1, .int (a)), (2, .int (b)), (3, .int (c))]) o dX16_trace_119 (by decide) rfl ?_
        refine y_aload_n (pc := 121) o dX16_trace_121 rfl ?_
        refine z_get (pc := 122) (K := (20, 0, 0)) (v := .ref (ad (24, 2, 0))) o fl_X16_51 dX16_trace_122 (gl_20 hR) rfl rfl ?_
        refine y_aload (pc := 125) o dX16_trace_125 rfl ?_
        refine z_get (pc := 127) (K := (30, 0, (R.1 (13, a.toNatClampNeg, b.toNatClampNeg) 0).toNatClampNeg)) (v := .int (R.1 (10, 0, (R.1 (13, a.toNatClampNeg, b.toNatClampNeg) 0).toNatClampNeg) 0)) o fl_X16_240 dX16_trace_127 (gl_30 (gix_lt (Nat.le_trans (hBR 4 0 (by decide)) (by decide)) (hI.2.2.2.2.2.2.2.1 a.toNatClampNeg b.toNatClampNeg (gix_lt (Nat.le_trans (hBR 5 0 (by decide)) (by decide)) b1) (gix_lt (Nat.le_trans (hBR 7 _ (by decide)) (by decide)) b3)).1)) rfl rfl ?_
        refine z_callF (pc := 130) (k := 0) (n := 0) (k' := 0) (n' := 0) (ci := 3) o (b := ad (24, 2, 0)) (As := [.int (R.1 (10, 0, (R.1 (13, a.toNatClampNeg, b.toNatClampNeg) 0).toNatClampNeg) 0)]) (rest := []) (getR (l := 2) (g := 0) (gl_24_2 hR) (hBR 2 0 (by decide)) (hI.2.2.2.2.2.1 _ (gix_lt (Nat.le_trans (hBR 4 0 (by decide)) (by decide)) (hI.2.2.2.2.2.2.2.1 a.toNatClampNeg b.toNatClampNeg (gix_lt (Nat.le_trans (hBR 5 0 (by decide)) (by decide)) b1) (gix_lt (Nat.le_trans (hBR 7 _ (by decide)) (by decide)) b3)).1)).1) rfl lf_X16_114 dX16_trace_130 (fun h hr => ⟨_, ghdr_R (R := R) (gl_24_2 hR) hr⟩) rfl rfl (Nat.le_of_ble_eq_true rfl) ⟨by decide, by decide⟩ ⟨rfl, rfl⟩ ⟨by decide, by decide⟩ ?_
        refine z_cast (pc := 135) (ci := 16) (K := (28, 0, (R.1 (10, 0, (R.1 (13, a.toNatClampNeg, b.toNatClampNeg) 0).toNatClampNeg) 0).toNatClampNeg)) o rfl qw_1452 dX16_trace_135 (gl_28 (gix_lt (Nat.le_trans (hBR 2 0 (by decide)) (by decide)) (hI.2.2.2.2.2.1 _ (gix_lt (Nat.le_trans (hBR 4 0 (by decide)) (by decide)) (hI.2.2.2.2.2.2.2.1 a.toNatClampNeg b.toNatClampNeg (gix_lt (Nat.le_trans (hBR 5 0 (by decide)) (by decide)) b1) (gix_lt (Nat.le_trans (hBR 7 _ (by decide)) (by decide)) b3)).1)).1)) rfl ?_
        refine y_astore (pc := 138) (i := 6) (lv' := [(6, .ref (ad (28, 0, (R.1 (10, 0, (R.1 (13, a.toNatClampNeg, b.toNatClampNeg) 0).toNatClampNeg) 0).toNatClampNeg))), (5, .ref (ad (30, 0, (R.1 (13, a.toNatClampNeg, b.toNatClampNeg) 0).toNatClampNeg))), (4, .ref (ad (33, a.toNatClampNeg, b.toNatClampNeg))), (0, .ref (ad (20, 0, 0))), (1, .int (a)), (2, .int (b)), (3, .int (c))]) o dX16_trace_138 (by decide) rfl ?_
        refine y_aload_n (pc := 140) o dX16_trace_140 rfl ?_
        refine z_get (pc := 141) (K := (20, 0, 0)) (v := .ref (ad (24, 1, 0))) o fl_X16_42 dX16_trace_141 (gl_20 hR) rfl rfl ?_
        refine y_aload (pc := 144) o dX16_trace_144 rfl ?_
        refine z_get (pc := 146) (K := (28, 0, (R.1 (10, 0, (R.1 (13, a.toNatClampNeg, b.toNatClampNeg) 0).toNatClampNeg) 0).toNatClampNeg)) (v := .int (R.1 (8, 0, (R.1 (10, 0, (R.1 (13, a.toNatClampNeg, b.toNatClampNeg) 0).toNatClampNeg) 0).toNatClampNeg) 0)) o fl_X16_135 dX16_trace_146 (gl_28 (gix_lt (Nat.le_trans (hBR 2 0 (by decide)) (by decide)) (hI.2.2.2.2.2.1 _ (gix_lt (Nat.le_trans (hBR 4 0 (by decide)) (by decide)) (hI.2.2.2.2.2.2.2.1 a.toNatClampNeg b.toNatClampNeg (gix_lt (Nat.le_trans (hBR 5 0 (by decide)) (by decide)) b1) (gix_lt (Nat.le_trans (hBR 7 _ (by decide)) (by decide)) b3)).1)).1)) rfl rfl ?_
        refine z_callF (pc := 149) (k := 0) (n := 0) (k' := 0) (n' := 0) (ci := 3) o (b := ad (24, 1, 0)) (As := [.int (R.1 (8, 0, (R.1 (10, 0, (R.1 (13, a.toNatClampNeg, b.toNatClampNeg) 0).toNatClampNeg) 0).toNatClampNeg) 0)]) (rest := []) (getR (l := 1) (g := 0) (gl_24_1 hR) (hBR 1 0 (by decide)) (hI.2.2.2.2.1 _ (gix_lt (Nat.le_trans (hBR 2 0 (by decide)) (by decide)) (hI.2.2.2.2.2.1 _ (gix_lt (Nat.le_trans (hBR 4 0 (by decide)) (by decide)) (hI.2.2.2.2.2.2.2.1 a.toNatClampNeg b.toNatClampNeg (gix_lt (Nat.le_trans (hBR 5 0 (by decide)) (by decide)) b1) (gix_lt (Nat.le_trans (hBR 7 _ (by decide)) (by decide)) b3)).1)).1)).1) rfl lf_X16_114 dX16_trace_149 (fun h hr => ⟨_, ghdr_R (R := R) (gl_24_1 hR) hr⟩) rfl rfl (Nat.le_of_ble_eq_true rfl) ⟨by decide, by decide⟩ ⟨rfl, rfl⟩ ⟨by decide, by decide⟩ ?_
        refine z_castI (pc := 154) (K := (27, 0, (R.1 (8, 0, (R.1 (10, 0, (R.1 (13, a.toNatClampNeg, b.toNatClampNeg) 0).toNatClampNeg) 0).toNatClampNeg) 0).toNatClampNeg)) (N := 5) o qw_1435 dX16_trace_154 (gl_27 (gix_lt (Nat.le_trans (hBR 1 0 (by decide)) (by decide)) (hI.2.2.2.2.1 _ (gix_lt (Nat.le_trans (hBR 2 0 (by decide)) (by decide)) (hI.2.2.2.2.2.1 _ (gix_lt (Nat.le_trans (hBR 4 0 (by decide)) (by decide)) (hI.2.2.2.2.2.2.2.1 a.toNatClampNeg b.toNatClampNeg (gix_lt (Nat.le_trans (hBR 5 0 (by decide)) (by decide)) b1) (gix_lt (Nat.le_trans (hBR 7 _ (by decide)) (by decide)) b3)).1)).1)).1)) rfl ?_
        refine y_astore (pc := 157) (i := 7) (lv' := [(7, .ref (ad (27, 0, (R.1 (8, 0, (R.1 (10, 0, (R.1 (13, a.toNatClampNeg, b.toNatClampNeg) 0).toNatClampNeg) 0).toNatClampNeg) 0).toNatClampNeg))), (6, .ref (ad (28, 0, (R.1 (10, 0, (R.1 (13, a.toNatClampNeg, b.toNatClampNeg) 0).toNatClampNeg) 0).toNatClampNeg))), (5, .ref (ad (30, 0, (R.1 (13, a.toNatClampNeg, b.toNatClampNeg) 0).toNatClampNeg))), (4, .ref (ad (33, a.toNatClampNeg, b.toNatClampNeg))), (0, .ref (ad (20, 0, 0))), (1, .int (a)), (2, .int (b)), (3, .int (c))]) o dX16_trace_157 (by decide) rfl ?_
        refine y_iload_n (pc := 159) o dX16_trace_159 rfl ?_
        refine z_tableD (pc := 160) (tgt := 318) o [98, 102, 103, 104, 107, 110, 114, 115, 120] dX16_trace_160 (by decide) (by decide) (by rw [c6]; decide) rfl ?_
        refine y_aload (pc := 318) o dX16_trace_318 rfl ?_
        refine y_iconst (pc := 320) (x := 1) o dX16_trace_320 (by decide) ?_
        refine z_iald (pc := 321) (K := (27, 0, (R.1 (8, 0, (R.1 (10, 0, (R.1 (13, a.toNatClampNeg, b.toNatClampNeg) 0).toNatClampNeg) 0).toNatClampNeg) 0).toNatClampNeg)) (i := 1) (v := R.1 (7, 0, (R.1 (8, 0, (R.1 (10, 0, (R.1 (13, a.toNatClampNeg, b.toNatClampNeg) 0).toNatClampNeg) 0).toNatClampNeg) 0).toNatClampNeg) 1) o dX16_trace_321 (gl_27 (gix_lt (Nat.le_trans (hBR 1 0 (by decide)) (by decide)) (hI.2.2.2.2.1 _ (gix_lt (Nat.le_trans (hBR 2 0 (by decide)) (by decide)) (hI.2.2.2.2.2.1 _ (gix_lt (Nat.le_trans (hBR 4 0 (by decide)) (by decide)) (hI.2.2.2.2.2.2.2.1 a.toNatClampNeg b.toNatClampNeg (gix_lt (Nat.le_trans (hBR 5 0 (by decide)) (by decide)) b1) (gix_lt (Nat.le_trans (hBR 7 _ (by decide)) (by decide)) b3)).1)).1)).1)) rfl (by unfold vp_in; decide) rfl ?_
        exact y_iret (pc := 322) o dX16_trace_322 rfl (vp_nar_int _) (by decide) (by decide) (fun h hp => gP_mk (by simp +decide only [F_trace, b1, b3, c6, gtc0, gtc1, gtc2, gtc3, gtc4, not_true_eq_false, not_false_eq_true, if_true, if_false, or_true, true_or, or_false, false_or, and_true, true_and, and_false, false_and, or_self, and_self, eq_self, Bool.false_eq_true, ne_eq, reduceIte]) rfl rfl hp)
    refine y_iconst (pc := 62) (x := 1) o dX16_trace_62 (by decide) ?_
    refine y_goto (pc := 63) (tgt := 67) o dX16_trace_63 rfl ?_
    refine y_iconst (pc := 67) (x := 2) o dX16_trace_67 (by decide) ?_
    refine z_callV (pc := 68) (k := 0) (n := 0) (k' := 0) (n' := 0) o (b := ad (20, 0, 0)) (As := [.int (1), .int (2)]) (rest := []) (kFailsT hR h5 2 (by decide)) ln_X16_74 dX16_trace_68 (z_rc (ci := 20) (K := (20, 0, 0)) rfl (gl_20 hR) rfl) rfl rfl (Nat.le_of_ble_eq_true rfl) ⟨by decide, by decide⟩ ⟨rfl, rfl⟩ ⟨by decide, by decide⟩ rfl gq_nox2 ?_
    refine y_if_eq (pc := 71) (tgt := 76) o dX16_trace_71 rfl (fun b17 => absurd b17 (by decide)) (fun (b17 : ¬ 1 = 0) => ?_)
    refine y_iconst (pc := 74) (x := -1) o dX16_trace_74 (by decide) ?_
    exact y_iret (pc := 75) o dX16_trace_75 rfl (vp_nar_int _) (by decide) (by decide) (fun h hp => gP_thr (k := 2) (by simp +decide only [F_trace, b1, b3, (gfind_mem (l := gq_sbyt.getD 6 []) (j := 0) (by decide)).mp b5 114 (by decide), (gfind_mem (l := gq_sbyt.getD 6 []) (j := 0) (by decide)).mp b5 110 (by decide), (gfind_mem (l := gq_sbyt.getD 6 []) (j := 0) (by decide)).mp b5 120 (by decide), (gfind_mem (l := gq_sbyt.getD 6 []) (j := 0) (by decide)).mp b5 98 (by decide), (gfind_mem (l := gq_sbyt.getD 6 []) (j := 0) (by decide)).mp b5 102 (by decide), (gfind_mem (l := gq_sbyt.getD 6 []) (j := 0) (by decide)).mp b5 107 (by decide), (gfind_mem (l := gq_sbyt.getD 6 []) (j := 0) (by decide)).mp b5 115 (by decide), (gfind_mem (l := gq_sbyt.getD 6 []) (j := 0) (by decide)).mp b5 104 (by decide), (gfind_mem (l := gq_sbyt.getD 6 []) (j := 0) (by decide)).mp b5 103 (by decide), (gfind_mem (l := gq_sbyt.getD 6 []) (j := 0) (by decide)).mp b5 99 (by decide), gtc0, gtc1, gtc2, gtc3, gtc4, not_true_eq_false, not_false_eq_true, if_true, if_false, or_true, true_or, or_false, false_or, and_true, true_and, and_false, false_and, or_self, and_self, eq_self, Bool.false_eq_true, ne_eq, reduceIte]) (by decide) hp)
  refine y_iconst (pc := 39) (x := 1) o dX16_trace_39 (by decide) ?_
  refine y_goto (pc := 40) (tgt := 44) o dX16_trace_40 rfl ?_
  refine y_iconst (pc := 44) (x := 1) o dX16_trace_44 (by decide) ?_
  refine z_callV (pc := 45) (k := 0) (n := 0) (k' := 0) (n' := 0) o (b := ad (20, 0, 0)) (As := [.int (1), .int (1)]) (rest := []) (kFailsT hR h5 1 (by decide)) ln_X16_74 dX16_trace_45 (z_rc (ci := 20) (K := (20, 0, 0)) rfl (gl_20 hR) rfl) rfl rfl (Nat.le_of_ble_eq_true rfl) ⟨by decide, by decide⟩ ⟨rfl, rfl⟩ ⟨by decide, by decide⟩ rfl gq_nox2 ?_
  refine y_if_ne (pc := 48) (tgt := 74) o dX16_trace_48 rfl (fun (b18 : ¬ 1 = 0) => ?_) (fun b18 => absurd b18 (by decide))
  refine y_iconst (pc := 74) (x := -1) o dX16_trace_74 (by decide) ?_
  exact y_iret (pc := 75) o dX16_trace_75 rfl (vp_nar_int _) (by decide) (by decide) (fun h hp => gP_thr (k := 1) (by simp +decide only [F_trace, b1, b3, gtc0, gtc1, gtc2, gtc3, gtc4, not_true_eq_false, not_false_eq_true, if_true, if_false, or_true, true_or, or_false, false_or, and_true, true_and, and_false, false_and, or_self, and_self, eq_self, Bool.false_eq_true, ne_eq, reduceIte]) (by decide) hp)

theorem r_missing {κ : gq_K} {ad : gKey → Nat} {C Rp R : gG} {T : List (Nat × va_E)} {n : Nat} (hb : gup Rp (0, 0, 0) 5 0 = R) (hI : gI n R) (hn : n ≤ 512) : gq_C κ mX16_missing [.ref (ad (20, 0, 0))] (gR κ ad (C, Rp) T) (gP κ ad C T (F_const R 0)) (gq_no) := by
  refine gq_enter (by decide +kernel) rfl (Nat.le_of_ble_eq_true rfl) rfl (fun f o => ?_)
  have hR := hI.fix
  have hBR := hI.cnt
  have hRp : gfix Rp.2 := by rw [← hb] at hR; exact hR
  have h5 : R.1 (0, 0, 0) 5 = 0 := by rw [← hb]; exact gup_v _ _ _ _
  refine y_aload_n (pc := 0) o dX16_missing_0 rfl ?_
  refine z_callVv (pc := 1) (k := 0) (n := 0) (k' := 0) (n' := 0) o (b := ad (20, 0, 0)) (As := []) (rest := []) (kBegins hRp) ln_X16_69 dX16_missing_1 (z_rc (ci := 20) (K := (20, 0, 0)) rfl (gl_20 hRp) rfl) rfl rfl (Nat.le_of_ble_eq_true rfl) ⟨by decide, by decide⟩ ⟨rfl, rfl⟩ ⟨by decide, by decide⟩ rfl gq_nox2 ?_
  rw [hb]
  refine y_iconst (pc := 4) (x := 0) o dX16_missing_4 (by decide) ?_
  exact y_iret (pc := 5) o dX16_missing_5 rfl (vp_nar_int _) (by decide) (by decide) (fun h hp => gP_mk (by simp +decide only [F_const, gtc0, gtc1, gtc2, gtc3, gtc4, not_true_eq_false, not_false_eq_true, if_true, if_false, or_true, true_or, or_false, false_or, and_true, true_and, and_false, false_and, or_self, and_self, eq_self, Bool.false_eq_true, ne_eq, reduceIte]) rfl rfl hp)

theorem r_isSound {κ : gq_K} {ad : gKey → Nat} {C Rp R : gG} {T : List (Nat × va_E)} {n : Nat} (hb : gup Rp (0, 0, 0) 5 0 = R) (hI : gI n R) (hn : n ≤ 512) : gq_C κ mX16_isSound [.ref (ad (20, 0, 0))] (gR κ ad (C, Rp) T) (gP κ ad C T (F_const R 1)) (gq_no) := by
  refine gq_enter (by decide +kernel) rfl (Nat.le_of_ble_eq_true rfl) rfl (fun f o => ?_)
  have hR := hI.fix
  have hBR := hI.cnt
  have hRp : gfix Rp.2 := by rw [← hb] at hR; exact hR
  have h5 : R.1 (0, 0, 0) 5 = 0 := by rw [← hb]; exact gup_v _ _ _ _
  refine y_aload_n (pc := 0) o dX16_isSound_0 rfl ?_
  refine z_callVv (pc := 1) (k := 0) (n := 0) (k' := 0) (n' := 0) o (b := ad (20, 0, 0)) (As := []) (rest := []) (kBegins hRp) ln_X16_69 dX16_isSound_1 (z_rc (ci := 20) (K := (20, 0, 0)) rfl (gl_20 hRp) rfl) rfl rfl (Nat.le_of_ble_eq_true rfl) ⟨by decide, by decide⟩ ⟨rfl, rfl⟩ ⟨by decide, by decide⟩ rfl gq_nox2 ?_
  rw [hb]
  refine y_iconst (pc := 4) (x := 1) o dX16_isSound_4 (by decide) ?_
  exact y_iret (pc := 5) o dX16_isSound_5 rfl rfl (by decide) (by decide) (fun h hp => gP_mk (by simp +decide only [F_const, gtc0, gtc1, gtc2, gtc3, gtc4, not_true_eq_false, not_false_eq_true, if_true, if_false, or_true, true_or, or_false, false_or, and_true, true_and, and_false, false_and, or_self, and_self, eq_self, Bool.false_eq_true, ne_eq, reduceIte]) rfl rfl hp)

end Z30
