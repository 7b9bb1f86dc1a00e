
section Z34
theorem gper_n6 {c : Int32} (h : c = 54) : ¬ gper c < 1 := by rw [gper_6 h]; decide
theorem gper_n5 {c : Int32} (h : c = 48) : ¬ gper c < 1 := by rw [gper_5 h]; decide
theorem gper_n7 {c : Int32} (h : c = 51) : ¬ gper c < 1 := by rw [gper_7 h]; decide
theorem gper_l {c : Int32} (h1 : ¬ c = 48) (h2 : ¬ c = 51) (h3 : ¬ c = 54) : gper c < 1 := by rw [gper_0 h1 h2 h3]; decide
theorem r_thrown {κ : gq_K} {ad : gKey → Nat} {C R : gG} {T : List (Nat × va_E)} (hR : gfix R.2) : gq_C κ mX16_thrown [.ref (ad (20, 0, 0))] (gR κ ad (C, R) T) (fun v9 g => v9 = some (.int (R.1 (0, 0, 0) 5)) ∧ gR κ ad (C, R) T g) (gq_no) := by
  refine gq_enter (by decide +kernel) rfl (Nat.le_of_ble_eq_true rfl) rfl (fun f o => ?_)
  refine y_aload_n (pc := 0) o dX16_thrown_0 rfl ?_
  refine z_get (pc := 1) (K := (20, 0, 0)) (v := .int (R.1 (0, 0, 0) 5)) o fl_X16_1 dX16_thrown_1 (gl_20 hR) rfl rfl ?_
  exact y_iret (pc := 4) o dX16_thrown_4 rfl (vp_nar_int _) (by decide) (by decide) (fun h hp => ⟨rfl, hp⟩)

theorem r_lay {κ : gq_K} {ad : gKey → Nat} {C Rp R : gG} {T : List (Nat × va_E)} {n : Nat} (hb : gup Rp (0, 0, 0) 5 0 = R) (hI : gI n R) (hn : n ≤ 512) (a : Int32) (b : Int32) (c : Int32) (d : Int32) (e : Int32) : gq_C κ mX16_lay [.ref (ad (20, 0, 0)), .int (a), .int (b), .int (c), .int (d), .int (e)] (gR κ ad (C, Rp) T) (gP κ ad C T (F_lay R a b c d e)) (gq_no) := by
  refine gq_enter (by decide +kernel) rfl (Nat.le_of_ble_eq_true rfl) rfl (fun f o => ?_)
  have hR := hI.fix
  have hBR := hI.cnt
  have hRp : gfix Rp.2 := by rw [← hb] at hR; exact hR
  have h5 : R.1 (0, 0, 0) 5 = 0 := by rw [← hb]; exact gup_v _ _ _ _
  refine y_aload_n (pc := 0) o dX16_lay_0 rfl ?_
  refine z_callVv (pc := 1) (k := 0) (n := 0) (k' := 0) (n' := 0) o (b := ad (20, 0, 0)) (As := []) (rest := []) (kBegins hRp) ln_X16_69 dX16_lay_1 (z_rc (ci := 20) (K := (20, 0, 0)) rfl (gl_20 hRp) rfl) rfl rfl (Nat.le_of_ble_eq_true rfl) ⟨by decide, by decide⟩ ⟨rfl, rfl⟩ ⟨by decide, by decide⟩ rfl gq_nox2 ?_
  rw [hb]
  refine y_iload_n (pc := 4) o dX16_lay_4 rfl ?_
  refine y_bipush (pc := 5) (x := 54) o dX16_lay_5 (by decide) ?_
  refine y_icmp_ne (pc := 7) (tgt := 15) o dX16_lay_7 rfl (fun (b1 : ¬ c = 54) => ?_) (fun (b1 : c = 54) => ?_)
  · refine y_iload_n (pc := 15) o dX16_lay_15 rfl ?_
    refine y_bipush (pc := 16) (x := 48) o dX16_lay_16 (by decide) ?_
    refine y_icmp_ne (pc := 18) (tgt := 25) o dX16_lay_18 rfl (fun (b2 : ¬ c = 48) => ?_) (fun (b2 : c = 48) => ?_)
    · refine y_bipush (pc := 25) (x := 7) o dX16_lay_25 (by decide) ?_
      refine y_istore (pc := 27) (i := 6) (lv' := [(6, .int (7)), (0, .ref (ad (20, 0, 0))), (1, .int (a)), (2, .int (b)), (3, .int (c)), (4, .int (d)), (5, .int (e))]) o dX16_lay_27 (by decide) rfl ?_
      refine y_aload_n (pc := 29) o dX16_lay_29 rfl ?_
      refine y_aload_n (pc := 30) o dX16_lay_30 rfl ?_
      refine z_get (pc := 31) (K := (20, 0, 0)) (v := .ref (ad (24, 2, 0))) o fl_X16_51 dX16_lay_31 (gl_20 hR) rfl rfl ?_
      refine y_iload_n (pc := 34) o dX16_lay_34 rfl ?_
      refine z_callS (pc := 35) (k := 0) (n := 0) (k' := 0) (n' := 0) o (As := [.ref (ad (24, 2, 0)), .int (a)]) (rest := [.ref (ad (20, 0, 0))]) (kIsOf (l := 2) (g := 0) (gl_24_2 hR) hBR a) ln_X16_97 dX16_lay_35 rfl rfl (Nat.le_of_ble_eq_true rfl) ⟨by decide, by decide⟩ ⟨rfl, rfl⟩ ⟨by decide, by decide⟩ rfl gq_nox2 ?_
      refine z_beq (pc := 38) (tgt := 52) o dX16_lay_38 rfl (fun (b3 : ¬ (gix (R.2 8 0) a = true)) => ?_) (fun (b3 : gix (R.2 8 0) a = true) => ?_)
      · refine y_iconst (pc := 52) (x := 1) o dX16_lay_52 (by decide) ?_
        refine y_goto (pc := 53) (tgt := 57) o dX16_lay_53 rfl ?_
        refine y_iconst (pc := 57) (x := 1) o dX16_lay_57 (by decide) ?_
        refine z_callV (pc := 58) (k := 0) (n := 0) (k' := 0) (n' := 0) o (b := ad (20, 0, 0)) (As := [.int (1), .int (1)]) (rest := []) (kFailsT hR h5 1 (by decide)) ln_X16_74 dX16_lay_58 (z_rc (ci := 20) (K := (20, 0, 0)) rfl (gl_20 hR) rfl) rfl rfl (Nat.le_of_ble_eq_true rfl) ⟨by decide, by decide⟩ ⟨rfl, rfl⟩ ⟨by decide, by decide⟩ rfl gq_nox2 ?_
        refine y_if_ne (pc := 61) (tgt := 112) o dX16_lay_61 rfl (fun (b4 : ¬ 1 = 0) => ?_) (fun b4 => absurd b4 (by decide))
        refine y_iconst (pc := 112) (x := -1) o dX16_lay_112 (by decide) ?_
        exact y_iret (pc := 113) o dX16_lay_113 rfl (vp_nar_int _) (by decide) (by decide) (fun h hp => gP_thr (k := 1) (by simp +decide only [F_lay, b3, gtc0, gtc1, gtc2, gtc3, gtc4, not_true_eq_false, not_false_eq_true, if_true, if_false, or_true, true_or, or_false, false_or, and_true, true_and, and_false, false_and, or_self, and_self, eq_self, Bool.false_eq_true, ne_eq, reduceIte]) (by decide) hp)
      refine y_aload_n (pc := 41) o dX16_lay_41 rfl ?_
      refine z_get (pc := 42) (K := (20, 0, 0)) (v := .ref (ad (24, 3, 0))) o fl_X16_54 dX16_lay_42 (gl_20 hR) rfl rfl ?_
      refine y_iload_n (pc := 45) o dX16_lay_45 rfl ?_
      refine z_callS (pc := 46) (k := 0) (n := 0) (k' := 0) (n' := 0) o (As := [.ref (ad (24, 3, 0)), .int (b)]) (rest := [.ref (ad (20, 0, 0))]) (kIsOf (l := 3) (g := 0) (gl_24_3 hR) hBR b) ln_X16_97 dX16_lay_46 rfl rfl (Nat.le_of_ble_eq_true rfl) ⟨by decide, by decide⟩ ⟨rfl, rfl⟩ ⟨by decide, by decide⟩ rfl gq_nox2 ?_
      refine z_bne (pc := 49) (tgt := 56) o dX16_lay_49 rfl (fun (b5 : gix (R.2 9 0) b = true) => ?_) (fun (b5 : ¬ (gix (R.2 9 0) b = true)) => ?_)
      · refine y_iconst (pc := 56) (x := 0) o dX16_lay_56 (by decide) ?_
        refine y_iconst (pc := 57) (x := 1) o dX16_lay_57 (by decide) ?_
        refine z_callV (pc := 58) (k := 0) (n := 0) (k' := 0) (n' := 0) o (b := ad (20, 0, 0)) (As := [.int (0), .int (1)]) (rest := []) (kFailsF hR h5 1) ln_X16_74 dX16_lay_58 (z_rc (ci := 20) (K := (20, 0, 0)) rfl (gl_20 hR) rfl) rfl rfl (Nat.le_of_ble_eq_true rfl) ⟨by decide, by decide⟩ ⟨rfl, rfl⟩ ⟨by decide, by decide⟩ rfl gq_nox2 ?_
        refine y_if_ne (pc := 61) (tgt := 112) o dX16_lay_61 rfl (fun b6 => absurd b6 (by decide)) (fun (b6 : 0 = 0) => ?_)
        refine y_aload_n (pc := 64) o dX16_lay_64 rfl ?_
        refine y_ldcS (pc := 65) o 4 dX16_lay_65 rfl ?_
        refine y_iload_n (pc := 67) o dX16_lay_67 rfl ?_
        refine z_callV (pc := 68) (k := 0) (n := 0) (k' := 0) (n' := 0) o (b := κ.2.2 4) (As := [.int (c)]) (rest := [.ref (ad (20, 0, 0))]) (c_indexOf 4 (by decide) c) ln_X16_83 dX16_lay_68 (gq_rs 4 (by decide)) rfl rfl (Nat.le_of_ble_eq_true rfl) ⟨by decide, by decide⟩ ⟨rfl, rfl⟩ ⟨by decide, by decide⟩ rfl gq_nox2 ?_
        refine y_if_lt (pc := 71) (tgt := 100) o dX16_lay_71 rfl (fun (b7 : (gfind (gq_sbyt.getD 4 []) 0 c) < 0) => ?_) (fun (b7 : ¬ (gfind (gq_sbyt.getD 4 []) 0 c) < 0) => ?_)
        · refine y_iconst (pc := 100) (x := 1) o dX16_lay_100 (by decide) ?_
          refine y_goto (pc := 101) (tgt := 105) o dX16_lay_101 rfl ?_
          refine y_iconst (pc := 105) (x := 2) o dX16_lay_105 (by decide) ?_
          refine z_callV (pc := 106) (k := 0) (n := 0) (k' := 0) (n' := 0) o (b := ad (20, 0, 0)) (As := [.int (1), .int (2)]) (rest := []) (kFailsT hR h5 2 (by decide)) ln_X16_74 dX16_lay_106 (z_rc (ci := 20) (K := (20, 0, 0)) rfl (gl_20 hR) rfl) rfl rfl (Nat.le_of_ble_eq_true rfl) ⟨by decide, by decide⟩ ⟨rfl, rfl⟩ ⟨by decide, by decide⟩ rfl gq_nox2 ?_
          refine y_if_eq (pc := 109) (tgt := 114) o dX16_lay_109 rfl (fun b8 => absurd b8 (by decide)) (fun (b8 : ¬ 1 = 0) => ?_)
          refine y_iconst (pc := 112) (x := -1) o dX16_lay_112 (by decide) ?_
          exact y_iret (pc := 113) o dX16_lay_113 rfl (vp_nar_int _) (by decide) (by decide) (fun h hp => gP_thr (k := 2) (by simp +decide only [F_lay, b3, b5, gper_l b2 ((gfind_mem (l := gq_sbyt.getD 4 []) (j := 0) (by decide)).mp b7 51 (by decide)) b1, gtc0, gtc1, gtc2, gtc3, gtc4, not_true_eq_false, not_false_eq_true, if_true, if_false, or_true, true_or, or_false, false_or, and_true, true_and, and_false, false_and, or_self, and_self, eq_self, Bool.false_eq_true, ne_eq, reduceIte]) (by decide) hp)
        refine y_iload (pc := 74) o dX16_lay_74 rfl ?_
        refine y_i2l (pc := 76) o dX16_lay_76 ?_
        refine y_lconst (pc := 77) (x := 1) o dX16_lay_77 (by decide) ?_
        refine y_ldc2 (pc := 78) o dX16_lay_78 qw_1266 ?_
        refine z_callS (pc := 81) (k := 0) (n := 0) (k' := 0) (n' := 0) o (As := [.long (d.toInt64), .long (1), .long (500)]) (rest := [.ref (ad (20, 0, 0))]) (kIn d 1 500) ln_X16_13 dX16_lay_81 rfl rfl (Nat.le_of_ble_eq_true rfl) ⟨by decide, by decide⟩ ⟨rfl, rfl⟩ ⟨by decide, by decide⟩ rfl gq_nox2 ?_
        refine z_beq (pc := 84) (tgt := 100) o dX16_lay_84 rfl (fun (b9 : ¬ (gin 1 d 500 = true)) => ?_) (fun (b9 : gin 1 d 500 = true) => ?_)
        · refine y_iconst (pc := 100) (x := 1) o dX16_lay_100 (by decide) ?_
          refine y_goto (pc := 101) (tgt := 105) o dX16_lay_101 rfl ?_
          refine y_iconst (pc := 105) (x := 2) o dX16_lay_105 (by decide) ?_
          refine z_callV (pc := 106) (k := 0) (n := 0) (k' := 0) (n' := 0) o (b := ad (20, 0, 0)) (As := [.int (1), .int (2)]) (rest := []) (kFailsT hR h5 2 (by decide)) ln_X16_74 dX16_lay_106 (z_rc (ci := 20) (K := (20, 0, 0)) rfl (gl_20 hR) rfl) rfl rfl (Nat.le_of_ble_eq_true rfl) ⟨by decide, by decide⟩ ⟨rfl, rfl⟩ ⟨by decide, by decide⟩ rfl gq_nox2 ?_
          refine y_if_eq (pc := 109) (tgt := 114) o dX16_lay_109 rfl (fun b10 => absurd b10 (by decide)) (fun (b10 : ¬ 1 = 0) => ?_)
          refine y_iconst (pc := 112) (x := -1) o dX16_lay_112 (by decide) ?_
          exact y_iret (pc := 113) o dX16_lay_113 rfl (vp_nar_int _) (by decide) (by decide) (fun h hp => gP_thr (k := 2) (by simp +decide only [F_lay, b3, b5, b9, gper_n7 (((gf_or4 b7).resolve_left b1).resolve_left b2), gtc0, gtc1, gtc2, gtc3, gtc4, not_true_eq_false, not_false_eq_true, if_true, if_false, or_true, true_or, or_false, false_or, and_true, true_and, and_false, false_and, or_self, and_self, eq_self, Bool.false_eq_true, ne_eq, reduceIte]) (by decide) hp)
        refine y_iload (pc := 87) o dX16_lay_87 rfl ?_
        refine y_i2l (pc := 89) o dX16_lay_89 ?_
        refine y_lconst (pc := 90) (x := 0) o dX16_lay_90 (by decide) ?_
        refine y_ldc2 (pc := 91) o dX16_lay_91 qw_1401 ?_
        refine z_callS (pc := 94) (k := 0) (n := 0) (k' := 0) (n' := 0) o (As := [.long (e.toInt64), .long (0), .long (9)]) (rest := [.ref (ad (20, 0, 0))]) (kIn e 0 9) ln_X16_13 dX16_lay_94 rfl rfl (Nat.le_of_ble_eq_true rfl) ⟨by decide, by decide⟩ ⟨rfl, rfl⟩ ⟨by decide, by decide⟩ rfl gq_nox2 ?_
        refine z_bne (pc := 97) (tgt := 104) o dX16_lay_97 rfl (fun (b11 : gin 0 e 9 = true) => ?_) (fun (b11 : ¬ (gin 0 e 9 = true)) => ?_)
        · refine y_iconst (pc := 104) (x := 0) o dX16_lay_104 (by decide) ?_
          refine y_iconst (pc := 105) (x := 2) o dX16_lay_105 (by decide) ?_
          refine z_callV (pc := 106) (k := 0) (n := 0) (k' := 0) (n' := 0) o (b := ad (20, 0, 0)) (As := [.int (0), .int (2)]) (rest := []) (kFailsF hR h5 2) ln_X16_74 dX16_lay_106 (z_rc (ci := 20) (K := (20, 0, 0)) rfl (gl_20 hR) rfl) rfl rfl (Nat.le_of_ble_eq_true rfl) ⟨by decide, by decide⟩ ⟨rfl, rfl⟩ ⟨by decide, by decide⟩ rfl gq_nox2 ?_
          refine y_if_eq (pc := 109) (tgt := 114) o dX16_lay_109 rfl (fun (b12 : 0 = 0) => ?_) (fun b12 => absurd b12 (by rw [b6]; decide))
          refine y_aload_n (pc := 114) o dX16_lay_114 rfl ?_
          refine z_get (pc := 115) (K := (20, 0, 0)) (v := .ref (ad (24, 2, 0))) o fl_X16_51 dX16_lay_115 (gl_20 hR) rfl rfl ?_
          refine y_iload_n (pc := 118) o dX16_lay_118 rfl ?_
          refine z_callF (pc := 119) (k := 0) (n := 0) (k' := 0) (n' := 0) (ci := 3) o (b := ad (24, 2, 0)) (As := [.int (a)]) (rest := []) (getR (l := 2) (g := 0) (gl_24_2 hR) (hBR 2 0 (by decide)) b3) rfl lf_X16_114 dX16_lay_119 (fun h hr => ⟨_, ghdr_R (R := R) (gl_24_2 hR) hr⟩) rfl rfl (Nat.le_of_ble_eq_true rfl) ⟨by decide, by decide⟩ ⟨rfl, rfl⟩ ⟨by decide, by decide⟩ ?_
          refine z_cast (pc := 124) (ci := 16) (K := (28, 0, a.toNatClampNeg)) o rfl qw_1452 dX16_lay_124 (gl_28 (gix_lt (Nat.le_trans (hBR 2 0 (by decide)) (by decide)) b3)) rfl ?_
          refine y_astore (pc := 127) (i := 7) (lv' := [(7, .ref (ad (28, 0, a.toNatClampNeg))), (6, .int (7)), (0, .ref (ad (20, 0, 0))), (1, .int (a)), (2, .int (b)), (3, .int (c)), (4, .int (d)), (5, .int (e))]) o dX16_lay_127 (by decide) rfl ?_
          refine y_aload_n (pc := 129) o dX16_lay_129 rfl ?_
          refine z_get (pc := 130) (K := (20, 0, 0)) (v := .ref (ad (24, 3, 0))) o fl_X16_54 dX16_lay_130 (gl_20 hR) rfl rfl ?_
          refine y_iload_n (pc := 133) o dX16_lay_133 rfl ?_
          refine z_callF (pc := 134) (k := 0) (n := 0) (k' := 0) (n' := 0) (ci := 3) o (b := ad (24, 3, 0)) (As := [.int (b)]) (rest := []) (getR (l := 3) (g := 0) (gl_24_3 hR) (hBR 3 0 (by decide)) b5) rfl lf_X16_114 dX16_lay_134 (fun h hr => ⟨_, ghdr_R (R := R) (gl_24_3 hR) hr⟩) rfl rfl (Nat.le_of_ble_eq_true rfl) ⟨by decide, by decide⟩ ⟨rfl, rfl⟩ ⟨by decide, by decide⟩ ?_
          refine z_cast (pc := 139) (ci := 19) (K := (29, 0, b.toNatClampNeg)) o rfl qw_1551 dX16_lay_139 (gl_29 (gix_lt (Nat.le_trans (hBR 3 0 (by decide)) (by decide)) b5)) rfl ?_
          refine y_astore (pc := 142) (i := 8) (lv' := [(8, .ref (ad (29, 0, b.toNatClampNeg))), (7, .ref (ad (28, 0, a.toNatClampNeg))), (6, .int (7)), (0, .ref (ad (20, 0, 0))), (1, .int (a)), (2, .int (b)), (3, .int (c)), (4, .int (d)), (5, .int (e))]) o dX16_lay_142 (by decide) rfl ?_
          refine y_iconst (pc := 144) (x := 2) o dX16_lay_144 (by decide) ?_
          refine y_aload (pc := 145) o dX16_lay_145 rfl ?_
          refine z_get (pc := 147) (K := (29, 0, b.toNatClampNeg)) (v := .int (R.1 (9, 0, b.toNatClampNeg) 4)) o fl_X16_227 dX16_lay_147 (gl_29 (gix_lt (Nat.le_trans (hBR 3 0 (by decide)) (by decide)) b5)) rfl rfl ?_
          refine y_imul (pc := 150) o dX16_lay_150 ?_
          refine y_aload (pc := 151) o dX16_lay_151 rfl ?_
          refine z_get (pc := 153) (K := (28, 0, a.toNatClampNeg)) (v := .int (R.1 (8, 0, a.toNatClampNeg) 3)) o fl_X16_141 dX16_lay_153 (gl_28 (gix_lt (Nat.le_trans (hBR 2 0 (by decide)) (by decide)) b3)) rfl rfl ?_
          refine y_isub (pc := 156) o dX16_lay_156 ?_
          refine y_mabs (pc := 157) o qw_1600 dX16_lay_157 ⟨by decide, Nat.le_of_ble_eq_true rfl⟩ (by decide) (by decide) ?_
          refine y_istore (pc := 160) (i := 9) (lv' := [(9, .int (gabs ((2 * (R.1 (9, 0, b.toNatClampNeg) 4)) - (R.1 (8, 0, a.toNatClampNeg) 3)))), (8, .ref (ad (29, 0, b.toNatClampNeg))), (7, .ref (ad (28, 0, a.toNatClampNeg))), (6, .int (7)), (0, .ref (ad (20, 0, 0))), (1, .int (a)), (2, .int (b)), (3, .int (c)), (4, .int (d)), (5, .int (e))]) o dX16_lay_160 (by decide) rfl ?_
          refine y_iconst (pc := 162) (x := 2) o dX16_lay_162 (by decide) ?_
          refine y_iload (pc := 163) o dX16_lay_163 rfl ?_
          refine y_iload (pc := 165) o dX16_lay_165 rfl ?_
          refine y_iadd (pc := 167) o dX16_lay_167 ?_
          refine y_iconst (pc := 168) (x := 1) o dX16_lay_168 (by decide) ?_
          refine y_isub (pc := 169) o dX16_lay_169 ?_
          refine y_iload (pc := 170) o dX16_lay_170 rfl ?_
          refine y_idiv (pc := 172) o dX16_lay_172 (by decide) ?_
          refine y_imul (pc := 173) o dX16_lay_173 ?_
          refine z_top (w := .int ((((d + (gper c)) - 1) / (gper c)) * 2)) (congrArg Value.int (by rw [gper_7 (((gf_or4 b7).resolve_left b1).resolve_left b2)]; exact Int32.mul_comm _ _)) ?_
          refine y_istore (pc := 174) (i := 10) (lv' := [(10, .int ((((d + (gper c)) - 1) / (gper c)) * 2)), (9, .int (gabs ((2 * (R.1 (9, 0, b.toNatClampNeg) 4)) - (R.1 (8, 0, a.toNatClampNeg) 3)))), (8, .ref (ad (29, 0, b.toNatClampNeg))), (7, .ref (ad (28, 0, a.toNatClampNeg))), (6, .int (7)), (0, .ref (ad (20, 0, 0))), (1, .int (a)), (2, .int (b)), (3, .int (c)), (4, .int (d)), (5, .int (e))]) o dX16_lay_174 (by decide) rfl ?_
          refine y_aload_n (pc := 176) o dX16_lay_176 rfl ?_
          refine y_aload (pc := 177) o dX16_lay_177 rfl ?_
          refine z_callV (pc := 179) (k := 0) (n := 0) (k' := 0) (n' := 0) o (b := ad (20, 0, 0)) (As := [.ref (ad (28, 0, a.toNatClampNeg))]) (rest := []) (kFiredR hR a.toNatClampNeg (gix_lt (Nat.le_trans (hBR 2 0 (by decide)) (by decide)) b3)) ln_X16_183 dX16_lay_179 (z_rc (ci := 20) (K := (20, 0, 0)) rfl (gl_20 hR) rfl) rfl rfl (Nat.le_of_ble_eq_true rfl) ⟨by decide, by decide⟩ ⟨rfl, rfl⟩ ⟨by decide, by decide⟩ rfl gq_nox2 ?_
          by_cases f13 : R.1 (8, 0, a.toNatClampNeg) 6 = -1
          · rw [gb_f (fun z => z.1 f13)]
            refine y_if_eq (pc := 182) (tgt := 235) o dX16_lay_182 rfl (fun (b15 : 0 = 0) => ?_) (fun b15 => absurd b15 (by rw [b6]; decide))
            refine y_iconst (pc := 235) (x := 0) o dX16_lay_235 (by decide) ?_
            refine y_istore (pc := 236) (i := 11) (lv' := [(11, .int (0)), (10, .int ((((d + (gper c)) - 1) / (gper c)) * 2)), (9, .int (gabs ((2 * (R.1 (9, 0, b.toNatClampNeg) 4)) - (R.1 (8, 0, a.toNatClampNeg) 3)))), (8, .ref (ad (29, 0, b.toNatClampNeg))), (7, .ref (ad (28, 0, a.toNatClampNeg))), (6, .int (7)), (0, .ref (ad (20, 0, 0))), (1, .int (a)), (2, .int (b)), (3, .int (c)), (4, .int (d)), (5, .int (e))]) o dX16_lay_236 (by decide) rfl ?_
            refine y_aload_n (pc := 238) o dX16_lay_238 rfl ?_
            refine y_iload (pc := 239) o dX16_lay_239 rfl ?_
            refine y_if_ne (pc := 241) (tgt := 248) o dX16_lay_241 rfl (fun b16 => absurd b16 (by rw [b6]; decide)) (fun (b16 : 0 = 0) => ?_)
            refine y_iconst (pc := 244) (x := 1) o dX16_lay_244 (by decide) ?_
            refine y_goto (pc := 245) (tgt := 249) o dX16_lay_245 rfl ?_
            refine y_iconst (pc := 249) (x := 3) o dX16_lay_249 (by decide) ?_
            refine z_callV (pc := 250) (k := 0) (n := 0) (k' := 0) (n' := 0) o (b := ad (20, 0, 0)) (As := [.int (1), .int (3)]) (rest := []) (kFailsT hR h5 3 (by decide)) ln_X16_74 dX16_lay_250 (z_rc (ci := 20) (K := (20, 0, 0)) rfl (gl_20 hR) rfl) rfl rfl (Nat.le_of_ble_eq_true rfl) ⟨by decide, by decide⟩ ⟨rfl, rfl⟩ ⟨by decide, by decide⟩ rfl gq_nox2 ?_
            refine y_if_ne (pc := 253) (tgt := 283) o dX16_lay_253 rfl (fun (b17 : ¬ 1 = 0) => ?_) (fun b17 => absurd b17 (by decide))
            refine y_iconst (pc := 283) (x := -1) o dX16_lay_283 (by decide) ?_
            exact y_iret (pc := 284) o dX16_lay_284 rfl (vp_nar_int _) (by decide) (by decide) (fun h hp => gP_thr (k := 3) (by simp +decide only [F_lay, b3, b5, b9, b11, gm1_t f13, gper_n7 (((gf_or4 b7).resolve_left b1).resolve_left b2), gtc0, gtc1, gtc2, gtc3, gtc4, not_true_eq_false, not_false_eq_true, if_true, if_false, or_true, true_or, or_false, false_or, and_true, true_and, and_false, false_and, or_self, and_self, eq_self, Bool.false_eq_true, ne_eq, reduceIte]) (by decide) hp)
          by_cases f14 : R.1 (0, 0, 0) 0 < R.1 (8, 0, a.toNatClampNeg) 4
          · rw [gb_f (fun z => z.2 f14)]
            refine y_if_eq (pc := 182) (tgt := 235) o dX16_lay_182 rfl (fun (b18 : 0 = 0) => ?_) (fun b18 => absurd b18 (by rw [b6]; decide))
            refine y_iconst (pc := 235) (x := 0) o dX16_lay_235 (by decide) ?_
            refine y_istore (pc := 236) (i := 11) (lv' := [(11, .int (0)), (10, .int ((((d + (gper c)) - 1) / (gper c)) * 2)), (9, .int (gabs ((2 * (R.1 (9, 0, b.toNatClampNeg) 4)) - (R.1 (8, 0, a.toNatClampNeg) 3)))), (8, .ref (ad (29, 0, b.toNatClampNeg))), (7, .ref (ad (28, 0, a.toNatClampNeg))), (6, .int (7)), (0, .ref (ad (20, 0, 0))), (1, .int (a)), (2, .int (b)), (3, .int (c)), (4, .int (d)), (5, .int (e))]) o dX16_lay_236 (by decide) rfl ?_
            refine y_aload_n (pc := 238) o dX16_lay_238 rfl ?_
            refine y_iload (pc := 239) o dX16_lay_239 rfl ?_
            refine y_if_ne (pc := 241) (tgt := 248) o dX16_lay_241 rfl (fun b19 => absurd b19 (by rw [b6]; decide)) (fun (b19 : 0 = 0) => ?_)
            refine y_iconst (pc := 244) (x := 1) o dX16_lay_244 (by decide) ?_
            refine y_goto (pc := 245) (tgt := 249) o dX16_lay_245 rfl ?_
            refine y_iconst (pc := 249) (x := 3) o dX16_lay_249 (by decide) ?_
            refine z_callV (pc := 250) (k := 0) (n := 0) (k' := 0) (n' := 0) o (b := ad (20, 0, 0)) (As := [.int (1), .int (3)]) (rest := []) (kFailsT hR h5 3 (by decide)) ln_X16_74 dX16_lay_250 (z_rc (ci := 20) (K := (20, 0, 0)) rfl (gl_20 hR) rfl) rfl rfl (Nat.le_of_ble_eq_true rfl) ⟨by decide, by decide⟩ ⟨rfl, rfl⟩ ⟨by decide, by decide⟩ rfl gq_nox2 ?_
            refine y_if_ne (pc := 253) (tgt := 283) o dX16_lay_253 rfl (fun (b20 : ¬ 1 = 0) => ?_) (fun b20 => absurd b20 (by decide))
            refine y_iconst (pc := 283) (x := -1) o dX16_lay_283 (by decide) ?_
            exact y_iret (pc := 284) o dX16_lay_284 rfl (vp_nar_int _) (by decide) (by decide) (fun h hp => gP_thr (k := 3) (by simp +decide only [F_lay, b3, b5, b9, b11, gm1_f (hI.2.2.2.2.1 _ (gix_lt (Nat.le_trans (hBR 2 0 (by decide)) (by decide)) b3)).2.2.1 f13, f14, gper_n7 (((gf_or4 b7).resolve_left b1).resolve_left b2), gtc0, gtc1, gtc2, gtc3, gtc4, not_true_eq_false, not_false_eq_true, if_true, if_false, or_true, true_or, or_false, false_or, and_true, true_and, and_false, false_and, or_self, and_self, eq_self, Bool.false_eq_true, ne_eq, reduceIte]) (by decide) hp)
          rw [gb_t ⟨f13, f14⟩]
          refine y_if_eq (pc := 182) (tgt := 235) o dX16_lay_182 rfl (fun b21 => absurd b21 (by decide)) (fun (b21 : ¬ 1 = 0) => ?_)
          refine y_aload_n (pc := 185) o dX16_lay_185 rfl ?_
          refine z_get (pc := 186) (K := (20, 0, 0)) (v := .int (R.1 (0, 0, 0) 0)) o fl_X16_78 dX16_lay_186 (gl_20 hR) rfl rfl ?_
          refine y_aload (pc := 189) o dX16_lay_189 rfl ?_
          refine z_get (pc := 191) (K := (29, 0, b.toNatClampNeg)) (v := .int (R.1 (9, 0, b.toNatClampNeg) 5)) o fl_X16_224 dX16_lay_191 (gl_29 (gix_lt (Nat.le_trans (hBR 3 0 (by decide)) (by decide)) b5)) rfl rfl ?_
          refine y_icmp_lt (pc := 194) (tgt := 235) o dX16_lay_194 rfl (fun (b22 : (R.1 (0, 0, 0) 0) < (R.1 (9, 0, b.toNatClampNeg) 5)) => ?_) (fun (b22 : ¬ (R.1 (0, 0, 0) 0) < (R.1 (9, 0, b.toNatClampNeg) 5)) => ?_)
          · refine y_iconst (pc := 235) (x := 0) o dX16_lay_235 (by decide) ?_
            refine y_istore (pc := 236) (i := 11) (lv' := [(11, .int (0)), (10, .int ((((d + (gper c)) - 1) / (gper c)) * 2)), (9, .int (gabs ((2 * (R.1 (9, 0, b.toNatClampNeg) 4)) - (R.1 (8, 0, a.toNatClampNeg) 3)))), (8, .ref (ad (29, 0, b.toNatClampNeg))), (7, .ref (ad (28, 0, a.toNatClampNeg))), (6, .int (7)), (0, .ref (ad (20, 0, 0))), (1, .int (a)), (2, .int (b)), (3, .int (c)), (4, .int (d)), (5, .int (e))]) o dX16_lay_236 (by decide) rfl ?_
            refine y_aload_n (pc := 238) o dX16_lay_238 rfl ?_
            refine y_iload (pc := 239) o dX16_lay_239 rfl ?_
            refine y_if_ne (pc := 241) (tgt := 248) o dX16_lay_241 rfl (fun b23 => absurd b23 (by rw [b6]; decide)) (fun (b23 : 0 = 0) => ?_)
            refine y_iconst (pc := 244) (x := 1) o dX16_lay_244 (by decide) ?_
            refine y_goto (pc := 245) (tgt := 249) o dX16_lay_245 rfl ?_
            refine y_iconst (pc := 249) (x := 3) o dX16_lay_249 (by decide) ?_
            refine z_callV (pc := 250) (k := 0) (n := 0) (k' := 0) (n' := 0) o (b := ad (20, 0, 0)) (As := [.int (1), .int (3)]) (rest := []) (kFailsT hR h5 3 (by decide)) ln_X16_74 dX16_lay_250 (z_rc (ci := 20) (K := (20, 0, 0)) rfl (gl_20 hR) rfl) rfl rfl (Nat.le_of_ble_eq_true rfl) ⟨by decide, by decide⟩ ⟨rfl, rfl⟩ ⟨by decide, by decide⟩ rfl gq_nox2 ?_
            refine y_if_ne (pc := 253) (tgt := 283) o dX16_lay_253 rfl (fun (b24 : ¬ 1 = 0) => ?_) (fun b24 => absurd b24 (by decide))
            refine y_iconst (pc := 283) (x := -1) o dX16_lay_283 (by decide) ?_
            exact y_iret (pc := 284) o dX16_lay_284 rfl (vp_nar_int _) (by decide) (by decide) (fun h hp => gP_thr (k := 3) (by simp +decide only [F_lay, b3, b5, b9, b11, gm1_f (hI.2.2.2.2.1 _ (gix_lt (Nat.le_trans (hBR 2 0 (by decide)) (by decide)) b3)).2.2.1 f13, f14, b22, gper_n7 (((gf_or4 b7).resolve_left b1).resolve_left b2), gtc0, gtc1, gtc2, gtc3, gtc4, not_true_eq_false, not_false_eq_true, if_true, if_false, or_true, true_or, or_false, false_or, and_true, true_and, and_false, false_and, or_self, and_self, eq_self, Bool.false_eq_true, ne_eq, reduceIte]) (by decide) hp)
          refine y_aload (pc := 197) o dX16_lay_197 rfl ?_
          refine z_get (pc := 199) (K := (29, 0, b.toNatClampNeg)) (v := .int (R.1 (9, 0, b.toNatClampNeg) 4)) o fl_X16_227 dX16_lay_199 (gl_29 (gix_lt (Nat.le_trans (hBR 3 0 (by decide)) (by decide)) b5)) rfl rfl ?_
          refine z_if_le (pc := 202) (tgt := 235) o dX16_lay_202 rfl (fun (b25 : ¬ 0 < (R.1 (9, 0, b.toNatClampNeg) 4)) => ?_) (fun (b25 : 0 < (R.1 (9, 0, b.toNatClampNeg) 4)) => ?_)
          · refine y_iconst (pc := 235) (x := 0) o dX16_lay_235 (by decide) ?_
            refine y_istore (pc := 236) (i := 11) (lv' := [(11, .int (0)), (10, .int ((((d + (gper c)) - 1) / (gper c)) * 2)), (9, .int (gabs ((2 * (R.1 (9, 0, b.toNatClampNeg) 4)) - (R.1 (8, 0, a.toNatClampNeg) 3)))), (8, .ref (ad (29, 0, b.toNatClampNeg))), (7, .ref (ad (28, 0, a.toNatClampNeg))), (6, .int (7)), (0, .ref (ad (20, 0, 0))), (1, .int (a)), (2, .int (b)), (3, .int (c)), (4, .int (d)), (5, .int (e))]) o dX16_lay_236 (by decide) rfl ?_
            refine y_aload_n (pc := 238) o dX16_lay_238 rfl ?_
            refine y_iload (pc := 239) o dX16_lay_239 rfl ?_
            refine y_if_ne (pc := 241) (tgt := 248) o dX16_lay_241 rfl (fun b26 => absurd b26 (by rw [b6]; decide)) (fun (b26 : 0 = 0) => ?_)
            refine y_iconst (pc := 244) (x := 1) o dX16_lay_244 (by decide) ?_
            refine y_goto (pc := 245) (tgt := 249) o dX16_lay_245 rfl ?_
            refine y_iconst (pc := 249) (x := 3) o dX16_lay_249 (by decide) ?_
            refine z_callV (pc := 250) (k := 0) (n := 0) (k' := 0) (n' := 0) o (b := ad (20, 0, 0)) (As := [.int (1), .int (3)]) (rest := []) (kFailsT hR h5 3 (by decide)) ln_X16_74 dX16_lay_250 (z_rc (ci := 20) (K := (20, 0, 0)) rfl (gl_20 hR) rfl) rfl rfl (Nat.le_of_ble_eq_true rfl) ⟨by decide, by decide⟩ ⟨rfl, rfl⟩ ⟨by decide, by decide⟩ rfl gq_nox2 ?_
            refine y_if_ne (pc := 253) (tgt := 283) o dX16_lay_253 rfl (fun (b27 : ¬ 1 = 0) => ?_) (fun b27 => absurd b27 (by decide))
            refine y_iconst (pc := 283) (x := -1) o dX16_lay_283 (by decide) ?_
            exact y_iret (pc := 284) o dX16_lay_284 rfl (vp_nar_int _) (by decide) (by decide) (fun h hp => gP_thr (k := 3) (by simp +decide only [F_lay, b3, b5, b9, b11, gm1_f (hI.2.2.2.2.1 _ (gix_lt (Nat.le_trans (hBR 2 0 (by decide)) (by decide)) b3)).2.2.1 f13, f14, b22, b25, gper_n7 (((gf_or4 b7).resolve_left b1).resolve_left b2), gtc0, gtc1, gtc2, gtc3, gtc4, not_true_eq_false, not_false_eq_true, if_true, if_false, or_true, true_or, or_false, false_or, and_true, true_and, and_false, false_and, or_self, and_self, eq_self, Bool.false_eq_true, ne_eq, reduceIte]) (by decide) hp)
          refine y_iload (pc := 205) o dX16_lay_205 rfl ?_
          refine y_iconst (pc := 207) (x := 2) o dX16_lay_207 (by decide) ?_
          refine y_icmp_gt (pc := 208) (tgt := 235) o dX16_lay_208 rfl (fun (b28 : 2 < (gabs ((2 * (R.1 (9, 0, b.toNatClampNeg) 4)) - (R.1 (8, 0, a.toNatClampNeg) 3)))) => ?_) (fun (b28 : ¬ 2 < (gabs ((2 * (R.1 (9, 0, b.toNatClampNeg) 4)) - (R.1 (8, 0, a.toNatClampNeg) 3)))) => ?_)
          · refine y_iconst (pc := 235) (x := 0) o dX16_lay_235 (by decide) ?_
            refine y_istore (pc := 236) (i := 11) (lv' := [(11, .int (0)), (10, .int ((((d + (gper c)) - 1) / (gper c)) * 2)), (9, .int (gabs ((2 * (R.1 (9, 0, b.toNatClampNeg) 4)) - (R.1 (8, 0, a.toNatClampNeg) 3)))), (8, .ref (ad (29, 0, b.toNatClampNeg))), (7, .ref (ad (28, 0, a.toNatClampNeg))), (6, .int (7)), (0, .ref (ad (20, 0, 0))), (1, .int (a)), (2, .int (b)), (3, .int (c)), (4, .int (d)), (5, .int (e))]) o dX16_lay_236 (by decide) rfl ?_
            refine y_aload_n (pc := 238) o dX16_lay_238 rfl ?_
            refine y_iload (pc := 239) o dX16_lay_239 rfl ?_
            refine y_if_ne (pc := 241) (tgt := 248) o dX16_lay_241 rfl (fun b29 => absurd b29 (by rw [b6]; decide)) (fun (b29 : 0 = 0) => ?_)
            refine y_iconst (pc := 244) (x := 1) o dX16_lay_244 (by decide) ?_
            refine y_goto (pc := 245) (tgt := 249) o dX16_lay_245 rfl ?_
            refine y_iconst (pc := 249) (x := 3) o dX16_lay_249 (by decide) ?_
            refine z_callV (pc := 250) (k := 0) (n := 0) (k' := 0) (n' := 0) o (b := ad (20, 0, 0)) (As := [.int (1), .int (3)]) (rest := []) (kFailsT hR h5 3 (by decide)) ln_X16_74 dX16_lay_250 (z_rc (ci := 20) (K := (20, 0, 0)) rfl (gl_20 hR) rfl) rfl rfl (Nat.le_of_ble_eq_true rfl) ⟨by decide, by decide⟩ ⟨rfl, rfl⟩ ⟨by decide, by decide⟩ rfl gq_nox2 ?_
            refine y_if_ne (pc := 253) (tgt := 283) o dX16_lay_253 rfl (fun (b30 : ¬ 1 = 0) => ?_) (fun b30 => absurd b30 (by decide))
            refine y_iconst (pc := 283) (x := -1) o dX16_lay_283 (by decide) ?_
            exact y_iret (pc := 284) o dX16_lay_284 rfl (vp_nar_int _) (by decide) (by decide) (fun h hp => gP_thr (k := 3) (by simp +decide only [F_lay, b3, b5, b9, b11, gm1_f (hI.2.2.2.2.1 _ (gix_lt (Nat.le_trans (hBR 2 0 (by decide)) (by decide)) b3)).2.2.1 f13, f14, b22, b25, b28, gper_n7 (((gf_or4 b7).resolve_left b1).resolve_left b2), gtc0, gtc1, gtc2, gtc3, gtc4, not_true_eq_false, not_false_eq_true, if_true, if_false, or_true, true_or, or_false, false_or, and_true, true_and, and_false, false_and, or_self, and_self, eq_self, Bool.false_eq_true, ne_eq, reduceIte]) (by decide) hp)
          refine y_aload (pc := 211) o dX16_lay_211 rfl ?_
          refine z_get (pc := 213) (K := (28, 0, a.toNatClampNeg)) (v := .int (R.1 (8, 0, a.toNatClampNeg) 1)) o fl_X16_138 dX16_lay_213 (gl_28 (gix_lt (Nat.le_trans (hBR 2 0 (by decide)) (by decide)) b3)) rfl rfl ?_
          refine y_iload (pc := 216) o dX16_lay_216 rfl ?_
          refine y_icmp_lt (pc := 218) (tgt := 235) o dX16_lay_218 rfl (fun (b31 : (R.1 (8, 0, a.toNatClampNeg) 1) < d) => ?_) (fun (b31 : ¬ (R.1 (8, 0, a.toNatClampNeg) 1) < d) => ?_)
          · refine y_iconst (pc := 235) (x := 0) o dX16_lay_235 (by decide) ?_
            refine y_istore (pc := 236) (i := 11) (lv' := [(11, .int (0)), (10, .int ((((d + (gper c)) - 1) / (gper c)) * 2)), (9, .int (gabs ((2 * (R.1 (9, 0, b.toNatClampNeg) 4)) - (R.1 (8, 0, a.toNatClampNeg) 3)))), (8, .ref (ad (29, 0, b.toNatClampNeg))), (7, .ref (ad (28, 0, a.toNatClampNeg))), (6, .int (7)), (0, .ref (ad (20, 0, 0))), (1, .int (a)), (2, .int (b)), (3, .int (c)), (4, .int (d)), (5, .int (e))]) o dX16_lay_236 (by decide) rfl ?_
            refine y_aload_n (pc := 238) o dX16_lay_238 rfl ?_
            refine y_iload (pc := 239) o dX16_lay_239 rfl ?_
            refine y_if_ne (pc := 241) (tgt := 248) o dX16_lay_241 rfl (fun b32 => absurd b32 (by rw [b6]; decide)) (fun (b32 : 0 = 0) => ?_)
            refine y_iconst (pc := 244) (x := 1) o dX16_lay_244 (by decide) ?_
            refine y_goto (pc := 245) (tgt := 249) o dX16_lay_245 rfl ?_
            refine y_iconst (pc := 249) (x := 3) o dX16_lay_249 (by decide) ?_
            refine z_callV (pc := 250) (k := 0) (n := 0) (k' := 0) (n' := 0) o (b := ad (20, 0, 0)) (As := [.int (1), .int (3)]) (rest := []) (kFailsT hR h5 3 (by decide)) ln_X16_74 dX16_lay_250 (z_rc (ci := 20) (K := (20, 0, 0)) rfl (gl_20 hR) rfl) rfl rfl (Nat.le_of_ble_eq_true rfl) ⟨by decide, by decide⟩ ⟨rfl, rfl⟩ ⟨by decide, by decide⟩ rfl gq_nox2 ?_
            refine y_if_ne (pc := 253) (tgt := 283) o dX16_lay_253 rfl (fun (b33 : ¬ 1 = 0) => ?_) (fun b33 => absurd b33 (by decide))
            refine y_iconst (pc := 283) (x := -1) o dX16_lay_283 (by decide) ?_
            exact y_iret (pc := 284) o dX16_lay_284 rfl (vp_nar_int _) (by decide) (by decide) (fun h hp => gP_thr (k := 3) (by simp +decide only [F_lay, b3, b5, b9, b11, gm1_f (hI.2.2.2.2.1 _ (gix_lt (Nat.le_trans (hBR 2 0 (by decide)) (by decide)) b3)).2.2.1 f13, f14, b22, b25, b28, b31, gper_n7 (((gf_or4 b7).resolve_left b1).resolve_left b2), gtc0, gtc1, gtc2, gtc3, gtc4, not_true_eq_false, not_false_eq_true, if_true, if_false, or_true, true_or, or_false, false_or, and_true, true_and, and_false, false_and, or_self, and_self, eq_self, Bool.false_eq_true, ne_eq, reduceIte]) (by decide) hp)
          refine y_aload (pc := 221) o dX16_lay_221 rfl ?_
          refine z_get (pc := 223) (K := (29, 0, b.toNatClampNeg)) (v := .int (R.1 (9, 0, b.toNatClampNeg) 3)) o fl_X16_216 dX16_lay_223 (gl_29 (gix_lt (Nat.le_trans (hBR 3 0 (by decide)) (by decide)) b5)) rfl rfl ?_
          refine y_iload (pc := 226) o dX16_lay_226 rfl ?_
          refine y_icmp_lt (pc := 228) (tgt := 235) o dX16_lay_228 rfl (fun (b34 : (R.1 (9, 0, b.toNatClampNeg) 3) < ((((d + (gper c)) - 1) / (gper c)) * 2)) => ?_) (fun (b34 : ¬ (R.1 (9, 0, b.toNatClampNeg) 3) < ((((d + (gper c)) - 1) / (gper c)) * 2)) => ?_)
          · refine y_iconst (pc := 235) (x := 0) o dX16_lay_235 (by decide) ?_
            refine y_istore (pc := 236) (i := 11) (lv' := [(11, .int (0)), (10, .int ((((d + (gper c)) - 1) / (gper c)) * 2)), (9, .int (gabs ((2 * (R.1 (9, 0, b.toNatClampNeg) 4)) - (R.1 (8, 0, a.toNatClampNeg) 3)))), (8, .ref (ad (29, 0, b.toNatClampNeg))), (7, .ref (ad (28, 0, a.toNatClampNeg))), (6, .int (7)), (0, .ref (ad (20, 0, 0))), (1, .int (a)), (2, .int (b)), (3, .int (c)), (4, .int (d)), (5, .int (e))]) o dX16_lay_236 (by decide) rfl ?_
            refine y_aload_n (pc := 238) o dX16_lay_238 rfl ?_
            refine y_iload (pc := 239) o dX16_lay_239 rfl ?_
            refine y_if_ne (pc := 241) (tgt := 248) o dX16_lay_241 rfl (fun b35 => absurd b35 (by rw [b6]; decide)) (fun (b35 : 0 = 0) => ?_)
            refine y_iconst (pc := 244) (x := 1) o dX16_lay_244 (by decide) ?_
            refine y_goto (pc := 245) (tgt := 249) o dX16_lay_245 rfl ?_
            refine y_iconst (pc := 249) (x := 3) o dX16_lay_249 (by decide) ?_
            refine z_callV (pc := 250) (k := 0) (n := 0) (k' := 0) (n' := 0) o (b := ad (20, 0, 0)) (As := [.int (1), .int (3)]) (rest := []) (kFailsT hR h5 3 (by decide)) ln_X16_74 dX16_lay_250 (z_rc (ci := 20) (K := (20, 0, 0)) rfl (gl_20 hR) rfl) rfl rfl (Nat.le_of_ble_eq_true rfl) ⟨by decide, by decide⟩ ⟨rfl, rfl⟩ ⟨by decide, by decide⟩ rfl gq_nox2 ?_
            refine y_if_ne (pc := 253) (tgt := 283) o dX16_lay_253 rfl (fun (b36 : ¬ 1 = 0) => ?_) (fun b36 => absurd b36 (by decide))
            refine y_iconst (pc := 283) (x := -1) o dX16_lay_283 (by decide) ?_
            exact y_iret (pc := 284) o dX16_lay_284 rfl (vp_nar_int _) (by decide) (by decide) (fun h hp => gP_thr (k := 3) (by simp +decide only [F_lay, b3, b5, b9, b11, gm1_f (hI.2.2.2.2.1 _ (gix_lt (Nat.le_trans (hBR 2 0 (by decide)) (by decide)) b3)).2.2.1 f13, f14, b22, b25, b28, b31, b34, gper_n7 (((gf_or4 b7).resolve_left b1).resolve_left b2), gtc0, gtc1, gtc2, gtc3, gtc4, not_true_eq_false, not_false_eq_true, if_true, if_false, or_true, true_or, or_false, false_or, and_true, true_and, and_false, false_and, or_self, and_self, eq_self, Bool.false_eq_true, ne_eq, reduceIte]) (by decide) hp)
          refine y_iconst (pc := 231) (x := 1) o dX16_lay_231 (by decide) ?_
          refine y_goto (pc := 232) (tgt := 236) o dX16_lay_232 rfl ?_
          refine y_istore (pc := 236) (i := 11) (lv' := [(11, .int (1)), (10, .int ((((d + (gper c)) - 1) / (gper c)) * 2)), (9, .int (gabs ((2 * (R.1 (9, 0, b.toNatClampNeg) 4)) - (R.1 (8, 0, a.toNatClampNeg) 3)))), (8, .ref (ad (29, 0, b.toNatClampNeg))), (7, .ref (ad (28, 0, a.toNatClampNeg))), (6, .int (7)), (0, .ref (ad (20, 0, 0))), (1, .int (a)), (2, .int (b)), (3, .int (c)), (4, .int (d)), (5, .int (e))]) o dX16_lay_236 (by decide) rfl ?_
          refine y_aload_n (pc := 238) o dX16_lay_238 rfl ?_
          refine y_iload (pc := 239) o dX16_lay_239 rfl ?_
          refine y_if_ne (pc := 241) (tgt := 248) o dX16_lay_241 rfl (fun (b37 : ¬ 1 = 0) => ?_) (fun b37 => absurd b37 (by decide))
          refine y_iconst (pc := 248) (x := 0) o dX16_lay_248 (by decide) ?_
          refine y_iconst (pc := 249) (x := 3) o dX16_lay_249 (by decide) ?_
          refine z_callV (pc := 250) (k := 0) (n := 0) (k' := 0) (n' := 0) o (b := ad (20, 0, 0)) (As := [.int (0), .int (3)]) (rest := []) (kFailsF hR h5 3) ln_X16_74 dX16_lay_250 (z_rc (ci := 20) (K := (20, 0, 0)) rfl (gl_20 hR) rfl) rfl rfl (Nat.le_of_ble_eq_true rfl) ⟨by decide, by decide⟩ ⟨rfl, rfl⟩ ⟨by decide, by decide⟩ rfl gq_nox2 ?_
          refine y_if_ne (pc := 253) (tgt := 283) o dX16_lay_253 rfl (fun b38 => absurd b38 (by rw [b6]; decide)) (fun (b38 : 0 = 0) => ?_)
          refine y_aload_n (pc := 256) o dX16_lay_256 rfl ?_
          refine y_aload_n (pc := 257) o dX16_lay_257 rfl ?_
          refine z_get (pc := 258) (K := (20, 0, 0)) (v := .ref (ad (24, 4, 0))) o fl_X16_57 dX16_lay_258 (gl_20 hR) rfl rfl ?_
          refine z_callF (pc := 261) (k := 0) (n := 0) (k' := 0) (n' := 0) (ci := 3) o (b := ad (24, 4, 0)) (As := []) (rest := [.ref (ad (20, 0, 0))]) (sizeR (l := 4) (g := 0) (gl_24_4 hR)) rfl lf_X16_7 dX16_lay_261 (fun h hr => ⟨_, ghdr_R (R := R) (gl_24_4 hR) hr⟩) rfl rfl (Nat.le_of_ble_eq_true rfl) ⟨by decide, by decide⟩ ⟨rfl, rfl⟩ ⟨by decide, by decide⟩ ?_
          refine y_bipush (pc := 266) (x := 16) o dX16_lay_266 (by decide) ?_
          refine y_icmp_ne (pc := 268) (tgt := 275) o dX16_lay_268 rfl (fun (b39 : ¬ (Int32.ofNat (R.2 10 0)) = 16) => ?_) (fun (b39 : (Int32.ofNat (R.2 10 0)) = 16) => ?_)
          · refine y_iconst (pc := 275) (x := 0) o dX16_lay_275 (by decide) ?_
            refine y_iconst (pc := 276) (x := 4) o dX16_lay_276 (by decide) ?_
            refine z_callV (pc := 277) (k := 0) (n := 0) (k' := 0) (n' := 0) o (b := ad (20, 0, 0)) (As := [.int (0), .int (4)]) (rest := []) (kFailsF hR h5 4) ln_X16_74 dX16_lay_277 (z_rc (ci := 20) (K := (20, 0, 0)) rfl (gl_20 hR) rfl) rfl rfl (Nat.le_of_ble_eq_true rfl) ⟨by decide, by decide⟩ ⟨rfl, rfl⟩ ⟨by decide, by decide⟩ rfl gq_nox2 ?_
            refine y_if_eq (pc := 280) (tgt := 285) o dX16_lay_280 rfl (fun (b40 : 0 = 0) => ?_) (fun b40 => absurd b40 (by rw [b6]; decide))
            refine y_aload (pc := 285) o dX16_lay_285 rfl ?_
            refine y_dup (pc := 287) o dX16_lay_287 rfl ?_
            refine z_get (pc := 288) (K := (28, 0, a.toNatClampNeg)) (v := .int (R.1 (8, 0, a.toNatClampNeg) 1)) o fl_X16_138 dX16_lay_288 (gl_28 (gix_lt (Nat.le_trans (hBR 2 0 (by decide)) (by decide)) b3)) rfl rfl ?_
            refine y_iload (pc := 291) o dX16_lay_291 rfl ?_
            refine y_isub (pc := 293) o dX16_lay_293 ?_
            refine z_putR (pc := 294) (K := (28, 0, a.toNatClampNeg)) (fd := 1) (x := (R.1 (8, 0, a.toNatClampNeg) 1) - d) (B := (8, 0, a.toNatClampNeg)) o fw_X16_138 dX16_lay_294 (gl_28 (gix_lt (Nat.le_trans (hBR 2 0 (by decide)) (by decide)) b3)) (show 24 ≤ (28:Nat) by decide) rfl rfl (Nat.le_of_ble_eq_true rfl) (vp_nar_int _) rfl rfl pR_28_1 ?_
            refine y_aload (pc := 297) o dX16_lay_297 rfl ?_
            refine y_dup (pc := 299) o dX16_lay_299 rfl ?_
            refine z_get (pc := 300) (K := (29, 0, b.toNatClampNeg)) (v := .int ((gup R (8, 0, a.toNatClampNeg) 1 ((R.1 (8, 0, a.toNatClampNeg) 1) - d)).1 (9, 0, b.toNatClampNeg) 3)) o fl_X16_216 dX16_lay_300 (gl_29 (gix_lt (Nat.le_trans (hBR 3 0 (by decide)) (by decide)) b5)) rfl rfl ?_
            refine z_top (congrArg Value.int (gup_ff _ (show (3:Nat) ≠ 1 by decide))) ?_
            refine y_iload (pc := 303) o dX16_lay_303 rfl ?_
            refine y_isub (pc := 305) o dX16_lay_305 ?_
            refine z_putR (pc := 306) (K := (29, 0, b.toNatClampNeg)) (fd := 3) (x := (R.1 (9, 0, b.toNatClampNeg) 3) - ((((d + (gper c)) - 1) / (gper c)) * 2)) (B := (9, 0, b.toNatClampNeg)) o fw_X16_216 dX16_lay_306 (gl_29 (gix_lt (Nat.le_trans (hBR 3 0 (by decide)) (by decide)) b5)) (show 24 ≤ (29:Nat) by decide) rfl rfl (Nat.le_of_ble_eq_true rfl) (vp_nar_int _) rfl rfl pR_29_3 ?_
            refine z_new (pc := 309) (k := 0) (n := 0) o nw_X16_237 dX16_lay_309 (by decide) (by decide) (fun q41 => ?_)
            refine y_dup (pc := 312) o dX16_lay_312 rfl ?_
            refine z_callI (pc := 313) (k := 1) (n := 11) (k' := 1) (n' := 11) o (b := q41) (As := []) (rest := [.ref (q41)]) (kX14_init _ ) ln_X16_239 dX16_lay_313 rfl rfl (Nat.le_of_ble_eq_true rfl) ⟨by decide, by decide⟩ ⟨rfl, rfl⟩ ⟨by decide, by decide⟩ ?_
            refine y_astore (pc := 316) (i := 12) (lv' := [(12, .ref (q41)), (11, .int (1)), (10, .int ((((d + (gper c)) - 1) / (gper c)) * 2)), (9, .int (gabs ((2 * (R.1 (9, 0, b.toNatClampNeg) 4)) - (R.1 (8, 0, a.toNatClampNeg) 3)))), (8, .ref (ad (29, 0, b.toNatClampNeg))), (7, .ref (ad (28, 0, a.toNatClampNeg))), (6, .int (7)), (0, .ref (ad (20, 0, 0))), (1, .int (a)), (2, .int (b)), (3, .int (c)), (4, .int (d)), (5, .int (e))]) o dX16_lay_316 (by decide) rfl ?_
            refine y_aload (pc := 318) o dX16_lay_318 rfl ?_
            refine y_iload_n (pc := 320) o dX16_lay_320 rfl ?_
            refine z_putT (pc := 321) (fs' := [.int (a), .int (0), .int (0), .int (0), .int (0), .int (0), .int (0), .int (0), .int (-1), .int (-1), .int (0)]) (T' := (q41, .inr (18, [.int (a), .int (0), .int (0), .int (0), .int (0), .int (0), .int (0), .int (0), .int (-1), .int (-1), .int (0)])) :: T) o 0 fw_X16_240 dX16_lay_321 rfl (Nat.le_of_ble_eq_true rfl) (vp_nar_int _) rfl rfl rfl ?_
            refine y_aload (pc := 324) o dX16_lay_324 rfl ?_
            refine y_iload_n (pc := 326) o dX16_lay_326 rfl ?_
            refine z_putT (pc := 327) (fs' := [.int (a), .int (b), .int (0), .int (0), .int (0), .int (0), .int (0), .int (0), .int (-1), .int (-1), .int (0)]) (T' := (q41, .inr (18, [.int (a), .int (b), .int (0), .int (0), .int (0), .int (0), .int (0), .int (0), .int (-1), .int (-1), .int (0)])) :: T) o 0 fw_X16_243 dX16_lay_327 rfl (Nat.le_of_ble_eq_true rfl) (vp_nar_int _) rfl rfl rfl ?_
            refine y_aload (pc := 330) o dX16_lay_330 rfl ?_
            refine y_iload (pc := 332) o dX16_lay_332 rfl ?_
            refine z_putT (pc := 334) (fs' := [.int (a), .int (b), .int (e), .int (0), .int (0), .int (0), .int (0), .int (0), .int (-1), .int (-1), .int (0)]) (T' := (q41, .inr (18, [.int (a), .int (b), .int (e), .int (0), .int (0), .int (0), .int (0), .int (0), .int (-1), .int (-1), .int (0)])) :: T) o 0 fw_X16_245 dX16_lay_334 rfl (Nat.le_of_ble_eq_true rfl) (vp_nar_int _) rfl rfl rfl ?_
            refine y_aload (pc := 337) o dX16_lay_337 rfl ?_
            refine y_iload (pc := 339) o dX16_lay_339 rfl ?_
            refine z_putT (pc := 341) (fs' := [.int (a), .int (b), .int (e), .int (d), .int (0), .int (0), .int (0), .int (0), .int (-1), .int (-1), .int (0)]) (T' := (q41, .inr (18, [.int (a), .int (b), .int (e), .int (d), .int (0), .int (0), .int (0), .int (0), .int (-1), .int (-1), .int (0)])) :: T) o 0 fw_X16_248 dX16_lay_341 rfl (Nat.le_of_ble_eq_true rfl) (vp_nar_int _) rfl rfl rfl ?_
            refine y_aload (pc := 344) o dX16_lay_344 rfl ?_
            refine y_iload (pc := 346) o dX16_lay_346 rfl ?_
            refine y_aload (pc := 348) o dX16_lay_348 rfl ?_
            refine z_get (pc := 350) (K := (29, 0, b.toNatClampNeg)) (v := .int ((gup (gup R (8, 0, a.toNatClampNeg) 1 ((R.1 (8, 0, a.toNatClampNeg) 1) - d)) (9, 0, b.toNatClampNeg) 3 ((R.1 (9, 0, b.toNatClampNeg) 3) - ((((d + (gper c)) - 1) / (gper c)) * 2))).1 (9, 0, b.toNatClampNeg) 1)) o fl_X16_210 dX16_lay_350 (gl_29 (gix_lt (Nat.le_trans (hBR 3 0 (by decide)) (by decide)) b5)) rfl rfl ?_
            refine z_top (congrArg Value.int (Eq.trans (gup_vf _ (show (1:Nat) ≠ 3 by decide)) (gup_vc _ (show (9:Nat) ≠ 8 by decide)))) ?_
            refine y_iconst (pc := 353) (x := 4) o dX16_lay_353 (by decide) ?_
            refine y_idiv (pc := 354) o dX16_lay_354 (by decide) ?_
            refine y_iadd (pc := 355) o dX16_lay_355 ?_
            refine z_putT (pc := 356) (fs' := [.int (a), .int (b), .int (e), .int (d), .int (0), .int ((gabs ((2 * (R.1 (9, 0, b.toNatClampNeg) 4)) - (R.1 (8, 0, a.toNatClampNeg) 3))) + ((R.1 (9, 0, b.toNatClampNeg) 1) / 4)), .int (0), .int (0), .int (-1), .int (-1), .int (0)]) (T' := (q41, .inr (18, [.int (a), .int (b), .int (e), .int (d), .int (0), .int ((gabs ((2 * (R.1 (9, 0, b.toNatClampNeg) 4)) - (R.1 (8, 0, a.toNatClampNeg) 3))) + ((R.1 (9, 0, b.toNatClampNeg) 1) / 4)), .int (0), .int (0), .int (-1), .int (-1), .int (0)])) :: T) o 0 fw_X16_249 dX16_lay_356 rfl (Nat.le_of_ble_eq_true rfl) (vp_nar_int _) rfl rfl rfl ?_
            refine y_aload (pc := 359) o dX16_lay_359 rfl ?_
            refine y_aload_n (pc := 361) o dX16_lay_361 rfl ?_
            refine z_get (pc := 362) (K := (20, 0, 0)) (v := .int ((gup (gup R (8, 0, a.toNatClampNeg) 1 ((R.1 (8, 0, a.toNatClampNeg) 1) - d)) (9, 0, b.toNatClampNeg) 3 ((R.1 (9, 0, b.toNatClampNeg) 3) - ((((d + (gper c)) - 1) / (gper c)) * 2))).1 (0, 0, 0) 0)) o fl_X16_78 dX16_lay_362 (gl_20 hR) rfl rfl ?_
            refine z_top (congrArg Value.int (Eq.trans (gup_ff _ (show (0:Nat) ≠ 3 by decide)) (gup_ff _ (show (0:Nat) ≠ 1 by decide)))) ?_
            refine y_bipush (pc := 365) (x := 6) o dX16_lay_365 (by decide) ?_
            refine y_iadd (pc := 367) o dX16_lay_367 ?_
            refine z_putT (pc := 368) (fs' := [.int (a), .int (b), .int (e), .int (d), .int (0), .int ((gabs ((2 * (R.1 (9, 0, b.toNatClampNeg) 4)) - (R.1 (8, 0, a.toNatClampNeg) 3))) + ((R.1 (9, 0, b.toNatClampNeg) 1) / 4)), .int ((R.1 (0, 0, 0) 0) + 6), .int (0), .int (-1), .int (-1), .int (0)]) (T' := (q41, .inr (18, [.int (a), .int (b), .int (e), .int (d), .int (0), .int ((gabs ((2 * (R.1 (9, 0, b.toNatClampNeg) 4)) - (R.1 (8, 0, a.toNatClampNeg) 3))) + ((R.1 (9, 0, b.toNatClampNeg) 1) / 4)), .int ((R.1 (0, 0, 0) 0) + 6), .int (0), .int (-1), .int (-1), .int (0)])) :: T) o 0 fw_X16_252 dX16_lay_368 rfl (Nat.le_of_ble_eq_true rfl) (vp_nar_int _) rfl rfl rfl ?_
            refine y_aload_n (pc := 371) o dX16_lay_371 rfl ?_
            refine z_get (pc := 372) (K := (20, 0, 0)) (v := .ref (ad (24, 4, 0))) o fl_X16_57 dX16_lay_372 (gl_20 hR) rfl rfl ?_
            refine y_aload (pc := 375) o dX16_lay_375 rfl ?_
            refine y_mono (fun h hr => hr.ghost20 0 3 (R.1 (0, 0, 0) 3 + d) (by decide) (fun _ _ => rfl)) ?_
            refine y_callF (pc := 377) (ci := 3) (k := 1) (n := 11) o (b := ad (24, 4, 0)) (As := [.ref q41]) (rest := []) (addRa (C := C) (R := (gup (gup (gup R (8, 0, a.toNatClampNeg) 1 ((R.1 (8, 0, a.toNatClampNeg) 1) - d)) (9, 0, b.toNatClampNeg) 3 ((R.1 (9, 0, b.toNatClampNeg) 3) - ((((d + (gper c)) - 1) / (gper c)) * 2))) (0, 0, 0) 3 ((R.1 (0, 0, 0) 3) + d))) (l := 4) (g := 0) (n := R.2 10 0) (row := (glist [a, b, e, d, 0, (gabs ((2 * (R.1 (9, 0, b.toNatClampNeg) 4)) - (R.1 (8, 0, a.toNatClampNeg) 3))) + ((R.1 (9, 0, b.toNatClampNeg) 1) / 4), (R.1 (0, 0, 0) 0) + 6, 0, -1, -1, 0])) (a := 10) rfl (gl_24_4 hR) (Or.inr rfl) rfl (hBR 4 0 (by decide)) nR_10 (fun K hK => by cases hK)) rfl lf_X16_107 dX16_lay_377 (fun h hr => ⟨_, ghdr_R (R := (gup (gup (gup R (8, 0, a.toNatClampNeg) 1 ((R.1 (8, 0, a.toNatClampNeg) 1) - d)) (9, 0, b.toNatClampNeg) 3 ((R.1 (9, 0, b.toNatClampNeg) 3) - ((((d + (gper c)) - 1) / (gper c)) * 2))) (0, 0, 0) 3 ((R.1 (0, 0, 0) 3) + d))) (gl_24_4 hR) hr⟩) rfl rfl (Nat.le_of_ble_eq_true rfl) ⟨by decide, by decide⟩ ⟨by decide, by decide⟩ (fun _ e => e) (fun _ _ z => z) (fun v => y_and fun ev => y_ex fun ad42 => y_and fun had => y_and fun hadq => ?_)
            subst ev
            have e0 : ad42 (0, 0, 0) = ad (0, 0, 0) := had (0, 0, 0) (by simp) (by simp)
            have e20 : ad42 (20, 0, 0) = ad (20, 0, 0) := had (20, 0, 0) (by simp) (by simp)
            refine z_st (st' := [.int (1)]) rfl ?_
            rw [← e20]
            refine y_pop (pc := 382) o dX16_lay_382 rfl ?_
            refine y_aload_n (pc := 383) o dX16_lay_383 rfl ?_
            refine z_get (pc := 384) (K := (20, 0, 0)) (v := .ref (ad42 (24, 4, 0))) o fl_X16_57 dX16_lay_384 (gl_20 (gfix_new (a := 10) (by decide) hR)) rfl rfl ?_
            refine z_callF (pc := 387) (k := 2) (n := 267) (k' := 2) (n' := 267) (ci := 3) o (b := ad42 (24, 4, 0)) (As := []) (rest := []) (sizeR (l := 4) (g := 0) (gl_24_4 (gfix_new (a := 10) (by decide) hR))) rfl lf_X16_7 dX16_lay_387 (fun h hr => ⟨_, ghdr_R (R := (gnew (gup (gup (gup R (8, 0, a.toNatClampNeg) 1 ((R.1 (8, 0, a.toNatClampNeg) 1) - d)) (9, 0, b.toNatClampNeg) 3 ((R.1 (9, 0, b.toNatClampNeg) 3) - ((((d + (gper c)) - 1) / (gper c)) * 2))) (0, 0, 0) 3 ((R.1 (0, 0, 0) 3) + d)) (10, 0, (R.2 10 0)) ((glist [a, b, e, d, 0, (gabs ((2 * (R.1 (9, 0, b.toNatClampNeg) 4)) - (R.1 (8, 0, a.toNatClampNeg) 3))) + ((R.1 (9, 0, b.toNatClampNeg) 1) / 4), (R.1 (0, 0, 0) 0) + 6, 0, -1, -1, 0])))) (gl_24_4 (gfix_new (a := 10) (by decide) hR)) hr⟩) rfl rfl (Nat.le_of_ble_eq_true rfl) ⟨by decide, by decide⟩ ⟨rfl, rfl⟩ ⟨by decide, by decide⟩ ?_
            refine z_top (w := .int (Int32.ofNat (R.2 10 0 + 1))) (congrArg (fun z => Value.int (Int32.ofNat z)) (gnew_n _ _)) ?_
            refine y_iconst (pc := 392) (x := 1) o dX16_lay_392 (by decide) ?_
            refine y_isub (pc := 393) o dX16_lay_393 ?_
            exact y_iret (pc := 394) o dX16_lay_394 rfl (vp_nar_int _) (by decide) (by decide) (fun h hp => gP_mk (by simp +decide only [F_lay, b3, b5, b9, b11, gm1_f (hI.2.2.2.2.1 _ (gix_lt (Nat.le_trans (hBR 2 0 (by decide)) (by decide)) b3)).2.2.1 f13, f14, b22, b25, b28, b31, b34, gsz_f (k := 16) 16 rfl (by decide) hI.1.2.1.2.2.2.2.1 b39, gper_n7 (((gf_or4 b7).resolve_left b1).resolve_left b2), gtc0, gtc1, gtc2, gtc3, gtc4, not_true_eq_false, not_false_eq_true, if_true, if_false, or_true, true_or, or_false, false_or, and_true, true_and, and_false, false_and, or_self, and_self, eq_self, Bool.false_eq_true, ne_eq, reduceIte]) e0 e20 hp)
          refine y_iconst (pc := 271) (x := 1) o dX16_lay_271 (by decide) ?_
          refine y_goto (pc := 272) (tgt := 276) o dX16_lay_272 rfl ?_
          refine y_iconst (pc := 276) (x := 4) o dX16_lay_276 (by decide) ?_
          refine z_callV (pc := 277) (k := 0) (n := 0) (k' := 0) (n' := 0) o (b := ad (20, 0, 0)) (As := [.int (1), .int (4)]) (rest := []) (kFailsT hR h5 4 (by decide)) ln_X16_74 dX16_lay_277 (z_rc (ci := 20) (K := (20, 0, 0)) rfl (gl_20 hR) rfl) rfl rfl (Nat.le_of_ble_eq_true rfl) ⟨by decide, by decide⟩ ⟨rfl, rfl⟩ ⟨by decide, by decide⟩ rfl gq_nox2 ?_
          refine y_if_eq (pc := 280) (tgt := 285) o dX16_lay_280 rfl (fun b43 => absurd b43 (by decide)) (fun (b43 : ¬ 1 = 0) => ?_)
          refine y_iconst (pc := 283) (x := -1) o dX16_lay_283 (by decide) ?_
          exact y_iret (pc := 284) o dX16_lay_284 rfl (vp_nar_int _) (by decide) (by decide) (fun h hp => gP_thr (k := 4) (by simp +decide only [F_lay, b3, b5, b9, b11, gm1_f (hI.2.2.2.2.1 _ (gix_lt (Nat.le_trans (hBR 2 0 (by decide)) (by decide)) b3)).2.2.1 f13, f14, b22, b25, b28, b31, b34, gsz_t b39, gper_n7 (((gf_or4 b7).resolve_left b1).resolve_left b2), gtc0, gtc1, gtc2, gtc3, gtc4, not_true_eq_false, not_false_eq_true, if_true, if_false, or_true, true_or, or_false, false_or, and_true, true_and, and_false, false_and, or_self, and_self, eq_self, Bool.false_eq_true, ne_eq, reduceIte]) (by decide) hp)
        refine y_iconst (pc := 100) (x := 1) o dX16_lay_100 (by decide) ?_
        refine y_goto (pc := 101) (tgt := 105) o dX16_lay_101 rfl ?_
        refine y_iconst (pc := 105) (x := 2) o dX16_lay_105 (by decide) ?_
        refine z_callV (pc := 106) (k := 0) (n := 0) (k' := 0) (n' := 0) o (b := ad (20, 0, 0)) (As := [.int (1), .int (2)]) (rest := []) (kFailsT hR h5 2 (by decide)) ln_X16_74 dX16_lay_106 (z_rc (ci := 20) (K := (20, 0, 0)) rfl (gl_20 hR) rfl) rfl rfl (Nat.le_of_ble_eq_true rfl) ⟨by decide, by decide⟩ ⟨rfl, rfl⟩ ⟨by decide, by decide⟩ rfl gq_nox2 ?_
        refine y_if_eq (pc := 109) (tgt := 114) o dX16_lay_109 rfl (fun b44 => absurd b44 (by decide)) (fun (b44 : ¬ 1 = 0) => ?_)
        refine y_iconst (pc := 112) (x := -1) o dX16_lay_112 (by decide) ?_
        exact y_iret (pc := 113) o dX16_lay_113 rfl (vp_nar_int _) (by decide) (by decide) (fun h hp => gP_thr (k := 2) (by simp +decide only [F_lay, b3, b5, b9, b11, gper_n7 (((gf_or4 b7).resolve_left b1).resolve_left b2), gtc0, gtc1, gtc2, gtc3, gtc4, not_true_eq_false, not_false_eq_true, if_true, if_false, or_true, true_or, or_false, false_or, and_true, true_and, and_false, false_and, or_self, and_self, eq_self, Bool.false_eq_true, ne_eq, reduceIte]) (by decide) hp)
      refine y_iconst (pc := 52) (x := 1) o dX16_lay_52 (by decide) ?_
      refine y_goto (pc := 53) (tgt := 57) o dX16_lay_53 rfl ?_
      refine y_iconst (pc := 57) (x := 1) o dX16_lay_57 (by decide) ?_
      refine z_callV (pc := 58) (k := 0) (n := 0) (k' := 0) (n' := 0) o (b := ad (20, 0, 0)) (As := [.int (1), .int (1)]) (rest := []) (kFailsT hR h5 1 (by decide)) ln_X16_74 dX16_lay_58 (z_rc (ci := 20) (K := (20, 0, 0)) rfl (gl_20 hR) rfl) rfl rfl (Nat.le_of_ble_eq_true rfl) ⟨by decide, by decide⟩ ⟨rfl, rfl⟩ ⟨by decide, by decide⟩ rfl gq_nox2 ?_
      refine y_if_ne (pc := 61) (tgt := 112) o dX16_lay_61 rfl (fun (b45 : ¬ 1 = 0) => ?_) (fun b45 => absurd b45 (by decide))
      refine y_iconst (pc := 112) (x := -1) o dX16_lay_112 (by decide) ?_
      exact y_iret (pc := 113) o dX16_lay_113 rfl (vp_nar_int _) (by decide) (by decide) (fun h hp => gP_thr (k := 1) (by simp +decide only [F_lay, b3, b5, gtc0, gtc1, gtc2, gtc3, gtc4, not_true_eq_false, not_false_eq_true, if_true, if_false, or_true, true_or, or_false, false_or, and_true, true_and, and_false, false_and, or_self, and_self, eq_self, Bool.false_eq_true, ne_eq, reduceIte]) (by decide) hp)
    refine y_iconst (pc := 21) (x := 5) o dX16_lay_21 (by decide) ?_
    refine y_goto (pc := 22) (tgt := 27) o dX16_lay_22 rfl ?_
    refine y_istore (pc := 27) (i := 6) (lv' := [(6, .int (5)), (0, .ref (ad (20, 0, 0))), (1, .int (a)), (2, .int (b)), (3, .int (c)), (4, .int (d)), (5, .int (e))]) o dX16_lay_27 (by decide) rfl ?_
    refine y_aload_n (pc := 29) o dX16_lay_29 rfl ?_
    refine y_aload_n (pc := 30) o dX16_lay_30 rfl ?_
    refine z_get (pc := 31) (K := (20, 0, 0)) (v := .ref (ad (24, 2, 0))) o fl_X16_51 dX16_lay_31 (gl_20 hR) rfl rfl ?_
    refine y_iload_n (pc := 34) o dX16_lay_34 rfl ?_
    refine z_callS (pc := 35) (k := 0) (n := 0) (k' := 0) (n' := 0) o (As := [.ref (ad (24, 2, 0)), .int (a)]) (rest := [.ref (ad (20, 0, 0))]) (kIsOf (l := 2) (g := 0) (gl_24_2 hR) hBR a) ln_X16_97 dX16_lay_35 rfl rfl (Nat.le_of_ble_eq_true rfl) ⟨by decide, by decide⟩ ⟨rfl, rfl⟩ ⟨by decide, by decide⟩ rfl gq_nox2 ?_
    refine z_beq (pc := 38) (tgt := 52) o dX16_lay_38 rfl (fun (b46 : ¬ (gix (R.2 8 0) a = true)) => ?_) (fun (b46 : gix (R.2 8 0) a = true) => ?_)
    · refine y_iconst (pc := 52) (x := 1) o dX16_lay_52 (by decide) ?_
      refine y_goto (pc := 53) (tgt := 57) o dX16_lay_53 rfl ?_
      refine y_iconst (pc := 57) (x := 1) o dX16_lay_57 (by decide) ?_
      refine z_callV (pc := 58) (k := 0) (n := 0) (k' := 0) (n' := 0) o (b := ad (20, 0, 0)) (As := [.int (1), .int (1)]) (rest := []) (kFailsT hR h5 1 (by decide)) ln_X16_74 dX16_lay_58 (z_rc (ci := 20) (K := (20, 0, 0)) rfl (gl_20 hR) rfl) rfl rfl (Nat.le_of_ble_eq_true rfl) ⟨by decide, by decide⟩ ⟨rfl, rfl⟩ ⟨by decide, by decide⟩ rfl gq_nox2 ?_
      refine y_if_ne (pc := 61) (tgt := 112) o dX16_lay_61 rfl (fun (b47 : ¬ 1 = 0) => ?_) (fun b47 => absurd b47 (by decide))
      refine y_iconst (pc := 112) (x := -1) o dX16_lay_112 (by decide) ?_
      exact y_iret (pc := 113) o dX16_lay_113 rfl (vp_nar_int _) (by decide) (by decide) (fun h hp => gP_thr (k := 1) (by simp +decide only [F_lay, b46, gper_n5 b2, gtc0, gtc1, gtc2, gtc3, gtc4, not_true_eq_false, not_false_eq_true, if_true, if_false, or_true, true_or, or_false, false_or, and_true, true_and, and_false, false_and, or_self, and_self, eq_self, Bool.false_eq_true, ne_eq, reduceIte]) (by decide) hp)
    refine y_aload_n (pc := 41) o dX16_lay_41 rfl ?_
    refine z_get (pc := 42) (K := (20, 0, 0)) (v := .ref (ad (24, 3, 0))) o fl_X16_54 dX16_lay_42 (gl_20 hR) rfl rfl ?_
    refine y_iload_n (pc := 45) o dX16_lay_45 rfl ?_
    refine z_callS (pc := 46) (k := 0) (n := 0) (k' := 0) (n' := 0) o (As := [.ref (ad (24, 3, 0)), .int (b)]) (rest := [.ref (ad (20, 0, 0))]) (kIsOf (l := 3) (g := 0) (gl_24_3 hR) hBR b) ln_X16_97 dX16_lay_46 rfl rfl (Nat.le_of_ble_eq_true rfl) ⟨by decide, by decide⟩ ⟨rfl, rfl⟩ ⟨by decide, by decide⟩ rfl gq_nox2 ?_
    refine z_bne (pc := 49) (tgt := 56) o dX16_lay_49 rfl (fun (b48 : gix (R.2 9 0) b = true) => ?_) (fun (b48 : ¬ (gix (R.2 9 0) b = true)) => ?_)
    · refine y_iconst (pc := 56) (x := 0) o dX16_lay_56 (by decide) ?_
      refine y_iconst (pc := 57) (x := 1) o dX16_lay_57 (by decide) ?_
      refine z_callV (pc := 58) (k := 0) (n := 0) (k' := 0) (n' := 0) o (b := ad (20, 0, 0)) (As := [.int (0), .int (1)]) (rest := []) (kFailsF hR h5 1) ln_X16_74 dX16_lay_58 (z_rc (ci := 20) (K := (20, 0, 0)) rfl (gl_20 hR) rfl) rfl rfl (Nat.le_of_ble_eq_true rfl) ⟨by decide, by decide⟩ ⟨rfl, rfl⟩ ⟨by decide, by decide⟩ rfl gq_nox2 ?_
      refine y_if_ne (pc := 61) (tgt := 112) o dX16_lay_61 rfl (fun b49 => absurd b49 (by decide)) (fun (b49 : 0 = 0) => ?_)
      refine y_aload_n (pc := 64) o dX16_lay_64 rfl ?_
      refine y_ldcS (pc := 65) o 4 dX16_lay_65 rfl ?_
      refine y_iload_n (pc := 67) o dX16_lay_67 rfl ?_
      refine z_callV (pc := 68) (k := 0) (n := 0) (k' := 0) (n' := 0) o (b := κ.2.2 4) (As := [.int (c)]) (rest := [.ref (ad (20, 0, 0))]) (c_indexOf 4 (by decide) c) ln_X16_83 dX16_lay_68 (gq_rs 4 (by decide)) rfl rfl (Nat.le_of_ble_eq_true rfl) ⟨by decide, by decide⟩ ⟨rfl, rfl⟩ ⟨by decide, by decide⟩ rfl gq_nox2 ?_
      refine y_if_lt (pc := 71) (tgt := 100) o dX16_lay_71 rfl (fun b50 => absurd b50 (by rw [b2]; decide)) (fun (b50 : ¬ (gfind (gq_sbyt.getD 4 []) 0 c) < 0) => ?_)
      refine y_iload (pc := 74) o dX16_lay_74 rfl ?_
      refine y_i2l (pc := 76) o dX16_lay_76 ?_
      refine y_lconst (pc := 77) (x := 1) o dX16_lay_77 (by decide) ?_
      refine y_ldc2 (pc := 78) o dX16_lay_78 qw_1266 ?_
      refine z_callS (pc := 81) (k := 0) (n := 0) (k' := 0) (n' := 0) o (As := [.long (d.toInt64), .long (1), .long (500)]) (rest := [.ref (ad (20, 0, 0))]) (kIn d 1 500) ln_X16_13 dX16_lay_81 rfl rfl (Nat.le_of_ble_eq_true rfl) ⟨by decide, by decide⟩ ⟨rfl, rfl⟩ ⟨by decide, by decide⟩ rfl gq_nox2 ?_
      refine z_beq (pc := 84) (tgt := 100) o dX16_lay_84 rfl (fun (b51 : ¬ (gin 1 d 500 = true)) => ?_) (fun (b51 : gin 1 d 500 = true) => ?_)
      · refine y_iconst (pc := 100) (x := 1) o dX16_lay_100 (by decide) ?_
        refine y_goto (pc := 101) (tgt := 105) o dX16_lay_101 rfl ?_
        refine y_iconst (pc := 105) (x := 2) o dX16_lay_105 (by decide) ?_
        refine z_callV (pc := 106) (k := 0) (n := 0) (k' := 0) (n' := 0) o (b := ad (20, 0, 0)) (As := [.int (1), .int (2)]) (rest := []) (kFailsT hR h5 2 (by decide)) ln_X16_74 dX16_lay_106 (z_rc (ci := 20) (K := (20, 0, 0)) rfl (gl_20 hR) rfl) rfl rfl (Nat.le_of_ble_eq_true rfl) ⟨by decide, by decide⟩ ⟨rfl, rfl⟩ ⟨by decide, by decide⟩ rfl gq_nox2 ?_
        refine y_if_eq (pc := 109) (tgt := 114) o dX16_lay_109 rfl (fun b52 => absurd b52 (by decide)) (fun (b52 : ¬ 1 = 0) => ?_)
        refine y_iconst (pc := 112) (x := -1) o dX16_lay_112 (by decide) ?_
        exact y_iret (pc := 113) o dX16_lay_113 rfl (vp_nar_int _) (by decide) (by decide) (fun h hp => gP_thr (k := 2) (by simp +decide only [F_lay, b46, b48, b51, gper_n5 b2, gtc0, gtc1, gtc2, gtc3, gtc4, not_true_eq_false, not_false_eq_true, if_true, if_false, or_true, true_or, or_false, false_or, and_true, true_and, and_false, false_and, or_self, and_self, eq_self, Bool.false_eq_true, ne_eq, reduceIte]) (by decide) hp)
      refine y_iload (pc := 87) o dX16_lay_87 rfl ?_
      refine y_i2l (pc := 89) o dX16_lay_89 ?_
      refine y_lconst (pc := 90) (x := 0) o dX16_lay_90 (by decide) ?_
      refine y_ldc2 (pc := 91) o dX16_lay_91 qw_1401 ?_
      refine z_callS (pc := 94) (k := 0) (n := 0) (k' := 0) (n' := 0) o (As := [.long (e.toInt64), .long (0), .long (9)]) (rest := [.ref (ad (20, 0, 0))]) (kIn e 0 9) ln_X16_13 dX16_lay_94 rfl rfl (Nat.le_of_ble_eq_true rfl) ⟨by decide, by decide⟩ ⟨rfl, rfl⟩ ⟨by decide, by decide⟩ rfl gq_nox2 ?_
      refine z_bne (pc := 97) (tgt := 104) o dX16_lay_97 rfl (fun (b53 : gin 0 e 9 = true) => ?_) (fun (b53 : ¬ (gin 0 e 9 = true)) => ?_)
      · refine y_iconst (pc := 104) (x := 0) o dX16_lay_104 (by decide) ?_
        refine y_iconst (pc := 105) (x := 2) o dX16_lay_105 (by decide) ?_
        refine z_callV (pc := 106) (k := 0) (n := 0) (k' := 0) (n' := 0) o (b := ad (20, 0, 0)) (As := [.int (0), .int (2)]) (rest := []) (kFailsF hR h5 2) ln_X16_74 dX16_lay_106 (z_rc (ci := 20) (K := (20, 0, 0)) rfl (gl_20 hR) rfl) rfl rfl (Nat.le_of_ble_eq_true rfl) ⟨by decide, by decide⟩ ⟨rfl, rfl⟩ ⟨by decide, by decide⟩ rfl gq_nox2 ?_
        refine y_if_eq (pc := 109) (tgt := 114) o dX16_lay_109 rfl (fun (b54 : 0 = 0) => ?_) (fun b54 => absurd b54 (by rw [b49]; decide))
        refine y_aload_n (pc := 114) o dX16_lay_114 rfl ?_
        refine z_get (pc := 115) (K := (20, 0, 0)) (v := .ref (ad (24, 2, 0))) o fl_X16_51 dX16_lay_115 (gl_20 hR) rfl rfl ?_
        refine y_iload_n (pc := 118) o dX16_lay_118 rfl ?_
        refine z_callF (pc := 119) (k := 0) (n := 0) (k' := 0) (n' := 0) (ci := 3) o (b := ad (24, 2, 0)) (As := [.int (a)]) (rest := []) (getR (l := 2) (g := 0) (gl_24_2 hR) (hBR 2 0 (by decide)) b46) rfl lf_X16_114 dX16_lay_119 (fun h hr => ⟨_, ghdr_R (R := R) (gl_24_2 hR) hr⟩) rfl rfl (Nat.le_of_ble_eq_true rfl) ⟨by decide, by decide⟩ ⟨rfl, rfl⟩ ⟨by decide, by decide⟩ ?_
        refine z_cast (pc := 124) (ci := 16) (K := (28, 0, a.toNatClampNeg)) o rfl qw_1452 dX16_lay_124 (gl_28 (gix_lt (Nat.le_trans (hBR 2 0 (by decide)) (by decide)) b46)) rfl ?_
        refine y_astore (pc := 127) (i := 7) (lv' := [(7, .ref (ad (28, 0, a.toNatClampNeg))), (6, .int (5)), (0, .ref (ad (20, 0, 0))), (1, .int (a)), (2, .int (b)), (3, .int (c)), (4, .int (d)), (5, .int (e))]) o dX16_lay_127 (by decide) rfl ?_
        refine y_aload_n (pc := 129) o dX16_lay_129 rfl ?_
        refine z_get (pc := 130) (K := (20, 0, 0)) (v := .ref (ad (24, 3, 0))) o fl_X16_54 dX16_lay_130 (gl_20 hR) rfl rfl ?_
        refine y_iload_n (pc := 133) o dX16_lay_133 rfl ?_
        refine z_callF (pc := 134) (k := 0) (n := 0) (k' := 0) (n' := 0) (ci := 3) o (b := ad (24, 3, 0)) (As := [.int (b)]) (rest := []) (getR (l := 3) (g := 0) (gl_24_3 hR) (hBR 3 0 (by decide)) b48) rfl lf_X16_114 dX16_lay_134 (fun h hr => ⟨_, ghdr_R (R := R) (gl_24_3 hR) hr⟩) rfl rfl (Nat.le_of_ble_eq_true rfl) ⟨by decide, by decide⟩ ⟨rfl, rfl⟩ ⟨by decide, by decide⟩ ?_
        refine z_cast (pc := 139) (ci := 19) (K := (29, 0, b.toNatClampNeg)) o rfl qw_1551 dX16_lay_139 (gl_29 (gix_lt (Nat.le_trans (hBR 3 0 (by decide)) (by decide)) b48)) rfl ?_
        refine y_astore (pc := 142) (i := 8) (lv' := [(8, .ref (ad (29, 0, b.toNatClampNeg))), (7, .ref (ad (28, 0, a.toNatClampNeg))), (6, .int (5)), (0, .ref (ad (20, 0, 0))), (1, .int (a)), (2, .int (b)), (3, .int (c)), (4, .int (d)), (5, .int (e))]) o dX16_lay_142 (by decide) rfl ?_
        refine y_iconst (pc := 144) (x := 2) o dX16_lay_144 (by decide) ?_
        refine y_aload (pc := 145) o dX16_lay_145 rfl ?_
        refine z_get (pc := 147) (K := (29, 0, b.toNatClampNeg)) (v := .int (R.1 (9, 0, b.toNatClampNeg) 4)) o fl_X16_227 dX16_lay_147 (gl_29 (gix_lt (Nat.le_trans (hBR 3 0 (by decide)) (by decide)) b48)) rfl rfl ?_
        refine y_imul (pc := 150) o dX16_lay_150 ?_
        refine y_aload (pc := 151) o dX16_lay_151 rfl ?_
        refine z_get (pc := 153) (K := (28, 0, a.toNatClampNeg)) (v := .int (R.1 (8, 0, a.toNatClampNeg) 3)) o fl_X16_141 dX16_lay_153 (gl_28 (gix_lt (Nat.le_trans (hBR 2 0 (by decide)) (by decide)) b46)) rfl rfl ?_
        refine y_isub (pc := 156) o dX16_lay_156 ?_
        refine y_mabs (pc := 157) o qw_1600 dX16_lay_157 ⟨by decide, Nat.le_of_ble_eq_true rfl⟩ (by decide) (by decide) ?_
        refine y_istore (pc := 160) (i := 9) (lv' := [(9, .int (gabs ((2 * (R.1 (9, 0, b.toNatClampNeg) 4)) - (R.1 (8, 0, a.toNatClampNeg) 3)))), (8, .ref (ad (29, 0, b.toNatClampNeg))), (7, .ref (ad (28, 0, a.toNatClampNeg))), (6, .int (5)), (0, .ref (ad (20, 0, 0))), (1, .int (a)), (2, .int (b)), (3, .int (c)), (4, .int (d)), (5, .int (e))]) o dX16_lay_160 (by decide) rfl ?_
        refine y_iconst (pc := 162) (x := 2) o dX16_lay_162 (by decide) ?_
        refine y_iload (pc := 163) o dX16_lay_163 rfl ?_
        refine y_iload (pc := 165) o dX16_lay_165 rfl ?_
        refine y_iadd (pc := 167) o dX16_lay_167 ?_
        refine y_iconst (pc := 168) (x := 1) o dX16_lay_168 (by decide) ?_
        refine y_isub (pc := 169) o dX16_lay_169 ?_
        refine y_iload (pc := 170) o dX16_lay_170 rfl ?_
        refine y_idiv (pc := 172) o dX16_lay_172 (by decide) ?_
        refine y_imul (pc := 173) o dX16_lay_173 ?_
        refine z_top (w := .int ((((d + (gper c)) - 1) / (gper c)) * 2)) (congrArg Value.int (by rw [gper_5 b2]; exact Int32.mul_comm _ _)) ?_
        refine y_istore (pc := 174) (i := 10) (lv' := [(10, .int ((((d + (gper c)) - 1) / (gper c)) * 2)), (9, .int (gabs ((2 * (R.1 (9, 0, b.toNatClampNeg) 4)) - (R.1 (8, 0, a.toNatClampNeg) 3)))), (8, .ref (ad (29, 0, b.toNatClampNeg))), (7, .ref (ad (28, 0, a.toNatClampNeg))), (6, .int (5)), (0, .ref (ad (20, 0, 0))), (1, .int (a)), (2, .int (b)), (3, .int (c)), (4, .int (d)), (5, .int (e))]) o dX16_lay_174 (by decide) rfl ?_
        refine y_aload_n (pc := 176) o dX16_lay_176 rfl ?_
        refine y_aload (pc := 177) o dX16_lay_177 rfl ?_
        refine z_callV (pc := 179) (k := 0) (n := 0) (k' := 0) (n' := 0) o (b := ad (20, 0, 0)) (As := [.ref (ad (28, 0, a.toNatClampNeg))]) (rest := []) (kFiredR hR a.toNatClampNeg (gix_lt (Nat.le_trans (hBR 2 0 (by decide)) (by decide)) b46)) ln_X16_183 dX16_lay_179 (z_rc (ci := 20) (K := (20, 0, 0)) rfl (gl_20 hR) rfl) rfl rfl (Nat.le_of_ble_eq_true rfl) ⟨by decide, by decide⟩ ⟨rfl, rfl⟩ ⟨by decide, by decide⟩ rfl gq_nox2 ?_
        by_cases f55 : R.1 (8, 0, a.toNatClampNeg) 6 = -1
        · rw [gb_f (fun z => z.1 f55)]
          refine y_if_eq (pc := 182) (tgt := 235) o dX16_lay_182 rfl (fun (b57 : 0 = 0) => ?_) (fun b57 => absurd b57 (by rw [b49]; decide))
          refine y_iconst (pc := 235) (x := 0) o dX16_lay_235 (by decide) ?_
          refine y_istore (pc := 236) (i := 11) (lv' := [(11, .int (0)), (10, .int ((((d + (gper c)) - 1) / (gper c)) * 2)), (9, .int (gabs ((2 * (R.1 (9, 0, b.toNatClampNeg) 4)) - (R.1 (8, 0, a.toNatClampNeg) 3)))), (8, .ref (ad (29, 0, b.toNatClampNeg))), (7, .ref (ad (28, 0, a.toNatClampNeg))), (6, .int (5)), (0, .ref (ad (20, 0, 0))), (1, .int (a)), (2, .int (b)), (3, .int (c)), (4, .int (d)), (5, .int (e))]) o dX16_lay_236 (by decide) rfl ?_
          refine y_aload_n (pc := 238) o dX16_lay_238 rfl ?_
          refine y_iload (pc := 239) o dX16_lay_239 rfl ?_
          refine y_if_ne (pc := 241) (tgt := 248) o dX16_lay_241 rfl (fun b58 => absurd b58 (by rw [b49]; decide)) (fun (b58 : 0 = 0) => ?_)
          refine y_iconst (pc := 244) (x := 1) o dX16_lay_244 (by decide) ?_
          refine y_goto (pc := 245) (tgt := 249) o dX16_lay_245 rfl ?_
          refine y_iconst (pc := 249) (x := 3) o dX16_lay_249 (by decide) ?_
          refine z_callV (pc := 250) (k := 0) (n := 0) (k' := 0) (n' := 0) o (b := ad (20, 0, 0)) (As := [.int (1), .int (3)]) (rest := []) (kFailsT hR h5 3 (by decide)) ln_X16_74 dX16_lay_250 (z_rc (ci := 20) (K := (20, 0, 0)) rfl (gl_20 hR) rfl) rfl rfl (Nat.le_of_ble_eq_true rfl) ⟨by decide, by decide⟩ ⟨rfl, rfl⟩ ⟨by decide, by decide⟩ rfl gq_nox2 ?_
          refine y_if_ne (pc := 253) (tgt := 283) o dX16_lay_253 rfl (fun (b59 : ¬ 1 = 0) => ?_) (fun b59 => absurd b59 (by decide))
          refine y_iconst (pc := 283) (x := -1) o dX16_lay_283 (by decide) ?_
          exact y_iret (pc := 284) o dX16_lay_284 rfl (vp_nar_int _) (by decide) (by decide) (fun h hp => gP_thr (k := 3) (by simp +decide only [F_lay, b46, b48, b51, b53, gm1_t f55, gper_n5 b2, gtc0, gtc1, gtc2, gtc3, gtc4, not_true_eq_false, not_false_eq_true, if_true, if_false, or_true, true_or, or_false, false_or, and_true, true_and, and_false, false_and, or_self, and_self, eq_self, Bool.false_eq_true, ne_eq, reduceIte]) (by decide) hp)
        by_cases f56 : R.1 (0, 0, 0) 0 < R.1 (8, 0, a.toNatClampNeg) 4
        · rw [gb_f (fun z => z.2 f56)]
          refine y_if_eq (pc := 182) (tgt := 235) o dX16_lay_182 rfl (fun (b60 : 0 = 0) => ?_) (fun b60 => absurd b60 (by rw [b49]; decide))
          refine y_iconst (pc := 235) (x := 0) o dX16_lay_235 (by decide) ?_
          refine y_istore (pc := 236) (i := 11) (lv' := [(11, .int (0)), (10, .int ((((d + (gper c)) - 1) / (gper c)) * 2)), (9, .int (gabs ((2 * (R.1 (9, 0, b.toNatClampNeg) 4)) - (R.1 (8, 0, a.toNatClampNeg) 3)))), (8, .ref (ad (29, 0, b.toNatClampNeg))), (7, .ref (ad (28, 0, a.toNatClampNeg))), (6, .int (5)), (0, .ref (ad (20, 0, 0))), (1, .int (a)), (2, .int (b)), (3, .int (c)), (4, .int (d)), (5, .int (e))]) o dX16_lay_236 (by decide) rfl ?_
          refine y_aload_n (pc := 238) o dX16_lay_238 rfl ?_
          refine y_iload (pc := 239) o dX16_lay_239 rfl ?_
          refine y_if_ne (pc := 241) (tgt := 248) o dX16_lay_241 rfl (fun b61 => absurd b61 (by rw [b49]; decide)) (fun (b61 : 0 = 0) => ?_)
          refine y_iconst (pc := 244) (x := 1) o dX16_lay_244 (by decide) ?_
          refine y_goto (pc := 245) (tgt := 249) o dX16_lay_245 rfl ?_
          refine y_iconst (pc := 249) (x := 3) o dX16_lay_249 (by decide) ?_
          refine z_callV (pc := 250) (k := 0) (n := 0) (k' := 0) (n' := 0) o (b := ad (20, 0, 0)) (As := [.int (1), .int (3)]) (rest := []) (kFailsT hR h5 3 (by decide)) ln_X16_74 dX16_lay_250 (z_rc (ci := 20) (K := (20, 0, 0)) rfl (gl_20 hR) rfl) rfl rfl (Nat.le_of_ble_eq_true rfl) ⟨by decide, by decide⟩ ⟨rfl, rfl⟩ ⟨by decide, by decide⟩ rfl gq_nox2 ?_
          refine y_if_ne (pc := 253) (tgt := 283) o dX16_lay_253 rfl (fun (b62 : ¬ 1 = 0) => ?_) (fun b62 => absurd b62 (by decide))
          refine y_iconst (pc := 283) (x := -1) o dX16_lay_283 (by decide) ?_
          exact y_iret (pc := 284) o dX16_lay_284 rfl (vp_nar_int _) (by decide) (by decide) (fun h hp => gP_thr (k := 3) (by simp +decide only [F_lay, b46, b48, b51, b53, gm1_f (hI.2.2.2.2.1 _ (gix_lt (Nat.le_trans (hBR 2 0 (by decide)) (by decide)) b46)).2.2.1 f55, f56, gper_n5 b2, gtc0, gtc1, gtc2, gtc3, gtc4, not_true_eq_false, not_false_eq_true, if_true, if_false, or_true, true_or, or_false, false_or, and_true, true_and, and_false, false_and, or_self, and_self, eq_self, Bool.false_eq_true, ne_eq, reduceIte]) (by decide) hp)
        rw [gb_t ⟨f55, f56⟩]
        refine y_if_eq (pc := 182) (tgt := 235) o dX16_lay_182 rfl (fun b63 => absurd b63 (by decide)) (fun (b63 : ¬ 1 = 0) => ?_)
        refine y_aload_n (pc := 185) o dX16_lay_185 rfl ?_
        refine z_get (pc := 186) (K := (20, 0, 0)) (v := .int (R.1 (0, 0, 0) 0)) o fl_X16_78 dX16_lay_186 (gl_20 hR) rfl rfl ?_
        refine y_aload (pc := 189) o dX16_lay_189 rfl ?_
        refine z_get (pc := 191) (K := (29, 0, b.toNatClampNeg)) (v := .int (R.1 (9, 0, b.toNatClampNeg) 5)) o fl_X16_224 dX16_lay_191 (gl_29 (gix_lt (Nat.le_trans (hBR 3 0 (by decide)) (by decide)) b48)) rfl rfl ?_
        refine y_icmp_lt (pc := 194) (tgt := 235) o dX16_lay_194 rfl (fun (b64 : (R.1 (0, 0, 0) 0) < (R.1 (9, 0, b.toNatClampNeg) 5)) => ?_) (fun (b64 : ¬ (R.1 (0, 0, 0) 0) < (R.1 (9, 0, b.toNatClampNeg) 5)) => ?_)
        · refine y_iconst (pc := 235) (x := 0) o dX16_lay_235 (by decide) ?_
          refine y_istore (pc := 236) (i := 11) (lv' := [(11, .int (0)), (10, .int ((((d + (gper c)) - 1) / (gper c)) * 2)), (9, .int (gabs ((2 * (R.1 (9, 0, b.toNatClampNeg) 4)) - (R.1 (8, 0, a.toNatClampNeg) 3)))), (8, .ref (ad (29, 0, b.toNatClampNeg))), (7, .ref (ad (28, 0, a.toNatClampNeg))), (6, .int (5)), (0, .ref (ad (20, 0, 0))), (1, .int (a)), (2, .int (b)), (3, .int (c)), (4, .int (d)), (5, .int (e))]) o dX16_lay_236 (by decide) rfl ?_
          refine y_aload_n (pc := 238) o dX16_lay_238 rfl ?_
          refine y_iload (pc := 239) o dX16_lay_239 rfl ?_
          refine y_if_ne (pc := 241) (tgt := 248) o dX16_lay_241 rfl (fun b65 => absurd b65 (by rw [b49]; decide)) (fun (b65 : 0 = 0) => ?_)
          refine y_iconst (pc := 244) (x := 1) o dX16_lay_244 (by decide) ?_
          refine y_goto (pc := 245) (tgt := 249) o dX16_lay_245 rfl ?_
          refine y_iconst (pc := 249) (x := 3) o dX16_lay_249 (by decide) ?_
          refine z_callV (pc := 250) (k := 0) (n := 0) (k' := 0) (n' := 0) o (b := ad (20, 0, 0)) (As := [.int (1), .int (3)]) (rest := []) (kFailsT hR h5 3 (by decide)) ln_X16_74 dX16_lay_250 (z_rc (ci := 20) (K := (20, 0, 0)) rfl (gl_20 hR) rfl) rfl rfl (Nat.le_of_ble_eq_true rfl) ⟨by decide, by decide⟩ ⟨rfl, rfl⟩ ⟨by decide, by decide⟩ rfl gq_nox2 ?_
          refine y_if_ne (pc := 253) (tgt := 283) o dX16_lay_253 rfl (fun (b66 : ¬ 1 = 0) => ?_) (fun b66 => absurd b66 (by decide))
          refine y_iconst (pc := 283) (x := -1) o dX16_lay_283 (by decide) ?_
          exact y_iret (pc := 284) o dX16_lay_284 rfl (vp_nar_int _) (by decide) (by decide) (fun h hp => gP_thr (k := 3) (by simp +decide only [F_lay, b46, b48, b51, b53, gm1_f (hI.2.2.2.2.1 _ (gix_lt (Nat.le_trans (hBR 2 0 (by decide)) (by decide)) b46)).2.2.1 f55, f56, b64, gper_n5 b2, gtc0, gtc1, gtc2, gtc3, gtc4, not_true_eq_false, not_false_eq_true, if_true, if_false, or_true, true_or, or_false, false_or, and_true, true_and, and_false, false_and, or_self, and_self, eq_self, Bool.false_eq_true, ne_eq, reduceIte]) (by decide) hp)
        refine y_aload (pc := 197) o dX16_lay_197 rfl ?_
        refine z_get (pc := 199) (K := (29, 0, b.toNatClampNeg)) (v := .int (R.1 (9, 0, b.toNatClampNeg) 4)) o fl_X16_227 dX16_lay_199 (gl_29 (gix_lt (Nat.le_trans (hBR 3 0 (by decide)) (by decide)) b48)) rfl rfl ?_
        refine z_if_le (pc := 202) (tgt := 235) o dX16_lay_202 rfl (fun (b67 : ¬ 0 < (R.1 (9, 0, b.toNatClampNeg) 4)) => ?_) (fun (b67 : 0 < (R.1 (9, 0, b.toNatClampNeg) 4)) => ?_)
        · refine y_iconst (pc := 235) (x := 0) o dX16_lay_235 (by decide) ?_
          refine y_istore (pc := 236) (i := 11) (lv' := [(11, .int (0)), (10, .int ((((d + (gper c)) - 1) / (gper c)) * 2)), (9, .int (gabs ((2 * (R.1 (9, 0, b.toNatClampNeg) 4)) - (R.1 (8, 0, a.toNatClampNeg) 3)))), (8, .ref (ad (29, 0, b.toNatClampNeg))), (7, .ref (ad (28, 0, a.toNatClampNeg))), (6, .int (5)), (0, .ref (ad (20, 0, 0))), (1, .int (a)), (2, .int (b)), (3, .int (c)), (4, .int (d)), (5, .int (e))]) o dX16_lay_236 (by decide) rfl ?_
          refine y_aload_n (pc := 238) o dX16_lay_238 rfl ?_
          refine y_iload (pc := 239) o dX16_lay_239 rfl ?_
          refine y_if_ne (pc := 241) (tgt := 248) o dX16_lay_241 rfl (fun b68 => absurd b68 (by rw [b49]; decide)) (fun (b68 : 0 = 0) => ?_)
          refine y_iconst (pc := 244) (x := 1) o dX16_lay_244 (by decide) ?_
          refine y_goto (pc := 245) (tgt := 249) o dX16_lay_245 rfl ?_
          refine y_iconst (pc := 249) (x := 3) o dX16_lay_249 (by decide) ?_
          refine z_callV (pc := 250) (k := 0) (n := 0) (k' := 0) (n' := 0) o (b := ad (20, 0, 0)) (As := [.int (1), .int (3)]) (rest := []) (kFailsT hR h5 3 (by decide)) ln_X16_74 dX16_lay_250 (z_rc (ci := 20) (K := (20, 0, 0)) rfl (gl_20 hR) rfl) rfl rfl (Nat.le_of_ble_eq_true rfl) ⟨by decide, by decide⟩ ⟨rfl, rfl⟩ ⟨by decide, by decide⟩ rfl gq_nox2 ?_
          refine y_if_ne (pc := 253) (tgt := 283) o dX16_lay_253 rfl (fun (b69 : ¬ 1 = 0) => ?_) (fun b69 => absurd b69 (by decide))
          refine y_iconst (pc := 283) (x := -1) o dX16_lay_283 (by decide) ?_
          exact y_iret (pc := 284) o dX16_lay_284 rfl (vp_nar_int _) (by decide) (by decide) (fun h hp => gP_thr (k := 3) (by simp +decide only [F_lay, b46, b48, b51, b53, gm1_f (hI.2.2.2.2.1 _ (gix_lt (Nat.le_trans (hBR 2 0 (by decide)) (by decide)) b46)).2.2.1 f55, f56, b64, b67, gper_n5 b2, gtc0, gtc1, gtc2, gtc3, gtc4, not_true_eq_false, not_false_eq_true, if_true, if_false, or_true, true_or, or_false, false_or, and_true, true_and, and_false, false_and, or_self, and_self, eq_self, Bool.false_eq_true, ne_eq, reduceIte]) (by decide) hp)
        refine y_iload (pc := 205) o dX16_lay_205 rfl ?_
        refine y_iconst (pc := 207) (x := 2) o dX16_lay_207 (by decide) ?_
        refine y_icmp_gt (pc := 208) (tgt := 235) o dX16_lay_208 rfl (fun (b70 : 2 < (gabs ((2 * (R.1 (9, 0, b.toNatClampNeg) 4)) - (R.1 (8, 0, a.toNatClampNeg) 3)))) => ?_) (fun (b70 : ¬ 2 < (gabs ((2 * (R.1 (9, 0, b.toNatClampNeg) 4)) - (R.1 (8, 0, a.toNatClampNeg) 3)))) => ?_)
        · refine y_iconst (pc := 235) (x := 0) o dX16_lay_235 (by decide) ?_
          refine y_istore (pc := 236) (i := 11) (lv' := [(11, .int (0)), (10, .int ((((d + (gper c)) - 1) / (gper c)) * 2)), (9, .int (gabs ((2 * (R.1 (9, 0, b.toNatClampNeg) 4)) - (R.1 (8, 0, a.toNatClampNeg) 3)))), (8, .ref (ad (29, 0, b.toNatClampNeg))), (7, .ref (ad (28, 0, a.toNatClampNeg))), (6, .int (5)), (0, .ref (ad (20, 0, 0))), (1, .int (a)), (2, .int (b)), (3, .int (c)), (4, .int (d)), (5, .int (e))]) o dX16_lay_236 (by decide) rfl ?_
          refine y_aload_n (pc := 238) o dX16_lay_238 rfl ?_
          refine y_iload (pc := 239) o dX16_lay_239 rfl ?_
          refine y_if_ne (pc := 241) (tgt := 248) o dX16_lay_241 rfl (fun b71 => absurd b71 (by rw [b49]; decide)) (fun (b71 : 0 = 0) => ?_)
          refine y_iconst (pc := 244) (x := 1) o dX16_lay_244 (by decide) ?_
          refine y_goto (pc := 245) (tgt := 249) o dX16_lay_245 rfl ?_
          refine y_iconst (pc := 249) (x := 3) o dX16_lay_249 (by decide) ?_
          refine z_callV (pc := 250) (k := 0) (n := 0) (k' := 0) (n' := 0) o (b := ad (20, 0, 0)) (As := [.int (1), .int (3)]) (rest := []) (kFailsT hR h5 3 (by decide)) ln_X16_74 dX16_lay_250 (z_rc (ci := 20) (K := (20, 0, 0)) rfl (gl_20 hR) rfl) rfl rfl (Nat.le_of_ble_eq_true rfl) ⟨by decide, by decide⟩ ⟨rfl, rfl⟩ ⟨by decide, by decide⟩ rfl gq_nox2 ?_
          refine y_if_ne (pc := 253) (tgt := 283) o dX16_lay_253 rfl (fun (b72 : ¬ 1 = 0) => ?_) (fun b72 => absurd b72 (by decide))
          refine y_iconst (pc := 283) (x := -1) o dX16_lay_283 (by decide) ?_
          exact y_iret (pc := 284) o dX16_lay_284 rfl (vp_nar_int _) (by decide) (by decide) (fun h hp => gP_thr (k := 3) (by simp +decide only [F_lay, b46, b48, b51, b53, gm1_f (hI.2.2.2.2.1 _ (gix_lt (Nat.le_trans (hBR 2 0 (by decide)) (by decide)) b46)).2.2.1 f55, f56, b64, b67, b70, gper_n5 b2, gtc0, gtc1, gtc2, gtc3, gtc4, not_true_eq_false, not_false_eq_true, if_true, if_false, or_true, true_or, or_false, false_or, and_true, true_and, and_false, false_and, or_self, and_self, eq_self, Bool.false_eq_true, ne_eq, reduceIte]) (by decide) hp)
        refine y_aload (pc := 211) o dX16_lay_211 rfl ?_
        refine z_get (pc := 213) (K := (28, 0, a.toNatClampNeg)) (v := .int (R.1 (8, 0, a.toNatClampNeg) 1)) o fl_X16_138 dX16_lay_213 (gl_28 (gix_lt (Nat.le_trans (hBR 2 0 (by decide)) (by decide)) b46)) rfl rfl ?_
        refine y_iload (pc := 216) o dX16_lay_216 rfl ?_
        refine y_icmp_lt (pc := 218) (tgt := 235) o dX16_lay_218 rfl (fun (b73 : (R.1 (8, 0, a.toNatClampNeg) 1) < d) => ?_) (fun (b73 : ¬ (R.1 (8, 0, a.toNatClampNeg) 1) < d) => ?_)
        · refine y_iconst (pc := 235) (x := 0) o dX16_lay_235 (by decide) ?_
          refine y_istore (pc := 236) (i := 11) (lv' := [(11, .int (0)), (10, .int ((((d + (gper c)) - 1) / (gper c)) * 2)), (9, .int (gabs ((2 * (R.1 (9, 0, b.toNatClampNeg) 4)) - (R.1 (8, 0, a.toNatClampNeg) 3)))), (8, .ref (ad (29, 0, b.toNatClampNeg))), (7, .ref (ad (28, 0, a.toNatClampNeg))), (6, .int (5)), (0, .ref (ad (20, 0, 0))), (1, .int (a)), (2, .int (b)), (3, .int (c)), (4, .int (d)), (5, .int (e))]) o dX16_lay_236 (by decide) rfl ?_
          refine y_aload_n (pc := 238) o dX16_lay_238 rfl ?_
          refine y_iload (pc := 239) o dX16_lay_239 rfl ?_
          refine y_if_ne (pc := 241) (tgt := 248) o dX16_lay_241 rfl (fun b74 => absurd b74 (by rw [b49]; decide)) (fun (b74 : 0 = 0) => ?_)
          refine y_iconst (pc := 244) (x := 1) o dX16_lay_244 (by decide) ?_
          refine y_goto (pc := 245) (tgt := 249) o dX16_lay_245 rfl ?_
          refine y_iconst (pc := 249) (x := 3) o dX16_lay_249 (by decide) ?_
          refine z_callV (pc := 250) (k := 0) (n := 0) (k' := 0) (n' := 0) o (b := ad (20, 0, 0)) (As := [.int (1), .int (3)]) (rest := []) (kFailsT hR h5 3 (by decide)) ln_X16_74 dX16_lay_250 (z_rc (ci := 20) (K := (20, 0, 0)) rfl (gl_20 hR) rfl) rfl rfl (Nat.le_of_ble_eq_true rfl) ⟨by decide, by decide⟩ ⟨rfl, rfl⟩ ⟨by decide, by decide⟩ rfl gq_nox2 ?_
          refine y_if_ne (pc := 253) (tgt := 283) o dX16_lay_253 rfl (fun (b75 : ¬ 1 = 0) => ?_) (fun b75 => absurd b75 (by decide))
          refine y_iconst (pc := 283) (x := -1) o dX16_lay_283 (by decide) ?_
          exact y_iret (pc := 284) o dX16_lay_284 rfl (vp_nar_int _) (by decide) (by decide) (fun h hp => gP_thr (k := 3) (by simp +decide only [F_lay, b46, b48, b51, b53, gm1_f (hI.2.2.2.2.1 _ (gix_lt (Nat.le_trans (hBR 2 0 (by decide)) (by decide)) b46)).2.2.1 f55, f56, b64, b67, b70, b73, gper_n5 b2, gtc0, gtc1, gtc2, gtc3, gtc4, not_true_eq_false, not_false_eq_true, if_true, if_false, or_true, true_or, or_false, false_or, and_true, true_and, and_false, false_and, or_self, and_self, eq_self, Bool.false_eq_true, ne_eq, reduceIte]) (by decide) hp)
        refine y_aload (pc := 221) o dX16_lay_221 rfl ?_
        refine z_get (pc := 223) (K := (29, 0, b.toNatClampNeg)) (v := .int (R.1 (9, 0, b.toNatClampNeg) 3)) o fl_X16_216 dX16_lay_223 (gl_29 (gix_lt (Nat.le_trans (hBR 3 0 (by decide)) (by decide)) b48)) rfl rfl ?_
        refine y_iload (pc := 226) o dX16_lay_226 rfl ?_
        refine y_icmp_lt (pc := 228) (tgt := 235) o dX16_lay_228 rfl (fun (b76 : (R.1 (9, 0, b.toNatClampNeg) 3) < ((((d + (gper c)) - 1) / (gper c)) * 2)) => ?_) (fun (b76 : ¬ (R.1 (9, 0, b.toNatClampNeg) 3) < ((((d + (gper c)) - 1) / (gper c)) * 2)) => ?_)
        · refine y_iconst (pc := 235) (x := 0) o dX16_lay_235 (by decide) ?_
          refine y_istore (pc := 236) (i := 11) (lv' := [(11, .int (0)), (10, .int ((((d + (gper c)) - 1) / (gper c)) * 2)), (9, .int (gabs ((2 * (R.1 (9, 0, b.toNatClampNeg) 4)) - (R.1 (8, 0, a.toNatClampNeg) 3)))), (8, .ref (ad (29, 0, b.toNatClampNeg))), (7, .ref (ad (28, 0, a.toNatClampNeg))), (6, .int (5)), (0, .ref (ad (20, 0, 0))), (1, .int (a)), (2, .int (b)), (3, .int (c)), (4, .int (d)), (5, .int (e))]) o dX16_lay_236 (by decide) rfl ?_
          refine y_aload_n (pc := 238) o dX16_lay_238 rfl ?_
          refine y_iload (pc := 239) o dX16_lay_239 rfl ?_
          refine y_if_ne (pc := 241) (tgt := 248) o dX16_lay_241 rfl (fun b77 => absurd b77 (by rw [b49]; decide)) (fun (b77 : 0 = 0) => ?_)
          refine y_iconst (pc := 244) (x := 1) o dX16_lay_244 (by decide) ?_
          refine y_goto (pc := 245) (tgt := 249) o dX16_lay_245 rfl ?_
          refine y_iconst (pc := 249) (x := 3) o dX16_lay_249 (by decide) ?_
          refine z_callV (pc := 250) (k := 0) (n := 0) (k' := 0) (n' := 0) o (b := ad (20, 0, 0)) (As := [.int (1), .int (3)]) (rest := []) (kFailsT hR h5 3 (by decide)) ln_X16_74 dX16_lay_250 (z_rc (ci := 20) (K := (20, 0, 0)) rfl (gl_20 hR) rfl) rfl rfl (Nat.le_of_ble_eq_true rfl) ⟨by decide, by decide⟩ ⟨rfl, rfl⟩ ⟨by decide, by decide⟩ rfl gq_nox2 ?_
          refine y_if_ne (pc := 253) (tgt := 283) o dX16_lay_253 rfl (fun (b78 : ¬ 1 = 0) => ?_) (fun b78 => absurd b78 (by decide))
          refine y_iconst (pc := 283) (x := -1) o dX16_lay_283 (by decide) ?_
          exact y_iret (pc := 284) o dX16_lay_284 rfl (vp_nar_int _) (by decide) (by decide) (fun h hp => gP_thr (k := 3) (by simp +decide only [F_lay, b46, b48, b51, b53, gm1_f (hI.2.2.2.2.1 _ (gix_lt (Nat.le_trans (hBR 2 0 (by decide)) (by decide)) b46)).2.2.1 f55, f56, b64, b67, b70, b73, b76, gper_n5 b2, gtc0, gtc1, gtc2, gtc3, gtc4, not_true_eq_false, not_false_eq_true, if_true, if_false, or_true, true_or, or_false, false_or, and_true, true_and, and_false, false_and, or_self, and_self, eq_self, Bool.false_eq_true, ne_eq, reduceIte]) (by decide) hp)
        refine y_iconst (pc := 231) (x := 1) o dX16_lay_231 (by decide) ?_
        refine y_goto (pc := 232) (tgt := 236) o dX16_lay_232 rfl ?_
        refine y_istore (pc := 236) (i := 11) (lv' := [(11, .int (1)), (10, .int ((((d + (gper c)) - 1) / (gper c)) * 2)), (9, .int (gabs ((2 * (R.1 (9, 0, b.toNatClampNeg) 4)) - (R.1 (8, 0, a.toNatClampNeg) 3)))), (8, .ref (ad (29, 0, b.toNatClampNeg))), (7, .ref (ad (28, 0, a.toNatClampNeg))), (6, .int (5)), (0, .ref (ad (20, 0, 0))), (1, .int (a)), (2, .int (b)), (3, .int (c)), (4, .int (d)), (5, .int (e))]) o dX16_lay_236 (by decide) rfl ?_
        refine y_aload_n (pc := 238) o dX16_lay_238 rfl ?_
        refine y_iload (pc := 239) o dX16_lay_239 rfl ?_
        refine y_if_ne (pc := 241) (tgt := 248) o dX16_lay_241 rfl (fun (b79 : ¬ 1 = 0) => ?_) (fun b79 => absurd b79 (by decide))
        refine y_iconst (pc := 248) (x := 0) o dX16_lay_248 (by decide) ?_
        refine y_iconst (pc := 249) (x := 3) o dX16_lay_249 (by decide) ?_
        refine z_callV (pc := 250) (k := 0) (n := 0) (k' := 0) (n' := 0) o (b := ad (20, 0, 0)) (As := [.int (0), .int (3)]) (rest := []) (kFailsF hR h5 3) ln_X16_74 dX16_lay_250 (z_rc (ci := 20) (K := (20, 0, 0)) rfl (gl_20 hR) rfl) rfl rfl (Nat.le_of_ble_eq_true rfl) ⟨by decide, by decide⟩ ⟨rfl, rfl⟩ ⟨by decide, by decide⟩ rfl gq_nox2 ?_
        refine y_if_ne (pc := 253) (tgt := 283) o dX16_lay_253 rfl (fun b80 => absurd b80 (by rw [b49]; decide)) (fun (b80 : 0 = 0) => ?_)
        refine y_aload_n (pc := 256) o dX16_lay_256 rfl ?_
        refine y_aload_n (pc := 257) o dX16_lay_257 rfl ?_
        refine z_get (pc := 258) (K := (20, 0, 0)) (v := .ref (ad (24, 4, 0))) o fl_X16_57 dX16_lay_258 (gl_20 hR) rfl rfl ?_
        refine z_callF (pc := 261) (k := 0) (n := 0) (k' := 0) (n' := 0) (ci := 3) o (b := ad (24, 4, 0)) (As := []) (rest := [.ref (ad (20, 0, 0))]) (sizeR (l := 4) (g := 0) (gl_24_4 hR)) rfl lf_X16_7 dX16_lay_261 (fun h hr => ⟨_, ghdr_R (R := R) (gl_24_4 hR) hr⟩) rfl rfl (Nat.le_of_ble_eq_true rfl) ⟨by decide, by decide⟩ ⟨rfl, rfl⟩ ⟨by decide, by decide⟩ ?_
        refine y_bipush (pc := 266) (x := 16) o dX16_lay_266 (by decide) ?_
        refine y_icmp_ne (pc := 268) (tgt := 275) o dX16_lay_268 rfl (fun (b81 : ¬ (Int32.ofNat (R.2 10 0)) = 16) => ?_) (fun (b81 : (Int32.ofNat (R.2 10 0)) = 16) => ?_)
        · refine y_iconst (pc := 275) (x := 0) o dX16_lay_275 (by decide) ?_
          refine y_iconst (pc := 276) (x := 4) o dX16_lay_276 (by decide) ?_
          refine z_callV (pc := 277) (k := 0) (n := 0) (k' := 0) (n' := 0) o (b := ad (20, 0, 0)) (As := [.int (0), .int (4)]) (rest := []) (kFailsF hR h5 4) ln_X16_74 dX16_lay_277 (z_rc (ci := 20) (K := (20, 0, 0)) rfl (gl_20 hR) rfl) rfl rfl (Nat.le_of_ble_eq_true rfl) ⟨by decide, by decide⟩ ⟨rfl, rfl⟩ ⟨by decide, by decide⟩ rfl gq_nox2 ?_
          refine y_if_eq (pc := 280) (tgt := 285) o dX16_lay_280 rfl (fun (b82 : 0 = 0) => ?_) (fun b82 => absurd b82 (by rw [b49]; decide))
          refine y_aload (pc := 285) o dX16_lay_285 rfl ?_
          refine y_dup (pc := 287) o dX16_lay_287 rfl ?_
          refine z_get (pc := 288) (K := (28, 0, a.toNatClampNeg)) (v := .int (R.1 (8, 0, a.toNatClampNeg) 1)) o fl_X16_138 dX16_lay_288 (gl_28 (gix_lt (Nat.le_trans (hBR 2 0 (by decide)) (by decide)) b46)) rfl rfl ?_
          refine y_iload (pc := 291) o dX16_lay_291 rfl ?_
          refine y_isub (pc := 293) o dX16_lay_293 ?_
          refine z_putR (pc := 294) (K := (28, 0, a.toNatClampNeg)) (fd := 1) (x := (R.1 (8, 0, a.toNatClampNeg) 1) - d) (B := (8, 0, a.toNatClampNeg)) o fw_X16_138 dX16_lay_294 (gl_28 (gix_lt (Nat.le_trans (hBR 2 0 (by decide)) (by decide)) b46)) (show 24 ≤ (28:Nat) by decide) rfl rfl (Nat.le_of_ble_eq_true rfl) (vp_nar_int _) rfl rfl pR_28_1 ?_
          refine y_aload (pc := 297) o dX16_lay_297 rfl ?_
          refine y_dup (pc := 299) o dX16_lay_299 rfl ?_
          refine z_get (pc := 300) (K := (29, 0, b.toNatClampNeg)) (v := .int ((gup R (8, 0, a.toNatClampNeg) 1 ((R.1 (8, 0, a.toNatClampNeg) 1) - d)).1 (9, 0, b.toNatClampNeg) 3)) o fl_X16_216 dX16_lay_300 (gl_29 (gix_lt (Nat.le_trans (hBR 3 0 (by decide)) (by decide)) b48)) rfl rfl ?_
          refine z_top (congrArg Value.int (gup_ff _ (show (3:Nat) ≠ 1 by decide))) ?_
          refine y_iload (pc := 303) o dX16_lay_303 rfl ?_
          refine y_isub (pc := 305) o dX16_lay_305 ?_
          refine z_putR (pc := 306) (K := (29, 0, b.toNatClampNeg)) (fd := 3) (x := (R.1 (9, 0, b.toNatClampNeg) 3) - ((((d + (gper c)) - 1) / (gper c)) * 2)) (B := (9, 0, b.toNatClampNeg)) o fw_X16_216 dX16_lay_306 (gl_29 (gix_lt (Nat.le_trans (hBR 3 0 (by decide)) (by decide)) b48)) (show 24 ≤ (29:Nat) by decide) rfl rfl (Nat.le_of_ble_eq_true rfl) (vp_nar_int _) rfl rfl pR_29_3 ?_
          refine z_new (pc := 309) (k := 0) (n := 0) o nw_X16_237 dX16_lay_309 (by decide) (by decide) (fun q83 => ?_)
          refine y_dup (pc := 312) o dX16_lay_312 rfl ?_
          refine z_callI (pc := 313) (k := 1) (n := 11) (k' := 1) (n' := 11) o (b := q83) (As := []) (rest := [.ref (q83)]) (kX14_init _ ) ln_X16_239 dX16_lay_313 rfl rfl (Nat.le_of_ble_eq_true rfl) ⟨by decide, by decide⟩ ⟨rfl, rfl⟩ ⟨by decide, by decide⟩ ?_
          refine y_astore (pc := 316) (i := 12) (lv' := [(12, .ref (q83)), (11, .int (1)), (10, .int ((((d + (gper c)) - 1) / (gper c)) * 2)), (9, .int (gabs ((2 * (R.1 (9, 0, b.toNatClampNeg) 4)) - (R.1 (8, 0, a.toNatClampNeg) 3)))), (8, .ref (ad (29, 0, b.toNatClampNeg))), (7, .ref (ad (28, 0, a.toNatClampNeg))), (6, .int (5)), (0, .ref (ad (20, 0, 0))), (1, .int (a)), (2, .int (b)), (3, .int (c)), (4, .int (d)), (5, .int (e))]) o dX16_lay_316 (by decide) rfl ?_
          refine y_aload (pc := 318) o dX16_lay_318 rfl ?_
          refine y_iload_n (pc := 320) o dX16_lay_320 rfl ?_
          refine z_putT (pc := 321) (fs' := [.int (a), .int (0), .int (0), .int (0), .int (0), .int (0), .int (0), .int (0), .int (-1), .int (-1), .int (0)]) (T' := (q83, .inr (18, [.int (a), .int (0), .int (0), .int (0), .int (0), .int (0), .int (0), .int (0), .int (-1), .int (-1), .int (0)])) :: T) o 0 fw_X16_240 dX16_lay_321 rfl (Nat.le_of_ble_eq_true rfl) (vp_nar_int _) rfl rfl rfl ?_
          refine y_aload (pc := 324) o dX16_lay_324 rfl ?_
          refine y_iload_n (pc := 326) o dX16_lay_326 rfl ?_
          refine z_putT (pc := 327) (fs' := [.int (a), .int (b), .int (0), .int (0), .int (0), .int (0), .int (0), .int (0), .int (-1), .int (-1), .int (0)]) (T' := (q83, .inr (18, [.int (a), .int (b), .int (0), .int (0), .int (0), .int (0), .int (0), .int (0), .int (-1), .int (-1), .int (0)])) :: T) o 0 fw_X16_243 dX16_lay_327 rfl (Nat.le_of_ble_eq_true rfl) (vp_nar_int _) rfl rfl rfl ?_
          refine y_aload (pc := 330) o dX16_lay_330 rfl ?_
          refine y_iload (pc := 332) o dX16_lay_332 rfl ?_
          refine z_putT (pc := 334) (fs' := [.int (a), .int (b), .int (e), .int (0), .int (0), .int (0), .int (0), .int (0), .int (-1), .int (-1), .int (0)]) (T' := (q83, .inr (18, [.int (a), .int (b), .int (e), .int (0), .int (0), .int (0), .int (0), .int (0), .int (-1), .int (-1), .int (0)])) :: T) o 0 fw_X16_245 dX16_lay_334 rfl (Nat.le_of_ble_eq_true rfl) (vp_nar_int _) rfl rfl rfl ?_
          refine y_aload (pc := 337) o dX16_lay_337 rfl ?_
          refine y_iload (pc := 339) o dX16_lay_339 rfl ?_
          refine z_putT (pc := 341) (fs' := [.int (a), .int (b), .int (e), .int (d), .int (0), .int (0), .int (0), .int (0), .int (-1), .int (-1), .int (0)]) (T' := (q83, .inr (18, [.int (a), .int (b), .int (e), .int (d), .int (0), .int (0), .int (0), .int (0), .int (-1), .int (-1), .int (0)])) :: T) o 0 fw_X16_248 dX16_lay_341 rfl (Nat.le_of_ble_eq_true rfl) (vp_nar_int _) rfl rfl rfl ?_
          refine y_aload (pc := 344) o dX16_lay_344 rfl ?_
          refine y_iload (pc := 346) o dX16_lay_346 rfl ?_
          refine y_aload (pc := 348) o dX16_lay_348 rfl ?_
          refine z_get (pc := 350) (K := (29, 0, b.toNatClampNeg)) (v := .int ((gup (gup R (8, 0, a.toNatClampNeg) 1 ((R.1 (8, 0, a.toNatClampNeg) 1) - d)) (9, 0, b.toNatClampNeg) 3 ((R.1 (9, 0, b.toNatClampNeg) 3) - ((((d + (gper c)) - 1) / (gper c)) * 2))).1 (9, 0, b.toNatClampNeg) 1)) o fl_X16_210 dX16_lay_350 (gl_29 (gix_lt (Nat.le_trans (hBR 3 0 (by decide)) (by decide)) b48)) rfl rfl ?_
          refine z_top (congrArg Value.int (Eq.trans (gup_vf _ (show (1:Nat) ≠ 3 by decide)) (gup_vc _ (show (9:Nat) ≠ 8 by decide)))) ?_
          refine y_iconst (pc := 353) (x := 4) o dX16_lay_353 (by decide) ?_
          refine y_idiv (pc := 354) o dX16_lay_354 (by decide) ?_
          refine y_iadd (pc := 355) o dX16_lay_355 ?_
          refine z_putT (pc := 356) (fs' := [.int (a), .int (b), .int (e), .int (d), .int (0), .int ((gabs ((2 * (R.1 (9, 0, b.toNatClampNeg) 4)) - (R.1 (8, 0, a.toNatClampNeg) 3))) + ((R.1 (9, 0, b.toNatClampNeg) 1) / 4)), .int (0), .int (0), .int (-1), .int (-1), .int (0)]) (T' := (q83, .inr (18, [.int (a), .int (b), .int (e), .int (d), .int (0), .int ((gabs ((2 * (R.1 (9, 0, b.toNatClampNeg) 4)) - (R.1 (8, 0, a.toNatClampNeg) 3))) + ((R.1 (9, 0, b.toNatClampNeg) 1) / 4)), .int (0), .int (0), .int (-1), .int (-1), .int (0)])) :: T) o 0 fw_X16_249 dX16_lay_356 rfl (Nat.le_of_ble_eq_true rfl) (vp_nar_int _) rfl rfl rfl ?_
          refine y_aload (pc := 359) o dX16_lay_359 rfl ?_
          refine y_aload_n (pc := 361) o dX16_lay_361 rfl ?_
          refine z_get (pc := 362) (K := (20, 0, 0)) (v := .int ((gup (gup R (8, 0, a.toNatClampNeg) 1 ((R.1 (8, 0, a.toNatClampNeg) 1) - d)) (9, 0, b.toNatClampNeg) 3 ((R.1 (9, 0, b.toNatClampNeg) 3) - ((((d + (gper c)) - 1) / (gper c)) * 2))).1 (0, 0, 0) 0)) o fl_X16_78 dX16_lay_362 (gl_20 hR) rfl rfl ?_
          refine z_top (congrArg Value.int (Eq.trans (gup_ff _ (show (0:Nat) ≠ 3 by decide)) (gup_ff _ (show (0:Nat) ≠ 1 by decide)))) ?_
          refine y_bipush (pc := 365) (x := 6) o dX16_lay_365 (by decide) ?_
          refine y_iadd (pc := 367) o dX16_lay_367 ?_
          refine z_putT (pc := 368) (fs' := [.int (a), .int (b), .int (e), .int (d), .int (0), .int ((gabs ((2 * (R.1 (9, 0, b.toNatClampNeg) 4)) - (R.1 (8, 0, a.toNatClampNeg) 3))) + ((R.1 (9, 0, b.toNatClampNeg) 1) / 4)), .int ((R.1 (0, 0, 0) 0) + 6), .int (0), .int (-1), .int (-1), .int (0)]) (T' := (q83, .inr (18, [.int (a), .int (b), .int (e), .int (d), .int (0), .int ((gabs ((2 * (R.1 (9, 0, b.toNatClampNeg) 4)) - (R.1 (8, 0, a.toNatClampNeg) 3))) + ((R.1 (9, 0, b.toNatClampNeg) 1) / 4)), .int ((R.1 (0, 0, 0) 0) + 6), .int (0), .int (-1), .int (-1), .int (0)])) :: T) o 0 fw_X16_252 dX16_lay_368 rfl (Nat.le_of_ble_eq_true rfl) (vp_nar_int _) rfl rfl rfl ?_
          refine y_aload_n (pc := 371) o dX16_lay_371 rfl ?_
          refine z_get (pc := 372) (K := (20, 0, 0)) (v := .ref (ad (24, 4, 0))) o fl_X16_57 dX16_lay_372 (gl_20 hR) rfl rfl ?_
          refine y_aload (pc := 375) o dX16_lay_375 rfl ?_
          refine y_mono (fun h hr => hr.ghost20 0 3 (R.1 (0, 0, 0) 3 + d) (by decide) (fun _ _ => rfl)) ?_
          refine y_callF (pc := 377) (ci := 3) (k := 1) (n := 11) o (b := ad (24, 4, 0)) (As := [.ref q83]) (rest := []) (addRa (C := C) (R := (gup (gup (gup R (8, 0, a.toNatClampNeg) 1 ((R.1 (8, 0, a.toNatClampNeg) 1) - d)) (9, 0, b.toNatClampNeg) 3 ((R.1 (9, 0, b.toNatClampNeg) 3) - ((((d + (gper c)) - 1) / (gper c)) * 2))) (0, 0, 0) 3 ((R.1 (0, 0, 0) 3) + d))) (l := 4) (g := 0) (n := R.2 10 0) (row := (glist [a, b, e, d, 0, (gabs ((2 * (R.1 (9, 0, b.toNatClampNeg) 4)) - (R.1 (8, 0, a.toNatClampNeg) 3))) + ((R.1 (9, 0, b.toNatClampNeg) 1) / 4), (R.1 (0, 0, 0) 0) + 6, 0, -1, -1, 0])) (a := 10) rfl (gl_24_4 hR) (Or.inr rfl) rfl (hBR 4 0 (by decide)) nR_10 (fun K hK => by cases hK)) rfl lf_X16_107 dX16_lay_377 (fun h hr => ⟨_, ghdr_R (R := (gup (gup (gup R (8, 0, a.toNatClampNeg) 1 ((R.1 (8, 0, a.toNatClampNeg) 1) - d)) (9, 0, b.toNatClampNeg) 3 ((R.1 (9, 0, b.toNatClampNeg) 3) - ((((d + (gper c)) - 1) / (gper c)) * 2))) (0, 0, 0) 3 ((R.1 (0, 0, 0) 3) + d))) (gl_24_4 hR) hr⟩) rfl rfl (Nat.le_of_ble_eq_true rfl) ⟨by decide, by decide⟩ ⟨by decide, by decide⟩ (fun _ e => e) (fun _ _ z => z) (fun v => y_and fun ev => y_ex fun ad84 => y_and fun had => y_and fun hadq => ?_)
          subst ev
          have e0 : ad84 (0, 0, 0) = ad (0, 0, 0) := had (0, 0, 0) (by simp) (by simp)
          have e20 : ad84 (20, 0, 0) = ad (20, 0, 0) := had (20, 0, 0) (by simp) (by simp)
          refine z_st (st' := [.int (1)]) rfl ?_
          rw [← e20]
          refine y_pop (pc := 382) o dX16_lay_382 rfl ?_
          refine y_aload_n (pc := 383) o dX16_lay_383 rfl ?_
          refine z_get (pc := 384) (K := (20, 0, 0)) (v := .ref (ad84 (24, 4, 0))) o fl_X16_57 dX16_lay_384 (gl_20 (gfix_new (a := 10) (by decide) hR)) rfl rfl ?_
          refine z_callF (pc := 387) (k := 2) (n := 267) (k' := 2) (n' := 267) (ci := 3) o (b := ad84 (24, 4, 0)) (As := []) (rest := []) (sizeR (l := 4) (g := 0) (gl_24_4 (gfix_new (a := 10) (by decide) hR))) rfl lf_X16_7 dX16_lay_387 (fun h hr => ⟨_, ghdr_R (R := (gnew (gup (gup (gup R (8, 0, a.toNatClampNeg) 1 ((R.1 (8, 0, a.toNatClampNeg) 1) - d)) (9, 0, b.toNatClampNeg) 3 ((R.1 (9, 0, b.toNatClampNeg) 3) - ((((d + (gper c)) - 1) / (gper c)) * 2))) (0, 0, 0) 3 ((R.1 (0, 0, 0) 3) + d)) (10, 0, (R.2 10 0)) ((glist [a, b, e, d, 0, (gabs ((2 * (R.1 (9, 0, b.toNatClampNeg) 4)) - (R.1 (8, 0, a.toNatClampNeg) 3))) + ((R.1 (9, 0, b.toNatClampNeg) 1) / 4), (R.1 (0, 0, 0) 0) + 6, 0, -1, -1, 0])))) (gl_24_4 (gfix_new (a := 10) (by decide) hR)) hr⟩) rfl rfl (Nat.le_of_ble_eq_true rfl) ⟨by decide, by decide⟩ ⟨rfl, rfl⟩ ⟨by decide, by decide⟩ ?_
          refine z_top (w := .int (Int32.ofNat (R.2 10 0 + 1))) (congrArg (fun z => Value.int (Int32.ofNat z)) (gnew_n _ _)) ?_
          refine y_iconst (pc := 392) (x := 1) o dX16_lay_392 (by decide) ?_
          refine y_isub (pc := 393) o dX16_lay_393 ?_
          exact y_iret (pc := 394) o dX16_lay_394 rfl (vp_nar_int _) (by decide) (by decide) (fun h hp => gP_mk (by simp +decide only [F_lay, b46, b48, b51, b53, gm1_f (hI.2.2.2.2.1 _ (gix_lt (Nat.le_trans (hBR 2 0 (by decide)) (by decide)) b46)).2.2.1 f55, f56, b64, b67, b70, b73, b76, gsz_f (k := 16) 16 rfl (by decide) hI.1.2.1.2.2.2.2.1 b81, gper_n5 b2, gtc0, gtc1, gtc2, gtc3, gtc4, not_true_eq_false, not_false_eq_true, if_true, if_false, or_true, true_or, or_false, false_or, and_true, true_and, and_false, false_and, or_self, and_self, eq_self, Bool.false_eq_true, ne_eq, reduceIte]) e0 e20 hp)
        refine y_iconst (pc := 271) (x := 1) o dX16_lay_271 (by decide) ?_
        refine y_goto (pc := 272) (tgt := 276) o dX16_lay_272 rfl ?_
        refine y_iconst (pc := 276) (x := 4) o dX16_lay_276 (by decide) ?_
        refine z_callV (pc := 277) (k := 0) (n := 0) (k' := 0) (n' := 0) o (b := ad (20, 0, 0)) (As := [.int (1), .int (4)]) (rest := []) (kFailsT hR h5 4 (by decide)) ln_X16_74 dX16_lay_277 (z_rc (ci := 20) (K := (20, 0, 0)) rfl (gl_20 hR) rfl) rfl rfl (Nat.le_of_ble_eq_true rfl) ⟨by decide, by decide⟩ ⟨rfl, rfl⟩ ⟨by decide, by decide⟩ rfl gq_nox2 ?_
        refine y_if_eq (pc := 280) (tgt := 285) o dX16_lay_280 rfl (fun b85 => absurd b85 (by decide)) (fun (b85 : ¬ 1 = 0) => ?_)
        refine y_iconst (pc := 283) (x := -1) o dX16_lay_283 (by decide) ?_
        exact y_iret (pc := 284) o dX16_lay_284 rfl (vp_nar_int _) (by decide) (by decide) (fun h hp => gP_thr (k := 4) (by simp +decide only [F_lay, b46, b48, b51, b53, gm1_f (hI.2.2.2.2.1 _ (gix_lt (Nat.le_trans (hBR 2 0 (by decide)) (by decide)) b46)).2.2.1 f55, f56, b64, b67, b70, b73, b76, gsz_t b81, gper_n5 b2, gtc0, gtc1, gtc2, gtc3, gtc4, not_true_eq_false, not_false_eq_true, if_true, if_false, or_true, true_or, or_false, false_or, and_true, true_and, and_false, false_and, or_self, and_self, eq_self, Bool.false_eq_true, ne_eq, reduceIte]) (by decide) hp)
      refine y_iconst (pc := 100) (x := 1) o dX16_lay_100 (by decide) ?_
      refine y_goto (pc := 101) (tgt := 105) o dX16_lay_101 rfl ?_
      refine y_iconst (pc := 105) (x := 2) o dX16_lay_105 (by decide) ?_
      refine z_callV (pc := 106) (k := 0) (n := 0) (k' := 0) (n' := 0) o (b := ad (20, 0, 0)) (As := [.int (1), .int (2)]) (rest := []) (kFailsT hR h5 2 (by decide)) ln_X16_74 dX16_lay_106 (z_rc (ci := 20) (K := (20, 0, 0)) rfl (gl_20 hR) rfl) rfl rfl (Nat.le_of_ble_eq_true rfl) ⟨by decide, by decide⟩ ⟨rfl, rfl⟩ ⟨by decide, by decide⟩ rfl gq_nox2 ?_
      refine y_if_eq (pc := 109) (tgt := 114) o dX16_lay_109 rfl (fun b86 => absurd b86 (by decide)) (fun (b86 : ¬ 1 = 0) => ?_)
      refine y_iconst (pc := 112) (x := -1) o dX16_lay_112 (by decide) ?_
      exact y_iret (pc := 113) o dX16_lay_113 rfl (vp_nar_int _) (by decide) (by decide) (fun h hp => gP_thr (k := 2) (by simp +decide only [F_lay, b46, b48, b51, b53, gper_n5 b2, gtc0, gtc1, gtc2, gtc3, gtc4, not_true_eq_false, not_false_eq_true, if_true, if_false, or_true, true_or, or_false, false_or, and_true, true_and, and_false, false_and, or_self, and_self, eq_self, Bool.false_eq_true, ne_eq, reduceIte]) (by decide) hp)
    refine y_iconst (pc := 52) (x := 1) o dX16_lay_52 (by decide) ?_
    refine y_goto (pc := 53) (tgt := 57) o dX16_lay_53 rfl ?_
    refine y_iconst (pc := 57) (x := 1) o dX16_lay_57 (by decide) ?_
    refine z_callV (pc := 58) (k := 0) (n := 0) (k' := 0) (n' := 0) o (b := ad (20, 0, 0)) (As := [.int (1), .int (1)]) (rest := []) (kFailsT hR h5 1 (by decide)) ln_X16_74 dX16_lay_58 (z_rc (ci := 20) (K := (20, 0, 0)) rfl (gl_20 hR) rfl) rfl rfl (Nat.le_of_ble_eq_true rfl) ⟨by decide, by decide⟩ ⟨rfl, rfl⟩ ⟨by decide, by decide⟩ rfl gq_nox2 ?_
    refine y_if_ne (pc := 61) (tgt := 112) o dX16_lay_61 rfl (fun (b87 : ¬ 1 = 0) => ?_) (fun b87 => absurd b87 (by decide))
    refine y_iconst (pc := 112) (x := -1) o dX16_lay_112 (by decide) ?_
    exact y_iret (pc := 113) o dX16_lay_113 rfl (vp_nar_int _) (by decide) (by decide) (fun h hp => gP_thr (k := 1) (by simp +decide only [F_lay, b46, b48, gper_n5 b2, gtc0, gtc1, gtc2, gtc3, gtc4, not_true_eq_false, not_false_eq_true, if_true, if_false, or_true, true_or, or_false, false_or, and_true, true_and, and_false, false_and, or_self, and_self, eq_self, Bool.false_eq_true, ne_eq, reduceIte]) (by decide) hp)
  refine y_bipush (pc := 10) (x := 6) o dX16_lay_10 (by decide) ?_
  refine y_goto (pc := 12) (tgt := 27) o dX16_lay_12 rfl ?_
  refine y_istore (pc := 27) (i := 6) (lv' := [(6, .int (6)), (0, .ref (ad (20, 0, 0))), (1, .int (a)), (2, .int (b)), (3, .int (c)), (4, .int (d)), (5, .int (e))]) o dX16_lay_27 (by decide) rfl ?_
  refine y_aload_n (pc := 29) o dX16_lay_29 rfl ?_
  refine y_aload_n (pc := 30) o dX16_lay_30 rfl ?_
  refine z_get (pc := 31) (K := (20, 0, 0)) (v := .ref (ad (24, 2, 0))) o fl_X16_51 dX16_lay_31 (gl_20 hR) rfl rfl ?_
  refine y_iload_n (pc := 34) o dX16_lay_34 rfl ?_
  refine z_callS (pc := 35) (k := 0) (n := 0) (k' := 0) (n' := 0) o (As := [.ref (ad (24, 2, 0)), .int (a)]) (rest := [.ref (ad (20, 0, 0))]) (kIsOf (l := 2) (g := 0) (gl_24_2 hR) hBR a) ln_X16_97 dX16_lay_35 rfl rfl (Nat.le_of_ble_eq_true rfl) ⟨by decide, by decide⟩ ⟨rfl, rfl⟩ ⟨by decide, by decide⟩ rfl gq_nox2 ?_
  refine z_beq (pc := 38) (tgt := 52) o dX16_lay_38 rfl (fun (b88 : ¬ (gix (R.2 8 0) a = true)) => ?_) (fun (b88 : gix (R.2 8 0) a = true) => ?_)
  · refine y_iconst (pc := 52) (x := 1) o dX16_lay_52 (by decide) ?_
    refine y_goto (pc := 53) (tgt := 57) o dX16_lay_53 rfl ?_
    refine y_iconst (pc := 57) (x := 1) o dX16_lay_57 (by decide) ?_
    refine z_callV (pc := 58) (k := 0) (n := 0) (k' := 0) (n' := 0) o (b := ad (20, 0, 0)) (As := [.int (1), .int (1)]) (rest := []) (kFailsT hR h5 1 (by decide)) ln_X16_74 dX16_lay_58 (z_rc (ci := 20) (K := (20, 0, 0)) rfl (gl_20 hR) rfl) rfl rfl (Nat.le_of_ble_eq_true rfl) ⟨by decide, by decide⟩ ⟨rfl, rfl⟩ ⟨by decide, by decide⟩ rfl gq_nox2 ?_
    refine y_if_ne (pc := 61) (tgt := 112) o dX16_lay_61 rfl (fun (b89 : ¬ 1 = 0) => ?_) (fun b89 => absurd b89 (by decide))
    refine y_iconst (pc := 112) (x := -1) o dX16_lay_112 (by decide) ?_
    exact y_iret (pc := 113) o dX16_lay_113 rfl (vp_nar_int _) (by decide) (by decide) (fun h hp => gP_thr (k := 1) (by simp +decide only [F_lay, b88, gper_n6 b1, gtc0, gtc1, gtc2, gtc3, gtc4, not_true_eq_false, not_false_eq_true, if_true, if_false, or_true, true_or, or_false, false_or, and_true, true_and, and_false, false_and, or_self, and_self, eq_self, Bool.false_eq_true, ne_eq, reduceIte]) (by decide) hp)
  refine y_aload_n (pc := 41) o dX16_lay_41 rfl ?_
  refine z_get (pc := 42) (K := (20, 0, 0)) (v := .ref (ad (24, 3, 0))) o fl_X16_54 dX16_lay_42 (gl_20 hR) rfl rfl ?_
  refine y_iload_n (pc := 45) o dX16_lay_45 rfl ?_
  refine z_callS (pc := 46) (k := 0) (n := 0) (k' := 0) (n' := 0) o (As := [.ref (ad (24, 3, 0)), .int (b)]) (rest := [.ref (ad (20, 0, 0))]) (kIsOf (l := 3) (g := 0) (gl_24_3 hR) hBR b) ln_X16_97 dX16_lay_46 rfl rfl (Nat.le_of_ble_eq_true rfl) ⟨by decide, by decide⟩ ⟨rfl, rfl⟩ ⟨by decide, by decide⟩ rfl gq_nox2 ?_
  refine z_bne (pc := 49) (tgt := 56) o dX16_lay_49 rfl (fun (b90 : gix (R.2 9 0) b = true) => ?_) (fun (b90 : ¬ (gix (R.2 9 0) b = true)) => ?_)
  · refine y_iconst (pc := 56) (x := 0) o dX16_lay_56 (by decide) ?_
    refine y_iconst (pc := 57) (x := 1) o dX16_lay_57 (by decide) ?_
    refine z_callV (pc := 58) (k := 0) (n := 0) (k' := 0) (n' := 0) o (b := ad (20, 0, 0)) (As := [.int (0), .int (1)]) (rest := []) (kFailsF hR h5 1) ln_X16_74 dX16_lay_58 (z_rc (ci := 20) (K := (20, 0, 0)) rfl (gl_20 hR) rfl) rfl rfl (Nat.le_of_ble_eq_true rfl) ⟨by decide, by decide⟩ ⟨rfl, rfl⟩ ⟨by decide, by decide⟩ rfl gq_nox2 ?_
    refine y_if_ne (pc := 61) (tgt := 112) o dX16_lay_61 rfl (fun b91 => absurd b91 (by decide)) (fun (b91 : 0 = 0) => ?_)
    refine y_aload_n (pc := 64) o dX16_lay_64 rfl ?_
    refine y_ldcS (pc := 65) o 4 dX16_lay_65 rfl ?_
    refine y_iload_n (pc := 67) o dX16_lay_67 rfl ?_
    refine z_callV (pc := 68) (k := 0) (n := 0) (k' := 0) (n' := 0) o (b := κ.2.2 4) (As := [.int (c)]) (rest := [.ref (ad (20, 0, 0))]) (c_indexOf 4 (by decide) c) ln_X16_83 dX16_lay_68 (gq_rs 4 (by decide)) rfl rfl (Nat.le_of_ble_eq_true rfl) ⟨by decide, by decide⟩ ⟨rfl, rfl⟩ ⟨by decide, by decide⟩ rfl gq_nox2 ?_
    refine y_if_lt (pc := 71) (tgt := 100) o dX16_lay_71 rfl (fun b92 => absurd b92 (by rw [b1]; decide)) (fun (b92 : ¬ (gfind (gq_sbyt.getD 4 []) 0 c) < 0) => ?_)
    refine y_iload (pc := 74) o dX16_lay_74 rfl ?_
    refine y_i2l (pc := 76) o dX16_lay_76 ?_
    refine y_lconst (pc := 77) (x := 1) o dX16_lay_77 (by decide) ?_
    refine y_ldc2 (pc := 78) o dX16_lay_78 qw_1266 ?_
    refine z_callS (pc := 81) (k := 0) (n := 0) (k' := 0) (n' := 0) o (As := [.long (d.toInt64), .long (1), .long (500)]) (rest := [.ref (ad (20, 0, 0))]) (kIn d 1 500) ln_X16_13 dX16_lay_81 rfl rfl (Nat.le_of_ble_eq_true rfl) ⟨by decide, by decide⟩ ⟨rfl, rfl⟩ ⟨by decide, by decide⟩ rfl gq_nox2 ?_
    refine z_beq (pc := 84) (tgt := 100) o dX16_lay_84 rfl (fun (b93 : ¬ (gin 1 d 500 = true)) => ?_) (fun (b93 : gin 1 d 500 = true) => ?_)
    · refine y_iconst (pc := 100) (x := 1) o dX16_lay_100 (by decide) ?_
      refine y_goto (pc := 101) (tgt := 105) o dX16_lay_101 rfl ?_
      refine y_iconst (pc := 105) (x := 2) o dX16_lay_105 (by decide) ?_
      refine z_callV (pc := 106) (k := 0) (n := 0) (k' := 0) (n' := 0) o (b := ad (20, 0, 0)) (As := [.int (1), .int (2)]) (rest := []) (kFailsT hR h5 2 (by decide)) ln_X16_74 dX16_lay_106 (z_rc (ci := 20) (K := (20, 0, 0)) rfl (gl_20 hR) rfl) rfl rfl (Nat.le_of_ble_eq_true rfl) ⟨by decide, by decide⟩ ⟨rfl, rfl⟩ ⟨by decide, by decide⟩ rfl gq_nox2 ?_
      refine y_if_eq (pc := 109) (tgt := 114) o dX16_lay_109 rfl (fun b94 => absurd b94 (by decide)) (fun (b94 : ¬ 1 = 0) => ?_)
      refine y_iconst (pc := 112) (x := -1) o dX16_lay_112 (by decide) ?_
      exact y_iret (pc := 113) o dX16_lay_113 rfl (vp_nar_int _) (by decide) (by decide) (fun h hp => gP_thr (k := 2) (by simp +decide only [F_lay, b88, b90, b93, gper_n6 b1, gtc0, gtc1, gtc2, gtc3, gtc4, not_true_eq_false, not_false_eq_true, if_true, if_false, or_true, true_or, or_false, false_or, and_true, true_and, and_false, false_and, or_self, and_self, eq_self, Bool.false_eq_true, ne_eq, reduceIte]) (by decide) hp)
    refine y_iload (pc := 87) o dX16_lay_87 rfl ?_
    refine y_i2l (pc := 89) o dX16_lay_89 ?_
    refine y_lconst (pc := 90) (x := 0) o dX16_lay_90 (by decide) ?_
    refine y_ldc2 (pc := 91) o dX16_lay_91 qw_1401 ?_
    refine z_callS (pc := 94) (k := 0) (n := 0) (k' := 0) (n' := 0) o (As := [.long (e.toInt64), .long (0), .long (9)]) (rest := [.ref (ad (20, 0, 0))]) (kIn e 0 9) ln_X16_13 dX16_lay_94 rfl rfl (Nat.le_of_ble_eq_true rfl) ⟨by decide, by decide⟩ ⟨rfl, rfl⟩ ⟨by decide, by decide⟩ rfl gq_nox2 ?_
    refine z_bne (pc := 97) (tgt := 104) o dX16_lay_97 rfl (fun (b95 : gin 0 e 9 = true) => ?_) (fun (b95 : ¬ (gin 0 e 9 = true)) => ?_)
    · refine y_iconst (pc := 104) (x := 0) o dX16_lay_104 (by decide) ?_
      refine y_iconst (pc := 105) (x := 2) o dX16_lay_105 (by decide) ?_
      refine z_callV (pc := 106) (k := 0) (n := 0) (k' := 0) (n' := 0) o (b := ad (20, 0, 0)) (As := [.int (0), .int (2)]) (rest := []) (kFailsF hR h5 2) ln_X16_74 dX16_lay_106 (z_rc (ci := 20) (K := (20, 0, 0)) rfl (gl_20 hR) rfl) rfl rfl (Nat.le_of_ble_eq_true rfl) ⟨by decide, by decide⟩ ⟨rfl, rfl⟩ ⟨by decide, by decide⟩ rfl gq_nox2 ?_
      refine y_if_eq (pc := 109) (tgt := 114) o dX16_lay_109 rfl (fun (b96 : 0 = 0) => ?_) (fun b96 => absurd b96 (by rw [b91]; decide))
      refine y_aload_n (pc := 114) o dX16_lay_114 rfl ?_
      refine z_get (pc := 115) (K := (20, 0, 0)) (v := .ref (ad (24, 2, 0))) o fl_X16_51 dX16_lay_115 (gl_20 hR) rfl rfl ?_
      refine y_iload_n (pc := 118) o dX16_lay_118 rfl ?_
      refine z_callF (pc := 119) (k := 0) (n := 0) (k' := 0) (n' := 0) (ci := 3) o (b := ad (24, 2, 0)) (As := [.int (a)]) (rest := []) (getR (l := 2) (g := 0) (gl_24_2 hR) (hBR 2 0 (by decide)) b88) rfl lf_X16_114 dX16_lay_119 (fun h hr => ⟨_, ghdr_R (R := R) (gl_24_2 hR) hr⟩) rfl rfl (Nat.le_of_ble_eq_true rfl) ⟨by decide, by decide⟩ ⟨rfl, rfl⟩ ⟨by decide, by decide⟩ ?_
      refine z_cast (pc := 124) (ci := 16) (K := (28, 0, a.toNatClampNeg)) o rfl qw_1452 dX16_lay_124 (gl_28 (gix_lt (Nat.le_trans (hBR 2 0 (by decide)) (by decide)) b88)) rfl ?_
      refine y_astore (pc := 127) (i := 7) (lv' := [(7, .ref (ad (28, 0, a.toNatClampNeg))), (6, .int (6)), (0, .ref (ad (20, 0, 0))), (1, .int (a)), (2, .int (b)), (3, .int (c)), (4, .int (d)), (5, .int (e))]) o dX16_lay_127 (by decide) rfl ?_
      refine y_aload_n (pc := 129) o dX16_lay_129 rfl ?_
      refine z_get (pc := 130) (K := (20, 0, 0)) (v := .ref (ad (24, 3, 0))) o fl_X16_54 dX16_lay_130 (gl_20 hR) rfl rfl ?_
      refine y_iload_n (pc := 133) o dX16_lay_133 rfl ?_
      refine z_callF (pc := 134) (k := 0) (n := 0) (k' := 0) (n' := 0) (ci := 3) o (b := ad (24, 3, 0)) (As := [.int (b)]) (rest := []) (getR (l := 3) (g := 0) (gl_24_3 hR) (hBR 3 0 (by decide)) b90) rfl lf_X16_114 dX16_lay_134 (fun h hr => ⟨_, ghdr_R (R := R) (gl_24_3 hR) hr⟩) rfl rfl (Nat.le_of_ble_eq_true rfl) ⟨by decide, by decide⟩ ⟨rfl, rfl⟩ ⟨by decide, by decide⟩ ?_
      refine z_cast (pc := 139) (ci := 19) (K := (29, 0, b.toNatClampNeg)) o rfl qw_1551 dX16_lay_139 (gl_29 (gix_lt (Nat.le_trans (hBR 3 0 (by decide)) (by decide)) b90)) rfl ?_
      refine y_astore (pc := 142) (i := 8) (lv' := [(8, .ref (ad (29, 0, b.toNatClampNeg))), (7, .ref (ad (28, 0, a.toNatClampNeg))), (6, .int (6)), (0, .ref (ad (20, 0, 0))), (1, .int (a)), (2, .int (b)), (3, .int (c)), (4, .int (d)), (5, .int (e))]) o dX16_lay_142 (by decide) rfl ?_
      refine y_iconst (pc := 144) (x := 2) o dX16_lay_144 (by decide) ?_
      refine y_aload (pc := 145) o dX16_lay_145 rfl ?_
      refine z_get (pc := 147) (K := (29, 0, b.toNatClampNeg)) (v := .int (R.1 (9, 0, b.toNatClampNeg) 4)) o fl_X16_227 dX16_lay_147 (gl_29 (gix_lt (Nat.le_trans (hBR 3 0 (by decide)) (by decide)) b90)) rfl rfl ?_
      refine y_imul (pc := 150) o dX16_lay_150 ?_
      refine y_aload (pc := 151) o dX16_lay_151 rfl ?_
      refine z_get (pc := 153) (K := (28, 0, a.toNatClampNeg)) (v := .int (R.1 (8, 0, a.toNatClampNeg) 3)) o fl_X16_141 dX16_lay_153 (gl_28 (gix_lt (Nat.le_trans (hBR 2 0 (by decide)) (by decide)) b88)) rfl rfl ?_
      refine y_isub (pc := 156) o dX16_lay_156 ?_
      refine y_mabs (pc := 157) o qw_1600 dX16_lay_157 ⟨by decide, Nat.le_of_ble_eq_true rfl⟩ (by decide) (by decide) ?_
      refine y_istore (pc := 160) (i := 9) (lv' := [(9, .int (gabs ((2 * (R.1 (9, 0, b.toNatClampNeg) 4)) - (R.1 (8, 0, a.toNatClampNeg) 3)))), (8, .ref (ad (29, 0, b.toNatClampNeg))), (7, .ref (ad (28, 0, a.toNatClampNeg))), (6, .int (6)), (0, .ref (ad (20, 0, 0))), (1, .int (a)), (2, .int (b)), (3, .int (c)), (4, .int (d)), (5, .int (e))]) o dX16_lay_160 (by decide) rfl ?_
      refine y_iconst (pc := 162) (x := 2) o dX16_lay_162 (by decide) ?_
      refine y_iload (pc := 163) o dX16_lay_163 rfl ?_
      refine y_iload (pc := 165) o dX16_lay_165 rfl ?_
      refine y_iadd (pc := 167) o dX16_lay_167 ?_
      refine y_iconst (pc := 168) (x := 1) o dX16_lay_168 (by decide) ?_
      refine y_isub (pc := 169) o dX16_lay_169 ?_
      refine y_iload (pc := 170) o dX16_lay_170 rfl ?_
      refine y_idiv (pc := 172) o dX16_lay_172 (by decide) ?_
      refine y_imul (pc := 173) o dX16_lay_173 ?_
      refine z_top (w := .int ((((d + (gper c)) - 1) / (gper c)) * 2)) (congrArg Value.int (by rw [gper_6 b1]; exact Int32.mul_comm _ _)) ?_
      refine y_istore (pc := 174) (i := 10) (lv' := [(10, .int ((((d + (gper c)) - 1) / (gper c)) * 2)), (9, .int (gabs ((2 * (R.1 (9, 0, b.toNatClampNeg) 4)) - (R.1 (8, 0, a.toNatClampNeg) 3)))), (8, .ref (ad (29, 0, b.toNatClampNeg))), (7, .ref (ad (28, 0, a.toNatClampNeg))), (6, .int (6)), (0, .ref (ad (20, 0, 0))), (1, .int (a)), (2, .int (b)), (3, .int (c)), (4, .int (d)), (5, .int (e))]) o dX16_lay_174 (by decide) rfl ?_
      refine y_aload_n (pc := 176) o dX16_lay_176 rfl ?_
      refine y_aload (pc := 177) o dX16_lay_177 rfl ?_
      refine z_callV (pc := 179) (k := 0) (n := 0) (k' := 0) (n' := 0) o (b := ad (20, 0, 0)) (As := [.ref (ad (28, 0, a.toNatClampNeg))]) (rest := []) (kFiredR hR a.toNatClampNeg (gix_lt (Nat.le_trans (hBR 2 0 (by decide)) (by decide)) b88)) ln_X16_183 dX16_lay_179 (z_rc (ci := 20) (K := (20, 0, 0)) rfl (gl_20 hR) rfl) rfl rfl (Nat.le_of_ble_eq_true rfl) ⟨by decide, by decide⟩ ⟨rfl, rfl⟩ ⟨by decide, by decide⟩ rfl gq_nox2 ?_
      by_cases f97 : R.1 (8, 0, a.toNatClampNeg) 6 = -1
      · rw [gb_f (fun z => z.1 f97)]
        refine y_if_eq (pc := 182) (tgt := 235) o dX16_lay_182 rfl (fun (b99 : 0 = 0) => ?_) (fun b99 => absurd b99 (by rw [b91]; decide))
        refine y_iconst (pc := 235) (x := 0) o dX16_lay_235 (by decide) ?_
        refine y_istore (pc := 236) (i := 11) (lv' := [(11, .int (0)), (10, .int ((((d + (gper c)) - 1) / (gper c)) * 2)), (9, .int (gabs ((2 * (R.1 (9, 0, b.toNatClampNeg) 4)) - (R.1 (8, 0, a.toNatClampNeg) 3)))), (8, .ref (ad (29, 0, b.toNatClampNeg))), (7, .ref (ad (28, 0, a.toNatClampNeg))), (6, .int (6)), (0, .ref (ad (20, 0, 0))), (1, .int (a)), (2, .int (b)), (3, .int (c)), (4, .int (d)), (5, .int (e))]) o dX16_lay_236 (by decide) rfl ?_
        refine y_aload_n (pc := 238) o dX16_lay_238 rfl ?_
        refine y_iload (pc := 239) o dX16_lay_239 rfl ?_
        refine y_if_ne (pc := 241) (tgt := 248) o dX16_lay_241 rfl (fun b100 => absurd b100 (by rw [b91]; decide)) (fun (b100 : 0 = 0) => ?_)
        refine y_iconst (pc := 244) (x := 1) o dX16_lay_244 (by decide) ?_
        refine y_goto (pc := 245) (tgt := 249) o dX16_lay_245 rfl ?_
        refine y_iconst (pc := 249) (x := 3) o dX16_lay_249 (by decide) ?_
        refine z_callV (pc := 250) (k := 0) (n := 0) (k' := 0) (n' := 0) o (b := ad (20, 0, 0)) (As := [.int (1), .int (3)]) (rest := []) (kFailsT hR h5 3 (by decide)) ln_X16_74 dX16_lay_250 (z_rc (ci := 20) (K := (20, 0, 0)) rfl (gl_20 hR) rfl) rfl rfl (Nat.le_of_ble_eq_true rfl) ⟨by decide, by decide⟩ ⟨rfl, rfl⟩ ⟨by decide, by decide⟩ rfl gq_nox2 ?_
        refine y_if_ne (pc := 253) (tgt := 283) o dX16_lay_253 rfl (fun (b101 : ¬ 1 = 0) => ?_) (fun b101 => absurd b101 (by decide))
        refine y_iconst (pc := 283) (x := -1) o dX16_lay_283 (by decide) ?_
        exact y_iret (pc := 284) o dX16_lay_284 rfl (vp_nar_int _) (by decide) (by decide) (fun h hp => gP_thr (k := 3) (by simp +decide only [F_lay, b88, b90, b93, b95, gm1_t f97, gper_n6 b1, gtc0, gtc1, gtc2, gtc3, gtc4, not_true_eq_false, not_false_eq_true, if_true, if_false, or_true, true_or, or_false, false_or, and_true, true_and, and_false, false_and, or_self, and_self, eq_self, Bool.false_eq_true, ne_eq, reduceIte]) (by decide) hp)
      by_cases f98 : R.1 (0, 0, 0) 0 < R.1 (8, 0, a.toNatClampNeg) 4
      · rw [gb_f (fun z => z.2 f98)]
        refine y_if_eq (pc := 182) (tgt := 235) o dX16_lay_182 rfl (fun (b102 : 0 = 0) => ?_) (fun b102 => absurd b102 (by rw [b91]; decide))
        refine y_iconst (pc := 235) (x := 0) o dX16_lay_235 (by decide) ?_
        refine y_istore (pc := 236) (i := 11) (lv' := [(11, .int (0)), (10, .int ((((d + (gper c)) - 1) / (gper c)) * 2)), (9, .int (gabs ((2 * (R.1 (9, 0, b.toNatClampNeg) 4)) - (R.1 (8, 0, a.toNatClampNeg) 3)))), (8, .ref (ad (29, 0, b.toNatClampNeg))), (7, .ref (ad (28, 0, a.toNatClampNeg))), (6, .int (6)), (0, .ref (ad (20, 0, 0))), (1, .int (a)), (2, .int (b)), (3, .int (c)), (4, .int (d)), (5, .int (e))]) o dX16_lay_236 (by decide) rfl ?_
        refine y_aload_n (pc := 238) o dX16_lay_238 rfl ?_
        refine y_iload (pc := 239) o dX16_lay_239 rfl ?_
        refine y_if_ne (pc := 241) (tgt := 248) o dX16_lay_241 rfl (fun b103 => absurd b103 (by rw [b91]; decide)) (fun (b103 : 0 = 0) => ?_)
        refine y_iconst (pc := 244) (x := 1) o dX16_lay_244 (by decide) ?_
        refine y_goto (pc := 245) (tgt := 249) o dX16_lay_245 rfl ?_
        refine y_iconst (pc := 249) (x := 3) o dX16_lay_249 (by decide) ?_
        refine z_callV (pc := 250) (k := 0) (n := 0) (k' := 0) (n' := 0) o (b := ad (20, 0, 0)) (As := [.int (1), .int (3)]) (rest := []) (kFailsT hR h5 3 (by decide)) ln_X16_74 dX16_lay_250 (z_rc (ci := 20) (K := (20, 0, 0)) rfl (gl_20 hR) rfl) rfl rfl (Nat.le_of_ble_eq_true rfl) ⟨by decide, by decide⟩ ⟨rfl, rfl⟩ ⟨by decide, by decide⟩ rfl gq_nox2 ?_
        refine y_if_ne (pc := 253) (tgt := 283) o dX16_lay_253 rfl (fun (b104 : ¬ 1 = 0) => ?_) (fun b104 => absurd b104 (by decide))
        refine y_iconst (pc := 283) (x := -1) o dX16_lay_283 (by decide) ?_
        exact y_iret (pc := 284) o dX16_lay_284 rfl (vp_nar_int _) (by decide) (by decide) (fun h hp => gP_thr (k := 3) (by simp +decide only [F_lay, b88, b90, b93, b95, gm1_f (hI.2.2.2.2.1 _ (gix_lt (Nat.le_trans (hBR 2 0 (by decide)) (by decide)) b88)).2.2.1 f97, f98, gper_n6 b1, gtc0, gtc1, gtc2, gtc3, gtc4, not_true_eq_false, not_false_eq_true, if_true, if_false, or_true, true_or, or_false, false_or, and_true, true_and, and_false, false_and, or_self, and_self, eq_self, Bool.false_eq_true, ne_eq, reduceIte]) (by decide) hp)
      rw [gb_t ⟨f97, f98⟩]
      refine y_if_eq (pc := 182) (tgt := 235) o dX16_lay_182 rfl (fun b105 => absurd b105 (by decide)) (fun (b105 : ¬ 1 = 0) => ?_)
      refine y_aload_n (pc := 185) o dX16_lay_185 rfl ?_
      refine z_get (pc := 186) (K := (20, 0, 0)) (v := .int (R.1 (0, 0, 0) 0)) o fl_X16_78 dX16_lay_186 (gl_20 hR) rfl rfl ?_
      refine y_aload (pc := 189) o dX16_lay_189 rfl ?_
      refine z_get (pc := 191) (K := (29, 0, b.toNatClampNeg)) (v := .int (R.1 (9, 0, b.toNatClampNeg) 5)) o fl_X16_224 dX16_lay_191 (gl_29 (gix_lt (Nat.le_trans (hBR 3 0 (by decide)) (by decide)) b90)) rfl rfl ?_
      refine y_icmp_lt (pc := 194) (tgt := 235) o dX16_lay_194 rfl (fun (b106 : (R.1 (0, 0, 0) 0) < (R.1 (9, 0, b.toNatClampNeg) 5)) => ?_) (fun (b106 : ¬ (R.1 (0, 0, 0) 0) < (R.1 (9, 0, b.toNatClampNeg) 5)) => ?_)
      · refine y_iconst (pc := 235) (x := 0) o dX16_lay_235 (by decide) ?_
        refine y_istore (pc := 236) (i := 11) (lv' := [(11, .int (0)), (10, .int ((((d + (gper c)) - 1) / (gper c)) * 2)), (9, .int (gabs ((2 * (R.1 (9, 0, b.toNatClampNeg) 4)) - (R.1 (8, 0, a.toNatClampNeg) 3)))), (8, .ref (ad (29, 0, b.toNatClampNeg))), (7, .ref (ad (28, 0, a.toNatClampNeg))), (6, .int (6)), (0, .ref (ad (20, 0, 0))), (1, .int (a)), (2, .int (b)), (3, .int (c)), (4, .int (d)), (5, .int (e))]) o dX16_lay_236 (by decide) rfl ?_
        refine y_aload_n (pc := 238) o dX16_lay_238 rfl ?_
        refine y_iload (pc := 239) o dX16_lay_239 rfl ?_
        refine y_if_ne (pc := 241) (tgt := 248) o dX16_lay_241 rfl (fun b107 => absurd b107 (by rw [b91]; decide)) (fun (b107 : 0 = 0) => ?_)
        refine y_iconst (pc := 244) (x := 1) o dX16_lay_244 (by decide) ?_
        refine y_goto (pc := 245) (tgt := 249) o dX16_lay_245 rfl ?_
        refine y_iconst (pc := 249) (x := 3) o dX16_lay_249 (by decide) ?_
        refine z_callV (pc := 250) (k := 0) (n := 0) (k' := 0) (n' := 0) o (b := ad (20, 0, 0)) (As := [.int (1), .int (3)]) (rest := []) (kFailsT hR h5 3 (by decide)) ln_X16_74 dX16_lay_250 (z_rc (ci := 20) (K := (20, 0, 0)) rfl (gl_20 hR) rfl) rfl rfl (Nat.le_of_ble_eq_true rfl) ⟨by decide, by decide⟩ ⟨rfl, rfl⟩ ⟨by decide, by decide⟩ rfl gq_nox2 ?_
        refine y_if_ne (pc := 253) (tgt := 283) o dX16_lay_253 rfl (fun (b108 : ¬ 1 = 0) => ?_) (fun b108 => absurd b108 (by decide))
        refine y_iconst (pc := 283) (x := -1) o dX16_lay_283 (by decide) ?_
        exact y_iret (pc := 284) o dX16_lay_284 rfl (vp_nar_int _) (by decide) (by decide) (fun h hp => gP_thr (k := 3) (by simp +decide only [F_lay, b88, b90, b93, b95, gm1_f (hI.2.2.2.2.1 _ (gix_lt (Nat.le_trans (hBR 2 0 (by decide)) (by decide)) b88)).2.2.1 f97, f98, b106, gper_n6 b1, gtc0, gtc1, gtc2, gtc3, gtc4, not_true_eq_false, not_false_eq_true, if_true, if_false, or_true, true_or, or_false, false_or, and_true, true_and, and_false, false_and, or_self, and_self, eq_self, Bool.false_eq_true, ne_eq, reduceIte]) (by decide) hp)
      refine y_aload (pc := 197) o dX16_lay_197 rfl ?_
      refine z_get (pc := 199) (K := (29, 0, b.toNatClampNeg)) (v := .int (R.1 (9, 0, b.toNatClampNeg) 4)) o fl_X16_227 dX16_lay_199 (gl_29 (gix_lt (Nat.le_trans (hBR 3 0 (by decide)) (by decide)) b90)) rfl rfl ?_
      refine z_if_le (pc := 202) (tgt := 235) o dX16_lay_202 rfl (fun (b109 : ¬ 0 < (R.1 (9, 0, b.toNatClampNeg) 4)) => ?_) (fun (b109 : 0 < (R.1 (9, 0, b.toNatClampNeg) 4)) => ?_)
      · refine y_iconst (pc := 235) (x := 0) o dX16_lay_235 (by decide) ?_
        refine y_istore (pc := 236) (i := 11) (lv' := [(11, .int (0)), (10, .int ((((d + (gper c)) - 1) / (gper c)) * 2)), (9, .int (gabs ((2 * (R.1 (9, 0, b.toNatClampNeg) 4)) - (R.1 (8, 0, a.toNatClampNeg) 3)))), (8, .ref (ad (29, 0, b.toNatClampNeg))), (7, .ref (ad (28, 0, a.toNatClampNeg))), (6, .int (6)), (0, .ref (ad (20, 0, 0))), (1, .int (a)), (2, .int (b)), (3, .int (c)), (4, .int (d)), (5, .int (e))]) o dX16_lay_236 (by decide) rfl ?_
        refine y_aload_n (pc := 238) o dX16_lay_238 rfl ?_
        refine y_iload (pc := 239) o dX16_lay_239 rfl ?_
        refine y_if_ne (pc := 241) (tgt := 248) o dX16_lay_241 rfl (fun b110 => absurd b110 (by rw [b91]; decide)) (fun (b110 : 0 = 0) => ?_)
        refine y_iconst (pc := 244) (x := 1) o dX16_lay_244 (by decide) ?_
        refine y_goto (pc := 245) (tgt := 249) o dX16_lay_245 rfl ?_
        refine y_iconst (pc := 249) (x := 3) o dX16_lay_249 (by decide) ?_
        refine z_callV (pc := 250) (k := 0) (n := 0) (k' := 0) (n' := 0) o (b := ad (20, 0, 0)) (As := [.int (1), .int (3)]) (rest := []) (kFailsT hR h5 3 (by decide)) ln_X16_74 dX16_lay_250 (z_rc (ci := 20) (K := (20, 0, 0)) rfl (gl_20 hR) rfl) rfl rfl (Nat.le_of_ble_eq_true rfl) ⟨by decide, by decide⟩ ⟨rfl, rfl⟩ ⟨by decide, by decide⟩ rfl gq_nox2 ?_
        refine y_if_ne (pc := 253) (tgt := 283) o dX16_lay_253 rfl (fun (b111 : ¬ 1 = 0) => ?_) (fun b111 => absurd b111 (by decide))
        refine y_iconst (pc := 283) (x := -1) o dX16_lay_283 (by decide) ?_
        exact y_iret (pc := 284) o dX16_lay_284 rfl (vp_nar_int _) (by decide) (by decide) (fun h hp => gP_thr (k := 3) (by simp +decide only [F_lay, b88, b90, b93, b95, gm1_f (hI.2.2.2.2.1 _ (gix_lt (Nat.le_trans (hBR 2 0 (by decide)) (by decide)) b88)).2.2.1 f97, f98, b106, b109, gper_n6 b1, gtc0, gtc1, gtc2, gtc3, gtc4, not_true_eq_false, not_false_eq_true, if_true, if_false, or_true, true_or, or_false, false_or, and_true, true_and, and_false, false_and, or_self, and_self, eq_self, Bool.false_eq_true, ne_eq, reduceIte]) (by decide) hp)
      refine y_iload (pc := 205) o dX16_lay_205 rfl ?_
      refine y_iconst (pc := 207) (x := 2) o dX16_lay_207 (by decide) ?_
      refine y_icmp_gt (pc := 208) (tgt := 235) o dX16_lay_208 rfl (fun (b112 : 2 < (gabs ((2 * (R.1 (9, 0, b.toNatClampNeg) 4)) - (R.1 (8, 0, a.toNatClampNeg) 3)))) => ?_) (fun (b112 : ¬ 2 < (gabs ((2 * (R.1 (9, 0, b.toNatClampNeg) 4)) - (R.1 (8, 0, a.toNatClampNeg) 3)))) => ?_)
      · refine y_iconst (pc := 235) (x := 0) o dX16_lay_235 (by decide) ?_
        refine y_istore (pc := 236) (i := 11) (lv' := [(11, .int (0)), (10, .int ((((d + (gper c)) - 1) / (gper c)) * 2)), (9, .int (gabs ((2 * (R.1 (9, 0, b.toNatClampNeg) 4)) - (R.1 (8, 0, a.toNatClampNeg) 3)))), (8, .ref (ad (29, 0, b.toNatClampNeg))), (7, .ref (ad (28, 0, a.toNatClampNeg))), (6, .int (6)), (0, .ref (ad (20, 0, 0))), (1, .int (a)), (2, .int (b)), (3, .int (c)), (4, .int (d)), (5, .int (e))]) o dX16_lay_236 (by decide) rfl ?_
        refine y_aload_n (pc := 238) o dX16_lay_238 rfl ?_
        refine y_iload (pc := 239) o dX16_lay_239 rfl ?_
        refine y_if_ne (pc := 241) (tgt := 248) o dX16_lay_241 rfl (fun b113 => absurd b113 (by rw [b91]; decide)) (fun (b113 : 0 = 0) => ?_)
        refine y_iconst (pc := 244) (x := 1) o dX16_lay_244 (by decide) ?_
        refine y_goto (pc := 245) (tgt := 249) o dX16_lay_245 rfl ?_
        refine y_iconst (pc := 249) (x := 3) o dX16_lay_249 (by decide) ?_
        refine z_callV (pc := 250) (k := 0) (n := 0) (k' := 0) (n' := 0) o (b := ad (20, 0, 0)) (As := [.int (1), .int (3)]) (rest := []) (kFailsT hR h5 3 (by decide)) ln_X16_74 dX16_lay_250 (z_rc (ci := 20) (K := (20, 0, 0)) rfl (gl_20 hR) rfl) rfl rfl (Nat.le_of_ble_eq_true rfl) ⟨by decide, by decide⟩ ⟨rfl, rfl⟩ ⟨by decide, by decide⟩ rfl gq_nox2 ?_
        refine y_if_ne (pc := 253) (tgt := 283) o dX16_lay_253 rfl (fun (b114 : ¬ 1 = 0) => ?_) (fun b114 => absurd b114 (by decide))
        refine y_iconst (pc := 283) (x := -1) o dX16_lay_283 (by decide) ?_
        exact y_iret (pc := 284) o dX16_lay_284 rfl (vp_nar_int _) (by decide) (by decide) (fun h hp => gP_thr (k := 3) (by simp +decide only [F_lay, b88, b90, b93, b95, gm1_f (hI.2.2.2.2.1 _ (gix_lt (Nat.le_trans (hBR 2 0 (by decide)) (by decide)) b88)).2.2.1 f97, f98, b106, b109, b112, gper_n6 b1, gtc0, gtc1, gtc2, gtc3, gtc4, not_true_eq_false, not_false_eq_true, if_true, if_false, or_true, true_or, or_false, false_or, and_true, true_and, and_false, false_and, or_self, and_self, eq_self, Bool.false_eq_true, ne_eq, reduceIte]) (by decide) hp)
      refine y_aload (pc := 211) o dX16_lay_211 rfl ?_
      refine z_get (pc := 213) (K := (28, 0, a.toNatClampNeg)) (v := .int (R.1 (8, 0, a.toNatClampNeg) 1)) o fl_X16_138 dX16_lay_213 (gl_28 (gix_lt (Nat.le_trans (hBR 2 0 (by decide)) (by decide)) b88)) rfl rfl ?_
      refine y_iload (pc := 216) o dX16_lay_216 rfl ?_
      refine y_icmp_lt (pc := 218) (tgt := 235) o dX16_lay_218 rfl (fun (b115 : (R.1 (8, 0, a.toNatClampNeg) 1) < d) => ?_) (fun (b115 : ¬ (R.1 (8, 0, a.toNatClampNeg) 1) < d) => ?_)
      · refine y_iconst (pc := 235) (x := 0) o dX16_lay_235 (by decide) ?_
        refine y_istore (pc := 236) (i := 11) (lv' := [(11, .int (0)), (10, .int ((((d + (gper c)) - 1) / (gper c)) * 2)), (9, .int (gabs ((2 * (R.1 (9, 0, b.toNatClampNeg) 4)) - (R.1 (8, 0, a.toNatClampNeg) 3)))), (8, .ref (ad (29, 0, b.toNatClampNeg))), (7, .ref (ad (28, 0, a.toNatClampNeg))), (6, .int (6)), (0, .ref (ad (20, 0, 0))), (1, .int (a)), (2, .int (b)), (3, .int (c)), (4, .int (d)), (5, .int (e))]) o dX16_lay_236 (by decide) rfl ?_
        refine y_aload_n (pc := 238) o dX16_lay_238 rfl ?_
        refine y_iload (pc := 239) o dX16_lay_239 rfl ?_
        refine y_if_ne (pc := 241) (tgt := 248) o dX16_lay_241 rfl (fun b116 => absurd b116 (by rw [b91]; decide)) (fun (b116 : 0 = 0) => ?_)
        refine y_iconst (pc := 244) (x := 1) o dX16_lay_244 (by decide) ?_
        refine y_goto (pc := 245) (tgt := 249) o dX16_lay_245 rfl ?_
        refine y_iconst (pc := 249) (x := 3) o dX16_lay_249 (by decide) ?_
        refine z_callV (pc := 250) (k := 0) (n := 0) (k' := 0) (n' := 0) o (b := ad (20, 0, 0)) (As := [.int (1), .int (3)]) (rest := []) (kFailsT hR h5 3 (by decide)) ln_X16_74 dX16_lay_250 (z_rc (ci := 20) (K := (20, 0, 0)) rfl (gl_20 hR) rfl) rfl rfl (Nat.le_of_ble_eq_true rfl) ⟨by decide, by decide⟩ ⟨rfl, rfl⟩ ⟨by decide, by decide⟩ rfl gq_nox2 ?_
        refine y_if_ne (pc := 253) (tgt := 283) o dX16_lay_253 rfl (fun (b117 : ¬ 1 = 0) => ?_) (fun b117 => absurd b117 (by decide))
        refine y_iconst (pc := 283) (x := -1) o dX16_lay_283 (by decide) ?_
        exact y_iret (pc := 284) o dX16_lay_284 rfl (vp_nar_int _) (by decide) (by decide) (fun h hp => gP_thr (k := 3) (by simp +decide only [F_lay, b88, b90, b93, b95, gm1_f (hI.2.2.2.2.1 _ (gix_lt (Nat.le_trans (hBR 2 0 (by decide)) (by decide)) b88)).2.2.1 f97, f98, b106, b109, b112, b115, gper_n6 b1, gtc0, gtc1, gtc2, gtc3, gtc4, not_true_eq_false, not_false_eq_true, if_true, if_false, or_true, true_or, or_false, false_or, and_true, true_and, and_false, false_and, or_self, and_self, eq_self, Bool.false_eq_true, ne_eq, reduceIte]) (by decide) hp)
      refine y_aload (pc := 221) o dX16_lay_221 rfl ?_
      refine z_get (pc := 223) (K := (29, 0, b.toNatClampNeg)) (v := .int (R.1 (9, 0, b.toNatClampNeg) 3)) o fl_X16_216 dX16_lay_223 (gl_29 (gix_lt (Nat.le_trans (hBR 3 0 (by decide)) (by decide)) b90)) rfl rfl ?_
      refine y_iload (pc := 226) o dX16_lay_226 rfl ?_
      refine y_icmp_lt (pc := 228) (tgt := 235) o dX16_lay_228 rfl (fun (b118 : (R.1 (9, 0, b.toNatClampNeg) 3) < ((((d + (gper c)) - 1) / (gper c)) * 2)) => ?_) (fun (b118 : ¬ (R.1 (9, 0, b.toNatClampNeg) 3) < ((((d + (gper c)) - 1) / (gper c)) * 2)) => ?_)
      · refine y_iconst (pc := 235) (x := 0) o dX16_lay_235 (by decide) ?_
        refine y_istore (pc := 236) (i := 11) (lv' := [(11, .int (0)), (10, .int ((((d + (gper c)) - 1) / (gper c)) * 2)), (9, .int (gabs ((2 * (R.1 (9, 0, b.toNatClampNeg) 4)) - (R.1 (8, 0, a.toNatClampNeg) 3)))), (8, .ref (ad (29, 0, b.toNatClampNeg))), (7, .ref (ad (28, 0, a.toNatClampNeg))), (6, .int (6)), (0, .ref (ad (20, 0, 0))), (1, .int (a)), (2, .int (b)), (3, .int (c)), (4, .int (d)), (5, .int (e))]) o dX16_lay_236 (by decide) rfl ?_
        refine y_aload_n (pc := 238) o dX16_lay_238 rfl ?_
        refine y_iload (pc := 239) o dX16_lay_239 rfl ?_
        refine y_if_ne (pc := 241) (tgt := 248) o dX16_lay_241 rfl (fun b119 => absurd b119 (by rw [b91]; decide)) (fun (b119 : 0 = 0) => ?_)
        refine y_iconst (pc := 244) (x := 1) o dX16_lay_244 (by decide) ?_
        refine y_goto (pc := 245) (tgt := 249) o dX16_lay_245 rfl ?_
        refine y_iconst (pc := 249) (x := 3) o dX16_lay_249 (by decide) ?_
        refine z_callV (pc := 250) (k := 0) (n := 0) (k' := 0) (n' := 0) o (b := ad (20, 0, 0)) (As := [.int (1), .int (3)]) (rest := []) (kFailsT hR h5 3 (by decide)) ln_X16_74 dX16_lay_250 (z_rc (ci := 20) (K := (20, 0, 0)) rfl (gl_20 hR) rfl) rfl rfl (Nat.le_of_ble_eq_true rfl) ⟨by decide, by decide⟩ ⟨rfl, rfl⟩ ⟨by decide, by decide⟩ rfl gq_nox2 ?_
        refine y_if_ne (pc := 253) (tgt := 283) o dX16_lay_253 rfl (fun (b120 : ¬ 1 = 0) => ?_) (fun b120 => absurd b120 (by decide))
        refine y_iconst (pc := 283) (x := -1) o dX16_lay_283 (by decide) ?_
        exact y_iret (pc := 284) o dX16_lay_284 rfl (vp_nar_int _) (by decide) (by decide) (fun h hp => gP_thr (k := 3) (by simp +decide only [F_lay, b88, b90, b93, b95, gm1_f (hI.2.2.2.2.1 _ (gix_lt (Nat.le_trans (hBR 2 0 (by decide)) (by decide)) b88)).2.2.1 f97, f98, b106, b109, b112, b115, b118, gper_n6 b1, gtc0, gtc1, gtc2, gtc3, gtc4, not_true_eq_false, not_false_eq_true, if_true, if_false, or_true, true_or, or_false, false_or, and_true, true_and, and_false, false_and, or_self, and_self, eq_self, Bool.false_eq_true, ne_eq, reduceIte]) (by decide) hp)
      refine y_iconst (pc := 231) (x := 1) o dX16_lay_231 (by decide) ?_
      refine y_goto (pc := 232) (tgt := 236) o dX16_lay_232 rfl ?_
      refine y_istore (pc := 236) (i := 11) (lv' := [(11, .int (1)), (10, .int ((((d + (gper c)) - 1) / (gper c)) * 2)), (9, .int (gabs ((2 * (R.1 (9, 0, b.toNatClampNeg) 4)) - (R.1 (8, 0, a.toNatClampNeg) 3)))), (8, .ref (ad (29, 0, b.toNatClampNeg))), (7, .ref (ad (28, 0, a.toNatClampNeg))), (6, .int (6)), (0, .ref (ad (20, 0, 0))), (1, .int (a)), (2, .int (b)), (3, .int (c)), (4, .int (d)), (5, .int (e))]) o dX16_lay_236 (by decide) rfl ?_
      refine y_aload_n (pc := 238) o dX16_lay_238 rfl ?_
      refine y_iload (pc := 239) o dX16_lay_239 rfl ?_
      refine y_if_ne (pc := 241) (tgt := 248) o dX16_lay_241 rfl (fun (b121 : ¬ 1 = 0) => ?_) (fun b121 => absurd b121 (by decide))
      refine y_iconst (pc := 248) (x := 0) o dX16_lay_248 (by decide) ?_
      refine y_iconst (pc := 249) (x := 3) o dX16_lay_249 (by decide) ?_
      refine z_callV (pc := 250) (k := 0) (n := 0) (k' := 0) (n' := 0) o (b := ad (20, 0, 0)) (As := [.int (0), .int (3)]) (rest := []) (kFailsF hR h5 3) ln_X16_74 dX16_lay_250 (z_rc (ci := 20) (K := (20, 0, 0)) rfl (gl_20 hR) rfl) rfl rfl (Nat.le_of_ble_eq_true rfl) ⟨by decide, by decide⟩ ⟨rfl, rfl⟩ ⟨by decide, by decide⟩ rfl gq_nox2 ?_
      refine y_if_ne (pc := 253) (tgt := 283) o dX16_lay_253 rfl (fun b122 => absurd b122 (by rw [b91]; decide)) (fun (b122 : 0 = 0) => ?_)
      refine y_aload_n (pc := 256) o dX16_lay_256 rfl ?_
      refine y_aload_n (pc := 257) o dX16_lay_257 rfl ?_
      refine z_get (pc := 258) (K := (20, 0, 0)) (v := .ref (ad (24, 4, 0))) o fl_X16_57 dX16_lay_258 (gl_20 hR) rfl rfl ?_
      refine z_callF (pc := 261) (k := 0) (n := 0) (k' := 0) (n' := 0) (ci := 3) o (b := ad (24, 4, 0)) (As := []) (rest := [.ref (ad (20, 0, 0))]) (sizeR (l := 4) (g := 0) (gl_24_4 hR)) rfl lf_X16_7 dX16_lay_261 (fun h hr => ⟨_, ghdr_R (R := R) (gl_24_4 hR) hr⟩) rfl rfl (Nat.le_of_ble_eq_true rfl) ⟨by decide, by decide⟩ ⟨rfl, rfl⟩ ⟨by decide, by decide⟩ ?_
      refine y_bipush (pc := 266) (x := 16) o dX16_lay_266 (by decide) ?_
      refine y_icmp_ne (pc := 268) (tgt := 275) o dX16_lay_268 rfl (fun (b123 : ¬ (Int32.ofNat (R.2 10 0)) = 16) => ?_) (fun (b123 : (Int32.ofNat (R.2 10 0)) = 16) => ?_)
      · refine y_iconst (pc := 275) (x := 0) o dX16_lay_275 (by decide) ?_
        refine y_iconst (pc := 276) (x := 4) o dX16_lay_276 (by decide) ?_
        refine z_callV (pc := 277) (k := 0) (n := 0) (k' := 0) (n' := 0) o (b := ad (20, 0, 0)) (As := [.int (0), .int (4)]) (rest := []) (kFailsF hR h5 4) ln_X16_74 dX16_lay_277 (z_rc (ci := 20) (K := (20, 0, 0)) rfl (gl_20 hR) rfl) rfl rfl (Nat.le_of_ble_eq_true rfl) ⟨by decide, by decide⟩ ⟨rfl, rfl⟩ ⟨by decide, by decide⟩ rfl gq_nox2 ?_
        refine y_if_eq (pc := 280) (tgt := 285) o dX16_lay_280 rfl (fun (b124 : 0 = 0) => ?_) (fun b124 => absurd b124 (by rw [b91]; decide))
        refine y_aload (pc := 285) o dX16_lay_285 rfl ?_
        refine y_dup (pc := 287) o dX16_lay_287 rfl ?_
        refine z_get (pc := 288) (K := (28, 0, a.toNatClampNeg)) (v := .int (R.1 (8, 0, a.toNatClampNeg) 1)) o fl_X16_138 dX16_lay_288 (gl_28 (gix_lt (Nat.le_trans (hBR 2 0 (by decide)) (by decide)) b88)) rfl rfl ?_
        refine y_iload (pc := 291) o dX16_lay_291 rfl ?_
        refine y_isub (pc := 293) o dX16_lay_293 ?_
        refine z_putR (pc := 294) (K := (28, 0, a.toNatClampNeg)) (fd := 1) (x := (R.1 (8, 0, a.toNatClampNeg) 1) - d) (B := (8, 0, a.toNatClampNeg)) o fw_X16_138 dX16_lay_294 (gl_28 (gix_lt (Nat.le_trans (hBR 2 0 (by decide)) (by decide)) b88)) (show 24 ≤ (28:Nat) by decide) rfl rfl (Nat.le_of_ble_eq_true rfl) (vp_nar_int _) rfl rfl pR_28_1 ?_
        refine y_aload (pc := 297) o dX16_lay_297 rfl ?_
        refine y_dup (pc := 299) o dX16_lay_299 rfl ?_
        refine z_get (pc := 300) (K := (29, 0, b.toNatClampNeg)) (v := .int ((gup R (8, 0, a.toNatClampNeg) 1 ((R.1 (8, 0, a.toNatClampNeg) 1) - d)).1 (9, 0, b.toNatClampNeg) 3)) o fl_X16_216 dX16_lay_300 (gl_29 (gix_lt (Nat.le_trans (hBR 3 0 (by decide)) (by decide)) b90)) rfl rfl ?_
        refine z_top (congrArg Value.int (gup_ff _ (show (3:Nat) ≠ 1 by decide))) ?_
        refine y_iload (pc := 303) o dX16_lay_303 rfl ?_
        refine y_isub (pc := 305) o dX16_lay_305 ?_
        refine z_putR (pc := 306) (K := (29, 0, b.toNatClampNeg)) (fd := 3) (x := (R.1 (9, 0, b.toNatClampNeg) 3) - ((((d + (gper c)) - 1) / (gper c)) * 2)) (B := (9, 0, b.toNatClampNeg)) o fw_X16_216 dX16_lay_306 (gl_29 (gix_lt (Nat.le_trans (hBR 3 0 (by decide)) (by decide)) b90)) (show 24 ≤ (29:Nat) by decide) rfl rfl (Nat.le_of_ble_eq_true rfl) (vp_nar_int _) rfl rfl pR_29_3 ?_
        refine z_new (pc := 309) (k := 0) (n := 0) o nw_X16_237 dX16_lay_309 (by decide) (by decide) (fun q125 => ?_)
        refine y_dup (pc := 312) o dX16_lay_312 rfl ?_
        refine z_callI (pc := 313) (k := 1) (n := 11) (k' := 1) (n' := 11) o (b := q125) (As := []) (rest := [.ref (q125)]) (kX14_init _ ) ln_X16_239 dX16_lay_313 rfl rfl (Nat.le_of_ble_eq_true rfl) ⟨by decide, by decide⟩ ⟨rfl, rfl⟩ ⟨by decide, by decide⟩ ?_
        refine y_astore (pc := 316) (i := 12) (lv' := [(12, .ref (q125)), (11, .int (1)), (10, .int ((((d + (gper c)) - 1) / (gper c)) * 2)), (9, .int (gabs ((2 * (R.1 (9, 0, b.toNatClampNeg) 4)) - (R.1 (8, 0, a.toNatClampNeg) 3)))), (8, .ref (ad (29, 0, b.toNatClampNeg))), (7, .ref (ad (28, 0, a.toNatClampNeg))), (6, .int (6)), (0, .ref (ad (20, 0, 0))), (1, .int (a)), (2, .int (b)), (3, .int (c)), (4, .int (d)), (5, .int (e))]) o dX16_lay_316 (by decide) rfl ?_
        refine y_aload (pc := 318) o dX16_lay_318 rfl ?_
        refine y_iload_n (pc := 320) o dX16_lay_320 rfl ?_
        refine z_putT (pc := 321) (fs' := [.int (a), .int (0), .int (0), .int (0), .int (0), .int (0), .int (0), .int (0), .int (-1), .int (-1), .int (0)]) (T' := (q125, .inr (18, [.int (a), .int (0), .int (0), .int (0), .int (0), .int (0), .int (0), .int (0), .int (-1), .int (-1), .int (0)])) :: T) o 0 fw_X16_240 dX16_lay_321 rfl (Nat.le_of_ble_eq_true rfl) (vp_nar_int _) rfl rfl rfl ?_
        refine y_aload (pc := 324) o dX16_lay_324 rfl ?_
        refine y_iload_n (pc := 326) o dX16_lay_326 rfl ?_
        refine z_putT (pc := 327) (fs' := [.int (a), .int (b), .int (0), .int (0), .int (0), .int (0), .int (0), .int (0), .int (-1), .int (-1), .int (0)]) (T' := (q125, .inr (18, [.int (a), .int (b), .int (0), .int (0), .int (0), .int (0), .int (0), .int (0), .int (-1), .int (-1), .int (0)])) :: T) o 0 fw_X16_243 dX16_lay_327 rfl (Nat.le_of_ble_eq_true rfl) (vp_nar_int _) rfl rfl rfl ?_
        refine y_aload (pc := 330) o dX16_lay_330 rfl ?_
        refine y_iload (pc := 332) o dX16_lay_332 rfl ?_
        refine z_putT (pc := 334) (fs' := [.int (a), .int (b), .int (e), .int (0), .int (0), .int (0), .int (0), .int (0), .int (-1), .int (-1), .int (0)]) (T' := (q125, .inr (18, [.int (a), .int (b), .int (e), .int (0), .int (0), .int (0), .int (0), .int (0), .int (-1), .int (-1), .int (0)])) :: T) o 0 fw_X16_245 dX16_lay_334 rfl (Nat.le_of_ble_eq_true rfl) (vp_nar_int _) rfl rfl rfl ?_
        refine y_aload (pc := 337) o dX16_lay_337 rfl ?_
        refine y_iload (pc := 339) o dX16_lay_339 rfl ?_
        refine z_putT (pc := 341) (fs' := [.int (a), .int (b), .int (e), .int (d), .int (0), .int (0), .int (0), .int (0), .int (-1), .int (-1), .int (0)]) (T' := (q125, .inr (18, [.int (a), .int (b), .int (e), .int (d), .int (0), .int (0), .int (0), .int (0), .int (-1), .int (-1), .int (0)])) :: T) o 0 fw_X16_248 dX16_lay_341 rfl (Nat.le_of_ble_eq_true rfl) (vp_nar_int _) rfl rfl rfl ?_
        refine y_aload (pc := 344) o dX16_lay_344 rfl ?_
        refine y_iload (pc := 346) o dX16_lay_346 rfl ?_
        refine y_aload (pc := 348) o dX16_lay_348 rfl ?_
        refine z_get (pc := 350) (K := (29, 0, b.toNatClampNeg)) (v := .int ((gup (gup R (8, 0, a.toNatClampNeg) 1 ((R.1 (8, 0, a.toNatClampNeg) 1) - d)) (9, 0, b.toNatClampNeg) 3 ((R.1 (9, 0, b.toNatClampNeg) 3) - ((((d + (gper c)) - 1) / (gper c)) * 2))).1 (9, 0, b.toNatClampNeg) 1)) o fl_X16_210 dX16_lay_350 (gl_29 (gix_lt (Nat.le_trans (hBR 3 0 (by decide)) (by decide)) b90)) rfl rfl ?_
        refine z_top (congrArg Value.int (Eq.trans (gup_vf _ (show (1:Nat) ≠ 3 by decide)) (gup_vc _ (show (9:Nat) ≠ 8 by decide)))) ?_
        refine y_iconst (pc := 353) (x := 4) o dX16_lay_353 (by decide) ?_
        refine y_idiv (pc := 354) o dX16_lay_354 (by decide) ?_
        refine y_iadd (pc := 355) o dX16_lay_355 ?_
        refine z_putT (pc := 356) (fs' := [.int (a), .int (b), .int (e), .int (d), .int (0), .int ((gabs ((2 * (R.1 (9, 0, b.toNatClampNeg) 4)) - (R.1 (8, 0, a.toNatClampNeg) 3))) + ((R.1 (9, 0, b.toNatClampNeg) 1) / 4)), .int (0), .int (0), .int (-1), .int (-1), .int (0)]) (T' := (q125, .inr (18, [.int (a), .int (b), .int (e), .int (d), .int (0), .int ((gabs ((2 * (R.1 (9, 0, b.toNatClampNeg) 4)) - (R.1 (8, 0, a.toNatClampNeg) 3))) + ((R.1 (9, 0, b.toNatClampNeg) 1) / 4)), .int (0), .int (0), .int (-1), .int (-1), .int (0)])) :: T) o 0 fw_X16_249 dX16_lay_356 rfl (Nat.le_of_ble_eq_true rfl) (vp_nar_int _) rfl rfl rfl ?_
        refine y_aload (pc := 359) o dX16_lay_359 rfl ?_
        refine y_aload_n (pc := 361) o dX16_lay_361 rfl ?_
        refine z_get (pc := 362) (K := (20, 0, 0)) (v := .int ((gup (gup R (8, 0, a.toNatClampNeg) 1 ((R.1 (8, 0, a.toNatClampNeg) 1) - d)) (9, 0, b.toNatClampNeg) 3 ((R.1 (9, 0, b.toNatClampNeg) 3) - ((((d + (gper c)) - 1) / (gper c)) * 2))).1 (0, 0, 0) 0)) o fl_X16_78 dX16_lay_362 (gl_20 hR) rfl rfl ?_
        refine z_top (congrArg Value.int (Eq.trans (gup_ff _ (show (0:Nat) ≠ 3 by decide)) (gup_ff _ (show (0:Nat) ≠ 1 by decide)))) ?_
        refine y_bipush (pc := 365) (x := 6) o dX16_lay_365 (by decide) ?_
        refine y_iadd (pc := 367) o dX16_lay_367 ?_
        refine z_putT (pc := 368) (fs' := [.int (a), .int (b), .int (e), .int (d), .int (0), .int ((gabs ((2 * (R.1 (9, 0, b.toNatClampNeg) 4)) - (R.1 (8, 0, a.toNatClampNeg) 3))) + ((R.1 (9, 0, b.toNatClampNeg) 1) / 4)), .int ((R.1 (0, 0, 0) 0) + 6), .int (0), .int (-1), .int (-1), .int (0)]) (T' := (q125, .inr (18, [.int (a), .int (b), .int (e), .int (d), .int (0), .int ((gabs ((2 * (R.1 (9, 0, b.toNatClampNeg) 4)) - (R.1 (8, 0, a.toNatClampNeg) 3))) + ((R.1 (9, 0, b.toNatClampNeg) 1) / 4)), .int ((R.1 (0, 0, 0) 0) + 6), .int (0), .int (-1), .int (-1), .int (0)])) :: T) o 0 fw_X16_252 dX16_lay_368 rfl (Nat.le_of_ble_eq_true rfl) (vp_nar_int _) rfl rfl rfl ?_
        refine y_aload_n (pc := 371) o dX16_lay_371 rfl ?_
        refine z_get (pc := 372) (K := (20, 0, 0)) (v := .ref (ad (24, 4, 0))) o fl_X16_57 dX16_lay_372 (gl_20 hR) rfl rfl ?_
        refine y_aload (pc := 375) o dX16_lay_375 rfl ?_
        refine y_mono (fun h hr => hr.ghost20 0 3 (R.1 (0, 0, 0) 3 + d) (by decide) (fun _ _ => rfl)) ?_
        refine y_callF (pc := 377) (ci := 3) (k := 1) (n := 11) o (b := ad (24, 4, 0)) (As := [.ref q125]) (rest := []) (addRa (C := C) (R := (gup (gup (gup R (8, 0, a.toNatClampNeg) 1 ((R.1 (8, 0, a.toNatClampNeg) 1) - d)) (9, 0, b.toNatClampNeg) 3 ((R.1 (9, 0, b.toNatClampNeg) 3) - ((((d + (gper c)) - 1) / (gper c)) * 2))) (0, 0, 0) 3 ((R.1 (0, 0, 0) 3) + d))) (l := 4) (g := 0) (n := R.2 10 0) (row := (glist [a, b, e, d, 0, (gabs ((2 * (R.1 (9, 0, b.toNatClampNeg) 4)) - (R.1 (8, 0, a.toNatClampNeg) 3))) + ((R.1 (9, 0, b.toNatClampNeg) 1) / 4), (R.1 (0, 0, 0) 0) + 6, 0, -1, -1, 0])) (a := 10) rfl (gl_24_4 hR) (Or.inr rfl) rfl (hBR 4 0 (by decide)) nR_10 (fun K hK => by cases hK)) rfl lf_X16_107 dX16_lay_377 (fun h hr => ⟨_, ghdr_R (R := (gup (gup (gup R (8, 0, a.toNatClampNeg) 1 ((R.1 (8, 0, a.toNatClampNeg) 1) - d)) (9, 0, b.toNatClampNeg) 3 ((R.1 (9, 0, b.toNatClampNeg) 3) - ((((d + (gper c)) - 1) / (gper c)) * 2))) (0, 0, 0) 3 ((R.1 (0, 0, 0) 3) + d))) (gl_24_4 hR) hr⟩) rfl rfl (Nat.le_of_ble_eq_true rfl) ⟨by decide, by decide⟩ ⟨by decide, by decide⟩ (fun _ e => e) (fun _ _ z => z) (fun v => y_and fun ev => y_ex fun ad126 => y_and fun had => y_and fun hadq => ?_)
        subst ev
        have e0 : ad126 (0, 0, 0) = ad (0, 0, 0) := had (0, 0, 0) (by simp) (by simp)
        have e20 : ad126 (20, 0, 0) = ad (20, 0, 0) := had (20, 0, 0) (by simp) (by simp)
        refine z_st (st' := [.int (1)]) rfl ?_
        rw [← e20]
        refine y_pop (pc := 382) o dX16_lay_382 rfl ?_
        refine y_aload_n (pc := 383) o dX16_lay_383 rfl ?_
        refine z_get (pc := 384) (K := (20, 0, 0)) (v := .ref (ad126 (24, 4, 0))) o fl_X16_57 dX16_lay_384 (gl_20 (gfix_new (a := 10) (by decide) hR)) rfl rfl ?_
        refine z_callF (pc := 387) (k := 2) (n := 267) (k' := 2) (n' := 267) (ci := 3) o (b := ad126 (24, 4, 0)) (As := []) (rest := []) (sizeR (l := 4) (g := 0) (gl_24_4 (gfix_new (a := 10) (by decide) hR))) rfl lf_X16_7 dX16_lay_387 (fun h hr => ⟨_, ghdr_R (R := (gnew (gup (gup (gup R (8, 0, a.toNatClampNeg) 1 ((R.1 (8, 0, a.toNatClampNeg) 1) - d)) (9, 0, b.toNatClampNeg) 3 ((R.1 (9, 0, b.toNatClampNeg) 3) - ((((d + (gper c)) - 1) / (gper c)) * 2))) (0, 0, 0) 3 ((R.1 (0, 0, 0) 3) + d)) (10, 0, (R.2 10 0)) ((glist [a, b, e, d, 0, (gabs ((2 * (R.1 (9, 0, b.toNatClampNeg) 4)) - (R.1 (8, 0, a.toNatClampNeg) 3))) + ((R.1 (9, 0, b.toNatClampNeg) 1) / 4), (R.1 (0, 0, 0) 0) + 6, 0, -1, -1, 0])))) (gl_24_4 (gfix_new (a := 10) (by decide) hR)) hr⟩) rfl rfl (Nat.le_of_ble_eq_true rfl) ⟨by decide, by decide⟩ ⟨rfl, rfl⟩ ⟨by decide, by decide⟩ ?_
        refine z_top (w := .int (Int32.ofNat (R.2 10 0 + 1))) (congrArg (fun z => Value.int (Int32.ofNat z)) (gnew_n _ _)) ?_
        refine y_iconst (pc := 392) (x := 1) o dX16_lay_392 (by decide) ?_
        refine y_isub (pc := 393) o dX16_lay_393 ?_
        exact y_iret (pc := 394) o dX16_lay_394 rfl (vp_nar_int _) (by decide) (by decide) (fun h hp => gP_mk (by simp +decide only [F_lay, b88, b90, b93, b95, gm1_f (hI.2.2.2.2.1 _ (gix_lt (Nat.le_trans (hBR 2 0 (by decide)) (by decide)) b88)).2.2.1 f97, f98, b106, b109, b112, b115, b118, gsz_f (k := 16) 16 rfl (by decide) hI.1.2.1.2.2.2.2.1 b123, gper_n6 b1, gtc0, gtc1, gtc2, gtc3, gtc4, not_true_eq_false, not_false_eq_true, if_true, if_false, or_true, true_or, or_false, false_or, and_true, true_and, and_false, false_and, or_self, and_self, eq_self, Bool.false_eq_true, ne_eq, reduceIte]) e0 e20 hp)
      refine y_iconst (pc := 271) (x := 1) o dX16_lay_271 (by decide) ?_
      refine y_goto (pc := 272) (tgt := 276) o dX16_lay_272 rfl ?_
      refine y_iconst (pc := 276) (x := 4) o dX16_lay_276 (by decide) ?_
      refine z_callV (pc := 277) (k := 0) (n := 0) (k' := 0) (n' := 0) o (b := ad (20, 0, 0)) (As := [.int (1), .int (4)]) (rest := []) (kFailsT hR h5 4 (by decide)) ln_X16_74 dX16_lay_277 (z_rc (ci := 20) (K := (20, 0, 0)) rfl (gl_20 hR) rfl) rfl rfl (Nat.le_of_ble_eq_true rfl) ⟨by decide, by decide⟩ ⟨rfl, rfl⟩ ⟨by decide, by decide⟩ rfl gq_nox2 ?_
      refine y_if_eq (pc := 280) (tgt := 285) o dX16_lay_280 rfl (fun b127 => absurd b127 (by decide)) (fun (b127 : ¬ 1 = 0) => ?_)
      refine y_iconst (pc := 283) (x := -1) o dX16_lay_283 (by decide) ?_
      exact y_iret (pc := 284) o dX16_lay_284 rfl (vp_nar_int _) (by decide) (by decide) (fun h hp => gP_thr (k := 4) (by simp +decide only [F_lay, b88, b90, b93, b95, gm1_f (hI.2.2.2.2.1 _ (gix_lt (Nat.le_trans (hBR 2 0 (by decide)) (by decide)) b88)).2.2.1 f97, f98, b106, b109, b112, b115, b118, gsz_t b123, gper_n6 b1, gtc0, gtc1, gtc2, gtc3, gtc4, not_true_eq_false, not_false_eq_true, if_true, if_false, or_true, true_or, or_false, false_or, and_true, true_and, and_false, false_and, or_self, and_self, eq_self, Bool.false_eq_true, ne_eq, reduceIte]) (by decide) hp)
    refine y_iconst (pc := 100) (x := 1) o dX16_lay_100 (by decide) ?_
    refine y_goto (pc := 101) (tgt := 105) o dX16_lay_101 rfl ?_
    refine y_iconst (pc := 105) (x := 2) o dX16_lay_105 (by decide) ?_
    refine z_callV (pc := 106) (k := 0) (n := 0) (k' := 0) (n' := 0) o (b := ad (20, 0, 0)) (As := [.int (1), .int (2)]) (rest := []) (kFailsT hR h5 2 (by decide)) ln_X16_74 dX16_lay_106 (z_rc (ci := 20) (K := (20, 0, 0)) rfl (gl_20 hR) rfl) rfl rfl (Nat.le_of_ble_eq_true rfl) ⟨by decide, by decide⟩ ⟨rfl, rfl⟩ ⟨by decide, by decide⟩ rfl gq_nox2 ?_
    refine y_if_eq (pc := 109) (tgt := 114) o dX16_lay_109 rfl (fun b128 => absurd b128 (by decide)) (fun (b128 : ¬ 1 = 0) => ?_)
    refine y_iconst (pc := 112) (x := -1) o dX16_lay_112 (by decide) ?_
    exact y_iret (pc := 113) o dX16_lay_113 rfl (vp_nar_int _) (by decide) (by decide) (fun h hp => gP_thr (k := 2) (by simp +decide only [F_lay, b88, b90, b93, b95, gper_n6 b1, gtc0, gtc1, gtc2, gtc3, gtc4, not_true_eq_false, not_false_eq_true, if_true, if_false, or_true, true_or, or_false, false_or, and_true, true_and, and_false, false_and, or_self, and_self, eq_self, Bool.false_eq_true, ne_eq, reduceIte]) (by decide) hp)
  refine y_iconst (pc := 52) (x := 1) o dX16_lay_52 (by decide) ?_
  refine y_goto (pc := 53) (tgt := 57) o dX16_lay_53 rfl ?_
  refine y_iconst (pc := 57) (x := 1) o dX16_lay_57 (by decide) ?_
  refine z_callV (pc := 58) (k := 0) (n := 0) (k' := 0) (n' := 0) o (b := ad (20, 0, 0)) (As := [.int (1), .int (1)]) (rest := []) (kFailsT hR h5 1 (by decide)) ln_X16_74 dX16_lay_58 (z_rc (ci := 20) (K := (20, 0, 0)) rfl (gl_20 hR) rfl) rfl rfl (Nat.le_of_ble_eq_true rfl) ⟨by decide, by decide⟩ ⟨rfl, rfl⟩ ⟨by decide, by decide⟩ rfl gq_nox2 ?_
  refine y_if_ne (pc := 61) (tgt := 112) o dX16_lay_61 rfl (fun (b129 : ¬ 1 = 0) => ?_) (fun b129 => absurd b129 (by decide))
  refine y_iconst (pc := 112) (x := -1) o dX16_lay_112 (by decide) ?_
  exact y_iret (pc := 113) o dX16_lay_113 rfl (vp_nar_int _) (by decide) (by decide) (fun h hp => gP_thr (k := 1) (by simp +decide only [F_lay, b88, b90, gper_n6 b1, gtc0, gtc1, gtc2, gtc3, gtc4, not_true_eq_false, not_false_eq_true, if_true, if_false, or_true, true_or, or_false, false_or, and_true, true_and, and_false, false_and, or_self, and_self, eq_self, Bool.false_eq_true, ne_eq, reduceIte]) (by decide) hp)

end Z34
