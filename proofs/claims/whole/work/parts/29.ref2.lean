
section Z29

theorem r_on {κ : gq_K} {ad : gKey → Nat} {C Rp R : gG} {T : List (Nat × va_E)} {n : Nat} (hb : gup Rp (0, 0, 0) 5 0 = R) (hI : gI n R) (hn : n ≤ 512) (a : Int32) (p : Prop) [Decidable p] : gq_C κ mX16_on [.ref (ad (20, 0, 0)), .int (a), .int (gb (p))] (gR κ ad (C, Rp) T) (gP κ ad C T (F_on R a (gb p))) (gq_no) := by
  refine gq_enter (by decide +kernel) rfl (Nat.le_of_ble_eq_true rfl) rfl (fun f o => ?_)
  have hR := hI.fix
  have hBR := hI.cnt
  have hRp : gfix Rp.2 := by rw [← hb] at hR; exact hR
  have h5 : R.1 (0, 0, 0) 5 = 0 := by rw [← hb]; exact gup_v _ _ _ _
  refine y_aload_n (pc := 0) o dX16_on_0 rfl ?_
  refine z_callVv (pc := 1) (k := 0) (n := 0) (k' := 0) (n' := 0) o (b := ad (20, 0, 0)) (As := []) (rest := []) (kBegins hRp) ln_X16_69 dX16_on_1 (z_rc (ci := 20) (K := (20, 0, 0)) rfl (gl_20 hRp) rfl) rfl rfl (Nat.le_of_ble_eq_true rfl) ⟨by decide, by decide⟩ ⟨rfl, rfl⟩ ⟨by decide, by decide⟩ rfl gq_nox2 ?_
  rw [hb]
  refine y_ldcS (pc := 4) o 0 dX16_on_4 rfl ?_
  refine y_iload_n (pc := 6) o dX16_on_6 rfl ?_
  refine z_callV (pc := 7) (k := 0) (n := 0) (k' := 0) (n' := 0) o (b := κ.2.2 0) (As := [.int (a)]) (rest := []) (c_indexOf 0 (by decide) a) ln_X16_83 dX16_on_7 (gq_rs 0 (by decide)) rfl rfl (Nat.le_of_ble_eq_true rfl) ⟨by decide, by decide⟩ ⟨rfl, rfl⟩ ⟨by decide, by decide⟩ rfl gq_nox2 ?_
  rw [gfind_gmi]
  refine y_istore_n (pc := 10) (i := 3) (lv' := [(3, .int (gmi a)), (0, .ref (ad (20, 0, 0))), (1, .int (a)), (2, .int (gb (p)))]) o dX16_on_10 rfl (by decide) rfl ?_
  refine y_aload_n (pc := 11) o dX16_on_11 rfl ?_
  refine y_iload_n (pc := 12) o dX16_on_12 rfl ?_
  refine z_if_ge (pc := 13) (tgt := 20) o dX16_on_13 rfl (fun (b1 : ¬ (gmi a) < 0) => ?_) (fun (b1 : (gmi a) < 0) => ?_)
  · refine y_iconst (pc := 20) (x := 0) o dX16_on_20 (by decide) ?_
    refine y_iconst (pc := 21) (x := 1) o dX16_on_21 (by decide) ?_
    refine z_callV (pc := 22) (k := 0) (n := 0) (k' := 0) (n' := 0) o (b := ad (20, 0, 0)) (As := [.int (0), .int (1)]) (rest := []) (kFailsF hR h5 1) ln_X16_74 dX16_on_22 (z_rc (ci := 20) (K := (20, 0, 0)) rfl (gl_20 hR) rfl) rfl rfl (Nat.le_of_ble_eq_true rfl) ⟨by decide, by decide⟩ ⟨rfl, rfl⟩ ⟨by decide, by decide⟩ rfl gq_nox2 ?_
    refine y_if_eq (pc := 25) (tgt := 30) o dX16_on_25 rfl (fun (b2 : 0 = 0) => ?_) (fun b2 => absurd b2 (by decide))
    refine y_aload_n (pc := 30) o dX16_on_30 rfl ?_
    refine z_get (pc := 31) (K := (20, 0, 0)) (v := .ref (ad (21, 0, 0))) o fl_X16_27 dX16_on_31 (gl_20 hR) rfl rfl ?_
    refine y_iload_n (pc := 34) o dX16_on_34 rfl ?_
    refine z_zald (pc := 35) (K := (21, 0, 0)) (i := gmi a) (v := R.1 (3, 0, (gmi a).toNatClampNeg) 0) o dX16_on_35 (gl_21 hR) rfl (gmi_vp b1) (if_pos (gin_lt (gmi_vp b1))) ?_
    refine y_istore (pc := 36) (i := 4) (lv' := [(4, .int (R.1 (3, 0, (gmi a).toNatClampNeg) 0)), (3, .int (gmi a)), (0, .ref (ad (20, 0, 0))), (1, .int (a)), (2, .int (gb (p)))]) o dX16_on_36 (by decide) rfl ?_
    refine y_aload_n (pc := 38) o dX16_on_38 rfl ?_
    refine z_get (pc := 39) (K := (20, 0, 0)) (v := .ref (ad (21, 0, 0))) o fl_X16_27 dX16_on_39 (gl_20 hR) rfl rfl ?_
    refine y_iload_n (pc := 42) o dX16_on_42 rfl ?_
    refine y_iload_n (pc := 43) o dX16_on_43 rfl ?_
    refine z_zast21 (pc := 44) (i := gmi a) (x := gb (p)) o dX16_on_44 (gfix_1 hR) (gl_21 hR) (gmi_vp b1) gb_vp ?_
    refine y_iload (pc := 45) o dX16_on_45 rfl ?_
    exact y_iret (pc := 47) o dX16_on_47 rfl (gbl_nar (hI.2.1.2.2.2 _)) (by decide) (by decide) (fun h hp => gP_mk (by simp +decide only [F_on, gmi_ltn b1, gmi_n45 b1, gtc0, gtc1, gtc2, gtc3, gtc4, not_true_eq_false, not_false_eq_true, if_true, if_false, or_true, true_or, or_false, false_or, and_true, true_and, and_false, false_and, or_self, and_self, eq_self, Bool.false_eq_true, ne_eq, reduceIte]) rfl rfl hp)
  refine y_iconst (pc := 16) (x := 1) o dX16_on_16 (by decide) ?_
  refine y_goto (pc := 17) (tgt := 21) o dX16_on_17 rfl ?_
  refine y_iconst (pc := 21) (x := 1) o dX16_on_21 (by decide) ?_
  refine z_callV (pc := 22) (k := 0) (n := 0) (k' := 0) (n' := 0) o (b := ad (20, 0, 0)) (As := [.int (1), .int (1)]) (rest := []) (kFailsT hR h5 1 (by decide)) ln_X16_74 dX16_on_22 (z_rc (ci := 20) (K := (20, 0, 0)) rfl (gl_20 hR) rfl) rfl rfl (Nat.le_of_ble_eq_true rfl) ⟨by decide, by decide⟩ ⟨rfl, rfl⟩ ⟨by decide, by decide⟩ rfl gq_nox2 ?_
  refine y_if_eq (pc := 25) (tgt := 30) o dX16_on_25 rfl (fun b3 => absurd b3 (by decide)) (fun (b3 : ¬ 1 = 0) => ?_)
  refine y_iconst (pc := 28) (x := 0) o dX16_on_28 (by decide) ?_
  exact y_iret (pc := 29) o dX16_on_29 rfl rfl (by decide) (by decide) (fun h hp => gP_thr (k := 1) (by simp +decide only [F_on, gmi_ltm b1, gtc0, gtc1, gtc2, gtc3, gtc4, not_true_eq_false, not_false_eq_true, if_true, if_false, or_true, true_or, or_false, false_or, and_true, true_and, and_false, false_and, or_self, and_self, eq_self, Bool.false_eq_true, ne_eq, reduceIte]) (by decide) hp)

theorem r_runs {κ : gq_K} {ad : gKey → Nat} {C Rp R : gG} {T : List (Nat × va_E)} {n : Nat} (hb : gup Rp (0, 0, 0) 5 0 = R) (hI : gI n R) (hn : n ≤ 512) (a : Int32) : gq_C κ mX16_runs [.ref (ad (20, 0, 0)), .int (a)] (gR κ ad (C, Rp) T) (gP κ ad C T (F_runs R a)) (gq_no) := by
  refine gq_enter (by decide +kernel) rfl (Nat.le_of_ble_eq_true rfl) rfl (fun f o => ?_)
  have hR := hI.fix
  have hBR := hI.cnt
  have hRp : gfix Rp.2 := by rw [← hb] at hR; exact hR
  have h5 : R.1 (0, 0, 0) 5 = 0 := by rw [← hb]; exact gup_v _ _ _ _
  refine y_aload_n (pc := 0) o dX16_runs_0 rfl ?_
  refine z_callVv (pc := 1) (k := 0) (n := 0) (k' := 0) (n' := 0) o (b := ad (20, 0, 0)) (As := []) (rest := []) (kBegins hRp) ln_X16_69 dX16_runs_1 (z_rc (ci := 20) (K := (20, 0, 0)) rfl (gl_20 hRp) rfl) rfl rfl (Nat.le_of_ble_eq_true rfl) ⟨by decide, by decide⟩ ⟨rfl, rfl⟩ ⟨by decide, by decide⟩ rfl gq_nox2 ?_
  rw [hb]
  refine y_ldcS (pc := 4) o 0 dX16_runs_4 rfl ?_
  refine y_iload_n (pc := 6) o dX16_runs_6 rfl ?_
  refine z_callV (pc := 7) (k := 0) (n := 0) (k' := 0) (n' := 0) o (b := κ.2.2 0) (As := [.int (a)]) (rest := []) (c_indexOf 0 (by decide) a) ln_X16_83 dX16_runs_7 (gq_rs 0 (by decide)) rfl rfl (Nat.le_of_ble_eq_true rfl) ⟨by decide, by decide⟩ ⟨rfl, rfl⟩ ⟨by decide, by decide⟩ rfl gq_nox2 ?_
  rw [gfind_gmi]
  refine y_istore_n (pc := 10) (i := 2) (lv' := [(2, .int (gmi a)), (0, .ref (ad (20, 0, 0))), (1, .int (a))]) o dX16_runs_10 rfl (by decide) rfl ?_
  refine y_aload_n (pc := 11) o dX16_runs_11 rfl ?_
  refine y_iload_n (pc := 12) o dX16_runs_12 rfl ?_
  refine z_if_ge (pc := 13) (tgt := 20) o dX16_runs_13 rfl (fun (b1 : ¬ (gmi a) < 0) => ?_) (fun (b1 : (gmi a) < 0) => ?_)
  · refine y_iconst (pc := 20) (x := 0) o dX16_runs_20 (by decide) ?_
    refine y_iconst (pc := 21) (x := 1) o dX16_runs_21 (by decide) ?_
    refine z_callV (pc := 22) (k := 0) (n := 0) (k' := 0) (n' := 0) o (b := ad (20, 0, 0)) (As := [.int (0), .int (1)]) (rest := []) (kFailsF hR h5 1) ln_X16_74 dX16_runs_22 (z_rc (ci := 20) (K := (20, 0, 0)) rfl (gl_20 hR) rfl) rfl rfl (Nat.le_of_ble_eq_true rfl) ⟨by decide, by decide⟩ ⟨rfl, rfl⟩ ⟨by decide, by decide⟩ rfl gq_nox2 ?_
    refine y_if_ne (pc := 25) (tgt := 40) o dX16_runs_25 rfl (fun b2 => absurd b2 (by decide)) (fun (b2 : 0 = 0) => ?_)
    refine y_aload_n (pc := 28) o dX16_runs_28 rfl ?_
    refine y_iload_n (pc := 29) o dX16_runs_29 rfl ?_
    refine z_callV (pc := 30) (k := 0) (n := 0) (k' := 0) (n' := 0) o (b := ad (20, 0, 0)) (As := [.int (gmi a)]) (rest := []) (kGoing0 hR hI.drv hI.2.1.2.2.1 (gmi a) (gmi_gix b1) (hI.chn _ (gmi_in (gmi_ltn b1)).1)) ln_X16_93 dX16_runs_30 (z_rc (ci := 20) (K := (20, 0, 0)) rfl (gl_20 hR) rfl) rfl rfl (Nat.le_of_ble_eq_true rfl) ⟨by decide, by decide⟩ ⟨rfl, rfl⟩ ⟨by decide, by decide⟩ rfl gq_nox2 ?_
    refine z_beq (pc := 33) (tgt := 40) o dX16_runs_33 rfl (fun (b3 : ¬ (gmov R 4 ((gmi a).toNatClampNeg) = true)) => ?_) (fun (b3 : gmov R 4 ((gmi a).toNatClampNeg) = true) => ?_)
    · refine y_iconst (pc := 40) (x := 0) o dX16_runs_40 (by decide) ?_
      exact y_iret (pc := 41) o dX16_runs_41 rfl rfl (by decide) (by decide) (fun h hp => gP_mk (by simp +decide only [F_runs, gmi_ltn b1, gmi_n45 b1, b3, gb_tt, gb_ff, gtc0, gtc1, gtc2, gtc3, gtc4, not_true_eq_false, not_false_eq_true, if_true, if_false, or_true, true_or, or_false, false_or, and_true, true_and, and_false, false_and, or_self, and_self, eq_self, Bool.false_eq_true, ne_eq, reduceIte]) rfl rfl hp)
    refine y_iconst (pc := 36) (x := 1) o dX16_runs_36 (by decide) ?_
    refine y_goto (pc := 37) (tgt := 41) o dX16_runs_37 rfl ?_
    exact y_iret (pc := 41) o dX16_runs_41 rfl rfl (by decide) (by decide) (fun h hp => gP_mk (by simp +decide only [F_runs, gmi_ltn b1, gmi_n45 b1, b3, gb_tt, gb_ff, gtc0, gtc1, gtc2, gtc3, gtc4, not_true_eq_false, not_false_eq_true, if_true, if_false, or_true, true_or, or_false, false_or, and_true, true_and, and_false, false_and, or_self, and_self, eq_self, Bool.false_eq_true, ne_eq, reduceIte]) rfl rfl hp)
  refine y_iconst (pc := 16) (x := 1) o dX16_runs_16 (by decide) ?_
  refine y_goto (pc := 17) (tgt := 21) o dX16_runs_17 rfl ?_
  refine y_iconst (pc := 21) (x := 1) o dX16_runs_21 (by decide) ?_
  refine z_callV (pc := 22) (k := 0) (n := 0) (k' := 0) (n' := 0) o (b := ad (20, 0, 0)) (As := [.int (1), .int (1)]) (rest := []) (kFailsT hR h5 1 (by decide)) ln_X16_74 dX16_runs_22 (z_rc (ci := 20) (K := (20, 0, 0)) rfl (gl_20 hR) rfl) rfl rfl (Nat.le_of_ble_eq_true rfl) ⟨by decide, by decide⟩ ⟨rfl, rfl⟩ ⟨by decide, by decide⟩ rfl gq_nox2 ?_
  refine y_if_ne (pc := 25) (tgt := 40) o dX16_runs_25 rfl (fun (b4 : ¬ 1 = 0) => ?_) (fun b4 => absurd b4 (by decide))
  refine y_iconst (pc := 40) (x := 0) o dX16_runs_40 (by decide) ?_
  exact y_iret (pc := 41) o dX16_runs_41 rfl rfl (by decide) (by decide) (fun h hp => gP_thr (k := 1) (by simp +decide only [F_runs, gmi_ltm b1, gb_tt, gb_ff, gtc0, gtc1, gtc2, gtc3, gtc4, not_true_eq_false, not_false_eq_true, if_true, if_false, or_true, true_or, or_false, false_or, and_true, true_and, and_false, false_and, or_self, and_self, eq_self, Bool.false_eq_true, ne_eq, reduceIte]) (by decide) hp)

theorem r_mixture {κ : gq_K} {ad : gKey → Nat} {C Rp R : gG} {T : List (Nat × va_E)} {n : Nat} (hb : gup Rp (0, 0, 0) 5 0 = R) (hI : gI n R) (hn : n ≤ 512) (a : Int32) (b : Int32) : gq_C κ mX16_mixture [.ref (ad (20, 0, 0)), .int (a), .int (b)] (gR κ ad (C, Rp) T) (gP κ ad C T (F_mixture R a b)) (gq_no) := by
  refine gq_enter (by decide +kernel) rfl (Nat.le_of_ble_eq_true rfl) rfl (fun f o => ?_)
  have hR := hI.fix
  have hBR := hI.cnt
  have hRp : gfix Rp.2 := by rw [← hb] at hR; exact hR
  have h5 : R.1 (0, 0, 0) 5 = 0 := by rw [← hb]; exact gup_v _ _ _ _
  refine y_aload_n (pc := 0) o dX16_mixture_0 rfl ?_
  refine z_callVv (pc := 1) (k := 0) (n := 0) (k' := 0) (n' := 0) o (b := ad (20, 0, 0)) (As := []) (rest := []) (kBegins hRp) ln_X16_69 dX16_mixture_1 (z_rc (ci := 20) (K := (20, 0, 0)) rfl (gl_20 hRp) rfl) rfl rfl (Nat.le_of_ble_eq_true rfl) ⟨by decide, by decide⟩ ⟨rfl, rfl⟩ ⟨by decide, by decide⟩ rfl gq_nox2 ?_
  rw [hb]
  refine y_aload_n (pc := 4) o dX16_mixture_4 rfl ?_
  refine y_aload_n (pc := 5) o dX16_mixture_5 rfl ?_
  refine z_get (pc := 6) (K := (20, 0, 0)) (v := .ref (ad (24, 1, 0))) o fl_X16_42 dX16_mixture_6 (gl_20 hR) rfl rfl ?_
  refine y_iload_n (pc := 9) o dX16_mixture_9 rfl ?_
  refine z_callS (pc := 10) (k := 0) (n := 0) (k' := 0) (n' := 0) o (As := [.ref (ad (24, 1, 0)), .int (a)]) (rest := [.ref (ad (20, 0, 0))]) (kIsOf (l := 1) (g := 0) (gl_24_1 hR) hBR a) ln_X16_97 dX16_mixture_10 rfl rfl (Nat.le_of_ble_eq_true rfl) ⟨by decide, by decide⟩ ⟨rfl, rfl⟩ ⟨by decide, by decide⟩ rfl gq_nox2 ?_
  refine z_bne (pc := 13) (tgt := 20) o dX16_mixture_13 rfl (fun (b1 : gix (R.2 7 0) a = true) => ?_) (fun (b1 : ¬ (gix (R.2 7 0) a = true)) => ?_)
  · refine y_iconst (pc := 20) (x := 0) o dX16_mixture_20 (by decide) ?_
    refine y_iconst (pc := 21) (x := 1) o dX16_mixture_21 (by decide) ?_
    refine z_callV (pc := 22) (k := 0) (n := 0) (k' := 0) (n' := 0) o (b := ad (20, 0, 0)) (As := [.int (0), .int (1)]) (rest := []) (kFailsF hR h5 1) ln_X16_74 dX16_mixture_22 (z_rc (ci := 20) (K := (20, 0, 0)) rfl (gl_20 hR) rfl) rfl rfl (Nat.le_of_ble_eq_true rfl) ⟨by decide, by decide⟩ ⟨rfl, rfl⟩ ⟨by decide, by decide⟩ rfl gq_nox2 ?_
    refine y_if_ne (pc := 25) (tgt := 50) o dX16_mixture_25 rfl (fun b2 => absurd b2 (by decide)) (fun (b2 : 0 = 0) => ?_)
    refine y_aload_n (pc := 28) o dX16_mixture_28 rfl ?_
    refine y_ldcS (pc := 29) o 1 dX16_mixture_29 rfl ?_
    refine y_iload_n (pc := 31) o dX16_mixture_31 rfl ?_
    refine z_callV (pc := 32) (k := 0) (n := 0) (k' := 0) (n' := 0) o (b := κ.2.2 1) (As := [.int (b)]) (rest := [.ref (ad (20, 0, 0))]) (c_indexOf 1 (by decide) b) ln_X16_83 dX16_mixture_32 (gq_rs 1 (by decide)) rfl rfl (Nat.le_of_ble_eq_true rfl) ⟨by decide, by decide⟩ ⟨rfl, rfl⟩ ⟨by decide, by decide⟩ rfl gq_nox2 ?_
    refine z_if_ge (pc := 35) (tgt := 42) o dX16_mixture_35 rfl (fun (b3 : ¬ (gfind (gq_sbyt.getD 1 []) 0 b) < 0) => ?_) (fun (b3 : (gfind (gq_sbyt.getD 1 []) 0 b) < 0) => ?_)
    · rcases gf_or1 b3 with c4 | c4 | c4
      · refine y_iconst (pc := 42) (x := 0) o dX16_mixture_42 (by decide) ?_
        refine y_iconst (pc := 43) (x := 2) o dX16_mixture_43 (by decide) ?_
        refine z_callV (pc := 44) (k := 0) (n := 0) (k' := 0) (n' := 0) o (b := ad (20, 0, 0)) (As := [.int (0), .int (2)]) (rest := []) (kFailsF hR h5 2) ln_X16_74 dX16_mixture_44 (z_rc (ci := 20) (K := (20, 0, 0)) rfl (gl_20 hR) rfl) rfl rfl (Nat.le_of_ble_eq_true rfl) ⟨by decide, by decide⟩ ⟨rfl, rfl⟩ ⟨by decide, by decide⟩ rfl gq_nox2 ?_
        refine y_if_eq (pc := 47) (tgt := 52) o dX16_mixture_47 rfl (fun (b5 : 0 = 0) => ?_) (fun b5 => absurd b5 (by rw [b2]; decide))
        refine y_aload_n (pc := 52) o dX16_mixture_52 rfl ?_
        refine z_get (pc := 53) (K := (20, 0, 0)) (v := .ref (ad (24, 1, 0))) o fl_X16_42 dX16_mixture_53 (gl_20 hR) rfl rfl ?_
        refine y_iload_n (pc := 56) o dX16_mixture_56 rfl ?_
        refine z_callF (pc := 57) (k := 0) (n := 0) (k' := 0) (n' := 0) (ci := 3) o (b := ad (24, 1, 0)) (As := [.int (a)]) (rest := []) (getR (l := 1) (g := 0) (gl_24_1 hR) (hBR 1 0 (by decide)) b1) rfl lf_X16_114 dX16_mixture_57 (fun h hr => ⟨_, ghdr_R (R := R) (gl_24_1 hR) hr⟩) rfl rfl (Nat.le_of_ble_eq_true rfl) ⟨by decide, by decide⟩ ⟨rfl, rfl⟩ ⟨by decide, by decide⟩ ?_
        refine z_castI (pc := 62) (K := (27, 0, a.toNatClampNeg)) (N := 5) o qw_1435 dX16_mixture_62 (gl_27 (gix_lt (Nat.le_trans (hBR 1 0 (by decide)) (by decide)) b1)) rfl ?_
        refine y_iconst (pc := 65) (x := 2) o dX16_mixture_65 (by decide) ?_
        refine y_ldcS (pc := 66) o 1 dX16_mixture_66 rfl ?_
        refine y_iload_n (pc := 68) o dX16_mixture_68 rfl ?_
        refine z_callV (pc := 69) (k := 0) (n := 0) (k' := 0) (n' := 0) o (b := κ.2.2 1) (As := [.int (b)]) (rest := [.int (2), .ref (ad (27, 0, a.toNatClampNeg))]) (c_indexOf 1 (by decide) b) ln_X16_83 dX16_mixture_69 (gq_rs 1 (by decide)) rfl rfl (Nat.le_of_ble_eq_true rfl) ⟨by decide, by decide⟩ ⟨rfl, rfl⟩ ⟨by decide, by decide⟩ rfl gq_nox2 ?_
        refine y_iadd (pc := 72) o dX16_mixture_72 ?_
        refine z_top (w := .int 2) (by rw [c4]; rfl) ?_
        refine z_iald (pc := 73) (K := (27, 0, a.toNatClampNeg)) (i := 2) (v := R.1 (7, 0, a.toNatClampNeg) 2) o dX16_mixture_73 (gl_27 (gix_lt (Nat.le_trans (hBR 1 0 (by decide)) (by decide)) b1)) rfl (by unfold vp_in; decide) rfl ?_
        exact y_iret (pc := 74) o dX16_mixture_74 rfl (vp_nar_int _) (by decide) (by decide) (fun h hp => gP_mk (by simp +decide only [F_mixture, b1, c4, gtc0, gtc1, gtc2, gtc3, gtc4, not_true_eq_false, not_false_eq_true, if_true, if_false, or_true, true_or, or_false, false_or, and_true, true_and, and_false, false_and, or_self, and_self, eq_self, Bool.false_eq_true, ne_eq, reduceIte]) rfl rfl hp)
      · refine y_iconst (pc := 42) (x := 0) o dX16_mixture_42 (by decide) ?_
        refine y_iconst (pc := 43) (x := 2) o dX16_mixture_43 (by decide) ?_
        refine z_callV (pc := 44) (k := 0) (n := 0) (k' := 0) (n' := 0) o (b := ad (20, 0, 0)) (As := [.int (0), .int (2)]) (rest := []) (kFailsF hR h5 2) ln_X16_74 dX16_mixture_44 (z_rc (ci := 20) (K := (20, 0, 0)) rfl (gl_20 hR) rfl) rfl rfl (Nat.le_of_ble_eq_true rfl) ⟨by decide, by decide⟩ ⟨rfl, rfl⟩ ⟨by decide, by decide⟩ rfl gq_nox2 ?_
        refine y_if_eq (pc := 47) (tgt := 52) o dX16_mixture_47 rfl (fun (b6 : 0 = 0) => ?_) (fun b6 => absurd b6 (by rw [b2]; decide))
        refine y_aload_n (pc := 52) o dX16_mixture_52 rfl ?_
        refine z_get (pc := 53) (K := (20, 0, 0)) (v := .ref (ad (24, 1, 0))) o fl_X16_42 dX16_mixture_53 (gl_20 hR) rfl rfl ?_
        refine y_iload_n (pc := 56) o dX16_mixture_56 rfl ?_
        refine z_callF (pc := 57) (k := 0) (n := 0) (k' := 0) (n' := 0) (ci := 3) o (b := ad (24, 1, 0)) (As := [.int (a)]) (rest := []) (getR (l := 1) (g := 0) (gl_24_1 hR) (hBR 1 0 (by decide)) b1) rfl lf_X16_114 dX16_mixture_57 (fun h hr => ⟨_, ghdr_R (R := R) (gl_24_1 hR) hr⟩) rfl rfl (Nat.le_of_ble_eq_true rfl) ⟨by decide, by decide⟩ ⟨rfl, rfl⟩ ⟨by decide, by decide⟩ ?_
        refine z_castI (pc := 62) (K := (27, 0, a.toNatClampNeg)) (N := 5) o qw_1435 dX16_mixture_62 (gl_27 (gix_lt (Nat.le_trans (hBR 1 0 (by decide)) (by decide)) b1)) rfl ?_
        refine y_iconst (pc := 65) (x := 2) o dX16_mixture_65 (by decide) ?_
        refine y_ldcS (pc := 66) o 1 dX16_mixture_66 rfl ?_
        refine y_iload_n (pc := 68) o dX16_mixture_68 rfl ?_
        refine z_callV (pc := 69) (k := 0) (n := 0) (k' := 0) (n' := 0) o (b := κ.2.2 1) (As := [.int (b)]) (rest := [.int (2), .ref (ad (27, 0, a.toNatClampNeg))]) (c_indexOf 1 (by decide) b) ln_X16_83 dX16_mixture_69 (gq_rs 1 (by decide)) rfl rfl (Nat.le_of_ble_eq_true rfl) ⟨by decide, by decide⟩ ⟨rfl, rfl⟩ ⟨by decide, by decide⟩ rfl gq_nox2 ?_
        refine y_iadd (pc := 72) o dX16_mixture_72 ?_
        refine z_top (w := .int 3) (by rw [c4]; rfl) ?_
        refine z_iald (pc := 73) (K := (27, 0, a.toNatClampNeg)) (i := 3) (v := R.1 (7, 0, a.toNatClampNeg) 3) o dX16_mixture_73 (gl_27 (gix_lt (Nat.le_trans (hBR 1 0 (by decide)) (by decide)) b1)) rfl (by unfold vp_in; decide) rfl ?_
        exact y_iret (pc := 74) o dX16_mixture_74 rfl (vp_nar_int _) (by decide) (by decide) (fun h hp => gP_mk (by simp +decide only [F_mixture, b1, c4, gtc0, gtc1, gtc2, gtc3, gtc4, not_true_eq_false, not_false_eq_true, if_true, if_false, or_true, true_or, or_false, false_or, and_true, true_and, and_false, false_and, or_self, and_self, eq_self, Bool.false_eq_true, ne_eq, reduceIte]) rfl rfl hp)
      · refine y_iconst (pc := 42) (x := 0) o dX16_mixture_42 (by decide) ?_
        refine y_iconst (pc := 43) (x := 2) o dX16_mixture_43 (by decide) ?_
        refine z_callV (pc := 44) (k := 0) (n := 0) (k' := 0) (n' := 0) o (b := ad (20, 0, 0)) (As := [.int (0), .int (2)]) (rest := []) (kFailsF hR h5 2) ln_X16_74 dX16_mixture_44 (z_rc (ci := 20) (K := (20, 0, 0)) rfl (gl_20 hR) rfl) rfl rfl (Nat.le_of_ble_eq_true rfl) ⟨by decide, by decide⟩ ⟨rfl, rfl⟩ ⟨by decide, by decide⟩ rfl gq_nox2 ?_
        refine y_if_eq (pc := 47) (tgt := 52) o dX16_mixture_47 rfl (fun (b7 : 0 = 0) => ?_) (fun b7 => absurd b7 (by rw [b2]; decide))
        refine y_aload_n (pc := 52) o dX16_mixture_52 rfl ?_
        refine z_get (pc := 53) (K := (20, 0, 0)) (v := .ref (ad (24, 1, 0))) o fl_X16_42 dX16_mixture_53 (gl_20 hR) rfl rfl ?_
        refine y_iload_n (pc := 56) o dX16_mixture_56 rfl ?_
        refine z_callF (pc := 57) (k := 0) (n := 0) (k' := 0) (n' := 0) (ci := 3) o (b := ad (24, 1, 0)) (As := [.int (a)]) (rest := []) (getR (l := 1) (g := 0) (gl_24_1 hR) (hBR 1 0 (by decide)) b1) rfl lf_X16_114 dX16_mixture_57 (fun h hr => ⟨_, ghdr_R (R := R) (gl_24_1 hR) hr⟩) rfl rfl (Nat.le_of_ble_eq_true rfl) ⟨by decide, by decide⟩ ⟨rfl, rfl⟩ ⟨by decide, by decide⟩ ?_
        refine z_castI (pc := 62) (K := (27, 0, a.toNatClampNeg)) (N := 5) o qw_1435 dX16_mixture_62 (gl_27 (gix_lt (Nat.le_trans (hBR 1 0 (by decide)) (by decide)) b1)) rfl ?_
        refine y_iconst (pc := 65) (x := 2) o dX16_mixture_65 (by decide) ?_
        refine y_ldcS (pc := 66) o 1 dX16_mixture_66 rfl ?_
        refine y_iload_n (pc := 68) o dX16_mixture_68 rfl ?_
        refine z_callV (pc := 69) (k := 0) (n := 0) (k' := 0) (n' := 0) o (b := κ.2.2 1) (As := [.int (b)]) (rest := [.int (2), .ref (ad (27, 0, a.toNatClampNeg))]) (c_indexOf 1 (by decide) b) ln_X16_83 dX16_mixture_69 (gq_rs 1 (by decide)) rfl rfl (Nat.le_of_ble_eq_true rfl) ⟨by decide, by decide⟩ ⟨rfl, rfl⟩ ⟨by decide, by decide⟩ rfl gq_nox2 ?_
        refine y_iadd (pc := 72) o dX16_mixture_72 ?_
        refine z_top (w := .int 4) (by rw [c4]; rfl) ?_
        refine z_iald (pc := 73) (K := (27, 0, a.toNatClampNeg)) (i := 4) (v := R.1 (7, 0, a.toNatClampNeg) 4) o dX16_mixture_73 (gl_27 (gix_lt (Nat.le_trans (hBR 1 0 (by decide)) (by decide)) b1)) rfl (by unfold vp_in; decide) rfl ?_
        exact y_iret (pc := 74) o dX16_mixture_74 rfl (vp_nar_int _) (by decide) (by decide) (fun h hp => gP_mk (by simp +decide only [F_mixture, b1, c4, gtc0, gtc1, gtc2, gtc3, gtc4, not_true_eq_false, not_false_eq_true, if_true, if_false, or_true, true_or, or_false, false_or, and_true, true_and, and_false, false_and, or_self, and_self, eq_self, Bool.false_eq_true, ne_eq, reduceIte]) rfl rfl hp)
    refine y_iconst (pc := 38) (x := 1) o dX16_mixture_38 (by decide) ?_
    refine y_goto (pc := 39) (tgt := 43) o dX16_mixture_39 rfl ?_
    refine y_iconst (pc := 43) (x := 2) o dX16_mixture_43 (by decide) ?_
    refine z_callV (pc := 44) (k := 0) (n := 0) (k' := 0) (n' := 0) o (b := ad (20, 0, 0)) (As := [.int (1), .int (2)]) (rest := []) (kFailsT hR h5 2 (by decide)) ln_X16_74 dX16_mixture_44 (z_rc (ci := 20) (K := (20, 0, 0)) rfl (gl_20 hR) rfl) rfl rfl (Nat.le_of_ble_eq_true rfl) ⟨by decide, by decide⟩ ⟨rfl, rfl⟩ ⟨by decide, by decide⟩ rfl gq_nox2 ?_
    refine y_if_eq (pc := 47) (tgt := 52) o dX16_mixture_47 rfl (fun b8 => absurd b8 (by decide)) (fun (b8 : ¬ 1 = 0) => ?_)
    refine y_iconst (pc := 50) (x := -1) o dX16_mixture_50 (by decide) ?_
    exact y_iret (pc := 51) o dX16_mixture_51 rfl (vp_nar_int _) (by decide) (by decide) (fun h hp => gP_thr (k := 2) (by simp +decide only [F_mixture, b1, (gfind_mem (l := gq_sbyt.getD 1 []) (j := 0) (by decide)).mp b3 99 (by decide), (gfind_mem (l := gq_sbyt.getD 1 []) (j := 0) (by decide)).mp b3 102 (by decide), (gfind_mem (l := gq_sbyt.getD 1 []) (j := 0) (by decide)).mp b3 107 (by decide), gtc0, gtc1, gtc2, gtc3, gtc4, not_true_eq_false, not_false_eq_true, if_true, if_false, or_true, true_or, or_false, false_or, and_true, true_and, and_false, false_and, or_self, and_self, eq_self, Bool.false_eq_true, ne_eq, reduceIte]) (by decide) hp)
  refine y_iconst (pc := 16) (x := 1) o dX16_mixture_16 (by decide) ?_
  refine y_goto (pc := 17) (tgt := 21) o dX16_mixture_17 rfl ?_
  refine y_iconst (pc := 21) (x := 1) o dX16_mixture_21 (by decide) ?_
  refine z_callV (pc := 22) (k := 0) (n := 0) (k' := 0) (n' := 0) o (b := ad (20, 0, 0)) (As := [.int (1), .int (1)]) (rest := []) (kFailsT hR h5 1 (by decide)) ln_X16_74 dX16_mixture_22 (z_rc (ci := 20) (K := (20, 0, 0)) rfl (gl_20 hR) rfl) rfl rfl (Nat.le_of_ble_eq_true rfl) ⟨by decide, by decide⟩ ⟨rfl, rfl⟩ ⟨by decide, by decide⟩ rfl gq_nox2 ?_
  refine y_if_ne (pc := 25) (tgt := 50) o dX16_mixture_25 rfl (fun (b9 : ¬ 1 = 0) => ?_) (fun b9 => absurd b9 (by decide))
  refine y_iconst (pc := 50) (x := -1) o dX16_mixture_50 (by decide) ?_
  exact y_iret (pc := 51) o dX16_mixture_51 rfl (vp_nar_int _) (by decide) (by decide) (fun h hp => gP_thr (k := 1) (by simp +decide only [F_mixture, b1, gtc0, gtc1, gtc2, gtc3, gtc4, not_true_eq_false, not_false_eq_true, if_true, if_false, or_true, true_or, or_false, false_or, and_true, true_and, and_false, false_and, or_self, and_self, eq_self, Bool.false_eq_true, ne_eq, reduceIte]) (by decide) hp)

theorem r_batch {κ : gq_K} {ad : gKey → Nat} {C Rp R : gG} {T : List (Nat × va_E)} {n : Nat} (hb : gup Rp (0, 0, 0) 5 0 = R) (hI : gI n R) (hn : n ≤ 512) (a : Int32) (b : Int32) : gq_C κ mX16_batch [.ref (ad (20, 0, 0)), .int (a), .int (b)] (gR κ ad (C, Rp) T) (gP κ ad C T (F_batch R a b)) (gq_no) := by
  refine gq_enter (by decide +kernel) rfl (Nat.le_of_ble_eq_true rfl) rfl (fun f o => ?_)
  have hR := hI.fix
  have hBR := hI.cnt
  have hRp : gfix Rp.2 := by rw [← hb] at hR; exact hR
  have h5 : R.1 (0, 0, 0) 5 = 0 := by rw [← hb]; exact gup_v _ _ _ _
  refine y_aload_n (pc := 0) o dX16_batch_0 rfl ?_
  refine z_callVv (pc := 1) (k := 0) (n := 0) (k' := 0) (n' := 0) o (b := ad (20, 0, 0)) (As := []) (rest := []) (kBegins hRp) ln_X16_69 dX16_batch_1 (z_rc (ci := 20) (K := (20, 0, 0)) rfl (gl_20 hRp) rfl) rfl rfl (Nat.le_of_ble_eq_true rfl) ⟨by decide, by decide⟩ ⟨rfl, rfl⟩ ⟨by decide, by decide⟩ rfl gq_nox2 ?_
  rw [hb]
  refine y_aload_n (pc := 4) o dX16_batch_4 rfl ?_
  refine y_iload_n (pc := 5) o dX16_batch_5 rfl ?_
  by_cases g1 : gix (R.2 8 0) a = true
  · refine z_callV (pc := 6) (k := 0) (n := 0) (k' := 0) (n' := 0) o (b := ad (20, 0, 0)) (As := [.int (a)]) (rest := []) (knoBatchF hR hBR h5 a g1) ln_X16_144 dX16_batch_6 (z_rc (ci := 20) (K := (20, 0, 0)) rfl (gl_20 hR) rfl) rfl rfl (Nat.le_of_ble_eq_true rfl) ⟨by decide, by decide⟩ ⟨rfl, rfl⟩ ⟨by decide, by decide⟩ rfl gq_nox2 ?_
    refine y_if_ne (pc := 9) (tgt := 34) o dX16_batch_9 rfl (fun b2 => absurd b2 (by decide)) (fun (b2 : 0 = 0) => ?_)
    refine y_aload_n (pc := 12) o dX16_batch_12 rfl ?_
    refine y_ldcS (pc := 13) o 2 dX16_batch_13 rfl ?_
    refine y_iload_n (pc := 15) o dX16_batch_15 rfl ?_
    refine z_callV (pc := 16) (k := 0) (n := 0) (k' := 0) (n' := 0) o (b := κ.2.2 2) (As := [.int (b)]) (rest := [.ref (ad (20, 0, 0))]) (c_indexOf 2 (by decide) b) ln_X16_83 dX16_batch_16 (gq_rs 2 (by decide)) rfl rfl (Nat.le_of_ble_eq_true rfl) ⟨by decide, by decide⟩ ⟨rfl, rfl⟩ ⟨by decide, by decide⟩ rfl gq_nox2 ?_
    refine z_if_ge (pc := 19) (tgt := 26) o dX16_batch_19 rfl (fun (b3 : ¬ (gfind (gq_sbyt.getD 2 []) 0 b) < 0) => ?_) (fun (b3 : (gfind (gq_sbyt.getD 2 []) 0 b) < 0) => ?_)
    · rcases gf_or2 b3 with c4 | c4 | c4 | c4 | c4 | c4 | c4
      · refine y_iconst (pc := 26) (x := 0) o dX16_batch_26 (by decide) ?_
        refine y_iconst (pc := 27) (x := 2) o dX16_batch_27 (by decide) ?_
        refine z_callV (pc := 28) (k := 0) (n := 0) (k' := 0) (n' := 0) o (b := ad (20, 0, 0)) (As := [.int (0), .int (2)]) (rest := []) (kFailsF hR h5 2) ln_X16_74 dX16_batch_28 (z_rc (ci := 20) (K := (20, 0, 0)) rfl (gl_20 hR) rfl) rfl rfl (Nat.le_of_ble_eq_true rfl) ⟨by decide, by decide⟩ ⟨rfl, rfl⟩ ⟨by decide, by decide⟩ rfl gq_nox2 ?_
        refine y_if_eq (pc := 31) (tgt := 36) o dX16_batch_31 rfl (fun (b5 : 0 = 0) => ?_) (fun b5 => absurd b5 (by rw [b2]; decide))
        refine y_aload_n (pc := 36) o dX16_batch_36 rfl ?_
        refine z_get (pc := 37) (K := (20, 0, 0)) (v := .ref (ad (24, 2, 0))) o fl_X16_51 dX16_batch_37 (gl_20 hR) rfl rfl ?_
        refine y_iload_n (pc := 40) o dX16_batch_40 rfl ?_
        refine z_callF (pc := 41) (k := 0) (n := 0) (k' := 0) (n' := 0) (ci := 3) o (b := ad (24, 2, 0)) (As := [.int (a)]) (rest := []) (getR (l := 2) (g := 0) (gl_24_2 hR) (hBR 2 0 (by decide)) g1) rfl lf_X16_114 dX16_batch_41 (fun h hr => ⟨_, ghdr_R (R := R) (gl_24_2 hR) hr⟩) rfl rfl (Nat.le_of_ble_eq_true rfl) ⟨by decide, by decide⟩ ⟨rfl, rfl⟩ ⟨by decide, by decide⟩ ?_
        refine z_cast (pc := 46) (ci := 16) (K := (28, 0, a.toNatClampNeg)) o rfl qw_1452 dX16_batch_46 (gl_28 (gix_lt (Nat.le_trans (hBR 2 0 (by decide)) (by decide)) g1)) rfl ?_
        refine y_astore_n (pc := 49) (i := 3) (lv' := [(3, .ref (ad (28, 0, a.toNatClampNeg))), (0, .ref (ad (20, 0, 0))), (1, .int (a)), (2, .int (b))]) o dX16_batch_49 rfl (by decide) rfl ?_
        refine y_iload_n (pc := 50) o dX16_batch_50 rfl ?_
        refine y_bipush (pc := 51) (x := 110) o dX16_batch_51 (by decide) ?_
        refine y_icmp_ne (pc := 53) (tgt := 63) o dX16_batch_53 rfl (fun b6 => absurd b6 (by rw [c4]; decide)) (fun (b6 : b = 110) => ?_)
        refine y_aload_n (pc := 56) o dX16_batch_56 rfl ?_
        refine z_get (pc := 57) (K := (28, 0, a.toNatClampNeg)) (v := .int (R.1 (8, 0, a.toNatClampNeg) 1)) o fl_X16_138 dX16_batch_57 (gl_28 (gix_lt (Nat.le_trans (hBR 2 0 (by decide)) (by decide)) g1)) rfl rfl ?_
        refine y_goto (pc := 60) (tgt := 132) o dX16_batch_60 rfl ?_
        exact y_iret (pc := 132) o dX16_batch_132 rfl (vp_nar_int _) (by decide) (by decide) (fun h hp => gP_mk (by simp +decide only [F_batch, g1, c4, gtc0, gtc1, gtc2, gtc3, gtc4, not_true_eq_false, not_false_eq_true, if_true, if_false, or_true, true_or, or_false, false_or, and_true, true_and, and_false, false_and, or_self, and_self, eq_self, Bool.false_eq_true, ne_eq, reduceIte]) rfl rfl hp)
      · refine y_iconst (pc := 26) (x := 0) o dX16_batch_26 (by decide) ?_
        refine y_iconst (pc := 27) (x := 2) o dX16_batch_27 (by decide) ?_
        refine z_callV (pc := 28) (k := 0) (n := 0) (k' := 0) (n' := 0) o (b := ad (20, 0, 0)) (As := [.int (0), .int (2)]) (rest := []) (kFailsF hR h5 2) ln_X16_74 dX16_batch_28 (z_rc (ci := 20) (K := (20, 0, 0)) rfl (gl_20 hR) rfl) rfl rfl (Nat.le_of_ble_eq_true rfl) ⟨by decide, by decide⟩ ⟨rfl, rfl⟩ ⟨by decide, by decide⟩ rfl gq_nox2 ?_
        refine y_if_eq (pc := 31) (tgt := 36) o dX16_batch_31 rfl (fun (b7 : 0 = 0) => ?_) (fun b7 => absurd b7 (by rw [b2]; decide))
        refine y_aload_n (pc := 36) o dX16_batch_36 rfl ?_
        refine z_get (pc := 37) (K := (20, 0, 0)) (v := .ref (ad (24, 2, 0))) o fl_X16_51 dX16_batch_37 (gl_20 hR) rfl rfl ?_
        refine y_iload_n (pc := 40) o dX16_batch_40 rfl ?_
        refine z_callF (pc := 41) (k := 0) (n := 0) (k' := 0) (n' := 0) (ci := 3) o (b := ad (24, 2, 0)) (As := [.int (a)]) (rest := []) (getR (l := 2) (g := 0) (gl_24_2 hR) (hBR 2 0 (by decide)) g1) rfl lf_X16_114 dX16_batch_41 (fun h hr => ⟨_, ghdr_R (R := R) (gl_24_2 hR) hr⟩) rfl rfl (Nat.le_of_ble_eq_true rfl) ⟨by decide, by decide⟩ ⟨rfl, rfl⟩ ⟨by decide, by decide⟩ ?_
        refine z_cast (pc := 46) (ci := 16) (K := (28, 0, a.toNatClampNeg)) o rfl qw_1452 dX16_batch_46 (gl_28 (gix_lt (Nat.le_trans (hBR 2 0 (by decide)) (by decide)) g1)) rfl ?_
        refine y_astore_n (pc := 49) (i := 3) (lv' := [(3, .ref (ad (28, 0, a.toNatClampNeg))), (0, .ref (ad (20, 0, 0))), (1, .int (a)), (2, .int (b))]) o dX16_batch_49 rfl (by decide) rfl ?_
        refine y_iload_n (pc := 50) o dX16_batch_50 rfl ?_
        refine y_bipush (pc := 51) (x := 110) o dX16_batch_51 (by decide) ?_
        refine y_icmp_ne (pc := 53) (tgt := 63) o dX16_batch_53 rfl (fun (b8 : ¬ b = 110) => ?_) (fun b8 => absurd b8 (by rw [c4]; decide))
        refine y_iload_n (pc := 63) o dX16_batch_63 rfl ?_
        refine y_bipush (pc := 64) (x := 119) o dX16_batch_64 (by decide) ?_
        refine y_icmp_ne (pc := 66) (tgt := 76) o dX16_batch_66 rfl (fun b9 => absurd b9 (by rw [c4]; decide)) (fun (b9 : b = 119) => ?_)
        refine y_aload_n (pc := 69) o dX16_batch_69 rfl ?_
        refine z_get (pc := 70) (K := (28, 0, a.toNatClampNeg)) (v := .int (R.1 (8, 0, a.toNatClampNeg) 2)) o fl_X16_159 dX16_batch_70 (gl_28 (gix_lt (Nat.le_trans (hBR 2 0 (by decide)) (by decide)) g1)) rfl rfl ?_
        refine y_goto (pc := 73) (tgt := 132) o dX16_batch_73 rfl ?_
        exact y_iret (pc := 132) o dX16_batch_132 rfl (vp_nar_int _) (by decide) (by decide) (fun h hp => gP_mk (by simp +decide only [F_batch, g1, c4, gtc0, gtc1, gtc2, gtc3, gtc4, not_true_eq_false, not_false_eq_true, if_true, if_false, or_true, true_or, or_false, false_or, and_true, true_and, and_false, false_and, or_self, and_self, eq_self, Bool.false_eq_true, ne_eq, reduceIte]) rfl rfl hp)
      · refine y_iconst (pc := 26) (x := 0) o dX16_batch_26 (by decide) ?_
        refine y_iconst (pc := 27) (x := 2) o dX16_batch_27 (by decide) ?_
        refine z_callV (pc := 28) (k := 0) (n := 0) (k' := 0) (n' := 0) o (b := ad (20, 0, 0)) (As := [.int (0), .int (2)]) (rest := []) (kFailsF hR h5 2) ln_X16_74 dX16_batch_28 (z_rc (ci := 20) (K := (20, 0, 0)) rfl (gl_20 hR) rfl) rfl rfl (Nat.le_of_ble_eq_true rfl) ⟨by decide, by decide⟩ ⟨rfl, rfl⟩ ⟨by decide, by decide⟩ rfl gq_nox2 ?_
        refine y_if_eq (pc := 31) (tgt := 36) o dX16_batch_31 rfl (fun (b10 : 0 = 0) => ?_) (fun b10 => absurd b10 (by rw [b2]; decide))
        refine y_aload_n (pc := 36) o dX16_batch_36 rfl ?_
        refine z_get (pc := 37) (K := (20, 0, 0)) (v := .ref (ad (24, 2, 0))) o fl_X16_51 dX16_batch_37 (gl_20 hR) rfl rfl ?_
        refine y_iload_n (pc := 40) o dX16_batch_40 rfl ?_
        refine z_callF (pc := 41) (k := 0) (n := 0) (k' := 0) (n' := 0) (ci := 3) o (b := ad (24, 2, 0)) (As := [.int (a)]) (rest := []) (getR (l := 2) (g := 0) (gl_24_2 hR) (hBR 2 0 (by decide)) g1) rfl lf_X16_114 dX16_batch_41 (fun h hr => ⟨_, ghdr_R (R := R) (gl_24_2 hR) hr⟩) rfl rfl (Nat.le_of_ble_eq_true rfl) ⟨by decide, by decide⟩ ⟨rfl, rfl⟩ ⟨by decide, by decide⟩ ?_
        refine z_cast (pc := 46) (ci := 16) (K := (28, 0, a.toNatClampNeg)) o rfl qw_1452 dX16_batch_46 (gl_28 (gix_lt (Nat.le_trans (hBR 2 0 (by decide)) (by decide)) g1)) rfl ?_
        refine y_astore_n (pc := 49) (i := 3) (lv' := [(3, .ref (ad (28, 0, a.toNatClampNeg))), (0, .ref (ad (20, 0, 0))), (1, .int (a)), (2, .int (b))]) o dX16_batch_49 rfl (by decide) rfl ?_
        refine y_iload_n (pc := 50) o dX16_batch_50 rfl ?_
        refine y_bipush (pc := 51) (x := 110) o dX16_batch_51 (by decide) ?_
        refine y_icmp_ne (pc := 53) (tgt := 63) o dX16_batch_53 rfl (fun (b11 : ¬ b = 110) => ?_) (fun b11 => absurd b11 (by rw [c4]; decide))
        refine y_iload_n (pc := 63) o dX16_batch_63 rfl ?_
        refine y_bipush (pc := 64) (x := 119) o dX16_batch_64 (by decide) ?_
        refine y_icmp_ne (pc := 66) (tgt := 76) o dX16_batch_66 rfl (fun (b12 : ¬ b = 119) => ?_) (fun b12 => absurd b12 (by rw [c4]; decide))
        refine y_iload_n (pc := 76) o dX16_batch_76 rfl ?_
        refine y_bipush (pc := 77) (x := 98) o dX16_batch_77 (by decide) ?_
        refine y_icmp_ne (pc := 79) (tgt := 89) o dX16_batch_79 rfl (fun b13 => absurd b13 (by rw [c4]; decide)) (fun (b13 : b = 98) => ?_)
        refine y_aload_n (pc := 82) o dX16_batch_82 rfl ?_
        refine z_get (pc := 83) (K := (28, 0, a.toNatClampNeg)) (v := .int (R.1 (8, 0, a.toNatClampNeg) 3)) o fl_X16_141 dX16_batch_83 (gl_28 (gix_lt (Nat.le_trans (hBR 2 0 (by decide)) (by decide)) g1)) rfl rfl ?_
        refine y_goto (pc := 86) (tgt := 132) o dX16_batch_86 rfl ?_
        exact y_iret (pc := 132) o dX16_batch_132 rfl (vp_nar_int _) (by decide) (by decide) (fun h hp => gP_mk (by simp +decide only [F_batch, g1, c4, gtc0, gtc1, gtc2, gtc3, gtc4, not_true_eq_false, not_false_eq_true, if_true, if_false, or_true, true_or, or_false, false_or, and_true, true_and, and_false, false_and, or_self, and_self, eq_self, Bool.false_eq_true, ne_eq, reduceIte]) rfl rfl hp)
      · refine y_iconst (pc := 26) (x := 0) o dX16_batch_26 (by decide) ?_
        refine y_iconst (pc := 27) (x := 2) o dX16_batch_27 (by decide) ?_
        refine z_callV (pc := 28) (k := 0) (n := 0) (k' := 0) (n' := 0) o (b := ad (20, 0, 0)) (As := [.int (0), .int (2)]) (rest := []) (kFailsF hR h5 2) ln_X16_74 dX16_batch_28 (z_rc (ci := 20) (K := (20, 0, 0)) rfl (gl_20 hR) rfl) rfl rfl (Nat.le_of_ble_eq_true rfl) ⟨by decide, by decide⟩ ⟨rfl, rfl⟩ ⟨by decide, by decide⟩ rfl gq_nox2 ?_
        refine y_if_eq (pc := 31) (tgt := 36) o dX16_batch_31 rfl (fun (b14 : 0 = 0) => ?_) (fun b14 => absurd b14 (by rw [b2]; decide))
        refine y_aload_n (pc := 36) o dX16_batch_36 rfl ?_
        refine z_get (pc := 37) (K := (20, 0, 0)) (v := .ref (ad (24, 2, 0))) o fl_X16_51 dX16_batch_37 (gl_20 hR) rfl rfl ?_
        refine y_iload_n (pc := 40) o dX16_batch_40 rfl ?_
        refine z_callF (pc := 41) (k := 0) (n := 0) (k' := 0) (n' := 0) (ci := 3) o (b := ad (24, 2, 0)) (As := [.int (a)]) (rest := []) (getR (l := 2) (g := 0) (gl_24_2 hR) (hBR 2 0 (by decide)) g1) rfl lf_X16_114 dX16_batch_41 (fun h hr => ⟨_, ghdr_R (R := R) (gl_24_2 hR) hr⟩) rfl rfl (Nat.le_of_ble_eq_true rfl) ⟨by decide, by decide⟩ ⟨rfl, rfl⟩ ⟨by decide, by decide⟩ ?_
        refine z_cast (pc := 46) (ci := 16) (K := (28, 0, a.toNatClampNeg)) o rfl qw_1452 dX16_batch_46 (gl_28 (gix_lt (Nat.le_trans (hBR 2 0 (by decide)) (by decide)) g1)) rfl ?_
        refine y_astore_n (pc := 49) (i := 3) (lv' := [(3, .ref (ad (28, 0, a.toNatClampNeg))), (0, .ref (ad (20, 0, 0))), (1, .int (a)), (2, .int (b))]) o dX16_batch_49 rfl (by decide) rfl ?_
        refine y_iload_n (pc := 50) o dX16_batch_50 rfl ?_
        refine y_bipush (pc := 51) (x := 110) o dX16_batch_51 (by decide) ?_
        refine y_icmp_ne (pc := 53) (tgt := 63) o dX16_batch_53 rfl (fun (b15 : ¬ b = 110) => ?_) (fun b15 => absurd b15 (by rw [c4]; decide))
        refine y_iload_n (pc := 63) o dX16_batch_63 rfl ?_
        refine y_bipush (pc := 64) (x := 119) o dX16_batch_64 (by decide) ?_
        refine y_icmp_ne (pc := 66) (tgt := 76) o dX16_batch_66 rfl (fun (b16 : ¬ b = 119) => ?_) (fun b16 => absurd b16 (by rw [c4]; decide))
        refine y_iload_n (pc := 76) o dX16_batch_76 rfl ?_
        refine y_bipush (pc := 77) (x := 98) o dX16_batch_77 (by decide) ?_
        refine y_icmp_ne (pc := 79) (tgt := 89) o dX16_batch_79 rfl (fun (b17 : ¬ b = 98) => ?_) (fun b17 => absurd b17 (by rw [c4]; decide))
        refine y_iload_n (pc := 89) o dX16_batch_89 rfl ?_
        refine y_bipush (pc := 90) (x := 114) o dX16_batch_90 (by decide) ?_
        refine y_icmp_ne (pc := 92) (tgt := 102) o dX16_batch_92 rfl (fun b18 => absurd b18 (by rw [c4]; decide)) (fun (b18 : b = 114) => ?_)
        refine y_aload_n (pc := 95) o dX16_batch_95 rfl ?_
        refine z_get (pc := 96) (K := (28, 0, a.toNatClampNeg)) (v := .int (R.1 (8, 0, a.toNatClampNeg) 4)) o fl_X16_152 dX16_batch_96 (gl_28 (gix_lt (Nat.le_trans (hBR 2 0 (by decide)) (by decide)) g1)) rfl rfl ?_
        refine y_goto (pc := 99) (tgt := 132) o dX16_batch_99 rfl ?_
        exact y_iret (pc := 132) o dX16_batch_132 rfl (vp_nar_int _) (by decide) (by decide) (fun h hp => gP_mk (by simp +decide only [F_batch, g1, c4, gtc0, gtc1, gtc2, gtc3, gtc4, not_true_eq_false, not_false_eq_true, if_true, if_false, or_true, true_or, or_false, false_or, and_true, true_and, and_false, false_and, or_self, and_self, eq_self, Bool.false_eq_true, ne_eq, reduceIte]) rfl rfl hp)
      · refine y_iconst (pc := 26) (x := 0) o dX16_batch_26 (by decide) ?_
        refine y_iconst (pc := 27) (x := 2) o dX16_batch_27 (by decide) ?_
        refine z_callV (pc := 28) (k := 0) (n := 0) (k' := 0) (n' := 0) o (b := ad (20, 0, 0)) (As := [.int (0), .int (2)]) (rest := []) (kFailsF hR h5 2) ln_X16_74 dX16_batch_28 (z_rc (ci := 20) (K := (20, 0, 0)) rfl (gl_20 hR) rfl) rfl rfl (Nat.le_of_ble_eq_true rfl) ⟨by decide, by decide⟩ ⟨rfl, rfl⟩ ⟨by decide, by decide⟩ rfl gq_nox2 ?_
        refine y_if_eq (pc := 31) (tgt := 36) o dX16_batch_31 rfl (fun (b19 : 0 = 0) => ?_) (fun b19 => absurd b19 (by rw [b2]; decide))
        refine y_aload_n (pc := 36) o dX16_batch_36 rfl ?_
        refine z_get (pc := 37) (K := (20, 0, 0)) (v := .ref (ad (24, 2, 0))) o fl_X16_51 dX16_batch_37 (gl_20 hR) rfl rfl ?_
        refine y_iload_n (pc := 40) o dX16_batch_40 rfl ?_
        refine z_callF (pc := 41) (k := 0) (n := 0) (k' := 0) (n' := 0) (ci := 3) o (b := ad (24, 2, 0)) (As := [.int (a)]) (rest := []) (getR (l := 2) (g := 0) (gl_24_2 hR) (hBR 2 0 (by decide)) g1) rfl lf_X16_114 dX16_batch_41 (fun h hr => ⟨_, ghdr_R (R := R) (gl_24_2 hR) hr⟩) rfl rfl (Nat.le_of_ble_eq_true rfl) ⟨by decide, by decide⟩ ⟨rfl, rfl⟩ ⟨by decide, by decide⟩ ?_
        refine z_cast (pc := 46) (ci := 16) (K := (28, 0, a.toNatClampNeg)) o rfl qw_1452 dX16_batch_46 (gl_28 (gix_lt (Nat.le_trans (hBR 2 0 (by decide)) (by decide)) g1)) rfl ?_
        refine y_astore_n (pc := 49) (i := 3) (lv' := [(3, .ref (ad (28, 0, a.toNatClampNeg))), (0, .ref (ad (20, 0, 0))), (1, .int (a)), (2, .int (b))]) o dX16_batch_49 rfl (by decide) rfl ?_
        refine y_iload_n (pc := 50) o dX16_batch_50 rfl ?_
        refine y_bipush (pc := 51) (x := 110) o dX16_batch_51 (by decide) ?_
        refine y_icmp_ne (pc := 53) (tgt := 63) o dX16_batch_53 rfl (fun (b20 : ¬ b = 110) => ?_) (fun b20 => absurd b20 (by rw [c4]; decide))
        refine y_iload_n (pc := 63) o dX16_batch_63 rfl ?_
        refine y_bipush (pc := 64) (x := 119) o dX16_batch_64 (by decide) ?_
        refine y_icmp_ne (pc := 66) (tgt := 76) o dX16_batch_66 rfl (fun (b21 : ¬ b = 119) => ?_) (fun b21 => absurd b21 (by rw [c4]; decide))
        refine y_iload_n (pc := 76) o dX16_batch_76 rfl ?_
        refine y_bipush (pc := 77) (x := 98) o dX16_batch_77 (by decide) ?_
        refine y_icmp_ne (pc := 79) (tgt := 89) o dX16_batch_79 rfl (fun (b22 : ¬ b = 98) => ?_) (fun b22 => absurd b22 (by rw [c4]; decide))
        refine y_iload_n (pc := 89) o dX16_batch_89 rfl ?_
        refine y_bipush (pc := 90) (x := 114) o dX16_batch_90 (by decide) ?_
        refine y_icmp_ne (pc := 92) (tgt := 102) o dX16_batch_92 rfl (fun (b23 : ¬ b = 114) => ?_) (fun b23 => absurd b23 (by rw [c4]; decide))
        refine y_iload_n (pc := 102) o dX16_batch_102 rfl ?_
        refine y_bipush (pc := 103) (x := 115) o dX16_batch_103 (by decide) ?_
        refine y_icmp_ne (pc := 105) (tgt := 115) o dX16_batch_105 rfl (fun b24 => absurd b24 (by rw [c4]; decide)) (fun (b24 : b = 115) => ?_)
        refine y_aload_n (pc := 108) o dX16_batch_108 rfl ?_
        refine z_get (pc := 109) (K := (28, 0, a.toNatClampNeg)) (v := .int (R.1 (8, 0, a.toNatClampNeg) 9)) o fl_X16_177 dX16_batch_109 (gl_28 (gix_lt (Nat.le_trans (hBR 2 0 (by decide)) (by decide)) g1)) rfl rfl ?_
        refine y_goto (pc := 112) (tgt := 132) o dX16_batch_112 rfl ?_
        exact y_iret (pc := 132) o dX16_batch_132 rfl (vp_nar_int _) (by decide) (by decide) (fun h hp => gP_mk (by simp +decide only [F_batch, g1, c4, gtc0, gtc1, gtc2, gtc3, gtc4, not_true_eq_false, not_false_eq_true, if_true, if_false, or_true, true_or, or_false, false_or, and_true, true_and, and_false, false_and, or_self, and_self, eq_self, Bool.false_eq_true, ne_eq, reduceIte]) rfl rfl hp)
      · refine y_iconst (pc := 26) (x := 0) o dX16_batch_26 (by decide) ?_
        refine y_iconst (pc := 27) (x := 2) o dX16_batch_27 (by decide) ?_
        refine z_callV (pc := 28) (k := 0) (n := 0) (k' := 0) (n' := 0) o (b := ad (20, 0, 0)) (As := [.int (0), .int (2)]) (rest := []) (kFailsF hR h5 2) ln_X16_74 dX16_batch_28 (z_rc (ci := 20) (K := (20, 0, 0)) rfl (gl_20 hR) rfl) rfl rfl (Nat.le_of_ble_eq_true rfl) ⟨by decide, by decide⟩ ⟨rfl, rfl⟩ ⟨by decide, by decide⟩ rfl gq_nox2 ?_
        refine y_if_eq (pc := 31) (tgt := 36) o dX16_batch_31 rfl (fun (b25 : 0 = 0) => ?_) (fun b25 => absurd b25 (by rw [b2]; decide))
        refine y_aload_n (pc := 36) o dX16_batch_36 rfl ?_
        refine z_get (pc := 37) (K := (20, 0, 0)) (v := .ref (ad (24, 2, 0))) o fl_X16_51 dX16_batch_37 (gl_20 hR) rfl rfl ?_
        refine y_iload_n (pc := 40) o dX16_batch_40 rfl ?_
        refine z_callF (pc := 41) (k := 0) (n := 0) (k' := 0) (n' := 0) (ci := 3) o (b := ad (24, 2, 0)) (As := [.int (a)]) (rest := []) (getR (l := 2) (g := 0) (gl_24_2 hR) (hBR 2 0 (by decide)) g1) rfl lf_X16_114 dX16_batch_41 (fun h hr => ⟨_, ghdr_R (R := R) (gl_24_2 hR) hr⟩) rfl rfl (Nat.le_of_ble_eq_true rfl) ⟨by decide, by decide⟩ ⟨rfl, rfl⟩ ⟨by decide, by decide⟩ ?_
        refine z_cast (pc := 46) (ci := 16) (K := (28, 0, a.toNatClampNeg)) o rfl qw_1452 dX16_batch_46 (gl_28 (gix_lt (Nat.le_trans (hBR 2 0 (by decide)) (by decide)) g1)) rfl ?_
        refine y_astore_n (pc := 49) (i := 3) (lv' := [(3, .ref (ad (28, 0, a.toNatClampNeg))), (0, .ref (ad (20, 0, 0))), (1, .int (a)), (2, .int (b))]) o dX16_batch_49 rfl (by decide) rfl ?_
        refine y_iload_n (pc := 50) o dX16_batch_50 rfl ?_
        refine y_bipush (pc := 51) (x := 110) o dX16_batch_51 (by decide) ?_
        refine y_icmp_ne (pc := 53) (tgt := 63) o dX16_batch_53 rfl (fun (b26 : ¬ b = 110) => ?_) (fun b26 => absurd b26 (by rw [c4]; decide))
        refine y_iload_n (pc := 63) o dX16_batch_63 rfl ?_
        refine y_bipush (pc := 64) (x := 119) o dX16_batch_64 (by decide) ?_
        refine y_icmp_ne (pc := 66) (tgt := 76) o dX16_batch_66 rfl (fun (b27 : ¬ b = 119) => ?_) (fun b27 => absurd b27 (by rw [c4]; decide))
        refine y_iload_n (pc := 76) o dX16_batch_76 rfl ?_
        refine y_bipush (pc := 77) (x := 98) o dX16_batch_77 (by decide) ?_
        refine y_icmp_ne (pc := 79) (tgt := 89) o dX16_batch_79 rfl (fun (b28 : ¬ b = 98) => ?_) (fun b28 => absurd b28 (by rw [c4]; decide))
        refine y_iload_n (pc := 89) o dX16_batch_89 rfl ?_
        refine y_bipush (pc := 90) (x := 114) o dX16_batch_90 (by decide) ?_
        refine y_icmp_ne (pc := 92) (tgt := 102) o dX16_batch_92 rfl (fun (b29 : ¬ b = 114) => ?_) (fun b29 => absurd b29 (by rw [c4]; decide))
        refine y_iload_n (pc := 102) o dX16_batch_102 rfl ?_
        refine y_bipush (pc := 103) (x := 115) o dX16_batch_103 (by decide) ?_
        refine y_icmp_ne (pc := 105) (tgt := 115) o dX16_batch_105 rfl (fun (b30 : ¬ b = 115) => ?_) (fun b30 => absurd b30 (by rw [c4]; decide))
        refine y_iload_n (pc := 115) o dX16_batch_115 rfl ?_
        refine y_bipush (pc := 116) (x := 100) o dX16_batch_116 (by decide) ?_
        refine y_icmp_ne (pc := 118) (tgt := 128) o dX16_batch_118 rfl (fun b31 => absurd b31 (by rw [c4]; decide)) (fun (b31 : b = 100) => ?_)
        refine y_aload_n (pc := 121) o dX16_batch_121 rfl ?_
        refine z_get (pc := 122) (K := (28, 0, a.toNatClampNeg)) (v := .int (R.1 (8, 0, a.toNatClampNeg) 10)) o fl_X16_180 dX16_batch_122 (gl_28 (gix_lt (Nat.le_trans (hBR 2 0 (by decide)) (by decide)) g1)) rfl rfl ?_
        refine y_goto (pc := 125) (tgt := 132) o dX16_batch_125 rfl ?_
        exact y_iret (pc := 132) o dX16_batch_132 rfl (vp_nar_int _) (by decide) (by decide) (fun h hp => gP_mk (by simp +decide only [F_batch, g1, c4, gtc0, gtc1, gtc2, gtc3, gtc4, not_true_eq_false, not_false_eq_true, if_true, if_false, or_true, true_or, or_false, false_or, and_true, true_and, and_false, false_and, or_self, and_self, eq_self, Bool.false_eq_true, ne_eq, reduceIte]) rfl rfl hp)
      · refine y_iconst (pc := 26) (x := 0) o dX16_batch_26 (by decide) ?_
        refine y_iconst (pc := 27) (x := 2) o dX16_batch_27 (by decide) ?_
        refine z_callV (pc := 28) (k := 0) (n := 0) (k' := 0) (n' := 0) o (b := ad (20, 0, 0)) (As := [.int (0), .int (2)]) (rest := []) (kFailsF hR h5 2) ln_X16_74 dX16_batch_28 (z_rc (ci := 20) (K := (20, 0, 0)) rfl (gl_20 hR) rfl) rfl rfl (Nat.le_of_ble_eq_true rfl) ⟨by decide, by decide⟩ ⟨rfl, rfl⟩ ⟨by decide, by decide⟩ rfl gq_nox2 ?_
        refine y_if_eq (pc := 31) (tgt := 36) o dX16_batch_31 rfl (fun (b32 : 0 = 0) => ?_) (fun b32 => absurd b32 (by rw [b2]; decide))
        refine y_aload_n (pc := 36) o dX16_batch_36 rfl ?_
        refine z_get (pc := 37) (K := (20, 0, 0)) (v := .ref (ad (24, 2, 0))) o fl_X16_51 dX16_batch_37 (gl_20 hR) rfl rfl ?_
        refine y_iload_n (pc := 40) o dX16_batch_40 rfl ?_
        refine z_callF (pc := 41) (k := 0) (n := 0) (k' := 0) (n' := 0) (ci := 3) o (b := ad (24, 2, 0)) (As := [.int (a)]) (rest := []) (getR (l := 2) (g := 0) (gl_24_2 hR) (hBR 2 0 (by decide)) g1) rfl lf_X16_114 dX16_batch_41 (fun h hr => ⟨_, ghdr_R (R := R) (gl_24_2 hR) hr⟩) rfl rfl (Nat.le_of_ble_eq_true rfl) ⟨by decide, by decide⟩ ⟨rfl, rfl⟩ ⟨by decide, by decide⟩ ?_
        refine z_cast (pc := 46) (ci := 16) (K := (28, 0, a.toNatClampNeg)) o rfl qw_1452 dX16_batch_46 (gl_28 (gix_lt (Nat.le_trans (hBR 2 0 (by decide)) (by decide)) g1)) rfl ?_
        refine y_astore_n (pc := 49) (i := 3) (lv' := [(3, .ref (ad (28, 0, a.toNatClampNeg))), (0, .ref (ad (20, 0, 0))), (1, .int (a)), (2, .int (b))]) o dX16_batch_49 rfl (by decide) rfl ?_
        refine y_iload_n (pc := 50) o dX16_batch_50 rfl ?_
        refine y_bipush (pc := 51) (x := 110) o dX16_batch_51 (by decide) ?_
        refine y_icmp_ne (pc := 53) (tgt := 63) o dX16_batch_53 rfl (fun (b33 : ¬ b = 110) => ?_) (fun b33 => absurd b33 (by rw [c4]; decide))
        refine y_iload_n (pc := 63) o dX16_batch_63 rfl ?_
        refine y_bipush (pc := 64) (x := 119) o dX16_batch_64 (by decide) ?_
        refine y_icmp_ne (pc := 66) (tgt := 76) o dX16_batch_66 rfl (fun (b34 : ¬ b = 119) => ?_) (fun b34 => absurd b34 (by rw [c4]; decide))
        refine y_iload_n (pc := 76) o dX16_batch_76 rfl ?_
        refine y_bipush (pc := 77) (x := 98) o dX16_batch_77 (by decide) ?_
        refine y_icmp_ne (pc := 79) (tgt := 89) o dX16_batch_79 rfl (fun (b35 : ¬ b = 98) => ?_) (fun b35 => absurd b35 (by rw [c4]; decide))
        refine y_iload_n (pc := 89) o dX16_batch_89 rfl ?_
        refine y_bipush (pc := 90) (x := 114) o dX16_batch_90 (by decide) ?_
        refine y_icmp_ne (pc := 92) (tgt := 102) o dX16_batch_92 rfl (fun (b36 : ¬ b = 114) => ?_) (fun b36 => absurd b36 (by rw [c4]; decide))
        refine y_iload_n (pc := 102) o dX16_batch_102 rfl ?_
        refine y_bipush (pc := 103) (x := 115) o dX16_batch_103 (by decide) ?_
        refine y_icmp_ne (pc := 105) (tgt := 115) o dX16_batch_105 rfl (fun (b37 : ¬ b = 115) => ?_) (fun b37 => absurd b37 (by rw [c4]; decide))
        refine y_iload_n (pc := 115) o dX16_batch_115 rfl ?_
        refine y_bipush (pc := 116) (x := 100) o dX16_batch_116 (by decide) ?_
        refine y_icmp_ne (pc := 118) (tgt := 128) o dX16_batch_118 rfl (fun (b38 : ¬ b = 100) => ?_) (fun b38 => absurd b38 (by rw [c4]; decide))
        refine y_aload_n (pc := 128) o dX16_batch_128 rfl ?_
        refine z_get (pc := 129) (K := (28, 0, a.toNatClampNeg)) (v := .int (R.1 (8, 0, a.toNatClampNeg) 6)) o fl_X16_168 dX16_batch_129 (gl_28 (gix_lt (Nat.le_trans (hBR 2 0 (by decide)) (by decide)) g1)) rfl rfl ?_
        exact y_iret (pc := 132) o dX16_batch_132 rfl (vp_nar_int _) (by decide) (by decide) (fun h hp => gP_mk (by simp +decide only [F_batch, g1, c4, gtc0, gtc1, gtc2, gtc3, gtc4, not_true_eq_false, not_false_eq_true, if_true, if_false, or_true, true_or, or_false, false_or, and_true, true_and, and_false, false_and, or_self, and_self, eq_self, Bool.false_eq_true, ne_eq, reduceIte]) rfl rfl hp)
    refine y_iconst (pc := 22) (x := 1) o dX16_batch_22 (by decide) ?_
    refine y_goto (pc := 23) (tgt := 27) o dX16_batch_23 rfl ?_
    refine y_iconst (pc := 27) (x := 2) o dX16_batch_27 (by decide) ?_
    refine z_callV (pc := 28) (k := 0) (n := 0) (k' := 0) (n' := 0) o (b := ad (20, 0, 0)) (As := [.int (1), .int (2)]) (rest := []) (kFailsT hR h5 2 (by decide)) ln_X16_74 dX16_batch_28 (z_rc (ci := 20) (K := (20, 0, 0)) rfl (gl_20 hR) rfl) rfl rfl (Nat.le_of_ble_eq_true rfl) ⟨by decide, by decide⟩ ⟨rfl, rfl⟩ ⟨by decide, by decide⟩ rfl gq_nox2 ?_
    refine y_if_eq (pc := 31) (tgt := 36) o dX16_batch_31 rfl (fun b39 => absurd b39 (by decide)) (fun (b39 : ¬ 1 = 0) => ?_)
    refine y_iconst (pc := 34) (x := -1) o dX16_batch_34 (by decide) ?_
    exact y_iret (pc := 35) o dX16_batch_35 rfl (vp_nar_int _) (by decide) (by decide) (fun h hp => gP_thr (k := 2) (by simp +decide only [F_batch, g1, (gfind_mem (l := gq_sbyt.getD 2 []) (j := 0) (by decide)).mp b3 110 (by decide), (gfind_mem (l := gq_sbyt.getD 2 []) (j := 0) (by decide)).mp b3 119 (by decide), (gfind_mem (l := gq_sbyt.getD 2 []) (j := 0) (by decide)).mp b3 98 (by decide), (gfind_mem (l := gq_sbyt.getD 2 []) (j := 0) (by decide)).mp b3 114 (by decide), (gfind_mem (l := gq_sbyt.getD 2 []) (j := 0) (by decide)).mp b3 115 (by decide), (gfind_mem (l := gq_sbyt.getD 2 []) (j := 0) (by decide)).mp b3 100 (by decide), (gfind_mem (l := gq_sbyt.getD 2 []) (j := 0) (by decide)).mp b3 102 (by decide), gtc0, gtc1, gtc2, gtc3, gtc4, not_true_eq_false, not_false_eq_true, if_true, if_false, or_true, true_or, or_false, false_or, and_true, true_and, and_false, false_and, or_self, and_self, eq_self, Bool.false_eq_true, ne_eq, reduceIte]) (by decide) hp)
  refine z_callV (pc := 6) (k := 0) (n := 0) (k' := 0) (n' := 0) o (b := ad (20, 0, 0)) (As := [.int (a)]) (rest := []) (knoBatchT hR hBR h5 a g1) ln_X16_144 dX16_batch_6 (z_rc (ci := 20) (K := (20, 0, 0)) rfl (gl_20 hR) rfl) rfl rfl (Nat.le_of_ble_eq_true rfl) ⟨by decide, by decide⟩ ⟨rfl, rfl⟩ ⟨by decide, by decide⟩ rfl gq_nox2 ?_
  refine y_if_ne (pc := 9) (tgt := 34) o dX16_batch_9 rfl (fun (b40 : ¬ 1 = 0) => ?_) (fun b40 => absurd b40 (by decide))
  refine y_iconst (pc := 34) (x := -1) o dX16_batch_34 (by decide) ?_
  exact y_iret (pc := 35) o dX16_batch_35 rfl (vp_nar_int _) (by decide) (by decide) (fun h hp => gP_thr (k := 1) (by simp +decide only [F_batch, g1, gtc0, gtc1, gtc2, gtc3, gtc4, not_true_eq_false, not_false_eq_true, if_true, if_false, or_true, true_or, or_false, false_or, and_true, true_and, and_false, false_and, or_self, and_self, eq_self, Bool.false_eq_true, ne_eq, reduceIte]) (by decide) hp)

theorem r_slat {κ : gq_K} {ad : gKey → Nat} {C Rp R : gG} {T : List (Nat × va_E)} {n : Nat} (hb : gup Rp (0, 0, 0) 5 0 = R) (hI : gI n R) (hn : n ≤ 512) (a : Int32) (b : Int32) : gq_C κ mX16_slat [.ref (ad (20, 0, 0)), .int (a), .int (b)] (gR κ ad (C, Rp) T) (gP κ ad C T (F_slat R a b)) (gq_no) := by
  refine gq_enter (by decide +kernel) rfl (Nat.le_of_ble_eq_true rfl) rfl (fun f o => ?_)
  have hR := hI.fix
  have hBR := hI.cnt
  have hRp : gfix Rp.2 := by rw [← hb] at hR; exact hR
  have h5 : R.1 (0, 0, 0) 5 = 0 := by rw [← hb]; exact gup_v _ _ _ _
  refine y_aload_n (pc := 0) o dX16_slat_0 rfl ?_
  refine z_callVv (pc := 1) (k := 0) (n := 0) (k' := 0) (n' := 0) o (b := ad (20, 0, 0)) (As := []) (rest := []) (kBegins hRp) ln_X16_69 dX16_slat_1 (z_rc (ci := 20) (K := (20, 0, 0)) rfl (gl_20 hRp) rfl) rfl rfl (Nat.le_of_ble_eq_true rfl) ⟨by decide, by decide⟩ ⟨rfl, rfl⟩ ⟨by decide, by decide⟩ rfl gq_nox2 ?_
  rw [hb]
  refine y_aload_n (pc := 4) o dX16_slat_4 rfl ?_
  refine y_iload_n (pc := 5) o dX16_slat_5 rfl ?_
  by_cases g1 : gix (R.2 9 0) a = true
  · refine z_callV (pc := 6) (k := 0) (n := 0) (k' := 0) (n' := 0) o (b := ad (20, 0, 0)) (As := [.int (a)]) (rest := []) (knoSlatsF hR hBR h5 a g1) ln_X16_219 dX16_slat_6 (z_rc (ci := 20) (K := (20, 0, 0)) rfl (gl_20 hR) rfl) rfl rfl (Nat.le_of_ble_eq_true rfl) ⟨by decide, by decide⟩ ⟨rfl, rfl⟩ ⟨by decide, by decide⟩ rfl gq_nox2 ?_
    refine y_if_ne (pc := 9) (tgt := 34) o dX16_slat_9 rfl (fun b2 => absurd b2 (by decide)) (fun (b2 : 0 = 0) => ?_)
    refine y_aload_n (pc := 12) o dX16_slat_12 rfl ?_
    refine y_ldcS (pc := 13) o 3 dX16_slat_13 rfl ?_
    refine y_iload_n (pc := 15) o dX16_slat_15 rfl ?_
    refine z_callV (pc := 16) (k := 0) (n := 0) (k' := 0) (n' := 0) o (b := κ.2.2 3) (As := [.int (b)]) (rest := [.ref (ad (20, 0, 0))]) (c_indexOf 3 (by decide) b) ln_X16_83 dX16_slat_16 (gq_rs 3 (by decide)) rfl rfl (Nat.le_of_ble_eq_true rfl) ⟨by decide, by decide⟩ ⟨rfl, rfl⟩ ⟨by decide, by decide⟩ rfl gq_nox2 ?_
    refine z_if_ge (pc := 19) (tgt := 26) o dX16_slat_19 rfl (fun (b3 : ¬ (gfind (gq_sbyt.getD 3 []) 0 b) < 0) => ?_) (fun (b3 : (gfind (gq_sbyt.getD 3 []) 0 b) < 0) => ?_)
    · rcases gf_or3 b3 with c4 | c4 | c4 | c4
      · refine y_iconst (pc := 26) (x := 0) o dX16_slat_26 (by decide) ?_
        refine y_iconst (pc := 27) (x := 2) o dX16_slat_27 (by decide) ?_
        refine z_callV (pc := 28) (k := 0) (n := 0) (k' := 0) (n' := 0) o (b := ad (20, 0, 0)) (As := [.int (0), .int (2)]) (rest := []) (kFailsF hR h5 2) ln_X16_74 dX16_slat_28 (z_rc (ci := 20) (K := (20, 0, 0)) rfl (gl_20 hR) rfl) rfl rfl (Nat.le_of_ble_eq_true rfl) ⟨by decide, by decide⟩ ⟨rfl, rfl⟩ ⟨by decide, by decide⟩ rfl gq_nox2 ?_
        refine y_if_eq (pc := 31) (tgt := 36) o dX16_slat_31 rfl (fun (b5 : 0 = 0) => ?_) (fun b5 => absurd b5 (by rw [b2]; decide))
        refine y_aload_n (pc := 36) o dX16_slat_36 rfl ?_
        refine z_get (pc := 37) (K := (20, 0, 0)) (v := .ref (ad (24, 3, 0))) o fl_X16_54 dX16_slat_37 (gl_20 hR) rfl rfl ?_
        refine y_iload_n (pc := 40) o dX16_slat_40 rfl ?_
        refine z_callF (pc := 41) (k := 0) (n := 0) (k' := 0) (n' := 0) (ci := 3) o (b := ad (24, 3, 0)) (As := [.int (a)]) (rest := []) (getR (l := 3) (g := 0) (gl_24_3 hR) (hBR 3 0 (by decide)) g1) rfl lf_X16_114 dX16_slat_41 (fun h hr => ⟨_, ghdr_R (R := R) (gl_24_3 hR) hr⟩) rfl rfl (Nat.le_of_ble_eq_true rfl) ⟨by decide, by decide⟩ ⟨rfl, rfl⟩ ⟨by decide, by decide⟩ ?_
        refine z_cast (pc := 46) (ci := 19) (K := (29, 0, a.toNatClampNeg)) o rfl qw_1551 dX16_slat_46 (gl_29 (gix_lt (Nat.le_trans (hBR 3 0 (by decide)) (by decide)) g1)) rfl ?_
        refine y_astore_n (pc := 49) (i := 3) (lv' := [(3, .ref (ad (29, 0, a.toNatClampNeg))), (0, .ref (ad (20, 0, 0))), (1, .int (a)), (2, .int (b))]) o dX16_slat_49 rfl (by decide) rfl ?_
        refine y_iload_n (pc := 50) o dX16_slat_50 rfl ?_
        refine y_bipush (pc := 51) (x := 110) o dX16_slat_51 (by decide) ?_
        refine y_icmp_ne (pc := 53) (tgt := 63) o dX16_slat_53 rfl (fun b6 => absurd b6 (by rw [c4]; decide)) (fun (b6 : b = 110) => ?_)
        refine y_aload_n (pc := 56) o dX16_slat_56 rfl ?_
        refine z_get (pc := 57) (K := (29, 0, a.toNatClampNeg)) (v := .int (R.1 (9, 0, a.toNatClampNeg) 3)) o fl_X16_216 dX16_slat_57 (gl_29 (gix_lt (Nat.le_trans (hBR 3 0 (by decide)) (by decide)) g1)) rfl rfl ?_
        refine y_goto (pc := 60) (tgt := 93) o dX16_slat_60 rfl ?_
        exact y_iret (pc := 93) o dX16_slat_93 rfl (vp_nar_int _) (by decide) (by decide) (fun h hp => gP_mk (by simp +decide only [F_slat, g1, c4, gtc0, gtc1, gtc2, gtc3, gtc4, not_true_eq_false, not_false_eq_true, if_true, if_false, or_true, true_or, or_false, false_or, and_true, true_and, and_false, false_and, or_self, and_self, eq_self, Bool.false_eq_true, ne_eq, reduceIte]) rfl rfl hp)
      · refine y_iconst (pc := 26) (x := 0) o dX16_slat_26 (by decide) ?_
        refine y_iconst (pc := 27) (x := 2) o dX16_slat_27 (by decide) ?_
        refine z_callV (pc := 28) (k := 0) (n := 0) (k' := 0) (n' := 0) o (b := ad (20, 0, 0)) (As := [.int (0), .int (2)]) (rest := []) (kFailsF hR h5 2) ln_X16_74 dX16_slat_28 (z_rc (ci := 20) (K := (20, 0, 0)) rfl (gl_20 hR) rfl) rfl rfl (Nat.le_of_ble_eq_true rfl) ⟨by decide, by decide⟩ ⟨rfl, rfl⟩ ⟨by decide, by decide⟩ rfl gq_nox2 ?_
        refine y_if_eq (pc := 31) (tgt := 36) o dX16_slat_31 rfl (fun (b7 : 0 = 0) => ?_) (fun b7 => absurd b7 (by rw [b2]; decide))
        refine y_aload_n (pc := 36) o dX16_slat_36 rfl ?_
        refine z_get (pc := 37) (K := (20, 0, 0)) (v := .ref (ad (24, 3, 0))) o fl_X16_54 dX16_slat_37 (gl_20 hR) rfl rfl ?_
        refine y_iload_n (pc := 40) o dX16_slat_40 rfl ?_
        refine z_callF (pc := 41) (k := 0) (n := 0) (k' := 0) (n' := 0) (ci := 3) o (b := ad (24, 3, 0)) (As := [.int (a)]) (rest := []) (getR (l := 3) (g := 0) (gl_24_3 hR) (hBR 3 0 (by decide)) g1) rfl lf_X16_114 dX16_slat_41 (fun h hr => ⟨_, ghdr_R (R := R) (gl_24_3 hR) hr⟩) rfl rfl (Nat.le_of_ble_eq_true rfl) ⟨by decide, by decide⟩ ⟨rfl, rfl⟩ ⟨by decide, by decide⟩ ?_
        refine z_cast (pc := 46) (ci := 19) (K := (29, 0, a.toNatClampNeg)) o rfl qw_1551 dX16_slat_46 (gl_29 (gix_lt (Nat.le_trans (hBR 3 0 (by decide)) (by decide)) g1)) rfl ?_
        refine y_astore_n (pc := 49) (i := 3) (lv' := [(3, .ref (ad (29, 0, a.toNatClampNeg))), (0, .ref (ad (20, 0, 0))), (1, .int (a)), (2, .int (b))]) o dX16_slat_49 rfl (by decide) rfl ?_
        refine y_iload_n (pc := 50) o dX16_slat_50 rfl ?_
        refine y_bipush (pc := 51) (x := 110) o dX16_slat_51 (by decide) ?_
        refine y_icmp_ne (pc := 53) (tgt := 63) o dX16_slat_53 rfl (fun (b8 : ¬ b = 110) => ?_) (fun b8 => absurd b8 (by rw [c4]; decide))
        refine y_iload_n (pc := 63) o dX16_slat_63 rfl ?_
        refine y_bipush (pc := 64) (x := 119) o dX16_slat_64 (by decide) ?_
        refine y_icmp_ne (pc := 66) (tgt := 76) o dX16_slat_66 rfl (fun b9 => absurd b9 (by rw [c4]; decide)) (fun (b9 : b = 119) => ?_)
        refine y_aload_n (pc := 69) o dX16_slat_69 rfl ?_
        refine z_get (pc := 70) (K := (29, 0, a.toNatClampNeg)) (v := .int (R.1 (9, 0, a.toNatClampNeg) 2)) o fl_X16_213 dX16_slat_70 (gl_29 (gix_lt (Nat.le_trans (hBR 3 0 (by decide)) (by decide)) g1)) rfl rfl ?_
        refine y_goto (pc := 73) (tgt := 93) o dX16_slat_73 rfl ?_
        exact y_iret (pc := 93) o dX16_slat_93 rfl (vp_nar_int _) (by decide) (by decide) (fun h hp => gP_mk (by simp +decide only [F_slat, g1, c4, gtc0, gtc1, gtc2, gtc3, gtc4, not_true_eq_false, not_false_eq_true, if_true, if_false, or_true, true_or, or_false, false_or, and_true, true_and, and_false, false_and, or_self, and_self, eq_self, Bool.false_eq_true, ne_eq, reduceIte]) rfl rfl hp)
      · refine y_iconst (pc := 26) (x := 0) o dX16_slat_26 (by decide) ?_
        refine y_iconst (pc := 27) (x := 2) o dX16_slat_27 (by decide) ?_
        refine z_callV (pc := 28) (k := 0) (n := 0) (k' := 0) (n' := 0) o (b := ad (20, 0, 0)) (As := [.int (0), .int (2)]) (rest := []) (kFailsF hR h5 2) ln_X16_74 dX16_slat_28 (z_rc (ci := 20) (K := (20, 0, 0)) rfl (gl_20 hR) rfl) rfl rfl (Nat.le_of_ble_eq_true rfl) ⟨by decide, by decide⟩ ⟨rfl, rfl⟩ ⟨by decide, by decide⟩ rfl gq_nox2 ?_
        refine y_if_eq (pc := 31) (tgt := 36) o dX16_slat_31 rfl (fun (b10 : 0 = 0) => ?_) (fun b10 => absurd b10 (by rw [b2]; decide))
        refine y_aload_n (pc := 36) o dX16_slat_36 rfl ?_
        refine z_get (pc := 37) (K := (20, 0, 0)) (v := .ref (ad (24, 3, 0))) o fl_X16_54 dX16_slat_37 (gl_20 hR) rfl rfl ?_
        refine y_iload_n (pc := 40) o dX16_slat_40 rfl ?_
        refine z_callF (pc := 41) (k := 0) (n := 0) (k' := 0) (n' := 0) (ci := 3) o (b := ad (24, 3, 0)) (As := [.int (a)]) (rest := []) (getR (l := 3) (g := 0) (gl_24_3 hR) (hBR 3 0 (by decide)) g1) rfl lf_X16_114 dX16_slat_41 (fun h hr => ⟨_, ghdr_R (R := R) (gl_24_3 hR) hr⟩) rfl rfl (Nat.le_of_ble_eq_true rfl) ⟨by decide, by decide⟩ ⟨rfl, rfl⟩ ⟨by decide, by decide⟩ ?_
        refine z_cast (pc := 46) (ci := 19) (K := (29, 0, a.toNatClampNeg)) o rfl qw_1551 dX16_slat_46 (gl_29 (gix_lt (Nat.le_trans (hBR 3 0 (by decide)) (by decide)) g1)) rfl ?_
        refine y_astore_n (pc := 49) (i := 3) (lv' := [(3, .ref (ad (29, 0, a.toNatClampNeg))), (0, .ref (ad (20, 0, 0))), (1, .int (a)), (2, .int (b))]) o dX16_slat_49 rfl (by decide) rfl ?_
        refine y_iload_n (pc := 50) o dX16_slat_50 rfl ?_
        refine y_bipush (pc := 51) (x := 110) o dX16_slat_51 (by decide) ?_
        refine y_icmp_ne (pc := 53) (tgt := 63) o dX16_slat_53 rfl (fun (b11 : ¬ b = 110) => ?_) (fun b11 => absurd b11 (by rw [c4]; decide))
        refine y_iload_n (pc := 63) o dX16_slat_63 rfl ?_
        refine y_bipush (pc := 64) (x := 119) o dX16_slat_64 (by decide) ?_
        refine y_icmp_ne (pc := 66) (tgt := 76) o dX16_slat_66 rfl (fun (b12 : ¬ b = 119) => ?_) (fun b12 => absurd b12 (by rw [c4]; decide))
        refine y_iload_n (pc := 76) o dX16_slat_76 rfl ?_
        refine y_bipush (pc := 77) (x := 103) o dX16_slat_77 (by decide) ?_
        refine y_icmp_ne (pc := 79) (tgt := 89) o dX16_slat_79 rfl (fun b13 => absurd b13 (by rw [c4]; decide)) (fun (b13 : b = 103) => ?_)
        refine y_aload_n (pc := 82) o dX16_slat_82 rfl ?_
        refine z_get (pc := 83) (K := (29, 0, a.toNatClampNeg)) (v := .int (R.1 (9, 0, a.toNatClampNeg) 4)) o fl_X16_227 dX16_slat_83 (gl_29 (gix_lt (Nat.le_trans (hBR 3 0 (by decide)) (by decide)) g1)) rfl rfl ?_
        refine y_goto (pc := 86) (tgt := 93) o dX16_slat_86 rfl ?_
        exact y_iret (pc := 93) o dX16_slat_93 rfl (vp_nar_int _) (by decide) (by decide) (fun h hp => gP_mk (by simp +decide only [F_slat, g1, c4, gtc0, gtc1, gtc2, gtc3, gtc4, not_true_eq_false, not_false_eq_true, if_true, if_false, or_true, true_or, or_false, false_or, and_true, true_and, and_false, false_and, or_self, and_self, eq_self, Bool.false_eq_true, ne_eq, reduceIte]) rfl rfl hp)
      · refine y_iconst (pc := 26) (x := 0) o dX16_slat_26 (by decide) ?_
        refine y_iconst (pc := 27) (x := 2) o dX16_slat_27 (by decide) ?_
        refine z_callV (pc := 28) (k := 0) (n := 0) (k' := 0) (n' := 0) o (b := ad (20, 0, 0)) (As := [.int (0), .int (2)]) (rest := []) (kFailsF hR h5 2) ln_X16_74 dX16_slat_28 (z_rc (ci := 20) (K := (20, 0, 0)) rfl (gl_20 hR) rfl) rfl rfl (Nat.le_of_ble_eq_true rfl) ⟨by decide, by decide⟩ ⟨rfl, rfl⟩ ⟨by decide, by decide⟩ rfl gq_nox2 ?_
        refine y_if_eq (pc := 31) (tgt := 36) o dX16_slat_31 rfl (fun (b14 : 0 = 0) => ?_) (fun b14 => absurd b14 (by rw [b2]; decide))
        refine y_aload_n (pc := 36) o dX16_slat_36 rfl ?_
        refine z_get (pc := 37) (K := (20, 0, 0)) (v := .ref (ad (24, 3, 0))) o fl_X16_54 dX16_slat_37 (gl_20 hR) rfl rfl ?_
        refine y_iload_n (pc := 40) o dX16_slat_40 rfl ?_
        refine z_callF (pc := 41) (k := 0) (n := 0) (k' := 0) (n' := 0) (ci := 3) o (b := ad (24, 3, 0)) (As := [.int (a)]) (rest := []) (getR (l := 3) (g := 0) (gl_24_3 hR) (hBR 3 0 (by decide)) g1) rfl lf_X16_114 dX16_slat_41 (fun h hr => ⟨_, ghdr_R (R := R) (gl_24_3 hR) hr⟩) rfl rfl (Nat.le_of_ble_eq_true rfl) ⟨by decide, by decide⟩ ⟨rfl, rfl⟩ ⟨by decide, by decide⟩ ?_
        refine z_cast (pc := 46) (ci := 19) (K := (29, 0, a.toNatClampNeg)) o rfl qw_1551 dX16_slat_46 (gl_29 (gix_lt (Nat.le_trans (hBR 3 0 (by decide)) (by decide)) g1)) rfl ?_
        refine y_astore_n (pc := 49) (i := 3) (lv' := [(3, .ref (ad (29, 0, a.toNatClampNeg))), (0, .ref (ad (20, 0, 0))), (1, .int (a)), (2, .int (b))]) o dX16_slat_49 rfl (by decide) rfl ?_
        refine y_iload_n (pc := 50) o dX16_slat_50 rfl ?_
        refine y_bipush (pc := 51) (x := 110) o dX16_slat_51 (by decide) ?_
        refine y_icmp_ne (pc := 53) (tgt := 63) o dX16_slat_53 rfl (fun (b15 : ¬ b = 110) => ?_) (fun b15 => absurd b15 (by rw [c4]; decide))
        refine y_iload_n (pc := 63) o dX16_slat_63 rfl ?_
        refine y_bipush (pc := 64) (x := 119) o dX16_slat_64 (by decide) ?_
        refine y_icmp_ne (pc := 66) (tgt := 76) o dX16_slat_66 rfl (fun (b16 : ¬ b = 119) => ?_) (fun b16 => absurd b16 (by rw [c4]; decide))
        refine y_iload_n (pc := 76) o dX16_slat_76 rfl ?_
        refine y_bipush (pc := 77) (x := 103) o dX16_slat_77 (by decide) ?_
        refine y_icmp_ne (pc := 79) (tgt := 89) o dX16_slat_79 rfl (fun (b17 : ¬ b = 103) => ?_) (fun b17 => absurd b17 (by rw [c4]; decide))
        refine y_aload_n (pc := 89) o dX16_slat_89 rfl ?_
        refine z_get (pc := 90) (K := (29, 0, a.toNatClampNeg)) (v := .int (R.1 (9, 0, a.toNatClampNeg) 5)) o fl_X16_224 dX16_slat_90 (gl_29 (gix_lt (Nat.le_trans (hBR 3 0 (by decide)) (by decide)) g1)) rfl rfl ?_
        exact y_iret (pc := 93) o dX16_slat_93 rfl (vp_nar_int _) (by decide) (by decide) (fun h hp => gP_mk (by simp +decide only [F_slat, g1, c4, gtc0, gtc1, gtc2, gtc3, gtc4, not_true_eq_false, not_false_eq_true, if_true, if_false, or_true, true_or, or_false, false_or, and_true, true_and, and_false, false_and, or_self, and_self, eq_self, Bool.false_eq_true, ne_eq, reduceIte]) rfl rfl hp)
    refine y_iconst (pc := 22) (x := 1) o dX16_slat_22 (by decide) ?_
    refine y_goto (pc := 23) (tgt := 27) o dX16_slat_23 rfl ?_
    refine y_iconst (pc := 27) (x := 2) o dX16_slat_27 (by decide) ?_
    refine z_callV (pc := 28) (k := 0) (n := 0) (k' := 0) (n' := 0) o (b := ad (20, 0, 0)) (As := [.int (1), .int (2)]) (rest := []) (kFailsT hR h5 2 (by decide)) ln_X16_74 dX16_slat_28 (z_rc (ci := 20) (K := (20, 0, 0)) rfl (gl_20 hR) rfl) rfl rfl (Nat.le_of_ble_eq_true rfl) ⟨by decide, by decide⟩ ⟨rfl, rfl⟩ ⟨by decide, by decide⟩ rfl gq_nox2 ?_
    refine y_if_eq (pc := 31) (tgt := 36) o dX16_slat_31 rfl (fun b18 => absurd b18 (by decide)) (fun (b18 : ¬ 1 = 0) => ?_)
    refine y_iconst (pc := 34) (x := -1) o dX16_slat_34 (by decide) ?_
    exact y_iret (pc := 35) o dX16_slat_35 rfl (vp_nar_int _) (by decide) (by decide) (fun h hp => gP_thr (k := 2) (by simp +decide only [F_slat, g1, (gfind_mem (l := gq_sbyt.getD 3 []) (j := 0) (by decide)).mp b3 110 (by decide), (gfind_mem (l := gq_sbyt.getD 3 []) (j := 0) (by decide)).mp b3 119 (by decide), (gfind_mem (l := gq_sbyt.getD 3 []) (j := 0) (by decide)).mp b3 103 (by decide), (gfind_mem (l := gq_sbyt.getD 3 []) (j := 0) (by decide)).mp b3 114 (by decide), gtc0, gtc1, gtc2, gtc3, gtc4, not_true_eq_false, not_false_eq_true, if_true, if_false, or_true, true_or, or_false, false_or, and_true, true_and, and_false, false_and, or_self, and_self, eq_self, Bool.false_eq_true, ne_eq, reduceIte]) (by decide) hp)
  refine z_callV (pc := 6) (k := 0) (n := 0) (k' := 0) (n' := 0) o (b := ad (20, 0, 0)) (As := [.int (a)]) (rest := []) (knoSlatsT hR hBR h5 a g1) ln_X16_219 dX16_slat_6 (z_rc (ci := 20) (K := (20, 0, 0)) rfl (gl_20 hR) rfl) rfl rfl (Nat.le_of_ble_eq_true rfl) ⟨by decide, by decide⟩ ⟨rfl, rfl⟩ ⟨by decide, by decide⟩ rfl gq_nox2 ?_
  refine y_if_ne (pc := 9) (tgt := 34) o dX16_slat_9 rfl (fun (b19 : ¬ 1 = 0) => ?_) (fun b19 => absurd b19 (by decide))
  refine y_iconst (pc := 34) (x := -1) o dX16_slat_34 (by decide) ?_
  exact y_iret (pc := 35) o dX16_slat_35 rfl (vp_nar_int _) (by decide) (by decide) (fun h hp => gP_thr (k := 1) (by simp +decide only [F_slat, g1, gtc0, gtc1, gtc2, gtc3, gtc4, not_true_eq_false, not_false_eq_true, if_true, if_false, or_true, true_or, or_false, false_or, and_true, true_and, and_false, false_and, or_self, and_self, eq_self, Bool.false_eq_true, ne_eq, reduceIte]) (by decide) hp)

theorem r_run {κ : gq_K} {ad : gKey → Nat} {C Rp R : gG} {T : List (Nat × va_E)} {n : Nat} (hb : gup Rp (0, 0, 0) 5 0 = R) (hI : gI n R) (hn : n ≤ 512) (a : Int32) (b : Int32) : gq_C κ mX16_run [.ref (ad (20, 0, 0)), .int (a), .int (b)] (gR κ ad (C, Rp) T) (gP κ ad C T (F_run R a b)) (gq_no) := by
  refine gq_enter (by decide +kernel) rfl (Nat.le_of_ble_eq_true rfl) rfl (fun f o => ?_)
  have hR := hI.fix
  have hBR := hI.cnt
  have hRp : gfix Rp.2 := by rw [← hb] at hR; exact hR
  have h5 : R.1 (0, 0, 0) 5 = 0 := by rw [← hb]; exact gup_v _ _ _ _
  refine y_aload_n (pc := 0) o dX16_run_0 rfl ?_
  refine z_callVv (pc := 1) (k := 0) (n := 0) (k' := 0) (n' := 0) o (b := ad (20, 0, 0)) (As := []) (rest := []) (kBegins hRp) ln_X16_69 dX16_run_1 (z_rc (ci := 20) (K := (20, 0, 0)) rfl (gl_20 hRp) rfl) rfl rfl (Nat.le_of_ble_eq_true rfl) ⟨by decide, by decide⟩ ⟨rfl, rfl⟩ ⟨by decide, by decide⟩ rfl gq_nox2 ?_
  rw [hb]
  refine y_aload_n (pc := 4) o dX16_run_4 rfl ?_
  refine y_iload_n (pc := 5) o dX16_run_5 rfl ?_
  by_cases g1 : gix (R.2 10 0) a = true
  · refine z_callV (pc := 6) (k := 0) (n := 0) (k' := 0) (n' := 0) o (b := ad (20, 0, 0)) (As := [.int (a)]) (rest := []) (knoRunF hR hBR h5 a g1) ln_X16_253 dX16_run_6 (z_rc (ci := 20) (K := (20, 0, 0)) rfl (gl_20 hR) rfl) rfl rfl (Nat.le_of_ble_eq_true rfl) ⟨by decide, by decide⟩ ⟨rfl, rfl⟩ ⟨by decide, by decide⟩ rfl gq_nox2 ?_
    refine y_if_ne (pc := 9) (tgt := 35) o dX16_run_9 rfl (fun b2 => absurd b2 (by decide)) (fun (b2 : 0 = 0) => ?_)
    refine y_aload_n (pc := 12) o dX16_run_12 rfl ?_
    refine y_ldcSW (pc := 13) o 5 dX16_run_13 rfl ?_
    refine y_iload_n (pc := 16) o dX16_run_16 rfl ?_
    refine z_callV (pc := 17) (k := 0) (n := 0) (k' := 0) (n' := 0) o (b := κ.2.2 5) (As := [.int (b)]) (rest := [.ref (ad (20, 0, 0))]) (c_indexOf 5 (by decide) b) ln_X16_83 dX16_run_17 (gq_rs 5 (by decide)) rfl rfl (Nat.le_of_ble_eq_true rfl) ⟨by decide, by decide⟩ ⟨rfl, rfl⟩ ⟨by decide, by decide⟩ rfl gq_nox2 ?_
    refine z_if_ge (pc := 20) (tgt := 27) o dX16_run_20 rfl (fun (b3 : ¬ (gfind (gq_sbyt.getD 5 []) 0 b) < 0) => ?_) (fun (b3 : (gfind (gq_sbyt.getD 5 []) 0 b) < 0) => ?_)
    · rcases gf_or5 b3 with c4 | c4 | c4 | c4 | c4 | c4 | c4
      · refine y_iconst (pc := 27) (x := 0) o dX16_run_27 (by decide) ?_
        refine y_iconst (pc := 28) (x := 2) o dX16_run_28 (by decide) ?_
        refine z_callV (pc := 29) (k := 0) (n := 0) (k' := 0) (n' := 0) o (b := ad (20, 0, 0)) (As := [.int (0), .int (2)]) (rest := []) (kFailsF hR h5 2) ln_X16_74 dX16_run_29 (z_rc (ci := 20) (K := (20, 0, 0)) rfl (gl_20 hR) rfl) rfl rfl (Nat.le_of_ble_eq_true rfl) ⟨by decide, by decide⟩ ⟨rfl, rfl⟩ ⟨by decide, by decide⟩ rfl gq_nox2 ?_
        refine y_if_eq (pc := 32) (tgt := 37) o dX16_run_32 rfl (fun (b5 : 0 = 0) => ?_) (fun b5 => absurd b5 (by rw [b2]; decide))
        refine y_aload_n (pc := 37) o dX16_run_37 rfl ?_
        refine z_get (pc := 38) (K := (20, 0, 0)) (v := .ref (ad (24, 4, 0))) o fl_X16_57 dX16_run_38 (gl_20 hR) rfl rfl ?_
        refine y_iload_n (pc := 41) o dX16_run_41 rfl ?_
        refine z_callF (pc := 42) (k := 0) (n := 0) (k' := 0) (n' := 0) (ci := 3) o (b := ad (24, 4, 0)) (As := [.int (a)]) (rest := []) (getR (l := 4) (g := 0) (gl_24_4 hR) (hBR 4 0 (by decide)) g1) rfl lf_X16_114 dX16_run_42 (fun h hr => ⟨_, ghdr_R (R := R) (gl_24_4 hR) hr⟩) rfl rfl (Nat.le_of_ble_eq_true rfl) ⟨by decide, by decide⟩ ⟨rfl, rfl⟩ ⟨by decide, by decide⟩ ?_
        refine z_cast (pc := 47) (ci := 18) (K := (30, 0, a.toNatClampNeg)) o rfl qw_1601 dX16_run_47 (gl_30 (gix_lt (Nat.le_trans (hBR 4 0 (by decide)) (by decide)) g1)) rfl ?_
        refine y_astore_n (pc := 50) (i := 3) (lv' := [(3, .ref (ad (30, 0, a.toNatClampNeg))), (0, .ref (ad (20, 0, 0))), (1, .int (a)), (2, .int (b))]) o dX16_run_50 rfl (by decide) rfl ?_
        refine y_iload_n (pc := 51) o dX16_run_51 rfl ?_
        refine y_bipush (pc := 52) (x := 110) o dX16_run_52 (by decide) ?_
        refine y_icmp_ne (pc := 54) (tgt := 64) o dX16_run_54 rfl (fun b6 => absurd b6 (by rw [c4]; decide)) (fun (b6 : b = 110) => ?_)
        refine y_aload_n (pc := 57) o dX16_run_57 rfl ?_
        refine z_get (pc := 58) (K := (30, 0, a.toNatClampNeg)) (v := .int (R.1 (10, 0, a.toNatClampNeg) 3)) o fl_X16_248 dX16_run_58 (gl_30 (gix_lt (Nat.le_trans (hBR 4 0 (by decide)) (by decide)) g1)) rfl rfl ?_
        refine y_goto (pc := 61) (tgt := 133) o dX16_run_61 rfl ?_
        exact y_iret (pc := 133) o dX16_run_133 rfl (vp_nar_int _) (by decide) (by decide) (fun h hp => gP_mk (by simp +decide only [F_run, g1, c4, gtc0, gtc1, gtc2, gtc3, gtc4, not_true_eq_false, not_false_eq_true, if_true, if_false, or_true, true_or, or_false, false_or, and_true, true_and, and_false, false_and, or_self, and_self, eq_self, Bool.false_eq_true, ne_eq, reduceIte]) rfl rfl hp)
      · refine y_iconst (pc := 27) (x := 0) o dX16_run_27 (by decide) ?_
        refine y_iconst (pc := 28) (x := 2) o dX16_run_28 (by decide) ?_
        refine z_callV (pc := 29) (k := 0) (n := 0) (k' := 0) (n' := 0) o (b := ad (20, 0, 0)) (As := [.int (0), .int (2)]) (rest := []) (kFailsF hR h5 2) ln_X16_74 dX16_run_29 (z_rc (ci := 20) (K := (20, 0, 0)) rfl (gl_20 hR) rfl) rfl rfl (Nat.le_of_ble_eq_true rfl) ⟨by decide, by decide⟩ ⟨rfl, rfl⟩ ⟨by decide, by decide⟩ rfl gq_nox2 ?_
        refine y_if_eq (pc := 32) (tgt := 37) o dX16_run_32 rfl (fun (b7 : 0 = 0) => ?_) (fun b7 => absurd b7 (by rw [b2]; decide))
        refine y_aload_n (pc := 37) o dX16_run_37 rfl ?_
        refine z_get (pc := 38) (K := (20, 0, 0)) (v := .ref (ad (24, 4, 0))) o fl_X16_57 dX16_run_38 (gl_20 hR) rfl rfl ?_
        refine y_iload_n (pc := 41) o dX16_run_41 rfl ?_
        refine z_callF (pc := 42) (k := 0) (n := 0) (k' := 0) (n' := 0) (ci := 3) o (b := ad (24, 4, 0)) (As := [.int (a)]) (rest := []) (getR (l := 4) (g := 0) (gl_24_4 hR) (hBR 4 0 (by decide)) g1) rfl lf_X16_114 dX16_run_42 (fun h hr => ⟨_, ghdr_R (R := R) (gl_24_4 hR) hr⟩) rfl rfl (Nat.le_of_ble_eq_true rfl) ⟨by decide, by decide⟩ ⟨rfl, rfl⟩ ⟨by decide, by decide⟩ ?_
        refine z_cast (pc := 47) (ci := 18) (K := (30, 0, a.toNatClampNeg)) o rfl qw_1601 dX16_run_47 (gl_30 (gix_lt (Nat.le_trans (hBR 4 0 (by decide)) (by decide)) g1)) rfl ?_
        refine y_astore_n (pc := 50) (i := 3) (lv' := [(3, .ref (ad (30, 0, a.toNatClampNeg))), (0, .ref (ad (20, 0, 0))), (1, .int (a)), (2, .int (b))]) o dX16_run_50 rfl (by decide) rfl ?_
        refine y_iload_n (pc := 51) o dX16_run_51 rfl ?_
        refine y_bipush (pc := 52) (x := 110) o dX16_run_52 (by decide) ?_
        refine y_icmp_ne (pc := 54) (tgt := 64) o dX16_run_54 rfl (fun (b8 : ¬ b = 110) => ?_) (fun b8 => absurd b8 (by rw [c4]; decide))
        refine y_iload_n (pc := 64) o dX16_run_64 rfl ?_
        refine y_bipush (pc := 65) (x := 98) o dX16_run_65 (by decide) ?_
        refine y_icmp_ne (pc := 67) (tgt := 77) o dX16_run_67 rfl (fun b9 => absurd b9 (by rw [c4]; decide)) (fun (b9 : b = 98) => ?_)
        refine y_aload_n (pc := 70) o dX16_run_70 rfl ?_
        refine z_get (pc := 71) (K := (30, 0, a.toNatClampNeg)) (v := .int (R.1 (10, 0, a.toNatClampNeg) 4)) o fl_X16_270 dX16_run_71 (gl_30 (gix_lt (Nat.le_trans (hBR 4 0 (by decide)) (by decide)) g1)) rfl rfl ?_
        refine y_goto (pc := 74) (tgt := 133) o dX16_run_74 rfl ?_
        exact y_iret (pc := 133) o dX16_run_133 rfl (vp_nar_int _) (by decide) (by decide) (fun h hp => gP_mk (by simp +decide only [F_run, g1, c4, gtc0, gtc1, gtc2, gtc3, gtc4, not_true_eq_false, not_false_eq_true, if_true, if_false, or_true, true_or, or_false, false_or, and_true, true_and, and_false, false_and, or_self, and_self, eq_self, Bool.false_eq_true, ne_eq, reduceIte]) rfl rfl hp)
      · refine y_iconst (pc := 27) (x := 0) o dX16_run_27 (by decide) ?_
        refine y_iconst (pc := 28) (x := 2) o dX16_run_28 (by decide) ?_
        refine z_callV (pc := 29) (k := 0) (n := 0) (k' := 0) (n' := 0) o (b := ad (20, 0, 0)) (As := [.int (0), .int (2)]) (rest := []) (kFailsF hR h5 2) ln_X16_74 dX16_run_29 (z_rc (ci := 20) (K := (20, 0, 0)) rfl (gl_20 hR) rfl) rfl rfl (Nat.le_of_ble_eq_true rfl) ⟨by decide, by decide⟩ ⟨rfl, rfl⟩ ⟨by decide, by decide⟩ rfl gq_nox2 ?_
        refine y_if_eq (pc := 32) (tgt := 37) o dX16_run_32 rfl (fun (b10 : 0 = 0) => ?_) (fun b10 => absurd b10 (by rw [b2]; decide))
        refine y_aload_n (pc := 37) o dX16_run_37 rfl ?_
        refine z_get (pc := 38) (K := (20, 0, 0)) (v := .ref (ad (24, 4, 0))) o fl_X16_57 dX16_run_38 (gl_20 hR) rfl rfl ?_
        refine y_iload_n (pc := 41) o dX16_run_41 rfl ?_
        refine z_callF (pc := 42) (k := 0) (n := 0) (k' := 0) (n' := 0) (ci := 3) o (b := ad (24, 4, 0)) (As := [.int (a)]) (rest := []) (getR (l := 4) (g := 0) (gl_24_4 hR) (hBR 4 0 (by decide)) g1) rfl lf_X16_114 dX16_run_42 (fun h hr => ⟨_, ghdr_R (R := R) (gl_24_4 hR) hr⟩) rfl rfl (Nat.le_of_ble_eq_true rfl) ⟨by decide, by decide⟩ ⟨rfl, rfl⟩ ⟨by decide, by decide⟩ ?_
        refine z_cast (pc := 47) (ci := 18) (K := (30, 0, a.toNatClampNeg)) o rfl qw_1601 dX16_run_47 (gl_30 (gix_lt (Nat.le_trans (hBR 4 0 (by decide)) (by decide)) g1)) rfl ?_
        refine y_astore_n (pc := 50) (i := 3) (lv' := [(3, .ref (ad (30, 0, a.toNatClampNeg))), (0, .ref (ad (20, 0, 0))), (1, .int (a)), (2, .int (b))]) o dX16_run_50 rfl (by decide) rfl ?_
        refine y_iload_n (pc := 51) o dX16_run_51 rfl ?_
        refine y_bipush (pc := 52) (x := 110) o dX16_run_52 (by decide) ?_
        refine y_icmp_ne (pc := 54) (tgt := 64) o dX16_run_54 rfl (fun (b11 : ¬ b = 110) => ?_) (fun b11 => absurd b11 (by rw [c4]; decide))
        refine y_iload_n (pc := 64) o dX16_run_64 rfl ?_
        refine y_bipush (pc := 65) (x := 98) o dX16_run_65 (by decide) ?_
        refine y_icmp_ne (pc := 67) (tgt := 77) o dX16_run_67 rfl (fun (b12 : ¬ b = 98) => ?_) (fun b12 => absurd b12 (by rw [c4]; decide))
        refine y_iload_n (pc := 77) o dX16_run_77 rfl ?_
        refine y_bipush (pc := 78) (x := 99) o dX16_run_78 (by decide) ?_
        refine y_icmp_ne (pc := 80) (tgt := 90) o dX16_run_80 rfl (fun b13 => absurd b13 (by rw [c4]; decide)) (fun (b13 : b = 99) => ?_)
        refine y_aload_n (pc := 83) o dX16_run_83 rfl ?_
        refine z_get (pc := 84) (K := (30, 0, a.toNatClampNeg)) (v := .int (R.1 (10, 0, a.toNatClampNeg) 7)) o fl_X16_256 dX16_run_84 (gl_30 (gix_lt (Nat.le_trans (hBR 4 0 (by decide)) (by decide)) g1)) rfl rfl ?_
        refine y_goto (pc := 87) (tgt := 133) o dX16_run_87 rfl ?_
        exact y_iret (pc := 133) o dX16_run_133 rfl (vp_nar_int _) (by decide) (by decide) (fun h hp => gP_mk (by simp +decide only [F_run, g1, c4, gtc0, gtc1, gtc2, gtc3, gtc4, not_true_eq_false, not_false_eq_true, if_true, if_false, or_true, true_or, or_false, false_or, and_true, true_and, and_false, false_and, or_self, and_self, eq_self, Bool.false_eq_true, ne_eq, reduceIte]) rfl rfl hp)
      · refine y_iconst (pc := 27) (x := 0) o dX16_run_27 (by decide) ?_
        refine y_iconst (pc := 28) (x := 2) o dX16_run_28 (by decide) ?_
        refine z_callV (pc := 29) (k := 0) (n := 0) (k' := 0) (n' := 0) o (b := ad (20, 0, 0)) (As := [.int (0), .int (2)]) (rest := []) (kFailsF hR h5 2) ln_X16_74 dX16_run_29 (z_rc (ci := 20) (K := (20, 0, 0)) rfl (gl_20 hR) rfl) rfl rfl (Nat.le_of_ble_eq_true rfl) ⟨by decide, by decide⟩ ⟨rfl, rfl⟩ ⟨by decide, by decide⟩ rfl gq_nox2 ?_
        refine y_if_eq (pc := 32) (tgt := 37) o dX16_run_32 rfl (fun (b14 : 0 = 0) => ?_) (fun b14 => absurd b14 (by rw [b2]; decide))
        refine y_aload_n (pc := 37) o dX16_run_37 rfl ?_
        refine z_get (pc := 38) (K := (20, 0, 0)) (v := .ref (ad (24, 4, 0))) o fl_X16_57 dX16_run_38 (gl_20 hR) rfl rfl ?_
        refine y_iload_n (pc := 41) o dX16_run_41 rfl ?_
        refine z_callF (pc := 42) (k := 0) (n := 0) (k' := 0) (n' := 0) (ci := 3) o (b := ad (24, 4, 0)) (As := [.int (a)]) (rest := []) (getR (l := 4) (g := 0) (gl_24_4 hR) (hBR 4 0 (by decide)) g1) rfl lf_X16_114 dX16_run_42 (fun h hr => ⟨_, ghdr_R (R := R) (gl_24_4 hR) hr⟩) rfl rfl (Nat.le_of_ble_eq_true rfl) ⟨by decide, by decide⟩ ⟨rfl, rfl⟩ ⟨by decide, by decide⟩ ?_
        refine z_cast (pc := 47) (ci := 18) (K := (30, 0, a.toNatClampNeg)) o rfl qw_1601 dX16_run_47 (gl_30 (gix_lt (Nat.le_trans (hBR 4 0 (by decide)) (by decide)) g1)) rfl ?_
        refine y_astore_n (pc := 50) (i := 3) (lv' := [(3, .ref (ad (30, 0, a.toNatClampNeg))), (0, .ref (ad (20, 0, 0))), (1, .int (a)), (2, .int (b))]) o dX16_run_50 rfl (by decide) rfl ?_
        refine y_iload_n (pc := 51) o dX16_run_51 rfl ?_
        refine y_bipush (pc := 52) (x := 110) o dX16_run_52 (by decide) ?_
        refine y_icmp_ne (pc := 54) (tgt := 64) o dX16_run_54 rfl (fun (b15 : ¬ b = 110) => ?_) (fun b15 => absurd b15 (by rw [c4]; decide))
        refine y_iload_n (pc := 64) o dX16_run_64 rfl ?_
        refine y_bipush (pc := 65) (x := 98) o dX16_run_65 (by decide) ?_
        refine y_icmp_ne (pc := 67) (tgt := 77) o dX16_run_67 rfl (fun (b16 : ¬ b = 98) => ?_) (fun b16 => absurd b16 (by rw [c4]; decide))
        refine y_iload_n (pc := 77) o dX16_run_77 rfl ?_
        refine y_bipush (pc := 78) (x := 99) o dX16_run_78 (by decide) ?_
        refine y_icmp_ne (pc := 80) (tgt := 90) o dX16_run_80 rfl (fun (b17 : ¬ b = 99) => ?_) (fun b17 => absurd b17 (by rw [c4]; decide))
        refine y_iload_n (pc := 90) o dX16_run_90 rfl ?_
        refine y_bipush (pc := 91) (x := 108) o dX16_run_91 (by decide) ?_
        refine y_icmp_ne (pc := 93) (tgt := 103) o dX16_run_93 rfl (fun b18 => absurd b18 (by rw [c4]; decide)) (fun (b18 : b = 108) => ?_)
        refine y_aload_n (pc := 96) o dX16_run_96 rfl ?_
        refine z_get (pc := 97) (K := (30, 0, a.toNatClampNeg)) (v := .int (R.1 (10, 0, a.toNatClampNeg) 8)) o fl_X16_259 dX16_run_97 (gl_30 (gix_lt (Nat.le_trans (hBR 4 0 (by decide)) (by decide)) g1)) rfl rfl ?_
        refine y_goto (pc := 100) (tgt := 133) o dX16_run_100 rfl ?_
        exact y_iret (pc := 133) o dX16_run_133 rfl (vp_nar_int _) (by decide) (by decide) (fun h hp => gP_mk (by simp +decide only [F_run, g1, c4, gtc0, gtc1, gtc2, gtc3, gtc4, not_true_eq_false, not_false_eq_true, if_true, if_false, or_true, true_or, or_false, false_or, and_true, true_and, and_false, false_and, or_self, and_self, eq_self, Bool.false_eq_true, ne_eq, reduceIte]) rfl rfl hp)
      · refine y_iconst (pc := 27) (x := 0) o dX16_run_27 (by decide) ?_
        refine y_iconst (pc := 28) (x := 2) o dX16_run_28 (by decide) ?_
        refine z_callV (pc := 29) (k := 0) (n := 0) (k' := 0) (n' := 0) o (b := ad (20, 0, 0)) (As := [.int (0), .int (2)]) (rest := []) (kFailsF hR h5 2) ln_X16_74 dX16_run_29 (z_rc (ci := 20) (K := (20, 0, 0)) rfl (gl_20 hR) rfl) rfl rfl (Nat.le_of_ble_eq_true rfl) ⟨by decide, by decide⟩ ⟨rfl, rfl⟩ ⟨by decide, by decide⟩ rfl gq_nox2 ?_
        refine y_if_eq (pc := 32) (tgt := 37) o dX16_run_32 rfl (fun (b19 : 0 = 0) => ?_) (fun b19 => absurd b19 (by rw [b2]; decide))
        refine y_aload_n (pc := 37) o dX16_run_37 rfl ?_
        refine z_get (pc := 38) (K := (20, 0, 0)) (v := .ref (ad (24, 4, 0))) o fl_X16_57 dX16_run_38 (gl_20 hR) rfl rfl ?_
        refine y_iload_n (pc := 41) o dX16_run_41 rfl ?_
        refine z_callF (pc := 42) (k := 0) (n := 0) (k' := 0) (n' := 0) (ci := 3) o (b := ad (24, 4, 0)) (As := [.int (a)]) (rest := []) (getR (l := 4) (g := 0) (gl_24_4 hR) (hBR 4 0 (by decide)) g1) rfl lf_X16_114 dX16_run_42 (fun h hr => ⟨_, ghdr_R (R := R) (gl_24_4 hR) hr⟩) rfl rfl (Nat.le_of_ble_eq_true rfl) ⟨by decide, by decide⟩ ⟨rfl, rfl⟩ ⟨by decide, by decide⟩ ?_
        refine z_cast (pc := 47) (ci := 18) (K := (30, 0, a.toNatClampNeg)) o rfl qw_1601 dX16_run_47 (gl_30 (gix_lt (Nat.le_trans (hBR 4 0 (by decide)) (by decide)) g1)) rfl ?_
        refine y_astore_n (pc := 50) (i := 3) (lv' := [(3, .ref (ad (30, 0, a.toNatClampNeg))), (0, .ref (ad (20, 0, 0))), (1, .int (a)), (2, .int (b))]) o dX16_run_50 rfl (by decide) rfl ?_
        refine y_iload_n (pc := 51) o dX16_run_51 rfl ?_
        refine y_bipush (pc := 52) (x := 110) o dX16_run_52 (by decide) ?_
        refine y_icmp_ne (pc := 54) (tgt := 64) o dX16_run_54 rfl (fun (b20 : ¬ b = 110) => ?_) (fun b20 => absurd b20 (by rw [c4]; decide))
        refine y_iload_n (pc := 64) o dX16_run_64 rfl ?_
        refine y_bipush (pc := 65) (x := 98) o dX16_run_65 (by decide) ?_
        refine y_icmp_ne (pc := 67) (tgt := 77) o dX16_run_67 rfl (fun (b21 : ¬ b = 98) => ?_) (fun b21 => absurd b21 (by rw [c4]; decide))
        refine y_iload_n (pc := 77) o dX16_run_77 rfl ?_
        refine y_bipush (pc := 78) (x := 99) o dX16_run_78 (by decide) ?_
        refine y_icmp_ne (pc := 80) (tgt := 90) o dX16_run_80 rfl (fun (b22 : ¬ b = 99) => ?_) (fun b22 => absurd b22 (by rw [c4]; decide))
        refine y_iload_n (pc := 90) o dX16_run_90 rfl ?_
        refine y_bipush (pc := 91) (x := 108) o dX16_run_91 (by decide) ?_
        refine y_icmp_ne (pc := 93) (tgt := 103) o dX16_run_93 rfl (fun (b23 : ¬ b = 108) => ?_) (fun b23 => absurd b23 (by rw [c4]; decide))
        refine y_iload_n (pc := 103) o dX16_run_103 rfl ?_
        refine y_bipush (pc := 104) (x := 103) o dX16_run_104 (by decide) ?_
        refine y_icmp_ne (pc := 106) (tgt := 116) o dX16_run_106 rfl (fun b24 => absurd b24 (by rw [c4]; decide)) (fun (b24 : b = 103) => ?_)
        refine y_aload_n (pc := 109) o dX16_run_109 rfl ?_
        refine z_get (pc := 110) (K := (30, 0, a.toNatClampNeg)) (v := .int (R.1 (10, 0, a.toNatClampNeg) 9)) o fl_X16_262 dX16_run_110 (gl_30 (gix_lt (Nat.le_trans (hBR 4 0 (by decide)) (by decide)) g1)) rfl rfl ?_
        refine y_goto (pc := 113) (tgt := 133) o dX16_run_113 rfl ?_
        exact y_iret (pc := 133) o dX16_run_133 rfl (vp_nar_int _) (by decide) (by decide) (fun h hp => gP_mk (by simp +decide only [F_run, g1, c4, gtc0, gtc1, gtc2, gtc3, gtc4, not_true_eq_false, not_false_eq_true, if_true, if_false, or_true, true_or, or_false, false_or, and_true, true_and, and_false, false_and, or_self, and_self, eq_self, Bool.false_eq_true, ne_eq, reduceIte]) rfl rfl hp)
      · refine y_iconst (pc := 27) (x := 0) o dX16_run_27 (by decide) ?_
        refine y_iconst (pc := 28) (x := 2) o dX16_run_28 (by decide) ?_
        refine z_callV (pc := 29) (k := 0) (n := 0) (k' := 0) (n' := 0) o (b := ad (20, 0, 0)) (As := [.int (0), .int (2)]) (rest := []) (kFailsF hR h5 2) ln_X16_74 dX16_run_29 (z_rc (ci := 20) (K := (20, 0, 0)) rfl (gl_20 hR) rfl) rfl rfl (Nat.le_of_ble_eq_true rfl) ⟨by decide, by decide⟩ ⟨rfl, rfl⟩ ⟨by decide, by decide⟩ rfl gq_nox2 ?_
        refine y_if_eq (pc := 32) (tgt := 37) o dX16_run_32 rfl (fun (b25 : 0 = 0) => ?_) (fun b25 => absurd b25 (by rw [b2]; decide))
        refine y_aload_n (pc := 37) o dX16_run_37 rfl ?_
        refine z_get (pc := 38) (K := (20, 0, 0)) (v := .ref (ad (24, 4, 0))) o fl_X16_57 dX16_run_38 (gl_20 hR) rfl rfl ?_
        refine y_iload_n (pc := 41) o dX16_run_41 rfl ?_
        refine z_callF (pc := 42) (k := 0) (n := 0) (k' := 0) (n' := 0) (ci := 3) o (b := ad (24, 4, 0)) (As := [.int (a)]) (rest := []) (getR (l := 4) (g := 0) (gl_24_4 hR) (hBR 4 0 (by decide)) g1) rfl lf_X16_114 dX16_run_42 (fun h hr => ⟨_, ghdr_R (R := R) (gl_24_4 hR) hr⟩) rfl rfl (Nat.le_of_ble_eq_true rfl) ⟨by decide, by decide⟩ ⟨rfl, rfl⟩ ⟨by decide, by decide⟩ ?_
        refine z_cast (pc := 47) (ci := 18) (K := (30, 0, a.toNatClampNeg)) o rfl qw_1601 dX16_run_47 (gl_30 (gix_lt (Nat.le_trans (hBR 4 0 (by decide)) (by decide)) g1)) rfl ?_
        refine y_astore_n (pc := 50) (i := 3) (lv' := [(3, .ref (ad (30, 0, a.toNatClampNeg))), (0, .ref (ad (20, 0, 0))), (1, .int (a)), (2, .int (b))]) o dX16_run_50 rfl (by decide) rfl ?_
        refine y_iload_n (pc := 51) o dX16_run_51 rfl ?_
        refine y_bipush (pc := 52) (x := 110) o dX16_run_52 (by decide) ?_
        refine y_icmp_ne (pc := 54) (tgt := 64) o dX16_run_54 rfl (fun (b26 : ¬ b = 110) => ?_) (fun b26 => absurd b26 (by rw [c4]; decide))
        refine y_iload_n (pc := 64) o dX16_run_64 rfl ?_
        refine y_bipush (pc := 65) (x := 98) o dX16_run_65 (by decide) ?_
        refine y_icmp_ne (pc := 67) (tgt := 77) o dX16_run_67 rfl (fun (b27 : ¬ b = 98) => ?_) (fun b27 => absurd b27 (by rw [c4]; decide))
        refine y_iload_n (pc := 77) o dX16_run_77 rfl ?_
        refine y_bipush (pc := 78) (x := 99) o dX16_run_78 (by decide) ?_
        refine y_icmp_ne (pc := 80) (tgt := 90) o dX16_run_80 rfl (fun (b28 : ¬ b = 99) => ?_) (fun b28 => absurd b28 (by rw [c4]; decide))
        refine y_iload_n (pc := 90) o dX16_run_90 rfl ?_
        refine y_bipush (pc := 91) (x := 108) o dX16_run_91 (by decide) ?_
        refine y_icmp_ne (pc := 93) (tgt := 103) o dX16_run_93 rfl (fun (b29 : ¬ b = 108) => ?_) (fun b29 => absurd b29 (by rw [c4]; decide))
        refine y_iload_n (pc := 103) o dX16_run_103 rfl ?_
        refine y_bipush (pc := 104) (x := 103) o dX16_run_104 (by decide) ?_
        refine y_icmp_ne (pc := 106) (tgt := 116) o dX16_run_106 rfl (fun (b30 : ¬ b = 103) => ?_) (fun b30 => absurd b30 (by rw [c4]; decide))
        refine y_iload_n (pc := 116) o dX16_run_116 rfl ?_
        refine y_bipush (pc := 117) (x := 111) o dX16_run_117 (by decide) ?_
        refine y_icmp_ne (pc := 119) (tgt := 129) o dX16_run_119 rfl (fun b31 => absurd b31 (by rw [c4]; decide)) (fun (b31 : b = 111) => ?_)
        refine y_aload_n (pc := 122) o dX16_run_122 rfl ?_
        refine z_get (pc := 123) (K := (30, 0, a.toNatClampNeg)) (v := .int (R.1 (10, 0, a.toNatClampNeg) 5)) o fl_X16_249 dX16_run_123 (gl_30 (gix_lt (Nat.le_trans (hBR 4 0 (by decide)) (by decide)) g1)) rfl rfl ?_
        refine y_goto (pc := 126) (tgt := 133) o dX16_run_126 rfl ?_
        exact y_iret (pc := 133) o dX16_run_133 rfl (vp_nar_int _) (by decide) (by decide) (fun h hp => gP_mk (by simp +decide only [F_run, g1, c4, gtc0, gtc1, gtc2, gtc3, gtc4, not_true_eq_false, not_false_eq_true, if_true, if_false, or_true, true_or, or_false, false_or, and_true, true_and, and_false, false_and, or_self, and_self, eq_self, Bool.false_eq_true, ne_eq, reduceIte]) rfl rfl hp)
      · refine y_iconst (pc := 27) (x := 0) o dX16_run_27 (by decide) ?_
        refine y_iconst (pc := 28) (x := 2) o dX16_run_28 (by decide) ?_
        refine z_callV (pc := 29) (k := 0) (n := 0) (k' := 0) (n' := 0) o (b := ad (20, 0, 0)) (As := [.int (0), .int (2)]) (rest := []) (kFailsF hR h5 2) ln_X16_74 dX16_run_29 (z_rc (ci := 20) (K := (20, 0, 0)) rfl (gl_20 hR) rfl) rfl rfl (Nat.le_of_ble_eq_true rfl) ⟨by decide, by decide⟩ ⟨rfl, rfl⟩ ⟨by decide, by decide⟩ rfl gq_nox2 ?_
        refine y_if_eq (pc := 32) (tgt := 37) o dX16_run_32 rfl (fun (b32 : 0 = 0) => ?_) (fun b32 => absurd b32 (by rw [b2]; decide))
        refine y_aload_n (pc := 37) o dX16_run_37 rfl ?_
        refine z_get (pc := 38) (K := (20, 0, 0)) (v := .ref (ad (24, 4, 0))) o fl_X16_57 dX16_run_38 (gl_20 hR) rfl rfl ?_
        refine y_iload_n (pc := 41) o dX16_run_41 rfl ?_
        refine z_callF (pc := 42) (k := 0) (n := 0) (k' := 0) (n' := 0) (ci := 3) o (b := ad (24, 4, 0)) (As := [.int (a)]) (rest := []) (getR (l := 4) (g := 0) (gl_24_4 hR) (hBR 4 0 (by decide)) g1) rfl lf_X16_114 dX16_run_42 (fun h hr => ⟨_, ghdr_R (R := R) (gl_24_4 hR) hr⟩) rfl rfl (Nat.le_of_ble_eq_true rfl) ⟨by decide, by decide⟩ ⟨rfl, rfl⟩ ⟨by decide, by decide⟩ ?_
        refine z_cast (pc := 47) (ci := 18) (K := (30, 0, a.toNatClampNeg)) o rfl qw_1601 dX16_run_47 (gl_30 (gix_lt (Nat.le_trans (hBR 4 0 (by decide)) (by decide)) g1)) rfl ?_
        refine y_astore_n (pc := 50) (i := 3) (lv' := [(3, .ref (ad (30, 0, a.toNatClampNeg))), (0, .ref (ad (20, 0, 0))), (1, .int (a)), (2, .int (b))]) o dX16_run_50 rfl (by decide) rfl ?_
        refine y_iload_n (pc := 51) o dX16_run_51 rfl ?_
        refine y_bipush (pc := 52) (x := 110) o dX16_run_52 (by decide) ?_
        refine y_icmp_ne (pc := 54) (tgt := 64) o dX16_run_54 rfl (fun (b33 : ¬ b = 110) => ?_) (fun b33 => absurd b33 (by rw [c4]; decide))
        refine y_iload_n (pc := 64) o dX16_run_64 rfl ?_
        refine y_bipush (pc := 65) (x := 98) o dX16_run_65 (by decide) ?_
        refine y_icmp_ne (pc := 67) (tgt := 77) o dX16_run_67 rfl (fun (b34 : ¬ b = 98) => ?_) (fun b34 => absurd b34 (by rw [c4]; decide))
        refine y_iload_n (pc := 77) o dX16_run_77 rfl ?_
        refine y_bipush (pc := 78) (x := 99) o dX16_run_78 (by decide) ?_
        refine y_icmp_ne (pc := 80) (tgt := 90) o dX16_run_80 rfl (fun (b35 : ¬ b = 99) => ?_) (fun b35 => absurd b35 (by rw [c4]; decide))
        refine y_iload_n (pc := 90) o dX16_run_90 rfl ?_
        refine y_bipush (pc := 91) (x := 108) o dX16_run_91 (by decide) ?_
        refine y_icmp_ne (pc := 93) (tgt := 103) o dX16_run_93 rfl (fun (b36 : ¬ b = 108) => ?_) (fun b36 => absurd b36 (by rw [c4]; decide))
        refine y_iload_n (pc := 103) o dX16_run_103 rfl ?_
        refine y_bipush (pc := 104) (x := 103) o dX16_run_104 (by decide) ?_
        refine y_icmp_ne (pc := 106) (tgt := 116) o dX16_run_106 rfl (fun (b37 : ¬ b = 103) => ?_) (fun b37 => absurd b37 (by rw [c4]; decide))
        refine y_iload_n (pc := 116) o dX16_run_116 rfl ?_
        refine y_bipush (pc := 117) (x := 111) o dX16_run_117 (by decide) ?_
        refine y_icmp_ne (pc := 119) (tgt := 129) o dX16_run_119 rfl (fun (b38 : ¬ b = 111) => ?_) (fun b38 => absurd b38 (by rw [c4]; decide))
        refine y_aload_n (pc := 129) o dX16_run_129 rfl ?_
        refine z_get (pc := 130) (K := (30, 0, a.toNatClampNeg)) (v := .int (R.1 (10, 0, a.toNatClampNeg) 6)) o fl_X16_252 dX16_run_130 (gl_30 (gix_lt (Nat.le_trans (hBR 4 0 (by decide)) (by decide)) g1)) rfl rfl ?_
        exact y_iret (pc := 133) o dX16_run_133 rfl (vp_nar_int _) (by decide) (by decide) (fun h hp => gP_mk (by simp +decide only [F_run, g1, c4, gtc0, gtc1, gtc2, gtc3, gtc4, not_true_eq_false, not_false_eq_true, if_true, if_false, or_true, true_or, or_false, false_or, and_true, true_and, and_false, false_and, or_self, and_self, eq_self, Bool.false_eq_true, ne_eq, reduceIte]) rfl rfl hp)
    refine y_iconst (pc := 23) (x := 1) o dX16_run_23 (by decide) ?_
    refine y_goto (pc := 24) (tgt := 28) o dX16_run_24 rfl ?_
    refine y_iconst (pc := 28) (x := 2) o dX16_run_28 (by decide) ?_
    refine z_callV (pc := 29) (k := 0) (n := 0) (k' := 0) (n' := 0) o (b := ad (20, 0, 0)) (As := [.int (1), .int (2)]) (rest := []) (kFailsT hR h5 2 (by decide)) ln_X16_74 dX16_run_29 (z_rc (ci := 20) (K := (20, 0, 0)) rfl (gl_20 hR) rfl) rfl rfl (Nat.le_of_ble_eq_true rfl) ⟨by decide, by decide⟩ ⟨rfl, rfl⟩ ⟨by decide, by decide⟩ rfl gq_nox2 ?_
    refine y_if_eq (pc := 32) (tgt := 37) o dX16_run_32 rfl (fun b39 => absurd b39 (by decide)) (fun (b39 : ¬ 1 = 0) => ?_)
    refine y_iconst (pc := 35) (x := -1) o dX16_run_35 (by decide) ?_
    exact y_iret (pc := 36) o dX16_run_36 rfl (vp_nar_int _) (by decide) (by decide) (fun h hp => gP_thr (k := 2) (by simp +decide only [F_run, g1, (gfind_mem (l := gq_sbyt.getD 5 []) (j := 0) (by decide)).mp b3 110 (by decide), (gfind_mem (l := gq_sbyt.getD 5 []) (j := 0) (by decide)).mp b3 98 (by decide), (gfind_mem (l := gq_sbyt.getD 5 []) (j := 0) (by decide)).mp b3 99 (by decide), (gfind_mem (l := gq_sbyt.getD 5 []) (j := 0) (by decide)).mp b3 108 (by decide), (gfind_mem (l := gq_sbyt.getD 5 []) (j := 0) (by decide)).mp b3 103 (by decide), (gfind_mem (l := gq_sbyt.getD 5 []) (j := 0) (by decide)).mp b3 111 (by decide), (gfind_mem (l := gq_sbyt.getD 5 []) (j := 0) (by decide)).mp b3 114 (by decide), gtc0, gtc1, gtc2, gtc3, gtc4, not_true_eq_false, not_false_eq_true, if_true, if_false, or_true, true_or, or_false, false_or, and_true, true_and, and_false, false_and, or_self, and_self, eq_self, Bool.false_eq_true, ne_eq, reduceIte]) (by decide) hp)
  refine z_callV (pc := 6) (k := 0) (n := 0) (k' := 0) (n' := 0) o (b := ad (20, 0, 0)) (As := [.int (a)]) (rest := []) (knoRunT hR hBR h5 a g1) ln_X16_253 dX16_run_6 (z_rc (ci := 20) (K := (20, 0, 0)) rfl (gl_20 hR) rfl) rfl rfl (Nat.le_of_ble_eq_true rfl) ⟨by decide, by decide⟩ ⟨rfl, rfl⟩ ⟨by decide, by decide⟩ rfl gq_nox2 ?_
  refine y_if_ne (pc := 9) (tgt := 35) o dX16_run_9 rfl (fun (b40 : ¬ 1 = 0) => ?_) (fun b40 => absurd b40 (by decide))
  refine y_iconst (pc := 35) (x := -1) o dX16_run_35 (by decide) ?_
  exact y_iret (pc := 36) o dX16_run_36 rfl (vp_nar_int _) (by decide) (by decide) (fun h hp => gP_thr (k := 1) (by simp +decide only [F_run, g1, gtc0, gtc1, gtc2, gtc3, gtc4, not_true_eq_false, not_false_eq_true, if_true, if_false, or_true, true_or, or_false, false_or, and_true, true_and, and_false, false_and, or_self, and_self, eq_self, Bool.false_eq_true, ne_eq, reduceIte]) (by decide) hp)

theorem r_seed {κ : gq_K} {ad : gKey → Nat} {C Rp R : gG} {T : List (Nat × va_E)} {n : Nat} (hb : gup Rp (0, 0, 0) 5 0 = R) (hI : gI n R) (hn : n ≤ 512) (a : Int32) : gq_C κ mX16_seed [.ref (ad (20, 0, 0)), .int (a)] (gR κ ad (C, Rp) T) (gP κ ad C T (F_seed R a)) (gq_no) := by
  refine gq_enter (by decide +kernel) rfl (Nat.le_of_ble_eq_true rfl) rfl (fun f o => ?_)
  have hR := hI.fix
  have hBR := hI.cnt
  have hRp : gfix Rp.2 := by rw [← hb] at hR; exact hR
  have h5 : R.1 (0, 0, 0) 5 = 0 := by rw [← hb]; exact gup_v _ _ _ _
  refine y_aload_n (pc := 0) o dX16_seed_0 rfl ?_
  refine z_callVv (pc := 1) (k := 0) (n := 0) (k' := 0) (n' := 0) o (b := ad (20, 0, 0)) (As := []) (rest := []) (kBegins hRp) ln_X16_69 dX16_seed_1 (z_rc (ci := 20) (K := (20, 0, 0)) rfl (gl_20 hRp) rfl) rfl rfl (Nat.le_of_ble_eq_true rfl) ⟨by decide, by decide⟩ ⟨rfl, rfl⟩ ⟨by decide, by decide⟩ rfl gq_nox2 ?_
  rw [hb]
  refine y_aload_n (pc := 4) o dX16_seed_4 rfl ?_
  refine y_iload_n (pc := 5) o dX16_seed_5 rfl ?_
  refine y_i2l (pc := 6) o dX16_seed_6 ?_
  refine y_lconst (pc := 7) (x := 1) o dX16_seed_7 (by decide) ?_
  refine y_ldc2 (pc := 8) o dX16_seed_8 qw_1678 ?_
  refine z_callS (pc := 11) (k := 0) (n := 0) (k' := 0) (n' := 0) o (As := [.long (a.toInt64), .long (1), .long (2147483646)]) (rest := [.ref (ad (20, 0, 0))]) (kIn a 1 2147483646) ln_X16_13 dX16_seed_11 rfl rfl (Nat.le_of_ble_eq_true rfl) ⟨by decide, by decide⟩ ⟨rfl, rfl⟩ ⟨by decide, by decide⟩ rfl gq_nox2 ?_
  refine z_bne (pc := 14) (tgt := 21) o dX16_seed_14 rfl (fun (b1 : gin 1 a 2147483646 = true) => ?_) (fun (b1 : ¬ (gin 1 a 2147483646 = true)) => ?_)
  · refine y_iconst (pc := 21) (x := 0) o dX16_seed_21 (by decide) ?_
    refine y_iconst (pc := 22) (x := 1) o dX16_seed_22 (by decide) ?_
    refine z_callV (pc := 23) (k := 0) (n := 0) (k' := 0) (n' := 0) o (b := ad (20, 0, 0)) (As := [.int (0), .int (1)]) (rest := []) (kFailsF hR h5 1) ln_X16_74 dX16_seed_23 (z_rc (ci := 20) (K := (20, 0, 0)) rfl (gl_20 hR) rfl) rfl rfl (Nat.le_of_ble_eq_true rfl) ⟨by decide, by decide⟩ ⟨rfl, rfl⟩ ⟨by decide, by decide⟩ rfl gq_nox2 ?_
    refine y_if_eq (pc := 26) (tgt := 31) o dX16_seed_26 rfl (fun (b2 : 0 = 0) => ?_) (fun b2 => absurd b2 (by decide))
    refine y_aload_n (pc := 31) o dX16_seed_31 rfl ?_
    refine z_get (pc := 32) (K := (20, 0, 0)) (v := .int (R.1 (0, 0, 0) 2)) o fl_X16_66 dX16_seed_32 (gl_20 hR) rfl rfl ?_
    refine y_istore_n (pc := 35) (i := 2) (lv' := [(2, .int (R.1 (0, 0, 0) 2)), (0, .ref (ad (20, 0, 0))), (1, .int (a))]) o dX16_seed_35 rfl (by decide) rfl ?_
    refine y_aload_n (pc := 36) o dX16_seed_36 rfl ?_
    refine y_iload_n (pc := 37) o dX16_seed_37 rfl ?_
    refine z_put20 (pc := 38) (b := 0) (fd := 2) (x := a) o fw_X16_66 dX16_seed_38 (gfix_0 hR) (gl_20 hR) (by decide) rfl (Nat.le_of_ble_eq_true rfl) (vp_nar_int _) rfl rfl p20_17 ?_
    refine y_iload_n (pc := 41) o dX16_seed_41 rfl ?_
    exact y_iret (pc := 42) o dX16_seed_42 rfl (vp_nar_int _) (by decide) (by decide) (fun h hp => gP_mk (by simp +decide only [F_seed, b1, gtc0, gtc1, gtc2, gtc3, gtc4, not_true_eq_false, not_false_eq_true, if_true, if_false, or_true, true_or, or_false, false_or, and_true, true_and, and_false, false_and, or_self, and_self, eq_self, Bool.false_eq_true, ne_eq, reduceIte]) rfl rfl hp)
  refine y_iconst (pc := 17) (x := 1) o dX16_seed_17 (by decide) ?_
  refine y_goto (pc := 18) (tgt := 22) o dX16_seed_18 rfl ?_
  refine y_iconst (pc := 22) (x := 1) o dX16_seed_22 (by decide) ?_
  refine z_callV (pc := 23) (k := 0) (n := 0) (k' := 0) (n' := 0) o (b := ad (20, 0, 0)) (As := [.int (1), .int (1)]) (rest := []) (kFailsT hR h5 1 (by decide)) ln_X16_74 dX16_seed_23 (z_rc (ci := 20) (K := (20, 0, 0)) rfl (gl_20 hR) rfl) rfl rfl (Nat.le_of_ble_eq_true rfl) ⟨by decide, by decide⟩ ⟨rfl, rfl⟩ ⟨by decide, by decide⟩ rfl gq_nox2 ?_
  refine y_if_eq (pc := 26) (tgt := 31) o dX16_seed_26 rfl (fun b3 => absurd b3 (by decide)) (fun (b3 : ¬ 1 = 0) => ?_)
  refine y_iconst (pc := 29) (x := -1) o dX16_seed_29 (by decide) ?_
  exact y_iret (pc := 30) o dX16_seed_30 rfl (vp_nar_int _) (by decide) (by decide) (fun h hp => gP_thr (k := 1) (by simp +decide only [F_seed, b1, gtc0, gtc1, gtc2, gtc3, gtc4, not_true_eq_false, not_false_eq_true, if_true, if_false, or_true, true_or, or_false, false_or, and_true, true_and, and_false, false_and, or_self, and_self, eq_self, Bool.false_eq_true, ne_eq, reduceIte]) (by decide) hp)

theorem r_check {κ : gq_K} {ad : gKey → Nat} {C Rp R : gG} {T : List (Nat × va_E)} {n : Nat} (hb : gup Rp (0, 0, 0) 5 0 = R) (hI : gI n R) (hn : n ≤ 512) : gq_C κ mX16_check [.ref (ad (20, 0, 0))] (gR κ ad (C, Rp) T) (gP κ ad C T (F_check R)) (gq_no) := by
  refine gq_enter (by decide +kernel) rfl (Nat.le_of_ble_eq_true rfl) rfl (fun f o => ?_)
  have hR := hI.fix
  have hBR := hI.cnt
  have hRp : gfix Rp.2 := by rw [← hb] at hR; exact hR
  have h5 : R.1 (0, 0, 0) 5 = 0 := by rw [← hb]; exact gup_v _ _ _ _
  refine y_aload_n (pc := 0) o dX16_check_0 rfl ?_
  refine z_callVv (pc := 1) (k := 0) (n := 0) (k' := 0) (n' := 0) o (b := ad (20, 0, 0)) (As := []) (rest := []) (kBegins hRp) ln_X16_69 dX16_check_1 (z_rc (ci := 20) (K := (20, 0, 0)) rfl (gl_20 hRp) rfl) rfl rfl (Nat.le_of_ble_eq_true rfl) ⟨by decide, by decide⟩ ⟨rfl, rfl⟩ ⟨by decide, by decide⟩ rfl gq_nox2 ?_
  rw [hb]
  refine y_aload_n (pc := 4) o dX16_check_4 rfl ?_
  refine z_get (pc := 5) (K := (20, 0, 0)) (v := .int (R.1 (2, 0, 0) 0)) o fl_X16_192 dX16_check_5 (gl_20 hR) rfl rfl ?_
  refine y_istore_n (pc := 8) (i := 1) (lv' := [(1, .int (R.1 (2, 0, 0) 0)), (0, .ref (ad (20, 0, 0)))]) o dX16_check_8 rfl (by decide) rfl ?_
  refine y_aload_n (pc := 9) o dX16_check_9 rfl ?_
  refine y_iconst (pc := 10) (x := 0) o dX16_check_10 (by decide) ?_
  refine z_put20 (pc := 11) (b := 2) (fd := 0) (x := 0) o fw_X16_192 dX16_check_11 (gfix_0 hR) (gl_20 hR) (by decide) rfl (Nat.le_of_ble_eq_true rfl) (vp_nar_int _) rfl rfl p20_16 ?_
  refine y_aload_n (pc := 14) o dX16_check_14 rfl ?_
  refine y_iconst (pc := 15) (x := 0) o dX16_check_15 (by decide) ?_
  refine z_put20 (pc := 16) (b := 2) (fd := 2) (x := 0) o fw_X16_195 dX16_check_16 (gfix_0 hR) (gl_20 hR) (by decide) rfl (Nat.le_of_ble_eq_true rfl) (vp_nar_int _) rfl rfl p20_15 ?_
  refine y_iload_n (pc := 19) o dX16_check_19 rfl ?_
  exact y_iret (pc := 20) o dX16_check_20 rfl (vp_nar_int _) (by decide) (by decide) (fun h hp => gP_mk (by unfold F_check; rw [gup_comm (Or.inr (show (1:Nat) ≠ 2 by decide))]) rfl rfl (hp.ghost20 2 1 0 (by decide) (fun _ _ => rfl)))

theorem r_draw {κ : gq_K} {ad : gKey → Nat} {C Rp R : gG} {T : List (Nat × va_E)} {n : Nat} (hb : gup Rp (0, 0, 0) 5 0 = R) (hI : gI n R) (hn : n ≤ 512) (a : Int32) : gq_C κ mX16_draw [.ref (ad (20, 0, 0)), .int (a)] (gR κ ad (C, Rp) T) (gP κ ad C T (F_draw R a)) (gq_no) := by
  refine gq_enter (by decide +kernel) rfl (Nat.le_of_ble_eq_true rfl) rfl (fun f o => ?_)
  have hR := hI.fix
  have hBR := hI.cnt
  have hRp : gfix Rp.2 := by rw [← hb] at hR; exact hR
  have h5 : R.1 (0, 0, 0) 5 = 0 := by rw [← hb]; exact gup_v _ _ _ _
  refine y_aload_n (pc := 0) o dX16_draw_0 rfl ?_
  refine z_callVv (pc := 1) (k := 0) (n := 0) (k' := 0) (n' := 0) o (b := ad (20, 0, 0)) (As := []) (rest := []) (kBegins hRp) ln_X16_69 dX16_draw_1 (z_rc (ci := 20) (K := (20, 0, 0)) rfl (gl_20 hRp) rfl) rfl rfl (Nat.le_of_ble_eq_true rfl) ⟨by decide, by decide⟩ ⟨rfl, rfl⟩ ⟨by decide, by decide⟩ rfl gq_nox2 ?_
  rw [hb]
  refine y_aload_n (pc := 4) o dX16_draw_4 rfl ?_
  refine y_iload_n (pc := 5) o dX16_draw_5 rfl ?_
  by_cases g1 : gix (R.2 8 0) a = true
  · refine z_callV (pc := 6) (k := 0) (n := 0) (k' := 0) (n' := 0) o (b := ad (20, 0, 0)) (As := [.int (a)]) (rest := []) (knoBatchF hR hBR h5 a g1) ln_X16_144 dX16_draw_6 (z_rc (ci := 20) (K := (20, 0, 0)) rfl (gl_20 hR) rfl) rfl rfl (Nat.le_of_ble_eq_true rfl) ⟨by decide, by decide⟩ ⟨rfl, rfl⟩ ⟨by decide, by decide⟩ rfl gq_nox2 ?_
    refine y_if_ne (pc := 9) (tgt := 45) o dX16_draw_9 rfl (fun b2 => absurd b2 (by decide)) (fun (b2 : 0 = 0) => ?_)
    refine y_aload_n (pc := 12) o dX16_draw_12 rfl ?_
    refine y_aload_n (pc := 13) o dX16_draw_13 rfl ?_
    refine y_aload_n (pc := 14) o dX16_draw_14 rfl ?_
    refine z_get (pc := 15) (K := (20, 0, 0)) (v := .ref (ad (24, 2, 0))) o fl_X16_51 dX16_draw_15 (gl_20 hR) rfl rfl ?_
    refine y_iload_n (pc := 18) o dX16_draw_18 rfl ?_
    refine z_callF (pc := 19) (k := 0) (n := 0) (k' := 0) (n' := 0) (ci := 3) o (b := ad (24, 2, 0)) (As := [.int (a)]) (rest := [.ref (ad (20, 0, 0)), .ref (ad (20, 0, 0))]) (getR (l := 2) (g := 0) (gl_24_2 hR) (hBR 2 0 (by decide)) g1) rfl lf_X16_114 dX16_draw_19 (fun h hr => ⟨_, ghdr_R (R := R) (gl_24_2 hR) hr⟩) rfl rfl (Nat.le_of_ble_eq_true rfl) ⟨by decide, by decide⟩ ⟨rfl, rfl⟩ ⟨by decide, by decide⟩ ?_
    refine z_cast (pc := 24) (ci := 16) (K := (28, 0, a.toNatClampNeg)) o rfl qw_1452 dX16_draw_24 (gl_28 (gix_lt (Nat.le_trans (hBR 2 0 (by decide)) (by decide)) g1)) rfl ?_
    refine z_callV (pc := 27) (k := 0) (n := 0) (k' := 0) (n' := 0) o (b := ad (20, 0, 0)) (As := [.ref (ad (28, 0, a.toNatClampNeg))]) (rest := [.ref (ad (20, 0, 0))]) (kFiredR hR a.toNatClampNeg (gix_lt (Nat.le_trans (hBR 2 0 (by decide)) (by decide)) g1)) ln_X16_183 dX16_draw_27 (z_rc (ci := 20) (K := (20, 0, 0)) rfl (gl_20 hR) rfl) rfl rfl (Nat.le_of_ble_eq_true rfl) ⟨by decide, by decide⟩ ⟨rfl, rfl⟩ ⟨by decide, by decide⟩ rfl gq_nox2 ?_
    by_cases f3 : R.1 (8, 0, a.toNatClampNeg) 6 = -1
    · rw [gb_f (fun z => z.1 f3)]
      refine y_if_ne (pc := 30) (tgt := 37) o dX16_draw_30 rfl (fun b5 => absurd b5 (by rw [b2]; decide)) (fun (b5 : 0 = 0) => ?_)
      refine y_iconst (pc := 33) (x := 1) o dX16_draw_33 (by decide) ?_
      refine y_goto (pc := 34) (tgt := 38) o dX16_draw_34 rfl ?_
      refine y_iconst (pc := 38) (x := 2) o dX16_draw_38 (by decide) ?_
      refine z_callV (pc := 39) (k := 0) (n := 0) (k' := 0) (n' := 0) o (b := ad (20, 0, 0)) (As := [.int (1), .int (2)]) (rest := []) (kFailsT hR h5 2 (by decide)) ln_X16_74 dX16_draw_39 (z_rc (ci := 20) (K := (20, 0, 0)) rfl (gl_20 hR) rfl) rfl rfl (Nat.le_of_ble_eq_true rfl) ⟨by decide, by decide⟩ ⟨rfl, rfl⟩ ⟨by decide, by decide⟩ rfl gq_nox2 ?_
      refine y_if_eq (pc := 42) (tgt := 49) o dX16_draw_42 rfl (fun b6 => absurd b6 (by decide)) (fun (b6 : ¬ 1 = 0) => ?_)
      refine y_iconst (pc := 45) (x := -1) o dX16_draw_45 (by decide) ?_
      refine y_goto (pc := 46) (tgt := 66) o dX16_draw_46 rfl ?_
      exact y_iret (pc := 66) o dX16_draw_66 rfl (vp_nar_int _) (by decide) (by decide) (fun h hp => gP_thr (k := 2) (by simp +decide only [F_draw, g1, gm1_t f3, gtc0, gtc1, gtc2, gtc3, gtc4, not_true_eq_false, not_false_eq_true, if_true, if_false, or_true, true_or, or_false, false_or, and_true, true_and, and_false, false_and, or_self, and_self, eq_self, Bool.false_eq_true, ne_eq, reduceIte]) (by decide) hp)
    by_cases f4 : R.1 (0, 0, 0) 0 < R.1 (8, 0, a.toNatClampNeg) 4
    · rw [gb_f (fun z => z.2 f4)]
      refine y_if_ne (pc := 30) (tgt := 37) o dX16_draw_30 rfl (fun b7 => absurd b7 (by rw [b2]; decide)) (fun (b7 : 0 = 0) => ?_)
      refine y_iconst (pc := 33) (x := 1) o dX16_draw_33 (by decide) ?_
      refine y_goto (pc := 34) (tgt := 38) o dX16_draw_34 rfl ?_
      refine y_iconst (pc := 38) (x := 2) o dX16_draw_38 (by decide) ?_
      refine z_callV (pc := 39) (k := 0) (n := 0) (k' := 0) (n' := 0) o (b := ad (20, 0, 0)) (As := [.int (1), .int (2)]) (rest := []) (kFailsT hR h5 2 (by decide)) ln_X16_74 dX16_draw_39 (z_rc (ci := 20) (K := (20, 0, 0)) rfl (gl_20 hR) rfl) rfl rfl (Nat.le_of_ble_eq_true rfl) ⟨by decide, by decide⟩ ⟨rfl, rfl⟩ ⟨by decide, by decide⟩ rfl gq_nox2 ?_
      refine y_if_eq (pc := 42) (tgt := 49) o dX16_draw_42 rfl (fun b8 => absurd b8 (by decide)) (fun (b8 : ¬ 1 = 0) => ?_)
      refine y_iconst (pc := 45) (x := -1) o dX16_draw_45 (by decide) ?_
      refine y_goto (pc := 46) (tgt := 66) o dX16_draw_46 rfl ?_
      exact y_iret (pc := 66) o dX16_draw_66 rfl (vp_nar_int _) (by decide) (by decide) (fun h hp => gP_thr (k := 2) (by simp +decide only [F_draw, g1, gm1_f (hI.2.2.2.2.1 _ (gix_lt (Nat.le_trans (hBR 2 0 (by decide)) (by decide)) g1)).2.2.1 f3, f4, gtc0, gtc1, gtc2, gtc3, gtc4, not_true_eq_false, not_false_eq_true, if_true, if_false, or_true, true_or, or_false, false_or, and_true, true_and, and_false, false_and, or_self, and_self, eq_self, Bool.false_eq_true, ne_eq, reduceIte]) (by decide) hp)
    rw [gb_t ⟨f3, f4⟩]
    refine y_if_ne (pc := 30) (tgt := 37) o dX16_draw_30 rfl (fun (b9 : ¬ 1 = 0) => ?_) (fun b9 => absurd b9 (by decide))
    refine y_iconst (pc := 37) (x := 0) o dX16_draw_37 (by decide) ?_
    refine y_iconst (pc := 38) (x := 2) o dX16_draw_38 (by decide) ?_
    refine z_callV (pc := 39) (k := 0) (n := 0) (k' := 0) (n' := 0) o (b := ad (20, 0, 0)) (As := [.int (0), .int (2)]) (rest := []) (kFailsF hR h5 2) ln_X16_74 dX16_draw_39 (z_rc (ci := 20) (K := (20, 0, 0)) rfl (gl_20 hR) rfl) rfl rfl (Nat.le_of_ble_eq_true rfl) ⟨by decide, by decide⟩ ⟨rfl, rfl⟩ ⟨by decide, by decide⟩ rfl gq_nox2 ?_
    refine y_if_eq (pc := 42) (tgt := 49) o dX16_draw_42 rfl (fun (b10 : 0 = 0) => ?_) (fun b10 => absurd b10 (by rw [b2]; decide))
    refine y_aload_n (pc := 49) o dX16_draw_49 rfl ?_
    refine y_aload_n (pc := 50) o dX16_draw_50 rfl ?_
    refine z_get (pc := 51) (K := (20, 0, 0)) (v := .ref (ad (24, 2, 0))) o fl_X16_51 dX16_draw_51 (gl_20 hR) rfl rfl ?_
    refine y_iload_n (pc := 54) o dX16_draw_54 rfl ?_
    refine z_callF (pc := 55) (k := 0) (n := 0) (k' := 0) (n' := 0) (ci := 3) o (b := ad (24, 2, 0)) (As := [.int (a)]) (rest := [.ref (ad (20, 0, 0))]) (getR (l := 2) (g := 0) (gl_24_2 hR) (hBR 2 0 (by decide)) g1) rfl lf_X16_114 dX16_draw_55 (fun h hr => ⟨_, ghdr_R (R := R) (gl_24_2 hR) hr⟩) rfl rfl (Nat.le_of_ble_eq_true rfl) ⟨by decide, by decide⟩ ⟨rfl, rfl⟩ ⟨by decide, by decide⟩ ?_
    refine z_cast (pc := 60) (ci := 16) (K := (28, 0, a.toNatClampNeg)) o rfl qw_1452 dX16_draw_60 (gl_28 (gix_lt (Nat.le_trans (hBR 2 0 (by decide)) (by decide)) g1)) rfl ?_
    refine z_callV (pc := 63) (k := 0) (n := 0) (k' := 0) (n' := 0) o (b := ad (20, 0, 0)) (As := [.ref (ad (28, 0, a.toNatClampNeg))]) (rest := []) (kTellR hR a.toNatClampNeg (gix_lt (Nat.le_trans (hBR 2 0 (by decide)) (by decide)) g1) (hI.2.2.2.2.1 _ (gix_lt (Nat.le_trans (hBR 2 0 (by decide)) (by decide)) g1)).2.1 (gbias hI hn) hI.2.2.1.2.2.2.1 hI.2.2.1.2.2.2.2) ln_X16_198 dX16_draw_63 (z_rc (ci := 20) (K := (20, 0, 0)) rfl (gl_20 hR) rfl) rfl rfl (Nat.le_of_ble_eq_true rfl) ⟨by decide, by decide⟩ ⟨rfl, rfl⟩ ⟨by decide, by decide⟩ rfl gq_nox2 ?_
    exact y_iret (pc := 66) o dX16_draw_66 rfl (vp_nar_int _) (by decide) (by decide) (fun h hp => gP_mk (by simp +decide only [F_draw, g1, gm1_f (hI.2.2.2.2.1 _ (gix_lt (Nat.le_trans (hBR 2 0 (by decide)) (by decide)) g1)).2.2.1 f3, f4, gtc0, gtc1, gtc2, gtc3, gtc4, not_true_eq_false, not_false_eq_true, if_true, if_false, or_true, true_or, or_false, false_or, and_true, true_and, and_false, false_and, or_self, and_self, eq_self, Bool.false_eq_true, ne_eq, reduceIte]) rfl rfl hp)
  refine z_callV (pc := 6) (k := 0) (n := 0) (k' := 0) (n' := 0) o (b := ad (20, 0, 0)) (As := [.int (a)]) (rest := []) (knoBatchT hR hBR h5 a g1) ln_X16_144 dX16_draw_6 (z_rc (ci := 20) (K := (20, 0, 0)) rfl (gl_20 hR) rfl) rfl rfl (Nat.le_of_ble_eq_true rfl) ⟨by decide, by decide⟩ ⟨rfl, rfl⟩ ⟨by decide, by decide⟩ rfl gq_nox2 ?_
  refine y_if_ne (pc := 9) (tgt := 45) o dX16_draw_9 rfl (fun (b11 : ¬ 1 = 0) => ?_) (fun b11 => absurd b11 (by decide))
  refine y_iconst (pc := 45) (x := -1) o dX16_draw_45 (by decide) ?_
  refine y_goto (pc := 46) (tgt := 66) o dX16_draw_46 rfl ?_
  exact y_iret (pc := 66) o dX16_draw_66 rfl (vp_nar_int _) (by decide) (by decide) (fun h hp => gP_thr (k := 1) (by simp +decide only [F_draw, g1, gtc0, gtc1, gtc2, gtc3, gtc4, not_true_eq_false, not_false_eq_true, if_true, if_false, or_true, true_or, or_false, false_or, and_true, true_and, and_false, false_and, or_self, and_self, eq_self, Bool.false_eq_true, ne_eq, reduceIte]) (by decide) hp)

theorem r_dry {κ : gq_K} {ad : gKey → Nat} {C Rp R : gG} {T : List (Nat × va_E)} {n : Nat} (hb : gup Rp (0, 0, 0) 5 0 = R) (hI : gI n R) (hn : n ≤ 512) (a : Int32) (b : Int32) : gq_C κ mX16_dry [.ref (ad (20, 0, 0)), .int (a), .int (b)] (gR κ ad (C, Rp) T) (gP κ ad C T (F_dry R a b)) (gq_no) := by
  refine gq_enter (by decide +kernel) rfl (Nat.le_of_ble_eq_true rfl) rfl (fun f o => ?_)
  have hR := hI.fix
  have hBR := hI.cnt
  have hRp : gfix Rp.2 := by rw [← hb] at hR; exact hR
  have h5 : R.1 (0, 0, 0) 5 = 0 := by rw [← hb]; exact gup_v _ _ _ _
  refine y_aload_n (pc := 0) o dX16_dry_0 rfl ?_
  refine z_callVv (pc := 1) (k := 0) (n := 0) (k' := 0) (n' := 0) o (b := ad (20, 0, 0)) (As := []) (rest := []) (kBegins hRp) ln_X16_69 dX16_dry_1 (z_rc (ci := 20) (K := (20, 0, 0)) rfl (gl_20 hRp) rfl) rfl rfl (Nat.le_of_ble_eq_true rfl) ⟨by decide, by decide⟩ ⟨rfl, rfl⟩ ⟨by decide, by decide⟩ rfl gq_nox2 ?_
  rw [hb]
  refine y_aload_n (pc := 4) o dX16_dry_4 rfl ?_
  refine y_iload_n (pc := 5) o dX16_dry_5 rfl ?_
  by_cases g1 : gix (R.2 8 0) a = true
  · refine z_callV (pc := 6) (k := 0) (n := 0) (k' := 0) (n' := 0) o (b := ad (20, 0, 0)) (As := [.int (a)]) (rest := []) (knoBatchF hR hBR h5 a g1) ln_X16_144 dX16_dry_6 (z_rc (ci := 20) (K := (20, 0, 0)) rfl (gl_20 hR) rfl) rfl rfl (Nat.le_of_ble_eq_true rfl) ⟨by decide, by decide⟩ ⟨rfl, rfl⟩ ⟨by decide, by decide⟩ rfl gq_nox2 ?_
    refine y_if_ne (pc := 9) (tgt := 61) o dX16_dry_9 rfl (fun b2 => absurd b2 (by decide)) (fun (b2 : 0 = 0) => ?_)
    refine y_aload_n (pc := 12) o dX16_dry_12 rfl ?_
    refine y_iload_n (pc := 13) o dX16_dry_13 rfl ?_
    refine y_i2l (pc := 14) o dX16_dry_14 ?_
    refine y_lconst (pc := 15) (x := 1) o dX16_dry_15 (by decide) ?_
    refine y_ldc2 (pc := 16) o dX16_dry_16 qw_1509 ?_
    refine z_callS (pc := 19) (k := 0) (n := 0) (k' := 0) (n' := 0) o (As := [.long (b.toInt64), .long (1), .long (5)]) (rest := [.ref (ad (20, 0, 0))]) (kIn b 1 5) ln_X16_13 dX16_dry_19 rfl rfl (Nat.le_of_ble_eq_true rfl) ⟨by decide, by decide⟩ ⟨rfl, rfl⟩ ⟨by decide, by decide⟩ rfl gq_nox2 ?_
    refine z_bne (pc := 22) (tgt := 29) o dX16_dry_22 rfl (fun (b3 : gin 1 b 5 = true) => ?_) (fun (b3 : ¬ (gin 1 b 5 = true)) => ?_)
    · refine y_iconst (pc := 29) (x := 0) o dX16_dry_29 (by decide) ?_
      refine y_iconst (pc := 30) (x := 2) o dX16_dry_30 (by decide) ?_
      refine z_callV (pc := 31) (k := 0) (n := 0) (k' := 0) (n' := 0) o (b := ad (20, 0, 0)) (As := [.int (0), .int (2)]) (rest := []) (kFailsF hR h5 2) ln_X16_74 dX16_dry_31 (z_rc (ci := 20) (K := (20, 0, 0)) rfl (gl_20 hR) rfl) rfl rfl (Nat.le_of_ble_eq_true rfl) ⟨by decide, by decide⟩ ⟨rfl, rfl⟩ ⟨by decide, by decide⟩ rfl gq_nox2 ?_
      refine y_if_ne (pc := 34) (tgt := 61) o dX16_dry_34 rfl (fun b4 => absurd b4 (by rw [b2]; decide)) (fun (b4 : 0 = 0) => ?_)
      refine y_aload_n (pc := 37) o dX16_dry_37 rfl ?_
      refine y_aload_n (pc := 38) o dX16_dry_38 rfl ?_
      refine z_get (pc := 39) (K := (20, 0, 0)) (v := .ref (ad (24, 2, 0))) o fl_X16_51 dX16_dry_39 (gl_20 hR) rfl rfl ?_
      refine y_iload_n (pc := 42) o dX16_dry_42 rfl ?_
      refine z_callF (pc := 43) (k := 0) (n := 0) (k' := 0) (n' := 0) (ci := 3) o (b := ad (24, 2, 0)) (As := [.int (a)]) (rest := [.ref (ad (20, 0, 0))]) (getR (l := 2) (g := 0) (gl_24_2 hR) (hBR 2 0 (by decide)) g1) rfl lf_X16_114 dX16_dry_43 (fun h hr => ⟨_, ghdr_R (R := R) (gl_24_2 hR) hr⟩) rfl rfl (Nat.le_of_ble_eq_true rfl) ⟨by decide, by decide⟩ ⟨rfl, rfl⟩ ⟨by decide, by decide⟩ ?_
      refine z_cast (pc := 48) (ci := 16) (K := (28, 0, a.toNatClampNeg)) o rfl qw_1452 dX16_dry_48 (gl_28 (gix_lt (Nat.le_trans (hBR 2 0 (by decide)) (by decide)) g1)) rfl ?_
      refine z_get (pc := 51) (K := (28, 0, a.toNatClampNeg)) (v := .int (R.1 (8, 0, a.toNatClampNeg) 5)) o fl_X16_149 dX16_dry_51 (gl_28 (gix_lt (Nat.le_trans (hBR 2 0 (by decide)) (by decide)) g1)) rfl rfl ?_
      refine y_iconst (pc := 54) (x := 3) o dX16_dry_54 (by decide) ?_
      by_cases c5 : R.1 (8, 0, a.toNatClampNeg) 5 = 0
      · rw [c5]
        refine z_callV (pc := 55) (k := 0) (n := 0) (k' := 0) (n' := 0) o (b := ad (20, 0, 0)) (As := [.int (0), .int (3)]) (rest := []) (kFailsF hR h5 3) ln_X16_74 dX16_dry_55 (z_rc (ci := 20) (K := (20, 0, 0)) rfl (gl_20 hR) rfl) rfl rfl (Nat.le_of_ble_eq_true rfl) ⟨by decide, by decide⟩ ⟨rfl, rfl⟩ ⟨by decide, by decide⟩ rfl gq_nox2 ?_
        refine y_if_eq (pc := 58) (tgt := 63) o dX16_dry_58 rfl (fun (b6 : 0 = 0) => ?_) (fun b6 => absurd b6 (by rw [b2]; decide))
        refine y_aload_n (pc := 63) o dX16_dry_63 rfl ?_
        refine z_get (pc := 64) (K := (20, 0, 0)) (v := .ref (ad (24, 2, 0))) o fl_X16_51 dX16_dry_64 (gl_20 hR) rfl rfl ?_
        refine y_iload_n (pc := 67) o dX16_dry_67 rfl ?_
        refine z_callF (pc := 68) (k := 0) (n := 0) (k' := 0) (n' := 0) (ci := 3) o (b := ad (24, 2, 0)) (As := [.int (a)]) (rest := []) (getR (l := 2) (g := 0) (gl_24_2 hR) (hBR 2 0 (by decide)) g1) rfl lf_X16_114 dX16_dry_68 (fun h hr => ⟨_, ghdr_R (R := R) (gl_24_2 hR) hr⟩) rfl rfl (Nat.le_of_ble_eq_true rfl) ⟨by decide, by decide⟩ ⟨rfl, rfl⟩ ⟨by decide, by decide⟩ ?_
        refine z_cast (pc := 73) (ci := 16) (K := (28, 0, a.toNatClampNeg)) o rfl qw_1452 dX16_dry_73 (gl_28 (gix_lt (Nat.le_trans (hBR 2 0 (by decide)) (by decide)) g1)) rfl ?_
        refine y_astore_n (pc := 76) (i := 3) (lv' := [(3, .ref (ad (28, 0, a.toNatClampNeg))), (0, .ref (ad (20, 0, 0))), (1, .int (a)), (2, .int (b))]) o dX16_dry_76 rfl (by decide) rfl ?_
        refine y_aload_n (pc := 77) o dX16_dry_77 rfl ?_
        refine y_iconst (pc := 78) (x := 1) o dX16_dry_78 (by decide) ?_
        refine z_putR (pc := 79) (K := (28, 0, a.toNatClampNeg)) (fd := 5) (x := 1) (B := (8, 0, a.toNatClampNeg)) o fw_X16_149 dX16_dry_79 (gl_28 (gix_lt (Nat.le_trans (hBR 2 0 (by decide)) (by decide)) g1)) (show 24 ≤ (28:Nat) by decide) rfl rfl (Nat.le_of_ble_eq_true rfl) rfl rfl rfl pR_28_5 ?_
        refine y_aload_n (pc := 82) o dX16_dry_82 rfl ?_
        refine y_aload_n (pc := 83) o dX16_dry_83 rfl ?_
        refine z_get (pc := 84) (K := (20, 0, 0)) (v := .int ((gup R (8, 0, a.toNatClampNeg) 5 1).1 (0, 0, 0) 0)) o fl_X16_78 dX16_dry_84 (gl_20 hR) rfl rfl ?_
        refine z_top (congrArg Value.int (gup_ff _ (show (0:Nat) ≠ 5 by decide))) ?_
        refine y_bipush (pc := 87) (x := 18) o dX16_dry_87 (by decide) ?_
        refine y_iload_n (pc := 89) o dX16_dry_89 rfl ?_
        refine y_iadd (pc := 90) o dX16_dry_90 ?_
        refine y_iconst (pc := 91) (x := 1) o dX16_dry_91 (by decide) ?_
        refine y_isub (pc := 92) o dX16_dry_92 ?_
        refine y_iload_n (pc := 93) o dX16_dry_93 rfl ?_
        refine y_idiv (pc := 94) o dX16_dry_94 (ginnz b3 (by decide)) ?_
        refine y_iadd (pc := 95) o dX16_dry_95 ?_
        refine z_putR (pc := 96) (K := (28, 0, a.toNatClampNeg)) (fd := 4) (x := (R.1 (0, 0, 0) 0) + (((18 + b) - 1) / b)) (B := (8, 0, a.toNatClampNeg)) o fw_X16_152 dX16_dry_96 (gl_28 (gix_lt (Nat.le_trans (hBR 2 0 (by decide)) (by decide)) g1)) (show 24 ≤ (28:Nat) by decide) rfl rfl (Nat.le_of_ble_eq_true rfl) (vp_nar_int _) rfl rfl pR_28_4 ?_
        refine y_aload_n (pc := 99) o dX16_dry_99 rfl ?_
        refine y_aload_n (pc := 100) o dX16_dry_100 rfl ?_
        refine z_get (pc := 101) (K := (28, 0, a.toNatClampNeg)) (v := .int ((gup (gup R (8, 0, a.toNatClampNeg) 5 1) (8, 0, a.toNatClampNeg) 4 ((R.1 (0, 0, 0) 0) + (((18 + b) - 1) / b))).1 (8, 0, a.toNatClampNeg) 1)) o fl_X16_138 dX16_dry_101 (gl_28 (gix_lt (Nat.le_trans (hBR 2 0 (by decide)) (by decide)) g1)) rfl rfl ?_
        refine z_top (congrArg Value.int (Eq.trans (gup_vf _ (show (1:Nat) ≠ 4 by decide)) (gup_vf _ (show (1:Nat) ≠ 5 by decide)))) ?_
        refine y_iload_n (pc := 104) o dX16_dry_104 rfl ?_
        refine y_iconst (pc := 105) (x := 1) o dX16_dry_105 (by decide) ?_
        refine y_isub (pc := 106) o dX16_dry_106 ?_
        refine y_imul (pc := 107) o dX16_dry_107 ?_
        refine y_bipush (pc := 108) (x := 10) o dX16_dry_108 (by decide) ?_
        refine y_aload_n (pc := 110) o dX16_dry_110 rfl ?_
        refine y_aload_n (pc := 111) o dX16_dry_111 rfl ?_
        have f7 : (gup (gup R (8, 0, a.toNatClampNeg) 5 1) (8, 0, a.toNatClampNeg) 4 ((R.1 (0, 0, 0) 0) + (((18 + b) - 1) / b))).1 (8, 0, a.toNatClampNeg) 0 = R.1 (8, 0, a.toNatClampNeg) 0 := (Eq.trans (gup_vf _ (show (0:Nat) ≠ 4 by decide)) (gup_vf _ (show (0:Nat) ≠ 5 by decide)))
        refine z_callV (pc := 112) (k := 0) (n := 0) (k' := 0) (n' := 0) o (b := ad (20, 0, 0)) (As := [.ref (ad (28, 0, a.toNatClampNeg))]) (rest := [.int (10), .int ((R.1 (8, 0, a.toNatClampNeg) 1) * (b - 1)), .ref (ad (28, 0, a.toNatClampNeg))]) (kFine (R := (gup (gup R (8, 0, a.toNatClampNeg) 5 1) (8, 0, a.toNatClampNeg) 4 ((R.1 (0, 0, 0) 0) + (((18 + b) - 1) / b)))) hR hBR a.toNatClampNeg (gix_lt (Nat.le_trans (hBR 2 0 (by decide)) (by decide)) g1) (by rw [f7]; exact (hI.2.2.2.2.1 _ (gix_lt (Nat.le_trans (hBR 2 0 (by decide)) (by decide)) g1)).1)) ln_X16_155 dX16_dry_112 (z_rc (ci := 20) (K := (20, 0, 0)) rfl (gl_20 hR) rfl) rfl rfl (Nat.le_of_ble_eq_true rfl) ⟨by decide, by decide⟩ ⟨rfl, rfl⟩ ⟨by decide, by decide⟩ rfl gq_nox2 ?_
        rw [f7]
        refine z_top (congrArg Value.int (Eq.trans (gup_ff _ (show (3:Nat) ≠ 4 by decide)) (gup_ff _ (show (3:Nat) ≠ 5 by decide)))) ?_
        refine y_isub (pc := 115) o dX16_dry_115 ?_
        refine y_imul (pc := 116) o dX16_dry_116 ?_
        refine y_sipush (pc := 117) (x := 500) o dX16_dry_117 (by decide) ?_
        refine y_idiv (pc := 120) o dX16_dry_120 (by decide) ?_
        refine z_putR (pc := 121) (K := (28, 0, a.toNatClampNeg)) (fd := 2) (x := (((R.1 (8, 0, a.toNatClampNeg) 1) * (b - 1)) * (10 - (R.1 (7, 0, (R.1 (8, 0, a.toNatClampNeg) 0).toNatClampNeg) 3))) / 500) (B := (8, 0, a.toNatClampNeg)) o fw_X16_159 dX16_dry_121 (gl_28 (gix_lt (Nat.le_trans (hBR 2 0 (by decide)) (by decide)) g1)) (show 24 ≤ (28:Nat) by decide) rfl rfl (Nat.le_of_ble_eq_true rfl) (vp_nar_int _) rfl rfl pR_28_2 ?_
        refine y_aload_n (pc := 124) o dX16_dry_124 rfl ?_
        refine y_dup (pc := 125) o dX16_dry_125 rfl ?_
        refine z_get (pc := 126) (K := (28, 0, a.toNatClampNeg)) (v := .int ((gup (gup (gup R (8, 0, a.toNatClampNeg) 5 1) (8, 0, a.toNatClampNeg) 4 ((R.1 (0, 0, 0) 0) + (((18 + b) - 1) / b))) (8, 0, a.toNatClampNeg) 2 ((((R.1 (8, 0, a.toNatClampNeg) 1) * (b - 1)) * (10 - (R.1 (7, 0, (R.1 (8, 0, a.toNatClampNeg) 0).toNatClampNeg) 3))) / 500)).1 (8, 0, a.toNatClampNeg) 1)) o fl_X16_138 dX16_dry_126 (gl_28 (gix_lt (Nat.le_trans (hBR 2 0 (by decide)) (by decide)) g1)) rfl rfl ?_
        refine z_top (congrArg Value.int (Eq.trans (gup_vf _ (show (1:Nat) ≠ 2 by decide)) (Eq.trans (gup_vf _ (show (1:Nat) ≠ 4 by decide)) (gup_vf _ (show (1:Nat) ≠ 5 by decide))))) ?_
        refine y_aload_n (pc := 129) o dX16_dry_129 rfl ?_
        refine z_get (pc := 130) (K := (28, 0, a.toNatClampNeg)) (v := .int ((gup (gup (gup R (8, 0, a.toNatClampNeg) 5 1) (8, 0, a.toNatClampNeg) 4 ((R.1 (0, 0, 0) 0) + (((18 + b) - 1) / b))) (8, 0, a.toNatClampNeg) 2 ((((R.1 (8, 0, a.toNatClampNeg) 1) * (b - 1)) * (10 - (R.1 (7, 0, (R.1 (8, 0, a.toNatClampNeg) 0).toNatClampNeg) 3))) / 500)).1 (8, 0, a.toNatClampNeg) 2)) o fl_X16_159 dX16_dry_130 (gl_28 (gix_lt (Nat.le_trans (hBR 2 0 (by decide)) (by decide)) g1)) rfl rfl ?_
        refine z_top (congrArg Value.int (gup_v _ _ _ _)) ?_
        refine y_isub (pc := 133) o dX16_dry_133 ?_
        refine z_putR (pc := 134) (K := (28, 0, a.toNatClampNeg)) (fd := 1) (x := (R.1 (8, 0, a.toNatClampNeg) 1) - ((((R.1 (8, 0, a.toNatClampNeg) 1) * (b - 1)) * (10 - (R.1 (7, 0, (R.1 (8, 0, a.toNatClampNeg) 0).toNatClampNeg) 3))) / 500)) (B := (8, 0, a.toNatClampNeg)) o fw_X16_138 dX16_dry_134 (gl_28 (gix_lt (Nat.le_trans (hBR 2 0 (by decide)) (by decide)) g1)) (show 24 ≤ (28:Nat) by decide) rfl rfl (Nat.le_of_ble_eq_true rfl) (vp_nar_int _) rfl rfl pR_28_1 ?_
        refine y_aload_n (pc := 137) o dX16_dry_137 rfl ?_
        refine z_get (pc := 138) (K := (28, 0, a.toNatClampNeg)) (v := .int ((gup (gup (gup (gup R (8, 0, a.toNatClampNeg) 5 1) (8, 0, a.toNatClampNeg) 4 ((R.1 (0, 0, 0) 0) + (((18 + b) - 1) / b))) (8, 0, a.toNatClampNeg) 2 ((((R.1 (8, 0, a.toNatClampNeg) 1) * (b - 1)) * (10 - (R.1 (7, 0, (R.1 (8, 0, a.toNatClampNeg) 0).toNatClampNeg) 3))) / 500)) (8, 0, a.toNatClampNeg) 1 ((R.1 (8, 0, a.toNatClampNeg) 1) - ((((R.1 (8, 0, a.toNatClampNeg) 1) * (b - 1)) * (10 - (R.1 (7, 0, (R.1 (8, 0, a.toNatClampNeg) 0).toNatClampNeg) 3))) / 500))).1 (8, 0, a.toNatClampNeg) 4)) o fl_X16_152 dX16_dry_138 (gl_28 (gix_lt (Nat.le_trans (hBR 2 0 (by decide)) (by decide)) g1)) rfl rfl ?_
        refine z_top (congrArg Value.int (Eq.trans (gup_vf _ (show (4:Nat) ≠ 1 by decide)) (Eq.trans (gup_vf _ (show (4:Nat) ≠ 2 by decide)) (gup_v _ _ _ _)))) ?_
        exact y_iret (pc := 141) o dX16_dry_141 rfl (vp_nar_int _) (by decide) (by decide) (fun h hp => gP_mk (by simp +decide only [F_dry, g1, b3, c5, gino, gtc0, gtc1, gtc2, gtc3, gtc4, not_true_eq_false, not_false_eq_true, if_true, if_false, or_true, true_or, or_false, false_or, and_true, true_and, and_false, false_and, or_self, and_self, eq_self, Bool.false_eq_true, ne_eq, reduceIte]) rfl rfl hp)
      rw [gson (hI.2.2.2.2.1 _ (gix_lt (Nat.le_trans (hBR 2 0 (by decide)) (by decide)) g1)).2.2.2.2.1 c5]
      refine z_callV (pc := 55) (k := 0) (n := 0) (k' := 0) (n' := 0) o (b := ad (20, 0, 0)) (As := [.int (1), .int (3)]) (rest := []) (kFailsT hR h5 3 (by decide)) ln_X16_74 dX16_dry_55 (z_rc (ci := 20) (K := (20, 0, 0)) rfl (gl_20 hR) rfl) rfl rfl (Nat.le_of_ble_eq_true rfl) ⟨by decide, by decide⟩ ⟨rfl, rfl⟩ ⟨by decide, by decide⟩ rfl gq_nox2 ?_
      refine y_if_eq (pc := 58) (tgt := 63) o dX16_dry_58 rfl (fun b8 => absurd b8 (by decide)) (fun (b8 : ¬ 1 = 0) => ?_)
      refine y_iconst (pc := 61) (x := -1) o dX16_dry_61 (by decide) ?_
      exact y_iret (pc := 62) o dX16_dry_62 rfl (vp_nar_int _) (by decide) (by decide) (fun h hp => gP_thr (k := 3) (by simp +decide only [F_dry, g1, b3, c5, gino, gtc0, gtc1, gtc2, gtc3, gtc4, not_true_eq_false, not_false_eq_true, if_true, if_false, or_true, true_or, or_false, false_or, and_true, true_and, and_false, false_and, or_self, and_self, eq_self, Bool.false_eq_true, ne_eq, reduceIte]) (by decide) hp)
    refine y_iconst (pc := 25) (x := 1) o dX16_dry_25 (by decide) ?_
    refine y_goto (pc := 26) (tgt := 30) o dX16_dry_26 rfl ?_
    refine y_iconst (pc := 30) (x := 2) o dX16_dry_30 (by decide) ?_
    refine z_callV (pc := 31) (k := 0) (n := 0) (k' := 0) (n' := 0) o (b := ad (20, 0, 0)) (As := [.int (1), .int (2)]) (rest := []) (kFailsT hR h5 2 (by decide)) ln_X16_74 dX16_dry_31 (z_rc (ci := 20) (K := (20, 0, 0)) rfl (gl_20 hR) rfl) rfl rfl (Nat.le_of_ble_eq_true rfl) ⟨by decide, by decide⟩ ⟨rfl, rfl⟩ ⟨by decide, by decide⟩ rfl gq_nox2 ?_
    refine y_if_ne (pc := 34) (tgt := 61) o dX16_dry_34 rfl (fun (b9 : ¬ 1 = 0) => ?_) (fun b9 => absurd b9 (by decide))
    refine y_iconst (pc := 61) (x := -1) o dX16_dry_61 (by decide) ?_
    exact y_iret (pc := 62) o dX16_dry_62 rfl (vp_nar_int _) (by decide) (by decide) (fun h hp => gP_thr (k := 2) (by simp +decide only [F_dry, g1, b3, gino, gtc0, gtc1, gtc2, gtc3, gtc4, not_true_eq_false, not_false_eq_true, if_true, if_false, or_true, true_or, or_false, false_or, and_true, true_and, and_false, false_and, or_self, and_self, eq_self, Bool.false_eq_true, ne_eq, reduceIte]) (by decide) hp)
  refine z_callV (pc := 6) (k := 0) (n := 0) (k' := 0) (n' := 0) o (b := ad (20, 0, 0)) (As := [.int (a)]) (rest := []) (knoBatchT hR hBR h5 a g1) ln_X16_144 dX16_dry_6 (z_rc (ci := 20) (K := (20, 0, 0)) rfl (gl_20 hR) rfl) rfl rfl (Nat.le_of_ble_eq_true rfl) ⟨by decide, by decide⟩ ⟨rfl, rfl⟩ ⟨by decide, by decide⟩ rfl gq_nox2 ?_
  refine y_if_ne (pc := 9) (tgt := 61) o dX16_dry_9 rfl (fun (b10 : ¬ 1 = 0) => ?_) (fun b10 => absurd b10 (by decide))
  refine y_iconst (pc := 61) (x := -1) o dX16_dry_61 (by decide) ?_
  exact y_iret (pc := 62) o dX16_dry_62 rfl (vp_nar_int _) (by decide) (by decide) (fun h hp => gP_thr (k := 1) (by simp +decide only [F_dry, g1, gino, gtc0, gtc1, gtc2, gtc3, gtc4, not_true_eq_false, not_false_eq_true, if_true, if_false, or_true, true_or, or_false, false_or, and_true, true_and, and_false, false_and, or_self, and_self, eq_self, Bool.false_eq_true, ne_eq, reduceIte]) (by decide) hp)

theorem r_soak {κ : gq_K} {ad : gKey → Nat} {C Rp R : gG} {T : List (Nat × va_E)} {n : Nat} (hb : gup Rp (0, 0, 0) 5 0 = R) (hI : gI n R) (hn : n ≤ 512) (a : Int32) (b : Int32) : gq_C κ mX16_soak [.ref (ad (20, 0, 0)), .int (a), .int (b)] (gR κ ad (C, Rp) T) (gP κ ad C T (F_soak R a b)) (gq_no) := by
  refine gq_enter (by decide +kernel) rfl (Nat.le_of_ble_eq_true rfl) rfl (fun f o => ?_)
  have hR := hI.fix
  have hBR := hI.cnt
  have hRp : gfix Rp.2 := by rw [← hb] at hR; exact hR
  have h5 : R.1 (0, 0, 0) 5 = 0 := by rw [← hb]; exact gup_v _ _ _ _
  refine y_aload_n (pc := 0) o dX16_soak_0 rfl ?_
  refine z_callVv (pc := 1) (k := 0) (n := 0) (k' := 0) (n' := 0) o (b := ad (20, 0, 0)) (As := []) (rest := []) (kBegins hRp) ln_X16_69 dX16_soak_1 (z_rc (ci := 20) (K := (20, 0, 0)) rfl (gl_20 hRp) rfl) rfl rfl (Nat.le_of_ble_eq_true rfl) ⟨by decide, by decide⟩ ⟨rfl, rfl⟩ ⟨by decide, by decide⟩ rfl gq_nox2 ?_
  rw [hb]
  refine y_aload_n (pc := 4) o dX16_soak_4 rfl ?_
  refine y_iload_n (pc := 5) o dX16_soak_5 rfl ?_
  by_cases g1 : gix (R.2 8 0) a = true
  · refine z_callV (pc := 6) (k := 0) (n := 0) (k' := 0) (n' := 0) o (b := ad (20, 0, 0)) (As := [.int (a)]) (rest := []) (knoBatchF hR hBR h5 a g1) ln_X16_144 dX16_soak_6 (z_rc (ci := 20) (K := (20, 0, 0)) rfl (gl_20 hR) rfl) rfl rfl (Nat.le_of_ble_eq_true rfl) ⟨by decide, by decide⟩ ⟨rfl, rfl⟩ ⟨by decide, by decide⟩ rfl gq_nox2 ?_
    refine y_if_ne (pc := 9) (tgt := 89) o dX16_soak_9 rfl (fun b2 => absurd b2 (by decide)) (fun (b2 : 0 = 0) => ?_)
    refine y_aload_n (pc := 12) o dX16_soak_12 rfl ?_
    refine y_iload_n (pc := 13) o dX16_soak_13 rfl ?_
    refine y_i2l (pc := 14) o dX16_soak_14 ?_
    refine y_lconst (pc := 15) (x := 1) o dX16_soak_15 (by decide) ?_
    refine y_ldc2 (pc := 16) o dX16_soak_16 qw_1509 ?_
    refine z_callS (pc := 19) (k := 0) (n := 0) (k' := 0) (n' := 0) o (As := [.long (b.toInt64), .long (1), .long (5)]) (rest := [.ref (ad (20, 0, 0))]) (kIn b 1 5) ln_X16_13 dX16_soak_19 rfl rfl (Nat.le_of_ble_eq_true rfl) ⟨by decide, by decide⟩ ⟨rfl, rfl⟩ ⟨by decide, by decide⟩ rfl gq_nox2 ?_
    refine z_bne (pc := 22) (tgt := 29) o dX16_soak_22 rfl (fun (b3 : gin 1 b 5 = true) => ?_) (fun (b3 : ¬ (gin 1 b 5 = true)) => ?_)
    · refine y_iconst (pc := 29) (x := 0) o dX16_soak_29 (by decide) ?_
      refine y_iconst (pc := 30) (x := 2) o dX16_soak_30 (by decide) ?_
      refine z_callV (pc := 31) (k := 0) (n := 0) (k' := 0) (n' := 0) o (b := ad (20, 0, 0)) (As := [.int (0), .int (2)]) (rest := []) (kFailsF hR h5 2) ln_X16_74 dX16_soak_31 (z_rc (ci := 20) (K := (20, 0, 0)) rfl (gl_20 hR) rfl) rfl rfl (Nat.le_of_ble_eq_true rfl) ⟨by decide, by decide⟩ ⟨rfl, rfl⟩ ⟨by decide, by decide⟩ rfl gq_nox2 ?_
      refine y_if_ne (pc := 34) (tgt := 89) o dX16_soak_34 rfl (fun b4 => absurd b4 (by rw [b2]; decide)) (fun (b4 : 0 = 0) => ?_)
      refine y_aload_n (pc := 37) o dX16_soak_37 rfl ?_
      refine y_aload_n (pc := 38) o dX16_soak_38 rfl ?_
      refine y_aload_n (pc := 39) o dX16_soak_39 rfl ?_
      refine z_get (pc := 40) (K := (20, 0, 0)) (v := .ref (ad (24, 2, 0))) o fl_X16_51 dX16_soak_40 (gl_20 hR) rfl rfl ?_
      refine y_iload_n (pc := 43) o dX16_soak_43 rfl ?_
      refine z_callF (pc := 44) (k := 0) (n := 0) (k' := 0) (n' := 0) (ci := 3) o (b := ad (24, 2, 0)) (As := [.int (a)]) (rest := [.ref (ad (20, 0, 0)), .ref (ad (20, 0, 0))]) (getR (l := 2) (g := 0) (gl_24_2 hR) (hBR 2 0 (by decide)) g1) rfl lf_X16_114 dX16_soak_44 (fun h hr => ⟨_, ghdr_R (R := R) (gl_24_2 hR) hr⟩) rfl rfl (Nat.le_of_ble_eq_true rfl) ⟨by decide, by decide⟩ ⟨rfl, rfl⟩ ⟨by decide, by decide⟩ ?_
      refine z_cast (pc := 49) (ci := 16) (K := (28, 0, a.toNatClampNeg)) o rfl qw_1452 dX16_soak_49 (gl_28 (gix_lt (Nat.le_trans (hBR 2 0 (by decide)) (by decide)) g1)) rfl ?_
      refine z_callV (pc := 52) (k := 0) (n := 0) (k' := 0) (n' := 0) o (b := ad (20, 0, 0)) (As := [.ref (ad (28, 0, a.toNatClampNeg))]) (rest := [.ref (ad (20, 0, 0))]) (kFiredR hR a.toNatClampNeg (gix_lt (Nat.le_trans (hBR 2 0 (by decide)) (by decide)) g1)) ln_X16_183 dX16_soak_52 (z_rc (ci := 20) (K := (20, 0, 0)) rfl (gl_20 hR) rfl) rfl rfl (Nat.le_of_ble_eq_true rfl) ⟨by decide, by decide⟩ ⟨rfl, rfl⟩ ⟨by decide, by decide⟩ rfl gq_nox2 ?_
      by_cases f5 : R.1 (8, 0, a.toNatClampNeg) 6 = -1
      · rw [gb_f (fun z => z.1 f5)]
        refine y_if_eq (pc := 55) (tgt := 77) o dX16_soak_55 rfl (fun (b7 : 0 = 0) => ?_) (fun b7 => absurd b7 (by rw [b2]; decide))
        refine y_iconst (pc := 77) (x := 1) o dX16_soak_77 (by decide) ?_
        refine y_goto (pc := 78) (tgt := 82) o dX16_soak_78 rfl ?_
        refine y_iconst (pc := 82) (x := 3) o dX16_soak_82 (by decide) ?_
        refine z_callV (pc := 83) (k := 0) (n := 0) (k' := 0) (n' := 0) o (b := ad (20, 0, 0)) (As := [.int (1), .int (3)]) (rest := []) (kFailsT hR h5 3 (by decide)) ln_X16_74 dX16_soak_83 (z_rc (ci := 20) (K := (20, 0, 0)) rfl (gl_20 hR) rfl) rfl rfl (Nat.le_of_ble_eq_true rfl) ⟨by decide, by decide⟩ ⟨rfl, rfl⟩ ⟨by decide, by decide⟩ rfl gq_nox2 ?_
        refine y_if_eq (pc := 86) (tgt := 91) o dX16_soak_86 rfl (fun b8 => absurd b8 (by decide)) (fun (b8 : ¬ 1 = 0) => ?_)
        refine y_iconst (pc := 89) (x := -1) o dX16_soak_89 (by decide) ?_
        exact y_iret (pc := 90) o dX16_soak_90 rfl (vp_nar_int _) (by decide) (by decide) (fun h hp => gP_thr (k := 3) (by simp +decide only [F_soak, g1, b3, gm1_t f5, gclamp_s (hI.2.2.2.2.1 _ (gix_lt (Nat.le_trans (hBR 2 0 (by decide)) (by decide)) g1)).2.1 b3, gtc0, gtc1, gtc2, gtc3, gtc4, not_true_eq_false, not_false_eq_true, if_true, if_false, or_true, true_or, or_false, false_or, and_true, true_and, and_false, false_and, or_self, and_self, eq_self, Bool.false_eq_true, ne_eq, reduceIte]) (by decide) hp)
      by_cases f6 : R.1 (0, 0, 0) 0 < R.1 (8, 0, a.toNatClampNeg) 4
      · rw [gb_f (fun z => z.2 f6)]
        refine y_if_eq (pc := 55) (tgt := 77) o dX16_soak_55 rfl (fun (b9 : 0 = 0) => ?_) (fun b9 => absurd b9 (by rw [b2]; decide))
        refine y_iconst (pc := 77) (x := 1) o dX16_soak_77 (by decide) ?_
        refine y_goto (pc := 78) (tgt := 82) o dX16_soak_78 rfl ?_
        refine y_iconst (pc := 82) (x := 3) o dX16_soak_82 (by decide) ?_
        refine z_callV (pc := 83) (k := 0) (n := 0) (k' := 0) (n' := 0) o (b := ad (20, 0, 0)) (As := [.int (1), .int (3)]) (rest := []) (kFailsT hR h5 3 (by decide)) ln_X16_74 dX16_soak_83 (z_rc (ci := 20) (K := (20, 0, 0)) rfl (gl_20 hR) rfl) rfl rfl (Nat.le_of_ble_eq_true rfl) ⟨by decide, by decide⟩ ⟨rfl, rfl⟩ ⟨by decide, by decide⟩ rfl gq_nox2 ?_
        refine y_if_eq (pc := 86) (tgt := 91) o dX16_soak_86 rfl (fun b10 => absurd b10 (by decide)) (fun (b10 : ¬ 1 = 0) => ?_)
        refine y_iconst (pc := 89) (x := -1) o dX16_soak_89 (by decide) ?_
        exact y_iret (pc := 90) o dX16_soak_90 rfl (vp_nar_int _) (by decide) (by decide) (fun h hp => gP_thr (k := 3) (by simp +decide only [F_soak, g1, b3, gm1_f (hI.2.2.2.2.1 _ (gix_lt (Nat.le_trans (hBR 2 0 (by decide)) (by decide)) g1)).2.2.1 f5, f6, gclamp_s (hI.2.2.2.2.1 _ (gix_lt (Nat.le_trans (hBR 2 0 (by decide)) (by decide)) g1)).2.1 b3, gtc0, gtc1, gtc2, gtc3, gtc4, not_true_eq_false, not_false_eq_true, if_true, if_false, or_true, true_or, or_false, false_or, and_true, true_and, and_false, false_and, or_self, and_self, eq_self, Bool.false_eq_true, ne_eq, reduceIte]) (by decide) hp)
      rw [gb_t ⟨f5, f6⟩]
      refine y_if_eq (pc := 55) (tgt := 77) o dX16_soak_55 rfl (fun b11 => absurd b11 (by decide)) (fun (b11 : ¬ 1 = 0) => ?_)
      refine y_aload_n (pc := 58) o dX16_soak_58 rfl ?_
      refine z_get (pc := 59) (K := (20, 0, 0)) (v := .ref (ad (24, 2, 0))) o fl_X16_51 dX16_soak_59 (gl_20 hR) rfl rfl ?_
      refine y_iload_n (pc := 62) o dX16_soak_62 rfl ?_
      refine z_callF (pc := 63) (k := 0) (n := 0) (k' := 0) (n' := 0) (ci := 3) o (b := ad (24, 2, 0)) (As := [.int (a)]) (rest := [.ref (ad (20, 0, 0))]) (getR (l := 2) (g := 0) (gl_24_2 hR) (hBR 2 0 (by decide)) g1) rfl lf_X16_114 dX16_soak_63 (fun h hr => ⟨_, ghdr_R (R := R) (gl_24_2 hR) hr⟩) rfl rfl (Nat.le_of_ble_eq_true rfl) ⟨by decide, by decide⟩ ⟨rfl, rfl⟩ ⟨by decide, by decide⟩ ?_
      refine z_cast (pc := 68) (ci := 16) (K := (28, 0, a.toNatClampNeg)) o rfl qw_1452 dX16_soak_68 (gl_28 (gix_lt (Nat.le_trans (hBR 2 0 (by decide)) (by decide)) g1)) rfl ?_
      refine z_get (pc := 71) (K := (28, 0, a.toNatClampNeg)) (v := .int (R.1 (8, 0, a.toNatClampNeg) 8)) o fl_X16_187 dX16_soak_71 (gl_28 (gix_lt (Nat.le_trans (hBR 2 0 (by decide)) (by decide)) g1)) rfl rfl ?_
      refine y_if_eq (pc := 74) (tgt := 81) o dX16_soak_74 rfl (fun (b12 : (R.1 (8, 0, a.toNatClampNeg) 8) = 0) => ?_) (fun (b12 : ¬ (R.1 (8, 0, a.toNatClampNeg) 8) = 0) => ?_)
      · refine y_iconst (pc := 81) (x := 0) o dX16_soak_81 (by decide) ?_
        refine y_iconst (pc := 82) (x := 3) o dX16_soak_82 (by decide) ?_
        refine z_callV (pc := 83) (k := 0) (n := 0) (k' := 0) (n' := 0) o (b := ad (20, 0, 0)) (As := [.int (0), .int (3)]) (rest := []) (kFailsF hR h5 3) ln_X16_74 dX16_soak_83 (z_rc (ci := 20) (K := (20, 0, 0)) rfl (gl_20 hR) rfl) rfl rfl (Nat.le_of_ble_eq_true rfl) ⟨by decide, by decide⟩ ⟨rfl, rfl⟩ ⟨by decide, by decide⟩ rfl gq_nox2 ?_
        refine y_if_eq (pc := 86) (tgt := 91) o dX16_soak_86 rfl (fun (b13 : 0 = 0) => ?_) (fun b13 => absurd b13 (by rw [b2]; decide))
        refine y_aload_n (pc := 91) o dX16_soak_91 rfl ?_
        refine z_get (pc := 92) (K := (20, 0, 0)) (v := .ref (ad (24, 2, 0))) o fl_X16_51 dX16_soak_92 (gl_20 hR) rfl rfl ?_
        refine y_iload_n (pc := 95) o dX16_soak_95 rfl ?_
        refine z_callF (pc := 96) (k := 0) (n := 0) (k' := 0) (n' := 0) (ci := 3) o (b := ad (24, 2, 0)) (As := [.int (a)]) (rest := []) (getR (l := 2) (g := 0) (gl_24_2 hR) (hBR 2 0 (by decide)) g1) rfl lf_X16_114 dX16_soak_96 (fun h hr => ⟨_, ghdr_R (R := R) (gl_24_2 hR) hr⟩) rfl rfl (Nat.le_of_ble_eq_true rfl) ⟨by decide, by decide⟩ ⟨rfl, rfl⟩ ⟨by decide, by decide⟩ ?_
        refine z_cast (pc := 101) (ci := 16) (K := (28, 0, a.toNatClampNeg)) o rfl qw_1452 dX16_soak_101 (gl_28 (gix_lt (Nat.le_trans (hBR 2 0 (by decide)) (by decide)) g1)) rfl ?_
        refine y_astore_n (pc := 104) (i := 3) (lv' := [(3, .ref (ad (28, 0, a.toNatClampNeg))), (0, .ref (ad (20, 0, 0))), (1, .int (a)), (2, .int (b))]) o dX16_soak_104 rfl (by decide) rfl ?_
        refine y_aload_n (pc := 105) o dX16_soak_105 rfl ?_
        refine y_iconst (pc := 106) (x := 1) o dX16_soak_106 (by decide) ?_
        refine z_putR (pc := 107) (K := (28, 0, a.toNatClampNeg)) (fd := 8) (x := 1) (B := (8, 0, a.toNatClampNeg)) o fw_X16_187 dX16_soak_107 (gl_28 (gix_lt (Nat.le_trans (hBR 2 0 (by decide)) (by decide)) g1)) (show 24 ≤ (28:Nat) by decide) rfl rfl (Nat.le_of_ble_eq_true rfl) rfl rfl rfl pR_28_8 ?_
        refine y_aload_n (pc := 110) o dX16_soak_110 rfl ?_
        refine y_dup (pc := 111) o dX16_soak_111 rfl ?_
        refine z_get (pc := 112) (K := (28, 0, a.toNatClampNeg)) (v := .int ((gup R (8, 0, a.toNatClampNeg) 8 1).1 (8, 0, a.toNatClampNeg) 9)) o fl_X16_177 dX16_soak_112 (gl_28 (gix_lt (Nat.le_trans (hBR 2 0 (by decide)) (by decide)) g1)) rfl rfl ?_
        refine z_top (congrArg Value.int (gup_vf _ (show (9:Nat) ≠ 8 by decide))) ?_
        refine y_bipush (pc := 115) (x := 10) o dX16_soak_115 (by decide) ?_
        refine y_iload_n (pc := 117) o dX16_soak_117 rfl ?_
        refine y_imul (pc := 118) o dX16_soak_118 ?_
        refine y_iadd (pc := 119) o dX16_soak_119 ?_
        refine z_putR (pc := 120) (K := (28, 0, a.toNatClampNeg)) (fd := 9) (x := (R.1 (8, 0, a.toNatClampNeg) 9) + (10 * b)) (B := (8, 0, a.toNatClampNeg)) o fw_X16_177 dX16_soak_120 (gl_28 (gix_lt (Nat.le_trans (hBR 2 0 (by decide)) (by decide)) g1)) (show 24 ≤ (28:Nat) by decide) rfl rfl (Nat.le_of_ble_eq_true rfl) (vp_nar_int _) rfl rfl pR_28_9 ?_
        refine y_aload_n (pc := 123) o dX16_soak_123 rfl ?_
        refine y_sipush (pc := 124) (x := 999) o dX16_soak_124 (by decide) ?_
        refine y_aload_n (pc := 127) o dX16_soak_127 rfl ?_
        refine z_get (pc := 128) (K := (28, 0, a.toNatClampNeg)) (v := .int ((gup (gup R (8, 0, a.toNatClampNeg) 8 1) (8, 0, a.toNatClampNeg) 9 ((R.1 (8, 0, a.toNatClampNeg) 9) + (10 * b))).1 (8, 0, a.toNatClampNeg) 10)) o fl_X16_180 dX16_soak_128 (gl_28 (gix_lt (Nat.le_trans (hBR 2 0 (by decide)) (by decide)) g1)) rfl rfl ?_
        refine z_top (congrArg Value.int (Eq.trans (gup_vf _ (show (10:Nat) ≠ 9 by decide)) (gup_vf _ (show (10:Nat) ≠ 8 by decide)))) ?_
        refine y_bipush (pc := 131) (x := 8) o dX16_soak_131 (by decide) ?_
        refine y_iload_n (pc := 133) o dX16_soak_133 rfl ?_
        refine y_imul (pc := 134) o dX16_soak_134 ?_
        refine y_iadd (pc := 135) o dX16_soak_135 ?_
        refine y_mmin (pc := 136) o qw_1440 dX16_soak_136 ⟨by decide, Nat.le_of_ble_eq_true rfl⟩ (by decide) (by decide) ?_
        refine z_putR (pc := 139) (K := (28, 0, a.toNatClampNeg)) (fd := 10) (x := gmin 999 ((R.1 (8, 0, a.toNatClampNeg) 10) + (8 * b))) (B := (8, 0, a.toNatClampNeg)) o fw_X16_180 dX16_soak_139 (gl_28 (gix_lt (Nat.le_trans (hBR 2 0 (by decide)) (by decide)) g1)) (show 24 ≤ (28:Nat) by decide) rfl rfl (Nat.le_of_ble_eq_true rfl) (vp_nar_int _) rfl rfl pR_28_10 ?_
        refine y_aload_n (pc := 142) o dX16_soak_142 rfl ?_
        refine z_get (pc := 143) (K := (28, 0, a.toNatClampNeg)) (v := .int ((gup (gup (gup R (8, 0, a.toNatClampNeg) 8 1) (8, 0, a.toNatClampNeg) 9 ((R.1 (8, 0, a.toNatClampNeg) 9) + (10 * b))) (8, 0, a.toNatClampNeg) 10 (gmin 999 ((R.1 (8, 0, a.toNatClampNeg) 10) + (8 * b)))).1 (8, 0, a.toNatClampNeg) 9)) o fl_X16_177 dX16_soak_143 (gl_28 (gix_lt (Nat.le_trans (hBR 2 0 (by decide)) (by decide)) g1)) rfl rfl ?_
        refine z_top (congrArg Value.int (Eq.trans (gup_vf _ (show (9:Nat) ≠ 10 by decide)) (gup_v _ _ _ _))) ?_
        exact y_iret (pc := 146) o dX16_soak_146 rfl (vp_nar_int _) (by decide) (by decide) (fun h hp => gP_mk (by simp +decide only [F_soak, g1, b3, gm1_f (hI.2.2.2.2.1 _ (gix_lt (Nat.le_trans (hBR 2 0 (by decide)) (by decide)) g1)).2.2.1 f5, f6, b12, gclamp_s (hI.2.2.2.2.1 _ (gix_lt (Nat.le_trans (hBR 2 0 (by decide)) (by decide)) g1)).2.1 b3, gtc0, gtc1, gtc2, gtc3, gtc4, not_true_eq_false, not_false_eq_true, if_true, if_false, or_true, true_or, or_false, false_or, and_true, true_and, and_false, false_and, or_self, and_self, eq_self, Bool.false_eq_true, ne_eq, reduceIte]) rfl rfl hp)
      refine y_iconst (pc := 77) (x := 1) o dX16_soak_77 (by decide) ?_
      refine y_goto (pc := 78) (tgt := 82) o dX16_soak_78 rfl ?_
      refine y_iconst (pc := 82) (x := 3) o dX16_soak_82 (by decide) ?_
      refine z_callV (pc := 83) (k := 0) (n := 0) (k' := 0) (n' := 0) o (b := ad (20, 0, 0)) (As := [.int (1), .int (3)]) (rest := []) (kFailsT hR h5 3 (by decide)) ln_X16_74 dX16_soak_83 (z_rc (ci := 20) (K := (20, 0, 0)) rfl (gl_20 hR) rfl) rfl rfl (Nat.le_of_ble_eq_true rfl) ⟨by decide, by decide⟩ ⟨rfl, rfl⟩ ⟨by decide, by decide⟩ rfl gq_nox2 ?_
      refine y_if_eq (pc := 86) (tgt := 91) o dX16_soak_86 rfl (fun b14 => absurd b14 (by decide)) (fun (b14 : ¬ 1 = 0) => ?_)
      refine y_iconst (pc := 89) (x := -1) o dX16_soak_89 (by decide) ?_
      exact y_iret (pc := 90) o dX16_soak_90 rfl (vp_nar_int _) (by decide) (by decide) (fun h hp => gP_thr (k := 3) (by simp +decide only [F_soak, g1, b3, gm1_f (hI.2.2.2.2.1 _ (gix_lt (Nat.le_trans (hBR 2 0 (by decide)) (by decide)) g1)).2.2.1 f5, f6, b12, gclamp_s (hI.2.2.2.2.1 _ (gix_lt (Nat.le_trans (hBR 2 0 (by decide)) (by decide)) g1)).2.1 b3, gtc0, gtc1, gtc2, gtc3, gtc4, not_true_eq_false, not_false_eq_true, if_true, if_false, or_true, true_or, or_false, false_or, and_true, true_and, and_false, false_and, or_self, and_self, eq_self, Bool.false_eq_true, ne_eq, reduceIte]) (by decide) hp)
    refine y_iconst (pc := 25) (x := 1) o dX16_soak_25 (by decide) ?_
    refine y_goto (pc := 26) (tgt := 30) o dX16_soak_26 rfl ?_
    refine y_iconst (pc := 30) (x := 2) o dX16_soak_30 (by decide) ?_
    refine z_callV (pc := 31) (k := 0) (n := 0) (k' := 0) (n' := 0) o (b := ad (20, 0, 0)) (As := [.int (1), .int (2)]) (rest := []) (kFailsT hR h5 2 (by decide)) ln_X16_74 dX16_soak_31 (z_rc (ci := 20) (K := (20, 0, 0)) rfl (gl_20 hR) rfl) rfl rfl (Nat.le_of_ble_eq_true rfl) ⟨by decide, by decide⟩ ⟨rfl, rfl⟩ ⟨by decide, by decide⟩ rfl gq_nox2 ?_
    refine y_if_ne (pc := 34) (tgt := 89) o dX16_soak_34 rfl (fun (b15 : ¬ 1 = 0) => ?_) (fun b15 => absurd b15 (by decide))
    refine y_iconst (pc := 89) (x := -1) o dX16_soak_89 (by decide) ?_
    exact y_iret (pc := 90) o dX16_soak_90 rfl (vp_nar_int _) (by decide) (by decide) (fun h hp => gP_thr (k := 2) (by simp +decide only [F_soak, g1, b3, gtc0, gtc1, gtc2, gtc3, gtc4, not_true_eq_false, not_false_eq_true, if_true, if_false, or_true, true_or, or_false, false_or, and_true, true_and, and_false, false_and, or_self, and_self, eq_self, Bool.false_eq_true, ne_eq, reduceIte]) (by decide) hp)
  refine z_callV (pc := 6) (k := 0) (n := 0) (k' := 0) (n' := 0) o (b := ad (20, 0, 0)) (As := [.int (a)]) (rest := []) (knoBatchT hR hBR h5 a g1) ln_X16_144 dX16_soak_6 (z_rc (ci := 20) (K := (20, 0, 0)) rfl (gl_20 hR) rfl) rfl rfl (Nat.le_of_ble_eq_true rfl) ⟨by decide, by decide⟩ ⟨rfl, rfl⟩ ⟨by decide, by decide⟩ rfl gq_nox2 ?_
  refine y_if_ne (pc := 9) (tgt := 89) o dX16_soak_9 rfl (fun (b16 : ¬ 1 = 0) => ?_) (fun b16 => absurd b16 (by decide))
  refine y_iconst (pc := 89) (x := -1) o dX16_soak_89 (by decide) ?_
  exact y_iret (pc := 90) o dX16_soak_90 rfl (vp_nar_int _) (by decide) (by decide) (fun h hp => gP_thr (k := 1) (by simp +decide only [F_soak, g1, gtc0, gtc1, gtc2, gtc3, gtc4, not_true_eq_false, not_false_eq_true, if_true, if_false, or_true, true_or, or_false, false_or, and_true, true_and, and_false, false_and, or_self, and_self, eq_self, Bool.false_eq_true, ne_eq, reduceIte]) (by decide) hp)

theorem r_season {κ : gq_K} {ad : gKey → Nat} {C Rp R : gG} {T : List (Nat × va_E)} {n : Nat} (hb : gup Rp (0, 0, 0) 5 0 = R) (hI : gI n R) (hn : n ≤ 512) (a : Int32) (b : Int32) : gq_C κ mX16_season [.ref (ad (20, 0, 0)), .int (a), .int (b)] (gR κ ad (C, Rp) T) (gP κ ad C T (F_season R a b)) (gq_no) := by
  refine gq_enter (by decide +kernel) rfl (Nat.le_of_ble_eq_true rfl) rfl (fun f o => ?_)
  have hR := hI.fix
  have hBR := hI.cnt
  have hRp : gfix Rp.2 := by rw [← hb] at hR; exact hR
  have h5 : R.1 (0, 0, 0) 5 = 0 := by rw [← hb]; exact gup_v _ _ _ _
  refine y_aload_n (pc := 0) o dX16_season_0 rfl ?_
  refine z_callVv (pc := 1) (k := 0) (n := 0) (k' := 0) (n' := 0) o (b := ad (20, 0, 0)) (As := []) (rest := []) (kBegins hRp) ln_X16_69 dX16_season_1 (z_rc (ci := 20) (K := (20, 0, 0)) rfl (gl_20 hRp) rfl) rfl rfl (Nat.le_of_ble_eq_true rfl) ⟨by decide, by decide⟩ ⟨rfl, rfl⟩ ⟨by decide, by decide⟩ rfl gq_nox2 ?_
  rw [hb]
  refine y_aload_n (pc := 4) o dX16_season_4 rfl ?_
  refine y_iload_n (pc := 5) o dX16_season_5 rfl ?_
  by_cases g1 : gix (R.2 9 0) a = true
  · refine z_callV (pc := 6) (k := 0) (n := 0) (k' := 0) (n' := 0) o (b := ad (20, 0, 0)) (As := [.int (a)]) (rest := []) (knoSlatsF hR hBR h5 a g1) ln_X16_219 dX16_season_6 (z_rc (ci := 20) (K := (20, 0, 0)) rfl (gl_20 hR) rfl) rfl rfl (Nat.le_of_ble_eq_true rfl) ⟨by decide, by decide⟩ ⟨rfl, rfl⟩ ⟨by decide, by decide⟩ rfl gq_nox2 ?_
    refine y_if_ne (pc := 9) (tgt := 73) o dX16_season_9 rfl (fun b2 => absurd b2 (by decide)) (fun (b2 : 0 = 0) => ?_)
    refine y_aload_n (pc := 12) o dX16_season_12 rfl ?_
    refine y_iload_n (pc := 13) o dX16_season_13 rfl ?_
    refine y_i2l (pc := 14) o dX16_season_14 ?_
    refine y_lconst (pc := 15) (x := 1) o dX16_season_15 (by decide) ?_
    refine y_ldc2 (pc := 16) o dX16_season_16 qw_1584 ?_
    refine z_callS (pc := 19) (k := 0) (n := 0) (k' := 0) (n' := 0) o (As := [.long (b.toInt64), .long (1), .long (200)]) (rest := [.ref (ad (20, 0, 0))]) (kIn b 1 200) ln_X16_13 dX16_season_19 rfl rfl (Nat.le_of_ble_eq_true rfl) ⟨by decide, by decide⟩ ⟨rfl, rfl⟩ ⟨by decide, by decide⟩ rfl gq_nox2 ?_
    refine z_bne (pc := 22) (tgt := 29) o dX16_season_22 rfl (fun (b3 : gin 1 b 200 = true) => ?_) (fun (b3 : ¬ (gin 1 b 200 = true)) => ?_)
    · refine y_iconst (pc := 29) (x := 0) o dX16_season_29 (by decide) ?_
      refine y_iconst (pc := 30) (x := 2) o dX16_season_30 (by decide) ?_
      refine z_callV (pc := 31) (k := 0) (n := 0) (k' := 0) (n' := 0) o (b := ad (20, 0, 0)) (As := [.int (0), .int (2)]) (rest := []) (kFailsF hR h5 2) ln_X16_74 dX16_season_31 (z_rc (ci := 20) (K := (20, 0, 0)) rfl (gl_20 hR) rfl) rfl rfl (Nat.le_of_ble_eq_true rfl) ⟨by decide, by decide⟩ ⟨rfl, rfl⟩ ⟨by decide, by decide⟩ rfl gq_nox2 ?_
      refine y_if_ne (pc := 34) (tgt := 73) o dX16_season_34 rfl (fun b4 => absurd b4 (by rw [b2]; decide)) (fun (b4 : 0 = 0) => ?_)
      refine y_aload_n (pc := 37) o dX16_season_37 rfl ?_
      refine y_aload_n (pc := 38) o dX16_season_38 rfl ?_
      refine z_get (pc := 39) (K := (20, 0, 0)) (v := .int (R.1 (0, 0, 0) 0)) o fl_X16_78 dX16_season_39 (gl_20 hR) rfl rfl ?_
      refine y_aload_n (pc := 42) o dX16_season_42 rfl ?_
      refine z_get (pc := 43) (K := (20, 0, 0)) (v := .ref (ad (24, 3, 0))) o fl_X16_54 dX16_season_43 (gl_20 hR) rfl rfl ?_
      refine y_iload_n (pc := 46) o dX16_season_46 rfl ?_
      refine z_callF (pc := 47) (k := 0) (n := 0) (k' := 0) (n' := 0) (ci := 3) o (b := ad (24, 3, 0)) (As := [.int (a)]) (rest := [.int (R.1 (0, 0, 0) 0), .ref (ad (20, 0, 0))]) (getR (l := 3) (g := 0) (gl_24_3 hR) (hBR 3 0 (by decide)) g1) rfl lf_X16_114 dX16_season_47 (fun h hr => ⟨_, ghdr_R (R := R) (gl_24_3 hR) hr⟩) rfl rfl (Nat.le_of_ble_eq_true rfl) ⟨by decide, by decide⟩ ⟨rfl, rfl⟩ ⟨by decide, by decide⟩ ?_
      refine z_cast (pc := 52) (ci := 19) (K := (29, 0, a.toNatClampNeg)) o rfl qw_1551 dX16_season_52 (gl_29 (gix_lt (Nat.le_trans (hBR 3 0 (by decide)) (by decide)) g1)) rfl ?_
      refine z_get (pc := 55) (K := (29, 0, a.toNatClampNeg)) (v := .int (R.1 (9, 0, a.toNatClampNeg) 5)) o fl_X16_224 dX16_season_55 (gl_29 (gix_lt (Nat.le_trans (hBR 3 0 (by decide)) (by decide)) g1)) rfl rfl ?_
      refine z_icmp_ge (pc := 58) (tgt := 65) o dX16_season_58 rfl (fun (b5 : ¬ (R.1 (0, 0, 0) 0) < (R.1 (9, 0, a.toNatClampNeg) 5)) => ?_) (fun (b5 : (R.1 (0, 0, 0) 0) < (R.1 (9, 0, a.toNatClampNeg) 5)) => ?_)
      · refine y_iconst (pc := 65) (x := 0) o dX16_season_65 (by decide) ?_
        refine y_iconst (pc := 66) (x := 3) o dX16_season_66 (by decide) ?_
        refine z_callV (pc := 67) (k := 0) (n := 0) (k' := 0) (n' := 0) o (b := ad (20, 0, 0)) (As := [.int (0), .int (3)]) (rest := []) (kFailsF hR h5 3) ln_X16_74 dX16_season_67 (z_rc (ci := 20) (K := (20, 0, 0)) rfl (gl_20 hR) rfl) rfl rfl (Nat.le_of_ble_eq_true rfl) ⟨by decide, by decide⟩ ⟨rfl, rfl⟩ ⟨by decide, by decide⟩ rfl gq_nox2 ?_
        refine y_if_eq (pc := 70) (tgt := 75) o dX16_season_70 rfl (fun (b6 : 0 = 0) => ?_) (fun b6 => absurd b6 (by rw [b2]; decide))
        refine y_aload_n (pc := 75) o dX16_season_75 rfl ?_
        refine z_get (pc := 76) (K := (20, 0, 0)) (v := .ref (ad (24, 3, 0))) o fl_X16_54 dX16_season_76 (gl_20 hR) rfl rfl ?_
        refine y_iload_n (pc := 79) o dX16_season_79 rfl ?_
        refine z_callF (pc := 80) (k := 0) (n := 0) (k' := 0) (n' := 0) (ci := 3) o (b := ad (24, 3, 0)) (As := [.int (a)]) (rest := []) (getR (l := 3) (g := 0) (gl_24_3 hR) (hBR 3 0 (by decide)) g1) rfl lf_X16_114 dX16_season_80 (fun h hr => ⟨_, ghdr_R (R := R) (gl_24_3 hR) hr⟩) rfl rfl (Nat.le_of_ble_eq_true rfl) ⟨by decide, by decide⟩ ⟨rfl, rfl⟩ ⟨by decide, by decide⟩ ?_
        refine z_cast (pc := 85) (ci := 19) (K := (29, 0, a.toNatClampNeg)) o rfl qw_1551 dX16_season_85 (gl_29 (gix_lt (Nat.le_trans (hBR 3 0 (by decide)) (by decide)) g1)) rfl ?_
        refine y_astore_n (pc := 88) (i := 3) (lv' := [(3, .ref (ad (29, 0, a.toNatClampNeg))), (0, .ref (ad (20, 0, 0))), (1, .int (a)), (2, .int (b))]) o dX16_season_88 rfl (by decide) rfl ?_
        refine y_aload_n (pc := 89) o dX16_season_89 rfl ?_
        refine y_iconst (pc := 90) (x := 0) o dX16_season_90 (by decide) ?_
        refine y_aload_n (pc := 91) o dX16_season_91 rfl ?_
        refine z_get (pc := 92) (K := (29, 0, a.toNatClampNeg)) (v := .int (R.1 (9, 0, a.toNatClampNeg) 2)) o fl_X16_213 dX16_season_92 (gl_29 (gix_lt (Nat.le_trans (hBR 3 0 (by decide)) (by decide)) g1)) rfl rfl ?_
        refine y_iload_n (pc := 95) o dX16_season_95 rfl ?_
        refine y_aload_n (pc := 96) o dX16_season_96 rfl ?_
        refine z_get (pc := 97) (K := (29, 0, a.toNatClampNeg)) (v := .int (R.1 (9, 0, a.toNatClampNeg) 0)) o fl_X16_206 dX16_season_97 (gl_29 (gix_lt (Nat.le_trans (hBR 3 0 (by decide)) (by decide)) g1)) rfl rfl ?_
        refine y_bipush (pc := 100) (x := 99) o dX16_season_100 (by decide) ?_
        refine y_icmp_ne (pc := 102) (tgt := 110) o dX16_season_102 rfl (fun (b7 : ¬ (R.1 (9, 0, a.toNatClampNeg) 0) = 99) => ?_) (fun (b7 : (R.1 (9, 0, a.toNatClampNeg) 0) = 99) => ?_)
        · refine y_bipush (pc := 110) (x := 9) o dX16_season_110 (by decide) ?_
          refine y_idiv (pc := 112) o dX16_season_112 (by decide) ?_
          refine y_isub (pc := 113) o dX16_season_113 ?_
          refine y_mmax (pc := 114) o qw_1441 dX16_season_114 ⟨by decide, Nat.le_of_ble_eq_true rfl⟩ (by decide) (by decide) ?_
          refine z_putR (pc := 117) (K := (29, 0, a.toNatClampNeg)) (fd := 2) (x := gmax 0 ((R.1 (9, 0, a.toNatClampNeg) 2) - (b / 9))) (B := (9, 0, a.toNatClampNeg)) o fw_X16_213 dX16_season_117 (gl_29 (gix_lt (Nat.le_trans (hBR 3 0 (by decide)) (by decide)) g1)) (show 24 ≤ (29:Nat) by decide) rfl rfl (Nat.le_of_ble_eq_true rfl) (vp_nar_int _) rfl rfl pR_29_2 ?_
          refine y_aload_n (pc := 120) o dX16_season_120 rfl ?_
          refine y_aload_n (pc := 121) o dX16_season_121 rfl ?_
          refine z_get (pc := 122) (K := (20, 0, 0)) (v := .int ((gup R (9, 0, a.toNatClampNeg) 2 (gmax 0 ((R.1 (9, 0, a.toNatClampNeg) 2) - (b / 9)))).1 (0, 0, 0) 0)) o fl_X16_78 dX16_season_122 (gl_20 hR) rfl rfl ?_
          refine z_top (congrArg Value.int (gup_ff _ (show (0:Nat) ≠ 2 by decide))) ?_
          refine y_iload_n (pc := 125) o dX16_season_125 rfl ?_
          refine y_iadd (pc := 126) o dX16_season_126 ?_
          refine z_putR (pc := 127) (K := (29, 0, a.toNatClampNeg)) (fd := 5) (x := (R.1 (0, 0, 0) 0) + b) (B := (9, 0, a.toNatClampNeg)) o fw_X16_224 dX16_season_127 (gl_29 (gix_lt (Nat.le_trans (hBR 3 0 (by decide)) (by decide)) g1)) (show 24 ≤ (29:Nat) by decide) rfl rfl (Nat.le_of_ble_eq_true rfl) (vp_nar_int _) rfl rfl pR_29_5 ?_
          refine y_aload_n (pc := 130) o dX16_season_130 rfl ?_
          refine z_get (pc := 131) (K := (29, 0, a.toNatClampNeg)) (v := .int ((gup (gup R (9, 0, a.toNatClampNeg) 2 (gmax 0 ((R.1 (9, 0, a.toNatClampNeg) 2) - (b / 9)))) (9, 0, a.toNatClampNeg) 5 ((R.1 (0, 0, 0) 0) + b)).1 (9, 0, a.toNatClampNeg) 5)) o fl_X16_224 dX16_season_131 (gl_29 (gix_lt (Nat.le_trans (hBR 3 0 (by decide)) (by decide)) g1)) rfl rfl ?_
          refine z_top (congrArg Value.int (gup_v _ _ _ _)) ?_
          exact y_iret (pc := 134) o dX16_season_134 rfl (vp_nar_int _) (by decide) (by decide) (fun h hp => gP_mk (by simp +decide only [F_season, g1, b3, b5, b7, gtc0, gtc1, gtc2, gtc3, gtc4, not_true_eq_false, not_false_eq_true, if_true, if_false, or_true, true_or, or_false, false_or, and_true, true_and, and_false, false_and, or_self, and_self, eq_self, Bool.false_eq_true, ne_eq, reduceIte]) rfl rfl hp)
        refine y_bipush (pc := 105) (x := 6) o dX16_season_105 (by decide) ?_
        refine y_goto (pc := 107) (tgt := 112) o dX16_season_107 rfl ?_
        refine y_idiv (pc := 112) o dX16_season_112 (by decide) ?_
        refine y_isub (pc := 113) o dX16_season_113 ?_
        refine y_mmax (pc := 114) o qw_1441 dX16_season_114 ⟨by decide, Nat.le_of_ble_eq_true rfl⟩ (by decide) (by decide) ?_
        refine z_putR (pc := 117) (K := (29, 0, a.toNatClampNeg)) (fd := 2) (x := gmax 0 ((R.1 (9, 0, a.toNatClampNeg) 2) - (b / 6))) (B := (9, 0, a.toNatClampNeg)) o fw_X16_213 dX16_season_117 (gl_29 (gix_lt (Nat.le_trans (hBR 3 0 (by decide)) (by decide)) g1)) (show 24 ≤ (29:Nat) by decide) rfl rfl (Nat.le_of_ble_eq_true rfl) (vp_nar_int _) rfl rfl pR_29_2 ?_
        refine y_aload_n (pc := 120) o dX16_season_120 rfl ?_
        refine y_aload_n (pc := 121) o dX16_season_121 rfl ?_
        refine z_get (pc := 122) (K := (20, 0, 0)) (v := .int ((gup R (9, 0, a.toNatClampNeg) 2 (gmax 0 ((R.1 (9, 0, a.toNatClampNeg) 2) - (b / 6)))).1 (0, 0, 0) 0)) o fl_X16_78 dX16_season_122 (gl_20 hR) rfl rfl ?_
        refine z_top (congrArg Value.int (gup_ff _ (show (0:Nat) ≠ 2 by decide))) ?_
        refine y_iload_n (pc := 125) o dX16_season_125 rfl ?_
        refine y_iadd (pc := 126) o dX16_season_126 ?_
        refine z_putR (pc := 127) (K := (29, 0, a.toNatClampNeg)) (fd := 5) (x := (R.1 (0, 0, 0) 0) + b) (B := (9, 0, a.toNatClampNeg)) o fw_X16_224 dX16_season_127 (gl_29 (gix_lt (Nat.le_trans (hBR 3 0 (by decide)) (by decide)) g1)) (show 24 ≤ (29:Nat) by decide) rfl rfl (Nat.le_of_ble_eq_true rfl) (vp_nar_int _) rfl rfl pR_29_5 ?_
        refine y_aload_n (pc := 130) o dX16_season_130 rfl ?_
        refine z_get (pc := 131) (K := (29, 0, a.toNatClampNeg)) (v := .int ((gup (gup R (9, 0, a.toNatClampNeg) 2 (gmax 0 ((R.1 (9, 0, a.toNatClampNeg) 2) - (b / 6)))) (9, 0, a.toNatClampNeg) 5 ((R.1 (0, 0, 0) 0) + b)).1 (9, 0, a.toNatClampNeg) 5)) o fl_X16_224 dX16_season_131 (gl_29 (gix_lt (Nat.le_trans (hBR 3 0 (by decide)) (by decide)) g1)) rfl rfl ?_
        refine z_top (congrArg Value.int (gup_v _ _ _ _)) ?_
        exact y_iret (pc := 134) o dX16_season_134 rfl (vp_nar_int _) (by decide) (by decide) (fun h hp => gP_mk (by simp +decide only [F_season, g1, b3, b5, b7, gtc0, gtc1, gtc2, gtc3, gtc4, not_true_eq_false, not_false_eq_true, if_true, if_false, or_true, true_or, or_false, false_or, and_true, true_and, and_false, false_and, or_self, and_self, eq_self, Bool.false_eq_true, ne_eq, reduceIte]) rfl rfl hp)
      refine y_iconst (pc := 61) (x := 1) o dX16_season_61 (by decide) ?_
      refine y_goto (pc := 62) (tgt := 66) o dX16_season_62 rfl ?_
      refine y_iconst (pc := 66) (x := 3) o dX16_season_66 (by decide) ?_
      refine z_callV (pc := 67) (k := 0) (n := 0) (k' := 0) (n' := 0) o (b := ad (20, 0, 0)) (As := [.int (1), .int (3)]) (rest := []) (kFailsT hR h5 3 (by decide)) ln_X16_74 dX16_season_67 (z_rc (ci := 20) (K := (20, 0, 0)) rfl (gl_20 hR) rfl) rfl rfl (Nat.le_of_ble_eq_true rfl) ⟨by decide, by decide⟩ ⟨rfl, rfl⟩ ⟨by decide, by decide⟩ rfl gq_nox2 ?_
      refine y_if_eq (pc := 70) (tgt := 75) o dX16_season_70 rfl (fun b8 => absurd b8 (by decide)) (fun (b8 : ¬ 1 = 0) => ?_)
      refine y_iconst (pc := 73) (x := -1) o dX16_season_73 (by decide) ?_
      exact y_iret (pc := 74) o dX16_season_74 rfl (vp_nar_int _) (by decide) (by decide) (fun h hp => gP_thr (k := 3) (by simp +decide only [F_season, g1, b3, b5, gtc0, gtc1, gtc2, gtc3, gtc4, not_true_eq_false, not_false_eq_true, if_true, if_false, or_true, true_or, or_false, false_or, and_true, true_and, and_false, false_and, or_self, and_self, eq_self, Bool.false_eq_true, ne_eq, reduceIte]) (by decide) hp)
    refine y_iconst (pc := 25) (x := 1) o dX16_season_25 (by decide) ?_
    refine y_goto (pc := 26) (tgt := 30) o dX16_season_26 rfl ?_
    refine y_iconst (pc := 30) (x := 2) o dX16_season_30 (by decide) ?_
    refine z_callV (pc := 31) (k := 0) (n := 0) (k' := 0) (n' := 0) o (b := ad (20, 0, 0)) (As := [.int (1), .int (2)]) (rest := []) (kFailsT hR h5 2 (by decide)) ln_X16_74 dX16_season_31 (z_rc (ci := 20) (K := (20, 0, 0)) rfl (gl_20 hR) rfl) rfl rfl (Nat.le_of_ble_eq_true rfl) ⟨by decide, by decide⟩ ⟨rfl, rfl⟩ ⟨by decide, by decide⟩ rfl gq_nox2 ?_
    refine y_if_ne (pc := 34) (tgt := 73) o dX16_season_34 rfl (fun (b9 : ¬ 1 = 0) => ?_) (fun b9 => absurd b9 (by decide))
    refine y_iconst (pc := 73) (x := -1) o dX16_season_73 (by decide) ?_
    exact y_iret (pc := 74) o dX16_season_74 rfl (vp_nar_int _) (by decide) (by decide) (fun h hp => gP_thr (k := 2) (by simp +decide only [F_season, g1, b3, gtc0, gtc1, gtc2, gtc3, gtc4, not_true_eq_false, not_false_eq_true, if_true, if_false, or_true, true_or, or_false, false_or, and_true, true_and, and_false, false_and, or_self, and_self, eq_self, Bool.false_eq_true, ne_eq, reduceIte]) (by decide) hp)
  refine z_callV (pc := 6) (k := 0) (n := 0) (k' := 0) (n' := 0) o (b := ad (20, 0, 0)) (As := [.int (a)]) (rest := []) (knoSlatsT hR hBR h5 a g1) ln_X16_219 dX16_season_6 (z_rc (ci := 20) (K := (20, 0, 0)) rfl (gl_20 hR) rfl) rfl rfl (Nat.le_of_ble_eq_true rfl) ⟨by decide, by decide⟩ ⟨rfl, rfl⟩ ⟨by decide, by decide⟩ rfl gq_nox2 ?_
  refine y_if_ne (pc := 9) (tgt := 73) o dX16_season_9 rfl (fun (b10 : ¬ 1 = 0) => ?_) (fun b10 => absurd b10 (by decide))
  refine y_iconst (pc := 73) (x := -1) o dX16_season_73 (by decide) ?_
  exact y_iret (pc := 74) o dX16_season_74 rfl (vp_nar_int _) (by decide) (by decide) (fun h hp => gP_thr (k := 1) (by simp +decide only [F_season, g1, gtc0, gtc1, gtc2, gtc3, gtc4, not_true_eq_false, not_false_eq_true, if_true, if_false, or_true, true_or, or_false, false_or, and_true, true_and, and_false, false_and, or_self, and_self, eq_self, Bool.false_eq_true, ne_eq, reduceIte]) (by decide) hp)

theorem r_groove {κ : gq_K} {ad : gKey → Nat} {C Rp R : gG} {T : List (Nat × va_E)} {n : Nat} (hb : gup Rp (0, 0, 0) 5 0 = R) (hI : gI n R) (hn : n ≤ 512) (a : Int32) (b : Int32) : gq_C κ mX16_groove [.ref (ad (20, 0, 0)), .int (a), .int (b)] (gR κ ad (C, Rp) T) (gP κ ad C T (F_groove R a b)) (gq_no) := by
  refine gq_enter (by decide +kernel) rfl (Nat.le_of_ble_eq_true rfl) rfl (fun f o => ?_)
  have hR := hI.fix
  have hBR := hI.cnt
  have hRp : gfix Rp.2 := by rw [← hb] at hR; exact hR
  have h5 : R.1 (0, 0, 0) 5 = 0 := by rw [← hb]; exact gup_v _ _ _ _
  refine y_aload_n (pc := 0) o dX16_groove_0 rfl ?_
  refine z_callVv (pc := 1) (k := 0) (n := 0) (k' := 0) (n' := 0) o (b := ad (20, 0, 0)) (As := []) (rest := []) (kBegins hRp) ln_X16_69 dX16_groove_1 (z_rc (ci := 20) (K := (20, 0, 0)) rfl (gl_20 hRp) rfl) rfl rfl (Nat.le_of_ble_eq_true rfl) ⟨by decide, by decide⟩ ⟨rfl, rfl⟩ ⟨by decide, by decide⟩ rfl gq_nox2 ?_
  rw [hb]
  refine y_aload_n (pc := 4) o dX16_groove_4 rfl ?_
  refine y_iload_n (pc := 5) o dX16_groove_5 rfl ?_
  by_cases g1 : gix (R.2 9 0) a = true
  · refine z_callV (pc := 6) (k := 0) (n := 0) (k' := 0) (n' := 0) o (b := ad (20, 0, 0)) (As := [.int (a)]) (rest := []) (knoSlatsF hR hBR h5 a g1) ln_X16_219 dX16_groove_6 (z_rc (ci := 20) (K := (20, 0, 0)) rfl (gl_20 hR) rfl) rfl rfl (Nat.le_of_ble_eq_true rfl) ⟨by decide, by decide⟩ ⟨rfl, rfl⟩ ⟨by decide, by decide⟩ rfl gq_nox2 ?_
    refine y_if_ne (pc := 9) (tgt := 39) o dX16_groove_9 rfl (fun b2 => absurd b2 (by decide)) (fun (b2 : 0 = 0) => ?_)
    refine y_aload_n (pc := 12) o dX16_groove_12 rfl ?_
    refine y_iload_n (pc := 13) o dX16_groove_13 rfl ?_
    refine y_i2l (pc := 14) o dX16_groove_14 ?_
    refine y_ldc2 (pc := 15) o dX16_groove_15 qw_1509 ?_
    refine y_ldc2 (pc := 18) o dX16_groove_18 qw_1589 ?_
    refine z_callS (pc := 21) (k := 0) (n := 0) (k' := 0) (n' := 0) o (As := [.long (b.toInt64), .long (5), .long (30)]) (rest := [.ref (ad (20, 0, 0))]) (kIn b 5 30) ln_X16_13 dX16_groove_21 rfl rfl (Nat.le_of_ble_eq_true rfl) ⟨by decide, by decide⟩ ⟨rfl, rfl⟩ ⟨by decide, by decide⟩ rfl gq_nox2 ?_
    refine z_bne (pc := 24) (tgt := 31) o dX16_groove_24 rfl (fun (b3 : gin 5 b 30 = true) => ?_) (fun (b3 : ¬ (gin 5 b 30 = true)) => ?_)
    · refine y_iconst (pc := 31) (x := 0) o dX16_groove_31 (by decide) ?_
      refine y_iconst (pc := 32) (x := 2) o dX16_groove_32 (by decide) ?_
      refine z_callV (pc := 33) (k := 0) (n := 0) (k' := 0) (n' := 0) o (b := ad (20, 0, 0)) (As := [.int (0), .int (2)]) (rest := []) (kFailsF hR h5 2) ln_X16_74 dX16_groove_33 (z_rc (ci := 20) (K := (20, 0, 0)) rfl (gl_20 hR) rfl) rfl rfl (Nat.le_of_ble_eq_true rfl) ⟨by decide, by decide⟩ ⟨rfl, rfl⟩ ⟨by decide, by decide⟩ rfl gq_nox2 ?_
      refine y_if_eq (pc := 36) (tgt := 41) o dX16_groove_36 rfl (fun (b4 : 0 = 0) => ?_) (fun b4 => absurd b4 (by rw [b2]; decide))
      refine y_aload_n (pc := 41) o dX16_groove_41 rfl ?_
      refine z_get (pc := 42) (K := (20, 0, 0)) (v := .ref (ad (24, 3, 0))) o fl_X16_54 dX16_groove_42 (gl_20 hR) rfl rfl ?_
      refine y_iload_n (pc := 45) o dX16_groove_45 rfl ?_
      refine z_callF (pc := 46) (k := 0) (n := 0) (k' := 0) (n' := 0) (ci := 3) o (b := ad (24, 3, 0)) (As := [.int (a)]) (rest := []) (getR (l := 3) (g := 0) (gl_24_3 hR) (hBR 3 0 (by decide)) g1) rfl lf_X16_114 dX16_groove_46 (fun h hr => ⟨_, ghdr_R (R := R) (gl_24_3 hR) hr⟩) rfl rfl (Nat.le_of_ble_eq_true rfl) ⟨by decide, by decide⟩ ⟨rfl, rfl⟩ ⟨by decide, by decide⟩ ?_
      refine z_cast (pc := 51) (ci := 19) (K := (29, 0, a.toNatClampNeg)) o rfl qw_1551 dX16_groove_51 (gl_29 (gix_lt (Nat.le_trans (hBR 3 0 (by decide)) (by decide)) g1)) rfl ?_
      refine y_astore_n (pc := 54) (i := 3) (lv' := [(3, .ref (ad (29, 0, a.toNatClampNeg))), (0, .ref (ad (20, 0, 0))), (1, .int (a)), (2, .int (b))]) o dX16_groove_54 rfl (by decide) rfl ?_
      refine y_aload_n (pc := 55) o dX16_groove_55 rfl ?_
      refine y_aload_n (pc := 56) o dX16_groove_56 rfl ?_
      refine z_get (pc := 57) (K := (20, 0, 0)) (v := .int (R.1 (0, 0, 0) 0)) o fl_X16_78 dX16_groove_57 (gl_20 hR) rfl rfl ?_
      refine y_aload_n (pc := 60) o dX16_groove_60 rfl ?_
      refine z_get (pc := 61) (K := (29, 0, a.toNatClampNeg)) (v := .int (R.1 (9, 0, a.toNatClampNeg) 5)) o fl_X16_224 dX16_groove_61 (gl_29 (gix_lt (Nat.le_trans (hBR 3 0 (by decide)) (by decide)) g1)) rfl rfl ?_
      refine y_icmp_lt (pc := 64) (tgt := 91) o dX16_groove_64 rfl (fun (b5 : (R.1 (0, 0, 0) 0) < (R.1 (9, 0, a.toNatClampNeg) 5)) => ?_) (fun (b5 : ¬ (R.1 (0, 0, 0) 0) < (R.1 (9, 0, a.toNatClampNeg) 5)) => ?_)
      · refine y_iconst (pc := 91) (x := 1) o dX16_groove_91 (by decide) ?_
        refine y_goto (pc := 92) (tgt := 96) o dX16_groove_92 rfl ?_
        refine y_iconst (pc := 96) (x := 3) o dX16_groove_96 (by decide) ?_
        refine z_callV (pc := 97) (k := 0) (n := 0) (k' := 0) (n' := 0) o (b := ad (20, 0, 0)) (As := [.int (1), .int (3)]) (rest := []) (kFailsT hR h5 3 (by decide)) ln_X16_74 dX16_groove_97 (z_rc (ci := 20) (K := (20, 0, 0)) rfl (gl_20 hR) rfl) rfl rfl (Nat.le_of_ble_eq_true rfl) ⟨by decide, by decide⟩ ⟨rfl, rfl⟩ ⟨by decide, by decide⟩ rfl gq_nox2 ?_
        refine y_if_eq (pc := 100) (tgt := 105) o dX16_groove_100 rfl (fun b6 => absurd b6 (by decide)) (fun (b6 : ¬ 1 = 0) => ?_)
        refine y_iconst (pc := 103) (x := -1) o dX16_groove_103 (by decide) ?_
        exact y_iret (pc := 104) o dX16_groove_104 rfl (vp_nar_int _) (by decide) (by decide) (fun h hp => gP_thr (k := 3) (by simp +decide only [F_groove, g1, b3, b5, gtc0, gtc1, gtc2, gtc3, gtc4, not_true_eq_false, not_false_eq_true, if_true, if_false, or_true, true_or, or_false, false_or, and_true, true_and, and_false, false_and, or_self, and_self, eq_self, Bool.false_eq_true, ne_eq, reduceIte]) (by decide) hp)
      refine y_aload_n (pc := 67) o dX16_groove_67 rfl ?_
      refine z_get (pc := 68) (K := (29, 0, a.toNatClampNeg)) (v := .int (R.1 (9, 0, a.toNatClampNeg) 2)) o fl_X16_213 dX16_groove_68 (gl_29 (gix_lt (Nat.le_trans (hBR 3 0 (by decide)) (by decide)) g1)) rfl rfl ?_
      refine y_bipush (pc := 71) (x := 10) o dX16_groove_71 (by decide) ?_
      refine y_icmp_gt (pc := 73) (tgt := 91) o dX16_groove_73 rfl (fun (b7 : 10 < (R.1 (9, 0, a.toNatClampNeg) 2)) => ?_) (fun (b7 : ¬ 10 < (R.1 (9, 0, a.toNatClampNeg) 2)) => ?_)
      · refine y_iconst (pc := 91) (x := 1) o dX16_groove_91 (by decide) ?_
        refine y_goto (pc := 92) (tgt := 96) o dX16_groove_92 rfl ?_
        refine y_iconst (pc := 96) (x := 3) o dX16_groove_96 (by decide) ?_
        refine z_callV (pc := 97) (k := 0) (n := 0) (k' := 0) (n' := 0) o (b := ad (20, 0, 0)) (As := [.int (1), .int (3)]) (rest := []) (kFailsT hR h5 3 (by decide)) ln_X16_74 dX16_groove_97 (z_rc (ci := 20) (K := (20, 0, 0)) rfl (gl_20 hR) rfl) rfl rfl (Nat.le_of_ble_eq_true rfl) ⟨by decide, by decide⟩ ⟨rfl, rfl⟩ ⟨by decide, by decide⟩ rfl gq_nox2 ?_
        refine y_if_eq (pc := 100) (tgt := 105) o dX16_groove_100 rfl (fun b8 => absurd b8 (by decide)) (fun (b8 : ¬ 1 = 0) => ?_)
        refine y_iconst (pc := 103) (x := -1) o dX16_groove_103 (by decide) ?_
        exact y_iret (pc := 104) o dX16_groove_104 rfl (vp_nar_int _) (by decide) (by decide) (fun h hp => gP_thr (k := 3) (by simp +decide only [F_groove, g1, b3, b5, b7, gtc0, gtc1, gtc2, gtc3, gtc4, not_true_eq_false, not_false_eq_true, if_true, if_false, or_true, true_or, or_false, false_or, and_true, true_and, and_false, false_and, or_self, and_self, eq_self, Bool.false_eq_true, ne_eq, reduceIte]) (by decide) hp)
      refine y_aload_n (pc := 76) o dX16_groove_76 rfl ?_
      refine z_get (pc := 77) (K := (29, 0, a.toNatClampNeg)) (v := .int (R.1 (9, 0, a.toNatClampNeg) 4)) o fl_X16_227 dX16_groove_77 (gl_29 (gix_lt (Nat.le_trans (hBR 3 0 (by decide)) (by decide)) g1)) rfl rfl ?_
      refine y_if_gt (pc := 80) (tgt := 91) o dX16_groove_80 rfl (fun (b9 : 0 < (R.1 (9, 0, a.toNatClampNeg) 4)) => ?_) (fun (b9 : ¬ 0 < (R.1 (9, 0, a.toNatClampNeg) 4)) => ?_)
      · refine y_iconst (pc := 91) (x := 1) o dX16_groove_91 (by decide) ?_
        refine y_goto (pc := 92) (tgt := 96) o dX16_groove_92 rfl ?_
        refine y_iconst (pc := 96) (x := 3) o dX16_groove_96 (by decide) ?_
        refine z_callV (pc := 97) (k := 0) (n := 0) (k' := 0) (n' := 0) o (b := ad (20, 0, 0)) (As := [.int (1), .int (3)]) (rest := []) (kFailsT hR h5 3 (by decide)) ln_X16_74 dX16_groove_97 (z_rc (ci := 20) (K := (20, 0, 0)) rfl (gl_20 hR) rfl) rfl rfl (Nat.le_of_ble_eq_true rfl) ⟨by decide, by decide⟩ ⟨rfl, rfl⟩ ⟨by decide, by decide⟩ rfl gq_nox2 ?_
        refine y_if_eq (pc := 100) (tgt := 105) o dX16_groove_100 rfl (fun b10 => absurd b10 (by decide)) (fun (b10 : ¬ 1 = 0) => ?_)
        refine y_iconst (pc := 103) (x := -1) o dX16_groove_103 (by decide) ?_
        exact y_iret (pc := 104) o dX16_groove_104 rfl (vp_nar_int _) (by decide) (by decide) (fun h hp => gP_thr (k := 3) (by simp +decide only [F_groove, g1, b3, b5, b7, b9, gtc0, gtc1, gtc2, gtc3, gtc4, not_true_eq_false, not_false_eq_true, if_true, if_false, or_true, true_or, or_false, false_or, and_true, true_and, and_false, false_and, or_self, and_self, eq_self, Bool.false_eq_true, ne_eq, reduceIte]) (by decide) hp)
      refine y_aload_n (pc := 83) o dX16_groove_83 rfl ?_
      refine y_iconst (pc := 84) (x := 2) o dX16_groove_84 (by decide) ?_
      refine z_callV (pc := 85) (k := 0) (n := 0) (k' := 0) (n' := 0) o (b := ad (20, 0, 0)) (As := [.int (2)]) (rest := [.ref (ad (20, 0, 0))]) (kGoing0 hR hI.drv hI.2.1.2.2.1 2 (by decide) (hI.chn _ (by decide))) ln_X16_93 dX16_groove_85 (z_rc (ci := 20) (K := (20, 0, 0)) rfl (gl_20 hR) rfl) rfl rfl (Nat.le_of_ble_eq_true rfl) ⟨by decide, by decide⟩ ⟨rfl, rfl⟩ ⟨by decide, by decide⟩ rfl gq_nox2 ?_
      refine z_bne (pc := 88) (tgt := 95) o dX16_groove_88 rfl (fun (b11 : gmov R 4 2 = true) => ?_) (fun (b11 : ¬ (gmov R 4 2 = true)) => ?_)
      · refine y_iconst (pc := 95) (x := 0) o dX16_groove_95 (by decide) ?_
        refine y_iconst (pc := 96) (x := 3) o dX16_groove_96 (by decide) ?_
        refine z_callV (pc := 97) (k := 0) (n := 0) (k' := 0) (n' := 0) o (b := ad (20, 0, 0)) (As := [.int (0), .int (3)]) (rest := []) (kFailsF hR h5 3) ln_X16_74 dX16_groove_97 (z_rc (ci := 20) (K := (20, 0, 0)) rfl (gl_20 hR) rfl) rfl rfl (Nat.le_of_ble_eq_true rfl) ⟨by decide, by decide⟩ ⟨rfl, rfl⟩ ⟨by decide, by decide⟩ rfl gq_nox2 ?_
        refine y_if_eq (pc := 100) (tgt := 105) o dX16_groove_100 rfl (fun (b12 : 0 = 0) => ?_) (fun b12 => absurd b12 (by rw [b2]; decide))
        refine y_aload_n (pc := 105) o dX16_groove_105 rfl ?_
        refine y_iload_n (pc := 106) o dX16_groove_106 rfl ?_
        refine z_putR (pc := 107) (K := (29, 0, a.toNatClampNeg)) (fd := 4) (x := b) (B := (9, 0, a.toNatClampNeg)) o fw_X16_227 dX16_groove_107 (gl_29 (gix_lt (Nat.le_trans (hBR 3 0 (by decide)) (by decide)) g1)) (show 24 ≤ (29:Nat) by decide) rfl rfl (Nat.le_of_ble_eq_true rfl) (vp_nar_int _) rfl rfl pR_29_4 ?_
        refine y_aload_n (pc := 110) o dX16_groove_110 rfl ?_
        refine z_get (pc := 111) (K := (29, 0, a.toNatClampNeg)) (v := .int ((gup R (9, 0, a.toNatClampNeg) 4 b).1 (9, 0, a.toNatClampNeg) 3)) o fl_X16_216 dX16_groove_111 (gl_29 (gix_lt (Nat.le_trans (hBR 3 0 (by decide)) (by decide)) g1)) rfl rfl ?_
        refine z_top (congrArg Value.int (gup_vf _ (show (3:Nat) ≠ 4 by decide))) ?_
        exact y_iret (pc := 114) o dX16_groove_114 rfl (vp_nar_int _) (by decide) (by decide) (fun h hp => gP_mk (by simp +decide only [F_groove, g1, b3, b5, b7, b9, b11, gtc0, gtc1, gtc2, gtc3, gtc4, not_true_eq_false, not_false_eq_true, if_true, if_false, or_true, true_or, or_false, false_or, and_true, true_and, and_false, false_and, or_self, and_self, eq_self, Bool.false_eq_true, ne_eq, reduceIte]) rfl rfl hp)
      refine y_iconst (pc := 91) (x := 1) o dX16_groove_91 (by decide) ?_
      refine y_goto (pc := 92) (tgt := 96) o dX16_groove_92 rfl ?_
      refine y_iconst (pc := 96) (x := 3) o dX16_groove_96 (by decide) ?_
      refine z_callV (pc := 97) (k := 0) (n := 0) (k' := 0) (n' := 0) o (b := ad (20, 0, 0)) (As := [.int (1), .int (3)]) (rest := []) (kFailsT hR h5 3 (by decide)) ln_X16_74 dX16_groove_97 (z_rc (ci := 20) (K := (20, 0, 0)) rfl (gl_20 hR) rfl) rfl rfl (Nat.le_of_ble_eq_true rfl) ⟨by decide, by decide⟩ ⟨rfl, rfl⟩ ⟨by decide, by decide⟩ rfl gq_nox2 ?_
      refine y_if_eq (pc := 100) (tgt := 105) o dX16_groove_100 rfl (fun b13 => absurd b13 (by decide)) (fun (b13 : ¬ 1 = 0) => ?_)
      refine y_iconst (pc := 103) (x := -1) o dX16_groove_103 (by decide) ?_
      exact y_iret (pc := 104) o dX16_groove_104 rfl (vp_nar_int _) (by decide) (by decide) (fun h hp => gP_thr (k := 3) (by simp +decide only [F_groove, g1, b3, b5, b7, b9, b11, gtc0, gtc1, gtc2, gtc3, gtc4, not_true_eq_false, not_false_eq_true, if_true, if_false, or_true, true_or, or_false, false_or, and_true, true_and, and_false, false_and, or_self, and_self, eq_self, Bool.false_eq_true, ne_eq, reduceIte]) (by decide) hp)
    refine y_iconst (pc := 27) (x := 1) o dX16_groove_27 (by decide) ?_
    refine y_goto (pc := 28) (tgt := 32) o dX16_groove_28 rfl ?_
    refine y_iconst (pc := 32) (x := 2) o dX16_groove_32 (by decide) ?_
    refine z_callV (pc := 33) (k := 0) (n := 0) (k' := 0) (n' := 0) o (b := ad (20, 0, 0)) (As := [.int (1), .int (2)]) (rest := []) (kFailsT hR h5 2 (by decide)) ln_X16_74 dX16_groove_33 (z_rc (ci := 20) (K := (20, 0, 0)) rfl (gl_20 hR) rfl) rfl rfl (Nat.le_of_ble_eq_true rfl) ⟨by decide, by decide⟩ ⟨rfl, rfl⟩ ⟨by decide, by decide⟩ rfl gq_nox2 ?_
    refine y_if_eq (pc := 36) (tgt := 41) o dX16_groove_36 rfl (fun b14 => absurd b14 (by decide)) (fun (b14 : ¬ 1 = 0) => ?_)
    refine y_iconst (pc := 39) (x := -1) o dX16_groove_39 (by decide) ?_
    exact y_iret (pc := 40) o dX16_groove_40 rfl (vp_nar_int _) (by decide) (by decide) (fun h hp => gP_thr (k := 2) (by simp +decide only [F_groove, g1, b3, gtc0, gtc1, gtc2, gtc3, gtc4, not_true_eq_false, not_false_eq_true, if_true, if_false, or_true, true_or, or_false, false_or, and_true, true_and, and_false, false_and, or_self, and_self, eq_self, Bool.false_eq_true, ne_eq, reduceIte]) (by decide) hp)
  refine z_callV (pc := 6) (k := 0) (n := 0) (k' := 0) (n' := 0) o (b := ad (20, 0, 0)) (As := [.int (a)]) (rest := []) (knoSlatsT hR hBR h5 a g1) ln_X16_219 dX16_groove_6 (z_rc (ci := 20) (K := (20, 0, 0)) rfl (gl_20 hR) rfl) rfl rfl (Nat.le_of_ble_eq_true rfl) ⟨by decide, by decide⟩ ⟨rfl, rfl⟩ ⟨by decide, by decide⟩ rfl gq_nox2 ?_
  refine y_if_ne (pc := 9) (tgt := 39) o dX16_groove_9 rfl (fun (b15 : ¬ 1 = 0) => ?_) (fun b15 => absurd b15 (by decide))
  refine y_iconst (pc := 39) (x := -1) o dX16_groove_39 (by decide) ?_
  exact y_iret (pc := 40) o dX16_groove_40 rfl (vp_nar_int _) (by decide) (by decide) (fun h hp => gP_thr (k := 1) (by simp +decide only [F_groove, g1, gtc0, gtc1, gtc2, gtc3, gtc4, not_true_eq_false, not_false_eq_true, if_true, if_false, or_true, true_or, or_false, false_or, and_true, true_and, and_false, false_and, or_self, and_self, eq_self, Bool.false_eq_true, ne_eq, reduceIte]) (by decide) hp)

theorem r_coat {κ : gq_K} {ad : gKey → Nat} {C Rp R : gG} {T : List (Nat × va_E)} {n : Nat} (hb : gup Rp (0, 0, 0) 5 0 = R) (hI : gI n R) (hn : n ≤ 512) (a : Int32) (b : Int32) : gq_C κ mX16_coat [.ref (ad (20, 0, 0)), .int (a), .int (b)] (gR κ ad (C, Rp) T) (gP κ ad C T (F_coat R a b)) (gq_no) := by
  refine gq_enter (by decide +kernel) rfl (Nat.le_of_ble_eq_true rfl) rfl (fun f o => ?_)
  have hR := hI.fix
  have hBR := hI.cnt
  have hRp : gfix Rp.2 := by rw [← hb] at hR; exact hR
  have h5 : R.1 (0, 0, 0) 5 = 0 := by rw [← hb]; exact gup_v _ _ _ _
  refine y_aload_n (pc := 0) o dX16_coat_0 rfl ?_
  refine z_callVv (pc := 1) (k := 0) (n := 0) (k' := 0) (n' := 0) o (b := ad (20, 0, 0)) (As := []) (rest := []) (kBegins hRp) ln_X16_69 dX16_coat_1 (z_rc (ci := 20) (K := (20, 0, 0)) rfl (gl_20 hRp) rfl) rfl rfl (Nat.le_of_ble_eq_true rfl) ⟨by decide, by decide⟩ ⟨rfl, rfl⟩ ⟨by decide, by decide⟩ rfl gq_nox2 ?_
  rw [hb]
  refine y_aload_n (pc := 4) o dX16_coat_4 rfl ?_
  refine y_iload_n (pc := 5) o dX16_coat_5 rfl ?_
  by_cases g1 : gix (R.2 10 0) a = true
  · refine z_callV (pc := 6) (k := 0) (n := 0) (k' := 0) (n' := 0) o (b := ad (20, 0, 0)) (As := [.int (a)]) (rest := []) (knoRunF hR hBR h5 a g1) ln_X16_253 dX16_coat_6 (z_rc (ci := 20) (K := (20, 0, 0)) rfl (gl_20 hR) rfl) rfl rfl (Nat.le_of_ble_eq_true rfl) ⟨by decide, by decide⟩ ⟨rfl, rfl⟩ ⟨by decide, by decide⟩ rfl gq_nox2 ?_
    refine y_if_ne (pc := 9) (tgt := 37) o dX16_coat_9 rfl (fun b2 => absurd b2 (by decide)) (fun (b2 : 0 = 0) => ?_)
    refine y_aload_n (pc := 12) o dX16_coat_12 rfl ?_
    refine y_iload_n (pc := 13) o dX16_coat_13 rfl ?_
    refine y_i2l (pc := 14) o dX16_coat_14 ?_
    refine y_lconst (pc := 15) (x := 0) o dX16_coat_15 (by decide) ?_
    refine y_ldc2 (pc := 16) o dX16_coat_16 qw_1401 ?_
    refine z_callS (pc := 19) (k := 0) (n := 0) (k' := 0) (n' := 0) o (As := [.long (b.toInt64), .long (0), .long (9)]) (rest := [.ref (ad (20, 0, 0))]) (kIn b 0 9) ln_X16_13 dX16_coat_19 rfl rfl (Nat.le_of_ble_eq_true rfl) ⟨by decide, by decide⟩ ⟨rfl, rfl⟩ ⟨by decide, by decide⟩ rfl gq_nox2 ?_
    refine z_bne (pc := 22) (tgt := 29) o dX16_coat_22 rfl (fun (b3 : gin 0 b 9 = true) => ?_) (fun (b3 : ¬ (gin 0 b 9 = true)) => ?_)
    · refine y_iconst (pc := 29) (x := 0) o dX16_coat_29 (by decide) ?_
      refine y_iconst (pc := 30) (x := 2) o dX16_coat_30 (by decide) ?_
      refine z_callV (pc := 31) (k := 0) (n := 0) (k' := 0) (n' := 0) o (b := ad (20, 0, 0)) (As := [.int (0), .int (2)]) (rest := []) (kFailsF hR h5 2) ln_X16_74 dX16_coat_31 (z_rc (ci := 20) (K := (20, 0, 0)) rfl (gl_20 hR) rfl) rfl rfl (Nat.le_of_ble_eq_true rfl) ⟨by decide, by decide⟩ ⟨rfl, rfl⟩ ⟨by decide, by decide⟩ rfl gq_nox2 ?_
      refine y_if_eq (pc := 34) (tgt := 39) o dX16_coat_34 rfl (fun (b4 : 0 = 0) => ?_) (fun b4 => absurd b4 (by rw [b2]; decide))
      refine y_aload_n (pc := 39) o dX16_coat_39 rfl ?_
      refine z_get (pc := 40) (K := (20, 0, 0)) (v := .ref (ad (24, 4, 0))) o fl_X16_57 dX16_coat_40 (gl_20 hR) rfl rfl ?_
      refine y_iload_n (pc := 43) o dX16_coat_43 rfl ?_
      refine z_callF (pc := 44) (k := 0) (n := 0) (k' := 0) (n' := 0) (ci := 3) o (b := ad (24, 4, 0)) (As := [.int (a)]) (rest := []) (getR (l := 4) (g := 0) (gl_24_4 hR) (hBR 4 0 (by decide)) g1) rfl lf_X16_114 dX16_coat_44 (fun h hr => ⟨_, ghdr_R (R := R) (gl_24_4 hR) hr⟩) rfl rfl (Nat.le_of_ble_eq_true rfl) ⟨by decide, by decide⟩ ⟨rfl, rfl⟩ ⟨by decide, by decide⟩ ?_
      refine z_cast (pc := 49) (ci := 18) (K := (30, 0, a.toNatClampNeg)) o rfl qw_1601 dX16_coat_49 (gl_30 (gix_lt (Nat.le_trans (hBR 4 0 (by decide)) (by decide)) g1)) rfl ?_
      refine y_astore_n (pc := 52) (i := 3) (lv' := [(3, .ref (ad (30, 0, a.toNatClampNeg))), (0, .ref (ad (20, 0, 0))), (1, .int (a)), (2, .int (b))]) o dX16_coat_52 rfl (by decide) rfl ?_
      refine y_aload_n (pc := 53) o dX16_coat_53 rfl ?_
      refine y_aload_n (pc := 54) o dX16_coat_54 rfl ?_
      refine z_get (pc := 55) (K := (20, 0, 0)) (v := .int (R.1 (0, 0, 0) 0)) o fl_X16_78 dX16_coat_55 (gl_20 hR) rfl rfl ?_
      refine y_aload_n (pc := 58) o dX16_coat_58 rfl ?_
      refine z_get (pc := 59) (K := (30, 0, a.toNatClampNeg)) (v := .int (R.1 (10, 0, a.toNatClampNeg) 6)) o fl_X16_252 dX16_coat_59 (gl_30 (gix_lt (Nat.le_trans (hBR 4 0 (by decide)) (by decide)) g1)) rfl rfl ?_
      refine y_icmp_lt (pc := 62) (tgt := 82) o dX16_coat_62 rfl (fun (b5 : (R.1 (0, 0, 0) 0) < (R.1 (10, 0, a.toNatClampNeg) 6)) => ?_) (fun (b5 : ¬ (R.1 (0, 0, 0) 0) < (R.1 (10, 0, a.toNatClampNeg) 6)) => ?_)
      · refine y_iconst (pc := 82) (x := 1) o dX16_coat_82 (by decide) ?_
        refine y_goto (pc := 83) (tgt := 87) o dX16_coat_83 rfl ?_
        refine y_iconst (pc := 87) (x := 3) o dX16_coat_87 (by decide) ?_
        refine z_callV (pc := 88) (k := 0) (n := 0) (k' := 0) (n' := 0) o (b := ad (20, 0, 0)) (As := [.int (1), .int (3)]) (rest := []) (kFailsT hR h5 3 (by decide)) ln_X16_74 dX16_coat_88 (z_rc (ci := 20) (K := (20, 0, 0)) rfl (gl_20 hR) rfl) rfl rfl (Nat.le_of_ble_eq_true rfl) ⟨by decide, by decide⟩ ⟨rfl, rfl⟩ ⟨by decide, by decide⟩ rfl gq_nox2 ?_
        refine y_if_eq (pc := 91) (tgt := 96) o dX16_coat_91 rfl (fun b6 => absurd b6 (by decide)) (fun (b6 : ¬ 1 = 0) => ?_)
        refine y_iconst (pc := 94) (x := -1) o dX16_coat_94 (by decide) ?_
        exact y_iret (pc := 95) o dX16_coat_95 rfl (vp_nar_int _) (by decide) (by decide) (fun h hp => gP_thr (k := 3) (by simp +decide only [F_coat, g1, b3, b5, gtc0, gtc1, gtc2, gtc3, gtc4, not_true_eq_false, not_false_eq_true, if_true, if_false, or_true, true_or, or_false, false_or, and_true, true_and, and_false, false_and, or_self, and_self, eq_self, Bool.false_eq_true, ne_eq, reduceIte]) (by decide) hp)
      refine y_aload_n (pc := 65) o dX16_coat_65 rfl ?_
      refine z_get (pc := 66) (K := (30, 0, a.toNatClampNeg)) (v := .int (R.1 (10, 0, a.toNatClampNeg) 7)) o fl_X16_256 dX16_coat_66 (gl_30 (gix_lt (Nat.le_trans (hBR 4 0 (by decide)) (by decide)) g1)) rfl rfl ?_
      refine y_bipush (pc := 69) (x := 8) o dX16_coat_69 (by decide) ?_
      refine y_icmp_eq (pc := 71) (tgt := 82) o dX16_coat_71 rfl (fun (b7 : (R.1 (10, 0, a.toNatClampNeg) 7) = 8) => ?_) (fun (b7 : ¬ (R.1 (10, 0, a.toNatClampNeg) 7) = 8) => ?_)
      · refine y_iconst (pc := 82) (x := 1) o dX16_coat_82 (by decide) ?_
        refine y_goto (pc := 83) (tgt := 87) o dX16_coat_83 rfl ?_
        refine y_iconst (pc := 87) (x := 3) o dX16_coat_87 (by decide) ?_
        refine z_callV (pc := 88) (k := 0) (n := 0) (k' := 0) (n' := 0) o (b := ad (20, 0, 0)) (As := [.int (1), .int (3)]) (rest := []) (kFailsT hR h5 3 (by decide)) ln_X16_74 dX16_coat_88 (z_rc (ci := 20) (K := (20, 0, 0)) rfl (gl_20 hR) rfl) rfl rfl (Nat.le_of_ble_eq_true rfl) ⟨by decide, by decide⟩ ⟨rfl, rfl⟩ ⟨by decide, by decide⟩ rfl gq_nox2 ?_
        refine y_if_eq (pc := 91) (tgt := 96) o dX16_coat_91 rfl (fun b8 => absurd b8 (by decide)) (fun (b8 : ¬ 1 = 0) => ?_)
        refine y_iconst (pc := 94) (x := -1) o dX16_coat_94 (by decide) ?_
        exact y_iret (pc := 95) o dX16_coat_95 rfl (vp_nar_int _) (by decide) (by decide) (fun h hp => gP_thr (k := 3) (by simp +decide only [F_coat, g1, b3, b5, geq8_t b7, gtc0, gtc1, gtc2, gtc3, gtc4, not_true_eq_false, not_false_eq_true, if_true, if_false, or_true, true_or, or_false, false_or, and_true, true_and, and_false, false_and, or_self, and_self, eq_self, Bool.false_eq_true, ne_eq, reduceIte]) (by decide) hp)
      refine y_aload_n (pc := 74) o dX16_coat_74 rfl ?_
      refine y_iconst (pc := 75) (x := 3) o dX16_coat_75 (by decide) ?_
      refine z_callV (pc := 76) (k := 0) (n := 0) (k' := 0) (n' := 0) o (b := ad (20, 0, 0)) (As := [.int (3)]) (rest := [.ref (ad (20, 0, 0))]) (kGoing0 hR hI.drv hI.2.1.2.2.1 3 (by decide) (hI.chn _ (by decide))) ln_X16_93 dX16_coat_76 (z_rc (ci := 20) (K := (20, 0, 0)) rfl (gl_20 hR) rfl) rfl rfl (Nat.le_of_ble_eq_true rfl) ⟨by decide, by decide⟩ ⟨rfl, rfl⟩ ⟨by decide, by decide⟩ rfl gq_nox2 ?_
      refine z_bne (pc := 79) (tgt := 86) o dX16_coat_79 rfl (fun (b9 : gmov R 4 3 = true) => ?_) (fun (b9 : ¬ (gmov R 4 3 = true)) => ?_)
      · refine y_iconst (pc := 86) (x := 0) o dX16_coat_86 (by decide) ?_
        refine y_iconst (pc := 87) (x := 3) o dX16_coat_87 (by decide) ?_
        refine z_callV (pc := 88) (k := 0) (n := 0) (k' := 0) (n' := 0) o (b := ad (20, 0, 0)) (As := [.int (0), .int (3)]) (rest := []) (kFailsF hR h5 3) ln_X16_74 dX16_coat_88 (z_rc (ci := 20) (K := (20, 0, 0)) rfl (gl_20 hR) rfl) rfl rfl (Nat.le_of_ble_eq_true rfl) ⟨by decide, by decide⟩ ⟨rfl, rfl⟩ ⟨by decide, by decide⟩ rfl gq_nox2 ?_
        refine y_if_eq (pc := 91) (tgt := 96) o dX16_coat_91 rfl (fun (b10 : 0 = 0) => ?_) (fun b10 => absurd b10 (by rw [b2]; decide))
        refine y_aload_n (pc := 96) o dX16_coat_96 rfl ?_
        refine y_dup (pc := 97) o dX16_coat_97 rfl ?_
        refine z_get (pc := 98) (K := (30, 0, a.toNatClampNeg)) (v := .int (R.1 (10, 0, a.toNatClampNeg) 7)) o fl_X16_256 dX16_coat_98 (gl_30 (gix_lt (Nat.le_trans (hBR 4 0 (by decide)) (by decide)) g1)) rfl rfl ?_
        refine y_iconst (pc := 101) (x := 1) o dX16_coat_101 (by decide) ?_
        refine y_iadd (pc := 102) o dX16_coat_102 ?_
        refine z_putR (pc := 103) (K := (30, 0, a.toNatClampNeg)) (fd := 7) (x := (R.1 (10, 0, a.toNatClampNeg) 7) + 1) (B := (10, 0, a.toNatClampNeg)) o fw_X16_256 dX16_coat_103 (gl_30 (gix_lt (Nat.le_trans (hBR 4 0 (by decide)) (by decide)) g1)) (show 24 ≤ (30:Nat) by decide) rfl rfl (Nat.le_of_ble_eq_true rfl) (vp_nar_int _) rfl rfl pR_30_7 ?_
        refine y_aload_n (pc := 106) o dX16_coat_106 rfl ?_
        refine y_iload_n (pc := 107) o dX16_coat_107 rfl ?_
        refine z_putR (pc := 108) (K := (30, 0, a.toNatClampNeg)) (fd := 8) (x := b) (B := (10, 0, a.toNatClampNeg)) o fw_X16_259 dX16_coat_108 (gl_30 (gix_lt (Nat.le_trans (hBR 4 0 (by decide)) (by decide)) g1)) (show 24 ≤ (30:Nat) by decide) rfl rfl (Nat.le_of_ble_eq_true rfl) (vp_nar_int _) rfl rfl pR_30_8 ?_
        refine y_aload_n (pc := 111) o dX16_coat_111 rfl ?_
        refine y_aload_n (pc := 112) o dX16_coat_112 rfl ?_
        refine z_get (pc := 113) (K := (20, 0, 0)) (v := .int ((gup (gup R (10, 0, a.toNatClampNeg) 7 ((R.1 (10, 0, a.toNatClampNeg) 7) + 1)) (10, 0, a.toNatClampNeg) 8 b).1 (0, 0, 0) 0)) o fl_X16_78 dX16_coat_113 (gl_20 hR) rfl rfl ?_
        refine z_top (congrArg Value.int (Eq.trans (gup_ff _ (show (0:Nat) ≠ 8 by decide)) (gup_ff _ (show (0:Nat) ≠ 7 by decide)))) ?_
        refine y_bipush (pc := 116) (x := 8) o dX16_coat_116 (by decide) ?_
        refine y_iadd (pc := 118) o dX16_coat_118 ?_
        refine z_putR (pc := 119) (K := (30, 0, a.toNatClampNeg)) (fd := 6) (x := (R.1 (0, 0, 0) 0) + 8) (B := (10, 0, a.toNatClampNeg)) o fw_X16_252 dX16_coat_119 (gl_30 (gix_lt (Nat.le_trans (hBR 4 0 (by decide)) (by decide)) g1)) (show 24 ≤ (30:Nat) by decide) rfl rfl (Nat.le_of_ble_eq_true rfl) (vp_nar_int _) rfl rfl pR_30_6 ?_
        refine y_aload_n (pc := 122) o dX16_coat_122 rfl ?_
        refine z_get (pc := 123) (K := (30, 0, a.toNatClampNeg)) (v := .int ((gup (gup (gup R (10, 0, a.toNatClampNeg) 7 ((R.1 (10, 0, a.toNatClampNeg) 7) + 1)) (10, 0, a.toNatClampNeg) 8 b) (10, 0, a.toNatClampNeg) 6 ((R.1 (0, 0, 0) 0) + 8)).1 (10, 0, a.toNatClampNeg) 7)) o fl_X16_256 dX16_coat_123 (gl_30 (gix_lt (Nat.le_trans (hBR 4 0 (by decide)) (by decide)) g1)) rfl rfl ?_
        refine z_top (congrArg Value.int (Eq.trans (gup_vf _ (show (7:Nat) ≠ 6 by decide)) (Eq.trans (gup_vf _ (show (7:Nat) ≠ 8 by decide)) (gup_v _ _ _ _)))) ?_
        exact y_iret (pc := 126) o dX16_coat_126 rfl (vp_nar_int _) (by decide) (by decide) (fun h hp => gP_mk (by simp +decide only [F_coat, g1, b3, b5, geq8_f (hI.2.2.2.2.2.1 _ (gix_lt (Nat.le_trans (hBR 4 0 (by decide)) (by decide)) g1)).2.2.2.2.2.1 b7, b9, gtc0, gtc1, gtc2, gtc3, gtc4, not_true_eq_false, not_false_eq_true, if_true, if_false, or_true, true_or, or_false, false_or, and_true, true_and, and_false, false_and, or_self, and_self, eq_self, Bool.false_eq_true, ne_eq, reduceIte]) rfl rfl hp)
      refine y_iconst (pc := 82) (x := 1) o dX16_coat_82 (by decide) ?_
      refine y_goto (pc := 83) (tgt := 87) o dX16_coat_83 rfl ?_
      refine y_iconst (pc := 87) (x := 3) o dX16_coat_87 (by decide) ?_
      refine z_callV (pc := 88) (k := 0) (n := 0) (k' := 0) (n' := 0) o (b := ad (20, 0, 0)) (As := [.int (1), .int (3)]) (rest := []) (kFailsT hR h5 3 (by decide)) ln_X16_74 dX16_coat_88 (z_rc (ci := 20) (K := (20, 0, 0)) rfl (gl_20 hR) rfl) rfl rfl (Nat.le_of_ble_eq_true rfl) ⟨by decide, by decide⟩ ⟨rfl, rfl⟩ ⟨by decide, by decide⟩ rfl gq_nox2 ?_
      refine y_if_eq (pc := 91) (tgt := 96) o dX16_coat_91 rfl (fun b11 => absurd b11 (by decide)) (fun (b11 : ¬ 1 = 0) => ?_)
      refine y_iconst (pc := 94) (x := -1) o dX16_coat_94 (by decide) ?_
      exact y_iret (pc := 95) o dX16_coat_95 rfl (vp_nar_int _) (by decide) (by decide) (fun h hp => gP_thr (k := 3) (by simp +decide only [F_coat, g1, b3, b5, geq8_f (hI.2.2.2.2.2.1 _ (gix_lt (Nat.le_trans (hBR 4 0 (by decide)) (by decide)) g1)).2.2.2.2.2.1 b7, b9, gtc0, gtc1, gtc2, gtc3, gtc4, not_true_eq_false, not_false_eq_true, if_true, if_false, or_true, true_or, or_false, false_or, and_true, true_and, and_false, false_and, or_self, and_self, eq_self, Bool.false_eq_true, ne_eq, reduceIte]) (by decide) hp)
    refine y_iconst (pc := 25) (x := 1) o dX16_coat_25 (by decide) ?_
    refine y_goto (pc := 26) (tgt := 30) o dX16_coat_26 rfl ?_
    refine y_iconst (pc := 30) (x := 2) o dX16_coat_30 (by decide) ?_
    refine z_callV (pc := 31) (k := 0) (n := 0) (k' := 0) (n' := 0) o (b := ad (20, 0, 0)) (As := [.int (1), .int (2)]) (rest := []) (kFailsT hR h5 2 (by decide)) ln_X16_74 dX16_coat_31 (z_rc (ci := 20) (K := (20, 0, 0)) rfl (gl_20 hR) rfl) rfl rfl (Nat.le_of_ble_eq_true rfl) ⟨by decide, by decide⟩ ⟨rfl, rfl⟩ ⟨by decide, by decide⟩ rfl gq_nox2 ?_
    refine y_if_eq (pc := 34) (tgt := 39) o dX16_coat_34 rfl (fun b12 => absurd b12 (by decide)) (fun (b12 : ¬ 1 = 0) => ?_)
    refine y_iconst (pc := 37) (x := -1) o dX16_coat_37 (by decide) ?_
    exact y_iret (pc := 38) o dX16_coat_38 rfl (vp_nar_int _) (by decide) (by decide) (fun h hp => gP_thr (k := 2) (by simp +decide only [F_coat, g1, b3, gtc0, gtc1, gtc2, gtc3, gtc4, not_true_eq_false, not_false_eq_true, if_true, if_false, or_true, true_or, or_false, false_or, and_true, true_and, and_false, false_and, or_self, and_self, eq_self, Bool.false_eq_true, ne_eq, reduceIte]) (by decide) hp)
  refine z_callV (pc := 6) (k := 0) (n := 0) (k' := 0) (n' := 0) o (b := ad (20, 0, 0)) (As := [.int (a)]) (rest := []) (knoRunT hR hBR h5 a g1) ln_X16_253 dX16_coat_6 (z_rc (ci := 20) (K := (20, 0, 0)) rfl (gl_20 hR) rfl) rfl rfl (Nat.le_of_ble_eq_true rfl) ⟨by decide, by decide⟩ ⟨rfl, rfl⟩ ⟨by decide, by decide⟩ rfl gq_nox2 ?_
  refine y_if_ne (pc := 9) (tgt := 37) o dX16_coat_9 rfl (fun (b13 : ¬ 1 = 0) => ?_) (fun b13 => absurd b13 (by decide))
  refine y_iconst (pc := 37) (x := -1) o dX16_coat_37 (by decide) ?_
  exact y_iret (pc := 38) o dX16_coat_38 rfl (vp_nar_int _) (by decide) (by decide) (fun h hp => gP_thr (k := 1) (by simp +decide only [F_coat, g1, gtc0, gtc1, gtc2, gtc3, gtc4, not_true_eq_false, not_false_eq_true, if_true, if_false, or_true, true_or, or_false, false_or, and_true, true_and, and_false, false_and, or_self, and_self, eq_self, Bool.false_eq_true, ne_eq, reduceIte]) (by decide) hp)

theorem r_stamp {κ : gq_K} {ad : gKey → Nat} {C Rp R : gG} {T : List (Nat × va_E)} {n : Nat} (hb : gup Rp (0, 0, 0) 5 0 = R) (hI : gI n R) (hn : n ≤ 512) (a : Int32) : gq_C κ mX16_stamp [.ref (ad (20, 0, 0)), .int (a)] (gR κ ad (C, Rp) T) (gP κ ad C T (F_stamp R a)) (gq_no) := by
  refine gq_enter (by decide +kernel) rfl (Nat.le_of_ble_eq_true rfl) rfl (fun f o => ?_)
  have hR := hI.fix
  have hBR := hI.cnt
  have hRp : gfix Rp.2 := by rw [← hb] at hR; exact hR
  have h5 : R.1 (0, 0, 0) 5 = 0 := by rw [← hb]; exact gup_v _ _ _ _
  refine y_aload_n (pc := 0) o dX16_stamp_0 rfl ?_
  refine z_callVv (pc := 1) (k := 0) (n := 0) (k' := 0) (n' := 0) o (b := ad (20, 0, 0)) (As := []) (rest := []) (kBegins hRp) ln_X16_69 dX16_stamp_1 (z_rc (ci := 20) (K := (20, 0, 0)) rfl (gl_20 hRp) rfl) rfl rfl (Nat.le_of_ble_eq_true rfl) ⟨by decide, by decide⟩ ⟨rfl, rfl⟩ ⟨by decide, by decide⟩ rfl gq_nox2 ?_
  rw [hb]
  refine y_aload_n (pc := 4) o dX16_stamp_4 rfl ?_
  refine y_iload_n (pc := 5) o dX16_stamp_5 rfl ?_
  by_cases g1 : gix (R.2 10 0) a = true
  · refine z_callV (pc := 6) (k := 0) (n := 0) (k' := 0) (n' := 0) o (b := ad (20, 0, 0)) (As := [.int (a)]) (rest := []) (knoRunF hR hBR h5 a g1) ln_X16_253 dX16_stamp_6 (z_rc (ci := 20) (K := (20, 0, 0)) rfl (gl_20 hR) rfl) rfl rfl (Nat.le_of_ble_eq_true rfl) ⟨by decide, by decide⟩ ⟨rfl, rfl⟩ ⟨by decide, by decide⟩ rfl gq_nox2 ?_
    refine y_if_eq (pc := 9) (tgt := 14) o dX16_stamp_9 rfl (fun (b2 : 0 = 0) => ?_) (fun b2 => absurd b2 (by decide))
    refine y_aload_n (pc := 14) o dX16_stamp_14 rfl ?_
    refine z_get (pc := 15) (K := (20, 0, 0)) (v := .ref (ad (24, 4, 0))) o fl_X16_57 dX16_stamp_15 (gl_20 hR) rfl rfl ?_
    refine y_iload_n (pc := 18) o dX16_stamp_18 rfl ?_
    refine z_callF (pc := 19) (k := 0) (n := 0) (k' := 0) (n' := 0) (ci := 3) o (b := ad (24, 4, 0)) (As := [.int (a)]) (rest := []) (getR (l := 4) (g := 0) (gl_24_4 hR) (hBR 4 0 (by decide)) g1) rfl lf_X16_114 dX16_stamp_19 (fun h hr => ⟨_, ghdr_R (R := R) (gl_24_4 hR) hr⟩) rfl rfl (Nat.le_of_ble_eq_true rfl) ⟨by decide, by decide⟩ ⟨rfl, rfl⟩ ⟨by decide, by decide⟩ ?_
    refine z_cast (pc := 24) (ci := 18) (K := (30, 0, a.toNatClampNeg)) o rfl qw_1601 dX16_stamp_24 (gl_30 (gix_lt (Nat.le_trans (hBR 4 0 (by decide)) (by decide)) g1)) rfl ?_
    refine y_astore_n (pc := 27) (i := 2) (lv' := [(2, .ref (ad (30, 0, a.toNatClampNeg))), (0, .ref (ad (20, 0, 0))), (1, .int (a))]) o dX16_stamp_27 rfl (by decide) rfl ?_
    refine y_aload_n (pc := 28) o dX16_stamp_28 rfl ?_
    refine y_aload_n (pc := 29) o dX16_stamp_29 rfl ?_
    refine z_get (pc := 30) (K := (20, 0, 0)) (v := .int (R.1 (0, 0, 0) 0)) o fl_X16_78 dX16_stamp_30 (gl_20 hR) rfl rfl ?_
    refine y_aload_n (pc := 33) o dX16_stamp_33 rfl ?_
    refine z_get (pc := 34) (K := (30, 0, a.toNatClampNeg)) (v := .int (R.1 (10, 0, a.toNatClampNeg) 6)) o fl_X16_252 dX16_stamp_34 (gl_30 (gix_lt (Nat.le_trans (hBR 4 0 (by decide)) (by decide)) g1)) rfl rfl ?_
    refine y_icmp_lt (pc := 37) (tgt := 82) o dX16_stamp_37 rfl (fun (b3 : (R.1 (0, 0, 0) 0) < (R.1 (10, 0, a.toNatClampNeg) 6)) => ?_) (fun (b3 : ¬ (R.1 (0, 0, 0) 0) < (R.1 (10, 0, a.toNatClampNeg) 6)) => ?_)
    · refine y_iconst (pc := 82) (x := 1) o dX16_stamp_82 (by decide) ?_
      refine y_goto (pc := 83) (tgt := 87) o dX16_stamp_83 rfl ?_
      refine y_iconst (pc := 87) (x := 2) o dX16_stamp_87 (by decide) ?_
      refine z_callV (pc := 88) (k := 0) (n := 0) (k' := 0) (n' := 0) o (b := ad (20, 0, 0)) (As := [.int (1), .int (2)]) (rest := []) (kFailsT hR h5 2 (by decide)) ln_X16_74 dX16_stamp_88 (z_rc (ci := 20) (K := (20, 0, 0)) rfl (gl_20 hR) rfl) rfl rfl (Nat.le_of_ble_eq_true rfl) ⟨by decide, by decide⟩ ⟨rfl, rfl⟩ ⟨by decide, by decide⟩ rfl gq_nox2 ?_
      refine y_if_eq (pc := 91) (tgt := 96) o dX16_stamp_91 rfl (fun b4 => absurd b4 (by decide)) (fun (b4 : ¬ 1 = 0) => ?_)
      refine y_iconst (pc := 94) (x := -1) o dX16_stamp_94 (by decide) ?_
      exact y_iret (pc := 95) o dX16_stamp_95 rfl (vp_nar_int _) (by decide) (by decide) (fun h hp => gP_thr (k := 2) (by simp +decide only [F_stamp, g1, b3, gtc0, gtc1, gtc2, gtc3, gtc4, not_true_eq_false, not_false_eq_true, if_true, if_false, or_true, true_or, or_false, false_or, and_true, true_and, and_false, false_and, or_self, and_self, eq_self, Bool.false_eq_true, ne_eq, reduceIte]) (by decide) hp)
    refine y_aload_n (pc := 40) o dX16_stamp_40 rfl ?_
    refine z_get (pc := 41) (K := (30, 0, a.toNatClampNeg)) (v := .int (R.1 (10, 0, a.toNatClampNeg) 7)) o fl_X16_256 dX16_stamp_41 (gl_30 (gix_lt (Nat.le_trans (hBR 4 0 (by decide)) (by decide)) g1)) rfl rfl ?_
    refine y_iconst (pc := 44) (x := 3) o dX16_stamp_44 (by decide) ?_
    refine y_icmp_lt (pc := 45) (tgt := 82) o dX16_stamp_45 rfl (fun (b5 : (R.1 (10, 0, a.toNatClampNeg) 7) < 3) => ?_) (fun (b5 : ¬ (R.1 (10, 0, a.toNatClampNeg) 7) < 3) => ?_)
    · refine y_iconst (pc := 82) (x := 1) o dX16_stamp_82 (by decide) ?_
      refine y_goto (pc := 83) (tgt := 87) o dX16_stamp_83 rfl ?_
      refine y_iconst (pc := 87) (x := 2) o dX16_stamp_87 (by decide) ?_
      refine z_callV (pc := 88) (k := 0) (n := 0) (k' := 0) (n' := 0) o (b := ad (20, 0, 0)) (As := [.int (1), .int (2)]) (rest := []) (kFailsT hR h5 2 (by decide)) ln_X16_74 dX16_stamp_88 (z_rc (ci := 20) (K := (20, 0, 0)) rfl (gl_20 hR) rfl) rfl rfl (Nat.le_of_ble_eq_true rfl) ⟨by decide, by decide⟩ ⟨rfl, rfl⟩ ⟨by decide, by decide⟩ rfl gq_nox2 ?_
      refine y_if_eq (pc := 91) (tgt := 96) o dX16_stamp_91 rfl (fun b6 => absurd b6 (by decide)) (fun (b6 : ¬ 1 = 0) => ?_)
      refine y_iconst (pc := 94) (x := -1) o dX16_stamp_94 (by decide) ?_
      exact y_iret (pc := 95) o dX16_stamp_95 rfl (vp_nar_int _) (by decide) (by decide) (fun h hp => gP_thr (k := 2) (by simp +decide only [F_stamp, g1, b3, b5, gtc0, gtc1, gtc2, gtc3, gtc4, not_true_eq_false, not_false_eq_true, if_true, if_false, or_true, true_or, or_false, false_or, and_true, true_and, and_false, false_and, or_self, and_self, eq_self, Bool.false_eq_true, ne_eq, reduceIte]) (by decide) hp)
    refine y_aload_n (pc := 48) o dX16_stamp_48 rfl ?_
    refine z_get (pc := 49) (K := (30, 0, a.toNatClampNeg)) (v := .int (R.1 (10, 0, a.toNatClampNeg) 9)) o fl_X16_262 dX16_stamp_49 (gl_30 (gix_lt (Nat.le_trans (hBR 4 0 (by decide)) (by decide)) g1)) rfl rfl ?_
    refine y_iconst (pc := 52) (x := -1) o dX16_stamp_52 (by decide) ?_
    refine y_icmp_ne (pc := 53) (tgt := 82) o dX16_stamp_53 rfl (fun (b7 : ¬ (R.1 (10, 0, a.toNatClampNeg) 9) = (-1)) => ?_) (fun (b7 : (R.1 (10, 0, a.toNatClampNeg) 9) = (-1)) => ?_)
    · refine y_iconst (pc := 82) (x := 1) o dX16_stamp_82 (by decide) ?_
      refine y_goto (pc := 83) (tgt := 87) o dX16_stamp_83 rfl ?_
      refine y_iconst (pc := 87) (x := 2) o dX16_stamp_87 (by decide) ?_
      refine z_callV (pc := 88) (k := 0) (n := 0) (k' := 0) (n' := 0) o (b := ad (20, 0, 0)) (As := [.int (1), .int (2)]) (rest := []) (kFailsT hR h5 2 (by decide)) ln_X16_74 dX16_stamp_88 (z_rc (ci := 20) (K := (20, 0, 0)) rfl (gl_20 hR) rfl) rfl rfl (Nat.le_of_ble_eq_true rfl) ⟨by decide, by decide⟩ ⟨rfl, rfl⟩ ⟨by decide, by decide⟩ rfl gq_nox2 ?_
      refine y_if_eq (pc := 91) (tgt := 96) o dX16_stamp_91 rfl (fun b8 => absurd b8 (by decide)) (fun (b8 : ¬ 1 = 0) => ?_)
      refine y_iconst (pc := 94) (x := -1) o dX16_stamp_94 (by decide) ?_
      exact y_iret (pc := 95) o dX16_stamp_95 rfl (vp_nar_int _) (by decide) (by decide) (fun h hp => gP_thr (k := 2) (by simp +decide only [F_stamp, g1, b3, b5, gm1_f (hI.2.2.2.2.2.1 _ (gix_lt (Nat.le_trans (hBR 4 0 (by decide)) (by decide)) g1)).2.2.2.2.1 b7, gtc0, gtc1, gtc2, gtc3, gtc4, not_true_eq_false, not_false_eq_true, if_true, if_false, or_true, true_or, or_false, false_or, and_true, true_and, and_false, false_and, or_self, and_self, eq_self, Bool.false_eq_true, ne_eq, reduceIte]) (by decide) hp)
    refine y_aload_n (pc := 56) o dX16_stamp_56 rfl ?_
    refine z_get (pc := 57) (K := (20, 0, 0)) (v := .int (R.1 (0, 0, 0) 0)) o fl_X16_78 dX16_stamp_57 (gl_20 hR) rfl rfl ?_
    refine y_aload_n (pc := 60) o dX16_stamp_60 rfl ?_
    refine z_get (pc := 61) (K := (20, 0, 0)) (v := .ref (ad (24, 2, 0))) o fl_X16_51 dX16_stamp_61 (gl_20 hR) rfl rfl ?_
    refine y_aload_n (pc := 64) o dX16_stamp_64 rfl ?_
    refine z_get (pc := 65) (K := (30, 0, a.toNatClampNeg)) (v := .int (R.1 (10, 0, a.toNatClampNeg) 0)) o fl_X16_240 dX16_stamp_65 (gl_30 (gix_lt (Nat.le_trans (hBR 4 0 (by decide)) (by decide)) g1)) rfl rfl ?_
    refine z_callF (pc := 68) (k := 0) (n := 0) (k' := 0) (n' := 0) (ci := 3) o (b := ad (24, 2, 0)) (As := [.int (R.1 (10, 0, a.toNatClampNeg) 0)]) (rest := [.int (R.1 (0, 0, 0) 0), .ref (ad (20, 0, 0))]) (getR (l := 2) (g := 0) (gl_24_2 hR) (hBR 2 0 (by decide)) (hI.2.2.2.2.2.1 _ (gix_lt (Nat.le_trans (hBR 4 0 (by decide)) (by decide)) g1)).1) rfl lf_X16_114 dX16_stamp_68 (fun h hr => ⟨_, ghdr_R (R := R) (gl_24_2 hR) hr⟩) rfl rfl (Nat.le_of_ble_eq_true rfl) ⟨by decide, by decide⟩ ⟨rfl, rfl⟩ ⟨by decide, by decide⟩ ?_
    refine z_cast (pc := 73) (ci := 16) (K := (28, 0, (R.1 (10, 0, a.toNatClampNeg) 0).toNatClampNeg)) o rfl qw_1452 dX16_stamp_73 (gl_28 (gix_lt (Nat.le_trans (hBR 2 0 (by decide)) (by decide)) (hI.2.2.2.2.2.1 _ (gix_lt (Nat.le_trans (hBR 4 0 (by decide)) (by decide)) g1)).1)) rfl ?_
    refine z_get (pc := 76) (K := (28, 0, (R.1 (10, 0, a.toNatClampNeg) 0).toNatClampNeg)) (v := .int (R.1 (8, 0, (R.1 (10, 0, a.toNatClampNeg) 0).toNatClampNeg) 4)) o fl_X16_152 dX16_stamp_76 (gl_28 (gix_lt (Nat.le_trans (hBR 2 0 (by decide)) (by decide)) (hI.2.2.2.2.2.1 _ (gix_lt (Nat.le_trans (hBR 4 0 (by decide)) (by decide)) g1)).1)) rfl rfl ?_
    refine z_icmp_ge (pc := 79) (tgt := 86) o dX16_stamp_79 rfl (fun (b9 : ¬ (R.1 (0, 0, 0) 0) < (R.1 (8, 0, (R.1 (10, 0, a.toNatClampNeg) 0).toNatClampNeg) 4)) => ?_) (fun (b9 : (R.1 (0, 0, 0) 0) < (R.1 (8, 0, (R.1 (10, 0, a.toNatClampNeg) 0).toNatClampNeg) 4)) => ?_)
    · refine y_iconst (pc := 86) (x := 0) o dX16_stamp_86 (by decide) ?_
      refine y_iconst (pc := 87) (x := 2) o dX16_stamp_87 (by decide) ?_
      refine z_callV (pc := 88) (k := 0) (n := 0) (k' := 0) (n' := 0) o (b := ad (20, 0, 0)) (As := [.int (0), .int (2)]) (rest := []) (kFailsF hR h5 2) ln_X16_74 dX16_stamp_88 (z_rc (ci := 20) (K := (20, 0, 0)) rfl (gl_20 hR) rfl) rfl rfl (Nat.le_of_ble_eq_true rfl) ⟨by decide, by decide⟩ ⟨rfl, rfl⟩ ⟨by decide, by decide⟩ rfl gq_nox2 ?_
      refine y_if_eq (pc := 91) (tgt := 96) o dX16_stamp_91 rfl (fun (b10 : 0 = 0) => ?_) (fun b10 => absurd b10 (by rw [b2]; decide))
      refine y_aload_n (pc := 96) o dX16_stamp_96 rfl ?_
      refine y_aload_n (pc := 97) o dX16_stamp_97 rfl ?_
      refine y_aload_n (pc := 98) o dX16_stamp_98 rfl ?_
      refine z_get (pc := 99) (K := (20, 0, 0)) (v := .ref (ad (24, 2, 0))) o fl_X16_51 dX16_stamp_99 (gl_20 hR) rfl rfl ?_
      refine y_aload_n (pc := 102) o dX16_stamp_102 rfl ?_
      refine z_get (pc := 103) (K := (30, 0, a.toNatClampNeg)) (v := .int (R.1 (10, 0, a.toNatClampNeg) 0)) o fl_X16_240 dX16_stamp_103 (gl_30 (gix_lt (Nat.le_trans (hBR 4 0 (by decide)) (by decide)) g1)) rfl rfl ?_
      refine z_callF (pc := 106) (k := 0) (n := 0) (k' := 0) (n' := 0) (ci := 3) o (b := ad (24, 2, 0)) (As := [.int (R.1 (10, 0, a.toNatClampNeg) 0)]) (rest := [.ref (ad (20, 0, 0)), .ref (ad (30, 0, a.toNatClampNeg))]) (getR (l := 2) (g := 0) (gl_24_2 hR) (hBR 2 0 (by decide)) (hI.2.2.2.2.2.1 _ (gix_lt (Nat.le_trans (hBR 4 0 (by decide)) (by decide)) g1)).1) rfl lf_X16_114 dX16_stamp_106 (fun h hr => ⟨_, ghdr_R (R := R) (gl_24_2 hR) hr⟩) rfl rfl (Nat.le_of_ble_eq_true rfl) ⟨by decide, by decide⟩ ⟨rfl, rfl⟩ ⟨by decide, by decide⟩ ?_
      refine z_cast (pc := 111) (ci := 16) (K := (28, 0, (R.1 (10, 0, a.toNatClampNeg) 0).toNatClampNeg)) o rfl qw_1452 dX16_stamp_111 (gl_28 (gix_lt (Nat.le_trans (hBR 2 0 (by decide)) (by decide)) (hI.2.2.2.2.2.1 _ (gix_lt (Nat.le_trans (hBR 4 0 (by decide)) (by decide)) g1)).1)) rfl ?_
      refine z_callV (pc := 114) (k := 0) (n := 0) (k' := 0) (n' := 0) o (b := ad (20, 0, 0)) (As := [.ref (ad (28, 0, (R.1 (10, 0, a.toNatClampNeg) 0).toNatClampNeg))]) (rest := [.ref (ad (30, 0, a.toNatClampNeg))]) (kTellR hR ((R.1 (10, 0, a.toNatClampNeg) 0).toNatClampNeg) (gix_lt (Nat.le_trans (hBR 2 0 (by decide)) (by decide)) (hI.2.2.2.2.2.1 _ (gix_lt (Nat.le_trans (hBR 4 0 (by decide)) (by decide)) g1)).1) (hI.2.2.2.2.1 _ (gix_lt (Nat.le_trans (hBR 2 0 (by decide)) (by decide)) (hI.2.2.2.2.2.1 _ (gix_lt (Nat.le_trans (hBR 4 0 (by decide)) (by decide)) g1)).1)).2.1 (gbias hI hn) hI.2.2.1.2.2.2.1 hI.2.2.1.2.2.2.2) ln_X16_198 dX16_stamp_114 (z_rc (ci := 20) (K := (20, 0, 0)) rfl (gl_20 hR) rfl) rfl rfl (Nat.le_of_ble_eq_true rfl) ⟨by decide, by decide⟩ ⟨rfl, rfl⟩ ⟨by decide, by decide⟩ rfl gq_nox2 ?_
      refine y_bipush (pc := 117) (x := 50) o dX16_stamp_117 (by decide) ?_
      refine y_idiv (pc := 119) o dX16_stamp_119 (by decide) ?_
      refine z_putR (pc := 120) (K := (30, 0, a.toNatClampNeg)) (fd := 9) (x := (gclamp (R.1 (8, 0, (R.1 (10, 0, a.toNatClampNeg) 0).toNatClampNeg) 10 + R.1 (2, 0, 0) 0) 0 999) / 50) (B := (10, 0, a.toNatClampNeg)) o fw_X16_262 dX16_stamp_120 (gl_30 (gix_lt (Nat.le_trans (hBR 4 0 (by decide)) (by decide)) g1)) (show 24 ≤ (30:Nat) by decide) rfl rfl (Nat.le_of_ble_eq_true rfl) (vp_nar_int _) rfl rfl pR_30_9 ?_
      refine y_aload_n (pc := 123) o dX16_stamp_123 rfl ?_
      refine z_get (pc := 124) (K := (30, 0, a.toNatClampNeg)) (v := .int ((gup (gtell R) (10, 0, a.toNatClampNeg) 9 ((gclamp (R.1 (8, 0, (R.1 (10, 0, a.toNatClampNeg) 0).toNatClampNeg) 10 + R.1 (2, 0, 0) 0) 0 999) / 50)).1 (10, 0, a.toNatClampNeg) 9)) o fl_X16_262 dX16_stamp_124 (gl_30 (gix_lt (Nat.le_trans (hBR 4 0 (by decide)) (by decide)) g1)) rfl rfl ?_
      refine z_top (congrArg Value.int (gup_v _ _ _ _)) ?_
      exact y_iret (pc := 127) o dX16_stamp_127 rfl (vp_nar_int _) (by decide) (by decide) (fun h hp => gP_mk (by simp +decide only [F_stamp, g1, b3, b5, gm1_t b7, b9, gtc0, gtc1, gtc2, gtc3, gtc4, not_true_eq_false, not_false_eq_true, if_true, if_false, or_true, true_or, or_false, false_or, and_true, true_and, and_false, false_and, or_self, and_self, eq_self, Bool.false_eq_true, ne_eq, reduceIte]) rfl rfl hp)
    refine y_iconst (pc := 82) (x := 1) o dX16_stamp_82 (by decide) ?_
    refine y_goto (pc := 83) (tgt := 87) o dX16_stamp_83 rfl ?_
    refine y_iconst (pc := 87) (x := 2) o dX16_stamp_87 (by decide) ?_
    refine z_callV (pc := 88) (k := 0) (n := 0) (k' := 0) (n' := 0) o (b := ad (20, 0, 0)) (As := [.int (1), .int (2)]) (rest := []) (kFailsT hR h5 2 (by decide)) ln_X16_74 dX16_stamp_88 (z_rc (ci := 20) (K := (20, 0, 0)) rfl (gl_20 hR) rfl) rfl rfl (Nat.le_of_ble_eq_true rfl) ⟨by decide, by decide⟩ ⟨rfl, rfl⟩ ⟨by decide, by decide⟩ rfl gq_nox2 ?_
    refine y_if_eq (pc := 91) (tgt := 96) o dX16_stamp_91 rfl (fun b11 => absurd b11 (by decide)) (fun (b11 : ¬ 1 = 0) => ?_)
    refine y_iconst (pc := 94) (x := -1) o dX16_stamp_94 (by decide) ?_
    exact y_iret (pc := 95) o dX16_stamp_95 rfl (vp_nar_int _) (by decide) (by decide) (fun h hp => gP_thr (k := 2) (by simp +decide only [F_stamp, g1, b3, b5, gm1_t b7, b9, gtc0, gtc1, gtc2, gtc3, gtc4, not_true_eq_false, not_false_eq_true, if_true, if_false, or_true, true_or, or_false, false_or, and_true, true_and, and_false, false_and, or_self, and_self, eq_self, Bool.false_eq_true, ne_eq, reduceIte]) (by decide) hp)
  refine z_callV (pc := 6) (k := 0) (n := 0) (k' := 0) (n' := 0) o (b := ad (20, 0, 0)) (As := [.int (a)]) (rest := []) (knoRunT hR hBR h5 a g1) ln_X16_253 dX16_stamp_6 (z_rc (ci := 20) (K := (20, 0, 0)) rfl (gl_20 hR) rfl) rfl rfl (Nat.le_of_ble_eq_true rfl) ⟨by decide, by decide⟩ ⟨rfl, rfl⟩ ⟨by decide, by decide⟩ rfl gq_nox2 ?_
  refine y_if_eq (pc := 9) (tgt := 14) o dX16_stamp_9 rfl (fun b12 => absurd b12 (by decide)) (fun (b12 : ¬ 1 = 0) => ?_)
  refine y_iconst (pc := 12) (x := -1) o dX16_stamp_12 (by decide) ?_
  exact y_iret (pc := 13) o dX16_stamp_13 rfl (vp_nar_int _) (by decide) (by decide) (fun h hp => gP_thr (k := 1) (by simp +decide only [F_stamp, g1, gtc0, gtc1, gtc2, gtc3, gtc4, not_true_eq_false, not_false_eq_true, if_true, if_false, or_true, true_or, or_false, false_or, and_true, true_and, and_false, false_and, or_self, and_self, eq_self, Bool.false_eq_true, ne_eq, reduceIte]) (by decide) hp)

theorem r_erase {κ : gq_K} {ad : gKey → Nat} {C Rp R : gG} {T : List (Nat × va_E)} {n : Nat} (hb : gup Rp (0, 0, 0) 5 0 = R) (hI : gI n R) (hn : n ≤ 512) (a : Int32) (b : Int32) : gq_C κ mX16_erase [.ref (ad (20, 0, 0)), .int (a), .int (b)] (gR κ ad (C, Rp) T) (gP κ ad C T (F_erase R a b)) (gq_no) := by
  refine gq_enter (by decide +kernel) rfl (Nat.le_of_ble_eq_true rfl) rfl (fun f o => ?_)
  have hR := hI.fix
  have hBR := hI.cnt
  have hRp : gfix Rp.2 := by rw [← hb] at hR; exact hR
  have h5 : R.1 (0, 0, 0) 5 = 0 := by rw [← hb]; exact gup_v _ _ _ _
  refine y_aload_n (pc := 0) o dX16_erase_0 rfl ?_
  refine z_callVv (pc := 1) (k := 0) (n := 0) (k' := 0) (n' := 0) o (b := ad (20, 0, 0)) (As := []) (rest := []) (kBegins hRp) ln_X16_69 dX16_erase_1 (z_rc (ci := 20) (K := (20, 0, 0)) rfl (gl_20 hRp) rfl) rfl rfl (Nat.le_of_ble_eq_true rfl) ⟨by decide, by decide⟩ ⟨rfl, rfl⟩ ⟨by decide, by decide⟩ rfl gq_nox2 ?_
  rw [hb]
  refine y_aload_n (pc := 4) o dX16_erase_4 rfl ?_
  refine y_iload_n (pc := 5) o dX16_erase_5 rfl ?_
  by_cases g1 : gix (R.2 10 0) a = true
  · refine z_callV (pc := 6) (k := 0) (n := 0) (k' := 0) (n' := 0) o (b := ad (20, 0, 0)) (As := [.int (a)]) (rest := []) (knoRunF hR hBR h5 a g1) ln_X16_253 dX16_erase_6 (z_rc (ci := 20) (K := (20, 0, 0)) rfl (gl_20 hR) rfl) rfl rfl (Nat.le_of_ble_eq_true rfl) ⟨by decide, by decide⟩ ⟨rfl, rfl⟩ ⟨by decide, by decide⟩ rfl gq_nox2 ?_
    refine y_if_ne (pc := 9) (tgt := 89) o dX16_erase_9 rfl (fun b2 => absurd b2 (by decide)) (fun (b2 : 0 = 0) => ?_)
    refine y_aload_n (pc := 12) o dX16_erase_12 rfl ?_
    refine y_iload_n (pc := 13) o dX16_erase_13 rfl ?_
    refine y_i2l (pc := 14) o dX16_erase_14 ?_
    refine y_lconst (pc := 15) (x := 0) o dX16_erase_15 (by decide) ?_
    refine y_ldc2 (pc := 16) o dX16_erase_16 qw_1401 ?_
    refine z_callS (pc := 19) (k := 0) (n := 0) (k' := 0) (n' := 0) o (As := [.long (b.toInt64), .long (0), .long (9)]) (rest := [.ref (ad (20, 0, 0))]) (kIn b 0 9) ln_X16_13 dX16_erase_19 rfl rfl (Nat.le_of_ble_eq_true rfl) ⟨by decide, by decide⟩ ⟨rfl, rfl⟩ ⟨by decide, by decide⟩ rfl gq_nox2 ?_
    refine z_bne (pc := 22) (tgt := 29) o dX16_erase_22 rfl (fun (b3 : gin 0 b 9 = true) => ?_) (fun (b3 : ¬ (gin 0 b 9 = true)) => ?_)
    · refine y_iconst (pc := 29) (x := 0) o dX16_erase_29 (by decide) ?_
      refine y_iconst (pc := 30) (x := 2) o dX16_erase_30 (by decide) ?_
      refine z_callV (pc := 31) (k := 0) (n := 0) (k' := 0) (n' := 0) o (b := ad (20, 0, 0)) (As := [.int (0), .int (2)]) (rest := []) (kFailsF hR h5 2) ln_X16_74 dX16_erase_31 (z_rc (ci := 20) (K := (20, 0, 0)) rfl (gl_20 hR) rfl) rfl rfl (Nat.le_of_ble_eq_true rfl) ⟨by decide, by decide⟩ ⟨rfl, rfl⟩ ⟨by decide, by decide⟩ rfl gq_nox2 ?_
      refine y_if_ne (pc := 34) (tgt := 89) o dX16_erase_34 rfl (fun b4 => absurd b4 (by rw [b2]; decide)) (fun (b4 : 0 = 0) => ?_)
      refine y_aload_n (pc := 37) o dX16_erase_37 rfl ?_
      refine y_aload_n (pc := 38) o dX16_erase_38 rfl ?_
      refine z_get (pc := 39) (K := (20, 0, 0)) (v := .ref (ad (24, 4, 0))) o fl_X16_57 dX16_erase_39 (gl_20 hR) rfl rfl ?_
      refine y_iload_n (pc := 42) o dX16_erase_42 rfl ?_
      refine z_callF (pc := 43) (k := 0) (n := 0) (k' := 0) (n' := 0) (ci := 3) o (b := ad (24, 4, 0)) (As := [.int (a)]) (rest := [.ref (ad (20, 0, 0))]) (getR (l := 4) (g := 0) (gl_24_4 hR) (hBR 4 0 (by decide)) g1) rfl lf_X16_114 dX16_erase_43 (fun h hr => ⟨_, ghdr_R (R := R) (gl_24_4 hR) hr⟩) rfl rfl (Nat.le_of_ble_eq_true rfl) ⟨by decide, by decide⟩ ⟨rfl, rfl⟩ ⟨by decide, by decide⟩ ?_
      refine z_cast (pc := 48) (ci := 18) (K := (30, 0, a.toNatClampNeg)) o rfl qw_1601 dX16_erase_48 (gl_30 (gix_lt (Nat.le_trans (hBR 4 0 (by decide)) (by decide)) g1)) rfl ?_
      refine z_get (pc := 51) (K := (30, 0, a.toNatClampNeg)) (v := .int (R.1 (10, 0, a.toNatClampNeg) 9)) o fl_X16_262 dX16_erase_51 (gl_30 (gix_lt (Nat.le_trans (hBR 4 0 (by decide)) (by decide)) g1)) rfl rfl ?_
      refine y_iconst (pc := 54) (x := -1) o dX16_erase_54 (by decide) ?_
      refine y_icmp_eq (pc := 55) (tgt := 77) o dX16_erase_55 rfl (fun (b5 : (R.1 (10, 0, a.toNatClampNeg) 9) = (-1)) => ?_) (fun (b5 : ¬ (R.1 (10, 0, a.toNatClampNeg) 9) = (-1)) => ?_)
      · refine y_iconst (pc := 77) (x := 1) o dX16_erase_77 (by decide) ?_
        refine y_goto (pc := 78) (tgt := 82) o dX16_erase_78 rfl ?_
        refine y_iconst (pc := 82) (x := 3) o dX16_erase_82 (by decide) ?_
        refine z_callV (pc := 83) (k := 0) (n := 0) (k' := 0) (n' := 0) o (b := ad (20, 0, 0)) (As := [.int (1), .int (3)]) (rest := []) (kFailsT hR h5 3 (by decide)) ln_X16_74 dX16_erase_83 (z_rc (ci := 20) (K := (20, 0, 0)) rfl (gl_20 hR) rfl) rfl rfl (Nat.le_of_ble_eq_true rfl) ⟨by decide, by decide⟩ ⟨rfl, rfl⟩ ⟨by decide, by decide⟩ rfl gq_nox2 ?_
        refine y_if_eq (pc := 86) (tgt := 91) o dX16_erase_86 rfl (fun b6 => absurd b6 (by decide)) (fun (b6 : ¬ 1 = 0) => ?_)
        refine y_iconst (pc := 89) (x := -1) o dX16_erase_89 (by decide) ?_
        exact y_iret (pc := 90) o dX16_erase_90 rfl (vp_nar_int _) (by decide) (by decide) (fun h hp => gP_thr (k := 3) (by simp +decide only [F_erase, g1, b3, gm1_t b5, gtc0, gtc1, gtc2, gtc3, gtc4, not_true_eq_false, not_false_eq_true, if_true, if_false, or_true, true_or, or_false, false_or, and_true, true_and, and_false, false_and, or_self, and_self, eq_self, Bool.false_eq_true, ne_eq, reduceIte]) (by decide) hp)
      refine y_aload_n (pc := 58) o dX16_erase_58 rfl ?_
      refine z_get (pc := 59) (K := (20, 0, 0)) (v := .ref (ad (24, 4, 0))) o fl_X16_57 dX16_erase_59 (gl_20 hR) rfl rfl ?_
      refine y_iload_n (pc := 62) o dX16_erase_62 rfl ?_
      refine z_callF (pc := 63) (k := 0) (n := 0) (k' := 0) (n' := 0) (ci := 3) o (b := ad (24, 4, 0)) (As := [.int (a)]) (rest := [.ref (ad (20, 0, 0))]) (getR (l := 4) (g := 0) (gl_24_4 hR) (hBR 4 0 (by decide)) g1) rfl lf_X16_114 dX16_erase_63 (fun h hr => ⟨_, ghdr_R (R := R) (gl_24_4 hR) hr⟩) rfl rfl (Nat.le_of_ble_eq_true rfl) ⟨by decide, by decide⟩ ⟨rfl, rfl⟩ ⟨by decide, by decide⟩ ?_
      refine z_cast (pc := 68) (ci := 18) (K := (30, 0, a.toNatClampNeg)) o rfl qw_1601 dX16_erase_68 (gl_30 (gix_lt (Nat.le_trans (hBR 4 0 (by decide)) (by decide)) g1)) rfl ?_
      refine z_get (pc := 71) (K := (30, 0, a.toNatClampNeg)) (v := .int (R.1 (10, 0, a.toNatClampNeg) 10)) o fl_X16_265 dX16_erase_71 (gl_30 (gix_lt (Nat.le_trans (hBR 4 0 (by decide)) (by decide)) g1)) rfl rfl ?_
      refine y_if_eq (pc := 74) (tgt := 81) o dX16_erase_74 rfl (fun (b7 : (R.1 (10, 0, a.toNatClampNeg) 10) = 0) => ?_) (fun (b7 : ¬ (R.1 (10, 0, a.toNatClampNeg) 10) = 0) => ?_)
      · refine y_iconst (pc := 81) (x := 0) o dX16_erase_81 (by decide) ?_
        refine y_iconst (pc := 82) (x := 3) o dX16_erase_82 (by decide) ?_
        refine z_callV (pc := 83) (k := 0) (n := 0) (k' := 0) (n' := 0) o (b := ad (20, 0, 0)) (As := [.int (0), .int (3)]) (rest := []) (kFailsF hR h5 3) ln_X16_74 dX16_erase_83 (z_rc (ci := 20) (K := (20, 0, 0)) rfl (gl_20 hR) rfl) rfl rfl (Nat.le_of_ble_eq_true rfl) ⟨by decide, by decide⟩ ⟨rfl, rfl⟩ ⟨by decide, by decide⟩ rfl gq_nox2 ?_
        refine y_if_eq (pc := 86) (tgt := 91) o dX16_erase_86 rfl (fun (b8 : 0 = 0) => ?_) (fun b8 => absurd b8 (by rw [b2]; decide))
        refine y_aload_n (pc := 91) o dX16_erase_91 rfl ?_
        refine z_get (pc := 92) (K := (20, 0, 0)) (v := .ref (ad (24, 4, 0))) o fl_X16_57 dX16_erase_92 (gl_20 hR) rfl rfl ?_
        refine y_iload_n (pc := 95) o dX16_erase_95 rfl ?_
        refine z_callF (pc := 96) (k := 0) (n := 0) (k' := 0) (n' := 0) (ci := 3) o (b := ad (24, 4, 0)) (As := [.int (a)]) (rest := []) (getR (l := 4) (g := 0) (gl_24_4 hR) (hBR 4 0 (by decide)) g1) rfl lf_X16_114 dX16_erase_96 (fun h hr => ⟨_, ghdr_R (R := R) (gl_24_4 hR) hr⟩) rfl rfl (Nat.le_of_ble_eq_true rfl) ⟨by decide, by decide⟩ ⟨rfl, rfl⟩ ⟨by decide, by decide⟩ ?_
        refine z_cast (pc := 101) (ci := 18) (K := (30, 0, a.toNatClampNeg)) o rfl qw_1601 dX16_erase_101 (gl_30 (gix_lt (Nat.le_trans (hBR 4 0 (by decide)) (by decide)) g1)) rfl ?_
        refine y_iconst (pc := 104) (x := 1) o dX16_erase_104 (by decide) ?_
        refine z_putR (pc := 105) (K := (30, 0, a.toNatClampNeg)) (fd := 10) (x := 1) (B := (10, 0, a.toNatClampNeg)) o fw_X16_265 dX16_erase_105 (gl_30 (gix_lt (Nat.le_trans (hBR 4 0 (by decide)) (by decide)) g1)) (show 24 ≤ (30:Nat) by decide) rfl rfl (Nat.le_of_ble_eq_true rfl) rfl rfl rfl pR_30_10 ?_
        refine y_aload_n (pc := 108) o dX16_erase_108 rfl ?_
        refine z_get (pc := 109) (K := (20, 0, 0)) (v := .ref (ad (24, 4, 0))) o fl_X16_57 dX16_erase_109 (gl_20 hR) rfl rfl ?_
        refine y_iload_n (pc := 112) o dX16_erase_112 rfl ?_
        refine z_callF (pc := 113) (k := 0) (n := 0) (k' := 0) (n' := 0) (ci := 3) o (b := ad (24, 4, 0)) (As := [.int (a)]) (rest := []) (getR (l := 4) (g := 0) (gl_24_4 hR) (hBR 4 0 (by decide)) g1) rfl lf_X16_114 dX16_erase_113 (fun h hr => ⟨_, ghdr_R (R := (gup R (10, 0, a.toNatClampNeg) 10 1)) (gl_24_4 hR) hr⟩) rfl rfl (Nat.le_of_ble_eq_true rfl) ⟨by decide, by decide⟩ ⟨rfl, rfl⟩ ⟨by decide, by decide⟩ ?_
        refine z_cast (pc := 118) (ci := 18) (K := (30, 0, a.toNatClampNeg)) o rfl qw_1601 dX16_erase_118 (gl_30 (gix_lt (Nat.le_trans (hBR 4 0 (by decide)) (by decide)) g1)) rfl ?_
        refine z_get (pc := 121) (K := (30, 0, a.toNatClampNeg)) (v := .int ((gup R (10, 0, a.toNatClampNeg) 10 1).1 (10, 0, a.toNatClampNeg) 3)) o fl_X16_248 dX16_erase_121 (gl_30 (gix_lt (Nat.le_trans (hBR 4 0 (by decide)) (by decide)) g1)) rfl rfl ?_
        refine z_top (congrArg Value.int (gup_vf _ (show (3:Nat) ≠ 10 by decide))) ?_
        exact y_iret (pc := 124) o dX16_erase_124 rfl (vp_nar_int _) (by decide) (by decide) (fun h hp => gP_mk (by simp +decide only [F_erase, g1, b3, gm1_f (hI.2.2.2.2.2.1 _ (gix_lt (Nat.le_trans (hBR 4 0 (by decide)) (by decide)) g1)).2.2.2.2.1 b5, b7, gtc0, gtc1, gtc2, gtc3, gtc4, not_true_eq_false, not_false_eq_true, if_true, if_false, or_true, true_or, or_false, false_or, and_true, true_and, and_false, false_and, or_self, and_self, eq_self, Bool.false_eq_true, ne_eq, reduceIte]) rfl rfl hp)
      refine y_iconst (pc := 77) (x := 1) o dX16_erase_77 (by decide) ?_
      refine y_goto (pc := 78) (tgt := 82) o dX16_erase_78 rfl ?_
      refine y_iconst (pc := 82) (x := 3) o dX16_erase_82 (by decide) ?_
      refine z_callV (pc := 83) (k := 0) (n := 0) (k' := 0) (n' := 0) o (b := ad (20, 0, 0)) (As := [.int (1), .int (3)]) (rest := []) (kFailsT hR h5 3 (by decide)) ln_X16_74 dX16_erase_83 (z_rc (ci := 20) (K := (20, 0, 0)) rfl (gl_20 hR) rfl) rfl rfl (Nat.le_of_ble_eq_true rfl) ⟨by decide, by decide⟩ ⟨rfl, rfl⟩ ⟨by decide, by decide⟩ rfl gq_nox2 ?_
      refine y_if_eq (pc := 86) (tgt := 91) o dX16_erase_86 rfl (fun b9 => absurd b9 (by decide)) (fun (b9 : ¬ 1 = 0) => ?_)
      refine y_iconst (pc := 89) (x := -1) o dX16_erase_89 (by decide) ?_
      exact y_iret (pc := 90) o dX16_erase_90 rfl (vp_nar_int _) (by decide) (by decide) (fun h hp => gP_thr (k := 3) (by simp +decide only [F_erase, g1, b3, gm1_f (hI.2.2.2.2.2.1 _ (gix_lt (Nat.le_trans (hBR 4 0 (by decide)) (by decide)) g1)).2.2.2.2.1 b5, b7, gtc0, gtc1, gtc2, gtc3, gtc4, not_true_eq_false, not_false_eq_true, if_true, if_false, or_true, true_or, or_false, false_or, and_true, true_and, and_false, false_and, or_self, and_self, eq_self, Bool.false_eq_true, ne_eq, reduceIte]) (by decide) hp)
    refine y_iconst (pc := 25) (x := 1) o dX16_erase_25 (by decide) ?_
    refine y_goto (pc := 26) (tgt := 30) o dX16_erase_26 rfl ?_
    refine y_iconst (pc := 30) (x := 2) o dX16_erase_30 (by decide) ?_
    refine z_callV (pc := 31) (k := 0) (n := 0) (k' := 0) (n' := 0) o (b := ad (20, 0, 0)) (As := [.int (1), .int (2)]) (rest := []) (kFailsT hR h5 2 (by decide)) ln_X16_74 dX16_erase_31 (z_rc (ci := 20) (K := (20, 0, 0)) rfl (gl_20 hR) rfl) rfl rfl (Nat.le_of_ble_eq_true rfl) ⟨by decide, by decide⟩ ⟨rfl, rfl⟩ ⟨by decide, by decide⟩ rfl gq_nox2 ?_
    refine y_if_ne (pc := 34) (tgt := 89) o dX16_erase_34 rfl (fun (b10 : ¬ 1 = 0) => ?_) (fun b10 => absurd b10 (by decide))
    refine y_iconst (pc := 89) (x := -1) o dX16_erase_89 (by decide) ?_
    exact y_iret (pc := 90) o dX16_erase_90 rfl (vp_nar_int _) (by decide) (by decide) (fun h hp => gP_thr (k := 2) (by simp +decide only [F_erase, g1, b3, gtc0, gtc1, gtc2, gtc3, gtc4, not_true_eq_false, not_false_eq_true, if_true, if_false, or_true, true_or, or_false, false_or, and_true, true_and, and_false, false_and, or_self, and_self, eq_self, Bool.false_eq_true, ne_eq, reduceIte]) (by decide) hp)
  refine z_callV (pc := 6) (k := 0) (n := 0) (k' := 0) (n' := 0) o (b := ad (20, 0, 0)) (As := [.int (a)]) (rest := []) (knoRunT hR hBR h5 a g1) ln_X16_253 dX16_erase_6 (z_rc (ci := 20) (K := (20, 0, 0)) rfl (gl_20 hR) rfl) rfl rfl (Nat.le_of_ble_eq_true rfl) ⟨by decide, by decide⟩ ⟨rfl, rfl⟩ ⟨by decide, by decide⟩ rfl gq_nox2 ?_
  refine y_if_ne (pc := 9) (tgt := 89) o dX16_erase_9 rfl (fun (b11 : ¬ 1 = 0) => ?_) (fun b11 => absurd b11 (by decide))
  refine y_iconst (pc := 89) (x := -1) o dX16_erase_89 (by decide) ?_
  exact y_iret (pc := 90) o dX16_erase_90 rfl (vp_nar_int _) (by decide) (by decide) (fun h hp => gP_thr (k := 1) (by simp +decide only [F_erase, g1, gtc0, gtc1, gtc2, gtc3, gtc4, not_true_eq_false, not_false_eq_true, if_true, if_false, or_true, true_or, or_false, false_or, and_true, true_and, and_false, false_and, or_self, and_self, eq_self, Bool.false_eq_true, ne_eq, reduceIte]) (by decide) hp)

end Z29
