
section Z19
variable {κ : gq_K} {ad ad' : gKey → Nat} {C C' R : gG} {T : List (Nat × va_E)} {h : gq_H}
theorem gdrv_nar {ad : gKey → Nat} {x : Int32} {n : String} : narrow (.object n) (gdrv ad x) = gdrv ad x := by
  unfold gdrv
  split <;> rfl
theorem gdrv_fit {ad : gKey → Nat} {x : Int32} {n : String} : fits (.object n) (gdrv ad x) = true := by
  unfold gdrv
  split <;> rfl
theorem rC_3 {N : Nat → Nat → Nat} {r : Nat → Int32} {x : Int32} {g i : Nat} : grefC N (grup r 1 x) (3, g, i) = if x = -1 then [] else [(3, 0, x.toNatClampNeg)] := rfl
theorem gnm_ch {i : Nat} : narrow .char (.int (gnm i)) = .int (gnm i) := by
  unfold gnm
  repeat' split
  all_goals decide
theorem gmi_inj {a b : Int32} (ha : ¬ gmi a = -1) (hb : ¬ gmi b = -1) (h : (gmi a).toNatClampNeg = (gmi b).toNatClampNeg) : a = b := by
  unfold gmi at ha hb h
  repeat' split at h
  all_goals first | (subst_vars; rfl) | (exfalso; revert h; decide) | (exfalso; simp_all)
theorem gmi45 : gmi 45 = -1 := by decide

theorem gnew_lt (C : gG) {a g n : Nat} (row : Nat → Int32) (hn : C.2 a g = n := by rfl) : n < (gnew C (a, g, n) row).2 a g := by
  rw [gnew_n, hn]
  omega
def F_belt (C : gG) (a b : Int32) : gF := if gmi a = -1 then gthr C 1 else if b = 45 then (0, if C.1 (3, 0, (gmi a).toNatClampNeg) 1 = -1 then 45 else gnm (C.1 (3, 0, (gmi a).toNatClampNeg) 1).toNatClampNeg, gup C (3, 0, (gmi a).toNatClampNeg) 1 (-1)) else if gmi b = -1 then gthr C 1 else if a = b then gthr C 1 else if ghang C (gmi a).toNatClampNeg 4 (gmi b).toNatClampNeg = true then gthr C 2 else (0, if C.1 (3, 0, (gmi a).toNatClampNeg) 1 = -1 then 45 else gnm (C.1 (3, 0, (gmi a).toNatClampNeg) 1).toNatClampNeg, gup C (3, 0, (gmi a).toNatClampNeg) 1 (gmi b))
def F_pack (C : gG) (a b c : Int32) : gF := if ¬ gix (C.2 11 0) a = true then gthr C 1 else if ¬ gix (C.2 10 0) b = true then gthr C 1 else if ¬ gin 1 c 144 = true then gthr C 2 else if ¬ C.1 (10, 0, b.toNatClampNeg) 9 = C.1 (11, 0, a.toNatClampNeg) 0 ∨ C.1 (0, 0, 0) 0 < C.1 (10, 0, b.toNatClampNeg) 6 ∨ C.1 (10, 0, b.toNatClampNeg) 3 < c then gthr C 3 else if 144 < C.1 (11, 0, a.toNatClampNeg) 1 + c ∨ ¬ C.1 (11, 0, a.toNatClampNeg) 2 = 0 then gthr C 3 else (0, ((gnew (gup (gup C (10, 0, b.toNatClampNeg) 3 ((C.1 (10, 0, b.toNatClampNeg) 3) - c)) (10, 0, b.toNatClampNeg) 4 ((C.1 (10, 0, b.toNatClampNeg) 4) - (c - (gmin c ((C.1 (10, 0, b.toNatClampNeg) 3) - (C.1 (10, 0, b.toNatClampNeg) 4)))))) (13, a.toNatClampNeg, (C.2 13 a.toNatClampNeg)) ((glist [b, c, c - gmin c (C.1 (10, 0, b.toNatClampNeg) 3 - C.1 (10, 0, b.toNatClampNeg) 4)]))).1 (11, 0, a.toNatClampNeg) 1) + ((gnew (gup (gup C (10, 0, b.toNatClampNeg) 3 ((C.1 (10, 0, b.toNatClampNeg) 3) - c)) (10, 0, b.toNatClampNeg) 4 ((C.1 (10, 0, b.toNatClampNeg) 4) - (c - (gmin c ((C.1 (10, 0, b.toNatClampNeg) 3) - (C.1 (10, 0, b.toNatClampNeg) 4)))))) (13, a.toNatClampNeg, (C.2 13 a.toNatClampNeg)) ((glist [b, c, c - gmin c (C.1 (10, 0, b.toNatClampNeg) 3 - C.1 (10, 0, b.toNatClampNeg) 4)]))).1 (13, a.toNatClampNeg, (C.2 13 a.toNatClampNeg)) 1), (gup (gnew (gup (gup C (10, 0, b.toNatClampNeg) 3 ((C.1 (10, 0, b.toNatClampNeg) 3) - c)) (10, 0, b.toNatClampNeg) 4 ((C.1 (10, 0, b.toNatClampNeg) 4) - (c - (gmin c ((C.1 (10, 0, b.toNatClampNeg) 3) - (C.1 (10, 0, b.toNatClampNeg) 4)))))) (13, a.toNatClampNeg, (C.2 13 a.toNatClampNeg)) ((glist [b, c, c - gmin c (C.1 (10, 0, b.toNatClampNeg) 3 - C.1 (10, 0, b.toNatClampNeg) 4)]))) (11, 0, a.toNatClampNeg) 1 (((gnew (gup (gup C (10, 0, b.toNatClampNeg) 3 ((C.1 (10, 0, b.toNatClampNeg) 3) - c)) (10, 0, b.toNatClampNeg) 4 ((C.1 (10, 0, b.toNatClampNeg) 4) - (c - (gmin c ((C.1 (10, 0, b.toNatClampNeg) 3) - (C.1 (10, 0, b.toNatClampNeg) 4)))))) (13, a.toNatClampNeg, (C.2 13 a.toNatClampNeg)) ((glist [b, c, c - gmin c (C.1 (10, 0, b.toNatClampNeg) 3 - C.1 (10, 0, b.toNatClampNeg) 4)]))).1 (11, 0, a.toNatClampNeg) 1) + ((gnew (gup (gup C (10, 0, b.toNatClampNeg) 3 ((C.1 (10, 0, b.toNatClampNeg) 3) - c)) (10, 0, b.toNatClampNeg) 4 ((C.1 (10, 0, b.toNatClampNeg) 4) - (c - (gmin c ((C.1 (10, 0, b.toNatClampNeg) 3) - (C.1 (10, 0, b.toNatClampNeg) 4)))))) (13, a.toNatClampNeg, (C.2 13 a.toNatClampNeg)) ((glist [b, c, c - gmin c (C.1 (10, 0, b.toNatClampNeg) 3 - C.1 (10, 0, b.toNatClampNeg) 4)]))).1 (13, a.toNatClampNeg, (C.2 13 a.toNatClampNeg)) 1))))
theorem p_belt {κ : gq_K} {ad : gKey → Nat} {C R : gG} {T : List (Nat × va_E)} (hC : gfix C.2) (hBC : gcnt C.2) (hM : gmach C) (a : Int32) (b : Int32) : gq_C κ mX11_belt [.ref (ad (0, 0, 0)), .int (a), .int (b)] (gR κ ad (C, R) T) (gQ κ ad R T (F_belt C a b)) (gE κ ad R T [("java/lang/IllegalArgumentException", 1), ("java/lang/UnsupportedOperationException", 2)] (F_belt C a b)) := by
  refine gq_enter (by decide +kernel) rfl (Nat.le_of_ble_eq_true rfl) rfl (fun f o => ?_)
  refine z_fact (fun h hr => hr.mach hC) (fun hinj => ?_)
  refine y_aload_n (pc := 0) o dX11_belt_0 rfl ?_
  refine y_iload_n (pc := 1) o dX11_belt_1 rfl ?_
  refine z_callV (pc := 2) (k := 0) (n := 0) (k' := 1) (n' := 6) o (b := ad (0, 0, 0)) (As := [.int (a)]) (rest := []) (kMach hC a) ln_X11_91 dX11_belt_2 (z_rc (ci := 15) (K := (0, 0, 0)) rfl (gl_0 hC) rfl) rfl rfl (Nat.le_of_ble_eq_true rfl) ⟨by decide, by decide⟩ ⟨rfl, rfl⟩ ⟨by decide, by decide⟩ rfl (fun x h hE => by obtain ⟨rfl, hz, hr⟩ := hE; exact gE_mk (k := 1) (by simp only [F_belt, hz, gmi45, not_true_eq_false, not_false_eq_true, if_true, if_false, or_true, true_or, or_false, false_or, and_true, true_and, and_false, false_and, or_self, and_self, eq_self, Bool.false_eq_true, ne_eq, reduceIte]) (.head _) hr) (y_and fun (g1 : ¬ gmi a = -1) => ?_)
  refine y_astore_n (pc := 5) (i := 3) (lv' := [(3, .ref (ad (3, 0, (gmi a).toNatClampNeg))), (0, .ref (ad (0, 0, 0))), (1, .int (a)), (2, .int (b))]) o dX11_belt_5 rfl (by decide) rfl ?_
  refine y_iload_n (pc := 6) o dX11_belt_6 rfl ?_
  refine y_bipush (pc := 7) (x := 45) o dX11_belt_7 (by decide) ?_
  refine y_icmp_ne (pc := 9) (tgt := 16) o dX11_belt_9 rfl (fun (b2 : ¬ b = 45) => ?_) (fun (b2 : b = 45) => ?_)
  · refine y_aload_n (pc := 16) o dX11_belt_16 rfl ?_
    refine y_iload_n (pc := 17) o dX11_belt_17 rfl ?_
    refine z_callV (pc := 18) (k := 1) (n := 6) (k' := 2) (n' := 12) o (b := ad (0, 0, 0)) (As := [.int (b)]) (rest := []) (kMach hC b) ln_X11_91 dX11_belt_18 (z_rc (ci := 15) (K := (0, 0, 0)) rfl (gl_0 hC) rfl) rfl rfl (Nat.le_of_ble_eq_true rfl) ⟨by decide, by decide⟩ ⟨rfl, rfl⟩ ⟨by decide, by decide⟩ rfl (fun x h hE => by obtain ⟨rfl, hz, hr⟩ := hE; exact gE_mk (k := 1) (by simp only [F_belt, b2, g1, hz, gmi45, not_true_eq_false, not_false_eq_true, if_true, if_false, or_true, true_or, or_false, false_or, and_true, true_and, and_false, false_and, or_self, and_self, eq_self, Bool.false_eq_true, ne_eq, reduceIte]) (.head _) hr) (y_and fun (g3 : ¬ gmi b = -1) => ?_)
    refine y_astore (pc := 21) (i := 4) (lv' := [(4, .ref (ad (3, 0, (gmi b).toNatClampNeg))), (3, .ref (ad (3, 0, (gmi a).toNatClampNeg))), (0, .ref (ad (0, 0, 0))), (1, .int (a)), (2, .int (b))]) o dX11_belt_21 (by decide) rfl ?_
    refine y_aload_n (pc := 23) o dX11_belt_23 rfl ?_
    refine y_aload (pc := 24) o dX11_belt_24 rfl ?_
    by_cases e4 : a = b
    · refine y_acmp_ne (pc := 26) (tgt := 39) (x := some (ad (3, 0, (gmi a).toNatClampNeg))) (y := some (ad (3, 0, (gmi b).toNatClampNeg))) o dX11_belt_26 rfl rfl rfl (fun z => absurd (by rw [e4]) z) (fun _ => ?_)
      exact y_throwS (pc := 29) o 10 rfl th_79 qw_295 qw_38 dX11_belt_29 dX11_belt_32 dX11_belt_33 dX11_belt_35 dX11_belt_38 rfl ⟨by decide, Nat.le_of_ble_eq_true rfl⟩ (by decide) (by decide) (fun h hp => gE_mk (k := 1) (by simp only [F_belt, b2, e4, g1, g3, gmi45, not_true_eq_false, not_false_eq_true, if_true, if_false, or_true, true_or, or_false, false_or, and_true, true_and, and_false, false_and, or_self, and_self, eq_self, Bool.false_eq_true, ne_eq, reduceIte]) (.head _) hp)
    refine y_acmp_ne (pc := 26) (tgt := 39) (x := some (ad (3, 0, (gmi a).toNatClampNeg))) (y := some (ad (3, 0, (gmi b).toNatClampNeg))) o dX11_belt_26 rfl rfl rfl (fun _ => ?_) (fun z => absurd (gmi_inj g1 g3 (hinj _ _ (gmi_in g1).1 (gmi_in g3).1 (by simpa using z))) e4)
    refine y_aload_n (pc := 39) o dX11_belt_39 rfl ?_
    refine z_get (pc := 40) (K := (0, 0, 0)) (v := .ref (ad (1, 0, 0))) o fl_X11_10 dX11_belt_40 (gl_0 hC) rfl rfl ?_
    refine y_aload (pc := 43) o dX11_belt_43 rfl ?_
    refine y_aload_n (pc := 45) o dX11_belt_45 rfl ?_
    refine z_callV (pc := 46) (k := 2) (n := 12) (k' := 2) (n' := 12) o (b := ad (1, 0, 0)) (As := [.ref (ad (3, 0, (gmi b).toNatClampNeg)), .ref (ad (3, 0, (gmi a).toNatClampNeg))]) (rest := []) (kHang hC hM (gmi b).toNatClampNeg (gmi a).toNatClampNeg (gmi_in g3).1 (gmi_in g1).1) ln_X11_97 dX11_belt_46 (z_rc (ci := 5) (K := (1, 0, 0)) rfl (gl_1 hC) rfl) rfl rfl (Nat.le_of_ble_eq_true rfl) ⟨by decide, by decide⟩ ⟨rfl, rfl⟩ ⟨by decide, by decide⟩ rfl gq_nox2 ?_
    refine z_beq (pc := 49) (tgt := 62) o dX11_belt_49 rfl (fun (b5 : ¬ (ghang C (gmi a).toNatClampNeg 4 (gmi b).toNatClampNeg = true)) => ?_) (fun (b5 : ghang C (gmi a).toNatClampNeg 4 (gmi b).toNatClampNeg = true) => ?_)
    · refine y_aload_n (pc := 62) o dX11_belt_62 rfl ?_
      refine z_get (pc := 63) (K := (3, 0, (gmi a).toNatClampNeg)) (v := gdrv ad (C.1 (3, 0, (gmi a).toNatClampNeg) 1)) o fl_X11_106 dX11_belt_63 (gl_3 (gmach_4 hC (gmi_in g1).1)) rfl rfl ?_
      by_cases d6 : C.1 (3, 0, (gmi a).toNatClampNeg) 1 = -1
      · refine z_top (gdrv_n d6) ?_
        refine y_ifnonnullN (pc := 66) o dX11_belt_66 ?_
        refine y_bipush (pc := 69) (x := 45) o dX11_belt_69 (by decide) ?_
        refine y_goto (pc := 71) (tgt := 81) o dX11_belt_71 rfl ?_
        refine y_istore (pc := 81) (i := 5) (lv' := [(5, .int (45)), (4, .ref (ad (3, 0, (gmi b).toNatClampNeg))), (3, .ref (ad (3, 0, (gmi a).toNatClampNeg))), (0, .ref (ad (0, 0, 0))), (1, .int (a)), (2, .int (b))]) o dX11_belt_81 (by decide) rfl ?_
        refine y_aload_n (pc := 83) o dX11_belt_83 rfl ?_
        refine y_aload (pc := 84) o dX11_belt_84 rfl ?_
        refine z_top (w := gdrv ad (gmi b)) (gdrv_r g3).symm ?_
        refine z_putC (pc := 86) (K := (3, 0, (gmi a).toNatClampNeg)) (fd := 1) (x := gmi b) o fw_X11_106 dX11_belt_86 (gl_3 (gmach_4 hC (gmi_in g1).1)) (show (3:Nat) < 20 by decide) rfl (Nat.le_of_ble_eq_true rfl) gdrv_nar gdrv_fit rfl pC_3_2 (fun _ _ => by rw [rC_3, if_neg g3]; intro K hK; rw [List.mem_singleton] at hK; rw [hK]; exact gl_3 (gmach_4 hC (gmi_in g3).1)) ?_
        refine y_iload (pc := 89) o dX11_belt_89 rfl ?_
        exact y_iret (pc := 91) o dX11_belt_91 rfl rfl (by decide) (by decide) (fun h hp => gQ_mk (by simp only [F_belt, b2, e4, b5, eq_true d6, g1, g3, gmi45, not_true_eq_false, not_false_eq_true, if_true, if_false, or_true, true_or, or_false, false_or, and_true, true_and, and_false, false_and, or_self, and_self, eq_self, Bool.false_eq_true, ne_eq, reduceIte]) hp)
      refine z_top (gdrv_r d6) ?_
      refine y_ifnonnull (pc := 66) (tgt := 74) o dX11_belt_66 rfl ?_
      refine y_aload_n (pc := 74) o dX11_belt_74 rfl ?_
      refine z_get (pc := 75) (K := (3, 0, (gmi a).toNatClampNeg)) (v := gdrv ad (C.1 (3, 0, (gmi a).toNatClampNeg) 1)) o fl_X11_106 dX11_belt_75 (gl_3 (gmach_4 hC (gmi_in g1).1)) rfl rfl ?_
      refine z_top (gdrv_r d6) ?_
      refine z_get (pc := 78) (K := (3, 0, (C.1 (3, 0, (gmi a).toNatClampNeg) 1).toNatClampNeg)) (v := .int (gnm ((C.1 (3, 0, (gmi a).toNatClampNeg) 1).toNatClampNeg))) o fl_X11_112 dX11_belt_78 (gl_3 (gmach_4 hC (hM ((gmi a).toNatClampNeg) d6))) rfl rfl ?_
      refine y_istore (pc := 81) (i := 5) (lv' := [(5, .int (gnm ((C.1 (3, 0, (gmi a).toNatClampNeg) 1).toNatClampNeg))), (4, .ref (ad (3, 0, (gmi b).toNatClampNeg))), (3, .ref (ad (3, 0, (gmi a).toNatClampNeg))), (0, .ref (ad (0, 0, 0))), (1, .int (a)), (2, .int (b))]) o dX11_belt_81 (by decide) rfl ?_
      refine y_aload_n (pc := 83) o dX11_belt_83 rfl ?_
      refine y_aload (pc := 84) o dX11_belt_84 rfl ?_
      refine z_top (w := gdrv ad (gmi b)) (gdrv_r g3).symm ?_
      refine z_putC (pc := 86) (K := (3, 0, (gmi a).toNatClampNeg)) (fd := 1) (x := gmi b) o fw_X11_106 dX11_belt_86 (gl_3 (gmach_4 hC (gmi_in g1).1)) (show (3:Nat) < 20 by decide) rfl (Nat.le_of_ble_eq_true rfl) gdrv_nar gdrv_fit rfl pC_3_2 (fun _ _ => by rw [rC_3, if_neg g3]; intro K hK; rw [List.mem_singleton] at hK; rw [hK]; exact gl_3 (gmach_4 hC (gmi_in g3).1)) ?_
      refine y_iload (pc := 89) o dX11_belt_89 rfl ?_
      exact y_iret (pc := 91) o dX11_belt_91 rfl gnm_ch (by decide) (by decide) (fun h hp => gQ_mk (by simp only [F_belt, b2, e4, b5, d6, g1, g3, gmi45, not_true_eq_false, not_false_eq_true, if_true, if_false, or_true, true_or, or_false, false_or, and_true, true_and, and_false, false_and, or_self, and_self, eq_self, Bool.false_eq_true, ne_eq, reduceIte]) hp)
    exact y_throwS (pc := 52) o 11 rfl th_105 qw_400 qw_40 dX11_belt_52 dX11_belt_55 dX11_belt_56 dX11_belt_58 dX11_belt_61 rfl ⟨by decide, Nat.le_of_ble_eq_true rfl⟩ (by decide) (by decide) (fun h hp => gE_mk (k := 2) (by simp only [F_belt, b2, e4, b5, g1, g3, gmi45, not_true_eq_false, not_false_eq_true, if_true, if_false, or_true, true_or, or_false, false_or, and_true, true_and, and_false, false_and, or_self, and_self, eq_self, Bool.false_eq_true, ne_eq, reduceIte]) (.tail _ (.head _)) hp)
  refine y_null (pc := 12) o dX11_belt_12 ?_
  refine y_goto (pc := 13) (tgt := 21) o dX11_belt_13 rfl ?_
  refine y_astoreN (pc := 21) (i := 4) (lv' := [(4, .null), (3, .ref (ad (3, 0, (gmi a).toNatClampNeg))), (0, .ref (ad (0, 0, 0))), (1, .int (a)), (2, .int (b))]) o dX11_belt_21 (by decide) rfl ?_
  refine y_aload_n (pc := 23) o dX11_belt_23 rfl ?_
  refine y_aloadN (pc := 24) o dX11_belt_24 rfl ?_
  refine y_acmp_ne (pc := 26) (tgt := 39) (x := some (ad (3, 0, (gmi a).toNatClampNeg))) (y := none) o dX11_belt_26 rfl rfl rfl (fun _ => ?_) (fun z => by cases z)
  refine y_aload_n (pc := 39) o dX11_belt_39 rfl ?_
  refine z_get (pc := 40) (K := (0, 0, 0)) (v := .ref (ad (1, 0, 0))) o fl_X11_10 dX11_belt_40 (gl_0 hC) rfl rfl ?_
  refine y_aloadN (pc := 43) o dX11_belt_43 rfl ?_
  refine y_aload_n (pc := 45) o dX11_belt_45 rfl ?_
  refine z_callV (pc := 46) (k := 1) (n := 6) (k' := 1) (n' := 6) o (b := ad (1, 0, 0)) (As := [.null, .ref (ad (3, 0, (gmi a).toNatClampNeg))]) (rest := []) (kHang0 _) ln_X11_97 dX11_belt_46 (z_rc (ci := 5) (K := (1, 0, 0)) rfl (gl_1 hC) rfl) rfl rfl (Nat.le_of_ble_eq_true rfl) ⟨by decide, by decide⟩ ⟨rfl, rfl⟩ ⟨by decide, by decide⟩ rfl gq_nox2 ?_
  refine y_if_eq (pc := 49) (tgt := 62) o dX11_belt_49 rfl (fun (b7 : 0 = 0) => ?_) (fun b7 => absurd b7 (by decide))
  refine y_aload_n (pc := 62) o dX11_belt_62 rfl ?_
  refine z_get (pc := 63) (K := (3, 0, (gmi a).toNatClampNeg)) (v := gdrv ad (C.1 (3, 0, (gmi a).toNatClampNeg) 1)) o fl_X11_106 dX11_belt_63 (gl_3 (gmach_4 hC (gmi_in g1).1)) rfl rfl ?_
  by_cases d8 : C.1 (3, 0, (gmi a).toNatClampNeg) 1 = -1
  · refine z_top (gdrv_n d8) ?_
    refine y_ifnonnullN (pc := 66) o dX11_belt_66 ?_
    refine y_bipush (pc := 69) (x := 45) o dX11_belt_69 (by decide) ?_
    refine y_goto (pc := 71) (tgt := 81) o dX11_belt_71 rfl ?_
    refine y_istore (pc := 81) (i := 5) (lv' := [(5, .int (45)), (4, .null), (3, .ref (ad (3, 0, (gmi a).toNatClampNeg))), (0, .ref (ad (0, 0, 0))), (1, .int (a)), (2, .int (b))]) o dX11_belt_81 (by decide) rfl ?_
    refine y_aload_n (pc := 83) o dX11_belt_83 rfl ?_
    refine y_aloadN (pc := 84) o dX11_belt_84 rfl ?_
    refine z_top (w := gdrv ad (-1)) (gdrv_n rfl).symm ?_
    refine z_putC (pc := 86) (K := (3, 0, (gmi a).toNatClampNeg)) (fd := 1) (x := -1) o fw_X11_106 dX11_belt_86 (gl_3 (gmach_4 hC (gmi_in g1).1)) (show (3:Nat) < 20 by decide) rfl (Nat.le_of_ble_eq_true rfl) gdrv_nar gdrv_fit rfl pC_3_2 (fun _ _ => by rw [rC_3, if_pos rfl]; intro K hK; cases hK) ?_
    refine y_iload (pc := 89) o dX11_belt_89 rfl ?_
    exact y_iret (pc := 91) o dX11_belt_91 rfl rfl (by decide) (by decide) (fun h hp => gQ_mk (by simp only [F_belt, eq_true b2, eq_true b7, eq_true d8, g1, gmi45, not_true_eq_false, not_false_eq_true, if_true, if_false, or_true, true_or, or_false, false_or, and_true, true_and, and_false, false_and, or_self, and_self, eq_self, Bool.false_eq_true, ne_eq, reduceIte]) hp)
  refine z_top (gdrv_r d8) ?_
  refine y_ifnonnull (pc := 66) (tgt := 74) o dX11_belt_66 rfl ?_
  refine y_aload_n (pc := 74) o dX11_belt_74 rfl ?_
  refine z_get (pc := 75) (K := (3, 0, (gmi a).toNatClampNeg)) (v := gdrv ad (C.1 (3, 0, (gmi a).toNatClampNeg) 1)) o fl_X11_106 dX11_belt_75 (gl_3 (gmach_4 hC (gmi_in g1).1)) rfl rfl ?_
  refine z_top (gdrv_r d8) ?_
  refine z_get (pc := 78) (K := (3, 0, (C.1 (3, 0, (gmi a).toNatClampNeg) 1).toNatClampNeg)) (v := .int (gnm ((C.1 (3, 0, (gmi a).toNatClampNeg) 1).toNatClampNeg))) o fl_X11_112 dX11_belt_78 (gl_3 (gmach_4 hC (hM ((gmi a).toNatClampNeg) d8))) rfl rfl ?_
  refine y_istore (pc := 81) (i := 5) (lv' := [(5, .int (gnm ((C.1 (3, 0, (gmi a).toNatClampNeg) 1).toNatClampNeg))), (4, .null), (3, .ref (ad (3, 0, (gmi a).toNatClampNeg))), (0, .ref (ad (0, 0, 0))), (1, .int (a)), (2, .int (b))]) o dX11_belt_81 (by decide) rfl ?_
  refine y_aload_n (pc := 83) o dX11_belt_83 rfl ?_
  refine y_aloadN (pc := 84) o dX11_belt_84 rfl ?_
  refine z_top (w := gdrv ad (-1)) (gdrv_n rfl).symm ?_
  refine z_putC (pc := 86) (K := (3, 0, (gmi a).toNatClampNeg)) (fd := 1) (x := -1) o fw_X11_106 dX11_belt_86 (gl_3 (gmach_4 hC (gmi_in g1).1)) (show (3:Nat) < 20 by decide) rfl (Nat.le_of_ble_eq_true rfl) gdrv_nar gdrv_fit rfl pC_3_2 (fun _ _ => by rw [rC_3, if_pos rfl]; intro K hK; cases hK) ?_
  refine y_iload (pc := 89) o dX11_belt_89 rfl ?_
  exact y_iret (pc := 91) o dX11_belt_91 rfl gnm_ch (by decide) (by decide) (fun h hp => gQ_mk (by simp only [F_belt, eq_true b2, eq_true b7, d8, g1, gmi45, not_true_eq_false, not_false_eq_true, if_true, if_false, or_true, true_or, or_false, false_or, and_true, true_and, and_false, false_and, or_self, and_self, eq_self, Bool.false_eq_true, ne_eq, reduceIte]) hp)

theorem p_pack {κ : gq_K} {ad : gKey → Nat} {C R : gG} {T : List (Nat × va_E)} (hC : gfix C.2) (hBC : gcnt C.2) (hM : gmach C) (a : Int32) (b : Int32) (c : Int32) : gq_C κ mX11_pack [.ref (ad (0, 0, 0)), .int (a), .int (b), .int (c)] (gR κ ad (C, R) T) (gQ κ ad R T (F_pack C a b c)) (gE κ ad R T [("java/lang/IndexOutOfBoundsException", 1), ("java/lang/IllegalArgumentException", 2), ("java/lang/UnsupportedOperationException", 3)] (F_pack C a b c)) := by
  refine gq_enter (by decide +kernel) rfl (Nat.le_of_ble_eq_true rfl) rfl (fun f o => ?_)
  refine y_aload_n (pc := 0) o dX11_pack_0 rfl ?_
  refine y_iload_n (pc := 1) o dX11_pack_1 rfl ?_
  refine z_callV (pc := 2) (k := 0) (n := 0) (k' := 1) (n' := 6) o (b := ad (0, 0, 0)) (As := [.int (a)]) (rest := []) (kGroN hC hBC a) ln_X11_436 dX11_pack_2 (z_rc (ci := 15) (K := (0, 0, 0)) rfl (gl_0 hC) rfl) rfl rfl (Nat.le_of_ble_eq_true rfl) ⟨by decide, by decide⟩ ⟨rfl, rfl⟩ ⟨by decide, by decide⟩ rfl (fun x h hE => by obtain ⟨rfl, hz, hr⟩ := hE; exact gE_mk (k := 1) (by simp only [F_pack, hz, not_true_eq_false, not_false_eq_true, if_true, if_false, or_true, true_or, or_false, false_or, and_true, true_and, and_false, false_and, or_self, and_self, eq_self, Bool.false_eq_true, ne_eq, reduceIte]) (.head _) hr) (y_and fun (g1 : gix (C.2 11 0) a = true) => ?_)
  refine y_astore (pc := 5) (i := 4) (lv' := [(4, .ref (ad (11, 0, a.toNatClampNeg))), (0, .ref (ad (0, 0, 0))), (1, .int (a)), (2, .int (b)), (3, .int (c))]) o dX11_pack_5 (by decide) rfl ?_
  refine y_aload_n (pc := 7) o dX11_pack_7 rfl ?_
  refine y_iload_n (pc := 8) o dX11_pack_8 rfl ?_
  refine z_callV (pc := 9) (k := 1) (n := 6) (k' := 2) (n' := 12) o (b := ad (0, 0, 0)) (As := [.int (b)]) (rest := []) (kRunN hC hBC b) ln_X11_356 dX11_pack_9 (z_rc (ci := 15) (K := (0, 0, 0)) rfl (gl_0 hC) rfl) rfl rfl (Nat.le_of_ble_eq_true rfl) ⟨by decide, by decide⟩ ⟨rfl, rfl⟩ ⟨by decide, by decide⟩ rfl (fun x h hE => by obtain ⟨rfl, hz, hr⟩ := hE; exact gE_mk (k := 1) (by simp only [F_pack, g1, hz, not_true_eq_false, not_false_eq_true, if_true, if_false, or_true, true_or, or_false, false_or, and_true, true_and, and_false, false_and, or_self, and_self, eq_self, Bool.false_eq_true, ne_eq, reduceIte]) (.head _) hr) (y_and fun (g2 : gix (C.2 10 0) b = true) => ?_)
  refine y_astore (pc := 12) (i := 5) (lv' := [(5, .ref (ad (10, 0, b.toNatClampNeg))), (4, .ref (ad (11, 0, a.toNatClampNeg))), (0, .ref (ad (0, 0, 0))), (1, .int (a)), (2, .int (b)), (3, .int (c))]) o dX11_pack_12 (by decide) rfl ?_
  refine y_iload_n (pc := 14) o dX11_pack_14 rfl ?_
  refine y_iconst (pc := 15) (x := 1) o dX11_pack_15 (by decide) ?_
  refine y_sipush (pc := 16) (x := 144) o dX11_pack_16 (by decide) ?_
  refine z_callS (pc := 19) (k := 2) (n := 12) (k' := 2) (n' := 12) o (As := [.int (c), .int (1), .int (144)]) (rest := []) (kIsOut _ _ _) ln_X11_71 dX11_pack_19 rfl rfl (Nat.le_of_ble_eq_true rfl) ⟨by decide, by decide⟩ ⟨rfl, rfl⟩ ⟨by decide, by decide⟩ rfl gq_nox2 ?_
  refine z_beq (pc := 22) (tgt := 36) o dX11_pack_22 rfl (fun (b3 : ¬ (¬ gin 1 c 144 = true)) => ?_) (fun (b3 : ¬ gin 1 c 144 = true) => ?_)
  · refine y_aload (pc := 36) o dX11_pack_36 rfl ?_
    refine z_get (pc := 38) (K := (10, 0, b.toNatClampNeg)) (v := .int (C.1 (10, 0, b.toNatClampNeg) 9)) o fl_X11_390 dX11_pack_38 (gl_10 (gix_lt (Nat.le_trans (hBC 4 0 (by decide)) (by decide)) g2)) rfl rfl ?_
    refine y_aload (pc := 41) o dX11_pack_41 rfl ?_
    refine z_get (pc := 43) (K := (11, 0, a.toNatClampNeg)) (v := .int (C.1 (11, 0, a.toNatClampNeg) 0)) o fl_X11_442 dX11_pack_43 (gl_11 (gix_lt (Nat.le_trans (hBC 5 0 (by decide)) (by decide)) g1)) rfl rfl ?_
    refine y_icmp_ne (pc := 46) (tgt := 70) o dX11_pack_46 rfl (fun (b4 : ¬ (C.1 (10, 0, b.toNatClampNeg) 9) = (C.1 (11, 0, a.toNatClampNeg) 0)) => ?_) (fun (b4 : (C.1 (10, 0, b.toNatClampNeg) 9) = (C.1 (11, 0, a.toNatClampNeg) 0)) => ?_)
    · exact y_throwSW (pc := 70) o 71 rfl th_105 qw_400 qw_40 dX11_pack_70 dX11_pack_73 dX11_pack_74 dX11_pack_77 dX11_pack_80 rfl ⟨by decide, Nat.le_of_ble_eq_true rfl⟩ (by decide) (by decide) (fun h hp => gE_mk (k := 3) (by simp only [F_pack, Classical.not_not.mp b3, b4, g1, g2, not_true_eq_false, not_false_eq_true, if_true, if_false, or_true, true_or, or_false, false_or, and_true, true_and, and_false, false_and, or_self, and_self, eq_self, Bool.false_eq_true, ne_eq, reduceIte]) (.tail _ (.tail _ (.head _))) hp)
    refine y_aload_n (pc := 49) o dX11_pack_49 rfl ?_
    refine z_get (pc := 50) (K := (0, 0, 0)) (v := .int (C.1 (0, 0, 0) 0)) o fl_X11_55 dX11_pack_50 (gl_0 hC) rfl rfl ?_
    refine y_aload (pc := 53) o dX11_pack_53 rfl ?_
    refine z_get (pc := 55) (K := (10, 0, b.toNatClampNeg)) (v := .int (C.1 (10, 0, b.toNatClampNeg) 6)) o fl_X11_362 dX11_pack_55 (gl_10 (gix_lt (Nat.le_trans (hBC 4 0 (by decide)) (by decide)) g2)) rfl rfl ?_
    refine y_icmp_lt (pc := 58) (tgt := 70) o dX11_pack_58 rfl (fun (b5 : (C.1 (0, 0, 0) 0) < (C.1 (10, 0, b.toNatClampNeg) 6)) => ?_) (fun (b5 : ¬ (C.1 (0, 0, 0) 0) < (C.1 (10, 0, b.toNatClampNeg) 6)) => ?_)
    · exact y_throwSW (pc := 70) o 71 rfl th_105 qw_400 qw_40 dX11_pack_70 dX11_pack_73 dX11_pack_74 dX11_pack_77 dX11_pack_80 rfl ⟨by decide, Nat.le_of_ble_eq_true rfl⟩ (by decide) (by decide) (fun h hp => gE_mk (k := 3) (by simp only [F_pack, Classical.not_not.mp b3, b4, b5, g1, g2, not_true_eq_false, not_false_eq_true, if_true, if_false, or_true, true_or, or_false, false_or, and_true, true_and, and_false, false_and, or_self, and_self, eq_self, Bool.false_eq_true, ne_eq, reduceIte]) (.tail _ (.tail _ (.head _))) hp)
    refine y_aload (pc := 61) o dX11_pack_61 rfl ?_
    refine z_get (pc := 63) (K := (10, 0, b.toNatClampNeg)) (v := .int (C.1 (10, 0, b.toNatClampNeg) 3)) o fl_X11_400 dX11_pack_63 (gl_10 (gix_lt (Nat.le_trans (hBC 4 0 (by decide)) (by decide)) g2)) rfl rfl ?_
    refine y_iload_n (pc := 66) o dX11_pack_66 rfl ?_
    refine z_icmp_ge (pc := 67) (tgt := 81) o dX11_pack_67 rfl (fun (b6 : ¬ (C.1 (10, 0, b.toNatClampNeg) 3) < c) => ?_) (fun (b6 : (C.1 (10, 0, b.toNatClampNeg) 3) < c) => ?_)
    · refine y_aload (pc := 81) o dX11_pack_81 rfl ?_
      refine z_get (pc := 83) (K := (11, 0, a.toNatClampNeg)) (v := .int (C.1 (11, 0, a.toNatClampNeg) 1)) o fl_X11_447 dX11_pack_83 (gl_11 (gix_lt (Nat.le_trans (hBC 5 0 (by decide)) (by decide)) g1)) rfl rfl ?_
      refine y_iload_n (pc := 86) o dX11_pack_86 rfl ?_
      refine y_iadd (pc := 87) o dX11_pack_87 ?_
      refine y_sipush (pc := 88) (x := 144) o dX11_pack_88 (by decide) ?_
      refine y_icmp_gt (pc := 91) (tgt := 102) o dX11_pack_91 rfl (fun (b7 : 144 < ((C.1 (11, 0, a.toNatClampNeg) 1) + c)) => ?_) (fun (b7 : ¬ 144 < ((C.1 (11, 0, a.toNatClampNeg) 1) + c)) => ?_)
      · exact y_throwSW (pc := 102) o 72 rfl th_105 qw_400 qw_40 dX11_pack_102 dX11_pack_105 dX11_pack_106 dX11_pack_109 dX11_pack_112 rfl ⟨by decide, Nat.le_of_ble_eq_true rfl⟩ (by decide) (by decide) (fun h hp => gE_mk (k := 3) (by simp only [F_pack, Classical.not_not.mp b3, b4, b5, b6, b7, g1, g2, not_true_eq_false, not_false_eq_true, if_true, if_false, or_true, true_or, or_false, false_or, and_true, true_and, and_false, false_and, or_self, and_self, eq_self, Bool.false_eq_true, ne_eq, reduceIte]) (.tail _ (.tail _ (.head _))) hp)
      refine y_aload (pc := 94) o dX11_pack_94 rfl ?_
      refine z_get (pc := 96) (K := (11, 0, a.toNatClampNeg)) (v := .int (C.1 (11, 0, a.toNatClampNeg) 2)) o fl_X11_448 dX11_pack_96 (gl_11 (gix_lt (Nat.le_trans (hBC 5 0 (by decide)) (by decide)) g1)) rfl rfl ?_
      refine y_if_eq (pc := 99) (tgt := 113) o dX11_pack_99 rfl (fun (b8 : (C.1 (11, 0, a.toNatClampNeg) 2) = 0) => ?_) (fun (b8 : ¬ (C.1 (11, 0, a.toNatClampNeg) 2) = 0) => ?_)
      · refine y_iload_n (pc := 113) o dX11_pack_113 rfl ?_
        refine y_aload (pc := 114) o dX11_pack_114 rfl ?_
        refine z_get (pc := 116) (K := (10, 0, b.toNatClampNeg)) (v := .int (C.1 (10, 0, b.toNatClampNeg) 3)) o fl_X11_400 dX11_pack_116 (gl_10 (gix_lt (Nat.le_trans (hBC 4 0 (by decide)) (by decide)) g2)) rfl rfl ?_
        refine y_aload (pc := 119) o dX11_pack_119 rfl ?_
        refine z_get (pc := 121) (K := (10, 0, b.toNatClampNeg)) (v := .int (C.1 (10, 0, b.toNatClampNeg) 4)) o fl_X11_403 dX11_pack_121 (gl_10 (gix_lt (Nat.le_trans (hBC 4 0 (by decide)) (by decide)) g2)) rfl rfl ?_
        refine y_isub (pc := 124) o dX11_pack_124 ?_
        refine y_mmin (pc := 125) o qw_602 dX11_pack_125 ⟨by decide, Nat.le_of_ble_eq_true rfl⟩ (by decide) (by decide) ?_
        refine y_istore (pc := 128) (i := 6) (lv' := [(6, .int (gmin c ((C.1 (10, 0, b.toNatClampNeg) 3) - (C.1 (10, 0, b.toNatClampNeg) 4)))), (5, .ref (ad (10, 0, b.toNatClampNeg))), (4, .ref (ad (11, 0, a.toNatClampNeg))), (0, .ref (ad (0, 0, 0))), (1, .int (a)), (2, .int (b)), (3, .int (c))]) o dX11_pack_128 (by decide) rfl ?_
        refine z_new (pc := 130) (k := 2) (n := 12) o nw_X11_453 dX11_pack_130 (by decide) (by decide) (fun q9 => ?_)
        refine y_dup (pc := 133) o dX11_pack_133 rfl ?_
        refine y_aload (pc := 134) o dX11_pack_134 rfl ?_
        refine y_iload_n (pc := 136) o dX11_pack_136 rfl ?_
        refine y_iload_n (pc := 137) o dX11_pack_137 rfl ?_
        refine y_iload (pc := 138) o dX11_pack_138 rfl ?_
        refine y_isub (pc := 140) o dX11_pack_140 ?_
        refine z_callI (pc := 141) (k := 3) (n := 15) (k' := 3) (n' := 15) o (b := q9) (As := [.ref (ad (10, 0, b.toNatClampNeg)), .int (c), .int (c - (gmin c ((C.1 (10, 0, b.toNatClampNeg) 3) - (C.1 (10, 0, b.toNatClampNeg) 4))))]) (rest := [.ref (q9)]) (kX7_init _ (ad (10, 0, b.toNatClampNeg)) (c) (c - (gmin c ((C.1 (10, 0, b.toNatClampNeg) 3) - (C.1 (10, 0, b.toNatClampNeg) 4))))) ln_X11_455 dX11_pack_141 rfl rfl (Nat.le_of_ble_eq_true rfl) ⟨by decide, by decide⟩ ⟨rfl, rfl⟩ ⟨by decide, by decide⟩ ?_
        refine y_astore (pc := 144) (i := 7) (lv' := [(7, .ref (q9)), (6, .int (gmin c ((C.1 (10, 0, b.toNatClampNeg) 3) - (C.1 (10, 0, b.toNatClampNeg) 4)))), (5, .ref (ad (10, 0, b.toNatClampNeg))), (4, .ref (ad (11, 0, a.toNatClampNeg))), (0, .ref (ad (0, 0, 0))), (1, .int (a)), (2, .int (b)), (3, .int (c))]) o dX11_pack_144 (by decide) rfl ?_
        refine y_aload (pc := 146) o dX11_pack_146 rfl ?_
        refine y_dup (pc := 148) o dX11_pack_148 rfl ?_
        refine z_get (pc := 149) (K := (10, 0, b.toNatClampNeg)) (v := .int (C.1 (10, 0, b.toNatClampNeg) 3)) o fl_X11_400 dX11_pack_149 (gl_10 (gix_lt (Nat.le_trans (hBC 4 0 (by decide)) (by decide)) g2)) rfl rfl ?_
        refine y_aload (pc := 152) o dX11_pack_152 rfl ?_
        refine z_getT (pc := 154) o 0 fl_X11_458 dX11_pack_154 rfl rfl ?_
        refine y_isub (pc := 157) o dX11_pack_157 ?_
        refine z_putC (pc := 158) (K := (10, 0, b.toNatClampNeg)) (fd := 3) (x := (C.1 (10, 0, b.toNatClampNeg) 3) - c) o fw_X11_400 dX11_pack_158 (gl_10 (gix_lt (Nat.le_trans (hBC 4 0 (by decide)) (by decide)) g2)) (show (10:Nat) < 20 by decide) rfl (Nat.le_of_ble_eq_true rfl) (vp_nar_int _) rfl rfl pC_10_5 (z_refC (show (10:Nat) < 20 by decide) (gl_10 (gix_lt (Nat.le_trans (hBC 4 0 (by decide)) (by decide)) g2)) qC_10_5) ?_
        refine y_aload (pc := 161) o dX11_pack_161 rfl ?_
        refine y_dup (pc := 163) o dX11_pack_163 rfl ?_
        refine z_get (pc := 164) (K := (10, 0, b.toNatClampNeg)) (v := .int ((gup C (10, 0, b.toNatClampNeg) 3 ((C.1 (10, 0, b.toNatClampNeg) 3) - c)).1 (10, 0, b.toNatClampNeg) 4)) o fl_X11_403 dX11_pack_164 (gl_10 (gix_lt (Nat.le_trans (hBC 4 0 (by decide)) (by decide)) g2)) rfl rfl ?_
        refine z_top (congrArg Value.int (gup_vf _ (show (4:Nat) ≠ 3 by decide))) ?_
        refine y_aload (pc := 167) o dX11_pack_167 rfl ?_
        refine z_getT (pc := 169) o 0 fl_X11_459 dX11_pack_169 rfl rfl ?_
        refine y_isub (pc := 172) o dX11_pack_172 ?_
        refine z_putC (pc := 173) (K := (10, 0, b.toNatClampNeg)) (fd := 4) (x := (C.1 (10, 0, b.toNatClampNeg) 4) - (c - (gmin c ((C.1 (10, 0, b.toNatClampNeg) 3) - (C.1 (10, 0, b.toNatClampNeg) 4))))) o fw_X11_403 dX11_pack_173 (gl_10 (gix_lt (Nat.le_trans (hBC 4 0 (by decide)) (by decide)) g2)) (show (10:Nat) < 20 by decide) rfl (Nat.le_of_ble_eq_true rfl) (vp_nar_int _) rfl rfl pC_10_6 (z_refC (show (10:Nat) < 20 by decide) (gl_10 (gix_lt (Nat.le_trans (hBC 4 0 (by decide)) (by decide)) g2)) qC_10_6) ?_
        refine y_aload (pc := 176) o dX11_pack_176 rfl ?_
        refine z_get (pc := 178) (K := (11, 0, a.toNatClampNeg)) (v := .ref (ad (4, 7, a.toNatClampNeg))) o fl_X11_460 dX11_pack_178 (gl_11 (gix_lt (Nat.le_trans (hBC 5 0 (by decide)) (by decide)) g1)) rfl rfl ?_
        refine y_aload (pc := 181) o dX11_pack_181 rfl ?_
        refine y_callV (pc := 183) (k := 3) (n := 15) o (b := ad (4, 7, a.toNatClampNeg)) (As := [.ref q9]) (rest := []) (addCa (C := (gup (gup C (10, 0, b.toNatClampNeg) 3 ((C.1 (10, 0, b.toNatClampNeg) 3) - c)) (10, 0, b.toNatClampNeg) 4 ((C.1 (10, 0, b.toNatClampNeg) 4) - (c - (gmin c ((C.1 (10, 0, b.toNatClampNeg) 3) - (C.1 (10, 0, b.toNatClampNeg) 4))))))) (R := R) (l := 7) (g := a.toNatClampNeg) (n := C.2 13 a.toNatClampNeg) (row := (glist [b, c, c - gmin c (C.1 (10, 0, b.toNatClampNeg) 3 - C.1 (10, 0, b.toNatClampNeg) 4)])) (a := 13) rfl (gl_4_7 hC (gix_lt (Nat.le_trans (hBC 5 0 (by decide)) (by decide)) g1)) (Or.inl rfl) rfl (hBC 7 a.toNatClampNeg (by decide)) nC_13 (by rw [rC_13]; intro K hK; rw [List.mem_singleton] at hK; rw [hK]; exact gl_10 (gix_lt (Nat.le_trans (hBC 4 0 (by decide)) (by decide)) g2))) ln_X11_138 dX11_pack_183 (z_rc (ci := 3) (K := (4, 7, a.toNatClampNeg)) rfl (gl_4_7 hC (gix_lt (Nat.le_trans (hBC 5 0 (by decide)) (by decide)) g1)) rfl) rfl rfl (Nat.le_of_ble_eq_true rfl) ⟨by decide, by decide⟩ ⟨by decide, by decide⟩ (fun _ e => e) rfl gq_nox2 (fun v => y_and fun ev => y_ex fun ad10 => y_and fun had => y_and fun hadq => ?_)
        subst ev
        have e0 : ad10 (0, 0, 0) = ad (0, 0, 0) := had (0, 0, 0) (by simp) (by simp)
        have e20 : ad10 (20, 0, 0) = ad (20, 0, 0) := had (20, 0, 0) (by simp) (by simp)
        refine z_st (st' := [.int (1)]) rfl ?_
        subst hadq
        have e4 : ad10 (11, 0, a.toNatClampNeg) = ad (11, 0, a.toNatClampNeg) := had _ (by simp) (by simp)
        rw [← e4]
        rw [← e0]
        refine y_pop (pc := 186) o dX11_pack_186 rfl ?_
        refine y_aload (pc := 187) o dX11_pack_187 rfl ?_
        refine y_dup (pc := 189) o dX11_pack_189 rfl ?_
        refine z_get (pc := 190) (K := (11, 0, a.toNatClampNeg)) (v := .int ((gnew (gup (gup C (10, 0, b.toNatClampNeg) 3 ((C.1 (10, 0, b.toNatClampNeg) 3) - c)) (10, 0, b.toNatClampNeg) 4 ((C.1 (10, 0, b.toNatClampNeg) 4) - (c - (gmin c ((C.1 (10, 0, b.toNatClampNeg) 3) - (C.1 (10, 0, b.toNatClampNeg) 4)))))) (13, a.toNatClampNeg, (C.2 13 a.toNatClampNeg)) ((glist [b, c, c - gmin c (C.1 (10, 0, b.toNatClampNeg) 3 - C.1 (10, 0, b.toNatClampNeg) 4)]))).1 (11, 0, a.toNatClampNeg) 1)) o fl_X11_447 dX11_pack_190 (gl_11 (gix_lt (Nat.le_trans (hBC 5 0 (by decide)) (by decide)) g1)) rfl rfl ?_
        refine y_aload (pc := 193) o dX11_pack_193 rfl ?_
        refine z_get (pc := 195) (K := (13, a.toNatClampNeg, (C.2 13 a.toNatClampNeg))) (v := .int ((gnew (gup (gup C (10, 0, b.toNatClampNeg) 3 ((C.1 (10, 0, b.toNatClampNeg) 3) - c)) (10, 0, b.toNatClampNeg) 4 ((C.1 (10, 0, b.toNatClampNeg) 4) - (c - (gmin c ((C.1 (10, 0, b.toNatClampNeg) 3) - (C.1 (10, 0, b.toNatClampNeg) 4)))))) (13, a.toNatClampNeg, (C.2 13 a.toNatClampNeg)) ((glist [b, c, c - gmin c (C.1 (10, 0, b.toNatClampNeg) 3 - C.1 (10, 0, b.toNatClampNeg) 4)]))).1 (13, a.toNatClampNeg, (C.2 13 a.toNatClampNeg)) 1)) o fl_X11_458 dX11_pack_195 (gl_13 (gnew_lt _ _)) rfl rfl ?_
        refine y_iadd (pc := 198) o dX11_pack_198 ?_
        refine z_putC (pc := 199) (K := (11, 0, a.toNatClampNeg)) (fd := 1) (x := ((gnew (gup (gup C (10, 0, b.toNatClampNeg) 3 ((C.1 (10, 0, b.toNatClampNeg) 3) - c)) (10, 0, b.toNatClampNeg) 4 ((C.1 (10, 0, b.toNatClampNeg) 4) - (c - (gmin c ((C.1 (10, 0, b.toNatClampNeg) 3) - (C.1 (10, 0, b.toNatClampNeg) 4)))))) (13, a.toNatClampNeg, (C.2 13 a.toNatClampNeg)) ((glist [b, c, c - gmin c (C.1 (10, 0, b.toNatClampNeg) 3 - C.1 (10, 0, b.toNatClampNeg) 4)]))).1 (11, 0, a.toNatClampNeg) 1) + ((gnew (gup (gup C (10, 0, b.toNatClampNeg) 3 ((C.1 (10, 0, b.toNatClampNeg) 3) - c)) (10, 0, b.toNatClampNeg) 4 ((C.1 (10, 0, b.toNatClampNeg) 4) - (c - (gmin c ((C.1 (10, 0, b.toNatClampNeg) 3) - (C.1 (10, 0, b.toNatClampNeg) 4)))))) (13, a.toNatClampNeg, (C.2 13 a.toNatClampNeg)) ((glist [b, c, c - gmin c (C.1 (10, 0, b.toNatClampNeg) 3 - C.1 (10, 0, b.toNatClampNeg) 4)]))).1 (13, a.toNatClampNeg, (C.2 13 a.toNatClampNeg)) 1)) o fw_X11_447 dX11_pack_199 (gl_11 (gix_lt (Nat.le_trans (hBC 5 0 (by decide)) (by decide)) g1)) (show (11:Nat) < 20 by decide) rfl (Nat.le_of_ble_eq_true rfl) (vp_nar_int _) rfl rfl pC_11_2 (z_refC (show (11:Nat) < 20 by decide) (gl_11 (gix_lt (Nat.le_trans (hBC 5 0 (by decide)) (by decide)) g1)) qC_11_2) ?_
        refine y_aload (pc := 202) o dX11_pack_202 rfl ?_
        refine z_get (pc := 204) (K := (11, 0, a.toNatClampNeg)) (v := .int ((gup (gnew (gup (gup C (10, 0, b.toNatClampNeg) 3 ((C.1 (10, 0, b.toNatClampNeg) 3) - c)) (10, 0, b.toNatClampNeg) 4 ((C.1 (10, 0, b.toNatClampNeg) 4) - (c - (gmin c ((C.1 (10, 0, b.toNatClampNeg) 3) - (C.1 (10, 0, b.toNatClampNeg) 4)))))) (13, a.toNatClampNeg, (C.2 13 a.toNatClampNeg)) ((glist [b, c, c - gmin c (C.1 (10, 0, b.toNatClampNeg) 3 - C.1 (10, 0, b.toNatClampNeg) 4)]))) (11, 0, a.toNatClampNeg) 1 (((gnew (gup (gup C (10, 0, b.toNatClampNeg) 3 ((C.1 (10, 0, b.toNatClampNeg) 3) - c)) (10, 0, b.toNatClampNeg) 4 ((C.1 (10, 0, b.toNatClampNeg) 4) - (c - (gmin c ((C.1 (10, 0, b.toNatClampNeg) 3) - (C.1 (10, 0, b.toNatClampNeg) 4)))))) (13, a.toNatClampNeg, (C.2 13 a.toNatClampNeg)) ((glist [b, c, c - gmin c (C.1 (10, 0, b.toNatClampNeg) 3 - C.1 (10, 0, b.toNatClampNeg) 4)]))).1 (11, 0, a.toNatClampNeg) 1) + ((gnew (gup (gup C (10, 0, b.toNatClampNeg) 3 ((C.1 (10, 0, b.toNatClampNeg) 3) - c)) (10, 0, b.toNatClampNeg) 4 ((C.1 (10, 0, b.toNatClampNeg) 4) - (c - (gmin c ((C.1 (10, 0, b.toNatClampNeg) 3) - (C.1 (10, 0, b.toNatClampNeg) 4)))))) (13, a.toNatClampNeg, (C.2 13 a.toNatClampNeg)) ((glist [b, c, c - gmin c (C.1 (10, 0, b.toNatClampNeg) 3 - C.1 (10, 0, b.toNatClampNeg) 4)]))).1 (13, a.toNatClampNeg, (C.2 13 a.toNatClampNeg)) 1))).1 (11, 0, a.toNatClampNeg) 1)) o fl_X11_447 dX11_pack_204 (gl_11 (gix_lt (Nat.le_trans (hBC 5 0 (by decide)) (by decide)) g1)) rfl rfl ?_
        refine z_top (congrArg Value.int (gup_v _ _ _ _)) ?_
        exact y_iret (pc := 207) o dX11_pack_207 rfl (vp_nar_int _) (by decide) (by decide) (fun h hp => gQ_mk2 (by simp only [F_pack, Classical.not_not.mp b3, b4, b5, b6, b7, eq_true b8, g1, g2, not_true_eq_false, not_false_eq_true, if_true, if_false, or_true, true_or, or_false, false_or, and_true, true_and, and_false, false_and, or_self, and_self, eq_self, Bool.false_eq_true, ne_eq, reduceIte]) e0 e20 hp)
      exact y_throwSW (pc := 102) o 72 rfl th_105 qw_400 qw_40 dX11_pack_102 dX11_pack_105 dX11_pack_106 dX11_pack_109 dX11_pack_112 rfl ⟨by decide, Nat.le_of_ble_eq_true rfl⟩ (by decide) (by decide) (fun h hp => gE_mk (k := 3) (by simp only [F_pack, Classical.not_not.mp b3, b4, b5, b6, b7, b8, g1, g2, not_true_eq_false, not_false_eq_true, if_true, if_false, or_true, true_or, or_false, false_or, and_true, true_and, and_false, false_and, or_self, and_self, eq_self, Bool.false_eq_true, ne_eq, reduceIte]) (.tail _ (.tail _ (.head _))) hp)
    exact y_throwSW (pc := 70) o 71 rfl th_105 qw_400 qw_40 dX11_pack_70 dX11_pack_73 dX11_pack_74 dX11_pack_77 dX11_pack_80 rfl ⟨by decide, Nat.le_of_ble_eq_true rfl⟩ (by decide) (by decide) (fun h hp => gE_mk (k := 3) (by simp only [F_pack, Classical.not_not.mp b3, b4, b5, b6, g1, g2, not_true_eq_false, not_false_eq_true, if_true, if_false, or_true, true_or, or_false, false_or, and_true, true_and, and_false, false_and, or_self, and_self, eq_self, Bool.false_eq_true, ne_eq, reduceIte]) (.tail _ (.tail _ (.head _))) hp)
  exact y_throwSW (pc := 25) o 70 rfl th_79 qw_295 qw_38 dX11_pack_25 dX11_pack_28 dX11_pack_29 dX11_pack_32 dX11_pack_35 rfl ⟨by decide, Nat.le_of_ble_eq_true rfl⟩ (by decide) (by decide) (fun h hp => gE_mk (k := 2) (by simp only [F_pack, b3, g1, g2, not_true_eq_false, not_false_eq_true, if_true, if_false, or_true, true_or, or_false, false_or, and_true, true_and, and_false, false_and, or_self, and_self, eq_self, Bool.false_eq_true, ne_eq, reduceIte]) (.tail _ (.head _)) hp)

end Z19
