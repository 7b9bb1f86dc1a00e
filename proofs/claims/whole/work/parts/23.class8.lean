
section Z23
variable {κ : gq_K} {ad ad' : gKey → Nat} {C C' R D : gG} {T : List (Nat × va_E)} {h : gq_H}
/-- the next z -/
def gnz (z : Int32) : Int32 := ((z.toInt64 * 48271) - (z.toInt64 * 48271) / 2147483647 * 2147483647).toInt32
/-- one pencil is taken out of run r -/
def gsmp1 (C : gG) (r : Nat) : gG := gup (if gnz (C.1 (0, 0, 0) 2) - gnz (C.1 (0, 0, 0) 2) / C.1 (10, 0, r) 3 * C.1 (10, 0, r) 3 < C.1 (10, 0, r) 4 then gup (gup C (0, 0, 0) 2 (gnz (C.1 (0, 0, 0) 2))) (10, 0, r) 4 (C.1 (10, 0, r) 4 - 1) else gup C (0, 0, 0) 2 (gnz (C.1 (0, 0, 0) 2))) (10, 0, r) 3 (C.1 (10, 0, r) 3 - 1)
def gsmp (C : gG) (r : Nat) : Nat → gG
  | 0 => C
  | n + 1 => gsmp1 (gsmp C r n) r
theorem gsmp1_2 (C : gG) (r : Nat) : (gsmp1 C r).2 = C.2 := by
  unfold gsmp1
  split <;> rfl
theorem gsmp_2 (C : gG) (r n : Nat) : (gsmp C r n).2 = C.2 := by
  induction n with
  | zero => rfl
  | succ n ih => exact (gsmp1_2 _ _).trans ih
theorem gsmp1_3 (C : gG) (r : Nat) : (gsmp1 C r).1 (10, 0, r) 3 = C.1 (10, 0, r) 3 - 1 := by
  unfold gsmp1
  exact gup_v _ _ _ _
theorem gsmp_3 (C : gG) (r n : Nat) : (gsmp C r n).1 (10, 0, r) 3 = C.1 (10, 0, r) 3 - Int32.ofNat n := by
  induction n with
  | zero => exact (Int32.sub_zero _).symm
  | succ n ih =>
    show (gsmp1 (gsmp C r n) r).1 (10, 0, r) 3 = _
    rw [gsmp1_3, ih, Int32.sub_sub, ← gaddN]
    rfl
theorem gsmp_pos {x b : Int32} {j : Nat} (hb : gin 1 b 50 = true) (hx : ¬ x < b) (hj : j < b.toNatClampNeg) : 0 < x - Int32.ofNat j := by
  obtain ⟨h1, h2⟩ := gin_iff.mp hb
  have e0 : (0 : Int32).toInt = 0 := rfl
  have e1 : (1 : Int32).toInt = 1 := rfl
  have e5 : (50 : Int32).toInt = 50 := rfl
  rw [Int32.lt_iff_toInt_lt] at h1 h2 hx
  rw [← Int32.toNat_toInt] at hj
  have hlt := x.toInt_lt
  rw [Int32.lt_iff_toInt_lt, e0, Int32.toInt_sub, Int32.toInt_ofNat_of_lt (by omega), Int.bmod_def]
  split <;> omega
def F_sample (C : gG) (a b : Int32) : gF := if ¬ gix (C.2 10 0) a = true then gthr C 1 else if ¬ gin 1 b 50 = true then gthr C 2 else if C.1 (10, 0, a.toNatClampNeg) 3 < b then gthr C 3 else (0, C.1 (10, 0, a.toNatClampNeg) 4 - (gsmp C a.toNatClampNeg b.toNatClampNeg).1 (10, 0, a.toNatClampNeg) 4, gup (gsmp C a.toNatClampNeg b.toNatClampNeg) (0, 0, 0) 4 ((gsmp C a.toNatClampNeg b.toNatClampNeg).1 (0, 0, 0) 4 + b))

theorem gin50 {b : Int32} (h : gin 1 b 50 = true) : b = Int32.ofNat b.toNatClampNeg ∧ b.toNatClampNeg ≤ 50 := by
  obtain ⟨h1, h2⟩ := gin_iff.mp h
  have e1 : (1 : Int32).toInt = 1 := rfl
  have e5 : (50 : Int32).toInt = 50 := rfl
  rw [Int32.lt_iff_toInt_lt] at h1 h2
  have h3 : b.toNatClampNeg = b.toInt.toNat := (Int32.toNat_toInt b).symm
  refine ⟨?_, by omega⟩
  rw [← Int32.toInt_inj, Int32.toInt_ofNat_of_lt (by omega)]
  omega
theorem p_sample {κ : gq_K} {ad : gKey → Nat} {C R : gG} {T : List (Nat × va_E)} (hC : gfix C.2) (hBC : gcnt C.2) (hM : gmach C) (a : Int32) (b : Int32) : gq_C κ mX11_sample [.ref (ad (0, 0, 0)), .int (a), .int (b)] (gR κ ad (C, R) T) (gQ κ ad R T (F_sample C a b)) (gE κ ad R T [("java/lang/IndexOutOfBoundsException", 1), ("java/lang/IllegalArgumentException", 2), ("java/lang/UnsupportedOperationException", 3)] (F_sample C a b)) := by
  refine gq_enter (by decide +kernel) rfl (Nat.le_of_ble_eq_true rfl) rfl (fun f o => ?_)
  refine y_aload_n (pc := 0) o dX11_sample_0 rfl ?_
  refine y_iload_n (pc := 1) o dX11_sample_1 rfl ?_
  refine z_callV (pc := 2) (k := 0) (n := 0) (k' := 1) (n' := 6) o (b := ad (0, 0, 0)) (As := [.int (a)]) (rest := []) (kRunN hC hBC a) ln_X11_356 dX11_sample_2 (z_rc (ci := 15) (K := (0, 0, 0)) rfl (gl_0 hC) rfl) rfl rfl (Nat.le_of_ble_eq_true rfl) ⟨by decide, by decide⟩ ⟨rfl, rfl⟩ ⟨by decide, by decide⟩ rfl (fun x h hE => by obtain ⟨rfl, hz, hr⟩ := hE; exact gE_mk (k := 1) (by simp only [F_sample, hz, not_true_eq_false, not_false_eq_true, if_true, if_false, or_true, true_or, or_false, false_or, and_true, true_and, and_false, false_and, or_self, and_self, eq_self, Bool.false_eq_true, ne_eq, reduceIte]) (.head _) hr) (y_and fun (g1 : gix (C.2 10 0) a = true) => ?_)
  refine y_astore_n (pc := 5) (i := 3) (lv' := [(3, .ref (ad (10, 0, a.toNatClampNeg))), (0, .ref (ad (0, 0, 0))), (1, .int (a)), (2, .int (b))]) o dX11_sample_5 rfl (by decide) rfl ?_
  refine y_iload_n (pc := 6) o dX11_sample_6 rfl ?_
  refine y_iconst (pc := 7) (x := 1) o dX11_sample_7 (by decide) ?_
  refine y_bipush (pc := 8) (x := 50) o dX11_sample_8 (by decide) ?_
  refine z_callS (pc := 10) (k := 1) (n := 6) (k' := 1) (n' := 6) o (As := [.int (b), .int (1), .int (50)]) (rest := []) (kIsOut _ _ _) ln_X11_71 dX11_sample_10 rfl rfl (Nat.le_of_ble_eq_true rfl) ⟨by decide, by decide⟩ ⟨rfl, rfl⟩ ⟨by decide, by decide⟩ rfl gq_nox2 ?_
  refine z_beq (pc := 13) (tgt := 27) o dX11_sample_13 rfl (fun (b2 : ¬ (¬ gin 1 b 50 = true)) => ?_) (fun (b2 : ¬ gin 1 b 50 = true) => ?_)
  · refine y_aload_n (pc := 27) o dX11_sample_27 rfl ?_
    refine z_get (pc := 28) (K := (10, 0, a.toNatClampNeg)) (v := .int (C.1 (10, 0, a.toNatClampNeg) 3)) o fl_X11_400 dX11_sample_28 (gl_10 (gix_lt (Nat.le_trans (hBC 4 0 (by decide)) (by decide)) g1)) rfl rfl ?_
    refine y_iload_n (pc := 31) o dX11_sample_31 rfl ?_
    refine z_icmp_ge (pc := 32) (tgt := 46) o dX11_sample_32 rfl (fun (b3 : ¬ (C.1 (10, 0, a.toNatClampNeg) 3) < b) => ?_) (fun (b3 : (C.1 (10, 0, a.toNatClampNeg) 3) < b) => ?_)
    · refine y_aload_n (pc := 46) o dX11_sample_46 rfl ?_
      refine z_get (pc := 47) (K := (10, 0, a.toNatClampNeg)) (v := .int (C.1 (10, 0, a.toNatClampNeg) 4)) o fl_X11_403 dX11_sample_47 (gl_10 (gix_lt (Nat.le_trans (hBC 4 0 (by decide)) (by decide)) g1)) rfl rfl ?_
      refine y_istore (pc := 50) (i := 4) (lv' := [(4, .int (C.1 (10, 0, a.toNatClampNeg) 4)), (3, .ref (ad (10, 0, a.toNatClampNeg))), (0, .ref (ad (0, 0, 0))), (1, .int (a)), (2, .int (b))]) o dX11_sample_50 (by decide) rfl ?_
      refine y_iconst (pc := 52) (x := 0) o dX11_sample_52 (by decide) ?_
      refine y_istore (pc := 53) (i := 5) (lv' := [(5, .int (0)), (4, .int (C.1 (10, 0, a.toNatClampNeg) 4)), (3, .ref (ad (10, 0, a.toNatClampNeg))), (0, .ref (ad (0, 0, 0))), (1, .int (a)), (2, .int (b))]) o dX11_sample_53 (by decide) rfl ?_
      have hr0 : a.toNatClampNeg < C.2 10 0 := gix_lt (Nat.le_trans (hBC 4 0 (by decide)) (by decide)) g1
      have hin : gin 1 b 50 = true := Classical.not_not.mp b2
      have hpb := b3
      have hb0 : b = Int32.ofNat b.toNatClampNeg ∧ b.toNatClampNeg ≤ 50 := gin50 hin
      suffices H : ∀ m j : Nat, j + m = b.toNatClampNeg → gq_Y κ mX11_sample (gQ κ ad R T (F_sample C a b)) (gE κ ad R T [("java/lang/IndexOutOfBoundsException", 1), ("java/lang/IllegalArgumentException", 2), ("java/lang/UnsupportedOperationException", 3)] (F_sample C a b)) f (gR κ ad (gsmp C a.toNatClampNeg j, R) T) [(5, .int (Int32.ofNat j)), (4, .int (C.1 (10, 0, a.toNatClampNeg) 4)), (3, .ref (ad (10, 0, a.toNatClampNeg))), (0, .ref (ad (0, 0, 0))), (1, .int (a)), (2, .int (b))] 55 [] 1 6 from ?_
      · exact H b.toNatClampNeg 0 (Nat.zero_add _)
      intro m
      induction m with
      | zero =>
        intro j hj
        have h2 := gsmp_2 C a.toNatClampNeg j
        have h3 := gsmp_3 C a.toNatClampNeg j
        have hjb : j = b.toNatClampNeg := by omega
        obtain ⟨D, hD⟩ : ∃ D, D = gsmp C a.toNatClampNeg j := ⟨_, rfl⟩
        rw [← hD] at h2 h3 ⊢
        have hD2 : gfix D.2 := by rw [h2]; exact hC
        have hrD : a.toNatClampNeg < D.2 10 0 := by rw [h2]; exact hr0
        refine y_iload (pc := 55) o dX11_sample_55 rfl ?_
        refine y_iload_n (pc := 57) o dX11_sample_57 rfl ?_
        refine z_icmp_ge (pc := 58) (tgt := 128) o dX11_sample_58 rfl (fun (b4 : ¬ (Int32.ofNat j) < b) => ?_) (fun b4 => absurd ((gofs_lt (by omega) (by omega)).mp (hb0.1 ▸ b4)) (by omega))
        refine y_aload_n (pc := 128) o dX11_sample_128 rfl ?_
        refine y_dup (pc := 129) o dX11_sample_129 rfl ?_
        refine z_get (pc := 130) (K := (0, 0, 0)) (v := .int (D.1 (0, 0, 0) 4)) o fl_X11_68 dX11_sample_130 (gl_0 hD2) rfl rfl ?_
        refine y_iload_n (pc := 133) o dX11_sample_133 rfl ?_
        refine y_iadd (pc := 134) o dX11_sample_134 ?_
        refine z_putC (pc := 135) (K := (0, 0, 0)) (fd := 4) (x := (D.1 (0, 0, 0) 4) + b) o fw_X11_68 dX11_sample_135 (gl_0 hD2) (show (0:Nat) < 20 by decide) rfl (Nat.le_of_ble_eq_true rfl) (vp_nar_int _) rfl rfl pC_0_15 (z_refC (show (0:Nat) < 20 by decide) (gl_0 hD2) qC_0_15) ?_
        refine y_iload (pc := 138) o dX11_sample_138 rfl ?_
        refine y_aload_n (pc := 140) o dX11_sample_140 rfl ?_
        refine z_get (pc := 141) (K := (10, 0, a.toNatClampNeg)) (v := .int ((gup D (0, 0, 0) 4 ((D.1 (0, 0, 0) 4) + b)).1 (10, 0, a.toNatClampNeg) 4)) o fl_X11_403 dX11_sample_141 (gl_10 hrD) rfl rfl ?_
        refine z_top (congrArg Value.int (gup_vc _ (show (10:Nat) ≠ 0 by decide))) ?_
        refine y_isub (pc := 144) o dX11_sample_144 ?_
        rw [hjb] at hD
        subst hD
        exact y_iret (pc := 145) o dX11_sample_145 rfl (vp_nar_int _) (by decide) (by decide) (fun h hp => gQ_mk (by simp only [F_sample, g1, hin, hpb, not_true_eq_false, not_false_eq_true, if_true, if_false, or_true, true_or, or_false, false_or, and_true, true_and, and_false, false_and, or_self, and_self, eq_self, Bool.false_eq_true, ne_eq, reduceIte]) hp)
      | succ m ih =>
        intro j hj
        have h2 := gsmp_2 C a.toNatClampNeg j
        have h3 := gsmp_3 C a.toNatClampNeg j
        have hpos := gsmp_pos hin hpb (show j < b.toNatClampNeg by omega)
        rw [← h3] at hpos
        have hstep : gsmp C a.toNatClampNeg (j + 1) = gsmp1 (gsmp C a.toNatClampNeg j) a.toNatClampNeg := rfl
        generalize gsmp C a.toNatClampNeg j = D at *
        have hD2 : gfix D.2 := by rw [h2]; exact hC
        have hrD : a.toNatClampNeg < D.2 10 0 := by rw [h2]; exact hr0
        refine y_iload (pc := 55) o dX11_sample_55 rfl ?_
        refine y_iload_n (pc := 57) o dX11_sample_57 rfl ?_
        refine z_icmp_ge (pc := 58) (tgt := 128) o dX11_sample_58 rfl (fun b5 => absurd (by rw [hb0.1]; exact (gofs_lt (by omega) (by omega)).mpr (by omega)) b5) (fun (b5 : (Int32.ofNat j) < b) => ?_)
        refine y_aload_n (pc := 61) o dX11_sample_61 rfl ?_
        refine z_get (pc := 62) (K := (10, 0, a.toNatClampNeg)) (v := .int (D.1 (10, 0, a.toNatClampNeg) 3)) o fl_X11_400 dX11_sample_62 (gl_10 hrD) rfl rfl ?_
        refine z_if_le (pc := 65) (tgt := 128) o dX11_sample_65 rfl (fun b6 => absurd hpos b6) (fun (b6 : 0 < (D.1 (10, 0, a.toNatClampNeg) 3)) => ?_)
        refine y_aload_n (pc := 68) o dX11_sample_68 rfl ?_
        refine y_aload_n (pc := 69) o dX11_sample_69 rfl ?_
        refine z_get (pc := 70) (K := (0, 0, 0)) (v := .int (D.1 (0, 0, 0) 2)) o fl_X11_62 dX11_sample_70 (gl_0 hD2) rfl rfl ?_
        refine y_i2l (pc := 73) o dX11_sample_73 ?_
        refine y_ldc2 (pc := 74) o dX11_sample_74 qw_1001 ?_
        refine y_lmul (pc := 77) o dX11_sample_77 ?_
        refine y_ldc2 (pc := 78) o dX11_sample_78 qw_1002 ?_
        refine y_lrem (pc := 81) o dX11_sample_81 (by decide) ?_
        refine y_l2i (pc := 82) o dX11_sample_82 ?_
        refine z_putC (pc := 83) (K := (0, 0, 0)) (fd := 2) (x := ((((D.1 (0, 0, 0) 2).toInt64) * 48271) - (((D.1 (0, 0, 0) 2).toInt64) * 48271) / 2147483647 * 2147483647).toInt32) o fw_X11_62 dX11_sample_83 (gl_0 hD2) (show (0:Nat) < 20 by decide) rfl (Nat.le_of_ble_eq_true rfl) (vp_nar_int _) rfl rfl pC_0_13 (z_refC (show (0:Nat) < 20 by decide) (gl_0 hD2) qC_0_13) ?_
        refine y_aload_n (pc := 86) o dX11_sample_86 rfl ?_
        refine z_get (pc := 87) (K := (0, 0, 0)) (v := .int ((gup D (0, 0, 0) 2 (((((D.1 (0, 0, 0) 2).toInt64) * 48271) - (((D.1 (0, 0, 0) 2).toInt64) * 48271) / 2147483647 * 2147483647).toInt32)).1 (0, 0, 0) 2)) o fl_X11_62 dX11_sample_87 (gl_0 hD2) rfl rfl ?_
        refine z_top (congrArg Value.int (gup_v _ _ _ _)) ?_
        refine y_aload_n (pc := 90) o dX11_sample_90 rfl ?_
        refine z_get (pc := 91) (K := (10, 0, a.toNatClampNeg)) (v := .int ((gup D (0, 0, 0) 2 (((((D.1 (0, 0, 0) 2).toInt64) * 48271) - (((D.1 (0, 0, 0) 2).toInt64) * 48271) / 2147483647 * 2147483647).toInt32)).1 (10, 0, a.toNatClampNeg) 3)) o fl_X11_400 dX11_sample_91 (gl_10 hrD) rfl rfl ?_
        refine z_top (congrArg Value.int (gup_ff _ (show (3:Nat) ≠ 2 by decide))) ?_
        refine y_irem (pc := 94) o dX11_sample_94 (fun z => by rw [z] at hpos; exact absurd hpos (by decide)) ?_
        refine y_aload_n (pc := 95) o dX11_sample_95 rfl ?_
        refine z_get (pc := 96) (K := (10, 0, a.toNatClampNeg)) (v := .int ((gup D (0, 0, 0) 2 (((((D.1 (0, 0, 0) 2).toInt64) * 48271) - (((D.1 (0, 0, 0) 2).toInt64) * 48271) / 2147483647 * 2147483647).toInt32)).1 (10, 0, a.toNatClampNeg) 4)) o fl_X11_403 dX11_sample_96 (gl_10 hrD) rfl rfl ?_
        refine z_top (congrArg Value.int (gup_ff _ (show (4:Nat) ≠ 2 by decide))) ?_
        refine z_icmp_ge (pc := 99) (tgt := 112) o dX11_sample_99 rfl (fun (b7 : ¬ ((((((D.1 (0, 0, 0) 2).toInt64) * 48271) - (((D.1 (0, 0, 0) 2).toInt64) * 48271) / 2147483647 * 2147483647).toInt32) - (((((D.1 (0, 0, 0) 2).toInt64) * 48271) - (((D.1 (0, 0, 0) 2).toInt64) * 48271) / 2147483647 * 2147483647).toInt32) / (D.1 (10, 0, a.toNatClampNeg) 3) * (D.1 (10, 0, a.toNatClampNeg) 3)) < (D.1 (10, 0, a.toNatClampNeg) 4)) => ?_) (fun (b7 : ((((((D.1 (0, 0, 0) 2).toInt64) * 48271) - (((D.1 (0, 0, 0) 2).toInt64) * 48271) / 2147483647 * 2147483647).toInt32) - (((((D.1 (0, 0, 0) 2).toInt64) * 48271) - (((D.1 (0, 0, 0) 2).toInt64) * 48271) / 2147483647 * 2147483647).toInt32) / (D.1 (10, 0, a.toNatClampNeg) 3) * (D.1 (10, 0, a.toNatClampNeg) 3)) < (D.1 (10, 0, a.toNatClampNeg) 4)) => ?_)
        · refine y_aload_n (pc := 112) o dX11_sample_112 rfl ?_
          refine y_dup (pc := 113) o dX11_sample_113 rfl ?_
          refine z_get (pc := 114) (K := (10, 0, a.toNatClampNeg)) (v := .int ((gup D (0, 0, 0) 2 (((((D.1 (0, 0, 0) 2).toInt64) * 48271) - (((D.1 (0, 0, 0) 2).toInt64) * 48271) / 2147483647 * 2147483647).toInt32)).1 (10, 0, a.toNatClampNeg) 3)) o fl_X11_400 dX11_sample_114 (gl_10 hrD) rfl rfl ?_
          refine z_top (congrArg Value.int (gup_ff _ (show (3:Nat) ≠ 2 by decide))) ?_
          refine y_iconst (pc := 117) (x := 1) o dX11_sample_117 (by decide) ?_
          refine y_isub (pc := 118) o dX11_sample_118 ?_
          refine z_putC (pc := 119) (K := (10, 0, a.toNatClampNeg)) (fd := 3) (x := (D.1 (10, 0, a.toNatClampNeg) 3) - 1) o fw_X11_400 dX11_sample_119 (gl_10 hrD) (show (10:Nat) < 20 by decide) rfl (Nat.le_of_ble_eq_true rfl) (vp_nar_int _) rfl rfl pC_10_5 (z_refC (show (10:Nat) < 20 by decide) (gl_10 hrD) qC_10_5) ?_
          refine y_iinc (pc := 122) (i := 5) (j := 0) (v := (Int32.ofNat j) + 1) (lv' := [(5, .int ((Int32.ofNat j) + 1)), (4, .int (C.1 (10, 0, a.toNatClampNeg) 4)), (3, .ref (ad (10, 0, a.toNatClampNeg))), (0, .ref (ad (0, 0, 0))), (1, .int (a)), (2, .int (b))]) o dX11_sample_122 rfl rfl (by decide) rfl ?_
          refine y_goto (pc := 125) (tgt := 55) o dX11_sample_125 rfl ?_
          rw [(gofs (n := j) (by omega)).2.2]
          have hs : gsmp1 D a.toNatClampNeg = (gup (gup D (0, 0, 0) 2 (((((D.1 (0, 0, 0) 2).toInt64) * 48271) - (((D.1 (0, 0, 0) 2).toInt64) * 48271) / 2147483647 * 2147483647).toInt32)) (10, 0, a.toNatClampNeg) 3 ((D.1 (10, 0, a.toNatClampNeg) 3) - 1)) := by unfold gsmp1 gnz; rw [if_neg b7]
          rw [← hs, ← hstep]
          exact ih (j + 1) (by omega)
        refine y_aload_n (pc := 102) o dX11_sample_102 rfl ?_
        refine y_dup (pc := 103) o dX11_sample_103 rfl ?_
        refine z_get (pc := 104) (K := (10, 0, a.toNatClampNeg)) (v := .int ((gup D (0, 0, 0) 2 (((((D.1 (0, 0, 0) 2).toInt64) * 48271) - (((D.1 (0, 0, 0) 2).toInt64) * 48271) / 2147483647 * 2147483647).toInt32)).1 (10, 0, a.toNatClampNeg) 4)) o fl_X11_403 dX11_sample_104 (gl_10 hrD) rfl rfl ?_
        refine z_top (congrArg Value.int (gup_ff _ (show (4:Nat) ≠ 2 by decide))) ?_
        refine y_iconst (pc := 107) (x := 1) o dX11_sample_107 (by decide) ?_
        refine y_isub (pc := 108) o dX11_sample_108 ?_
        refine z_putC (pc := 109) (K := (10, 0, a.toNatClampNeg)) (fd := 4) (x := (D.1 (10, 0, a.toNatClampNeg) 4) - 1) o fw_X11_403 dX11_sample_109 (gl_10 hrD) (show (10:Nat) < 20 by decide) rfl (Nat.le_of_ble_eq_true rfl) (vp_nar_int _) rfl rfl pC_10_6 (z_refC (show (10:Nat) < 20 by decide) (gl_10 hrD) qC_10_6) ?_
        refine y_aload_n (pc := 112) o dX11_sample_112 rfl ?_
        refine y_dup (pc := 113) o dX11_sample_113 rfl ?_
        refine z_get (pc := 114) (K := (10, 0, a.toNatClampNeg)) (v := .int ((gup (gup D (0, 0, 0) 2 (((((D.1 (0, 0, 0) 2).toInt64) * 48271) - (((D.1 (0, 0, 0) 2).toInt64) * 48271) / 2147483647 * 2147483647).toInt32)) (10, 0, a.toNatClampNeg) 4 ((D.1 (10, 0, a.toNatClampNeg) 4) - 1)).1 (10, 0, a.toNatClampNeg) 3)) o fl_X11_400 dX11_sample_114 (gl_10 hrD) rfl rfl ?_
        refine z_top (congrArg Value.int (Eq.trans (gup_vf _ (show (3:Nat) ≠ 4 by decide)) (gup_ff _ (show (3:Nat) ≠ 2 by decide)))) ?_
        refine y_iconst (pc := 117) (x := 1) o dX11_sample_117 (by decide) ?_
        refine y_isub (pc := 118) o dX11_sample_118 ?_
        refine z_putC (pc := 119) (K := (10, 0, a.toNatClampNeg)) (fd := 3) (x := (D.1 (10, 0, a.toNatClampNeg) 3) - 1) o fw_X11_400 dX11_sample_119 (gl_10 hrD) (show (10:Nat) < 20 by decide) rfl (Nat.le_of_ble_eq_true rfl) (vp_nar_int _) rfl rfl pC_10_5 (z_refC (show (10:Nat) < 20 by decide) (gl_10 hrD) qC_10_5) ?_
        refine y_iinc (pc := 122) (i := 5) (j := 0) (v := (Int32.ofNat j) + 1) (lv' := [(5, .int ((Int32.ofNat j) + 1)), (4, .int (C.1 (10, 0, a.toNatClampNeg) 4)), (3, .ref (ad (10, 0, a.toNatClampNeg))), (0, .ref (ad (0, 0, 0))), (1, .int (a)), (2, .int (b))]) o dX11_sample_122 rfl rfl (by decide) rfl ?_
        refine y_goto (pc := 125) (tgt := 55) o dX11_sample_125 rfl ?_
        rw [(gofs (n := j) (by omega)).2.2]
        have hs : gsmp1 D a.toNatClampNeg = (gup (gup (gup D (0, 0, 0) 2 (((((D.1 (0, 0, 0) 2).toInt64) * 48271) - (((D.1 (0, 0, 0) 2).toInt64) * 48271) / 2147483647 * 2147483647).toInt32)) (10, 0, a.toNatClampNeg) 4 ((D.1 (10, 0, a.toNatClampNeg) 4) - 1)) (10, 0, a.toNatClampNeg) 3 ((D.1 (10, 0, a.toNatClampNeg) 3) - 1)) := by unfold gsmp1 gnz; rw [if_pos b7]
        rw [← hs, ← hstep]
        exact ih (j + 1) (by omega)
    exact y_throwSW (pc := 35) o 65 rfl th_105 qw_400 qw_40 dX11_sample_35 dX11_sample_38 dX11_sample_39 dX11_sample_42 dX11_sample_45 rfl ⟨by decide, Nat.le_of_ble_eq_true rfl⟩ (by decide) (by decide) (fun h hp => gE_mk (k := 3) (by simp only [F_sample, Classical.not_not.mp b2, b3, g1, not_true_eq_false, not_false_eq_true, if_true, if_false, or_true, true_or, or_false, false_or, and_true, true_and, and_false, false_and, or_self, and_self, eq_self, Bool.false_eq_true, ne_eq, reduceIte]) (.tail _ (.tail _ (.head _))) hp)
  exact y_throwSW (pc := 16) o 64 rfl th_79 qw_295 qw_38 dX11_sample_16 dX11_sample_19 dX11_sample_20 dX11_sample_23 dX11_sample_26 rfl ⟨by decide, Nat.le_of_ble_eq_true rfl⟩ (by decide) (by decide) (fun h hp => gE_mk (k := 2) (by simp only [F_sample, b2, g1, not_true_eq_false, not_false_eq_true, if_true, if_false, or_true, true_or, or_false, false_or, and_true, true_and, and_false, false_and, or_self, and_self, eq_self, Bool.false_eq_true, ne_eq, reduceIte]) (.tail _ (.head _)) hp)

end Z23
