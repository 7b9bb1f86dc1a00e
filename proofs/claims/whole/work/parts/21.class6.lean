
section Z21
variable {κ : gq_K} {ad ad' : gKey → Nat} {C C' R : gG} {T : List (Nat × va_E)} {h : gq_H}
def gall (p : Nat → Bool) : Nat → Bool
  | 0 => true
  | n + 1 => gall p n && p n
theorem gall_no {p : Nat → Bool} {i n : Nat} (hi : i < n) (hp : p i = false) : gall p n = false := by
  induction n with
  | zero => omega
  | succ m ih =>
    unfold gall
    by_cases h : i = m
    · rw [← h, hp, Bool.and_false]
    · rw [ih (by omega), Bool.false_and]
theorem gall_all {p : Nat → Bool} {n : Nat} (hp : ∀ i, i < n → p i = true) : gall p n = true := by
  induction n with
  | zero => rfl
  | succ m ih =>
    unfold gall
    rw [ih (fun i hi => hp i (by omega)), hp m (by omega)]
    rfl
/-- part j of gross g is not to be claimed for -/
def gok (C : gG) (g j : Nat) : Bool := !(decide (1 < gabs (C.1 (8, 0, (C.1 (10, 0, (C.1 (13, g, j) 0).toNatClampNeg) 0).toNatClampNeg) 10 / 50 - C.1 (10, 0, (C.1 (13, g, j) 0).toNatClampNeg) 9))) && !(decide (0 < C.1 (13, g, j) 2))
def F_claim (C : gG) (a : Int32) : gF := if ¬ gix (C.2 11 0) a = true then gthr C 1 else (0, gb (gall (gok C a.toNatClampNeg) (C.2 13 a.toNatClampNeg) = true), C)
theorem gbT {p : Prop} [Decidable p] (h : p) : Value.int (gb p) = .int 1 := by rw [gb_t h]
theorem gbF {p : Prop} [Decidable p] (h : ¬ p) : Value.int (gb p) = .int 0 := by rw [gb_f h]
theorem p_claim {κ : gq_K} {ad : gKey → Nat} {C R : gG} {T : List (Nat × va_E)} (hC : gfix C.2) (hBC : gcnt C.2) (hM : gmach C) (a : Int32) : gq_C κ mX11_claim [.ref (ad (0, 0, 0)), .int (a)] (gR κ ad (C, R) T) (gQ κ ad R T (F_claim C a)) (gE κ ad R T [("java/lang/IndexOutOfBoundsException", 1)] (F_claim C a)) := by
  refine gq_enter (by decide +kernel) rfl (Nat.le_of_ble_eq_true rfl) rfl (fun f o => ?_)
  refine z_fact (fun h hr => hr.clC) (fun hcl => ?_)
  have hNB : C.2 13 a.toNatClampNeg ≤ 144 := hBC 7 _ (by decide)
  refine y_aload_n (pc := 0) o dX11_claim_0 rfl ?_
  refine y_iload_n (pc := 1) o dX11_claim_1 rfl ?_
  refine z_callV (pc := 2) (k := 0) (n := 0) (k' := 1) (n' := 6) o (b := ad (0, 0, 0)) (As := [.int (a)]) (rest := []) (kGroN hC hBC a) ln_X11_436 dX11_claim_2 (z_rc (ci := 15) (K := (0, 0, 0)) rfl (gl_0 hC) rfl) rfl rfl (Nat.le_of_ble_eq_true rfl) ⟨by decide, by decide⟩ ⟨rfl, rfl⟩ ⟨by decide, by decide⟩ rfl (fun x h hE => by obtain ⟨rfl, hz, hr⟩ := hE; exact gE_mk (k := 1) (by simp only [F_claim, hz, not_true_eq_false, not_false_eq_true, if_true, if_false, or_true, true_or, or_false, false_or, and_true, true_and, and_false, false_and, or_self, and_self, eq_self, Bool.false_eq_true, ne_eq, reduceIte]) (.head _) hr) (y_and fun (g1 : gix (C.2 11 0) a = true) => ?_)
  refine y_astore_n (pc := 5) (i := 2) (lv' := [(2, .ref (ad (11, 0, a.toNatClampNeg))), (0, .ref (ad (0, 0, 0))), (1, .int (a))]) o dX11_claim_5 rfl (by decide) rfl ?_
  refine y_iconst (pc := 6) (x := 0) o dX11_claim_6 (by decide) ?_
  refine y_istore_n (pc := 7) (i := 3) (lv' := [(3, .int (0)), (2, .ref (ad (11, 0, a.toNatClampNeg))), (0, .ref (ad (0, 0, 0))), (1, .int (a))]) o dX11_claim_7 rfl (by decide) rfl ?_
  suffices H : ∀ m i : Nat, i + m = C.2 13 a.toNatClampNeg → gall (gok C a.toNatClampNeg) i = true → gq_Y κ mX11_claim (gQ κ ad R T (F_claim C a)) (gE κ ad R T [("java/lang/IndexOutOfBoundsException", 1)] (F_claim C a)) f (gR κ ad (C, R) T) [(3, .int (Int32.ofNat i)), (2, .ref (ad (11, 0, a.toNatClampNeg))), (0, .ref (ad (0, 0, 0))), (1, .int (a))] 8 [] 1 6 from ?_
  · exact H (C.2 13 a.toNatClampNeg) 0 (Nat.zero_add _) rfl
  intro m
  induction m with
  | zero =>
    intro i hi hall
    have hlt : ¬ Int32.ofNat i < Int32.ofNat (C.2 13 a.toNatClampNeg) := fun z => by rw [gofs_lt (by omega) (by omega)] at z; omega
    refine y_iload_n (pc := 8) o dX11_claim_8 rfl ?_
    refine y_aload_n (pc := 9) o dX11_claim_9 rfl ?_
    refine z_get (pc := 10) (K := (11, 0, a.toNatClampNeg)) (v := .ref (ad (4, 7, a.toNatClampNeg))) o fl_X11_460 dX11_claim_10 (gl_11 (gix_lt (Nat.le_trans (hBC 5 0 (by decide)) (by decide)) g1)) rfl rfl ?_
    refine z_callV (pc := 13) (k := 1) (n := 6) (k' := 1) (n' := 6) o (b := ad (4, 7, a.toNatClampNeg)) (As := []) (rest := [.int (Int32.ofNat i)]) (sizeC (l := 7) (g := a.toNatClampNeg) (gl_4_7 hC (gix_lt (Nat.le_trans (hBC 5 0 (by decide)) (by decide)) g1))) ln_X11_127 dX11_claim_13 (z_rc (ci := 3) (K := (4, 7, a.toNatClampNeg)) rfl (gl_4_7 hC (gix_lt (Nat.le_trans (hBC 5 0 (by decide)) (by decide)) g1)) rfl) rfl rfl (Nat.le_of_ble_eq_true rfl) ⟨by decide, by decide⟩ ⟨rfl, rfl⟩ ⟨by decide, by decide⟩ rfl gq_nox2 ?_
    refine z_icmp_ge (pc := 16) (tgt := 82) o dX11_claim_16 rfl (fun (b2 : ¬ (Int32.ofNat i) < (Int32.ofNat (C.2 13 a.toNatClampNeg))) => ?_) (fun b2 => absurd b2 hlt)
    refine y_iconst (pc := 82) (x := 1) o dX11_claim_82 (by decide) ?_
    have hz : gall (gok C a.toNatClampNeg) (C.2 13 a.toNatClampNeg) = true := by rw [show C.2 13 a.toNatClampNeg = i by omega]; exact hall
    exact y_iret (pc := 83) o dX11_claim_83 rfl rfl (by decide) (by decide) (fun h hp => gQ_mk (by simp only [F_claim, g1, hz, gb_tt, not_true_eq_false, not_false_eq_true, if_true, if_false, or_true, true_or, or_false, false_or, and_true, true_and, and_false, false_and, or_self, and_self, eq_self, Bool.false_eq_true, ne_eq, reduceIte]) hp)
  | succ m ih =>
    intro i hi hall
    have hlt : Int32.ofNat i < Int32.ofNat (C.2 13 a.toNatClampNeg) := by rw [gofs_lt (by omega) (by omega)]; omega
    have hgx := gidx (N := C.2 13 a.toNatClampNeg) (i := i) (by omega) hNB
    refine y_iload_n (pc := 8) o dX11_claim_8 rfl ?_
    refine y_aload_n (pc := 9) o dX11_claim_9 rfl ?_
    refine z_get (pc := 10) (K := (11, 0, a.toNatClampNeg)) (v := .ref (ad (4, 7, a.toNatClampNeg))) o fl_X11_460 dX11_claim_10 (gl_11 (gix_lt (Nat.le_trans (hBC 5 0 (by decide)) (by decide)) g1)) rfl rfl ?_
    refine z_callV (pc := 13) (k := 1) (n := 6) (k' := 1) (n' := 6) o (b := ad (4, 7, a.toNatClampNeg)) (As := []) (rest := [.int (Int32.ofNat i)]) (sizeC (l := 7) (g := a.toNatClampNeg) (gl_4_7 hC (gix_lt (Nat.le_trans (hBC 5 0 (by decide)) (by decide)) g1))) ln_X11_127 dX11_claim_13 (z_rc (ci := 3) (K := (4, 7, a.toNatClampNeg)) rfl (gl_4_7 hC (gix_lt (Nat.le_trans (hBC 5 0 (by decide)) (by decide)) g1)) rfl) rfl rfl (Nat.le_of_ble_eq_true rfl) ⟨by decide, by decide⟩ ⟨rfl, rfl⟩ ⟨by decide, by decide⟩ rfl gq_nox2 ?_
    refine z_icmp_ge (pc := 16) (tgt := 82) o dX11_claim_16 rfl (fun b3 => absurd hlt b3) (fun (b3 : (Int32.ofNat i) < (Int32.ofNat (C.2 13 a.toNatClampNeg))) => ?_)
    refine y_aload_n (pc := 19) o dX11_claim_19 rfl ?_
    refine z_get (pc := 20) (K := (11, 0, a.toNatClampNeg)) (v := .ref (ad (4, 7, a.toNatClampNeg))) o fl_X11_460 dX11_claim_20 (gl_11 (gix_lt (Nat.le_trans (hBC 5 0 (by decide)) (by decide)) g1)) rfl rfl ?_
    refine y_iload_n (pc := 23) o dX11_claim_23 rfl ?_
    refine z_callV (pc := 24) (k := 1) (n := 6) (k' := 1) (n' := 6) o (b := ad (4, 7, a.toNatClampNeg)) (As := [.int (Int32.ofNat i)]) (rest := []) (getC (l := 7) (g := a.toNatClampNeg) (gl_4_7 hC (gix_lt (Nat.le_trans (hBC 5 0 (by decide)) (by decide)) g1)) (hBC 7 a.toNatClampNeg (by decide)) hgx.1) ln_X11_492 dX11_claim_24 (z_rc (ci := 3) (K := (4, 7, a.toNatClampNeg)) rfl (gl_4_7 hC (gix_lt (Nat.le_trans (hBC 5 0 (by decide)) (by decide)) g1)) rfl) rfl rfl (Nat.le_of_ble_eq_true rfl) ⟨by decide, by decide⟩ ⟨rfl, rfl⟩ ⟨by decide, by decide⟩ rfl gq_nox2 ?_
    refine z_top (w := .ref (ad (13, a.toNatClampNeg, i))) (congrArg (fun z => Value.ref (ad (13, a.toNatClampNeg, z))) hgx.2) ?_
    refine z_cast (pc := 27) (ci := 11) (K := (13, a.toNatClampNeg, i)) o rfl qw_271 dX11_claim_27 (gl_13 (show i < C.2 13 a.toNatClampNeg by omega)) rfl ?_
    refine y_astore (pc := 30) (i := 4) (lv' := [(4, .ref (ad (13, a.toNatClampNeg, i))), (3, .int (Int32.ofNat i)), (2, .ref (ad (11, 0, a.toNatClampNeg))), (0, .ref (ad (0, 0, 0))), (1, .int (a))]) o dX11_claim_30 (by decide) rfl ?_
    refine y_aload (pc := 32) o dX11_claim_32 rfl ?_
    refine z_get (pc := 34) (K := (13, a.toNatClampNeg, i)) (v := .ref (ad (10, 0, (C.1 (13, a.toNatClampNeg, i) 0).toNatClampNeg))) o fl_X11_496 dX11_claim_34 (gl_13 (show i < C.2 13 a.toNatClampNeg by omega)) rfl rfl ?_
    refine z_get (pc := 37) (K := (10, 0, (C.1 (13, a.toNatClampNeg, i) 0).toNatClampNeg)) (v := .ref (ad (8, 0, (C.1 (10, 0, (C.1 (13, a.toNatClampNeg, i) 0).toNatClampNeg) 0).toNatClampNeg))) o fl_X11_381 dX11_claim_37 (gl_10 (hcl.2.2 _ _ (show i < C.2 13 a.toNatClampNeg by omega))) rfl rfl ?_
    refine z_get (pc := 40) (K := (8, 0, (C.1 (10, 0, (C.1 (13, a.toNatClampNeg, i) 0).toNatClampNeg) 0).toNatClampNeg)) (v := .int (C.1 (8, 0, (C.1 (10, 0, (C.1 (13, a.toNatClampNeg, i) 0).toNatClampNeg) 0).toNatClampNeg) 10)) o fl_X11_249 dX11_claim_40 (gl_8 (hcl.2.1 _ (hcl.2.2 _ _ (show i < C.2 13 a.toNatClampNeg by omega))).1) rfl rfl ?_
    refine z_callS (pc := 43) (k := 1) (n := 6) (k' := 1) (n' := 6) o (As := [.int (C.1 (8, 0, (C.1 (10, 0, (C.1 (13, a.toNatClampNeg, i) 0).toNatClampNeg) 0).toNatClampNeg) 10)]) (rest := []) (kGrade _) ln_X11_387 dX11_claim_43 rfl rfl (Nat.le_of_ble_eq_true rfl) ⟨by decide, by decide⟩ ⟨rfl, rfl⟩ ⟨by decide, by decide⟩ rfl gq_nox2 ?_
    refine y_aload (pc := 46) o dX11_claim_46 rfl ?_
    refine z_get (pc := 48) (K := (13, a.toNatClampNeg, i)) (v := .ref (ad (10, 0, (C.1 (13, a.toNatClampNeg, i) 0).toNatClampNeg))) o fl_X11_496 dX11_claim_48 (gl_13 (show i < C.2 13 a.toNatClampNeg by omega)) rfl rfl ?_
    refine z_get (pc := 51) (K := (10, 0, (C.1 (13, a.toNatClampNeg, i) 0).toNatClampNeg)) (v := .int (C.1 (10, 0, (C.1 (13, a.toNatClampNeg, i) 0).toNatClampNeg) 9)) o fl_X11_390 dX11_claim_51 (gl_10 (hcl.2.2 _ _ (show i < C.2 13 a.toNatClampNeg by omega))) rfl rfl ?_
    refine y_isub (pc := 54) o dX11_claim_54 ?_
    refine y_mabs (pc := 55) o qw_876 dX11_claim_55 ⟨by decide, Nat.le_of_ble_eq_true rfl⟩ (by decide) (by decide) ?_
    refine y_istore (pc := 58) (i := 5) (lv' := [(5, .int (gabs (((C.1 (8, 0, (C.1 (10, 0, (C.1 (13, a.toNatClampNeg, i) 0).toNatClampNeg) 0).toNatClampNeg) 10) / 50) - (C.1 (10, 0, (C.1 (13, a.toNatClampNeg, i) 0).toNatClampNeg) 9)))), (4, .ref (ad (13, a.toNatClampNeg, i))), (3, .int (Int32.ofNat i)), (2, .ref (ad (11, 0, a.toNatClampNeg))), (0, .ref (ad (0, 0, 0))), (1, .int (a))]) o dX11_claim_58 (by decide) rfl ?_
    refine y_iload (pc := 60) o dX11_claim_60 rfl ?_
    refine y_iconst (pc := 62) (x := 1) o dX11_claim_62 (by decide) ?_
    refine y_icmp_gt (pc := 63) (tgt := 74) o dX11_claim_63 rfl (fun (b4 : 1 < (gabs (((C.1 (8, 0, (C.1 (10, 0, (C.1 (13, a.toNatClampNeg, i) 0).toNatClampNeg) 0).toNatClampNeg) 10) / 50) - (C.1 (10, 0, (C.1 (13, a.toNatClampNeg, i) 0).toNatClampNeg) 9)))) => ?_) (fun (b4 : ¬ 1 < (gabs (((C.1 (8, 0, (C.1 (10, 0, (C.1 (13, a.toNatClampNeg, i) 0).toNatClampNeg) 0).toNatClampNeg) 10) / 50) - (C.1 (10, 0, (C.1 (13, a.toNatClampNeg, i) 0).toNatClampNeg) 9)))) => ?_)
    · refine y_iconst (pc := 74) (x := 0) o dX11_claim_74 (by decide) ?_
      have hz : gall (gok C a.toNatClampNeg) (C.2 13 a.toNatClampNeg) = false := gall_no (i := i) (by omega) (by unfold gok; simp [b4])
      exact y_iret (pc := 75) o dX11_claim_75 rfl rfl (by decide) (by decide) (fun h hp => gQ_mk (by simp only [F_claim, g1, hz, gb_ff, not_true_eq_false, not_false_eq_true, if_true, if_false, or_true, true_or, or_false, false_or, and_true, true_and, and_false, false_and, or_self, and_self, eq_self, Bool.false_eq_true, ne_eq, reduceIte]) hp)
    refine y_aload (pc := 66) o dX11_claim_66 rfl ?_
    refine z_get (pc := 68) (K := (13, a.toNatClampNeg, i)) (v := .int (C.1 (13, a.toNatClampNeg, i) 2)) o fl_X11_459 dX11_claim_68 (gl_13 (show i < C.2 13 a.toNatClampNeg by omega)) rfl rfl ?_
    refine z_if_le (pc := 71) (tgt := 76) o dX11_claim_71 rfl (fun (b5 : ¬ 0 < (C.1 (13, a.toNatClampNeg, i) 2)) => ?_) (fun (b5 : 0 < (C.1 (13, a.toNatClampNeg, i) 2)) => ?_)
    · refine y_iinc (pc := 76) (i := 3) (j := 2) (v := (Int32.ofNat i) + 1) (lv' := [(3, .int ((Int32.ofNat i) + 1)), (5, .int (gabs (((C.1 (8, 0, (C.1 (10, 0, (C.1 (13, a.toNatClampNeg, i) 0).toNatClampNeg) 0).toNatClampNeg) 10) / 50) - (C.1 (10, 0, (C.1 (13, a.toNatClampNeg, i) 0).toNatClampNeg) 9)))), (4, .ref (ad (13, a.toNatClampNeg, i))), (2, .ref (ad (11, 0, a.toNatClampNeg))), (0, .ref (ad (0, 0, 0))), (1, .int (a))]) o dX11_claim_76 rfl rfl (by decide) rfl ?_
      refine y_goto (pc := 79) (tgt := 8) o dX11_claim_79 rfl ?_
      refine y_lv [0, 3, 4, 5] (lv' := [(3, .int ((Int32.ofNat i) + 1)), (2, .ref (ad (11, 0, a.toNatClampNeg))), (0, .ref (ad (0, 0, 0))), (1, .int (a))]) rfl ?_
      rw [(gofs (n := i) (by omega)).2.2]
      exact ih (i + 1) (by omega) (by unfold gall; rw [hall, Bool.true_and]; unfold gok; simp only [b4, b5, decide_false, Bool.not_false, Bool.and_self])
    refine y_iconst (pc := 74) (x := 0) o dX11_claim_74 (by decide) ?_
    have hz : gall (gok C a.toNatClampNeg) (C.2 13 a.toNatClampNeg) = false := gall_no (i := i) (by omega) (by unfold gok; simp [b5])
    exact y_iret (pc := 75) o dX11_claim_75 rfl rfl (by decide) (by decide) (fun h hp => gQ_mk (by simp only [F_claim, g1, hz, gb_ff, not_true_eq_false, not_false_eq_true, if_true, if_false, or_true, true_or, or_false, false_or, and_true, true_and, and_false, false_and, or_self, and_self, eq_self, Bool.false_eq_true, ne_eq, reduceIte]) hp)

end Z21
