
section Z22
variable {κ : gq_K} {ad ad' : gKey → Nat} {C C' R : gG} {T : List (Nat × va_E)} {h : gq_H}
/-- what was laid is in runs, in grosses or sampled -/
def gmiss (C : gG) : Prop := C.1 (0, 0, 0) 3 - gsum (fun i => C.1 (10, 0, i) 3) (C.2 10 0) - gsum (fun i => C.1 (11, 0, i) 1) (C.2 11 0) - C.1 (0, 0, 0) 4 = 0
def F_const (C : gG) (v : Int32) : gF := (0, v, C)
theorem p_missing {κ : gq_K} {ad : gKey → Nat} {C R : gG} {T : List (Nat × va_E)} (hC : gfix C.2) (hBC : gcnt C.2) (hMi : gmiss C) : gq_C κ mX11_missing [.ref (ad (0, 0, 0))] (gR κ ad (C, R) T) (gQ κ ad R T (F_const C 0)) (gE κ ad R T [] (F_const C 0)) := by
  refine gq_enter (by decide +kernel) rfl (Nat.le_of_ble_eq_true rfl) rfl (fun f o => ?_)
  have hNB : C.2 11 0 ≤ 144 := hBC 5 0 (by decide)
  refine y_iconst (pc := 0) (x := 0) o dX11_missing_0 (by decide) ?_
  refine y_istore_n (pc := 1) (i := 1) (lv' := [(1, .int (0)), (0, .ref (ad (0, 0, 0)))]) o dX11_missing_1 rfl (by decide) rfl ?_
  refine y_iconst (pc := 2) (x := 0) o dX11_missing_2 (by decide) ?_
  refine y_istore_n (pc := 3) (i := 2) (lv' := [(2, .int (0)), (1, .int (0)), (0, .ref (ad (0, 0, 0)))]) o dX11_missing_3 rfl (by decide) rfl ?_
  suffices H : ∀ m i : Nat, i + m = C.2 11 0 → gq_Y κ mX11_missing (gQ κ ad R T (F_const C 0)) (gE κ ad R T [] (F_const C 0)) f (gR κ ad (C, R) T) [(2, .int (Int32.ofNat i)), (1, .int (gsum (fun i => C.1 (11, 0, i) 1) i)), (0, .ref (ad (0, 0, 0)))] 4 [] 0 0 from ?_
  · exact H (C.2 11 0) 0 (Nat.zero_add _)
  intro m
  induction m with
  | zero =>
    intro i hi
    have hlt : ¬ Int32.ofNat i < Int32.ofNat (C.2 11 0) := fun z => by rw [gofs_lt (by omega) (by omega)] at z; omega
    refine y_iload_n (pc := 4) o dX11_missing_4 rfl ?_
    refine y_aload_n (pc := 5) o dX11_missing_5 rfl ?_
    refine z_get (pc := 6) (K := (0, 0, 0)) (v := .ref (ad (4, 5, 0))) o fl_X11_42 dX11_missing_6 (gl_0 hC) rfl rfl ?_
    refine z_callV (pc := 9) (k := 0) (n := 0) (k' := 0) (n' := 0) o (b := ad (4, 5, 0)) (As := []) (rest := [.int (Int32.ofNat i)]) (sizeC (l := 5) (g := 0) (gl_4_5 hC)) ln_X11_127 dX11_missing_9 (z_rc (ci := 3) (K := (4, 5, 0)) rfl (gl_4_5 hC) rfl) rfl rfl (Nat.le_of_ble_eq_true rfl) ⟨by decide, by decide⟩ ⟨rfl, rfl⟩ ⟨by decide, by decide⟩ rfl gq_nox2 ?_
    refine z_icmp_ge (pc := 12) (tgt := 38) o dX11_missing_12 rfl (fun (b1 : ¬ (Int32.ofNat i) < (Int32.ofNat (C.2 11 0))) => ?_) (fun b1 => absurd b1 hlt)
    refine y_aload_n (pc := 38) o dX11_missing_38 rfl ?_
    refine z_get (pc := 39) (K := (0, 0, 0)) (v := .int (C.1 (0, 0, 0) 3)) o fl_X11_65 dX11_missing_39 (gl_0 hC) rfl rfl ?_
    refine y_aload_n (pc := 42) o dX11_missing_42 rfl ?_
    refine z_callV (pc := 43) (k := 0) (n := 0) (k' := 0) (n' := 0) o (b := ad (0, 0, 0)) (As := []) (rest := [.int (C.1 (0, 0, 0) 3)]) (kPencils hC hBC) ln_X11_524 dX11_missing_43 (z_rc (ci := 15) (K := (0, 0, 0)) rfl (gl_0 hC) rfl) rfl rfl (Nat.le_of_ble_eq_true rfl) ⟨by decide, by decide⟩ ⟨rfl, rfl⟩ ⟨by decide, by decide⟩ rfl gq_nox2 ?_
    refine y_isub (pc := 46) o dX11_missing_46 ?_
    refine y_iload_n (pc := 47) o dX11_missing_47 rfl ?_
    refine y_isub (pc := 48) o dX11_missing_48 ?_
    refine y_aload_n (pc := 49) o dX11_missing_49 rfl ?_
    refine z_get (pc := 50) (K := (0, 0, 0)) (v := .int (C.1 (0, 0, 0) 4)) o fl_X11_68 dX11_missing_50 (gl_0 hC) rfl rfl ?_
    refine y_isub (pc := 53) o dX11_missing_53 ?_
    refine z_top (w := .int 0) (congrArg Value.int (by rw [show i = C.2 11 0 by omega]; exact hMi)) ?_
    exact y_iret (pc := 54) o dX11_missing_54 rfl (vp_nar_int _) (by decide) (by decide) (fun h hp => gQ_mk rfl hp)
  | succ m ih =>
    intro i hi
    have hlt : Int32.ofNat i < Int32.ofNat (C.2 11 0) := by rw [gofs_lt (by omega) (by omega)]; omega
    have hgx := gidx (N := C.2 11 0) (i := i) (by omega) hNB
    refine y_iload_n (pc := 4) o dX11_missing_4 rfl ?_
    refine y_aload_n (pc := 5) o dX11_missing_5 rfl ?_
    refine z_get (pc := 6) (K := (0, 0, 0)) (v := .ref (ad (4, 5, 0))) o fl_X11_42 dX11_missing_6 (gl_0 hC) rfl rfl ?_
    refine z_callV (pc := 9) (k := 0) (n := 0) (k' := 0) (n' := 0) o (b := ad (4, 5, 0)) (As := []) (rest := [.int (Int32.ofNat i)]) (sizeC (l := 5) (g := 0) (gl_4_5 hC)) ln_X11_127 dX11_missing_9 (z_rc (ci := 3) (K := (4, 5, 0)) rfl (gl_4_5 hC) rfl) rfl rfl (Nat.le_of_ble_eq_true rfl) ⟨by decide, by decide⟩ ⟨rfl, rfl⟩ ⟨by decide, by decide⟩ rfl gq_nox2 ?_
    refine z_icmp_ge (pc := 12) (tgt := 38) o dX11_missing_12 rfl (fun b2 => absurd hlt b2) (fun (b2 : (Int32.ofNat i) < (Int32.ofNat (C.2 11 0))) => ?_)
    refine y_iload_n (pc := 15) o dX11_missing_15 rfl ?_
    refine y_aload_n (pc := 16) o dX11_missing_16 rfl ?_
    refine z_get (pc := 17) (K := (0, 0, 0)) (v := .ref (ad (4, 5, 0))) o fl_X11_42 dX11_missing_17 (gl_0 hC) rfl rfl ?_
    refine y_iload_n (pc := 20) o dX11_missing_20 rfl ?_
    refine z_callV (pc := 21) (k := 0) (n := 0) (k' := 0) (n' := 0) o (b := ad (4, 5, 0)) (As := [.int (Int32.ofNat i)]) (rest := [.int (gsum (fun i => C.1 (11, 0, i) 1) i)]) (getC (l := 5) (g := 0) (gl_4_5 hC) (hBC 5 0 (by decide)) hgx.1) ln_X11_492 dX11_missing_21 (z_rc (ci := 3) (K := (4, 5, 0)) rfl (gl_4_5 hC) rfl) rfl rfl (Nat.le_of_ble_eq_true rfl) ⟨by decide, by decide⟩ ⟨rfl, rfl⟩ ⟨by decide, by decide⟩ rfl gq_nox2 ?_
    refine z_top (w := .ref (ad (11, 0, i))) (congrArg (fun z => Value.ref (ad (11, 0, z))) hgx.2) ?_
    refine z_cast (pc := 24) (ci := 6) (K := (11, 0, i)) o rfl qw_249 dX11_missing_24 (gl_11 (show i < C.2 11 0 by omega)) rfl ?_
    refine z_get (pc := 27) (K := (11, 0, i)) (v := .int (C.1 (11, 0, i) 1)) o fl_X11_447 dX11_missing_27 (gl_11 (show i < C.2 11 0 by omega)) rfl rfl ?_
    refine y_iadd (pc := 30) o dX11_missing_30 ?_
    refine y_istore_n (pc := 31) (i := 1) (lv' := [(1, .int ((gsum (fun i => C.1 (11, 0, i) 1) i) + (C.1 (11, 0, i) 1))), (2, .int (Int32.ofNat i)), (0, .ref (ad (0, 0, 0)))]) o dX11_missing_31 rfl (by decide) rfl ?_
    refine y_iinc (pc := 32) (i := 2) (j := 1) (v := (Int32.ofNat i) + 1) (lv' := [(2, .int ((Int32.ofNat i) + 1)), (1, .int ((gsum (fun i => C.1 (11, 0, i) 1) i) + (C.1 (11, 0, i) 1))), (0, .ref (ad (0, 0, 0)))]) o dX11_missing_32 rfl rfl (by decide) rfl ?_
    refine y_goto (pc := 35) (tgt := 4) o dX11_missing_35 rfl ?_
    rw [(gofs (n := i) (by omega)).2.2]
    exact ih (i + 1) (by omega)

theorem kBroken {κ : gq_K} {ad : gKey → Nat} {C R : gG} {T : List (Nat × va_E)} (hC : gfix C.2) (hBC : gcnt C.2) (hBr : ∀ i, i < C.2 10 0 → ¬ C.1 (10, 0, i) 3 < C.1 (10, 0, i) 4) : gq_C κ mX11_areBrokenAmongPencils [.ref (ad (0, 0, 0))] (gR κ ad (C, R) T) (fun v9 g => v9 = some (.int 1) ∧ gR κ ad (C, R) T g) (gq_no) := by
  refine gq_enter (by decide +kernel) rfl (Nat.le_of_ble_eq_true rfl) rfl (fun f o => ?_)
  have hNB : C.2 10 0 ≤ 144 := hBC 4 0 (by decide)
  refine y_iconst (pc := 0) (x := 0) o dX11_areBrokenAmongPencils_0 (by decide) ?_
  refine y_istore_n (pc := 1) (i := 1) (lv' := [(1, .int (0)), (0, .ref (ad (0, 0, 0)))]) o dX11_areBrokenAmongPencils_1 rfl (by decide) rfl ?_
  suffices H : ∀ m i : Nat, i + m = C.2 10 0 → gq_Y κ mX11_areBrokenAmongPencils (fun v9 g => v9 = some (.int 1) ∧ gR κ ad (C, R) T g) (gq_no) f (gR κ ad (C, R) T) [(1, .int (Int32.ofNat i)), (0, .ref (ad (0, 0, 0)))] 2 [] 0 0 from ?_
  · exact H (C.2 10 0) 0 (Nat.zero_add _)
  intro m
  induction m with
  | zero =>
    intro i hi
    have hlt : ¬ Int32.ofNat i < Int32.ofNat (C.2 10 0) := fun z => by rw [gofs_lt (by omega) (by omega)] at z; omega
    refine y_iload_n (pc := 2) o dX11_areBrokenAmongPencils_2 rfl ?_
    refine y_aload_n (pc := 3) o dX11_areBrokenAmongPencils_3 rfl ?_
    refine z_get (pc := 4) (K := (0, 0, 0)) (v := .ref (ad (4, 4, 0))) o fl_X11_39 dX11_areBrokenAmongPencils_4 (gl_0 hC) rfl rfl ?_
    refine z_callV (pc := 7) (k := 0) (n := 0) (k' := 0) (n' := 0) o (b := ad (4, 4, 0)) (As := []) (rest := [.int (Int32.ofNat i)]) (sizeC (l := 4) (g := 0) (gl_4_4 hC)) ln_X11_127 dX11_areBrokenAmongPencils_7 (z_rc (ci := 3) (K := (4, 4, 0)) rfl (gl_4_4 hC) rfl) rfl rfl (Nat.le_of_ble_eq_true rfl) ⟨by decide, by decide⟩ ⟨rfl, rfl⟩ ⟨by decide, by decide⟩ rfl gq_nox2 ?_
    refine z_icmp_ge (pc := 10) (tgt := 44) o dX11_areBrokenAmongPencils_10 rfl (fun (b1 : ¬ (Int32.ofNat i) < (Int32.ofNat (C.2 10 0))) => ?_) (fun b1 => absurd b1 hlt)
    refine y_iconst (pc := 44) (x := 1) o dX11_areBrokenAmongPencils_44 (by decide) ?_
    exact y_iret (pc := 45) o dX11_areBrokenAmongPencils_45 rfl rfl (by decide) (by decide) (fun h hp => ⟨rfl, hp⟩)
  | succ m ih =>
    intro i hi
    have hlt : Int32.ofNat i < Int32.ofNat (C.2 10 0) := by rw [gofs_lt (by omega) (by omega)]; omega
    have hgx := gidx (N := C.2 10 0) (i := i) (by omega) hNB
    refine y_iload_n (pc := 2) o dX11_areBrokenAmongPencils_2 rfl ?_
    refine y_aload_n (pc := 3) o dX11_areBrokenAmongPencils_3 rfl ?_
    refine z_get (pc := 4) (K := (0, 0, 0)) (v := .ref (ad (4, 4, 0))) o fl_X11_39 dX11_areBrokenAmongPencils_4 (gl_0 hC) rfl rfl ?_
    refine z_callV (pc := 7) (k := 0) (n := 0) (k' := 0) (n' := 0) o (b := ad (4, 4, 0)) (As := []) (rest := [.int (Int32.ofNat i)]) (sizeC (l := 4) (g := 0) (gl_4_4 hC)) ln_X11_127 dX11_areBrokenAmongPencils_7 (z_rc (ci := 3) (K := (4, 4, 0)) rfl (gl_4_4 hC) rfl) rfl rfl (Nat.le_of_ble_eq_true rfl) ⟨by decide, by decide⟩ ⟨rfl, rfl⟩ ⟨by decide, by decide⟩ rfl gq_nox2 ?_
    refine z_icmp_ge (pc := 10) (tgt := 44) o dX11_areBrokenAmongPencils_10 rfl (fun b2 => absurd hlt b2) (fun (b2 : (Int32.ofNat i) < (Int32.ofNat (C.2 10 0))) => ?_)
    refine y_aload_n (pc := 13) o dX11_areBrokenAmongPencils_13 rfl ?_
    refine z_get (pc := 14) (K := (0, 0, 0)) (v := .ref (ad (4, 4, 0))) o fl_X11_39 dX11_areBrokenAmongPencils_14 (gl_0 hC) rfl rfl ?_
    refine y_iload_n (pc := 17) o dX11_areBrokenAmongPencils_17 rfl ?_
    refine z_callV (pc := 18) (k := 0) (n := 0) (k' := 0) (n' := 0) o (b := ad (4, 4, 0)) (As := [.int (Int32.ofNat i)]) (rest := []) (getC (l := 4) (g := 0) (gl_4_4 hC) (hBC 4 0 (by decide)) hgx.1) ln_X11_492 dX11_areBrokenAmongPencils_18 (z_rc (ci := 3) (K := (4, 4, 0)) rfl (gl_4_4 hC) rfl) rfl rfl (Nat.le_of_ble_eq_true rfl) ⟨by decide, by decide⟩ ⟨rfl, rfl⟩ ⟨by decide, by decide⟩ rfl gq_nox2 ?_
    refine z_top (w := .ref (ad (10, 0, i))) (congrArg (fun z => Value.ref (ad (10, 0, z))) hgx.2) ?_
    refine z_cast (pc := 21) (ci := 12) (K := (10, 0, i)) o rfl qw_254 dX11_areBrokenAmongPencils_21 (gl_10 (show i < C.2 10 0 by omega)) rfl ?_
    refine y_astore_n (pc := 24) (i := 2) (lv' := [(2, .ref (ad (10, 0, i))), (1, .int (Int32.ofNat i)), (0, .ref (ad (0, 0, 0)))]) o dX11_areBrokenAmongPencils_24 rfl (by decide) rfl ?_
    refine y_aload_n (pc := 25) o dX11_areBrokenAmongPencils_25 rfl ?_
    refine z_get (pc := 26) (K := (10, 0, i)) (v := .int (C.1 (10, 0, i) 4)) o fl_X11_403 dX11_areBrokenAmongPencils_26 (gl_10 (show i < C.2 10 0 by omega)) rfl rfl ?_
    refine y_aload_n (pc := 29) o dX11_areBrokenAmongPencils_29 rfl ?_
    refine z_get (pc := 30) (K := (10, 0, i)) (v := .int (C.1 (10, 0, i) 3)) o fl_X11_400 dX11_areBrokenAmongPencils_30 (gl_10 (show i < C.2 10 0 by omega)) rfl rfl ?_
    refine z_icmp_le (pc := 33) (tgt := 38) o dX11_areBrokenAmongPencils_33 rfl (fun (b3 : ¬ (C.1 (10, 0, i) 3) < (C.1 (10, 0, i) 4)) => ?_) (fun b3 => absurd b3 (hBr i (by omega)))
    refine y_iinc (pc := 38) (i := 1) (j := 1) (v := (Int32.ofNat i) + 1) (lv' := [(1, .int ((Int32.ofNat i) + 1)), (2, .ref (ad (10, 0, i))), (0, .ref (ad (0, 0, 0)))]) o dX11_areBrokenAmongPencils_38 rfl rfl (by decide) rfl ?_
    refine y_goto (pc := 41) (tgt := 2) o dX11_areBrokenAmongPencils_41 rfl ?_
    refine y_lv [0, 2] (lv' := [(1, .int ((Int32.ofNat i) + 1)), (0, .ref (ad (0, 0, 0)))]) rfl ?_
    rw [(gofs (n := i) (by omega)).2.2]
    exact ih (i + 1) (by omega)

theorem kGrades {κ : gq_K} {ad : gKey → Nat} {C R : gG} {T : List (Nat × va_E)} (hC : gfix C.2) (hBC : gcnt C.2) (hGr : ∀ i j, i < C.2 11 0 → j < C.2 13 i → C.1 (10, 0, (C.1 (13, i, j) 0).toNatClampNeg) 9 = C.1 (11, 0, i) 0) : gq_C κ mX11_areGrossesOfOneGrade [.ref (ad (0, 0, 0))] (gR κ ad (C, R) T) (fun v9 g => v9 = some (.int 1) ∧ gR κ ad (C, R) T g) (gq_no) := by
  refine gq_enter (by decide +kernel) rfl (Nat.le_of_ble_eq_true rfl) rfl (fun f o => ?_)
  refine z_fact (fun h hr => hr.clC) (fun hcl => ?_)
  have hNB : C.2 11 0 ≤ 144 := hBC 5 0 (by decide)
  refine y_iconst (pc := 0) (x := 0) o dX11_areGrossesOfOneGrade_0 (by decide) ?_
  refine y_istore_n (pc := 1) (i := 1) (lv' := [(1, .int (0)), (0, .ref (ad (0, 0, 0)))]) o dX11_areGrossesOfOneGrade_1 rfl (by decide) rfl ?_
  suffices H : ∀ m i : Nat, i + m = C.2 11 0 → gq_Y κ mX11_areGrossesOfOneGrade (fun v9 g => v9 = some (.int 1) ∧ gR κ ad (C, R) T g) (gq_no) f (gR κ ad (C, R) T) [(1, .int (Int32.ofNat i)), (0, .ref (ad (0, 0, 0)))] 2 [] 0 0 from ?_
  · exact H (C.2 11 0) 0 (Nat.zero_add _)
  intro m
  induction m with
  | zero =>
    intro i hi
    have hlt : ¬ Int32.ofNat i < Int32.ofNat (C.2 11 0) := fun z => by rw [gofs_lt (by omega) (by omega)] at z; omega
    refine y_iload_n (pc := 2) o dX11_areGrossesOfOneGrade_2 rfl ?_
    refine y_aload_n (pc := 3) o dX11_areGrossesOfOneGrade_3 rfl ?_
    refine z_get (pc := 4) (K := (0, 0, 0)) (v := .ref (ad (4, 5, 0))) o fl_X11_42 dX11_areGrossesOfOneGrade_4 (gl_0 hC) rfl rfl ?_
    refine z_callV (pc := 7) (k := 0) (n := 0) (k' := 0) (n' := 0) o (b := ad (4, 5, 0)) (As := []) (rest := [.int (Int32.ofNat i)]) (sizeC (l := 5) (g := 0) (gl_4_5 hC)) ln_X11_127 dX11_areGrossesOfOneGrade_7 (z_rc (ci := 3) (K := (4, 5, 0)) rfl (gl_4_5 hC) rfl) rfl rfl (Nat.le_of_ble_eq_true rfl) ⟨by decide, by decide⟩ ⟨rfl, rfl⟩ ⟨by decide, by decide⟩ rfl gq_nox2 ?_
    refine z_icmp_ge (pc := 10) (tgt := 76) o dX11_areGrossesOfOneGrade_10 rfl (fun (b1 : ¬ (Int32.ofNat i) < (Int32.ofNat (C.2 11 0))) => ?_) (fun b1 => absurd b1 hlt)
    refine y_iconst (pc := 76) (x := 1) o dX11_areGrossesOfOneGrade_76 (by decide) ?_
    exact y_iret (pc := 77) o dX11_areGrossesOfOneGrade_77 rfl rfl (by decide) (by decide) (fun h hp => ⟨rfl, hp⟩)
  | succ m ih =>
    intro i hi
    have hlt : Int32.ofNat i < Int32.ofNat (C.2 11 0) := by rw [gofs_lt (by omega) (by omega)]; omega
    have hgx := gidx (N := C.2 11 0) (i := i) (by omega) hNB
    refine y_iload_n (pc := 2) o dX11_areGrossesOfOneGrade_2 rfl ?_
    refine y_aload_n (pc := 3) o dX11_areGrossesOfOneGrade_3 rfl ?_
    refine z_get (pc := 4) (K := (0, 0, 0)) (v := .ref (ad (4, 5, 0))) o fl_X11_42 dX11_areGrossesOfOneGrade_4 (gl_0 hC) rfl rfl ?_
    refine z_callV (pc := 7) (k := 0) (n := 0) (k' := 0) (n' := 0) o (b := ad (4, 5, 0)) (As := []) (rest := [.int (Int32.ofNat i)]) (sizeC (l := 5) (g := 0) (gl_4_5 hC)) ln_X11_127 dX11_areGrossesOfOneGrade_7 (z_rc (ci := 3) (K := (4, 5, 0)) rfl (gl_4_5 hC) rfl) rfl rfl (Nat.le_of_ble_eq_true rfl) ⟨by decide, by decide⟩ ⟨rfl, rfl⟩ ⟨by decide, by decide⟩ rfl gq_nox2 ?_
    refine z_icmp_ge (pc := 10) (tgt := 76) o dX11_areGrossesOfOneGrade_10 rfl (fun b2 => absurd hlt b2) (fun (b2 : (Int32.ofNat i) < (Int32.ofNat (C.2 11 0))) => ?_)
    refine y_aload_n (pc := 13) o dX11_areGrossesOfOneGrade_13 rfl ?_
    refine z_get (pc := 14) (K := (0, 0, 0)) (v := .ref (ad (4, 5, 0))) o fl_X11_42 dX11_areGrossesOfOneGrade_14 (gl_0 hC) rfl rfl ?_
    refine y_iload_n (pc := 17) o dX11_areGrossesOfOneGrade_17 rfl ?_
    refine z_callV (pc := 18) (k := 0) (n := 0) (k' := 0) (n' := 0) o (b := ad (4, 5, 0)) (As := [.int (Int32.ofNat i)]) (rest := []) (getC (l := 5) (g := 0) (gl_4_5 hC) (hBC 5 0 (by decide)) hgx.1) ln_X11_492 dX11_areGrossesOfOneGrade_18 (z_rc (ci := 3) (K := (4, 5, 0)) rfl (gl_4_5 hC) rfl) rfl rfl (Nat.le_of_ble_eq_true rfl) ⟨by decide, by decide⟩ ⟨rfl, rfl⟩ ⟨by decide, by decide⟩ rfl gq_nox2 ?_
    refine z_top (w := .ref (ad (11, 0, i))) (congrArg (fun z => Value.ref (ad (11, 0, z))) hgx.2) ?_
    refine z_cast (pc := 21) (ci := 6) (K := (11, 0, i)) o rfl qw_249 dX11_areGrossesOfOneGrade_21 (gl_11 (show i < C.2 11 0 by omega)) rfl ?_
    refine y_astore_n (pc := 24) (i := 2) (lv' := [(2, .ref (ad (11, 0, i))), (1, .int (Int32.ofNat i)), (0, .ref (ad (0, 0, 0)))]) o dX11_areGrossesOfOneGrade_24 rfl (by decide) rfl ?_
    refine y_iconst (pc := 25) (x := 0) o dX11_areGrossesOfOneGrade_25 (by decide) ?_
    refine y_istore_n (pc := 26) (i := 3) (lv' := [(3, .int (0)), (2, .ref (ad (11, 0, i))), (1, .int (Int32.ofNat i)), (0, .ref (ad (0, 0, 0)))]) o dX11_areGrossesOfOneGrade_26 rfl (by decide) rfl ?_
    have hNB2 : C.2 13 i ≤ 144 := hBC 7 _ (by decide)
    suffices H2 : ∀ m2 j : Nat, j + m2 = C.2 13 i → gq_Y κ mX11_areGrossesOfOneGrade (fun v9 g => v9 = some (.int 1) ∧ gR κ ad (C, R) T g) gq_no f (gR κ ad (C, R) T) [(3, .int (Int32.ofNat j)), (2, .ref (ad (11, 0, i))), (1, .int (Int32.ofNat i)), (0, .ref (ad (0, 0, 0)))] 27 [] 0 0 from ?_
    · exact H2 (C.2 13 i) 0 (Nat.zero_add _)
    intro m2
    induction m2 with
    | zero =>
      intro j hj
      have hlt2 : ¬ Int32.ofNat j < Int32.ofNat (C.2 13 i) := fun z => by rw [gofs_lt (by omega) (by omega)] at z; omega
      refine y_iload_n (pc := 27) o dX11_areGrossesOfOneGrade_27 rfl ?_
      refine y_aload_n (pc := 28) o dX11_areGrossesOfOneGrade_28 rfl ?_
      refine z_get (pc := 29) (K := (11, 0, i)) (v := .ref (ad (4, 7, i))) o fl_X11_460 dX11_areGrossesOfOneGrade_29 (gl_11 (show i < C.2 11 0 by omega)) rfl rfl ?_
      refine z_callV (pc := 32) (k := 0) (n := 0) (k' := 0) (n' := 0) o (b := ad (4, 7, i)) (As := []) (rest := [.int (Int32.ofNat j)]) (sizeC (l := 7) (g := i) (gl_4_7 hC (show i < C.2 11 0 by omega))) ln_X11_127 dX11_areGrossesOfOneGrade_32 (z_rc (ci := 3) (K := (4, 7, i)) rfl (gl_4_7 hC (show i < C.2 11 0 by omega)) rfl) rfl rfl (Nat.le_of_ble_eq_true rfl) ⟨by decide, by decide⟩ ⟨rfl, rfl⟩ ⟨by decide, by decide⟩ rfl gq_nox2 ?_
      refine z_icmp_ge (pc := 35) (tgt := 70) o dX11_areGrossesOfOneGrade_35 rfl (fun (b3 : ¬ (Int32.ofNat j) < (Int32.ofNat (C.2 13 i))) => ?_) (fun b3 => absurd b3 hlt2)
      refine y_iinc (pc := 70) (i := 1) (j := 2) (v := (Int32.ofNat i) + 1) (lv' := [(1, .int ((Int32.ofNat i) + 1)), (3, .int (Int32.ofNat j)), (2, .ref (ad (11, 0, i))), (0, .ref (ad (0, 0, 0)))]) o dX11_areGrossesOfOneGrade_70 rfl rfl (by decide) rfl ?_
      refine y_goto (pc := 73) (tgt := 2) o dX11_areGrossesOfOneGrade_73 rfl ?_
      refine y_lv [0, 3] (lv' := [(1, .int ((Int32.ofNat i) + 1)), (0, .ref (ad (0, 0, 0)))]) rfl ?_
      rw [(gofs (n := i) (by omega)).2.2]
      exact ih (i + 1) (by omega)
    | succ m2 ih2 =>
      intro j hj
      have hlt2 : Int32.ofNat j < Int32.ofNat (C.2 13 i) := by rw [gofs_lt (by omega) (by omega)]; omega
      have hgy := gidx (N := C.2 13 i) (i := j) (by omega) hNB2
      refine y_iload_n (pc := 27) o dX11_areGrossesOfOneGrade_27 rfl ?_
      refine y_aload_n (pc := 28) o dX11_areGrossesOfOneGrade_28 rfl ?_
      refine z_get (pc := 29) (K := (11, 0, i)) (v := .ref (ad (4, 7, i))) o fl_X11_460 dX11_areGrossesOfOneGrade_29 (gl_11 (show i < C.2 11 0 by omega)) rfl rfl ?_
      refine z_callV (pc := 32) (k := 0) (n := 0) (k' := 0) (n' := 0) o (b := ad (4, 7, i)) (As := []) (rest := [.int (Int32.ofNat j)]) (sizeC (l := 7) (g := i) (gl_4_7 hC (show i < C.2 11 0 by omega))) ln_X11_127 dX11_areGrossesOfOneGrade_32 (z_rc (ci := 3) (K := (4, 7, i)) rfl (gl_4_7 hC (show i < C.2 11 0 by omega)) rfl) rfl rfl (Nat.le_of_ble_eq_true rfl) ⟨by decide, by decide⟩ ⟨rfl, rfl⟩ ⟨by decide, by decide⟩ rfl gq_nox2 ?_
      refine z_icmp_ge (pc := 35) (tgt := 70) o dX11_areGrossesOfOneGrade_35 rfl (fun b4 => absurd hlt2 b4) (fun (b4 : (Int32.ofNat j) < (Int32.ofNat (C.2 13 i))) => ?_)
      refine y_aload_n (pc := 38) o dX11_areGrossesOfOneGrade_38 rfl ?_
      refine z_get (pc := 39) (K := (11, 0, i)) (v := .ref (ad (4, 7, i))) o fl_X11_460 dX11_areGrossesOfOneGrade_39 (gl_11 (show i < C.2 11 0 by omega)) rfl rfl ?_
      refine y_iload_n (pc := 42) o dX11_areGrossesOfOneGrade_42 rfl ?_
      refine z_callV (pc := 43) (k := 0) (n := 0) (k' := 0) (n' := 0) o (b := ad (4, 7, i)) (As := [.int (Int32.ofNat j)]) (rest := []) (getC (l := 7) (g := i) (gl_4_7 hC (show i < C.2 11 0 by omega)) (hBC 7 i (by decide)) hgy.1) ln_X11_492 dX11_areGrossesOfOneGrade_43 (z_rc (ci := 3) (K := (4, 7, i)) rfl (gl_4_7 hC (show i < C.2 11 0 by omega)) rfl) rfl rfl (Nat.le_of_ble_eq_true rfl) ⟨by decide, by decide⟩ ⟨rfl, rfl⟩ ⟨by decide, by decide⟩ rfl gq_nox2 ?_
      refine z_top (w := .ref (ad (13, i, j))) (congrArg (fun z => Value.ref (ad (13, i, z))) hgy.2) ?_
      refine z_cast (pc := 46) (ci := 11) (K := (13, i, j)) o rfl qw_271 dX11_areGrossesOfOneGrade_46 (gl_13 (show j < C.2 13 i by omega)) rfl ?_
      refine z_get (pc := 49) (K := (13, i, j)) (v := .ref (ad (10, 0, (C.1 (13, i, j) 0).toNatClampNeg))) o fl_X11_496 dX11_areGrossesOfOneGrade_49 (gl_13 (show j < C.2 13 i by omega)) rfl rfl ?_
      refine z_get (pc := 52) (K := (10, 0, (C.1 (13, i, j) 0).toNatClampNeg)) (v := .int (C.1 (10, 0, (C.1 (13, i, j) 0).toNatClampNeg) 9)) o fl_X11_390 dX11_areGrossesOfOneGrade_52 (gl_10 (hcl.2.2 _ _ (show j < C.2 13 i by omega))) rfl rfl ?_
      refine y_aload_n (pc := 55) o dX11_areGrossesOfOneGrade_55 rfl ?_
      refine z_get (pc := 56) (K := (11, 0, i)) (v := .int (C.1 (11, 0, i) 0)) o fl_X11_442 dX11_areGrossesOfOneGrade_56 (gl_11 (show i < C.2 11 0 by omega)) rfl rfl ?_
      refine y_icmp_eq (pc := 59) (tgt := 64) o dX11_areGrossesOfOneGrade_59 rfl (fun (b5 : (C.1 (10, 0, (C.1 (13, i, j) 0).toNatClampNeg) 9) = (C.1 (11, 0, i) 0)) => ?_) (fun b5 => absurd (hGr i j (by omega) (by omega)) b5)
      refine y_iinc (pc := 64) (i := 3) (j := 0) (v := (Int32.ofNat j) + 1) (lv' := [(3, .int ((Int32.ofNat j) + 1)), (2, .ref (ad (11, 0, i))), (1, .int (Int32.ofNat i)), (0, .ref (ad (0, 0, 0)))]) o dX11_areGrossesOfOneGrade_64 rfl rfl (by decide) rfl ?_
      refine y_goto (pc := 67) (tgt := 27) o dX11_areGrossesOfOneGrade_67 rfl ?_
      rw [(gofs (n := j) (by omega)).2.2]
      exact ih2 (j + 1) (by omega)

theorem p_isSound {κ : gq_K} {ad : gKey → Nat} {C R : gG} {T : List (Nat × va_E)} (hC : gfix C.2) (hBC : gcnt C.2) (hM : gmach C) (hMi : gmiss C) (hA : ∀ i, i < 4 → gchn C 4 i = true) (hBr : ∀ i, i < C.2 10 0 → ¬ C.1 (10, 0, i) 3 < C.1 (10, 0, i) 4) (hGr : ∀ i j, i < C.2 11 0 → j < C.2 13 i → C.1 (10, 0, (C.1 (13, i, j) 0).toNatClampNeg) 9 = C.1 (11, 0, i) 0) : gq_C κ mX11_isSound [.ref (ad (0, 0, 0))] (gR κ ad (C, R) T) (gQ κ ad R T (F_const C 1)) (gE κ ad R T [] (F_const C 1)) := by
  refine gq_enter (by decide +kernel) rfl (Nat.le_of_ble_eq_true rfl) rfl (fun f o => ?_)
  refine y_aload_n (pc := 0) o dX11_isSound_0 rfl ?_
  refine y_callV (pc := 1) (k := 0) (n := 0) o (b := ad (0, 0, 0)) (As := []) (rest := []) (p_missing hC hBC hMi) ln_X11_538 dX11_isSound_1 (z_rc (ci := 15) (K := (0, 0, 0)) rfl (gl_0 hC) rfl) rfl rfl (Nat.le_of_ble_eq_true rfl) ⟨by decide, by decide⟩ ⟨by decide, by decide⟩ (fun _ e => e) rfl (fun x h hE => by have := hE.1; cases this) (fun v => y_and fun _ => y_and fun ev => y_ex fun ad1 => y_and fun e0 => y_and fun e20 => ?_)
  subst ev
  refine z_st (st' := [.int 0]) rfl ?_
  rw [← e0]
  refine y_if_ne (pc := 4) (tgt := 35) o dX11_isSound_4 rfl (fun b1 => absurd b1 (by decide)) (fun (b1 : 0 = 0) => ?_)
  refine y_aload_n (pc := 7) o dX11_isSound_7 rfl ?_
  refine z_callV (pc := 8) (k := 0) (n := 0) (k' := 0) (n' := 0) o (b := ad1 (0, 0, 0)) (As := []) (rest := []) (kGrades hC hBC hGr) ln_X11_541 dX11_isSound_8 (z_rc (ci := 15) (K := (0, 0, 0)) rfl (gl_0 hC) rfl) rfl rfl (Nat.le_of_ble_eq_true rfl) ⟨by decide, by decide⟩ ⟨rfl, rfl⟩ ⟨by decide, by decide⟩ rfl gq_nox2 ?_
  refine y_if_eq (pc := 11) (tgt := 35) o dX11_isSound_11 rfl (fun b2 => absurd b2 (by decide)) (fun (b2 : ¬ 1 = 0) => ?_)
  refine y_aload_n (pc := 14) o dX11_isSound_14 rfl ?_
  refine z_get (pc := 15) (K := (0, 0, 0)) (v := .ref (ad1 (1, 0, 0))) o fl_X11_10 dX11_isSound_15 (gl_0 hC) rfl rfl ?_
  refine z_callV (pc := 18) (k := 0) (n := 0) (k' := 0) (n' := 0) o (b := ad1 (1, 0, 0)) (As := []) (rest := []) (kNoRing hC hM hA) ln_X11_544 dX11_isSound_18 (z_rc (ci := 5) (K := (1, 0, 0)) rfl (gl_1 hC) rfl) rfl rfl (Nat.le_of_ble_eq_true rfl) ⟨by decide, by decide⟩ ⟨rfl, rfl⟩ ⟨by decide, by decide⟩ rfl gq_nox2 ?_
  refine y_if_eq (pc := 21) (tgt := 35) o dX11_isSound_21 rfl (fun b3 => absurd b3 (by decide)) (fun (b3 : ¬ 1 = 0) => ?_)
  refine y_aload_n (pc := 24) o dX11_isSound_24 rfl ?_
  refine z_callV (pc := 25) (k := 0) (n := 0) (k' := 0) (n' := 0) o (b := ad1 (0, 0, 0)) (As := []) (rest := []) (kBroken hC hBC hBr) ln_X11_547 dX11_isSound_25 (z_rc (ci := 15) (K := (0, 0, 0)) rfl (gl_0 hC) rfl) rfl rfl (Nat.le_of_ble_eq_true rfl) ⟨by decide, by decide⟩ ⟨rfl, rfl⟩ ⟨by decide, by decide⟩ rfl gq_nox2 ?_
  refine y_if_eq (pc := 28) (tgt := 35) o dX11_isSound_28 rfl (fun b4 => absurd b4 (by decide)) (fun (b4 : ¬ 1 = 0) => ?_)
  refine y_iconst (pc := 31) (x := 1) o dX11_isSound_31 (by decide) ?_
  refine y_goto (pc := 32) (tgt := 36) o dX11_isSound_32 rfl ?_
  exact y_iret (pc := 36) o dX11_isSound_36 rfl rfl (by decide) (by decide) (fun h hp => gQ_mk2 rfl e0 e20 hp)

end Z22
