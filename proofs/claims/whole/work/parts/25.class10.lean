
section Z25
variable {κ : gq_K} {ad ad' : gKey → Nat} {C C' R : gG} {T : List (Nat × va_E)} {h : gq_H}
theorem gnn32 {r : UInt32} (h : FP.Core.fIsNaN r = false) : vf_n32 r := by
  have h1 : ¬ (2139095040 < r.toNat % 2 ^ 31) := fun z => by rw [(FP.Core.isNaN_bits32 r).mpr z] at h; cases h
  unfold vf_n32
  rw [UInt32.le_iff_toNat_le, UInt32.toNat_and]
  have e : (0x7fffffff : UInt32).toNat = 2 ^ 31 - 1 := rfl
  rw [e, Nat.and_two_pow_sub_one_eq_mod]
  exact Nat.not_lt.mp h1
theorem gnn64 {r : UInt64} (h : FP.Core.dIsNaN r = false) : vf_n64 r := by
  have h1 : ¬ (9218868437227405312 < r.toNat % 2 ^ 63) := fun z => by rw [(FP.Core.isNaN_bits r).mpr z] at h; cases h
  unfold vf_n64
  rw [UInt64.le_iff_toNat_le, UInt64.toNat_and]
  have e : (0x7fffffffffffffff : UInt64).toNat = 2 ^ 63 - 1 := rfl
  rw [e, Nat.and_two_pow_sub_one_eq_mod]
  exact Nat.not_lt.mp h1
theorem gfz {b : Int32} (hb : ¬ b = 0) : ¬ FP.Core.FZero (FP.i2f b) := fun z => FP.Core.i2f_ne_zero hb ((FP.Core.zero_bits232 _).mp z)
theorem gdz {b : Int32} (hb : ¬ b = 0) : ¬ FP.Core.DZero (FP.i2d b) := fun z => FP.Core.i2d_ne_zero hb ((FP.Core.zero_bits2 _).mp z)
/-- a quotient of ints is a number -/
theorem gfdiv {a b : Int32} (hb : ¬ b = 0) : FP.Core.fIsNaN (FP.fdiv (FP.i2f a) (FP.i2f b)) = false := FP.Core.fdiv_out (FP.Core.FFin.notNaN (FP.Core.i2f_fin a)) (FP.Core.i2f_fin b) (gfz hb)
theorem gddiv {a b : Int32} (hb : ¬ b = 0) : FP.Core.dIsNaN (FP.ddiv (FP.i2d a) (FP.i2d b)) = false := FP.Core.ddiv_out (FP.Core.DFin.notNaN (FP.Core.i2d_fin a)) (FP.Core.i2d_fin b) (gdz hb)
theorem gnz1 {x : Int32} (h : ¬ x < 1) : ¬ x = 0 := fun z => h (by rw [z]; decide)
def gpen (C : gG) : Int32 := gsum (fun i => C.1 (10, 0, i) 3) (C.2 10 0)
def gbro (C : gG) : Int32 := gsum (fun i => C.1 (10, 0, i) 4) (C.2 10 0)
/-- batches that were fired, and their darkness -/
def gfir (C : gG) : Int32 := gsum (fun i => if C.1 (8, 0, i) 6 < 0 then 0 else 1) (C.2 8 0)
def gdrk (C : gG) : Int32 := gsum (fun i => if C.1 (8, 0, i) 6 < 0 then 0 else C.1 (8, 0, i) 10) (C.2 8 0)
theorem gsum_1 (f : Nat → Int32) (n : Nat) : gsum f (n + 1) = gsum f n + f n := rfl
theorem p_brokenShare {κ : gq_K} {ad : gKey → Nat} {C R : gG} {T : List (Nat × va_E)} (hC : gfix C.2) (hBC : gcnt C.2) : gq_C κ mX11_brokenShare [.ref (ad (0, 0, 0))] (gR κ ad (C, R) T) (fun v9 g => ¬ gpen C < 1 ∧ v9 = some (.float (FP.fdiv (FP.i2f (gbro C)) (FP.i2f (gpen C)))) ∧ gR κ ad (C, R) T g) (fun e g => e = "java/lang/ArithmeticException" ∧ gpen C < 1 ∧ gR κ ad (C, R) T g) := by
  refine gq_enter (by decide +kernel) rfl (Nat.le_of_ble_eq_true rfl) rfl (fun f o => ?_)
  have hNB : C.2 10 0 ≤ 144 := hBC 4 0 (by decide)
  refine y_aload_n (pc := 0) o dX11_brokenShare_0 rfl ?_
  refine z_callV (pc := 1) (k := 0) (n := 0) (k' := 0) (n' := 0) o (b := ad (0, 0, 0)) (As := []) (rest := []) (kPencils hC hBC) ln_X11_524 dX11_brokenShare_1 (z_rc (ci := 15) (K := (0, 0, 0)) rfl (gl_0 hC) rfl) rfl rfl (Nat.le_of_ble_eq_true rfl) ⟨by decide, by decide⟩ ⟨rfl, rfl⟩ ⟨by decide, by decide⟩ rfl gq_nox2 ?_
  refine y_istore_n (pc := 4) (i := 1) (lv' := [(1, .int (gpen C)), (0, .ref (ad (0, 0, 0)))]) o dX11_brokenShare_4 rfl (by decide) rfl ?_
  refine y_iload_n (pc := 5) o dX11_brokenShare_5 rfl ?_
  refine y_iconst (pc := 6) (x := 1) o dX11_brokenShare_6 (by decide) ?_
  refine z_icmp_ge (pc := 7) (tgt := 21) o dX11_brokenShare_7 rfl (fun (b1 : ¬ (gpen C) < 1) => ?_) (fun (b1 : (gpen C) < 1) => ?_)
  · refine y_iconst (pc := 21) (x := 0) o dX11_brokenShare_21 (by decide) ?_
    refine y_istore_n (pc := 22) (i := 2) (lv' := [(2, .int (0)), (1, .int (gpen C)), (0, .ref (ad (0, 0, 0)))]) o dX11_brokenShare_22 rfl (by decide) rfl ?_
    refine y_iconst (pc := 23) (x := 0) o dX11_brokenShare_23 (by decide) ?_
    refine y_istore_n (pc := 24) (i := 3) (lv' := [(3, .int (0)), (2, .int (0)), (1, .int (gpen C)), (0, .ref (ad (0, 0, 0)))]) o dX11_brokenShare_24 rfl (by decide) rfl ?_
    suffices H : ∀ m i : Nat, i + m = C.2 10 0 → gq_Y κ mX11_brokenShare (fun v9 g => ¬ gpen C < 1 ∧ v9 = some (.float (FP.fdiv (FP.i2f (gbro C)) (FP.i2f (gpen C)))) ∧ gR κ ad (C, R) T g) (fun e g => e = "java/lang/ArithmeticException" ∧ gpen C < 1 ∧ gR κ ad (C, R) T g) f (gR κ ad (C, R) T) [(3, .int (Int32.ofNat i)), (2, .int (gsum (fun i => C.1 (10, 0, i) 4) i)), (1, .int (gpen C)), (0, .ref (ad (0, 0, 0)))] 25 [] 0 0 from ?_
    · exact H (C.2 10 0) 0 (Nat.zero_add _)
    intro m
    induction m with
    | zero =>
      intro i hi
      have hlt : ¬ Int32.ofNat i < Int32.ofNat (C.2 10 0) := fun z => by rw [gofs_lt (by omega) (by omega)] at z; omega
      refine y_iload_n (pc := 25) o dX11_brokenShare_25 rfl ?_
      refine y_aload_n (pc := 26) o dX11_brokenShare_26 rfl ?_
      refine z_get (pc := 27) (K := (0, 0, 0)) (v := .ref (ad (4, 4, 0))) o fl_X11_39 dX11_brokenShare_27 (gl_0 hC) rfl rfl ?_
      refine z_callV (pc := 30) (k := 0) (n := 0) (k' := 0) (n' := 0) o (b := ad (4, 4, 0)) (As := []) (rest := [.int (Int32.ofNat i)]) (sizeC (l := 4) (g := 0) (gl_4_4 hC)) ln_X11_127 dX11_brokenShare_30 (z_rc (ci := 3) (K := (4, 4, 0)) rfl (gl_4_4 hC) rfl) rfl rfl (Nat.le_of_ble_eq_true rfl) ⟨by decide, by decide⟩ ⟨rfl, rfl⟩ ⟨by decide, by decide⟩ rfl gq_nox2 ?_
      refine z_icmp_ge (pc := 33) (tgt := 59) o dX11_brokenShare_33 rfl (fun (b2 : ¬ (Int32.ofNat i) < (Int32.ofNat (C.2 10 0))) => ?_) (fun b2 => absurd b2 hlt)
      obtain rfl : i = C.2 10 0 := by omega
      refine y_iload_n (pc := 59) o dX11_brokenShare_59 rfl ?_
      refine y_i2f (pc := 60) o dX11_brokenShare_60 ?_
      refine y_iload_n (pc := 61) o dX11_brokenShare_61 rfl ?_
      refine y_i2f (pc := 62) o dX11_brokenShare_62 ?_
      refine y_fdiv (pc := 63) o dX11_brokenShare_63 (gnn32 (gfdiv (gnz1 b1))) ?_
      exact y_fret (pc := 64) o dX11_brokenShare_64 rfl (by decide) (by decide) (fun h hp => ⟨b1, rfl, hp⟩)
    | succ m ih =>
      intro i hi
      have hlt : Int32.ofNat i < Int32.ofNat (C.2 10 0) := by rw [gofs_lt (by omega) (by omega)]; omega
      have hgx := gidx (N := C.2 10 0) (i := i) (by omega) hNB
      refine y_iload_n (pc := 25) o dX11_brokenShare_25 rfl ?_
      refine y_aload_n (pc := 26) o dX11_brokenShare_26 rfl ?_
      refine z_get (pc := 27) (K := (0, 0, 0)) (v := .ref (ad (4, 4, 0))) o fl_X11_39 dX11_brokenShare_27 (gl_0 hC) rfl rfl ?_
      refine z_callV (pc := 30) (k := 0) (n := 0) (k' := 0) (n' := 0) o (b := ad (4, 4, 0)) (As := []) (rest := [.int (Int32.ofNat i)]) (sizeC (l := 4) (g := 0) (gl_4_4 hC)) ln_X11_127 dX11_brokenShare_30 (z_rc (ci := 3) (K := (4, 4, 0)) rfl (gl_4_4 hC) rfl) rfl rfl (Nat.le_of_ble_eq_true rfl) ⟨by decide, by decide⟩ ⟨rfl, rfl⟩ ⟨by decide, by decide⟩ rfl gq_nox2 ?_
      refine z_icmp_ge (pc := 33) (tgt := 59) o dX11_brokenShare_33 rfl (fun b3 => absurd hlt b3) (fun (b3 : (Int32.ofNat i) < (Int32.ofNat (C.2 10 0))) => ?_)
      refine y_iload_n (pc := 36) o dX11_brokenShare_36 rfl ?_
      refine y_aload_n (pc := 37) o dX11_brokenShare_37 rfl ?_
      refine z_get (pc := 38) (K := (0, 0, 0)) (v := .ref (ad (4, 4, 0))) o fl_X11_39 dX11_brokenShare_38 (gl_0 hC) rfl rfl ?_
      refine y_iload_n (pc := 41) o dX11_brokenShare_41 rfl ?_
      refine z_callV (pc := 42) (k := 0) (n := 0) (k' := 0) (n' := 0) o (b := ad (4, 4, 0)) (As := [.int (Int32.ofNat i)]) (rest := [.int (gsum (fun i => C.1 (10, 0, i) 4) i)]) (getC (l := 4) (g := 0) (gl_4_4 hC) (hBC 4 0 (by decide)) hgx.1) ln_X11_492 dX11_brokenShare_42 (z_rc (ci := 3) (K := (4, 4, 0)) rfl (gl_4_4 hC) rfl) rfl rfl (Nat.le_of_ble_eq_true rfl) ⟨by decide, by decide⟩ ⟨rfl, rfl⟩ ⟨by decide, by decide⟩ rfl gq_nox2 ?_
      refine z_top (w := .ref (ad (10, 0, i))) (congrArg (fun z => Value.ref (ad (10, 0, z))) hgx.2) ?_
      refine z_cast (pc := 45) (ci := 12) (K := (10, 0, i)) o rfl qw_254 dX11_brokenShare_45 (gl_10 (show i < C.2 10 0 by omega)) rfl ?_
      refine z_get (pc := 48) (K := (10, 0, i)) (v := .int (C.1 (10, 0, i) 4)) o fl_X11_403 dX11_brokenShare_48 (gl_10 (show i < C.2 10 0 by omega)) rfl rfl ?_
      refine y_iadd (pc := 51) o dX11_brokenShare_51 ?_
      refine y_istore_n (pc := 52) (i := 2) (lv' := [(2, .int ((gsum (fun i => C.1 (10, 0, i) 4) i) + (C.1 (10, 0, i) 4))), (3, .int (Int32.ofNat i)), (1, .int (gpen C)), (0, .ref (ad (0, 0, 0)))]) o dX11_brokenShare_52 rfl (by decide) rfl ?_
      refine y_iinc (pc := 53) (i := 3) (j := 1) (v := (Int32.ofNat i) + 1) (lv' := [(3, .int ((Int32.ofNat i) + 1)), (2, .int ((gsum (fun i => C.1 (10, 0, i) 4) i) + (C.1 (10, 0, i) 4))), (1, .int (gpen C)), (0, .ref (ad (0, 0, 0)))]) o dX11_brokenShare_53 rfl rfl (by decide) rfl ?_
      refine y_goto (pc := 56) (tgt := 25) o dX11_brokenShare_56 rfl ?_
      rw [(gofs (n := i) (by omega)).2.2]
      exact ih (i + 1) (by omega)
  exact y_throwSW (pc := 10) o 81 rfl th_535 qw_1179 qw_66 dX11_brokenShare_10 dX11_brokenShare_13 dX11_brokenShare_14 dX11_brokenShare_17 dX11_brokenShare_20 rfl ⟨by decide, Nat.le_of_ble_eq_true rfl⟩ (by decide) (by decide) (fun h hp => ⟨rfl, b1, hp⟩)

theorem p_meanDarkness {κ : gq_K} {ad : gKey → Nat} {C R : gG} {T : List (Nat × va_E)} (hC : gfix C.2) (hBC : gcnt C.2) : gq_C κ mX11_meanDarkness [.ref (ad (0, 0, 0))] (gR κ ad (C, R) T) (fun v9 g => ¬ gfir C < 1 ∧ v9 = some (.double (FP.ddiv (FP.i2d (gdrk C)) (FP.i2d (gfir C)))) ∧ gR κ ad (C, R) T g) (fun e g => e = "java/lang/ArithmeticException" ∧ gfir C < 1 ∧ gR κ ad (C, R) T g) := by
  refine gq_enter (by decide +kernel) rfl (Nat.le_of_ble_eq_true rfl) rfl (fun f o => ?_)
  have hNB : C.2 8 0 ≤ 144 := hBC 2 0 (by decide)
  refine y_iconst (pc := 0) (x := 0) o dX11_meanDarkness_0 (by decide) ?_
  refine y_istore_n (pc := 1) (i := 1) (lv' := [(1, .int (0)), (0, .ref (ad (0, 0, 0)))]) o dX11_meanDarkness_1 rfl (by decide) rfl ?_
  refine y_iconst (pc := 2) (x := 0) o dX11_meanDarkness_2 (by decide) ?_
  refine y_istore_n (pc := 3) (i := 2) (lv' := [(2, .int (0)), (1, .int (0)), (0, .ref (ad (0, 0, 0)))]) o dX11_meanDarkness_3 rfl (by decide) rfl ?_
  refine y_iconst (pc := 4) (x := 0) o dX11_meanDarkness_4 (by decide) ?_
  refine y_istore_n (pc := 5) (i := 3) (lv' := [(3, .int (0)), (2, .int (0)), (1, .int (0)), (0, .ref (ad (0, 0, 0)))]) o dX11_meanDarkness_5 rfl (by decide) rfl ?_
  suffices H : ∀ m i : Nat, i + m = C.2 8 0 → gq_Y κ mX11_meanDarkness (fun v9 g => ¬ gfir C < 1 ∧ v9 = some (.double (FP.ddiv (FP.i2d (gdrk C)) (FP.i2d (gfir C)))) ∧ gR κ ad (C, R) T g) (fun e g => e = "java/lang/ArithmeticException" ∧ gfir C < 1 ∧ gR κ ad (C, R) T g) f (gR κ ad (C, R) T) [(3, .int (Int32.ofNat i)), (2, .int (gsum (fun i => if C.1 (8, 0, i) 6 < 0 then 0 else 1) i)), (1, .int (gsum (fun i => if C.1 (8, 0, i) 6 < 0 then 0 else C.1 (8, 0, i) 10) i)), (0, .ref (ad (0, 0, 0)))] 6 [] 0 0 from ?_
  · exact H (C.2 8 0) 0 (Nat.zero_add _)
  intro m
  induction m with
  | zero =>
    intro i hi
    have hlt : ¬ Int32.ofNat i < Int32.ofNat (C.2 8 0) := fun z => by rw [gofs_lt (by omega) (by omega)] at z; omega
    refine y_iload_n (pc := 6) o dX11_meanDarkness_6 rfl ?_
    refine y_aload_n (pc := 7) o dX11_meanDarkness_7 rfl ?_
    refine z_get (pc := 8) (K := (0, 0, 0)) (v := .ref (ad (4, 2, 0))) o fl_X11_33 dX11_meanDarkness_8 (gl_0 hC) rfl rfl ?_
    refine z_callV (pc := 11) (k := 0) (n := 0) (k' := 0) (n' := 0) o (b := ad (4, 2, 0)) (As := []) (rest := [.int (Int32.ofNat i)]) (sizeC (l := 2) (g := 0) (gl_4_2 hC)) ln_X11_127 dX11_meanDarkness_11 (z_rc (ci := 3) (K := (4, 2, 0)) rfl (gl_4_2 hC) rfl) rfl rfl (Nat.le_of_ble_eq_true rfl) ⟨by decide, by decide⟩ ⟨rfl, rfl⟩ ⟨by decide, by decide⟩ rfl gq_nox2 ?_
    refine z_icmp_ge (pc := 14) (tgt := 55) o dX11_meanDarkness_14 rfl (fun (b1 : ¬ (Int32.ofNat i) < (Int32.ofNat (C.2 8 0))) => ?_) (fun b1 => absurd b1 hlt)
    obtain rfl : i = C.2 8 0 := by omega
    have ef : gsum (fun i => if C.1 (8, 0, i) 6 < 0 then 0 else 1) (C.2 8 0) = gfir C := rfl
    have ed : gsum (fun i => if C.1 (8, 0, i) 6 < 0 then 0 else C.1 (8, 0, i) 10) (C.2 8 0) = gdrk C := rfl
    rw [ef, ed]
    refine y_iload_n (pc := 55) o dX11_meanDarkness_55 rfl ?_
    refine y_iconst (pc := 56) (x := 1) o dX11_meanDarkness_56 (by decide) ?_
    refine z_icmp_ge (pc := 57) (tgt := 71) o dX11_meanDarkness_57 rfl (fun (b2 : ¬ (gfir C) < 1) => ?_) (fun (b2 : (gfir C) < 1) => ?_)
    · refine y_iload_n (pc := 71) o dX11_meanDarkness_71 rfl ?_
      refine y_i2d (pc := 72) o dX11_meanDarkness_72 ?_
      refine y_iload_n (pc := 73) o dX11_meanDarkness_73 rfl ?_
      refine y_i2d (pc := 74) o dX11_meanDarkness_74 ?_
      refine y_ddiv (pc := 75) o dX11_meanDarkness_75 (gnn64 (gddiv (gnz1 b2))) ?_
      exact y_dret (pc := 76) o dX11_meanDarkness_76 rfl (by decide) (by decide) (fun h hp => ⟨b2, rfl, hp⟩)
    exact y_throwSW (pc := 60) o 82 rfl th_535 qw_1179 qw_66 dX11_meanDarkness_60 dX11_meanDarkness_63 dX11_meanDarkness_64 dX11_meanDarkness_67 dX11_meanDarkness_70 rfl ⟨by decide, Nat.le_of_ble_eq_true rfl⟩ (by decide) (by decide) (fun h hp => ⟨rfl, b2, hp⟩)
  | succ m ih =>
    intro i hi
    have hlt : Int32.ofNat i < Int32.ofNat (C.2 8 0) := by rw [gofs_lt (by omega) (by omega)]; omega
    have hgx := gidx (N := C.2 8 0) (i := i) (by omega) hNB
    refine y_iload_n (pc := 6) o dX11_meanDarkness_6 rfl ?_
    refine y_aload_n (pc := 7) o dX11_meanDarkness_7 rfl ?_
    refine z_get (pc := 8) (K := (0, 0, 0)) (v := .ref (ad (4, 2, 0))) o fl_X11_33 dX11_meanDarkness_8 (gl_0 hC) rfl rfl ?_
    refine z_callV (pc := 11) (k := 0) (n := 0) (k' := 0) (n' := 0) o (b := ad (4, 2, 0)) (As := []) (rest := [.int (Int32.ofNat i)]) (sizeC (l := 2) (g := 0) (gl_4_2 hC)) ln_X11_127 dX11_meanDarkness_11 (z_rc (ci := 3) (K := (4, 2, 0)) rfl (gl_4_2 hC) rfl) rfl rfl (Nat.le_of_ble_eq_true rfl) ⟨by decide, by decide⟩ ⟨rfl, rfl⟩ ⟨by decide, by decide⟩ rfl gq_nox2 ?_
    refine z_icmp_ge (pc := 14) (tgt := 55) o dX11_meanDarkness_14 rfl (fun b3 => absurd hlt b3) (fun (b3 : (Int32.ofNat i) < (Int32.ofNat (C.2 8 0))) => ?_)
    refine y_aload_n (pc := 17) o dX11_meanDarkness_17 rfl ?_
    refine z_get (pc := 18) (K := (0, 0, 0)) (v := .ref (ad (4, 2, 0))) o fl_X11_33 dX11_meanDarkness_18 (gl_0 hC) rfl rfl ?_
    refine y_iload_n (pc := 21) o dX11_meanDarkness_21 rfl ?_
    refine z_callV (pc := 22) (k := 0) (n := 0) (k' := 0) (n' := 0) o (b := ad (4, 2, 0)) (As := [.int (Int32.ofNat i)]) (rest := []) (getC (l := 2) (g := 0) (gl_4_2 hC) (hBC 2 0 (by decide)) hgx.1) ln_X11_492 dX11_meanDarkness_22 (z_rc (ci := 3) (K := (4, 2, 0)) rfl (gl_4_2 hC) rfl) rfl rfl (Nat.le_of_ble_eq_true rfl) ⟨by decide, by decide⟩ ⟨rfl, rfl⟩ ⟨by decide, by decide⟩ rfl gq_nox2 ?_
    refine z_top (w := .ref (ad (8, 0, i))) (congrArg (fun z => Value.ref (ad (8, 0, z))) hgx.2) ?_
    refine z_cast (pc := 25) (ci := 4) (K := (8, 0, i)) o rfl qw_260 dX11_meanDarkness_25 (gl_8 (show i < C.2 8 0 by omega)) rfl ?_
    refine y_astore (pc := 28) (i := 4) (lv' := [(4, .ref (ad (8, 0, i))), (3, .int (Int32.ofNat i)), (2, .int (gsum (fun i => if C.1 (8, 0, i) 6 < 0 then 0 else 1) i)), (1, .int (gsum (fun i => if C.1 (8, 0, i) 6 < 0 then 0 else C.1 (8, 0, i) 10) i)), (0, .ref (ad (0, 0, 0)))]) o dX11_meanDarkness_28 (by decide) rfl ?_
    refine y_aload (pc := 30) o dX11_meanDarkness_30 rfl ?_
    refine z_callV (pc := 32) (k := 0) (n := 0) (k' := 0) (n' := 0) o (b := ad (8, 0, i)) (As := []) (rest := []) (kFired _ (show i < C.2 8 0 by omega)) ln_X11_238 dX11_meanDarkness_32 (z_rc (ci := 4) (K := (8, 0, i)) rfl (gl_8 (show i < C.2 8 0 by omega)) rfl) rfl rfl (Nat.le_of_ble_eq_true rfl) ⟨by decide, by decide⟩ ⟨rfl, rfl⟩ ⟨by decide, by decide⟩ rfl gq_nox2 ?_
    refine z_beq (pc := 35) (tgt := 49) o dX11_meanDarkness_35 rfl (fun (b4 : ¬ (¬ C.1 (8, 0, i) 6 < 0)) => ?_) (fun (b4 : ¬ C.1 (8, 0, i) 6 < 0) => ?_)
    · refine y_iinc (pc := 49) (i := 3) (j := 1) (v := (Int32.ofNat i) + 1) (lv' := [(3, .int ((Int32.ofNat i) + 1)), (4, .ref (ad (8, 0, i))), (2, .int (gsum (fun i => if C.1 (8, 0, i) 6 < 0 then 0 else 1) i)), (1, .int (gsum (fun i => if C.1 (8, 0, i) 6 < 0 then 0 else C.1 (8, 0, i) 10) i)), (0, .ref (ad (0, 0, 0)))]) o dX11_meanDarkness_49 rfl rfl (by decide) rfl ?_
      refine y_goto (pc := 52) (tgt := 6) o dX11_meanDarkness_52 rfl ?_
      have e1 : gsum (fun i => if C.1 (8, 0, i) 6 < 0 then 0 else 1) (i + 1) = gsum (fun i => if C.1 (8, 0, i) 6 < 0 then 0 else 1) i := by rw [gsum_1]; simp only [Classical.not_not.mp b4, if_true, if_false, Int32.add_zero]
      have e2 : gsum (fun i => if C.1 (8, 0, i) 6 < 0 then 0 else C.1 (8, 0, i) 10) (i + 1) = gsum (fun i => if C.1 (8, 0, i) 6 < 0 then 0 else C.1 (8, 0, i) 10) i := by rw [gsum_1]; simp only [Classical.not_not.mp b4, if_true, if_false, Int32.add_zero]
      rw [← e1, ← e2]
      refine y_lv [0, 2, 3, 4] (lv' := [(3, .int ((Int32.ofNat i) + 1)), (2, .int (gsum (fun i => if C.1 (8, 0, i) 6 < 0 then 0 else 1) (i + 1))), (1, .int (gsum (fun i => if C.1 (8, 0, i) 6 < 0 then 0 else C.1 (8, 0, i) 10) (i + 1))), (0, .ref (ad (0, 0, 0)))]) rfl ?_
      rw [(gofs (n := i) (by omega)).2.2]
      exact ih (i + 1) (by omega)
    refine y_iload_n (pc := 38) o dX11_meanDarkness_38 rfl ?_
    refine y_aload (pc := 39) o dX11_meanDarkness_39 rfl ?_
    refine z_get (pc := 41) (K := (8, 0, i)) (v := .int (C.1 (8, 0, i) 10)) o fl_X11_249 dX11_meanDarkness_41 (gl_8 (show i < C.2 8 0 by omega)) rfl rfl ?_
    refine y_iadd (pc := 44) o dX11_meanDarkness_44 ?_
    refine y_istore_n (pc := 45) (i := 1) (lv' := [(1, .int ((gsum (fun i => if C.1 (8, 0, i) 6 < 0 then 0 else C.1 (8, 0, i) 10) i) + (C.1 (8, 0, i) 10))), (4, .ref (ad (8, 0, i))), (3, .int (Int32.ofNat i)), (2, .int (gsum (fun i => if C.1 (8, 0, i) 6 < 0 then 0 else 1) i)), (0, .ref (ad (0, 0, 0)))]) o dX11_meanDarkness_45 rfl (by decide) rfl ?_
    refine y_iinc (pc := 46) (i := 2) (j := 3) (v := (gsum (fun i => if C.1 (8, 0, i) 6 < 0 then 0 else 1) i) + 1) (lv' := [(2, .int ((gsum (fun i => if C.1 (8, 0, i) 6 < 0 then 0 else 1) i) + 1)), (1, .int ((gsum (fun i => if C.1 (8, 0, i) 6 < 0 then 0 else C.1 (8, 0, i) 10) i) + (C.1 (8, 0, i) 10))), (4, .ref (ad (8, 0, i))), (3, .int (Int32.ofNat i)), (0, .ref (ad (0, 0, 0)))]) o dX11_meanDarkness_46 rfl rfl (by decide) rfl ?_
    refine y_iinc (pc := 49) (i := 3) (j := 3) (v := (Int32.ofNat i) + 1) (lv' := [(3, .int ((Int32.ofNat i) + 1)), (2, .int ((gsum (fun i => if C.1 (8, 0, i) 6 < 0 then 0 else 1) i) + 1)), (1, .int ((gsum (fun i => if C.1 (8, 0, i) 6 < 0 then 0 else C.1 (8, 0, i) 10) i) + (C.1 (8, 0, i) 10))), (4, .ref (ad (8, 0, i))), (0, .ref (ad (0, 0, 0)))]) o dX11_meanDarkness_49 rfl rfl (by decide) rfl ?_
    refine y_goto (pc := 52) (tgt := 6) o dX11_meanDarkness_52 rfl ?_
    have e1 : gsum (fun i => if C.1 (8, 0, i) 6 < 0 then 0 else 1) (i + 1) = (gsum (fun i => if C.1 (8, 0, i) 6 < 0 then 0 else 1) i) + 1 := by rw [gsum_1]; simp only [b4, if_true, if_false, Int32.add_zero]
    have e2 : gsum (fun i => if C.1 (8, 0, i) 6 < 0 then 0 else C.1 (8, 0, i) 10) (i + 1) = (gsum (fun i => if C.1 (8, 0, i) 6 < 0 then 0 else C.1 (8, 0, i) 10) i) + (C.1 (8, 0, i) 10) := by rw [gsum_1]; simp only [b4, if_true, if_false, Int32.add_zero]
    rw [← e1, ← e2]
    refine y_lv [0, 1, 2, 4] (lv' := [(3, .int ((Int32.ofNat i) + 1)), (2, .int (gsum (fun i => if C.1 (8, 0, i) 6 < 0 then 0 else 1) (i + 1))), (1, .int (gsum (fun i => if C.1 (8, 0, i) 6 < 0 then 0 else C.1 (8, 0, i) 10) (i + 1))), (0, .ref (ad (0, 0, 0)))]) rfl ?_
    rw [(gofs (n := i) (by omega)).2.2]
    exact ih (i + 1) (by omega)

end Z25
