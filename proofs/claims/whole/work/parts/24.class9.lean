
section Z24
variable {κ : gq_K} {ad ad' : gKey → Nat} {C C' R : gG} {T : List (Nat × va_E)} {h : gq_H}
def gck1 (C : gG) : Nat → Int64
  | 0 => 7
  | n + 1 => 31 * (31 * (31 * gck1 C n + (C.1 (8, 0, n) 1).toInt64) + (C.1 (8, 0, n) 10).toInt64) + (C.1 (8, 0, n) 9).toInt64
def gck2 (C : gG) : Nat → Int64
  | 0 => gck1 C (C.2 8 0)
  | n + 1 => 31 * (31 * gck2 C n + (C.1 (10, 0, n) 3).toInt64) + (C.1 (10, 0, n) 4).toInt64
def gck3 (C : gG) : Nat → Int64
  | 0 => gck2 C (C.2 10 0)
  | n + 1 => 31 * gck3 C n + (C.1 (11, 0, n) 1).toInt64
theorem p_checksum {κ : gq_K} {ad : gKey → Nat} {C R : gG} {T : List (Nat × va_E)} (hC : gfix C.2) (hBC : gcnt C.2) : gq_C κ mX11_checksum [.ref (ad (0, 0, 0))] (gR κ ad (C, R) T) (fun v9 g => v9 = some (.long (gck3 C (C.2 11 0))) ∧ gR κ ad (C, R) T g) (gq_no) := by
  refine gq_enter (by decide +kernel) rfl (Nat.le_of_ble_eq_true rfl) rfl (fun f o => ?_)
  have hN1 : C.2 8 0 ≤ 144 := hBC 2 0 (by decide)
  have hN2 : C.2 10 0 ≤ 144 := hBC 4 0 (by decide)
  have hN3 : C.2 11 0 ≤ 144 := hBC 5 0 (by decide)
  refine y_ldc2 (pc := 0) o dX11_checksum_0 qw_259 ?_
  refine y_lstore_n (pc := 3) (i := 1) (lv' := [(1, .long (7)), (0, .ref (ad (0, 0, 0)))]) o dX11_checksum_3 rfl (by decide) rfl ?_
  refine y_iconst (pc := 4) (x := 0) o dX11_checksum_4 (by decide) ?_
  refine y_istore_n (pc := 5) (i := 3) (lv' := [(3, .int (0)), (1, .long (7)), (0, .ref (ad (0, 0, 0)))]) o dX11_checksum_5 rfl (by decide) rfl ?_
  suffices H1 : ∀ m i : Nat, i + m = C.2 8 0 → gq_Y κ mX11_checksum (fun v9 g => v9 = some (.long (gck3 C (C.2 11 0))) ∧ gR κ ad (C, R) T g) gq_no f (gR κ ad (C, R) T) [(3, .int (Int32.ofNat i)), (1, .long (gck1 C i)), (0, .ref (ad (0, 0, 0)))] 6 [] 0 0 from ?_
  · exact H1 (C.2 8 0) 0 (Nat.zero_add _)
  intro m
  induction m with
  | zero =>
    intro i hi
    have hlt : ¬ Int32.ofNat i < Int32.ofNat (C.2 8 0) := fun z => by rw [gofs_lt (by omega) (by omega)] at z; omega
    obtain rfl : i = C.2 8 0 := by omega
    refine y_iload_n (pc := 6) o dX11_checksum_6 rfl ?_
    refine y_aload_n (pc := 7) o dX11_checksum_7 rfl ?_
    refine z_get (pc := 8) (K := (0, 0, 0)) (v := .ref (ad (4, 2, 0))) o fl_X11_33 dX11_checksum_8 (gl_0 hC) rfl rfl ?_
    refine z_callV (pc := 11) (k := 0) (n := 0) (k' := 0) (n' := 0) o (b := ad (4, 2, 0)) (As := []) (rest := [.int (Int32.ofNat (C.2 8 0))]) (sizeC (l := 2) (g := 0) (gl_4_2 hC)) ln_X11_127 dX11_checksum_11 (z_rc (ci := 3) (K := (4, 2, 0)) rfl (gl_4_2 hC) rfl) rfl rfl (Nat.le_of_ble_eq_true rfl) ⟨by decide, by decide⟩ ⟨rfl, rfl⟩ ⟨by decide, by decide⟩ rfl gq_nox2 ?_
    refine z_icmp_ge (pc := 14) (tgt := 75) o dX11_checksum_14 rfl (fun (b1 : ¬ (Int32.ofNat (C.2 8 0)) < (Int32.ofNat (C.2 8 0))) => ?_) (fun b1 => absurd b1 hlt)
    refine y_iconst (pc := 75) (x := 0) o dX11_checksum_75 (by decide) ?_
    refine y_istore_n (pc := 76) (i := 3) (lv' := [(3, .int (0)), (1, .long (gck1 C (C.2 8 0))), (0, .ref (ad (0, 0, 0)))]) o dX11_checksum_76 rfl (by decide) rfl ?_
    suffices H2 : ∀ m i : Nat, i + m = C.2 10 0 → gq_Y κ mX11_checksum (fun v9 g => v9 = some (.long (gck3 C (C.2 11 0))) ∧ gR κ ad (C, R) T g) gq_no f (gR κ ad (C, R) T) [(3, .int (Int32.ofNat i)), (1, .long (gck2 C i)), (0, .ref (ad (0, 0, 0)))] 77 [] 0 0 from ?_
    · exact H2 (C.2 10 0) 0 (Nat.zero_add _)
    intro m
    induction m with
    | zero =>
      intro i hi
      have hlt : ¬ Int32.ofNat i < Int32.ofNat (C.2 10 0) := fun z => by rw [gofs_lt (by omega) (by omega)] at z; omega
      obtain rfl : i = C.2 10 0 := by omega
      refine y_iload_n (pc := 77) o dX11_checksum_77 rfl ?_
      refine y_aload_n (pc := 78) o dX11_checksum_78 rfl ?_
      refine z_get (pc := 79) (K := (0, 0, 0)) (v := .ref (ad (4, 4, 0))) o fl_X11_39 dX11_checksum_79 (gl_0 hC) rfl rfl ?_
      refine z_callV (pc := 82) (k := 0) (n := 0) (k' := 0) (n' := 0) o (b := ad (4, 4, 0)) (As := []) (rest := [.int (Int32.ofNat (C.2 10 0))]) (sizeC (l := 4) (g := 0) (gl_4_4 hC)) ln_X11_127 dX11_checksum_82 (z_rc (ci := 3) (K := (4, 4, 0)) rfl (gl_4_4 hC) rfl) rfl rfl (Nat.le_of_ble_eq_true rfl) ⟨by decide, by decide⟩ ⟨rfl, rfl⟩ ⟨by decide, by decide⟩ rfl gq_nox2 ?_
      refine z_icmp_ge (pc := 85) (tgt := 133) o dX11_checksum_85 rfl (fun (b2 : ¬ (Int32.ofNat (C.2 10 0)) < (Int32.ofNat (C.2 10 0))) => ?_) (fun b2 => absurd b2 hlt)
      refine y_iconst (pc := 133) (x := 0) o dX11_checksum_133 (by decide) ?_
      refine y_istore_n (pc := 134) (i := 3) (lv' := [(3, .int (0)), (1, .long (gck2 C (C.2 10 0))), (0, .ref (ad (0, 0, 0)))]) o dX11_checksum_134 rfl (by decide) rfl ?_
      suffices H3 : ∀ m i : Nat, i + m = C.2 11 0 → gq_Y κ mX11_checksum (fun v9 g => v9 = some (.long (gck3 C (C.2 11 0))) ∧ gR κ ad (C, R) T g) gq_no f (gR κ ad (C, R) T) [(3, .int (Int32.ofNat i)), (1, .long (gck3 C i)), (0, .ref (ad (0, 0, 0)))] 135 [] 0 0 from ?_
      · exact H3 (C.2 11 0) 0 (Nat.zero_add _)
      intro m
      induction m with
      | zero =>
        intro i hi
        have hlt : ¬ Int32.ofNat i < Int32.ofNat (C.2 11 0) := fun z => by rw [gofs_lt (by omega) (by omega)] at z; omega
        obtain rfl : i = C.2 11 0 := by omega
        refine y_iload_n (pc := 135) o dX11_checksum_135 rfl ?_
        refine y_aload_n (pc := 136) o dX11_checksum_136 rfl ?_
        refine z_get (pc := 137) (K := (0, 0, 0)) (v := .ref (ad (4, 5, 0))) o fl_X11_42 dX11_checksum_137 (gl_0 hC) rfl rfl ?_
        refine z_callV (pc := 140) (k := 0) (n := 0) (k' := 0) (n' := 0) o (b := ad (4, 5, 0)) (As := []) (rest := [.int (Int32.ofNat (C.2 11 0))]) (sizeC (l := 5) (g := 0) (gl_4_5 hC)) ln_X11_127 dX11_checksum_140 (z_rc (ci := 3) (K := (4, 5, 0)) rfl (gl_4_5 hC) rfl) rfl rfl (Nat.le_of_ble_eq_true rfl) ⟨by decide, by decide⟩ ⟨rfl, rfl⟩ ⟨by decide, by decide⟩ rfl gq_nox2 ?_
        refine z_icmp_ge (pc := 143) (tgt := 174) o dX11_checksum_143 rfl (fun (b3 : ¬ (Int32.ofNat (C.2 11 0)) < (Int32.ofNat (C.2 11 0))) => ?_) (fun b3 => absurd b3 hlt)
        refine y_lload_n (pc := 174) o dX11_checksum_174 rfl ?_
        exact y_lret (pc := 175) o dX11_checksum_175 rfl (by decide) (by decide) (fun h hp => ⟨rfl, hp⟩)
      | succ m ih =>
        intro i hi
        have hlt : Int32.ofNat i < Int32.ofNat (C.2 11 0) := by rw [gofs_lt (by omega) (by omega)]; omega
        have hgx := gidx (N := C.2 11 0) (i := i) (by omega) hN3
        refine y_iload_n (pc := 135) o dX11_checksum_135 rfl ?_
        refine y_aload_n (pc := 136) o dX11_checksum_136 rfl ?_
        refine z_get (pc := 137) (K := (0, 0, 0)) (v := .ref (ad (4, 5, 0))) o fl_X11_42 dX11_checksum_137 (gl_0 hC) rfl rfl ?_
        refine z_callV (pc := 140) (k := 0) (n := 0) (k' := 0) (n' := 0) o (b := ad (4, 5, 0)) (As := []) (rest := [.int (Int32.ofNat i)]) (sizeC (l := 5) (g := 0) (gl_4_5 hC)) ln_X11_127 dX11_checksum_140 (z_rc (ci := 3) (K := (4, 5, 0)) rfl (gl_4_5 hC) rfl) rfl rfl (Nat.le_of_ble_eq_true rfl) ⟨by decide, by decide⟩ ⟨rfl, rfl⟩ ⟨by decide, by decide⟩ rfl gq_nox2 ?_
        refine z_icmp_ge (pc := 143) (tgt := 174) o dX11_checksum_143 rfl (fun b4 => absurd hlt b4) (fun (b4 : (Int32.ofNat i) < (Int32.ofNat (C.2 11 0))) => ?_)
        refine y_ldc2 (pc := 146) o dX11_checksum_146 qw_261 ?_
        refine y_lload_n (pc := 149) o dX11_checksum_149 rfl ?_
        refine y_lmul (pc := 150) o dX11_checksum_150 ?_
        refine y_aload_n (pc := 151) o dX11_checksum_151 rfl ?_
        refine z_get (pc := 152) (K := (0, 0, 0)) (v := .ref (ad (4, 5, 0))) o fl_X11_42 dX11_checksum_152 (gl_0 hC) rfl rfl ?_
        refine y_iload_n (pc := 155) o dX11_checksum_155 rfl ?_
        refine z_callV (pc := 156) (k := 0) (n := 0) (k' := 0) (n' := 0) o (b := ad (4, 5, 0)) (As := [.int (Int32.ofNat i)]) (rest := [.long (31 * (gck3 C i))]) (getC (l := 5) (g := 0) (gl_4_5 hC) (hBC 5 0 (by decide)) hgx.1) ln_X11_492 dX11_checksum_156 (z_rc (ci := 3) (K := (4, 5, 0)) rfl (gl_4_5 hC) rfl) rfl rfl (Nat.le_of_ble_eq_true rfl) ⟨by decide, by decide⟩ ⟨rfl, rfl⟩ ⟨by decide, by decide⟩ rfl gq_nox2 ?_
        refine z_top (w := .ref (ad (11, 0, i))) (congrArg (fun z => Value.ref (ad (11, 0, z))) hgx.2) ?_
        refine z_cast (pc := 159) (ci := 6) (K := (11, 0, i)) o rfl qw_249 dX11_checksum_159 (gl_11 (show i < C.2 11 0 by omega)) rfl ?_
        refine z_get (pc := 162) (K := (11, 0, i)) (v := .int (C.1 (11, 0, i) 1)) o fl_X11_447 dX11_checksum_162 (gl_11 (show i < C.2 11 0 by omega)) rfl rfl ?_
        refine y_i2l (pc := 165) o dX11_checksum_165 ?_
        refine y_ladd (pc := 166) o dX11_checksum_166 ?_
        refine y_lstore_n (pc := 167) (i := 1) (lv' := [(1, .long ((31 * (gck3 C i)) + ((C.1 (11, 0, i) 1).toInt64))), (3, .int (Int32.ofNat i)), (0, .ref (ad (0, 0, 0)))]) o dX11_checksum_167 rfl (by decide) rfl ?_
        refine y_iinc (pc := 168) (i := 3) (j := 1) (v := (Int32.ofNat i) + 1) (lv' := [(3, .int ((Int32.ofNat i) + 1)), (1, .long ((31 * (gck3 C i)) + ((C.1 (11, 0, i) 1).toInt64))), (0, .ref (ad (0, 0, 0)))]) o dX11_checksum_168 rfl rfl (by decide) rfl ?_
        refine y_goto (pc := 171) (tgt := 135) o dX11_checksum_171 rfl ?_
        rw [(gofs (n := i) (by omega)).2.2]
        exact ih (i + 1) (by omega)
    | succ m ih =>
      intro i hi
      have hlt : Int32.ofNat i < Int32.ofNat (C.2 10 0) := by rw [gofs_lt (by omega) (by omega)]; omega
      have hgx := gidx (N := C.2 10 0) (i := i) (by omega) hN2
      refine y_iload_n (pc := 77) o dX11_checksum_77 rfl ?_
      refine y_aload_n (pc := 78) o dX11_checksum_78 rfl ?_
      refine z_get (pc := 79) (K := (0, 0, 0)) (v := .ref (ad (4, 4, 0))) o fl_X11_39 dX11_checksum_79 (gl_0 hC) rfl rfl ?_
      refine z_callV (pc := 82) (k := 0) (n := 0) (k' := 0) (n' := 0) o (b := ad (4, 4, 0)) (As := []) (rest := [.int (Int32.ofNat i)]) (sizeC (l := 4) (g := 0) (gl_4_4 hC)) ln_X11_127 dX11_checksum_82 (z_rc (ci := 3) (K := (4, 4, 0)) rfl (gl_4_4 hC) rfl) rfl rfl (Nat.le_of_ble_eq_true rfl) ⟨by decide, by decide⟩ ⟨rfl, rfl⟩ ⟨by decide, by decide⟩ rfl gq_nox2 ?_
      refine z_icmp_ge (pc := 85) (tgt := 133) o dX11_checksum_85 rfl (fun b5 => absurd hlt b5) (fun (b5 : (Int32.ofNat i) < (Int32.ofNat (C.2 10 0))) => ?_)
      refine y_aload_n (pc := 88) o dX11_checksum_88 rfl ?_
      refine z_get (pc := 89) (K := (0, 0, 0)) (v := .ref (ad (4, 4, 0))) o fl_X11_39 dX11_checksum_89 (gl_0 hC) rfl rfl ?_
      refine y_iload_n (pc := 92) o dX11_checksum_92 rfl ?_
      refine z_callV (pc := 93) (k := 0) (n := 0) (k' := 0) (n' := 0) o (b := ad (4, 4, 0)) (As := [.int (Int32.ofNat i)]) (rest := []) (getC (l := 4) (g := 0) (gl_4_4 hC) (hBC 4 0 (by decide)) hgx.1) ln_X11_492 dX11_checksum_93 (z_rc (ci := 3) (K := (4, 4, 0)) rfl (gl_4_4 hC) rfl) rfl rfl (Nat.le_of_ble_eq_true rfl) ⟨by decide, by decide⟩ ⟨rfl, rfl⟩ ⟨by decide, by decide⟩ rfl gq_nox2 ?_
      refine z_top (w := .ref (ad (10, 0, i))) (congrArg (fun z => Value.ref (ad (10, 0, z))) hgx.2) ?_
      refine z_cast (pc := 96) (ci := 12) (K := (10, 0, i)) o rfl qw_254 dX11_checksum_96 (gl_10 (show i < C.2 10 0 by omega)) rfl ?_
      refine y_astore (pc := 99) (i := 4) (lv' := [(4, .ref (ad (10, 0, i))), (3, .int (Int32.ofNat i)), (1, .long (gck2 C i)), (0, .ref (ad (0, 0, 0)))]) o dX11_checksum_99 (by decide) rfl ?_
      refine y_ldc2 (pc := 101) o dX11_checksum_101 qw_261 ?_
      refine y_lload_n (pc := 104) o dX11_checksum_104 rfl ?_
      refine y_lmul (pc := 105) o dX11_checksum_105 ?_
      refine y_aload (pc := 106) o dX11_checksum_106 rfl ?_
      refine z_get (pc := 108) (K := (10, 0, i)) (v := .int (C.1 (10, 0, i) 3)) o fl_X11_400 dX11_checksum_108 (gl_10 (show i < C.2 10 0 by omega)) rfl rfl ?_
      refine y_i2l (pc := 111) o dX11_checksum_111 ?_
      refine y_ladd (pc := 112) o dX11_checksum_112 ?_
      refine y_lstore_n (pc := 113) (i := 1) (lv' := [(1, .long ((31 * (gck2 C i)) + ((C.1 (10, 0, i) 3).toInt64))), (4, .ref (ad (10, 0, i))), (3, .int (Int32.ofNat i)), (0, .ref (ad (0, 0, 0)))]) o dX11_checksum_113 rfl (by decide) rfl ?_
      refine y_ldc2 (pc := 114) o dX11_checksum_114 qw_261 ?_
      refine y_lload_n (pc := 117) o dX11_checksum_117 rfl ?_
      refine y_lmul (pc := 118) o dX11_checksum_118 ?_
      refine y_aload (pc := 119) o dX11_checksum_119 rfl ?_
      refine z_get (pc := 121) (K := (10, 0, i)) (v := .int (C.1 (10, 0, i) 4)) o fl_X11_403 dX11_checksum_121 (gl_10 (show i < C.2 10 0 by omega)) rfl rfl ?_
      refine y_i2l (pc := 124) o dX11_checksum_124 ?_
      refine y_ladd (pc := 125) o dX11_checksum_125 ?_
      refine y_lstore_n (pc := 126) (i := 1) (lv' := [(1, .long ((31 * ((31 * (gck2 C i)) + ((C.1 (10, 0, i) 3).toInt64))) + ((C.1 (10, 0, i) 4).toInt64))), (4, .ref (ad (10, 0, i))), (3, .int (Int32.ofNat i)), (0, .ref (ad (0, 0, 0)))]) o dX11_checksum_126 rfl (by decide) rfl ?_
      refine y_iinc (pc := 127) (i := 3) (j := 2) (v := (Int32.ofNat i) + 1) (lv' := [(3, .int ((Int32.ofNat i) + 1)), (1, .long ((31 * ((31 * (gck2 C i)) + ((C.1 (10, 0, i) 3).toInt64))) + ((C.1 (10, 0, i) 4).toInt64))), (4, .ref (ad (10, 0, i))), (0, .ref (ad (0, 0, 0)))]) o dX11_checksum_127 rfl rfl (by decide) rfl ?_
      refine y_goto (pc := 130) (tgt := 77) o dX11_checksum_130 rfl ?_
      refine y_lv [0, 1, 3] (lv' := [(3, .int ((Int32.ofNat i) + 1)), (1, .long ((31 * ((31 * (gck2 C i)) + ((C.1 (10, 0, i) 3).toInt64))) + ((C.1 (10, 0, i) 4).toInt64))), (0, .ref (ad (0, 0, 0)))]) rfl ?_
      rw [(gofs (n := i) (by omega)).2.2]
      exact ih (i + 1) (by omega)
  | succ m ih =>
    intro i hi
    have hlt : Int32.ofNat i < Int32.ofNat (C.2 8 0) := by rw [gofs_lt (by omega) (by omega)]; omega
    have hgx := gidx (N := C.2 8 0) (i := i) (by omega) hN1
    refine y_iload_n (pc := 6) o dX11_checksum_6 rfl ?_
    refine y_aload_n (pc := 7) o dX11_checksum_7 rfl ?_
    refine z_get (pc := 8) (K := (0, 0, 0)) (v := .ref (ad (4, 2, 0))) o fl_X11_33 dX11_checksum_8 (gl_0 hC) rfl rfl ?_
    refine z_callV (pc := 11) (k := 0) (n := 0) (k' := 0) (n' := 0) o (b := ad (4, 2, 0)) (As := []) (rest := [.int (Int32.ofNat i)]) (sizeC (l := 2) (g := 0) (gl_4_2 hC)) ln_X11_127 dX11_checksum_11 (z_rc (ci := 3) (K := (4, 2, 0)) rfl (gl_4_2 hC) rfl) rfl rfl (Nat.le_of_ble_eq_true rfl) ⟨by decide, by decide⟩ ⟨rfl, rfl⟩ ⟨by decide, by decide⟩ rfl gq_nox2 ?_
    refine z_icmp_ge (pc := 14) (tgt := 75) o dX11_checksum_14 rfl (fun b6 => absurd hlt b6) (fun (b6 : (Int32.ofNat i) < (Int32.ofNat (C.2 8 0))) => ?_)
    refine y_aload_n (pc := 17) o dX11_checksum_17 rfl ?_
    refine z_get (pc := 18) (K := (0, 0, 0)) (v := .ref (ad (4, 2, 0))) o fl_X11_33 dX11_checksum_18 (gl_0 hC) rfl rfl ?_
    refine y_iload_n (pc := 21) o dX11_checksum_21 rfl ?_
    refine z_callV (pc := 22) (k := 0) (n := 0) (k' := 0) (n' := 0) o (b := ad (4, 2, 0)) (As := [.int (Int32.ofNat i)]) (rest := []) (getC (l := 2) (g := 0) (gl_4_2 hC) (hBC 2 0 (by decide)) hgx.1) ln_X11_492 dX11_checksum_22 (z_rc (ci := 3) (K := (4, 2, 0)) rfl (gl_4_2 hC) rfl) rfl rfl (Nat.le_of_ble_eq_true rfl) ⟨by decide, by decide⟩ ⟨rfl, rfl⟩ ⟨by decide, by decide⟩ rfl gq_nox2 ?_
    refine z_top (w := .ref (ad (8, 0, i))) (congrArg (fun z => Value.ref (ad (8, 0, z))) hgx.2) ?_
    refine z_cast (pc := 25) (ci := 4) (K := (8, 0, i)) o rfl qw_260 dX11_checksum_25 (gl_8 (show i < C.2 8 0 by omega)) rfl ?_
    refine y_astore (pc := 28) (i := 4) (lv' := [(4, .ref (ad (8, 0, i))), (3, .int (Int32.ofNat i)), (1, .long (gck1 C i)), (0, .ref (ad (0, 0, 0)))]) o dX11_checksum_28 (by decide) rfl ?_
    refine y_ldc2 (pc := 30) o dX11_checksum_30 qw_261 ?_
    refine y_lload_n (pc := 33) o dX11_checksum_33 rfl ?_
    refine y_lmul (pc := 34) o dX11_checksum_34 ?_
    refine y_aload (pc := 35) o dX11_checksum_35 rfl ?_
    refine z_get (pc := 37) (K := (8, 0, i)) (v := .int (C.1 (8, 0, i) 1)) o fl_X11_226 dX11_checksum_37 (gl_8 (show i < C.2 8 0 by omega)) rfl rfl ?_
    refine y_i2l (pc := 40) o dX11_checksum_40 ?_
    refine y_ladd (pc := 41) o dX11_checksum_41 ?_
    refine y_lstore_n (pc := 42) (i := 1) (lv' := [(1, .long ((31 * (gck1 C i)) + ((C.1 (8, 0, i) 1).toInt64))), (4, .ref (ad (8, 0, i))), (3, .int (Int32.ofNat i)), (0, .ref (ad (0, 0, 0)))]) o dX11_checksum_42 rfl (by decide) rfl ?_
    refine y_ldc2 (pc := 43) o dX11_checksum_43 qw_261 ?_
    refine y_lload_n (pc := 46) o dX11_checksum_46 rfl ?_
    refine y_lmul (pc := 47) o dX11_checksum_47 ?_
    refine y_aload (pc := 48) o dX11_checksum_48 rfl ?_
    refine z_get (pc := 50) (K := (8, 0, i)) (v := .int (C.1 (8, 0, i) 10)) o fl_X11_249 dX11_checksum_50 (gl_8 (show i < C.2 8 0 by omega)) rfl rfl ?_
    refine y_i2l (pc := 53) o dX11_checksum_53 ?_
    refine y_ladd (pc := 54) o dX11_checksum_54 ?_
    refine y_lstore_n (pc := 55) (i := 1) (lv' := [(1, .long ((31 * ((31 * (gck1 C i)) + ((C.1 (8, 0, i) 1).toInt64))) + ((C.1 (8, 0, i) 10).toInt64))), (4, .ref (ad (8, 0, i))), (3, .int (Int32.ofNat i)), (0, .ref (ad (0, 0, 0)))]) o dX11_checksum_55 rfl (by decide) rfl ?_
    refine y_ldc2 (pc := 56) o dX11_checksum_56 qw_261 ?_
    refine y_lload_n (pc := 59) o dX11_checksum_59 rfl ?_
    refine y_lmul (pc := 60) o dX11_checksum_60 ?_
    refine y_aload (pc := 61) o dX11_checksum_61 rfl ?_
    refine z_get (pc := 63) (K := (8, 0, i)) (v := .int (C.1 (8, 0, i) 9)) o fl_X11_246 dX11_checksum_63 (gl_8 (show i < C.2 8 0 by omega)) rfl rfl ?_
    refine y_i2l (pc := 66) o dX11_checksum_66 ?_
    refine y_ladd (pc := 67) o dX11_checksum_67 ?_
    refine y_lstore_n (pc := 68) (i := 1) (lv' := [(1, .long ((31 * ((31 * ((31 * (gck1 C i)) + ((C.1 (8, 0, i) 1).toInt64))) + ((C.1 (8, 0, i) 10).toInt64))) + ((C.1 (8, 0, i) 9).toInt64))), (4, .ref (ad (8, 0, i))), (3, .int (Int32.ofNat i)), (0, .ref (ad (0, 0, 0)))]) o dX11_checksum_68 rfl (by decide) rfl ?_
    refine y_iinc (pc := 69) (i := 3) (j := 2) (v := (Int32.ofNat i) + 1) (lv' := [(3, .int ((Int32.ofNat i) + 1)), (1, .long ((31 * ((31 * ((31 * (gck1 C i)) + ((C.1 (8, 0, i) 1).toInt64))) + ((C.1 (8, 0, i) 10).toInt64))) + ((C.1 (8, 0, i) 9).toInt64))), (4, .ref (ad (8, 0, i))), (0, .ref (ad (0, 0, 0)))]) o dX11_checksum_69 rfl rfl (by decide) rfl ?_
    refine y_goto (pc := 72) (tgt := 6) o dX11_checksum_72 rfl ?_
    refine y_lv [0, 1, 3] (lv' := [(3, .int ((Int32.ofNat i) + 1)), (1, .long ((31 * ((31 * ((31 * (gck1 C i)) + ((C.1 (8, 0, i) 1).toInt64))) + ((C.1 (8, 0, i) 10).toInt64))) + ((C.1 (8, 0, i) 9).toInt64))), (0, .ref (ad (0, 0, 0)))]) rfl ?_
    rw [(gofs (n := i) (by omega)).2.2]
    exact ih (i + 1) (by omega)

end Z24
