
section Z32
variable {κ : gq_K} {ad ad' : gKey → Nat} {C C' R : gG} {T : List (Nat × va_E)} {h : gq_H}
theorem gadd2 {a b : Int32} {n : Nat} (hn : n ≤ 100) (ha : 0 ≤ a.toInt ∧ a.toInt ≤ 1000 * n) (hb : 0 ≤ b.toInt ∧ b.toInt ≤ 1000) : 0 ≤ (a + b).toInt ∧ (a + b).toInt ≤ 1000 * (n + 1) := by
  rw [Int32.toInt_add, Int.bmod_def]
  split <;> omega
theorem gsum_b {f : Nat → Int32} {n : Nat} (hn : n ≤ 100) (hf : ∀ i, i < n → 0 ≤ (f i).toInt ∧ (f i).toInt ≤ 1000) : 0 ≤ (gsum f n).toInt ∧ (gsum f n).toInt ≤ 1000 * n := by
  induction n with
  | zero => exact ⟨Int.le_refl 0, Int.le_refl 0⟩
  | succ n ih => exact gadd2 (by omega) (ih (by omega) (fun i hi => hf i (by omega))) (hf n (by omega))
theorem gsum_c {f g : Nat → Int32} {n : Nat} (hf : ∀ i, i < n → f i = g i) : gsum f n = gsum g n := by
  induction n with
  | zero => rfl
  | succ n ih =>
    rw [gsum_1, gsum_1, ih (fun i hi => hf i (by omega)), hf n (by omega)]
theorem gz1 {x : Int32} (h : 0 ≤ x.toInt) : (x = 0) = (x < 1) := by
  rw [Int32.lt_iff_toInt_lt, ← Int32.toInt_inj]
  have e0 : (0 : Int32).toInt = 0 := rfl
  have e1 : (1 : Int32).toInt = 1 := rfl
  exact propext (by omega)
theorem gpen_z {n : Nat} (hI : gI n R) : (gpen R = 0) = (gpen R < 1) := gz1 (gsum_b (by have := hI.1.2.1.2.2.2.2.1; omega) (fun i hi => by
  obtain ⟨-, -, h3, h4, -⟩ := hI.2.2.2.2.2.1 i hi
  obtain ⟨h5, h6⟩ := gin_iff.mp h3
  rw [Int32.lt_iff_toInt_lt] at h4 h5 h6
  have e0 : (0 : Int32).toInt = 0 := rfl
  have e5 : (500 : Int32).toInt = 500 := rfl
  omega)).1
theorem gfir_z {n : Nat} (hI : gI n R) : (gfir R = 0) = (gfir R < 1) := gz1 (gsum_b (by have := hI.1.2.1.2.2.1; omega) (fun i hi => by
  have e0 : (0 : Int32).toInt = 0 := rfl
  have e1 : (1 : Int32).toInt = 1 := rfl
  by_cases z : R.1 (8, 0, i) 6 < 0
  · simp only [z, if_true]; omega
  · simp only [z, if_false]; omega)).1
theorem y_fconst0 {M : gq_M} {Q : Option Value → gq_H → Prop} {E : String → gq_H → Prop} {f : gq_F} {P : gq_H → Prop} {lv : List (Nat × Value)} {pc : Nat} {st : List Value} {k n : Nat} (o : gq_Ok κ M f) (d : decode M.2.1 pc = .ok (.fconst 0, 1)) (yy : gq_Y κ M Q E f P lv (pc + 1) (.float FP.fconst0 :: st) k n) : gq_Y κ M Q E f P lv pc st k n := by
  obtain ⟨p, l, e, s, m, args, below, meth, c, A⟩ := f
  exact fun h H locs ls h1 h2 h3 h4 => lv_fconst0 o.1 o.2.1 d (yy h H locs ls h1 h2 h3 h4)
theorem y_dconst0 {M : gq_M} {Q : Option Value → gq_H → Prop} {E : String → gq_H → Prop} {f : gq_F} {P : gq_H → Prop} {lv : List (Nat × Value)} {pc : Nat} {st : List Value} {k n : Nat} (o : gq_Ok κ M f) (d : decode M.2.1 pc = .ok (.dconst 0, 1)) (yy : gq_Y κ M Q E f P lv (pc + 1) (.double FP.dconst0 :: st) k n) : gq_Y κ M Q E f P lv pc st k n := by
  obtain ⟨p, l, e, s, m, args, below, meth, c, A⟩ := f
  exact fun h H locs ls h1 h2 h3 h4 => lv_dconst0 o.1 o.2.1 d (yy h H locs ls h1 h2 h3 h4)
def gPf (κ : gq_K) (ad : gKey → Nat) (C R : gG) (T : List (Nat × va_E)) : Option Value → gq_H → Prop := fun v h => (gpen R < 1 ∧ (∃ x, v = some (.float x)) ∧ gR κ ad (C, gup R (0, 0, 0) 5 1) T h) ∨ (¬ gpen R < 1 ∧ v = some (.float (FP.fdiv (FP.i2f (gbro R)) (FP.i2f (gpen R)))) ∧ gR κ ad (C, R) T h)
def gPd (κ : gq_K) (ad : gKey → Nat) (C R : gG) (T : List (Nat × va_E)) : Option Value → gq_H → Prop := fun v h => (gfir R < 1 ∧ (∃ x, v = some (.double x)) ∧ gR κ ad (C, gup R (0, 0, 0) 5 1) T h) ∨ (¬ gfir R < 1 ∧ v = some (.double (FP.ddiv (FP.i2d (gdrk R)) (FP.i2d (gfir R)))) ∧ gR κ ad (C, R) T h)

theorem r_checksum {κ : gq_K} {ad : gKey → Nat} {C Rp R : gG} {T : List (Nat × va_E)} {n : Nat} (hb : gup Rp (0, 0, 0) 5 0 = R) (hI : gI n R) (hn : n ≤ 512) : gq_C κ mX16_checksum [.ref (ad (20, 0, 0))] (gR κ ad (C, Rp) T) (fun v9 g9 => v9 = some (.long (gck3 R (R.2 11 0))) ∧ gR κ ad (C, R) T g9) (gq_no) := by
  refine gq_enter (by decide +kernel) rfl (Nat.le_of_ble_eq_true rfl) rfl (fun f o => ?_)
  have hR := hI.fix
  have hBR := hI.cnt
  have hRp : gfix Rp.2 := by rw [← hb] at hR; exact hR
  have h5 : R.1 (0, 0, 0) 5 = 0 := by rw [← hb]; exact gup_v _ _ _ _
  have hN1 : R.2 8 0 ≤ 144 := hBR 2 0 (by decide)
  have hN2 : R.2 10 0 ≤ 144 := hBR 4 0 (by decide)
  have hN3 : R.2 11 0 ≤ 30 := hI.1.2.1.2.2.2.2.2.1
  refine y_aload_n (pc := 0) o dX16_checksum_0 rfl ?_
  refine z_callVv (pc := 1) (k := 0) (n := 0) (k' := 0) (n' := 0) o (b := ad (20, 0, 0)) (As := []) (rest := []) (kBegins hRp) ln_X16_69 dX16_checksum_1 (z_rc (ci := 20) (K := (20, 0, 0)) rfl (gl_20 hRp) rfl) rfl rfl (Nat.le_of_ble_eq_true rfl) ⟨by decide, by decide⟩ ⟨rfl, rfl⟩ ⟨by decide, by decide⟩ rfl gq_nox2 ?_
  rw [hb]
  refine y_ldc2 (pc := 4) o dX16_checksum_4 qw_1808 ?_
  refine y_lstore_n (pc := 7) (i := 1) (lv' := [(1, .long (7)), (0, .ref (ad (20, 0, 0)))]) o dX16_checksum_7 rfl (by decide) rfl ?_
  refine y_aload_n (pc := 8) o dX16_checksum_8 rfl ?_
  refine z_get (pc := 9) (K := (20, 0, 0)) (v := .ref (ad (24, 2, 0))) o fl_X16_51 dX16_checksum_9 (gl_20 hR) rfl rfl ?_
  refine y_callF (pc := 12) (ci := 3) (k := 0) (n := 0) o (b := ad (24, 2, 0)) (As := []) (rest := []) (kIter (l := 2) (g := 0) (gl_24_2 hR)) rfl lf_X16_302 dX16_checksum_12 (fun h hr => ⟨_, ghdr_R (R := R) (gl_24_2 hR) hr⟩) rfl rfl (Nat.le_of_ble_eq_true rfl) ⟨by decide, by decide⟩ ⟨by decide, by decide⟩ (fun _ e => e) (fun _ _ z => z) (fun v => y_ex fun q1 => y_and fun ev => ?_)
  subst ev
  refine z_st (st' := [.ref (q1)]) rfl ?_
  refine y_astore_n (pc := 17) (i := 3) (lv' := [(3, .ref (q1)), (1, .long (7)), (0, .ref (ad (20, 0, 0)))]) o dX16_checksum_17 rfl (by decide) rfl ?_
  suffices H1 : ∀ m j : Nat, j + m = R.2 8 0 → gq_Y κ mX16_checksum (fun v9 g9 => v9 = some (.long (gck3 R (R.2 11 0))) ∧ gR κ ad (C, R) T g9) (gq_no) f (gR κ ad (C, R) ((q1, .inr (2, [.int (Int32.ofNat j), .int (Int32.ofNat j - 1), .int (Int32.ofNat (R.2 8 0)), .ref (ad (24, 2, 0))])) :: T)) [(3, .ref (q1)), (1, .long (gck1 R j)), (0, .ref (ad (20, 0, 0)))] 18 [] 1 4 from ?_
  · exact H1 (R.2 8 0) 0 (Nat.zero_add _)
  intro m
  induction m with
  | zero =>
    intro j hj
    have hjN : Int32.ofNat j = Int32.ofNat (R.2 8 0) := by rw [show j = R.2 8 0 by omega]
    refine y_aload_n (pc := 18) o dX16_checksum_18 rfl ?_
    refine z_callF (pc := 19) (k := 1) (n := 4) (k' := 1) (n' := 4) (ci := 2) o (b := q1) (As := []) (rest := []) (kHasN (l := 2) (g := 0) (gl_24_2 hR) q1 (Int32.ofNat j) _) rfl lf_X16_306 dX16_checksum_19 (fun h hr => ⟨_, hr.2.2.2.1 _ List.mem_cons_self⟩) rfl rfl (Nat.le_of_ble_eq_true rfl) ⟨by decide, by decide⟩ ⟨rfl, rfl⟩ ⟨by decide, by decide⟩ ?_
    refine z_beq (pc := 24) (tgt := 80) o dX16_checksum_24 rfl (fun (b1 : ¬ (¬ Int32.ofNat j = Int32.ofNat (R.2 8 0))) => ?_) (fun b1 => absurd hjN b1)
    obtain rfl : j = R.2 8 0 := by omega
    refine y_mono (fun h hr => hr.drop1) ?_
    refine y_lv [1, 2] (lv' := [(1, .long (gck1 R (R.2 8 0))), (0, .ref (ad (20, 0, 0)))]) rfl ?_
    refine y_aload_n (pc := 80) o dX16_checksum_80 rfl ?_
    refine z_get (pc := 81) (K := (20, 0, 0)) (v := .ref (ad (24, 4, 0))) o fl_X16_57 dX16_checksum_81 (gl_20 hR) rfl rfl ?_
    refine y_callF (pc := 84) (ci := 3) (k := 1) (n := 4) o (b := ad (24, 4, 0)) (As := []) (rest := []) (kIter (l := 4) (g := 0) (gl_24_4 hR)) rfl lf_X16_302 dX16_checksum_84 (fun h hr => ⟨_, ghdr_R (R := R) (gl_24_4 hR) hr⟩) rfl rfl (Nat.le_of_ble_eq_true rfl) ⟨by decide, by decide⟩ ⟨by decide, by decide⟩ (fun _ e => e) (fun _ _ z => z) (fun v => y_ex fun q1 => y_and fun ev => ?_)
    subst ev
    refine z_st (st' := [.ref (q1)]) rfl ?_
    refine y_astore_n (pc := 89) (i := 3) (lv' := [(3, .ref (q1)), (1, .long (gck1 R (R.2 8 0))), (0, .ref (ad (20, 0, 0)))]) o dX16_checksum_89 rfl (by decide) rfl ?_
    suffices H2 : ∀ m j : Nat, j + m = R.2 10 0 → gq_Y κ mX16_checksum (fun v9 g9 => v9 = some (.long (gck3 R (R.2 11 0))) ∧ gR κ ad (C, R) T g9) (gq_no) f (gR κ ad (C, R) ((q1, .inr (2, [.int (Int32.ofNat j), .int (Int32.ofNat j - 1), .int (Int32.ofNat (R.2 10 0)), .ref (ad (24, 4, 0))])) :: T)) [(3, .ref (q1)), (1, .long (gck2 R j)), (0, .ref (ad (20, 0, 0)))] 90 [] 2 8 from ?_
    · exact H2 (R.2 10 0) 0 (Nat.zero_add _)
    intro m
    induction m with
    | zero =>
      intro j hj
      have hjN : Int32.ofNat j = Int32.ofNat (R.2 10 0) := by rw [show j = R.2 10 0 by omega]
      refine y_aload_n (pc := 90) o dX16_checksum_90 rfl ?_
      refine z_callF (pc := 91) (k := 2) (n := 8) (k' := 2) (n' := 8) (ci := 2) o (b := q1) (As := []) (rest := []) (kHasN (l := 4) (g := 0) (gl_24_4 hR) q1 (Int32.ofNat j) _) rfl lf_X16_306 dX16_checksum_91 (fun h hr => ⟨_, hr.2.2.2.1 _ List.mem_cons_self⟩) rfl rfl (Nat.le_of_ble_eq_true rfl) ⟨by decide, by decide⟩ ⟨rfl, rfl⟩ ⟨by decide, by decide⟩ ?_
      refine z_beq (pc := 96) (tgt := 139) o dX16_checksum_96 rfl (fun (b2 : ¬ (¬ Int32.ofNat j = Int32.ofNat (R.2 10 0))) => ?_) (fun b2 => absurd hjN b2)
      obtain rfl : j = R.2 10 0 := by omega
      refine y_mono (fun h hr => hr.drop1) ?_
      refine y_lv [1, 2] (lv' := [(1, .long (gck2 R (R.2 10 0))), (0, .ref (ad (20, 0, 0)))]) rfl ?_
      refine y_aload_n (pc := 139) o dX16_checksum_139 rfl ?_
      refine z_get (pc := 140) (K := (20, 0, 0)) (v := .ref (ad (24, 5, 0))) o fl_X16_60 dX16_checksum_140 (gl_20 hR) rfl rfl ?_
      refine y_callF (pc := 143) (ci := 3) (k := 2) (n := 8) o (b := ad (24, 5, 0)) (As := []) (rest := []) (kIter (l := 5) (g := 0) (gl_24_5 hR)) rfl lf_X16_302 dX16_checksum_143 (fun h hr => ⟨_, ghdr_R (R := R) (gl_24_5 hR) hr⟩) rfl rfl (Nat.le_of_ble_eq_true rfl) ⟨by decide, by decide⟩ ⟨by decide, by decide⟩ (fun _ e => e) (fun _ _ z => z) (fun v => y_ex fun q1 => y_and fun ev => ?_)
      subst ev
      refine z_st (st' := [.ref (q1)]) rfl ?_
      refine y_astore_n (pc := 148) (i := 3) (lv' := [(3, .ref (q1)), (1, .long (gck2 R (R.2 10 0))), (0, .ref (ad (20, 0, 0)))]) o dX16_checksum_148 rfl (by decide) rfl ?_
      suffices H3 : ∀ m j : Nat, j + m = R.2 11 0 → ∀ k n : Nat, k + m ≤ 33 → n + 4 * m ≤ 132 → gq_Y κ mX16_checksum (fun v9 g9 => v9 = some (.long (gck3 R (R.2 11 0))) ∧ gR κ ad (C, R) T g9) (gq_no) f (gR κ ad (C, R) ((q1, .inr (2, [.int (Int32.ofNat j), .int (Int32.ofNat j - 1), .int (Int32.ofNat (R.2 11 0)), .ref (ad (24, 5, 0))])) :: T)) [(3, .ref (q1)), (1, .long (gck3 R j)), (0, .ref (ad (20, 0, 0)))] 149 [] k n from ?_
      · exact H3 (R.2 11 0) 0 (Nat.zero_add _) 3 12 (by omega) (by omega)
      intro m
      induction m with
      | zero =>
        intro j hj k n hk hn9
        have hjN : Int32.ofNat j = Int32.ofNat (R.2 11 0) := by rw [show j = R.2 11 0 by omega]
        refine y_aload_n (pc := 149) o dX16_checksum_149 rfl ?_
        refine z_callF (pc := 150) (k := k) (n := n) (k' := k) (n' := n) (ci := 2) o (b := q1) (As := []) (rest := []) (kHasN (l := 5) (g := 0) (gl_24_5 hR) q1 (Int32.ofNat j) _) rfl lf_X16_306 dX16_checksum_150 (fun h hr => ⟨_, hr.2.2.2.1 _ List.mem_cons_self⟩) rfl rfl (Nat.le_of_ble_eq_true rfl) ⟨by decide, by decide⟩ ⟨rfl, rfl⟩ ⟨(show k ≤ 34 by omega), (show n ≤ 136 by omega)⟩ ?_
        refine z_beq (pc := 155) (tgt := 185) o dX16_checksum_155 rfl (fun (b3 : ¬ (¬ Int32.ofNat j = Int32.ofNat (R.2 11 0))) => ?_) (fun b3 => absurd hjN b3)
        obtain rfl : j = R.2 11 0 := by omega
        refine y_mono (fun h hr => hr.drop1) ?_
        refine y_lv [1, 2] (lv' := [(1, .long (gck3 R (R.2 11 0))), (0, .ref (ad (20, 0, 0)))]) rfl ?_
        refine y_lload_n (pc := 185) o dX16_checksum_185 rfl ?_
        exact y_lret (pc := 186) o dX16_checksum_186 rfl (show k ≤ 34 by omega) (show n ≤ 136 by omega) (fun h hp => ⟨rfl, hp⟩)
      | succ m ih =>
        intro j hj k n hk hn9
        have hjN : ¬ Int32.ofNat j = Int32.ofNat (R.2 11 0) := fun z => by have := (gneqN (by omega) (by omega)).mp z; omega
        refine y_aload_n (pc := 149) o dX16_checksum_149 rfl ?_
        refine z_callF (pc := 150) (k := k) (n := n) (k' := k) (n' := n) (ci := 2) o (b := q1) (As := []) (rest := []) (kHasN (l := 5) (g := 0) (gl_24_5 hR) q1 (Int32.ofNat j) _) rfl lf_X16_306 dX16_checksum_150 (fun h hr => ⟨_, hr.2.2.2.1 _ List.mem_cons_self⟩) rfl rfl (Nat.le_of_ble_eq_true rfl) ⟨by decide, by decide⟩ ⟨rfl, rfl⟩ ⟨(show k ≤ 34 by omega), (show n ≤ 136 by omega)⟩ ?_
        refine z_beq (pc := 155) (tgt := 185) o dX16_checksum_155 rfl (fun b4 => absurd hjN b4) (fun (b4 : ¬ Int32.ofNat j = Int32.ofNat (R.2 11 0)) => ?_)
        refine y_aload_n (pc := 158) o dX16_checksum_158 rfl ?_
        refine z_callF (pc := 159) (k := k) (n := n) (k' := k) (n' := n) (ci := 2) o (b := q1) (As := []) (rest := []) (kNext (l := 5) (g := 0) (gl_24_5 hR) (hBR 5 0 (by decide)) q1 j (show j < R.2 11 0 by omega) _) rfl lf_X16_312 dX16_checksum_159 (fun h hr => ⟨_, hr.2.2.2.1 _ List.mem_cons_self⟩) rfl rfl (Nat.le_of_ble_eq_true rfl) ⟨by decide, by decide⟩ ⟨rfl, rfl⟩ ⟨(show k ≤ 34 by omega), (show n ≤ 136 by omega)⟩ ?_
        refine z_cast (pc := 164) (ci := 17) (K := (31, 0, j)) o rfl qw_1684 dX16_checksum_164 (gl_31 (show j < R.2 11 0 by omega)) rfl ?_
        refine y_astore (pc := 167) (i := 4) (lv' := [(4, .ref (ad (31, 0, j))), (3, .ref (q1)), (1, .long (gck3 R j)), (0, .ref (ad (20, 0, 0)))]) o dX16_checksum_167 (by decide) rfl ?_
        refine y_ldc2 (pc := 169) o dX16_checksum_169 qw_1809 ?_
        refine y_lload_n (pc := 172) o dX16_checksum_172 rfl ?_
        refine y_lmul (pc := 173) o dX16_checksum_173 ?_
        refine y_aload (pc := 174) o dX16_checksum_174 rfl ?_
        refine z_callV (pc := 176) (k := k) (n := n) (k' := k + 1) (n' := n + 4) o (b := ad (31, 0, j)) (As := []) (rest := [.long (31 * (gck3 R j))]) (kMany hR hBR j (show j < R.2 11 0 by omega) (hI.2.2.2.2.2.2.1 _ (show j < R.2 11 0 by omega)).1) ln_X16_289 dX16_checksum_176 (z_rc (ci := 17) (K := (31, 0, j)) rfl (gl_31 (show j < R.2 11 0 by omega)) rfl) rfl rfl (Nat.le_of_ble_eq_true rfl) ⟨by decide, by decide⟩ ⟨rfl, rfl⟩ ⟨(show k + 1 ≤ 34 by omega), (show n + 4 ≤ 136 by omega)⟩ rfl gq_nox2 ?_
        refine y_i2l (pc := 179) o dX16_checksum_179 ?_
        refine y_ladd (pc := 180) o dX16_checksum_180 ?_
        refine y_lstore_n (pc := 181) (i := 1) (lv' := [(1, .long ((31 * (gck3 R j)) + ((R.1 (11, 0, j) 1).toInt64))), (4, .ref (ad (31, 0, j))), (3, .ref (q1)), (0, .ref (ad (20, 0, 0)))]) o dX16_checksum_181 rfl (by decide) rfl ?_
        refine y_goto (pc := 182) (tgt := 149) o dX16_checksum_182 rfl ?_
        refine y_lv [2, 0, 3] (lv' := [(3, .ref (q1)), (1, .long ((31 * (gck3 R j)) + ((R.1 (11, 0, j) 1).toInt64))), (0, .ref (ad (20, 0, 0)))]) rfl ?_
        refine y_mono (P' := gR κ ad (C, R) ((q1, .inr (2, [.int (Int32.ofNat (j + 1)), .int (Int32.ofNat (j + 1) - 1), .int (Int32.ofNat (R.2 11 0)), .ref (ad (24, 5, 0))])) :: T)) (fun h hr => by rw [gofN1]; exact hr) ?_
        exact ih (j + 1) (by omega) _ _ (by omega) (by omega)
    | succ m ih =>
      intro j hj
      have hjN : ¬ Int32.ofNat j = Int32.ofNat (R.2 10 0) := fun z => by have := (gneqN (by omega) (by omega)).mp z; omega
      refine y_aload_n (pc := 90) o dX16_checksum_90 rfl ?_
      refine z_callF (pc := 91) (k := 2) (n := 8) (k' := 2) (n' := 8) (ci := 2) o (b := q1) (As := []) (rest := []) (kHasN (l := 4) (g := 0) (gl_24_4 hR) q1 (Int32.ofNat j) _) rfl lf_X16_306 dX16_checksum_91 (fun h hr => ⟨_, hr.2.2.2.1 _ List.mem_cons_self⟩) rfl rfl (Nat.le_of_ble_eq_true rfl) ⟨by decide, by decide⟩ ⟨rfl, rfl⟩ ⟨by decide, by decide⟩ ?_
      refine z_beq (pc := 96) (tgt := 139) o dX16_checksum_96 rfl (fun b5 => absurd hjN b5) (fun (b5 : ¬ Int32.ofNat j = Int32.ofNat (R.2 10 0)) => ?_)
      refine y_aload_n (pc := 99) o dX16_checksum_99 rfl ?_
      refine z_callF (pc := 100) (k := 2) (n := 8) (k' := 2) (n' := 8) (ci := 2) o (b := q1) (As := []) (rest := []) (kNext (l := 4) (g := 0) (gl_24_4 hR) (hBR 4 0 (by decide)) q1 j (show j < R.2 10 0 by omega) _) rfl lf_X16_312 dX16_checksum_100 (fun h hr => ⟨_, hr.2.2.2.1 _ List.mem_cons_self⟩) rfl rfl (Nat.le_of_ble_eq_true rfl) ⟨by decide, by decide⟩ ⟨rfl, rfl⟩ ⟨by decide, by decide⟩ ?_
      refine z_cast (pc := 105) (ci := 18) (K := (30, 0, j)) o rfl qw_1601 dX16_checksum_105 (gl_30 (show j < R.2 10 0 by omega)) rfl ?_
      refine y_astore (pc := 108) (i := 4) (lv' := [(4, .ref (ad (30, 0, j))), (3, .ref (q1)), (1, .long (gck2 R j)), (0, .ref (ad (20, 0, 0)))]) o dX16_checksum_108 (by decide) rfl ?_
      refine y_ldc2 (pc := 110) o dX16_checksum_110 qw_1809 ?_
      refine y_lload_n (pc := 113) o dX16_checksum_113 rfl ?_
      refine y_lmul (pc := 114) o dX16_checksum_114 ?_
      refine y_aload (pc := 115) o dX16_checksum_115 rfl ?_
      refine z_get (pc := 117) (K := (30, 0, j)) (v := .int (R.1 (10, 0, j) 3)) o fl_X16_248 dX16_checksum_117 (gl_30 (show j < R.2 10 0 by omega)) rfl rfl ?_
      refine y_i2l (pc := 120) o dX16_checksum_120 ?_
      refine y_ladd (pc := 121) o dX16_checksum_121 ?_
      refine y_lstore_n (pc := 122) (i := 1) (lv' := [(1, .long ((31 * (gck2 R j)) + ((R.1 (10, 0, j) 3).toInt64))), (4, .ref (ad (30, 0, j))), (3, .ref (q1)), (0, .ref (ad (20, 0, 0)))]) o dX16_checksum_122 rfl (by decide) rfl ?_
      refine y_ldc2 (pc := 123) o dX16_checksum_123 qw_1809 ?_
      refine y_lload_n (pc := 126) o dX16_checksum_126 rfl ?_
      refine y_lmul (pc := 127) o dX16_checksum_127 ?_
      refine y_aload (pc := 128) o dX16_checksum_128 rfl ?_
      refine z_get (pc := 130) (K := (30, 0, j)) (v := .int (R.1 (10, 0, j) 4)) o fl_X16_270 dX16_checksum_130 (gl_30 (show j < R.2 10 0 by omega)) rfl rfl ?_
      refine y_i2l (pc := 133) o dX16_checksum_133 ?_
      refine y_ladd (pc := 134) o dX16_checksum_134 ?_
      refine y_lstore_n (pc := 135) (i := 1) (lv' := [(1, .long ((31 * ((31 * (gck2 R j)) + ((R.1 (10, 0, j) 3).toInt64))) + ((R.1 (10, 0, j) 4).toInt64))), (4, .ref (ad (30, 0, j))), (3, .ref (q1)), (0, .ref (ad (20, 0, 0)))]) o dX16_checksum_135 rfl (by decide) rfl ?_
      refine y_goto (pc := 136) (tgt := 90) o dX16_checksum_136 rfl ?_
      refine y_lv [2, 0, 3] (lv' := [(3, .ref (q1)), (1, .long ((31 * ((31 * (gck2 R j)) + ((R.1 (10, 0, j) 3).toInt64))) + ((R.1 (10, 0, j) 4).toInt64))), (0, .ref (ad (20, 0, 0)))]) rfl ?_
      refine y_mono (P' := gR κ ad (C, R) ((q1, .inr (2, [.int (Int32.ofNat (j + 1)), .int (Int32.ofNat (j + 1) - 1), .int (Int32.ofNat (R.2 10 0)), .ref (ad (24, 4, 0))])) :: T)) (fun h hr => by rw [gofN1]; exact hr) ?_
      exact ih (j + 1) (by omega)
  | succ m ih =>
    intro j hj
    have hjN : ¬ Int32.ofNat j = Int32.ofNat (R.2 8 0) := fun z => by have := (gneqN (by omega) (by omega)).mp z; omega
    refine y_aload_n (pc := 18) o dX16_checksum_18 rfl ?_
    refine z_callF (pc := 19) (k := 1) (n := 4) (k' := 1) (n' := 4) (ci := 2) o (b := q1) (As := []) (rest := []) (kHasN (l := 2) (g := 0) (gl_24_2 hR) q1 (Int32.ofNat j) _) rfl lf_X16_306 dX16_checksum_19 (fun h hr => ⟨_, hr.2.2.2.1 _ List.mem_cons_self⟩) rfl rfl (Nat.le_of_ble_eq_true rfl) ⟨by decide, by decide⟩ ⟨rfl, rfl⟩ ⟨by decide, by decide⟩ ?_
    refine z_beq (pc := 24) (tgt := 80) o dX16_checksum_24 rfl (fun b6 => absurd hjN b6) (fun (b6 : ¬ Int32.ofNat j = Int32.ofNat (R.2 8 0)) => ?_)
    refine y_aload_n (pc := 27) o dX16_checksum_27 rfl ?_
    refine z_callF (pc := 28) (k := 1) (n := 4) (k' := 1) (n' := 4) (ci := 2) o (b := q1) (As := []) (rest := []) (kNext (l := 2) (g := 0) (gl_24_2 hR) (hBR 2 0 (by decide)) q1 j (show j < R.2 8 0 by omega) _) rfl lf_X16_312 dX16_checksum_28 (fun h hr => ⟨_, hr.2.2.2.1 _ List.mem_cons_self⟩) rfl rfl (Nat.le_of_ble_eq_true rfl) ⟨by decide, by decide⟩ ⟨rfl, rfl⟩ ⟨by decide, by decide⟩ ?_
    refine z_cast (pc := 33) (ci := 16) (K := (28, 0, j)) o rfl qw_1452 dX16_checksum_33 (gl_28 (show j < R.2 8 0 by omega)) rfl ?_
    refine y_astore (pc := 36) (i := 4) (lv' := [(4, .ref (ad (28, 0, j))), (3, .ref (q1)), (1, .long (gck1 R j)), (0, .ref (ad (20, 0, 0)))]) o dX16_checksum_36 (by decide) rfl ?_
    refine y_ldc2 (pc := 38) o dX16_checksum_38 qw_1809 ?_
    refine y_lload_n (pc := 41) o dX16_checksum_41 rfl ?_
    refine y_lmul (pc := 42) o dX16_checksum_42 ?_
    refine y_aload (pc := 43) o dX16_checksum_43 rfl ?_
    refine z_get (pc := 45) (K := (28, 0, j)) (v := .int (R.1 (8, 0, j) 1)) o fl_X16_138 dX16_checksum_45 (gl_28 (show j < R.2 8 0 by omega)) rfl rfl ?_
    refine y_i2l (pc := 48) o dX16_checksum_48 ?_
    refine y_ladd (pc := 49) o dX16_checksum_49 ?_
    refine y_lstore_n (pc := 50) (i := 1) (lv' := [(1, .long ((31 * (gck1 R j)) + ((R.1 (8, 0, j) 1).toInt64))), (4, .ref (ad (28, 0, j))), (3, .ref (q1)), (0, .ref (ad (20, 0, 0)))]) o dX16_checksum_50 rfl (by decide) rfl ?_
    refine y_ldc2 (pc := 51) o dX16_checksum_51 qw_1809 ?_
    refine y_lload_n (pc := 54) o dX16_checksum_54 rfl ?_
    refine y_lmul (pc := 55) o dX16_checksum_55 ?_
    refine y_aload (pc := 56) o dX16_checksum_56 rfl ?_
    refine z_get (pc := 58) (K := (28, 0, j)) (v := .int (R.1 (8, 0, j) 10)) o fl_X16_180 dX16_checksum_58 (gl_28 (show j < R.2 8 0 by omega)) rfl rfl ?_
    refine y_i2l (pc := 61) o dX16_checksum_61 ?_
    refine y_ladd (pc := 62) o dX16_checksum_62 ?_
    refine y_lstore_n (pc := 63) (i := 1) (lv' := [(1, .long ((31 * ((31 * (gck1 R j)) + ((R.1 (8, 0, j) 1).toInt64))) + ((R.1 (8, 0, j) 10).toInt64))), (4, .ref (ad (28, 0, j))), (3, .ref (q1)), (0, .ref (ad (20, 0, 0)))]) o dX16_checksum_63 rfl (by decide) rfl ?_
    refine y_ldc2 (pc := 64) o dX16_checksum_64 qw_1809 ?_
    refine y_lload_n (pc := 67) o dX16_checksum_67 rfl ?_
    refine y_lmul (pc := 68) o dX16_checksum_68 ?_
    refine y_aload (pc := 69) o dX16_checksum_69 rfl ?_
    refine z_get (pc := 71) (K := (28, 0, j)) (v := .int (R.1 (8, 0, j) 9)) o fl_X16_177 dX16_checksum_71 (gl_28 (show j < R.2 8 0 by omega)) rfl rfl ?_
    refine y_i2l (pc := 74) o dX16_checksum_74 ?_
    refine y_ladd (pc := 75) o dX16_checksum_75 ?_
    refine y_lstore_n (pc := 76) (i := 1) (lv' := [(1, .long ((31 * ((31 * ((31 * (gck1 R j)) + ((R.1 (8, 0, j) 1).toInt64))) + ((R.1 (8, 0, j) 10).toInt64))) + ((R.1 (8, 0, j) 9).toInt64))), (4, .ref (ad (28, 0, j))), (3, .ref (q1)), (0, .ref (ad (20, 0, 0)))]) o dX16_checksum_76 rfl (by decide) rfl ?_
    refine y_goto (pc := 77) (tgt := 18) o dX16_checksum_77 rfl ?_
    refine y_lv [2, 0, 3] (lv' := [(3, .ref (q1)), (1, .long ((31 * ((31 * ((31 * (gck1 R j)) + ((R.1 (8, 0, j) 1).toInt64))) + ((R.1 (8, 0, j) 10).toInt64))) + ((R.1 (8, 0, j) 9).toInt64))), (0, .ref (ad (20, 0, 0)))]) rfl ?_
    refine y_mono (P' := gR κ ad (C, R) ((q1, .inr (2, [.int (Int32.ofNat (j + 1)), .int (Int32.ofNat (j + 1) - 1), .int (Int32.ofNat (R.2 8 0)), .ref (ad (24, 2, 0))])) :: T)) (fun h hr => by rw [gofN1]; exact hr) ?_
    exact ih (j + 1) (by omega)

theorem r_brokenShare {κ : gq_K} {ad : gKey → Nat} {C Rp R : gG} {T : List (Nat × va_E)} {n : Nat} (hb : gup Rp (0, 0, 0) 5 0 = R) (hI : gI n R) (hn : n ≤ 512) : gq_C κ mX16_brokenShare [.ref (ad (20, 0, 0))] (gR κ ad (C, Rp) T) (gPf κ ad C R T) (gq_no) := by
  refine gq_enter (by decide +kernel) rfl (Nat.le_of_ble_eq_true rfl) rfl (fun f o => ?_)
  have hR := hI.fix
  have hBR := hI.cnt
  have hRp : gfix Rp.2 := by rw [← hb] at hR; exact hR
  have h5 : R.1 (0, 0, 0) 5 = 0 := by rw [← hb]; exact gup_v _ _ _ _
  have hN9 : R.2 10 0 ≤ 144 := hBR 4 0 (by decide)
  refine y_aload_n (pc := 0) o dX16_brokenShare_0 rfl ?_
  refine z_callVv (pc := 1) (k := 0) (n := 0) (k' := 0) (n' := 0) o (b := ad (20, 0, 0)) (As := []) (rest := []) (kBegins hRp) ln_X16_69 dX16_brokenShare_1 (z_rc (ci := 20) (K := (20, 0, 0)) rfl (gl_20 hRp) rfl) rfl rfl (Nat.le_of_ble_eq_true rfl) ⟨by decide, by decide⟩ ⟨rfl, rfl⟩ ⟨by decide, by decide⟩ rfl gq_nox2 ?_
  rw [hb]
  refine y_iconst (pc := 4) (x := 0) o dX16_brokenShare_4 (by decide) ?_
  refine y_istore_n (pc := 5) (i := 1) (lv' := [(1, .int (0)), (0, .ref (ad (20, 0, 0)))]) o dX16_brokenShare_5 rfl (by decide) rfl ?_
  refine y_iconst (pc := 6) (x := 0) o dX16_brokenShare_6 (by decide) ?_
  refine y_istore_n (pc := 7) (i := 2) (lv' := [(2, .int (0)), (1, .int (0)), (0, .ref (ad (20, 0, 0)))]) o dX16_brokenShare_7 rfl (by decide) rfl ?_
  refine y_aload_n (pc := 8) o dX16_brokenShare_8 rfl ?_
  refine z_get (pc := 9) (K := (20, 0, 0)) (v := .ref (ad (24, 4, 0))) o fl_X16_57 dX16_brokenShare_9 (gl_20 hR) rfl rfl ?_
  refine y_callF (pc := 12) (ci := 3) (k := 0) (n := 0) o (b := ad (24, 4, 0)) (As := []) (rest := []) (kIter (l := 4) (g := 0) (gl_24_4 hR)) rfl lf_X16_302 dX16_brokenShare_12 (fun h hr => ⟨_, ghdr_R (R := R) (gl_24_4 hR) hr⟩) rfl rfl (Nat.le_of_ble_eq_true rfl) ⟨by decide, by decide⟩ ⟨by decide, by decide⟩ (fun _ e => e) (fun _ _ z => z) (fun v => y_ex fun q1 => y_and fun ev => ?_)
  subst ev
  refine z_st (st' := [.ref (q1)]) rfl ?_
  refine y_astore_n (pc := 17) (i := 3) (lv' := [(3, .ref (q1)), (2, .int (0)), (1, .int (0)), (0, .ref (ad (20, 0, 0)))]) o dX16_brokenShare_17 rfl (by decide) rfl ?_
  suffices H : ∀ m j : Nat, j + m = R.2 10 0 → gq_Y κ mX16_brokenShare (gPf κ ad C R T) (gq_no) f (gR κ ad (C, R) ((q1, .inr (2, [.int (Int32.ofNat j), .int (Int32.ofNat j - 1), .int (Int32.ofNat (R.2 10 0)), .ref (ad (24, 4, 0))])) :: T)) [(3, .ref (q1)), (2, .int (gsum (fun i => R.1 (10, 0, i) 4) j)), (1, .int (gsum (fun i => R.1 (10, 0, i) 3) j)), (0, .ref (ad (20, 0, 0)))] 18 [] 1 4 from ?_
  · exact H (R.2 10 0) 0 (Nat.zero_add _)
  intro m
  induction m with
  | zero =>
    intro j hj
    have hjN : Int32.ofNat j = Int32.ofNat (R.2 10 0) := by rw [show j = R.2 10 0 by omega]
    refine y_aload_n (pc := 18) o dX16_brokenShare_18 rfl ?_
    refine z_callF (pc := 19) (k := 1) (n := 4) (k' := 1) (n' := 4) (ci := 2) o (b := q1) (As := []) (rest := []) (kHasN (l := 4) (g := 0) (gl_24_4 hR) q1 (Int32.ofNat j) _) rfl lf_X16_306 dX16_brokenShare_19 (fun h hr => ⟨_, hr.2.2.2.1 _ List.mem_cons_self⟩) rfl rfl (Nat.le_of_ble_eq_true rfl) ⟨by decide, by decide⟩ ⟨rfl, rfl⟩ ⟨by decide, by decide⟩ ?_
    refine z_beq (pc := 24) (tgt := 57) o dX16_brokenShare_24 rfl (fun (b1 : ¬ (¬ Int32.ofNat j = Int32.ofNat (R.2 10 0))) => ?_) (fun b1 => absurd hjN b1)
    obtain rfl : j = R.2 10 0 := by omega
    refine y_mono (fun h hr => hr.drop1) ?_
    have es : gsum (fun i => R.1 (10, 0, i) 3) (R.2 10 0) = gpen R := rfl
    have eb : gsum (fun i => R.1 (10, 0, i) 4) (R.2 10 0) = gbro R := rfl
    rw [es, eb]
    refine y_lv [1, 2, 3] (lv' := [(2, .int (gbro R)), (1, .int (gpen R)), (0, .ref (ad (20, 0, 0)))]) rfl ?_
    refine y_aload_n (pc := 57) o dX16_brokenShare_57 rfl ?_
    refine y_iload_n (pc := 58) o dX16_brokenShare_58 rfl ?_
    refine y_if_ne (pc := 59) (tgt := 66) o dX16_brokenShare_59 rfl (fun (b2 : ¬ (gpen R) = 0) => ?_) (fun (b2 : (gpen R) = 0) => ?_)
    · refine y_iconst (pc := 66) (x := 0) o dX16_brokenShare_66 (by decide) ?_
      refine y_iconst (pc := 67) (x := 1) o dX16_brokenShare_67 (by decide) ?_
      refine z_callV (pc := 68) (k := 1) (n := 4) (k' := 1) (n' := 4) o (b := ad (20, 0, 0)) (As := [.int (0), .int (1)]) (rest := []) (kFailsF hR h5 1) ln_X16_74 dX16_brokenShare_68 (z_rc (ci := 20) (K := (20, 0, 0)) rfl (gl_20 hR) rfl) rfl rfl (Nat.le_of_ble_eq_true rfl) ⟨by decide, by decide⟩ ⟨rfl, rfl⟩ ⟨by decide, by decide⟩ rfl gq_nox2 ?_
      refine y_if_eq (pc := 71) (tgt := 78) o dX16_brokenShare_71 rfl (fun (b3 : 0 = 0) => ?_) (fun b3 => absurd b3 (by decide))
      refine y_iload_n (pc := 78) o dX16_brokenShare_78 rfl ?_
      refine y_i2f (pc := 79) o dX16_brokenShare_79 ?_
      refine y_iload_n (pc := 80) o dX16_brokenShare_80 rfl ?_
      refine y_i2f (pc := 81) o dX16_brokenShare_81 ?_
      refine y_fdiv (pc := 82) o dX16_brokenShare_82 (gnn32 (gfdiv b2)) ?_
      exact y_fret (pc := 83) o dX16_brokenShare_83 rfl (by decide) (by decide) (fun h hp => Or.inr ⟨gpen_z hI ▸ b2, rfl, hp⟩)
    refine y_iconst (pc := 62) (x := 1) o dX16_brokenShare_62 (by decide) ?_
    refine y_goto (pc := 63) (tgt := 67) o dX16_brokenShare_63 rfl ?_
    refine y_iconst (pc := 67) (x := 1) o dX16_brokenShare_67 (by decide) ?_
    refine z_callV (pc := 68) (k := 1) (n := 4) (k' := 1) (n' := 4) o (b := ad (20, 0, 0)) (As := [.int (1), .int (1)]) (rest := []) (kFailsT hR h5 1 (by decide)) ln_X16_74 dX16_brokenShare_68 (z_rc (ci := 20) (K := (20, 0, 0)) rfl (gl_20 hR) rfl) rfl rfl (Nat.le_of_ble_eq_true rfl) ⟨by decide, by decide⟩ ⟨rfl, rfl⟩ ⟨by decide, by decide⟩ rfl gq_nox2 ?_
    refine y_if_eq (pc := 71) (tgt := 78) o dX16_brokenShare_71 rfl (fun b4 => absurd b4 (by decide)) (fun (b4 : ¬ 1 = 0) => ?_)
    refine y_fconst0 (pc := 74) o dX16_brokenShare_74 ?_
    refine y_goto (pc := 75) (tgt := 83) o dX16_brokenShare_75 rfl ?_
    exact y_fret (pc := 83) o dX16_brokenShare_83 rfl (by decide) (by decide) (fun h hp => Or.inl ⟨gpen_z hI ▸ b2, ⟨_, rfl⟩, hp⟩)
  | succ m ih =>
    intro j hj
    have hjN : ¬ Int32.ofNat j = Int32.ofNat (R.2 10 0) := fun z => by have := (gneqN (by omega) (by omega)).mp z; omega
    refine y_aload_n (pc := 18) o dX16_brokenShare_18 rfl ?_
    refine z_callF (pc := 19) (k := 1) (n := 4) (k' := 1) (n' := 4) (ci := 2) o (b := q1) (As := []) (rest := []) (kHasN (l := 4) (g := 0) (gl_24_4 hR) q1 (Int32.ofNat j) _) rfl lf_X16_306 dX16_brokenShare_19 (fun h hr => ⟨_, hr.2.2.2.1 _ List.mem_cons_self⟩) rfl rfl (Nat.le_of_ble_eq_true rfl) ⟨by decide, by decide⟩ ⟨rfl, rfl⟩ ⟨by decide, by decide⟩ ?_
    refine z_beq (pc := 24) (tgt := 57) o dX16_brokenShare_24 rfl (fun b5 => absurd hjN b5) (fun (b5 : ¬ Int32.ofNat j = Int32.ofNat (R.2 10 0)) => ?_)
    refine y_aload_n (pc := 27) o dX16_brokenShare_27 rfl ?_
    refine z_callF (pc := 28) (k := 1) (n := 4) (k' := 1) (n' := 4) (ci := 2) o (b := q1) (As := []) (rest := []) (kNext (l := 4) (g := 0) (gl_24_4 hR) (hBR 4 0 (by decide)) q1 j (show j < R.2 10 0 by omega) _) rfl lf_X16_312 dX16_brokenShare_28 (fun h hr => ⟨_, hr.2.2.2.1 _ List.mem_cons_self⟩) rfl rfl (Nat.le_of_ble_eq_true rfl) ⟨by decide, by decide⟩ ⟨rfl, rfl⟩ ⟨by decide, by decide⟩ ?_
    refine z_cast (pc := 33) (ci := 18) (K := (30, 0, j)) o rfl qw_1601 dX16_brokenShare_33 (gl_30 (show j < R.2 10 0 by omega)) rfl ?_
    refine y_astore (pc := 36) (i := 4) (lv' := [(4, .ref (ad (30, 0, j))), (3, .ref (q1)), (2, .int (gsum (fun i => R.1 (10, 0, i) 4) j)), (1, .int (gsum (fun i => R.1 (10, 0, i) 3) j)), (0, .ref (ad (20, 0, 0)))]) o dX16_brokenShare_36 (by decide) rfl ?_
    refine y_iload_n (pc := 38) o dX16_brokenShare_38 rfl ?_
    refine y_aload (pc := 39) o dX16_brokenShare_39 rfl ?_
    refine z_get (pc := 41) (K := (30, 0, j)) (v := .int (R.1 (10, 0, j) 3)) o fl_X16_248 dX16_brokenShare_41 (gl_30 (show j < R.2 10 0 by omega)) rfl rfl ?_
    refine y_iadd (pc := 44) o dX16_brokenShare_44 ?_
    refine y_istore_n (pc := 45) (i := 1) (lv' := [(1, .int ((gsum (fun i => R.1 (10, 0, i) 3) j) + (R.1 (10, 0, j) 3))), (4, .ref (ad (30, 0, j))), (3, .ref (q1)), (2, .int (gsum (fun i => R.1 (10, 0, i) 4) j)), (0, .ref (ad (20, 0, 0)))]) o dX16_brokenShare_45 rfl (by decide) rfl ?_
    refine y_iload_n (pc := 46) o dX16_brokenShare_46 rfl ?_
    refine y_aload (pc := 47) o dX16_brokenShare_47 rfl ?_
    refine z_get (pc := 49) (K := (30, 0, j)) (v := .int (R.1 (10, 0, j) 4)) o fl_X16_270 dX16_brokenShare_49 (gl_30 (show j < R.2 10 0 by omega)) rfl rfl ?_
    refine y_iadd (pc := 52) o dX16_brokenShare_52 ?_
    refine y_istore_n (pc := 53) (i := 2) (lv' := [(2, .int ((gsum (fun i => R.1 (10, 0, i) 4) j) + (R.1 (10, 0, j) 4))), (1, .int ((gsum (fun i => R.1 (10, 0, i) 3) j) + (R.1 (10, 0, j) 3))), (4, .ref (ad (30, 0, j))), (3, .ref (q1)), (0, .ref (ad (20, 0, 0)))]) o dX16_brokenShare_53 rfl (by decide) rfl ?_
    refine y_goto (pc := 54) (tgt := 18) o dX16_brokenShare_54 rfl ?_
    refine y_lv [3, 0, 1, 4] (lv' := [(3, .ref (q1)), (2, .int ((gsum (fun i => R.1 (10, 0, i) 4) j) + (R.1 (10, 0, j) 4))), (1, .int ((gsum (fun i => R.1 (10, 0, i) 3) j) + (R.1 (10, 0, j) 3))), (0, .ref (ad (20, 0, 0)))]) rfl ?_
    refine y_mono (P' := gR κ ad (C, R) ((q1, .inr (2, [.int (Int32.ofNat (j + 1)), .int (Int32.ofNat (j + 1) - 1), .int (Int32.ofNat (R.2 10 0)), .ref (ad (24, 4, 0))])) :: T)) (fun h hr => by rw [gofN1]; exact hr) ?_
    exact ih (j + 1) (by omega)

theorem r_meanDarkness {κ : gq_K} {ad : gKey → Nat} {C Rp R : gG} {T : List (Nat × va_E)} {n : Nat} (hb : gup Rp (0, 0, 0) 5 0 = R) (hI : gI n R) (hn : n ≤ 512) : gq_C κ mX16_meanDarkness [.ref (ad (20, 0, 0))] (gR κ ad (C, Rp) T) (gPd κ ad C R T) (gq_no) := by
  refine gq_enter (by decide +kernel) rfl (Nat.le_of_ble_eq_true rfl) rfl (fun f o => ?_)
  have hR := hI.fix
  have hBR := hI.cnt
  have hRp : gfix Rp.2 := by rw [← hb] at hR; exact hR
  have h5 : R.1 (0, 0, 0) 5 = 0 := by rw [← hb]; exact gup_v _ _ _ _
  have hN9 : R.2 8 0 ≤ 144 := hBR 2 0 (by decide)
  refine y_aload_n (pc := 0) o dX16_meanDarkness_0 rfl ?_
  refine z_callVv (pc := 1) (k := 0) (n := 0) (k' := 0) (n' := 0) o (b := ad (20, 0, 0)) (As := []) (rest := []) (kBegins hRp) ln_X16_69 dX16_meanDarkness_1 (z_rc (ci := 20) (K := (20, 0, 0)) rfl (gl_20 hRp) rfl) rfl rfl (Nat.le_of_ble_eq_true rfl) ⟨by decide, by decide⟩ ⟨rfl, rfl⟩ ⟨by decide, by decide⟩ rfl gq_nox2 ?_
  rw [hb]
  refine y_iconst (pc := 4) (x := 0) o dX16_meanDarkness_4 (by decide) ?_
  refine y_istore_n (pc := 5) (i := 1) (lv' := [(1, .int (0)), (0, .ref (ad (20, 0, 0)))]) o dX16_meanDarkness_5 rfl (by decide) rfl ?_
  refine y_iconst (pc := 6) (x := 0) o dX16_meanDarkness_6 (by decide) ?_
  refine y_istore_n (pc := 7) (i := 2) (lv' := [(2, .int (0)), (1, .int (0)), (0, .ref (ad (20, 0, 0)))]) o dX16_meanDarkness_7 rfl (by decide) rfl ?_
  refine y_aload_n (pc := 8) o dX16_meanDarkness_8 rfl ?_
  refine z_get (pc := 9) (K := (20, 0, 0)) (v := .ref (ad (24, 2, 0))) o fl_X16_51 dX16_meanDarkness_9 (gl_20 hR) rfl rfl ?_
  refine y_callF (pc := 12) (ci := 3) (k := 0) (n := 0) o (b := ad (24, 2, 0)) (As := []) (rest := []) (kIter (l := 2) (g := 0) (gl_24_2 hR)) rfl lf_X16_302 dX16_meanDarkness_12 (fun h hr => ⟨_, ghdr_R (R := R) (gl_24_2 hR) hr⟩) rfl rfl (Nat.le_of_ble_eq_true rfl) ⟨by decide, by decide⟩ ⟨by decide, by decide⟩ (fun _ e => e) (fun _ _ z => z) (fun v => y_ex fun q1 => y_and fun ev => ?_)
  subst ev
  refine z_st (st' := [.ref (q1)]) rfl ?_
  refine y_astore_n (pc := 17) (i := 3) (lv' := [(3, .ref (q1)), (2, .int (0)), (1, .int (0)), (0, .ref (ad (20, 0, 0)))]) o dX16_meanDarkness_17 rfl (by decide) rfl ?_
  suffices H : ∀ m j : Nat, j + m = R.2 8 0 → gq_Y κ mX16_meanDarkness (gPd κ ad C R T) (gq_no) f (gR κ ad (C, R) ((q1, .inr (2, [.int (Int32.ofNat j), .int (Int32.ofNat j - 1), .int (Int32.ofNat (R.2 8 0)), .ref (ad (24, 2, 0))])) :: T)) [(3, .ref (q1)), (2, .int (gsum (fun i => if R.1 (8, 0, i) 6 < 0 then 0 else 1) j)), (1, .int (gsum (fun i => if R.1 (8, 0, i) 6 < 0 then 0 else R.1 (8, 0, i) 10) j)), (0, .ref (ad (20, 0, 0)))] 18 [] 1 4 from ?_
  · exact H (R.2 8 0) 0 (Nat.zero_add _)
  intro m
  induction m with
  | zero =>
    intro j hj
    have hjN : Int32.ofNat j = Int32.ofNat (R.2 8 0) := by rw [show j = R.2 8 0 by omega]
    refine y_aload_n (pc := 18) o dX16_meanDarkness_18 rfl ?_
    refine z_callF (pc := 19) (k := 1) (n := 4) (k' := 1) (n' := 4) (ci := 2) o (b := q1) (As := []) (rest := []) (kHasN (l := 2) (g := 0) (gl_24_2 hR) q1 (Int32.ofNat j) _) rfl lf_X16_306 dX16_meanDarkness_19 (fun h hr => ⟨_, hr.2.2.2.1 _ List.mem_cons_self⟩) rfl rfl (Nat.le_of_ble_eq_true rfl) ⟨by decide, by decide⟩ ⟨rfl, rfl⟩ ⟨by decide, by decide⟩ ?_
    refine z_beq (pc := 24) (tgt := 79) o dX16_meanDarkness_24 rfl (fun (b1 : ¬ (¬ Int32.ofNat j = Int32.ofNat (R.2 8 0))) => ?_) (fun b1 => absurd hjN b1)
    obtain rfl : j = R.2 8 0 := by omega
    refine y_mono (fun h hr => hr.drop1) ?_
    have ef : gsum (fun i => if R.1 (8, 0, i) 6 < 0 then 0 else 1) (R.2 8 0) = gfir R := rfl
    have ed : gsum (fun i => if R.1 (8, 0, i) 6 < 0 then 0 else R.1 (8, 0, i) 10) (R.2 8 0) = gdrk R := rfl
    rw [ef, ed]
    refine y_lv [1, 2, 3] (lv' := [(2, .int (gfir R)), (1, .int (gdrk R)), (0, .ref (ad (20, 0, 0)))]) rfl ?_
    refine y_aload_n (pc := 79) o dX16_meanDarkness_79 rfl ?_
    refine y_iload_n (pc := 80) o dX16_meanDarkness_80 rfl ?_
    refine y_if_ne (pc := 81) (tgt := 88) o dX16_meanDarkness_81 rfl (fun (b2 : ¬ (gfir R) = 0) => ?_) (fun (b2 : (gfir R) = 0) => ?_)
    · refine y_iconst (pc := 88) (x := 0) o dX16_meanDarkness_88 (by decide) ?_
      refine y_iconst (pc := 89) (x := 1) o dX16_meanDarkness_89 (by decide) ?_
      refine z_callV (pc := 90) (k := 1) (n := 4) (k' := 1) (n' := 4) o (b := ad (20, 0, 0)) (As := [.int (0), .int (1)]) (rest := []) (kFailsF hR h5 1) ln_X16_74 dX16_meanDarkness_90 (z_rc (ci := 20) (K := (20, 0, 0)) rfl (gl_20 hR) rfl) rfl rfl (Nat.le_of_ble_eq_true rfl) ⟨by decide, by decide⟩ ⟨rfl, rfl⟩ ⟨by decide, by decide⟩ rfl gq_nox2 ?_
      refine y_if_eq (pc := 93) (tgt := 100) o dX16_meanDarkness_93 rfl (fun (b3 : 0 = 0) => ?_) (fun b3 => absurd b3 (by decide))
      refine y_iload_n (pc := 100) o dX16_meanDarkness_100 rfl ?_
      refine y_i2d (pc := 101) o dX16_meanDarkness_101 ?_
      refine y_iload_n (pc := 102) o dX16_meanDarkness_102 rfl ?_
      refine y_i2d (pc := 103) o dX16_meanDarkness_103 ?_
      refine y_ddiv (pc := 104) o dX16_meanDarkness_104 (gnn64 (gddiv b2)) ?_
      exact y_dret (pc := 105) o dX16_meanDarkness_105 rfl (by decide) (by decide) (fun h hp => Or.inr ⟨gfir_z hI ▸ b2, rfl, hp⟩)
    refine y_iconst (pc := 84) (x := 1) o dX16_meanDarkness_84 (by decide) ?_
    refine y_goto (pc := 85) (tgt := 89) o dX16_meanDarkness_85 rfl ?_
    refine y_iconst (pc := 89) (x := 1) o dX16_meanDarkness_89 (by decide) ?_
    refine z_callV (pc := 90) (k := 1) (n := 4) (k' := 1) (n' := 4) o (b := ad (20, 0, 0)) (As := [.int (1), .int (1)]) (rest := []) (kFailsT hR h5 1 (by decide)) ln_X16_74 dX16_meanDarkness_90 (z_rc (ci := 20) (K := (20, 0, 0)) rfl (gl_20 hR) rfl) rfl rfl (Nat.le_of_ble_eq_true rfl) ⟨by decide, by decide⟩ ⟨rfl, rfl⟩ ⟨by decide, by decide⟩ rfl gq_nox2 ?_
    refine y_if_eq (pc := 93) (tgt := 100) o dX16_meanDarkness_93 rfl (fun b4 => absurd b4 (by decide)) (fun (b4 : ¬ 1 = 0) => ?_)
    refine y_dconst0 (pc := 96) o dX16_meanDarkness_96 ?_
    refine y_goto (pc := 97) (tgt := 105) o dX16_meanDarkness_97 rfl ?_
    exact y_dret (pc := 105) o dX16_meanDarkness_105 rfl (by decide) (by decide) (fun h hp => Or.inl ⟨gfir_z hI ▸ b2, ⟨_, rfl⟩, hp⟩)
  | succ m ih =>
    intro j hj
    have hjN : ¬ Int32.ofNat j = Int32.ofNat (R.2 8 0) := fun z => by have := (gneqN (by omega) (by omega)).mp z; omega
    refine y_aload_n (pc := 18) o dX16_meanDarkness_18 rfl ?_
    refine z_callF (pc := 19) (k := 1) (n := 4) (k' := 1) (n' := 4) (ci := 2) o (b := q1) (As := []) (rest := []) (kHasN (l := 2) (g := 0) (gl_24_2 hR) q1 (Int32.ofNat j) _) rfl lf_X16_306 dX16_meanDarkness_19 (fun h hr => ⟨_, hr.2.2.2.1 _ List.mem_cons_self⟩) rfl rfl (Nat.le_of_ble_eq_true rfl) ⟨by decide, by decide⟩ ⟨rfl, rfl⟩ ⟨by decide, by decide⟩ ?_
    refine z_beq (pc := 24) (tgt := 79) o dX16_meanDarkness_24 rfl (fun b5 => absurd hjN b5) (fun (b5 : ¬ Int32.ofNat j = Int32.ofNat (R.2 8 0)) => ?_)
    refine y_aload_n (pc := 27) o dX16_meanDarkness_27 rfl ?_
    refine z_callF (pc := 28) (k := 1) (n := 4) (k' := 1) (n' := 4) (ci := 2) o (b := q1) (As := []) (rest := []) (kNext (l := 2) (g := 0) (gl_24_2 hR) (hBR 2 0 (by decide)) q1 j (show j < R.2 8 0 by omega) _) rfl lf_X16_312 dX16_meanDarkness_28 (fun h hr => ⟨_, hr.2.2.2.1 _ List.mem_cons_self⟩) rfl rfl (Nat.le_of_ble_eq_true rfl) ⟨by decide, by decide⟩ ⟨rfl, rfl⟩ ⟨by decide, by decide⟩ ?_
    refine z_cast (pc := 33) (ci := 16) (K := (28, 0, j)) o rfl qw_1452 dX16_meanDarkness_33 (gl_28 (show j < R.2 8 0 by omega)) rfl ?_
    refine y_astore (pc := 36) (i := 4) (lv' := [(4, .ref (ad (28, 0, j))), (3, .ref (q1)), (2, .int (gsum (fun i => if R.1 (8, 0, i) 6 < 0 then 0 else 1) j)), (1, .int (gsum (fun i => if R.1 (8, 0, i) 6 < 0 then 0 else R.1 (8, 0, i) 10) j)), (0, .ref (ad (20, 0, 0)))]) o dX16_meanDarkness_36 (by decide) rfl ?_
    refine y_iload_n (pc := 38) o dX16_meanDarkness_38 rfl ?_
    refine y_aload (pc := 39) o dX16_meanDarkness_39 rfl ?_
    refine z_get (pc := 41) (K := (28, 0, j)) (v := .int (R.1 (8, 0, j) 6)) o fl_X16_168 dX16_meanDarkness_41 (gl_28 (show j < R.2 8 0 by omega)) rfl rfl ?_
    refine y_iconst (pc := 44) (x := -1) o dX16_meanDarkness_44 (by decide) ?_
    refine y_icmp_ne (pc := 45) (tgt := 52) o dX16_meanDarkness_45 rfl (fun (b6 : ¬ (R.1 (8, 0, j) 6) = (-1)) => ?_) (fun (b6 : (R.1 (8, 0, j) 6) = (-1)) => ?_)
    · refine y_aload (pc := 52) o dX16_meanDarkness_52 rfl ?_
      refine z_get (pc := 54) (K := (28, 0, j)) (v := .int (R.1 (8, 0, j) 10)) o fl_X16_180 dX16_meanDarkness_54 (gl_28 (show j < R.2 8 0 by omega)) rfl rfl ?_
      refine y_iadd (pc := 57) o dX16_meanDarkness_57 ?_
      refine y_istore_n (pc := 58) (i := 1) (lv' := [(1, .int ((gsum (fun i => if R.1 (8, 0, i) 6 < 0 then 0 else R.1 (8, 0, i) 10) j) + (R.1 (8, 0, j) 10))), (4, .ref (ad (28, 0, j))), (3, .ref (q1)), (2, .int (gsum (fun i => if R.1 (8, 0, i) 6 < 0 then 0 else 1) j)), (0, .ref (ad (20, 0, 0)))]) o dX16_meanDarkness_58 rfl (by decide) rfl ?_
      refine y_iload_n (pc := 59) o dX16_meanDarkness_59 rfl ?_
      refine y_aload (pc := 60) o dX16_meanDarkness_60 rfl ?_
      refine z_get (pc := 62) (K := (28, 0, j)) (v := .int (R.1 (8, 0, j) 6)) o fl_X16_168 dX16_meanDarkness_62 (gl_28 (show j < R.2 8 0 by omega)) rfl rfl ?_
      refine y_iconst (pc := 65) (x := -1) o dX16_meanDarkness_65 (by decide) ?_
      refine y_icmp_ne (pc := 66) (tgt := 73) o dX16_meanDarkness_66 rfl (fun (b7 : ¬ (R.1 (8, 0, j) 6) = (-1)) => ?_) (fun b7 => absurd b7 b6)
      refine y_iconst (pc := 73) (x := 1) o dX16_meanDarkness_73 (by decide) ?_
      refine y_iadd (pc := 74) o dX16_meanDarkness_74 ?_
      refine y_istore_n (pc := 75) (i := 2) (lv' := [(2, .int ((gsum (fun i => if R.1 (8, 0, i) 6 < 0 then 0 else 1) j) + 1)), (1, .int ((gsum (fun i => if R.1 (8, 0, i) 6 < 0 then 0 else R.1 (8, 0, i) 10) j) + (R.1 (8, 0, j) 10))), (4, .ref (ad (28, 0, j))), (3, .ref (q1)), (0, .ref (ad (20, 0, 0)))]) o dX16_meanDarkness_75 rfl (by decide) rfl ?_
      refine y_goto (pc := 76) (tgt := 18) o dX16_meanDarkness_76 rfl ?_
      have e1 : gsum (fun i => if R.1 (8, 0, i) 6 < 0 then 0 else 1) (j + 1) = (gsum (fun i => if R.1 (8, 0, i) 6 < 0 then 0 else 1) j) + 1 := by rw [gsum_1]; simp only [gm1_f (hI.2.2.2.2.1 j (show j < R.2 8 0 by omega)).2.2.1 b6, if_true, if_false]
      have e2 : gsum (fun i => if R.1 (8, 0, i) 6 < 0 then 0 else R.1 (8, 0, i) 10) (j + 1) = (gsum (fun i => if R.1 (8, 0, i) 6 < 0 then 0 else R.1 (8, 0, i) 10) j) + (R.1 (8, 0, j) 10) := by rw [gsum_1]; simp only [gm1_f (hI.2.2.2.2.1 j (show j < R.2 8 0 by omega)).2.2.1 b6, if_true, if_false]
      rw [← e1, ← e2]
      refine y_lv [3, 0, 1, 4] (lv' := [(3, .ref (q1)), (2, .int (gsum (fun i => if R.1 (8, 0, i) 6 < 0 then 0 else 1) (j + 1))), (1, .int (gsum (fun i => if R.1 (8, 0, i) 6 < 0 then 0 else R.1 (8, 0, i) 10) (j + 1))), (0, .ref (ad (20, 0, 0)))]) rfl ?_
      refine y_mono (P' := gR κ ad (C, R) ((q1, .inr (2, [.int (Int32.ofNat (j + 1)), .int (Int32.ofNat (j + 1) - 1), .int (Int32.ofNat (R.2 8 0)), .ref (ad (24, 2, 0))])) :: T)) (fun h hr => by rw [gofN1]; exact hr) ?_
      exact ih (j + 1) (by omega)
    refine y_iconst (pc := 48) (x := 0) o dX16_meanDarkness_48 (by decide) ?_
    refine y_goto (pc := 49) (tgt := 57) o dX16_meanDarkness_49 rfl ?_
    refine y_iadd (pc := 57) o dX16_meanDarkness_57 ?_
    refine y_istore_n (pc := 58) (i := 1) (lv' := [(1, .int ((gsum (fun i => if R.1 (8, 0, i) 6 < 0 then 0 else R.1 (8, 0, i) 10) j) + 0)), (4, .ref (ad (28, 0, j))), (3, .ref (q1)), (2, .int (gsum (fun i => if R.1 (8, 0, i) 6 < 0 then 0 else 1) j)), (0, .ref (ad (20, 0, 0)))]) o dX16_meanDarkness_58 rfl (by decide) rfl ?_
    refine y_iload_n (pc := 59) o dX16_meanDarkness_59 rfl ?_
    refine y_aload (pc := 60) o dX16_meanDarkness_60 rfl ?_
    refine z_get (pc := 62) (K := (28, 0, j)) (v := .int (R.1 (8, 0, j) 6)) o fl_X16_168 dX16_meanDarkness_62 (gl_28 (show j < R.2 8 0 by omega)) rfl rfl ?_
    refine y_iconst (pc := 65) (x := -1) o dX16_meanDarkness_65 (by decide) ?_
    refine y_icmp_ne (pc := 66) (tgt := 73) o dX16_meanDarkness_66 rfl (fun b8 => absurd b6 b8) (fun (b8 : (R.1 (8, 0, j) 6) = (-1)) => ?_)
    refine y_iconst (pc := 69) (x := 0) o dX16_meanDarkness_69 (by decide) ?_
    refine y_goto (pc := 70) (tgt := 74) o dX16_meanDarkness_70 rfl ?_
    refine y_iadd (pc := 74) o dX16_meanDarkness_74 ?_
    refine y_istore_n (pc := 75) (i := 2) (lv' := [(2, .int ((gsum (fun i => if R.1 (8, 0, i) 6 < 0 then 0 else 1) j) + 0)), (1, .int ((gsum (fun i => if R.1 (8, 0, i) 6 < 0 then 0 else R.1 (8, 0, i) 10) j) + 0)), (4, .ref (ad (28, 0, j))), (3, .ref (q1)), (0, .ref (ad (20, 0, 0)))]) o dX16_meanDarkness_75 rfl (by decide) rfl ?_
    refine y_goto (pc := 76) (tgt := 18) o dX16_meanDarkness_76 rfl ?_
    have e1 : gsum (fun i => if R.1 (8, 0, i) 6 < 0 then 0 else 1) (j + 1) = (gsum (fun i => if R.1 (8, 0, i) 6 < 0 then 0 else 1) j) + 0 := by rw [gsum_1]; simp only [gm1_t b6, if_true, if_false]
    have e2 : gsum (fun i => if R.1 (8, 0, i) 6 < 0 then 0 else R.1 (8, 0, i) 10) (j + 1) = (gsum (fun i => if R.1 (8, 0, i) 6 < 0 then 0 else R.1 (8, 0, i) 10) j) + 0 := by rw [gsum_1]; simp only [gm1_t b6, if_true, if_false]
    rw [← e1, ← e2]
    refine y_lv [3, 0, 1, 4] (lv' := [(3, .ref (q1)), (2, .int (gsum (fun i => if R.1 (8, 0, i) 6 < 0 then 0 else 1) (j + 1))), (1, .int (gsum (fun i => if R.1 (8, 0, i) 6 < 0 then 0 else R.1 (8, 0, i) 10) (j + 1))), (0, .ref (ad (20, 0, 0)))]) rfl ?_
    refine y_mono (P' := gR κ ad (C, R) ((q1, .inr (2, [.int (Int32.ofNat (j + 1)), .int (Int32.ofNat (j + 1) - 1), .int (Int32.ofNat (R.2 8 0)), .ref (ad (24, 2, 0))])) :: T)) (fun h hr => by rw [gofN1]; exact hr) ?_
    exact ih (j + 1) (by omega)

end Z32
