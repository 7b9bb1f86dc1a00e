
section Z14
variable {κ : gq_K} {ad : gKey → Nat} {S : gG × gG} {C R : gG} {T : List (Nat × va_E)} {h : gq_H}
/-- x lies between lo and hi -/
def gin (lo x hi : Int32) : Bool := decide (¬ x < lo) && decide (¬ hi < x)
theorem gin_iff {lo x hi : Int32} : gin lo x hi = true ↔ (¬ x < lo ∧ ¬ hi < x) := by
  unfold gin
  rw [Bool.and_eq_true, decide_eq_true_eq, decide_eq_true_eq]
def gclamp (x lo hi : Int32) : Int32 := gmax lo (gmin hi x)
/-- which machine has this name; -1: none -/
def gmi (x : Int32) : Int32 := if x = 109 then 0 else if x = 112 then 1 else if x = 103 then 2 else if x = 99 then 3 else -1
def gper (x : Int32) : Int32 := if x = 54 then 6 else if x = 48 then 5 else if x = 51 then 7 else 0
/-- at most 144 things in every list -/
def gcnt (N : Nat → Nat → Nat) : Prop := ∀ l g, l ≤ 7 → N (6 + l) g ≤ 144
theorem gixN {N : Nat} {x : Int32} (h0 : ¬ x < 0) (h1 : x < Int32.ofNat N) : gix N x = true := gix_iff.mpr ⟨h0, h1⟩
theorem gixF {N : Nat} {x : Int32} (h : x < 0 ∨ ¬ x < Int32.ofNat N) : ¬ gix N x = true := fun z => by
  have := gix_iff.mp z
  rcases h with h | h
  · exact this.1 h
  · exact h this.2

theorem gper_6 {x : Int32} (h : x = 54) : gper x = 6 := by rw [h]; rfl
theorem gper_5 {x : Int32} (h : x = 48) : gper x = 5 := by rw [h]; rfl
theorem gper_7 {x : Int32} (h : x = 51) : gper x = 7 := by rw [h]; rfl
theorem gper_0 {x : Int32} (h1 : ¬ x = 48) (h2 : ¬ x = 51) (h3 : ¬ x = 54) : gper x = 0 := by unfold gper; rw [if_neg h3, if_neg h1, if_neg h2]
theorem gmi_no {x : Int32} (h1 : ¬ x = 99) (h2 : ¬ x = 103) (h3 : ¬ x = 109) (h4 : ¬ x = 112) : gmi x = -1 := by unfold gmi; rw [if_neg h3, if_neg h4, if_neg h2, if_neg h1]
theorem gmi_in {x : Int32} (h : ¬ gmi x = -1) : (gmi x).toNatClampNeg < 4 ∧ gmi x = Int32.ofNat (gmi x).toNatClampNeg := by
  unfold gmi at h ⊢
  repeat' split
  all_goals first | decide | skip
  all_goals simp_all
theorem kIsOut {κ : gq_K} {P : gq_H → Prop} (x lo hi : Int32) : gq_C κ mX11_isOutside [.int (x), .int (lo), .int (hi)] (P) (fun v9 g => v9 = some (.int (gb (¬ gin lo x hi = true))) ∧ P g) (gq_no) := by
  refine gq_enter (by decide +kernel) rfl (Nat.le_of_ble_eq_true rfl) rfl (fun f o => ?_)
  refine y_iload_n (pc := 0) o dX11_isOutside_0 rfl ?_
  refine y_iload_n (pc := 1) o dX11_isOutside_1 rfl ?_
  refine y_icmp_lt (pc := 2) (tgt := 10) o dX11_isOutside_2 rfl (fun (b1 : x < lo) => ?_) (fun (b1 : ¬ x < lo) => ?_)
  · refine y_iconst (pc := 10) (x := 1) o dX11_isOutside_10 (by decide) ?_
    refine y_goto (pc := 11) (tgt := 15) o dX11_isOutside_11 rfl ?_
    exact y_iret (pc := 15) o dX11_isOutside_15 rfl rfl (by decide) (by decide) (fun h hp => ⟨congrArg (fun z => some (Value.int z)) (gb_t (p := ¬ gin lo x hi = true) (fun z => (gin_iff.mp z).1 b1)).symm, hp⟩)
  refine y_iload_n (pc := 5) o dX11_isOutside_5 rfl ?_
  refine y_iload_n (pc := 6) o dX11_isOutside_6 rfl ?_
  refine z_icmp_le (pc := 7) (tgt := 14) o dX11_isOutside_7 rfl (fun (b2 : ¬ hi < x) => ?_) (fun (b2 : hi < x) => ?_)
  · refine y_iconst (pc := 14) (x := 0) o dX11_isOutside_14 (by decide) ?_
    exact y_iret (pc := 15) o dX11_isOutside_15 rfl rfl (by decide) (by decide) (fun h hp => ⟨congrArg (fun z => some (Value.int z)) (gb_f (p := ¬ gin lo x hi = true) (fun z => z (gin_iff.mpr ⟨b1, b2⟩))).symm, hp⟩)
  refine y_iconst (pc := 10) (x := 1) o dX11_isOutside_10 (by decide) ?_
  refine y_goto (pc := 11) (tgt := 15) o dX11_isOutside_11 rfl ?_
  exact y_iret (pc := 15) o dX11_isOutside_15 rfl rfl (by decide) (by decide) (fun h hp => ⟨congrArg (fun z => some (Value.int z)) (gb_t (p := ¬ gin lo x hi = true) (fun z => (gin_iff.mp z).2 b2)).symm, hp⟩)

theorem kClamp {κ : gq_K} {P : gq_H → Prop} (x lo hi : Int32) : gq_C κ mX11_clamped [.int (x), .int (lo), .int (hi)] (P) (fun v9 g => v9 = some (.int (gclamp x lo hi)) ∧ P g) (gq_no) := by
  refine gq_enter (by decide +kernel) rfl (Nat.le_of_ble_eq_true rfl) rfl (fun f o => ?_)
  refine y_iload_n (pc := 0) o dX11_clamped_0 rfl ?_
  refine y_iload_n (pc := 1) o dX11_clamped_1 rfl ?_
  refine y_iload_n (pc := 2) o dX11_clamped_2 rfl ?_
  refine y_mmin (pc := 3) o qw_602 dX11_clamped_3 ⟨by decide, Nat.le_of_ble_eq_true rfl⟩ (by decide) (by decide) ?_
  refine y_mmax (pc := 6) o qw_603 dX11_clamped_6 ⟨by decide, Nat.le_of_ble_eq_true rfl⟩ (by decide) (by decide) ?_
  exact y_iret (pc := 9) o dX11_clamped_9 rfl (vp_nar_int _) (by decide) (by decide) (fun h hp => ⟨rfl, hp⟩)

theorem kGrade {κ : gq_K} {P : gq_H → Prop} (x : Int32) : gq_C κ mX11_gradeOf [.int (x)] (P) (fun v9 g => v9 = some (.int (x / 50)) ∧ P g) (gq_no) := by
  refine gq_enter (by decide +kernel) rfl (Nat.le_of_ble_eq_true rfl) rfl (fun f o => ?_)
  refine y_iload_n (pc := 0) o dX11_gradeOf_0 rfl ?_
  refine y_bipush (pc := 1) (x := 50) o dX11_gradeOf_1 (by decide) ?_
  refine y_idiv (pc := 3) o dX11_gradeOf_3 (by decide) ?_
  exact y_iret (pc := 4) o dX11_gradeOf_4 rfl (vp_nar_int _) (by decide) (by decide) (fun h hp => ⟨rfl, hp⟩)

theorem kPer {κ : gq_K} {P : gq_H → Prop} (x : Int32) : gq_C κ mX11_pencilsOfTwoSlats [.int (x)] (P) (fun v9 g => v9 = some (.int (gper x)) ∧ P g) (gq_no) := by
  refine gq_enter (by decide +kernel) rfl (Nat.le_of_ble_eq_true rfl) rfl (fun f o => ?_)
  refine y_iload_n (pc := 0) o dX11_pencilsOfTwoSlats_0 rfl ?_
  by_cases b1 : x = 48
  · refine z_lookupK (pc := 1) (tgt := 39) (off := 38) o 48 dX11_pencilsOfTwoSlats_1 (by decide) b1 (by decide) rfl ?_
    refine y_iconst (pc := 39) (x := 5) o dX11_pencilsOfTwoSlats_39 (by decide) ?_
    exact y_iret (pc := 40) o dX11_pencilsOfTwoSlats_40 rfl (vp_nar_int _) (by decide) (by decide) (fun h hp => ⟨congrArg (fun z => some (Value.int z)) (gper_5 b1).symm, hp⟩)
  by_cases b2 : x = 51
  · refine z_lookupK (pc := 1) (tgt := 41) (off := 40) o 51 dX11_pencilsOfTwoSlats_1 (by decide) b2 (by decide) rfl ?_
    refine y_bipush (pc := 41) (x := 7) o dX11_pencilsOfTwoSlats_41 (by decide) ?_
    exact y_iret (pc := 43) o dX11_pencilsOfTwoSlats_43 rfl (vp_nar_int _) (by decide) (by decide) (fun h hp => ⟨congrArg (fun z => some (Value.int z)) (gper_7 b2).symm, hp⟩)
  by_cases b3 : x = 54
  · refine z_lookupK (pc := 1) (tgt := 36) (off := 35) o 54 dX11_pencilsOfTwoSlats_1 (by decide) b3 (by decide) rfl ?_
    refine y_bipush (pc := 36) (x := 6) o dX11_pencilsOfTwoSlats_36 (by decide) ?_
    exact y_iret (pc := 38) o dX11_pencilsOfTwoSlats_38 rfl (vp_nar_int _) (by decide) (by decide) (fun h hp => ⟨congrArg (fun z => some (Value.int z)) (gper_6 b3).symm, hp⟩)
  refine z_lookupD (pc := 1) (tgt := 44) o [48, 51, 54] dX11_pencilsOfTwoSlats_1 (by decide) (by decide) (by simp only [List.mem_cons, List.not_mem_nil, or_false, forall_eq_or_imp, forall_eq]; exact ⟨b1, b2, b3⟩) rfl ?_
  refine y_iconst (pc := 44) (x := 0) o dX11_pencilsOfTwoSlats_44 (by decide) ?_
  exact y_iret (pc := 45) o dX11_pencilsOfTwoSlats_45 rfl (vp_nar_int _) (by decide) (by decide) (fun h hp => ⟨congrArg (fun z => some (Value.int z)) (gper_0 b1 b2 b3).symm, hp⟩)

theorem kMach {κ : gq_K} {ad : gKey → Nat} {C R : gG} {T : List (Nat × va_E)} (hC : gfix C.2) (x : Int32) : gq_C κ mX11_machineNamed [.ref (ad (0, 0, 0)), .int (x)] (gR κ ad (C, R) T) (fun v9 g => v9 = some (.ref (ad (3, 0, (gmi x).toNatClampNeg))) ∧ ¬ gmi x = -1 ∧ gR κ ad (C, R) T g) (fun e g => e = "java/lang/IllegalArgumentException" ∧ gmi x = -1 ∧ gR κ ad (C, R) T g) := by
  refine gq_enter (by decide +kernel) rfl (Nat.le_of_ble_eq_true rfl) rfl (fun f o => ?_)
  refine y_iload_n (pc := 0) o dX11_machineNamed_0 rfl ?_
  by_cases b1 : x = 99
  · refine z_lookupK (pc := 1) (tgt := 68) (off := 67) o 99 dX11_machineNamed_1 (by decide) b1 (by decide) rfl ?_
    refine y_aload_n (pc := 68) o dX11_machineNamed_68 rfl ?_
    refine z_get (pc := 69) (K := (0, 0, 0)) (v := .ref (ad (1, 0, 0))) o fl_X11_10 dX11_machineNamed_69 (gl_0 hC) rfl rfl ?_
    refine z_get (pc := 72) (K := (1, 0, 0)) (v := .ref (ad (3, 0, 3))) o fl_X11_368 dX11_machineNamed_72 (gl_1 hC) rfl rfl ?_
    exact y_aret (pc := 75) o dX11_machineNamed_75 rfl (Or.inl ⟨_, rfl⟩) (Or.inr ⟨_, rfl⟩) (by decide) (by decide) (fun h hp => ⟨congrArg (fun z => some (Value.ref (ad (3, 0, z)))) (by rw [b1]; rfl), by rw [b1]; decide, hp⟩)
  by_cases b2 : x = 103
  · refine z_lookupK (pc := 1) (tgt := 60) (off := 59) o 103 dX11_machineNamed_1 (by decide) b2 (by decide) rfl ?_
    refine y_aload_n (pc := 60) o dX11_machineNamed_60 rfl ?_
    refine z_get (pc := 61) (K := (0, 0, 0)) (v := .ref (ad (1, 0, 0))) o fl_X11_10 dX11_machineNamed_61 (gl_0 hC) rfl rfl ?_
    refine z_get (pc := 64) (K := (1, 0, 0)) (v := .ref (ad (3, 0, 2))) o fl_X11_318 dX11_machineNamed_64 (gl_1 hC) rfl rfl ?_
    exact y_aret (pc := 67) o dX11_machineNamed_67 rfl (Or.inl ⟨_, rfl⟩) (Or.inr ⟨_, rfl⟩) (by decide) (by decide) (fun h hp => ⟨congrArg (fun z => some (Value.ref (ad (3, 0, z)))) (by rw [b2]; rfl), by rw [b2]; decide, hp⟩)
  by_cases b3 : x = 109
  · refine z_lookupK (pc := 1) (tgt := 44) (off := 43) o 109 dX11_machineNamed_1 (by decide) b3 (by decide) rfl ?_
    refine y_aload_n (pc := 44) o dX11_machineNamed_44 rfl ?_
    refine z_get (pc := 45) (K := (0, 0, 0)) (v := .ref (ad (1, 0, 0))) o fl_X11_10 dX11_machineNamed_45 (gl_0 hC) rfl rfl ?_
    refine z_get (pc := 48) (K := (1, 0, 0)) (v := .ref (ad (3, 0, 0))) o fl_X11_158 dX11_machineNamed_48 (gl_1 hC) rfl rfl ?_
    exact y_aret (pc := 51) o dX11_machineNamed_51 rfl (Or.inl ⟨_, rfl⟩) (Or.inr ⟨_, rfl⟩) (by decide) (by decide) (fun h hp => ⟨congrArg (fun z => some (Value.ref (ad (3, 0, z)))) (by rw [b3]; rfl), by rw [b3]; decide, hp⟩)
  by_cases b4 : x = 112
  · refine z_lookupK (pc := 1) (tgt := 52) (off := 51) o 112 dX11_machineNamed_1 (by decide) b4 (by decide) rfl ?_
    refine y_aload_n (pc := 52) o dX11_machineNamed_52 rfl ?_
    refine z_get (pc := 53) (K := (0, 0, 0)) (v := .ref (ad (1, 0, 0))) o fl_X11_10 dX11_machineNamed_53 (gl_0 hC) rfl rfl ?_
    refine z_get (pc := 56) (K := (1, 0, 0)) (v := .ref (ad (3, 0, 1))) o fl_X11_198 dX11_machineNamed_56 (gl_1 hC) rfl rfl ?_
    exact y_aret (pc := 59) o dX11_machineNamed_59 rfl (Or.inl ⟨_, rfl⟩) (Or.inr ⟨_, rfl⟩) (by decide) (by decide) (fun h hp => ⟨congrArg (fun z => some (Value.ref (ad (3, 0, z)))) (by rw [b4]; rfl), by rw [b4]; decide, hp⟩)
  refine z_lookupD (pc := 1) (tgt := 76) o [99, 103, 109, 112] dX11_machineNamed_1 (by decide) (by decide) (by simp only [List.mem_cons, List.not_mem_nil, or_false, forall_eq_or_imp, forall_eq]; exact ⟨b1, b2, b3, b4⟩) rfl ?_
  exact y_throwSW (pc := 76) o 9 rfl th_79 qw_295 qw_38 dX11_machineNamed_76 dX11_machineNamed_79 dX11_machineNamed_80 dX11_machineNamed_83 dX11_machineNamed_86 rfl ⟨by decide, Nat.le_of_ble_eq_true rfl⟩ (by decide) (by decide) (fun h hp => ⟨rfl, gmi_no b1 b2 b3 b4, hp⟩)

theorem kLotN {κ : gq_K} {ad : gKey → Nat} {C R : gG} {T : List (Nat × va_E)} (hC : gfix C.2) (hBC : gcnt C.2) (x : Int32) : gq_C κ mX11_lotNumbered [.ref (ad (0, 0, 0)), .int (x)] (gR κ ad (C, R) T) (fun v9 g => v9 = some (.ref (ad (6, 0, x.toNatClampNeg))) ∧ gix (C.2 6 0) x = true ∧ gR κ ad (C, R) T g) (fun e g => e = "java/lang/IndexOutOfBoundsException" ∧ ¬ gix (C.2 6 0) x = true ∧ gR κ ad (C, R) T g) := by
  refine gq_enter (by decide +kernel) rfl (Nat.le_of_ble_eq_true rfl) rfl (fun f o => ?_)
  refine y_iload_n (pc := 0) o dX11_lotNumbered_0 rfl ?_
  refine y_if_lt (pc := 1) (tgt := 15) o dX11_lotNumbered_1 rfl (fun (b1 : x < 0) => ?_) (fun (b1 : ¬ x < 0) => ?_)
  · exact y_throwSW (pc := 15) o 15 rfl th_556 qw_574 qw_51 dX11_lotNumbered_15 dX11_lotNumbered_18 dX11_lotNumbered_19 dX11_lotNumbered_22 dX11_lotNumbered_25 rfl ⟨by decide, Nat.le_of_ble_eq_true rfl⟩ (by decide) (by decide) (fun h hp => ⟨rfl, gixF (Or.inl b1), hp⟩)
  refine y_iload_n (pc := 4) o dX11_lotNumbered_4 rfl ?_
  refine y_aload_n (pc := 5) o dX11_lotNumbered_5 rfl ?_
  refine z_get (pc := 6) (K := (0, 0, 0)) (v := .ref (ad (4, 0, 0))) o fl_X11_26 dX11_lotNumbered_6 (gl_0 hC) rfl rfl ?_
  refine z_callV (pc := 9) (k := 0) (n := 0) (k' := 0) (n' := 0) o (b := ad (4, 0, 0)) (As := []) (rest := [.int (x)]) (sizeC (l := 0) (g := 0) (gl_4_0 hC)) ln_X11_127 dX11_lotNumbered_9 (z_rc (ci := 3) (K := (4, 0, 0)) rfl (gl_4_0 hC) rfl) rfl rfl (Nat.le_of_ble_eq_true rfl) ⟨by decide, by decide⟩ ⟨rfl, rfl⟩ ⟨by decide, by decide⟩ rfl gq_nox2 ?_
  refine y_icmp_lt (pc := 12) (tgt := 26) o dX11_lotNumbered_12 rfl (fun (b2 : x < (Int32.ofNat (C.2 6 0))) => ?_) (fun (b2 : ¬ x < (Int32.ofNat (C.2 6 0))) => ?_)
  · refine y_aload_n (pc := 26) o dX11_lotNumbered_26 rfl ?_
    refine z_get (pc := 27) (K := (0, 0, 0)) (v := .ref (ad (4, 0, 0))) o fl_X11_26 dX11_lotNumbered_27 (gl_0 hC) rfl rfl ?_
    refine y_iload_n (pc := 30) o dX11_lotNumbered_30 rfl ?_
    refine z_callV (pc := 31) (k := 0) (n := 0) (k' := 0) (n' := 0) o (b := ad (4, 0, 0)) (As := [.int (x)]) (rest := []) (getC (l := 0) (g := 0) (gl_4_0 hC) (hBC 0 0 (by decide)) (gixN b1 b2)) ln_X11_492 dX11_lotNumbered_31 (z_rc (ci := 3) (K := (4, 0, 0)) rfl (gl_4_0 hC) rfl) rfl rfl (Nat.le_of_ble_eq_true rfl) ⟨by decide, by decide⟩ ⟨rfl, rfl⟩ ⟨by decide, by decide⟩ rfl gq_nox2 ?_
    refine z_cast (pc := 34) (ci := 7) (K := (6, 0, x.toNatClampNeg)) o rfl qw_444 dX11_lotNumbered_34 (gl_6 (gix_lt (Nat.le_trans (hBC 0 0 (by decide)) (by decide)) (gixN b1 b2))) rfl ?_
    exact y_aret (pc := 37) o dX11_lotNumbered_37 rfl (Or.inl ⟨_, rfl⟩) (Or.inr ⟨_, rfl⟩) (by decide) (by decide) (fun h hp => ⟨rfl, gixN b1 b2, hp⟩)
  exact y_throwSW (pc := 15) o 15 rfl th_556 qw_574 qw_51 dX11_lotNumbered_15 dX11_lotNumbered_18 dX11_lotNumbered_19 dX11_lotNumbered_22 dX11_lotNumbered_25 rfl ⟨by decide, Nat.le_of_ble_eq_true rfl⟩ (by decide) (by decide) (fun h hp => ⟨rfl, gixF (Or.inr b2), hp⟩)

theorem kMixN {κ : gq_K} {ad : gKey → Nat} {C R : gG} {T : List (Nat × va_E)} (hC : gfix C.2) (hBC : gcnt C.2) (x : Int32) : gq_C κ mX11_mixtureNumbered [.ref (ad (0, 0, 0)), .int (x)] (gR κ ad (C, R) T) (fun v9 g => v9 = some (.ref (ad (7, 0, x.toNatClampNeg))) ∧ gix (C.2 7 0) x = true ∧ gR κ ad (C, R) T g) (fun e g => e = "java/lang/IndexOutOfBoundsException" ∧ ¬ gix (C.2 7 0) x = true ∧ gR κ ad (C, R) T g) := by
  refine gq_enter (by decide +kernel) rfl (Nat.le_of_ble_eq_true rfl) rfl (fun f o => ?_)
  refine y_iload_n (pc := 0) o dX11_mixtureNumbered_0 rfl ?_
  refine y_if_lt (pc := 1) (tgt := 15) o dX11_mixtureNumbered_1 rfl (fun (b1 : x < 0) => ?_) (fun (b1 : ¬ x < 0) => ?_)
  · exact y_throwSW (pc := 15) o 21 rfl th_556 qw_574 qw_51 dX11_mixtureNumbered_15 dX11_mixtureNumbered_18 dX11_mixtureNumbered_19 dX11_mixtureNumbered_22 dX11_mixtureNumbered_25 rfl ⟨by decide, Nat.le_of_ble_eq_true rfl⟩ (by decide) (by decide) (fun h hp => ⟨rfl, gixF (Or.inl b1), hp⟩)
  refine y_iload_n (pc := 4) o dX11_mixtureNumbered_4 rfl ?_
  refine y_aload_n (pc := 5) o dX11_mixtureNumbered_5 rfl ?_
  refine z_get (pc := 6) (K := (0, 0, 0)) (v := .ref (ad (4, 1, 0))) o fl_X11_30 dX11_mixtureNumbered_6 (gl_0 hC) rfl rfl ?_
  refine z_callV (pc := 9) (k := 0) (n := 0) (k' := 0) (n' := 0) o (b := ad (4, 1, 0)) (As := []) (rest := [.int (x)]) (sizeC (l := 1) (g := 0) (gl_4_1 hC)) ln_X11_127 dX11_mixtureNumbered_9 (z_rc (ci := 3) (K := (4, 1, 0)) rfl (gl_4_1 hC) rfl) rfl rfl (Nat.le_of_ble_eq_true rfl) ⟨by decide, by decide⟩ ⟨rfl, rfl⟩ ⟨by decide, by decide⟩ rfl gq_nox2 ?_
  refine y_icmp_lt (pc := 12) (tgt := 26) o dX11_mixtureNumbered_12 rfl (fun (b2 : x < (Int32.ofNat (C.2 7 0))) => ?_) (fun (b2 : ¬ x < (Int32.ofNat (C.2 7 0))) => ?_)
  · refine y_aload_n (pc := 26) o dX11_mixtureNumbered_26 rfl ?_
    refine z_get (pc := 27) (K := (0, 0, 0)) (v := .ref (ad (4, 1, 0))) o fl_X11_30 dX11_mixtureNumbered_27 (gl_0 hC) rfl rfl ?_
    refine y_iload_n (pc := 30) o dX11_mixtureNumbered_30 rfl ?_
    refine z_callV (pc := 31) (k := 0) (n := 0) (k' := 0) (n' := 0) o (b := ad (4, 1, 0)) (As := [.int (x)]) (rest := []) (getC (l := 1) (g := 0) (gl_4_1 hC) (hBC 1 0 (by decide)) (gixN b1 b2)) ln_X11_492 dX11_mixtureNumbered_31 (z_rc (ci := 3) (K := (4, 1, 0)) rfl (gl_4_1 hC) rfl) rfl rfl (Nat.le_of_ble_eq_true rfl) ⟨by decide, by decide⟩ ⟨rfl, rfl⟩ ⟨by decide, by decide⟩ rfl gq_nox2 ?_
    refine z_cast (pc := 34) (ci := 9) (K := (7, 0, x.toNatClampNeg)) o rfl qw_604 dX11_mixtureNumbered_34 (gl_7 (gix_lt (Nat.le_trans (hBC 1 0 (by decide)) (by decide)) (gixN b1 b2))) rfl ?_
    exact y_aret (pc := 37) o dX11_mixtureNumbered_37 rfl (Or.inl ⟨_, rfl⟩) (Or.inr ⟨_, rfl⟩) (by decide) (by decide) (fun h hp => ⟨rfl, gixN b1 b2, hp⟩)
  exact y_throwSW (pc := 15) o 21 rfl th_556 qw_574 qw_51 dX11_mixtureNumbered_15 dX11_mixtureNumbered_18 dX11_mixtureNumbered_19 dX11_mixtureNumbered_22 dX11_mixtureNumbered_25 rfl ⟨by decide, Nat.le_of_ble_eq_true rfl⟩ (by decide) (by decide) (fun h hp => ⟨rfl, gixF (Or.inr b2), hp⟩)

theorem kBatN {κ : gq_K} {ad : gKey → Nat} {C R : gG} {T : List (Nat × va_E)} (hC : gfix C.2) (hBC : gcnt C.2) (x : Int32) : gq_C κ mX11_batchNumbered [.ref (ad (0, 0, 0)), .int (x)] (gR κ ad (C, R) T) (fun v9 g => v9 = some (.ref (ad (8, 0, x.toNatClampNeg))) ∧ gix (C.2 8 0) x = true ∧ gR κ ad (C, R) T g) (fun e g => e = "java/lang/IndexOutOfBoundsException" ∧ ¬ gix (C.2 8 0) x = true ∧ gR κ ad (C, R) T g) := by
  refine gq_enter (by decide +kernel) rfl (Nat.le_of_ble_eq_true rfl) rfl (fun f o => ?_)
  refine y_iload_n (pc := 0) o dX11_batchNumbered_0 rfl ?_
  refine y_if_lt (pc := 1) (tgt := 15) o dX11_batchNumbered_1 rfl (fun (b1 : x < 0) => ?_) (fun (b1 : ¬ x < 0) => ?_)
  · exact y_throwSW (pc := 15) o 29 rfl th_556 qw_574 qw_51 dX11_batchNumbered_15 dX11_batchNumbered_18 dX11_batchNumbered_19 dX11_batchNumbered_22 dX11_batchNumbered_25 rfl ⟨by decide, Nat.le_of_ble_eq_true rfl⟩ (by decide) (by decide) (fun h hp => ⟨rfl, gixF (Or.inl b1), hp⟩)
  refine y_iload_n (pc := 4) o dX11_batchNumbered_4 rfl ?_
  refine y_aload_n (pc := 5) o dX11_batchNumbered_5 rfl ?_
  refine z_get (pc := 6) (K := (0, 0, 0)) (v := .ref (ad (4, 2, 0))) o fl_X11_33 dX11_batchNumbered_6 (gl_0 hC) rfl rfl ?_
  refine z_callV (pc := 9) (k := 0) (n := 0) (k' := 0) (n' := 0) o (b := ad (4, 2, 0)) (As := []) (rest := [.int (x)]) (sizeC (l := 2) (g := 0) (gl_4_2 hC)) ln_X11_127 dX11_batchNumbered_9 (z_rc (ci := 3) (K := (4, 2, 0)) rfl (gl_4_2 hC) rfl) rfl rfl (Nat.le_of_ble_eq_true rfl) ⟨by decide, by decide⟩ ⟨rfl, rfl⟩ ⟨by decide, by decide⟩ rfl gq_nox2 ?_
  refine y_icmp_lt (pc := 12) (tgt := 26) o dX11_batchNumbered_12 rfl (fun (b2 : x < (Int32.ofNat (C.2 8 0))) => ?_) (fun (b2 : ¬ x < (Int32.ofNat (C.2 8 0))) => ?_)
  · refine y_aload_n (pc := 26) o dX11_batchNumbered_26 rfl ?_
    refine z_get (pc := 27) (K := (0, 0, 0)) (v := .ref (ad (4, 2, 0))) o fl_X11_33 dX11_batchNumbered_27 (gl_0 hC) rfl rfl ?_
    refine y_iload_n (pc := 30) o dX11_batchNumbered_30 rfl ?_
    refine z_callV (pc := 31) (k := 0) (n := 0) (k' := 0) (n' := 0) o (b := ad (4, 2, 0)) (As := [.int (x)]) (rest := []) (getC (l := 2) (g := 0) (gl_4_2 hC) (hBC 2 0 (by decide)) (gixN b1 b2)) ln_X11_492 dX11_batchNumbered_31 (z_rc (ci := 3) (K := (4, 2, 0)) rfl (gl_4_2 hC) rfl) rfl rfl (Nat.le_of_ble_eq_true rfl) ⟨by decide, by decide⟩ ⟨rfl, rfl⟩ ⟨by decide, by decide⟩ rfl gq_nox2 ?_
    refine z_cast (pc := 34) (ci := 4) (K := (8, 0, x.toNatClampNeg)) o rfl qw_260 dX11_batchNumbered_34 (gl_8 (gix_lt (Nat.le_trans (hBC 2 0 (by decide)) (by decide)) (gixN b1 b2))) rfl ?_
    exact y_aret (pc := 37) o dX11_batchNumbered_37 rfl (Or.inl ⟨_, rfl⟩) (Or.inr ⟨_, rfl⟩) (by decide) (by decide) (fun h hp => ⟨rfl, gixN b1 b2, hp⟩)
  exact y_throwSW (pc := 15) o 29 rfl th_556 qw_574 qw_51 dX11_batchNumbered_15 dX11_batchNumbered_18 dX11_batchNumbered_19 dX11_batchNumbered_22 dX11_batchNumbered_25 rfl ⟨by decide, Nat.le_of_ble_eq_true rfl⟩ (by decide) (by decide) (fun h hp => ⟨rfl, gixF (Or.inr b2), hp⟩)

theorem kSlaN {κ : gq_K} {ad : gKey → Nat} {C R : gG} {T : List (Nat × va_E)} (hC : gfix C.2) (hBC : gcnt C.2) (x : Int32) : gq_C κ mX11_slatLotNumbered [.ref (ad (0, 0, 0)), .int (x)] (gR κ ad (C, R) T) (fun v9 g => v9 = some (.ref (ad (9, 0, x.toNatClampNeg))) ∧ gix (C.2 9 0) x = true ∧ gR κ ad (C, R) T g) (fun e g => e = "java/lang/IndexOutOfBoundsException" ∧ ¬ gix (C.2 9 0) x = true ∧ gR κ ad (C, R) T g) := by
  refine gq_enter (by decide +kernel) rfl (Nat.le_of_ble_eq_true rfl) rfl (fun f o => ?_)
  refine y_iload_n (pc := 0) o dX11_slatLotNumbered_0 rfl ?_
  refine y_if_lt (pc := 1) (tgt := 15) o dX11_slatLotNumbered_1 rfl (fun (b1 : x < 0) => ?_) (fun (b1 : ¬ x < 0) => ?_)
  · exact y_throwSW (pc := 15) o 42 rfl th_556 qw_574 qw_51 dX11_slatLotNumbered_15 dX11_slatLotNumbered_18 dX11_slatLotNumbered_19 dX11_slatLotNumbered_22 dX11_slatLotNumbered_25 rfl ⟨by decide, Nat.le_of_ble_eq_true rfl⟩ (by decide) (by decide) (fun h hp => ⟨rfl, gixF (Or.inl b1), hp⟩)
  refine y_iload_n (pc := 4) o dX11_slatLotNumbered_4 rfl ?_
  refine y_aload_n (pc := 5) o dX11_slatLotNumbered_5 rfl ?_
  refine z_get (pc := 6) (K := (0, 0, 0)) (v := .ref (ad (4, 3, 0))) o fl_X11_36 dX11_slatLotNumbered_6 (gl_0 hC) rfl rfl ?_
  refine z_callV (pc := 9) (k := 0) (n := 0) (k' := 0) (n' := 0) o (b := ad (4, 3, 0)) (As := []) (rest := [.int (x)]) (sizeC (l := 3) (g := 0) (gl_4_3 hC)) ln_X11_127 dX11_slatLotNumbered_9 (z_rc (ci := 3) (K := (4, 3, 0)) rfl (gl_4_3 hC) rfl) rfl rfl (Nat.le_of_ble_eq_true rfl) ⟨by decide, by decide⟩ ⟨rfl, rfl⟩ ⟨by decide, by decide⟩ rfl gq_nox2 ?_
  refine y_icmp_lt (pc := 12) (tgt := 26) o dX11_slatLotNumbered_12 rfl (fun (b2 : x < (Int32.ofNat (C.2 9 0))) => ?_) (fun (b2 : ¬ x < (Int32.ofNat (C.2 9 0))) => ?_)
  · refine y_aload_n (pc := 26) o dX11_slatLotNumbered_26 rfl ?_
    refine z_get (pc := 27) (K := (0, 0, 0)) (v := .ref (ad (4, 3, 0))) o fl_X11_36 dX11_slatLotNumbered_27 (gl_0 hC) rfl rfl ?_
    refine y_iload_n (pc := 30) o dX11_slatLotNumbered_30 rfl ?_
    refine z_callV (pc := 31) (k := 0) (n := 0) (k' := 0) (n' := 0) o (b := ad (4, 3, 0)) (As := [.int (x)]) (rest := []) (getC (l := 3) (g := 0) (gl_4_3 hC) (hBC 3 0 (by decide)) (gixN b1 b2)) ln_X11_492 dX11_slatLotNumbered_31 (z_rc (ci := 3) (K := (4, 3, 0)) rfl (gl_4_3 hC) rfl) rfl rfl (Nat.le_of_ble_eq_true rfl) ⟨by decide, by decide⟩ ⟨rfl, rfl⟩ ⟨by decide, by decide⟩ rfl gq_nox2 ?_
    refine z_cast (pc := 34) (ci := 13) (K := (9, 0, x.toNatClampNeg)) o rfl qw_793 dX11_slatLotNumbered_34 (gl_9 (gix_lt (Nat.le_trans (hBC 3 0 (by decide)) (by decide)) (gixN b1 b2))) rfl ?_
    exact y_aret (pc := 37) o dX11_slatLotNumbered_37 rfl (Or.inl ⟨_, rfl⟩) (Or.inr ⟨_, rfl⟩) (by decide) (by decide) (fun h hp => ⟨rfl, gixN b1 b2, hp⟩)
  exact y_throwSW (pc := 15) o 42 rfl th_556 qw_574 qw_51 dX11_slatLotNumbered_15 dX11_slatLotNumbered_18 dX11_slatLotNumbered_19 dX11_slatLotNumbered_22 dX11_slatLotNumbered_25 rfl ⟨by decide, Nat.le_of_ble_eq_true rfl⟩ (by decide) (by decide) (fun h hp => ⟨rfl, gixF (Or.inr b2), hp⟩)

theorem kRunN {κ : gq_K} {ad : gKey → Nat} {C R : gG} {T : List (Nat × va_E)} (hC : gfix C.2) (hBC : gcnt C.2) (x : Int32) : gq_C κ mX11_runNumbered [.ref (ad (0, 0, 0)), .int (x)] (gR κ ad (C, R) T) (fun v9 g => v9 = some (.ref (ad (10, 0, x.toNatClampNeg))) ∧ gix (C.2 10 0) x = true ∧ gR κ ad (C, R) T g) (fun e g => e = "java/lang/IndexOutOfBoundsException" ∧ ¬ gix (C.2 10 0) x = true ∧ gR κ ad (C, R) T g) := by
  refine gq_enter (by decide +kernel) rfl (Nat.le_of_ble_eq_true rfl) rfl (fun f o => ?_)
  refine y_iload_n (pc := 0) o dX11_runNumbered_0 rfl ?_
  refine y_if_lt (pc := 1) (tgt := 15) o dX11_runNumbered_1 rfl (fun (b1 : x < 0) => ?_) (fun (b1 : ¬ x < 0) => ?_)
  · exact y_throwSW (pc := 15) o 54 rfl th_556 qw_574 qw_51 dX11_runNumbered_15 dX11_runNumbered_18 dX11_runNumbered_19 dX11_runNumbered_22 dX11_runNumbered_25 rfl ⟨by decide, Nat.le_of_ble_eq_true rfl⟩ (by decide) (by decide) (fun h hp => ⟨rfl, gixF (Or.inl b1), hp⟩)
  refine y_iload_n (pc := 4) o dX11_runNumbered_4 rfl ?_
  refine y_aload_n (pc := 5) o dX11_runNumbered_5 rfl ?_
  refine z_get (pc := 6) (K := (0, 0, 0)) (v := .ref (ad (4, 4, 0))) o fl_X11_39 dX11_runNumbered_6 (gl_0 hC) rfl rfl ?_
  refine z_callV (pc := 9) (k := 0) (n := 0) (k' := 0) (n' := 0) o (b := ad (4, 4, 0)) (As := []) (rest := [.int (x)]) (sizeC (l := 4) (g := 0) (gl_4_4 hC)) ln_X11_127 dX11_runNumbered_9 (z_rc (ci := 3) (K := (4, 4, 0)) rfl (gl_4_4 hC) rfl) rfl rfl (Nat.le_of_ble_eq_true rfl) ⟨by decide, by decide⟩ ⟨rfl, rfl⟩ ⟨by decide, by decide⟩ rfl gq_nox2 ?_
  refine y_icmp_lt (pc := 12) (tgt := 26) o dX11_runNumbered_12 rfl (fun (b2 : x < (Int32.ofNat (C.2 10 0))) => ?_) (fun (b2 : ¬ x < (Int32.ofNat (C.2 10 0))) => ?_)
  · refine y_aload_n (pc := 26) o dX11_runNumbered_26 rfl ?_
    refine z_get (pc := 27) (K := (0, 0, 0)) (v := .ref (ad (4, 4, 0))) o fl_X11_39 dX11_runNumbered_27 (gl_0 hC) rfl rfl ?_
    refine y_iload_n (pc := 30) o dX11_runNumbered_30 rfl ?_
    refine z_callV (pc := 31) (k := 0) (n := 0) (k' := 0) (n' := 0) o (b := ad (4, 4, 0)) (As := [.int (x)]) (rest := []) (getC (l := 4) (g := 0) (gl_4_4 hC) (hBC 4 0 (by decide)) (gixN b1 b2)) ln_X11_492 dX11_runNumbered_31 (z_rc (ci := 3) (K := (4, 4, 0)) rfl (gl_4_4 hC) rfl) rfl rfl (Nat.le_of_ble_eq_true rfl) ⟨by decide, by decide⟩ ⟨rfl, rfl⟩ ⟨by decide, by decide⟩ rfl gq_nox2 ?_
    refine z_cast (pc := 34) (ci := 12) (K := (10, 0, x.toNatClampNeg)) o rfl qw_254 dX11_runNumbered_34 (gl_10 (gix_lt (Nat.le_trans (hBC 4 0 (by decide)) (by decide)) (gixN b1 b2))) rfl ?_
    exact y_aret (pc := 37) o dX11_runNumbered_37 rfl (Or.inl ⟨_, rfl⟩) (Or.inr ⟨_, rfl⟩) (by decide) (by decide) (fun h hp => ⟨rfl, gixN b1 b2, hp⟩)
  exact y_throwSW (pc := 15) o 54 rfl th_556 qw_574 qw_51 dX11_runNumbered_15 dX11_runNumbered_18 dX11_runNumbered_19 dX11_runNumbered_22 dX11_runNumbered_25 rfl ⟨by decide, Nat.le_of_ble_eq_true rfl⟩ (by decide) (by decide) (fun h hp => ⟨rfl, gixF (Or.inr b2), hp⟩)

theorem kGroN {κ : gq_K} {ad : gKey → Nat} {C R : gG} {T : List (Nat × va_E)} (hC : gfix C.2) (hBC : gcnt C.2) (x : Int32) : gq_C κ mX11_grossNumbered [.ref (ad (0, 0, 0)), .int (x)] (gR κ ad (C, R) T) (fun v9 g => v9 = some (.ref (ad (11, 0, x.toNatClampNeg))) ∧ gix (C.2 11 0) x = true ∧ gR κ ad (C, R) T g) (fun e g => e = "java/lang/IndexOutOfBoundsException" ∧ ¬ gix (C.2 11 0) x = true ∧ gR κ ad (C, R) T g) := by
  refine gq_enter (by decide +kernel) rfl (Nat.le_of_ble_eq_true rfl) rfl (fun f o => ?_)
  refine y_iload_n (pc := 0) o dX11_grossNumbered_0 rfl ?_
  refine y_if_lt (pc := 1) (tgt := 15) o dX11_grossNumbered_1 rfl (fun (b1 : x < 0) => ?_) (fun (b1 : ¬ x < 0) => ?_)
  · exact y_throwSW (pc := 15) o 69 rfl th_556 qw_574 qw_51 dX11_grossNumbered_15 dX11_grossNumbered_18 dX11_grossNumbered_19 dX11_grossNumbered_22 dX11_grossNumbered_25 rfl ⟨by decide, Nat.le_of_ble_eq_true rfl⟩ (by decide) (by decide) (fun h hp => ⟨rfl, gixF (Or.inl b1), hp⟩)
  refine y_iload_n (pc := 4) o dX11_grossNumbered_4 rfl ?_
  refine y_aload_n (pc := 5) o dX11_grossNumbered_5 rfl ?_
  refine z_get (pc := 6) (K := (0, 0, 0)) (v := .ref (ad (4, 5, 0))) o fl_X11_42 dX11_grossNumbered_6 (gl_0 hC) rfl rfl ?_
  refine z_callV (pc := 9) (k := 0) (n := 0) (k' := 0) (n' := 0) o (b := ad (4, 5, 0)) (As := []) (rest := [.int (x)]) (sizeC (l := 5) (g := 0) (gl_4_5 hC)) ln_X11_127 dX11_grossNumbered_9 (z_rc (ci := 3) (K := (4, 5, 0)) rfl (gl_4_5 hC) rfl) rfl rfl (Nat.le_of_ble_eq_true rfl) ⟨by decide, by decide⟩ ⟨rfl, rfl⟩ ⟨by decide, by decide⟩ rfl gq_nox2 ?_
  refine y_icmp_lt (pc := 12) (tgt := 26) o dX11_grossNumbered_12 rfl (fun (b2 : x < (Int32.ofNat (C.2 11 0))) => ?_) (fun (b2 : ¬ x < (Int32.ofNat (C.2 11 0))) => ?_)
  · refine y_aload_n (pc := 26) o dX11_grossNumbered_26 rfl ?_
    refine z_get (pc := 27) (K := (0, 0, 0)) (v := .ref (ad (4, 5, 0))) o fl_X11_42 dX11_grossNumbered_27 (gl_0 hC) rfl rfl ?_
    refine y_iload_n (pc := 30) o dX11_grossNumbered_30 rfl ?_
    refine z_callV (pc := 31) (k := 0) (n := 0) (k' := 0) (n' := 0) o (b := ad (4, 5, 0)) (As := [.int (x)]) (rest := []) (getC (l := 5) (g := 0) (gl_4_5 hC) (hBC 5 0 (by decide)) (gixN b1 b2)) ln_X11_492 dX11_grossNumbered_31 (z_rc (ci := 3) (K := (4, 5, 0)) rfl (gl_4_5 hC) rfl) rfl rfl (Nat.le_of_ble_eq_true rfl) ⟨by decide, by decide⟩ ⟨rfl, rfl⟩ ⟨by decide, by decide⟩ rfl gq_nox2 ?_
    refine z_cast (pc := 34) (ci := 6) (K := (11, 0, x.toNatClampNeg)) o rfl qw_249 dX11_grossNumbered_34 (gl_11 (gix_lt (Nat.le_trans (hBC 5 0 (by decide)) (by decide)) (gixN b1 b2))) rfl ?_
    exact y_aret (pc := 37) o dX11_grossNumbered_37 rfl (Or.inl ⟨_, rfl⟩) (Or.inr ⟨_, rfl⟩) (by decide) (by decide) (fun h hp => ⟨rfl, gixN b1 b2, hp⟩)
  exact y_throwSW (pc := 15) o 69 rfl th_556 qw_574 qw_51 dX11_grossNumbered_15 dX11_grossNumbered_18 dX11_grossNumbered_19 dX11_grossNumbered_22 dX11_grossNumbered_25 rfl ⟨by decide, Nat.le_of_ble_eq_true rfl⟩ (by decide) (by decide) (fun h hp => ⟨rfl, gixF (Or.inr b2), hp⟩)

theorem kOrdN {κ : gq_K} {ad : gKey → Nat} {C R : gG} {T : List (Nat × va_E)} (hC : gfix C.2) (hBC : gcnt C.2) (x : Int32) : gq_C κ mX11_orderNumbered [.ref (ad (0, 0, 0)), .int (x)] (gR κ ad (C, R) T) (fun v9 g => v9 = some (.ref (ad (12, 0, x.toNatClampNeg))) ∧ gix (C.2 12 0) x = true ∧ gR κ ad (C, R) T g) (fun e g => e = "java/lang/IndexOutOfBoundsException" ∧ ¬ gix (C.2 12 0) x = true ∧ gR κ ad (C, R) T g) := by
  refine gq_enter (by decide +kernel) rfl (Nat.le_of_ble_eq_true rfl) rfl (fun f o => ?_)
  refine y_iload_n (pc := 0) o dX11_orderNumbered_0 rfl ?_
  refine y_if_lt (pc := 1) (tgt := 15) o dX11_orderNumbered_1 rfl (fun (b1 : x < 0) => ?_) (fun (b1 : ¬ x < 0) => ?_)
  · exact y_throwSW (pc := 15) o 76 rfl th_556 qw_574 qw_51 dX11_orderNumbered_15 dX11_orderNumbered_18 dX11_orderNumbered_19 dX11_orderNumbered_22 dX11_orderNumbered_25 rfl ⟨by decide, Nat.le_of_ble_eq_true rfl⟩ (by decide) (by decide) (fun h hp => ⟨rfl, gixF (Or.inl b1), hp⟩)
  refine y_iload_n (pc := 4) o dX11_orderNumbered_4 rfl ?_
  refine y_aload_n (pc := 5) o dX11_orderNumbered_5 rfl ?_
  refine z_get (pc := 6) (K := (0, 0, 0)) (v := .ref (ad (4, 6, 0))) o fl_X11_45 dX11_orderNumbered_6 (gl_0 hC) rfl rfl ?_
  refine z_callV (pc := 9) (k := 0) (n := 0) (k' := 0) (n' := 0) o (b := ad (4, 6, 0)) (As := []) (rest := [.int (x)]) (sizeC (l := 6) (g := 0) (gl_4_6 hC)) ln_X11_127 dX11_orderNumbered_9 (z_rc (ci := 3) (K := (4, 6, 0)) rfl (gl_4_6 hC) rfl) rfl rfl (Nat.le_of_ble_eq_true rfl) ⟨by decide, by decide⟩ ⟨rfl, rfl⟩ ⟨by decide, by decide⟩ rfl gq_nox2 ?_
  refine y_icmp_lt (pc := 12) (tgt := 26) o dX11_orderNumbered_12 rfl (fun (b2 : x < (Int32.ofNat (C.2 12 0))) => ?_) (fun (b2 : ¬ x < (Int32.ofNat (C.2 12 0))) => ?_)
  · refine y_aload_n (pc := 26) o dX11_orderNumbered_26 rfl ?_
    refine z_get (pc := 27) (K := (0, 0, 0)) (v := .ref (ad (4, 6, 0))) o fl_X11_45 dX11_orderNumbered_27 (gl_0 hC) rfl rfl ?_
    refine y_iload_n (pc := 30) o dX11_orderNumbered_30 rfl ?_
    refine z_callV (pc := 31) (k := 0) (n := 0) (k' := 0) (n' := 0) o (b := ad (4, 6, 0)) (As := [.int (x)]) (rest := []) (getC (l := 6) (g := 0) (gl_4_6 hC) (hBC 6 0 (by decide)) (gixN b1 b2)) ln_X11_492 dX11_orderNumbered_31 (z_rc (ci := 3) (K := (4, 6, 0)) rfl (gl_4_6 hC) rfl) rfl rfl (Nat.le_of_ble_eq_true rfl) ⟨by decide, by decide⟩ ⟨rfl, rfl⟩ ⟨by decide, by decide⟩ rfl gq_nox2 ?_
    refine z_cast (pc := 34) (ci := 10) (K := (12, 0, x.toNatClampNeg)) o rfl qw_1088 dX11_orderNumbered_34 (gl_12 (gix_lt (Nat.le_trans (hBC 6 0 (by decide)) (by decide)) (gixN b1 b2))) rfl ?_
    exact y_aret (pc := 37) o dX11_orderNumbered_37 rfl (Or.inl ⟨_, rfl⟩) (Or.inr ⟨_, rfl⟩) (by decide) (by decide) (fun h hp => ⟨rfl, gixN b1 b2, hp⟩)
  exact y_throwSW (pc := 15) o 76 rfl th_556 qw_574 qw_51 dX11_orderNumbered_15 dX11_orderNumbered_18 dX11_orderNumbered_19 dX11_orderNumbered_22 dX11_orderNumbered_25 rfl ⟨by decide, Nat.le_of_ble_eq_true rfl⟩ (by decide) (by decide) (fun h hp => ⟨rfl, gixF (Or.inr b2), hp⟩)

theorem kPartN {κ : gq_K} {ad : gKey → Nat} {C R : gG} {T : List (Nat × va_E)} (hC : gfix C.2) (hBC : gcnt C.2) (i : Nat) (hi : i < C.2 11 0) (x : Int32) : gq_C κ mX11_partNumbered [.ref (ad (11, 0, i)), .int (x)] (gR κ ad (C, R) T) (fun v9 g => v9 = some (.ref (ad (13, i, x.toNatClampNeg))) ∧ gix (C.2 13 i) x = true ∧ gR κ ad (C, R) T g) (fun e g => e = "java/lang/IndexOutOfBoundsException" ∧ ¬ gix (C.2 13 i) x = true ∧ gR κ ad (C, R) T g) := by
  refine gq_enter (by decide +kernel) rfl (Nat.le_of_ble_eq_true rfl) rfl (fun f o => ?_)
  refine y_iload_n (pc := 0) o dX11_partNumbered_0 rfl ?_
  refine y_if_lt (pc := 1) (tgt := 15) o dX11_partNumbered_1 rfl (fun (b1 : x < 0) => ?_) (fun (b1 : ¬ x < 0) => ?_)
  · exact y_throwSW (pc := 15) o 79 rfl th_556 qw_574 qw_51 dX11_partNumbered_15 dX11_partNumbered_18 dX11_partNumbered_19 dX11_partNumbered_22 dX11_partNumbered_25 rfl ⟨by decide, Nat.le_of_ble_eq_true rfl⟩ (by decide) (by decide) (fun h hp => ⟨rfl, gixF (Or.inl b1), hp⟩)
  refine y_iload_n (pc := 4) o dX11_partNumbered_4 rfl ?_
  refine y_aload_n (pc := 5) o dX11_partNumbered_5 rfl ?_
  refine z_get (pc := 6) (K := (11, 0, i)) (v := .ref (ad (4, 7, i))) o fl_X11_460 dX11_partNumbered_6 (gl_11 hi) rfl rfl ?_
  refine z_callV (pc := 9) (k := 0) (n := 0) (k' := 0) (n' := 0) o (b := ad (4, 7, i)) (As := []) (rest := [.int (x)]) (sizeC (l := 7) (g := i) (gl_4_7 hC hi)) ln_X11_127 dX11_partNumbered_9 (z_rc (ci := 3) (K := (4, 7, i)) rfl (gl_4_7 hC hi) rfl) rfl rfl (Nat.le_of_ble_eq_true rfl) ⟨by decide, by decide⟩ ⟨rfl, rfl⟩ ⟨by decide, by decide⟩ rfl gq_nox2 ?_
  refine y_icmp_lt (pc := 12) (tgt := 26) o dX11_partNumbered_12 rfl (fun (b2 : x < (Int32.ofNat (C.2 13 i))) => ?_) (fun (b2 : ¬ x < (Int32.ofNat (C.2 13 i))) => ?_)
  · refine y_aload_n (pc := 26) o dX11_partNumbered_26 rfl ?_
    refine z_get (pc := 27) (K := (11, 0, i)) (v := .ref (ad (4, 7, i))) o fl_X11_460 dX11_partNumbered_27 (gl_11 hi) rfl rfl ?_
    refine y_iload_n (pc := 30) o dX11_partNumbered_30 rfl ?_
    refine z_callV (pc := 31) (k := 0) (n := 0) (k' := 0) (n' := 0) o (b := ad (4, 7, i)) (As := [.int (x)]) (rest := []) (getC (l := 7) (g := i) (gl_4_7 hC hi) (hBC 7 i (by decide)) (gixN b1 b2)) ln_X11_492 dX11_partNumbered_31 (z_rc (ci := 3) (K := (4, 7, i)) rfl (gl_4_7 hC hi) rfl) rfl rfl (Nat.le_of_ble_eq_true rfl) ⟨by decide, by decide⟩ ⟨rfl, rfl⟩ ⟨by decide, by decide⟩ rfl gq_nox2 ?_
    refine z_cast (pc := 34) (ci := 11) (K := (13, i, x.toNatClampNeg)) o rfl qw_271 dX11_partNumbered_34 (gl_13 (gix_lt (Nat.le_trans (hBC 7 i (by decide)) (by decide)) (gixN b1 b2))) rfl ?_
    exact y_aret (pc := 37) o dX11_partNumbered_37 rfl (Or.inl ⟨_, rfl⟩) (Or.inr ⟨_, rfl⟩) (by decide) (by decide) (fun h hp => ⟨rfl, gixN b1 b2, hp⟩)
  exact y_throwSW (pc := 15) o 79 rfl th_556 qw_574 qw_51 dX11_partNumbered_15 dX11_partNumbered_18 dX11_partNumbered_19 dX11_partNumbered_22 dX11_partNumbered_25 rfl ⟨by decide, Nat.le_of_ble_eq_true rfl⟩ (by decide) (by decide) (fun h hp => ⟨rfl, gixF (Or.inr b2), hp⟩)

theorem kFired {κ : gq_K} {ad : gKey → Nat} {C R : gG} {T : List (Nat × va_E)} (i : Nat) (hi : i < C.2 8 0) : gq_C κ mX0_isFired [.ref (ad (8, 0, i))] (gR κ ad (C, R) T) (fun v9 g => v9 = some (.int (gb (¬ C.1 (8, 0, i) 6 < 0))) ∧ gR κ ad (C, R) T g) (gq_no) := by
  refine gq_enter (by decide +kernel) rfl (Nat.le_of_ble_eq_true rfl) rfl (fun f o => ?_)
  refine y_aload_n (pc := 0) o dX0_isFired_0 rfl ?_
  refine z_get (pc := 1) (K := (8, 0, i)) (v := .int (C.1 (8, 0, i) 6)) o fl_X0_22 dX0_isFired_1 (gl_8 hi) rfl rfl ?_
  refine y_if_lt (pc := 4) (tgt := 11) o dX0_isFired_4 rfl (fun (b1 : (C.1 (8, 0, i) 6) < 0) => ?_) (fun (b1 : ¬ (C.1 (8, 0, i) 6) < 0) => ?_)
  · refine y_iconst (pc := 11) (x := 0) o dX0_isFired_11 (by decide) ?_
    exact y_iret (pc := 12) o dX0_isFired_12 rfl rfl (by decide) (by decide) (fun h hp => ⟨congrArg (fun z => some (Value.int z)) (gb_f (fun z => z b1)).symm, hp⟩)
  refine y_iconst (pc := 7) (x := 1) o dX0_isFired_7 (by decide) ?_
  refine y_goto (pc := 8) (tgt := 12) o dX0_isFired_8 rfl ?_
  exact y_iret (pc := 12) o dX0_isFired_12 rfl rfl (by decide) (by decide) (fun h hp => ⟨congrArg (fun z => some (Value.int z)) (gb_t b1).symm, hp⟩)

theorem kStamped {κ : gq_K} {ad : gKey → Nat} {C R : gG} {T : List (Nat × va_E)} (i : Nat) (hi : i < C.2 10 0) : gq_C κ mX8_isStamped [.ref (ad (10, 0, i))] (gR κ ad (C, R) T) (fun v9 g => v9 = some (.int (gb (¬ C.1 (10, 0, i) 9 < 0))) ∧ gR κ ad (C, R) T g) (gq_no) := by
  refine gq_enter (by decide +kernel) rfl (Nat.le_of_ble_eq_true rfl) rfl (fun f o => ?_)
  refine y_aload_n (pc := 0) o dX8_isStamped_0 rfl ?_
  refine z_get (pc := 1) (K := (10, 0, i)) (v := .int (C.1 (10, 0, i) 9)) o fl_X8_19 dX8_isStamped_1 (gl_10 hi) rfl rfl ?_
  refine y_if_lt (pc := 4) (tgt := 11) o dX8_isStamped_4 rfl (fun (b1 : (C.1 (10, 0, i) 9) < 0) => ?_) (fun (b1 : ¬ (C.1 (10, 0, i) 9) < 0) => ?_)
  · refine y_iconst (pc := 11) (x := 0) o dX8_isStamped_11 (by decide) ?_
    exact y_iret (pc := 12) o dX8_isStamped_12 rfl rfl (by decide) (by decide) (fun h hp => ⟨congrArg (fun z => some (Value.int z)) (gb_f (fun z => z b1)).symm, hp⟩)
  refine y_iconst (pc := 7) (x := 1) o dX8_isStamped_7 (by decide) ?_
  refine y_goto (pc := 8) (tgt := 12) o dX8_isStamped_8 rfl ?_
  exact y_iret (pc := 12) o dX8_isStamped_12 rfl rfl (by decide) (by decide) (fun h hp => ⟨congrArg (fun z => some (Value.int z)) (gb_t b1).symm, hp⟩)

theorem kGrooved {κ : gq_K} {ad : gKey → Nat} {C R : gG} {T : List (Nat × va_E)} (i : Nat) (hi : i < C.2 9 0) : gq_C κ mX9_isGrooved [.ref (ad (9, 0, i))] (gR κ ad (C, R) T) (fun v9 g => v9 = some (.int (gb (0 < C.1 (9, 0, i) 4))) ∧ gR κ ad (C, R) T g) (gq_no) := by
  refine gq_enter (by decide +kernel) rfl (Nat.le_of_ble_eq_true rfl) rfl (fun f o => ?_)
  refine y_aload_n (pc := 0) o dX9_isGrooved_0 rfl ?_
  refine z_get (pc := 1) (K := (9, 0, i)) (v := .int (C.1 (9, 0, i) 4)) o fl_X9_7 dX9_isGrooved_1 (gl_9 hi) rfl rfl ?_
  refine z_if_le (pc := 4) (tgt := 11) o dX9_isGrooved_4 rfl (fun (b1 : ¬ 0 < (C.1 (9, 0, i) 4)) => ?_) (fun (b1 : 0 < (C.1 (9, 0, i) 4)) => ?_)
  · refine y_iconst (pc := 11) (x := 0) o dX9_isGrooved_11 (by decide) ?_
    exact y_iret (pc := 12) o dX9_isGrooved_12 rfl rfl (by decide) (by decide) (fun h hp => ⟨congrArg (fun z => some (Value.int z)) (gb_f b1).symm, hp⟩)
  refine y_iconst (pc := 7) (x := 1) o dX9_isGrooved_7 (by decide) ?_
  refine y_goto (pc := 8) (tgt := 12) o dX9_isGrooved_8 rfl ?_
  exact y_iret (pc := 12) o dX9_isGrooved_12 rfl rfl (by decide) (by decide) (fun h hp => ⟨congrArg (fun z => some (Value.int z)) (gb_t b1).symm, hp⟩)

end Z14
