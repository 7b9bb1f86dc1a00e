
section Z11
variable {κ : gq_K} {h : gq_H}
/-- a row of m Objects of which the first N are those of g -/
def jrow (κ : gq_K) (m N : Nat) (g : Nat → Option Nat) : va_E := .inl (κ.2.1 4, m, .inr (.inr (.inr (.inr (fun j => if j < N then g j else none)))))
def jgrown (κ : gq_K) (h : gq_H) (q m N : Nat) (g : Nat → Option Nat) (h2 : gq_H) : Prop := h q = none ∧ ∀ x, h2 x = if x = q then some (jrow κ m N g) else h x
theorem gq_el.new {g : Nat → Option Nat} {q : Nat} {e : va_E} (hl : gq_el κ h g) (hq : h q = none) : gq_el κ (gq_hs h q e) g := by
  intro j y hy
  obtain ⟨e0, h1, h2⟩ := hl j y hy
  refine ⟨e0, ?_, h2⟩
  rw [gq_hs_ne _ _ (fun z => by rw [z, hq] at h1; cases h1)]
  exact h1
theorem jne {a q : Nat} {e : va_E} (ha : h a = some e) (hq : h q = none) : a ≠ q := fun z => by rw [z, hq] at ha; cases ha
theorem va_cpy_row {m N : Nat} {g : Nat → Option Nat} : (.inl (κ.2.1 4, m, .inr (.inr (.inr (.inr (va_cpy g (fun _ => none) 0 0 N))))) : va_E) = jrow κ m N g := by
  unfold jrow
  refine congrArg (fun z => (.inl (κ.2.1 4, m, .inr (.inr (.inr (.inr z)))) : va_E)) (funext fun j => ?_)
  unfold va_cpy
  by_cases hj : j < N
  · rw [if_pos ⟨Nat.zero_le _, by omega⟩, if_pos hj]
    simp
  · rw [if_neg (by omega), if_neg hj]
theorem gcap_tab : ∀ n : Nat, n ≤ 109 → 0 < n → n = gcap n → gcap (n + 1) = n + max 1 (n / 2) ∧ n < gcap (n + 1) := by decide +kernel
theorem gcap_b : ∀ n : Nat, n ≤ 110 → gcap (n + 1) ≤ 163 := by decide +kernel
theorem gcap_s : ∀ n : Nat, n ≤ 150 → n ≠ 0 → n ≠ gcap n → gcap (n + 1) = gcap n ∧ n < gcap n := by decide +kernel
theorem gsh1 : ∀ n : Nat, n ≤ 200 → Int32.ofNat n >>> ((1 : Int32) &&& 31) = Int32.ofNat (n / 2) := by decide +kernel
theorem gmaxN {a b : Nat} (ha : a ≤ 1000) (hb : b ≤ 1000) : gmax (Int32.ofNat a) (Int32.ofNat b) = Int32.ofNat (max a b) := by
  unfold gmax
  by_cases h : a < b
  · rw [if_pos ((gofs_lt ha hb).mpr h), Nat.max_eq_right (by omega)]
  · rw [if_neg (fun z => h ((gofs_lt ha hb).mp z)), Nat.max_eq_left (by omega)]
theorem gminN {a b : Nat} (ha : a ≤ 1000) (hb : b ≤ 1000) : gmin (Int32.ofNat a) (Int32.ofNat b) = Int32.ofNat (min a b) := by
  unfold gmin
  by_cases h : b < a
  · rw [if_pos ((gofs_lt hb ha).mpr h), Nat.min_eq_right (by omega)]
  · rw [if_neg (fun z => h ((gofs_lt hb ha).mp z)), Nat.min_eq_left (by omega)]
theorem gsubN {a b : Nat} (h : b ≤ a) : Int32.ofNat a - Int32.ofNat b = Int32.ofNat (a - b) := by
  have : Int32.ofNat a = Int32.ofNat (a - b) + Int32.ofNat b := by rw [← Int32.ofNat_add, Nat.sub_add_cancel h]
  rw [this, Int32.add_sub_cancel]
theorem gaddN {a b : Nat} : Int32.ofNat a + Int32.ofNat b = Int32.ofNat (a + b) := (Int32.ofNat_add _ _).symm
theorem gneqN {a b : Nat} (ha : a ≤ 1000) (hb : b ≤ 1000) : Int32.ofNat a = Int32.ofNat b ↔ a = b := by
  constructor
  · intro z
    have h1 : (Int32.ofNat a).toInt = (Int32.ofNat b).toInt := by rw [z]
    rw [Int32.toInt_ofNat_of_lt (by omega), Int32.toInt_ofNat_of_lt (by omega)] at h1
    omega
  · rintro rfl; rfl
theorem j_newL {κ : gq_K} {P : gq_H → Prop} (n p q : Nat) (hn : n ≤ 200) (hp : 0 < p ∧ p ≤ 200) (hq : q ≤ 200) : gq_C κ mJ8_newLength_cabcc [.int (Int32.ofNat n), .int (Int32.ofNat p), .int (Int32.ofNat q)] (P) (fun v9 g => v9 = some (.int (Int32.ofNat (n + max p q))) ∧ P g) (gq_no) := by
  refine gq_enter (by decide +kernel) rfl (Nat.le_of_ble_eq_true rfl) rfl (fun f o => ?_)
  refine y_iload_n (pc := 0) o dJ8_newLength_cabcc_0 rfl ?_
  refine y_iload_n (pc := 1) o dJ8_newLength_cabcc_1 rfl ?_
  refine y_iload_n (pc := 2) o dJ8_newLength_cabcc_2 rfl ?_
  refine y_mmax (pc := 3) o qw_486 dJ8_newLength_cabcc_3 ⟨by decide, Nat.le_of_ble_eq_true rfl⟩ (by decide) (by decide) ?_
  refine y_iadd (pc := 6) o dJ8_newLength_cabcc_6 ?_
  refine y_istore_n (pc := 7) (i := 3) (lv' := [(3, .int ((Int32.ofNat n) + (gmax (Int32.ofNat p) (Int32.ofNat q)))), (0, .int (Int32.ofNat n)), (1, .int (Int32.ofNat p)), (2, .int (Int32.ofNat q))]) o dJ8_newLength_cabcc_7 rfl (by decide) rfl ?_
  have e1 : Int32.ofNat n + gmax (Int32.ofNat p) (Int32.ofNat q) = Int32.ofNat (n + max p q) := by rw [gmaxN (by omega) (by omega), gaddN]
  have e2 : (0 : Int32) < Int32.ofNat (n + max p q) := (gofs_lt (n := 0) (by omega) (by omega)).mpr (by omega)
  have e3 : ¬ (2147483639 : Int32) < Int32.ofNat (n + max p q) := fun z => by rw [Int32.lt_iff_toInt_lt, Int32.toInt_ofNat_of_lt (by omega)] at z; have : (2147483639 : Int32).toInt = 2147483639 := rfl; omega
  refine y_iconst (pc := 8) (x := 0) o dJ8_newLength_cabcc_8 (by decide) ?_
  refine y_iload_n (pc := 9) o dJ8_newLength_cabcc_9 rfl ?_
  refine z_icmp_ge (pc := 10) (tgt := 21) o dJ8_newLength_cabcc_10 rfl (fun b1 => absurd (e1 ▸ e2) b1) (fun (b1 : 0 < ((Int32.ofNat n) + (gmax (Int32.ofNat p) (Int32.ofNat q)))) => ?_)
  refine y_iload_n (pc := 13) o dJ8_newLength_cabcc_13 rfl ?_
  refine y_ldc (pc := 14) o dJ8_newLength_cabcc_14 qw_489 ?_
  refine y_icmp_gt (pc := 16) (tgt := 21) o dJ8_newLength_cabcc_16 rfl (fun b2 => absurd b2 (e1 ▸ e3)) (fun (b2 : ¬ 2147483639 < ((Int32.ofNat n) + (gmax (Int32.ofNat p) (Int32.ofNat q)))) => ?_)
  refine y_iload_n (pc := 19) o dJ8_newLength_cabcc_19 rfl ?_
  exact y_iret (pc := 20) o dJ8_newLength_cabcc_20 rfl (vp_nar_int _) (by decide) (by decide) (fun h hp9 => ⟨by rw [e1], hp9⟩)

theorem j_cp3 {κ : gq_K} {h : gq_H} (b m N : Nat) (g : Nat → Option Nat) (hN : N ≤ m) (hm : m ≤ 163) (hb : h b = some (jrow κ N N g)) (hel : gq_el κ h (fun j => if j < N then g j else none)) : gq_C κ mJ7_copyOf_6403c [.ref (b), .int (Int32.ofNat m), .ref (κ.2.2 101)] (fun g1 => g1 = h) (fun v9 h2 => ∃ q, v9 = some (.ref q) ∧ jgrown κ h q m N g h2) (gq_no) := by
  refine gq_enter (by decide +kernel) rfl (Nat.le_of_ble_eq_true rfl) rfl (fun f o => ?_)
  refine y_aload_n (pc := 0) o dJ7_copyOf_6403c_0 rfl ?_
  refine y_ldcM (pc := 1) o qw_528 dJ7_copyOf_6403c_1 ?_
  refine y_acmp_ne (pc := 3) (tgt := 13) (x := some (κ.2.2 101)) (y := some (κ.2.2 101)) o dJ7_copyOf_6403c_3 rfl rfl rfl (fun b1 => absurd rfl b1) (fun (b1 : some (κ.2.2 101) = some (κ.2.2 101)) => ?_)
  refine y_iload_n (pc := 6) o dJ7_copyOf_6403c_6 rfl ?_
  refine y1_anew (pc := 7) (k := 0) (n := 0) (N := m) o qw_530 dJ7_copyOf_6403c_7 (gofs (by omega)).1 (gofs (by omega)).2.1 (by omega) (by decide) (by show 0 + m ≤ 256; omega) (fun q h1 hq e1 => ?_)
  have hb1 : h1 b = some (jrow κ N N g) := by rw [e1, gq_hs_ne _ _ (jne hb hq)]; exact hb
  have hq1 : h1 q = some (jrow κ m 0 (fun _ => none)) := by rw [e1, gq_hs_eq]; exact congrArg some (by unfold jrow; simp)
  refine y_goto (pc := 10) (tgt := 24) o dJ7_copyOf_6403c_10 rfl ?_
  refine y_astore_n (pc := 24) (i := 3) (lv' := [(3, .ref (q)), (0, .ref (b)), (1, .int (Int32.ofNat m)), (2, .ref (κ.2.2 101))]) o dJ7_copyOf_6403c_24 rfl (by decide) rfl ?_
  refine y_aload_n (pc := 25) o dJ7_copyOf_6403c_25 rfl ?_
  refine y_iconst (pc := 26) (x := 0) o dJ7_copyOf_6403c_26 (by decide) ?_
  refine y_aload_n (pc := 27) o dJ7_copyOf_6403c_27 rfl ?_
  refine y_iconst (pc := 28) (x := 0) o dJ7_copyOf_6403c_28 (by decide) ?_
  refine y_aload_n (pc := 29) o dJ7_copyOf_6403c_29 rfl ?_
  refine y1_alen (pc := 30) (t := 4) o dJ7_copyOf_6403c_30 hb1 rfl rfl ?_
  refine y_iload_n (pc := 31) o dJ7_copyOf_6403c_31 rfl ?_
  refine y_mmin (pc := 32) o qw_531 dJ7_copyOf_6403c_32 ⟨by decide, Nat.le_of_ble_eq_true rfl⟩ (by decide) (by show 0 + m ≤ 256; omega) ?_
  refine z_st (st' := [.int (Int32.ofNat N), .int 0, .ref q, .int 0, .ref b]) (by rw [gminN (by omega) (by omega), Nat.min_eq_left hN]) ?_
  refine y1_copy (pc := 35) (N := N) (N1 := m) (g := fun j => if j < N then g j else none) (g1 := fun j => if j < 0 then none else none) o ⟨qw_534, qw_536, qw_535, qw_50⟩ dJ7_copyOf_6403c_35 hb1 hq1 (gofs (by omega)).1 (by rw [(gofs (by omega)).2.1]; omega) (by rw [(gofs (by omega)).2.1]; exact hN) ?_ ⟨by decide, Nat.le_of_ble_eq_true rfl⟩ (fun h2 e2 => ?_)
  · rw [e1]; exact gq_el.new hel hq
  refine y_aload_n (pc := 38) o dJ7_copyOf_6403c_38 rfl ?_
  refine y1_aret (pc := 39) o dJ7_copyOf_6403c_39 rfl (Or.inr ⟨_, rfl⟩) (Or.inr ⟨_, rfl⟩) (by decide) (by show 0 + m ≤ 256; omega) ⟨q, rfl, hq, fun x => ?_⟩
  rw [e2, (gofs (n := N) (by omega)).2.1]
  by_cases hx : x = q
  · rw [hx, gq_hs_eq, if_pos rfl]
    refine congrArg some (Eq.trans (b := .inl (κ.2.1 4, m, .inr (.inr (.inr (.inr (va_cpy (fun j => if j < N then g j else none) (fun _ => none) 0 0 N)))))) (by simp) (va_cpy_row.trans ?_))
    unfold jrow
    refine congrArg (fun z => (.inl (κ.2.1 4, m, .inr (.inr (.inr (.inr z)))) : va_E)) (funext fun j => ?_)
    by_cases hj : j < N <;> simp [hj]
  · rw [gq_hs_ne _ _ hx, if_neg hx, e1, gq_hs_ne _ _ hx]

theorem j_cp2 {κ : gq_K} {h : gq_H} (b m N : Nat) (g : Nat → Option Nat) (hN : N ≤ m) (hm : m ≤ 163) (hb : h b = some (jrow κ N N g)) (hel : gq_el κ h (fun j => if j < N then g j else none)) : gq_C κ mJ7_copyOf_1904c [.ref (b), .int (Int32.ofNat m)] (fun g1 => g1 = h) (fun v9 h2 => ∃ q, v9 = some (.ref q) ∧ jgrown κ h q m N g h2) (gq_no) := by
  refine gq_enter (by decide +kernel) rfl (Nat.le_of_ble_eq_true rfl) rfl (fun f o => ?_)
  refine y_aload_n (pc := 0) o dJ7_copyOf_1904c_0 rfl ?_
  refine y_iload_n (pc := 1) o dJ7_copyOf_1904c_1 rfl ?_
  refine y_aload_n (pc := 2) o dJ7_copyOf_1904c_2 rfl ?_
  refine y_getC (pc := 3) (g := fun j => if j < N then g j else none) (N := N) o qw_496 qw_1854 qw_497 qw_524 (by decide +kernel) dJ7_copyOf_1904c_3 (fun _ e => e ▸ hb) ⟨by decide, Nat.le_of_ble_eq_true rfl⟩ ?_
  refine y_callS (pc := 6) (k := 0) (n := 0) o (As := [.ref b, .int (Int32.ofNat m), .ref (κ.2.2 101)]) (rest := []) (j_cp3 b m N g hN hm hb hel) ln_J7_300 dJ7_copyOf_1904c_6 rfl rfl (Nat.le_of_ble_eq_true rfl) ⟨by decide, by decide⟩ ⟨by decide, by decide⟩ (fun _ e => e) rfl gq_nox2 (fun v => y_ex fun q => y_and fun e => ?_)
  subst e
  exact y_aret (pc := 9) o dJ7_copyOf_1904c_9 rfl (Or.inr ⟨_, rfl⟩) (Or.inr ⟨_, rfl⟩) (by decide) (by decide) (fun h2 hj => ⟨q, rfl, hj⟩)


/-- the header a was given the row q of m, of which the first n are those of g; all else is as in h -/
def jgrew (κ : gq_K) (h : gq_H) (a q m n : Nat) (mc : Int32) (g : Nat → Option Nat) (h2 : gq_H) : Prop := h q = none ∧ ∀ x, h2 x = if x = a then some (.inr (3, [.int mc, .ref q, .int (Int32.ofNat n)])) else if x = q then some (jrow κ m n g) else h x

theorem j_growA {κ : gq_K} {h : gq_H} (a : Nat) (mc : Int32) (ha : h a = some (.inr (3, [.int mc, .ref (κ.2.2 100), .int 0]))) : gq_C κ mJx4a65c_grow_92f84 [.ref (a), .int (1)] (fun g1 => g1 = h) (fun v9 h2 => ∃ q, v9 = some (.ref q) ∧ jgrew κ h a q 10 0 mc (fun _ => none) h2) (gq_no) := by
  refine gq_enter (by decide +kernel) rfl (Nat.le_of_ble_eq_true rfl) rfl (fun f o => ?_)
  refine y_aload_n (pc := 0) o dJx4a65c_grow_92f84_0 rfl ?_
  refine y_get (pc := 1) o fl_Jx4a65c_9 dJx4a65c_grow_92f84_1 (fun _ e => e ▸ ha) rfl ?_
  refine y_alen0 (pc := 4) o dJx4a65c_grow_92f84_4 ?_
  refine y_istore_n (pc := 5) (i := 2) (lv' := [(2, .int (0)), (0, .ref (a)), (1, .int (1))]) o dJx4a65c_grow_92f84_5 rfl (by decide) rfl ?_
  refine y_iload_n (pc := 6) o dJx4a65c_grow_92f84_6 rfl ?_
  refine y_if_gt (pc := 7) (tgt := 20) o dJx4a65c_grow_92f84_7 rfl (fun b1 => absurd b1 (by decide)) (fun (b1 : ¬ 0 < 0) => ?_)
  refine y_aload_n (pc := 10) o dJx4a65c_grow_92f84_10 rfl ?_
  refine y_get (pc := 11) o fl_Jx4a65c_9 dJx4a65c_grow_92f84_11 (fun _ e => e ▸ ha) rfl ?_
  refine y_gets (pc := 14) (v := .ref (κ.2.2 100)) o qw_148 rfl dJx4a65c_grow_92f84_14 (fun _ _ z => z.2.2.2.1) ?_
  refine y_acmp_eq (pc := 17) (tgt := 45) (x := some (κ.2.2 100)) (y := some (κ.2.2 100)) o dJx4a65c_grow_92f84_17 rfl rfl rfl (fun (b2 : some (κ.2.2 100) = some (κ.2.2 100)) => ?_) (fun b2 => absurd rfl b2)
  refine y_aload_n (pc := 45) o dJx4a65c_grow_92f84_45 rfl ?_
  refine y_bipush (pc := 46) (x := 10) o dJx4a65c_grow_92f84_46 (by decide) ?_
  refine y_iload_n (pc := 48) o dJx4a65c_grow_92f84_48 rfl ?_
  refine y_mmax (pc := 49) o qw_537 dJx4a65c_grow_92f84_49 ⟨by decide, Nat.le_of_ble_eq_true rfl⟩ (by decide) (by decide) ?_
  refine z_st (st' := [.int 10, .ref a]) (by rw [show gmax 10 1 = 10 by decide]) ?_
  refine y1_anew (pc := 52) (k := 0) (n := 0) (N := 10) o qw_538 dJx4a65c_grow_92f84_52 (by decide) (by decide) (by omega) (by decide) (by decide) (fun q h1 hq e1 => ?_)
  have ha1 : h1 a = some (.inr (3, [.int mc, .ref (κ.2.2 100), .int 0])) := by rw [e1, gq_hs_ne _ _ (jne ha hq)]; exact ha
  refine y_dup_x1 (pc := 55) o dJx4a65c_grow_92f84_55 rfl rfl ?_
  refine y1_put (pc := 56) o fw_Jx4a65c_9 dJx4a65c_grow_92f84_56 ha1 (Nat.le_of_ble_eq_true rfl) rfl rfl rfl (fun h2 e2 => ?_)
  refine y1_aret (pc := 59) o dJx4a65c_grow_92f84_59 rfl (Or.inr ⟨_, rfl⟩) (Or.inr ⟨_, rfl⟩) (by decide) (by decide) ⟨q, rfl, hq, fun x => ?_⟩
  rw [e2]
  by_cases hx : x = a
  · rw [hx, gq_hs_eq, if_pos rfl]; rfl
  · rw [gq_hs_ne _ _ hx, if_neg hx, e1]
    by_cases hy : x = q
    · rw [hy, gq_hs_eq, if_pos rfl]; exact congrArg some (by unfold jrow; simp)
    · rw [gq_hs_ne _ _ hy, if_neg hy]

theorem j_growB {κ : gq_K} {h : gq_H} (a b n m : Nat) (mc : Int32) (g : Nat → Option Nat) (hn : 0 < n ∧ n ≤ 109) (hc : m = n + max 1 (n / 2)) (ha : h a = some (.inr (3, [.int mc, .ref b, .int (Int32.ofNat n)]))) (hb : h b = some (jrow κ n n g)) (hel : gq_el κ h (fun j => if j < n then g j else none)) : gq_C κ mJx4a65c_grow_92f84 [.ref (a), .int (Int32.ofNat (n + 1))] (fun g1 => g1 = h) (fun v9 h2 => ∃ q, v9 = some (.ref q) ∧ jgrew κ h a q m n mc g h2) (gq_no) := by
  refine gq_enter (by decide +kernel) rfl (Nat.le_of_ble_eq_true rfl) rfl (fun f o => ?_)
  refine y_aload_n (pc := 0) o dJx4a65c_grow_92f84_0 rfl ?_
  refine y_get (pc := 1) o fl_Jx4a65c_9 dJx4a65c_grow_92f84_1 (fun _ e => e ▸ ha) rfl ?_
  refine y1_alen (pc := 4) (t := 4) o dJx4a65c_grow_92f84_4 hb rfl rfl ?_
  refine y_istore_n (pc := 5) (i := 2) (lv' := [(2, .int (Int32.ofNat n)), (0, .ref (a)), (1, .int (Int32.ofNat (n + 1)))]) o dJx4a65c_grow_92f84_5 rfl (by decide) rfl ?_
  refine y_iload_n (pc := 6) o dJx4a65c_grow_92f84_6 rfl ?_
  refine y_if_gt (pc := 7) (tgt := 20) o dJx4a65c_grow_92f84_7 rfl (fun (b1 : 0 < (Int32.ofNat n)) => ?_) (fun b1 => absurd ((gofs_lt (n := 0) (by omega) (by omega)).mpr hn.1) b1)
  refine y_iload_n (pc := 20) o dJx4a65c_grow_92f84_20 rfl ?_
  refine y_iload_n (pc := 21) o dJx4a65c_grow_92f84_21 rfl ?_
  refine y_iload_n (pc := 22) o dJx4a65c_grow_92f84_22 rfl ?_
  refine y_isub (pc := 23) o dJx4a65c_grow_92f84_23 ?_
  refine y_iload_n (pc := 24) o dJx4a65c_grow_92f84_24 rfl ?_
  refine y_iconst (pc := 25) (x := 1) o dJx4a65c_grow_92f84_25 (by decide) ?_
  refine y_ishr (pc := 26) o dJx4a65c_grow_92f84_26 ?_
  refine z_st (st' := [.int (Int32.ofNat (n / 2)), .int (Int32.ofNat 1), .int (Int32.ofNat n)]) (by rw [gsh1 n (by omega), gsubN (by omega), Nat.add_sub_cancel_left]) ?_
  refine z_callS (pc := 27) (k := 0) (n := 0) (k' := 0) (n' := 0) o (As := [.int (Int32.ofNat n), .int (Int32.ofNat 1), .int (Int32.ofNat (n / 2))]) (rest := []) (j_newL n 1 (n / 2) (by omega) (by omega) (by omega)) ln_Jx4a65c_73 dJx4a65c_grow_92f84_27 rfl rfl (Nat.le_of_ble_eq_true rfl) ⟨by decide, by decide⟩ ⟨rfl, rfl⟩ ⟨by decide, by decide⟩ rfl gq_nox2 ?_
  refine y_istore_n (pc := 30) (i := 3) (lv' := [(3, .int (Int32.ofNat (n + max 1 (n / 2)))), (2, .int (Int32.ofNat n)), (0, .ref (a)), (1, .int (Int32.ofNat (n + 1)))]) o dJx4a65c_grow_92f84_30 rfl (by decide) rfl ?_
  refine y_aload_n (pc := 31) o dJx4a65c_grow_92f84_31 rfl ?_
  refine y_aload_n (pc := 32) o dJx4a65c_grow_92f84_32 rfl ?_
  refine y_get (pc := 33) o fl_Jx4a65c_9 dJx4a65c_grow_92f84_33 (fun _ e => e ▸ ha) rfl ?_
  refine y_iload_n (pc := 36) o dJx4a65c_grow_92f84_36 rfl ?_
  refine y_callS (pc := 37) (k := 0) (n := 0) o (As := [.ref b, .int (Int32.ofNat (n + max 1 (n / 2)))]) (rest := [.ref a]) (j_cp2 b (n + max 1 (n / 2)) n g (by omega) (by omega) hb hel) ln_Jx4a65c_66 dJx4a65c_grow_92f84_37 rfl rfl (Nat.le_of_ble_eq_true rfl) ⟨by decide, by decide⟩ ⟨by decide, by decide⟩ (fun _ e => e) rfl gq_nox2 (fun v => y_ex fun q => y_and fun e => y_open fun h1 hj => ?_)
  subst e
  have ha1 : h1 a = some (.inr (3, [.int mc, .ref b, .int (Int32.ofNat n)])) := by rw [hj.2, if_neg (jne ha hj.1)]; exact ha
  refine y_dup_x1 (pc := 40) o dJx4a65c_grow_92f84_40 rfl rfl ?_
  refine y1_put (pc := 41) o fw_Jx4a65c_9 dJx4a65c_grow_92f84_41 ha1 (Nat.le_of_ble_eq_true rfl) rfl rfl rfl (fun h2 e2 => ?_)
  refine y1_aret (pc := 44) o dJx4a65c_grow_92f84_44 rfl (Or.inr ⟨_, rfl⟩) (Or.inr ⟨_, rfl⟩) (by decide) (by decide) ⟨q, rfl, hj.1, fun x => ?_⟩
  rw [e2]
  by_cases hx : x = a
  · rw [hx, gq_hs_eq, if_pos rfl]; rfl
  · rw [gq_hs_ne _ _ hx, if_neg hx, hj.2, hc]

theorem j_grow0A {κ : gq_K} {h : gq_H} (a : Nat) (mc : Int32) (ha : h a = some (.inr (3, [.int mc, .ref (κ.2.2 100), .int 0]))) : gq_C κ mJx4a65c_grow_d5877 [.ref (a)] (fun g1 => g1 = h) (fun v9 h2 => ∃ q, v9 = some (.ref q) ∧ jgrew κ h a q 10 0 mc (fun _ => none) h2) (gq_no) := by
  refine gq_enter (by decide +kernel) rfl (Nat.le_of_ble_eq_true rfl) rfl (fun f o => ?_)
  refine y_aload_n (pc := 0) o dJx4a65c_grow_d5877_0 rfl ?_
  refine y_aload_n (pc := 1) o dJx4a65c_grow_d5877_1 rfl ?_
  refine y_get (pc := 2) o fl_Jx4a65c_48 dJx4a65c_grow_d5877_2 (fun _ e => e ▸ ha) rfl ?_
  refine y_iconst (pc := 5) (x := 1) o dJx4a65c_grow_d5877_5 (by decide) ?_
  refine y_iadd (pc := 6) o dJx4a65c_grow_d5877_6 ?_
  refine z_st (st' := [.int (1), .ref a]) (by rfl) ?_
  refine y_callV (pc := 7) (k := 0) (n := 0) o (b := a) (As := [.int (1)]) (rest := []) (j_growA a mc ha) ln_Jx4a65c_69 dJx4a65c_grow_d5877_7 (gq_rc (ci := 3) rfl (fun _ e => ⟨_, e ▸ ha⟩)) rfl rfl (Nat.le_of_ble_eq_true rfl) ⟨by decide, by decide⟩ ⟨by decide, by decide⟩ (fun _ e => e) rfl gq_nox2 (fun v => y_ex fun q => y_and fun e => ?_)
  subst e
  exact y_aret (pc := 10) o dJx4a65c_grow_d5877_10 rfl (Or.inr ⟨_, rfl⟩) (Or.inr ⟨_, rfl⟩) (by decide) (by decide) (fun h2 hj => ⟨q, rfl, hj⟩)

theorem j_grow0B {κ : gq_K} {h : gq_H} (a b n m : Nat) (mc : Int32) (g : Nat → Option Nat) (hn : 0 < n ∧ n ≤ 109) (hc : m = n + max 1 (n / 2)) (ha : h a = some (.inr (3, [.int mc, .ref b, .int (Int32.ofNat n)]))) (hb : h b = some (jrow κ n n g)) (hel : gq_el κ h (fun j => if j < n then g j else none)) : gq_C κ mJx4a65c_grow_d5877 [.ref (a)] (fun g1 => g1 = h) (fun v9 h2 => ∃ q, v9 = some (.ref q) ∧ jgrew κ h a q m n mc g h2) (gq_no) := by
  refine gq_enter (by decide +kernel) rfl (Nat.le_of_ble_eq_true rfl) rfl (fun f o => ?_)
  refine y_aload_n (pc := 0) o dJx4a65c_grow_d5877_0 rfl ?_
  refine y_aload_n (pc := 1) o dJx4a65c_grow_d5877_1 rfl ?_
  refine y_get (pc := 2) o fl_Jx4a65c_48 dJx4a65c_grow_d5877_2 (fun _ e => e ▸ ha) rfl ?_
  refine y_iconst (pc := 5) (x := 1) o dJx4a65c_grow_d5877_5 (by decide) ?_
  refine y_iadd (pc := 6) o dJx4a65c_grow_d5877_6 ?_
  refine z_st (st' := [.int (Int32.ofNat (n + 1)), .ref a]) (by rw [← (gofs (n := n) (by omega)).2.2]) ?_
  refine y_callV (pc := 7) (k := 0) (n := 0) o (b := a) (As := [.int (Int32.ofNat (n + 1))]) (rest := []) (j_growB a b n m mc g hn hc ha hb hel) ln_Jx4a65c_69 dJx4a65c_grow_d5877_7 (gq_rc (ci := 3) rfl (fun _ e => ⟨_, e ▸ ha⟩)) rfl rfl (Nat.le_of_ble_eq_true rfl) ⟨by decide, by decide⟩ ⟨by decide, by decide⟩ (fun _ e => e) rfl gq_nox2 (fun v => y_ex fun q => y_and fun e => ?_)
  subst e
  exact y_aret (pc := 10) o dJx4a65c_grow_d5877_10 rfl (Or.inr ⟨_, rfl⟩) (Or.inr ⟨_, rfl⟩) (by decide) (by decide) (fun h2 hj => ⟨q, rfl, hj⟩)


/-- the list a was given one more element, q -/
def jadded (κ : gq_K) (h : gq_H) (a b n q : Nat) (mc : Int32) (g : Nat → Option Nat) (h2 : gq_H) : Prop :=
  ∃ b', (((n = 0 ∨ n = gcap n) ∧ h b' = none) ∨ (0 < n ∧ b' = b)) ∧ ∀ x, h2 x = if x = a then some (.inr (3, [.int mc, .ref b', .int (Int32.ofNat (n + 1))])) else if x = b' then some (jrow κ (gcap (n + 1)) (n + 1) (fun j => if j = n then some q else g j)) else h x
def jlist (κ : gq_K) (h : gq_H) (a b n : Nat) (mc : Int32) (g : Nat → Option Nat) : Prop := h a = some (.inr (3, [.int mc, .ref b, .int (Int32.ofNat n)])) ∧ ((n = 0 ∧ b = κ.2.2 100) ∨ (0 < n ∧ h b = some (jrow κ (gcap n) n g) ∧ gq_el κ h (fun j => if j < n then g j else none)))
theorem jrow_up {m n q : Nat} {g : Nat → Option Nat} : (.inl (κ.2.1 4, m, .inr (.inr (.inr (.inr (va_up (fun j => if j < n then g j else none) n (some q)))))) : va_E) = jrow κ m (n + 1) (fun j => if j = n then some q else g j) := by
  unfold jrow
  refine congrArg (fun z => (.inl (κ.2.1 4, m, .inr (.inr (.inr (.inr z)))) : va_E)) (funext fun j => ?_)
  show (if j = n then some q else if j < n then g j else none) = if j < n + 1 then (if j = n then some q else g j) else none
  by_cases h1 : j = n
  · rw [if_pos h1, if_pos (by omega), if_pos h1]
  · rw [if_neg h1]
    by_cases h2 : j < n
    · rw [if_pos h2, if_pos (by omega), if_neg h1]
    · rw [if_neg h2, if_neg (by omega)]
theorem jrow_0 {m : Nat} {g : Nat → Option Nat} : jrow κ m 0 g = jrow κ m 0 (fun _ => none) := by unfold jrow; simp

theorem j_add3A {κ : gq_K} {h : gq_H} (a q : Nat) (mc : Int32) (e0 : va_E) (hq : h q = some e0) (hany : gq_any κ e0) (hqa : q ≠ a) (ha : h a = some (.inr (3, [.int mc, .ref (κ.2.2 100), .int 0]))) : gq_C κ mJx4a65c_add_72be8 [.ref (a), .ref (q), .ref (κ.2.2 100), .int (0)] (fun g1 => g1 = h) (fun v9 h2 => v9 = none ∧ jadded κ h a (κ.2.2 100) 0 q mc (fun _ => none) h2) (gq_no) := by
  refine gq_enter (by decide +kernel) rfl (Nat.le_of_ble_eq_true rfl) rfl (fun f o => ?_)
  refine y_iload_n (pc := 0) o dJx4a65c_add_72be8_0 rfl ?_
  refine y_aload_n (pc := 1) o dJx4a65c_add_72be8_1 rfl ?_
  refine y_alen0 (pc := 2) o dJx4a65c_add_72be8_2 ?_
  refine y_icmp_ne (pc := 3) (tgt := 11) o dJx4a65c_add_72be8_3 rfl (fun b1 => absurd rfl b1) (fun (b1 : 0 = 0) => ?_)
  refine y_aload_n (pc := 6) o dJx4a65c_add_72be8_6 rfl ?_
  refine y_callV (pc := 7) (k := 0) (n := 0) o (b := a) (As := []) (rest := []) (j_grow0A a mc ha) ln_Jx4a65c_129 dJx4a65c_add_72be8_7 (gq_rc (ci := 3) rfl (fun _ e => ⟨_, e ▸ ha⟩)) rfl rfl (Nat.le_of_ble_eq_true rfl) ⟨by decide, by decide⟩ ⟨by decide, by decide⟩ (fun _ e => e) rfl gq_nox2 (fun v => y_ex fun q2 => y_and fun e => y_open fun h1 hj => ?_)
  subst e
  refine y_astore_n (pc := 10) (i := 2) (lv' := [(2, .ref (q2)), (0, .ref (a)), (1, .ref (q)), (3, .int (0))]) o dJx4a65c_add_72be8_10 rfl (by decide) rfl ?_
  refine y_aload_n (pc := 11) o dJx4a65c_add_72be8_11 rfl ?_
  refine y_iload_n (pc := 12) o dJx4a65c_add_72be8_12 rfl ?_
  refine y_aload_n (pc := 13) o dJx4a65c_add_72be8_13 rfl ?_
  have hq2 : h1 q2 = some (jrow κ 10 0 (fun _ => none)) := by rw [hj.2, if_neg (fun z => jne ha hj.1 z.symm), if_pos rfl]
  have hq1 : h1 q = some e0 := by rw [hj.2, if_neg hqa, if_neg (jne hq hj.1)]; exact hq
  refine y1_aast (pc := 14) (N := 10) (i := 0) (b := q) o dJx4a65c_add_72be8_14 hq2 (by unfold vp_in; decide) hq1 hany (fun h2 e2 => ?_)
  have e2 : h2 = gq_hs h1 q2 (jrow κ (10) (0 + 1) (fun j => if j = 0 then some q else (fun _ => none) j)) := by rw [e2]; exact congrArg (gq_hs h1 q2) jrow_up
  have ha2 : h2 a = some (.inr (3, [.int mc, .ref q2, .int (0)])) := by rw [e2, gq_hs_ne _ _ (jne ha hj.1), hj.2, if_pos rfl]; rfl
  refine y_aload_n (pc := 15) o dJx4a65c_add_72be8_15 rfl ?_
  refine y_iload_n (pc := 16) o dJx4a65c_add_72be8_16 rfl ?_
  refine y_iconst (pc := 17) (x := 1) o dJx4a65c_add_72be8_17 (by decide) ?_
  refine y_iadd (pc := 18) o dJx4a65c_add_72be8_18 ?_
  refine y1_put (pc := 19) o fw_Jx4a65c_48 dJx4a65c_add_72be8_19 ha2 (Nat.le_of_ble_eq_true rfl) rfl rfl rfl (fun h3 e3 => ?_)
  refine y1_vret (pc := 22) o dJx4a65c_add_72be8_22 rfl (by decide) (by decide) ⟨rfl, q2, Or.inl ⟨Or.inl rfl, hj.1⟩, fun x => ?_⟩
  rw [e3]
  by_cases hx : x = a
  · rw [hx, gq_hs_eq, if_pos rfl]; rfl
  · rw [gq_hs_ne _ _ hx, if_neg hx, e2]
    by_cases hy : x = q2
    · rw [hy, gq_hs_eq, if_pos rfl]; rfl
    · rw [gq_hs_ne _ _ hy, if_neg hy, hj.2, if_neg hx, if_neg hy]

theorem j_add3B {κ : gq_K} {h : gq_H} (a q : Nat) (mc : Int32) (e0 : va_E) (hq : h q = some e0) (hany : gq_any κ e0) (hqa : q ≠ a) (b n m : Nat) (g : Nat → Option Nat) (hn : 0 < n ∧ n ≤ 109) (hf : n = gcap n) (hm : m = n + max 1 (n / 2)) (hcap : gcap (n + 1) = m) (ha : h a = some (.inr (3, [.int mc, .ref b, .int (Int32.ofNat n)]))) (hb : h b = some (jrow κ n n g)) (hel : gq_el κ h (fun j => if j < n then g j else none)) : gq_C κ mJx4a65c_add_72be8 [.ref (a), .ref (q), .ref (b), .int (Int32.ofNat n)] (fun g1 => g1 = h) (fun v9 h2 => v9 = none ∧ jadded κ h a b n q mc g h2) (gq_no) := by
  refine gq_enter (by decide +kernel) rfl (Nat.le_of_ble_eq_true rfl) rfl (fun f o => ?_)
  refine y_iload_n (pc := 0) o dJx4a65c_add_72be8_0 rfl ?_
  refine y_aload_n (pc := 1) o dJx4a65c_add_72be8_1 rfl ?_
  refine y1_alen (pc := 2) (t := 4) o dJx4a65c_add_72be8_2 hb rfl rfl ?_
  refine y_icmp_ne (pc := 3) (tgt := 11) o dJx4a65c_add_72be8_3 rfl (fun b1 => absurd rfl b1) (fun (b1 : (Int32.ofNat n) = (Int32.ofNat n)) => ?_)
  refine y_aload_n (pc := 6) o dJx4a65c_add_72be8_6 rfl ?_
  refine y_callV (pc := 7) (k := 0) (n := 0) o (b := a) (As := []) (rest := []) (j_grow0B a b n m mc g hn hm ha hb hel) ln_Jx4a65c_129 dJx4a65c_add_72be8_7 (gq_rc (ci := 3) rfl (fun _ e => ⟨_, e ▸ ha⟩)) rfl rfl (Nat.le_of_ble_eq_true rfl) ⟨by decide, by decide⟩ ⟨by decide, by decide⟩ (fun _ e => e) rfl gq_nox2 (fun v => y_ex fun q2 => y_and fun e => y_open fun h1 hj => ?_)
  subst e
  refine y_astore_n (pc := 10) (i := 2) (lv' := [(2, .ref (q2)), (0, .ref (a)), (1, .ref (q)), (3, .int (Int32.ofNat n))]) o dJx4a65c_add_72be8_10 rfl (by decide) rfl ?_
  refine y_aload_n (pc := 11) o dJx4a65c_add_72be8_11 rfl ?_
  refine y_iload_n (pc := 12) o dJx4a65c_add_72be8_12 rfl ?_
  refine y_aload_n (pc := 13) o dJx4a65c_add_72be8_13 rfl ?_
  have hq2 : h1 q2 = some (jrow κ m n g) := by rw [hj.2, if_neg (fun z => jne ha hj.1 z.symm), if_pos rfl]
  have hq1 : h1 q = some e0 := by rw [hj.2, if_neg hqa, if_neg (jne hq hj.1)]; exact hq
  refine y1_aast (pc := 14) (N := m) (i := Int32.ofNat n) (b := q) o dJx4a65c_add_72be8_14 hq2 (gin_of (by omega) (by omega)) hq1 hany (fun h2 e2 => ?_)
  have e2 : h2 = gq_hs h1 q2 (jrow κ (m) (n + 1) (fun j => if j = n then some q else g j)) := by rw [e2, (gofs (n := n) (by omega)).2.1]; exact congrArg (gq_hs h1 q2) jrow_up
  have ha2 : h2 a = some (.inr (3, [.int mc, .ref q2, .int (Int32.ofNat n)])) := by rw [e2, gq_hs_ne _ _ (jne ha hj.1), hj.2, if_pos rfl]
  refine y_aload_n (pc := 15) o dJx4a65c_add_72be8_15 rfl ?_
  refine y_iload_n (pc := 16) o dJx4a65c_add_72be8_16 rfl ?_
  refine y_iconst (pc := 17) (x := 1) o dJx4a65c_add_72be8_17 (by decide) ?_
  refine y_iadd (pc := 18) o dJx4a65c_add_72be8_18 ?_
  refine y1_put (pc := 19) o fw_Jx4a65c_48 dJx4a65c_add_72be8_19 ha2 (Nat.le_of_ble_eq_true rfl) rfl rfl rfl (fun h3 e3 => ?_)
  refine y1_vret (pc := 22) o dJx4a65c_add_72be8_22 rfl (by decide) (by decide) ⟨rfl, q2, Or.inl ⟨Or.inr hf, hj.1⟩, fun x => ?_⟩
  rw [e3]
  by_cases hx : x = a
  · rw [hx, gq_hs_eq, if_pos rfl]; exact congrArg some (congrArg (fun z => (.inr (3, [.int mc, .ref q2, .int z]) : va_E)) (gofs (n := n) (by omega)).2.2)
  · rw [gq_hs_ne _ _ hx, if_neg hx, e2]
    by_cases hy : x = q2
    · rw [hy, gq_hs_eq, if_pos rfl, ← hcap]
    · rw [gq_hs_ne _ _ hy, if_neg hy, hj.2, if_neg hx, if_neg hy]

theorem j_add3C {κ : gq_K} {h : gq_H} (a q : Nat) (mc : Int32) (e0 : va_E) (hq : h q = some e0) (hany : gq_any κ e0) (hqa : q ≠ a) (b n : Nat) (g : Nat → Option Nat) (hn : 0 < n ∧ n ≤ 150) (hf : n < gcap n ∧ gcap n ≤ 163) (hcap : gcap (n + 1) = gcap n) (hab : a ≠ b) (ha : h a = some (.inr (3, [.int mc, .ref b, .int (Int32.ofNat n)]))) (hb : h b = some (jrow κ (gcap n) n g)) : gq_C κ mJx4a65c_add_72be8 [.ref (a), .ref (q), .ref (b), .int (Int32.ofNat n)] (fun g1 => g1 = h) (fun v9 h2 => v9 = none ∧ jadded κ h a b n q mc g h2) (gq_no) := by
  refine gq_enter (by decide +kernel) rfl (Nat.le_of_ble_eq_true rfl) rfl (fun f o => ?_)
  refine y_iload_n (pc := 0) o dJx4a65c_add_72be8_0 rfl ?_
  refine y_aload_n (pc := 1) o dJx4a65c_add_72be8_1 rfl ?_
  refine y1_alen (pc := 2) (t := 4) o dJx4a65c_add_72be8_2 hb rfl rfl ?_
  refine y_icmp_ne (pc := 3) (tgt := 11) o dJx4a65c_add_72be8_3 rfl (fun (b1 : ¬ (Int32.ofNat n) = (Int32.ofNat (gcap n))) => ?_) (fun b1 => absurd ((gneqN (by omega) (by omega)).mp b1) (by omega))
  refine y_aload_n (pc := 11) o dJx4a65c_add_72be8_11 rfl ?_
  refine y_iload_n (pc := 12) o dJx4a65c_add_72be8_12 rfl ?_
  refine y_aload_n (pc := 13) o dJx4a65c_add_72be8_13 rfl ?_
  refine y1_aast (pc := 14) (N := gcap n) (i := Int32.ofNat n) (b := q) o dJx4a65c_add_72be8_14 hb (gin_of (by omega) (by omega)) hq hany (fun h2 e2 => ?_)
  have e2 : h2 = gq_hs h b (jrow κ (gcap n) (n + 1) (fun j => if j = n then some q else g j)) := by rw [e2, (gofs (n := n) (by omega)).2.1]; exact congrArg (gq_hs h b) jrow_up
  have ha2 : h2 a = some (.inr (3, [.int mc, .ref b, .int (Int32.ofNat n)])) := by rw [e2, gq_hs_ne _ _ hab]; exact ha
  refine y_aload_n (pc := 15) o dJx4a65c_add_72be8_15 rfl ?_
  refine y_iload_n (pc := 16) o dJx4a65c_add_72be8_16 rfl ?_
  refine y_iconst (pc := 17) (x := 1) o dJx4a65c_add_72be8_17 (by decide) ?_
  refine y_iadd (pc := 18) o dJx4a65c_add_72be8_18 ?_
  refine y1_put (pc := 19) o fw_Jx4a65c_48 dJx4a65c_add_72be8_19 ha2 (Nat.le_of_ble_eq_true rfl) rfl rfl rfl (fun h3 e3 => ?_)
  refine y1_vret (pc := 22) o dJx4a65c_add_72be8_22 rfl (by decide) (by decide) ⟨rfl, b, Or.inr ⟨hn.1, rfl⟩, fun x => ?_⟩
  rw [e3]
  by_cases hx : x = a
  · rw [hx, gq_hs_eq, if_pos rfl]; exact congrArg some (congrArg (fun z => (.inr (3, [.int mc, .ref b, .int z]) : va_E)) (gofs (n := n) (by omega)).2.2)
  · rw [gq_hs_ne _ _ hx, if_neg hx, e2]
    by_cases hy : x = b
    · rw [hy, gq_hs_eq, if_pos rfl, hcap]
    · rw [gq_hs_ne _ _ hy, if_neg hy]


theorem jadded_g {a b n q : Nat} {mc : Int32} {g g' : Nat → Option Nat} {h2 : gq_H} (hg : ∀ j, j < n → g j = g' j) (hj : jadded κ h a b n q mc g h2) : jadded κ h a b n q mc g' h2 := by
  obtain ⟨b', h1, h3⟩ := hj
  refine ⟨b', h1, fun x => ?_⟩
  rw [h3]
  have e : jrow κ (gcap (n + 1)) (n + 1) (fun j => if j = n then some q else g j) = jrow κ (gcap (n + 1)) (n + 1) (fun j => if j = n then some q else g' j) := by
    unfold jrow
    refine congrArg (fun z => (.inl (κ.2.1 4, gcap (n + 1), .inr (.inr (.inr (.inr z)))) : va_E)) (funext fun j => ?_)
    by_cases h4 : j < n + 1
    · rw [if_pos h4, if_pos h4]
      show (if j = n then some q else g j) = if j = n then some q else g' j
      by_cases h5 : j = n
      · rw [if_pos h5, if_pos h5]
      · rw [if_neg h5, if_neg h5, hg j (by omega)]
    · rw [if_neg h4, if_neg h4]
  rw [e]
theorem gq_C.post {M : gq_M} {args : List Value} {P : gq_H → Prop} {Q Q' : Option Value → gq_H → Prop} {E : String → gq_H → Prop} (hq : ∀ v h, Q v h → Q' v h) (hC : gq_C κ M args P Q E) : gq_C κ M args P Q' E := by
  intro l A hfl p e had hfc hck s m a below hfr happ hp hK
  obtain ⟨n, o, h1, h2, h3, h4⟩ := hC l A hfl p e had hfc hck s m a below hfr happ hp hK
  exact ⟨n, o, h1, h2, h3, h4.imp (fun ⟨⟨⟨v, g, e1, e2, e3⟩, z2⟩, z3⟩ => ⟨⟨⟨v, g, e1, hq v g e2, e3⟩, z2⟩, z3⟩) id⟩
theorem gcap_109 : ∀ n : Nat, n ≤ 144 → n = gcap n → n ≤ 109 := by decide +kernel
theorem gcap_m (n : Nat) : gcap n ≤ 163 := by
  unfold gcap
  repeat' split
  all_goals omega
theorem j_add3 (a b n q : Nat) (mc : Int32) (g : Nat → Option Nat) (e0 : va_E) (hq : h q = some e0) (hany : gq_any κ e0) (hqa : q ≠ a) (hn : n ≤ 144) (hl : jlist κ h a b n mc g) : gq_C κ mJx4a65c_add_72be8 [.ref a, .ref q, .ref b, .int (Int32.ofNat n)] (fun g1 => g1 = h) (fun v9 h2 => v9 = none ∧ jadded κ h a b n q mc g h2) gq_no := by
  obtain ⟨ha, ⟨rfl, rfl⟩ | ⟨h0, hb, hel⟩⟩ := hl
  · exact gq_C.post (fun v h2 z => ⟨z.1, jadded_g (fun j hj => by omega) z.2⟩) (j_add3A a q mc e0 hq hany hqa ha)
  · by_cases hf : n = gcap n
    · have h109 : n ≤ 109 := gcap_109 n hn hf
      rw [← hf] at hb
      exact j_add3B a q mc e0 hq hany hqa b n (n + max 1 (n / 2)) g ⟨h0, h109⟩ hf rfl (gcap_tab n h109 h0 hf).1 ha hb hel
    · have h1 := gcap_s n (by omega) (by omega) hf
      exact j_add3C a q mc e0 hq hany hqa b n g ⟨h0, by omega⟩ ⟨h1.2, gcap_m n⟩ h1.1 (fun z => by rw [z, hb] at ha; cases ha) ha hb

theorem j_add {κ : gq_K} {h : gq_H} (a b n q : Nat) (mc : Int32) (g : Nat → Option Nat) (e0 : va_E) (hq : h q = some e0) (hany : gq_any κ e0) (hqa : q ≠ a) (hn : n ≤ 144) (hl : jlist κ h a b n mc g) : gq_C κ mJx4a65c_add_9ea2d [.ref (a), .ref (q)] (fun g1 => g1 = h) (fun v9 h2 => v9 = some (.int 1) ∧ jadded κ h a b n q (mc + 1) g h2) (gq_no) := by
  refine gq_enter (by decide +kernel) rfl (Nat.le_of_ble_eq_true rfl) rfl (fun f o => ?_)
  have ha := hl.1
  refine y_aload_n (pc := 0) o dJx4a65c_add_9ea2d_0 rfl ?_
  refine y_dup (pc := 1) o dJx4a65c_add_9ea2d_1 rfl ?_
  refine y_get (pc := 2) o fl_Jx4a65c_63 dJx4a65c_add_9ea2d_2 (fun _ e => e ▸ ha) rfl ?_
  refine y_iconst (pc := 5) (x := 1) o dJx4a65c_add_9ea2d_5 (by decide) ?_
  refine y_iadd (pc := 6) o dJx4a65c_add_9ea2d_6 ?_
  refine y1_put (pc := 7) o fw_Jx4a65c_63 dJx4a65c_add_9ea2d_7 ha (Nat.le_of_ble_eq_true rfl) rfl rfl rfl (fun h1 e1 => ?_)
  have ha1 : h1 a = some (.inr (3, [.int (mc + 1), .ref b, .int (Int32.ofNat n)])) := by rw [e1, gq_hs_eq]; rfl
  have hq1 : h1 q = some e0 := by rw [e1, gq_hs_ne _ _ hqa]; exact hq
  have hl1 : jlist κ h1 a b n (mc + 1) g := by
    refine ⟨ha1, ?_⟩
    rcases hl.2 with z | ⟨z1, z2, z3⟩
    · exact Or.inl z
    · have hba : b ≠ a := fun z => by rw [z, ha] at z2; cases z2
      exact Or.inr ⟨z1, by rw [e1, gq_hs_ne _ _ hba]; exact z2, by rw [e1]; exact z3.hs (gq_anyO (ci := 3) rfl (by decide +kernel))⟩
  refine y_aload_n (pc := 10) o dJx4a65c_add_9ea2d_10 rfl ?_
  refine y_aload_n (pc := 11) o dJx4a65c_add_9ea2d_11 rfl ?_
  refine y_aload_n (pc := 12) o dJx4a65c_add_9ea2d_12 rfl ?_
  refine y_get (pc := 13) o fl_Jx4a65c_9 dJx4a65c_add_9ea2d_13 (fun _ e => e ▸ ha1) rfl ?_
  refine y_aload_n (pc := 16) o dJx4a65c_add_9ea2d_16 rfl ?_
  refine y_get (pc := 17) o fl_Jx4a65c_48 dJx4a65c_add_9ea2d_17 (fun _ e => e ▸ ha1) rfl ?_
  refine y_callV (pc := 20) (k := 0) (n := 0) o (b := a) (As := [.ref q, .ref b, .int (Int32.ofNat n)]) (rest := []) (j_add3 a b n q (mc + 1) g e0 hq1 hany hqa hn hl1) ln_Jx4a65c_131 dJx4a65c_add_9ea2d_20 (gq_rc (ci := 3) rfl (fun _ e => ⟨_, e ▸ ha1⟩)) rfl rfl (Nat.le_of_ble_eq_true rfl) ⟨by decide, by decide⟩ ⟨by decide, by decide⟩ (fun _ e => e) rfl gq_nox2 (fun v => y_and fun e => ?_)
  subst e
  refine y_iconst (pc := 23) (x := 1) o dJx4a65c_add_9ea2d_23 (by decide) ?_
  refine y_iret (pc := 24) o dJx4a65c_add_9ea2d_24 rfl rfl (by decide) (by decide) (fun h2 hj => ⟨rfl, ?_⟩)
  obtain ⟨b', z1, z2⟩ := hj
  have hne : ∀ x, h x = none → h1 x = none ∨ x = a := fun x hx => by
    by_cases hxa : x = a
    · exact Or.inr hxa
    · exact Or.inl (by rw [e1, gq_hs_ne _ _ hxa]; exact hx)
  have hh : ∀ x, x ≠ a → h1 x = h x := fun x hx => by rw [e1, gq_hs_ne _ _ hx]
  refine ⟨b', ?_, fun x => ?_⟩
  · rcases z1 with ⟨z1, z3⟩ | z1
    · refine Or.inl ⟨z1, ?_⟩
      have hba : b' ≠ a := fun z => by rw [z, ha1] at z3; cases z3
      rw [← hh _ hba]; exact z3
    · exact Or.inr z1
  · rw [z2]
    by_cases hx : x = a
    · rw [if_pos hx, if_pos hx]
    · rw [if_neg hx, if_neg hx, hh x hx]

end Z11
