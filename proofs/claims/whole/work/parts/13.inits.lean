
/-- a char -/
def gch (x : Int32) : Prop := ¬ x < 0 ∧ ¬ 65535 < x
theorem gch_f {x : Int32} (h : gch x) : fits .char (.int x) = true := by
  show (decide (0 ≤ x) && decide (x ≤ 65535)) = true
  rw [Bool.and_eq_true, decide_eq_true_eq, decide_eq_true_eq]
  exact ⟨gle.mpr h.1, gle.mpr h.2⟩
theorem gch_n {x : Int32} (h : gch x) : narrow .char (.int x) = .int x := by
  show Value.int x.toUInt32.toUInt16.toUInt32.toInt32 = .int x
  refine congrArg Value.int ?_
  have h0 := h.1
  have h1 := h.2
  rw [Int32.lt_iff_toInt_lt] at h0 h1
  have e0 : (0 : Int32).toInt = 0 := rfl
  have e1 : (65535 : Int32).toInt = 65535 := rfl
  have hx : (x.toUInt32.toNat : Int) = x.toInt := by
    have : x.toInt = x.toUInt32.toBitVec.toInt := rfl
    rw [this, BitVec.toInt_eq_toNat_cond]
    rw [this, BitVec.toInt_eq_toNat_cond] at h0
    have h2 : x.toUInt32.toBitVec.toNat = x.toUInt32.toNat := rfl
    have h3 := x.toUInt32.toNat_lt
    split at h0 <;> split <;> omega
  have h5 : x.toUInt32.toUInt16.toUInt32 = x.toUInt32 := by
    rw [← UInt32.toNat_inj, UInt16.toNat_toUInt32, UInt32.toNat_toUInt16]
    omega
  rw [h5]
  rfl
theorem gb_fit {p : Prop} [Decidable p] : fits .boolean (.int (gb p)) = true := by
  by_cases hp : p
  · rw [gb_t hp]; rfl
  · rw [gb_f hp]; rfl
section Z13
theorem c_acI {κ : gq_K} {P : gq_H → Prop} {a : Nat} : gq_C κ mJxa1e45_init_da8c8 [.ref (a)] (P) (fun v9 g => v9 = none ∧ P g) (gq_no) := by
  refine gq_enter (by decide +kernel) rfl (Nat.le_of_ble_eq_true rfl) rfl (fun f o => ?_)
  refine y_aload_n (pc := 0) o dJxa1e45_init_da8c8_0 rfl ?_
  refine y_objInit (pc := 1) o qw_147 dJxa1e45_init_da8c8_1 ⟨by decide, Nat.le_of_ble_eq_true rfl⟩ qw_73 qw_74 ?_
  exact y_vret (pc := 4) o dJxa1e45_init_da8c8_4 rfl (by decide) (by decide) (fun h hp => ⟨rfl, hp⟩)

theorem c_absL {κ : gq_K} {ad : gKey → Nat} {S : gG × gG} {T : List (Nat × va_E)} (q : Nat) : gq_C κ mJxc12de_init_da8c8 [.ref (q)] (gR κ ad S ((q, .inr (3, [.int (0), .null, .int (0)])) :: T)) (fun v9 g => v9 = none ∧ gR κ ad S ((q, .inr (3, [.int (0), .null, .int (0)])) :: T) g) (gq_no) := by
  refine gq_enter (by decide +kernel) rfl (Nat.le_of_ble_eq_true rfl) rfl (fun f o => ?_)
  refine y_aload_n (pc := 0) o dJxc12de_init_da8c8_0 rfl ?_
  refine z_callI (pc := 1) (k := 0) (n := 0) (k' := 0) (n' := 0) o (b := q) (As := []) (rest := []) (c_acI) ln_Jxc12de_1 dJxc12de_init_da8c8_1 rfl rfl (Nat.le_of_ble_eq_true rfl) ⟨by decide, by decide⟩ ⟨rfl, rfl⟩ ⟨by decide, by decide⟩ ?_
  refine y_aload_n (pc := 4) o dJxc12de_init_da8c8_4 rfl ?_
  refine y_iconst (pc := 5) (x := 0) o dJxc12de_init_da8c8_5 (by decide) ?_
  refine z_putT (pc := 6) (fs' := [.int (0), .null, .int (0)]) (T' := (q, .inr (3, [.int (0), .null, .int (0)])) :: T) o 0 fw_Jxc12de_7 dJxc12de_init_da8c8_6 rfl (Nat.le_of_ble_eq_true rfl) (vp_nar_int _) rfl rfl rfl ?_
  exact y_vret (pc := 9) o dJxc12de_init_da8c8_9 rfl (by decide) (by decide) (fun h hp => ⟨rfl, hp⟩)

theorem c_alI {κ : gq_K} {ad : gKey → Nat} {S : gG × gG} {T : List (Nat × va_E)} (q : Nat) : gq_C κ mJx4a65c_init_da8c8 [.ref (q)] (gR κ ad S ((q, .inr (3, [.int (0), .null, .int (0)])) :: T)) (fun v9 g => v9 = none ∧ gR κ ad S ((q, .inr (3, [.int (0), .ref (κ.2.2 100), .int (0)])) :: T) g) (gq_no) := by
  refine gq_enter (by decide +kernel) rfl (Nat.le_of_ble_eq_true rfl) rfl (fun f o => ?_)
  refine y_aload_n (pc := 0) o dJx4a65c_init_da8c8_0 rfl ?_
  refine z_callI (pc := 1) (k := 0) (n := 0) (k' := 0) (n' := 0) o (b := q) (As := []) (rest := []) (c_absL _) ln_Jx4a65c_1 dJx4a65c_init_da8c8_1 rfl rfl (Nat.le_of_ble_eq_true rfl) ⟨by decide, by decide⟩ ⟨rfl, rfl⟩ ⟨by decide, by decide⟩ ?_
  refine y_aload_n (pc := 4) o dJx4a65c_init_da8c8_4 rfl ?_
  refine y_gets (pc := 5) (v := .ref (κ.2.2 100)) o qw_148 rfl dJx4a65c_init_da8c8_5 (fun _ _ z => z.2.2.2.1) ?_
  refine z_putT (pc := 8) (fs' := [.int (0), .ref (κ.2.2 100), .int (0)]) (T' := (q, .inr (3, [.int (0), .ref (κ.2.2 100), .int (0)])) :: T) o 0 fw_Jx4a65c_9 dJx4a65c_init_da8c8_8 rfl (Nat.le_of_ble_eq_true rfl) rfl rfl rfl rfl ?_
  exact y_vret (pc := 11) o dJx4a65c_init_da8c8_11 rfl (by decide) (by decide) (fun h hp => ⟨rfl, hp⟩)

theorem kX4_init {κ : gq_K} {ad : gKey → Nat} {S : gG × gG} {T : List (Nat × va_E)} (q : Nat)  (a0 : Int32) (hc0 : gch a0) : gq_C κ mX4_init [.ref (q), .int (a0)] (gR κ ad S ((q, .inr (8, [.int (0), .int (0), .null])) :: T)) (fun v9 g => v9 = none ∧ gR κ ad S ((q, .inr (8, [.int (a0), .int (1), .null])) :: T) g) (gq_no) := by
  refine gq_enter (by decide +kernel) rfl (Nat.le_of_ble_eq_true rfl) rfl (fun f o => ?_)
  refine y_aload_n (pc := 0) o dX4_init_0 rfl ?_
  refine y_objInit (pc := 1) o qw_86 dX4_init_1 ⟨by decide, Nat.le_of_ble_eq_true rfl⟩ qw_73 qw_74 ?_
  refine y_aload_n (pc := 4) o dX4_init_4 rfl ?_
  refine y_iconst (pc := 5) (x := 1) o dX4_init_5 (by decide) ?_
  refine z_putT (pc := 6) (fs' := [.int (0), .int (1), .null]) (T' := (q, .inr (8, [.int (0), .int (1), .null])) :: T) o 0 fw_X4_7 dX4_init_6 rfl (Nat.le_of_ble_eq_true rfl) rfl rfl rfl rfl ?_
  refine y_aload_n (pc := 9) o dX4_init_9 rfl ?_
  refine y_null (pc := 10) o dX4_init_10 ?_
  refine z_putT (pc := 11) (fs' := [.int (0), .int (1), .null]) (T' := (q, .inr (8, [.int (0), .int (1), .null])) :: T) o 0 fw_X4_13 dX4_init_11 rfl (Nat.le_of_ble_eq_true rfl) rfl rfl rfl rfl ?_
  refine y_aload_n (pc := 14) o dX4_init_14 rfl ?_
  refine y_iload_n (pc := 15) o dX4_init_15 rfl ?_
  refine z_putTF (pc := 16) (fs' := [.int (a0), .int (1), .null]) (T' := (q, .inr (8, [.int (a0), .int (1), .null])) :: T) o 0 ff_X4_17 rfl dX4_init_16 rfl (Nat.le_of_ble_eq_true rfl) (gch_n hc0) (gch_f hc0) rfl rfl ?_
  exact y_vret (pc := 19) o dX4_init_19 rfl (by decide) (by decide) (fun h hp => ⟨rfl, hp⟩)

theorem kX10_init {κ : gq_K} {ad : gKey → Nat} {S : gG × gG} {T : List (Nat × va_E)} (q : Nat)  : gq_C κ mX10_init [.ref (q)] (gR κ ad S ((q, .inr (14, [.int (0), .int (0)])) :: T)) (fun v9 g => v9 = none ∧ gR κ ad S ((q, .inr (14, [.int (0), .int (0)])) :: T) g) (gq_no) := by
  refine gq_enter (by decide +kernel) rfl (Nat.le_of_ble_eq_true rfl) rfl (fun f o => ?_)
  refine y_aload_n (pc := 0) o dX10_init_0 rfl ?_
  refine y_objInit (pc := 1) o qw_128 dX10_init_1 ⟨by decide, Nat.le_of_ble_eq_true rfl⟩ qw_73 qw_74 ?_
  refine y_aload_n (pc := 4) o dX10_init_4 rfl ?_
  refine y_iconst (pc := 5) (x := 0) o dX10_init_5 (by decide) ?_
  refine z_putT (pc := 6) (fs' := [.int (0), .int (0)]) (T' := (q, .inr (14, [.int (0), .int (0)])) :: T) o 0 fw_X10_9 dX10_init_6 rfl (Nat.le_of_ble_eq_true rfl) (vp_nar_int _) rfl rfl rfl ?_
  refine y_aload_n (pc := 9) o dX10_init_9 rfl ?_
  refine y_iconst (pc := 10) (x := 0) o dX10_init_10 (by decide) ?_
  refine z_putT (pc := 11) (fs' := [.int (0), .int (0)]) (T' := (q, .inr (14, [.int (0), .int (0)])) :: T) o 0 fw_X10_15 dX10_init_11 rfl (Nat.le_of_ble_eq_true rfl) (vp_nar_int _) rfl rfl rfl ?_
  exact y_vret (pc := 14) o dX10_init_14 rfl (by decide) (by decide) (fun h hp => ⟨rfl, hp⟩)

theorem kX3_init {κ : gq_K} {ad : gKey → Nat} {S : gG × gG} {T : List (Nat × va_E)} (q : Nat)  (a0 : Int32) (hc0 : gch a0) (a1 : Int32) (a2 : Int32) (a3 : Int32) : gq_C κ mX3_init [.ref (q), .int (a0), .int (a1), .int (a2), .int (a3)] (gR κ ad S ((q, .inr (7, [.int (0), .int (0), .int (0), .int (0)])) :: T)) (fun v9 g => v9 = none ∧ gR κ ad S ((q, .inr (7, [.int (a0), .int (a1), .int (a2), .int (a3)])) :: T) g) (gq_no) := by
  refine gq_enter (by decide +kernel) rfl (Nat.le_of_ble_eq_true rfl) rfl (fun f o => ?_)
  refine y_aload_n (pc := 0) o dX3_init_0 rfl ?_
  refine y_objInit (pc := 1) o qw_449 dX3_init_1 ⟨by decide, Nat.le_of_ble_eq_true rfl⟩ qw_73 qw_74 ?_
  refine y_aload_n (pc := 4) o dX3_init_4 rfl ?_
  refine y_iload_n (pc := 5) o dX3_init_5 rfl ?_
  refine z_putTF (pc := 6) (fs' := [.int (a0), .int (0), .int (0), .int (0)]) (T' := (q, .inr (7, [.int (a0), .int (0), .int (0), .int (0)])) :: T) o 0 ff_X3_7 rfl dX3_init_6 rfl (Nat.le_of_ble_eq_true rfl) (gch_n hc0) (gch_f hc0) rfl rfl ?_
  refine y_aload_n (pc := 9) o dX3_init_9 rfl ?_
  refine y_iload_n (pc := 10) o dX3_init_10 rfl ?_
  refine z_putTF (pc := 11) (fs' := [.int (a0), .int (a1), .int (0), .int (0)]) (T' := (q, .inr (7, [.int (a0), .int (a1), .int (0), .int (0)])) :: T) o 0 ff_X3_13 rfl dX3_init_11 rfl (Nat.le_of_ble_eq_true rfl) (vp_nar_int _) rfl rfl rfl ?_
  refine y_aload_n (pc := 14) o dX3_init_14 rfl ?_
  refine y_iload_n (pc := 15) o dX3_init_15 rfl ?_
  refine z_putTF (pc := 16) (fs' := [.int (a0), .int (a1), .int (a2), .int (0)]) (T' := (q, .inr (7, [.int (a0), .int (a1), .int (a2), .int (0)])) :: T) o 0 ff_X3_17 rfl dX3_init_16 rfl (Nat.le_of_ble_eq_true rfl) (vp_nar_int _) rfl rfl rfl ?_
  refine y_aload_n (pc := 19) o dX3_init_19 rfl ?_
  refine y_iload (pc := 20) o dX3_init_20 rfl ?_
  refine z_putT (pc := 22) (fs' := [.int (a0), .int (a1), .int (a2), .int (a3)]) (T' := (q, .inr (7, [.int (a0), .int (a1), .int (a2), .int (a3)])) :: T) o 0 fw_X3_20 dX3_init_22 rfl (Nat.le_of_ble_eq_true rfl) (vp_nar_int _) rfl rfl rfl ?_
  exact y_vret (pc := 25) o dX3_init_25 rfl (by decide) (by decide) (fun h hp => ⟨rfl, hp⟩)

theorem kX5_init {κ : gq_K} {ad : gKey → Nat} {S : gG × gG} {T : List (Nat × va_E)} (q : Nat)  (a0 : Int32) (a1 : Int32) (a2 : Int32) (a3 : Int32) (a4 : Int32) : gq_C κ mX5_init [.ref (q), .int (a0), .int (a1), .int (a2), .int (a3), .int (a4)] (gR κ ad S ((q, .inr (9, [.int (0), .int (0), .int (0), .int (0), .int (0)])) :: T)) (fun v9 g => v9 = none ∧ gR κ ad S ((q, .inr (9, [.int (a0), .int (a1), .int (a2), .int (a3), .int (a4)])) :: T) g) (gq_no) := by
  refine gq_enter (by decide +kernel) rfl (Nat.le_of_ble_eq_true rfl) rfl (fun f o => ?_)
  refine y_aload_n (pc := 0) o dX5_init_0 rfl ?_
  refine y_objInit (pc := 1) o qw_609 dX5_init_1 ⟨by decide, Nat.le_of_ble_eq_true rfl⟩ qw_73 qw_74 ?_
  refine y_aload_n (pc := 4) o dX5_init_4 rfl ?_
  refine y_iload_n (pc := 5) o dX5_init_5 rfl ?_
  refine z_putTF (pc := 6) (fs' := [.int (a0), .int (0), .int (0), .int (0), .int (0)]) (T' := (q, .inr (9, [.int (a0), .int (0), .int (0), .int (0), .int (0)])) :: T) o 0 ff_X5_7 rfl dX5_init_6 rfl (Nat.le_of_ble_eq_true rfl) (vp_nar_int _) rfl rfl rfl ?_
  refine y_aload_n (pc := 9) o dX5_init_9 rfl ?_
  refine y_iload_n (pc := 10) o dX5_init_10 rfl ?_
  refine z_putTF (pc := 11) (fs' := [.int (a0), .int (a1), .int (0), .int (0), .int (0)]) (T' := (q, .inr (9, [.int (a0), .int (a1), .int (0), .int (0), .int (0)])) :: T) o 0 ff_X5_13 rfl dX5_init_11 rfl (Nat.le_of_ble_eq_true rfl) (vp_nar_int _) rfl rfl rfl ?_
  refine y_aload_n (pc := 14) o dX5_init_14 rfl ?_
  refine y_iload_n (pc := 15) o dX5_init_15 rfl ?_
  refine z_putTF (pc := 16) (fs' := [.int (a0), .int (a1), .int (a2), .int (0), .int (0)]) (T' := (q, .inr (9, [.int (a0), .int (a1), .int (a2), .int (0), .int (0)])) :: T) o 0 ff_X5_16 rfl dX5_init_16 rfl (Nat.le_of_ble_eq_true rfl) (vp_nar_int _) rfl rfl rfl ?_
  refine y_aload_n (pc := 19) o dX5_init_19 rfl ?_
  refine y_iload (pc := 20) o dX5_init_20 rfl ?_
  refine z_putTF (pc := 22) (fs' := [.int (a0), .int (a1), .int (a2), .int (a3), .int (0)]) (T' := (q, .inr (9, [.int (a0), .int (a1), .int (a2), .int (a3), .int (0)])) :: T) o 0 ff_X5_19 rfl dX5_init_22 rfl (Nat.le_of_ble_eq_true rfl) (vp_nar_int _) rfl rfl rfl ?_
  refine y_aload_n (pc := 25) o dX5_init_25 rfl ?_
  refine y_iload (pc := 26) o dX5_init_26 rfl ?_
  refine z_putT (pc := 28) (fs' := [.int (a0), .int (a1), .int (a2), .int (a3), .int (a4)]) (T' := (q, .inr (9, [.int (a0), .int (a1), .int (a2), .int (a3), .int (a4)])) :: T) o 0 fw_X5_22 dX5_init_28 rfl (Nat.le_of_ble_eq_true rfl) (vp_nar_int _) rfl rfl rfl ?_
  exact y_vret (pc := 31) o dX5_init_31 rfl (by decide) (by decide) (fun h hp => ⟨rfl, hp⟩)

theorem kX0_init {κ : gq_K} {ad : gKey → Nat} {S : gG × gG} {T : List (Nat × va_E)} (q : Nat)  (a0 : Int32) (a1 : Nat) (a2 : Int32) (a3 : Int32) : gq_C κ mX0_init [.ref (q), .int (a0), .ref (a1), .int (a2), .int (a3)] (gR κ ad S ((q, .inr (4, [.int (0), .null, .int (0), .int (0), .int (0), .int (0), .int (0), .int (0), .int (0), .int (0), .int (0), .int (0)])) :: T)) (fun v9 g => v9 = none ∧ gR κ ad S ((q, .inr (4, [.int (a0), .ref (a1), .int (a3), .int (a2), .int (0), .int (0), .int (0), .int (0), .int (-1), .int (-1), .int (0), .int (0)])) :: T) g) (gq_no) := by
  refine gq_enter (by decide +kernel) rfl (Nat.le_of_ble_eq_true rfl) rfl (fun f o => ?_)
  refine y_aload_n (pc := 0) o dX0_init_0 rfl ?_
  refine y_objInit (pc := 1) o qw_660 dX0_init_1 ⟨by decide, Nat.le_of_ble_eq_true rfl⟩ qw_73 qw_74 ?_
  refine y_aload_n (pc := 4) o dX0_init_4 rfl ?_
  refine y_iconst (pc := 5) (x := 0) o dX0_init_5 (by decide) ?_
  refine z_putT (pc := 6) (fs' := [.int (0), .null, .int (0), .int (0), .int (0), .int (0), .int (0), .int (0), .int (0), .int (0), .int (0), .int (0)]) (T' := (q, .inr (4, [.int (0), .null, .int (0), .int (0), .int (0), .int (0), .int (0), .int (0), .int (0), .int (0), .int (0), .int (0)])) :: T) o 0 fw_X0_7 dX0_init_6 rfl (Nat.le_of_ble_eq_true rfl) (vp_nar_int _) rfl rfl rfl ?_
  refine y_aload_n (pc := 9) o dX0_init_9 rfl ?_
  refine y_iconst (pc := 10) (x := 0) o dX0_init_10 (by decide) ?_
  refine z_putT (pc := 11) (fs' := [.int (0), .null, .int (0), .int (0), .int (0), .int (0), .int (0), .int (0), .int (0), .int (0), .int (0), .int (0)]) (T' := (q, .inr (4, [.int (0), .null, .int (0), .int (0), .int (0), .int (0), .int (0), .int (0), .int (0), .int (0), .int (0), .int (0)])) :: T) o 0 fw_X0_13 dX0_init_11 rfl (Nat.le_of_ble_eq_true rfl) (vp_nar_int _) rfl rfl rfl ?_
  refine y_aload_n (pc := 14) o dX0_init_14 rfl ?_
  refine y_iconst (pc := 15) (x := 0) o dX0_init_15 (by decide) ?_
  refine z_putT (pc := 16) (fs' := [.int (0), .null, .int (0), .int (0), .int (0), .int (0), .int (0), .int (0), .int (0), .int (0), .int (0), .int (0)]) (T' := (q, .inr (4, [.int (0), .null, .int (0), .int (0), .int (0), .int (0), .int (0), .int (0), .int (0), .int (0), .int (0), .int (0)])) :: T) o 0 fw_X0_16 dX0_init_16 rfl (Nat.le_of_ble_eq_true rfl) (vp_nar_int _) rfl rfl rfl ?_
  refine y_aload_n (pc := 19) o dX0_init_19 rfl ?_
  refine y_iconst (pc := 20) (x := 0) o dX0_init_20 (by decide) ?_
  refine z_putT (pc := 21) (fs' := [.int (0), .null, .int (0), .int (0), .int (0), .int (0), .int (0), .int (0), .int (0), .int (0), .int (0), .int (0)]) (T' := (q, .inr (4, [.int (0), .null, .int (0), .int (0), .int (0), .int (0), .int (0), .int (0), .int (0), .int (0), .int (0), .int (0)])) :: T) o 0 fw_X0_19 dX0_init_21 rfl (Nat.le_of_ble_eq_true rfl) (vp_nar_int _) rfl rfl rfl ?_
  refine y_aload_n (pc := 24) o dX0_init_24 rfl ?_
  refine y_iconst (pc := 25) (x := -1) o dX0_init_25 (by decide) ?_
  refine z_putT (pc := 26) (fs' := [.int (0), .null, .int (0), .int (0), .int (0), .int (0), .int (0), .int (0), .int (-1), .int (0), .int (0), .int (0)]) (T' := (q, .inr (4, [.int (0), .null, .int (0), .int (0), .int (0), .int (0), .int (0), .int (0), .int (-1), .int (0), .int (0), .int (0)])) :: T) o 0 fw_X0_22 dX0_init_26 rfl (Nat.le_of_ble_eq_true rfl) (vp_nar_int _) rfl rfl rfl ?_
  refine y_aload_n (pc := 29) o dX0_init_29 rfl ?_
  refine y_iconst (pc := 30) (x := -1) o dX0_init_30 (by decide) ?_
  refine z_putT (pc := 31) (fs' := [.int (0), .null, .int (0), .int (0), .int (0), .int (0), .int (0), .int (0), .int (-1), .int (-1), .int (0), .int (0)]) (T' := (q, .inr (4, [.int (0), .null, .int (0), .int (0), .int (0), .int (0), .int (0), .int (0), .int (-1), .int (-1), .int (0), .int (0)])) :: T) o 0 fw_X0_25 dX0_init_31 rfl (Nat.le_of_ble_eq_true rfl) (vp_nar_int _) rfl rfl rfl ?_
  refine y_aload_n (pc := 34) o dX0_init_34 rfl ?_
  refine y_iconst (pc := 35) (x := 0) o dX0_init_35 (by decide) ?_
  refine z_putT (pc := 36) (fs' := [.int (0), .null, .int (0), .int (0), .int (0), .int (0), .int (0), .int (0), .int (-1), .int (-1), .int (0), .int (0)]) (T' := (q, .inr (4, [.int (0), .null, .int (0), .int (0), .int (0), .int (0), .int (0), .int (0), .int (-1), .int (-1), .int (0), .int (0)])) :: T) o 0 fw_X0_28 dX0_init_36 rfl (Nat.le_of_ble_eq_true rfl) rfl rfl rfl rfl ?_
  refine y_aload_n (pc := 39) o dX0_init_39 rfl ?_
  refine y_iconst (pc := 40) (x := 0) o dX0_init_40 (by decide) ?_
  refine z_putT (pc := 41) (fs' := [.int (0), .null, .int (0), .int (0), .int (0), .int (0), .int (0), .int (0), .int (-1), .int (-1), .int (0), .int (0)]) (T' := (q, .inr (4, [.int (0), .null, .int (0), .int (0), .int (0), .int (0), .int (0), .int (0), .int (-1), .int (-1), .int (0), .int (0)])) :: T) o 0 fw_X0_32 dX0_init_41 rfl (Nat.le_of_ble_eq_true rfl) rfl rfl rfl rfl ?_
  refine y_aload_n (pc := 44) o dX0_init_44 rfl ?_
  refine y_iload_n (pc := 45) o dX0_init_45 rfl ?_
  refine z_putTF (pc := 46) (fs' := [.int (a0), .null, .int (0), .int (0), .int (0), .int (0), .int (0), .int (0), .int (-1), .int (-1), .int (0), .int (0)]) (T' := (q, .inr (4, [.int (a0), .null, .int (0), .int (0), .int (0), .int (0), .int (0), .int (0), .int (-1), .int (-1), .int (0), .int (0)])) :: T) o 0 ff_X0_35 rfl dX0_init_46 rfl (Nat.le_of_ble_eq_true rfl) (vp_nar_int _) rfl rfl rfl ?_
  refine y_aload_n (pc := 49) o dX0_init_49 rfl ?_
  refine y_aload_n (pc := 50) o dX0_init_50 rfl ?_
  refine z_putTF (pc := 51) (fs' := [.int (a0), .ref (a1), .int (0), .int (0), .int (0), .int (0), .int (0), .int (0), .int (-1), .int (-1), .int (0), .int (0)]) (T' := (q, .inr (4, [.int (a0), .ref (a1), .int (0), .int (0), .int (0), .int (0), .int (0), .int (0), .int (-1), .int (-1), .int (0), .int (0)])) :: T) o 0 ff_X0_38 rfl dX0_init_51 rfl (Nat.le_of_ble_eq_true rfl) rfl rfl rfl rfl ?_
  refine y_aload_n (pc := 54) o dX0_init_54 rfl ?_
  refine y_iload_n (pc := 55) o dX0_init_55 rfl ?_
  refine z_putT (pc := 56) (fs' := [.int (a0), .ref (a1), .int (0), .int (a2), .int (0), .int (0), .int (0), .int (0), .int (-1), .int (-1), .int (0), .int (0)]) (T' := (q, .inr (4, [.int (a0), .ref (a1), .int (0), .int (a2), .int (0), .int (0), .int (0), .int (0), .int (-1), .int (-1), .int (0), .int (0)])) :: T) o 0 fw_X0_42 dX0_init_56 rfl (Nat.le_of_ble_eq_true rfl) (vp_nar_int _) rfl rfl rfl ?_
  refine y_aload_n (pc := 59) o dX0_init_59 rfl ?_
  refine y_iload (pc := 60) o dX0_init_60 rfl ?_
  refine z_putTF (pc := 62) (fs' := [.int (a0), .ref (a1), .int (a3), .int (a2), .int (0), .int (0), .int (0), .int (0), .int (-1), .int (-1), .int (0), .int (0)]) (T' := (q, .inr (4, [.int (a0), .ref (a1), .int (a3), .int (a2), .int (0), .int (0), .int (0), .int (0), .int (-1), .int (-1), .int (0), .int (0)])) :: T) o 0 ff_X0_45 rfl dX0_init_62 rfl (Nat.le_of_ble_eq_true rfl) (vp_nar_int _) rfl rfl rfl ?_
  exact y_vret (pc := 65) o dX0_init_65 rfl (by decide) (by decide) (fun h hp => ⟨rfl, hp⟩)

theorem kX9_init {κ : gq_K} {ad : gKey → Nat} {S : gG × gG} {T : List (Nat × va_E)} (q : Nat)  (a0 : Int32) (a1 : Int32) (hc1 : gch a1) (a2 : Int32) (a3 : Int32) (a4 : Int32) : gq_C κ mX9_init [.ref (q), .int (a0), .int (a1), .int (a2), .int (a3), .int (a4)] (gR κ ad S ((q, .inr (13, [.int (0), .int (0), .int (0), .int (0), .int (0), .int (0), .int (0)])) :: T)) (fun v9 g => v9 = none ∧ gR κ ad S ((q, .inr (13, [.int (a0), .int (a1), .int (a2), .int (a3), .int (a4), .int (0), .int (0)])) :: T) g) (gq_no) := by
  refine gq_enter (by decide +kernel) rfl (Nat.le_of_ble_eq_true rfl) rfl (fun f o => ?_)
  refine y_aload_n (pc := 0) o dX9_init_0 rfl ?_
  refine y_objInit (pc := 1) o qw_798 dX9_init_1 ⟨by decide, Nat.le_of_ble_eq_true rfl⟩ qw_73 qw_74 ?_
  refine y_aload_n (pc := 4) o dX9_init_4 rfl ?_
  refine y_iconst (pc := 5) (x := 0) o dX9_init_5 (by decide) ?_
  refine z_putT (pc := 6) (fs' := [.int (0), .int (0), .int (0), .int (0), .int (0), .int (0), .int (0)]) (T' := (q, .inr (13, [.int (0), .int (0), .int (0), .int (0), .int (0), .int (0), .int (0)])) :: T) o 0 fw_X9_7 dX9_init_6 rfl (Nat.le_of_ble_eq_true rfl) (vp_nar_int _) rfl rfl rfl ?_
  refine y_aload_n (pc := 9) o dX9_init_9 rfl ?_
  refine y_iconst (pc := 10) (x := 0) o dX9_init_10 (by decide) ?_
  refine z_putT (pc := 11) (fs' := [.int (0), .int (0), .int (0), .int (0), .int (0), .int (0), .int (0)]) (T' := (q, .inr (13, [.int (0), .int (0), .int (0), .int (0), .int (0), .int (0), .int (0)])) :: T) o 0 fw_X9_13 dX9_init_11 rfl (Nat.le_of_ble_eq_true rfl) (vp_nar_int _) rfl rfl rfl ?_
  refine y_aload_n (pc := 14) o dX9_init_14 rfl ?_
  refine y_iload_n (pc := 15) o dX9_init_15 rfl ?_
  refine z_putTF (pc := 16) (fs' := [.int (a0), .int (0), .int (0), .int (0), .int (0), .int (0), .int (0)]) (T' := (q, .inr (13, [.int (a0), .int (0), .int (0), .int (0), .int (0), .int (0), .int (0)])) :: T) o 0 ff_X9_16 rfl dX9_init_16 rfl (Nat.le_of_ble_eq_true rfl) (vp_nar_int _) rfl rfl rfl ?_
  refine y_aload_n (pc := 19) o dX9_init_19 rfl ?_
  refine y_iload_n (pc := 20) o dX9_init_20 rfl ?_
  refine z_putTF (pc := 21) (fs' := [.int (a0), .int (a1), .int (0), .int (0), .int (0), .int (0), .int (0)]) (T' := (q, .inr (13, [.int (a0), .int (a1), .int (0), .int (0), .int (0), .int (0), .int (0)])) :: T) o 0 ff_X9_19 rfl dX9_init_21 rfl (Nat.le_of_ble_eq_true rfl) (gch_n hc1) (gch_f hc1) rfl rfl ?_
  refine y_aload_n (pc := 24) o dX9_init_24 rfl ?_
  refine y_iload_n (pc := 25) o dX9_init_25 rfl ?_
  refine z_putTF (pc := 26) (fs' := [.int (a0), .int (a1), .int (a2), .int (0), .int (0), .int (0), .int (0)]) (T' := (q, .inr (13, [.int (a0), .int (a1), .int (a2), .int (0), .int (0), .int (0), .int (0)])) :: T) o 0 ff_X9_23 rfl dX9_init_26 rfl (Nat.le_of_ble_eq_true rfl) (vp_nar_int _) rfl rfl rfl ?_
  refine y_aload_n (pc := 29) o dX9_init_29 rfl ?_
  refine y_iload (pc := 30) o dX9_init_30 rfl ?_
  refine z_putT (pc := 32) (fs' := [.int (a0), .int (a1), .int (a2), .int (a3), .int (0), .int (0), .int (0)]) (T' := (q, .inr (13, [.int (a0), .int (a1), .int (a2), .int (a3), .int (0), .int (0), .int (0)])) :: T) o 0 fw_X9_26 dX9_init_32 rfl (Nat.le_of_ble_eq_true rfl) (vp_nar_int _) rfl rfl rfl ?_
  refine y_aload_n (pc := 35) o dX9_init_35 rfl ?_
  refine y_iload (pc := 36) o dX9_init_36 rfl ?_
  refine z_putT (pc := 38) (fs' := [.int (a0), .int (a1), .int (a2), .int (a3), .int (a4), .int (0), .int (0)]) (T' := (q, .inr (13, [.int (a0), .int (a1), .int (a2), .int (a3), .int (a4), .int (0), .int (0)])) :: T) o 0 fw_X9_29 dX9_init_38 rfl (Nat.le_of_ble_eq_true rfl) (vp_nar_int _) rfl rfl rfl ?_
  exact y_vret (pc := 41) o dX9_init_41 rfl (by decide) (by decide) (fun h hp => ⟨rfl, hp⟩)

theorem kX8_init {κ : gq_K} {ad : gKey → Nat} {S : gG × gG} {T : List (Nat × va_E)} (q : Nat)  (a0 : Int32) (a1 : Nat) (a2 : Nat) (a3 : Int32) (a4 : Int32) (a5 : Int32) (a6 : Int32) : gq_C κ mX8_init [.ref (q), .int (a0), .ref (a1), .ref (a2), .int (a3), .int (a4), .int (a5), .int (a6)] (gR κ ad S ((q, .inr (12, [.int (0), .null, .null, .int (0), .int (0), .int (0), .int (0), .int (0), .int (0), .int (0), .int (0), .int (0)])) :: T)) (fun v9 g => v9 = none ∧ gR κ ad S ((q, .inr (12, [.int (a0), .ref (a1), .ref (a2), .int (a3), .int (a5), .int (a4), .int (0), .int (0), .int (-1), .int (-1), .int (a6), .int (0)])) :: T) g) (gq_no) := by
  refine gq_enter (by decide +kernel) rfl (Nat.le_of_ble_eq_true rfl) rfl (fun f o => ?_)
  refine y_aload_n (pc := 0) o dX8_init_0 rfl ?_
  refine y_objInit (pc := 1) o qw_886 dX8_init_1 ⟨by decide, Nat.le_of_ble_eq_true rfl⟩ qw_73 qw_74 ?_
  refine y_aload_n (pc := 4) o dX8_init_4 rfl ?_
  refine y_iconst (pc := 5) (x := 0) o dX8_init_5 (by decide) ?_
  refine z_putT (pc := 6) (fs' := [.int (0), .null, .null, .int (0), .int (0), .int (0), .int (0), .int (0), .int (0), .int (0), .int (0), .int (0)]) (T' := (q, .inr (12, [.int (0), .null, .null, .int (0), .int (0), .int (0), .int (0), .int (0), .int (0), .int (0), .int (0), .int (0)])) :: T) o 0 fw_X8_7 dX8_init_6 rfl (Nat.le_of_ble_eq_true rfl) (vp_nar_int _) rfl rfl rfl ?_
  refine y_aload_n (pc := 9) o dX8_init_9 rfl ?_
  refine y_iconst (pc := 10) (x := 0) o dX8_init_10 (by decide) ?_
  refine z_putT (pc := 11) (fs' := [.int (0), .null, .null, .int (0), .int (0), .int (0), .int (0), .int (0), .int (0), .int (0), .int (0), .int (0)]) (T' := (q, .inr (12, [.int (0), .null, .null, .int (0), .int (0), .int (0), .int (0), .int (0), .int (0), .int (0), .int (0), .int (0)])) :: T) o 0 fw_X8_13 dX8_init_11 rfl (Nat.le_of_ble_eq_true rfl) (vp_nar_int _) rfl rfl rfl ?_
  refine y_aload_n (pc := 14) o dX8_init_14 rfl ?_
  refine y_iconst (pc := 15) (x := -1) o dX8_init_15 (by decide) ?_
  refine z_putT (pc := 16) (fs' := [.int (0), .null, .null, .int (0), .int (0), .int (0), .int (0), .int (0), .int (-1), .int (0), .int (0), .int (0)]) (T' := (q, .inr (12, [.int (0), .null, .null, .int (0), .int (0), .int (0), .int (0), .int (0), .int (-1), .int (0), .int (0), .int (0)])) :: T) o 0 fw_X8_16 dX8_init_16 rfl (Nat.le_of_ble_eq_true rfl) (vp_nar_int _) rfl rfl rfl ?_
  refine y_aload_n (pc := 19) o dX8_init_19 rfl ?_
  refine y_iconst (pc := 20) (x := -1) o dX8_init_20 (by decide) ?_
  refine z_putT (pc := 21) (fs' := [.int (0), .null, .null, .int (0), .int (0), .int (0), .int (0), .int (0), .int (-1), .int (-1), .int (0), .int (0)]) (T' := (q, .inr (12, [.int (0), .null, .null, .int (0), .int (0), .int (0), .int (0), .int (0), .int (-1), .int (-1), .int (0), .int (0)])) :: T) o 0 fw_X8_19 dX8_init_21 rfl (Nat.le_of_ble_eq_true rfl) (vp_nar_int _) rfl rfl rfl ?_
  refine y_aload_n (pc := 24) o dX8_init_24 rfl ?_
  refine y_iconst (pc := 25) (x := 0) o dX8_init_25 (by decide) ?_
  refine z_putT (pc := 26) (fs' := [.int (0), .null, .null, .int (0), .int (0), .int (0), .int (0), .int (0), .int (-1), .int (-1), .int (0), .int (0)]) (T' := (q, .inr (12, [.int (0), .null, .null, .int (0), .int (0), .int (0), .int (0), .int (0), .int (-1), .int (-1), .int (0), .int (0)])) :: T) o 0 fw_X8_22 dX8_init_26 rfl (Nat.le_of_ble_eq_true rfl) rfl rfl rfl rfl ?_
  refine y_aload_n (pc := 29) o dX8_init_29 rfl ?_
  refine y_iload_n (pc := 30) o dX8_init_30 rfl ?_
  refine z_putTF (pc := 31) (fs' := [.int (a0), .null, .null, .int (0), .int (0), .int (0), .int (0), .int (0), .int (-1), .int (-1), .int (0), .int (0)]) (T' := (q, .inr (12, [.int (a0), .null, .null, .int (0), .int (0), .int (0), .int (0), .int (0), .int (-1), .int (-1), .int (0), .int (0)])) :: T) o 0 ff_X8_26 rfl dX8_init_31 rfl (Nat.le_of_ble_eq_true rfl) (vp_nar_int _) rfl rfl rfl ?_
  refine y_aload_n (pc := 34) o dX8_init_34 rfl ?_
  refine y_aload_n (pc := 35) o dX8_init_35 rfl ?_
  refine z_putTF (pc := 36) (fs' := [.int (a0), .ref (a1), .null, .int (0), .int (0), .int (0), .int (0), .int (0), .int (-1), .int (-1), .int (0), .int (0)]) (T' := (q, .inr (12, [.int (a0), .ref (a1), .null, .int (0), .int (0), .int (0), .int (0), .int (0), .int (-1), .int (-1), .int (0), .int (0)])) :: T) o 0 ff_X8_29 rfl dX8_init_36 rfl (Nat.le_of_ble_eq_true rfl) rfl rfl rfl rfl ?_
  refine y_aload_n (pc := 39) o dX8_init_39 rfl ?_
  refine y_aload_n (pc := 40) o dX8_init_40 rfl ?_
  refine z_putTF (pc := 41) (fs' := [.int (a0), .ref (a1), .ref (a2), .int (0), .int (0), .int (0), .int (0), .int (0), .int (-1), .int (-1), .int (0), .int (0)]) (T' := (q, .inr (12, [.int (a0), .ref (a1), .ref (a2), .int (0), .int (0), .int (0), .int (0), .int (0), .int (-1), .int (-1), .int (0), .int (0)])) :: T) o 0 ff_X8_33 rfl dX8_init_41 rfl (Nat.le_of_ble_eq_true rfl) rfl rfl rfl rfl ?_
  refine y_aload_n (pc := 44) o dX8_init_44 rfl ?_
  refine y_iload (pc := 45) o dX8_init_45 rfl ?_
  refine z_putTF (pc := 47) (fs' := [.int (a0), .ref (a1), .ref (a2), .int (a3), .int (0), .int (0), .int (0), .int (0), .int (-1), .int (-1), .int (0), .int (0)]) (T' := (q, .inr (12, [.int (a0), .ref (a1), .ref (a2), .int (a3), .int (0), .int (0), .int (0), .int (0), .int (-1), .int (-1), .int (0), .int (0)])) :: T) o 0 ff_X8_37 rfl dX8_init_47 rfl (Nat.le_of_ble_eq_true rfl) (vp_nar_int _) rfl rfl rfl ?_
  refine y_aload_n (pc := 50) o dX8_init_50 rfl ?_
  refine y_iload (pc := 51) o dX8_init_51 rfl ?_
  refine z_putT (pc := 53) (fs' := [.int (a0), .ref (a1), .ref (a2), .int (a3), .int (0), .int (a4), .int (0), .int (0), .int (-1), .int (-1), .int (0), .int (0)]) (T' := (q, .inr (12, [.int (a0), .ref (a1), .ref (a2), .int (a3), .int (0), .int (a4), .int (0), .int (0), .int (-1), .int (-1), .int (0), .int (0)])) :: T) o 0 fw_X8_40 dX8_init_53 rfl (Nat.le_of_ble_eq_true rfl) (vp_nar_int _) rfl rfl rfl ?_
  refine y_aload_n (pc := 56) o dX8_init_56 rfl ?_
  refine y_iload (pc := 57) o dX8_init_57 rfl ?_
  refine z_putTF (pc := 59) (fs' := [.int (a0), .ref (a1), .ref (a2), .int (a3), .int (a5), .int (a4), .int (0), .int (0), .int (-1), .int (-1), .int (0), .int (0)]) (T' := (q, .inr (12, [.int (a0), .ref (a1), .ref (a2), .int (a3), .int (a5), .int (a4), .int (0), .int (0), .int (-1), .int (-1), .int (0), .int (0)])) :: T) o 0 ff_X8_43 rfl dX8_init_59 rfl (Nat.le_of_ble_eq_true rfl) (vp_nar_int _) rfl rfl rfl ?_
  refine y_aload_n (pc := 62) o dX8_init_62 rfl ?_
  refine y_iload (pc := 63) o dX8_init_63 rfl ?_
  refine z_putT (pc := 65) (fs' := [.int (a0), .ref (a1), .ref (a2), .int (a3), .int (a5), .int (a4), .int (0), .int (0), .int (-1), .int (-1), .int (a6), .int (0)]) (T' := (q, .inr (12, [.int (a0), .ref (a1), .ref (a2), .int (a3), .int (a5), .int (a4), .int (0), .int (0), .int (-1), .int (-1), .int (a6), .int (0)])) :: T) o 0 fw_X8_46 dX8_init_65 rfl (Nat.le_of_ble_eq_true rfl) (vp_nar_int _) rfl rfl rfl ?_
  exact y_vret (pc := 68) o dX8_init_68 rfl (by decide) (by decide) (fun h hp => ⟨rfl, hp⟩)

theorem kX7_init {κ : gq_K} {ad : gKey → Nat} {S : gG × gG} {T : List (Nat × va_E)} (q : Nat)  (a0 : Nat) (a1 : Int32) (a2 : Int32) : gq_C κ mX7_init [.ref (q), .ref (a0), .int (a1), .int (a2)] (gR κ ad S ((q, .inr (11, [.null, .int (0), .int (0)])) :: T)) (fun v9 g => v9 = none ∧ gR κ ad S ((q, .inr (11, [.ref (a0), .int (a1), .int (a2)])) :: T) g) (gq_no) := by
  refine gq_enter (by decide +kernel) rfl (Nat.le_of_ble_eq_true rfl) rfl (fun f o => ?_)
  refine y_aload_n (pc := 0) o dX7_init_0 rfl ?_
  refine y_objInit (pc := 1) o qw_1064 dX7_init_1 ⟨by decide, Nat.le_of_ble_eq_true rfl⟩ qw_73 qw_74 ?_
  refine y_aload_n (pc := 4) o dX7_init_4 rfl ?_
  refine y_aload_n (pc := 5) o dX7_init_5 rfl ?_
  refine z_putTF (pc := 6) (fs' := [.ref (a0), .int (0), .int (0)]) (T' := (q, .inr (11, [.ref (a0), .int (0), .int (0)])) :: T) o 0 ff_X7_7 rfl dX7_init_6 rfl (Nat.le_of_ble_eq_true rfl) rfl rfl rfl rfl ?_
  refine y_aload_n (pc := 9) o dX7_init_9 rfl ?_
  refine y_iload_n (pc := 10) o dX7_init_10 rfl ?_
  refine z_putTF (pc := 11) (fs' := [.ref (a0), .int (a1), .int (0)]) (T' := (q, .inr (11, [.ref (a0), .int (a1), .int (0)])) :: T) o 0 ff_X7_13 rfl dX7_init_11 rfl (Nat.le_of_ble_eq_true rfl) (vp_nar_int _) rfl rfl rfl ?_
  refine y_aload_n (pc := 14) o dX7_init_14 rfl ?_
  refine y_iload_n (pc := 15) o dX7_init_15 rfl ?_
  refine z_putTF (pc := 16) (fs' := [.ref (a0), .int (a1), .int (a2)]) (T' := (q, .inr (11, [.ref (a0), .int (a1), .int (a2)])) :: T) o 0 ff_X7_17 rfl dX7_init_16 rfl (Nat.le_of_ble_eq_true rfl) (vp_nar_int _) rfl rfl rfl ?_
  exact y_vret (pc := 19) o dX7_init_19 rfl (by decide) (by decide) (fun h hp => ⟨rfl, hp⟩)

theorem kX6_init {κ : gq_K} {ad : gKey → Nat} {S : gG × gG} {T : List (Nat × va_E)} (q : Nat)  (a0 : Int32) (a1 : Int32) (a2 : Int32) : gq_C κ mX6_init [.ref (q), .int (a0), .int (a1), .int (a2)] (gR κ ad S ((q, .inr (10, [.int (0), .int (0), .int (0), .int (0)])) :: T)) (fun v9 g => v9 = none ∧ gR κ ad S ((q, .inr (10, [.int (a0), .int (a2), .int (a1), .int (0)])) :: T) g) (gq_no) := by
  refine gq_enter (by decide +kernel) rfl (Nat.le_of_ble_eq_true rfl) rfl (fun f o => ?_)
  refine y_aload_n (pc := 0) o dX6_init_0 rfl ?_
  refine y_objInit (pc := 1) o qw_1093 dX6_init_1 ⟨by decide, Nat.le_of_ble_eq_true rfl⟩ qw_73 qw_74 ?_
  refine y_aload_n (pc := 4) o dX6_init_4 rfl ?_
  refine y_iconst (pc := 5) (x := 0) o dX6_init_5 (by decide) ?_
  refine z_putT (pc := 6) (fs' := [.int (0), .int (0), .int (0), .int (0)]) (T' := (q, .inr (10, [.int (0), .int (0), .int (0), .int (0)])) :: T) o 0 fw_X6_7 dX6_init_6 rfl (Nat.le_of_ble_eq_true rfl) rfl rfl rfl rfl ?_
  refine y_aload_n (pc := 9) o dX6_init_9 rfl ?_
  refine y_iload_n (pc := 10) o dX6_init_10 rfl ?_
  refine z_putTF (pc := 11) (fs' := [.int (a0), .int (0), .int (0), .int (0)]) (T' := (q, .inr (10, [.int (a0), .int (0), .int (0), .int (0)])) :: T) o 0 ff_X6_13 rfl dX6_init_11 rfl (Nat.le_of_ble_eq_true rfl) (vp_nar_int _) rfl rfl rfl ?_
  refine y_aload_n (pc := 14) o dX6_init_14 rfl ?_
  refine y_iload_n (pc := 15) o dX6_init_15 rfl ?_
  refine z_putT (pc := 16) (fs' := [.int (a0), .int (0), .int (a1), .int (0)]) (T' := (q, .inr (10, [.int (a0), .int (0), .int (a1), .int (0)])) :: T) o 0 fw_X6_17 dX6_init_16 rfl (Nat.le_of_ble_eq_true rfl) (vp_nar_int _) rfl rfl rfl ?_
  refine y_aload_n (pc := 19) o dX6_init_19 rfl ?_
  refine y_iload_n (pc := 20) o dX6_init_20 rfl ?_
  refine z_putTF (pc := 21) (fs' := [.int (a0), .int (a2), .int (a1), .int (0)]) (T' := (q, .inr (10, [.int (a0), .int (a2), .int (a1), .int (0)])) :: T) o 0 ff_X6_20 rfl dX6_init_21 rfl (Nat.le_of_ble_eq_true rfl) (vp_nar_int _) rfl rfl rfl ?_
  exact y_vret (pc := 24) o dX6_init_24 rfl (by decide) (by decide) (fun h hp => ⟨rfl, hp⟩)

theorem kX12_init {κ : gq_K} {ad : gKey → Nat} {S : gG × gG} {T : List (Nat × va_E)} (q : Nat)  : gq_C κ mX12_init [.ref (q)] (gR κ ad S ((q, .inr (16, [.int (0), .int (0), .int (0), .int (0), .int (0), .int (0), .int (0), .int (0), .int (0), .int (0), .int (0)])) :: T)) (fun v9 g => v9 = none ∧ gR κ ad S ((q, .inr (16, [.int (0), .int (0), .int (0), .int (0), .int (0), .int (0), .int (-1), .int (0), .int (0), .int (0), .int (0)])) :: T) g) (gq_no) := by
  refine gq_enter (by decide +kernel) rfl (Nat.le_of_ble_eq_true rfl) rfl (fun f o => ?_)
  refine y_aload_n (pc := 0) o dX12_init_0 rfl ?_
  refine y_objInit (pc := 1) o qw_1457 dX12_init_1 ⟨by decide, Nat.le_of_ble_eq_true rfl⟩ qw_73 qw_74 ?_
  refine y_aload_n (pc := 4) o dX12_init_4 rfl ?_
  refine y_iconst (pc := 5) (x := -1) o dX12_init_5 (by decide) ?_
  refine z_putT (pc := 6) (fs' := [.int (0), .int (0), .int (0), .int (0), .int (0), .int (0), .int (-1), .int (0), .int (0), .int (0), .int (0)]) (T' := (q, .inr (16, [.int (0), .int (0), .int (0), .int (0), .int (0), .int (0), .int (-1), .int (0), .int (0), .int (0), .int (0)])) :: T) o 0 fw_X12_9 dX12_init_6 rfl (Nat.le_of_ble_eq_true rfl) (vp_nar_int _) rfl rfl rfl ?_
  exact y_vret (pc := 9) o dX12_init_9 rfl (by decide) (by decide) (fun h hp => ⟨rfl, hp⟩)

theorem kX14_init {κ : gq_K} {ad : gKey → Nat} {S : gG × gG} {T : List (Nat × va_E)} (q : Nat)  : gq_C κ mX14_init [.ref (q)] (gR κ ad S ((q, .inr (18, [.int (0), .int (0), .int (0), .int (0), .int (0), .int (0), .int (0), .int (0), .int (0), .int (0), .int (0)])) :: T)) (fun v9 g => v9 = none ∧ gR κ ad S ((q, .inr (18, [.int (0), .int (0), .int (0), .int (0), .int (0), .int (0), .int (0), .int (0), .int (-1), .int (-1), .int (0)])) :: T) g) (gq_no) := by
  refine gq_enter (by decide +kernel) rfl (Nat.le_of_ble_eq_true rfl) rfl (fun f o => ?_)
  refine y_aload_n (pc := 0) o dX14_init_0 rfl ?_
  refine y_objInit (pc := 1) o qw_1606 dX14_init_1 ⟨by decide, Nat.le_of_ble_eq_true rfl⟩ qw_73 qw_74 ?_
  refine y_aload_n (pc := 4) o dX14_init_4 rfl ?_
  refine y_iconst (pc := 5) (x := -1) o dX14_init_5 (by decide) ?_
  refine z_putT (pc := 6) (fs' := [.int (0), .int (0), .int (0), .int (0), .int (0), .int (0), .int (0), .int (0), .int (-1), .int (0), .int (0)]) (T' := (q, .inr (18, [.int (0), .int (0), .int (0), .int (0), .int (0), .int (0), .int (0), .int (0), .int (-1), .int (0), .int (0)])) :: T) o 0 fw_X14_9 dX14_init_6 rfl (Nat.le_of_ble_eq_true rfl) (vp_nar_int _) rfl rfl rfl ?_
  refine y_aload_n (pc := 9) o dX14_init_9 rfl ?_
  refine y_iconst (pc := 10) (x := -1) o dX14_init_10 (by decide) ?_
  refine z_putT (pc := 11) (fs' := [.int (0), .int (0), .int (0), .int (0), .int (0), .int (0), .int (0), .int (0), .int (-1), .int (-1), .int (0)]) (T' := (q, .inr (18, [.int (0), .int (0), .int (0), .int (0), .int (0), .int (0), .int (0), .int (0), .int (-1), .int (-1), .int (0)])) :: T) o 0 fw_X14_15 dX14_init_11 rfl (Nat.le_of_ble_eq_true rfl) (vp_nar_int _) rfl rfl rfl ?_
  exact y_vret (pc := 14) o dX14_init_14 rfl (by decide) (by decide) (fun h hp => ⟨rfl, hp⟩)

theorem kX15_init {κ : gq_K} {ad : gKey → Nat} {S : gG × gG} {T : List (Nat × va_E)} (q : Nat)  : gq_C κ mX15_init [.ref (q)] (gR κ ad S ((q, .inr (19, [.int (0), .int (0), .int (0), .int (0), .int (0), .int (0)])) :: T)) (fun v9 g => v9 = none ∧ gR κ ad S ((q, .inr (19, [.int (0), .int (0), .int (0), .int (0), .int (0), .int (0)])) :: T) g) (gq_no) := by
  refine gq_enter (by decide +kernel) rfl (Nat.le_of_ble_eq_true rfl) rfl (fun f o => ?_)
  refine y_aload_n (pc := 0) o dX15_init_0 rfl ?_
  refine y_objInit (pc := 1) o qw_1556 dX15_init_1 ⟨by decide, Nat.le_of_ble_eq_true rfl⟩ qw_73 qw_74 ?_
  exact y_vret (pc := 4) o dX15_init_4 rfl (by decide) (by decide) (fun h hp => ⟨rfl, hp⟩)

theorem kX2_init {κ : gq_K} {ad : gKey → Nat} {S : gG × gG} {T : List (Nat × va_E)} (q : Nat) (a0 : Int32) : gq_C κ mX2_init [.ref (q), .int (a0)] (gR κ ad S ((q, .inr (6, [.int (0), .null, .int (0), .int (0)])) :: T)) (fun v9 g => v9 = none ∧ ∃ q1, gR κ ad S ((q1, .inr (3, [.int (0), .ref (κ.2.2 100), .int (0)])) :: (q, .inr (6, [.int (a0), .ref (q1), .int (0), .int (0)])) :: T) g) (gq_no) := by
  refine gq_enter (by decide +kernel) rfl (Nat.le_of_ble_eq_true rfl) rfl (fun f o => ?_)
  refine y_aload_n (pc := 0) o dX2_init_0 rfl ?_
  refine y_objInit (pc := 1) o qw_1025 dX2_init_1 ⟨by decide, Nat.le_of_ble_eq_true rfl⟩ qw_73 qw_74 ?_
  refine y_aload_n (pc := 4) o dX2_init_4 rfl ?_
  refine z_new (pc := 5) (k := 0) (n := 0) o nw_X2_7 dX2_init_5 (by decide) (by decide) (fun q1 => ?_)
  refine y_dup (pc := 8) o dX2_init_8 rfl ?_
  refine z_callI (pc := 9) (k := 1) (n := 3) (k' := 1) (n' := 3) o (b := q1) (As := []) (rest := [.ref (q1), .ref (q)]) (c_alI _) ln_X2_9 dX2_init_9 rfl rfl (Nat.le_of_ble_eq_true rfl) ⟨by decide, by decide⟩ ⟨rfl, rfl⟩ ⟨by decide, by decide⟩ ?_
  refine z_putTF (pc := 12) (fs' := [.int (0), .ref (q1), .int (0), .int (0)]) (T' := (q1, .inr (3, [.int (0), .ref (κ.2.2 100), .int (0)])) :: (q, .inr (6, [.int (0), .ref (q1), .int (0), .int (0)])) :: T) o 1 ff_X2_10 rfl dX2_init_12 rfl (Nat.le_of_ble_eq_true rfl) rfl rfl rfl rfl ?_
  refine y_aload_n (pc := 15) o dX2_init_15 rfl ?_
  refine y_iconst (pc := 16) (x := 0) o dX2_init_16 (by decide) ?_
  refine z_putT (pc := 17) (fs' := [.int (0), .ref (q1), .int (0), .int (0)]) (T' := (q1, .inr (3, [.int (0), .ref (κ.2.2 100), .int (0)])) :: (q, .inr (6, [.int (0), .ref (q1), .int (0), .int (0)])) :: T) o 1 fw_X2_16 dX2_init_17 rfl (Nat.le_of_ble_eq_true rfl) (vp_nar_int _) rfl rfl rfl ?_
  refine y_aload_n (pc := 20) o dX2_init_20 rfl ?_
  refine y_iconst (pc := 21) (x := 0) o dX2_init_21 (by decide) ?_
  refine z_putT (pc := 22) (fs' := [.int (0), .ref (q1), .int (0), .int (0)]) (T' := (q1, .inr (3, [.int (0), .ref (κ.2.2 100), .int (0)])) :: (q, .inr (6, [.int (0), .ref (q1), .int (0), .int (0)])) :: T) o 1 fw_X2_20 dX2_init_22 rfl (Nat.le_of_ble_eq_true rfl) rfl rfl rfl rfl ?_
  refine y_aload_n (pc := 25) o dX2_init_25 rfl ?_
  refine y_iload_n (pc := 26) o dX2_init_26 rfl ?_
  refine z_putTF (pc := 27) (fs' := [.int (a0), .ref (q1), .int (0), .int (0)]) (T' := (q1, .inr (3, [.int (0), .ref (κ.2.2 100), .int (0)])) :: (q, .inr (6, [.int (a0), .ref (q1), .int (0), .int (0)])) :: T) o 1 ff_X2_24 rfl dX2_init_27 rfl (Nat.le_of_ble_eq_true rfl) (vp_nar_int _) rfl rfl rfl ?_
  exact y_vret (pc := 30) o dX2_init_30 rfl (by decide) (by decide) (fun h hp => ⟨rfl, q1, hp⟩)

theorem kX13_init {κ : gq_K} {ad : gKey → Nat} {S : gG × gG} {T : List (Nat × va_E)} (q : Nat)  : gq_C κ mX13_init [.ref (q)] (gR κ ad S ((q, .inr (17, [.int (0), .null, .int (0)])) :: T)) (fun v9 g => v9 = none ∧ ∃ q1, gR κ ad S ((q1, .inr (3, [.int (0), .ref (κ.2.2 100), .int (0)])) :: (q, .inr (17, [.int (0), .ref (q1), .int (0)])) :: T) g) (gq_no) := by
  refine gq_enter (by decide +kernel) rfl (Nat.le_of_ble_eq_true rfl) rfl (fun f o => ?_)
  refine y_aload_n (pc := 0) o dX13_init_0 rfl ?_
  refine y_objInit (pc := 1) o qw_1689 dX13_init_1 ⟨by decide, Nat.le_of_ble_eq_true rfl⟩ qw_73 qw_74 ?_
  refine y_aload_n (pc := 4) o dX13_init_4 rfl ?_
  refine z_new (pc := 5) (k := 0) (n := 0) o nw_X13_7 dX13_init_5 (by decide) (by decide) (fun q1 => ?_)
  refine y_dup (pc := 8) o dX13_init_8 rfl ?_
  refine z_callI (pc := 9) (k := 1) (n := 3) (k' := 1) (n' := 3) o (b := q1) (As := []) (rest := [.ref (q1), .ref (q)]) (c_alI _) ln_X13_9 dX13_init_9 rfl rfl (Nat.le_of_ble_eq_true rfl) ⟨by decide, by decide⟩ ⟨rfl, rfl⟩ ⟨by decide, by decide⟩ ?_
  refine z_putTF (pc := 12) (fs' := [.int (0), .ref (q1), .int (0)]) (T' := (q1, .inr (3, [.int (0), .ref (κ.2.2 100), .int (0)])) :: (q, .inr (17, [.int (0), .ref (q1), .int (0)])) :: T) o 1 ff_X13_10 rfl dX13_init_12 rfl (Nat.le_of_ble_eq_true rfl) rfl rfl rfl rfl ?_
  exact y_vret (pc := 15) o dX13_init_15 rfl (by decide) (by decide) (fun h hp => ⟨rfl, q1, hp⟩)

theorem kX1_init {κ : gq_K} {ad : gKey → Nat} {S : gG × gG} {T : List (Nat × va_E)} (q : Nat)  : gq_C κ mX1_init [.ref (q)] (gR κ ad S ((q, .inr (5, [.null, .null, .null, .null, .int (0)])) :: T)) (fun v9 g => v9 = none ∧ ∃ q4 q3 q2 q1, gR κ ad S ((q4, .inr (8, [.int (99), .int (1), .null])) :: (q3, .inr (8, [.int (103), .int (1), .null])) :: (q2, .inr (8, [.int (112), .int (1), .null])) :: (q1, .inr (8, [.int (109), .int (1), .null])) :: (q, .inr (5, [.ref (q1), .ref (q2), .ref (q3), .ref (q4), .int (1)])) :: T) g) (gq_no) := by
  refine gq_enter (by decide +kernel) rfl (Nat.le_of_ble_eq_true rfl) rfl (fun f o => ?_)
  refine y_aload_n (pc := 0) o dX1_init_0 rfl ?_
  refine y_objInit (pc := 1) o qw_80 dX1_init_1 ⟨by decide, Nat.le_of_ble_eq_true rfl⟩ qw_73 qw_74 ?_
  refine y_aload_n (pc := 4) o dX1_init_4 rfl ?_
  refine z_new (pc := 5) (k := 0) (n := 0) o nw_X1_7 dX1_init_5 (by decide) (by decide) (fun q1 => ?_)
  refine y_dup (pc := 8) o dX1_init_8 rfl ?_
  refine y_bipush (pc := 9) (x := 109) o dX1_init_9 (by decide) ?_
  refine z_callI (pc := 11) (k := 1) (n := 3) (k' := 1) (n' := 3) o (b := q1) (As := [.int (109)]) (rest := [.ref (q1), .ref (q)]) (kX4_init _ (109) (by unfold gch; decide)) ln_X1_9 dX1_init_11 rfl rfl (Nat.le_of_ble_eq_true rfl) ⟨by decide, by decide⟩ ⟨rfl, rfl⟩ ⟨by decide, by decide⟩ ?_
  refine z_putTF (pc := 14) (fs' := [.ref (q1), .null, .null, .null, .int (0)]) (T' := (q1, .inr (8, [.int (109), .int (1), .null])) :: (q, .inr (5, [.ref (q1), .null, .null, .null, .int (0)])) :: T) o 1 ff_X1_12 rfl dX1_init_14 rfl (Nat.le_of_ble_eq_true rfl) rfl rfl rfl rfl ?_
  refine y_aload_n (pc := 17) o dX1_init_17 rfl ?_
  refine z_new (pc := 18) (k := 1) (n := 3) o nw_X1_7 dX1_init_18 (by decide) (by decide) (fun q2 => ?_)
  refine y_dup (pc := 21) o dX1_init_21 rfl ?_
  refine y_bipush (pc := 22) (x := 112) o dX1_init_22 (by decide) ?_
  refine z_callI (pc := 24) (k := 2) (n := 6) (k' := 2) (n' := 6) o (b := q2) (As := [.int (112)]) (rest := [.ref (q2), .ref (q)]) (kX4_init _ (112) (by unfold gch; decide)) ln_X1_9 dX1_init_24 rfl rfl (Nat.le_of_ble_eq_true rfl) ⟨by decide, by decide⟩ ⟨rfl, rfl⟩ ⟨by decide, by decide⟩ ?_
  refine z_putTF (pc := 27) (fs' := [.ref (q1), .ref (q2), .null, .null, .int (0)]) (T' := (q2, .inr (8, [.int (112), .int (1), .null])) :: (q1, .inr (8, [.int (109), .int (1), .null])) :: (q, .inr (5, [.ref (q1), .ref (q2), .null, .null, .int (0)])) :: T) o 2 ff_X1_18 rfl dX1_init_27 rfl (Nat.le_of_ble_eq_true rfl) rfl rfl rfl rfl ?_
  refine y_aload_n (pc := 30) o dX1_init_30 rfl ?_
  refine z_new (pc := 31) (k := 2) (n := 6) o nw_X1_7 dX1_init_31 (by decide) (by decide) (fun q3 => ?_)
  refine y_dup (pc := 34) o dX1_init_34 rfl ?_
  refine y_bipush (pc := 35) (x := 103) o dX1_init_35 (by decide) ?_
  refine z_callI (pc := 37) (k := 3) (n := 9) (k' := 3) (n' := 9) o (b := q3) (As := [.int (103)]) (rest := [.ref (q3), .ref (q)]) (kX4_init _ (103) (by unfold gch; decide)) ln_X1_9 dX1_init_37 rfl rfl (Nat.le_of_ble_eq_true rfl) ⟨by decide, by decide⟩ ⟨rfl, rfl⟩ ⟨by decide, by decide⟩ ?_
  refine z_putTF (pc := 40) (fs' := [.ref (q1), .ref (q2), .ref (q3), .null, .int (0)]) (T' := (q3, .inr (8, [.int (103), .int (1), .null])) :: (q2, .inr (8, [.int (112), .int (1), .null])) :: (q1, .inr (8, [.int (109), .int (1), .null])) :: (q, .inr (5, [.ref (q1), .ref (q2), .ref (q3), .null, .int (0)])) :: T) o 3 ff_X1_21 rfl dX1_init_40 rfl (Nat.le_of_ble_eq_true rfl) rfl rfl rfl rfl ?_
  refine y_aload_n (pc := 43) o dX1_init_43 rfl ?_
  refine z_new (pc := 44) (k := 3) (n := 9) o nw_X1_7 dX1_init_44 (by decide) (by decide) (fun q4 => ?_)
  refine y_dup (pc := 47) o dX1_init_47 rfl ?_
  refine y_bipush (pc := 48) (x := 99) o dX1_init_48 (by decide) ?_
  refine z_callI (pc := 50) (k := 4) (n := 12) (k' := 4) (n' := 12) o (b := q4) (As := [.int (99)]) (rest := [.ref (q4), .ref (q)]) (kX4_init _ (99) (by unfold gch; decide)) ln_X1_9 dX1_init_50 rfl rfl (Nat.le_of_ble_eq_true rfl) ⟨by decide, by decide⟩ ⟨rfl, rfl⟩ ⟨by decide, by decide⟩ ?_
  refine z_putTF (pc := 53) (fs' := [.ref (q1), .ref (q2), .ref (q3), .ref (q4), .int (0)]) (T' := (q4, .inr (8, [.int (99), .int (1), .null])) :: (q3, .inr (8, [.int (103), .int (1), .null])) :: (q2, .inr (8, [.int (112), .int (1), .null])) :: (q1, .inr (8, [.int (109), .int (1), .null])) :: (q, .inr (5, [.ref (q1), .ref (q2), .ref (q3), .ref (q4), .int (0)])) :: T) o 4 ff_X1_24 rfl dX1_init_53 rfl (Nat.le_of_ble_eq_true rfl) rfl rfl rfl rfl ?_
  refine y_aload_n (pc := 56) o dX1_init_56 rfl ?_
  refine y_iconst (pc := 57) (x := 1) o dX1_init_57 (by decide) ?_
  refine z_putT (pc := 58) (fs' := [.ref (q1), .ref (q2), .ref (q3), .ref (q4), .int (1)]) (T' := (q4, .inr (8, [.int (99), .int (1), .null])) :: (q3, .inr (8, [.int (103), .int (1), .null])) :: (q2, .inr (8, [.int (112), .int (1), .null])) :: (q1, .inr (8, [.int (109), .int (1), .null])) :: (q, .inr (5, [.ref (q1), .ref (q2), .ref (q3), .ref (q4), .int (1)])) :: T) o 4 fw_X1_27 dX1_init_58 rfl (Nat.le_of_ble_eq_true rfl) rfl rfl rfl rfl ?_
  exact y_vret (pc := 61) o dX1_init_61 rfl (by decide) (by decide) (fun h hp => ⟨rfl, q4, q3, q2, q1, hp⟩)

end Z13
