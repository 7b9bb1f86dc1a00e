
section Z27
variable {κ : gq_K} {ad ad' : gKey → Nat} {S : gG × gG} {C C' R R' : gG} {T : List (Nat × va_E)} {h : gq_H}
theorem gR.drop1 {t : Nat × va_E} (hr : gR κ ad S (t :: T) h) : gR κ ad S T h := hr.drop (List.sublist_cons_self _ _)
/-- machine i and all that drive it are on -/
def gon (C : gG) : Nat → Nat → Bool
  | 0, _ => true
  | s + 1, i => decide (¬ C.1 (3, 0, i) 0 = 0) && (if C.1 (3, 0, i) 1 = -1 then true else gon C s (C.1 (3, 0, i) 1).toNatClampNeg)
theorem gmov_on {s i : Nat} (hc : gchn C s i = true) : gmov C s i = (gon C s i && decide (¬ C.1 (1, 0, 0) 0 = 0)) := by
  induction s generalizing i with
  | zero => cases hc
  | succ s ih =>
    unfold gchn at hc
    unfold gmov gon
    by_cases h : C.1 (3, 0, i) 1 = -1
    · simp only [h, if_true, Bool.and_true]
    · simp only [h, if_false] at hc ⊢
      rw [ih hc, Bool.and_assoc]
theorem ghang_s {o s i : Nat} (hc : gchn C s i = true) : ghang C o (s + 1) i = ghang C o s i := by
  induction s generalizing i with
  | zero => cases hc
  | succ s ih =>
    unfold gchn at hc
    unfold ghang
    by_cases h : C.1 (3, 0, i) 1 = -1
    · simp only [h, if_true]
    · simp only [h, if_false] at hc ⊢
      rw [ih hc]
theorem gix4 {x : Int32} (h : gix 4 x = true) : vp_in x 4 := gin4 (gix_iff.mp h).1 (gix_iff.mp h).2
theorem gson {x : Int32} (h : gbl x) (h0 : ¬ x = 0) : x = 1 := h.resolve_left h0
theorem gofN1 (j : Nat) : Int32.ofNat (j + 1) - 1 = Int32.ofNat j := by
  rw [Int32.ofNat_add]
  exact Int32.add_sub_cancel _ _
theorem gmod8 (x : Int32) : (x - x / 8 * 8 = 0) ↔ x.toInt % 8 = 0 := by
  have e0 : (0 : Int32).toInt = 0 := rfl
  have e8 : (8 : Int32).toInt = 8 := rfl
  have h1 := x.toInt_lt
  have h2 := x.le_toInt
  rw [← Int32.toInt_inj, e0, Int32.toInt_sub, Int32.toInt_mul, Int32.toInt_div, e8]
  obtain ⟨q, hq, h⟩ : ∃ q : Int, x.toInt.tdiv 8 = q ∧ ((0 ≤ x.toInt ∧ q = x.toInt / 8) ∨ (x.toInt < 0 ∧ q = -((-x.toInt) / 8))) := by
    refine ⟨_, rfl, ?_⟩
    by_cases h0 : 0 ≤ x.toInt
    · exact Or.inl ⟨h0, Int.tdiv_eq_ediv_of_nonneg h0⟩
    · refine Or.inr ⟨by omega, ?_⟩
      have e := Int.neg_tdiv (a := -x.toInt) (b := 8)
      rw [Int.neg_neg] at e
      rw [e, Int.tdiv_eq_ediv_of_nonneg (by omega)]
  rw [hq, Int.bmod_def, Int.bmod_def, Int.bmod_def]
  split <;> split <;> split <;> omega
theorem gb8 {d s : Int32} (hs : gin 0 s 7 = true) (hm : (d.toInt - s.toInt) % 8 = 0) : (d + 1 - (d + 1) / 8 * 8 = 0) ↔ s + 1 = 8 := by
  obtain ⟨h0, h1⟩ := gin_iff.mp hs
  rw [Int32.lt_iff_toInt_lt] at h0 h1
  have e0 : (0 : Int32).toInt = 0 := rfl
  have e1 : (1 : Int32).toInt = 1 := rfl
  have e7 : (7 : Int32).toInt = 7 := rfl
  have e8 : (8 : Int32).toInt = 8 := rfl
  have hd1 := d.toInt_lt
  have hd2 := d.le_toInt
  rw [gmod8, ← Int32.toInt_inj, e8, Int32.toInt_add, Int32.toInt_add, e1, Int.bmod_def, Int.bmod_def]
  split <;> split <;> omega
theorem gtell_r {C : gG} (hs : gin 0 (C.1 (2, 0, 0) 1) 7 = true) (hm : ((C.1 (2, 0, 0) 2).toInt - (C.1 (2, 0, 0) 1).toInt) % 8 = 0) : gtell C = gup (gup (gup C (2, 0, 0) 2 (C.1 (2, 0, 0) 2 + 1)) (2, 0, 0) 0 (if C.1 (2, 0, 0) 2 + 1 - (C.1 (2, 0, 0) 2 + 1) / 8 * 8 = 0 then C.1 (2, 0, 0) 0 + 3 else C.1 (2, 0, 0) 0 + 0)) (2, 0, 0) 1 (if C.1 (2, 0, 0) 1 + 1 = 8 then 0 else C.1 (2, 0, 0) 1 + 1) := by
  unfold gtell
  rw [gup_comm (Or.inr (show (0:Nat) ≠ 2 by decide)), gup_comm (Or.inr (show (1:Nat) ≠ 2 by decide)), gup_comm (Or.inr (show (1:Nat) ≠ 0 by decide))]
  by_cases h : C.1 (2, 0, 0) 1 + 1 = 8
  · rw [if_pos h, if_pos h, if_pos ((gb8 hs hm).mpr h)]
  · rw [if_neg h, if_neg h, if_neg (fun z => h ((gb8 hs hm).mp z)), Int32.add_zero]
theorem gclamp_r {d b : Int32} (hd : gin 0 d 999 = true) (hb : gin 0 b 1536 = true) : gmin 999 (d + b) = gclamp (d + b) 0 999 := by
  obtain ⟨h0, h1⟩ := gin_iff.mp hd
  obtain ⟨h2, h3⟩ := gin_iff.mp hb
  rw [Int32.lt_iff_toInt_lt] at h0 h1 h2 h3
  have e0 : (0 : Int32).toInt = 0 := rfl
  have e9 : (999 : Int32).toInt = 999 := rfl
  have e5 : (1536 : Int32).toInt = 1536 := rfl
  have hs : (d + b).toInt = d.toInt + b.toInt := by
    rw [Int32.toInt_add, Int.bmod_def]
    split <;> omega
  have h9 : ¬ gmin 999 (d + b) < 0 := fun z => by
    unfold gmin at z
    split at z
    · rw [Int32.lt_iff_toInt_lt, hs] at z; omega
    · exact absurd z (by decide)
  unfold gclamp gmax
  by_cases h : (0 : Int32) < gmin 999 (d + b)
  · rw [if_pos h]
  · rw [if_neg h, ← Int32.toInt_inj]
    rw [Int32.lt_iff_toInt_lt] at h h9
    omega
theorem kGoing0 {κ : gq_K} {ad : gKey → Nat} {C R : gG} {T : List (Nat × va_E)} (hR : gfix R.2) (hdr : ∀ i : Nat, R.1 (3, 0, i) 1 = -1 ∨ gix 4 (R.1 (3, 0, i) 1) = true) (hB : gbl (R.1 (1, 0, 0) 0)) (x : Int32) (hx : gix 4 x = true) (hc : gchn R 4 x.toNatClampNeg = true) : gq_C κ mX16_going [.ref (ad (20, 0, 0)), .int (x)] (gR κ ad (C, R) T) (fun v9 g9 => v9 = some (.int (gb (gmov R 4 x.toNatClampNeg = true))) ∧ gR κ ad (C, R) T g9) (gq_no) := by
  refine gq_enter (by decide +kernel) rfl (Nat.le_of_ble_eq_true rfl) rfl (fun f o => ?_)
  refine y_aload_n (pc := 0) o dX16_going_0 rfl ?_
  refine z_get (pc := 1) (K := (20, 0, 0)) (v := .int (R.1 (1, 0, 0) 0)) o fl_X16_23 dX16_going_1 (gl_20 hR) rfl rfl ?_
  refine y_istore_n (pc := 4) (i := 2) (lv' := [(2, .int (R.1 (1, 0, 0) 0)), (0, .ref (ad (20, 0, 0))), (1, .int (x))]) o dX16_going_4 rfl (by decide) rfl ?_
  refine y_iload_n (pc := 5) o dX16_going_5 rfl ?_
  refine y_istore_n (pc := 6) (i := 3) (lv' := [(3, .int (x)), (2, .int (R.1 (1, 0, 0) 0)), (0, .ref (ad (20, 0, 0))), (1, .int (x))]) o dX16_going_6 rfl (by decide) rfl ?_
  have hx1 : gix 4 x = true := hx
  suffices H : ∀ (s : Nat) (k y : Int32), gbl y → gix 4 k = true → gchn R s k.toNatClampNeg = true → (if gon R s k.toNatClampNeg = true then y else 0) = gb (gmov R 4 x.toNatClampNeg = true) → gq_Y κ mX16_going (fun v9 g9 => v9 = some (.int (gb (gmov R 4 x.toNatClampNeg = true))) ∧ gR κ ad (C, R) T g9) gq_no f (gR κ ad (C, R) T) [(3, .int k), (2, .int y), (0, .ref (ad (20, 0, 0)))] 7 [] 0 0 from ?_
  · refine y_lv [0, 1, 2] (lv' := [(3, .int (x)), (2, .int (R.1 (1, 0, 0) 0)), (0, .ref (ad (20, 0, 0)))]) rfl ?_
    refine H 4 x _ hB hx hc ?_
    rw [gmov_on hc]
    rcases hB with z | z <;> by_cases ho : gon R 4 x.toNatClampNeg = true <;> simp [z, ho, gb]
  generalize gb (gmov R 4 x.toNatClampNeg = true) = v
  intro s
  induction s with
  | zero => intro k y _ _ hc0; cases hc0
  | succ s ih =>
    intro k y hy hk hc0 hv
    unfold gchn at hc0
    unfold gon at hv
    refine y_iload_n (pc := 7) o dX16_going_7 rfl ?_
    refine y_iconst (pc := 8) (x := -1) o dX16_going_8 (by decide) ?_
    refine y_icmp_eq (pc := 9) (tgt := 41) o dX16_going_9 rfl (fun b1 => absurd b1 (fun z => by rw [z] at hk; revert hk; decide)) (fun (b1 : ¬ k = (-1)) => ?_)
    refine y_iload_n (pc := 12) o dX16_going_12 rfl ?_
    refine y_if_eq (pc := 13) (tgt := 29) o dX16_going_13 rfl (fun (b2 : y = 0) => ?_) (fun (b2 : ¬ y = 0) => ?_)
    · refine y_iconst (pc := 29) (x := 0) o dX16_going_29 (by decide) ?_
      refine y_istore_n (pc := 30) (i := 2) (lv' := [(2, .int (0)), (3, .int (k)), (0, .ref (ad (20, 0, 0)))]) o dX16_going_30 rfl (by decide) rfl ?_
      refine y_aload_n (pc := 31) o dX16_going_31 rfl ?_
      refine z_get (pc := 32) (K := (20, 0, 0)) (v := .ref (ad (22, 0, 0))) o fl_X16_31 dX16_going_32 (gl_20 hR) rfl rfl ?_
      refine y_iload_n (pc := 35) o dX16_going_35 rfl ?_
      refine z_iald (pc := 36) (K := (22, 0, 0)) (i := k) (v := R.1 (3, 0, k.toNatClampNeg) 1) o dX16_going_36 (gl_22 hR) rfl (gix4 hk) (if_pos (gin_lt (gix4 hk))) ?_
      refine y_istore_n (pc := 37) (i := 3) (lv' := [(3, .int (R.1 (3, 0, k.toNatClampNeg) 1)), (2, .int (0)), (0, .ref (ad (20, 0, 0)))]) o dX16_going_37 rfl (by decide) rfl ?_
      refine y_goto (pc := 38) (tgt := 7) o dX16_going_38 rfl ?_
      by_cases hd : R.1 (3, 0, k.toNatClampNeg) 1 = -1
      · rw [hd]
        refine y_iload_n (pc := 7) o dX16_going_7 rfl ?_
        refine y_iconst (pc := 8) (x := -1) o dX16_going_8 (by decide) ?_
        refine y_icmp_eq (pc := 9) (tgt := 41) o dX16_going_9 rfl (fun (b3 : (-1) = (-1)) => ?_) (fun b3 => absurd rfl b3)
        refine y_iload_n (pc := 41) o dX16_going_41 rfl ?_
        exact y_iret (pc := 42) o dX16_going_42 rfl rfl (by decide) (by decide) (fun h hp => ⟨by rw [← hv]; simp [hd, b2], hp⟩)
      refine ih _ _ (Or.inl rfl) ((hdr _).resolve_left hd) (by simpa [hd] using hc0) ?_
      rw [← hv]
      simp [hd, b2]
    refine y_aload_n (pc := 16) o dX16_going_16 rfl ?_
    refine z_get (pc := 17) (K := (20, 0, 0)) (v := .ref (ad (21, 0, 0))) o fl_X16_27 dX16_going_17 (gl_20 hR) rfl rfl ?_
    refine y_iload_n (pc := 20) o dX16_going_20 rfl ?_
    refine z_zald (pc := 21) (K := (21, 0, 0)) (i := k) (v := R.1 (3, 0, k.toNatClampNeg) 0) o dX16_going_21 (gl_21 hR) rfl (gix4 hk) (if_pos (gin_lt (gix4 hk))) ?_
    refine y_if_eq (pc := 22) (tgt := 29) o dX16_going_22 rfl (fun (b4 : (R.1 (3, 0, k.toNatClampNeg) 0) = 0) => ?_) (fun (b4 : ¬ (R.1 (3, 0, k.toNatClampNeg) 0) = 0) => ?_)
    · refine y_iconst (pc := 29) (x := 0) o dX16_going_29 (by decide) ?_
      refine y_istore_n (pc := 30) (i := 2) (lv' := [(2, .int (0)), (3, .int (k)), (0, .ref (ad (20, 0, 0)))]) o dX16_going_30 rfl (by decide) rfl ?_
      refine y_aload_n (pc := 31) o dX16_going_31 rfl ?_
      refine z_get (pc := 32) (K := (20, 0, 0)) (v := .ref (ad (22, 0, 0))) o fl_X16_31 dX16_going_32 (gl_20 hR) rfl rfl ?_
      refine y_iload_n (pc := 35) o dX16_going_35 rfl ?_
      refine z_iald (pc := 36) (K := (22, 0, 0)) (i := k) (v := R.1 (3, 0, k.toNatClampNeg) 1) o dX16_going_36 (gl_22 hR) rfl (gix4 hk) (if_pos (gin_lt (gix4 hk))) ?_
      refine y_istore_n (pc := 37) (i := 3) (lv' := [(3, .int (R.1 (3, 0, k.toNatClampNeg) 1)), (2, .int (0)), (0, .ref (ad (20, 0, 0)))]) o dX16_going_37 rfl (by decide) rfl ?_
      refine y_goto (pc := 38) (tgt := 7) o dX16_going_38 rfl ?_
      by_cases hd : R.1 (3, 0, k.toNatClampNeg) 1 = -1
      · rw [hd]
        refine y_iload_n (pc := 7) o dX16_going_7 rfl ?_
        refine y_iconst (pc := 8) (x := -1) o dX16_going_8 (by decide) ?_
        refine y_icmp_eq (pc := 9) (tgt := 41) o dX16_going_9 rfl (fun (b5 : (-1) = (-1)) => ?_) (fun b5 => absurd rfl b5)
        refine y_iload_n (pc := 41) o dX16_going_41 rfl ?_
        exact y_iret (pc := 42) o dX16_going_42 rfl rfl (by decide) (by decide) (fun h hp => ⟨by rw [← hv]; simp [hd, gson hy b2, b4], hp⟩)
      refine ih _ _ (Or.inl rfl) ((hdr _).resolve_left hd) (by simpa [hd] using hc0) ?_
      rw [← hv]
      simp [hd, gson hy b2, b4]
    refine y_iconst (pc := 25) (x := 1) o dX16_going_25 (by decide) ?_
    refine y_goto (pc := 26) (tgt := 30) o dX16_going_26 rfl ?_
    refine y_istore_n (pc := 30) (i := 2) (lv' := [(2, .int (1)), (3, .int (k)), (0, .ref (ad (20, 0, 0)))]) o dX16_going_30 rfl (by decide) rfl ?_
    refine y_aload_n (pc := 31) o dX16_going_31 rfl ?_
    refine z_get (pc := 32) (K := (20, 0, 0)) (v := .ref (ad (22, 0, 0))) o fl_X16_31 dX16_going_32 (gl_20 hR) rfl rfl ?_
    refine y_iload_n (pc := 35) o dX16_going_35 rfl ?_
    refine z_iald (pc := 36) (K := (22, 0, 0)) (i := k) (v := R.1 (3, 0, k.toNatClampNeg) 1) o dX16_going_36 (gl_22 hR) rfl (gix4 hk) (if_pos (gin_lt (gix4 hk))) ?_
    refine y_istore_n (pc := 37) (i := 3) (lv' := [(3, .int (R.1 (3, 0, k.toNatClampNeg) 1)), (2, .int (1)), (0, .ref (ad (20, 0, 0)))]) o dX16_going_37 rfl (by decide) rfl ?_
    refine y_goto (pc := 38) (tgt := 7) o dX16_going_38 rfl ?_
    by_cases hd : R.1 (3, 0, k.toNatClampNeg) 1 = -1
    · rw [hd]
      refine y_iload_n (pc := 7) o dX16_going_7 rfl ?_
      refine y_iconst (pc := 8) (x := -1) o dX16_going_8 (by decide) ?_
      refine y_icmp_eq (pc := 9) (tgt := 41) o dX16_going_9 rfl (fun (b6 : (-1) = (-1)) => ?_) (fun b6 => absurd rfl b6)
      refine y_iload_n (pc := 41) o dX16_going_41 rfl ?_
      exact y_iret (pc := 42) o dX16_going_42 rfl rfl (by decide) (by decide) (fun h hp => ⟨by rw [← hv]; simp [hd, gson hy b2, b4], hp⟩)
    refine ih _ _ (Or.inr rfl) ((hdr _).resolve_left hd) (by simpa [hd] using hc0) ?_
    rw [← hv]
    simp [hd, gson hy b2, b4]

theorem kTellR {κ : gq_K} {ad : gKey → Nat} {C R : gG} {T : List (Nat × va_E)} (hR : gfix R.2) (i : Nat) (hi : i < R.2 8 0) (hd : gin 0 (R.1 (8, 0, i) 10) 999 = true) (hb9 : gin 0 (R.1 (2, 0, 0) 0) 1536 = true) (hs : gin 0 (R.1 (2, 0, 0) 1) 7 = true) (hm : ((R.1 (2, 0, 0) 2).toInt - (R.1 (2, 0, 0) 1).toInt) % 8 = 0) : gq_C κ mX16_tells [.ref (ad (20, 0, 0)), .ref (ad (28, 0, i))] (gR κ ad (C, R) T) (fun v9 g9 => v9 = some (.int (gclamp (R.1 (8, 0, i) 10 + R.1 (2, 0, 0) 0) 0 999)) ∧ gR κ ad (C, gtell R) T g9) (gq_no) := by
  refine gq_enter (by decide +kernel) rfl (Nat.le_of_ble_eq_true rfl) rfl (fun f o => ?_)
  refine y_sipush (pc := 0) (x := 999) o dX16_tells_0 (by decide) ?_
  refine y_aload_n (pc := 3) o dX16_tells_3 rfl ?_
  refine z_get (pc := 4) (K := (28, 0, i)) (v := .int (R.1 (8, 0, i) 10)) o fl_X16_180 dX16_tells_4 (gl_28 hi) rfl rfl ?_
  refine y_aload_n (pc := 7) o dX16_tells_7 rfl ?_
  refine z_get (pc := 8) (K := (20, 0, 0)) (v := .int (R.1 (2, 0, 0) 0)) o fl_X16_192 dX16_tells_8 (gl_20 hR) rfl rfl ?_
  refine y_iadd (pc := 11) o dX16_tells_11 ?_
  refine y_mmin (pc := 12) o qw_1440 dX16_tells_12 ⟨by decide, Nat.le_of_ble_eq_true rfl⟩ (by decide) (by decide) ?_
  refine y_istore_n (pc := 15) (i := 2) (lv' := [(2, .int (gmin 999 ((R.1 (8, 0, i) 10) + (R.1 (2, 0, 0) 0)))), (0, .ref (ad (20, 0, 0))), (1, .ref (ad (28, 0, i)))]) o dX16_tells_15 rfl (by decide) rfl ?_
  refine y_aload_n (pc := 16) o dX16_tells_16 rfl ?_
  refine y_dup (pc := 17) o dX16_tells_17 rfl ?_
  refine z_get (pc := 18) (K := (20, 0, 0)) (v := .int (R.1 (2, 0, 0) 2)) o fl_X16_195 dX16_tells_18 (gl_20 hR) rfl rfl ?_
  refine y_iconst (pc := 21) (x := 1) o dX16_tells_21 (by decide) ?_
  refine y_iadd (pc := 22) o dX16_tells_22 ?_
  refine z_put20 (pc := 23) (b := 2) (fd := 2) (x := (R.1 (2, 0, 0) 2) + 1) o fw_X16_195 dX16_tells_23 (gfix_0 hR) (gl_20 hR) (by decide) rfl (Nat.le_of_ble_eq_true rfl) (vp_nar_int _) rfl rfl p20_15 ?_
  refine y_aload_n (pc := 26) o dX16_tells_26 rfl ?_
  refine y_dup (pc := 27) o dX16_tells_27 rfl ?_
  refine z_get (pc := 28) (K := (20, 0, 0)) (v := .int ((gup R (2, 0, 0) 2 ((R.1 (2, 0, 0) 2) + 1)).1 (2, 0, 0) 0)) o fl_X16_192 dX16_tells_28 (gl_20 hR) rfl rfl ?_
  refine z_top (congrArg Value.int (gup_vf _ (show (0:Nat) ≠ 2 by decide))) ?_
  refine y_aload_n (pc := 31) o dX16_tells_31 rfl ?_
  refine z_get (pc := 32) (K := (20, 0, 0)) (v := .int ((gup R (2, 0, 0) 2 ((R.1 (2, 0, 0) 2) + 1)).1 (2, 0, 0) 2)) o fl_X16_195 dX16_tells_32 (gl_20 hR) rfl rfl ?_
  refine z_top (congrArg Value.int (gup_v _ _ _ _)) ?_
  refine y_bipush (pc := 35) (x := 8) o dX16_tells_35 (by decide) ?_
  refine y_irem (pc := 37) o dX16_tells_37 (by decide) ?_
  refine y_if_ne (pc := 38) (tgt := 45) o dX16_tells_38 rfl (fun (b1 : ¬ (((R.1 (2, 0, 0) 2) + 1) - ((R.1 (2, 0, 0) 2) + 1) / 8 * 8) = 0) => ?_) (fun (b1 : (((R.1 (2, 0, 0) 2) + 1) - ((R.1 (2, 0, 0) 2) + 1) / 8 * 8) = 0) => ?_)
  · refine y_iconst (pc := 45) (x := 0) o dX16_tells_45 (by decide) ?_
    refine y_iadd (pc := 46) o dX16_tells_46 ?_
    refine z_put20 (pc := 47) (b := 2) (fd := 0) (x := (R.1 (2, 0, 0) 0) + 0) o fw_X16_192 dX16_tells_47 (gfix_0 hR) (gl_20 hR) (by decide) rfl (Nat.le_of_ble_eq_true rfl) (vp_nar_int _) rfl rfl p20_16 ?_
    refine y_iload_n (pc := 50) o dX16_tells_50 rfl ?_
    exact y_iret (pc := 51) o dX16_tells_51 rfl (vp_nar_int _) (by decide) (by decide) (fun h hp => ⟨congrArg (fun z => some (Value.int z)) (gclamp_r hd hb9), by rw [gtell_r hs hm]; simp only [b1, if_true, if_false]; exact hp.ghost20 2 1 _ (by decide) (fun _ _ => rfl)⟩)
  refine y_iconst (pc := 41) (x := 3) o dX16_tells_41 (by decide) ?_
  refine y_goto (pc := 42) (tgt := 46) o dX16_tells_42 rfl ?_
  refine y_iadd (pc := 46) o dX16_tells_46 ?_
  refine z_put20 (pc := 47) (b := 2) (fd := 0) (x := (R.1 (2, 0, 0) 0) + 3) o fw_X16_192 dX16_tells_47 (gfix_0 hR) (gl_20 hR) (by decide) rfl (Nat.le_of_ble_eq_true rfl) (vp_nar_int _) rfl rfl p20_16 ?_
  refine y_iload_n (pc := 50) o dX16_tells_50 rfl ?_
  exact y_iret (pc := 51) o dX16_tells_51 rfl (vp_nar_int _) (by decide) (by decide) (fun h hp => ⟨congrArg (fun z => some (Value.int z)) (gclamp_r hd hb9), by rw [gtell_r hs hm]; simp only [b1, if_true, if_false]; exact hp.ghost20 2 1 _ (by decide) (fun _ _ => rfl)⟩)

theorem kItrI {κ : gq_K} {ad : gKey → Nat} {C R : gG} {T : List (Nat × va_E)} {l g : Nat} (hl4 : glive (C, R) (24, l, g)) (q : Nat) : gq_C κ mJx35411_init_45d68 [.ref (q), .ref (ad (24, l, g))] (gR κ ad (C, R) ((q, .inr (2, [.int 0, .int 0, .int 0, .null])) :: T)) (fun v9 g9 => v9 = none ∧ gR κ ad (C, R) ((q, .inr (2, [.int 0, .int (-1), .int (Int32.ofNat (R.2 (6 + l) g)), .ref (ad (24, l, g))])) :: T) g9) (gq_no) := by
  refine gq_enter (by decide +kernel) rfl (Nat.le_of_ble_eq_true rfl) rfl (fun f o => ?_)
  refine y_aload_n (pc := 0) o dJx35411_init_45d68_0 rfl ?_
  refine y_aload_n (pc := 1) o dJx35411_init_45d68_1 rfl ?_
  refine z_putTF (pc := 2) (fs' := [.int (0), .int (0), .int (0), .ref (ad (24, l, g))]) (T' := (q, .inr (2, [.int (0), .int (0), .int (0), .ref (ad (24, l, g))])) :: T) o 0 ff_Jx35411_1 rfl dJx35411_init_45d68_2 rfl (Nat.le_of_ble_eq_true rfl) rfl rfl rfl rfl ?_
  refine y_aload_n (pc := 5) o dJx35411_init_45d68_5 rfl ?_
  refine y_objInit (pc := 6) o qw_1726 dJx35411_init_45d68_6 ⟨by decide, Nat.le_of_ble_eq_true rfl⟩ qw_73 qw_74 ?_
  refine y_aload_n (pc := 9) o dJx35411_init_45d68_9 rfl ?_
  refine y_iconst (pc := 10) (x := -1) o dJx35411_init_45d68_10 (by decide) ?_
  refine z_putT (pc := 11) (fs' := [.int (0), .int (-1), .int (0), .ref (ad (24, l, g))]) (T' := (q, .inr (2, [.int (0), .int (-1), .int (0), .ref (ad (24, l, g))])) :: T) o 0 fw_Jx35411_13 dJx35411_init_45d68_11 rfl (Nat.le_of_ble_eq_true rfl) (vp_nar_int _) rfl rfl rfl ?_
  refine y_aload_n (pc := 14) o dJx35411_init_45d68_14 rfl ?_
  refine y_aload_n (pc := 15) o dJx35411_init_45d68_15 rfl ?_
  refine z_getT (pc := 16) o 0 fl_Jx35411_1 dJx35411_init_45d68_16 rfl rfl ?_
  refine z_get (pc := 19) (K := (24, l, g)) (fs := [.int (Int32.ofNat (R.2 (6 + l) g)), .ref (if R.2 (6 + l) g = 0 then κ.2.2 100 else ad (25, l, g)), .int (Int32.ofNat (R.2 (6 + l) g))]) (v := .int (Int32.ofNat (R.2 (6 + l) g))) o fl_Jx35411_17 dJx35411_init_45d68_19 hl4 rfl rfl ?_
  refine z_putT (pc := 22) (fs' := [.int (0), .int (-1), .int (Int32.ofNat (R.2 (6 + l) g)), .ref (ad (24, l, g))]) (T' := (q, .inr (2, [.int (0), .int (-1), .int (Int32.ofNat (R.2 (6 + l) g)), .ref (ad (24, l, g))])) :: T) o 0 fw_Jx35411_22 dJx35411_init_45d68_22 rfl (Nat.le_of_ble_eq_true rfl) (vp_nar_int _) rfl rfl rfl ?_
  exact y_vret (pc := 25) o dJx35411_init_45d68_25 rfl (by decide) (by decide) (fun h hp => ⟨rfl, hp⟩)

theorem kIter {κ : gq_K} {ad : gKey → Nat} {C R : gG} {T : List (Nat × va_E)} {l g : Nat} (hl4 : glive (C, R) (24, l, g)) : gq_C κ mJx4a65c_iterator_32c93 [.ref (ad (24, l, g))] (gR κ ad (C, R) T) (fun v9 g9 => ∃ q, v9 = some (.ref q) ∧ gR κ ad (C, R) ((q, .inr (2, [.int 0, .int (-1), .int (Int32.ofNat (R.2 (6 + l) g)), .ref (ad (24, l, g))])) :: T) g9) (gq_no) := by
  refine gq_enter (by decide +kernel) rfl (Nat.le_of_ble_eq_true rfl) rfl (fun f o => ?_)
  refine z_new (pc := 0) (k := 0) (n := 0) o nw_Jx4a65c_267 dJx4a65c_iterator_32c93_0 (by decide) (by decide) (fun q1 => ?_)
  refine y_dup (pc := 3) o dJx4a65c_iterator_32c93_3 rfl ?_
  refine y_aload_n (pc := 4) o dJx4a65c_iterator_32c93_4 rfl ?_
  refine z_callI (pc := 5) (k := 1) (n := 4) (k' := 1) (n' := 4) o (b := q1) (As := [.ref (ad (24, l, g))]) (rest := [.ref (q1)]) (kItrI hl4 q1) ln_Jx4a65c_269 dJx4a65c_iterator_32c93_5 rfl rfl (Nat.le_of_ble_eq_true rfl) ⟨by decide, by decide⟩ ⟨rfl, rfl⟩ ⟨by decide, by decide⟩ ?_
  exact y_aret (pc := 8) o dJx4a65c_iterator_32c93_8 rfl (Or.inl ⟨_, rfl⟩) (Or.inr ⟨_, rfl⟩) (by decide) (by decide) (fun h hp => ⟨_, rfl, hp⟩)

theorem kHasN {κ : gq_K} {ad : gKey → Nat} {C R : gG} {T : List (Nat × va_E)} {l g : Nat} (hl4 : glive (C, R) (24, l, g)) (q : Nat) (c e : Int32) : gq_C κ mJx35411_hasNext_aae02 [.ref q] (gR κ ad (C, R) ((q, .inr (2, [.int c, .int e, .int (Int32.ofNat (R.2 (6 + l) g)), .ref (ad (24, l, g))])) :: T)) (fun v9 g9 => v9 = some (.int (gb (¬ c = Int32.ofNat (R.2 (6 + l) g)))) ∧ gR κ ad (C, R) ((q, .inr (2, [.int c, .int e, .int (Int32.ofNat (R.2 (6 + l) g)), .ref (ad (24, l, g))])) :: T) g9) gq_no :=
  c_hasN q (ad (24, l, g)) c e _ _ _ _ (fun h hr => hr.2.2.2.1 _ List.mem_cons_self) (fun h hr => ghdr_R hl4 hr)

theorem kNext {κ : gq_K} {ad : gKey → Nat} {C R : gG} {T : List (Nat × va_E)} {l g : Nat} (hl4 : glive (C, R) (24, l, g)) (h144 : R.2 (6 + l) g ≤ 144) (q j : Nat) (hj : j < R.2 (6 + l) g) (e : Int32) : gq_C κ mJx35411_next_0502b [.ref (q)] (gR κ ad (C, R) ((q, .inr (2, [.int (Int32.ofNat j), .int e, .int (Int32.ofNat (R.2 (6 + l) g)), .ref (ad (24, l, g))])) :: T)) (fun v9 g9 => v9 = some (.ref (ad (26 + l, g, j))) ∧ gR κ ad (C, R) ((q, .inr (2, [.int (Int32.ofNat (j + 1)), .int (Int32.ofNat j), .int (Int32.ofNat (R.2 (6 + l) g)), .ref (ad (24, l, g))])) :: T) g9) (gq_no) := by
  refine gq_enter (by decide +kernel) rfl (Nat.le_of_ble_eq_true rfl) rfl (fun f o => ?_)
  refine y_aload_n (pc := 0) o dJx35411_next_0502b_0 rfl ?_
  refine z_callVv (pc := 1) (k := 0) (n := 0) (k' := 0) (n' := 0) o (b := q) (As := []) (rest := []) (c_ckCo q (ad (24, l, g)) _ _ _ _ _ _ (fun h hr => hr.2.2.2.1 _ List.mem_cons_self) (fun h hr => ghdr_R hl4 hr) rfl) ln_Jx35411_31 dJx35411_next_0502b_1 (z_rcT (ci := 2) 0 rfl rfl) rfl rfl (Nat.le_of_ble_eq_true rfl) ⟨by decide, by decide⟩ ⟨rfl, rfl⟩ ⟨by decide, by decide⟩ rfl gq_nox2 ?_
  refine y_aload_n (pc := 4) o dJx35411_next_0502b_4 rfl ?_
  refine z_getT (pc := 5) o 0 fl_Jx35411_25 dJx35411_next_0502b_5 rfl rfl ?_
  refine y_istore_n (pc := 8) (i := 1) (lv' := [(1, .int (Int32.ofNat j)), (0, .ref (q))]) o dJx35411_next_0502b_8 rfl (by decide) rfl ?_
  refine y_iload_n (pc := 9) o dJx35411_next_0502b_9 rfl ?_
  refine y_aload_n (pc := 10) o dJx35411_next_0502b_10 rfl ?_
  refine z_getT (pc := 11) o 0 fl_Jx35411_1 dJx35411_next_0502b_11 rfl rfl ?_
  refine z_get (pc := 14) (K := (24, l, g)) (fs := [.int (Int32.ofNat (R.2 (6 + l) g)), .ref (if R.2 (6 + l) g = 0 then κ.2.2 100 else ad (25, l, g)), .int (Int32.ofNat (R.2 (6 + l) g))]) (v := .int (Int32.ofNat (R.2 (6 + l) g))) o fl_Jx35411_28 dJx35411_next_0502b_14 hl4 rfl rfl ?_
  refine y_icmp_lt (pc := 17) (tgt := 28) o dJx35411_next_0502b_17 rfl (fun (b1 : (Int32.ofNat j) < (Int32.ofNat (R.2 (6 + l) g))) => ?_) (fun b1 => absurd ((gofs_lt (by omega) (by omega)).mpr hj) b1)
  refine y_aload_n (pc := 28) o dJx35411_next_0502b_28 rfl ?_
  refine z_getT (pc := 29) o 0 fl_Jx35411_1 dJx35411_next_0502b_29 rfl rfl ?_
  refine z_get (pc := 32) (K := (24, l, g)) (fs := [.int (Int32.ofNat (R.2 (6 + l) g)), .ref (if R.2 (6 + l) g = 0 then κ.2.2 100 else ad (25, l, g)), .int (Int32.ofNat (R.2 (6 + l) g))]) (v := .ref (if R.2 (6 + l) g = 0 then κ.2.2 100 else ad (25, l, g))) o fl_Jx35411_37 dJx35411_next_0502b_32 hl4 rfl rfl ?_
  rw [if_neg (show ¬ R.2 (6 + l) g = 0 by omega)]
  refine y_astore_n (pc := 35) (i := 2) (lv' := [(2, .ref (ad (25, l, g))), (1, .int (Int32.ofNat j)), (0, .ref (q))]) o dJx35411_next_0502b_35 rfl (by decide) rfl ?_
  refine y_iload_n (pc := 36) o dJx35411_next_0502b_36 rfl ?_
  refine y_aload_n (pc := 37) o dJx35411_next_0502b_37 rfl ?_
  refine y_alen (pc := 38) (t := 4) o dJx35411_next_0502b_38 (fun h hr => gbak_R hl4 (by omega) hr) rfl rfl ?_
  refine y_icmp_lt (pc := 39) (tgt := 50) o dJx35411_next_0502b_39 rfl (fun (b2 : (Int32.ofNat j) < (Int32.ofNat (gcap (R.2 (6 + l) g)))) => ?_) (fun b2 => absurd ((gofs_lt (by omega) (by have := gcap_m (R.2 (6 + l) g); omega)).mpr (by have := gcap_le (n := R.2 (6 + l) g) (by omega); omega)) b2)
  refine y_aload_n (pc := 50) o dJx35411_next_0502b_50 rfl ?_
  refine y_iload_n (pc := 51) o dJx35411_next_0502b_51 rfl ?_
  refine y_iconst (pc := 52) (x := 1) o dJx35411_next_0502b_52 (by decide) ?_
  refine y_iadd (pc := 53) o dJx35411_next_0502b_53 ?_
  refine z_putT (pc := 54) (fs' := [.int ((Int32.ofNat j) + 1), .int (e), .int (Int32.ofNat (R.2 (6 + l) g)), .ref (ad (24, l, g))]) (T' := (q, .inr (2, [.int ((Int32.ofNat j) + 1), .int (e), .int (Int32.ofNat (R.2 (6 + l) g)), .ref (ad (24, l, g))])) :: T) o 0 fw_Jx35411_25 dJx35411_next_0502b_54 rfl (Nat.le_of_ble_eq_true rfl) (vp_nar_int _) rfl rfl rfl ?_
  refine y_aload_n (pc := 57) o dJx35411_next_0502b_57 rfl ?_
  refine y_aload_n (pc := 58) o dJx35411_next_0502b_58 rfl ?_
  refine y_iload_n (pc := 59) o dJx35411_next_0502b_59 rfl ?_
  refine y_dup_x1 (pc := 60) o dJx35411_next_0502b_60 rfl rfl ?_
  refine z_putT (pc := 61) (fs' := [.int ((Int32.ofNat j) + 1), .int (Int32.ofNat j), .int (Int32.ofNat (R.2 (6 + l) g)), .ref (ad (24, l, g))]) (T' := (q, .inr (2, [.int ((Int32.ofNat j) + 1), .int (Int32.ofNat j), .int (Int32.ofNat (R.2 (6 + l) g)), .ref (ad (24, l, g))])) :: T) o 0 fw_Jx35411_13 dJx35411_next_0502b_61 rfl (Nat.le_of_ble_eq_true rfl) (vp_nar_int _) rfl rfl rfl ?_
  refine y_aald (pc := 64) o dJx35411_next_0502b_64 (fun h hr => gbak_R hl4 (by omega) hr) (gin_of (by omega) (by have := gcap_le (n := R.2 (6 + l) g) (by omega); omega)) (v := .ref (ad (26 + l, g, j))) (by simp only [(gofs (n := j) (by omega)).2.1]; exact congrArg va_rf (if_pos hj)) ?_
  exact y_aret (pc := 65) o dJx35411_next_0502b_65 rfl (Or.inl ⟨_, rfl⟩) (Or.inr ⟨_, rfl⟩) (by decide) (by decide) (fun h hp => ⟨rfl, by rw [← (gofs (n := j) (by omega)).2.2]; exact hp⟩)

end Z27
