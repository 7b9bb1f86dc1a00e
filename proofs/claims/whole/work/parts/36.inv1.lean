
section Z36
variable {C D : gG} {n m : Nat}
def gag (C D : gG) (k : Nat) : Prop := ∀ b i j : Nat, D.1 (k, b, i) j = C.1 (k, b, i) j
theorem gchn_c (h : ∀ i, D.1 (3, 0, i) 1 = C.1 (3, 0, i) 1) (s i : Nat) : gchn D s i = gchn C s i := by
  induction s generalizing i with
  | zero => rfl
  | succ s ih =>
    unfold gchn
    rw [h, ih]
theorem gin_up {x : Int32} (h : gin 0 x (Int32.ofNat n) = true) (hnm : n ≤ m) (hm : m ≤ 100000) : gin 0 x (Int32.ofNat m) = true := by
  obtain ⟨h0, h1⟩ := gin_iff.mp h
  refine gin_t h0 (fun z => h1 ?_)
  rw [Int32.lt_iff_toInt_lt] at z ⊢
  rw [Int32.toInt_ofNat_of_lt (by omega)] at z ⊢
  omega
theorem gix_up {x : Int32} (h : gix n x = true) (hnm : n ≤ m) (hm : m ≤ 1000) : gix m x = true := by
  obtain ⟨h0, h1⟩ := gix_iff.mp h
  refine gixN h0 ?_
  rw [Int32.lt_iff_toInt_lt] at h1 ⊢
  rw [Int32.toInt_ofNat_of_lt (by omega)] at h1 ⊢
  omega
theorem gI2_f (h3 : gag C D 3) (h1 : gag C D 1) (h : gI2 C) : gI2 D := ⟨fun i => by rw [h3]; exact h.1 i, fun i hi => by rw [gchn_c (fun i => h3 0 i 1)]; exact h.2.1 i hi, by rw [h1]; exact h.2.2.1, fun i => by rw [h3]; exact h.2.2.2 i⟩
theorem gI3_f (hnm : n ≤ m) (hm : m ≤ 600) (h0 : D.1 (0, 0, 0) 0 = C.1 (0, 0, 0) 0) (h1 : D.1 (0, 0, 0) 1 = C.1 (0, 0, 0) 1) (h2 : gag C D 2) (h : gI3 n C) : gI3 m D := by
  unfold gI3
  rw [h0, h1, h2, h2, h2]
  exact ⟨h.1, gin_up h.2.1 hnm (by omega), gin_up h.2.2.1 (by omega) (by omega), h.2.2.2.1, h.2.2.2.2⟩
theorem gI6_f (n6 : D.2 6 0 = C.2 6 0) (h6 : gag C D 6) (h : gI6 C) : gI6 D := fun i hi => by rw [h6]; exact h i (by rw [← n6]; exact hi)
theorem gI8_f (n8 : D.2 8 0 = C.2 8 0) (n7 : D.2 7 0 = C.2 7 0) (h8 : gag C D 8) (h : gI8 C) : gI8 D := fun i hi => by
  rw [n8] at hi
  rw [n7]
  simp only [h8 0 i]
  exact h i hi
theorem gI10_f (n10 : D.2 10 0 = C.2 10 0) (n8 : D.2 8 0 = C.2 8 0) (n9 : D.2 9 0 = C.2 9 0) (h10 : gag C D 10) (h86 : ∀ i, D.1 (8, 0, i) 6 = C.1 (8, 0, i) 6) (h : gI10 C) : gI10 D := fun i hi => by
  rw [n10] at hi
  rw [n8, n9]
  simp only [h10 0 i, h86]
  exact h i hi
theorem gI11_f (n11 : D.2 11 0 = C.2 11 0) (n13 : ∀ g, D.2 13 g = C.2 13 g) (h11 : gag C D 11) (h13 : ∀ g j, D.1 (13, g, j) 1 = C.1 (13, g, j) 1) (h : gI11 C) : gI11 D := fun i hi => by
  rw [n11] at hi
  simp only [h11 0 i, h13, n13]
  exact h i hi
theorem gI13_f (n11 : D.2 11 0 = C.2 11 0) (n13 : ∀ g, D.2 13 g = C.2 13 g) (n10 : D.2 10 0 = C.2 10 0) (h13 : gag C D 13) (h10 : ∀ i, D.1 (10, 0, i) 9 = C.1 (10, 0, i) 9) (h11 : ∀ i, D.1 (11, 0, i) 0 = C.1 (11, 0, i) 0) (h : gI13 C) : gI13 D := fun i j hi hj => by
  rw [n11] at hi
  rw [n13] at hj
  rw [n10]
  simp only [h13 i j, h10, h11]
  exact h i j hi hj
theorem gI12_f (n12 : D.2 12 0 = C.2 12 0) (h12 : gag C D 12) (h : gI12 C) : gI12 D := fun i hi => by
  rw [n12] at hi
  simp only [h12 0 i]
  exact h i hi
theorem gmiss_f (n10 : D.2 10 0 = C.2 10 0) (n11 : D.2 11 0 = C.2 11 0) (h3 : D.1 (0, 0, 0) 3 = C.1 (0, 0, 0) 3) (h4 : D.1 (0, 0, 0) 4 = C.1 (0, 0, 0) 4) (h10 : ∀ i, D.1 (10, 0, i) 3 = C.1 (10, 0, i) 3) (h11 : ∀ i, D.1 (11, 0, i) 1 = C.1 (11, 0, i) 1) (h : gmiss C) : gmiss D := by
  unfold gmiss
  rw [n10, n11]
  simp only [h3, h4, h10, h11]
  exact h
theorem gIx_f (n6 : D.2 6 0 = C.2 6 0) (n7 : D.2 7 0 = C.2 7 0) (n8 : D.2 8 0 = C.2 8 0) (n9 : D.2 9 0 = C.2 9 0) (n10 : D.2 10 0 = C.2 10 0) (hnm : n ≤ m) (hm : m ≤ 600) (h6 : gag C D 6) (h7 : gag C D 7) (h8 : ∀ i, D.1 (8, 0, i) 9 = C.1 (8, 0, i) 9) (h9 : gag C D 9) (h10 : ∀ i, D.1 (10, 0, i) 5 = C.1 (10, 0, i) 5) (h0 : D.1 (0, 0, 0) 2 = C.1 (0, 0, 0) 2) (h83 : ∀ i, D.1 (8, 0, i) 3 = C.1 (8, 0, i) 3) (h : gIx n C) : gIx m D := by
  obtain ⟨a, b, c, d, e, f, g1, g2⟩ := h
  unfold gIx
  rw [n6, n7, n8, n9, n10, h0]
  exact ⟨fun i hi => by rw [h6]; exact a i hi, fun i hi => by rw [h7, h7]; exact b i hi, fun i hi => by rw [h8]; exact gin_up (c i hi) (by omega) (by omega), fun i hi => by rw [h9]; exact d i hi, fun i hi => by rw [h10]; exact e i hi, f, fun i hi => by rw [h9]; exact g1 i hi, fun i hi => by rw [h83]; exact g2 i hi⟩
/-- nothing but the thrown mark has changed -/
theorem gI.up {k : Int32} (h : gI n C) (hnm : n ≤ m) (hm : m ≤ 600) : gI m (gup C (0, 0, 0) 5 k) := by
  obtain ⟨h1, h2, h3, h6, h8, h10, h11, h13, h12, hm', hx⟩ := h
  have g : ∀ a : Nat, a ≠ 0 → gag C (gup C (0, 0, 0) 5 k) a := fun a ha b i j => gup_vc k ha
  have g0 : ∀ j : Nat, j ≠ 5 → (gup C (0, 0, 0) 5 k).1 (0, 0, 0) j = C.1 (0, 0, 0) j := fun j hj => gup_vf k hj
  exact ⟨h1, gI2_f (g 3 (by decide)) (g 1 (by decide)) h2, gI3_f hnm hm (g0 0 (by decide)) (g0 1 (by decide)) (g 2 (by decide)) h3, gI6_f rfl (g 6 (by decide)) h6, gI8_f rfl rfl (g 8 (by decide)) h8, gI10_f rfl rfl rfl (g 10 (by decide)) (fun i => g 8 (by decide) 0 i 6) h10, gI11_f rfl (fun _ => rfl) (g 11 (by decide)) (fun a j => g 13 (by decide) a j 1) h11, gI13_f rfl (fun _ => rfl) rfl (g 13 (by decide)) (fun i => g 10 (by decide) 0 i 9) (fun i => g 11 (by decide) 0 i 0) h13, gI12_f rfl (g 12 (by decide)) h12, gmiss_f rfl rfl (g0 3 (by decide)) (g0 4 (by decide)) (fun i => g 10 (by decide) 0 i 3) (fun i => g 11 (by decide) 0 i 1) hm', gIx_f rfl rfl rfl rfl rfl hnm hm (g 6 (by decide)) (g 7 (by decide)) (fun i => g 8 (by decide) 0 i 9) (g 9 (by decide)) (fun i => g 10 (by decide) 0 i 5) (g0 2 (by decide)) (fun i => g 8 (by decide) 0 i 3) hx⟩
theorem gI.succ (h : gI n C) (hn : n ≤ 512) : gI (n + 1) C := by
  have := h.up (k := C.1 (0, 0, 0) 5) (show n ≤ n + 1 by omega) (by omega)
  rw [gup_id] at this
  exact this
/-- a call's state is good, and says what was thrown -/
def gok1 (n : Nat) (r : gF) : Prop := gI (n + 1) r.2.2 ∧ r.2.2.1 (0, 0, 0) 5 = r.1
theorem gok_thr (h : gI n C) (hn : n ≤ 512) (k : Int32) : gok1 n (gthr C k) := ⟨h.up (by omega) (by omega), gup_v _ _ _ _⟩
theorem gok_id (h : gI n C) (hn : n ≤ 512) (h5 : C.1 (0, 0, 0) 5 = 0) (v : Int32) : gok1 n (0, v, C) := ⟨h.succ hn, h5⟩

end Z36
