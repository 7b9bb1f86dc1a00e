
section Z12
variable {κ : gq_K} {ad : gKey → Nat} {S : gG × gG} {C R : gG} {T : List (Nat × va_E)} {h : gq_H}
/-- x is an index of a list of N -/
def gix (N : Nat) (x : Int32) : Bool := decide (¬ x < 0) && decide (x < Int32.ofNat N)
theorem gix_iff {N : Nat} {x : Int32} : gix N x = true ↔ (¬ x < 0 ∧ x < Int32.ofNat N) := by
  unfold gix
  rw [Bool.and_eq_true, decide_eq_true_eq, decide_eq_true_eq]
theorem gix_lt {N : Nat} {x : Int32} (hN : N ≤ 1000) (h : gix N x = true) : x.toNatClampNeg < N := by
  obtain ⟨h0, h1⟩ := gix_iff.mp h
  rw [Int32.lt_iff_toInt_lt, Int32.toInt_ofNat_of_lt (by omega)] at h1
  rw [Int32.lt_iff_toInt_lt] at h0
  have e0 : (0 : Int32).toInt = 0 := rfl
  rw [← Int32.toNat_toInt]
  omega
theorem gix_of {N : Nat} {x : Int32} (h : gix N x = true) : Int32.ofNat x.toNatClampNeg = x := by
  obtain ⟨h0, -⟩ := gix_iff.mp h
  rw [← Int32.toInt_inj, Int32.toInt_ofNat_of_lt (by have := x.toInt_lt; rw [← Int32.toNat_toInt]; omega), ← Int32.toNat_toInt]
  rw [Int32.lt_iff_toInt_lt] at h0
  have e0 : (0 : Int32).toInt = 0 := rfl
  omega
theorem gin_lt {i : Int32} {N : Nat} (h : vp_in i N) : i.toNatClampNeg < N := by unfold vp_in at h; omega
/-- how many there are of the things that are always there -/
def gfix (N : Nat → Nat → Nat) : Prop := N 0 0 = 1 ∧ N 1 0 = 1 ∧ N 2 0 = 1 ∧ N 3 0 = 4 ∧ (∀ l, l < 7 → N 4 l = 1) ∧ N 4 7 = N 11 0 ∧ N 14 0 = 1 ∧ N 15 0 = 1
theorem gfix_0 {N : Nat → Nat → Nat} (h : gfix N) : N 0 0 = 1 := h.1
theorem gfix_1 {N : Nat → Nat → Nat} (h : gfix N) : N 1 0 = 1 := h.2.1
theorem gfix_2 {N : Nat → Nat → Nat} (h : gfix N) : N 2 0 = 1 := h.2.2.1
theorem gl_C {a i : Nat} (h1 : a < 20) (h4 : a ≠ 4) (h5 : a ≠ 5) (h : i < S.1.2 a 0) : glive S (a, 0, i) := by
  rw [glive_c (K := (a, 0, i)) h1]
  unfold glive1
  rw [if_neg h4, if_neg h5]
  exact ⟨Or.inr rfl, h⟩
theorem gl_R {a i : Nat} (h1 : ¬ a < 20) (h23 : a ≠ 23) (h4 : a ≠ 24) (h5 : a ≠ 25) (h : i < S.2.2 (a - 20) 0) : glive S (a, 0, i) := by
  rw [glive_r (K := (a, 0, i)) h1]
  unfold glive1
  rw [if_neg (by omega), if_neg (by omega)]
  exact ⟨h23, Or.inr rfl, h⟩
theorem gl_4 {l g : Nat} (hl : l ≤ 7) (h : g < S.1.2 4 l) : glive S (4, l, g) := (glive_c (K := (4, l, g)) (show (4:Nat) < 20 by decide)).mpr ⟨hl, h⟩
theorem gl_24 {l g : Nat} (hl : l ≤ 7) (h : g < S.2.2 4 l) : glive S (24, l, g) := (glive_r (K := (24, l, g)) (show ¬ (24:Nat) < 20 by decide)).mpr ⟨by simp, hl, h⟩
theorem gl_0 (h : gfix S.1.2) : glive S (0, 0, 0) := gl_C (by decide) (by decide) (by decide) (by rw [h.1]; decide)
theorem gl_1 (h : gfix S.1.2) : glive S (1, 0, 0) := gl_C (by decide) (by decide) (by decide) (by rw [h.2.1]; decide)
theorem gl_2 (h : gfix S.1.2) : glive S (2, 0, 0) := gl_C (by decide) (by decide) (by decide) (by rw [h.2.2.1]; decide)
theorem gl_14 (h : gfix S.1.2) : glive S (14, 0, 0) := gl_C (by decide) (by decide) (by decide) (by rw [h.2.2.2.2.2.2.1]; decide)
theorem gl_15 (h : gfix S.1.2) : glive S (15, 0, 0) := gl_C (by decide) (by decide) (by decide) (by rw [h.2.2.2.2.2.2.2]; decide)
theorem gl_3_0 (h : gfix S.1.2) : glive S (3, 0, 0) := gl_C (by decide) (by decide) (by decide) (by rw [h.2.2.2.1]; decide)
theorem gl_3_1 (h : gfix S.1.2) : glive S (3, 0, 1) := gl_C (by decide) (by decide) (by decide) (by rw [h.2.2.2.1]; decide)
theorem gl_3_2 (h : gfix S.1.2) : glive S (3, 0, 2) := gl_C (by decide) (by decide) (by decide) (by rw [h.2.2.2.1]; decide)
theorem gl_3_3 (h : gfix S.1.2) : glive S (3, 0, 3) := gl_C (by decide) (by decide) (by decide) (by rw [h.2.2.2.1]; decide)
theorem gl_3 {i : Nat} (h : i < S.1.2 3 0) : glive S (3, 0, i) := gl_C (by decide) (by decide) (by decide) h
theorem gl_20 (h : gfix S.2.2) : glive S (20, 0, 0) := gl_R (by decide) (by decide) (by decide) (by decide) (by show 0 < S.2.2 0 0; rw [h.1]; decide)
theorem gl_21 (h : gfix S.2.2) : glive S (21, 0, 0) := gl_R (by decide) (by decide) (by decide) (by decide) (by show 0 < S.2.2 1 0; rw [h.2.1]; decide)
theorem gl_22 (h : gfix S.2.2) : glive S (22, 0, 0) := gl_R (by decide) (by decide) (by decide) (by decide) (by show 0 < S.2.2 2 0; rw [h.2.2.1]; decide)
theorem gl_34 (h : gfix S.2.2) : glive S (34, 0, 0) := gl_R (by decide) (by decide) (by decide) (by decide) (by show 0 < S.2.2 14 0; rw [h.2.2.2.2.2.2.1]; decide)
theorem gl_35 (h : gfix S.2.2) : glive S (35, 0, 0) := gl_R (by decide) (by decide) (by decide) (by decide) (by show 0 < S.2.2 15 0; rw [h.2.2.2.2.2.2.2]; decide)
theorem gl_4_0 (h : gfix S.1.2) : glive S (4, 0, 0) := gl_4 (by decide) (by rw [h.2.2.2.2.1 0 (by decide)]; decide)
theorem gl_24_0 (h : gfix S.2.2) : glive S (24, 0, 0) := gl_24 (by decide) (by rw [h.2.2.2.2.1 0 (by decide)]; decide)
theorem gl_6 {i : Nat} (h : i < S.1.2 6 0) : glive S (6, 0, i) := gl_C (by decide) (by decide) (by decide) h
theorem gl_26 {i : Nat} (h : i < S.2.2 6 0) : glive S (26, 0, i) := gl_R (by decide) (by decide) (by decide) (by decide) h
theorem gl_4_1 (h : gfix S.1.2) : glive S (4, 1, 0) := gl_4 (by decide) (by rw [h.2.2.2.2.1 1 (by decide)]; decide)
theorem gl_24_1 (h : gfix S.2.2) : glive S (24, 1, 0) := gl_24 (by decide) (by rw [h.2.2.2.2.1 1 (by decide)]; decide)
theorem gl_7 {i : Nat} (h : i < S.1.2 7 0) : glive S (7, 0, i) := gl_C (by decide) (by decide) (by decide) h
theorem gl_27 {i : Nat} (h : i < S.2.2 7 0) : glive S (27, 0, i) := gl_R (by decide) (by decide) (by decide) (by decide) h
theorem gl_4_2 (h : gfix S.1.2) : glive S (4, 2, 0) := gl_4 (by decide) (by rw [h.2.2.2.2.1 2 (by decide)]; decide)
theorem gl_24_2 (h : gfix S.2.2) : glive S (24, 2, 0) := gl_24 (by decide) (by rw [h.2.2.2.2.1 2 (by decide)]; decide)
theorem gl_8 {i : Nat} (h : i < S.1.2 8 0) : glive S (8, 0, i) := gl_C (by decide) (by decide) (by decide) h
theorem gl_28 {i : Nat} (h : i < S.2.2 8 0) : glive S (28, 0, i) := gl_R (by decide) (by decide) (by decide) (by decide) h
theorem gl_4_3 (h : gfix S.1.2) : glive S (4, 3, 0) := gl_4 (by decide) (by rw [h.2.2.2.2.1 3 (by decide)]; decide)
theorem gl_24_3 (h : gfix S.2.2) : glive S (24, 3, 0) := gl_24 (by decide) (by rw [h.2.2.2.2.1 3 (by decide)]; decide)
theorem gl_9 {i : Nat} (h : i < S.1.2 9 0) : glive S (9, 0, i) := gl_C (by decide) (by decide) (by decide) h
theorem gl_29 {i : Nat} (h : i < S.2.2 9 0) : glive S (29, 0, i) := gl_R (by decide) (by decide) (by decide) (by decide) h
theorem gl_4_4 (h : gfix S.1.2) : glive S (4, 4, 0) := gl_4 (by decide) (by rw [h.2.2.2.2.1 4 (by decide)]; decide)
theorem gl_24_4 (h : gfix S.2.2) : glive S (24, 4, 0) := gl_24 (by decide) (by rw [h.2.2.2.2.1 4 (by decide)]; decide)
theorem gl_10 {i : Nat} (h : i < S.1.2 10 0) : glive S (10, 0, i) := gl_C (by decide) (by decide) (by decide) h
theorem gl_30 {i : Nat} (h : i < S.2.2 10 0) : glive S (30, 0, i) := gl_R (by decide) (by decide) (by decide) (by decide) h
theorem gl_4_5 (h : gfix S.1.2) : glive S (4, 5, 0) := gl_4 (by decide) (by rw [h.2.2.2.2.1 5 (by decide)]; decide)
theorem gl_24_5 (h : gfix S.2.2) : glive S (24, 5, 0) := gl_24 (by decide) (by rw [h.2.2.2.2.1 5 (by decide)]; decide)
theorem gl_11 {i : Nat} (h : i < S.1.2 11 0) : glive S (11, 0, i) := gl_C (by decide) (by decide) (by decide) h
theorem gl_31 {i : Nat} (h : i < S.2.2 11 0) : glive S (31, 0, i) := gl_R (by decide) (by decide) (by decide) (by decide) h
theorem gl_4_6 (h : gfix S.1.2) : glive S (4, 6, 0) := gl_4 (by decide) (by rw [h.2.2.2.2.1 6 (by decide)]; decide)
theorem gl_24_6 (h : gfix S.2.2) : glive S (24, 6, 0) := gl_24 (by decide) (by rw [h.2.2.2.2.1 6 (by decide)]; decide)
theorem gl_12 {i : Nat} (h : i < S.1.2 12 0) : glive S (12, 0, i) := gl_C (by decide) (by decide) (by decide) h
theorem gl_32 {i : Nat} (h : i < S.2.2 12 0) : glive S (32, 0, i) := gl_R (by decide) (by decide) (by decide) (by decide) h

theorem gl_13 {g i : Nat} (h : i < S.1.2 13 g) : glive S (13, g, i) := by
  rw [glive_c (K := (13, g, i)) (show (13:Nat) < 20 by decide)]
  exact ⟨Or.inl rfl, h⟩
theorem gl_33 {g i : Nat} (h : i < S.2.2 13 g) : glive S (33, g, i) := by
  rw [glive_r (K := (33, g, i)) (show ¬ (33:Nat) < 20 by decide)]
  exact ⟨by simp, Or.inl rfl, h⟩
theorem gl_4_7 {i : Nat} (hf : gfix S.1.2) (h : i < S.1.2 11 0) : glive S (4, 7, i) := gl_4 (by decide) (by rw [hf.2.2.2.2.2.1]; exact h)
theorem gl_24_7 {i : Nat} (hf : gfix S.2.2) (h : i < S.2.2 11 0) : glive S (24, 7, i) := gl_24 (by decide) (by rw [hf.2.2.2.2.2.1]; exact h)

theorem ghdr_C {l g : Nat} (hh : glive (C, R) (4, l, g)) (hr : gR κ ad (C, R) T h) : h (ad (4, l, g)) = some (ghdr κ (C.2 (6 + l) g) (ad (5, l, g))) := by
  rw [hr.1 _ hh, gent_c (K := (4, l, g)) (show (4:Nat) < 20 by decide)]
  rfl
theorem gbak_C {l g : Nat} (hh : glive (C, R) (4, l, g)) (h0 : 0 < C.2 (6 + l) g) (hr : gR κ ad (C, R) T h) : h (ad (5, l, g)) = some (gbak κ (C.2 (6 + l) g) (fun j => ad (6 + l, g, j))) := by
  have h5 : glive (C, R) (5, l, g) := by
    have h1 := ((glive_c (K := (4, l, g)) (show (4:Nat) < 20 by decide)).mp hh)
    rw [glive_c (K := (5, l, g)) (show (5:Nat) < 20 by decide)]
    exact ⟨h1.1, h1.2, h0⟩
  rw [hr.1 _ h5, gent_c (K := (5, l, g)) (show (5:Nat) < 20 by decide)]
  rfl
theorem sizeC {l g : Nat} (hh : glive (C, R) (4, l, g)) : gq_C κ mJx4a65c_size_8abf5 [.ref (ad (4, l, g))] (gR κ ad (C, R) T) (fun v9 g1 => v9 = some (.int (Int32.ofNat (C.2 (6 + l) g))) ∧ gR κ ad (C, R) T g1) gq_no :=
  c_size _ _ _ _ (fun h hr => ghdr_C hh hr)
theorem getC {l g : Nat} {x : Int32} (hh : glive (C, R) (4, l, g)) (h144 : C.2 (6 + l) g ≤ 144) (hx : gix (C.2 (6 + l) g) x = true) : gq_C κ mJx4a65c_get_915e3 [.ref (ad (4, l, g)), .int x] (gR κ ad (C, R) T) (fun v9 g1 => v9 = some (.ref (ad (6 + l, g, x.toNatClampNeg))) ∧ gR κ ad (C, R) T g1) gq_no := by
  have hlt := gix_lt (by omega) hx
  have hx1 := gix_iff.mp hx
  refine c_get (ad (4, l, g)) (ad (5, l, g)) (gcap (C.2 (6 + l) g)) (Int32.ofNat (C.2 (6 + l) g)) (Int32.ofNat (C.2 (6 + l) g)) (fun j => if j < C.2 (6 + l) g then some (ad (6 + l, g, j)) else none) (fun h hr => ?_) x _ (fun h hr => gbak_C hh (by omega) hr) ?_ (if_pos hlt) hx1.1 hx1.2
  · rw [ghdr_C hh hr]
    unfold ghdr
    rw [if_neg (by omega)]
  · have := gcap_le (n := C.2 (6 + l) g) (by omega)
    unfold vp_in
    intro z
    rcases z with z | z
    · exact hx1.1 z
    · omega
theorem gany_C {N : Nat → Nat → Nat} {r : Nat → Int32} {l g i : Nat} (hl : l ≤ 7) : gq_any κ (gentC κ ad N r (6 + l, g, i)) := by
  obtain rfl | rfl | rfl | rfl | rfl | rfl | rfl | rfl : l = 0 ∨ l = 1 ∨ l = 2 ∨ l = 3 ∨ l = 4 ∨ l = 5 ∨ l = 6 ∨ l = 7 := by omega
  · exact gq_anyO (ci := 7) rfl (by decide +kernel)
  · exact gq_anyO (ci := 9) rfl (by decide +kernel)
  · exact gq_anyO (ci := 4) rfl (by decide +kernel)
  · exact gq_anyO (ci := 13) rfl (by decide +kernel)
  · exact gq_anyO (ci := 12) rfl (by decide +kernel)
  · exact gq_anyO (ci := 6) rfl (by decide +kernel)
  · exact gq_anyO (ci := 10) rfl (by decide +kernel)
  · exact gq_anyO (ci := 11) rfl (by decide +kernel)
theorem addC {l g n q : Nat} {row : Nat → Int32} {e : va_E} (hh : glive (C, R) (4, l, g)) (hg : l = 7 ∨ g = 0) (hn : C.2 (6 + l) g = n) (h144 : n ≤ 144) (he : e = gentC κ ad C.2 row (6 + l, g, n)) (hc : ∀ K' ∈ grefC C.2 row (6 + l, g, n), glive (C, R) K') : gq_C κ mJx4a65c_add_9ea2d [.ref (ad (4, l, g)), .ref q] (gR κ ad (C, R) ((q, e) :: T)) (fun v9 g1 => v9 = some (.int 1) ∧ ∃ ad' : gKey → Nat, (∀ K, K ≠ (6 + l, g, n) → K ≠ (5, l, g) → ad' K = ad K) ∧ ad' (6 + l, g, n) = q ∧ gR κ ad' (gnew C (6 + l, g, n) row, R) T g1) gq_no := by
  refine gq_C.opn fun h hr => ?_
  have hl7 : l ≤ 7 := ((glive_c (K := (4, l, g)) (show (4:Nat) < 20 by decide)).mp hh).1
  have hq := hr.2.2.2.1 (q, e) List.mem_cons_self
  have ha := ghdr_C hh hr
  rw [hn] at ha
  have hqa : q ≠ ad (4, l, g) := fun z => hr.2.2.2.2.1 _ List.mem_cons_self _ hh z.symm
  have hbak : 0 < n → h (ad (5, l, g)) = some (jrow κ (gcap n) n (fun j => some (ad (6 + l, g, j)))) := fun h0 => by
    have := gbak_C hh (by omega) hr
    rw [hn] at this
    exact this
  have hl : jlist κ h (ad (4, l, g)) (if n = 0 then κ.2.2 100 else ad (5, l, g)) n (Int32.ofNat n) (fun j => some (ad (6 + l, g, j))) := by
    refine ⟨ha, ?_⟩
    by_cases h0 : n = 0
    · exact Or.inl ⟨h0, if_pos h0⟩
    · rw [if_neg h0]
      refine Or.inr ⟨by omega, hbak (by omega), fun j y hy => ?_⟩
      have hy : (if j < n then some (ad (6 + l, g, j)) else none) = some y := hy
      by_cases hj : j < n
      · rw [if_pos hj] at hy
        cases hy
        have hlj : glive (C, R) (6 + l, g, j) := by
          rw [glive_c (K := (6 + l, g, j)) (show 6 + l < 20 by omega)]
          unfold glive1
          rw [if_neg (by show ¬ 6 + l = 4; omega), if_neg (by show ¬ 6 + l = 5; omega)]
          exact ⟨by show 6 + l = 13 ∨ g = 0; omega, by show j < C.2 (6 + l) g; omega⟩
        refine ⟨_, hr.1 _ hlj, ?_⟩
        rw [gent_c (K := (6 + l, g, j)) (show 6 + l < 20 by omega)]
        exact gany_C hl7
      · rw [if_neg hj] at hy
        cases hy
  refine gq_C.post (fun v h2 z => ⟨z.1, ?_⟩) (j_add (ad (4, l, g)) (if n = 0 then κ.2.2 100 else ad (5, l, g)) n q (Int32.ofNat n) (fun j => some (ad (6 + l, g, j))) e hq (by rw [he]; exact gany_C hl7) hqa h144 hl)
  obtain ⟨b', z1, z2⟩ := z.2
  refine ⟨gset (gset ad (5, l, g) b') (6 + l, g, n) q, fun K k1 k5 => by rw [gset_ne _ _ k1, gset_ne _ _ k5], gset_eq _ _ _, ?_⟩
  refine hr.pushC (b' := b') hh hg hn ?_ (fun x => ?_) he hc
  · rcases z1 with z1 | ⟨z1, z3⟩
    · exact Or.inl z1
    · exact Or.inr ⟨z1, by rw [z3, if_neg (by omega)]⟩
  · rw [z2]
    have e1 : (.inr (3, [.int (Int32.ofNat n + 1), .ref b', .int (Int32.ofNat (n + 1))]) : va_E) = ghdr κ (n + 1) b' := by
      unfold ghdr
      rw [if_neg (by omega), (gofs (n := n) (by omega)).2.2]
    have e2 : jrow κ (gcap (n + 1)) (n + 1) (fun j => if j = n then some q else some (ad (6 + l, g, j))) = gbak κ (n + 1) (fun j => if j = n then q else ad (6 + l, g, j)) := by
      unfold jrow gbak
      refine congrArg (fun z => (.inl (κ.2.1 4, gcap (n + 1), .inr (.inr (.inr (.inr z)))) : va_E)) (funext fun j => ?_)
      by_cases h1 : j < n + 1
      · rw [if_pos h1, if_pos h1]
        show (if j = n then some q else some (ad (6 + l, g, j))) = some (if j = n then q else ad (6 + l, g, j))
        by_cases h2 : j = n
        · rw [if_pos h2, if_pos h2]
        · rw [if_neg h2, if_neg h2]
      · rw [if_neg h1, if_neg h1]
    rw [e1, e2]

theorem ghdr_R {l g : Nat} (hh : glive (C, R) (24, l, g)) (hr : gR κ ad (C, R) T h) : h (ad (24, l, g)) = some (ghdr κ (R.2 (6 + l) g) (ad (25, l, g))) := by
  rw [hr.1 _ hh, gent_r (K := (24, l, g)) (show ¬ (24:Nat) < 20 by decide)]
  rfl
theorem gbak_R {l g : Nat} (hh : glive (C, R) (24, l, g)) (h0 : 0 < R.2 (6 + l) g) (hr : gR κ ad (C, R) T h) : h (ad (25, l, g)) = some (gbak κ (R.2 (6 + l) g) (fun j => ad (26 + l, g, j))) := by
  have h5 : glive (C, R) (25, l, g) := by
    have h1 := ((glive_r (K := (24, l, g)) (show ¬ (24:Nat) < 20 by decide)).mp hh).2
    rw [glive_r (K := (25, l, g)) (show ¬ (25:Nat) < 20 by decide)]
    exact ⟨by simp, h1.1, h1.2, h0⟩
  rw [hr.1 _ h5, gent_r (K := (25, l, g)) (show ¬ (25:Nat) < 20 by decide)]
  rfl
theorem sizeR {l g : Nat} (hh : glive (C, R) (24, l, g)) : gq_C κ mJx4a65c_size_8abf5 [.ref (ad (24, l, g))] (gR κ ad (C, R) T) (fun v9 g1 => v9 = some (.int (Int32.ofNat (R.2 (6 + l) g))) ∧ gR κ ad (C, R) T g1) gq_no :=
  c_size _ _ _ _ (fun h hr => ghdr_R hh hr)
theorem getR {l g : Nat} {x : Int32} (hh : glive (C, R) (24, l, g)) (h144 : R.2 (6 + l) g ≤ 144) (hx : gix (R.2 (6 + l) g) x = true) : gq_C κ mJx4a65c_get_915e3 [.ref (ad (24, l, g)), .int x] (gR κ ad (C, R) T) (fun v9 g1 => v9 = some (.ref (ad (26 + l, g, x.toNatClampNeg))) ∧ gR κ ad (C, R) T g1) gq_no := by
  have hlt := gix_lt (by omega) hx
  have hx1 := gix_iff.mp hx
  refine c_get (ad (24, l, g)) (ad (25, l, g)) (gcap (R.2 (6 + l) g)) (Int32.ofNat (R.2 (6 + l) g)) (Int32.ofNat (R.2 (6 + l) g)) (fun j => if j < R.2 (6 + l) g then some (ad (26 + l, g, j)) else none) (fun h hr => ?_) x _ (fun h hr => gbak_R hh (by omega) hr) ?_ (if_pos hlt) hx1.1 hx1.2
  · rw [ghdr_R hh hr]
    unfold ghdr
    rw [if_neg (by omega)]
  · have := gcap_le (n := R.2 (6 + l) g) (by omega)
    unfold vp_in
    intro z
    rcases z with z | z
    · exact hx1.1 z
    · omega
theorem gany_R1 {N : Nat → Nat → Nat} {r : Nat → Int32} {l g i : Nat} (hl : l ≤ 7) : gq_any κ (gentR1 κ ad N r (26 + l, g, i)) := by
  obtain rfl | rfl | rfl | rfl | rfl | rfl | rfl | rfl : l = 0 ∨ l = 1 ∨ l = 2 ∨ l = 3 ∨ l = 4 ∨ l = 5 ∨ l = 6 ∨ l = 7 := by omega
  · exact gq_anyI (by decide +kernel)
  · exact gq_anyI (by decide +kernel)
  · exact gq_anyO (ci := 16) rfl (by decide +kernel)
  · exact gq_anyO (ci := 19) rfl (by decide +kernel)
  · exact gq_anyO (ci := 18) rfl (by decide +kernel)
  · exact gq_anyO (ci := 17) rfl (by decide +kernel)
  · exact gq_anyI (by decide +kernel)
  · exact gq_anyI (by decide +kernel)
theorem gany_R {N : Nat → Nat → Nat} {σ : gKey → Nat → Int32} {l g i : Nat} (hl : l ≤ 7) : gq_any κ (gentR κ ad N σ (26 + l, g, i)) := by
  unfold gentR
  rw [if_neg (show ¬ 26 + l = 20 by omega), if_neg (show ¬ 26 + l = 21 by omega), if_neg (show ¬ 26 + l = 22 by omega)]
  exact gany_R1 hl
theorem addR {l g n q : Nat} {row : Nat → Int32} {e : va_E} (hh : glive (C, R) (24, l, g)) (hg : l = 7 ∨ g = 0) (hn : R.2 (6 + l) g = n) (h144 : n ≤ 144) (he : e = gentR1 κ ad R.2 row (26 + l, g, n)) (hc : ∀ K' ∈ grefR R.2 (26 + l, g, n), glive (C, R) K') : gq_C κ mJx4a65c_add_9ea2d [.ref (ad (24, l, g)), .ref q] (gR κ ad (C, R) ((q, e) :: T)) (fun v9 g1 => v9 = some (.int 1) ∧ ∃ ad' : gKey → Nat, (∀ K, K ≠ (26 + l, g, n) → K ≠ (25, l, g) → ad' K = ad K) ∧ ad' (26 + l, g, n) = q ∧ gR κ ad' (C, gnew R (6 + l, g, n) row) T g1) gq_no := by
  refine gq_C.opn fun h hr => ?_
  have hl7 : l ≤ 7 := ((glive_r (K := (24, l, g)) (show ¬ (24:Nat) < 20 by decide)).mp hh).2.1
  have hq := hr.2.2.2.1 (q, e) List.mem_cons_self
  have ha := ghdr_R hh hr
  rw [hn] at ha
  have hqa : q ≠ ad (24, l, g) := fun z => hr.2.2.2.2.1 _ List.mem_cons_self _ hh z.symm
  have hbak : 0 < n → h (ad (25, l, g)) = some (jrow κ (gcap n) n (fun j => some (ad (26 + l, g, j)))) := fun h0 => by
    have := gbak_R hh (by omega) hr
    rw [hn] at this
    exact this
  have hl : jlist κ h (ad (24, l, g)) (if n = 0 then κ.2.2 100 else ad (25, l, g)) n (Int32.ofNat n) (fun j => some (ad (26 + l, g, j))) := by
    refine ⟨ha, ?_⟩
    by_cases h0 : n = 0
    · exact Or.inl ⟨h0, if_pos h0⟩
    · rw [if_neg h0]
      refine Or.inr ⟨by omega, hbak (by omega), fun j y hy => ?_⟩
      have hy : (if j < n then some (ad (26 + l, g, j)) else none) = some y := hy
      by_cases hj : j < n
      · rw [if_pos hj] at hy
        cases hy
        have hlj : glive (C, R) (26 + l, g, j) := by
          rw [glive_r (K := (26 + l, g, j)) (show ¬ 26 + l < 20 by omega)]
          unfold glive1
          show _ ∧ (if 26 + l - 20 = 4 then _ else if 26 + l - 20 = 5 then _ else ((26 + l - 20 = 13 ∨ g = 0) ∧ j < R.2 (26 + l - 20) g))
          rw [if_neg (by omega), if_neg (by omega), show 26 + l - 20 = 6 + l by omega]
          exact ⟨by show 26 + l ≠ 23; omega, by omega, by omega⟩
        refine ⟨_, hr.1 _ hlj, ?_⟩
        rw [gent_r (K := (26 + l, g, j)) (show ¬ 26 + l < 20 by omega)]
        exact gany_R hl7
      · rw [if_neg hj] at hy
        cases hy
  refine gq_C.post (fun v h2 z => ⟨z.1, ?_⟩) (j_add (ad (24, l, g)) (if n = 0 then κ.2.2 100 else ad (25, l, g)) n q (Int32.ofNat n) (fun j => some (ad (26 + l, g, j))) e hq (by rw [he]; exact gany_R1 hl7) hqa h144 hl)
  obtain ⟨b', z1, z2⟩ := z.2
  refine ⟨gset (gset ad (25, l, g) b') (26 + l, g, n) q, fun K k1 k5 => by rw [gset_ne _ _ k1, gset_ne _ _ k5], gset_eq _ _ _, ?_⟩
  refine hr.pushR (b' := b') hh hg hn ?_ (fun x => ?_) he hc
  · rcases z1 with z1 | ⟨z1, z3⟩
    · exact Or.inl z1
    · exact Or.inr ⟨z1, by rw [z3, if_neg (by omega)]⟩
  · rw [z2]
    have e1 : (.inr (3, [.int (Int32.ofNat n + 1), .ref b', .int (Int32.ofNat (n + 1))]) : va_E) = ghdr κ (n + 1) b' := by
      unfold ghdr
      rw [if_neg (by omega), (gofs (n := n) (by omega)).2.2]
    have e2 : jrow κ (gcap (n + 1)) (n + 1) (fun j => if j = n then some q else some (ad (26 + l, g, j))) = gbak κ (n + 1) (fun j => if j = n then q else ad (26 + l, g, j)) := by
      unfold jrow gbak
      refine congrArg (fun z => (.inl (κ.2.1 4, gcap (n + 1), .inr (.inr (.inr (.inr z)))) : va_E)) (funext fun j => ?_)
      by_cases h1 : j < n + 1
      · rw [if_pos h1, if_pos h1]
        show (if j = n then some q else some (ad (26 + l, g, j))) = some (if j = n then q else ad (26 + l, g, j))
        by_cases h2 : j = n
        · rw [if_pos h2, if_pos h2]
        · rw [if_neg h2, if_neg h2]
      · rw [if_neg h1, if_neg h1]
    rw [e1, e2]

end Z12
