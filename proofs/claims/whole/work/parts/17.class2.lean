
section Z17
variable {κ : gq_K} {ad ad' : gKey → Nat} {C C' R : gG} {T : List (Nat × va_E)} {h : gq_H}
/-- things refer to things that are there -/
def gcl (C : gG) : Prop := (∀ i : Nat, i < C.2 8 0 → (C.1 (8, 0, i) 0).toNatClampNeg < C.2 7 0) ∧ (∀ i : Nat, i < C.2 10 0 → (C.1 (10, 0, i) 0).toNatClampNeg < C.2 8 0 ∧ (C.1 (10, 0, i) 1).toNatClampNeg < C.2 9 0) ∧ (∀ g i : Nat, i < C.2 13 g → (C.1 (13, g, i) 0).toNatClampNeg < C.2 10 0)
theorem glive_lt {a i : Nat} (h1 : a < 20) (h4 : a ≠ 4) (h5 : a ≠ 5) (hl : glive (C, R) (a, 0, i)) : i < C.2 a 0 := by
  have h2 := (glive_c (K := (a, 0, i)) h1).mp hl
  unfold glive1 at h2
  rw [if_neg h4, if_neg h5] at h2
  exact h2.2
theorem gR.clC (hr : gR κ ad (C, R) T h) : gcl C := by
  refine ⟨fun i hi => ?_, fun i hi => ⟨?_, ?_⟩, fun g i hi => ?_⟩
  · exact glive_lt (R := R) (by decide) (by decide) (by decide) (hr.2.2.1 _ (gl_8 hi) _ (by rw [gref_c (K := (8, 0, i)) (show (8:Nat) < 20 by decide)]; exact .head _))
  · exact glive_lt (R := R) (by decide) (by decide) (by decide) (hr.2.2.1 _ (gl_10 hi) _ (by rw [gref_c (K := (10, 0, i)) (show (10:Nat) < 20 by decide)]; exact .head _))
  · exact glive_lt (R := R) (by decide) (by decide) (by decide) (hr.2.2.1 _ (gl_10 hi) _ (by rw [gref_c (K := (10, 0, i)) (show (10:Nat) < 20 by decide)]; exact .tail _ (.head _)))
  · exact glive_lt (R := R) (by decide) (by decide) (by decide) (hr.2.2.1 _ (gl_13 hi) _ (by rw [gref_c (K := (13, g, i)) (show (13:Nat) < 20 by decide)]; exact .head _))
theorem gin2 {x : Int32} (h0 : ¬ x < 0) (h1 : x < 2) : vp_in x 2 := by
  have := gix_lt (N := 2) (by decide) (gixN h0 h1)
  unfold vp_in
  intro z
  rcases z with z | z
  · exact h0 z
  · omega
theorem gper_nz {x : Int32} (h : ¬ gper x < 1) : ¬ gper x = 0 := fun z => h (by rw [z]; decide)
def F_press (C : gG) (a b c : Int32) : gF := if ¬ gix (C.2 7 0) a = true then gthr C 1 else if b < 0 ∨ ¬ b < 4 ∨ c < 1 then gthr C 2 else if C.1 (7, 0, a.toNatClampNeg) 4 < c then gthr C 3 else if ¬ C.1 (14, 0, 0) b.toNatClampNeg < 200 then gthr C 3 else if ¬ gmov C 4 1 = true then gthr C 3 else if ¬ Int32.ofNat (C.2 8 0) < 16 then gthr C 4 else (0, (Int32.ofNat (C.2 8 0 + 1)) - 1, (gnew (gup (gup C (14, 0, 0) b.toNatClampNeg ((C.1 (14, 0, 0) b.toNatClampNeg) + ((c * (10 - (C.1 (7, 0, a.toNatClampNeg) 3))) / 5))) (7, 0, a.toNatClampNeg) 4 ((C.1 (7, 0, a.toNatClampNeg) 4) - c)) (8, 0, (C.2 8 0)) ((glist [a, 20 * c, 0, 20 + C.1 (14, 0, 0) b.toNatClampNeg / 40, 0, 0, -1, -1, 0, 0, 0, 0]))))
def F_dry (C : gG) (a b : Int32) : gF := if ¬ gix (C.2 8 0) a = true then gthr C 1 else if b < 1 ∨ 5 < b then gthr C 2 else if ¬ C.1 (8, 0, a.toNatClampNeg) 5 = 0 then gthr C 3 else (0, (C.1 (0, 0, 0) 0) + (((18 + b) - 1) / b), (gup (gup (gup (gup C (8, 0, a.toNatClampNeg) 5 1) (8, 0, a.toNatClampNeg) 4 ((C.1 (0, 0, 0) 0) + (((18 + b) - 1) / b))) (8, 0, a.toNatClampNeg) 2 ((((C.1 (8, 0, a.toNatClampNeg) 1) * (b - 1)) * (10 - (C.1 (7, 0, (C.1 (8, 0, a.toNatClampNeg) 0).toNatClampNeg) 3))) / 500)) (8, 0, a.toNatClampNeg) 1 ((C.1 (8, 0, a.toNatClampNeg) 1) - ((((C.1 (8, 0, a.toNatClampNeg) 1) * (b - 1)) * (10 - (C.1 (7, 0, (C.1 (8, 0, a.toNatClampNeg) 0).toNatClampNeg) 3))) / 500))))
def F_fire (C : gG) (a b c d : Int32) : gF := if ¬ gix (C.2 8 0) a = true then gthr C 1 else if b < 0 ∨ ¬ b < 2 ∨ ¬ gin 700 c 1200 = true ∨ ¬ gin 1 d 12 = true then gthr C 2 else if C.1 (8, 0, a.toNatClampNeg) 5 = 0 ∨ C.1 (0, 0, 0) 0 < C.1 (8, 0, a.toNatClampNeg) 4 ∨ ¬ C.1 (8, 0, a.toNatClampNeg) 6 < 0 then gthr C 3 else if C.1 (0, 0, 0) 0 < C.1 (15, 0, 0) b.toNatClampNeg then gthr C 3 else (0, C.1 (0, 0, 0) 1, gup (gup (gup (gup (gup (gup (gup (gup C (8, 0, a.toNatClampNeg) 9 (((((1000 - (C.1 (7, 0, (C.1 (8, 0, a.toNatClampNeg) 0).toNatClampNeg) 2)) * (c - 600)) / 1000) + (20 * (C.1 (7, 0, (C.1 (8, 0, a.toNatClampNeg) 0).toNatClampNeg) 3))) + (5 * d))) (8, 0, a.toNatClampNeg) 10 (gclamp (((C.1 (7, 0, (C.1 (8, 0, a.toNatClampNeg) 0).toNatClampNeg) 2) - ((c - 700) / 10)) + (5 * (C.1 (7, 0, (C.1 (8, 0, a.toNatClampNeg) 0).toNatClampNeg) 3))) 0 999)) (8, 0, a.toNatClampNeg) 4 ((C.1 (0, 0, 0) 0) + d)) (8, 0, a.toNatClampNeg) 7 b) (8, 0, a.toNatClampNeg) 6 (C.1 (0, 0, 0) 1)) (15, 0, 0) b.toNatClampNeg ((C.1 (0, 0, 0) 0) + d)) (0, 0, 0) 1 ((C.1 (0, 0, 0) 1) + 1)) (8, 0, a.toNatClampNeg) 11 b)
def F_soak (C : gG) (a b : Int32) : gF := if ¬ gix (C.2 8 0) a = true then gthr C 1 else if ¬ gin 1 b 5 = true then gthr C 2 else if C.1 (8, 0, a.toNatClampNeg) 6 < 0 ∨ C.1 (0, 0, 0) 0 < C.1 (8, 0, a.toNatClampNeg) 4 ∨ ¬ C.1 (8, 0, a.toNatClampNeg) 8 = 0 then gthr C 3 else (0, (C.1 (8, 0, a.toNatClampNeg) 9) + (10 * b), (gup (gup (gup C (8, 0, a.toNatClampNeg) 8 1) (8, 0, a.toNatClampNeg) 9 ((C.1 (8, 0, a.toNatClampNeg) 9) + (10 * b))) (8, 0, a.toNatClampNeg) 10 (gclamp ((C.1 (8, 0, a.toNatClampNeg) 10) + (8 * b)) 0 999)))
def F_batch (C : gG) (a b : Int32) : gF := if ¬ gix (C.2 8 0) a = true then gthr C 1 else if b = 98 then (0, C.1 (8, 0, a.toNatClampNeg) 3, C) else if b = 100 then (0, C.1 (8, 0, a.toNatClampNeg) 10, C) else if b = 102 then (0, C.1 (8, 0, a.toNatClampNeg) 6, C) else if b = 110 then (0, C.1 (8, 0, a.toNatClampNeg) 1, C) else if b = 114 then (0, C.1 (8, 0, a.toNatClampNeg) 4, C) else if b = 115 then (0, C.1 (8, 0, a.toNatClampNeg) 9, C) else if b = 119 then (0, C.1 (8, 0, a.toNatClampNeg) 2, C) else gthr C 2
def F_draw (C : gG) (a : Int32) : gF := if ¬ gix (C.2 8 0) a = true then gthr C 1 else if C.1 (8, 0, a.toNatClampNeg) 6 < 0 ∨ C.1 (0, 0, 0) 0 < C.1 (8, 0, a.toNatClampNeg) 4 then gthr C 2 else (0, gclamp ((C.1 (8, 0, a.toNatClampNeg) 10) + C.1 (2, 0, 0) 0) 0 999, (gtell C))
def F_slats (C : gG) (a b c d : Int32) : gF := if ¬ a = 99 ∧ ¬ a = 98 then gthr C 1 else if ¬ gin 0 b 9 = true ∨ ¬ gin 0 c 40 = true ∨ ¬ gin 1 d 500 = true then gthr C 1 else if ¬ Int32.ofNat (C.2 9 0) < 12 then gthr C 2 else (0, (Int32.ofNat (C.2 9 0 + 1)) - 1, (gnew C (9, 0, (C.2 9 0)) ((glist [a, b, c, d, 0, 0]))))
def F_season (C : gG) (a b : Int32) : gF := if ¬ gix (C.2 9 0) a = true then gthr C 1 else if ¬ gin 1 b 200 = true then gthr C 2 else if C.1 (0, 0, 0) 0 < C.1 (9, 0, a.toNatClampNeg) 5 then gthr C 3 else (0, C.1 (0, 0, 0) 0 + b, gup (gup C (9, 0, a.toNatClampNeg) 2 (gmax 0 (C.1 (9, 0, a.toNatClampNeg) 2 - b / (if C.1 (9, 0, a.toNatClampNeg) 0 = 99 then 6 else 9)))) (9, 0, a.toNatClampNeg) 5 (C.1 (0, 0, 0) 0 + b))
def F_groove (C : gG) (a b : Int32) : gF := if ¬ gix (C.2 9 0) a = true then gthr C 1 else if ¬ gin 5 b 30 = true then gthr C 2 else if C.1 (0, 0, 0) 0 < C.1 (9, 0, a.toNatClampNeg) 5 ∨ 10 < C.1 (9, 0, a.toNatClampNeg) 2 ∨ 0 < C.1 (9, 0, a.toNatClampNeg) 4 then gthr C 3 else if ¬ gmov C 4 2 = true then gthr C 3 else (0, C.1 (9, 0, a.toNatClampNeg) 3, (gup C (9, 0, a.toNatClampNeg) 4 b))
def F_slat (C : gG) (a b : Int32) : gF := if ¬ gix (C.2 9 0) a = true then gthr C 1 else if b = 103 then (0, C.1 (9, 0, a.toNatClampNeg) 4, C) else if b = 110 then (0, C.1 (9, 0, a.toNatClampNeg) 3, C) else if b = 114 then (0, C.1 (9, 0, a.toNatClampNeg) 5, C) else if b = 119 then (0, C.1 (9, 0, a.toNatClampNeg) 2, C) else gthr C 2
def F_lay (C : gG) (a b c d e : Int32) : gF := if ¬ gix (C.2 8 0) a = true then gthr C 1 else if ¬ gix (C.2 9 0) b = true then gthr C 1 else if gper c < 1 ∨ ¬ gin 1 d 500 = true ∨ ¬ gin 0 e 9 = true then gthr C 2 else if C.1 (8, 0, a.toNatClampNeg) 6 < 0 ∨ C.1 (0, 0, 0) 0 < C.1 (8, 0, a.toNatClampNeg) 4 ∨ C.1 (0, 0, 0) 0 < C.1 (9, 0, b.toNatClampNeg) 5 ∨ ¬ 0 < C.1 (9, 0, b.toNatClampNeg) 4 then gthr C 3 else if 2 < gabs (2 * C.1 (9, 0, b.toNatClampNeg) 4 - C.1 (8, 0, a.toNatClampNeg) 3) then gthr C 3 else if C.1 (8, 0, a.toNatClampNeg) 1 < d ∨ C.1 (9, 0, b.toNatClampNeg) 3 < (d + gper c - 1) / gper c * 2 then gthr C 3 else if ¬ Int32.ofNat (C.2 10 0) < 16 then gthr C 4 else (0, (Int32.ofNat (C.2 10 0 + 1)) - 1, (gnew (gup (gup (gup C (8, 0, a.toNatClampNeg) 1 ((C.1 (8, 0, a.toNatClampNeg) 1) - d)) (9, 0, b.toNatClampNeg) 3 ((C.1 (9, 0, b.toNatClampNeg) 3) - ((((d + (gper c)) - 1) / (gper c)) * 2))) (0, 0, 0) 3 ((C.1 (0, 0, 0) 3) + d)) (10, 0, (C.2 10 0)) ((glist [a, b, e, d, 0, gabs (2 * C.1 (9, 0, b.toNatClampNeg) 4 - C.1 (8, 0, a.toNatClampNeg) 3) + C.1 (9, 0, b.toNatClampNeg) 1 / 4, C.1 (0, 0, 0) 0 + 6, 0, -1, -1, 0]))))
def F_coat (C : gG) (a b : Int32) : gF := if ¬ gix (C.2 10 0) a = true then gthr C 1 else if ¬ gin 0 b 9 = true then gthr C 2 else if C.1 (0, 0, 0) 0 < C.1 (10, 0, a.toNatClampNeg) 6 ∨ ¬ C.1 (10, 0, a.toNatClampNeg) 7 < 8 then gthr C 3 else if ¬ gmov C 4 3 = true then gthr C 3 else (0, (C.1 (10, 0, a.toNatClampNeg) 7) + 1, (gup (gup (gup C (10, 0, a.toNatClampNeg) 7 ((C.1 (10, 0, a.toNatClampNeg) 7) + 1)) (10, 0, a.toNatClampNeg) 8 b) (10, 0, a.toNatClampNeg) 6 ((C.1 (0, 0, 0) 0) + 8)))
def F_stamp (C : gG) (a : Int32) : gF := if ¬ gix (C.2 10 0) a = true then gthr C 1 else if C.1 (0, 0, 0) 0 < C.1 (10, 0, a.toNatClampNeg) 6 ∨ C.1 (10, 0, a.toNatClampNeg) 7 < 3 ∨ ¬ C.1 (10, 0, a.toNatClampNeg) 9 < 0 then gthr C 2 else if C.1 (0, 0, 0) 0 < C.1 (8, 0, (C.1 (10, 0, a.toNatClampNeg) 0).toNatClampNeg) 4 then gthr C 2 else (0, (gclamp ((C.1 (8, 0, (C.1 (10, 0, a.toNatClampNeg) 0).toNatClampNeg) 10) + C.1 (2, 0, 0) 0) 0 999) / 50, (gup (gtell C) (10, 0, a.toNatClampNeg) 9 ((gclamp ((C.1 (8, 0, (C.1 (10, 0, a.toNatClampNeg) 0).toNatClampNeg) 10) + C.1 (2, 0, 0) 0) 0 999) / 50)))
def F_erase (C : gG) (a b : Int32) : gF := if ¬ gix (C.2 10 0) a = true then gthr C 1 else if ¬ gin 0 b 9 = true then gthr C 2 else if C.1 (10, 0, a.toNatClampNeg) 9 < 0 ∨ ¬ C.1 (10, 0, a.toNatClampNeg) 10 = 0 then gthr C 3 else (0, C.1 (10, 0, a.toNatClampNeg) 3, (gup C (10, 0, a.toNatClampNeg) 10 1))
def F_run (C : gG) (a b : Int32) : gF := if ¬ gix (C.2 10 0) a = true then gthr C 1 else if b = 98 then (0, C.1 (10, 0, a.toNatClampNeg) 4, C) else if b = 99 then (0, C.1 (10, 0, a.toNatClampNeg) 7, C) else if b = 103 then (0, C.1 (10, 0, a.toNatClampNeg) 9, C) else if b = 108 then (0, C.1 (10, 0, a.toNatClampNeg) 8, C) else if b = 110 then (0, C.1 (10, 0, a.toNatClampNeg) 3, C) else if b = 111 then (0, C.1 (10, 0, a.toNatClampNeg) 5, C) else if b = 114 then (0, C.1 (10, 0, a.toNatClampNeg) 6, C) else gthr C 2
def F_fall (C : gG) (a b : Int32) : gF := if ¬ gix (C.2 10 0) a = true then gthr C 1 else if ¬ gin 1 b 9 = true then gthr C 2 else (0, gmin (((C.1 (10, 0, a.toNatClampNeg) 3) * (gmax 0 (((40 * b) + (20 * (C.1 (10, 0, a.toNatClampNeg) 5))) - (C.1 (8, 0, (C.1 (10, 0, a.toNatClampNeg) 0).toNatClampNeg) 9)))) / 400) ((C.1 (10, 0, a.toNatClampNeg) 3) - (C.1 (10, 0, a.toNatClampNeg) 4)), (gup C (10, 0, a.toNatClampNeg) 4 ((C.1 (10, 0, a.toNatClampNeg) 4) + (gmin (((C.1 (10, 0, a.toNatClampNeg) 3) * (gmax 0 (((40 * b) + (20 * (C.1 (10, 0, a.toNatClampNeg) 5))) - (C.1 (8, 0, (C.1 (10, 0, a.toNatClampNeg) 0).toNatClampNeg) 9)))) / 400) ((C.1 (10, 0, a.toNatClampNeg) 3) - (C.1 (10, 0, a.toNatClampNeg) 4))))))
def F_seed (C : gG) (a : Int32) : gF := if ¬ gin 1 a 2147483646 = true then gthr C 1 else (0, C.1 (0, 0, 0) 2, (gup C (0, 0, 0) 2 a))
def F_order (C : gG) (a b c : Int32) : gF := if ¬ gin 0 a 19 = true ∨ ¬ gin 1 b 9 = true ∨ ¬ gin 0 c 9999 = true then gthr C 1 else if c < C.1 (0, 0, 0) 0 then gthr C 1 else if ¬ Int32.ofNat (C.2 12 0) < 12 then gthr C 2 else (0, (Int32.ofNat (C.2 12 0 + 1)) - 1, (gnew C (12, 0, (C.2 12 0)) ((glist [a, b, c, 0]))))
def F_ship (C : gG) (a b : Int32) : gF := if ¬ gix (C.2 12 0) a = true then gthr C 1 else if ¬ gix (C.2 11 0) b = true then gthr C 1 else if C.1 (11, 0, b.toNatClampNeg) 1 < 144 ∨ ¬ C.1 (11, 0, b.toNatClampNeg) 0 = C.1 (12, 0, a.toNatClampNeg) 0 ∨ ¬ C.1 (11, 0, b.toNatClampNeg) 2 = 0 then gthr C 2 else if C.1 (12, 0, a.toNatClampNeg) 1 < 1 then gthr C 2 else (0, C.1 (12, 0, a.toNatClampNeg) 1 - 1, if C.1 (12, 0, a.toNatClampNeg) 2 < C.1 (0, 0, 0) 0 then gup (gup (gup C (11, 0, b.toNatClampNeg) 2 1) (12, 0, a.toNatClampNeg) 1 (C.1 (12, 0, a.toNatClampNeg) 1 - 1)) (12, 0, a.toNatClampNeg) 3 1 else gup (gup C (11, 0, b.toNatClampNeg) 2 1) (12, 0, a.toNatClampNeg) 1 (C.1 (12, 0, a.toNatClampNeg) 1 - 1))
theorem p_press {κ : gq_K} {ad : gKey → Nat} {C R : gG} {T : List (Nat × va_E)} (hC : gfix C.2) (hBC : gcnt C.2) (hM : gmach C) (a : Int32) (b : Int32) (c : Int32) : gq_C κ mX11_press [.ref (ad (0, 0, 0)), .int (a), .int (b), .int (c)] (gR κ ad (C, R) T) (gQ κ ad R T (F_press C a b c)) (gE κ ad R T [("java/lang/IndexOutOfBoundsException", 1), ("java/lang/IllegalArgumentException", 2), ("java/lang/UnsupportedOperationException", 3), ("java/lang/IllegalStateException", 4)] (F_press C a b c)) := by
  refine gq_enter (by decide +kernel) rfl (Nat.le_of_ble_eq_true rfl) rfl (fun f o => ?_)
  refine y_aload_n (pc := 0) o dX11_press_0 rfl ?_
  refine y_iload_n (pc := 1) o dX11_press_1 rfl ?_
  refine z_callV (pc := 2) (k := 0) (n := 0) (k' := 1) (n' := 6) o (b := ad (0, 0, 0)) (As := [.int (a)]) (rest := []) (kMixN hC hBC a) ln_X11_179 dX11_press_2 (z_rc (ci := 15) (K := (0, 0, 0)) rfl (gl_0 hC) rfl) rfl rfl (Nat.le_of_ble_eq_true rfl) ⟨by decide, by decide⟩ ⟨rfl, rfl⟩ ⟨by decide, by decide⟩ rfl (fun x h hE => by obtain ⟨rfl, hz, hr⟩ := hE; exact gE_mk (k := 1) (by simp only [F_press, hz, not_true_eq_false, not_false_eq_true, if_true, if_false, or_true, true_or, or_false, false_or, and_true, true_and, and_false, false_and, or_self, and_self, eq_self, Bool.false_eq_true, ne_eq, reduceIte]) (.head _) hr) (y_and fun (g1 : gix (C.2 7 0) a = true) => ?_)
  refine y_astore (pc := 5) (i := 4) (lv' := [(4, .ref (ad (7, 0, a.toNatClampNeg))), (0, .ref (ad (0, 0, 0))), (1, .int (a)), (2, .int (b)), (3, .int (c))]) o dX11_press_5 (by decide) rfl ?_
  refine y_iload_n (pc := 7) o dX11_press_7 rfl ?_
  refine y_if_lt (pc := 8) (tgt := 25) o dX11_press_8 rfl (fun (b2 : b < 0) => ?_) (fun (b2 : ¬ b < 0) => ?_)
  · exact y_throwS (pc := 25) o 23 rfl th_79 qw_295 qw_38 dX11_press_25 dX11_press_28 dX11_press_29 dX11_press_31 dX11_press_34 rfl ⟨by decide, Nat.le_of_ble_eq_true rfl⟩ (by decide) (by decide) (fun h hp => gE_mk (k := 2) (by simp only [F_press, b2, g1, not_true_eq_false, not_false_eq_true, if_true, if_false, or_true, true_or, or_false, false_or, and_true, true_and, and_false, false_and, or_self, and_self, eq_self, Bool.false_eq_true, ne_eq, reduceIte]) (.tail _ (.head _)) hp)
  refine y_iload_n (pc := 11) o dX11_press_11 rfl ?_
  refine y_aload_n (pc := 12) o dX11_press_12 rfl ?_
  refine z_get (pc := 13) (K := (0, 0, 0)) (v := .ref (ad (14, 0, 0))) o fl_X11_48 dX11_press_13 (gl_0 hC) rfl rfl ?_
  refine z_alen (pc := 16) (K := (14, 0, 0)) (v := 4) o dX11_press_16 (gl_14 hC) rfl rfl ?_
  refine z_icmp_ge (pc := 17) (tgt := 25) o dX11_press_17 rfl (fun (b3 : ¬ b < 4) => ?_) (fun (b3 : b < 4) => ?_)
  · exact y_throwS (pc := 25) o 23 rfl th_79 qw_295 qw_38 dX11_press_25 dX11_press_28 dX11_press_29 dX11_press_31 dX11_press_34 rfl ⟨by decide, Nat.le_of_ble_eq_true rfl⟩ (by decide) (by decide) (fun h hp => gE_mk (k := 2) (by simp only [F_press, b2, b3, g1, not_true_eq_false, not_false_eq_true, if_true, if_false, or_true, true_or, or_false, false_or, and_true, true_and, and_false, false_and, or_self, and_self, eq_self, Bool.false_eq_true, ne_eq, reduceIte]) (.tail _ (.head _)) hp)
  refine y_iload_n (pc := 20) o dX11_press_20 rfl ?_
  refine y_iconst (pc := 21) (x := 1) o dX11_press_21 (by decide) ?_
  refine z_icmp_ge (pc := 22) (tgt := 35) o dX11_press_22 rfl (fun (b4 : ¬ c < 1) => ?_) (fun (b4 : c < 1) => ?_)
  · refine y_aload (pc := 35) o dX11_press_35 rfl ?_
    refine z_get (pc := 37) (K := (7, 0, a.toNatClampNeg)) (v := .int (C.1 (7, 0, a.toNatClampNeg) 4)) o fl_X11_189 dX11_press_37 (gl_7 (gix_lt (Nat.le_trans (hBC 1 0 (by decide)) (by decide)) g1)) rfl rfl ?_
    refine y_iload_n (pc := 40) o dX11_press_40 rfl ?_
    refine z_icmp_ge (pc := 41) (tgt := 54) o dX11_press_41 rfl (fun (b5 : ¬ (C.1 (7, 0, a.toNatClampNeg) 4) < c) => ?_) (fun (b5 : (C.1 (7, 0, a.toNatClampNeg) 4) < c) => ?_)
    · refine y_aload_n (pc := 54) o dX11_press_54 rfl ?_
      refine z_get (pc := 55) (K := (0, 0, 0)) (v := .ref (ad (14, 0, 0))) o fl_X11_48 dX11_press_55 (gl_0 hC) rfl rfl ?_
      refine y_iload_n (pc := 58) o dX11_press_58 rfl ?_
      refine z_iald (pc := 59) (K := (14, 0, 0)) (i := b) (v := C.1 (14, 0, 0) b.toNatClampNeg) o dX11_press_59 (gl_14 hC) rfl (gin4 b2 b3) (if_pos (gin_lt (gin4 b2 b3))) ?_
      refine y_sipush (pc := 60) (x := 200) o dX11_press_60 (by decide) ?_
      refine y_icmp_lt (pc := 63) (tgt := 76) o dX11_press_63 rfl (fun (b6 : (C.1 (14, 0, 0) b.toNatClampNeg) < 200) => ?_) (fun (b6 : ¬ (C.1 (14, 0, 0) b.toNatClampNeg) < 200) => ?_)
      · refine y_aload_n (pc := 76) o dX11_press_76 rfl ?_
        refine z_get (pc := 77) (K := (0, 0, 0)) (v := .ref (ad (1, 0, 0))) o fl_X11_10 dX11_press_77 (gl_0 hC) rfl rfl ?_
        refine y_aload_n (pc := 80) o dX11_press_80 rfl ?_
        refine z_get (pc := 81) (K := (0, 0, 0)) (v := .ref (ad (1, 0, 0))) o fl_X11_10 dX11_press_81 (gl_0 hC) rfl rfl ?_
        refine z_get (pc := 84) (K := (1, 0, 0)) (v := .ref (ad (3, 0, 1))) o fl_X11_198 dX11_press_84 (gl_1 hC) rfl rfl ?_
        refine z_callV (pc := 87) (k := 1) (n := 6) (k' := 1) (n' := 6) o (b := ad (1, 0, 0)) (As := [.ref (ad (3, 0, 1))]) (rest := []) (kMoves hC hM 1 (by decide)) ln_X11_119 dX11_press_87 (z_rc (ci := 5) (K := (1, 0, 0)) rfl (gl_1 hC) rfl) rfl rfl (Nat.le_of_ble_eq_true rfl) ⟨by decide, by decide⟩ ⟨rfl, rfl⟩ ⟨by decide, by decide⟩ rfl gq_nox2 ?_
        refine z_bne (pc := 90) (tgt := 103) o dX11_press_90 rfl (fun (b7 : gmov C 4 1 = true) => ?_) (fun (b7 : ¬ (gmov C 4 1 = true)) => ?_)
        · refine y_aload_n (pc := 103) o dX11_press_103 rfl ?_
          refine z_get (pc := 104) (K := (0, 0, 0)) (v := .ref (ad (4, 2, 0))) o fl_X11_33 dX11_press_104 (gl_0 hC) rfl rfl ?_
          refine z_callV (pc := 107) (k := 1) (n := 6) (k' := 1) (n' := 6) o (b := ad (4, 2, 0)) (As := []) (rest := []) (sizeC (l := 2) (g := 0) (gl_4_2 hC)) ln_X11_127 dX11_press_107 (z_rc (ci := 3) (K := (4, 2, 0)) rfl (gl_4_2 hC) rfl) rfl rfl (Nat.le_of_ble_eq_true rfl) ⟨by decide, by decide⟩ ⟨rfl, rfl⟩ ⟨by decide, by decide⟩ rfl gq_nox2 ?_
          refine y_bipush (pc := 110) (x := 16) o dX11_press_110 (by decide) ?_
          refine y_icmp_lt (pc := 112) (tgt := 125) o dX11_press_112 rfl (fun (b8 : (Int32.ofNat (C.2 8 0)) < 16) => ?_) (fun (b8 : ¬ (Int32.ofNat (C.2 8 0)) < 16) => ?_)
          · refine y_bipush (pc := 125) (x := 20) o dX11_press_125 (by decide) ?_
            refine y_aload_n (pc := 127) o dX11_press_127 rfl ?_
            refine z_get (pc := 128) (K := (0, 0, 0)) (v := .ref (ad (14, 0, 0))) o fl_X11_48 dX11_press_128 (gl_0 hC) rfl rfl ?_
            refine y_iload_n (pc := 131) o dX11_press_131 rfl ?_
            refine z_iald (pc := 132) (K := (14, 0, 0)) (i := b) (v := C.1 (14, 0, 0) b.toNatClampNeg) o dX11_press_132 (gl_14 hC) rfl (gin4 b2 b3) (if_pos (gin_lt (gin4 b2 b3))) ?_
            refine y_bipush (pc := 133) (x := 40) o dX11_press_133 (by decide) ?_
            refine y_idiv (pc := 135) o dX11_press_135 (by decide) ?_
            refine y_iadd (pc := 136) o dX11_press_136 ?_
            refine y_istore (pc := 137) (i := 5) (lv' := [(5, .int (20 + ((C.1 (14, 0, 0) b.toNatClampNeg) / 40))), (4, .ref (ad (7, 0, a.toNatClampNeg))), (0, .ref (ad (0, 0, 0))), (1, .int (a)), (2, .int (b)), (3, .int (c))]) o dX11_press_137 (by decide) rfl ?_
            refine y_aload_n (pc := 139) o dX11_press_139 rfl ?_
            refine z_get (pc := 140) (K := (0, 0, 0)) (v := .ref (ad (14, 0, 0))) o fl_X11_48 dX11_press_140 (gl_0 hC) rfl rfl ?_
            refine y_iload_n (pc := 143) o dX11_press_143 rfl ?_
            refine y_dup2 (pc := 144) o dX11_press_144 rfl rfl ?_
            refine z_iald (pc := 145) (K := (14, 0, 0)) (i := b) (v := C.1 (14, 0, 0) b.toNatClampNeg) o dX11_press_145 (gl_14 hC) rfl (gin4 b2 b3) (if_pos (gin_lt (gin4 b2 b3))) ?_
            refine y_iload_n (pc := 146) o dX11_press_146 rfl ?_
            refine y_bipush (pc := 147) (x := 10) o dX11_press_147 (by decide) ?_
            refine y_aload (pc := 149) o dX11_press_149 rfl ?_
            refine z_get (pc := 151) (K := (7, 0, a.toNatClampNeg)) (v := .int (C.1 (7, 0, a.toNatClampNeg) 3)) o fl_X11_186 dX11_press_151 (gl_7 (gix_lt (Nat.le_trans (hBC 1 0 (by decide)) (by decide)) g1)) rfl rfl ?_
            refine y_isub (pc := 154) o dX11_press_154 ?_
            refine y_imul (pc := 155) o dX11_press_155 ?_
            refine y_iconst (pc := 156) (x := 5) o dX11_press_156 (by decide) ?_
            refine y_idiv (pc := 157) o dX11_press_157 (by decide) ?_
            refine y_iadd (pc := 158) o dX11_press_158 ?_
            refine z_iastC (pc := 159) (K := (14, 0, 0)) (i := b) (x := (C.1 (14, 0, 0) b.toNatClampNeg) + ((c * (10 - (C.1 (7, 0, a.toNatClampNeg) 3))) / 5)) o dX11_press_159 (gl_14 hC) (show (14:Nat) < 20 by decide) (fun _ => rfl) (fun _ => rfl) (gin4 b2 b3) ?_
            refine y_aload (pc := 160) o dX11_press_160 rfl ?_
            refine y_dup (pc := 162) o dX11_press_162 rfl ?_
            refine z_get (pc := 163) (K := (7, 0, a.toNatClampNeg)) (v := .int ((gup C (14, 0, 0) b.toNatClampNeg ((C.1 (14, 0, 0) b.toNatClampNeg) + ((c * (10 - (C.1 (7, 0, a.toNatClampNeg) 3))) / 5))).1 (7, 0, a.toNatClampNeg) 4)) o fl_X11_189 dX11_press_163 (gl_7 (gix_lt (Nat.le_trans (hBC 1 0 (by decide)) (by decide)) g1)) rfl rfl ?_
            refine z_top (congrArg Value.int (gup_vc _ (show (7:Nat) ≠ 14 by decide))) ?_
            refine y_iload_n (pc := 166) o dX11_press_166 rfl ?_
            refine y_isub (pc := 167) o dX11_press_167 ?_
            refine z_putC (pc := 168) (K := (7, 0, a.toNatClampNeg)) (fd := 4) (x := (C.1 (7, 0, a.toNatClampNeg) 4) - c) o fw_X11_189 dX11_press_168 (gl_7 (gix_lt (Nat.le_trans (hBC 1 0 (by decide)) (by decide)) g1)) (show (7:Nat) < 20 by decide) rfl (Nat.le_of_ble_eq_true rfl) (vp_nar_int _) rfl rfl pC_7_4 (z_refC (show (7:Nat) < 20 by decide) (gl_7 (gix_lt (Nat.le_trans (hBC 1 0 (by decide)) (by decide)) g1)) qC_7_4) ?_
            refine y_aload_n (pc := 171) o dX11_press_171 rfl ?_
            refine z_get (pc := 172) (K := (0, 0, 0)) (v := .ref (ad (4, 2, 0))) o fl_X11_33 dX11_press_172 (gl_0 hC) rfl rfl ?_
            refine z_new (pc := 175) (k := 1) (n := 6) o nw_X11_205 dX11_press_175 (by decide) (by decide) (fun q9 => ?_)
            refine y_dup (pc := 178) o dX11_press_178 rfl ?_
            refine y_aload_n (pc := 179) o dX11_press_179 rfl ?_
            refine z_get (pc := 180) (K := (0, 0, 0)) (v := .ref (ad (4, 2, 0))) o fl_X11_33 dX11_press_180 (gl_0 hC) rfl rfl ?_
            refine z_callV (pc := 183) (k := 2) (n := 18) (k' := 2) (n' := 18) o (b := ad (4, 2, 0)) (As := []) (rest := [.ref (q9), .ref (q9), .ref (ad (4, 2, 0))]) (sizeC (l := 2) (g := 0) (gl_4_2 hC)) ln_X11_127 dX11_press_183 (z_rc (ci := 3) (K := (4, 2, 0)) rfl (gl_4_2 hC) rfl) rfl rfl (Nat.le_of_ble_eq_true rfl) ⟨by decide, by decide⟩ ⟨rfl, rfl⟩ ⟨by decide, by decide⟩ rfl gq_nox2 ?_
            refine y_aload (pc := 186) o dX11_press_186 rfl ?_
            refine y_bipush (pc := 188) (x := 20) o dX11_press_188 (by decide) ?_
            refine y_iload_n (pc := 190) o dX11_press_190 rfl ?_
            refine y_imul (pc := 191) o dX11_press_191 ?_
            refine y_iload (pc := 192) o dX11_press_192 rfl ?_
            refine z_callI (pc := 194) (k := 2) (n := 18) (k' := 2) (n' := 18) o (b := q9) (As := [.int (Int32.ofNat (C.2 8 0)), .ref (ad (7, 0, a.toNatClampNeg)), .int (20 * c), .int (20 + ((C.1 (14, 0, 0) b.toNatClampNeg) / 40))]) (rest := [.ref (q9), .ref (ad (4, 2, 0))]) (kX0_init _ (Int32.ofNat (C.2 8 0)) (ad (7, 0, a.toNatClampNeg)) (20 * c) (20 + ((C.1 (14, 0, 0) b.toNatClampNeg) / 40))) ln_X11_207 dX11_press_194 rfl rfl (Nat.le_of_ble_eq_true rfl) ⟨by decide, by decide⟩ ⟨rfl, rfl⟩ ⟨by decide, by decide⟩ ?_
            refine y_callV (pc := 197) (k := 2) (n := 18) o (b := ad (4, 2, 0)) (As := [.ref q9]) (rest := []) (addCa (C := (gup (gup C (14, 0, 0) b.toNatClampNeg ((C.1 (14, 0, 0) b.toNatClampNeg) + ((c * (10 - (C.1 (7, 0, a.toNatClampNeg) 3))) / 5))) (7, 0, a.toNatClampNeg) 4 ((C.1 (7, 0, a.toNatClampNeg) 4) - c))) (R := R) (l := 2) (g := 0) (n := C.2 8 0) (row := (glist [a, 20 * c, 0, 20 + C.1 (14, 0, 0) b.toNatClampNeg / 40, 0, 0, -1, -1, 0, 0, 0, 0])) (a := 8) rfl (gl_4_2 hC) (Or.inr rfl) rfl (hBC 2 0 (by decide)) nC_8 (by rw [rC_8]; intro K hK; rw [List.mem_singleton] at hK; subst hK; exact gl_7 (gix_lt (Nat.le_trans (hBC 1 0 (by decide)) (by decide)) g1))) ln_X11_138 dX11_press_197 (z_rc (ci := 3) (K := (4, 2, 0)) rfl (gl_4_2 hC) rfl) rfl rfl (Nat.le_of_ble_eq_true rfl) ⟨by decide, by decide⟩ ⟨by decide, by decide⟩ (fun _ e => e) rfl gq_nox2 (fun v => y_and fun ev => y_ex fun ad10 => y_and fun had => y_and fun hadq => ?_)
            subst ev
            have e0 : ad10 (0, 0, 0) = ad (0, 0, 0) := had (0, 0, 0) (by simp) (by simp)
            have e20 : ad10 (20, 0, 0) = ad (20, 0, 0) := had (20, 0, 0) (by simp) (by simp)
            refine z_st (st' := [.int (1)]) rfl ?_
            rw [← e0]
            refine y_pop (pc := 200) o dX11_press_200 rfl ?_
            refine y_aload_n (pc := 201) o dX11_press_201 rfl ?_
            refine z_get (pc := 202) (K := (0, 0, 0)) (v := .ref (ad10 (4, 2, 0))) o fl_X11_33 dX11_press_202 (gl_0 (gfix_new (a := 8) (by decide) hC)) rfl rfl ?_
            refine z_callV (pc := 205) (k := 3) (n := 274) (k' := 3) (n' := 274) o (b := ad10 (4, 2, 0)) (As := []) (rest := []) (sizeC (l := 2) (g := 0) (gl_4_2 (gfix_new (a := 8) (by decide) hC))) ln_X11_127 dX11_press_205 (z_rc (ci := 3) (K := (4, 2, 0)) rfl (gl_4_2 (gfix_new (a := 8) (by decide) hC)) rfl) rfl rfl (Nat.le_of_ble_eq_true rfl) ⟨by decide, by decide⟩ ⟨rfl, rfl⟩ ⟨by decide, by decide⟩ rfl gq_nox2 ?_
            refine z_top (w := .int (Int32.ofNat (C.2 8 0 + 1))) (congrArg (fun z => Value.int (Int32.ofNat z)) (gnew_n _ _)) ?_
            refine y_iconst (pc := 208) (x := 1) o dX11_press_208 (by decide) ?_
            refine y_isub (pc := 209) o dX11_press_209 ?_
            exact y_iret (pc := 210) o dX11_press_210 rfl (vp_nar_int _) (by decide) (by decide) (fun h hp => gQ_mk2 (by simp only [F_press, b2, b3, b4, b5, b6, b7, b8, g1, not_true_eq_false, not_false_eq_true, if_true, if_false, or_true, true_or, or_false, false_or, and_true, true_and, and_false, false_and, or_self, and_self, eq_self, Bool.false_eq_true, ne_eq, reduceIte]) e0 e20 hp)
          exact y_throwS (pc := 115) o 27 rfl th_86 qw_366 qw_39 dX11_press_115 dX11_press_118 dX11_press_119 dX11_press_121 dX11_press_124 rfl ⟨by decide, Nat.le_of_ble_eq_true rfl⟩ (by decide) (by decide) (fun h hp => gE_mk (k := 4) (by simp only [F_press, b2, b3, b4, b5, b6, b7, b8, g1, not_true_eq_false, not_false_eq_true, if_true, if_false, or_true, true_or, or_false, false_or, and_true, true_and, and_false, false_and, or_self, and_self, eq_self, Bool.false_eq_true, ne_eq, reduceIte]) (.tail _ (.tail _ (.tail _ (.head _)))) hp)
        exact y_throwS (pc := 93) o 26 rfl th_105 qw_400 qw_40 dX11_press_93 dX11_press_96 dX11_press_97 dX11_press_99 dX11_press_102 rfl ⟨by decide, Nat.le_of_ble_eq_true rfl⟩ (by decide) (by decide) (fun h hp => gE_mk (k := 3) (by simp only [F_press, b2, b3, b4, b5, b6, b7, g1, not_true_eq_false, not_false_eq_true, if_true, if_false, or_true, true_or, or_false, false_or, and_true, true_and, and_false, false_and, or_self, and_self, eq_self, Bool.false_eq_true, ne_eq, reduceIte]) (.tail _ (.tail _ (.head _))) hp)
      exact y_throwS (pc := 66) o 25 rfl th_105 qw_400 qw_40 dX11_press_66 dX11_press_69 dX11_press_70 dX11_press_72 dX11_press_75 rfl ⟨by decide, Nat.le_of_ble_eq_true rfl⟩ (by decide) (by decide) (fun h hp => gE_mk (k := 3) (by simp only [F_press, b2, b3, b4, b5, b6, g1, not_true_eq_false, not_false_eq_true, if_true, if_false, or_true, true_or, or_false, false_or, and_true, true_and, and_false, false_and, or_self, and_self, eq_self, Bool.false_eq_true, ne_eq, reduceIte]) (.tail _ (.tail _ (.head _))) hp)
    exact y_throwS (pc := 44) o 24 rfl th_105 qw_400 qw_40 dX11_press_44 dX11_press_47 dX11_press_48 dX11_press_50 dX11_press_53 rfl ⟨by decide, Nat.le_of_ble_eq_true rfl⟩ (by decide) (by decide) (fun h hp => gE_mk (k := 3) (by simp only [F_press, b2, b3, b4, b5, g1, not_true_eq_false, not_false_eq_true, if_true, if_false, or_true, true_or, or_false, false_or, and_true, true_and, and_false, false_and, or_self, and_self, eq_self, Bool.false_eq_true, ne_eq, reduceIte]) (.tail _ (.tail _ (.head _))) hp)
  exact y_throwS (pc := 25) o 23 rfl th_79 qw_295 qw_38 dX11_press_25 dX11_press_28 dX11_press_29 dX11_press_31 dX11_press_34 rfl ⟨by decide, Nat.le_of_ble_eq_true rfl⟩ (by decide) (by decide) (fun h hp => gE_mk (k := 2) (by simp only [F_press, b2, b3, b4, g1, not_true_eq_false, not_false_eq_true, if_true, if_false, or_true, true_or, or_false, false_or, and_true, true_and, and_false, false_and, or_self, and_self, eq_self, Bool.false_eq_true, ne_eq, reduceIte]) (.tail _ (.head _)) hp)

theorem p_dry {κ : gq_K} {ad : gKey → Nat} {C R : gG} {T : List (Nat × va_E)} (hC : gfix C.2) (hBC : gcnt C.2) (hM : gmach C) (a : Int32) (b : Int32) : gq_C κ mX11_dry [.ref (ad (0, 0, 0)), .int (a), .int (b)] (gR κ ad (C, R) T) (gQ κ ad R T (F_dry C a b)) (gE κ ad R T [("java/lang/IndexOutOfBoundsException", 1), ("java/lang/IllegalArgumentException", 2), ("java/lang/UnsupportedOperationException", 3)] (F_dry C a b)) := by
  refine gq_enter (by decide +kernel) rfl (Nat.le_of_ble_eq_true rfl) rfl (fun f o => ?_)
  refine z_fact (fun h hr => hr.clC) (fun hcl => ?_)
  refine y_aload_n (pc := 0) o dX11_dry_0 rfl ?_
  refine y_iload_n (pc := 1) o dX11_dry_1 rfl ?_
  refine z_callV (pc := 2) (k := 0) (n := 0) (k' := 1) (n' := 6) o (b := ad (0, 0, 0)) (As := [.int (a)]) (rest := []) (kBatN hC hBC a) ln_X11_212 dX11_dry_2 (z_rc (ci := 15) (K := (0, 0, 0)) rfl (gl_0 hC) rfl) rfl rfl (Nat.le_of_ble_eq_true rfl) ⟨by decide, by decide⟩ ⟨rfl, rfl⟩ ⟨by decide, by decide⟩ rfl (fun x h hE => by obtain ⟨rfl, hz, hr⟩ := hE; exact gE_mk (k := 1) (by simp only [F_dry, hz, not_true_eq_false, not_false_eq_true, if_true, if_false, or_true, true_or, or_false, false_or, and_true, true_and, and_false, false_and, or_self, and_self, eq_self, Bool.false_eq_true, ne_eq, reduceIte]) (.head _) hr) (y_and fun (g1 : gix (C.2 8 0) a = true) => ?_)
  refine y_astore_n (pc := 5) (i := 3) (lv' := [(3, .ref (ad (8, 0, a.toNatClampNeg))), (0, .ref (ad (0, 0, 0))), (1, .int (a)), (2, .int (b))]) o dX11_dry_5 rfl (by decide) rfl ?_
  refine y_iload_n (pc := 6) o dX11_dry_6 rfl ?_
  refine y_iconst (pc := 7) (x := 1) o dX11_dry_7 (by decide) ?_
  refine y_icmp_lt (pc := 8) (tgt := 16) o dX11_dry_8 rfl (fun (b2 : b < 1) => ?_) (fun (b2 : ¬ b < 1) => ?_)
  · exact y_throwS (pc := 16) o 30 rfl th_79 qw_295 qw_38 dX11_dry_16 dX11_dry_19 dX11_dry_20 dX11_dry_22 dX11_dry_25 rfl ⟨by decide, Nat.le_of_ble_eq_true rfl⟩ (by decide) (by decide) (fun h hp => gE_mk (k := 2) (by simp only [F_dry, b2, g1, not_true_eq_false, not_false_eq_true, if_true, if_false, or_true, true_or, or_false, false_or, and_true, true_and, and_false, false_and, or_self, and_self, eq_self, Bool.false_eq_true, ne_eq, reduceIte]) (.tail _ (.head _)) hp)
  refine y_iload_n (pc := 11) o dX11_dry_11 rfl ?_
  refine y_iconst (pc := 12) (x := 5) o dX11_dry_12 (by decide) ?_
  refine z_icmp_le (pc := 13) (tgt := 26) o dX11_dry_13 rfl (fun (b3 : ¬ 5 < b) => ?_) (fun (b3 : 5 < b) => ?_)
  · refine y_aload_n (pc := 26) o dX11_dry_26 rfl ?_
    refine z_get (pc := 27) (K := (8, 0, a.toNatClampNeg)) (v := .int (C.1 (8, 0, a.toNatClampNeg) 5)) o fl_X11_218 dX11_dry_27 (gl_8 (gix_lt (Nat.le_trans (hBC 2 0 (by decide)) (by decide)) g1)) rfl rfl ?_
    refine y_if_eq (pc := 30) (tgt := 43) o dX11_dry_30 rfl (fun (b4 : (C.1 (8, 0, a.toNatClampNeg) 5) = 0) => ?_) (fun (b4 : ¬ (C.1 (8, 0, a.toNatClampNeg) 5) = 0) => ?_)
    · refine y_aload_n (pc := 43) o dX11_dry_43 rfl ?_
      refine y_iconst (pc := 44) (x := 1) o dX11_dry_44 (by decide) ?_
      refine z_putC (pc := 45) (K := (8, 0, a.toNatClampNeg)) (fd := 5) (x := 1) o fw_X11_218 dX11_dry_45 (gl_8 (gix_lt (Nat.le_trans (hBC 2 0 (by decide)) (by decide)) g1)) (show (8:Nat) < 20 by decide) rfl (Nat.le_of_ble_eq_true rfl) rfl rfl rfl pC_8_10 (z_refC (show (8:Nat) < 20 by decide) (gl_8 (gix_lt (Nat.le_trans (hBC 2 0 (by decide)) (by decide)) g1)) qC_8_10) ?_
      refine y_aload_n (pc := 48) o dX11_dry_48 rfl ?_
      refine y_aload_n (pc := 49) o dX11_dry_49 rfl ?_
      refine z_get (pc := 50) (K := (0, 0, 0)) (v := .int ((gup C (8, 0, a.toNatClampNeg) 5 1).1 (0, 0, 0) 0)) o fl_X11_55 dX11_dry_50 (gl_0 hC) rfl rfl ?_
      refine z_top (congrArg Value.int (gup_ff _ (show (0:Nat) ≠ 5 by decide))) ?_
      refine y_bipush (pc := 53) (x := 18) o dX11_dry_53 (by decide) ?_
      refine y_iload_n (pc := 55) o dX11_dry_55 rfl ?_
      refine y_iadd (pc := 56) o dX11_dry_56 ?_
      refine y_iconst (pc := 57) (x := 1) o dX11_dry_57 (by decide) ?_
      refine y_isub (pc := 58) o dX11_dry_58 ?_
      refine y_iload_n (pc := 59) o dX11_dry_59 rfl ?_
      refine y_idiv (pc := 60) o dX11_dry_60 (fun z => b2 (by rw [z]; decide)) ?_
      refine y_iadd (pc := 61) o dX11_dry_61 ?_
      refine z_putC (pc := 62) (K := (8, 0, a.toNatClampNeg)) (fd := 4) (x := (C.1 (0, 0, 0) 0) + (((18 + b) - 1) / b)) o fw_X11_223 dX11_dry_62 (gl_8 (gix_lt (Nat.le_trans (hBC 2 0 (by decide)) (by decide)) g1)) (show (8:Nat) < 20 by decide) rfl (Nat.le_of_ble_eq_true rfl) (vp_nar_int _) rfl rfl pC_8_5 (z_refC (show (8:Nat) < 20 by decide) (gl_8 (gix_lt (Nat.le_trans (hBC 2 0 (by decide)) (by decide)) g1)) qC_8_5) ?_
      refine y_aload_n (pc := 65) o dX11_dry_65 rfl ?_
      refine y_aload_n (pc := 66) o dX11_dry_66 rfl ?_
      refine z_get (pc := 67) (K := (8, 0, a.toNatClampNeg)) (v := .int ((gup (gup C (8, 0, a.toNatClampNeg) 5 1) (8, 0, a.toNatClampNeg) 4 ((C.1 (0, 0, 0) 0) + (((18 + b) - 1) / b))).1 (8, 0, a.toNatClampNeg) 1)) o fl_X11_226 dX11_dry_67 (gl_8 (gix_lt (Nat.le_trans (hBC 2 0 (by decide)) (by decide)) g1)) rfl rfl ?_
      refine z_top (congrArg Value.int (Eq.trans (gup_vf _ (show (1:Nat) ≠ 4 by decide)) (gup_vf _ (show (1:Nat) ≠ 5 by decide)))) ?_
      refine y_iload_n (pc := 70) o dX11_dry_70 rfl ?_
      refine y_iconst (pc := 71) (x := 1) o dX11_dry_71 (by decide) ?_
      refine y_isub (pc := 72) o dX11_dry_72 ?_
      refine y_imul (pc := 73) o dX11_dry_73 ?_
      refine y_bipush (pc := 74) (x := 10) o dX11_dry_74 (by decide) ?_
      refine y_aload_n (pc := 76) o dX11_dry_76 rfl ?_
      refine z_get (pc := 77) (K := (8, 0, a.toNatClampNeg)) (v := .ref (ad (7, 0, ((gup (gup C (8, 0, a.toNatClampNeg) 5 1) (8, 0, a.toNatClampNeg) 4 ((C.1 (0, 0, 0) 0) + (((18 + b) - 1) / b))).1 (8, 0, a.toNatClampNeg) 0).toNatClampNeg))) o fl_X11_229 dX11_dry_77 (gl_8 (gix_lt (Nat.le_trans (hBC 2 0 (by decide)) (by decide)) g1)) rfl rfl ?_
      refine z_top (congrArg (fun z : Int32 => Value.ref (ad (7, 0, z.toNatClampNeg))) (Eq.trans (gup_vf _ (show (0:Nat) ≠ 4 by decide)) (gup_vf _ (show (0:Nat) ≠ 5 by decide)))) ?_
      refine z_get (pc := 80) (K := (7, 0, (C.1 (8, 0, a.toNatClampNeg) 0).toNatClampNeg)) (v := .int ((gup (gup C (8, 0, a.toNatClampNeg) 5 1) (8, 0, a.toNatClampNeg) 4 ((C.1 (0, 0, 0) 0) + (((18 + b) - 1) / b))).1 (7, 0, (C.1 (8, 0, a.toNatClampNeg) 0).toNatClampNeg) 3)) o fl_X11_186 dX11_dry_80 (gl_7 (hcl.1 _ (gix_lt (Nat.le_trans (hBC 2 0 (by decide)) (by decide)) g1))) rfl rfl ?_
      refine z_top (congrArg Value.int (Eq.trans (gup_ff _ (show (3:Nat) ≠ 4 by decide)) (gup_ff _ (show (3:Nat) ≠ 5 by decide)))) ?_
      refine y_isub (pc := 83) o dX11_dry_83 ?_
      refine y_imul (pc := 84) o dX11_dry_84 ?_
      refine y_sipush (pc := 85) (x := 500) o dX11_dry_85 (by decide) ?_
      refine y_idiv (pc := 88) o dX11_dry_88 (by decide) ?_
      refine z_putC (pc := 89) (K := (8, 0, a.toNatClampNeg)) (fd := 2) (x := (((C.1 (8, 0, a.toNatClampNeg) 1) * (b - 1)) * (10 - (C.1 (7, 0, (C.1 (8, 0, a.toNatClampNeg) 0).toNatClampNeg) 3))) / 500) o fw_X11_233 dX11_dry_89 (gl_8 (gix_lt (Nat.le_trans (hBC 2 0 (by decide)) (by decide)) g1)) (show (8:Nat) < 20 by decide) rfl (Nat.le_of_ble_eq_true rfl) (vp_nar_int _) rfl rfl pC_8_4 (z_refC (show (8:Nat) < 20 by decide) (gl_8 (gix_lt (Nat.le_trans (hBC 2 0 (by decide)) (by decide)) g1)) qC_8_4) ?_
      refine y_aload_n (pc := 92) o dX11_dry_92 rfl ?_
      refine y_dup (pc := 93) o dX11_dry_93 rfl ?_
      refine z_get (pc := 94) (K := (8, 0, a.toNatClampNeg)) (v := .int ((gup (gup (gup C (8, 0, a.toNatClampNeg) 5 1) (8, 0, a.toNatClampNeg) 4 ((C.1 (0, 0, 0) 0) + (((18 + b) - 1) / b))) (8, 0, a.toNatClampNeg) 2 ((((C.1 (8, 0, a.toNatClampNeg) 1) * (b - 1)) * (10 - (C.1 (7, 0, (C.1 (8, 0, a.toNatClampNeg) 0).toNatClampNeg) 3))) / 500)).1 (8, 0, a.toNatClampNeg) 1)) o fl_X11_226 dX11_dry_94 (gl_8 (gix_lt (Nat.le_trans (hBC 2 0 (by decide)) (by decide)) g1)) rfl rfl ?_
      refine z_top (congrArg Value.int (Eq.trans (gup_vf _ (show (1:Nat) ≠ 2 by decide)) (Eq.trans (gup_vf _ (show (1:Nat) ≠ 4 by decide)) (gup_vf _ (show (1:Nat) ≠ 5 by decide))))) ?_
      refine y_aload_n (pc := 97) o dX11_dry_97 rfl ?_
      refine z_get (pc := 98) (K := (8, 0, a.toNatClampNeg)) (v := .int ((gup (gup (gup C (8, 0, a.toNatClampNeg) 5 1) (8, 0, a.toNatClampNeg) 4 ((C.1 (0, 0, 0) 0) + (((18 + b) - 1) / b))) (8, 0, a.toNatClampNeg) 2 ((((C.1 (8, 0, a.toNatClampNeg) 1) * (b - 1)) * (10 - (C.1 (7, 0, (C.1 (8, 0, a.toNatClampNeg) 0).toNatClampNeg) 3))) / 500)).1 (8, 0, a.toNatClampNeg) 2)) o fl_X11_233 dX11_dry_98 (gl_8 (gix_lt (Nat.le_trans (hBC 2 0 (by decide)) (by decide)) g1)) rfl rfl ?_
      refine z_top (congrArg Value.int (gup_v _ _ _ _)) ?_
      refine y_isub (pc := 101) o dX11_dry_101 ?_
      refine z_putC (pc := 102) (K := (8, 0, a.toNatClampNeg)) (fd := 1) (x := (C.1 (8, 0, a.toNatClampNeg) 1) - ((((C.1 (8, 0, a.toNatClampNeg) 1) * (b - 1)) * (10 - (C.1 (7, 0, (C.1 (8, 0, a.toNatClampNeg) 0).toNatClampNeg) 3))) / 500)) o fw_X11_226 dX11_dry_102 (gl_8 (gix_lt (Nat.le_trans (hBC 2 0 (by decide)) (by decide)) g1)) (show (8:Nat) < 20 by decide) rfl (Nat.le_of_ble_eq_true rfl) (vp_nar_int _) rfl rfl pC_8_3 (z_refC (show (8:Nat) < 20 by decide) (gl_8 (gix_lt (Nat.le_trans (hBC 2 0 (by decide)) (by decide)) g1)) qC_8_3) ?_
      refine y_aload_n (pc := 105) o dX11_dry_105 rfl ?_
      refine z_get (pc := 106) (K := (8, 0, a.toNatClampNeg)) (v := .int ((gup (gup (gup (gup C (8, 0, a.toNatClampNeg) 5 1) (8, 0, a.toNatClampNeg) 4 ((C.1 (0, 0, 0) 0) + (((18 + b) - 1) / b))) (8, 0, a.toNatClampNeg) 2 ((((C.1 (8, 0, a.toNatClampNeg) 1) * (b - 1)) * (10 - (C.1 (7, 0, (C.1 (8, 0, a.toNatClampNeg) 0).toNatClampNeg) 3))) / 500)) (8, 0, a.toNatClampNeg) 1 ((C.1 (8, 0, a.toNatClampNeg) 1) - ((((C.1 (8, 0, a.toNatClampNeg) 1) * (b - 1)) * (10 - (C.1 (7, 0, (C.1 (8, 0, a.toNatClampNeg) 0).toNatClampNeg) 3))) / 500))).1 (8, 0, a.toNatClampNeg) 4)) o fl_X11_223 dX11_dry_106 (gl_8 (gix_lt (Nat.le_trans (hBC 2 0 (by decide)) (by decide)) g1)) rfl rfl ?_
      refine z_top (congrArg Value.int (Eq.trans (gup_vf _ (show (4:Nat) ≠ 1 by decide)) (Eq.trans (gup_vf _ (show (4:Nat) ≠ 2 by decide)) (gup_v _ _ _ _)))) ?_
      exact y_iret (pc := 109) o dX11_dry_109 rfl (vp_nar_int _) (by decide) (by decide) (fun h hp => gQ_mk (by simp only [F_dry, b2, b3, eq_true b4, g1, not_true_eq_false, not_false_eq_true, if_true, if_false, or_true, true_or, or_false, false_or, and_true, true_and, and_false, false_and, or_self, and_self, eq_self, Bool.false_eq_true, ne_eq, reduceIte]) hp)
    exact y_throwS (pc := 33) o 31 rfl th_105 qw_400 qw_40 dX11_dry_33 dX11_dry_36 dX11_dry_37 dX11_dry_39 dX11_dry_42 rfl ⟨by decide, Nat.le_of_ble_eq_true rfl⟩ (by decide) (by decide) (fun h hp => gE_mk (k := 3) (by simp only [F_dry, b2, b3, b4, g1, not_true_eq_false, not_false_eq_true, if_true, if_false, or_true, true_or, or_false, false_or, and_true, true_and, and_false, false_and, or_self, and_self, eq_self, Bool.false_eq_true, ne_eq, reduceIte]) (.tail _ (.tail _ (.head _))) hp)
  exact y_throwS (pc := 16) o 30 rfl th_79 qw_295 qw_38 dX11_dry_16 dX11_dry_19 dX11_dry_20 dX11_dry_22 dX11_dry_25 rfl ⟨by decide, Nat.le_of_ble_eq_true rfl⟩ (by decide) (by decide) (fun h hp => gE_mk (k := 2) (by simp only [F_dry, b2, b3, g1, not_true_eq_false, not_false_eq_true, if_true, if_false, or_true, true_or, or_false, false_or, and_true, true_and, and_false, false_and, or_self, and_self, eq_self, Bool.false_eq_true, ne_eq, reduceIte]) (.tail _ (.head _)) hp)

theorem p_fire {κ : gq_K} {ad : gKey → Nat} {C R : gG} {T : List (Nat × va_E)} (hC : gfix C.2) (hBC : gcnt C.2) (hM : gmach C) (a : Int32) (b : Int32) (c : Int32) (d : Int32) : gq_C κ mX11_fire [.ref (ad (0, 0, 0)), .int (a), .int (b), .int (c), .int (d)] (gR κ ad (C, R) T) (gQ κ ad R T (F_fire C a b c d)) (gE κ ad R T [("java/lang/IndexOutOfBoundsException", 1), ("java/lang/IllegalArgumentException", 2), ("java/lang/UnsupportedOperationException", 3)] (F_fire C a b c d)) := by
  refine gq_enter (by decide +kernel) rfl (Nat.le_of_ble_eq_true rfl) rfl (fun f o => ?_)
  refine z_fact (fun h hr => hr.clC) (fun hcl => ?_)
  refine y_aload_n (pc := 0) o dX11_fire_0 rfl ?_
  refine y_iload_n (pc := 1) o dX11_fire_1 rfl ?_
  refine z_callV (pc := 2) (k := 0) (n := 0) (k' := 1) (n' := 6) o (b := ad (0, 0, 0)) (As := [.int (a)]) (rest := []) (kBatN hC hBC a) ln_X11_212 dX11_fire_2 (z_rc (ci := 15) (K := (0, 0, 0)) rfl (gl_0 hC) rfl) rfl rfl (Nat.le_of_ble_eq_true rfl) ⟨by decide, by decide⟩ ⟨rfl, rfl⟩ ⟨by decide, by decide⟩ rfl (fun x h hE => by obtain ⟨rfl, hz, hr⟩ := hE; exact gE_mk (k := 1) (by simp only [F_fire, hz, not_true_eq_false, not_false_eq_true, if_true, if_false, or_true, true_or, or_false, false_or, and_true, true_and, and_false, false_and, or_self, and_self, eq_self, Bool.false_eq_true, ne_eq, reduceIte]) (.head _) hr) (y_and fun (g1 : gix (C.2 8 0) a = true) => ?_)
  refine y_astore (pc := 5) (i := 5) (lv' := [(5, .ref (ad (8, 0, a.toNatClampNeg))), (0, .ref (ad (0, 0, 0))), (1, .int (a)), (2, .int (b)), (3, .int (c)), (4, .int (d))]) o dX11_fire_5 (by decide) rfl ?_
  refine y_iload_n (pc := 7) o dX11_fire_7 rfl ?_
  refine y_if_lt (pc := 8) (tgt := 44) o dX11_fire_8 rfl (fun (b2 : b < 0) => ?_) (fun (b2 : ¬ b < 0) => ?_)
  · exact y_throwS (pc := 44) o 32 rfl th_79 qw_295 qw_38 dX11_fire_44 dX11_fire_47 dX11_fire_48 dX11_fire_50 dX11_fire_53 rfl ⟨by decide, Nat.le_of_ble_eq_true rfl⟩ (by decide) (by decide) (fun h hp => gE_mk (k := 2) (by simp only [F_fire, b2, g1, not_true_eq_false, not_false_eq_true, if_true, if_false, or_true, true_or, or_false, false_or, and_true, true_and, and_false, false_and, or_self, and_self, eq_self, Bool.false_eq_true, ne_eq, reduceIte]) (.tail _ (.head _)) hp)
  refine y_iload_n (pc := 11) o dX11_fire_11 rfl ?_
  refine y_aload_n (pc := 12) o dX11_fire_12 rfl ?_
  refine z_get (pc := 13) (K := (0, 0, 0)) (v := .ref (ad (15, 0, 0))) o fl_X11_52 dX11_fire_13 (gl_0 hC) rfl rfl ?_
  refine z_alen (pc := 16) (K := (15, 0, 0)) (v := 2) o dX11_fire_16 (gl_15 hC) rfl rfl ?_
  refine z_icmp_ge (pc := 17) (tgt := 44) o dX11_fire_17 rfl (fun (b3 : ¬ b < 2) => ?_) (fun (b3 : b < 2) => ?_)
  · exact y_throwS (pc := 44) o 32 rfl th_79 qw_295 qw_38 dX11_fire_44 dX11_fire_47 dX11_fire_48 dX11_fire_50 dX11_fire_53 rfl ⟨by decide, Nat.le_of_ble_eq_true rfl⟩ (by decide) (by decide) (fun h hp => gE_mk (k := 2) (by simp only [F_fire, b2, b3, g1, not_true_eq_false, not_false_eq_true, if_true, if_false, or_true, true_or, or_false, false_or, and_true, true_and, and_false, false_and, or_self, and_self, eq_self, Bool.false_eq_true, ne_eq, reduceIte]) (.tail _ (.head _)) hp)
  refine y_iload_n (pc := 20) o dX11_fire_20 rfl ?_
  refine y_sipush (pc := 21) (x := 700) o dX11_fire_21 (by decide) ?_
  refine y_sipush (pc := 24) (x := 1200) o dX11_fire_24 (by decide) ?_
  refine z_callS (pc := 27) (k := 1) (n := 6) (k' := 1) (n' := 6) o (As := [.int (c), .int (700), .int (1200)]) (rest := []) (kIsOut _ _ _) ln_X11_71 dX11_fire_27 rfl rfl (Nat.le_of_ble_eq_true rfl) ⟨by decide, by decide⟩ ⟨rfl, rfl⟩ ⟨by decide, by decide⟩ rfl gq_nox2 ?_
  refine z_bne (pc := 30) (tgt := 44) o dX11_fire_30 rfl (fun (b4 : ¬ gin 700 c 1200 = true) => ?_) (fun (b4 : ¬ (¬ gin 700 c 1200 = true)) => ?_)
  · exact y_throwS (pc := 44) o 32 rfl th_79 qw_295 qw_38 dX11_fire_44 dX11_fire_47 dX11_fire_48 dX11_fire_50 dX11_fire_53 rfl ⟨by decide, Nat.le_of_ble_eq_true rfl⟩ (by decide) (by decide) (fun h hp => gE_mk (k := 2) (by simp only [F_fire, b2, b3, b4, g1, not_true_eq_false, not_false_eq_true, if_true, if_false, or_true, true_or, or_false, false_or, and_true, true_and, and_false, false_and, or_self, and_self, eq_self, Bool.false_eq_true, ne_eq, reduceIte]) (.tail _ (.head _)) hp)
  refine y_iload (pc := 33) o dX11_fire_33 rfl ?_
  refine y_iconst (pc := 35) (x := 1) o dX11_fire_35 (by decide) ?_
  refine y_bipush (pc := 36) (x := 12) o dX11_fire_36 (by decide) ?_
  refine z_callS (pc := 38) (k := 1) (n := 6) (k' := 1) (n' := 6) o (As := [.int (d), .int (1), .int (12)]) (rest := []) (kIsOut _ _ _) ln_X11_71 dX11_fire_38 rfl rfl (Nat.le_of_ble_eq_true rfl) ⟨by decide, by decide⟩ ⟨rfl, rfl⟩ ⟨by decide, by decide⟩ rfl gq_nox2 ?_
  refine z_beq (pc := 41) (tgt := 54) o dX11_fire_41 rfl (fun (b5 : ¬ (¬ gin 1 d 12 = true)) => ?_) (fun (b5 : ¬ gin 1 d 12 = true) => ?_)
  · refine y_aload (pc := 54) o dX11_fire_54 rfl ?_
    refine z_get (pc := 56) (K := (8, 0, a.toNatClampNeg)) (v := .int (C.1 (8, 0, a.toNatClampNeg) 5)) o fl_X11_218 dX11_fire_56 (gl_8 (gix_lt (Nat.le_trans (hBC 2 0 (by decide)) (by decide)) g1)) rfl rfl ?_
    refine y_if_eq (pc := 59) (tgt := 82) o dX11_fire_59 rfl (fun (b6 : (C.1 (8, 0, a.toNatClampNeg) 5) = 0) => ?_) (fun (b6 : ¬ (C.1 (8, 0, a.toNatClampNeg) 5) = 0) => ?_)
    · exact y_throwS (pc := 82) o 33 rfl th_105 qw_400 qw_40 dX11_fire_82 dX11_fire_85 dX11_fire_86 dX11_fire_88 dX11_fire_91 rfl ⟨by decide, Nat.le_of_ble_eq_true rfl⟩ (by decide) (by decide) (fun h hp => gE_mk (k := 3) (by simp only [F_fire, b2, b3, Classical.not_not.mp b4, Classical.not_not.mp b5, eq_true b6, g1, not_true_eq_false, not_false_eq_true, if_true, if_false, or_true, true_or, or_false, false_or, and_true, true_and, and_false, false_and, or_self, and_self, eq_self, Bool.false_eq_true, ne_eq, reduceIte]) (.tail _ (.tail _ (.head _))) hp)
    refine y_aload_n (pc := 62) o dX11_fire_62 rfl ?_
    refine z_get (pc := 63) (K := (0, 0, 0)) (v := .int (C.1 (0, 0, 0) 0)) o fl_X11_55 dX11_fire_63 (gl_0 hC) rfl rfl ?_
    refine y_aload (pc := 66) o dX11_fire_66 rfl ?_
    refine z_get (pc := 68) (K := (8, 0, a.toNatClampNeg)) (v := .int (C.1 (8, 0, a.toNatClampNeg) 4)) o fl_X11_223 dX11_fire_68 (gl_8 (gix_lt (Nat.le_trans (hBC 2 0 (by decide)) (by decide)) g1)) rfl rfl ?_
    refine y_icmp_lt (pc := 71) (tgt := 82) o dX11_fire_71 rfl (fun (b7 : (C.1 (0, 0, 0) 0) < (C.1 (8, 0, a.toNatClampNeg) 4)) => ?_) (fun (b7 : ¬ (C.1 (0, 0, 0) 0) < (C.1 (8, 0, a.toNatClampNeg) 4)) => ?_)
    · exact y_throwS (pc := 82) o 33 rfl th_105 qw_400 qw_40 dX11_fire_82 dX11_fire_85 dX11_fire_86 dX11_fire_88 dX11_fire_91 rfl ⟨by decide, Nat.le_of_ble_eq_true rfl⟩ (by decide) (by decide) (fun h hp => gE_mk (k := 3) (by simp only [F_fire, b2, b3, Classical.not_not.mp b4, Classical.not_not.mp b5, b6, b7, g1, not_true_eq_false, not_false_eq_true, if_true, if_false, or_true, true_or, or_false, false_or, and_true, true_and, and_false, false_and, or_self, and_self, eq_self, Bool.false_eq_true, ne_eq, reduceIte]) (.tail _ (.tail _ (.head _))) hp)
    refine y_aload (pc := 74) o dX11_fire_74 rfl ?_
    refine z_callV (pc := 76) (k := 1) (n := 6) (k' := 1) (n' := 6) o (b := ad (8, 0, a.toNatClampNeg)) (As := []) (rest := []) (kFired _ (gix_lt (Nat.le_trans (hBC 2 0 (by decide)) (by decide)) g1)) ln_X11_238 dX11_fire_76 (z_rc (ci := 4) (K := (8, 0, a.toNatClampNeg)) rfl (gl_8 (gix_lt (Nat.le_trans (hBC 2 0 (by decide)) (by decide)) g1)) rfl) rfl rfl (Nat.le_of_ble_eq_true rfl) ⟨by decide, by decide⟩ ⟨rfl, rfl⟩ ⟨by decide, by decide⟩ rfl gq_nox2 ?_
    refine z_beq (pc := 79) (tgt := 92) o dX11_fire_79 rfl (fun (b8 : ¬ (¬ C.1 (8, 0, a.toNatClampNeg) 6 < 0)) => ?_) (fun (b8 : ¬ C.1 (8, 0, a.toNatClampNeg) 6 < 0) => ?_)
    · refine y_aload_n (pc := 92) o dX11_fire_92 rfl ?_
      refine z_get (pc := 93) (K := (0, 0, 0)) (v := .int (C.1 (0, 0, 0) 0)) o fl_X11_55 dX11_fire_93 (gl_0 hC) rfl rfl ?_
      refine y_aload_n (pc := 96) o dX11_fire_96 rfl ?_
      refine z_get (pc := 97) (K := (0, 0, 0)) (v := .ref (ad (15, 0, 0))) o fl_X11_52 dX11_fire_97 (gl_0 hC) rfl rfl ?_
      refine y_iload_n (pc := 100) o dX11_fire_100 rfl ?_
      refine z_iald (pc := 101) (K := (15, 0, 0)) (i := b) (v := C.1 (15, 0, 0) b.toNatClampNeg) o dX11_fire_101 (gl_15 hC) rfl (gin2 b2 b3) (if_pos (gin_lt (gin2 b2 b3))) ?_
      refine z_icmp_ge (pc := 102) (tgt := 115) o dX11_fire_102 rfl (fun (b9 : ¬ (C.1 (0, 0, 0) 0) < (C.1 (15, 0, 0) b.toNatClampNeg)) => ?_) (fun (b9 : (C.1 (0, 0, 0) 0) < (C.1 (15, 0, 0) b.toNatClampNeg)) => ?_)
      · refine y_aload (pc := 115) o dX11_fire_115 rfl ?_
        refine z_get (pc := 117) (K := (8, 0, a.toNatClampNeg)) (v := .ref (ad (7, 0, (C.1 (8, 0, a.toNatClampNeg) 0).toNatClampNeg))) o fl_X11_229 dX11_fire_117 (gl_8 (gix_lt (Nat.le_trans (hBC 2 0 (by decide)) (by decide)) g1)) rfl rfl ?_
        refine z_get (pc := 120) (K := (7, 0, (C.1 (8, 0, a.toNatClampNeg) 0).toNatClampNeg)) (v := .int (C.1 (7, 0, (C.1 (8, 0, a.toNatClampNeg) 0).toNatClampNeg) 2)) o fl_X11_183 dX11_fire_120 (gl_7 (hcl.1 _ (gix_lt (Nat.le_trans (hBC 2 0 (by decide)) (by decide)) g1))) rfl rfl ?_
        refine y_istore (pc := 123) (i := 6) (lv' := [(6, .int (C.1 (7, 0, (C.1 (8, 0, a.toNatClampNeg) 0).toNatClampNeg) 2)), (5, .ref (ad (8, 0, a.toNatClampNeg))), (0, .ref (ad (0, 0, 0))), (1, .int (a)), (2, .int (b)), (3, .int (c)), (4, .int (d))]) o dX11_fire_123 (by decide) rfl ?_
        refine y_aload (pc := 125) o dX11_fire_125 rfl ?_
        refine z_get (pc := 127) (K := (8, 0, a.toNatClampNeg)) (v := .ref (ad (7, 0, (C.1 (8, 0, a.toNatClampNeg) 0).toNatClampNeg))) o fl_X11_229 dX11_fire_127 (gl_8 (gix_lt (Nat.le_trans (hBC 2 0 (by decide)) (by decide)) g1)) rfl rfl ?_
        refine z_get (pc := 130) (K := (7, 0, (C.1 (8, 0, a.toNatClampNeg) 0).toNatClampNeg)) (v := .int (C.1 (7, 0, (C.1 (8, 0, a.toNatClampNeg) 0).toNatClampNeg) 3)) o fl_X11_186 dX11_fire_130 (gl_7 (hcl.1 _ (gix_lt (Nat.le_trans (hBC 2 0 (by decide)) (by decide)) g1))) rfl rfl ?_
        refine y_istore (pc := 133) (i := 7) (lv' := [(7, .int (C.1 (7, 0, (C.1 (8, 0, a.toNatClampNeg) 0).toNatClampNeg) 3)), (6, .int (C.1 (7, 0, (C.1 (8, 0, a.toNatClampNeg) 0).toNatClampNeg) 2)), (5, .ref (ad (8, 0, a.toNatClampNeg))), (0, .ref (ad (0, 0, 0))), (1, .int (a)), (2, .int (b)), (3, .int (c)), (4, .int (d))]) o dX11_fire_133 (by decide) rfl ?_
        refine y_aload (pc := 135) o dX11_fire_135 rfl ?_
        refine y_sipush (pc := 137) (x := 1000) o dX11_fire_137 (by decide) ?_
        refine y_iload (pc := 140) o dX11_fire_140 rfl ?_
        refine y_isub (pc := 142) o dX11_fire_142 ?_
        refine y_iload_n (pc := 143) o dX11_fire_143 rfl ?_
        refine y_sipush (pc := 144) (x := 600) o dX11_fire_144 (by decide) ?_
        refine y_isub (pc := 147) o dX11_fire_147 ?_
        refine y_imul (pc := 148) o dX11_fire_148 ?_
        refine y_sipush (pc := 149) (x := 1000) o dX11_fire_149 (by decide) ?_
        refine y_idiv (pc := 152) o dX11_fire_152 (by decide) ?_
        refine y_bipush (pc := 153) (x := 20) o dX11_fire_153 (by decide) ?_
        refine y_iload (pc := 155) o dX11_fire_155 rfl ?_
        refine y_imul (pc := 157) o dX11_fire_157 ?_
        refine y_iadd (pc := 158) o dX11_fire_158 ?_
        refine y_iconst (pc := 159) (x := 5) o dX11_fire_159 (by decide) ?_
        refine y_iload (pc := 160) o dX11_fire_160 rfl ?_
        refine y_imul (pc := 162) o dX11_fire_162 ?_
        refine y_iadd (pc := 163) o dX11_fire_163 ?_
        refine z_putC (pc := 164) (K := (8, 0, a.toNatClampNeg)) (fd := 9) (x := ((((1000 - (C.1 (7, 0, (C.1 (8, 0, a.toNatClampNeg) 0).toNatClampNeg) 2)) * (c - 600)) / 1000) + (20 * (C.1 (7, 0, (C.1 (8, 0, a.toNatClampNeg) 0).toNatClampNeg) 3))) + (5 * d)) o fw_X11_246 dX11_fire_164 (gl_8 (gix_lt (Nat.le_trans (hBC 2 0 (by decide)) (by decide)) g1)) (show (8:Nat) < 20 by decide) rfl (Nat.le_of_ble_eq_true rfl) (vp_nar_int _) rfl rfl pC_8_6 (z_refC (show (8:Nat) < 20 by decide) (gl_8 (gix_lt (Nat.le_trans (hBC 2 0 (by decide)) (by decide)) g1)) qC_8_6) ?_
        refine y_aload (pc := 167) o dX11_fire_167 rfl ?_
        refine y_iload (pc := 169) o dX11_fire_169 rfl ?_
        refine y_iload_n (pc := 171) o dX11_fire_171 rfl ?_
        refine y_sipush (pc := 172) (x := 700) o dX11_fire_172 (by decide) ?_
        refine y_isub (pc := 175) o dX11_fire_175 ?_
        refine y_bipush (pc := 176) (x := 10) o dX11_fire_176 (by decide) ?_
        refine y_idiv (pc := 178) o dX11_fire_178 (by decide) ?_
        refine y_isub (pc := 179) o dX11_fire_179 ?_
        refine y_iconst (pc := 180) (x := 5) o dX11_fire_180 (by decide) ?_
        refine y_iload (pc := 181) o dX11_fire_181 rfl ?_
        refine y_imul (pc := 183) o dX11_fire_183 ?_
        refine y_iadd (pc := 184) o dX11_fire_184 ?_
        refine y_iconst (pc := 185) (x := 0) o dX11_fire_185 (by decide) ?_
        refine y_sipush (pc := 186) (x := 999) o dX11_fire_186 (by decide) ?_
        refine z_callS (pc := 189) (k := 1) (n := 6) (k' := 1) (n' := 6) o (As := [.int (((C.1 (7, 0, (C.1 (8, 0, a.toNatClampNeg) 0).toNatClampNeg) 2) - ((c - 700) / 10)) + (5 * (C.1 (7, 0, (C.1 (8, 0, a.toNatClampNeg) 0).toNatClampNeg) 3))), .int (0), .int (999)]) (rest := [.ref (ad (8, 0, a.toNatClampNeg))]) (kClamp _ _ _) ln_X11_170 dX11_fire_189 rfl rfl (Nat.le_of_ble_eq_true rfl) ⟨by decide, by decide⟩ ⟨rfl, rfl⟩ ⟨by decide, by decide⟩ rfl gq_nox2 ?_
        refine z_putC (pc := 192) (K := (8, 0, a.toNatClampNeg)) (fd := 10) (x := gclamp (((C.1 (7, 0, (C.1 (8, 0, a.toNatClampNeg) 0).toNatClampNeg) 2) - ((c - 700) / 10)) + (5 * (C.1 (7, 0, (C.1 (8, 0, a.toNatClampNeg) 0).toNatClampNeg) 3))) 0 999) o fw_X11_249 dX11_fire_192 (gl_8 (gix_lt (Nat.le_trans (hBC 2 0 (by decide)) (by decide)) g1)) (show (8:Nat) < 20 by decide) rfl (Nat.le_of_ble_eq_true rfl) (vp_nar_int _) rfl rfl pC_8_7 (z_refC (show (8:Nat) < 20 by decide) (gl_8 (gix_lt (Nat.le_trans (hBC 2 0 (by decide)) (by decide)) g1)) qC_8_7) ?_
        refine y_aload (pc := 195) o dX11_fire_195 rfl ?_
        refine y_aload_n (pc := 197) o dX11_fire_197 rfl ?_
        refine z_get (pc := 198) (K := (0, 0, 0)) (v := .int ((gup (gup C (8, 0, a.toNatClampNeg) 9 (((((1000 - (C.1 (7, 0, (C.1 (8, 0, a.toNatClampNeg) 0).toNatClampNeg) 2)) * (c - 600)) / 1000) + (20 * (C.1 (7, 0, (C.1 (8, 0, a.toNatClampNeg) 0).toNatClampNeg) 3))) + (5 * d))) (8, 0, a.toNatClampNeg) 10 (gclamp (((C.1 (7, 0, (C.1 (8, 0, a.toNatClampNeg) 0).toNatClampNeg) 2) - ((c - 700) / 10)) + (5 * (C.1 (7, 0, (C.1 (8, 0, a.toNatClampNeg) 0).toNatClampNeg) 3))) 0 999)).1 (0, 0, 0) 0)) o fl_X11_55 dX11_fire_198 (gl_0 hC) rfl rfl ?_
        refine z_top (congrArg Value.int (Eq.trans (gup_ff _ (show (0:Nat) ≠ 10 by decide)) (gup_ff _ (show (0:Nat) ≠ 9 by decide)))) ?_
        refine y_iload (pc := 201) o dX11_fire_201 rfl ?_
        refine y_iadd (pc := 203) o dX11_fire_203 ?_
        refine z_putC (pc := 204) (K := (8, 0, a.toNatClampNeg)) (fd := 4) (x := (C.1 (0, 0, 0) 0) + d) o fw_X11_223 dX11_fire_204 (gl_8 (gix_lt (Nat.le_trans (hBC 2 0 (by decide)) (by decide)) g1)) (show (8:Nat) < 20 by decide) rfl (Nat.le_of_ble_eq_true rfl) (vp_nar_int _) rfl rfl pC_8_5 (z_refC (show (8:Nat) < 20 by decide) (gl_8 (gix_lt (Nat.le_trans (hBC 2 0 (by decide)) (by decide)) g1)) qC_8_5) ?_
        refine y_aload (pc := 207) o dX11_fire_207 rfl ?_
        refine y_iload_n (pc := 209) o dX11_fire_209 rfl ?_
        refine z_putC (pc := 210) (K := (8, 0, a.toNatClampNeg)) (fd := 7) (x := b) o fw_X11_252 dX11_fire_210 (gl_8 (gix_lt (Nat.le_trans (hBC 2 0 (by decide)) (by decide)) g1)) (show (8:Nat) < 20 by decide) rfl (Nat.le_of_ble_eq_true rfl) (vp_nar_int _) rfl rfl pC_8_9 (z_refC (show (8:Nat) < 20 by decide) (gl_8 (gix_lt (Nat.le_trans (hBC 2 0 (by decide)) (by decide)) g1)) qC_8_9) ?_
        refine y_aload (pc := 213) o dX11_fire_213 rfl ?_
        refine y_aload_n (pc := 215) o dX11_fire_215 rfl ?_
        refine z_get (pc := 216) (K := (0, 0, 0)) (v := .int ((gup (gup (gup (gup C (8, 0, a.toNatClampNeg) 9 (((((1000 - (C.1 (7, 0, (C.1 (8, 0, a.toNatClampNeg) 0).toNatClampNeg) 2)) * (c - 600)) / 1000) + (20 * (C.1 (7, 0, (C.1 (8, 0, a.toNatClampNeg) 0).toNatClampNeg) 3))) + (5 * d))) (8, 0, a.toNatClampNeg) 10 (gclamp (((C.1 (7, 0, (C.1 (8, 0, a.toNatClampNeg) 0).toNatClampNeg) 2) - ((c - 700) / 10)) + (5 * (C.1 (7, 0, (C.1 (8, 0, a.toNatClampNeg) 0).toNatClampNeg) 3))) 0 999)) (8, 0, a.toNatClampNeg) 4 ((C.1 (0, 0, 0) 0) + d)) (8, 0, a.toNatClampNeg) 7 b).1 (0, 0, 0) 1)) o fl_X11_59 dX11_fire_216 (gl_0 hC) rfl rfl ?_
        refine z_top (congrArg Value.int (Eq.trans (gup_ff _ (show (1:Nat) ≠ 7 by decide)) (Eq.trans (gup_ff _ (show (1:Nat) ≠ 4 by decide)) (Eq.trans (gup_ff _ (show (1:Nat) ≠ 10 by decide)) (gup_ff _ (show (1:Nat) ≠ 9 by decide)))))) ?_
        refine z_putC (pc := 219) (K := (8, 0, a.toNatClampNeg)) (fd := 6) (x := C.1 (0, 0, 0) 1) o fw_X11_255 dX11_fire_219 (gl_8 (gix_lt (Nat.le_trans (hBC 2 0 (by decide)) (by decide)) g1)) (show (8:Nat) < 20 by decide) rfl (Nat.le_of_ble_eq_true rfl) (vp_nar_int _) rfl rfl pC_8_8 (z_refC (show (8:Nat) < 20 by decide) (gl_8 (gix_lt (Nat.le_trans (hBC 2 0 (by decide)) (by decide)) g1)) qC_8_8) ?_
        refine y_aload_n (pc := 222) o dX11_fire_222 rfl ?_
        refine z_get (pc := 223) (K := (0, 0, 0)) (v := .ref (ad (15, 0, 0))) o fl_X11_52 dX11_fire_223 (gl_0 hC) rfl rfl ?_
        refine y_iload_n (pc := 226) o dX11_fire_226 rfl ?_
        refine y_aload_n (pc := 227) o dX11_fire_227 rfl ?_
        refine z_get (pc := 228) (K := (0, 0, 0)) (v := .int ((gup (gup (gup (gup (gup C (8, 0, a.toNatClampNeg) 9 (((((1000 - (C.1 (7, 0, (C.1 (8, 0, a.toNatClampNeg) 0).toNatClampNeg) 2)) * (c - 600)) / 1000) + (20 * (C.1 (7, 0, (C.1 (8, 0, a.toNatClampNeg) 0).toNatClampNeg) 3))) + (5 * d))) (8, 0, a.toNatClampNeg) 10 (gclamp (((C.1 (7, 0, (C.1 (8, 0, a.toNatClampNeg) 0).toNatClampNeg) 2) - ((c - 700) / 10)) + (5 * (C.1 (7, 0, (C.1 (8, 0, a.toNatClampNeg) 0).toNatClampNeg) 3))) 0 999)) (8, 0, a.toNatClampNeg) 4 ((C.1 (0, 0, 0) 0) + d)) (8, 0, a.toNatClampNeg) 7 b) (8, 0, a.toNatClampNeg) 6 (C.1 (0, 0, 0) 1)).1 (0, 0, 0) 0)) o fl_X11_55 dX11_fire_228 (gl_0 hC) rfl rfl ?_
        refine z_top (congrArg Value.int (Eq.trans (gup_ff _ (show (0:Nat) ≠ 6 by decide)) (Eq.trans (gup_ff _ (show (0:Nat) ≠ 7 by decide)) (Eq.trans (gup_ff _ (show (0:Nat) ≠ 4 by decide)) (Eq.trans (gup_ff _ (show (0:Nat) ≠ 10 by decide)) (gup_ff _ (show (0:Nat) ≠ 9 by decide))))))) ?_
        refine y_iload (pc := 231) o dX11_fire_231 rfl ?_
        refine y_iadd (pc := 233) o dX11_fire_233 ?_
        refine z_iastC (pc := 234) (K := (15, 0, 0)) (i := b) (x := (C.1 (0, 0, 0) 0) + d) o dX11_fire_234 (gl_15 hC) (show (15:Nat) < 20 by decide) (fun _ => rfl) (fun _ => rfl) (gin2 b2 b3) ?_
        refine y_aload_n (pc := 235) o dX11_fire_235 rfl ?_
        refine y_dup (pc := 236) o dX11_fire_236 rfl ?_
        refine z_get (pc := 237) (K := (0, 0, 0)) (v := .int ((gup (gup (gup (gup (gup (gup C (8, 0, a.toNatClampNeg) 9 (((((1000 - (C.1 (7, 0, (C.1 (8, 0, a.toNatClampNeg) 0).toNatClampNeg) 2)) * (c - 600)) / 1000) + (20 * (C.1 (7, 0, (C.1 (8, 0, a.toNatClampNeg) 0).toNatClampNeg) 3))) + (5 * d))) (8, 0, a.toNatClampNeg) 10 (gclamp (((C.1 (7, 0, (C.1 (8, 0, a.toNatClampNeg) 0).toNatClampNeg) 2) - ((c - 700) / 10)) + (5 * (C.1 (7, 0, (C.1 (8, 0, a.toNatClampNeg) 0).toNatClampNeg) 3))) 0 999)) (8, 0, a.toNatClampNeg) 4 ((C.1 (0, 0, 0) 0) + d)) (8, 0, a.toNatClampNeg) 7 b) (8, 0, a.toNatClampNeg) 6 (C.1 (0, 0, 0) 1)) (15, 0, 0) b.toNatClampNeg ((C.1 (0, 0, 0) 0) + d)).1 (0, 0, 0) 1)) o fl_X11_59 dX11_fire_237 (gl_0 hC) rfl rfl ?_
        refine z_top (congrArg Value.int (Eq.trans (gup_vc _ (show (0:Nat) ≠ 15 by decide)) (Eq.trans (gup_ff _ (show (1:Nat) ≠ 6 by decide)) (Eq.trans (gup_ff _ (show (1:Nat) ≠ 7 by decide)) (Eq.trans (gup_ff _ (show (1:Nat) ≠ 4 by decide)) (Eq.trans (gup_ff _ (show (1:Nat) ≠ 10 by decide)) (gup_ff _ (show (1:Nat) ≠ 9 by decide)))))))) ?_
        refine y_iconst (pc := 240) (x := 1) o dX11_fire_240 (by decide) ?_
        refine y_iadd (pc := 241) o dX11_fire_241 ?_
        refine z_putC (pc := 242) (K := (0, 0, 0)) (fd := 1) (x := (C.1 (0, 0, 0) 1) + 1) o fw_X11_59 dX11_fire_242 (gl_0 hC) (show (0:Nat) < 20 by decide) rfl (Nat.le_of_ble_eq_true rfl) (vp_nar_int _) rfl rfl pC_0_12 (z_refC (show (0:Nat) < 20 by decide) (gl_0 hC) qC_0_12) ?_
        refine y_aload (pc := 245) o dX11_fire_245 rfl ?_
        refine z_get (pc := 247) (K := (8, 0, a.toNatClampNeg)) (v := .int ((gup (gup (gup (gup (gup (gup (gup C (8, 0, a.toNatClampNeg) 9 (((((1000 - (C.1 (7, 0, (C.1 (8, 0, a.toNatClampNeg) 0).toNatClampNeg) 2)) * (c - 600)) / 1000) + (20 * (C.1 (7, 0, (C.1 (8, 0, a.toNatClampNeg) 0).toNatClampNeg) 3))) + (5 * d))) (8, 0, a.toNatClampNeg) 10 (gclamp (((C.1 (7, 0, (C.1 (8, 0, a.toNatClampNeg) 0).toNatClampNeg) 2) - ((c - 700) / 10)) + (5 * (C.1 (7, 0, (C.1 (8, 0, a.toNatClampNeg) 0).toNatClampNeg) 3))) 0 999)) (8, 0, a.toNatClampNeg) 4 ((C.1 (0, 0, 0) 0) + d)) (8, 0, a.toNatClampNeg) 7 b) (8, 0, a.toNatClampNeg) 6 (C.1 (0, 0, 0) 1)) (15, 0, 0) b.toNatClampNeg ((C.1 (0, 0, 0) 0) + d)) (0, 0, 0) 1 ((C.1 (0, 0, 0) 1) + 1)).1 (8, 0, a.toNatClampNeg) 6)) o fl_X11_255 dX11_fire_247 (gl_8 (gix_lt (Nat.le_trans (hBC 2 0 (by decide)) (by decide)) g1)) rfl rfl ?_
        refine z_top (congrArg Value.int (Eq.trans (gup_ff _ (show (6:Nat) ≠ 1 by decide)) (Eq.trans (gup_vc _ (show (8:Nat) ≠ 15 by decide)) (gup_v _ _ _ _)))) ?_
        exact y_iret (pc := 250) o dX11_fire_250 rfl (vp_nar_int _) (by decide) (by decide) (fun h hp => gQ_mk (by simp only [F_fire, b2, b3, Classical.not_not.mp b4, Classical.not_not.mp b5, b6, b7, Classical.not_not.mp b8, b9, g1, not_true_eq_false, not_false_eq_true, if_true, if_false, or_true, true_or, or_false, false_or, and_true, true_and, and_false, false_and, or_self, and_self, eq_self, Bool.false_eq_true, ne_eq, reduceIte]) (hp.ghostC (8, 0, a.toNatClampNeg) 11 (b) (fun _ _ _ => rfl) (fun _ _ => rfl)))
      exact y_throwS (pc := 105) o 34 rfl th_105 qw_400 qw_40 dX11_fire_105 dX11_fire_108 dX11_fire_109 dX11_fire_111 dX11_fire_114 rfl ⟨by decide, Nat.le_of_ble_eq_true rfl⟩ (by decide) (by decide) (fun h hp => gE_mk (k := 3) (by simp only [F_fire, b2, b3, Classical.not_not.mp b4, Classical.not_not.mp b5, b6, b7, Classical.not_not.mp b8, b9, g1, not_true_eq_false, not_false_eq_true, if_true, if_false, or_true, true_or, or_false, false_or, and_true, true_and, and_false, false_and, or_self, and_self, eq_self, Bool.false_eq_true, ne_eq, reduceIte]) (.tail _ (.tail _ (.head _))) hp)
    exact y_throwS (pc := 82) o 33 rfl th_105 qw_400 qw_40 dX11_fire_82 dX11_fire_85 dX11_fire_86 dX11_fire_88 dX11_fire_91 rfl ⟨by decide, Nat.le_of_ble_eq_true rfl⟩ (by decide) (by decide) (fun h hp => gE_mk (k := 3) (by simp only [F_fire, b2, b3, Classical.not_not.mp b4, Classical.not_not.mp b5, b6, b7, b8, g1, not_true_eq_false, not_false_eq_true, if_true, if_false, or_true, true_or, or_false, false_or, and_true, true_and, and_false, false_and, or_self, and_self, eq_self, Bool.false_eq_true, ne_eq, reduceIte]) (.tail _ (.tail _ (.head _))) hp)
  exact y_throwS (pc := 44) o 32 rfl th_79 qw_295 qw_38 dX11_fire_44 dX11_fire_47 dX11_fire_48 dX11_fire_50 dX11_fire_53 rfl ⟨by decide, Nat.le_of_ble_eq_true rfl⟩ (by decide) (by decide) (fun h hp => gE_mk (k := 2) (by simp only [F_fire, b2, b3, Classical.not_not.mp b4, b5, g1, not_true_eq_false, not_false_eq_true, if_true, if_false, or_true, true_or, or_false, false_or, and_true, true_and, and_false, false_and, or_self, and_self, eq_self, Bool.false_eq_true, ne_eq, reduceIte]) (.tail _ (.head _)) hp)

theorem p_soak {κ : gq_K} {ad : gKey → Nat} {C R : gG} {T : List (Nat × va_E)} (hC : gfix C.2) (hBC : gcnt C.2) (hM : gmach C) (a : Int32) (b : Int32) : gq_C κ mX11_soak [.ref (ad (0, 0, 0)), .int (a), .int (b)] (gR κ ad (C, R) T) (gQ κ ad R T (F_soak C a b)) (gE κ ad R T [("java/lang/IndexOutOfBoundsException", 1), ("java/lang/IllegalArgumentException", 2), ("java/lang/UnsupportedOperationException", 3)] (F_soak C a b)) := by
  refine gq_enter (by decide +kernel) rfl (Nat.le_of_ble_eq_true rfl) rfl (fun f o => ?_)
  refine y_aload_n (pc := 0) o dX11_soak_0 rfl ?_
  refine y_iload_n (pc := 1) o dX11_soak_1 rfl ?_
  refine z_callV (pc := 2) (k := 0) (n := 0) (k' := 1) (n' := 6) o (b := ad (0, 0, 0)) (As := [.int (a)]) (rest := []) (kBatN hC hBC a) ln_X11_212 dX11_soak_2 (z_rc (ci := 15) (K := (0, 0, 0)) rfl (gl_0 hC) rfl) rfl rfl (Nat.le_of_ble_eq_true rfl) ⟨by decide, by decide⟩ ⟨rfl, rfl⟩ ⟨by decide, by decide⟩ rfl (fun x h hE => by obtain ⟨rfl, hz, hr⟩ := hE; exact gE_mk (k := 1) (by simp only [F_soak, hz, not_true_eq_false, not_false_eq_true, if_true, if_false, or_true, true_or, or_false, false_or, and_true, true_and, and_false, false_and, or_self, and_self, eq_self, Bool.false_eq_true, ne_eq, reduceIte]) (.head _) hr) (y_and fun (g1 : gix (C.2 8 0) a = true) => ?_)
  refine y_astore_n (pc := 5) (i := 3) (lv' := [(3, .ref (ad (8, 0, a.toNatClampNeg))), (0, .ref (ad (0, 0, 0))), (1, .int (a)), (2, .int (b))]) o dX11_soak_5 rfl (by decide) rfl ?_
  refine y_iload_n (pc := 6) o dX11_soak_6 rfl ?_
  refine y_iconst (pc := 7) (x := 1) o dX11_soak_7 (by decide) ?_
  refine y_iconst (pc := 8) (x := 5) o dX11_soak_8 (by decide) ?_
  refine z_callS (pc := 9) (k := 1) (n := 6) (k' := 1) (n' := 6) o (As := [.int (b), .int (1), .int (5)]) (rest := []) (kIsOut _ _ _) ln_X11_71 dX11_soak_9 rfl rfl (Nat.le_of_ble_eq_true rfl) ⟨by decide, by decide⟩ ⟨rfl, rfl⟩ ⟨by decide, by decide⟩ rfl gq_nox2 ?_
  refine z_beq (pc := 12) (tgt := 26) o dX11_soak_12 rfl (fun (b2 : ¬ (¬ gin 1 b 5 = true)) => ?_) (fun (b2 : ¬ gin 1 b 5 = true) => ?_)
  · refine y_aload_n (pc := 26) o dX11_soak_26 rfl ?_
    refine z_callV (pc := 27) (k := 1) (n := 6) (k' := 1) (n' := 6) o (b := ad (8, 0, a.toNatClampNeg)) (As := []) (rest := []) (kFired _ (gix_lt (Nat.le_trans (hBC 2 0 (by decide)) (by decide)) g1)) ln_X11_238 dX11_soak_27 (z_rc (ci := 4) (K := (8, 0, a.toNatClampNeg)) rfl (gl_8 (gix_lt (Nat.le_trans (hBC 2 0 (by decide)) (by decide)) g1)) rfl) rfl rfl (Nat.le_of_ble_eq_true rfl) ⟨by decide, by decide⟩ ⟨rfl, rfl⟩ ⟨by decide, by decide⟩ rfl gq_nox2 ?_
    refine z_beq (pc := 30) (tgt := 51) o dX11_soak_30 rfl (fun (b3 : ¬ (¬ C.1 (8, 0, a.toNatClampNeg) 6 < 0)) => ?_) (fun (b3 : ¬ C.1 (8, 0, a.toNatClampNeg) 6 < 0) => ?_)
    · exact y_throwSW (pc := 51) o 36 rfl th_105 qw_400 qw_40 dX11_soak_51 dX11_soak_54 dX11_soak_55 dX11_soak_58 dX11_soak_61 rfl ⟨by decide, Nat.le_of_ble_eq_true rfl⟩ (by decide) (by decide) (fun h hp => gE_mk (k := 3) (by simp only [F_soak, Classical.not_not.mp b2, Classical.not_not.mp b3, g1, not_true_eq_false, not_false_eq_true, if_true, if_false, or_true, true_or, or_false, false_or, and_true, true_and, and_false, false_and, or_self, and_self, eq_self, Bool.false_eq_true, ne_eq, reduceIte]) (.tail _ (.tail _ (.head _))) hp)
    refine y_aload_n (pc := 33) o dX11_soak_33 rfl ?_
    refine z_get (pc := 34) (K := (0, 0, 0)) (v := .int (C.1 (0, 0, 0) 0)) o fl_X11_55 dX11_soak_34 (gl_0 hC) rfl rfl ?_
    refine y_aload_n (pc := 37) o dX11_soak_37 rfl ?_
    refine z_get (pc := 38) (K := (8, 0, a.toNatClampNeg)) (v := .int (C.1 (8, 0, a.toNatClampNeg) 4)) o fl_X11_223 dX11_soak_38 (gl_8 (gix_lt (Nat.le_trans (hBC 2 0 (by decide)) (by decide)) g1)) rfl rfl ?_
    refine y_icmp_lt (pc := 41) (tgt := 51) o dX11_soak_41 rfl (fun (b4 : (C.1 (0, 0, 0) 0) < (C.1 (8, 0, a.toNatClampNeg) 4)) => ?_) (fun (b4 : ¬ (C.1 (0, 0, 0) 0) < (C.1 (8, 0, a.toNatClampNeg) 4)) => ?_)
    · exact y_throwSW (pc := 51) o 36 rfl th_105 qw_400 qw_40 dX11_soak_51 dX11_soak_54 dX11_soak_55 dX11_soak_58 dX11_soak_61 rfl ⟨by decide, Nat.le_of_ble_eq_true rfl⟩ (by decide) (by decide) (fun h hp => gE_mk (k := 3) (by simp only [F_soak, Classical.not_not.mp b2, b3, b4, g1, not_true_eq_false, not_false_eq_true, if_true, if_false, or_true, true_or, or_false, false_or, and_true, true_and, and_false, false_and, or_self, and_self, eq_self, Bool.false_eq_true, ne_eq, reduceIte]) (.tail _ (.tail _ (.head _))) hp)
    refine y_aload_n (pc := 44) o dX11_soak_44 rfl ?_
    refine z_get (pc := 45) (K := (8, 0, a.toNatClampNeg)) (v := .int (C.1 (8, 0, a.toNatClampNeg) 8)) o fl_X11_260 dX11_soak_45 (gl_8 (gix_lt (Nat.le_trans (hBC 2 0 (by decide)) (by decide)) g1)) rfl rfl ?_
    refine y_if_eq (pc := 48) (tgt := 62) o dX11_soak_48 rfl (fun (b5 : (C.1 (8, 0, a.toNatClampNeg) 8) = 0) => ?_) (fun (b5 : ¬ (C.1 (8, 0, a.toNatClampNeg) 8) = 0) => ?_)
    · refine y_aload_n (pc := 62) o dX11_soak_62 rfl ?_
      refine y_iconst (pc := 63) (x := 1) o dX11_soak_63 (by decide) ?_
      refine z_putC (pc := 64) (K := (8, 0, a.toNatClampNeg)) (fd := 8) (x := 1) o fw_X11_260 dX11_soak_64 (gl_8 (gix_lt (Nat.le_trans (hBC 2 0 (by decide)) (by decide)) g1)) (show (8:Nat) < 20 by decide) rfl (Nat.le_of_ble_eq_true rfl) rfl rfl rfl pC_8_11 (z_refC (show (8:Nat) < 20 by decide) (gl_8 (gix_lt (Nat.le_trans (hBC 2 0 (by decide)) (by decide)) g1)) qC_8_11) ?_
      refine y_aload_n (pc := 67) o dX11_soak_67 rfl ?_
      refine y_dup (pc := 68) o dX11_soak_68 rfl ?_
      refine z_get (pc := 69) (K := (8, 0, a.toNatClampNeg)) (v := .int ((gup C (8, 0, a.toNatClampNeg) 8 1).1 (8, 0, a.toNatClampNeg) 9)) o fl_X11_246 dX11_soak_69 (gl_8 (gix_lt (Nat.le_trans (hBC 2 0 (by decide)) (by decide)) g1)) rfl rfl ?_
      refine z_top (congrArg Value.int (gup_vf _ (show (9:Nat) ≠ 8 by decide))) ?_
      refine y_bipush (pc := 72) (x := 10) o dX11_soak_72 (by decide) ?_
      refine y_iload_n (pc := 74) o dX11_soak_74 rfl ?_
      refine y_imul (pc := 75) o dX11_soak_75 ?_
      refine y_iadd (pc := 76) o dX11_soak_76 ?_
      refine z_putC (pc := 77) (K := (8, 0, a.toNatClampNeg)) (fd := 9) (x := (C.1 (8, 0, a.toNatClampNeg) 9) + (10 * b)) o fw_X11_246 dX11_soak_77 (gl_8 (gix_lt (Nat.le_trans (hBC 2 0 (by decide)) (by decide)) g1)) (show (8:Nat) < 20 by decide) rfl (Nat.le_of_ble_eq_true rfl) (vp_nar_int _) rfl rfl pC_8_6 (z_refC (show (8:Nat) < 20 by decide) (gl_8 (gix_lt (Nat.le_trans (hBC 2 0 (by decide)) (by decide)) g1)) qC_8_6) ?_
      refine y_aload_n (pc := 80) o dX11_soak_80 rfl ?_
      refine y_aload_n (pc := 81) o dX11_soak_81 rfl ?_
      refine z_get (pc := 82) (K := (8, 0, a.toNatClampNeg)) (v := .int ((gup (gup C (8, 0, a.toNatClampNeg) 8 1) (8, 0, a.toNatClampNeg) 9 ((C.1 (8, 0, a.toNatClampNeg) 9) + (10 * b))).1 (8, 0, a.toNatClampNeg) 10)) o fl_X11_249 dX11_soak_82 (gl_8 (gix_lt (Nat.le_trans (hBC 2 0 (by decide)) (by decide)) g1)) rfl rfl ?_
      refine z_top (congrArg Value.int (Eq.trans (gup_vf _ (show (10:Nat) ≠ 9 by decide)) (gup_vf _ (show (10:Nat) ≠ 8 by decide)))) ?_
      refine y_bipush (pc := 85) (x := 8) o dX11_soak_85 (by decide) ?_
      refine y_iload_n (pc := 87) o dX11_soak_87 rfl ?_
      refine y_imul (pc := 88) o dX11_soak_88 ?_
      refine y_iadd (pc := 89) o dX11_soak_89 ?_
      refine y_iconst (pc := 90) (x := 0) o dX11_soak_90 (by decide) ?_
      refine y_sipush (pc := 91) (x := 999) o dX11_soak_91 (by decide) ?_
      refine z_callS (pc := 94) (k := 1) (n := 6) (k' := 1) (n' := 6) o (As := [.int ((C.1 (8, 0, a.toNatClampNeg) 10) + (8 * b)), .int (0), .int (999)]) (rest := [.ref (ad (8, 0, a.toNatClampNeg))]) (kClamp _ _ _) ln_X11_170 dX11_soak_94 rfl rfl (Nat.le_of_ble_eq_true rfl) ⟨by decide, by decide⟩ ⟨rfl, rfl⟩ ⟨by decide, by decide⟩ rfl gq_nox2 ?_
      refine z_putC (pc := 97) (K := (8, 0, a.toNatClampNeg)) (fd := 10) (x := gclamp ((C.1 (8, 0, a.toNatClampNeg) 10) + (8 * b)) 0 999) o fw_X11_249 dX11_soak_97 (gl_8 (gix_lt (Nat.le_trans (hBC 2 0 (by decide)) (by decide)) g1)) (show (8:Nat) < 20 by decide) rfl (Nat.le_of_ble_eq_true rfl) (vp_nar_int _) rfl rfl pC_8_7 (z_refC (show (8:Nat) < 20 by decide) (gl_8 (gix_lt (Nat.le_trans (hBC 2 0 (by decide)) (by decide)) g1)) qC_8_7) ?_
      refine y_aload_n (pc := 100) o dX11_soak_100 rfl ?_
      refine z_get (pc := 101) (K := (8, 0, a.toNatClampNeg)) (v := .int ((gup (gup (gup C (8, 0, a.toNatClampNeg) 8 1) (8, 0, a.toNatClampNeg) 9 ((C.1 (8, 0, a.toNatClampNeg) 9) + (10 * b))) (8, 0, a.toNatClampNeg) 10 (gclamp ((C.1 (8, 0, a.toNatClampNeg) 10) + (8 * b)) 0 999)).1 (8, 0, a.toNatClampNeg) 9)) o fl_X11_246 dX11_soak_101 (gl_8 (gix_lt (Nat.le_trans (hBC 2 0 (by decide)) (by decide)) g1)) rfl rfl ?_
      refine z_top (congrArg Value.int (Eq.trans (gup_vf _ (show (9:Nat) ≠ 10 by decide)) (gup_v _ _ _ _))) ?_
      exact y_iret (pc := 104) o dX11_soak_104 rfl (vp_nar_int _) (by decide) (by decide) (fun h hp => gQ_mk (by simp only [F_soak, Classical.not_not.mp b2, b3, b4, eq_true b5, g1, not_true_eq_false, not_false_eq_true, if_true, if_false, or_true, true_or, or_false, false_or, and_true, true_and, and_false, false_and, or_self, and_self, eq_self, Bool.false_eq_true, ne_eq, reduceIte]) hp)
    exact y_throwSW (pc := 51) o 36 rfl th_105 qw_400 qw_40 dX11_soak_51 dX11_soak_54 dX11_soak_55 dX11_soak_58 dX11_soak_61 rfl ⟨by decide, Nat.le_of_ble_eq_true rfl⟩ (by decide) (by decide) (fun h hp => gE_mk (k := 3) (by simp only [F_soak, Classical.not_not.mp b2, b3, b4, b5, g1, not_true_eq_false, not_false_eq_true, if_true, if_false, or_true, true_or, or_false, false_or, and_true, true_and, and_false, false_and, or_self, and_self, eq_self, Bool.false_eq_true, ne_eq, reduceIte]) (.tail _ (.tail _ (.head _))) hp)
  exact y_throwSW (pc := 15) o 35 rfl th_79 qw_295 qw_38 dX11_soak_15 dX11_soak_18 dX11_soak_19 dX11_soak_22 dX11_soak_25 rfl ⟨by decide, Nat.le_of_ble_eq_true rfl⟩ (by decide) (by decide) (fun h hp => gE_mk (k := 2) (by simp only [F_soak, b2, g1, not_true_eq_false, not_false_eq_true, if_true, if_false, or_true, true_or, or_false, false_or, and_true, true_and, and_false, false_and, or_self, and_self, eq_self, Bool.false_eq_true, ne_eq, reduceIte]) (.tail _ (.head _)) hp)

theorem p_batch {κ : gq_K} {ad : gKey → Nat} {C R : gG} {T : List (Nat × va_E)} (hC : gfix C.2) (hBC : gcnt C.2) (hM : gmach C) (a : Int32) (b : Int32) : gq_C κ mX11_batch [.ref (ad (0, 0, 0)), .int (a), .int (b)] (gR κ ad (C, R) T) (gQ κ ad R T (F_batch C a b)) (gE κ ad R T [("java/lang/IndexOutOfBoundsException", 1), ("java/lang/IllegalArgumentException", 2)] (F_batch C a b)) := by
  refine gq_enter (by decide +kernel) rfl (Nat.le_of_ble_eq_true rfl) rfl (fun f o => ?_)
  refine y_aload_n (pc := 0) o dX11_batch_0 rfl ?_
  refine y_iload_n (pc := 1) o dX11_batch_1 rfl ?_
  refine z_callV (pc := 2) (k := 0) (n := 0) (k' := 1) (n' := 6) o (b := ad (0, 0, 0)) (As := [.int (a)]) (rest := []) (kBatN hC hBC a) ln_X11_212 dX11_batch_2 (z_rc (ci := 15) (K := (0, 0, 0)) rfl (gl_0 hC) rfl) rfl rfl (Nat.le_of_ble_eq_true rfl) ⟨by decide, by decide⟩ ⟨rfl, rfl⟩ ⟨by decide, by decide⟩ rfl (fun x h hE => by obtain ⟨rfl, hz, hr⟩ := hE; exact gE_mk (k := 1) (by simp only [F_batch, hz, not_true_eq_false, not_false_eq_true, if_true, if_false, or_true, true_or, or_false, false_or, and_true, true_and, and_false, false_and, or_self, and_self, eq_self, Bool.false_eq_true, ne_eq, reduceIte]) (.head _) hr) (y_and fun (g1 : gix (C.2 8 0) a = true) => ?_)
  refine y_astore_n (pc := 5) (i := 3) (lv' := [(3, .ref (ad (8, 0, a.toNatClampNeg))), (0, .ref (ad (0, 0, 0))), (1, .int (a)), (2, .int (b))]) o dX11_batch_5 rfl (by decide) rfl ?_
  refine y_iload_n (pc := 6) o dX11_batch_6 rfl ?_
  by_cases b2 : b = 98
  · refine z_tableK (pc := 7) (tgt := 118) (off := 111) o 98 dX11_batch_7 b2 (by decide) rfl ?_
    refine y_aload_n (pc := 118) o dX11_batch_118 rfl ?_
    refine z_get (pc := 119) (K := (8, 0, a.toNatClampNeg)) (v := .int (C.1 (8, 0, a.toNatClampNeg) 3)) o fl_X11_265 dX11_batch_119 (gl_8 (gix_lt (Nat.le_trans (hBC 2 0 (by decide)) (by decide)) g1)) rfl rfl ?_
    exact y_iret (pc := 122) o dX11_batch_122 rfl (vp_nar_int _) (by decide) (by decide) (fun h hp => gQ_mk (by simp only [F_batch, eq_true b2, g1, not_true_eq_false, not_false_eq_true, if_true, if_false, or_true, true_or, or_false, false_or, and_true, true_and, and_false, false_and, or_self, and_self, eq_self, Bool.false_eq_true, ne_eq, reduceIte]) hp)
  by_cases b3 : b = 100
  · refine z_tableK (pc := 7) (tgt := 133) (off := 126) o 100 dX11_batch_7 b3 (by decide) rfl ?_
    refine y_aload_n (pc := 133) o dX11_batch_133 rfl ?_
    refine z_get (pc := 134) (K := (8, 0, a.toNatClampNeg)) (v := .int (C.1 (8, 0, a.toNatClampNeg) 10)) o fl_X11_249 dX11_batch_134 (gl_8 (gix_lt (Nat.le_trans (hBC 2 0 (by decide)) (by decide)) g1)) rfl rfl ?_
    exact y_iret (pc := 137) o dX11_batch_137 rfl (vp_nar_int _) (by decide) (by decide) (fun h hp => gQ_mk (by simp only [F_batch, b2, eq_true b3, g1, not_true_eq_false, not_false_eq_true, if_true, if_false, or_true, true_or, or_false, false_or, and_true, true_and, and_false, false_and, or_self, and_self, eq_self, Bool.false_eq_true, ne_eq, reduceIte]) hp)
  by_cases b4 : b = 102
  · refine z_tableK (pc := 7) (tgt := 138) (off := 131) o 102 dX11_batch_7 b4 (by decide) rfl ?_
    refine y_aload_n (pc := 138) o dX11_batch_138 rfl ?_
    refine z_get (pc := 139) (K := (8, 0, a.toNatClampNeg)) (v := .int (C.1 (8, 0, a.toNatClampNeg) 6)) o fl_X11_255 dX11_batch_139 (gl_8 (gix_lt (Nat.le_trans (hBC 2 0 (by decide)) (by decide)) g1)) rfl rfl ?_
    exact y_iret (pc := 142) o dX11_batch_142 rfl (vp_nar_int _) (by decide) (by decide) (fun h hp => gQ_mk (by simp only [F_batch, b2, b3, eq_true b4, g1, not_true_eq_false, not_false_eq_true, if_true, if_false, or_true, true_or, or_false, false_or, and_true, true_and, and_false, false_and, or_self, and_self, eq_self, Bool.false_eq_true, ne_eq, reduceIte]) hp)
  by_cases b5 : b = 110
  · refine z_tableK (pc := 7) (tgt := 108) (off := 101) o 110 dX11_batch_7 b5 (by decide) rfl ?_
    refine y_aload_n (pc := 108) o dX11_batch_108 rfl ?_
    refine z_get (pc := 109) (K := (8, 0, a.toNatClampNeg)) (v := .int (C.1 (8, 0, a.toNatClampNeg) 1)) o fl_X11_226 dX11_batch_109 (gl_8 (gix_lt (Nat.le_trans (hBC 2 0 (by decide)) (by decide)) g1)) rfl rfl ?_
    exact y_iret (pc := 112) o dX11_batch_112 rfl (vp_nar_int _) (by decide) (by decide) (fun h hp => gQ_mk (by simp only [F_batch, b2, b3, b4, eq_true b5, g1, not_true_eq_false, not_false_eq_true, if_true, if_false, or_true, true_or, or_false, false_or, and_true, true_and, and_false, false_and, or_self, and_self, eq_self, Bool.false_eq_true, ne_eq, reduceIte]) hp)
  by_cases b6 : b = 114
  · refine z_tableK (pc := 7) (tgt := 123) (off := 116) o 114 dX11_batch_7 b6 (by decide) rfl ?_
    refine y_aload_n (pc := 123) o dX11_batch_123 rfl ?_
    refine z_get (pc := 124) (K := (8, 0, a.toNatClampNeg)) (v := .int (C.1 (8, 0, a.toNatClampNeg) 4)) o fl_X11_223 dX11_batch_124 (gl_8 (gix_lt (Nat.le_trans (hBC 2 0 (by decide)) (by decide)) g1)) rfl rfl ?_
    exact y_iret (pc := 127) o dX11_batch_127 rfl (vp_nar_int _) (by decide) (by decide) (fun h hp => gQ_mk (by simp only [F_batch, b2, b3, b4, b5, eq_true b6, g1, not_true_eq_false, not_false_eq_true, if_true, if_false, or_true, true_or, or_false, false_or, and_true, true_and, and_false, false_and, or_self, and_self, eq_self, Bool.false_eq_true, ne_eq, reduceIte]) hp)
  by_cases b7 : b = 115
  · refine z_tableK (pc := 7) (tgt := 128) (off := 121) o 115 dX11_batch_7 b7 (by decide) rfl ?_
    refine y_aload_n (pc := 128) o dX11_batch_128 rfl ?_
    refine z_get (pc := 129) (K := (8, 0, a.toNatClampNeg)) (v := .int (C.1 (8, 0, a.toNatClampNeg) 9)) o fl_X11_246 dX11_batch_129 (gl_8 (gix_lt (Nat.le_trans (hBC 2 0 (by decide)) (by decide)) g1)) rfl rfl ?_
    exact y_iret (pc := 132) o dX11_batch_132 rfl (vp_nar_int _) (by decide) (by decide) (fun h hp => gQ_mk (by simp only [F_batch, b2, b3, b4, b5, b6, eq_true b7, g1, not_true_eq_false, not_false_eq_true, if_true, if_false, or_true, true_or, or_false, false_or, and_true, true_and, and_false, false_and, or_self, and_self, eq_self, Bool.false_eq_true, ne_eq, reduceIte]) hp)
  by_cases b8 : b = 119
  · refine z_tableK (pc := 7) (tgt := 113) (off := 106) o 119 dX11_batch_7 b8 (by decide) rfl ?_
    refine y_aload_n (pc := 113) o dX11_batch_113 rfl ?_
    refine z_get (pc := 114) (K := (8, 0, a.toNatClampNeg)) (v := .int (C.1 (8, 0, a.toNatClampNeg) 2)) o fl_X11_233 dX11_batch_114 (gl_8 (gix_lt (Nat.le_trans (hBC 2 0 (by decide)) (by decide)) g1)) rfl rfl ?_
    exact y_iret (pc := 117) o dX11_batch_117 rfl (vp_nar_int _) (by decide) (by decide) (fun h hp => gQ_mk (by simp only [F_batch, b2, b3, b4, b5, b6, b7, eq_true b8, g1, not_true_eq_false, not_false_eq_true, if_true, if_false, or_true, true_or, or_false, false_or, and_true, true_and, and_false, false_and, or_self, and_self, eq_self, Bool.false_eq_true, ne_eq, reduceIte]) hp)
  refine z_tableD (pc := 7) (tgt := 143) o [98, 100, 102, 110, 114, 115, 119] dX11_batch_7 (by decide) (by decide) (by simp only [List.mem_cons, List.not_mem_nil, or_false, forall_eq_or_imp, forall_eq]; exact ⟨b2, b3, b4, b5, b6, b7, b8⟩) rfl ?_
  exact y_throwSW (pc := 143) o 37 rfl th_79 qw_295 qw_38 dX11_batch_143 dX11_batch_146 dX11_batch_147 dX11_batch_150 dX11_batch_153 rfl ⟨by decide, Nat.le_of_ble_eq_true rfl⟩ (by decide) (by decide) (fun h hp => gE_mk (k := 2) (by simp only [F_batch, b2, b3, b4, b5, b6, b7, b8, g1, not_true_eq_false, not_false_eq_true, if_true, if_false, or_true, true_or, or_false, false_or, and_true, true_and, and_false, false_and, or_self, and_self, eq_self, Bool.false_eq_true, ne_eq, reduceIte]) (.tail _ (.head _)) hp)

theorem p_draw {κ : gq_K} {ad : gKey → Nat} {C R : gG} {T : List (Nat × va_E)} (hC : gfix C.2) (hBC : gcnt C.2) (hM : gmach C) (a : Int32) : gq_C κ mX11_draw [.ref (ad (0, 0, 0)), .int (a)] (gR κ ad (C, R) T) (gQ κ ad R T (F_draw C a)) (gE κ ad R T [("java/lang/IndexOutOfBoundsException", 1), ("java/lang/UnsupportedOperationException", 2)] (F_draw C a)) := by
  refine gq_enter (by decide +kernel) rfl (Nat.le_of_ble_eq_true rfl) rfl (fun f o => ?_)
  refine y_aload_n (pc := 0) o dX11_draw_0 rfl ?_
  refine y_iload_n (pc := 1) o dX11_draw_1 rfl ?_
  refine z_callV (pc := 2) (k := 0) (n := 0) (k' := 1) (n' := 6) o (b := ad (0, 0, 0)) (As := [.int (a)]) (rest := []) (kBatN hC hBC a) ln_X11_212 dX11_draw_2 (z_rc (ci := 15) (K := (0, 0, 0)) rfl (gl_0 hC) rfl) rfl rfl (Nat.le_of_ble_eq_true rfl) ⟨by decide, by decide⟩ ⟨rfl, rfl⟩ ⟨by decide, by decide⟩ rfl (fun x h hE => by obtain ⟨rfl, hz, hr⟩ := hE; exact gE_mk (k := 1) (by simp only [F_draw, hz, not_true_eq_false, not_false_eq_true, if_true, if_false, or_true, true_or, or_false, false_or, and_true, true_and, and_false, false_and, or_self, and_self, eq_self, Bool.false_eq_true, ne_eq, reduceIte]) (.head _) hr) (y_and fun (g1 : gix (C.2 8 0) a = true) => ?_)
  refine y_astore_n (pc := 5) (i := 2) (lv' := [(2, .ref (ad (8, 0, a.toNatClampNeg))), (0, .ref (ad (0, 0, 0))), (1, .int (a))]) o dX11_draw_5 rfl (by decide) rfl ?_
  refine y_aload_n (pc := 6) o dX11_draw_6 rfl ?_
  refine z_callV (pc := 7) (k := 1) (n := 6) (k' := 1) (n' := 6) o (b := ad (8, 0, a.toNatClampNeg)) (As := []) (rest := []) (kFired _ (gix_lt (Nat.le_trans (hBC 2 0 (by decide)) (by decide)) g1)) ln_X11_238 dX11_draw_7 (z_rc (ci := 4) (K := (8, 0, a.toNatClampNeg)) rfl (gl_8 (gix_lt (Nat.le_trans (hBC 2 0 (by decide)) (by decide)) g1)) rfl) rfl rfl (Nat.le_of_ble_eq_true rfl) ⟨by decide, by decide⟩ ⟨rfl, rfl⟩ ⟨by decide, by decide⟩ rfl gq_nox2 ?_
  refine z_beq (pc := 10) (tgt := 24) o dX11_draw_10 rfl (fun (b2 : ¬ (¬ C.1 (8, 0, a.toNatClampNeg) 6 < 0)) => ?_) (fun (b2 : ¬ C.1 (8, 0, a.toNatClampNeg) 6 < 0) => ?_)
  · exact y_throwSW (pc := 24) o 38 rfl th_105 qw_400 qw_40 dX11_draw_24 dX11_draw_27 dX11_draw_28 dX11_draw_31 dX11_draw_34 rfl ⟨by decide, Nat.le_of_ble_eq_true rfl⟩ (by decide) (by decide) (fun h hp => gE_mk (k := 2) (by simp only [F_draw, Classical.not_not.mp b2, g1, not_true_eq_false, not_false_eq_true, if_true, if_false, or_true, true_or, or_false, false_or, and_true, true_and, and_false, false_and, or_self, and_self, eq_self, Bool.false_eq_true, ne_eq, reduceIte]) (.tail _ (.head _)) hp)
  refine y_aload_n (pc := 13) o dX11_draw_13 rfl ?_
  refine z_get (pc := 14) (K := (0, 0, 0)) (v := .int (C.1 (0, 0, 0) 0)) o fl_X11_55 dX11_draw_14 (gl_0 hC) rfl rfl ?_
  refine y_aload_n (pc := 17) o dX11_draw_17 rfl ?_
  refine z_get (pc := 18) (K := (8, 0, a.toNatClampNeg)) (v := .int (C.1 (8, 0, a.toNatClampNeg) 4)) o fl_X11_223 dX11_draw_18 (gl_8 (gix_lt (Nat.le_trans (hBC 2 0 (by decide)) (by decide)) g1)) rfl rfl ?_
  refine z_icmp_ge (pc := 21) (tgt := 35) o dX11_draw_21 rfl (fun (b3 : ¬ (C.1 (0, 0, 0) 0) < (C.1 (8, 0, a.toNatClampNeg) 4)) => ?_) (fun (b3 : (C.1 (0, 0, 0) 0) < (C.1 (8, 0, a.toNatClampNeg) 4)) => ?_)
  · refine y_aload_n (pc := 35) o dX11_draw_35 rfl ?_
    refine z_get (pc := 36) (K := (0, 0, 0)) (v := .ref (ad (2, 0, 0))) o fl_X11_19 dX11_draw_36 (gl_0 hC) rfl rfl ?_
    refine y_aload_n (pc := 39) o dX11_draw_39 rfl ?_
    refine z_get (pc := 40) (K := (8, 0, a.toNatClampNeg)) (v := .int (C.1 (8, 0, a.toNatClampNeg) 10)) o fl_X11_249 dX11_draw_40 (gl_8 (gix_lt (Nat.le_trans (hBC 2 0 (by decide)) (by decide)) g1)) rfl rfl ?_
    refine z_callV (pc := 43) (k := 1) (n := 6) (k' := 1) (n' := 6) o (b := ad (2, 0, 0)) (As := [.int (C.1 (8, 0, a.toNatClampNeg) 10)]) (rest := []) (kTell hC _) ln_X11_272 dX11_draw_43 (z_rc (ci := 14) (K := (2, 0, 0)) rfl (gl_2 hC) rfl) rfl rfl (Nat.le_of_ble_eq_true rfl) ⟨by decide, by decide⟩ ⟨rfl, rfl⟩ ⟨by decide, by decide⟩ rfl gq_nox2 ?_
    exact y_iret (pc := 46) o dX11_draw_46 rfl (vp_nar_int _) (by decide) (by decide) (fun h hp => gQ_mk (by simp only [F_draw, b2, b3, g1, not_true_eq_false, not_false_eq_true, if_true, if_false, or_true, true_or, or_false, false_or, and_true, true_and, and_false, false_and, or_self, and_self, eq_self, Bool.false_eq_true, ne_eq, reduceIte]) hp)
  exact y_throwSW (pc := 24) o 38 rfl th_105 qw_400 qw_40 dX11_draw_24 dX11_draw_27 dX11_draw_28 dX11_draw_31 dX11_draw_34 rfl ⟨by decide, Nat.le_of_ble_eq_true rfl⟩ (by decide) (by decide) (fun h hp => gE_mk (k := 2) (by simp only [F_draw, b2, b3, g1, not_true_eq_false, not_false_eq_true, if_true, if_false, or_true, true_or, or_false, false_or, and_true, true_and, and_false, false_and, or_self, and_self, eq_self, Bool.false_eq_true, ne_eq, reduceIte]) (.tail _ (.head _)) hp)

theorem p_slats {κ : gq_K} {ad : gKey → Nat} {C R : gG} {T : List (Nat × va_E)} (hC : gfix C.2) (hBC : gcnt C.2) (hM : gmach C) (a : Int32) (b : Int32) (c : Int32) (d : Int32) : gq_C κ mX11_slats [.ref (ad (0, 0, 0)), .int (a), .int (b), .int (c), .int (d)] (gR κ ad (C, R) T) (gQ κ ad R T (F_slats C a b c d)) (gE κ ad R T [("java/lang/IllegalArgumentException", 1), ("java/lang/IllegalStateException", 2)] (F_slats C a b c d)) := by
  refine gq_enter (by decide +kernel) rfl (Nat.le_of_ble_eq_true rfl) rfl (fun f o => ?_)
  have hch0 : a = 99 ∨ a = 98 → gch a := fun z => by unfold gch; rcases z with rfl | rfl <;> decide
  refine y_iload_n (pc := 0) o dX11_slats_0 rfl ?_
  refine y_bipush (pc := 1) (x := 99) o dX11_slats_1 (by decide) ?_
  refine y_icmp_eq (pc := 3) (tgt := 23) o dX11_slats_3 rfl (fun (b1 : a = 99) => ?_) (fun (b1 : ¬ a = 99) => ?_)
  · refine y_iload_n (pc := 23) o dX11_slats_23 rfl ?_
    refine y_iconst (pc := 24) (x := 0) o dX11_slats_24 (by decide) ?_
    refine y_bipush (pc := 25) (x := 9) o dX11_slats_25 (by decide) ?_
    refine z_callS (pc := 27) (k := 0) (n := 0) (k' := 0) (n' := 0) o (As := [.int (b), .int (0), .int (9)]) (rest := []) (kIsOut _ _ _) ln_X11_71 dX11_slats_27 rfl rfl (Nat.le_of_ble_eq_true rfl) ⟨by decide, by decide⟩ ⟨rfl, rfl⟩ ⟨by decide, by decide⟩ rfl gq_nox2 ?_
    refine z_bne (pc := 30) (tgt := 55) o dX11_slats_30 rfl (fun (b2 : ¬ gin 0 b 9 = true) => ?_) (fun (b2 : ¬ (¬ gin 0 b 9 = true)) => ?_)
    · exact y_throwSW (pc := 55) o 40 rfl th_79 qw_295 qw_38 dX11_slats_55 dX11_slats_58 dX11_slats_59 dX11_slats_62 dX11_slats_65 rfl ⟨by decide, Nat.le_of_ble_eq_true rfl⟩ (by decide) (by decide) (fun h hp => gE_mk (k := 1) (by simp only [F_slats, eq_true b1, b2, not_true_eq_false, not_false_eq_true, if_true, if_false, or_true, true_or, or_false, false_or, and_true, true_and, and_false, false_and, or_self, and_self, eq_self, Bool.false_eq_true, ne_eq, reduceIte]) (.head _) hp)
    refine y_iload_n (pc := 33) o dX11_slats_33 rfl ?_
    refine y_iconst (pc := 34) (x := 0) o dX11_slats_34 (by decide) ?_
    refine y_bipush (pc := 35) (x := 40) o dX11_slats_35 (by decide) ?_
    refine z_callS (pc := 37) (k := 0) (n := 0) (k' := 0) (n' := 0) o (As := [.int (c), .int (0), .int (40)]) (rest := []) (kIsOut _ _ _) ln_X11_71 dX11_slats_37 rfl rfl (Nat.le_of_ble_eq_true rfl) ⟨by decide, by decide⟩ ⟨rfl, rfl⟩ ⟨by decide, by decide⟩ rfl gq_nox2 ?_
    refine z_bne (pc := 40) (tgt := 55) o dX11_slats_40 rfl (fun (b3 : ¬ gin 0 c 40 = true) => ?_) (fun (b3 : ¬ (¬ gin 0 c 40 = true)) => ?_)
    · exact y_throwSW (pc := 55) o 40 rfl th_79 qw_295 qw_38 dX11_slats_55 dX11_slats_58 dX11_slats_59 dX11_slats_62 dX11_slats_65 rfl ⟨by decide, Nat.le_of_ble_eq_true rfl⟩ (by decide) (by decide) (fun h hp => gE_mk (k := 1) (by simp only [F_slats, eq_true b1, Classical.not_not.mp b2, b3, not_true_eq_false, not_false_eq_true, if_true, if_false, or_true, true_or, or_false, false_or, and_true, true_and, and_false, false_and, or_self, and_self, eq_self, Bool.false_eq_true, ne_eq, reduceIte]) (.head _) hp)
    refine y_iload (pc := 43) o dX11_slats_43 rfl ?_
    refine y_iconst (pc := 45) (x := 1) o dX11_slats_45 (by decide) ?_
    refine y_sipush (pc := 46) (x := 500) o dX11_slats_46 (by decide) ?_
    refine z_callS (pc := 49) (k := 0) (n := 0) (k' := 0) (n' := 0) o (As := [.int (d), .int (1), .int (500)]) (rest := []) (kIsOut _ _ _) ln_X11_71 dX11_slats_49 rfl rfl (Nat.le_of_ble_eq_true rfl) ⟨by decide, by decide⟩ ⟨rfl, rfl⟩ ⟨by decide, by decide⟩ rfl gq_nox2 ?_
    refine z_beq (pc := 52) (tgt := 66) o dX11_slats_52 rfl (fun (b4 : ¬ (¬ gin 1 d 500 = true)) => ?_) (fun (b4 : ¬ gin 1 d 500 = true) => ?_)
    · refine y_aload_n (pc := 66) o dX11_slats_66 rfl ?_
      refine z_get (pc := 67) (K := (0, 0, 0)) (v := .ref (ad (4, 3, 0))) o fl_X11_36 dX11_slats_67 (gl_0 hC) rfl rfl ?_
      refine z_callV (pc := 70) (k := 0) (n := 0) (k' := 0) (n' := 0) o (b := ad (4, 3, 0)) (As := []) (rest := []) (sizeC (l := 3) (g := 0) (gl_4_3 hC)) ln_X11_127 dX11_slats_70 (z_rc (ci := 3) (K := (4, 3, 0)) rfl (gl_4_3 hC) rfl) rfl rfl (Nat.le_of_ble_eq_true rfl) ⟨by decide, by decide⟩ ⟨rfl, rfl⟩ ⟨by decide, by decide⟩ rfl gq_nox2 ?_
      refine y_bipush (pc := 73) (x := 12) o dX11_slats_73 (by decide) ?_
      refine y_icmp_lt (pc := 75) (tgt := 89) o dX11_slats_75 rfl (fun (b5 : (Int32.ofNat (C.2 9 0)) < 12) => ?_) (fun (b5 : ¬ (Int32.ofNat (C.2 9 0)) < 12) => ?_)
      · refine y_aload_n (pc := 89) o dX11_slats_89 rfl ?_
        refine z_get (pc := 90) (K := (0, 0, 0)) (v := .ref (ad (4, 3, 0))) o fl_X11_36 dX11_slats_90 (gl_0 hC) rfl rfl ?_
        refine z_new (pc := 93) (k := 0) (n := 0) o nw_X11_285 dX11_slats_93 (by decide) (by decide) (fun q6 => ?_)
        refine y_dup (pc := 96) o dX11_slats_96 rfl ?_
        refine y_aload_n (pc := 97) o dX11_slats_97 rfl ?_
        refine z_get (pc := 98) (K := (0, 0, 0)) (v := .ref (ad (4, 3, 0))) o fl_X11_36 dX11_slats_98 (gl_0 hC) rfl rfl ?_
        refine z_callV (pc := 101) (k := 1) (n := 7) (k' := 1) (n' := 7) o (b := ad (4, 3, 0)) (As := []) (rest := [.ref (q6), .ref (q6), .ref (ad (4, 3, 0))]) (sizeC (l := 3) (g := 0) (gl_4_3 hC)) ln_X11_127 dX11_slats_101 (z_rc (ci := 3) (K := (4, 3, 0)) rfl (gl_4_3 hC) rfl) rfl rfl (Nat.le_of_ble_eq_true rfl) ⟨by decide, by decide⟩ ⟨rfl, rfl⟩ ⟨by decide, by decide⟩ rfl gq_nox2 ?_
        refine y_iload_n (pc := 104) o dX11_slats_104 rfl ?_
        refine y_iload_n (pc := 105) o dX11_slats_105 rfl ?_
        refine y_iload_n (pc := 106) o dX11_slats_106 rfl ?_
        refine y_iload (pc := 107) o dX11_slats_107 rfl ?_
        refine z_callI (pc := 109) (k := 1) (n := 7) (k' := 1) (n' := 7) o (b := q6) (As := [.int (Int32.ofNat (C.2 9 0)), .int (a), .int (b), .int (c), .int (d)]) (rest := [.ref (q6), .ref (ad (4, 3, 0))]) (kX9_init _ (Int32.ofNat (C.2 9 0)) (a) (hch0 (Or.inl b1)) (b) (c) (d)) ln_X11_287 dX11_slats_109 rfl rfl (Nat.le_of_ble_eq_true rfl) ⟨by decide, by decide⟩ ⟨rfl, rfl⟩ ⟨by decide, by decide⟩ ?_
        refine y_callV (pc := 112) (k := 1) (n := 7) o (b := ad (4, 3, 0)) (As := [.ref q6]) (rest := []) (addCa (C := C) (R := R) (l := 3) (g := 0) (n := C.2 9 0) (row := (glist [a, b, c, d, 0, 0])) (a := 9) rfl (gl_4_3 hC) (Or.inr rfl) rfl (hBC 3 0 (by decide)) nC_9 (fun K hK => by cases hK)) ln_X11_138 dX11_slats_112 (z_rc (ci := 3) (K := (4, 3, 0)) rfl (gl_4_3 hC) rfl) rfl rfl (Nat.le_of_ble_eq_true rfl) ⟨by decide, by decide⟩ ⟨by decide, by decide⟩ (fun _ e => e) rfl gq_nox2 (fun v => y_and fun ev => y_ex fun ad7 => y_and fun had => y_and fun hadq => ?_)
        subst ev
        have e0 : ad7 (0, 0, 0) = ad (0, 0, 0) := had (0, 0, 0) (by simp) (by simp)
        have e20 : ad7 (20, 0, 0) = ad (20, 0, 0) := had (20, 0, 0) (by simp) (by simp)
        refine z_st (st' := [.int (1)]) rfl ?_
        rw [← e0]
        refine y_pop (pc := 115) o dX11_slats_115 rfl ?_
        refine y_aload_n (pc := 116) o dX11_slats_116 rfl ?_
        refine z_get (pc := 117) (K := (0, 0, 0)) (v := .ref (ad7 (4, 3, 0))) o fl_X11_36 dX11_slats_117 (gl_0 (gfix_new (a := 9) (by decide) hC)) rfl rfl ?_
        refine z_callV (pc := 120) (k := 2) (n := 263) (k' := 2) (n' := 263) o (b := ad7 (4, 3, 0)) (As := []) (rest := []) (sizeC (l := 3) (g := 0) (gl_4_3 (gfix_new (a := 9) (by decide) hC))) ln_X11_127 dX11_slats_120 (z_rc (ci := 3) (K := (4, 3, 0)) rfl (gl_4_3 (gfix_new (a := 9) (by decide) hC)) rfl) rfl rfl (Nat.le_of_ble_eq_true rfl) ⟨by decide, by decide⟩ ⟨rfl, rfl⟩ ⟨by decide, by decide⟩ rfl gq_nox2 ?_
        refine z_top (w := .int (Int32.ofNat (C.2 9 0 + 1))) (congrArg (fun z => Value.int (Int32.ofNat z)) (gnew_n _ _)) ?_
        refine y_iconst (pc := 123) (x := 1) o dX11_slats_123 (by decide) ?_
        refine y_isub (pc := 124) o dX11_slats_124 ?_
        exact y_iret (pc := 125) o dX11_slats_125 rfl (vp_nar_int _) (by decide) (by decide) (fun h hp => gQ_mk2 (by simp only [F_slats, eq_true b1, Classical.not_not.mp b2, Classical.not_not.mp b3, Classical.not_not.mp b4, b5, not_true_eq_false, not_false_eq_true, if_true, if_false, or_true, true_or, or_false, false_or, and_true, true_and, and_false, false_and, or_self, and_self, eq_self, Bool.false_eq_true, ne_eq, reduceIte]) e0 e20 hp)
      exact y_throwSW (pc := 78) o 41 rfl th_86 qw_366 qw_39 dX11_slats_78 dX11_slats_81 dX11_slats_82 dX11_slats_85 dX11_slats_88 rfl ⟨by decide, Nat.le_of_ble_eq_true rfl⟩ (by decide) (by decide) (fun h hp => gE_mk (k := 2) (by simp only [F_slats, eq_true b1, Classical.not_not.mp b2, Classical.not_not.mp b3, Classical.not_not.mp b4, b5, not_true_eq_false, not_false_eq_true, if_true, if_false, or_true, true_or, or_false, false_or, and_true, true_and, and_false, false_and, or_self, and_self, eq_self, Bool.false_eq_true, ne_eq, reduceIte]) (.tail _ (.head _)) hp)
    exact y_throwSW (pc := 55) o 40 rfl th_79 qw_295 qw_38 dX11_slats_55 dX11_slats_58 dX11_slats_59 dX11_slats_62 dX11_slats_65 rfl ⟨by decide, Nat.le_of_ble_eq_true rfl⟩ (by decide) (by decide) (fun h hp => gE_mk (k := 1) (by simp only [F_slats, eq_true b1, Classical.not_not.mp b2, Classical.not_not.mp b3, b4, not_true_eq_false, not_false_eq_true, if_true, if_false, or_true, true_or, or_false, false_or, and_true, true_and, and_false, false_and, or_self, and_self, eq_self, Bool.false_eq_true, ne_eq, reduceIte]) (.head _) hp)
  refine y_iload_n (pc := 6) o dX11_slats_6 rfl ?_
  refine y_bipush (pc := 7) (x := 98) o dX11_slats_7 (by decide) ?_
  refine y_icmp_eq (pc := 9) (tgt := 23) o dX11_slats_9 rfl (fun (b8 : a = 98) => ?_) (fun (b8 : ¬ a = 98) => ?_)
  · refine y_iload_n (pc := 23) o dX11_slats_23 rfl ?_
    refine y_iconst (pc := 24) (x := 0) o dX11_slats_24 (by decide) ?_
    refine y_bipush (pc := 25) (x := 9) o dX11_slats_25 (by decide) ?_
    refine z_callS (pc := 27) (k := 0) (n := 0) (k' := 0) (n' := 0) o (As := [.int (b), .int (0), .int (9)]) (rest := []) (kIsOut _ _ _) ln_X11_71 dX11_slats_27 rfl rfl (Nat.le_of_ble_eq_true rfl) ⟨by decide, by decide⟩ ⟨rfl, rfl⟩ ⟨by decide, by decide⟩ rfl gq_nox2 ?_
    refine z_bne (pc := 30) (tgt := 55) o dX11_slats_30 rfl (fun (b9 : ¬ gin 0 b 9 = true) => ?_) (fun (b9 : ¬ (¬ gin 0 b 9 = true)) => ?_)
    · exact y_throwSW (pc := 55) o 40 rfl th_79 qw_295 qw_38 dX11_slats_55 dX11_slats_58 dX11_slats_59 dX11_slats_62 dX11_slats_65 rfl ⟨by decide, Nat.le_of_ble_eq_true rfl⟩ (by decide) (by decide) (fun h hp => gE_mk (k := 1) (by simp only [F_slats, b1, eq_true b8, b9, not_true_eq_false, not_false_eq_true, if_true, if_false, or_true, true_or, or_false, false_or, and_true, true_and, and_false, false_and, or_self, and_self, eq_self, Bool.false_eq_true, ne_eq, reduceIte]) (.head _) hp)
    refine y_iload_n (pc := 33) o dX11_slats_33 rfl ?_
    refine y_iconst (pc := 34) (x := 0) o dX11_slats_34 (by decide) ?_
    refine y_bipush (pc := 35) (x := 40) o dX11_slats_35 (by decide) ?_
    refine z_callS (pc := 37) (k := 0) (n := 0) (k' := 0) (n' := 0) o (As := [.int (c), .int (0), .int (40)]) (rest := []) (kIsOut _ _ _) ln_X11_71 dX11_slats_37 rfl rfl (Nat.le_of_ble_eq_true rfl) ⟨by decide, by decide⟩ ⟨rfl, rfl⟩ ⟨by decide, by decide⟩ rfl gq_nox2 ?_
    refine z_bne (pc := 40) (tgt := 55) o dX11_slats_40 rfl (fun (b10 : ¬ gin 0 c 40 = true) => ?_) (fun (b10 : ¬ (¬ gin 0 c 40 = true)) => ?_)
    · exact y_throwSW (pc := 55) o 40 rfl th_79 qw_295 qw_38 dX11_slats_55 dX11_slats_58 dX11_slats_59 dX11_slats_62 dX11_slats_65 rfl ⟨by decide, Nat.le_of_ble_eq_true rfl⟩ (by decide) (by decide) (fun h hp => gE_mk (k := 1) (by simp only [F_slats, b1, eq_true b8, Classical.not_not.mp b9, b10, not_true_eq_false, not_false_eq_true, if_true, if_false, or_true, true_or, or_false, false_or, and_true, true_and, and_false, false_and, or_self, and_self, eq_self, Bool.false_eq_true, ne_eq, reduceIte]) (.head _) hp)
    refine y_iload (pc := 43) o dX11_slats_43 rfl ?_
    refine y_iconst (pc := 45) (x := 1) o dX11_slats_45 (by decide) ?_
    refine y_sipush (pc := 46) (x := 500) o dX11_slats_46 (by decide) ?_
    refine z_callS (pc := 49) (k := 0) (n := 0) (k' := 0) (n' := 0) o (As := [.int (d), .int (1), .int (500)]) (rest := []) (kIsOut _ _ _) ln_X11_71 dX11_slats_49 rfl rfl (Nat.le_of_ble_eq_true rfl) ⟨by decide, by decide⟩ ⟨rfl, rfl⟩ ⟨by decide, by decide⟩ rfl gq_nox2 ?_
    refine z_beq (pc := 52) (tgt := 66) o dX11_slats_52 rfl (fun (b11 : ¬ (¬ gin 1 d 500 = true)) => ?_) (fun (b11 : ¬ gin 1 d 500 = true) => ?_)
    · refine y_aload_n (pc := 66) o dX11_slats_66 rfl ?_
      refine z_get (pc := 67) (K := (0, 0, 0)) (v := .ref (ad (4, 3, 0))) o fl_X11_36 dX11_slats_67 (gl_0 hC) rfl rfl ?_
      refine z_callV (pc := 70) (k := 0) (n := 0) (k' := 0) (n' := 0) o (b := ad (4, 3, 0)) (As := []) (rest := []) (sizeC (l := 3) (g := 0) (gl_4_3 hC)) ln_X11_127 dX11_slats_70 (z_rc (ci := 3) (K := (4, 3, 0)) rfl (gl_4_3 hC) rfl) rfl rfl (Nat.le_of_ble_eq_true rfl) ⟨by decide, by decide⟩ ⟨rfl, rfl⟩ ⟨by decide, by decide⟩ rfl gq_nox2 ?_
      refine y_bipush (pc := 73) (x := 12) o dX11_slats_73 (by decide) ?_
      refine y_icmp_lt (pc := 75) (tgt := 89) o dX11_slats_75 rfl (fun (b12 : (Int32.ofNat (C.2 9 0)) < 12) => ?_) (fun (b12 : ¬ (Int32.ofNat (C.2 9 0)) < 12) => ?_)
      · refine y_aload_n (pc := 89) o dX11_slats_89 rfl ?_
        refine z_get (pc := 90) (K := (0, 0, 0)) (v := .ref (ad (4, 3, 0))) o fl_X11_36 dX11_slats_90 (gl_0 hC) rfl rfl ?_
        refine z_new (pc := 93) (k := 0) (n := 0) o nw_X11_285 dX11_slats_93 (by decide) (by decide) (fun q13 => ?_)
        refine y_dup (pc := 96) o dX11_slats_96 rfl ?_
        refine y_aload_n (pc := 97) o dX11_slats_97 rfl ?_
        refine z_get (pc := 98) (K := (0, 0, 0)) (v := .ref (ad (4, 3, 0))) o fl_X11_36 dX11_slats_98 (gl_0 hC) rfl rfl ?_
        refine z_callV (pc := 101) (k := 1) (n := 7) (k' := 1) (n' := 7) o (b := ad (4, 3, 0)) (As := []) (rest := [.ref (q13), .ref (q13), .ref (ad (4, 3, 0))]) (sizeC (l := 3) (g := 0) (gl_4_3 hC)) ln_X11_127 dX11_slats_101 (z_rc (ci := 3) (K := (4, 3, 0)) rfl (gl_4_3 hC) rfl) rfl rfl (Nat.le_of_ble_eq_true rfl) ⟨by decide, by decide⟩ ⟨rfl, rfl⟩ ⟨by decide, by decide⟩ rfl gq_nox2 ?_
        refine y_iload_n (pc := 104) o dX11_slats_104 rfl ?_
        refine y_iload_n (pc := 105) o dX11_slats_105 rfl ?_
        refine y_iload_n (pc := 106) o dX11_slats_106 rfl ?_
        refine y_iload (pc := 107) o dX11_slats_107 rfl ?_
        refine z_callI (pc := 109) (k := 1) (n := 7) (k' := 1) (n' := 7) o (b := q13) (As := [.int (Int32.ofNat (C.2 9 0)), .int (a), .int (b), .int (c), .int (d)]) (rest := [.ref (q13), .ref (ad (4, 3, 0))]) (kX9_init _ (Int32.ofNat (C.2 9 0)) (a) (hch0 (Or.inr b8)) (b) (c) (d)) ln_X11_287 dX11_slats_109 rfl rfl (Nat.le_of_ble_eq_true rfl) ⟨by decide, by decide⟩ ⟨rfl, rfl⟩ ⟨by decide, by decide⟩ ?_
        refine y_callV (pc := 112) (k := 1) (n := 7) o (b := ad (4, 3, 0)) (As := [.ref q13]) (rest := []) (addCa (C := C) (R := R) (l := 3) (g := 0) (n := C.2 9 0) (row := (glist [a, b, c, d, 0, 0])) (a := 9) rfl (gl_4_3 hC) (Or.inr rfl) rfl (hBC 3 0 (by decide)) nC_9 (fun K hK => by cases hK)) ln_X11_138 dX11_slats_112 (z_rc (ci := 3) (K := (4, 3, 0)) rfl (gl_4_3 hC) rfl) rfl rfl (Nat.le_of_ble_eq_true rfl) ⟨by decide, by decide⟩ ⟨by decide, by decide⟩ (fun _ e => e) rfl gq_nox2 (fun v => y_and fun ev => y_ex fun ad14 => y_and fun had => y_and fun hadq => ?_)
        subst ev
        have e0 : ad14 (0, 0, 0) = ad (0, 0, 0) := had (0, 0, 0) (by simp) (by simp)
        have e20 : ad14 (20, 0, 0) = ad (20, 0, 0) := had (20, 0, 0) (by simp) (by simp)
        refine z_st (st' := [.int (1)]) rfl ?_
        rw [← e0]
        refine y_pop (pc := 115) o dX11_slats_115 rfl ?_
        refine y_aload_n (pc := 116) o dX11_slats_116 rfl ?_
        refine z_get (pc := 117) (K := (0, 0, 0)) (v := .ref (ad14 (4, 3, 0))) o fl_X11_36 dX11_slats_117 (gl_0 (gfix_new (a := 9) (by decide) hC)) rfl rfl ?_
        refine z_callV (pc := 120) (k := 2) (n := 263) (k' := 2) (n' := 263) o (b := ad14 (4, 3, 0)) (As := []) (rest := []) (sizeC (l := 3) (g := 0) (gl_4_3 (gfix_new (a := 9) (by decide) hC))) ln_X11_127 dX11_slats_120 (z_rc (ci := 3) (K := (4, 3, 0)) rfl (gl_4_3 (gfix_new (a := 9) (by decide) hC)) rfl) rfl rfl (Nat.le_of_ble_eq_true rfl) ⟨by decide, by decide⟩ ⟨rfl, rfl⟩ ⟨by decide, by decide⟩ rfl gq_nox2 ?_
        refine z_top (w := .int (Int32.ofNat (C.2 9 0 + 1))) (congrArg (fun z => Value.int (Int32.ofNat z)) (gnew_n _ _)) ?_
        refine y_iconst (pc := 123) (x := 1) o dX11_slats_123 (by decide) ?_
        refine y_isub (pc := 124) o dX11_slats_124 ?_
        exact y_iret (pc := 125) o dX11_slats_125 rfl (vp_nar_int _) (by decide) (by decide) (fun h hp => gQ_mk2 (by simp only [F_slats, b1, eq_true b8, Classical.not_not.mp b9, Classical.not_not.mp b10, Classical.not_not.mp b11, b12, not_true_eq_false, not_false_eq_true, if_true, if_false, or_true, true_or, or_false, false_or, and_true, true_and, and_false, false_and, or_self, and_self, eq_self, Bool.false_eq_true, ne_eq, reduceIte]) e0 e20 hp)
      exact y_throwSW (pc := 78) o 41 rfl th_86 qw_366 qw_39 dX11_slats_78 dX11_slats_81 dX11_slats_82 dX11_slats_85 dX11_slats_88 rfl ⟨by decide, Nat.le_of_ble_eq_true rfl⟩ (by decide) (by decide) (fun h hp => gE_mk (k := 2) (by simp only [F_slats, b1, eq_true b8, Classical.not_not.mp b9, Classical.not_not.mp b10, Classical.not_not.mp b11, b12, not_true_eq_false, not_false_eq_true, if_true, if_false, or_true, true_or, or_false, false_or, and_true, true_and, and_false, false_and, or_self, and_self, eq_self, Bool.false_eq_true, ne_eq, reduceIte]) (.tail _ (.head _)) hp)
    exact y_throwSW (pc := 55) o 40 rfl th_79 qw_295 qw_38 dX11_slats_55 dX11_slats_58 dX11_slats_59 dX11_slats_62 dX11_slats_65 rfl ⟨by decide, Nat.le_of_ble_eq_true rfl⟩ (by decide) (by decide) (fun h hp => gE_mk (k := 1) (by simp only [F_slats, b1, eq_true b8, Classical.not_not.mp b9, Classical.not_not.mp b10, b11, not_true_eq_false, not_false_eq_true, if_true, if_false, or_true, true_or, or_false, false_or, and_true, true_and, and_false, false_and, or_self, and_self, eq_self, Bool.false_eq_true, ne_eq, reduceIte]) (.head _) hp)
  exact y_throwSW (pc := 12) o 39 rfl th_79 qw_295 qw_38 dX11_slats_12 dX11_slats_15 dX11_slats_16 dX11_slats_19 dX11_slats_22 rfl ⟨by decide, Nat.le_of_ble_eq_true rfl⟩ (by decide) (by decide) (fun h hp => gE_mk (k := 1) (by simp only [F_slats, b1, b8, not_true_eq_false, not_false_eq_true, if_true, if_false, or_true, true_or, or_false, false_or, and_true, true_and, and_false, false_and, or_self, and_self, eq_self, Bool.false_eq_true, ne_eq, reduceIte]) (.head _) hp)

theorem p_season {κ : gq_K} {ad : gKey → Nat} {C R : gG} {T : List (Nat × va_E)} (hC : gfix C.2) (hBC : gcnt C.2) (hM : gmach C) (a : Int32) (b : Int32) : gq_C κ mX11_season [.ref (ad (0, 0, 0)), .int (a), .int (b)] (gR κ ad (C, R) T) (gQ κ ad R T (F_season C a b)) (gE κ ad R T [("java/lang/IndexOutOfBoundsException", 1), ("java/lang/IllegalArgumentException", 2), ("java/lang/UnsupportedOperationException", 3)] (F_season C a b)) := by
  refine gq_enter (by decide +kernel) rfl (Nat.le_of_ble_eq_true rfl) rfl (fun f o => ?_)
  refine y_aload_n (pc := 0) o dX11_season_0 rfl ?_
  refine y_iload_n (pc := 1) o dX11_season_1 rfl ?_
  refine z_callV (pc := 2) (k := 0) (n := 0) (k' := 1) (n' := 6) o (b := ad (0, 0, 0)) (As := [.int (a)]) (rest := []) (kSlaN hC hBC a) ln_X11_290 dX11_season_2 (z_rc (ci := 15) (K := (0, 0, 0)) rfl (gl_0 hC) rfl) rfl rfl (Nat.le_of_ble_eq_true rfl) ⟨by decide, by decide⟩ ⟨rfl, rfl⟩ ⟨by decide, by decide⟩ rfl (fun x h hE => by obtain ⟨rfl, hz, hr⟩ := hE; exact gE_mk (k := 1) (by simp only [F_season, hz, not_true_eq_false, not_false_eq_true, if_true, if_false, or_true, true_or, or_false, false_or, and_true, true_and, and_false, false_and, or_self, and_self, eq_self, Bool.false_eq_true, ne_eq, reduceIte]) (.head _) hr) (y_and fun (g1 : gix (C.2 9 0) a = true) => ?_)
  refine y_astore_n (pc := 5) (i := 3) (lv' := [(3, .ref (ad (9, 0, a.toNatClampNeg))), (0, .ref (ad (0, 0, 0))), (1, .int (a)), (2, .int (b))]) o dX11_season_5 rfl (by decide) rfl ?_
  refine y_iload_n (pc := 6) o dX11_season_6 rfl ?_
  refine y_iconst (pc := 7) (x := 1) o dX11_season_7 (by decide) ?_
  refine y_sipush (pc := 8) (x := 200) o dX11_season_8 (by decide) ?_
  refine z_callS (pc := 11) (k := 1) (n := 6) (k' := 1) (n' := 6) o (As := [.int (b), .int (1), .int (200)]) (rest := []) (kIsOut _ _ _) ln_X11_71 dX11_season_11 rfl rfl (Nat.le_of_ble_eq_true rfl) ⟨by decide, by decide⟩ ⟨rfl, rfl⟩ ⟨by decide, by decide⟩ rfl gq_nox2 ?_
  refine z_beq (pc := 14) (tgt := 28) o dX11_season_14 rfl (fun (b2 : ¬ (¬ gin 1 b 200 = true)) => ?_) (fun (b2 : ¬ gin 1 b 200 = true) => ?_)
  · refine y_aload_n (pc := 28) o dX11_season_28 rfl ?_
    refine z_get (pc := 29) (K := (0, 0, 0)) (v := .int (C.1 (0, 0, 0) 0)) o fl_X11_55 dX11_season_29 (gl_0 hC) rfl rfl ?_
    refine y_aload_n (pc := 32) o dX11_season_32 rfl ?_
    refine z_get (pc := 33) (K := (9, 0, a.toNatClampNeg)) (v := .int (C.1 (9, 0, a.toNatClampNeg) 5)) o fl_X11_296 dX11_season_33 (gl_9 (gix_lt (Nat.le_trans (hBC 3 0 (by decide)) (by decide)) g1)) rfl rfl ?_
    refine z_icmp_ge (pc := 36) (tgt := 50) o dX11_season_36 rfl (fun (b3 : ¬ (C.1 (0, 0, 0) 0) < (C.1 (9, 0, a.toNatClampNeg) 5)) => ?_) (fun (b3 : (C.1 (0, 0, 0) 0) < (C.1 (9, 0, a.toNatClampNeg) 5)) => ?_)
    · refine y_aload_n (pc := 50) o dX11_season_50 rfl ?_
      refine z_get (pc := 51) (K := (9, 0, a.toNatClampNeg)) (v := .int (C.1 (9, 0, a.toNatClampNeg) 0)) o fl_X11_299 dX11_season_51 (gl_9 (gix_lt (Nat.le_trans (hBC 3 0 (by decide)) (by decide)) g1)) rfl rfl ?_
      refine y_bipush (pc := 54) (x := 99) o dX11_season_54 (by decide) ?_
      refine y_icmp_ne (pc := 56) (tgt := 64) o dX11_season_56 rfl (fun (b4 : ¬ (C.1 (9, 0, a.toNatClampNeg) 0) = 99) => ?_) (fun (b4 : (C.1 (9, 0, a.toNatClampNeg) 0) = 99) => ?_)
      · refine y_bipush (pc := 64) (x := 9) o dX11_season_64 (by decide) ?_
        refine y_istore (pc := 66) (i := 4) (lv' := [(4, .int (9)), (3, .ref (ad (9, 0, a.toNatClampNeg))), (0, .ref (ad (0, 0, 0))), (1, .int (a)), (2, .int (b))]) o dX11_season_66 (by decide) rfl ?_
        refine y_aload_n (pc := 68) o dX11_season_68 rfl ?_
        refine y_iconst (pc := 69) (x := 0) o dX11_season_69 (by decide) ?_
        refine y_aload_n (pc := 70) o dX11_season_70 rfl ?_
        refine z_get (pc := 71) (K := (9, 0, a.toNatClampNeg)) (v := .int (C.1 (9, 0, a.toNatClampNeg) 2)) o fl_X11_302 dX11_season_71 (gl_9 (gix_lt (Nat.le_trans (hBC 3 0 (by decide)) (by decide)) g1)) rfl rfl ?_
        refine y_iload_n (pc := 74) o dX11_season_74 rfl ?_
        refine y_iload (pc := 75) o dX11_season_75 rfl ?_
        refine y_idiv (pc := 77) o dX11_season_77 (by decide) ?_
        refine y_isub (pc := 78) o dX11_season_78 ?_
        refine y_mmax (pc := 79) o qw_603 dX11_season_79 ⟨by decide, Nat.le_of_ble_eq_true rfl⟩ (by decide) (by decide) ?_
        refine z_putC (pc := 82) (K := (9, 0, a.toNatClampNeg)) (fd := 2) (x := gmax 0 ((C.1 (9, 0, a.toNatClampNeg) 2) - (b / 9))) o fw_X11_302 dX11_season_82 (gl_9 (gix_lt (Nat.le_trans (hBC 3 0 (by decide)) (by decide)) g1)) (show (9:Nat) < 20 by decide) rfl (Nat.le_of_ble_eq_true rfl) (vp_nar_int _) rfl rfl pC_9_3 (z_refC (show (9:Nat) < 20 by decide) (gl_9 (gix_lt (Nat.le_trans (hBC 3 0 (by decide)) (by decide)) g1)) qC_9_3) ?_
        refine y_aload_n (pc := 85) o dX11_season_85 rfl ?_
        refine y_aload_n (pc := 86) o dX11_season_86 rfl ?_
        refine z_get (pc := 87) (K := (0, 0, 0)) (v := .int ((gup C (9, 0, a.toNatClampNeg) 2 (gmax 0 ((C.1 (9, 0, a.toNatClampNeg) 2) - (b / 9)))).1 (0, 0, 0) 0)) o fl_X11_55 dX11_season_87 (gl_0 hC) rfl rfl ?_
        refine z_top (congrArg Value.int (gup_ff _ (show (0:Nat) ≠ 2 by decide))) ?_
        refine y_iload_n (pc := 90) o dX11_season_90 rfl ?_
        refine y_iadd (pc := 91) o dX11_season_91 ?_
        refine z_putC (pc := 92) (K := (9, 0, a.toNatClampNeg)) (fd := 5) (x := (C.1 (0, 0, 0) 0) + b) o fw_X11_296 dX11_season_92 (gl_9 (gix_lt (Nat.le_trans (hBC 3 0 (by decide)) (by decide)) g1)) (show (9:Nat) < 20 by decide) rfl (Nat.le_of_ble_eq_true rfl) (vp_nar_int _) rfl rfl pC_9_6 (z_refC (show (9:Nat) < 20 by decide) (gl_9 (gix_lt (Nat.le_trans (hBC 3 0 (by decide)) (by decide)) g1)) qC_9_6) ?_
        refine y_aload_n (pc := 95) o dX11_season_95 rfl ?_
        refine z_get (pc := 96) (K := (9, 0, a.toNatClampNeg)) (v := .int ((gup (gup C (9, 0, a.toNatClampNeg) 2 (gmax 0 ((C.1 (9, 0, a.toNatClampNeg) 2) - (b / 9)))) (9, 0, a.toNatClampNeg) 5 ((C.1 (0, 0, 0) 0) + b)).1 (9, 0, a.toNatClampNeg) 5)) o fl_X11_296 dX11_season_96 (gl_9 (gix_lt (Nat.le_trans (hBC 3 0 (by decide)) (by decide)) g1)) rfl rfl ?_
        refine z_top (congrArg Value.int (gup_v _ _ _ _)) ?_
        exact y_iret (pc := 99) o dX11_season_99 rfl (vp_nar_int _) (by decide) (by decide) (fun h hp => gQ_mk (by simp only [F_season, Classical.not_not.mp b2, b3, b4, g1, not_true_eq_false, not_false_eq_true, if_true, if_false, or_true, true_or, or_false, false_or, and_true, true_and, and_false, false_and, or_self, and_self, eq_self, Bool.false_eq_true, ne_eq, reduceIte]) hp)
      refine y_bipush (pc := 59) (x := 6) o dX11_season_59 (by decide) ?_
      refine y_goto (pc := 61) (tgt := 66) o dX11_season_61 rfl ?_
      refine y_istore (pc := 66) (i := 4) (lv' := [(4, .int (6)), (3, .ref (ad (9, 0, a.toNatClampNeg))), (0, .ref (ad (0, 0, 0))), (1, .int (a)), (2, .int (b))]) o dX11_season_66 (by decide) rfl ?_
      refine y_aload_n (pc := 68) o dX11_season_68 rfl ?_
      refine y_iconst (pc := 69) (x := 0) o dX11_season_69 (by decide) ?_
      refine y_aload_n (pc := 70) o dX11_season_70 rfl ?_
      refine z_get (pc := 71) (K := (9, 0, a.toNatClampNeg)) (v := .int (C.1 (9, 0, a.toNatClampNeg) 2)) o fl_X11_302 dX11_season_71 (gl_9 (gix_lt (Nat.le_trans (hBC 3 0 (by decide)) (by decide)) g1)) rfl rfl ?_
      refine y_iload_n (pc := 74) o dX11_season_74 rfl ?_
      refine y_iload (pc := 75) o dX11_season_75 rfl ?_
      refine y_idiv (pc := 77) o dX11_season_77 (by decide) ?_
      refine y_isub (pc := 78) o dX11_season_78 ?_
      refine y_mmax (pc := 79) o qw_603 dX11_season_79 ⟨by decide, Nat.le_of_ble_eq_true rfl⟩ (by decide) (by decide) ?_
      refine z_putC (pc := 82) (K := (9, 0, a.toNatClampNeg)) (fd := 2) (x := gmax 0 ((C.1 (9, 0, a.toNatClampNeg) 2) - (b / 6))) o fw_X11_302 dX11_season_82 (gl_9 (gix_lt (Nat.le_trans (hBC 3 0 (by decide)) (by decide)) g1)) (show (9:Nat) < 20 by decide) rfl (Nat.le_of_ble_eq_true rfl) (vp_nar_int _) rfl rfl pC_9_3 (z_refC (show (9:Nat) < 20 by decide) (gl_9 (gix_lt (Nat.le_trans (hBC 3 0 (by decide)) (by decide)) g1)) qC_9_3) ?_
      refine y_aload_n (pc := 85) o dX11_season_85 rfl ?_
      refine y_aload_n (pc := 86) o dX11_season_86 rfl ?_
      refine z_get (pc := 87) (K := (0, 0, 0)) (v := .int ((gup C (9, 0, a.toNatClampNeg) 2 (gmax 0 ((C.1 (9, 0, a.toNatClampNeg) 2) - (b / 6)))).1 (0, 0, 0) 0)) o fl_X11_55 dX11_season_87 (gl_0 hC) rfl rfl ?_
      refine z_top (congrArg Value.int (gup_ff _ (show (0:Nat) ≠ 2 by decide))) ?_
      refine y_iload_n (pc := 90) o dX11_season_90 rfl ?_
      refine y_iadd (pc := 91) o dX11_season_91 ?_
      refine z_putC (pc := 92) (K := (9, 0, a.toNatClampNeg)) (fd := 5) (x := (C.1 (0, 0, 0) 0) + b) o fw_X11_296 dX11_season_92 (gl_9 (gix_lt (Nat.le_trans (hBC 3 0 (by decide)) (by decide)) g1)) (show (9:Nat) < 20 by decide) rfl (Nat.le_of_ble_eq_true rfl) (vp_nar_int _) rfl rfl pC_9_6 (z_refC (show (9:Nat) < 20 by decide) (gl_9 (gix_lt (Nat.le_trans (hBC 3 0 (by decide)) (by decide)) g1)) qC_9_6) ?_
      refine y_aload_n (pc := 95) o dX11_season_95 rfl ?_
      refine z_get (pc := 96) (K := (9, 0, a.toNatClampNeg)) (v := .int ((gup (gup C (9, 0, a.toNatClampNeg) 2 (gmax 0 ((C.1 (9, 0, a.toNatClampNeg) 2) - (b / 6)))) (9, 0, a.toNatClampNeg) 5 ((C.1 (0, 0, 0) 0) + b)).1 (9, 0, a.toNatClampNeg) 5)) o fl_X11_296 dX11_season_96 (gl_9 (gix_lt (Nat.le_trans (hBC 3 0 (by decide)) (by decide)) g1)) rfl rfl ?_
      refine z_top (congrArg Value.int (gup_v _ _ _ _)) ?_
      exact y_iret (pc := 99) o dX11_season_99 rfl (vp_nar_int _) (by decide) (by decide) (fun h hp => gQ_mk (by simp only [F_season, Classical.not_not.mp b2, b3, eq_true b4, g1, not_true_eq_false, not_false_eq_true, if_true, if_false, or_true, true_or, or_false, false_or, and_true, true_and, and_false, false_and, or_self, and_self, eq_self, Bool.false_eq_true, ne_eq, reduceIte]) hp)
    exact y_throwSW (pc := 39) o 44 rfl th_105 qw_400 qw_40 dX11_season_39 dX11_season_42 dX11_season_43 dX11_season_46 dX11_season_49 rfl ⟨by decide, Nat.le_of_ble_eq_true rfl⟩ (by decide) (by decide) (fun h hp => gE_mk (k := 3) (by simp only [F_season, Classical.not_not.mp b2, b3, g1, not_true_eq_false, not_false_eq_true, if_true, if_false, or_true, true_or, or_false, false_or, and_true, true_and, and_false, false_and, or_self, and_self, eq_self, Bool.false_eq_true, ne_eq, reduceIte]) (.tail _ (.tail _ (.head _))) hp)
  exact y_throwSW (pc := 17) o 43 rfl th_79 qw_295 qw_38 dX11_season_17 dX11_season_20 dX11_season_21 dX11_season_24 dX11_season_27 rfl ⟨by decide, Nat.le_of_ble_eq_true rfl⟩ (by decide) (by decide) (fun h hp => gE_mk (k := 2) (by simp only [F_season, b2, g1, not_true_eq_false, not_false_eq_true, if_true, if_false, or_true, true_or, or_false, false_or, and_true, true_and, and_false, false_and, or_self, and_self, eq_self, Bool.false_eq_true, ne_eq, reduceIte]) (.tail _ (.head _)) hp)

theorem p_groove {κ : gq_K} {ad : gKey → Nat} {C R : gG} {T : List (Nat × va_E)} (hC : gfix C.2) (hBC : gcnt C.2) (hM : gmach C) (a : Int32) (b : Int32) : gq_C κ mX11_groove [.ref (ad (0, 0, 0)), .int (a), .int (b)] (gR κ ad (C, R) T) (gQ κ ad R T (F_groove C a b)) (gE κ ad R T [("java/lang/IndexOutOfBoundsException", 1), ("java/lang/IllegalArgumentException", 2), ("java/lang/UnsupportedOperationException", 3)] (F_groove C a b)) := by
  refine gq_enter (by decide +kernel) rfl (Nat.le_of_ble_eq_true rfl) rfl (fun f o => ?_)
  refine y_aload_n (pc := 0) o dX11_groove_0 rfl ?_
  refine y_iload_n (pc := 1) o dX11_groove_1 rfl ?_
  refine z_callV (pc := 2) (k := 0) (n := 0) (k' := 1) (n' := 6) o (b := ad (0, 0, 0)) (As := [.int (a)]) (rest := []) (kSlaN hC hBC a) ln_X11_290 dX11_groove_2 (z_rc (ci := 15) (K := (0, 0, 0)) rfl (gl_0 hC) rfl) rfl rfl (Nat.le_of_ble_eq_true rfl) ⟨by decide, by decide⟩ ⟨rfl, rfl⟩ ⟨by decide, by decide⟩ rfl (fun x h hE => by obtain ⟨rfl, hz, hr⟩ := hE; exact gE_mk (k := 1) (by simp only [F_groove, hz, not_true_eq_false, not_false_eq_true, if_true, if_false, or_true, true_or, or_false, false_or, and_true, true_and, and_false, false_and, or_self, and_self, eq_self, Bool.false_eq_true, ne_eq, reduceIte]) (.head _) hr) (y_and fun (g1 : gix (C.2 9 0) a = true) => ?_)
  refine y_astore_n (pc := 5) (i := 3) (lv' := [(3, .ref (ad (9, 0, a.toNatClampNeg))), (0, .ref (ad (0, 0, 0))), (1, .int (a)), (2, .int (b))]) o dX11_groove_5 rfl (by decide) rfl ?_
  refine y_iload_n (pc := 6) o dX11_groove_6 rfl ?_
  refine y_iconst (pc := 7) (x := 5) o dX11_groove_7 (by decide) ?_
  refine y_bipush (pc := 8) (x := 30) o dX11_groove_8 (by decide) ?_
  refine z_callS (pc := 10) (k := 1) (n := 6) (k' := 1) (n' := 6) o (As := [.int (b), .int (5), .int (30)]) (rest := []) (kIsOut _ _ _) ln_X11_71 dX11_groove_10 rfl rfl (Nat.le_of_ble_eq_true rfl) ⟨by decide, by decide⟩ ⟨rfl, rfl⟩ ⟨by decide, by decide⟩ rfl gq_nox2 ?_
  refine z_beq (pc := 13) (tgt := 27) o dX11_groove_13 rfl (fun (b2 : ¬ (¬ gin 5 b 30 = true)) => ?_) (fun (b2 : ¬ gin 5 b 30 = true) => ?_)
  · refine y_aload_n (pc := 27) o dX11_groove_27 rfl ?_
    refine z_get (pc := 28) (K := (0, 0, 0)) (v := .int (C.1 (0, 0, 0) 0)) o fl_X11_55 dX11_groove_28 (gl_0 hC) rfl rfl ?_
    refine y_aload_n (pc := 31) o dX11_groove_31 rfl ?_
    refine z_get (pc := 32) (K := (9, 0, a.toNatClampNeg)) (v := .int (C.1 (9, 0, a.toNatClampNeg) 5)) o fl_X11_296 dX11_groove_32 (gl_9 (gix_lt (Nat.le_trans (hBC 3 0 (by decide)) (by decide)) g1)) rfl rfl ?_
    refine y_icmp_lt (pc := 35) (tgt := 54) o dX11_groove_35 rfl (fun (b3 : (C.1 (0, 0, 0) 0) < (C.1 (9, 0, a.toNatClampNeg) 5)) => ?_) (fun (b3 : ¬ (C.1 (0, 0, 0) 0) < (C.1 (9, 0, a.toNatClampNeg) 5)) => ?_)
    · exact y_throwSW (pc := 54) o 46 rfl th_105 qw_400 qw_40 dX11_groove_54 dX11_groove_57 dX11_groove_58 dX11_groove_61 dX11_groove_64 rfl ⟨by decide, Nat.le_of_ble_eq_true rfl⟩ (by decide) (by decide) (fun h hp => gE_mk (k := 3) (by simp only [F_groove, Classical.not_not.mp b2, b3, g1, not_true_eq_false, not_false_eq_true, if_true, if_false, or_true, true_or, or_false, false_or, and_true, true_and, and_false, false_and, or_self, and_self, eq_self, Bool.false_eq_true, ne_eq, reduceIte]) (.tail _ (.tail _ (.head _))) hp)
    refine y_aload_n (pc := 38) o dX11_groove_38 rfl ?_
    refine z_get (pc := 39) (K := (9, 0, a.toNatClampNeg)) (v := .int (C.1 (9, 0, a.toNatClampNeg) 2)) o fl_X11_302 dX11_groove_39 (gl_9 (gix_lt (Nat.le_trans (hBC 3 0 (by decide)) (by decide)) g1)) rfl rfl ?_
    refine y_bipush (pc := 42) (x := 10) o dX11_groove_42 (by decide) ?_
    refine y_icmp_gt (pc := 44) (tgt := 54) o dX11_groove_44 rfl (fun (b4 : 10 < (C.1 (9, 0, a.toNatClampNeg) 2)) => ?_) (fun (b4 : ¬ 10 < (C.1 (9, 0, a.toNatClampNeg) 2)) => ?_)
    · exact y_throwSW (pc := 54) o 46 rfl th_105 qw_400 qw_40 dX11_groove_54 dX11_groove_57 dX11_groove_58 dX11_groove_61 dX11_groove_64 rfl ⟨by decide, Nat.le_of_ble_eq_true rfl⟩ (by decide) (by decide) (fun h hp => gE_mk (k := 3) (by simp only [F_groove, Classical.not_not.mp b2, b3, b4, g1, not_true_eq_false, not_false_eq_true, if_true, if_false, or_true, true_or, or_false, false_or, and_true, true_and, and_false, false_and, or_self, and_self, eq_self, Bool.false_eq_true, ne_eq, reduceIte]) (.tail _ (.tail _ (.head _))) hp)
    refine y_aload_n (pc := 47) o dX11_groove_47 rfl ?_
    refine z_callV (pc := 48) (k := 1) (n := 6) (k' := 1) (n' := 6) o (b := ad (9, 0, a.toNatClampNeg)) (As := []) (rest := []) (kGrooved _ (gix_lt (Nat.le_trans (hBC 3 0 (by decide)) (by decide)) g1)) ln_X11_313 dX11_groove_48 (z_rc (ci := 13) (K := (9, 0, a.toNatClampNeg)) rfl (gl_9 (gix_lt (Nat.le_trans (hBC 3 0 (by decide)) (by decide)) g1)) rfl) rfl rfl (Nat.le_of_ble_eq_true rfl) ⟨by decide, by decide⟩ ⟨rfl, rfl⟩ ⟨by decide, by decide⟩ rfl gq_nox2 ?_
    refine z_beq (pc := 51) (tgt := 65) o dX11_groove_51 rfl (fun (b5 : ¬ (0 < C.1 (9, 0, a.toNatClampNeg) 4)) => ?_) (fun (b5 : 0 < C.1 (9, 0, a.toNatClampNeg) 4) => ?_)
    · refine y_aload_n (pc := 65) o dX11_groove_65 rfl ?_
      refine z_get (pc := 66) (K := (0, 0, 0)) (v := .ref (ad (1, 0, 0))) o fl_X11_10 dX11_groove_66 (gl_0 hC) rfl rfl ?_
      refine y_aload_n (pc := 69) o dX11_groove_69 rfl ?_
      refine z_get (pc := 70) (K := (0, 0, 0)) (v := .ref (ad (1, 0, 0))) o fl_X11_10 dX11_groove_70 (gl_0 hC) rfl rfl ?_
      refine z_get (pc := 73) (K := (1, 0, 0)) (v := .ref (ad (3, 0, 2))) o fl_X11_318 dX11_groove_73 (gl_1 hC) rfl rfl ?_
      refine z_callV (pc := 76) (k := 1) (n := 6) (k' := 1) (n' := 6) o (b := ad (1, 0, 0)) (As := [.ref (ad (3, 0, 2))]) (rest := []) (kMoves hC hM 2 (by decide)) ln_X11_119 dX11_groove_76 (z_rc (ci := 5) (K := (1, 0, 0)) rfl (gl_1 hC) rfl) rfl rfl (Nat.le_of_ble_eq_true rfl) ⟨by decide, by decide⟩ ⟨rfl, rfl⟩ ⟨by decide, by decide⟩ rfl gq_nox2 ?_
      refine z_bne (pc := 79) (tgt := 93) o dX11_groove_79 rfl (fun (b6 : gmov C 4 2 = true) => ?_) (fun (b6 : ¬ (gmov C 4 2 = true)) => ?_)
      · refine y_aload_n (pc := 93) o dX11_groove_93 rfl ?_
        refine y_iload_n (pc := 94) o dX11_groove_94 rfl ?_
        refine z_putC (pc := 95) (K := (9, 0, a.toNatClampNeg)) (fd := 4) (x := b) o fw_X11_323 dX11_groove_95 (gl_9 (gix_lt (Nat.le_trans (hBC 3 0 (by decide)) (by decide)) g1)) (show (9:Nat) < 20 by decide) rfl (Nat.le_of_ble_eq_true rfl) (vp_nar_int _) rfl rfl pC_9_5 (z_refC (show (9:Nat) < 20 by decide) (gl_9 (gix_lt (Nat.le_trans (hBC 3 0 (by decide)) (by decide)) g1)) qC_9_5) ?_
        refine y_aload_n (pc := 98) o dX11_groove_98 rfl ?_
        refine z_get (pc := 99) (K := (9, 0, a.toNatClampNeg)) (v := .int ((gup C (9, 0, a.toNatClampNeg) 4 b).1 (9, 0, a.toNatClampNeg) 3)) o fl_X11_326 dX11_groove_99 (gl_9 (gix_lt (Nat.le_trans (hBC 3 0 (by decide)) (by decide)) g1)) rfl rfl ?_
        refine z_top (congrArg Value.int (gup_vf _ (show (3:Nat) ≠ 4 by decide))) ?_
        exact y_iret (pc := 102) o dX11_groove_102 rfl (vp_nar_int _) (by decide) (by decide) (fun h hp => gQ_mk (by simp only [F_groove, Classical.not_not.mp b2, b3, b4, b5, b6, g1, not_true_eq_false, not_false_eq_true, if_true, if_false, or_true, true_or, or_false, false_or, and_true, true_and, and_false, false_and, or_self, and_self, eq_self, Bool.false_eq_true, ne_eq, reduceIte]) hp)
      exact y_throwSW (pc := 82) o 47 rfl th_105 qw_400 qw_40 dX11_groove_82 dX11_groove_85 dX11_groove_86 dX11_groove_89 dX11_groove_92 rfl ⟨by decide, Nat.le_of_ble_eq_true rfl⟩ (by decide) (by decide) (fun h hp => gE_mk (k := 3) (by simp only [F_groove, Classical.not_not.mp b2, b3, b4, b5, b6, g1, not_true_eq_false, not_false_eq_true, if_true, if_false, or_true, true_or, or_false, false_or, and_true, true_and, and_false, false_and, or_self, and_self, eq_self, Bool.false_eq_true, ne_eq, reduceIte]) (.tail _ (.tail _ (.head _))) hp)
    exact y_throwSW (pc := 54) o 46 rfl th_105 qw_400 qw_40 dX11_groove_54 dX11_groove_57 dX11_groove_58 dX11_groove_61 dX11_groove_64 rfl ⟨by decide, Nat.le_of_ble_eq_true rfl⟩ (by decide) (by decide) (fun h hp => gE_mk (k := 3) (by simp only [F_groove, Classical.not_not.mp b2, b3, b4, b5, g1, not_true_eq_false, not_false_eq_true, if_true, if_false, or_true, true_or, or_false, false_or, and_true, true_and, and_false, false_and, or_self, and_self, eq_self, Bool.false_eq_true, ne_eq, reduceIte]) (.tail _ (.tail _ (.head _))) hp)
  exact y_throwSW (pc := 16) o 45 rfl th_79 qw_295 qw_38 dX11_groove_16 dX11_groove_19 dX11_groove_20 dX11_groove_23 dX11_groove_26 rfl ⟨by decide, Nat.le_of_ble_eq_true rfl⟩ (by decide) (by decide) (fun h hp => gE_mk (k := 2) (by simp only [F_groove, b2, g1, not_true_eq_false, not_false_eq_true, if_true, if_false, or_true, true_or, or_false, false_or, and_true, true_and, and_false, false_and, or_self, and_self, eq_self, Bool.false_eq_true, ne_eq, reduceIte]) (.tail _ (.head _)) hp)

theorem p_slat {κ : gq_K} {ad : gKey → Nat} {C R : gG} {T : List (Nat × va_E)} (hC : gfix C.2) (hBC : gcnt C.2) (hM : gmach C) (a : Int32) (b : Int32) : gq_C κ mX11_slat [.ref (ad (0, 0, 0)), .int (a), .int (b)] (gR κ ad (C, R) T) (gQ κ ad R T (F_slat C a b)) (gE κ ad R T [("java/lang/IndexOutOfBoundsException", 1), ("java/lang/IllegalArgumentException", 2)] (F_slat C a b)) := by
  refine gq_enter (by decide +kernel) rfl (Nat.le_of_ble_eq_true rfl) rfl (fun f o => ?_)
  refine y_aload_n (pc := 0) o dX11_slat_0 rfl ?_
  refine y_iload_n (pc := 1) o dX11_slat_1 rfl ?_
  refine z_callV (pc := 2) (k := 0) (n := 0) (k' := 1) (n' := 6) o (b := ad (0, 0, 0)) (As := [.int (a)]) (rest := []) (kSlaN hC hBC a) ln_X11_290 dX11_slat_2 (z_rc (ci := 15) (K := (0, 0, 0)) rfl (gl_0 hC) rfl) rfl rfl (Nat.le_of_ble_eq_true rfl) ⟨by decide, by decide⟩ ⟨rfl, rfl⟩ ⟨by decide, by decide⟩ rfl (fun x h hE => by obtain ⟨rfl, hz, hr⟩ := hE; exact gE_mk (k := 1) (by simp only [F_slat, hz, not_true_eq_false, not_false_eq_true, if_true, if_false, or_true, true_or, or_false, false_or, and_true, true_and, and_false, false_and, or_self, and_self, eq_self, Bool.false_eq_true, ne_eq, reduceIte]) (.head _) hr) (y_and fun (g1 : gix (C.2 9 0) a = true) => ?_)
  refine y_astore_n (pc := 5) (i := 3) (lv' := [(3, .ref (ad (9, 0, a.toNatClampNeg))), (0, .ref (ad (0, 0, 0))), (1, .int (a)), (2, .int (b))]) o dX11_slat_5 rfl (by decide) rfl ?_
  refine y_iload_n (pc := 6) o dX11_slat_6 rfl ?_
  by_cases b2 : b = 103
  · refine z_lookupK (pc := 7) (tgt := 58) (off := 51) o 103 dX11_slat_7 (by decide) b2 (by decide) rfl ?_
    refine y_aload_n (pc := 58) o dX11_slat_58 rfl ?_
    refine z_get (pc := 59) (K := (9, 0, a.toNatClampNeg)) (v := .int (C.1 (9, 0, a.toNatClampNeg) 4)) o fl_X11_323 dX11_slat_59 (gl_9 (gix_lt (Nat.le_trans (hBC 3 0 (by decide)) (by decide)) g1)) rfl rfl ?_
    exact y_iret (pc := 62) o dX11_slat_62 rfl (vp_nar_int _) (by decide) (by decide) (fun h hp => gQ_mk (by simp only [F_slat, eq_true b2, g1, not_true_eq_false, not_false_eq_true, if_true, if_false, or_true, true_or, or_false, false_or, and_true, true_and, and_false, false_and, or_self, and_self, eq_self, Bool.false_eq_true, ne_eq, reduceIte]) hp)
  by_cases b3 : b = 110
  · refine z_lookupK (pc := 7) (tgt := 48) (off := 41) o 110 dX11_slat_7 (by decide) b3 (by decide) rfl ?_
    refine y_aload_n (pc := 48) o dX11_slat_48 rfl ?_
    refine z_get (pc := 49) (K := (9, 0, a.toNatClampNeg)) (v := .int (C.1 (9, 0, a.toNatClampNeg) 3)) o fl_X11_326 dX11_slat_49 (gl_9 (gix_lt (Nat.le_trans (hBC 3 0 (by decide)) (by decide)) g1)) rfl rfl ?_
    exact y_iret (pc := 52) o dX11_slat_52 rfl (vp_nar_int _) (by decide) (by decide) (fun h hp => gQ_mk (by simp only [F_slat, b2, eq_true b3, g1, not_true_eq_false, not_false_eq_true, if_true, if_false, or_true, true_or, or_false, false_or, and_true, true_and, and_false, false_and, or_self, and_self, eq_self, Bool.false_eq_true, ne_eq, reduceIte]) hp)
  by_cases b4 : b = 114
  · refine z_lookupK (pc := 7) (tgt := 63) (off := 56) o 114 dX11_slat_7 (by decide) b4 (by decide) rfl ?_
    refine y_aload_n (pc := 63) o dX11_slat_63 rfl ?_
    refine z_get (pc := 64) (K := (9, 0, a.toNatClampNeg)) (v := .int (C.1 (9, 0, a.toNatClampNeg) 5)) o fl_X11_296 dX11_slat_64 (gl_9 (gix_lt (Nat.le_trans (hBC 3 0 (by decide)) (by decide)) g1)) rfl rfl ?_
    exact y_iret (pc := 67) o dX11_slat_67 rfl (vp_nar_int _) (by decide) (by decide) (fun h hp => gQ_mk (by simp only [F_slat, b2, b3, eq_true b4, g1, not_true_eq_false, not_false_eq_true, if_true, if_false, or_true, true_or, or_false, false_or, and_true, true_and, and_false, false_and, or_self, and_self, eq_self, Bool.false_eq_true, ne_eq, reduceIte]) hp)
  by_cases b5 : b = 119
  · refine z_lookupK (pc := 7) (tgt := 53) (off := 46) o 119 dX11_slat_7 (by decide) b5 (by decide) rfl ?_
    refine y_aload_n (pc := 53) o dX11_slat_53 rfl ?_
    refine z_get (pc := 54) (K := (9, 0, a.toNatClampNeg)) (v := .int (C.1 (9, 0, a.toNatClampNeg) 2)) o fl_X11_302 dX11_slat_54 (gl_9 (gix_lt (Nat.le_trans (hBC 3 0 (by decide)) (by decide)) g1)) rfl rfl ?_
    exact y_iret (pc := 57) o dX11_slat_57 rfl (vp_nar_int _) (by decide) (by decide) (fun h hp => gQ_mk (by simp only [F_slat, b2, b3, b4, eq_true b5, g1, not_true_eq_false, not_false_eq_true, if_true, if_false, or_true, true_or, or_false, false_or, and_true, true_and, and_false, false_and, or_self, and_self, eq_self, Bool.false_eq_true, ne_eq, reduceIte]) hp)
  refine z_lookupD (pc := 7) (tgt := 68) o [103, 110, 114, 119] dX11_slat_7 (by decide) (by decide) (by simp only [List.mem_cons, List.not_mem_nil, or_false, forall_eq_or_imp, forall_eq]; exact ⟨b2, b3, b4, b5⟩) rfl ?_
  exact y_throwSW (pc := 68) o 48 rfl th_79 qw_295 qw_38 dX11_slat_68 dX11_slat_71 dX11_slat_72 dX11_slat_75 dX11_slat_78 rfl ⟨by decide, Nat.le_of_ble_eq_true rfl⟩ (by decide) (by decide) (fun h hp => gE_mk (k := 2) (by simp only [F_slat, b2, b3, b4, b5, g1, not_true_eq_false, not_false_eq_true, if_true, if_false, or_true, true_or, or_false, false_or, and_true, true_and, and_false, false_and, or_self, and_self, eq_self, Bool.false_eq_true, ne_eq, reduceIte]) (.tail _ (.head _)) hp)

theorem p_lay {κ : gq_K} {ad : gKey → Nat} {C R : gG} {T : List (Nat × va_E)} (hC : gfix C.2) (hBC : gcnt C.2) (hM : gmach C) (a : Int32) (b : Int32) (c : Int32) (d : Int32) (e : Int32) : gq_C κ mX11_lay [.ref (ad (0, 0, 0)), .int (a), .int (b), .int (c), .int (d), .int (e)] (gR κ ad (C, R) T) (gQ κ ad R T (F_lay C a b c d e)) (gE κ ad R T [("java/lang/IndexOutOfBoundsException", 1), ("java/lang/IllegalArgumentException", 2), ("java/lang/UnsupportedOperationException", 3), ("java/lang/IllegalStateException", 4)] (F_lay C a b c d e)) := by
  refine gq_enter (by decide +kernel) rfl (Nat.le_of_ble_eq_true rfl) rfl (fun f o => ?_)
  refine y_aload_n (pc := 0) o dX11_lay_0 rfl ?_
  refine y_iload_n (pc := 1) o dX11_lay_1 rfl ?_
  refine z_callV (pc := 2) (k := 0) (n := 0) (k' := 1) (n' := 6) o (b := ad (0, 0, 0)) (As := [.int (a)]) (rest := []) (kBatN hC hBC a) ln_X11_212 dX11_lay_2 (z_rc (ci := 15) (K := (0, 0, 0)) rfl (gl_0 hC) rfl) rfl rfl (Nat.le_of_ble_eq_true rfl) ⟨by decide, by decide⟩ ⟨rfl, rfl⟩ ⟨by decide, by decide⟩ rfl (fun x h hE => by obtain ⟨rfl, hz, hr⟩ := hE; exact gE_mk (k := 1) (by simp only [F_lay, hz, not_true_eq_false, not_false_eq_true, if_true, if_false, or_true, true_or, or_false, false_or, and_true, true_and, and_false, false_and, or_self, and_self, eq_self, Bool.false_eq_true, ne_eq, reduceIte]) (.head _) hr) (y_and fun (g1 : gix (C.2 8 0) a = true) => ?_)
  refine y_astore (pc := 5) (i := 6) (lv' := [(6, .ref (ad (8, 0, a.toNatClampNeg))), (0, .ref (ad (0, 0, 0))), (1, .int (a)), (2, .int (b)), (3, .int (c)), (4, .int (d)), (5, .int (e))]) o dX11_lay_5 (by decide) rfl ?_
  refine y_aload_n (pc := 7) o dX11_lay_7 rfl ?_
  refine y_iload_n (pc := 8) o dX11_lay_8 rfl ?_
  refine z_callV (pc := 9) (k := 1) (n := 6) (k' := 2) (n' := 12) o (b := ad (0, 0, 0)) (As := [.int (b)]) (rest := []) (kSlaN hC hBC b) ln_X11_290 dX11_lay_9 (z_rc (ci := 15) (K := (0, 0, 0)) rfl (gl_0 hC) rfl) rfl rfl (Nat.le_of_ble_eq_true rfl) ⟨by decide, by decide⟩ ⟨rfl, rfl⟩ ⟨by decide, by decide⟩ rfl (fun x h hE => by obtain ⟨rfl, hz, hr⟩ := hE; exact gE_mk (k := 1) (by simp only [F_lay, g1, hz, not_true_eq_false, not_false_eq_true, if_true, if_false, or_true, true_or, or_false, false_or, and_true, true_and, and_false, false_and, or_self, and_self, eq_self, Bool.false_eq_true, ne_eq, reduceIte]) (.head _) hr) (y_and fun (g2 : gix (C.2 9 0) b = true) => ?_)
  refine y_astore (pc := 12) (i := 7) (lv' := [(7, .ref (ad (9, 0, b.toNatClampNeg))), (6, .ref (ad (8, 0, a.toNatClampNeg))), (0, .ref (ad (0, 0, 0))), (1, .int (a)), (2, .int (b)), (3, .int (c)), (4, .int (d)), (5, .int (e))]) o dX11_lay_12 (by decide) rfl ?_
  refine y_iload_n (pc := 14) o dX11_lay_14 rfl ?_
  refine z_callS (pc := 15) (k := 2) (n := 12) (k' := 2) (n' := 12) o (As := [.int (c)]) (rest := []) (kPer _) ln_X11_331 dX11_lay_15 rfl rfl (Nat.le_of_ble_eq_true rfl) ⟨by decide, by decide⟩ ⟨rfl, rfl⟩ ⟨by decide, by decide⟩ rfl gq_nox2 ?_
  refine y_istore (pc := 18) (i := 8) (lv' := [(8, .int (gper c)), (7, .ref (ad (9, 0, b.toNatClampNeg))), (6, .ref (ad (8, 0, a.toNatClampNeg))), (0, .ref (ad (0, 0, 0))), (1, .int (a)), (2, .int (b)), (3, .int (c)), (4, .int (d)), (5, .int (e))]) o dX11_lay_18 (by decide) rfl ?_
  refine y_iload (pc := 20) o dX11_lay_20 rfl ?_
  refine y_iconst (pc := 22) (x := 1) o dX11_lay_22 (by decide) ?_
  refine y_icmp_lt (pc := 23) (tgt := 49) o dX11_lay_23 rfl (fun (b3 : (gper c) < 1) => ?_) (fun (b3 : ¬ (gper c) < 1) => ?_)
  · exact y_throwSW (pc := 49) o 49 rfl th_79 qw_295 qw_38 dX11_lay_49 dX11_lay_52 dX11_lay_53 dX11_lay_56 dX11_lay_59 rfl ⟨by decide, Nat.le_of_ble_eq_true rfl⟩ (by decide) (by decide) (fun h hp => gE_mk (k := 2) (by simp only [F_lay, b3, g1, g2, not_true_eq_false, not_false_eq_true, if_true, if_false, or_true, true_or, or_false, false_or, and_true, true_and, and_false, false_and, or_self, and_self, eq_self, Bool.false_eq_true, ne_eq, reduceIte]) (.tail _ (.head _)) hp)
  refine y_iload (pc := 26) o dX11_lay_26 rfl ?_
  refine y_iconst (pc := 28) (x := 1) o dX11_lay_28 (by decide) ?_
  refine y_sipush (pc := 29) (x := 500) o dX11_lay_29 (by decide) ?_
  refine z_callS (pc := 32) (k := 2) (n := 12) (k' := 2) (n' := 12) o (As := [.int (d), .int (1), .int (500)]) (rest := []) (kIsOut _ _ _) ln_X11_71 dX11_lay_32 rfl rfl (Nat.le_of_ble_eq_true rfl) ⟨by decide, by decide⟩ ⟨rfl, rfl⟩ ⟨by decide, by decide⟩ rfl gq_nox2 ?_
  refine z_bne (pc := 35) (tgt := 49) o dX11_lay_35 rfl (fun (b4 : ¬ gin 1 d 500 = true) => ?_) (fun (b4 : ¬ (¬ gin 1 d 500 = true)) => ?_)
  · exact y_throwSW (pc := 49) o 49 rfl th_79 qw_295 qw_38 dX11_lay_49 dX11_lay_52 dX11_lay_53 dX11_lay_56 dX11_lay_59 rfl ⟨by decide, Nat.le_of_ble_eq_true rfl⟩ (by decide) (by decide) (fun h hp => gE_mk (k := 2) (by simp only [F_lay, b3, b4, g1, g2, not_true_eq_false, not_false_eq_true, if_true, if_false, or_true, true_or, or_false, false_or, and_true, true_and, and_false, false_and, or_self, and_self, eq_self, Bool.false_eq_true, ne_eq, reduceIte]) (.tail _ (.head _)) hp)
  refine y_iload (pc := 38) o dX11_lay_38 rfl ?_
  refine y_iconst (pc := 40) (x := 0) o dX11_lay_40 (by decide) ?_
  refine y_bipush (pc := 41) (x := 9) o dX11_lay_41 (by decide) ?_
  refine z_callS (pc := 43) (k := 2) (n := 12) (k' := 2) (n' := 12) o (As := [.int (e), .int (0), .int (9)]) (rest := []) (kIsOut _ _ _) ln_X11_71 dX11_lay_43 rfl rfl (Nat.le_of_ble_eq_true rfl) ⟨by decide, by decide⟩ ⟨rfl, rfl⟩ ⟨by decide, by decide⟩ rfl gq_nox2 ?_
  refine z_beq (pc := 46) (tgt := 60) o dX11_lay_46 rfl (fun (b5 : ¬ (¬ gin 0 e 9 = true)) => ?_) (fun (b5 : ¬ gin 0 e 9 = true) => ?_)
  · refine y_aload (pc := 60) o dX11_lay_60 rfl ?_
    refine z_callV (pc := 62) (k := 2) (n := 12) (k' := 2) (n' := 12) o (b := ad (8, 0, a.toNatClampNeg)) (As := []) (rest := []) (kFired _ (gix_lt (Nat.le_trans (hBC 2 0 (by decide)) (by decide)) g1)) ln_X11_238 dX11_lay_62 (z_rc (ci := 4) (K := (8, 0, a.toNatClampNeg)) rfl (gl_8 (gix_lt (Nat.le_trans (hBC 2 0 (by decide)) (by decide)) g1)) rfl) rfl rfl (Nat.le_of_ble_eq_true rfl) ⟨by decide, by decide⟩ ⟨rfl, rfl⟩ ⟨by decide, by decide⟩ rfl gq_nox2 ?_
    refine z_beq (pc := 65) (tgt := 100) o dX11_lay_65 rfl (fun (b6 : ¬ (¬ C.1 (8, 0, a.toNatClampNeg) 6 < 0)) => ?_) (fun (b6 : ¬ C.1 (8, 0, a.toNatClampNeg) 6 < 0) => ?_)
    · exact y_throwSW (pc := 100) o 50 rfl th_105 qw_400 qw_40 dX11_lay_100 dX11_lay_103 dX11_lay_104 dX11_lay_107 dX11_lay_110 rfl ⟨by decide, Nat.le_of_ble_eq_true rfl⟩ (by decide) (by decide) (fun h hp => gE_mk (k := 3) (by simp only [F_lay, b3, Classical.not_not.mp b4, Classical.not_not.mp b5, Classical.not_not.mp b6, g1, g2, not_true_eq_false, not_false_eq_true, if_true, if_false, or_true, true_or, or_false, false_or, and_true, true_and, and_false, false_and, or_self, and_self, eq_self, Bool.false_eq_true, ne_eq, reduceIte]) (.tail _ (.tail _ (.head _))) hp)
    refine y_aload_n (pc := 68) o dX11_lay_68 rfl ?_
    refine z_get (pc := 69) (K := (0, 0, 0)) (v := .int (C.1 (0, 0, 0) 0)) o fl_X11_55 dX11_lay_69 (gl_0 hC) rfl rfl ?_
    refine y_aload (pc := 72) o dX11_lay_72 rfl ?_
    refine z_get (pc := 74) (K := (8, 0, a.toNatClampNeg)) (v := .int (C.1 (8, 0, a.toNatClampNeg) 4)) o fl_X11_223 dX11_lay_74 (gl_8 (gix_lt (Nat.le_trans (hBC 2 0 (by decide)) (by decide)) g1)) rfl rfl ?_
    refine y_icmp_lt (pc := 77) (tgt := 100) o dX11_lay_77 rfl (fun (b7 : (C.1 (0, 0, 0) 0) < (C.1 (8, 0, a.toNatClampNeg) 4)) => ?_) (fun (b7 : ¬ (C.1 (0, 0, 0) 0) < (C.1 (8, 0, a.toNatClampNeg) 4)) => ?_)
    · exact y_throwSW (pc := 100) o 50 rfl th_105 qw_400 qw_40 dX11_lay_100 dX11_lay_103 dX11_lay_104 dX11_lay_107 dX11_lay_110 rfl ⟨by decide, Nat.le_of_ble_eq_true rfl⟩ (by decide) (by decide) (fun h hp => gE_mk (k := 3) (by simp only [F_lay, b3, Classical.not_not.mp b4, Classical.not_not.mp b5, b6, b7, g1, g2, not_true_eq_false, not_false_eq_true, if_true, if_false, or_true, true_or, or_false, false_or, and_true, true_and, and_false, false_and, or_self, and_self, eq_self, Bool.false_eq_true, ne_eq, reduceIte]) (.tail _ (.tail _ (.head _))) hp)
    refine y_aload_n (pc := 80) o dX11_lay_80 rfl ?_
    refine z_get (pc := 81) (K := (0, 0, 0)) (v := .int (C.1 (0, 0, 0) 0)) o fl_X11_55 dX11_lay_81 (gl_0 hC) rfl rfl ?_
    refine y_aload (pc := 84) o dX11_lay_84 rfl ?_
    refine z_get (pc := 86) (K := (9, 0, b.toNatClampNeg)) (v := .int (C.1 (9, 0, b.toNatClampNeg) 5)) o fl_X11_296 dX11_lay_86 (gl_9 (gix_lt (Nat.le_trans (hBC 3 0 (by decide)) (by decide)) g2)) rfl rfl ?_
    refine y_icmp_lt (pc := 89) (tgt := 100) o dX11_lay_89 rfl (fun (b8 : (C.1 (0, 0, 0) 0) < (C.1 (9, 0, b.toNatClampNeg) 5)) => ?_) (fun (b8 : ¬ (C.1 (0, 0, 0) 0) < (C.1 (9, 0, b.toNatClampNeg) 5)) => ?_)
    · exact y_throwSW (pc := 100) o 50 rfl th_105 qw_400 qw_40 dX11_lay_100 dX11_lay_103 dX11_lay_104 dX11_lay_107 dX11_lay_110 rfl ⟨by decide, Nat.le_of_ble_eq_true rfl⟩ (by decide) (by decide) (fun h hp => gE_mk (k := 3) (by simp only [F_lay, b3, Classical.not_not.mp b4, Classical.not_not.mp b5, b6, b7, b8, g1, g2, not_true_eq_false, not_false_eq_true, if_true, if_false, or_true, true_or, or_false, false_or, and_true, true_and, and_false, false_and, or_self, and_self, eq_self, Bool.false_eq_true, ne_eq, reduceIte]) (.tail _ (.tail _ (.head _))) hp)
    refine y_aload (pc := 92) o dX11_lay_92 rfl ?_
    refine z_callV (pc := 94) (k := 2) (n := 12) (k' := 2) (n' := 12) o (b := ad (9, 0, b.toNatClampNeg)) (As := []) (rest := []) (kGrooved _ (gix_lt (Nat.le_trans (hBC 3 0 (by decide)) (by decide)) g2)) ln_X11_313 dX11_lay_94 (z_rc (ci := 13) (K := (9, 0, b.toNatClampNeg)) rfl (gl_9 (gix_lt (Nat.le_trans (hBC 3 0 (by decide)) (by decide)) g2)) rfl) rfl rfl (Nat.le_of_ble_eq_true rfl) ⟨by decide, by decide⟩ ⟨rfl, rfl⟩ ⟨by decide, by decide⟩ rfl gq_nox2 ?_
    refine z_bne (pc := 97) (tgt := 111) o dX11_lay_97 rfl (fun (b9 : 0 < C.1 (9, 0, b.toNatClampNeg) 4) => ?_) (fun (b9 : ¬ (0 < C.1 (9, 0, b.toNatClampNeg) 4)) => ?_)
    · refine y_iconst (pc := 111) (x := 2) o dX11_lay_111 (by decide) ?_
      refine y_aload (pc := 112) o dX11_lay_112 rfl ?_
      refine z_get (pc := 114) (K := (9, 0, b.toNatClampNeg)) (v := .int (C.1 (9, 0, b.toNatClampNeg) 4)) o fl_X11_323 dX11_lay_114 (gl_9 (gix_lt (Nat.le_trans (hBC 3 0 (by decide)) (by decide)) g2)) rfl rfl ?_
      refine y_imul (pc := 117) o dX11_lay_117 ?_
      refine y_aload (pc := 118) o dX11_lay_118 rfl ?_
      refine z_get (pc := 120) (K := (8, 0, a.toNatClampNeg)) (v := .int (C.1 (8, 0, a.toNatClampNeg) 3)) o fl_X11_265 dX11_lay_120 (gl_8 (gix_lt (Nat.le_trans (hBC 2 0 (by decide)) (by decide)) g1)) rfl rfl ?_
      refine y_isub (pc := 123) o dX11_lay_123 ?_
      refine y_mabs (pc := 124) o qw_876 dX11_lay_124 ⟨by decide, Nat.le_of_ble_eq_true rfl⟩ (by decide) (by decide) ?_
      refine y_istore (pc := 127) (i := 9) (lv' := [(9, .int (gabs ((2 * (C.1 (9, 0, b.toNatClampNeg) 4)) - (C.1 (8, 0, a.toNatClampNeg) 3)))), (8, .int (gper c)), (7, .ref (ad (9, 0, b.toNatClampNeg))), (6, .ref (ad (8, 0, a.toNatClampNeg))), (0, .ref (ad (0, 0, 0))), (1, .int (a)), (2, .int (b)), (3, .int (c)), (4, .int (d)), (5, .int (e))]) o dX11_lay_127 (by decide) rfl ?_
      refine y_iload (pc := 129) o dX11_lay_129 rfl ?_
      refine y_iconst (pc := 131) (x := 2) o dX11_lay_131 (by decide) ?_
      refine z_icmp_le (pc := 132) (tgt := 146) o dX11_lay_132 rfl (fun (b10 : ¬ 2 < (gabs ((2 * (C.1 (9, 0, b.toNatClampNeg) 4)) - (C.1 (8, 0, a.toNatClampNeg) 3)))) => ?_) (fun (b10 : 2 < (gabs ((2 * (C.1 (9, 0, b.toNatClampNeg) 4)) - (C.1 (8, 0, a.toNatClampNeg) 3)))) => ?_)
      · refine y_iload (pc := 146) o dX11_lay_146 rfl ?_
        refine y_iload (pc := 148) o dX11_lay_148 rfl ?_
        refine y_iadd (pc := 150) o dX11_lay_150 ?_
        refine y_iconst (pc := 151) (x := 1) o dX11_lay_151 (by decide) ?_
        refine y_isub (pc := 152) o dX11_lay_152 ?_
        refine y_iload (pc := 153) o dX11_lay_153 rfl ?_
        refine y_idiv (pc := 155) o dX11_lay_155 (gper_nz b3) ?_
        refine y_iconst (pc := 156) (x := 2) o dX11_lay_156 (by decide) ?_
        refine y_imul (pc := 157) o dX11_lay_157 ?_
        refine y_istore (pc := 158) (i := 10) (lv' := [(10, .int ((((d + (gper c)) - 1) / (gper c)) * 2)), (9, .int (gabs ((2 * (C.1 (9, 0, b.toNatClampNeg) 4)) - (C.1 (8, 0, a.toNatClampNeg) 3)))), (8, .int (gper c)), (7, .ref (ad (9, 0, b.toNatClampNeg))), (6, .ref (ad (8, 0, a.toNatClampNeg))), (0, .ref (ad (0, 0, 0))), (1, .int (a)), (2, .int (b)), (3, .int (c)), (4, .int (d)), (5, .int (e))]) o dX11_lay_158 (by decide) rfl ?_
        refine y_aload (pc := 160) o dX11_lay_160 rfl ?_
        refine z_get (pc := 162) (K := (8, 0, a.toNatClampNeg)) (v := .int (C.1 (8, 0, a.toNatClampNeg) 1)) o fl_X11_226 dX11_lay_162 (gl_8 (gix_lt (Nat.le_trans (hBC 2 0 (by decide)) (by decide)) g1)) rfl rfl ?_
        refine y_iload (pc := 165) o dX11_lay_165 rfl ?_
        refine y_icmp_lt (pc := 167) (tgt := 180) o dX11_lay_167 rfl (fun (b11 : (C.1 (8, 0, a.toNatClampNeg) 1) < d) => ?_) (fun (b11 : ¬ (C.1 (8, 0, a.toNatClampNeg) 1) < d) => ?_)
        · exact y_throwSW (pc := 180) o 52 rfl th_105 qw_400 qw_40 dX11_lay_180 dX11_lay_183 dX11_lay_184 dX11_lay_187 dX11_lay_190 rfl ⟨by decide, Nat.le_of_ble_eq_true rfl⟩ (by decide) (by decide) (fun h hp => gE_mk (k := 3) (by simp only [F_lay, b3, Classical.not_not.mp b4, Classical.not_not.mp b5, b6, b7, b8, b9, b10, b11, g1, g2, not_true_eq_false, not_false_eq_true, if_true, if_false, or_true, true_or, or_false, false_or, and_true, true_and, and_false, false_and, or_self, and_self, eq_self, Bool.false_eq_true, ne_eq, reduceIte]) (.tail _ (.tail _ (.head _))) hp)
        refine y_aload (pc := 170) o dX11_lay_170 rfl ?_
        refine z_get (pc := 172) (K := (9, 0, b.toNatClampNeg)) (v := .int (C.1 (9, 0, b.toNatClampNeg) 3)) o fl_X11_326 dX11_lay_172 (gl_9 (gix_lt (Nat.le_trans (hBC 3 0 (by decide)) (by decide)) g2)) rfl rfl ?_
        refine y_iload (pc := 175) o dX11_lay_175 rfl ?_
        refine z_icmp_ge (pc := 177) (tgt := 191) o dX11_lay_177 rfl (fun (b12 : ¬ (C.1 (9, 0, b.toNatClampNeg) 3) < ((((d + (gper c)) - 1) / (gper c)) * 2)) => ?_) (fun (b12 : (C.1 (9, 0, b.toNatClampNeg) 3) < ((((d + (gper c)) - 1) / (gper c)) * 2)) => ?_)
        · refine y_aload_n (pc := 191) o dX11_lay_191 rfl ?_
          refine z_get (pc := 192) (K := (0, 0, 0)) (v := .ref (ad (4, 4, 0))) o fl_X11_39 dX11_lay_192 (gl_0 hC) rfl rfl ?_
          refine z_callV (pc := 195) (k := 2) (n := 12) (k' := 2) (n' := 12) o (b := ad (4, 4, 0)) (As := []) (rest := []) (sizeC (l := 4) (g := 0) (gl_4_4 hC)) ln_X11_127 dX11_lay_195 (z_rc (ci := 3) (K := (4, 4, 0)) rfl (gl_4_4 hC) rfl) rfl rfl (Nat.le_of_ble_eq_true rfl) ⟨by decide, by decide⟩ ⟨rfl, rfl⟩ ⟨by decide, by decide⟩ rfl gq_nox2 ?_
          refine y_bipush (pc := 198) (x := 16) o dX11_lay_198 (by decide) ?_
          refine y_icmp_lt (pc := 200) (tgt := 214) o dX11_lay_200 rfl (fun (b13 : (Int32.ofNat (C.2 10 0)) < 16) => ?_) (fun (b13 : ¬ (Int32.ofNat (C.2 10 0)) < 16) => ?_)
          · refine y_aload (pc := 214) o dX11_lay_214 rfl ?_
            refine y_dup (pc := 216) o dX11_lay_216 rfl ?_
            refine z_get (pc := 217) (K := (8, 0, a.toNatClampNeg)) (v := .int (C.1 (8, 0, a.toNatClampNeg) 1)) o fl_X11_226 dX11_lay_217 (gl_8 (gix_lt (Nat.le_trans (hBC 2 0 (by decide)) (by decide)) g1)) rfl rfl ?_
            refine y_iload (pc := 220) o dX11_lay_220 rfl ?_
            refine y_isub (pc := 222) o dX11_lay_222 ?_
            refine z_putC (pc := 223) (K := (8, 0, a.toNatClampNeg)) (fd := 1) (x := (C.1 (8, 0, a.toNatClampNeg) 1) - d) o fw_X11_226 dX11_lay_223 (gl_8 (gix_lt (Nat.le_trans (hBC 2 0 (by decide)) (by decide)) g1)) (show (8:Nat) < 20 by decide) rfl (Nat.le_of_ble_eq_true rfl) (vp_nar_int _) rfl rfl pC_8_3 (z_refC (show (8:Nat) < 20 by decide) (gl_8 (gix_lt (Nat.le_trans (hBC 2 0 (by decide)) (by decide)) g1)) qC_8_3) ?_
            refine y_aload (pc := 226) o dX11_lay_226 rfl ?_
            refine y_dup (pc := 228) o dX11_lay_228 rfl ?_
            refine z_get (pc := 229) (K := (9, 0, b.toNatClampNeg)) (v := .int ((gup C (8, 0, a.toNatClampNeg) 1 ((C.1 (8, 0, a.toNatClampNeg) 1) - d)).1 (9, 0, b.toNatClampNeg) 3)) o fl_X11_326 dX11_lay_229 (gl_9 (gix_lt (Nat.le_trans (hBC 3 0 (by decide)) (by decide)) g2)) rfl rfl ?_
            refine z_top (congrArg Value.int (gup_ff _ (show (3:Nat) ≠ 1 by decide))) ?_
            refine y_iload (pc := 232) o dX11_lay_232 rfl ?_
            refine y_isub (pc := 234) o dX11_lay_234 ?_
            refine z_putC (pc := 235) (K := (9, 0, b.toNatClampNeg)) (fd := 3) (x := (C.1 (9, 0, b.toNatClampNeg) 3) - ((((d + (gper c)) - 1) / (gper c)) * 2)) o fw_X11_326 dX11_lay_235 (gl_9 (gix_lt (Nat.le_trans (hBC 3 0 (by decide)) (by decide)) g2)) (show (9:Nat) < 20 by decide) rfl (Nat.le_of_ble_eq_true rfl) (vp_nar_int _) rfl rfl pC_9_4 (z_refC (show (9:Nat) < 20 by decide) (gl_9 (gix_lt (Nat.le_trans (hBC 3 0 (by decide)) (by decide)) g2)) qC_9_4) ?_
            refine y_aload_n (pc := 238) o dX11_lay_238 rfl ?_
            refine y_dup (pc := 239) o dX11_lay_239 rfl ?_
            refine z_get (pc := 240) (K := (0, 0, 0)) (v := .int ((gup (gup C (8, 0, a.toNatClampNeg) 1 ((C.1 (8, 0, a.toNatClampNeg) 1) - d)) (9, 0, b.toNatClampNeg) 3 ((C.1 (9, 0, b.toNatClampNeg) 3) - ((((d + (gper c)) - 1) / (gper c)) * 2))).1 (0, 0, 0) 3)) o fl_X11_65 dX11_lay_240 (gl_0 hC) rfl rfl ?_
            refine z_top (congrArg Value.int (Eq.trans (gup_vc _ (show (0:Nat) ≠ 9 by decide)) (gup_ff _ (show (3:Nat) ≠ 1 by decide)))) ?_
            refine y_iload (pc := 243) o dX11_lay_243 rfl ?_
            refine y_iadd (pc := 245) o dX11_lay_245 ?_
            refine z_putC (pc := 246) (K := (0, 0, 0)) (fd := 3) (x := (C.1 (0, 0, 0) 3) + d) o fw_X11_65 dX11_lay_246 (gl_0 hC) (show (0:Nat) < 20 by decide) rfl (Nat.le_of_ble_eq_true rfl) (vp_nar_int _) rfl rfl pC_0_14 (z_refC (show (0:Nat) < 20 by decide) (gl_0 hC) qC_0_14) ?_
            refine y_aload_n (pc := 249) o dX11_lay_249 rfl ?_
            refine z_get (pc := 250) (K := (0, 0, 0)) (v := .ref (ad (4, 4, 0))) o fl_X11_39 dX11_lay_250 (gl_0 hC) rfl rfl ?_
            refine z_new (pc := 253) (k := 2) (n := 12) o nw_X11_348 dX11_lay_253 (by decide) (by decide) (fun q14 => ?_)
            refine y_dup (pc := 256) o dX11_lay_256 rfl ?_
            refine y_aload_n (pc := 257) o dX11_lay_257 rfl ?_
            refine z_get (pc := 258) (K := (0, 0, 0)) (v := .ref (ad (4, 4, 0))) o fl_X11_39 dX11_lay_258 (gl_0 hC) rfl rfl ?_
            refine z_callV (pc := 261) (k := 3) (n := 24) (k' := 3) (n' := 24) o (b := ad (4, 4, 0)) (As := []) (rest := [.ref (q14), .ref (q14), .ref (ad (4, 4, 0))]) (sizeC (l := 4) (g := 0) (gl_4_4 hC)) ln_X11_127 dX11_lay_261 (z_rc (ci := 3) (K := (4, 4, 0)) rfl (gl_4_4 hC) rfl) rfl rfl (Nat.le_of_ble_eq_true rfl) ⟨by decide, by decide⟩ ⟨rfl, rfl⟩ ⟨by decide, by decide⟩ rfl gq_nox2 ?_
            refine y_aload (pc := 264) o dX11_lay_264 rfl ?_
            refine y_aload (pc := 266) o dX11_lay_266 rfl ?_
            refine y_iload (pc := 268) o dX11_lay_268 rfl ?_
            refine y_iload (pc := 270) o dX11_lay_270 rfl ?_
            refine y_iload (pc := 272) o dX11_lay_272 rfl ?_
            refine y_aload (pc := 274) o dX11_lay_274 rfl ?_
            refine z_get (pc := 276) (K := (9, 0, b.toNatClampNeg)) (v := .int ((gup (gup (gup C (8, 0, a.toNatClampNeg) 1 ((C.1 (8, 0, a.toNatClampNeg) 1) - d)) (9, 0, b.toNatClampNeg) 3 ((C.1 (9, 0, b.toNatClampNeg) 3) - ((((d + (gper c)) - 1) / (gper c)) * 2))) (0, 0, 0) 3 ((C.1 (0, 0, 0) 3) + d)).1 (9, 0, b.toNatClampNeg) 1)) o fl_X11_350 dX11_lay_276 (gl_9 (gix_lt (Nat.le_trans (hBC 3 0 (by decide)) (by decide)) g2)) rfl rfl ?_
            refine z_top (congrArg Value.int (Eq.trans (gup_ff _ (show (1:Nat) ≠ 3 by decide)) (Eq.trans (gup_vf _ (show (1:Nat) ≠ 3 by decide)) (gup_vc _ (show (9:Nat) ≠ 8 by decide))))) ?_
            refine y_iconst (pc := 279) (x := 4) o dX11_lay_279 (by decide) ?_
            refine y_idiv (pc := 280) o dX11_lay_280 (by decide) ?_
            refine y_iadd (pc := 281) o dX11_lay_281 ?_
            refine y_aload_n (pc := 282) o dX11_lay_282 rfl ?_
            refine z_get (pc := 283) (K := (0, 0, 0)) (v := .int ((gup (gup (gup C (8, 0, a.toNatClampNeg) 1 ((C.1 (8, 0, a.toNatClampNeg) 1) - d)) (9, 0, b.toNatClampNeg) 3 ((C.1 (9, 0, b.toNatClampNeg) 3) - ((((d + (gper c)) - 1) / (gper c)) * 2))) (0, 0, 0) 3 ((C.1 (0, 0, 0) 3) + d)).1 (0, 0, 0) 0)) o fl_X11_55 dX11_lay_283 (gl_0 hC) rfl rfl ?_
            refine z_top (congrArg Value.int (Eq.trans (gup_vf _ (show (0:Nat) ≠ 3 by decide)) (Eq.trans (gup_ff _ (show (0:Nat) ≠ 3 by decide)) (gup_ff _ (show (0:Nat) ≠ 1 by decide))))) ?_
            refine y_bipush (pc := 286) (x := 6) o dX11_lay_286 (by decide) ?_
            refine y_iadd (pc := 288) o dX11_lay_288 ?_
            refine z_callI (pc := 289) (k := 3) (n := 24) (k' := 3) (n' := 24) o (b := q14) (As := [.int (Int32.ofNat (C.2 10 0)), .ref (ad (8, 0, a.toNatClampNeg)), .ref (ad (9, 0, b.toNatClampNeg)), .int (e), .int (d), .int ((gabs ((2 * (C.1 (9, 0, b.toNatClampNeg) 4)) - (C.1 (8, 0, a.toNatClampNeg) 3))) + ((C.1 (9, 0, b.toNatClampNeg) 1) / 4)), .int ((C.1 (0, 0, 0) 0) + 6)]) (rest := [.ref (q14), .ref (ad (4, 4, 0))]) (kX8_init _ (Int32.ofNat (C.2 10 0)) (ad (8, 0, a.toNatClampNeg)) (ad (9, 0, b.toNatClampNeg)) (e) (d) ((gabs ((2 * (C.1 (9, 0, b.toNatClampNeg) 4)) - (C.1 (8, 0, a.toNatClampNeg) 3))) + ((C.1 (9, 0, b.toNatClampNeg) 1) / 4)) ((C.1 (0, 0, 0) 0) + 6)) ln_X11_353 dX11_lay_289 rfl rfl (Nat.le_of_ble_eq_true rfl) ⟨by decide, by decide⟩ ⟨rfl, rfl⟩ ⟨by decide, by decide⟩ ?_
            refine y_callV (pc := 292) (k := 3) (n := 24) o (b := ad (4, 4, 0)) (As := [.ref q14]) (rest := []) (addCa (C := (gup (gup (gup C (8, 0, a.toNatClampNeg) 1 ((C.1 (8, 0, a.toNatClampNeg) 1) - d)) (9, 0, b.toNatClampNeg) 3 ((C.1 (9, 0, b.toNatClampNeg) 3) - ((((d + (gper c)) - 1) / (gper c)) * 2))) (0, 0, 0) 3 ((C.1 (0, 0, 0) 3) + d))) (R := R) (l := 4) (g := 0) (n := C.2 10 0) (row := (glist [a, b, e, d, 0, gabs (2 * C.1 (9, 0, b.toNatClampNeg) 4 - C.1 (8, 0, a.toNatClampNeg) 3) + C.1 (9, 0, b.toNatClampNeg) 1 / 4, C.1 (0, 0, 0) 0 + 6, 0, -1, -1, 0])) (a := 10) rfl (gl_4_4 hC) (Or.inr rfl) rfl (hBC 4 0 (by decide)) nC_10 (by rw [rC_10]; intro K hK; rw [List.mem_cons, List.mem_singleton] at hK; exact hK.elim (fun z => by rw [z]; exact gl_8 (gix_lt (Nat.le_trans (hBC 2 0 (by decide)) (by decide)) g1)) (fun z => by rw [z]; exact gl_9 (gix_lt (Nat.le_trans (hBC 3 0 (by decide)) (by decide)) g2)))) ln_X11_138 dX11_lay_292 (z_rc (ci := 3) (K := (4, 4, 0)) rfl (gl_4_4 hC) rfl) rfl rfl (Nat.le_of_ble_eq_true rfl) ⟨by decide, by decide⟩ ⟨by decide, by decide⟩ (fun _ e => e) rfl gq_nox2 (fun v => y_and fun ev => y_ex fun ad15 => y_and fun had => y_and fun hadq => ?_)
            subst ev
            have e0 : ad15 (0, 0, 0) = ad (0, 0, 0) := had (0, 0, 0) (by simp) (by simp)
            have e20 : ad15 (20, 0, 0) = ad (20, 0, 0) := had (20, 0, 0) (by simp) (by simp)
            refine z_st (st' := [.int (1)]) rfl ?_
            rw [← e0]
            refine y_pop (pc := 295) o dX11_lay_295 rfl ?_
            refine y_aload_n (pc := 296) o dX11_lay_296 rfl ?_
            refine z_get (pc := 297) (K := (0, 0, 0)) (v := .ref (ad15 (4, 4, 0))) o fl_X11_39 dX11_lay_297 (gl_0 (gfix_new (a := 10) (by decide) hC)) rfl rfl ?_
            refine z_callV (pc := 300) (k := 4) (n := 280) (k' := 4) (n' := 280) o (b := ad15 (4, 4, 0)) (As := []) (rest := []) (sizeC (l := 4) (g := 0) (gl_4_4 (gfix_new (a := 10) (by decide) hC))) ln_X11_127 dX11_lay_300 (z_rc (ci := 3) (K := (4, 4, 0)) rfl (gl_4_4 (gfix_new (a := 10) (by decide) hC)) rfl) rfl rfl (Nat.le_of_ble_eq_true rfl) ⟨by decide, by decide⟩ ⟨rfl, rfl⟩ ⟨by decide, by decide⟩ rfl gq_nox2 ?_
            refine z_top (w := .int (Int32.ofNat (C.2 10 0 + 1))) (congrArg (fun z => Value.int (Int32.ofNat z)) (gnew_n _ _)) ?_
            refine y_iconst (pc := 303) (x := 1) o dX11_lay_303 (by decide) ?_
            refine y_isub (pc := 304) o dX11_lay_304 ?_
            exact y_iret (pc := 305) o dX11_lay_305 rfl (vp_nar_int _) (by decide) (by decide) (fun h hp => gQ_mk2 (by simp only [F_lay, b3, Classical.not_not.mp b4, Classical.not_not.mp b5, b6, b7, b8, b9, b10, b11, b12, b13, g1, g2, not_true_eq_false, not_false_eq_true, if_true, if_false, or_true, true_or, or_false, false_or, and_true, true_and, and_false, false_and, or_self, and_self, eq_self, Bool.false_eq_true, ne_eq, reduceIte]) e0 e20 hp)
          exact y_throwSW (pc := 203) o 53 rfl th_86 qw_366 qw_39 dX11_lay_203 dX11_lay_206 dX11_lay_207 dX11_lay_210 dX11_lay_213 rfl ⟨by decide, Nat.le_of_ble_eq_true rfl⟩ (by decide) (by decide) (fun h hp => gE_mk (k := 4) (by simp only [F_lay, b3, Classical.not_not.mp b4, Classical.not_not.mp b5, b6, b7, b8, b9, b10, b11, b12, b13, g1, g2, not_true_eq_false, not_false_eq_true, if_true, if_false, or_true, true_or, or_false, false_or, and_true, true_and, and_false, false_and, or_self, and_self, eq_self, Bool.false_eq_true, ne_eq, reduceIte]) (.tail _ (.tail _ (.tail _ (.head _)))) hp)
        exact y_throwSW (pc := 180) o 52 rfl th_105 qw_400 qw_40 dX11_lay_180 dX11_lay_183 dX11_lay_184 dX11_lay_187 dX11_lay_190 rfl ⟨by decide, Nat.le_of_ble_eq_true rfl⟩ (by decide) (by decide) (fun h hp => gE_mk (k := 3) (by simp only [F_lay, b3, Classical.not_not.mp b4, Classical.not_not.mp b5, b6, b7, b8, b9, b10, b11, b12, g1, g2, not_true_eq_false, not_false_eq_true, if_true, if_false, or_true, true_or, or_false, false_or, and_true, true_and, and_false, false_and, or_self, and_self, eq_self, Bool.false_eq_true, ne_eq, reduceIte]) (.tail _ (.tail _ (.head _))) hp)
      exact y_throwSW (pc := 135) o 51 rfl th_105 qw_400 qw_40 dX11_lay_135 dX11_lay_138 dX11_lay_139 dX11_lay_142 dX11_lay_145 rfl ⟨by decide, Nat.le_of_ble_eq_true rfl⟩ (by decide) (by decide) (fun h hp => gE_mk (k := 3) (by simp only [F_lay, b3, Classical.not_not.mp b4, Classical.not_not.mp b5, b6, b7, b8, b9, b10, g1, g2, not_true_eq_false, not_false_eq_true, if_true, if_false, or_true, true_or, or_false, false_or, and_true, true_and, and_false, false_and, or_self, and_self, eq_self, Bool.false_eq_true, ne_eq, reduceIte]) (.tail _ (.tail _ (.head _))) hp)
    exact y_throwSW (pc := 100) o 50 rfl th_105 qw_400 qw_40 dX11_lay_100 dX11_lay_103 dX11_lay_104 dX11_lay_107 dX11_lay_110 rfl ⟨by decide, Nat.le_of_ble_eq_true rfl⟩ (by decide) (by decide) (fun h hp => gE_mk (k := 3) (by simp only [F_lay, b3, Classical.not_not.mp b4, Classical.not_not.mp b5, b6, b7, b8, b9, g1, g2, not_true_eq_false, not_false_eq_true, if_true, if_false, or_true, true_or, or_false, false_or, and_true, true_and, and_false, false_and, or_self, and_self, eq_self, Bool.false_eq_true, ne_eq, reduceIte]) (.tail _ (.tail _ (.head _))) hp)
  exact y_throwSW (pc := 49) o 49 rfl th_79 qw_295 qw_38 dX11_lay_49 dX11_lay_52 dX11_lay_53 dX11_lay_56 dX11_lay_59 rfl ⟨by decide, Nat.le_of_ble_eq_true rfl⟩ (by decide) (by decide) (fun h hp => gE_mk (k := 2) (by simp only [F_lay, b3, Classical.not_not.mp b4, b5, g1, g2, not_true_eq_false, not_false_eq_true, if_true, if_false, or_true, true_or, or_false, false_or, and_true, true_and, and_false, false_and, or_self, and_self, eq_self, Bool.false_eq_true, ne_eq, reduceIte]) (.tail _ (.head _)) hp)

theorem p_coat {κ : gq_K} {ad : gKey → Nat} {C R : gG} {T : List (Nat × va_E)} (hC : gfix C.2) (hBC : gcnt C.2) (hM : gmach C) (a : Int32) (b : Int32) : gq_C κ mX11_coat [.ref (ad (0, 0, 0)), .int (a), .int (b)] (gR κ ad (C, R) T) (gQ κ ad R T (F_coat C a b)) (gE κ ad R T [("java/lang/IndexOutOfBoundsException", 1), ("java/lang/IllegalArgumentException", 2), ("java/lang/UnsupportedOperationException", 3)] (F_coat C a b)) := by
  refine gq_enter (by decide +kernel) rfl (Nat.le_of_ble_eq_true rfl) rfl (fun f o => ?_)
  refine y_aload_n (pc := 0) o dX11_coat_0 rfl ?_
  refine y_iload_n (pc := 1) o dX11_coat_1 rfl ?_
  refine z_callV (pc := 2) (k := 0) (n := 0) (k' := 1) (n' := 6) o (b := ad (0, 0, 0)) (As := [.int (a)]) (rest := []) (kRunN hC hBC a) ln_X11_356 dX11_coat_2 (z_rc (ci := 15) (K := (0, 0, 0)) rfl (gl_0 hC) rfl) rfl rfl (Nat.le_of_ble_eq_true rfl) ⟨by decide, by decide⟩ ⟨rfl, rfl⟩ ⟨by decide, by decide⟩ rfl (fun x h hE => by obtain ⟨rfl, hz, hr⟩ := hE; exact gE_mk (k := 1) (by simp only [F_coat, hz, not_true_eq_false, not_false_eq_true, if_true, if_false, or_true, true_or, or_false, false_or, and_true, true_and, and_false, false_and, or_self, and_self, eq_self, Bool.false_eq_true, ne_eq, reduceIte]) (.head _) hr) (y_and fun (g1 : gix (C.2 10 0) a = true) => ?_)
  refine y_astore_n (pc := 5) (i := 3) (lv' := [(3, .ref (ad (10, 0, a.toNatClampNeg))), (0, .ref (ad (0, 0, 0))), (1, .int (a)), (2, .int (b))]) o dX11_coat_5 rfl (by decide) rfl ?_
  refine y_iload_n (pc := 6) o dX11_coat_6 rfl ?_
  refine y_iconst (pc := 7) (x := 0) o dX11_coat_7 (by decide) ?_
  refine y_bipush (pc := 8) (x := 9) o dX11_coat_8 (by decide) ?_
  refine z_callS (pc := 10) (k := 1) (n := 6) (k' := 1) (n' := 6) o (As := [.int (b), .int (0), .int (9)]) (rest := []) (kIsOut _ _ _) ln_X11_71 dX11_coat_10 rfl rfl (Nat.le_of_ble_eq_true rfl) ⟨by decide, by decide⟩ ⟨rfl, rfl⟩ ⟨by decide, by decide⟩ rfl gq_nox2 ?_
  refine z_beq (pc := 13) (tgt := 27) o dX11_coat_13 rfl (fun (b2 : ¬ (¬ gin 0 b 9 = true)) => ?_) (fun (b2 : ¬ gin 0 b 9 = true) => ?_)
  · refine y_aload_n (pc := 27) o dX11_coat_27 rfl ?_
    refine z_get (pc := 28) (K := (0, 0, 0)) (v := .int (C.1 (0, 0, 0) 0)) o fl_X11_55 dX11_coat_28 (gl_0 hC) rfl rfl ?_
    refine y_aload_n (pc := 31) o dX11_coat_31 rfl ?_
    refine z_get (pc := 32) (K := (10, 0, a.toNatClampNeg)) (v := .int (C.1 (10, 0, a.toNatClampNeg) 6)) o fl_X11_362 dX11_coat_32 (gl_10 (gix_lt (Nat.le_trans (hBC 4 0 (by decide)) (by decide)) g1)) rfl rfl ?_
    refine y_icmp_lt (pc := 35) (tgt := 47) o dX11_coat_35 rfl (fun (b3 : (C.1 (0, 0, 0) 0) < (C.1 (10, 0, a.toNatClampNeg) 6)) => ?_) (fun (b3 : ¬ (C.1 (0, 0, 0) 0) < (C.1 (10, 0, a.toNatClampNeg) 6)) => ?_)
    · exact y_throwSW (pc := 47) o 56 rfl th_105 qw_400 qw_40 dX11_coat_47 dX11_coat_50 dX11_coat_51 dX11_coat_54 dX11_coat_57 rfl ⟨by decide, Nat.le_of_ble_eq_true rfl⟩ (by decide) (by decide) (fun h hp => gE_mk (k := 3) (by simp only [F_coat, Classical.not_not.mp b2, b3, g1, not_true_eq_false, not_false_eq_true, if_true, if_false, or_true, true_or, or_false, false_or, and_true, true_and, and_false, false_and, or_self, and_self, eq_self, Bool.false_eq_true, ne_eq, reduceIte]) (.tail _ (.tail _ (.head _))) hp)
    refine y_aload_n (pc := 38) o dX11_coat_38 rfl ?_
    refine z_get (pc := 39) (K := (10, 0, a.toNatClampNeg)) (v := .int (C.1 (10, 0, a.toNatClampNeg) 7)) o fl_X11_363 dX11_coat_39 (gl_10 (gix_lt (Nat.le_trans (hBC 4 0 (by decide)) (by decide)) g1)) rfl rfl ?_
    refine y_bipush (pc := 42) (x := 8) o dX11_coat_42 (by decide) ?_
    refine y_icmp_lt (pc := 44) (tgt := 58) o dX11_coat_44 rfl (fun (b4 : (C.1 (10, 0, a.toNatClampNeg) 7) < 8) => ?_) (fun (b4 : ¬ (C.1 (10, 0, a.toNatClampNeg) 7) < 8) => ?_)
    · refine y_aload_n (pc := 58) o dX11_coat_58 rfl ?_
      refine z_get (pc := 59) (K := (0, 0, 0)) (v := .ref (ad (1, 0, 0))) o fl_X11_10 dX11_coat_59 (gl_0 hC) rfl rfl ?_
      refine y_aload_n (pc := 62) o dX11_coat_62 rfl ?_
      refine z_get (pc := 63) (K := (0, 0, 0)) (v := .ref (ad (1, 0, 0))) o fl_X11_10 dX11_coat_63 (gl_0 hC) rfl rfl ?_
      refine z_get (pc := 66) (K := (1, 0, 0)) (v := .ref (ad (3, 0, 3))) o fl_X11_368 dX11_coat_66 (gl_1 hC) rfl rfl ?_
      refine z_callV (pc := 69) (k := 1) (n := 6) (k' := 1) (n' := 6) o (b := ad (1, 0, 0)) (As := [.ref (ad (3, 0, 3))]) (rest := []) (kMoves hC hM 3 (by decide)) ln_X11_119 dX11_coat_69 (z_rc (ci := 5) (K := (1, 0, 0)) rfl (gl_1 hC) rfl) rfl rfl (Nat.le_of_ble_eq_true rfl) ⟨by decide, by decide⟩ ⟨rfl, rfl⟩ ⟨by decide, by decide⟩ rfl gq_nox2 ?_
      refine z_bne (pc := 72) (tgt := 86) o dX11_coat_72 rfl (fun (b5 : gmov C 4 3 = true) => ?_) (fun (b5 : ¬ (gmov C 4 3 = true)) => ?_)
      · refine y_aload_n (pc := 86) o dX11_coat_86 rfl ?_
        refine y_dup (pc := 87) o dX11_coat_87 rfl ?_
        refine z_get (pc := 88) (K := (10, 0, a.toNatClampNeg)) (v := .int (C.1 (10, 0, a.toNatClampNeg) 7)) o fl_X11_363 dX11_coat_88 (gl_10 (gix_lt (Nat.le_trans (hBC 4 0 (by decide)) (by decide)) g1)) rfl rfl ?_
        refine y_iconst (pc := 91) (x := 1) o dX11_coat_91 (by decide) ?_
        refine y_iadd (pc := 92) o dX11_coat_92 ?_
        refine z_putC (pc := 93) (K := (10, 0, a.toNatClampNeg)) (fd := 7) (x := (C.1 (10, 0, a.toNatClampNeg) 7) + 1) o fw_X11_363 dX11_coat_93 (gl_10 (gix_lt (Nat.le_trans (hBC 4 0 (by decide)) (by decide)) g1)) (show (10:Nat) < 20 by decide) rfl (Nat.le_of_ble_eq_true rfl) (vp_nar_int _) rfl rfl pC_10_7 (z_refC (show (10:Nat) < 20 by decide) (gl_10 (gix_lt (Nat.le_trans (hBC 4 0 (by decide)) (by decide)) g1)) qC_10_7) ?_
        refine y_aload_n (pc := 96) o dX11_coat_96 rfl ?_
        refine y_iload_n (pc := 97) o dX11_coat_97 rfl ?_
        refine z_putC (pc := 98) (K := (10, 0, a.toNatClampNeg)) (fd := 8) (x := b) o fw_X11_373 dX11_coat_98 (gl_10 (gix_lt (Nat.le_trans (hBC 4 0 (by decide)) (by decide)) g1)) (show (10:Nat) < 20 by decide) rfl (Nat.le_of_ble_eq_true rfl) (vp_nar_int _) rfl rfl pC_10_8 (z_refC (show (10:Nat) < 20 by decide) (gl_10 (gix_lt (Nat.le_trans (hBC 4 0 (by decide)) (by decide)) g1)) qC_10_8) ?_
        refine y_aload_n (pc := 101) o dX11_coat_101 rfl ?_
        refine y_aload_n (pc := 102) o dX11_coat_102 rfl ?_
        refine z_get (pc := 103) (K := (0, 0, 0)) (v := .int ((gup (gup C (10, 0, a.toNatClampNeg) 7 ((C.1 (10, 0, a.toNatClampNeg) 7) + 1)) (10, 0, a.toNatClampNeg) 8 b).1 (0, 0, 0) 0)) o fl_X11_55 dX11_coat_103 (gl_0 hC) rfl rfl ?_
        refine z_top (congrArg Value.int (Eq.trans (gup_ff _ (show (0:Nat) ≠ 8 by decide)) (gup_ff _ (show (0:Nat) ≠ 7 by decide)))) ?_
        refine y_bipush (pc := 106) (x := 8) o dX11_coat_106 (by decide) ?_
        refine y_iadd (pc := 108) o dX11_coat_108 ?_
        refine z_putC (pc := 109) (K := (10, 0, a.toNatClampNeg)) (fd := 6) (x := (C.1 (0, 0, 0) 0) + 8) o fw_X11_362 dX11_coat_109 (gl_10 (gix_lt (Nat.le_trans (hBC 4 0 (by decide)) (by decide)) g1)) (show (10:Nat) < 20 by decide) rfl (Nat.le_of_ble_eq_true rfl) (vp_nar_int _) rfl rfl pC_10_10 (z_refC (show (10:Nat) < 20 by decide) (gl_10 (gix_lt (Nat.le_trans (hBC 4 0 (by decide)) (by decide)) g1)) qC_10_10) ?_
        refine y_aload_n (pc := 112) o dX11_coat_112 rfl ?_
        refine z_get (pc := 113) (K := (10, 0, a.toNatClampNeg)) (v := .int ((gup (gup (gup C (10, 0, a.toNatClampNeg) 7 ((C.1 (10, 0, a.toNatClampNeg) 7) + 1)) (10, 0, a.toNatClampNeg) 8 b) (10, 0, a.toNatClampNeg) 6 ((C.1 (0, 0, 0) 0) + 8)).1 (10, 0, a.toNatClampNeg) 7)) o fl_X11_363 dX11_coat_113 (gl_10 (gix_lt (Nat.le_trans (hBC 4 0 (by decide)) (by decide)) g1)) rfl rfl ?_
        refine z_top (congrArg Value.int (Eq.trans (gup_vf _ (show (7:Nat) ≠ 6 by decide)) (Eq.trans (gup_vf _ (show (7:Nat) ≠ 8 by decide)) (gup_v _ _ _ _)))) ?_
        exact y_iret (pc := 116) o dX11_coat_116 rfl (vp_nar_int _) (by decide) (by decide) (fun h hp => gQ_mk (by simp only [F_coat, Classical.not_not.mp b2, b3, b4, b5, g1, not_true_eq_false, not_false_eq_true, if_true, if_false, or_true, true_or, or_false, false_or, and_true, true_and, and_false, false_and, or_self, and_self, eq_self, Bool.false_eq_true, ne_eq, reduceIte]) hp)
      exact y_throwSW (pc := 75) o 57 rfl th_105 qw_400 qw_40 dX11_coat_75 dX11_coat_78 dX11_coat_79 dX11_coat_82 dX11_coat_85 rfl ⟨by decide, Nat.le_of_ble_eq_true rfl⟩ (by decide) (by decide) (fun h hp => gE_mk (k := 3) (by simp only [F_coat, Classical.not_not.mp b2, b3, b4, b5, g1, not_true_eq_false, not_false_eq_true, if_true, if_false, or_true, true_or, or_false, false_or, and_true, true_and, and_false, false_and, or_self, and_self, eq_self, Bool.false_eq_true, ne_eq, reduceIte]) (.tail _ (.tail _ (.head _))) hp)
    exact y_throwSW (pc := 47) o 56 rfl th_105 qw_400 qw_40 dX11_coat_47 dX11_coat_50 dX11_coat_51 dX11_coat_54 dX11_coat_57 rfl ⟨by decide, Nat.le_of_ble_eq_true rfl⟩ (by decide) (by decide) (fun h hp => gE_mk (k := 3) (by simp only [F_coat, Classical.not_not.mp b2, b3, b4, g1, not_true_eq_false, not_false_eq_true, if_true, if_false, or_true, true_or, or_false, false_or, and_true, true_and, and_false, false_and, or_self, and_self, eq_self, Bool.false_eq_true, ne_eq, reduceIte]) (.tail _ (.tail _ (.head _))) hp)
  exact y_throwSW (pc := 16) o 55 rfl th_79 qw_295 qw_38 dX11_coat_16 dX11_coat_19 dX11_coat_20 dX11_coat_23 dX11_coat_26 rfl ⟨by decide, Nat.le_of_ble_eq_true rfl⟩ (by decide) (by decide) (fun h hp => gE_mk (k := 2) (by simp only [F_coat, b2, g1, not_true_eq_false, not_false_eq_true, if_true, if_false, or_true, true_or, or_false, false_or, and_true, true_and, and_false, false_and, or_self, and_self, eq_self, Bool.false_eq_true, ne_eq, reduceIte]) (.tail _ (.head _)) hp)

theorem p_stamp {κ : gq_K} {ad : gKey → Nat} {C R : gG} {T : List (Nat × va_E)} (hC : gfix C.2) (hBC : gcnt C.2) (hM : gmach C) (a : Int32) : gq_C κ mX11_stamp [.ref (ad (0, 0, 0)), .int (a)] (gR κ ad (C, R) T) (gQ κ ad R T (F_stamp C a)) (gE κ ad R T [("java/lang/IndexOutOfBoundsException", 1), ("java/lang/UnsupportedOperationException", 2)] (F_stamp C a)) := by
  refine gq_enter (by decide +kernel) rfl (Nat.le_of_ble_eq_true rfl) rfl (fun f o => ?_)
  refine z_fact (fun h hr => hr.clC) (fun hcl => ?_)
  refine y_aload_n (pc := 0) o dX11_stamp_0 rfl ?_
  refine y_iload_n (pc := 1) o dX11_stamp_1 rfl ?_
  refine z_callV (pc := 2) (k := 0) (n := 0) (k' := 1) (n' := 6) o (b := ad (0, 0, 0)) (As := [.int (a)]) (rest := []) (kRunN hC hBC a) ln_X11_356 dX11_stamp_2 (z_rc (ci := 15) (K := (0, 0, 0)) rfl (gl_0 hC) rfl) rfl rfl (Nat.le_of_ble_eq_true rfl) ⟨by decide, by decide⟩ ⟨rfl, rfl⟩ ⟨by decide, by decide⟩ rfl (fun x h hE => by obtain ⟨rfl, hz, hr⟩ := hE; exact gE_mk (k := 1) (by simp only [F_stamp, hz, not_true_eq_false, not_false_eq_true, if_true, if_false, or_true, true_or, or_false, false_or, and_true, true_and, and_false, false_and, or_self, and_self, eq_self, Bool.false_eq_true, ne_eq, reduceIte]) (.head _) hr) (y_and fun (g1 : gix (C.2 10 0) a = true) => ?_)
  refine y_astore_n (pc := 5) (i := 2) (lv' := [(2, .ref (ad (10, 0, a.toNatClampNeg))), (0, .ref (ad (0, 0, 0))), (1, .int (a))]) o dX11_stamp_5 rfl (by decide) rfl ?_
  refine y_aload_n (pc := 6) o dX11_stamp_6 rfl ?_
  refine z_get (pc := 7) (K := (0, 0, 0)) (v := .int (C.1 (0, 0, 0) 0)) o fl_X11_55 dX11_stamp_7 (gl_0 hC) rfl rfl ?_
  refine y_aload_n (pc := 10) o dX11_stamp_10 rfl ?_
  refine z_get (pc := 11) (K := (10, 0, a.toNatClampNeg)) (v := .int (C.1 (10, 0, a.toNatClampNeg) 6)) o fl_X11_362 dX11_stamp_11 (gl_10 (gix_lt (Nat.le_trans (hBC 4 0 (by decide)) (by decide)) g1)) rfl rfl ?_
  refine y_icmp_lt (pc := 14) (tgt := 32) o dX11_stamp_14 rfl (fun (b2 : (C.1 (0, 0, 0) 0) < (C.1 (10, 0, a.toNatClampNeg) 6)) => ?_) (fun (b2 : ¬ (C.1 (0, 0, 0) 0) < (C.1 (10, 0, a.toNatClampNeg) 6)) => ?_)
  · exact y_throwSW (pc := 32) o 58 rfl th_105 qw_400 qw_40 dX11_stamp_32 dX11_stamp_35 dX11_stamp_36 dX11_stamp_39 dX11_stamp_42 rfl ⟨by decide, Nat.le_of_ble_eq_true rfl⟩ (by decide) (by decide) (fun h hp => gE_mk (k := 2) (by simp only [F_stamp, b2, g1, not_true_eq_false, not_false_eq_true, if_true, if_false, or_true, true_or, or_false, false_or, and_true, true_and, and_false, false_and, or_self, and_self, eq_self, Bool.false_eq_true, ne_eq, reduceIte]) (.tail _ (.head _)) hp)
  refine y_aload_n (pc := 17) o dX11_stamp_17 rfl ?_
  refine z_get (pc := 18) (K := (10, 0, a.toNatClampNeg)) (v := .int (C.1 (10, 0, a.toNatClampNeg) 7)) o fl_X11_363 dX11_stamp_18 (gl_10 (gix_lt (Nat.le_trans (hBC 4 0 (by decide)) (by decide)) g1)) rfl rfl ?_
  refine y_iconst (pc := 21) (x := 3) o dX11_stamp_21 (by decide) ?_
  refine y_icmp_lt (pc := 22) (tgt := 32) o dX11_stamp_22 rfl (fun (b3 : (C.1 (10, 0, a.toNatClampNeg) 7) < 3) => ?_) (fun (b3 : ¬ (C.1 (10, 0, a.toNatClampNeg) 7) < 3) => ?_)
  · exact y_throwSW (pc := 32) o 58 rfl th_105 qw_400 qw_40 dX11_stamp_32 dX11_stamp_35 dX11_stamp_36 dX11_stamp_39 dX11_stamp_42 rfl ⟨by decide, Nat.le_of_ble_eq_true rfl⟩ (by decide) (by decide) (fun h hp => gE_mk (k := 2) (by simp only [F_stamp, b2, b3, g1, not_true_eq_false, not_false_eq_true, if_true, if_false, or_true, true_or, or_false, false_or, and_true, true_and, and_false, false_and, or_self, and_self, eq_self, Bool.false_eq_true, ne_eq, reduceIte]) (.tail _ (.head _)) hp)
  refine y_aload_n (pc := 25) o dX11_stamp_25 rfl ?_
  refine z_callV (pc := 26) (k := 1) (n := 6) (k' := 1) (n' := 6) o (b := ad (10, 0, a.toNatClampNeg)) (As := []) (rest := []) (kStamped _ (gix_lt (Nat.le_trans (hBC 4 0 (by decide)) (by decide)) g1)) ln_X11_376 dX11_stamp_26 (z_rc (ci := 12) (K := (10, 0, a.toNatClampNeg)) rfl (gl_10 (gix_lt (Nat.le_trans (hBC 4 0 (by decide)) (by decide)) g1)) rfl) rfl rfl (Nat.le_of_ble_eq_true rfl) ⟨by decide, by decide⟩ ⟨rfl, rfl⟩ ⟨by decide, by decide⟩ rfl gq_nox2 ?_
  refine z_beq (pc := 29) (tgt := 43) o dX11_stamp_29 rfl (fun (b4 : ¬ (¬ C.1 (10, 0, a.toNatClampNeg) 9 < 0)) => ?_) (fun (b4 : ¬ C.1 (10, 0, a.toNatClampNeg) 9 < 0) => ?_)
  · refine y_aload_n (pc := 43) o dX11_stamp_43 rfl ?_
    refine z_get (pc := 44) (K := (0, 0, 0)) (v := .int (C.1 (0, 0, 0) 0)) o fl_X11_55 dX11_stamp_44 (gl_0 hC) rfl rfl ?_
    refine y_aload_n (pc := 47) o dX11_stamp_47 rfl ?_
    refine z_get (pc := 48) (K := (10, 0, a.toNatClampNeg)) (v := .ref (ad (8, 0, (C.1 (10, 0, a.toNatClampNeg) 0).toNatClampNeg))) o fl_X11_381 dX11_stamp_48 (gl_10 (gix_lt (Nat.le_trans (hBC 4 0 (by decide)) (by decide)) g1)) rfl rfl ?_
    refine z_get (pc := 51) (K := (8, 0, (C.1 (10, 0, a.toNatClampNeg) 0).toNatClampNeg)) (v := .int (C.1 (8, 0, (C.1 (10, 0, a.toNatClampNeg) 0).toNatClampNeg) 4)) o fl_X11_223 dX11_stamp_51 (gl_8 (hcl.2.1 _ (gix_lt (Nat.le_trans (hBC 4 0 (by decide)) (by decide)) g1)).1) rfl rfl ?_
    refine z_icmp_ge (pc := 54) (tgt := 68) o dX11_stamp_54 rfl (fun (b5 : ¬ (C.1 (0, 0, 0) 0) < (C.1 (8, 0, (C.1 (10, 0, a.toNatClampNeg) 0).toNatClampNeg) 4)) => ?_) (fun (b5 : (C.1 (0, 0, 0) 0) < (C.1 (8, 0, (C.1 (10, 0, a.toNatClampNeg) 0).toNatClampNeg) 4)) => ?_)
    · refine y_aload_n (pc := 68) o dX11_stamp_68 rfl ?_
      refine y_aload_n (pc := 69) o dX11_stamp_69 rfl ?_
      refine z_get (pc := 70) (K := (0, 0, 0)) (v := .ref (ad (2, 0, 0))) o fl_X11_19 dX11_stamp_70 (gl_0 hC) rfl rfl ?_
      refine y_aload_n (pc := 73) o dX11_stamp_73 rfl ?_
      refine z_get (pc := 74) (K := (10, 0, a.toNatClampNeg)) (v := .ref (ad (8, 0, (C.1 (10, 0, a.toNatClampNeg) 0).toNatClampNeg))) o fl_X11_381 dX11_stamp_74 (gl_10 (gix_lt (Nat.le_trans (hBC 4 0 (by decide)) (by decide)) g1)) rfl rfl ?_
      refine z_get (pc := 77) (K := (8, 0, (C.1 (10, 0, a.toNatClampNeg) 0).toNatClampNeg)) (v := .int (C.1 (8, 0, (C.1 (10, 0, a.toNatClampNeg) 0).toNatClampNeg) 10)) o fl_X11_249 dX11_stamp_77 (gl_8 (hcl.2.1 _ (gix_lt (Nat.le_trans (hBC 4 0 (by decide)) (by decide)) g1)).1) rfl rfl ?_
      refine z_callV (pc := 80) (k := 1) (n := 6) (k' := 1) (n' := 6) o (b := ad (2, 0, 0)) (As := [.int (C.1 (8, 0, (C.1 (10, 0, a.toNatClampNeg) 0).toNatClampNeg) 10)]) (rest := [.ref (ad (10, 0, a.toNatClampNeg))]) (kTell hC _) ln_X11_272 dX11_stamp_80 (z_rc (ci := 14) (K := (2, 0, 0)) rfl (gl_2 hC) rfl) rfl rfl (Nat.le_of_ble_eq_true rfl) ⟨by decide, by decide⟩ ⟨rfl, rfl⟩ ⟨by decide, by decide⟩ rfl gq_nox2 ?_
      refine z_callS (pc := 83) (k := 1) (n := 6) (k' := 1) (n' := 6) o (As := [.int (gclamp ((C.1 (8, 0, (C.1 (10, 0, a.toNatClampNeg) 0).toNatClampNeg) 10) + C.1 (2, 0, 0) 0) 0 999)]) (rest := [.ref (ad (10, 0, a.toNatClampNeg))]) (kGrade _) ln_X11_387 dX11_stamp_83 rfl rfl (Nat.le_of_ble_eq_true rfl) ⟨by decide, by decide⟩ ⟨rfl, rfl⟩ ⟨by decide, by decide⟩ rfl gq_nox2 ?_
      refine z_putC (pc := 86) (K := (10, 0, a.toNatClampNeg)) (fd := 9) (x := (gclamp ((C.1 (8, 0, (C.1 (10, 0, a.toNatClampNeg) 0).toNatClampNeg) 10) + C.1 (2, 0, 0) 0) 0 999) / 50) o fw_X11_390 dX11_stamp_86 (gl_10 (gix_lt (Nat.le_trans (hBC 4 0 (by decide)) (by decide)) g1)) (show (10:Nat) < 20 by decide) rfl (Nat.le_of_ble_eq_true rfl) (vp_nar_int _) rfl rfl pC_10_9 (z_refC (show (10:Nat) < 20 by decide) (gl_10 (gix_lt (Nat.le_trans (hBC 4 0 (by decide)) (by decide)) g1)) qC_10_9) ?_
      refine y_aload_n (pc := 89) o dX11_stamp_89 rfl ?_
      refine z_get (pc := 90) (K := (10, 0, a.toNatClampNeg)) (v := .int ((gup (gtell C) (10, 0, a.toNatClampNeg) 9 ((gclamp ((C.1 (8, 0, (C.1 (10, 0, a.toNatClampNeg) 0).toNatClampNeg) 10) + C.1 (2, 0, 0) 0) 0 999) / 50)).1 (10, 0, a.toNatClampNeg) 9)) o fl_X11_390 dX11_stamp_90 (gl_10 (gix_lt (Nat.le_trans (hBC 4 0 (by decide)) (by decide)) g1)) rfl rfl ?_
      refine z_top (congrArg Value.int (gup_v _ _ _ _)) ?_
      exact y_iret (pc := 93) o dX11_stamp_93 rfl (vp_nar_int _) (by decide) (by decide) (fun h hp => gQ_mk (by simp only [F_stamp, b2, b3, Classical.not_not.mp b4, b5, g1, not_true_eq_false, not_false_eq_true, if_true, if_false, or_true, true_or, or_false, false_or, and_true, true_and, and_false, false_and, or_self, and_self, eq_self, Bool.false_eq_true, ne_eq, reduceIte]) hp)
    exact y_throwSW (pc := 57) o 59 rfl th_105 qw_400 qw_40 dX11_stamp_57 dX11_stamp_60 dX11_stamp_61 dX11_stamp_64 dX11_stamp_67 rfl ⟨by decide, Nat.le_of_ble_eq_true rfl⟩ (by decide) (by decide) (fun h hp => gE_mk (k := 2) (by simp only [F_stamp, b2, b3, Classical.not_not.mp b4, b5, g1, not_true_eq_false, not_false_eq_true, if_true, if_false, or_true, true_or, or_false, false_or, and_true, true_and, and_false, false_and, or_self, and_self, eq_self, Bool.false_eq_true, ne_eq, reduceIte]) (.tail _ (.head _)) hp)
  exact y_throwSW (pc := 32) o 58 rfl th_105 qw_400 qw_40 dX11_stamp_32 dX11_stamp_35 dX11_stamp_36 dX11_stamp_39 dX11_stamp_42 rfl ⟨by decide, Nat.le_of_ble_eq_true rfl⟩ (by decide) (by decide) (fun h hp => gE_mk (k := 2) (by simp only [F_stamp, b2, b3, b4, g1, not_true_eq_false, not_false_eq_true, if_true, if_false, or_true, true_or, or_false, false_or, and_true, true_and, and_false, false_and, or_self, and_self, eq_self, Bool.false_eq_true, ne_eq, reduceIte]) (.tail _ (.head _)) hp)

theorem p_erase {κ : gq_K} {ad : gKey → Nat} {C R : gG} {T : List (Nat × va_E)} (hC : gfix C.2) (hBC : gcnt C.2) (hM : gmach C) (a : Int32) (b : Int32) : gq_C κ mX11_erase [.ref (ad (0, 0, 0)), .int (a), .int (b)] (gR κ ad (C, R) T) (gQ κ ad R T (F_erase C a b)) (gE κ ad R T [("java/lang/IndexOutOfBoundsException", 1), ("java/lang/IllegalArgumentException", 2), ("java/lang/UnsupportedOperationException", 3)] (F_erase C a b)) := by
  refine gq_enter (by decide +kernel) rfl (Nat.le_of_ble_eq_true rfl) rfl (fun f o => ?_)
  refine y_aload_n (pc := 0) o dX11_erase_0 rfl ?_
  refine y_iload_n (pc := 1) o dX11_erase_1 rfl ?_
  refine z_callV (pc := 2) (k := 0) (n := 0) (k' := 1) (n' := 6) o (b := ad (0, 0, 0)) (As := [.int (a)]) (rest := []) (kRunN hC hBC a) ln_X11_356 dX11_erase_2 (z_rc (ci := 15) (K := (0, 0, 0)) rfl (gl_0 hC) rfl) rfl rfl (Nat.le_of_ble_eq_true rfl) ⟨by decide, by decide⟩ ⟨rfl, rfl⟩ ⟨by decide, by decide⟩ rfl (fun x h hE => by obtain ⟨rfl, hz, hr⟩ := hE; exact gE_mk (k := 1) (by simp only [F_erase, hz, not_true_eq_false, not_false_eq_true, if_true, if_false, or_true, true_or, or_false, false_or, and_true, true_and, and_false, false_and, or_self, and_self, eq_self, Bool.false_eq_true, ne_eq, reduceIte]) (.head _) hr) (y_and fun (g1 : gix (C.2 10 0) a = true) => ?_)
  refine y_astore_n (pc := 5) (i := 3) (lv' := [(3, .ref (ad (10, 0, a.toNatClampNeg))), (0, .ref (ad (0, 0, 0))), (1, .int (a)), (2, .int (b))]) o dX11_erase_5 rfl (by decide) rfl ?_
  refine y_iload_n (pc := 6) o dX11_erase_6 rfl ?_
  refine y_iconst (pc := 7) (x := 0) o dX11_erase_7 (by decide) ?_
  refine y_bipush (pc := 8) (x := 9) o dX11_erase_8 (by decide) ?_
  refine z_callS (pc := 10) (k := 1) (n := 6) (k' := 1) (n' := 6) o (As := [.int (b), .int (0), .int (9)]) (rest := []) (kIsOut _ _ _) ln_X11_71 dX11_erase_10 rfl rfl (Nat.le_of_ble_eq_true rfl) ⟨by decide, by decide⟩ ⟨rfl, rfl⟩ ⟨by decide, by decide⟩ rfl gq_nox2 ?_
  refine z_beq (pc := 13) (tgt := 27) o dX11_erase_13 rfl (fun (b2 : ¬ (¬ gin 0 b 9 = true)) => ?_) (fun (b2 : ¬ gin 0 b 9 = true) => ?_)
  · refine y_aload_n (pc := 27) o dX11_erase_27 rfl ?_
    refine z_callV (pc := 28) (k := 1) (n := 6) (k' := 1) (n' := 6) o (b := ad (10, 0, a.toNatClampNeg)) (As := []) (rest := []) (kStamped _ (gix_lt (Nat.le_trans (hBC 4 0 (by decide)) (by decide)) g1)) ln_X11_376 dX11_erase_28 (z_rc (ci := 12) (K := (10, 0, a.toNatClampNeg)) rfl (gl_10 (gix_lt (Nat.le_trans (hBC 4 0 (by decide)) (by decide)) g1)) rfl) rfl rfl (Nat.le_of_ble_eq_true rfl) ⟨by decide, by decide⟩ ⟨rfl, rfl⟩ ⟨by decide, by decide⟩ rfl gq_nox2 ?_
    refine z_beq (pc := 31) (tgt := 41) o dX11_erase_31 rfl (fun (b3 : ¬ (¬ C.1 (10, 0, a.toNatClampNeg) 9 < 0)) => ?_) (fun (b3 : ¬ C.1 (10, 0, a.toNatClampNeg) 9 < 0) => ?_)
    · exact y_throwSW (pc := 41) o 61 rfl th_105 qw_400 qw_40 dX11_erase_41 dX11_erase_44 dX11_erase_45 dX11_erase_48 dX11_erase_51 rfl ⟨by decide, Nat.le_of_ble_eq_true rfl⟩ (by decide) (by decide) (fun h hp => gE_mk (k := 3) (by simp only [F_erase, Classical.not_not.mp b2, Classical.not_not.mp b3, g1, not_true_eq_false, not_false_eq_true, if_true, if_false, or_true, true_or, or_false, false_or, and_true, true_and, and_false, false_and, or_self, and_self, eq_self, Bool.false_eq_true, ne_eq, reduceIte]) (.tail _ (.tail _ (.head _))) hp)
    refine y_aload_n (pc := 34) o dX11_erase_34 rfl ?_
    refine z_get (pc := 35) (K := (10, 0, a.toNatClampNeg)) (v := .int (C.1 (10, 0, a.toNatClampNeg) 10)) o fl_X11_395 dX11_erase_35 (gl_10 (gix_lt (Nat.le_trans (hBC 4 0 (by decide)) (by decide)) g1)) rfl rfl ?_
    refine y_if_eq (pc := 38) (tgt := 52) o dX11_erase_38 rfl (fun (b4 : (C.1 (10, 0, a.toNatClampNeg) 10) = 0) => ?_) (fun (b4 : ¬ (C.1 (10, 0, a.toNatClampNeg) 10) = 0) => ?_)
    · refine y_aload_n (pc := 52) o dX11_erase_52 rfl ?_
      refine y_iconst (pc := 53) (x := 1) o dX11_erase_53 (by decide) ?_
      refine z_putC (pc := 54) (K := (10, 0, a.toNatClampNeg)) (fd := 10) (x := 1) o fw_X11_395 dX11_erase_54 (gl_10 (gix_lt (Nat.le_trans (hBC 4 0 (by decide)) (by decide)) g1)) (show (10:Nat) < 20 by decide) rfl (Nat.le_of_ble_eq_true rfl) rfl rfl rfl pC_10_11 (z_refC (show (10:Nat) < 20 by decide) (gl_10 (gix_lt (Nat.le_trans (hBC 4 0 (by decide)) (by decide)) g1)) qC_10_11) ?_
      refine y_aload_n (pc := 57) o dX11_erase_57 rfl ?_
      refine z_get (pc := 58) (K := (10, 0, a.toNatClampNeg)) (v := .int ((gup C (10, 0, a.toNatClampNeg) 10 1).1 (10, 0, a.toNatClampNeg) 3)) o fl_X11_400 dX11_erase_58 (gl_10 (gix_lt (Nat.le_trans (hBC 4 0 (by decide)) (by decide)) g1)) rfl rfl ?_
      refine z_top (congrArg Value.int (gup_vf _ (show (3:Nat) ≠ 10 by decide))) ?_
      exact y_iret (pc := 61) o dX11_erase_61 rfl (vp_nar_int _) (by decide) (by decide) (fun h hp => gQ_mk (by simp only [F_erase, Classical.not_not.mp b2, b3, eq_true b4, g1, not_true_eq_false, not_false_eq_true, if_true, if_false, or_true, true_or, or_false, false_or, and_true, true_and, and_false, false_and, or_self, and_self, eq_self, Bool.false_eq_true, ne_eq, reduceIte]) hp)
    exact y_throwSW (pc := 41) o 61 rfl th_105 qw_400 qw_40 dX11_erase_41 dX11_erase_44 dX11_erase_45 dX11_erase_48 dX11_erase_51 rfl ⟨by decide, Nat.le_of_ble_eq_true rfl⟩ (by decide) (by decide) (fun h hp => gE_mk (k := 3) (by simp only [F_erase, Classical.not_not.mp b2, b3, b4, g1, not_true_eq_false, not_false_eq_true, if_true, if_false, or_true, true_or, or_false, false_or, and_true, true_and, and_false, false_and, or_self, and_self, eq_self, Bool.false_eq_true, ne_eq, reduceIte]) (.tail _ (.tail _ (.head _))) hp)
  exact y_throwSW (pc := 16) o 60 rfl th_79 qw_295 qw_38 dX11_erase_16 dX11_erase_19 dX11_erase_20 dX11_erase_23 dX11_erase_26 rfl ⟨by decide, Nat.le_of_ble_eq_true rfl⟩ (by decide) (by decide) (fun h hp => gE_mk (k := 2) (by simp only [F_erase, b2, g1, not_true_eq_false, not_false_eq_true, if_true, if_false, or_true, true_or, or_false, false_or, and_true, true_and, and_false, false_and, or_self, and_self, eq_self, Bool.false_eq_true, ne_eq, reduceIte]) (.tail _ (.head _)) hp)

theorem p_run {κ : gq_K} {ad : gKey → Nat} {C R : gG} {T : List (Nat × va_E)} (hC : gfix C.2) (hBC : gcnt C.2) (hM : gmach C) (a : Int32) (b : Int32) : gq_C κ mX11_run [.ref (ad (0, 0, 0)), .int (a), .int (b)] (gR κ ad (C, R) T) (gQ κ ad R T (F_run C a b)) (gE κ ad R T [("java/lang/IndexOutOfBoundsException", 1), ("java/lang/IllegalArgumentException", 2)] (F_run C a b)) := by
  refine gq_enter (by decide +kernel) rfl (Nat.le_of_ble_eq_true rfl) rfl (fun f o => ?_)
  refine y_aload_n (pc := 0) o dX11_run_0 rfl ?_
  refine y_iload_n (pc := 1) o dX11_run_1 rfl ?_
  refine z_callV (pc := 2) (k := 0) (n := 0) (k' := 1) (n' := 6) o (b := ad (0, 0, 0)) (As := [.int (a)]) (rest := []) (kRunN hC hBC a) ln_X11_356 dX11_run_2 (z_rc (ci := 15) (K := (0, 0, 0)) rfl (gl_0 hC) rfl) rfl rfl (Nat.le_of_ble_eq_true rfl) ⟨by decide, by decide⟩ ⟨rfl, rfl⟩ ⟨by decide, by decide⟩ rfl (fun x h hE => by obtain ⟨rfl, hz, hr⟩ := hE; exact gE_mk (k := 1) (by simp only [F_run, hz, not_true_eq_false, not_false_eq_true, if_true, if_false, or_true, true_or, or_false, false_or, and_true, true_and, and_false, false_and, or_self, and_self, eq_self, Bool.false_eq_true, ne_eq, reduceIte]) (.head _) hr) (y_and fun (g1 : gix (C.2 10 0) a = true) => ?_)
  refine y_astore_n (pc := 5) (i := 3) (lv' := [(3, .ref (ad (10, 0, a.toNatClampNeg))), (0, .ref (ad (0, 0, 0))), (1, .int (a)), (2, .int (b))]) o dX11_run_5 rfl (by decide) rfl ?_
  refine y_iload_n (pc := 6) o dX11_run_6 rfl ?_
  by_cases b2 : b = 98
  · refine z_tableK (pc := 7) (tgt := 93) (off := 86) o 98 dX11_run_7 b2 (by decide) rfl ?_
    refine y_aload_n (pc := 93) o dX11_run_93 rfl ?_
    refine z_get (pc := 94) (K := (10, 0, a.toNatClampNeg)) (v := .int (C.1 (10, 0, a.toNatClampNeg) 4)) o fl_X11_403 dX11_run_94 (gl_10 (gix_lt (Nat.le_trans (hBC 4 0 (by decide)) (by decide)) g1)) rfl rfl ?_
    exact y_iret (pc := 97) o dX11_run_97 rfl (vp_nar_int _) (by decide) (by decide) (fun h hp => gQ_mk (by simp only [F_run, eq_true b2, g1, not_true_eq_false, not_false_eq_true, if_true, if_false, or_true, true_or, or_false, false_or, and_true, true_and, and_false, false_and, or_self, and_self, eq_self, Bool.false_eq_true, ne_eq, reduceIte]) hp)
  by_cases b3 : b = 99
  · refine z_tableK (pc := 7) (tgt := 98) (off := 91) o 99 dX11_run_7 b3 (by decide) rfl ?_
    refine y_aload_n (pc := 98) o dX11_run_98 rfl ?_
    refine z_get (pc := 99) (K := (10, 0, a.toNatClampNeg)) (v := .int (C.1 (10, 0, a.toNatClampNeg) 7)) o fl_X11_363 dX11_run_99 (gl_10 (gix_lt (Nat.le_trans (hBC 4 0 (by decide)) (by decide)) g1)) rfl rfl ?_
    exact y_iret (pc := 102) o dX11_run_102 rfl (vp_nar_int _) (by decide) (by decide) (fun h hp => gQ_mk (by simp only [F_run, b2, eq_true b3, g1, not_true_eq_false, not_false_eq_true, if_true, if_false, or_true, true_or, or_false, false_or, and_true, true_and, and_false, false_and, or_self, and_self, eq_self, Bool.false_eq_true, ne_eq, reduceIte]) hp)
  by_cases b4 : b = 103
  · refine z_tableK (pc := 7) (tgt := 108) (off := 101) o 103 dX11_run_7 b4 (by decide) rfl ?_
    refine y_aload_n (pc := 108) o dX11_run_108 rfl ?_
    refine z_get (pc := 109) (K := (10, 0, a.toNatClampNeg)) (v := .int (C.1 (10, 0, a.toNatClampNeg) 9)) o fl_X11_390 dX11_run_109 (gl_10 (gix_lt (Nat.le_trans (hBC 4 0 (by decide)) (by decide)) g1)) rfl rfl ?_
    exact y_iret (pc := 112) o dX11_run_112 rfl (vp_nar_int _) (by decide) (by decide) (fun h hp => gQ_mk (by simp only [F_run, b2, b3, eq_true b4, g1, not_true_eq_false, not_false_eq_true, if_true, if_false, or_true, true_or, or_false, false_or, and_true, true_and, and_false, false_and, or_self, and_self, eq_self, Bool.false_eq_true, ne_eq, reduceIte]) hp)
  by_cases b5 : b = 108
  · refine z_tableK (pc := 7) (tgt := 103) (off := 96) o 108 dX11_run_7 b5 (by decide) rfl ?_
    refine y_aload_n (pc := 103) o dX11_run_103 rfl ?_
    refine z_get (pc := 104) (K := (10, 0, a.toNatClampNeg)) (v := .int (C.1 (10, 0, a.toNatClampNeg) 8)) o fl_X11_373 dX11_run_104 (gl_10 (gix_lt (Nat.le_trans (hBC 4 0 (by decide)) (by decide)) g1)) rfl rfl ?_
    exact y_iret (pc := 107) o dX11_run_107 rfl (vp_nar_int _) (by decide) (by decide) (fun h hp => gQ_mk (by simp only [F_run, b2, b3, b4, eq_true b5, g1, not_true_eq_false, not_false_eq_true, if_true, if_false, or_true, true_or, or_false, false_or, and_true, true_and, and_false, false_and, or_self, and_self, eq_self, Bool.false_eq_true, ne_eq, reduceIte]) hp)
  by_cases b6 : b = 110
  · refine z_tableK (pc := 7) (tgt := 88) (off := 81) o 110 dX11_run_7 b6 (by decide) rfl ?_
    refine y_aload_n (pc := 88) o dX11_run_88 rfl ?_
    refine z_get (pc := 89) (K := (10, 0, a.toNatClampNeg)) (v := .int (C.1 (10, 0, a.toNatClampNeg) 3)) o fl_X11_400 dX11_run_89 (gl_10 (gix_lt (Nat.le_trans (hBC 4 0 (by decide)) (by decide)) g1)) rfl rfl ?_
    exact y_iret (pc := 92) o dX11_run_92 rfl (vp_nar_int _) (by decide) (by decide) (fun h hp => gQ_mk (by simp only [F_run, b2, b3, b4, b5, eq_true b6, g1, not_true_eq_false, not_false_eq_true, if_true, if_false, or_true, true_or, or_false, false_or, and_true, true_and, and_false, false_and, or_self, and_self, eq_self, Bool.false_eq_true, ne_eq, reduceIte]) hp)
  by_cases b7 : b = 111
  · refine z_tableK (pc := 7) (tgt := 113) (off := 106) o 111 dX11_run_7 b7 (by decide) rfl ?_
    refine y_aload_n (pc := 113) o dX11_run_113 rfl ?_
    refine z_get (pc := 114) (K := (10, 0, a.toNatClampNeg)) (v := .int (C.1 (10, 0, a.toNatClampNeg) 5)) o fl_X11_406 dX11_run_114 (gl_10 (gix_lt (Nat.le_trans (hBC 4 0 (by decide)) (by decide)) g1)) rfl rfl ?_
    exact y_iret (pc := 117) o dX11_run_117 rfl (vp_nar_int _) (by decide) (by decide) (fun h hp => gQ_mk (by simp only [F_run, b2, b3, b4, b5, b6, eq_true b7, g1, not_true_eq_false, not_false_eq_true, if_true, if_false, or_true, true_or, or_false, false_or, and_true, true_and, and_false, false_and, or_self, and_self, eq_self, Bool.false_eq_true, ne_eq, reduceIte]) hp)
  by_cases b8 : b = 114
  · refine z_tableK (pc := 7) (tgt := 118) (off := 111) o 114 dX11_run_7 b8 (by decide) rfl ?_
    refine y_aload_n (pc := 118) o dX11_run_118 rfl ?_
    refine z_get (pc := 119) (K := (10, 0, a.toNatClampNeg)) (v := .int (C.1 (10, 0, a.toNatClampNeg) 6)) o fl_X11_362 dX11_run_119 (gl_10 (gix_lt (Nat.le_trans (hBC 4 0 (by decide)) (by decide)) g1)) rfl rfl ?_
    exact y_iret (pc := 122) o dX11_run_122 rfl (vp_nar_int _) (by decide) (by decide) (fun h hp => gQ_mk (by simp only [F_run, b2, b3, b4, b5, b6, b7, eq_true b8, g1, not_true_eq_false, not_false_eq_true, if_true, if_false, or_true, true_or, or_false, false_or, and_true, true_and, and_false, false_and, or_self, and_self, eq_self, Bool.false_eq_true, ne_eq, reduceIte]) hp)
  refine z_tableD (pc := 7) (tgt := 123) o [98, 99, 103, 108, 110, 111, 114] dX11_run_7 (by decide) (by decide) (by simp only [List.mem_cons, List.not_mem_nil, or_false, forall_eq_or_imp, forall_eq]; exact ⟨b2, b3, b4, b5, b6, b7, b8⟩) rfl ?_
  exact y_throwSW (pc := 123) o 62 rfl th_79 qw_295 qw_38 dX11_run_123 dX11_run_126 dX11_run_127 dX11_run_130 dX11_run_133 rfl ⟨by decide, Nat.le_of_ble_eq_true rfl⟩ (by decide) (by decide) (fun h hp => gE_mk (k := 2) (by simp only [F_run, b2, b3, b4, b5, b6, b7, b8, g1, not_true_eq_false, not_false_eq_true, if_true, if_false, or_true, true_or, or_false, false_or, and_true, true_and, and_false, false_and, or_self, and_self, eq_self, Bool.false_eq_true, ne_eq, reduceIte]) (.tail _ (.head _)) hp)

theorem p_fall {κ : gq_K} {ad : gKey → Nat} {C R : gG} {T : List (Nat × va_E)} (hC : gfix C.2) (hBC : gcnt C.2) (hM : gmach C) (a : Int32) (b : Int32) : gq_C κ mX11_fall [.ref (ad (0, 0, 0)), .int (a), .int (b)] (gR κ ad (C, R) T) (gQ κ ad R T (F_fall C a b)) (gE κ ad R T [("java/lang/IndexOutOfBoundsException", 1), ("java/lang/IllegalArgumentException", 2)] (F_fall C a b)) := by
  refine gq_enter (by decide +kernel) rfl (Nat.le_of_ble_eq_true rfl) rfl (fun f o => ?_)
  refine z_fact (fun h hr => hr.clC) (fun hcl => ?_)
  refine y_aload_n (pc := 0) o dX11_fall_0 rfl ?_
  refine y_iload_n (pc := 1) o dX11_fall_1 rfl ?_
  refine z_callV (pc := 2) (k := 0) (n := 0) (k' := 1) (n' := 6) o (b := ad (0, 0, 0)) (As := [.int (a)]) (rest := []) (kRunN hC hBC a) ln_X11_356 dX11_fall_2 (z_rc (ci := 15) (K := (0, 0, 0)) rfl (gl_0 hC) rfl) rfl rfl (Nat.le_of_ble_eq_true rfl) ⟨by decide, by decide⟩ ⟨rfl, rfl⟩ ⟨by decide, by decide⟩ rfl (fun x h hE => by obtain ⟨rfl, hz, hr⟩ := hE; exact gE_mk (k := 1) (by simp only [F_fall, hz, not_true_eq_false, not_false_eq_true, if_true, if_false, or_true, true_or, or_false, false_or, and_true, true_and, and_false, false_and, or_self, and_self, eq_self, Bool.false_eq_true, ne_eq, reduceIte]) (.head _) hr) (y_and fun (g1 : gix (C.2 10 0) a = true) => ?_)
  refine y_astore_n (pc := 5) (i := 3) (lv' := [(3, .ref (ad (10, 0, a.toNatClampNeg))), (0, .ref (ad (0, 0, 0))), (1, .int (a)), (2, .int (b))]) o dX11_fall_5 rfl (by decide) rfl ?_
  refine y_iload_n (pc := 6) o dX11_fall_6 rfl ?_
  refine y_iconst (pc := 7) (x := 1) o dX11_fall_7 (by decide) ?_
  refine y_bipush (pc := 8) (x := 9) o dX11_fall_8 (by decide) ?_
  refine z_callS (pc := 10) (k := 1) (n := 6) (k' := 1) (n' := 6) o (As := [.int (b), .int (1), .int (9)]) (rest := []) (kIsOut _ _ _) ln_X11_71 dX11_fall_10 rfl rfl (Nat.le_of_ble_eq_true rfl) ⟨by decide, by decide⟩ ⟨rfl, rfl⟩ ⟨by decide, by decide⟩ rfl gq_nox2 ?_
  refine z_beq (pc := 13) (tgt := 27) o dX11_fall_13 rfl (fun (b2 : ¬ (¬ gin 1 b 9 = true)) => ?_) (fun (b2 : ¬ gin 1 b 9 = true) => ?_)
  · refine y_iconst (pc := 27) (x := 0) o dX11_fall_27 (by decide) ?_
    refine y_bipush (pc := 28) (x := 40) o dX11_fall_28 (by decide) ?_
    refine y_iload_n (pc := 30) o dX11_fall_30 rfl ?_
    refine y_imul (pc := 31) o dX11_fall_31 ?_
    refine y_bipush (pc := 32) (x := 20) o dX11_fall_32 (by decide) ?_
    refine y_aload_n (pc := 34) o dX11_fall_34 rfl ?_
    refine z_get (pc := 35) (K := (10, 0, a.toNatClampNeg)) (v := .int (C.1 (10, 0, a.toNatClampNeg) 5)) o fl_X11_406 dX11_fall_35 (gl_10 (gix_lt (Nat.le_trans (hBC 4 0 (by decide)) (by decide)) g1)) rfl rfl ?_
    refine y_imul (pc := 38) o dX11_fall_38 ?_
    refine y_iadd (pc := 39) o dX11_fall_39 ?_
    refine y_aload_n (pc := 40) o dX11_fall_40 rfl ?_
    refine z_get (pc := 41) (K := (10, 0, a.toNatClampNeg)) (v := .ref (ad (8, 0, (C.1 (10, 0, a.toNatClampNeg) 0).toNatClampNeg))) o fl_X11_381 dX11_fall_41 (gl_10 (gix_lt (Nat.le_trans (hBC 4 0 (by decide)) (by decide)) g1)) rfl rfl ?_
    refine z_get (pc := 44) (K := (8, 0, (C.1 (10, 0, a.toNatClampNeg) 0).toNatClampNeg)) (v := .int (C.1 (8, 0, (C.1 (10, 0, a.toNatClampNeg) 0).toNatClampNeg) 9)) o fl_X11_246 dX11_fall_44 (gl_8 (hcl.2.1 _ (gix_lt (Nat.le_trans (hBC 4 0 (by decide)) (by decide)) g1)).1) rfl rfl ?_
    refine y_isub (pc := 47) o dX11_fall_47 ?_
    refine y_mmax (pc := 48) o qw_603 dX11_fall_48 ⟨by decide, Nat.le_of_ble_eq_true rfl⟩ (by decide) (by decide) ?_
    refine y_istore (pc := 51) (i := 4) (lv' := [(4, .int (gmax 0 (((40 * b) + (20 * (C.1 (10, 0, a.toNatClampNeg) 5))) - (C.1 (8, 0, (C.1 (10, 0, a.toNatClampNeg) 0).toNatClampNeg) 9)))), (3, .ref (ad (10, 0, a.toNatClampNeg))), (0, .ref (ad (0, 0, 0))), (1, .int (a)), (2, .int (b))]) o dX11_fall_51 (by decide) rfl ?_
    refine y_aload_n (pc := 53) o dX11_fall_53 rfl ?_
    refine z_get (pc := 54) (K := (10, 0, a.toNatClampNeg)) (v := .int (C.1 (10, 0, a.toNatClampNeg) 3)) o fl_X11_400 dX11_fall_54 (gl_10 (gix_lt (Nat.le_trans (hBC 4 0 (by decide)) (by decide)) g1)) rfl rfl ?_
    refine y_iload (pc := 57) o dX11_fall_57 rfl ?_
    refine y_imul (pc := 59) o dX11_fall_59 ?_
    refine y_sipush (pc := 60) (x := 400) o dX11_fall_60 (by decide) ?_
    refine y_idiv (pc := 63) o dX11_fall_63 (by decide) ?_
    refine y_aload_n (pc := 64) o dX11_fall_64 rfl ?_
    refine z_get (pc := 65) (K := (10, 0, a.toNatClampNeg)) (v := .int (C.1 (10, 0, a.toNatClampNeg) 3)) o fl_X11_400 dX11_fall_65 (gl_10 (gix_lt (Nat.le_trans (hBC 4 0 (by decide)) (by decide)) g1)) rfl rfl ?_
    refine y_aload_n (pc := 68) o dX11_fall_68 rfl ?_
    refine z_get (pc := 69) (K := (10, 0, a.toNatClampNeg)) (v := .int (C.1 (10, 0, a.toNatClampNeg) 4)) o fl_X11_403 dX11_fall_69 (gl_10 (gix_lt (Nat.le_trans (hBC 4 0 (by decide)) (by decide)) g1)) rfl rfl ?_
    refine y_isub (pc := 72) o dX11_fall_72 ?_
    refine y_mmin (pc := 73) o qw_602 dX11_fall_73 ⟨by decide, Nat.le_of_ble_eq_true rfl⟩ (by decide) (by decide) ?_
    refine y_istore (pc := 76) (i := 5) (lv' := [(5, .int (gmin (((C.1 (10, 0, a.toNatClampNeg) 3) * (gmax 0 (((40 * b) + (20 * (C.1 (10, 0, a.toNatClampNeg) 5))) - (C.1 (8, 0, (C.1 (10, 0, a.toNatClampNeg) 0).toNatClampNeg) 9)))) / 400) ((C.1 (10, 0, a.toNatClampNeg) 3) - (C.1 (10, 0, a.toNatClampNeg) 4)))), (4, .int (gmax 0 (((40 * b) + (20 * (C.1 (10, 0, a.toNatClampNeg) 5))) - (C.1 (8, 0, (C.1 (10, 0, a.toNatClampNeg) 0).toNatClampNeg) 9)))), (3, .ref (ad (10, 0, a.toNatClampNeg))), (0, .ref (ad (0, 0, 0))), (1, .int (a)), (2, .int (b))]) o dX11_fall_76 (by decide) rfl ?_
    refine y_aload_n (pc := 78) o dX11_fall_78 rfl ?_
    refine y_dup (pc := 79) o dX11_fall_79 rfl ?_
    refine z_get (pc := 80) (K := (10, 0, a.toNatClampNeg)) (v := .int (C.1 (10, 0, a.toNatClampNeg) 4)) o fl_X11_403 dX11_fall_80 (gl_10 (gix_lt (Nat.le_trans (hBC 4 0 (by decide)) (by decide)) g1)) rfl rfl ?_
    refine y_iload (pc := 83) o dX11_fall_83 rfl ?_
    refine y_iadd (pc := 85) o dX11_fall_85 ?_
    refine z_putC (pc := 86) (K := (10, 0, a.toNatClampNeg)) (fd := 4) (x := (C.1 (10, 0, a.toNatClampNeg) 4) + (gmin (((C.1 (10, 0, a.toNatClampNeg) 3) * (gmax 0 (((40 * b) + (20 * (C.1 (10, 0, a.toNatClampNeg) 5))) - (C.1 (8, 0, (C.1 (10, 0, a.toNatClampNeg) 0).toNatClampNeg) 9)))) / 400) ((C.1 (10, 0, a.toNatClampNeg) 3) - (C.1 (10, 0, a.toNatClampNeg) 4)))) o fw_X11_403 dX11_fall_86 (gl_10 (gix_lt (Nat.le_trans (hBC 4 0 (by decide)) (by decide)) g1)) (show (10:Nat) < 20 by decide) rfl (Nat.le_of_ble_eq_true rfl) (vp_nar_int _) rfl rfl pC_10_6 (z_refC (show (10:Nat) < 20 by decide) (gl_10 (gix_lt (Nat.le_trans (hBC 4 0 (by decide)) (by decide)) g1)) qC_10_6) ?_
    refine y_iload (pc := 89) o dX11_fall_89 rfl ?_
    exact y_iret (pc := 91) o dX11_fall_91 rfl (vp_nar_int _) (by decide) (by decide) (fun h hp => gQ_mk (by simp only [F_fall, Classical.not_not.mp b2, g1, not_true_eq_false, not_false_eq_true, if_true, if_false, or_true, true_or, or_false, false_or, and_true, true_and, and_false, false_and, or_self, and_self, eq_self, Bool.false_eq_true, ne_eq, reduceIte]) hp)
  exact y_throwSW (pc := 16) o 63 rfl th_79 qw_295 qw_38 dX11_fall_16 dX11_fall_19 dX11_fall_20 dX11_fall_23 dX11_fall_26 rfl ⟨by decide, Nat.le_of_ble_eq_true rfl⟩ (by decide) (by decide) (fun h hp => gE_mk (k := 2) (by simp only [F_fall, b2, g1, not_true_eq_false, not_false_eq_true, if_true, if_false, or_true, true_or, or_false, false_or, and_true, true_and, and_false, false_and, or_self, and_self, eq_self, Bool.false_eq_true, ne_eq, reduceIte]) (.tail _ (.head _)) hp)

theorem p_seed {κ : gq_K} {ad : gKey → Nat} {C R : gG} {T : List (Nat × va_E)} (hC : gfix C.2) (hBC : gcnt C.2) (hM : gmach C) (a : Int32) : gq_C κ mX11_seed [.ref (ad (0, 0, 0)), .int (a)] (gR κ ad (C, R) T) (gQ κ ad R T (F_seed C a)) (gE κ ad R T [("java/lang/IllegalArgumentException", 1)] (F_seed C a)) := by
  refine gq_enter (by decide +kernel) rfl (Nat.le_of_ble_eq_true rfl) rfl (fun f o => ?_)
  refine y_iload_n (pc := 0) o dX11_seed_0 rfl ?_
  refine y_iconst (pc := 1) (x := 1) o dX11_seed_1 (by decide) ?_
  refine y_ldcw (pc := 2) o dX11_seed_2 qw_1010 ?_
  refine z_callS (pc := 5) (k := 0) (n := 0) (k' := 0) (n' := 0) o (As := [.int (a), .int (1), .int (2147483646)]) (rest := []) (kIsOut _ _ _) ln_X11_71 dX11_seed_5 rfl rfl (Nat.le_of_ble_eq_true rfl) ⟨by decide, by decide⟩ ⟨rfl, rfl⟩ ⟨by decide, by decide⟩ rfl gq_nox2 ?_
  refine z_beq (pc := 8) (tgt := 22) o dX11_seed_8 rfl (fun (b1 : ¬ (¬ gin 1 a 2147483646 = true)) => ?_) (fun (b1 : ¬ gin 1 a 2147483646 = true) => ?_)
  · refine y_aload_n (pc := 22) o dX11_seed_22 rfl ?_
    refine z_get (pc := 23) (K := (0, 0, 0)) (v := .int (C.1 (0, 0, 0) 2)) o fl_X11_62 dX11_seed_23 (gl_0 hC) rfl rfl ?_
    refine y_istore_n (pc := 26) (i := 2) (lv' := [(2, .int (C.1 (0, 0, 0) 2)), (0, .ref (ad (0, 0, 0))), (1, .int (a))]) o dX11_seed_26 rfl (by decide) rfl ?_
    refine y_aload_n (pc := 27) o dX11_seed_27 rfl ?_
    refine y_iload_n (pc := 28) o dX11_seed_28 rfl ?_
    refine z_putC (pc := 29) (K := (0, 0, 0)) (fd := 2) (x := a) o fw_X11_62 dX11_seed_29 (gl_0 hC) (show (0:Nat) < 20 by decide) rfl (Nat.le_of_ble_eq_true rfl) (vp_nar_int _) rfl rfl pC_0_13 (z_refC (show (0:Nat) < 20 by decide) (gl_0 hC) qC_0_13) ?_
    refine y_iload_n (pc := 32) o dX11_seed_32 rfl ?_
    exact y_iret (pc := 33) o dX11_seed_33 rfl (vp_nar_int _) (by decide) (by decide) (fun h hp => gQ_mk (by simp only [F_seed, Classical.not_not.mp b1, not_true_eq_false, not_false_eq_true, if_true, if_false, or_true, true_or, or_false, false_or, and_true, true_and, and_false, false_and, or_self, and_self, eq_self, Bool.false_eq_true, ne_eq, reduceIte]) hp)
  exact y_throwSW (pc := 11) o 66 rfl th_79 qw_295 qw_38 dX11_seed_11 dX11_seed_14 dX11_seed_15 dX11_seed_18 dX11_seed_21 rfl ⟨by decide, Nat.le_of_ble_eq_true rfl⟩ (by decide) (by decide) (fun h hp => gE_mk (k := 1) (by simp only [F_seed, b1, not_true_eq_false, not_false_eq_true, if_true, if_false, or_true, true_or, or_false, false_or, and_true, true_and, and_false, false_and, or_self, and_self, eq_self, Bool.false_eq_true, ne_eq, reduceIte]) (.head _) hp)

theorem p_order {κ : gq_K} {ad : gKey → Nat} {C R : gG} {T : List (Nat × va_E)} (hC : gfix C.2) (hBC : gcnt C.2) (hM : gmach C) (a : Int32) (b : Int32) (c : Int32) : gq_C κ mX11_order [.ref (ad (0, 0, 0)), .int (a), .int (b), .int (c)] (gR κ ad (C, R) T) (gQ κ ad R T (F_order C a b c)) (gE κ ad R T [("java/lang/IllegalArgumentException", 1), ("java/lang/IllegalStateException", 2)] (F_order C a b c)) := by
  refine gq_enter (by decide +kernel) rfl (Nat.le_of_ble_eq_true rfl) rfl (fun f o => ?_)
  refine y_iload_n (pc := 0) o dX11_order_0 rfl ?_
  refine y_iconst (pc := 1) (x := 0) o dX11_order_1 (by decide) ?_
  refine y_bipush (pc := 2) (x := 19) o dX11_order_2 (by decide) ?_
  refine z_callS (pc := 4) (k := 0) (n := 0) (k' := 0) (n' := 0) o (As := [.int (a), .int (0), .int (19)]) (rest := []) (kIsOut _ _ _) ln_X11_71 dX11_order_4 rfl rfl (Nat.le_of_ble_eq_true rfl) ⟨by decide, by decide⟩ ⟨rfl, rfl⟩ ⟨by decide, by decide⟩ rfl gq_nox2 ?_
  refine z_bne (pc := 7) (tgt := 31) o dX11_order_7 rfl (fun (b1 : ¬ gin 0 a 19 = true) => ?_) (fun (b1 : ¬ (¬ gin 0 a 19 = true)) => ?_)
  · exact y_throwSW (pc := 31) o 73 rfl th_79 qw_295 qw_38 dX11_order_31 dX11_order_34 dX11_order_35 dX11_order_38 dX11_order_41 rfl ⟨by decide, Nat.le_of_ble_eq_true rfl⟩ (by decide) (by decide) (fun h hp => gE_mk (k := 1) (by simp only [F_order, b1, not_true_eq_false, not_false_eq_true, if_true, if_false, or_true, true_or, or_false, false_or, and_true, true_and, and_false, false_and, or_self, and_self, eq_self, Bool.false_eq_true, ne_eq, reduceIte]) (.head _) hp)
  refine y_iload_n (pc := 10) o dX11_order_10 rfl ?_
  refine y_iconst (pc := 11) (x := 1) o dX11_order_11 (by decide) ?_
  refine y_bipush (pc := 12) (x := 9) o dX11_order_12 (by decide) ?_
  refine z_callS (pc := 14) (k := 0) (n := 0) (k' := 0) (n' := 0) o (As := [.int (b), .int (1), .int (9)]) (rest := []) (kIsOut _ _ _) ln_X11_71 dX11_order_14 rfl rfl (Nat.le_of_ble_eq_true rfl) ⟨by decide, by decide⟩ ⟨rfl, rfl⟩ ⟨by decide, by decide⟩ rfl gq_nox2 ?_
  refine z_bne (pc := 17) (tgt := 31) o dX11_order_17 rfl (fun (b2 : ¬ gin 1 b 9 = true) => ?_) (fun (b2 : ¬ (¬ gin 1 b 9 = true)) => ?_)
  · exact y_throwSW (pc := 31) o 73 rfl th_79 qw_295 qw_38 dX11_order_31 dX11_order_34 dX11_order_35 dX11_order_38 dX11_order_41 rfl ⟨by decide, Nat.le_of_ble_eq_true rfl⟩ (by decide) (by decide) (fun h hp => gE_mk (k := 1) (by simp only [F_order, Classical.not_not.mp b1, b2, not_true_eq_false, not_false_eq_true, if_true, if_false, or_true, true_or, or_false, false_or, and_true, true_and, and_false, false_and, or_self, and_self, eq_self, Bool.false_eq_true, ne_eq, reduceIte]) (.head _) hp)
  refine y_iload_n (pc := 20) o dX11_order_20 rfl ?_
  refine y_iconst (pc := 21) (x := 0) o dX11_order_21 (by decide) ?_
  refine y_sipush (pc := 22) (x := 9999) o dX11_order_22 (by decide) ?_
  refine z_callS (pc := 25) (k := 0) (n := 0) (k' := 0) (n' := 0) o (As := [.int (c), .int (0), .int (9999)]) (rest := []) (kIsOut _ _ _) ln_X11_71 dX11_order_25 rfl rfl (Nat.le_of_ble_eq_true rfl) ⟨by decide, by decide⟩ ⟨rfl, rfl⟩ ⟨by decide, by decide⟩ rfl gq_nox2 ?_
  refine z_beq (pc := 28) (tgt := 42) o dX11_order_28 rfl (fun (b3 : ¬ (¬ gin 0 c 9999 = true)) => ?_) (fun (b3 : ¬ gin 0 c 9999 = true) => ?_)
  · refine y_iload_n (pc := 42) o dX11_order_42 rfl ?_
    refine y_aload_n (pc := 43) o dX11_order_43 rfl ?_
    refine z_get (pc := 44) (K := (0, 0, 0)) (v := .int (C.1 (0, 0, 0) 0)) o fl_X11_55 dX11_order_44 (gl_0 hC) rfl rfl ?_
    refine z_icmp_ge (pc := 47) (tgt := 61) o dX11_order_47 rfl (fun (b4 : ¬ c < (C.1 (0, 0, 0) 0)) => ?_) (fun (b4 : c < (C.1 (0, 0, 0) 0)) => ?_)
    · refine y_aload_n (pc := 61) o dX11_order_61 rfl ?_
      refine z_get (pc := 62) (K := (0, 0, 0)) (v := .ref (ad (4, 6, 0))) o fl_X11_45 dX11_order_62 (gl_0 hC) rfl rfl ?_
      refine z_callV (pc := 65) (k := 0) (n := 0) (k' := 0) (n' := 0) o (b := ad (4, 6, 0)) (As := []) (rest := []) (sizeC (l := 6) (g := 0) (gl_4_6 hC)) ln_X11_127 dX11_order_65 (z_rc (ci := 3) (K := (4, 6, 0)) rfl (gl_4_6 hC) rfl) rfl rfl (Nat.le_of_ble_eq_true rfl) ⟨by decide, by decide⟩ ⟨rfl, rfl⟩ ⟨by decide, by decide⟩ rfl gq_nox2 ?_
      refine y_bipush (pc := 68) (x := 12) o dX11_order_68 (by decide) ?_
      refine y_icmp_lt (pc := 70) (tgt := 84) o dX11_order_70 rfl (fun (b5 : (Int32.ofNat (C.2 12 0)) < 12) => ?_) (fun (b5 : ¬ (Int32.ofNat (C.2 12 0)) < 12) => ?_)
      · refine y_aload_n (pc := 84) o dX11_order_84 rfl ?_
        refine z_get (pc := 85) (K := (0, 0, 0)) (v := .ref (ad (4, 6, 0))) o fl_X11_45 dX11_order_85 (gl_0 hC) rfl rfl ?_
        refine z_new (pc := 88) (k := 0) (n := 0) o nw_X11_469 dX11_order_88 (by decide) (by decide) (fun q6 => ?_)
        refine y_dup (pc := 91) o dX11_order_91 rfl ?_
        refine y_iload_n (pc := 92) o dX11_order_92 rfl ?_
        refine y_iload_n (pc := 93) o dX11_order_93 rfl ?_
        refine y_iload_n (pc := 94) o dX11_order_94 rfl ?_
        refine z_callI (pc := 95) (k := 1) (n := 4) (k' := 1) (n' := 4) o (b := q6) (As := [.int (a), .int (b), .int (c)]) (rest := [.ref (q6), .ref (ad (4, 6, 0))]) (kX6_init _ (a) (b) (c)) ln_X11_471 dX11_order_95 rfl rfl (Nat.le_of_ble_eq_true rfl) ⟨by decide, by decide⟩ ⟨rfl, rfl⟩ ⟨by decide, by decide⟩ ?_
        refine y_callV (pc := 98) (k := 1) (n := 4) o (b := ad (4, 6, 0)) (As := [.ref q6]) (rest := []) (addCa (C := C) (R := R) (l := 6) (g := 0) (n := C.2 12 0) (row := (glist [a, b, c, 0])) (a := 12) rfl (gl_4_6 hC) (Or.inr rfl) rfl (hBC 6 0 (by decide)) nC_12 (fun K hK => by cases hK)) ln_X11_138 dX11_order_98 (z_rc (ci := 3) (K := (4, 6, 0)) rfl (gl_4_6 hC) rfl) rfl rfl (Nat.le_of_ble_eq_true rfl) ⟨by decide, by decide⟩ ⟨by decide, by decide⟩ (fun _ e => e) rfl gq_nox2 (fun v => y_and fun ev => y_ex fun ad7 => y_and fun had => y_and fun hadq => ?_)
        subst ev
        have e0 : ad7 (0, 0, 0) = ad (0, 0, 0) := had (0, 0, 0) (by simp) (by simp)
        have e20 : ad7 (20, 0, 0) = ad (20, 0, 0) := had (20, 0, 0) (by simp) (by simp)
        refine z_st (st' := [.int (1)]) rfl ?_
        rw [← e0]
        refine y_pop (pc := 101) o dX11_order_101 rfl ?_
        refine y_aload_n (pc := 102) o dX11_order_102 rfl ?_
        refine z_get (pc := 103) (K := (0, 0, 0)) (v := .ref (ad7 (4, 6, 0))) o fl_X11_45 dX11_order_103 (gl_0 (gfix_new (a := 12) (by decide) hC)) rfl rfl ?_
        refine z_callV (pc := 106) (k := 2) (n := 260) (k' := 2) (n' := 260) o (b := ad7 (4, 6, 0)) (As := []) (rest := []) (sizeC (l := 6) (g := 0) (gl_4_6 (gfix_new (a := 12) (by decide) hC))) ln_X11_127 dX11_order_106 (z_rc (ci := 3) (K := (4, 6, 0)) rfl (gl_4_6 (gfix_new (a := 12) (by decide) hC)) rfl) rfl rfl (Nat.le_of_ble_eq_true rfl) ⟨by decide, by decide⟩ ⟨rfl, rfl⟩ ⟨by decide, by decide⟩ rfl gq_nox2 ?_
        refine z_top (w := .int (Int32.ofNat (C.2 12 0 + 1))) (congrArg (fun z => Value.int (Int32.ofNat z)) (gnew_n _ _)) ?_
        refine y_iconst (pc := 109) (x := 1) o dX11_order_109 (by decide) ?_
        refine y_isub (pc := 110) o dX11_order_110 ?_
        exact y_iret (pc := 111) o dX11_order_111 rfl (vp_nar_int _) (by decide) (by decide) (fun h hp => gQ_mk2 (by simp only [F_order, Classical.not_not.mp b1, Classical.not_not.mp b2, Classical.not_not.mp b3, b4, b5, not_true_eq_false, not_false_eq_true, if_true, if_false, or_true, true_or, or_false, false_or, and_true, true_and, and_false, false_and, or_self, and_self, eq_self, Bool.false_eq_true, ne_eq, reduceIte]) e0 e20 hp)
      exact y_throwSW (pc := 73) o 75 rfl th_86 qw_366 qw_39 dX11_order_73 dX11_order_76 dX11_order_77 dX11_order_80 dX11_order_83 rfl ⟨by decide, Nat.le_of_ble_eq_true rfl⟩ (by decide) (by decide) (fun h hp => gE_mk (k := 2) (by simp only [F_order, Classical.not_not.mp b1, Classical.not_not.mp b2, Classical.not_not.mp b3, b4, b5, not_true_eq_false, not_false_eq_true, if_true, if_false, or_true, true_or, or_false, false_or, and_true, true_and, and_false, false_and, or_self, and_self, eq_self, Bool.false_eq_true, ne_eq, reduceIte]) (.tail _ (.head _)) hp)
    exact y_throwSW (pc := 50) o 74 rfl th_79 qw_295 qw_38 dX11_order_50 dX11_order_53 dX11_order_54 dX11_order_57 dX11_order_60 rfl ⟨by decide, Nat.le_of_ble_eq_true rfl⟩ (by decide) (by decide) (fun h hp => gE_mk (k := 1) (by simp only [F_order, Classical.not_not.mp b1, Classical.not_not.mp b2, Classical.not_not.mp b3, b4, not_true_eq_false, not_false_eq_true, if_true, if_false, or_true, true_or, or_false, false_or, and_true, true_and, and_false, false_and, or_self, and_self, eq_self, Bool.false_eq_true, ne_eq, reduceIte]) (.head _) hp)
  exact y_throwSW (pc := 31) o 73 rfl th_79 qw_295 qw_38 dX11_order_31 dX11_order_34 dX11_order_35 dX11_order_38 dX11_order_41 rfl ⟨by decide, Nat.le_of_ble_eq_true rfl⟩ (by decide) (by decide) (fun h hp => gE_mk (k := 1) (by simp only [F_order, Classical.not_not.mp b1, Classical.not_not.mp b2, b3, not_true_eq_false, not_false_eq_true, if_true, if_false, or_true, true_or, or_false, false_or, and_true, true_and, and_false, false_and, or_self, and_self, eq_self, Bool.false_eq_true, ne_eq, reduceIte]) (.head _) hp)

theorem p_ship {κ : gq_K} {ad : gKey → Nat} {C R : gG} {T : List (Nat × va_E)} (hC : gfix C.2) (hBC : gcnt C.2) (hM : gmach C) (a : Int32) (b : Int32) : gq_C κ mX11_ship [.ref (ad (0, 0, 0)), .int (a), .int (b)] (gR κ ad (C, R) T) (gQ κ ad R T (F_ship C a b)) (gE κ ad R T [("java/lang/IndexOutOfBoundsException", 1), ("java/lang/UnsupportedOperationException", 2)] (F_ship C a b)) := by
  refine gq_enter (by decide +kernel) rfl (Nat.le_of_ble_eq_true rfl) rfl (fun f o => ?_)
  refine y_aload_n (pc := 0) o dX11_ship_0 rfl ?_
  refine y_iload_n (pc := 1) o dX11_ship_1 rfl ?_
  refine z_callV (pc := 2) (k := 0) (n := 0) (k' := 1) (n' := 6) o (b := ad (0, 0, 0)) (As := [.int (a)]) (rest := []) (kOrdN hC hBC a) ln_X11_474 dX11_ship_2 (z_rc (ci := 15) (K := (0, 0, 0)) rfl (gl_0 hC) rfl) rfl rfl (Nat.le_of_ble_eq_true rfl) ⟨by decide, by decide⟩ ⟨rfl, rfl⟩ ⟨by decide, by decide⟩ rfl (fun x h hE => by obtain ⟨rfl, hz, hr⟩ := hE; exact gE_mk (k := 1) (by simp only [F_ship, hz, not_true_eq_false, not_false_eq_true, if_true, if_false, or_true, true_or, or_false, false_or, and_true, true_and, and_false, false_and, or_self, and_self, eq_self, Bool.false_eq_true, ne_eq, reduceIte]) (.head _) hr) (y_and fun (g1 : gix (C.2 12 0) a = true) => ?_)
  refine y_astore_n (pc := 5) (i := 3) (lv' := [(3, .ref (ad (12, 0, a.toNatClampNeg))), (0, .ref (ad (0, 0, 0))), (1, .int (a)), (2, .int (b))]) o dX11_ship_5 rfl (by decide) rfl ?_
  refine y_aload_n (pc := 6) o dX11_ship_6 rfl ?_
  refine y_iload_n (pc := 7) o dX11_ship_7 rfl ?_
  refine z_callV (pc := 8) (k := 1) (n := 6) (k' := 2) (n' := 12) o (b := ad (0, 0, 0)) (As := [.int (b)]) (rest := []) (kGroN hC hBC b) ln_X11_436 dX11_ship_8 (z_rc (ci := 15) (K := (0, 0, 0)) rfl (gl_0 hC) rfl) rfl rfl (Nat.le_of_ble_eq_true rfl) ⟨by decide, by decide⟩ ⟨rfl, rfl⟩ ⟨by decide, by decide⟩ rfl (fun x h hE => by obtain ⟨rfl, hz, hr⟩ := hE; exact gE_mk (k := 1) (by simp only [F_ship, g1, hz, not_true_eq_false, not_false_eq_true, if_true, if_false, or_true, true_or, or_false, false_or, and_true, true_and, and_false, false_and, or_self, and_self, eq_self, Bool.false_eq_true, ne_eq, reduceIte]) (.head _) hr) (y_and fun (g2 : gix (C.2 11 0) b = true) => ?_)
  refine y_astore (pc := 11) (i := 4) (lv' := [(4, .ref (ad (11, 0, b.toNatClampNeg))), (3, .ref (ad (12, 0, a.toNatClampNeg))), (0, .ref (ad (0, 0, 0))), (1, .int (a)), (2, .int (b))]) o dX11_ship_11 (by decide) rfl ?_
  refine y_aload (pc := 13) o dX11_ship_13 rfl ?_
  refine z_get (pc := 15) (K := (11, 0, b.toNatClampNeg)) (v := .int (C.1 (11, 0, b.toNatClampNeg) 1)) o fl_X11_447 dX11_ship_15 (gl_11 (gix_lt (Nat.le_trans (hBC 5 0 (by decide)) (by decide)) g2)) rfl rfl ?_
  refine y_sipush (pc := 18) (x := 144) o dX11_ship_18 (by decide) ?_
  refine y_icmp_lt (pc := 21) (tgt := 44) o dX11_ship_21 rfl (fun (b3 : (C.1 (11, 0, b.toNatClampNeg) 1) < 144) => ?_) (fun (b3 : ¬ (C.1 (11, 0, b.toNatClampNeg) 1) < 144) => ?_)
  · exact y_throwSW (pc := 44) o 77 rfl th_105 qw_400 qw_40 dX11_ship_44 dX11_ship_47 dX11_ship_48 dX11_ship_51 dX11_ship_54 rfl ⟨by decide, Nat.le_of_ble_eq_true rfl⟩ (by decide) (by decide) (fun h hp => gE_mk (k := 2) (by simp only [F_ship, b3, g1, g2, not_true_eq_false, not_false_eq_true, if_true, if_false, or_true, true_or, or_false, false_or, and_true, true_and, and_false, false_and, or_self, and_self, eq_self, Bool.false_eq_true, ne_eq, reduceIte]) (.tail _ (.head _)) hp)
  refine y_aload (pc := 24) o dX11_ship_24 rfl ?_
  refine z_get (pc := 26) (K := (11, 0, b.toNatClampNeg)) (v := .int (C.1 (11, 0, b.toNatClampNeg) 0)) o fl_X11_442 dX11_ship_26 (gl_11 (gix_lt (Nat.le_trans (hBC 5 0 (by decide)) (by decide)) g2)) rfl rfl ?_
  refine y_aload_n (pc := 29) o dX11_ship_29 rfl ?_
  refine z_get (pc := 30) (K := (12, 0, a.toNatClampNeg)) (v := .int (C.1 (12, 0, a.toNatClampNeg) 0)) o fl_X11_478 dX11_ship_30 (gl_12 (gix_lt (Nat.le_trans (hBC 6 0 (by decide)) (by decide)) g1)) rfl rfl ?_
  refine y_icmp_ne (pc := 33) (tgt := 44) o dX11_ship_33 rfl (fun (b4 : ¬ (C.1 (11, 0, b.toNatClampNeg) 0) = (C.1 (12, 0, a.toNatClampNeg) 0)) => ?_) (fun (b4 : (C.1 (11, 0, b.toNatClampNeg) 0) = (C.1 (12, 0, a.toNatClampNeg) 0)) => ?_)
  · exact y_throwSW (pc := 44) o 77 rfl th_105 qw_400 qw_40 dX11_ship_44 dX11_ship_47 dX11_ship_48 dX11_ship_51 dX11_ship_54 rfl ⟨by decide, Nat.le_of_ble_eq_true rfl⟩ (by decide) (by decide) (fun h hp => gE_mk (k := 2) (by simp only [F_ship, b3, b4, g1, g2, not_true_eq_false, not_false_eq_true, if_true, if_false, or_true, true_or, or_false, false_or, and_true, true_and, and_false, false_and, or_self, and_self, eq_self, Bool.false_eq_true, ne_eq, reduceIte]) (.tail _ (.head _)) hp)
  refine y_aload (pc := 36) o dX11_ship_36 rfl ?_
  refine z_get (pc := 38) (K := (11, 0, b.toNatClampNeg)) (v := .int (C.1 (11, 0, b.toNatClampNeg) 2)) o fl_X11_448 dX11_ship_38 (gl_11 (gix_lt (Nat.le_trans (hBC 5 0 (by decide)) (by decide)) g2)) rfl rfl ?_
  refine y_if_eq (pc := 41) (tgt := 55) o dX11_ship_41 rfl (fun (b5 : (C.1 (11, 0, b.toNatClampNeg) 2) = 0) => ?_) (fun (b5 : ¬ (C.1 (11, 0, b.toNatClampNeg) 2) = 0) => ?_)
  · refine y_aload_n (pc := 55) o dX11_ship_55 rfl ?_
    refine z_get (pc := 56) (K := (12, 0, a.toNatClampNeg)) (v := .int (C.1 (12, 0, a.toNatClampNeg) 1)) o fl_X11_481 dX11_ship_56 (gl_12 (gix_lt (Nat.le_trans (hBC 6 0 (by decide)) (by decide)) g1)) rfl rfl ?_
    refine y_iconst (pc := 59) (x := 1) o dX11_ship_59 (by decide) ?_
    refine z_icmp_ge (pc := 60) (tgt := 74) o dX11_ship_60 rfl (fun (b6 : ¬ (C.1 (12, 0, a.toNatClampNeg) 1) < 1) => ?_) (fun (b6 : (C.1 (12, 0, a.toNatClampNeg) 1) < 1) => ?_)
    · refine y_aload (pc := 74) o dX11_ship_74 rfl ?_
      refine y_iconst (pc := 76) (x := 1) o dX11_ship_76 (by decide) ?_
      refine z_putC (pc := 77) (K := (11, 0, b.toNatClampNeg)) (fd := 2) (x := 1) o fw_X11_448 dX11_ship_77 (gl_11 (gix_lt (Nat.le_trans (hBC 5 0 (by decide)) (by decide)) g2)) (show (11:Nat) < 20 by decide) rfl (Nat.le_of_ble_eq_true rfl) rfl rfl rfl pC_11_3 (z_refC (show (11:Nat) < 20 by decide) (gl_11 (gix_lt (Nat.le_trans (hBC 5 0 (by decide)) (by decide)) g2)) qC_11_3) ?_
      refine y_aload_n (pc := 80) o dX11_ship_80 rfl ?_
      refine y_dup (pc := 81) o dX11_ship_81 rfl ?_
      refine z_get (pc := 82) (K := (12, 0, a.toNatClampNeg)) (v := .int ((gup C (11, 0, b.toNatClampNeg) 2 1).1 (12, 0, a.toNatClampNeg) 1)) o fl_X11_481 dX11_ship_82 (gl_12 (gix_lt (Nat.le_trans (hBC 6 0 (by decide)) (by decide)) g1)) rfl rfl ?_
      refine z_top (congrArg Value.int (gup_ff _ (show (1:Nat) ≠ 2 by decide))) ?_
      refine y_iconst (pc := 85) (x := 1) o dX11_ship_85 (by decide) ?_
      refine y_isub (pc := 86) o dX11_ship_86 ?_
      refine z_putC (pc := 87) (K := (12, 0, a.toNatClampNeg)) (fd := 1) (x := (C.1 (12, 0, a.toNatClampNeg) 1) - 1) o fw_X11_481 dX11_ship_87 (gl_12 (gix_lt (Nat.le_trans (hBC 6 0 (by decide)) (by decide)) g1)) (show (12:Nat) < 20 by decide) rfl (Nat.le_of_ble_eq_true rfl) (vp_nar_int _) rfl rfl pC_12_2 (z_refC (show (12:Nat) < 20 by decide) (gl_12 (gix_lt (Nat.le_trans (hBC 6 0 (by decide)) (by decide)) g1)) qC_12_2) ?_
      refine y_aload_n (pc := 90) o dX11_ship_90 rfl ?_
      refine z_get (pc := 91) (K := (0, 0, 0)) (v := .int ((gup (gup C (11, 0, b.toNatClampNeg) 2 1) (12, 0, a.toNatClampNeg) 1 ((C.1 (12, 0, a.toNatClampNeg) 1) - 1)).1 (0, 0, 0) 0)) o fl_X11_55 dX11_ship_91 (gl_0 hC) rfl rfl ?_
      refine z_top (congrArg Value.int (Eq.trans (gup_ff _ (show (0:Nat) ≠ 1 by decide)) (gup_ff _ (show (0:Nat) ≠ 2 by decide)))) ?_
      refine y_aload_n (pc := 94) o dX11_ship_94 rfl ?_
      refine z_get (pc := 95) (K := (12, 0, a.toNatClampNeg)) (v := .int ((gup (gup C (11, 0, b.toNatClampNeg) 2 1) (12, 0, a.toNatClampNeg) 1 ((C.1 (12, 0, a.toNatClampNeg) 1) - 1)).1 (12, 0, a.toNatClampNeg) 2)) o fl_X11_486 dX11_ship_95 (gl_12 (gix_lt (Nat.le_trans (hBC 6 0 (by decide)) (by decide)) g1)) rfl rfl ?_
      refine z_top (congrArg Value.int (Eq.trans (gup_vf _ (show (2:Nat) ≠ 1 by decide)) (gup_vc _ (show (12:Nat) ≠ 11 by decide)))) ?_
      refine z_icmp_le (pc := 98) (tgt := 106) o dX11_ship_98 rfl (fun (b7 : ¬ (C.1 (12, 0, a.toNatClampNeg) 2) < (C.1 (0, 0, 0) 0)) => ?_) (fun (b7 : (C.1 (12, 0, a.toNatClampNeg) 2) < (C.1 (0, 0, 0) 0)) => ?_)
      · refine y_aload_n (pc := 106) o dX11_ship_106 rfl ?_
        refine z_get (pc := 107) (K := (12, 0, a.toNatClampNeg)) (v := .int ((gup (gup C (11, 0, b.toNatClampNeg) 2 1) (12, 0, a.toNatClampNeg) 1 ((C.1 (12, 0, a.toNatClampNeg) 1) - 1)).1 (12, 0, a.toNatClampNeg) 1)) o fl_X11_481 dX11_ship_107 (gl_12 (gix_lt (Nat.le_trans (hBC 6 0 (by decide)) (by decide)) g1)) rfl rfl ?_
        refine z_top (congrArg Value.int (gup_v _ _ _ _)) ?_
        exact y_iret (pc := 110) o dX11_ship_110 rfl (vp_nar_int _) (by decide) (by decide) (fun h hp => gQ_mk (by simp only [F_ship, b3, b4, eq_true b5, b6, b7, g1, g2, not_true_eq_false, not_false_eq_true, if_true, if_false, or_true, true_or, or_false, false_or, and_true, true_and, and_false, false_and, or_self, and_self, eq_self, Bool.false_eq_true, ne_eq, reduceIte]) hp)
      refine y_aload_n (pc := 101) o dX11_ship_101 rfl ?_
      refine y_iconst (pc := 102) (x := 1) o dX11_ship_102 (by decide) ?_
      refine z_putC (pc := 103) (K := (12, 0, a.toNatClampNeg)) (fd := 3) (x := 1) o fw_X11_489 dX11_ship_103 (gl_12 (gix_lt (Nat.le_trans (hBC 6 0 (by decide)) (by decide)) g1)) (show (12:Nat) < 20 by decide) rfl (Nat.le_of_ble_eq_true rfl) rfl rfl rfl pC_12_3 (z_refC (show (12:Nat) < 20 by decide) (gl_12 (gix_lt (Nat.le_trans (hBC 6 0 (by decide)) (by decide)) g1)) qC_12_3) ?_
      refine y_aload_n (pc := 106) o dX11_ship_106 rfl ?_
      refine z_get (pc := 107) (K := (12, 0, a.toNatClampNeg)) (v := .int ((gup (gup (gup C (11, 0, b.toNatClampNeg) 2 1) (12, 0, a.toNatClampNeg) 1 ((C.1 (12, 0, a.toNatClampNeg) 1) - 1)) (12, 0, a.toNatClampNeg) 3 1).1 (12, 0, a.toNatClampNeg) 1)) o fl_X11_481 dX11_ship_107 (gl_12 (gix_lt (Nat.le_trans (hBC 6 0 (by decide)) (by decide)) g1)) rfl rfl ?_
      refine z_top (congrArg Value.int (Eq.trans (gup_vf _ (show (1:Nat) ≠ 3 by decide)) (gup_v _ _ _ _))) ?_
      exact y_iret (pc := 110) o dX11_ship_110 rfl (vp_nar_int _) (by decide) (by decide) (fun h hp => gQ_mk (by simp only [F_ship, b3, b4, eq_true b5, b6, b7, g1, g2, not_true_eq_false, not_false_eq_true, if_true, if_false, or_true, true_or, or_false, false_or, and_true, true_and, and_false, false_and, or_self, and_self, eq_self, Bool.false_eq_true, ne_eq, reduceIte]) hp)
    exact y_throwSW (pc := 63) o 78 rfl th_105 qw_400 qw_40 dX11_ship_63 dX11_ship_66 dX11_ship_67 dX11_ship_70 dX11_ship_73 rfl ⟨by decide, Nat.le_of_ble_eq_true rfl⟩ (by decide) (by decide) (fun h hp => gE_mk (k := 2) (by simp only [F_ship, b3, b4, eq_true b5, b6, g1, g2, not_true_eq_false, not_false_eq_true, if_true, if_false, or_true, true_or, or_false, false_or, and_true, true_and, and_false, false_and, or_self, and_self, eq_self, Bool.false_eq_true, ne_eq, reduceIte]) (.tail _ (.head _)) hp)
  exact y_throwSW (pc := 44) o 77 rfl th_105 qw_400 qw_40 dX11_ship_44 dX11_ship_47 dX11_ship_48 dX11_ship_51 dX11_ship_54 rfl ⟨by decide, Nat.le_of_ble_eq_true rfl⟩ (by decide) (by decide) (fun h hp => gE_mk (k := 2) (by simp only [F_ship, b3, b4, b5, g1, g2, not_true_eq_false, not_false_eq_true, if_true, if_false, or_true, true_or, or_false, false_or, and_true, true_and, and_false, false_and, or_self, and_self, eq_self, Bool.false_eq_true, ne_eq, reduceIte]) (.tail _ (.head _)) hp)

end Z17
