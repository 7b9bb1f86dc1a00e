
theorem gup_ff {C : gG} {K K' : gKey} {f f' : Nat} (x : Int32) (h : f' ≠ f) : (gup C K f x).1 K' f' = C.1 K' f' := by
  by_cases hk : K' = K
  · rw [hk, gup_vf x h]
  · rw [gup_vk x hk]
/-- what a call answers: the number of what was thrown (0: nothing), the answer, the state -/
abbrev gF : Type := Int32 × Int32 × gG
def gthr (C : gG) (k : Int32) : gF := (k, 0, gup C (0, 0, 0) 5 k)
def glist (l : List Int32) : Nat → Int32 := fun j => l.getD j 0
def gX (κ : gq_K) (ad : gKey → Nat) (S : gG × gG) (T : List (Nat × va_E)) (h : gq_H) : Prop := ∃ ad' : gKey → Nat, ad' (0, 0, 0) = ad (0, 0, 0) ∧ ad' (20, 0, 0) = ad (20, 0, 0) ∧ gR κ ad' S T h
def gQ (κ : gq_K) (ad : gKey → Nat) (R : gG) (T : List (Nat × va_E)) (r : gF) : Option Value → gq_H → Prop := fun v h => r.1 = 0 ∧ v = some (.int r.2.1) ∧ gX κ ad (r.2.2, R) T h
def gE (κ : gq_K) (ad : gKey → Nat) (R : gG) (T : List (Nat × va_E)) (xs : List (String × Int32)) (r : gF) : String → gq_H → Prop := fun x h => (x, r.1) ∈ xs ∧ gX κ ad (r.2.2, R) T h
section Z16
variable {κ : gq_K} {ad ad' : gKey → Nat} {C C' R : gG} {T : List (Nat × va_E)} {h : gq_H}
theorem gQ_mk {r : gF} {v : Int32} (e : r = (0, v, C')) (hr : gR κ ad (C', R) T h) : gQ κ ad R T r (some (.int v)) h := by
  subst e
  exact ⟨rfl, rfl, ad, rfl, rfl, hr⟩
theorem gQ_mk2 {r : gF} {v : Int32} (e : r = (0, v, C')) (e0 : ad' (0, 0, 0) = ad (0, 0, 0)) (e20 : ad' (20, 0, 0) = ad (20, 0, 0)) (hr : gR κ ad' (C', R) T h) : gQ κ ad R T r (some (.int v)) h := by
  subst e
  exact ⟨rfl, rfl, ad', e0, e20, hr⟩
theorem gE_mk {r : gF} {x : String} {k : Int32} {xs : List (String × Int32)} (e : r = gthr C k) (hm : (x, k) ∈ xs) (hr : gR κ ad (C, R) T h) : gE κ ad R T xs r x h := by
  subst e
  exact ⟨hm, ad, rfl, rfl, hr.ghostC (0, 0, 0) 5 k (fun _ _ _ => rfl) (fun _ _ => rfl)⟩
theorem addCa {a l g n q : Nat} {row : Nat → Int32} {e : va_E} (ha : 6 + l = a) (hh : glive (C, R) (4, l, g)) (hg : l = 7 ∨ g = 0) (hn : C.2 a g = n) (h144 : n ≤ 144) (he : e = gentC κ ad C.2 row (a, g, n)) (hc : ∀ K' ∈ grefC C.2 row (a, g, n), glive (C, R) K') : gq_C κ mJx4a65c_add_9ea2d [.ref (ad (4, l, g)), .ref q] (gR κ ad (C, R) ((q, e) :: T)) (fun v9 g1 => v9 = some (.int 1) ∧ ∃ ad' : gKey → Nat, (∀ K, K ≠ (a, g, n) → K ≠ (5, l, g) → ad' K = ad K) ∧ ad' (a, g, n) = q ∧ gR κ ad' (gnew C (a, g, n) row, R) T g1) gq_no := by
  subst ha
  exact addC hh hg hn h144 he hc
theorem addRa {a l g n q : Nat} {row : Nat → Int32} {e : va_E} (ha : 6 + l = a) (hh : glive (C, R) (24, l, g)) (hg : l = 7 ∨ g = 0) (hn : R.2 a g = n) (h144 : n ≤ 144) (he : e = gentR1 κ ad R.2 row (20 + a, g, n)) (hc : ∀ K' ∈ grefR R.2 (20 + a, g, n), glive (C, R) K') : gq_C κ mJx4a65c_add_9ea2d [.ref (ad (24, l, g)), .ref q] (gR κ ad (C, R) ((q, e) :: T)) (fun v9 g1 => v9 = some (.int 1) ∧ ∃ ad' : gKey → Nat, (∀ K, K ≠ (20 + a, g, n) → K ≠ (25, l, g) → ad' K = ad K) ∧ ad' (20 + a, g, n) = q ∧ gR κ ad' (C, gnew R (a, g, n) row) T g1) gq_no := by
  subst ha
  have e2 : 20 + (6 + l) = 26 + l := by omega
  rw [e2] at he hc ⊢
  exact addR hh hg hn h144 he hc
theorem gnew_n (C : gG) {a g n : Nat} (row : Nat → Int32) : (gnew C (a, g, n) row).2 a g = C.2 a g + 1 := if_pos ⟨rfl, rfl⟩
theorem gfix_new {a g n : Nat} {row : Nat → Int32} (ha : 5 < a ∧ a ≠ 11 ∧ a < 14) (hC : gfix C.2) : gfix (gnew C (a, g, n) row).2 := by
  have e : ∀ x y : Nat, x ≠ a → (gnew C (a, g, n) row).2 x y = C.2 x y := fun x y hx => if_neg (fun z => hx z.1)
  obtain ⟨h0, h1, h2, h3, h4, h5, h6, h7⟩ := hC
  refine ⟨?_, ?_, ?_, ?_, fun l hl => ?_, ?_, ?_, ?_⟩
  · rw [e _ _ (by omega)]; exact h0
  · rw [e _ _ (by omega)]; exact h1
  · rw [e _ _ (by omega)]; exact h2
  · rw [e _ _ (by omega)]; exact h3
  · rw [e _ _ (by omega)]; exact h4 l hl
  · rw [e _ _ (by omega), e _ _ (by omega)]; exact h5
  · rw [e _ _ (by omega)]; exact h6
  · rw [e _ _ (by omega)]; exact h7
theorem nC_6 {κ : gq_K} {ad : gKey → Nat} {N : Nat → Nat → Nat} {x0 x1 x2 x3 : Int32} {g i : Nat} : (.inr (7, [.int x0, .int x1, .int x2, .int x3]) : va_E) = gentC κ ad N (glist [x0, x1, x2, x3]) (6, g, i) := rfl
theorem nC_7 {κ : gq_K} {ad : gKey → Nat} {N : Nat → Nat → Nat} {x0 x1 x2 x3 x4 : Int32} {g i : Nat} : (.inr (9, [.int x0, .int x1, .int x2, .int x3, .int x4]) : va_E) = gentC κ ad N (glist [x0, x1, x2, x3, x4]) (7, g, i) := rfl
theorem nC_8 {κ : gq_K} {ad : gKey → Nat} {N : Nat → Nat → Nat} {x0 x1 x2 x3 x4 x5 x6 x7 x8 x9 x10 x11 : Int32} {g i : Nat} : (.inr (4, [.int (Int32.ofNat i), .ref (ad (7, 0, x0.toNatClampNeg)), .int x3, .int x1, .int x2, .int x4, .int x9, .int x10, .int x6, .int x7, .int x5, .int x8]) : va_E) = gentC κ ad N (glist [x0, x1, x2, x3, x4, x5, x6, x7, x8, x9, x10, x11]) (8, g, i) := rfl
theorem rC_8 {N : Nat → Nat → Nat} {x0 x1 x2 x3 x4 x5 x6 x7 x8 x9 x10 x11 : Int32} {g i : Nat} : grefC N (glist [x0, x1, x2, x3, x4, x5, x6, x7, x8, x9, x10, x11]) (8, g, i) = [(7, 0, x0.toNatClampNeg)] := rfl
theorem nC_9 {κ : gq_K} {ad : gKey → Nat} {N : Nat → Nat → Nat} {x0 x1 x2 x3 x4 x5 : Int32} {g i : Nat} : (.inr (13, [.int (Int32.ofNat i), .int x0, .int x1, .int x2, .int x3, .int x4, .int x5]) : va_E) = gentC κ ad N (glist [x0, x1, x2, x3, x4, x5]) (9, g, i) := rfl
theorem nC_10 {κ : gq_K} {ad : gKey → Nat} {N : Nat → Nat → Nat} {x0 x1 x2 x3 x4 x5 x6 x7 x8 x9 x10 : Int32} {g i : Nat} : (.inr (12, [.int (Int32.ofNat i), .ref (ad (8, 0, x0.toNatClampNeg)), .ref (ad (9, 0, x1.toNatClampNeg)), .int x2, .int x5, .int x3, .int x4, .int x7, .int x8, .int x9, .int x6, .int x10]) : va_E) = gentC κ ad N (glist [x0, x1, x2, x3, x4, x5, x6, x7, x8, x9, x10]) (10, g, i) := rfl
theorem rC_10 {N : Nat → Nat → Nat} {x0 x1 x2 x3 x4 x5 x6 x7 x8 x9 x10 : Int32} {g i : Nat} : grefC N (glist [x0, x1, x2, x3, x4, x5, x6, x7, x8, x9, x10]) (10, g, i) = [(8, 0, x0.toNatClampNeg), (9, 0, x1.toNatClampNeg)] := rfl
theorem nC_12 {κ : gq_K} {ad : gKey → Nat} {N : Nat → Nat → Nat} {x0 x1 x2 x3 : Int32} {g i : Nat} : (.inr (10, [.int x0, .int x2, .int x1, .int x3]) : va_E) = gentC κ ad N (glist [x0, x1, x2, x3]) (12, g, i) := rfl
theorem nC_13 {κ : gq_K} {ad : gKey → Nat} {N : Nat → Nat → Nat} {x0 x1 x2 : Int32} {g i : Nat} : (.inr (11, [.ref (ad (10, 0, x0.toNatClampNeg)), .int x1, .int x2]) : va_E) = gentC κ ad N (glist [x0, x1, x2]) (13, g, i) := rfl
theorem rC_13 {N : Nat → Nat → Nat} {x0 x1 x2 : Int32} {g i : Nat} : grefC N (glist [x0, x1, x2]) (13, g, i) = [(10, 0, x0.toNatClampNeg)] := rfl

theorem hdiv {x y c d : Int32} (hx : ¬ 500 < x) (hy : ¬ 500 < y) (c1 : ¬ c < 1) (d1 : ¬ d < 1) (h1 : ¬ x < c) (h2 : ¬ y < d) : ¬ c + d = 0 := fun z => by
  have e5 : (500 : Int32).toInt = 500 := rfl
  have e1 : (1 : Int32).toInt = 1 := rfl
  rw [Int32.lt_iff_toInt_lt] at hx hy c1 d1 h1 h2
  have hz : (c + d).toInt = 0 := by rw [z]; rfl
  rw [Int32.toInt_add, Int.bmod_def] at hz
  split at hz <;> omega

theorem gin4 {x : Int32} (h0 : ¬ x < 0) (h1 : x < 4) : vp_in x 4 := by
  have := gix_lt (N := 4) (by decide) (gixN h0 h1)
  unfold vp_in
  intro z
  rcases z with z | z
  · exact h0 z
  · omega
def F_go (C : gG) (a : Int32) : gF := if ¬ gin 1 a 500 = true then gthr C 1 else if 9999 < C.1 (0, 0, 0) 0 + a then gthr C 2 else (0, C.1 (0, 0, 0) 0 + a, gup C (0, 0, 0) 0 (C.1 (0, 0, 0) 0 + a))
def F_shaft (C : gG) (a : Int32) : gF := (0, C.1 (1, 0, 0) 0, gup C (1, 0, 0) 0 a)
def F_on (C : gG) (a b : Int32) : gF := if gmi a = -1 then gthr C 1 else (0, C.1 (3, 0, (gmi a).toNatClampNeg) 0, gup C (3, 0, (gmi a).toNatClampNeg) 0 b)
def F_runs (C : gG) (a : Int32) : gF := if gmi a = -1 then gthr C 1 else (0, gb (gmov C 4 (gmi a).toNatClampNeg = true), C)
def F_lot (C : gG) (a b c d : Int32) : gF := if ¬ a = 103 ∧ ¬ a = 99 then gthr C 1 else if ¬ gin 50 b 99 = true ∨ ¬ gin 1 c 9 = true ∨ ¬ gin 1 d 500 = true then gthr C 1 else if ¬ Int32.ofNat (C.2 6 0) < 16 then gthr C 2 else (0, Int32.ofNat (C.2 6 0 + 1) - 1, gnew C (6, 0, C.2 6 0) (glist [a, b, c, d]))
def F_kilos (C : gG) (a : Int32) : gF := if ¬ gix (C.2 6 0) a = true then gthr C 1 else (0, C.1 (6, 0, a.toNatClampNeg) 3, C)
def F_mix (C : gG) (a b c d e : Int32) : gF := if ¬ gix (C.2 6 0) a = true then gthr C 1 else if ¬ gix (C.2 6 0) b = true then gthr C 1 else if c < 1 ∨ d < 1 ∨ ¬ gin 1 e 9 = true then gthr C 2
  else if ¬ C.1 (6, 0, a.toNatClampNeg) 0 = 103 ∨ ¬ C.1 (6, 0, b.toNatClampNeg) 0 = 99 then gthr C 3 else if C.1 (6, 0, a.toNatClampNeg) 3 < c ∨ C.1 (6, 0, b.toNatClampNeg) 3 < d then gthr C 3 else if ¬ gmov C 4 0 = true then gthr C 3 else if ¬ Int32.ofNat (C.2 7 0) < 12 then gthr C 4
  else (0, Int32.ofNat (C.2 7 0 + 1) - 1, gnew (gup (gup C (6, 0, a.toNatClampNeg) 3 (C.1 (6, 0, a.toNatClampNeg) 3 - c)) (6, 0, b.toNatClampNeg) 3 ((gup C (6, 0, a.toNatClampNeg) 3 (C.1 (6, 0, a.toNatClampNeg) 3 - c)).1 (6, 0, b.toNatClampNeg) 3 - d)) (7, 0, C.2 7 0) (glist [a, b, 10 * c * C.1 (6, 0, a.toNatClampNeg) 1 / (c + d), gclamp (e + 9 - C.1 (6, 0, a.toNatClampNeg) 2 - C.1 (6, 0, b.toNatClampNeg) 2 / 3) 0 9, c + d]))
def F_mixture (C : gG) (a b : Int32) : gF := if ¬ gix (C.2 7 0) a = true then gthr C 1 else if b = 99 then (0, C.1 (7, 0, a.toNatClampNeg) 2, C) else if b = 102 then (0, C.1 (7, 0, a.toNatClampNeg) 3, C) else if b = 107 then (0, C.1 (7, 0, a.toNatClampNeg) 4, C) else gthr C 2
def F_worn (C : gG) (a : Int32) : gF := if a < 0 ∨ ¬ a < 4 then gthr C 1 else (0, C.1 (14, 0, 0) a.toNatClampNeg, C)
def F_renew (C : gG) (a : Int32) : gF := if a < 0 ∨ ¬ a < 4 then gthr C 1 else (0, C.1 (14, 0, 0) a.toNatClampNeg, gup C (14, 0, 0) a.toNatClampNeg 0)
theorem p_go {κ : gq_K} {ad : gKey → Nat} {C R : gG} {T : List (Nat × va_E)} (hC : gfix C.2) (hBC : gcnt C.2) (hM : gmach C) (a : Int32) : gq_C κ mX11_go [.ref (ad (0, 0, 0)), .int (a)] (gR κ ad (C, R) T) (gQ κ ad R T (F_go C a)) (gE κ ad R T [("java/lang/IllegalArgumentException", 1), ("java/lang/IllegalStateException", 2)] (F_go C a)) := by
  refine gq_enter (by decide +kernel) rfl (Nat.le_of_ble_eq_true rfl) rfl (fun f o => ?_)
  refine y_iload_n (pc := 0) o dX11_go_0 rfl ?_
  refine y_iconst (pc := 1) (x := 1) o dX11_go_1 (by decide) ?_
  refine y_sipush (pc := 2) (x := 500) o dX11_go_2 (by decide) ?_
  refine z_callS (pc := 5) (k := 0) (n := 0) (k' := 0) (n' := 0) o (As := [.int (a), .int (1), .int (500)]) (rest := []) (kIsOut _ _ _) ln_X11_71 dX11_go_5 rfl rfl (Nat.le_of_ble_eq_true rfl) ⟨by decide, by decide⟩ ⟨rfl, rfl⟩ ⟨by decide, by decide⟩ rfl gq_nox2 ?_
  refine z_beq (pc := 8) (tgt := 21) o dX11_go_8 rfl (fun (b1 : ¬ (¬ gin 1 a 500 = true)) => ?_) (fun (b1 : ¬ gin 1 a 500 = true) => ?_)
  · refine y_aload_n (pc := 21) o dX11_go_21 rfl ?_
    refine z_get (pc := 22) (K := (0, 0, 0)) (v := .int (C.1 (0, 0, 0) 0)) o fl_X11_55 dX11_go_22 (gl_0 hC) rfl rfl ?_
    refine y_iload_n (pc := 25) o dX11_go_25 rfl ?_
    refine y_iadd (pc := 26) o dX11_go_26 ?_
    refine y_sipush (pc := 27) (x := 9999) o dX11_go_27 (by decide) ?_
    refine z_icmp_le (pc := 30) (tgt := 43) o dX11_go_30 rfl (fun (b2 : ¬ 9999 < ((C.1 (0, 0, 0) 0) + a)) => ?_) (fun (b2 : 9999 < ((C.1 (0, 0, 0) 0) + a)) => ?_)
    · refine y_aload_n (pc := 43) o dX11_go_43 rfl ?_
      refine y_dup (pc := 44) o dX11_go_44 rfl ?_
      refine z_get (pc := 45) (K := (0, 0, 0)) (v := .int (C.1 (0, 0, 0) 0)) o fl_X11_55 dX11_go_45 (gl_0 hC) rfl rfl ?_
      refine y_iload_n (pc := 48) o dX11_go_48 rfl ?_
      refine y_iadd (pc := 49) o dX11_go_49 ?_
      refine z_putC (pc := 50) (K := (0, 0, 0)) (fd := 0) (x := (C.1 (0, 0, 0) 0) + a) o fw_X11_55 dX11_go_50 (gl_0 hC) (show (0:Nat) < 20 by decide) rfl (Nat.le_of_ble_eq_true rfl) (vp_nar_int _) rfl rfl pC_0_11 (z_refC (show (0:Nat) < 20 by decide) (gl_0 hC) qC_0_11) ?_
      refine y_aload_n (pc := 53) o dX11_go_53 rfl ?_
      refine z_get (pc := 54) (K := (0, 0, 0)) (v := .int ((gup C (0, 0, 0) 0 ((C.1 (0, 0, 0) 0) + a)).1 (0, 0, 0) 0)) o fl_X11_55 dX11_go_54 (gl_0 hC) rfl rfl ?_
      refine z_top (congrArg Value.int (gup_v _ _ _ _)) ?_
      exact y_iret (pc := 57) o dX11_go_57 rfl (vp_nar_int _) (by decide) (by decide) (fun h hp => gQ_mk (by simp only [F_go, Classical.not_not.mp b1, b2, not_true_eq_false, not_false_eq_true, if_true, if_false, or_true, true_or, or_false, false_or, and_true, true_and, and_false, false_and, or_self, and_self, eq_self, Bool.false_eq_true, ne_eq, reduceIte]) hp)
    exact y_throwS (pc := 33) o 8 rfl th_86 qw_366 qw_39 dX11_go_33 dX11_go_36 dX11_go_37 dX11_go_39 dX11_go_42 rfl ⟨by decide, Nat.le_of_ble_eq_true rfl⟩ (by decide) (by decide) (fun h hp => gE_mk (k := 2) (by simp only [F_go, Classical.not_not.mp b1, b2, not_true_eq_false, not_false_eq_true, if_true, if_false, or_true, true_or, or_false, false_or, and_true, true_and, and_false, false_and, or_self, and_self, eq_self, Bool.false_eq_true, ne_eq, reduceIte]) (.tail _ (.head _)) hp)
  exact y_throwS (pc := 11) o 7 rfl th_79 qw_295 qw_38 dX11_go_11 dX11_go_14 dX11_go_15 dX11_go_17 dX11_go_20 rfl ⟨by decide, Nat.le_of_ble_eq_true rfl⟩ (by decide) (by decide) (fun h hp => gE_mk (k := 1) (by simp only [F_go, b1, not_true_eq_false, not_false_eq_true, if_true, if_false, or_true, true_or, or_false, false_or, and_true, true_and, and_false, false_and, or_self, and_self, eq_self, Bool.false_eq_true, ne_eq, reduceIte]) (.head _) hp)

theorem p_shaft {κ : gq_K} {ad : gKey → Nat} {C R : gG} {T : List (Nat × va_E)} (hC : gfix C.2) (hBC : gcnt C.2) (hM : gmach C) (hB : narrow .boolean (.int (C.1 (1, 0, 0) 0)) = .int (C.1 (1, 0, 0) 0) ∧ ∀ i, i < 4 → narrow .boolean (.int (C.1 (3, 0, i) 0)) = .int (C.1 (3, 0, i) 0)) (p : Prop) [Decidable p] : gq_C κ mX11_shaft [.ref (ad (0, 0, 0)), .int (gb (p))] (gR κ ad (C, R) T) (gQ κ ad R T (F_shaft C (gb p))) (gE κ ad R T [] (F_shaft C (gb p))) := by
  refine gq_enter (by decide +kernel) rfl (Nat.le_of_ble_eq_true rfl) rfl (fun f o => ?_)
  refine y_aload_n (pc := 0) o dX11_shaft_0 rfl ?_
  refine z_get (pc := 1) (K := (0, 0, 0)) (v := .ref (ad (1, 0, 0))) o fl_X11_10 dX11_shaft_1 (gl_0 hC) rfl rfl ?_
  refine z_get (pc := 4) (K := (1, 0, 0)) (v := .int (C.1 (1, 0, 0) 0)) o fl_X11_87 dX11_shaft_4 (gl_1 hC) rfl rfl ?_
  refine y_istore_n (pc := 7) (i := 2) (lv' := [(2, .int (C.1 (1, 0, 0) 0)), (0, .ref (ad (0, 0, 0))), (1, .int (gb (p)))]) o dX11_shaft_7 rfl (by decide) rfl ?_
  refine y_aload_n (pc := 8) o dX11_shaft_8 rfl ?_
  refine z_get (pc := 9) (K := (0, 0, 0)) (v := .ref (ad (1, 0, 0))) o fl_X11_10 dX11_shaft_9 (gl_0 hC) rfl rfl ?_
  refine y_iload_n (pc := 12) o dX11_shaft_12 rfl ?_
  refine z_putC (pc := 13) (K := (1, 0, 0)) (fd := 0) (x := gb (p)) o fw_X11_87 dX11_shaft_13 (gl_1 hC) (show (1:Nat) < 20 by decide) rfl (Nat.le_of_ble_eq_true rfl) gb_nar gb_fit rfl pC_1_4 (z_refC (show (1:Nat) < 20 by decide) (gl_1 hC) qC_1_4) ?_
  refine y_iload_n (pc := 16) o dX11_shaft_16 rfl ?_
  exact y_iret (pc := 17) o dX11_shaft_17 rfl (hB.1) (by decide) (by decide) (fun h hp => gQ_mk (by simp only [F_shaft, not_true_eq_false, not_false_eq_true, if_true, if_false, or_true, true_or, or_false, false_or, and_true, true_and, and_false, false_and, or_self, and_self, eq_self, Bool.false_eq_true, ne_eq, reduceIte]) hp)

theorem p_on {κ : gq_K} {ad : gKey → Nat} {C R : gG} {T : List (Nat × va_E)} (hC : gfix C.2) (hBC : gcnt C.2) (hM : gmach C) (hB : narrow .boolean (.int (C.1 (1, 0, 0) 0)) = .int (C.1 (1, 0, 0) 0) ∧ ∀ i, i < 4 → narrow .boolean (.int (C.1 (3, 0, i) 0)) = .int (C.1 (3, 0, i) 0)) (a : Int32) (p : Prop) [Decidable p] : gq_C κ mX11_on [.ref (ad (0, 0, 0)), .int (a), .int (gb (p))] (gR κ ad (C, R) T) (gQ κ ad R T (F_on C a (gb p))) (gE κ ad R T [("java/lang/IllegalArgumentException", 1)] (F_on C a (gb p))) := by
  refine gq_enter (by decide +kernel) rfl (Nat.le_of_ble_eq_true rfl) rfl (fun f o => ?_)
  refine y_aload_n (pc := 0) o dX11_on_0 rfl ?_
  refine y_iload_n (pc := 1) o dX11_on_1 rfl ?_
  refine z_callV (pc := 2) (k := 0) (n := 0) (k' := 1) (n' := 6) o (b := ad (0, 0, 0)) (As := [.int (a)]) (rest := []) (kMach hC a) ln_X11_91 dX11_on_2 (z_rc (ci := 15) (K := (0, 0, 0)) rfl (gl_0 hC) rfl) rfl rfl (Nat.le_of_ble_eq_true rfl) ⟨by decide, by decide⟩ ⟨rfl, rfl⟩ ⟨by decide, by decide⟩ rfl (fun x h hE => by obtain ⟨rfl, hz, hr⟩ := hE; exact gE_mk (k := 1) (by simp only [F_on, hz, not_true_eq_false, not_false_eq_true, if_true, if_false, or_true, true_or, or_false, false_or, and_true, true_and, and_false, false_and, or_self, and_self, eq_self, Bool.false_eq_true, ne_eq, reduceIte]) (.head _) hr) (y_and fun (g1 : ¬ gmi a = -1) => ?_)
  refine y_astore_n (pc := 5) (i := 3) (lv' := [(3, .ref (ad (3, 0, (gmi a).toNatClampNeg))), (0, .ref (ad (0, 0, 0))), (1, .int (a)), (2, .int (gb (p)))]) o dX11_on_5 rfl (by decide) rfl ?_
  refine y_aload_n (pc := 6) o dX11_on_6 rfl ?_
  refine z_get (pc := 7) (K := (3, 0, (gmi a).toNatClampNeg)) (v := .int (C.1 (3, 0, (gmi a).toNatClampNeg) 0)) o fl_X11_116 dX11_on_7 (gl_3 (gmach_4 hC (gmi_in g1).1)) rfl rfl ?_
  refine y_istore (pc := 10) (i := 4) (lv' := [(4, .int (C.1 (3, 0, (gmi a).toNatClampNeg) 0)), (3, .ref (ad (3, 0, (gmi a).toNatClampNeg))), (0, .ref (ad (0, 0, 0))), (1, .int (a)), (2, .int (gb (p)))]) o dX11_on_10 (by decide) rfl ?_
  refine y_aload_n (pc := 12) o dX11_on_12 rfl ?_
  refine y_iload_n (pc := 13) o dX11_on_13 rfl ?_
  refine z_putC (pc := 14) (K := (3, 0, (gmi a).toNatClampNeg)) (fd := 0) (x := gb (p)) o fw_X11_116 dX11_on_14 (gl_3 (gmach_4 hC (gmi_in g1).1)) (show (3:Nat) < 20 by decide) rfl (Nat.le_of_ble_eq_true rfl) gb_nar gb_fit rfl pC_3_1 (z_refC (show (3:Nat) < 20 by decide) (gl_3 (gmach_4 hC (gmi_in g1).1)) qC_3_1) ?_
  refine y_iload (pc := 17) o dX11_on_17 rfl ?_
  exact y_iret (pc := 19) o dX11_on_19 rfl (hB.2 _ (gmi_in g1).1) (by decide) (by decide) (fun h hp => gQ_mk (by simp only [F_on, g1, not_true_eq_false, not_false_eq_true, if_true, if_false, or_true, true_or, or_false, false_or, and_true, true_and, and_false, false_and, or_self, and_self, eq_self, Bool.false_eq_true, ne_eq, reduceIte]) hp)

theorem p_runs {κ : gq_K} {ad : gKey → Nat} {C R : gG} {T : List (Nat × va_E)} (hC : gfix C.2) (hBC : gcnt C.2) (hM : gmach C) (a : Int32) : gq_C κ mX11_runs [.ref (ad (0, 0, 0)), .int (a)] (gR κ ad (C, R) T) (gQ κ ad R T (F_runs C a)) (gE κ ad R T [("java/lang/IllegalArgumentException", 1)] (F_runs C a)) := by
  refine gq_enter (by decide +kernel) rfl (Nat.le_of_ble_eq_true rfl) rfl (fun f o => ?_)
  refine y_aload_n (pc := 0) o dX11_runs_0 rfl ?_
  refine z_get (pc := 1) (K := (0, 0, 0)) (v := .ref (ad (1, 0, 0))) o fl_X11_10 dX11_runs_1 (gl_0 hC) rfl rfl ?_
  refine y_aload_n (pc := 4) o dX11_runs_4 rfl ?_
  refine y_iload_n (pc := 5) o dX11_runs_5 rfl ?_
  refine z_callV (pc := 6) (k := 0) (n := 0) (k' := 1) (n' := 6) o (b := ad (0, 0, 0)) (As := [.int (a)]) (rest := [.ref (ad (1, 0, 0))]) (kMach hC a) ln_X11_91 dX11_runs_6 (z_rc (ci := 15) (K := (0, 0, 0)) rfl (gl_0 hC) rfl) rfl rfl (Nat.le_of_ble_eq_true rfl) ⟨by decide, by decide⟩ ⟨rfl, rfl⟩ ⟨by decide, by decide⟩ rfl (fun x h hE => by obtain ⟨rfl, hz, hr⟩ := hE; exact gE_mk (k := 1) (by simp only [F_runs, hz, not_true_eq_false, not_false_eq_true, if_true, if_false, or_true, true_or, or_false, false_or, and_true, true_and, and_false, false_and, or_self, and_self, eq_self, Bool.false_eq_true, ne_eq, reduceIte]) (.head _) hr) (y_and fun (g1 : ¬ gmi a = -1) => ?_)
  refine z_callV (pc := 9) (k := 1) (n := 6) (k' := 1) (n' := 6) o (b := ad (1, 0, 0)) (As := [.ref (ad (3, 0, (gmi a).toNatClampNeg))]) (rest := []) (kMoves hC hM ((gmi a).toNatClampNeg) (gmi_in g1).1) ln_X11_119 dX11_runs_9 (z_rc (ci := 5) (K := (1, 0, 0)) rfl (gl_1 hC) rfl) rfl rfl (Nat.le_of_ble_eq_true rfl) ⟨by decide, by decide⟩ ⟨rfl, rfl⟩ ⟨by decide, by decide⟩ rfl gq_nox2 ?_
  exact y_iret (pc := 12) o dX11_runs_12 rfl gb_nar (by decide) (by decide) (fun h hp => gQ_mk (by simp only [F_runs, g1, not_true_eq_false, not_false_eq_true, if_true, if_false, or_true, true_or, or_false, false_or, and_true, true_and, and_false, false_and, or_self, and_self, eq_self, Bool.false_eq_true, ne_eq, reduceIte]) hp)

theorem p_lot {κ : gq_K} {ad : gKey → Nat} {C R : gG} {T : List (Nat × va_E)} (hC : gfix C.2) (hBC : gcnt C.2) (hM : gmach C) (a : Int32) (b : Int32) (c : Int32) (d : Int32) : gq_C κ mX11_lot [.ref (ad (0, 0, 0)), .int (a), .int (b), .int (c), .int (d)] (gR κ ad (C, R) T) (gQ κ ad R T (F_lot C a b c d)) (gE κ ad R T [("java/lang/IllegalArgumentException", 1), ("java/lang/IllegalStateException", 2)] (F_lot C a b c d)) := by
  refine gq_enter (by decide +kernel) rfl (Nat.le_of_ble_eq_true rfl) rfl (fun f o => ?_)
  have hch0 : a = 103 ∨ a = 99 → gch a := fun z => by unfold gch; rcases z with rfl | rfl <;> decide
  refine y_iload_n (pc := 0) o dX11_lot_0 rfl ?_
  refine y_bipush (pc := 1) (x := 103) o dX11_lot_1 (by decide) ?_
  refine y_icmp_eq (pc := 3) (tgt := 22) o dX11_lot_3 rfl (fun (b1 : a = 103) => ?_) (fun (b1 : ¬ a = 103) => ?_)
  · refine y_iload_n (pc := 22) o dX11_lot_22 rfl ?_
    refine y_bipush (pc := 23) (x := 50) o dX11_lot_23 (by decide) ?_
    refine y_bipush (pc := 25) (x := 99) o dX11_lot_25 (by decide) ?_
    refine z_callS (pc := 27) (k := 0) (n := 0) (k' := 0) (n' := 0) o (As := [.int (b), .int (50), .int (99)]) (rest := []) (kIsOut _ _ _) ln_X11_71 dX11_lot_27 rfl rfl (Nat.le_of_ble_eq_true rfl) ⟨by decide, by decide⟩ ⟨rfl, rfl⟩ ⟨by decide, by decide⟩ rfl gq_nox2 ?_
    refine z_bne (pc := 30) (tgt := 55) o dX11_lot_30 rfl (fun (b2 : ¬ gin 50 b 99 = true) => ?_) (fun (b2 : ¬ (¬ gin 50 b 99 = true)) => ?_)
    · exact y_throwS (pc := 55) o 13 rfl th_79 qw_295 qw_38 dX11_lot_55 dX11_lot_58 dX11_lot_59 dX11_lot_61 dX11_lot_64 rfl ⟨by decide, Nat.le_of_ble_eq_true rfl⟩ (by decide) (by decide) (fun h hp => gE_mk (k := 1) (by simp only [F_lot, eq_true b1, b2, not_true_eq_false, not_false_eq_true, if_true, if_false, or_true, true_or, or_false, false_or, and_true, true_and, and_false, false_and, or_self, and_self, eq_self, Bool.false_eq_true, ne_eq, reduceIte]) (.head _) hp)
    refine y_iload_n (pc := 33) o dX11_lot_33 rfl ?_
    refine y_iconst (pc := 34) (x := 1) o dX11_lot_34 (by decide) ?_
    refine y_bipush (pc := 35) (x := 9) o dX11_lot_35 (by decide) ?_
    refine z_callS (pc := 37) (k := 0) (n := 0) (k' := 0) (n' := 0) o (As := [.int (c), .int (1), .int (9)]) (rest := []) (kIsOut _ _ _) ln_X11_71 dX11_lot_37 rfl rfl (Nat.le_of_ble_eq_true rfl) ⟨by decide, by decide⟩ ⟨rfl, rfl⟩ ⟨by decide, by decide⟩ rfl gq_nox2 ?_
    refine z_bne (pc := 40) (tgt := 55) o dX11_lot_40 rfl (fun (b3 : ¬ gin 1 c 9 = true) => ?_) (fun (b3 : ¬ (¬ gin 1 c 9 = true)) => ?_)
    · exact y_throwS (pc := 55) o 13 rfl th_79 qw_295 qw_38 dX11_lot_55 dX11_lot_58 dX11_lot_59 dX11_lot_61 dX11_lot_64 rfl ⟨by decide, Nat.le_of_ble_eq_true rfl⟩ (by decide) (by decide) (fun h hp => gE_mk (k := 1) (by simp only [F_lot, eq_true b1, Classical.not_not.mp b2, b3, not_true_eq_false, not_false_eq_true, if_true, if_false, or_true, true_or, or_false, false_or, and_true, true_and, and_false, false_and, or_self, and_self, eq_self, Bool.false_eq_true, ne_eq, reduceIte]) (.head _) hp)
    refine y_iload (pc := 43) o dX11_lot_43 rfl ?_
    refine y_iconst (pc := 45) (x := 1) o dX11_lot_45 (by decide) ?_
    refine y_sipush (pc := 46) (x := 500) o dX11_lot_46 (by decide) ?_
    refine z_callS (pc := 49) (k := 0) (n := 0) (k' := 0) (n' := 0) o (As := [.int (d), .int (1), .int (500)]) (rest := []) (kIsOut _ _ _) ln_X11_71 dX11_lot_49 rfl rfl (Nat.le_of_ble_eq_true rfl) ⟨by decide, by decide⟩ ⟨rfl, rfl⟩ ⟨by decide, by decide⟩ rfl gq_nox2 ?_
    refine z_beq (pc := 52) (tgt := 65) o dX11_lot_52 rfl (fun (b4 : ¬ (¬ gin 1 d 500 = true)) => ?_) (fun (b4 : ¬ gin 1 d 500 = true) => ?_)
    · refine y_aload_n (pc := 65) o dX11_lot_65 rfl ?_
      refine z_get (pc := 66) (K := (0, 0, 0)) (v := .ref (ad (4, 0, 0))) o fl_X11_26 dX11_lot_66 (gl_0 hC) rfl rfl ?_
      refine z_callV (pc := 69) (k := 0) (n := 0) (k' := 0) (n' := 0) o (b := ad (4, 0, 0)) (As := []) (rest := []) (sizeC (l := 0) (g := 0) (gl_4_0 hC)) ln_X11_127 dX11_lot_69 (z_rc (ci := 3) (K := (4, 0, 0)) rfl (gl_4_0 hC) rfl) rfl rfl (Nat.le_of_ble_eq_true rfl) ⟨by decide, by decide⟩ ⟨rfl, rfl⟩ ⟨by decide, by decide⟩ rfl gq_nox2 ?_
      refine y_bipush (pc := 72) (x := 16) o dX11_lot_72 (by decide) ?_
      refine y_icmp_lt (pc := 74) (tgt := 87) o dX11_lot_74 rfl (fun (b5 : (Int32.ofNat (C.2 6 0)) < 16) => ?_) (fun (b5 : ¬ (Int32.ofNat (C.2 6 0)) < 16) => ?_)
      · refine y_aload_n (pc := 87) o dX11_lot_87 rfl ?_
        refine z_get (pc := 88) (K := (0, 0, 0)) (v := .ref (ad (4, 0, 0))) o fl_X11_26 dX11_lot_88 (gl_0 hC) rfl rfl ?_
        refine z_new (pc := 91) (k := 0) (n := 0) o nw_X11_133 dX11_lot_91 (by decide) (by decide) (fun q6 => ?_)
        refine y_dup (pc := 94) o dX11_lot_94 rfl ?_
        refine y_iload_n (pc := 95) o dX11_lot_95 rfl ?_
        refine y_iload_n (pc := 96) o dX11_lot_96 rfl ?_
        refine y_iload_n (pc := 97) o dX11_lot_97 rfl ?_
        refine y_iload (pc := 98) o dX11_lot_98 rfl ?_
        refine z_callI (pc := 100) (k := 1) (n := 4) (k' := 1) (n' := 4) o (b := q6) (As := [.int (a), .int (b), .int (c), .int (d)]) (rest := [.ref (q6), .ref (ad (4, 0, 0))]) (kX3_init _ (a) (hch0 (Or.inl b1)) (b) (c) (d)) ln_X11_135 dX11_lot_100 rfl rfl (Nat.le_of_ble_eq_true rfl) ⟨by decide, by decide⟩ ⟨rfl, rfl⟩ ⟨by decide, by decide⟩ ?_
        refine y_callV (pc := 103) (k := 1) (n := 4) o (b := ad (4, 0, 0)) (As := [.ref q6]) (rest := []) (addCa (C := C) (R := R) (l := 0) (g := 0) (n := C.2 6 0) (row := (glist [a, b, c, d])) (a := 6) rfl (gl_4_0 hC) (Or.inr rfl) rfl (hBC 0 0 (by decide)) nC_6 (fun K hK => by cases hK)) ln_X11_138 dX11_lot_103 (z_rc (ci := 3) (K := (4, 0, 0)) rfl (gl_4_0 hC) rfl) rfl rfl (Nat.le_of_ble_eq_true rfl) ⟨by decide, by decide⟩ ⟨by decide, by decide⟩ (fun _ e => e) rfl gq_nox2 (fun v => y_and fun ev => y_ex fun ad7 => y_and fun had => y_and fun hadq => ?_)
        subst ev
        have e0 : ad7 (0, 0, 0) = ad (0, 0, 0) := had (0, 0, 0) (by simp) (by simp)
        have e20 : ad7 (20, 0, 0) = ad (20, 0, 0) := had (20, 0, 0) (by simp) (by simp)
        refine z_st (st' := [.int (1)]) rfl ?_
        rw [← e0]
        refine y_pop (pc := 106) o dX11_lot_106 rfl ?_
        refine y_aload_n (pc := 107) o dX11_lot_107 rfl ?_
        refine z_get (pc := 108) (K := (0, 0, 0)) (v := .ref (ad7 (4, 0, 0))) o fl_X11_26 dX11_lot_108 (gl_0 (gfix_new (a := 6) (by decide) hC)) rfl rfl ?_
        refine z_callV (pc := 111) (k := 2) (n := 260) (k' := 2) (n' := 260) o (b := ad7 (4, 0, 0)) (As := []) (rest := []) (sizeC (l := 0) (g := 0) (gl_4_0 (gfix_new (a := 6) (by decide) hC))) ln_X11_127 dX11_lot_111 (z_rc (ci := 3) (K := (4, 0, 0)) rfl (gl_4_0 (gfix_new (a := 6) (by decide) hC)) rfl) rfl rfl (Nat.le_of_ble_eq_true rfl) ⟨by decide, by decide⟩ ⟨rfl, rfl⟩ ⟨by decide, by decide⟩ rfl gq_nox2 ?_
        refine z_top (w := .int (Int32.ofNat (C.2 6 0 + 1))) (congrArg (fun z => Value.int (Int32.ofNat z)) (gnew_n _ _)) ?_
        refine y_iconst (pc := 114) (x := 1) o dX11_lot_114 (by decide) ?_
        refine y_isub (pc := 115) o dX11_lot_115 ?_
        exact y_iret (pc := 116) o dX11_lot_116 rfl (vp_nar_int _) (by decide) (by decide) (fun h hp => gQ_mk2 (by simp only [F_lot, eq_true b1, Classical.not_not.mp b2, Classical.not_not.mp b3, Classical.not_not.mp b4, b5, not_true_eq_false, not_false_eq_true, if_true, if_false, or_true, true_or, or_false, false_or, and_true, true_and, and_false, false_and, or_self, and_self, eq_self, Bool.false_eq_true, ne_eq, reduceIte]) e0 e20 hp)
      exact y_throwS (pc := 77) o 14 rfl th_86 qw_366 qw_39 dX11_lot_77 dX11_lot_80 dX11_lot_81 dX11_lot_83 dX11_lot_86 rfl ⟨by decide, Nat.le_of_ble_eq_true rfl⟩ (by decide) (by decide) (fun h hp => gE_mk (k := 2) (by simp only [F_lot, eq_true b1, Classical.not_not.mp b2, Classical.not_not.mp b3, Classical.not_not.mp b4, b5, not_true_eq_false, not_false_eq_true, if_true, if_false, or_true, true_or, or_false, false_or, and_true, true_and, and_false, false_and, or_self, and_self, eq_self, Bool.false_eq_true, ne_eq, reduceIte]) (.tail _ (.head _)) hp)
    exact y_throwS (pc := 55) o 13 rfl th_79 qw_295 qw_38 dX11_lot_55 dX11_lot_58 dX11_lot_59 dX11_lot_61 dX11_lot_64 rfl ⟨by decide, Nat.le_of_ble_eq_true rfl⟩ (by decide) (by decide) (fun h hp => gE_mk (k := 1) (by simp only [F_lot, eq_true b1, Classical.not_not.mp b2, Classical.not_not.mp b3, b4, not_true_eq_false, not_false_eq_true, if_true, if_false, or_true, true_or, or_false, false_or, and_true, true_and, and_false, false_and, or_self, and_self, eq_self, Bool.false_eq_true, ne_eq, reduceIte]) (.head _) hp)
  refine y_iload_n (pc := 6) o dX11_lot_6 rfl ?_
  refine y_bipush (pc := 7) (x := 99) o dX11_lot_7 (by decide) ?_
  refine y_icmp_eq (pc := 9) (tgt := 22) o dX11_lot_9 rfl (fun (b8 : a = 99) => ?_) (fun (b8 : ¬ a = 99) => ?_)
  · refine y_iload_n (pc := 22) o dX11_lot_22 rfl ?_
    refine y_bipush (pc := 23) (x := 50) o dX11_lot_23 (by decide) ?_
    refine y_bipush (pc := 25) (x := 99) o dX11_lot_25 (by decide) ?_
    refine z_callS (pc := 27) (k := 0) (n := 0) (k' := 0) (n' := 0) o (As := [.int (b), .int (50), .int (99)]) (rest := []) (kIsOut _ _ _) ln_X11_71 dX11_lot_27 rfl rfl (Nat.le_of_ble_eq_true rfl) ⟨by decide, by decide⟩ ⟨rfl, rfl⟩ ⟨by decide, by decide⟩ rfl gq_nox2 ?_
    refine z_bne (pc := 30) (tgt := 55) o dX11_lot_30 rfl (fun (b9 : ¬ gin 50 b 99 = true) => ?_) (fun (b9 : ¬ (¬ gin 50 b 99 = true)) => ?_)
    · exact y_throwS (pc := 55) o 13 rfl th_79 qw_295 qw_38 dX11_lot_55 dX11_lot_58 dX11_lot_59 dX11_lot_61 dX11_lot_64 rfl ⟨by decide, Nat.le_of_ble_eq_true rfl⟩ (by decide) (by decide) (fun h hp => gE_mk (k := 1) (by simp only [F_lot, b1, eq_true b8, b9, not_true_eq_false, not_false_eq_true, if_true, if_false, or_true, true_or, or_false, false_or, and_true, true_and, and_false, false_and, or_self, and_self, eq_self, Bool.false_eq_true, ne_eq, reduceIte]) (.head _) hp)
    refine y_iload_n (pc := 33) o dX11_lot_33 rfl ?_
    refine y_iconst (pc := 34) (x := 1) o dX11_lot_34 (by decide) ?_
    refine y_bipush (pc := 35) (x := 9) o dX11_lot_35 (by decide) ?_
    refine z_callS (pc := 37) (k := 0) (n := 0) (k' := 0) (n' := 0) o (As := [.int (c), .int (1), .int (9)]) (rest := []) (kIsOut _ _ _) ln_X11_71 dX11_lot_37 rfl rfl (Nat.le_of_ble_eq_true rfl) ⟨by decide, by decide⟩ ⟨rfl, rfl⟩ ⟨by decide, by decide⟩ rfl gq_nox2 ?_
    refine z_bne (pc := 40) (tgt := 55) o dX11_lot_40 rfl (fun (b10 : ¬ gin 1 c 9 = true) => ?_) (fun (b10 : ¬ (¬ gin 1 c 9 = true)) => ?_)
    · exact y_throwS (pc := 55) o 13 rfl th_79 qw_295 qw_38 dX11_lot_55 dX11_lot_58 dX11_lot_59 dX11_lot_61 dX11_lot_64 rfl ⟨by decide, Nat.le_of_ble_eq_true rfl⟩ (by decide) (by decide) (fun h hp => gE_mk (k := 1) (by simp only [F_lot, b1, eq_true b8, Classical.not_not.mp b9, b10, not_true_eq_false, not_false_eq_true, if_true, if_false, or_true, true_or, or_false, false_or, and_true, true_and, and_false, false_and, or_self, and_self, eq_self, Bool.false_eq_true, ne_eq, reduceIte]) (.head _) hp)
    refine y_iload (pc := 43) o dX11_lot_43 rfl ?_
    refine y_iconst (pc := 45) (x := 1) o dX11_lot_45 (by decide) ?_
    refine y_sipush (pc := 46) (x := 500) o dX11_lot_46 (by decide) ?_
    refine z_callS (pc := 49) (k := 0) (n := 0) (k' := 0) (n' := 0) o (As := [.int (d), .int (1), .int (500)]) (rest := []) (kIsOut _ _ _) ln_X11_71 dX11_lot_49 rfl rfl (Nat.le_of_ble_eq_true rfl) ⟨by decide, by decide⟩ ⟨rfl, rfl⟩ ⟨by decide, by decide⟩ rfl gq_nox2 ?_
    refine z_beq (pc := 52) (tgt := 65) o dX11_lot_52 rfl (fun (b11 : ¬ (¬ gin 1 d 500 = true)) => ?_) (fun (b11 : ¬ gin 1 d 500 = true) => ?_)
    · refine y_aload_n (pc := 65) o dX11_lot_65 rfl ?_
      refine z_get (pc := 66) (K := (0, 0, 0)) (v := .ref (ad (4, 0, 0))) o fl_X11_26 dX11_lot_66 (gl_0 hC) rfl rfl ?_
      refine z_callV (pc := 69) (k := 0) (n := 0) (k' := 0) (n' := 0) o (b := ad (4, 0, 0)) (As := []) (rest := []) (sizeC (l := 0) (g := 0) (gl_4_0 hC)) ln_X11_127 dX11_lot_69 (z_rc (ci := 3) (K := (4, 0, 0)) rfl (gl_4_0 hC) rfl) rfl rfl (Nat.le_of_ble_eq_true rfl) ⟨by decide, by decide⟩ ⟨rfl, rfl⟩ ⟨by decide, by decide⟩ rfl gq_nox2 ?_
      refine y_bipush (pc := 72) (x := 16) o dX11_lot_72 (by decide) ?_
      refine y_icmp_lt (pc := 74) (tgt := 87) o dX11_lot_74 rfl (fun (b12 : (Int32.ofNat (C.2 6 0)) < 16) => ?_) (fun (b12 : ¬ (Int32.ofNat (C.2 6 0)) < 16) => ?_)
      · refine y_aload_n (pc := 87) o dX11_lot_87 rfl ?_
        refine z_get (pc := 88) (K := (0, 0, 0)) (v := .ref (ad (4, 0, 0))) o fl_X11_26 dX11_lot_88 (gl_0 hC) rfl rfl ?_
        refine z_new (pc := 91) (k := 0) (n := 0) o nw_X11_133 dX11_lot_91 (by decide) (by decide) (fun q13 => ?_)
        refine y_dup (pc := 94) o dX11_lot_94 rfl ?_
        refine y_iload_n (pc := 95) o dX11_lot_95 rfl ?_
        refine y_iload_n (pc := 96) o dX11_lot_96 rfl ?_
        refine y_iload_n (pc := 97) o dX11_lot_97 rfl ?_
        refine y_iload (pc := 98) o dX11_lot_98 rfl ?_
        refine z_callI (pc := 100) (k := 1) (n := 4) (k' := 1) (n' := 4) o (b := q13) (As := [.int (a), .int (b), .int (c), .int (d)]) (rest := [.ref (q13), .ref (ad (4, 0, 0))]) (kX3_init _ (a) (hch0 (Or.inr b8)) (b) (c) (d)) ln_X11_135 dX11_lot_100 rfl rfl (Nat.le_of_ble_eq_true rfl) ⟨by decide, by decide⟩ ⟨rfl, rfl⟩ ⟨by decide, by decide⟩ ?_
        refine y_callV (pc := 103) (k := 1) (n := 4) o (b := ad (4, 0, 0)) (As := [.ref q13]) (rest := []) (addCa (C := C) (R := R) (l := 0) (g := 0) (n := C.2 6 0) (row := (glist [a, b, c, d])) (a := 6) rfl (gl_4_0 hC) (Or.inr rfl) rfl (hBC 0 0 (by decide)) nC_6 (fun K hK => by cases hK)) ln_X11_138 dX11_lot_103 (z_rc (ci := 3) (K := (4, 0, 0)) rfl (gl_4_0 hC) rfl) rfl rfl (Nat.le_of_ble_eq_true rfl) ⟨by decide, by decide⟩ ⟨by decide, by decide⟩ (fun _ e => e) rfl gq_nox2 (fun v => y_and fun ev => y_ex fun ad14 => y_and fun had => y_and fun hadq => ?_)
        subst ev
        have e0 : ad14 (0, 0, 0) = ad (0, 0, 0) := had (0, 0, 0) (by simp) (by simp)
        have e20 : ad14 (20, 0, 0) = ad (20, 0, 0) := had (20, 0, 0) (by simp) (by simp)
        refine z_st (st' := [.int (1)]) rfl ?_
        rw [← e0]
        refine y_pop (pc := 106) o dX11_lot_106 rfl ?_
        refine y_aload_n (pc := 107) o dX11_lot_107 rfl ?_
        refine z_get (pc := 108) (K := (0, 0, 0)) (v := .ref (ad14 (4, 0, 0))) o fl_X11_26 dX11_lot_108 (gl_0 (gfix_new (a := 6) (by decide) hC)) rfl rfl ?_
        refine z_callV (pc := 111) (k := 2) (n := 260) (k' := 2) (n' := 260) o (b := ad14 (4, 0, 0)) (As := []) (rest := []) (sizeC (l := 0) (g := 0) (gl_4_0 (gfix_new (a := 6) (by decide) hC))) ln_X11_127 dX11_lot_111 (z_rc (ci := 3) (K := (4, 0, 0)) rfl (gl_4_0 (gfix_new (a := 6) (by decide) hC)) rfl) rfl rfl (Nat.le_of_ble_eq_true rfl) ⟨by decide, by decide⟩ ⟨rfl, rfl⟩ ⟨by decide, by decide⟩ rfl gq_nox2 ?_
        refine z_top (w := .int (Int32.ofNat (C.2 6 0 + 1))) (congrArg (fun z => Value.int (Int32.ofNat z)) (gnew_n _ _)) ?_
        refine y_iconst (pc := 114) (x := 1) o dX11_lot_114 (by decide) ?_
        refine y_isub (pc := 115) o dX11_lot_115 ?_
        exact y_iret (pc := 116) o dX11_lot_116 rfl (vp_nar_int _) (by decide) (by decide) (fun h hp => gQ_mk2 (by simp only [F_lot, b1, eq_true b8, Classical.not_not.mp b9, Classical.not_not.mp b10, Classical.not_not.mp b11, b12, not_true_eq_false, not_false_eq_true, if_true, if_false, or_true, true_or, or_false, false_or, and_true, true_and, and_false, false_and, or_self, and_self, eq_self, Bool.false_eq_true, ne_eq, reduceIte]) e0 e20 hp)
      exact y_throwS (pc := 77) o 14 rfl th_86 qw_366 qw_39 dX11_lot_77 dX11_lot_80 dX11_lot_81 dX11_lot_83 dX11_lot_86 rfl ⟨by decide, Nat.le_of_ble_eq_true rfl⟩ (by decide) (by decide) (fun h hp => gE_mk (k := 2) (by simp only [F_lot, b1, eq_true b8, Classical.not_not.mp b9, Classical.not_not.mp b10, Classical.not_not.mp b11, b12, not_true_eq_false, not_false_eq_true, if_true, if_false, or_true, true_or, or_false, false_or, and_true, true_and, and_false, false_and, or_self, and_self, eq_self, Bool.false_eq_true, ne_eq, reduceIte]) (.tail _ (.head _)) hp)
    exact y_throwS (pc := 55) o 13 rfl th_79 qw_295 qw_38 dX11_lot_55 dX11_lot_58 dX11_lot_59 dX11_lot_61 dX11_lot_64 rfl ⟨by decide, Nat.le_of_ble_eq_true rfl⟩ (by decide) (by decide) (fun h hp => gE_mk (k := 1) (by simp only [F_lot, b1, eq_true b8, Classical.not_not.mp b9, Classical.not_not.mp b10, b11, not_true_eq_false, not_false_eq_true, if_true, if_false, or_true, true_or, or_false, false_or, and_true, true_and, and_false, false_and, or_self, and_self, eq_self, Bool.false_eq_true, ne_eq, reduceIte]) (.head _) hp)
  exact y_throwS (pc := 12) o 12 rfl th_79 qw_295 qw_38 dX11_lot_12 dX11_lot_15 dX11_lot_16 dX11_lot_18 dX11_lot_21 rfl ⟨by decide, Nat.le_of_ble_eq_true rfl⟩ (by decide) (by decide) (fun h hp => gE_mk (k := 1) (by simp only [F_lot, b1, b8, not_true_eq_false, not_false_eq_true, if_true, if_false, or_true, true_or, or_false, false_or, and_true, true_and, and_false, false_and, or_self, and_self, eq_self, Bool.false_eq_true, ne_eq, reduceIte]) (.head _) hp)

theorem p_kilos {κ : gq_K} {ad : gKey → Nat} {C R : gG} {T : List (Nat × va_E)} (hC : gfix C.2) (hBC : gcnt C.2) (hM : gmach C) (a : Int32) : gq_C κ mX11_kilos [.ref (ad (0, 0, 0)), .int (a)] (gR κ ad (C, R) T) (gQ κ ad R T (F_kilos C a)) (gE κ ad R T [("java/lang/IndexOutOfBoundsException", 1)] (F_kilos C a)) := by
  refine gq_enter (by decide +kernel) rfl (Nat.le_of_ble_eq_true rfl) rfl (fun f o => ?_)
  refine y_aload_n (pc := 0) o dX11_kilos_0 rfl ?_
  refine y_iload_n (pc := 1) o dX11_kilos_1 rfl ?_
  refine z_callV (pc := 2) (k := 0) (n := 0) (k' := 1) (n' := 6) o (b := ad (0, 0, 0)) (As := [.int (a)]) (rest := []) (kLotN hC hBC a) ln_X11_142 dX11_kilos_2 (z_rc (ci := 15) (K := (0, 0, 0)) rfl (gl_0 hC) rfl) rfl rfl (Nat.le_of_ble_eq_true rfl) ⟨by decide, by decide⟩ ⟨rfl, rfl⟩ ⟨by decide, by decide⟩ rfl (fun x h hE => by obtain ⟨rfl, hz, hr⟩ := hE; exact gE_mk (k := 1) (by simp only [F_kilos, hz, not_true_eq_false, not_false_eq_true, if_true, if_false, or_true, true_or, or_false, false_or, and_true, true_and, and_false, false_and, or_self, and_self, eq_self, Bool.false_eq_true, ne_eq, reduceIte]) (.head _) hr) (y_and fun (g1 : gix (C.2 6 0) a = true) => ?_)
  refine z_get (pc := 5) (K := (6, 0, a.toNatClampNeg)) (v := .int (C.1 (6, 0, a.toNatClampNeg) 3)) o fl_X11_146 dX11_kilos_5 (gl_6 (gix_lt (Nat.le_trans (hBC 0 0 (by decide)) (by decide)) g1)) rfl rfl ?_
  exact y_iret (pc := 8) o dX11_kilos_8 rfl (vp_nar_int _) (by decide) (by decide) (fun h hp => gQ_mk (by simp only [F_kilos, g1, not_true_eq_false, not_false_eq_true, if_true, if_false, or_true, true_or, or_false, false_or, and_true, true_and, and_false, false_and, or_self, and_self, eq_self, Bool.false_eq_true, ne_eq, reduceIte]) hp)

theorem p_mix {κ : gq_K} {ad : gKey → Nat} {C R : gG} {T : List (Nat × va_E)} (hC : gfix C.2) (hBC : gcnt C.2) (hM : gmach C) (hL : ∀ i, i < C.2 6 0 → ¬ 500 < C.1 (6, 0, i) 3) (a : Int32) (b : Int32) (c : Int32) (d : Int32) (e : Int32) : gq_C κ mX11_mix [.ref (ad (0, 0, 0)), .int (a), .int (b), .int (c), .int (d), .int (e)] (gR κ ad (C, R) T) (gQ κ ad R T (F_mix C a b c d e)) (gE κ ad R T [("java/lang/IndexOutOfBoundsException", 1), ("java/lang/IllegalArgumentException", 2), ("java/lang/UnsupportedOperationException", 3), ("java/lang/IllegalStateException", 4)] (F_mix C a b c d e)) := by
  refine gq_enter (by decide +kernel) rfl (Nat.le_of_ble_eq_true rfl) rfl (fun f o => ?_)
  refine y_aload_n (pc := 0) o dX11_mix_0 rfl ?_
  refine y_iload_n (pc := 1) o dX11_mix_1 rfl ?_
  refine z_callV (pc := 2) (k := 0) (n := 0) (k' := 1) (n' := 6) o (b := ad (0, 0, 0)) (As := [.int (a)]) (rest := []) (kLotN hC hBC a) ln_X11_142 dX11_mix_2 (z_rc (ci := 15) (K := (0, 0, 0)) rfl (gl_0 hC) rfl) rfl rfl (Nat.le_of_ble_eq_true rfl) ⟨by decide, by decide⟩ ⟨rfl, rfl⟩ ⟨by decide, by decide⟩ rfl (fun x h hE => by obtain ⟨rfl, hz, hr⟩ := hE; exact gE_mk (k := 1) (by simp only [F_mix, hz, not_true_eq_false, not_false_eq_true, if_true, if_false, or_true, true_or, or_false, false_or, and_true, true_and, and_false, false_and, or_self, and_self, eq_self, Bool.false_eq_true, ne_eq, reduceIte]) (.head _) hr) (y_and fun (g1 : gix (C.2 6 0) a = true) => ?_)
  refine y_astore (pc := 5) (i := 6) (lv' := [(6, .ref (ad (6, 0, a.toNatClampNeg))), (0, .ref (ad (0, 0, 0))), (1, .int (a)), (2, .int (b)), (3, .int (c)), (4, .int (d)), (5, .int (e))]) o dX11_mix_5 (by decide) rfl ?_
  refine y_aload_n (pc := 7) o dX11_mix_7 rfl ?_
  refine y_iload_n (pc := 8) o dX11_mix_8 rfl ?_
  refine z_callV (pc := 9) (k := 1) (n := 6) (k' := 2) (n' := 12) o (b := ad (0, 0, 0)) (As := [.int (b)]) (rest := []) (kLotN hC hBC b) ln_X11_142 dX11_mix_9 (z_rc (ci := 15) (K := (0, 0, 0)) rfl (gl_0 hC) rfl) rfl rfl (Nat.le_of_ble_eq_true rfl) ⟨by decide, by decide⟩ ⟨rfl, rfl⟩ ⟨by decide, by decide⟩ rfl (fun x h hE => by obtain ⟨rfl, hz, hr⟩ := hE; exact gE_mk (k := 1) (by simp only [F_mix, g1, hz, not_true_eq_false, not_false_eq_true, if_true, if_false, or_true, true_or, or_false, false_or, and_true, true_and, and_false, false_and, or_self, and_self, eq_self, Bool.false_eq_true, ne_eq, reduceIte]) (.head _) hr) (y_and fun (g2 : gix (C.2 6 0) b = true) => ?_)
  refine y_astore (pc := 12) (i := 7) (lv' := [(7, .ref (ad (6, 0, b.toNatClampNeg))), (6, .ref (ad (6, 0, a.toNatClampNeg))), (0, .ref (ad (0, 0, 0))), (1, .int (a)), (2, .int (b)), (3, .int (c)), (4, .int (d)), (5, .int (e))]) o dX11_mix_12 (by decide) rfl ?_
  refine y_iload_n (pc := 14) o dX11_mix_14 rfl ?_
  refine y_iconst (pc := 15) (x := 1) o dX11_mix_15 (by decide) ?_
  refine y_icmp_lt (pc := 16) (tgt := 36) o dX11_mix_16 rfl (fun (b3 : c < 1) => ?_) (fun (b3 : ¬ c < 1) => ?_)
  · exact y_throwS (pc := 36) o 16 rfl th_79 qw_295 qw_38 dX11_mix_36 dX11_mix_39 dX11_mix_40 dX11_mix_42 dX11_mix_45 rfl ⟨by decide, Nat.le_of_ble_eq_true rfl⟩ (by decide) (by decide) (fun h hp => gE_mk (k := 2) (by simp only [F_mix, b3, g1, g2, not_true_eq_false, not_false_eq_true, if_true, if_false, or_true, true_or, or_false, false_or, and_true, true_and, and_false, false_and, or_self, and_self, eq_self, Bool.false_eq_true, ne_eq, reduceIte]) (.tail _ (.head _)) hp)
  refine y_iload (pc := 19) o dX11_mix_19 rfl ?_
  refine y_iconst (pc := 21) (x := 1) o dX11_mix_21 (by decide) ?_
  refine y_icmp_lt (pc := 22) (tgt := 36) o dX11_mix_22 rfl (fun (b4 : d < 1) => ?_) (fun (b4 : ¬ d < 1) => ?_)
  · exact y_throwS (pc := 36) o 16 rfl th_79 qw_295 qw_38 dX11_mix_36 dX11_mix_39 dX11_mix_40 dX11_mix_42 dX11_mix_45 rfl ⟨by decide, Nat.le_of_ble_eq_true rfl⟩ (by decide) (by decide) (fun h hp => gE_mk (k := 2) (by simp only [F_mix, b3, b4, g1, g2, not_true_eq_false, not_false_eq_true, if_true, if_false, or_true, true_or, or_false, false_or, and_true, true_and, and_false, false_and, or_self, and_self, eq_self, Bool.false_eq_true, ne_eq, reduceIte]) (.tail _ (.head _)) hp)
  refine y_iload (pc := 25) o dX11_mix_25 rfl ?_
  refine y_iconst (pc := 27) (x := 1) o dX11_mix_27 (by decide) ?_
  refine y_bipush (pc := 28) (x := 9) o dX11_mix_28 (by decide) ?_
  refine z_callS (pc := 30) (k := 2) (n := 12) (k' := 2) (n' := 12) o (As := [.int (e), .int (1), .int (9)]) (rest := []) (kIsOut _ _ _) ln_X11_71 dX11_mix_30 rfl rfl (Nat.le_of_ble_eq_true rfl) ⟨by decide, by decide⟩ ⟨rfl, rfl⟩ ⟨by decide, by decide⟩ rfl gq_nox2 ?_
  refine z_beq (pc := 33) (tgt := 46) o dX11_mix_33 rfl (fun (b5 : ¬ (¬ gin 1 e 9 = true)) => ?_) (fun (b5 : ¬ gin 1 e 9 = true) => ?_)
  · refine y_aload (pc := 46) o dX11_mix_46 rfl ?_
    refine z_get (pc := 48) (K := (6, 0, a.toNatClampNeg)) (v := .int (C.1 (6, 0, a.toNatClampNeg) 0)) o fl_X11_151 dX11_mix_48 (gl_6 (gix_lt (Nat.le_trans (hBC 0 0 (by decide)) (by decide)) g1)) rfl rfl ?_
    refine y_bipush (pc := 51) (x := 103) o dX11_mix_51 (by decide) ?_
    refine y_icmp_ne (pc := 53) (tgt := 66) o dX11_mix_53 rfl (fun (b6 : ¬ (C.1 (6, 0, a.toNatClampNeg) 0) = 103) => ?_) (fun (b6 : (C.1 (6, 0, a.toNatClampNeg) 0) = 103) => ?_)
    · exact y_throwS (pc := 66) o 17 rfl th_105 qw_400 qw_40 dX11_mix_66 dX11_mix_69 dX11_mix_70 dX11_mix_72 dX11_mix_75 rfl ⟨by decide, Nat.le_of_ble_eq_true rfl⟩ (by decide) (by decide) (fun h hp => gE_mk (k := 3) (by simp only [F_mix, b3, b4, Classical.not_not.mp b5, b6, g1, g2, not_true_eq_false, not_false_eq_true, if_true, if_false, or_true, true_or, or_false, false_or, and_true, true_and, and_false, false_and, or_self, and_self, eq_self, Bool.false_eq_true, ne_eq, reduceIte]) (.tail _ (.tail _ (.head _))) hp)
    refine y_aload (pc := 56) o dX11_mix_56 rfl ?_
    refine z_get (pc := 58) (K := (6, 0, b.toNatClampNeg)) (v := .int (C.1 (6, 0, b.toNatClampNeg) 0)) o fl_X11_151 dX11_mix_58 (gl_6 (gix_lt (Nat.le_trans (hBC 0 0 (by decide)) (by decide)) g2)) rfl rfl ?_
    refine y_bipush (pc := 61) (x := 99) o dX11_mix_61 (by decide) ?_
    refine y_icmp_eq (pc := 63) (tgt := 76) o dX11_mix_63 rfl (fun (b7 : (C.1 (6, 0, b.toNatClampNeg) 0) = 99) => ?_) (fun (b7 : ¬ (C.1 (6, 0, b.toNatClampNeg) 0) = 99) => ?_)
    · refine y_aload (pc := 76) o dX11_mix_76 rfl ?_
      refine z_get (pc := 78) (K := (6, 0, a.toNatClampNeg)) (v := .int (C.1 (6, 0, a.toNatClampNeg) 3)) o fl_X11_146 dX11_mix_78 (gl_6 (gix_lt (Nat.le_trans (hBC 0 0 (by decide)) (by decide)) g1)) rfl rfl ?_
      refine y_iload_n (pc := 81) o dX11_mix_81 rfl ?_
      refine y_icmp_lt (pc := 82) (tgt := 95) o dX11_mix_82 rfl (fun (b8 : (C.1 (6, 0, a.toNatClampNeg) 3) < c) => ?_) (fun (b8 : ¬ (C.1 (6, 0, a.toNatClampNeg) 3) < c) => ?_)
      · exact y_throwS (pc := 95) o 18 rfl th_105 qw_400 qw_40 dX11_mix_95 dX11_mix_98 dX11_mix_99 dX11_mix_101 dX11_mix_104 rfl ⟨by decide, Nat.le_of_ble_eq_true rfl⟩ (by decide) (by decide) (fun h hp => gE_mk (k := 3) (by simp only [F_mix, b3, b4, Classical.not_not.mp b5, eq_true b6, eq_true b7, b8, g1, g2, not_true_eq_false, not_false_eq_true, if_true, if_false, or_true, true_or, or_false, false_or, and_true, true_and, and_false, false_and, or_self, and_self, eq_self, Bool.false_eq_true, ne_eq, reduceIte]) (.tail _ (.tail _ (.head _))) hp)
      refine y_aload (pc := 85) o dX11_mix_85 rfl ?_
      refine z_get (pc := 87) (K := (6, 0, b.toNatClampNeg)) (v := .int (C.1 (6, 0, b.toNatClampNeg) 3)) o fl_X11_146 dX11_mix_87 (gl_6 (gix_lt (Nat.le_trans (hBC 0 0 (by decide)) (by decide)) g2)) rfl rfl ?_
      refine y_iload (pc := 90) o dX11_mix_90 rfl ?_
      refine z_icmp_ge (pc := 92) (tgt := 105) o dX11_mix_92 rfl (fun (b9 : ¬ (C.1 (6, 0, b.toNatClampNeg) 3) < d) => ?_) (fun (b9 : (C.1 (6, 0, b.toNatClampNeg) 3) < d) => ?_)
      · refine y_aload_n (pc := 105) o dX11_mix_105 rfl ?_
        refine z_get (pc := 106) (K := (0, 0, 0)) (v := .ref (ad (1, 0, 0))) o fl_X11_10 dX11_mix_106 (gl_0 hC) rfl rfl ?_
        refine y_aload_n (pc := 109) o dX11_mix_109 rfl ?_
        refine z_get (pc := 110) (K := (0, 0, 0)) (v := .ref (ad (1, 0, 0))) o fl_X11_10 dX11_mix_110 (gl_0 hC) rfl rfl ?_
        refine z_get (pc := 113) (K := (1, 0, 0)) (v := .ref (ad (3, 0, 0))) o fl_X11_158 dX11_mix_113 (gl_1 hC) rfl rfl ?_
        refine z_callV (pc := 116) (k := 2) (n := 12) (k' := 2) (n' := 12) o (b := ad (1, 0, 0)) (As := [.ref (ad (3, 0, 0))]) (rest := []) (kMoves hC hM 0 (by decide)) ln_X11_119 dX11_mix_116 (z_rc (ci := 5) (K := (1, 0, 0)) rfl (gl_1 hC) rfl) rfl rfl (Nat.le_of_ble_eq_true rfl) ⟨by decide, by decide⟩ ⟨rfl, rfl⟩ ⟨by decide, by decide⟩ rfl gq_nox2 ?_
        refine z_bne (pc := 119) (tgt := 132) o dX11_mix_119 rfl (fun (b10 : gmov C 4 0 = true) => ?_) (fun (b10 : ¬ (gmov C 4 0 = true)) => ?_)
        · refine y_aload_n (pc := 132) o dX11_mix_132 rfl ?_
          refine z_get (pc := 133) (K := (0, 0, 0)) (v := .ref (ad (4, 1, 0))) o fl_X11_30 dX11_mix_133 (gl_0 hC) rfl rfl ?_
          refine z_callV (pc := 136) (k := 2) (n := 12) (k' := 2) (n' := 12) o (b := ad (4, 1, 0)) (As := []) (rest := []) (sizeC (l := 1) (g := 0) (gl_4_1 hC)) ln_X11_127 dX11_mix_136 (z_rc (ci := 3) (K := (4, 1, 0)) rfl (gl_4_1 hC) rfl) rfl rfl (Nat.le_of_ble_eq_true rfl) ⟨by decide, by decide⟩ ⟨rfl, rfl⟩ ⟨by decide, by decide⟩ rfl gq_nox2 ?_
          refine y_bipush (pc := 139) (x := 12) o dX11_mix_139 (by decide) ?_
          refine y_icmp_lt (pc := 141) (tgt := 154) o dX11_mix_141 rfl (fun (b11 : (Int32.ofNat (C.2 7 0)) < 12) => ?_) (fun (b11 : ¬ (Int32.ofNat (C.2 7 0)) < 12) => ?_)
          · refine y_bipush (pc := 154) (x := 10) o dX11_mix_154 (by decide) ?_
            refine y_iload_n (pc := 156) o dX11_mix_156 rfl ?_
            refine y_imul (pc := 157) o dX11_mix_157 ?_
            refine y_aload (pc := 158) o dX11_mix_158 rfl ?_
            refine z_get (pc := 160) (K := (6, 0, a.toNatClampNeg)) (v := .int (C.1 (6, 0, a.toNatClampNeg) 1)) o fl_X11_165 dX11_mix_160 (gl_6 (gix_lt (Nat.le_trans (hBC 0 0 (by decide)) (by decide)) g1)) rfl rfl ?_
            refine y_imul (pc := 163) o dX11_mix_163 ?_
            refine y_iload_n (pc := 164) o dX11_mix_164 rfl ?_
            refine y_iload (pc := 165) o dX11_mix_165 rfl ?_
            refine y_iadd (pc := 167) o dX11_mix_167 ?_
            refine y_idiv (pc := 168) o dX11_mix_168 (hdiv (hL _ (gix_lt (Nat.le_trans (hBC 0 0 (by decide)) (by decide)) g1)) (hL _ (gix_lt (Nat.le_trans (hBC 0 0 (by decide)) (by decide)) g2)) b3 b4 b8 b9) ?_
            refine y_istore (pc := 169) (i := 8) (lv' := [(8, .int (((10 * c) * (C.1 (6, 0, a.toNatClampNeg) 1)) / (c + d))), (7, .ref (ad (6, 0, b.toNatClampNeg))), (6, .ref (ad (6, 0, a.toNatClampNeg))), (0, .ref (ad (0, 0, 0))), (1, .int (a)), (2, .int (b)), (3, .int (c)), (4, .int (d)), (5, .int (e))]) o dX11_mix_169 (by decide) rfl ?_
            refine y_iload (pc := 171) o dX11_mix_171 rfl ?_
            refine y_bipush (pc := 173) (x := 9) o dX11_mix_173 (by decide) ?_
            refine y_iadd (pc := 175) o dX11_mix_175 ?_
            refine y_aload (pc := 176) o dX11_mix_176 rfl ?_
            refine z_get (pc := 178) (K := (6, 0, a.toNatClampNeg)) (v := .int (C.1 (6, 0, a.toNatClampNeg) 2)) o fl_X11_168 dX11_mix_178 (gl_6 (gix_lt (Nat.le_trans (hBC 0 0 (by decide)) (by decide)) g1)) rfl rfl ?_
            refine y_isub (pc := 181) o dX11_mix_181 ?_
            refine y_aload (pc := 182) o dX11_mix_182 rfl ?_
            refine z_get (pc := 184) (K := (6, 0, b.toNatClampNeg)) (v := .int (C.1 (6, 0, b.toNatClampNeg) 2)) o fl_X11_168 dX11_mix_184 (gl_6 (gix_lt (Nat.le_trans (hBC 0 0 (by decide)) (by decide)) g2)) rfl rfl ?_
            refine y_iconst (pc := 187) (x := 3) o dX11_mix_187 (by decide) ?_
            refine y_idiv (pc := 188) o dX11_mix_188 (by decide) ?_
            refine y_isub (pc := 189) o dX11_mix_189 ?_
            refine y_iconst (pc := 190) (x := 0) o dX11_mix_190 (by decide) ?_
            refine y_bipush (pc := 191) (x := 9) o dX11_mix_191 (by decide) ?_
            refine z_callS (pc := 193) (k := 2) (n := 12) (k' := 2) (n' := 12) o (As := [.int (((e + 9) - (C.1 (6, 0, a.toNatClampNeg) 2)) - ((C.1 (6, 0, b.toNatClampNeg) 2) / 3)), .int (0), .int (9)]) (rest := []) (kClamp _ _ _) ln_X11_170 dX11_mix_193 rfl rfl (Nat.le_of_ble_eq_true rfl) ⟨by decide, by decide⟩ ⟨rfl, rfl⟩ ⟨by decide, by decide⟩ rfl gq_nox2 ?_
            refine y_istore (pc := 196) (i := 9) (lv' := [(9, .int (gclamp (((e + 9) - (C.1 (6, 0, a.toNatClampNeg) 2)) - ((C.1 (6, 0, b.toNatClampNeg) 2) / 3)) 0 9)), (8, .int (((10 * c) * (C.1 (6, 0, a.toNatClampNeg) 1)) / (c + d))), (7, .ref (ad (6, 0, b.toNatClampNeg))), (6, .ref (ad (6, 0, a.toNatClampNeg))), (0, .ref (ad (0, 0, 0))), (1, .int (a)), (2, .int (b)), (3, .int (c)), (4, .int (d)), (5, .int (e))]) o dX11_mix_196 (by decide) rfl ?_
            refine y_aload (pc := 198) o dX11_mix_198 rfl ?_
            refine y_dup (pc := 200) o dX11_mix_200 rfl ?_
            refine z_get (pc := 201) (K := (6, 0, a.toNatClampNeg)) (v := .int (C.1 (6, 0, a.toNatClampNeg) 3)) o fl_X11_146 dX11_mix_201 (gl_6 (gix_lt (Nat.le_trans (hBC 0 0 (by decide)) (by decide)) g1)) rfl rfl ?_
            refine y_iload_n (pc := 204) o dX11_mix_204 rfl ?_
            refine y_isub (pc := 205) o dX11_mix_205 ?_
            refine z_putC (pc := 206) (K := (6, 0, a.toNatClampNeg)) (fd := 3) (x := (C.1 (6, 0, a.toNatClampNeg) 3) - c) o fw_X11_146 dX11_mix_206 (gl_6 (gix_lt (Nat.le_trans (hBC 0 0 (by decide)) (by decide)) g1)) (show (6:Nat) < 20 by decide) rfl (Nat.le_of_ble_eq_true rfl) (vp_nar_int _) rfl rfl pC_6_3 (z_refC (show (6:Nat) < 20 by decide) (gl_6 (gix_lt (Nat.le_trans (hBC 0 0 (by decide)) (by decide)) g1)) qC_6_3) ?_
            refine y_aload (pc := 209) o dX11_mix_209 rfl ?_
            refine y_dup (pc := 211) o dX11_mix_211 rfl ?_
            refine z_get (pc := 212) (K := (6, 0, b.toNatClampNeg)) (v := .int ((gup C (6, 0, a.toNatClampNeg) 3 ((C.1 (6, 0, a.toNatClampNeg) 3) - c)).1 (6, 0, b.toNatClampNeg) 3)) o fl_X11_146 dX11_mix_212 (gl_6 (gix_lt (Nat.le_trans (hBC 0 0 (by decide)) (by decide)) g2)) rfl rfl ?_
            refine y_iload (pc := 215) o dX11_mix_215 rfl ?_
            refine y_isub (pc := 217) o dX11_mix_217 ?_
            refine z_putC (pc := 218) (K := (6, 0, b.toNatClampNeg)) (fd := 3) (x := ((gup C (6, 0, a.toNatClampNeg) 3 ((C.1 (6, 0, a.toNatClampNeg) 3) - c)).1 (6, 0, b.toNatClampNeg) 3) - d) o fw_X11_146 dX11_mix_218 (gl_6 (gix_lt (Nat.le_trans (hBC 0 0 (by decide)) (by decide)) g2)) (show (6:Nat) < 20 by decide) rfl (Nat.le_of_ble_eq_true rfl) (vp_nar_int _) rfl rfl pC_6_3 (z_refC (show (6:Nat) < 20 by decide) (gl_6 (gix_lt (Nat.le_trans (hBC 0 0 (by decide)) (by decide)) g2)) qC_6_3) ?_
            refine y_aload_n (pc := 221) o dX11_mix_221 rfl ?_
            refine z_get (pc := 222) (K := (0, 0, 0)) (v := .ref (ad (4, 1, 0))) o fl_X11_30 dX11_mix_222 (gl_0 hC) rfl rfl ?_
            refine z_new (pc := 225) (k := 2) (n := 12) o nw_X11_174 dX11_mix_225 (by decide) (by decide) (fun q12 => ?_)
            refine y_dup (pc := 228) o dX11_mix_228 rfl ?_
            refine y_iload_n (pc := 229) o dX11_mix_229 rfl ?_
            refine y_iload_n (pc := 230) o dX11_mix_230 rfl ?_
            refine y_iload (pc := 231) o dX11_mix_231 rfl ?_
            refine y_iload (pc := 233) o dX11_mix_233 rfl ?_
            refine y_iload_n (pc := 235) o dX11_mix_235 rfl ?_
            refine y_iload (pc := 236) o dX11_mix_236 rfl ?_
            refine y_iadd (pc := 238) o dX11_mix_238 ?_
            refine z_callI (pc := 239) (k := 3) (n := 17) (k' := 3) (n' := 17) o (b := q12) (As := [.int (a), .int (b), .int (((10 * c) * (C.1 (6, 0, a.toNatClampNeg) 1)) / (c + d)), .int (gclamp (((e + 9) - (C.1 (6, 0, a.toNatClampNeg) 2)) - ((C.1 (6, 0, b.toNatClampNeg) 2) / 3)) 0 9), .int (c + d)]) (rest := [.ref (q12), .ref (ad (4, 1, 0))]) (kX5_init _ (a) (b) (((10 * c) * (C.1 (6, 0, a.toNatClampNeg) 1)) / (c + d)) (gclamp (((e + 9) - (C.1 (6, 0, a.toNatClampNeg) 2)) - ((C.1 (6, 0, b.toNatClampNeg) 2) / 3)) 0 9) (c + d)) ln_X11_176 dX11_mix_239 rfl rfl (Nat.le_of_ble_eq_true rfl) ⟨by decide, by decide⟩ ⟨rfl, rfl⟩ ⟨by decide, by decide⟩ ?_
            refine y_callV (pc := 242) (k := 3) (n := 17) o (b := ad (4, 1, 0)) (As := [.ref q12]) (rest := []) (addCa (C := (gup (gup C (6, 0, a.toNatClampNeg) 3 ((C.1 (6, 0, a.toNatClampNeg) 3) - c)) (6, 0, b.toNatClampNeg) 3 (((gup C (6, 0, a.toNatClampNeg) 3 ((C.1 (6, 0, a.toNatClampNeg) 3) - c)).1 (6, 0, b.toNatClampNeg) 3) - d))) (R := R) (l := 1) (g := 0) (n := C.2 7 0) (row := (glist [a, b, (10 * c * C.1 (6, 0, a.toNatClampNeg) 1) / (c + d), gclamp (e + 9 - C.1 (6, 0, a.toNatClampNeg) 2 - C.1 (6, 0, b.toNatClampNeg) 2 / 3) 0 9, c + d])) (a := 7) rfl (gl_4_1 hC) (Or.inr rfl) rfl (hBC 1 0 (by decide)) nC_7 (fun K hK => by cases hK)) ln_X11_138 dX11_mix_242 (z_rc (ci := 3) (K := (4, 1, 0)) rfl (gl_4_1 hC) rfl) rfl rfl (Nat.le_of_ble_eq_true rfl) ⟨by decide, by decide⟩ ⟨by decide, by decide⟩ (fun _ e => e) rfl gq_nox2 (fun v => y_and fun ev => y_ex fun ad13 => y_and fun had => y_and fun hadq => ?_)
            subst ev
            have e0 : ad13 (0, 0, 0) = ad (0, 0, 0) := had (0, 0, 0) (by simp) (by simp)
            have e20 : ad13 (20, 0, 0) = ad (20, 0, 0) := had (20, 0, 0) (by simp) (by simp)
            refine z_st (st' := [.int (1)]) rfl ?_
            rw [← e0]
            refine y_pop (pc := 245) o dX11_mix_245 rfl ?_
            refine y_aload_n (pc := 246) o dX11_mix_246 rfl ?_
            refine z_get (pc := 247) (K := (0, 0, 0)) (v := .ref (ad13 (4, 1, 0))) o fl_X11_30 dX11_mix_247 (gl_0 (gfix_new (a := 7) (by decide) hC)) rfl rfl ?_
            refine z_callV (pc := 250) (k := 4) (n := 273) (k' := 4) (n' := 273) o (b := ad13 (4, 1, 0)) (As := []) (rest := []) (sizeC (l := 1) (g := 0) (gl_4_1 (gfix_new (a := 7) (by decide) hC))) ln_X11_127 dX11_mix_250 (z_rc (ci := 3) (K := (4, 1, 0)) rfl (gl_4_1 (gfix_new (a := 7) (by decide) hC)) rfl) rfl rfl (Nat.le_of_ble_eq_true rfl) ⟨by decide, by decide⟩ ⟨rfl, rfl⟩ ⟨by decide, by decide⟩ rfl gq_nox2 ?_
            refine z_top (w := .int (Int32.ofNat (C.2 7 0 + 1))) (congrArg (fun z => Value.int (Int32.ofNat z)) (gnew_n _ _)) ?_
            refine y_iconst (pc := 253) (x := 1) o dX11_mix_253 (by decide) ?_
            refine y_isub (pc := 254) o dX11_mix_254 ?_
            exact y_iret (pc := 255) o dX11_mix_255 rfl (vp_nar_int _) (by decide) (by decide) (fun h hp => gQ_mk2 (by simp only [F_mix, b3, b4, Classical.not_not.mp b5, eq_true b6, eq_true b7, b8, b9, b10, b11, g1, g2, not_true_eq_false, not_false_eq_true, if_true, if_false, or_true, true_or, or_false, false_or, and_true, true_and, and_false, false_and, or_self, and_self, eq_self, Bool.false_eq_true, ne_eq, reduceIte]) e0 e20 hp)
          exact y_throwS (pc := 144) o 20 rfl th_86 qw_366 qw_39 dX11_mix_144 dX11_mix_147 dX11_mix_148 dX11_mix_150 dX11_mix_153 rfl ⟨by decide, Nat.le_of_ble_eq_true rfl⟩ (by decide) (by decide) (fun h hp => gE_mk (k := 4) (by simp only [F_mix, b3, b4, Classical.not_not.mp b5, eq_true b6, eq_true b7, b8, b9, b10, b11, g1, g2, not_true_eq_false, not_false_eq_true, if_true, if_false, or_true, true_or, or_false, false_or, and_true, true_and, and_false, false_and, or_self, and_self, eq_self, Bool.false_eq_true, ne_eq, reduceIte]) (.tail _ (.tail _ (.tail _ (.head _)))) hp)
        exact y_throwS (pc := 122) o 19 rfl th_105 qw_400 qw_40 dX11_mix_122 dX11_mix_125 dX11_mix_126 dX11_mix_128 dX11_mix_131 rfl ⟨by decide, Nat.le_of_ble_eq_true rfl⟩ (by decide) (by decide) (fun h hp => gE_mk (k := 3) (by simp only [F_mix, b3, b4, Classical.not_not.mp b5, eq_true b6, eq_true b7, b8, b9, b10, g1, g2, not_true_eq_false, not_false_eq_true, if_true, if_false, or_true, true_or, or_false, false_or, and_true, true_and, and_false, false_and, or_self, and_self, eq_self, Bool.false_eq_true, ne_eq, reduceIte]) (.tail _ (.tail _ (.head _))) hp)
      exact y_throwS (pc := 95) o 18 rfl th_105 qw_400 qw_40 dX11_mix_95 dX11_mix_98 dX11_mix_99 dX11_mix_101 dX11_mix_104 rfl ⟨by decide, Nat.le_of_ble_eq_true rfl⟩ (by decide) (by decide) (fun h hp => gE_mk (k := 3) (by simp only [F_mix, b3, b4, Classical.not_not.mp b5, eq_true b6, eq_true b7, b8, b9, g1, g2, not_true_eq_false, not_false_eq_true, if_true, if_false, or_true, true_or, or_false, false_or, and_true, true_and, and_false, false_and, or_self, and_self, eq_self, Bool.false_eq_true, ne_eq, reduceIte]) (.tail _ (.tail _ (.head _))) hp)
    exact y_throwS (pc := 66) o 17 rfl th_105 qw_400 qw_40 dX11_mix_66 dX11_mix_69 dX11_mix_70 dX11_mix_72 dX11_mix_75 rfl ⟨by decide, Nat.le_of_ble_eq_true rfl⟩ (by decide) (by decide) (fun h hp => gE_mk (k := 3) (by simp only [F_mix, b3, b4, Classical.not_not.mp b5, eq_true b6, b7, g1, g2, not_true_eq_false, not_false_eq_true, if_true, if_false, or_true, true_or, or_false, false_or, and_true, true_and, and_false, false_and, or_self, and_self, eq_self, Bool.false_eq_true, ne_eq, reduceIte]) (.tail _ (.tail _ (.head _))) hp)
  exact y_throwS (pc := 36) o 16 rfl th_79 qw_295 qw_38 dX11_mix_36 dX11_mix_39 dX11_mix_40 dX11_mix_42 dX11_mix_45 rfl ⟨by decide, Nat.le_of_ble_eq_true rfl⟩ (by decide) (by decide) (fun h hp => gE_mk (k := 2) (by simp only [F_mix, b3, b4, b5, g1, g2, not_true_eq_false, not_false_eq_true, if_true, if_false, or_true, true_or, or_false, false_or, and_true, true_and, and_false, false_and, or_self, and_self, eq_self, Bool.false_eq_true, ne_eq, reduceIte]) (.tail _ (.head _)) hp)

theorem p_mixture {κ : gq_K} {ad : gKey → Nat} {C R : gG} {T : List (Nat × va_E)} (hC : gfix C.2) (hBC : gcnt C.2) (hM : gmach C) (a : Int32) (b : Int32) : gq_C κ mX11_mixture [.ref (ad (0, 0, 0)), .int (a), .int (b)] (gR κ ad (C, R) T) (gQ κ ad R T (F_mixture C a b)) (gE κ ad R T [("java/lang/IndexOutOfBoundsException", 1), ("java/lang/IllegalArgumentException", 2)] (F_mixture C a b)) := by
  refine gq_enter (by decide +kernel) rfl (Nat.le_of_ble_eq_true rfl) rfl (fun f o => ?_)
  refine y_aload_n (pc := 0) o dX11_mixture_0 rfl ?_
  refine y_iload_n (pc := 1) o dX11_mixture_1 rfl ?_
  refine z_callV (pc := 2) (k := 0) (n := 0) (k' := 1) (n' := 6) o (b := ad (0, 0, 0)) (As := [.int (a)]) (rest := []) (kMixN hC hBC a) ln_X11_179 dX11_mixture_2 (z_rc (ci := 15) (K := (0, 0, 0)) rfl (gl_0 hC) rfl) rfl rfl (Nat.le_of_ble_eq_true rfl) ⟨by decide, by decide⟩ ⟨rfl, rfl⟩ ⟨by decide, by decide⟩ rfl (fun x h hE => by obtain ⟨rfl, hz, hr⟩ := hE; exact gE_mk (k := 1) (by simp only [F_mixture, hz, not_true_eq_false, not_false_eq_true, if_true, if_false, or_true, true_or, or_false, false_or, and_true, true_and, and_false, false_and, or_self, and_self, eq_self, Bool.false_eq_true, ne_eq, reduceIte]) (.head _) hr) (y_and fun (g1 : gix (C.2 7 0) a = true) => ?_)
  refine y_astore_n (pc := 5) (i := 3) (lv' := [(3, .ref (ad (7, 0, a.toNatClampNeg))), (0, .ref (ad (0, 0, 0))), (1, .int (a)), (2, .int (b))]) o dX11_mixture_5 rfl (by decide) rfl ?_
  refine y_iload_n (pc := 6) o dX11_mixture_6 rfl ?_
  by_cases b2 : b = 99
  · refine z_lookupK (pc := 7) (tgt := 40) (off := 33) o 99 dX11_mixture_7 (by decide) b2 (by decide) rfl ?_
    refine y_aload_n (pc := 40) o dX11_mixture_40 rfl ?_
    refine z_get (pc := 41) (K := (7, 0, a.toNatClampNeg)) (v := .int (C.1 (7, 0, a.toNatClampNeg) 2)) o fl_X11_183 dX11_mixture_41 (gl_7 (gix_lt (Nat.le_trans (hBC 1 0 (by decide)) (by decide)) g1)) rfl rfl ?_
    exact y_iret (pc := 44) o dX11_mixture_44 rfl (vp_nar_int _) (by decide) (by decide) (fun h hp => gQ_mk (by simp only [F_mixture, eq_true b2, g1, not_true_eq_false, not_false_eq_true, if_true, if_false, or_true, true_or, or_false, false_or, and_true, true_and, and_false, false_and, or_self, and_self, eq_self, Bool.false_eq_true, ne_eq, reduceIte]) hp)
  by_cases b3 : b = 102
  · refine z_lookupK (pc := 7) (tgt := 45) (off := 38) o 102 dX11_mixture_7 (by decide) b3 (by decide) rfl ?_
    refine y_aload_n (pc := 45) o dX11_mixture_45 rfl ?_
    refine z_get (pc := 46) (K := (7, 0, a.toNatClampNeg)) (v := .int (C.1 (7, 0, a.toNatClampNeg) 3)) o fl_X11_186 dX11_mixture_46 (gl_7 (gix_lt (Nat.le_trans (hBC 1 0 (by decide)) (by decide)) g1)) rfl rfl ?_
    exact y_iret (pc := 49) o dX11_mixture_49 rfl (vp_nar_int _) (by decide) (by decide) (fun h hp => gQ_mk (by simp only [F_mixture, b2, eq_true b3, g1, not_true_eq_false, not_false_eq_true, if_true, if_false, or_true, true_or, or_false, false_or, and_true, true_and, and_false, false_and, or_self, and_self, eq_self, Bool.false_eq_true, ne_eq, reduceIte]) hp)
  by_cases b4 : b = 107
  · refine z_lookupK (pc := 7) (tgt := 50) (off := 43) o 107 dX11_mixture_7 (by decide) b4 (by decide) rfl ?_
    refine y_aload_n (pc := 50) o dX11_mixture_50 rfl ?_
    refine z_get (pc := 51) (K := (7, 0, a.toNatClampNeg)) (v := .int (C.1 (7, 0, a.toNatClampNeg) 4)) o fl_X11_189 dX11_mixture_51 (gl_7 (gix_lt (Nat.le_trans (hBC 1 0 (by decide)) (by decide)) g1)) rfl rfl ?_
    exact y_iret (pc := 54) o dX11_mixture_54 rfl (vp_nar_int _) (by decide) (by decide) (fun h hp => gQ_mk (by simp only [F_mixture, b2, b3, eq_true b4, g1, not_true_eq_false, not_false_eq_true, if_true, if_false, or_true, true_or, or_false, false_or, and_true, true_and, and_false, false_and, or_self, and_self, eq_self, Bool.false_eq_true, ne_eq, reduceIte]) hp)
  refine z_lookupD (pc := 7) (tgt := 55) o [99, 102, 107] dX11_mixture_7 (by decide) (by decide) (by simp only [List.mem_cons, List.not_mem_nil, or_false, forall_eq_or_imp, forall_eq]; exact ⟨b2, b3, b4⟩) rfl ?_
  exact y_throwS (pc := 55) o 22 rfl th_79 qw_295 qw_38 dX11_mixture_55 dX11_mixture_58 dX11_mixture_59 dX11_mixture_61 dX11_mixture_64 rfl ⟨by decide, Nat.le_of_ble_eq_true rfl⟩ (by decide) (by decide) (fun h hp => gE_mk (k := 2) (by simp only [F_mixture, b2, b3, b4, g1, not_true_eq_false, not_false_eq_true, if_true, if_false, or_true, true_or, or_false, false_or, and_true, true_and, and_false, false_and, or_self, and_self, eq_self, Bool.false_eq_true, ne_eq, reduceIte]) (.tail _ (.head _)) hp)

theorem p_worn {κ : gq_K} {ad : gKey → Nat} {C R : gG} {T : List (Nat × va_E)} (hC : gfix C.2) (hBC : gcnt C.2) (hM : gmach C) (a : Int32) : gq_C κ mX11_worn [.ref (ad (0, 0, 0)), .int (a)] (gR κ ad (C, R) T) (gQ κ ad R T (F_worn C a)) (gE κ ad R T [("java/lang/IllegalArgumentException", 1)] (F_worn C a)) := by
  refine gq_enter (by decide +kernel) rfl (Nat.le_of_ble_eq_true rfl) rfl (fun f o => ?_)
  refine y_iload_n (pc := 0) o dX11_worn_0 rfl ?_
  refine y_if_lt (pc := 1) (tgt := 13) o dX11_worn_1 rfl (fun (b1 : a < 0) => ?_) (fun (b1 : ¬ a < 0) => ?_)
  · exact y_throwS (pc := 13) o 28 rfl th_79 qw_295 qw_38 dX11_worn_13 dX11_worn_16 dX11_worn_17 dX11_worn_19 dX11_worn_22 rfl ⟨by decide, Nat.le_of_ble_eq_true rfl⟩ (by decide) (by decide) (fun h hp => gE_mk (k := 1) (by simp only [F_worn, b1, not_true_eq_false, not_false_eq_true, if_true, if_false, or_true, true_or, or_false, false_or, and_true, true_and, and_false, false_and, or_self, and_self, eq_self, Bool.false_eq_true, ne_eq, reduceIte]) (.head _) hp)
  refine y_iload_n (pc := 4) o dX11_worn_4 rfl ?_
  refine y_aload_n (pc := 5) o dX11_worn_5 rfl ?_
  refine z_get (pc := 6) (K := (0, 0, 0)) (v := .ref (ad (14, 0, 0))) o fl_X11_48 dX11_worn_6 (gl_0 hC) rfl rfl ?_
  refine z_alen (pc := 9) (K := (14, 0, 0)) (v := 4) o dX11_worn_9 (gl_14 hC) rfl rfl ?_
  refine y_icmp_lt (pc := 10) (tgt := 23) o dX11_worn_10 rfl (fun (b2 : a < 4) => ?_) (fun (b2 : ¬ a < 4) => ?_)
  · refine y_aload_n (pc := 23) o dX11_worn_23 rfl ?_
    refine z_get (pc := 24) (K := (0, 0, 0)) (v := .ref (ad (14, 0, 0))) o fl_X11_48 dX11_worn_24 (gl_0 hC) rfl rfl ?_
    refine y_iload_n (pc := 27) o dX11_worn_27 rfl ?_
    refine z_iald (pc := 28) (K := (14, 0, 0)) (i := a) (v := C.1 (14, 0, 0) a.toNatClampNeg) o dX11_worn_28 (gl_14 hC) rfl (gin4 b1 b2) (if_pos (gin_lt (gin4 b1 b2))) ?_
    exact y_iret (pc := 29) o dX11_worn_29 rfl (vp_nar_int _) (by decide) (by decide) (fun h hp => gQ_mk (by simp only [F_worn, b1, b2, not_true_eq_false, not_false_eq_true, if_true, if_false, or_true, true_or, or_false, false_or, and_true, true_and, and_false, false_and, or_self, and_self, eq_self, Bool.false_eq_true, ne_eq, reduceIte]) hp)
  exact y_throwS (pc := 13) o 28 rfl th_79 qw_295 qw_38 dX11_worn_13 dX11_worn_16 dX11_worn_17 dX11_worn_19 dX11_worn_22 rfl ⟨by decide, Nat.le_of_ble_eq_true rfl⟩ (by decide) (by decide) (fun h hp => gE_mk (k := 1) (by simp only [F_worn, b1, b2, not_true_eq_false, not_false_eq_true, if_true, if_false, or_true, true_or, or_false, false_or, and_true, true_and, and_false, false_and, or_self, and_self, eq_self, Bool.false_eq_true, ne_eq, reduceIte]) (.head _) hp)

theorem p_renew {κ : gq_K} {ad : gKey → Nat} {C R : gG} {T : List (Nat × va_E)} (hC : gfix C.2) (hBC : gcnt C.2) (hM : gmach C) (a : Int32) : gq_C κ mX11_renew [.ref (ad (0, 0, 0)), .int (a)] (gR κ ad (C, R) T) (gQ κ ad R T (F_renew C a)) (gE κ ad R T [("java/lang/IllegalArgumentException", 1)] (F_renew C a)) := by
  refine gq_enter (by decide +kernel) rfl (Nat.le_of_ble_eq_true rfl) rfl (fun f o => ?_)
  refine y_iload_n (pc := 0) o dX11_renew_0 rfl ?_
  refine y_if_lt (pc := 1) (tgt := 13) o dX11_renew_1 rfl (fun (b1 : a < 0) => ?_) (fun (b1 : ¬ a < 0) => ?_)
  · exact y_throwS (pc := 13) o 28 rfl th_79 qw_295 qw_38 dX11_renew_13 dX11_renew_16 dX11_renew_17 dX11_renew_19 dX11_renew_22 rfl ⟨by decide, Nat.le_of_ble_eq_true rfl⟩ (by decide) (by decide) (fun h hp => gE_mk (k := 1) (by simp only [F_renew, b1, not_true_eq_false, not_false_eq_true, if_true, if_false, or_true, true_or, or_false, false_or, and_true, true_and, and_false, false_and, or_self, and_self, eq_self, Bool.false_eq_true, ne_eq, reduceIte]) (.head _) hp)
  refine y_iload_n (pc := 4) o dX11_renew_4 rfl ?_
  refine y_aload_n (pc := 5) o dX11_renew_5 rfl ?_
  refine z_get (pc := 6) (K := (0, 0, 0)) (v := .ref (ad (14, 0, 0))) o fl_X11_48 dX11_renew_6 (gl_0 hC) rfl rfl ?_
  refine z_alen (pc := 9) (K := (14, 0, 0)) (v := 4) o dX11_renew_9 (gl_14 hC) rfl rfl ?_
  refine y_icmp_lt (pc := 10) (tgt := 23) o dX11_renew_10 rfl (fun (b2 : a < 4) => ?_) (fun (b2 : ¬ a < 4) => ?_)
  · refine y_aload_n (pc := 23) o dX11_renew_23 rfl ?_
    refine z_get (pc := 24) (K := (0, 0, 0)) (v := .ref (ad (14, 0, 0))) o fl_X11_48 dX11_renew_24 (gl_0 hC) rfl rfl ?_
    refine y_iload_n (pc := 27) o dX11_renew_27 rfl ?_
    refine z_iald (pc := 28) (K := (14, 0, 0)) (i := a) (v := C.1 (14, 0, 0) a.toNatClampNeg) o dX11_renew_28 (gl_14 hC) rfl (gin4 b1 b2) (if_pos (gin_lt (gin4 b1 b2))) ?_
    refine y_istore_n (pc := 29) (i := 2) (lv' := [(2, .int (C.1 (14, 0, 0) a.toNatClampNeg)), (0, .ref (ad (0, 0, 0))), (1, .int (a))]) o dX11_renew_29 rfl (by decide) rfl ?_
    refine y_aload_n (pc := 30) o dX11_renew_30 rfl ?_
    refine z_get (pc := 31) (K := (0, 0, 0)) (v := .ref (ad (14, 0, 0))) o fl_X11_48 dX11_renew_31 (gl_0 hC) rfl rfl ?_
    refine y_iload_n (pc := 34) o dX11_renew_34 rfl ?_
    refine y_iconst (pc := 35) (x := 0) o dX11_renew_35 (by decide) ?_
    refine z_iastC (pc := 36) (K := (14, 0, 0)) (i := a) (x := 0) o dX11_renew_36 (gl_14 hC) (show (14:Nat) < 20 by decide) (fun _ => rfl) (fun _ => rfl) (gin4 b1 b2) ?_
    refine y_iload_n (pc := 37) o dX11_renew_37 rfl ?_
    exact y_iret (pc := 38) o dX11_renew_38 rfl (vp_nar_int _) (by decide) (by decide) (fun h hp => gQ_mk (by simp only [F_renew, b1, b2, not_true_eq_false, not_false_eq_true, if_true, if_false, or_true, true_or, or_false, false_or, and_true, true_and, and_false, false_and, or_self, and_self, eq_self, Bool.false_eq_true, ne_eq, reduceIte]) hp)
  exact y_throwS (pc := 13) o 28 rfl th_79 qw_295 qw_38 dX11_renew_13 dX11_renew_16 dX11_renew_17 dX11_renew_19 dX11_renew_22 rfl ⟨by decide, Nat.le_of_ble_eq_true rfl⟩ (by decide) (by decide) (fun h hp => gE_mk (k := 1) (by simp only [F_renew, b1, b2, not_true_eq_false, not_false_eq_true, if_true, if_false, or_true, true_or, or_false, false_or, and_true, true_and, and_false, false_and, or_self, and_self, eq_self, Bool.false_eq_true, ne_eq, reduceIte]) (.head _) hp)

end Z16
