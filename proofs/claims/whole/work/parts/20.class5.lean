
section Z20
variable {κ : gq_K} {ad ad' : gKey → Nat} {C C' R : gG} {T : List (Nat × va_E)} {h : gq_H}
/-- a new list of parts gets its key -/
theorem gR.partsC {q : Nat} (hr : gR κ ad (C, R) ((q, .inr (3, [.int 0, .ref (κ.2.2 100), .int 0])) :: T) h) (hC : gfix C.2) (h13 : C.2 13 (C.2 11 0) = 0) : gR κ (gset ad (4, 7, C.2 11 0) q) (ginc C 4 7, R) T h := by
  refine hr.keyC (Or.inr (Or.inr (Or.inr ⟨rfl, by decide, h13⟩))) hC.2.2.2.2.2.1 ?_ ?_
  · show _ = ghdr κ (C.2 (6 + 7) (C.2 11 0)) _
    rw [h13]
    rfl
  · show ∀ K' ∈ (if C.2 (6 + 7) (C.2 11 0) = 0 then [] else [((5, 7, C.2 11 0) : gKey)]), _
    rw [h13, if_pos rfl]
    intro K hK
    cases hK
theorem gfix_gross {n : Nat} {row : Nat → Int32} (hC : gfix C.2) : gfix (gnew (ginc C 4 7) (11, 0, n) row).2 := by
  have e : ∀ x y : Nat, x ≠ 11 → x ≠ 4 → (gnew (ginc C 4 7) (11, 0, n) row).2 x y = C.2 x y := fun x y hx hy => by
    rw [gnew_2, if_neg (fun z => hx z.1), ginc_2, if_neg (fun z => hy z.1)]
  have e4 : ∀ l : Nat, l ≠ 7 → (gnew (ginc C 4 7) (11, 0, n) row).2 4 l = C.2 4 l := fun l hl => by
    rw [gnew_2, if_neg (fun z => absurd z.1 (by simp)), ginc_2, if_neg (fun z => hl z.2)]
  obtain ⟨h0, h1, h2, h3, h4, h5, h6, h7⟩ := hC
  refine ⟨?_, ?_, ?_, ?_, fun l hl => ?_, ?_, ?_, ?_⟩
  · rw [e _ _ (by decide) (by decide)]; exact h0
  · rw [e _ _ (by decide) (by decide)]; exact h1
  · rw [e _ _ (by decide) (by decide)]; exact h2
  · rw [e _ _ (by decide) (by decide)]; exact h3
  · rw [e4 l (by omega)]; exact h4 l hl
  · rw [gnew_2, if_neg (fun z => absurd z.1 (by simp)), ginc_2, if_pos ⟨rfl, rfl⟩, gnew_2, if_pos ⟨rfl, rfl⟩, ginc_2, if_neg (fun z => absurd z.1 (by decide)), h5]
  · rw [e _ _ (by decide) (by decide)]; exact h6
  · rw [e _ _ (by decide) (by decide)]; exact h7
theorem nC_11 {ad : gKey → Nat} {N : Nat → Nat → Nat} {x0 x1 x2 : Int32} {i q : Nat} (e : ad (4, 7, i) = q) : (.inr (6, [.int x0, .ref q, .int x1, .int x2]) : va_E) = gentC κ ad N (glist [x0, x1, x2]) (11, 0, i) := by
  rw [← e]
  rfl
theorem rC_11 {N : Nat → Nat → Nat} {r : Nat → Int32} {i : Nat} : grefC N r (11, 0, i) = [(4, 7, i)] := rfl
theorem gnew_n2 (C : gG) (n : Nat) (row : Nat → Int32) : (gnew (ginc C 4 7) (11, 0, n) row).2 11 0 = C.2 11 0 + 1 := by
  rw [gnew_2, if_pos ⟨rfl, rfl⟩, ginc_2, if_neg (fun z => absurd z.1 (by decide))]
def F_gross (C : gG) (a : Int32) : gF := if ¬ gin 0 a 19 = true then gthr C 1 else if ¬ Int32.ofNat (C.2 11 0) < 30 then gthr C 2 else (0, Int32.ofNat (C.2 11 0 + 1) - 1, gnew (ginc C 4 7) (11, 0, C.2 11 0) (glist [a, 0, 0]))
theorem p_gross {κ : gq_K} {ad : gKey → Nat} {C R : gG} {T : List (Nat × va_E)} (hC : gfix C.2) (hBC : gcnt C.2) (hM : gmach C) (h13 : C.2 13 (C.2 11 0) = 0) (a : Int32) : gq_C κ mX11_gross [.ref (ad (0, 0, 0)), .int (a)] (gR κ ad (C, R) T) (gQ κ ad R T (F_gross C a)) (gE κ ad R T [("java/lang/IllegalArgumentException", 1), ("java/lang/IllegalStateException", 2)] (F_gross C a)) := by
  refine gq_enter (by decide +kernel) rfl (Nat.le_of_ble_eq_true rfl) rfl (fun f o => ?_)
  refine y_iload_n (pc := 0) o dX11_gross_0 rfl ?_
  refine y_iconst (pc := 1) (x := 0) o dX11_gross_1 (by decide) ?_
  refine y_bipush (pc := 2) (x := 19) o dX11_gross_2 (by decide) ?_
  refine z_callS (pc := 4) (k := 0) (n := 0) (k' := 0) (n' := 0) o (As := [.int (a), .int (0), .int (19)]) (rest := []) (kIsOut _ _ _) ln_X11_71 dX11_gross_4 rfl rfl (Nat.le_of_ble_eq_true rfl) ⟨by decide, by decide⟩ ⟨rfl, rfl⟩ ⟨by decide, by decide⟩ rfl gq_nox2 ?_
  refine z_beq (pc := 7) (tgt := 21) o dX11_gross_7 rfl (fun (b1 : ¬ (¬ gin 0 a 19 = true)) => ?_) (fun (b1 : ¬ gin 0 a 19 = true) => ?_)
  · refine y_aload_n (pc := 21) o dX11_gross_21 rfl ?_
    refine z_get (pc := 22) (K := (0, 0, 0)) (v := .ref (ad (4, 5, 0))) o fl_X11_42 dX11_gross_22 (gl_0 hC) rfl rfl ?_
    refine z_callV (pc := 25) (k := 0) (n := 0) (k' := 0) (n' := 0) o (b := ad (4, 5, 0)) (As := []) (rest := []) (sizeC (l := 5) (g := 0) (gl_4_5 hC)) ln_X11_127 dX11_gross_25 (z_rc (ci := 3) (K := (4, 5, 0)) rfl (gl_4_5 hC) rfl) rfl rfl (Nat.le_of_ble_eq_true rfl) ⟨by decide, by decide⟩ ⟨rfl, rfl⟩ ⟨by decide, by decide⟩ rfl gq_nox2 ?_
    refine y_bipush (pc := 28) (x := 30) o dX11_gross_28 (by decide) ?_
    refine y_icmp_lt (pc := 30) (tgt := 44) o dX11_gross_30 rfl (fun (b2 : (Int32.ofNat (C.2 11 0)) < 30) => ?_) (fun (b2 : ¬ (Int32.ofNat (C.2 11 0)) < 30) => ?_)
    · refine y_aload_n (pc := 44) o dX11_gross_44 rfl ?_
      refine z_get (pc := 45) (K := (0, 0, 0)) (v := .ref (ad (4, 5, 0))) o fl_X11_42 dX11_gross_45 (gl_0 hC) rfl rfl ?_
      refine z_new (pc := 48) (k := 0) (n := 0) o nw_X11_431 dX11_gross_48 (by decide) (by decide) (fun q3 => ?_)
      refine y_dup (pc := 51) o dX11_gross_51 rfl ?_
      refine y_iload_n (pc := 52) o dX11_gross_52 rfl ?_
      refine y_callI (pc := 53) (k := 1) (n := 4) o (b := q3) (As := [.int (a)]) (rest := [.ref (q3), .ref (ad (4, 5, 0))]) (kX2_init _ a) ln_X11_433 dX11_gross_53 rfl rfl (Nat.le_of_ble_eq_true rfl) ⟨by decide, by decide⟩ ⟨by decide, by decide⟩ (fun _ e => e) gq_nox2 (fun v => y_and fun ev => y_ex fun ql => ?_)
      subst ev
      refine y_mono (P' := gR κ (gset ad (4, 7, C.2 11 0) ql) (ginc C 4 7, R) ((q3, .inr (6, [.int a, .ref ql, .int 0, .int 0])) :: T)) (fun h hr => hr.partsC hC h13) ?_
      obtain ⟨ad1, ha1⟩ : ∃ ad1, ad1 = gset ad (4, 7, C.2 11 0) ql := ⟨_, rfl⟩
      rw [← ha1]
      have h47 : ad1 (4, 7, C.2 11 0) = ql := by rw [ha1, gset_eq]
      have hk1 : ∀ K : gKey, K ≠ (4, 7, C.2 11 0) → ad1 K = ad K := fun K hK => by rw [ha1, gset_ne _ _ hK]
      have f0 : ad1 (0, 0, 0) = ad (0, 0, 0) := hk1 _ (by simp)
      have f4 : ad1 (4, 5, 0) = ad (4, 5, 0) := hk1 _ (by simp)
      have f20 : ad1 (20, 0, 0) = ad (20, 0, 0) := hk1 _ (by simp)
      refine z_st (st' := [.ref (q3), .ref (ad (4, 5, 0))]) rfl ?_
      rw [← f0, ← f4]
      refine y_callV (pc := 56) (k := 2) (n := 7) o (b := ad1 (4, 5, 0)) (As := [.ref q3]) (rest := []) (addCa (C := ginc C 4 7) (R := R) (l := 5) (g := 0) (n := C.2 11 0) (row := glist [a, 0, 0]) (a := 11) rfl (gl_4 (by decide) (by show 0 < C.2 4 5; rw [hC.2.2.2.2.1 5 (by decide)]; decide)) (Or.inr rfl) rfl (hBC 5 0 (by decide)) (nC_11 h47) (by rw [rC_11]; intro K hK; rw [List.mem_singleton] at hK; rw [hK]; exact gl_4 (by decide) (by show C.2 11 0 < (ginc C 4 7).2 4 7; rw [ginc_2, if_pos ⟨rfl, rfl⟩, hC.2.2.2.2.2.1]; omega))) ln_X11_138 dX11_gross_56 (gq_rc (ci := 3) rfl (fun h hr => ⟨_, hr.1 _ (gl_4 (by decide) (by show 0 < C.2 4 5; rw [hC.2.2.2.2.1 5 (by decide)]; decide))⟩)) rfl rfl (Nat.le_of_ble_eq_true rfl) ⟨by decide, by decide⟩ ⟨by decide, by decide⟩ (fun _ e => e) rfl gq_nox2 (fun v => y_and fun ev => y_ex fun ad2 => y_and fun had => y_and fun hadq => ?_)
      subst ev
      have e1 : ad2 (0, 0, 0) = ad1 (0, 0, 0) := had _ (by simp) (by simp)
      have e0 : ad2 (0, 0, 0) = ad (0, 0, 0) := e1.trans f0
      have e20 : ad2 (20, 0, 0) = ad (20, 0, 0) := (had _ (by simp) (by simp)).trans f20
      refine z_st (st' := [.int 1]) rfl ?_
      rw [← e1]
      refine y_pop (pc := 59) o dX11_gross_59 rfl ?_
      refine y_aload_n (pc := 60) o dX11_gross_60 rfl ?_
      refine z_get (pc := 61) (K := (0, 0, 0)) (v := .ref (ad2 (4, 5, 0))) o fl_X11_42 dX11_gross_61 (gl_0 (gfix_gross hC)) rfl rfl ?_
      refine z_callV (pc := 64) (k := 3) (n := 263) (k' := 3) (n' := 263) o (b := ad2 (4, 5, 0)) (As := []) (rest := []) (sizeC (l := 5) (g := 0) (gl_4_5 (gfix_gross hC))) ln_X11_127 dX11_gross_64 (z_rc (ci := 3) (K := (4, 5, 0)) rfl (gl_4_5 (gfix_gross hC)) rfl) rfl rfl (Nat.le_of_ble_eq_true rfl) ⟨by decide, by decide⟩ ⟨rfl, rfl⟩ ⟨by decide, by decide⟩ rfl gq_nox2 ?_
      refine z_top (w := .int (Int32.ofNat (C.2 11 0 + 1))) (congrArg (fun z => Value.int (Int32.ofNat z)) (gnew_n2 _ _ _)) ?_
      refine y_iconst (pc := 67) (x := 1) o dX11_gross_67 (by decide) ?_
      refine y_isub (pc := 68) o dX11_gross_68 ?_
      exact y_iret (pc := 69) o dX11_gross_69 rfl (vp_nar_int _) (by decide) (by decide) (fun h hp => gQ_mk2 (by simp only [F_gross, Classical.not_not.mp b1, b2, not_true_eq_false, not_false_eq_true, if_true, if_false, or_true, true_or, or_false, false_or, and_true, true_and, and_false, false_and, or_self, and_self, eq_self, Bool.false_eq_true, ne_eq, reduceIte]) e0 e20 hp)
    exact y_throwSW (pc := 33) o 68 rfl th_86 qw_366 qw_39 dX11_gross_33 dX11_gross_36 dX11_gross_37 dX11_gross_40 dX11_gross_43 rfl ⟨by decide, Nat.le_of_ble_eq_true rfl⟩ (by decide) (by decide) (fun h hp => gE_mk (k := 2) (by simp only [F_gross, Classical.not_not.mp b1, b2, not_true_eq_false, not_false_eq_true, if_true, if_false, or_true, true_or, or_false, false_or, and_true, true_and, and_false, false_and, or_self, and_self, eq_self, Bool.false_eq_true, ne_eq, reduceIte]) (.tail _ (.head _)) hp)
  exact y_throwSW (pc := 10) o 67 rfl th_79 qw_295 qw_38 dX11_gross_10 dX11_gross_13 dX11_gross_14 dX11_gross_17 dX11_gross_20 rfl ⟨by decide, Nat.le_of_ble_eq_true rfl⟩ (by decide) (by decide) (fun h hp => gE_mk (k := 1) (by simp only [F_gross, b1, not_true_eq_false, not_false_eq_true, if_true, if_false, or_true, true_or, or_false, false_or, and_true, true_and, and_false, false_and, or_self, and_self, eq_self, Bool.false_eq_true, ne_eq, reduceIte]) (.head _) hp)

end Z20
