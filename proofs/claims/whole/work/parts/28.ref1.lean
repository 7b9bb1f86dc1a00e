
section Z28
variable {κ : gq_K} {ad ad' : gKey → Nat} {S : gG × gG} {C C' R R' : gG} {T : List (Nat × va_E)} {h : gq_H}

theorem gtc0 : (0 : Int32).toNatClampNeg = 0 := rfl
theorem gtc1 : (1 : Int32).toNatClampNeg = 1 := rfl
theorem gtc2 : (2 : Int32).toNatClampNeg = 2 := rfl
theorem gtc3 : (3 : Int32).toNatClampNeg = 3 := rfl
theorem gtc4 : (4 : Int32).toNatClampNeg = 4 := rfl
theorem geq8_t {x : Int32} (h : x = 8) : ¬ x < 8 := by rw [h]; decide
theorem geq8_f {x : Int32} (h1 : ¬ 8 < x) (h : ¬ x = 8) : x < 8 := by
  rw [Int32.lt_iff_toInt_lt] at h1 ⊢
  rw [← Int32.toInt_inj] at h
  omega
theorem geq0_t {x : Int32} (h : x = 0) : x < 1 := by rw [h]; decide
theorem geq0_f {x : Int32} (h1 : ¬ x < 0) (h : ¬ x = 0) : ¬ x < 1 := fun z => by
  rw [Int32.lt_iff_toInt_lt] at h1 z
  rw [← Int32.toInt_inj] at h
  have e0 : (0 : Int32).toInt = 0 := rfl
  have e1 : (1 : Int32).toInt = 1 := rfl
  omega
theorem y_ldcSW {κ : gq_K} {M : gq_M} {Q : Option Value → gq_H → Prop} {E : String → gq_H → Prop} {f : gq_F} {P : gq_H → Prop} {lv : List (Nat × Value)} {pc : Nat} {st : List Value} {k n : Nat} (o : gq_Ok κ M f) {ix : Nat} (i : Nat) {tx : String} (d : decode M.2.1 pc = .ok (.ldc_w ix, 3)) (hs : gq_strs[i]? = some (M.1.cls, ix, tx)) (y : gq_Y κ M Q E f P lv (pc + 3) (.ref (κ.2.2 i) :: st) k n) : gq_Y κ M Q E f P lv pc st k n := by
  obtain ⟨p, l, e, s, m, args, below, meth, c, A⟩ := f
  intro h H locs ls h1 h2 h3 h4 T hT X
  obtain ⟨t, a1, b1⟩ := y h H locs ls h1 h2 h3 h4 T hT X
  have hZ := o.2.2.2.2.2.1.2.2.2.2.2.2.2.2.1 i _ hs
  exact ⟨t, X.ldcStringW o.1 (own := M.1.cls) o.2.2.2.1 (text := tx) (a := κ.2.2 i) hZ.1 hZ.2 (g := F0 m pc ls st) rfl (by rw [o.2.1]; exact d) t a1, b1⟩
theorem gbl1_t {x : Int32} (h : x = 1) : ¬ x = 0 := by rw [h]; decide
theorem gbl1_f {x : Int32} (h1 : gbl x) (h : ¬ x = 1) : x = 0 := h1.resolve_right h
theorem gmi_n45 {x : Int32} (h : ¬ gmi x < 0) : ¬ x = 45 := fun z => h (by rw [z]; decide)
theorem gmi_vp {x : Int32} (h : ¬ gmi x < 0) : vp_in (gmi x) 4 := by
  obtain ⟨h1, h2⟩ := gmi_in (x := x) (by rw [gmi_lt] at h; exact h)
  intro z
  rcases z with z | z
  · exact h z
  · omega
theorem gmi_gix {x : Int32} (h : ¬ gmi x < 0) : gix 4 (gmi x) = true := by
  obtain ⟨h1, h2⟩ := gmi_in (x := x) (by rw [gmi_lt] at h; exact h)
  refine gix_iff.mpr ⟨h, ?_⟩
  rw [h2, gofs_lt (by omega) (by omega)]
  exact h1
theorem ginnz {lo x hi : Int32} (h : gin lo x hi = true) (h0 : 0 < lo) : ¬ x = 0 := fun z => by
  rw [z] at h
  exact (gin_iff.mp h).1 h0
theorem gclamp_s {d w : Int32} (hd : gin 0 d 999 = true) (hw : gin 1 w 5 = true) : gmin 999 (d + 8 * w) = gclamp (d + 8 * w) 0 999 := by
  obtain ⟨h0, h1⟩ := gin_iff.mp hw
  rw [Int32.lt_iff_toInt_lt] at h0 h1
  have e1 : (1 : Int32).toInt = 1 := rfl
  have e5 : (5 : Int32).toInt = 5 := rfl
  have e8 : (8 : Int32).toInt = 8 := rfl
  have e0 : (0 : Int32).toInt = 0 := rfl
  have e6 : (1536 : Int32).toInt = 1536 := rfl
  have hs : (8 * w).toInt = 8 * w.toInt := by
    rw [Int32.toInt_mul, e8, Int.bmod_def]
    split <;> omega
  refine gclamp_r hd (gin_t (fun z => ?_) (fun z => ?_))
  · rw [Int32.lt_iff_toInt_lt, hs] at z; omega
  · rw [Int32.lt_iff_toInt_lt, hs] at z; omega
theorem gup_same {C : gG} {K : gKey} {f : Nat} {x : Int32} (h : C.1 K f = x) : gup C K f x = C := by
  rw [← h]
  exact gup_id C K f
theorem gmi_ltm {x : Int32} (h : gmi x < 0) : gmi x = -1 := by rw [gmi_lt] at h; exact h
theorem gmi_ltn {x : Int32} (h : ¬ gmi x < 0) : ¬ gmi x = -1 := by rw [gmi_lt] at h; exact h
theorem gbias {n : Nat} {R : gG} (hI : gI n R) (hn : n ≤ 512) : gin 0 (R.1 (2, 0, 0) 0) 1536 = true := by
  obtain ⟨h0, h1⟩ := gin_iff.mp hI.2.2.1.2.2.1
  refine gin_t h0 (fun z => h1 ?_)
  rw [Int32.lt_iff_toInt_lt] at z ⊢
  rw [Int32.toInt_ofNat_of_lt (by omega)]
  have e : (1536 : Int32).toInt = 1536 := rfl
  omega
theorem gin4g {x : Int32} (h : gin 0 x 3 = true) : vp_in x 4 := by
  obtain ⟨h0, h1⟩ := gin_iff.mp h
  refine gin4 h0 ?_
  rw [Int32.lt_iff_toInt_lt] at h1 ⊢
  have e3 : (3 : Int32).toInt = 3 := rfl
  have e4 : (4 : Int32).toInt = 4 := rfl
  omega
theorem gin2g {x : Int32} (h : gin 0 x 1 = true) : vp_in x 2 := by
  obtain ⟨h0, h1⟩ := gin_iff.mp h
  refine gin2 h0 ?_
  rw [Int32.lt_iff_toInt_lt] at h1 ⊢
  have e3 : (1 : Int32).toInt = 1 := rfl
  have e4 : (2 : Int32).toInt = 2 := rfl
  omega
theorem gino {lo x hi : Int32} : (x < lo ∨ hi < x) = ¬ gin lo x hi = true := by
  rw [gin_iff, Classical.not_and_iff_not_or_not, Classical.not_not, Classical.not_not]
theorem gn34 {x : Int32} : (¬ x < 4) = (3 < x) := by
  rw [Int32.lt_iff_toInt_lt, Int32.lt_iff_toInt_lt]
  have e3 : (3 : Int32).toInt = 3 := rfl
  have e4 : (4 : Int32).toInt = 4 := rfl
  exact propext (by omega)
theorem gn12 {x : Int32} : (¬ x < 2) = (1 < x) := by
  rw [Int32.lt_iff_toInt_lt, Int32.lt_iff_toInt_lt]
  have e3 : (1 : Int32).toInt = 1 := rfl
  have e4 : (2 : Int32).toInt = 2 := rfl
  exact propext (by omega)
theorem gin3p {x : Int32} : (x < 0 ∨ ¬ x < 4) = ¬ gin 0 x 3 = true := by rw [gn34, gino]
theorem gin3o {x : Int32} {p : Prop} : (x < 0 ∨ ¬ x < 4 ∨ p) = (¬ gin 0 x 3 = true ∨ p) := by rw [← or_assoc, gin3p]
theorem gin1p {x : Int32} : (x < 0 ∨ ¬ x < 2) = ¬ gin 0 x 1 = true := by rw [gn12, gino]
theorem gin1o {x : Int32} {p : Prop} : (x < 0 ∨ ¬ x < 2 ∨ p) = (¬ gin 0 x 1 = true ∨ p) := by rw [← or_assoc, gn12, gino]
theorem gup_at (C : gG) (K K' : gKey) (f j : Nat) (x : Int32) : (gup C K f x).1 K' j = if K' = K ∧ j = f then x else C.1 K' j := by
  by_cases h : K' = K
  · subst h
    rw [gup_1]
    unfold grup
    by_cases hj : j = f <;> simp [hj]
  · rw [gup_1n f x h, if_neg (fun z => h z.1)]
theorem gup_ext {C D : gG} (h2 : C.2 = D.2) (h1 : ∀ K j, C.1 K j = D.1 K j) : C = D := Prod.ext (funext fun K => funext fun j => h1 K j) h2
theorem gfire_eq (C : gG) (i j : Nat) (x9 x10 x4 x7 x6 x11 y z : Int32) : gup (gup (gup (gup (gup (gup (gup (gup C (8, 0, i) 9 x9) (8, 0, i) 10 x10) (8, 0, i) 4 x4) (8, 0, i) 7 x7) (8, 0, i) 6 x6) (15, 0, 0) j y) (0, 0, 0) 1 z) (8, 0, i) 11 x11 = gup (gup (gup (gup (gup (gup (gup (gup C (8, 0, i) 6 x6) (0, 0, 0) 1 z) (8, 0, i) 11 x11) (8, 0, i) 4 x4) (15, 0, 0) j y) (8, 0, i) 9 x9) (8, 0, i) 10 x10) (8, 0, i) 7 x7 := by
  refine gup_ext rfl fun K f => ?_
  simp only [gup_at]
  by_cases h8 : K = (8, 0, i)
  · subst h8
    have e15 : ¬ ((8, 0, i) : gKey) = (15, 0, 0) := by simp
    have e0 : ¬ ((8, 0, i) : gKey) = (0, 0, 0) := by simp
    simp only [e15, e0, false_and, if_false, true_and]
    repeat' split
    all_goals first | rfl | omega
  · simp only [h8, false_and, if_false]
    by_cases h0 : K = (0, 0, 0)
    · subst h0
      have e15 : ¬ ((0, 0, 0) : gKey) = (15, 0, 0) := by simp
      simp only [e15, false_and, if_false]
    · simp only [h0, false_and, if_false]
theorem upd_ge {g : Nat → Int32} {n j : Nat} {x : Int32} (h : j ≠ n) : upd g n x j = g j := if_neg h
theorem upd_eq {g : Nat → Int32} {n : Nat} {x : Int32} : upd g n x n = x := if_pos rfl
theorem gf_or1 {x : Int32} (h : ¬ gfind (gq_sbyt.getD 1 []) 0 x < 0) : x = 99 ∨ x = 102 ∨ x = 107 := Classical.byContradiction fun z => h ((gfind_mem (by decide)).mpr (fun c hc e => z (by
  subst e
  have h1 : x ∈ ([99, 102, 107] : List Int32) := hc
  simpa only [List.mem_cons, List.not_mem_nil, or_false] using h1)))
theorem gf_or2 {x : Int32} (h : ¬ gfind (gq_sbyt.getD 2 []) 0 x < 0) : x = 110 ∨ x = 119 ∨ x = 98 ∨ x = 114 ∨ x = 115 ∨ x = 100 ∨ x = 102 := Classical.byContradiction fun z => h ((gfind_mem (by decide)).mpr (fun c hc e => z (by
  subst e
  have h1 : x ∈ ([110, 119, 98, 114, 115, 100, 102] : List Int32) := hc
  simpa only [List.mem_cons, List.not_mem_nil, or_false] using h1)))
theorem gf_or3 {x : Int32} (h : ¬ gfind (gq_sbyt.getD 3 []) 0 x < 0) : x = 110 ∨ x = 119 ∨ x = 103 ∨ x = 114 := Classical.byContradiction fun z => h ((gfind_mem (by decide)).mpr (fun c hc e => z (by
  subst e
  have h1 : x ∈ ([110, 119, 103, 114] : List Int32) := hc
  simpa only [List.mem_cons, List.not_mem_nil, or_false] using h1)))
theorem gf_or4 {x : Int32} (h : ¬ gfind (gq_sbyt.getD 4 []) 0 x < 0) : x = 54 ∨ x = 48 ∨ x = 51 := Classical.byContradiction fun z => h ((gfind_mem (by decide)).mpr (fun c hc e => z (by
  subst e
  have h1 : x ∈ ([54, 48, 51] : List Int32) := hc
  simpa only [List.mem_cons, List.not_mem_nil, or_false] using h1)))
theorem gf_or5 {x : Int32} (h : ¬ gfind (gq_sbyt.getD 5 []) 0 x < 0) : x = 110 ∨ x = 98 ∨ x = 99 ∨ x = 108 ∨ x = 103 ∨ x = 111 ∨ x = 114 := Classical.byContradiction fun z => h ((gfind_mem (by decide)).mpr (fun c hc e => z (by
  subst e
  have h1 : x ∈ ([110, 98, 99, 108, 103, 111, 114] : List Int32) := hc
  simpa only [List.mem_cons, List.not_mem_nil, or_false] using h1)))
theorem gf_or6 {x : Int32} (h : ¬ gfind (gq_sbyt.getD 6 []) 0 x < 0) : x = 114 ∨ x = 110 ∨ x = 120 ∨ x = 98 ∨ x = 102 ∨ x = 107 ∨ x = 115 ∨ x = 104 ∨ x = 103 ∨ x = 99 := Classical.byContradiction fun z => h ((gfind_mem (by decide)).mpr (fun c hc e => z (by
  subst e
  have h1 : x ∈ ([114, 110, 120, 98, 102, 107, 115, 104, 103, 99] : List Int32) := hc
  simpa only [List.mem_cons, List.not_mem_nil, or_false] using h1)))
theorem gA3 {κ : gq_K} {x0 x1 x2 : Int32} : (.inl (κ.2.1 0, 3, .inl (upd (upd (upd (fun _ => 0) (0 : Int32).toNatClampNeg x0) (1 : Int32).toNatClampNeg x1) (2 : Int32).toNatClampNeg x2)) : va_E) = grow κ 3 (glist [x0, x1, x2]) := by
  refine congrArg (fun z => (Sum.inl (κ.2.1 0, 3, .inl z) : va_E)) (funext fun j => ?_)
  rcases j with _ | _ | _ | _ | _ | j <;> simp [upd, glist, Int32.toNatClampNeg]
theorem gA4 {κ : gq_K} {x0 x1 x2 x3 : Int32} : (.inl (κ.2.1 0, 4, .inl (upd (upd (upd (upd (fun _ => 0) (0 : Int32).toNatClampNeg x0) (1 : Int32).toNatClampNeg x1) (2 : Int32).toNatClampNeg x2) (3 : Int32).toNatClampNeg x3)) : va_E) = grow κ 4 (glist [x0, x1, x2, x3]) := by
  refine congrArg (fun z => (Sum.inl (κ.2.1 0, 4, .inl z) : va_E)) (funext fun j => ?_)
  rcases j with _ | _ | _ | _ | _ | j <;> simp [upd, glist, Int32.toNatClampNeg]
theorem gA5 {κ : gq_K} {x0 x1 x2 x3 x4 : Int32} : (.inl (κ.2.1 0, 5, .inl (upd (upd (upd (upd (upd (fun _ => 0) (0 : Int32).toNatClampNeg x0) (1 : Int32).toNatClampNeg x1) (2 : Int32).toNatClampNeg x2) (3 : Int32).toNatClampNeg x3) (4 : Int32).toNatClampNeg x4)) : va_E) = grow κ 5 (glist [x0, x1, x2, x3, x4]) := by
  refine congrArg (fun z => (Sum.inl (κ.2.1 0, 5, .inl z) : va_E)) (funext fun j => ?_)
  rcases j with _ | _ | _ | _ | _ | j <;> simp [upd, glist, Int32.toNatClampNeg]
theorem nR_8 {κ : gq_K} {ad : gKey → Nat} {N : Nat → Nat → Nat} {x0 x1 x2 x3 x4 x5 x6 x7 x8 x9 x10 x11 : Int32} {g i : Nat} : (.inr (16, [.int x0, .int x1, .int x2, .int x3, .int x4, .int x5, .int x6, .int x11, .int x8, .int x9, .int x10]) : va_E) = gentR1 κ ad N (glist [x0, x1, x2, x3, x4, x5, x6, x7, x8, x9, x10, x11]) (28, g, i) := rfl
theorem nR_9 {κ : gq_K} {ad : gKey → Nat} {N : Nat → Nat → Nat} {x0 x1 x2 x3 x4 x5 : Int32} {g i : Nat} : (.inr (19, [.int x0, .int x1, .int x2, .int x3, .int x4, .int x5]) : va_E) = gentR1 κ ad N (glist [x0, x1, x2, x3, x4, x5]) (29, g, i) := rfl
theorem nR_10 {κ : gq_K} {ad : gKey → Nat} {N : Nat → Nat → Nat} {x0 x1 x2 x3 x4 x5 x6 x7 x8 x9 x10 : Int32} {g i : Nat} : (.inr (18, [.int x0, .int x1, .int x2, .int x3, .int x4, .int x5, .int x6, .int x7, .int x8, .int x9, .int x10]) : va_E) = gentR1 κ ad N (glist [x0, x1, x2, x3, x4, x5, x6, x7, x8, x9, x10]) (30, g, i) := rfl
theorem nA4_6 {κ : gq_K} {ad : gKey → Nat} {N : Nat → Nat → Nat} {x0 x1 x2 x3 : Int32} {g i : Nat} : (.inl (κ.2.1 0, 4, .inl (upd (upd (upd (upd (fun _ => 0) (0 : Int32).toNatClampNeg x0) (1 : Int32).toNatClampNeg x1) (2 : Int32).toNatClampNeg x2) (3 : Int32).toNatClampNeg x3)) : va_E) = gentR1 κ ad N (glist [x0, x1, x2, x3]) (26, g, i) := gA4
theorem nA4_12 {κ : gq_K} {ad : gKey → Nat} {N : Nat → Nat → Nat} {x0 x1 x2 x3 : Int32} {g i : Nat} : (.inl (κ.2.1 0, 4, .inl (upd (upd (upd (upd (fun _ => 0) (0 : Int32).toNatClampNeg x0) (1 : Int32).toNatClampNeg x1) (2 : Int32).toNatClampNeg x2) (3 : Int32).toNatClampNeg x3)) : va_E) = gentR1 κ ad N (glist [x0, x1, x2, x3]) (32, g, i) := gA4
theorem nA5_7 {κ : gq_K} {ad : gKey → Nat} {N : Nat → Nat → Nat} {x0 x1 x2 x3 x4 : Int32} {g i : Nat} : (.inl (κ.2.1 0, 5, .inl (upd (upd (upd (upd (upd (fun _ => 0) (0 : Int32).toNatClampNeg x0) (1 : Int32).toNatClampNeg x1) (2 : Int32).toNatClampNeg x2) (3 : Int32).toNatClampNeg x3) (4 : Int32).toNatClampNeg x4)) : va_E) = gentR1 κ ad N (glist [x0, x1, x2, x3, x4]) (27, g, i) := gA5
theorem nA3_13 {κ : gq_K} {ad : gKey → Nat} {N : Nat → Nat → Nat} {x0 x1 x2 : Int32} {g i : Nat} : (.inl (κ.2.1 0, 3, .inl (upd (upd (upd (fun _ => 0) (0 : Int32).toNatClampNeg x0) (1 : Int32).toNatClampNeg x1) (2 : Int32).toNatClampNeg x2)) : va_E) = gentR1 κ ad N (glist [x0, x1, x2]) (33, g, i) := gA3
theorem kMany0 {κ : gq_K} {ad : gKey → Nat} {C R : gG} {T : List (Nat × va_E)} (hR : gfix R.2) (hBR : gcnt R.2) (i : Nat) (hi : i < R.2 11 0) : gq_C κ mX13_many [.ref (ad (31, 0, i))] (gR κ ad (C, R) T) (fun v9 g9 => v9 = some (.int (gsum (fun j => R.1 (13, i, j) 1) (R.2 13 i))) ∧ gR κ ad (C, R) T g9) (gq_no) := by
  refine gq_enter (by decide +kernel) rfl (Nat.le_of_ble_eq_true rfl) rfl (fun f o => ?_)
  have hN9 : R.2 13 i ≤ 144 := hBR 7 i (by decide)
  refine y_iconst (pc := 0) (x := 0) o dX13_many_0 (by decide) ?_
  refine y_istore_n (pc := 1) (i := 1) (lv' := [(1, .int (0)), (0, .ref (ad (31, 0, i)))]) o dX13_many_1 rfl (by decide) rfl ?_
  refine y_aload_n (pc := 2) o dX13_many_2 rfl ?_
  refine z_get (pc := 3) (K := (31, 0, i)) (v := .ref (ad (24, 7, i))) o fl_X13_10 dX13_many_3 (gl_31 hi) rfl rfl ?_
  refine y_callF (pc := 6) (ci := 3) (k := 0) (n := 0) o (b := ad (24, 7, i)) (As := []) (rest := []) (kIter (l := 7) (g := i) (gl_24_7 hR hi)) rfl lf_X13_16 dX13_many_6 (fun h hr => ⟨_, ghdr_R (R := R) (gl_24_7 hR hi) hr⟩) rfl rfl (Nat.le_of_ble_eq_true rfl) ⟨by decide, by decide⟩ ⟨by decide, by decide⟩ (fun _ e => e) (fun _ _ z => z) (fun v => y_ex fun q1 => y_and fun ev => ?_)
  subst ev
  refine z_st (st' := [.ref (q1)]) rfl ?_
  refine y_astore_n (pc := 11) (i := 2) (lv' := [(2, .ref (q1)), (1, .int (0)), (0, .ref (ad (31, 0, i)))]) o dX13_many_11 rfl (by decide) rfl ?_
  suffices H : ∀ m j : Nat, j + m = R.2 13 i → gq_Y κ mX13_many (fun v9 g9 => v9 = some (.int (gsum (fun j => R.1 (13, i, j) 1) (R.2 13 i))) ∧ gR κ ad (C, R) T g9) (gq_no) f (gR κ ad (C, R) ((q1, .inr (2, [.int (Int32.ofNat j), .int (Int32.ofNat j - 1), .int (Int32.ofNat (R.2 13 i)), .ref (ad (24, 7, i))])) :: T)) [(2, .ref (q1)), (1, .int (gsum (fun j => R.1 (13, i, j) 1) j))] 12 [] 1 4 from ?_
  · refine y_lv [0, 1] (lv' := [(2, .ref (q1)), (1, .int (0))]) rfl ?_
    exact H (R.2 13 i) 0 (Nat.zero_add _)
  intro m
  induction m with
  | zero =>
    intro j hj
    have hjN : Int32.ofNat j = Int32.ofNat (R.2 13 i) := by rw [show j = R.2 13 i by omega]
    refine y_aload_n (pc := 12) o dX13_many_12 rfl ?_
    refine z_callF (pc := 13) (k := 1) (n := 4) (k' := 1) (n' := 4) (ci := 2) o (b := q1) (As := []) (rest := []) (kHasN (l := 7) (g := i) (gl_24_7 hR hi) q1 (Int32.ofNat j) _) rfl lf_X13_22 dX13_many_13 (fun h hr => ⟨_, hr.2.2.2.1 _ List.mem_cons_self⟩) rfl rfl (Nat.le_of_ble_eq_true rfl) ⟨by decide, by decide⟩ ⟨rfl, rfl⟩ ⟨by decide, by decide⟩ ?_
    refine z_beq (pc := 18) (tgt := 40) o dX13_many_18 rfl (fun (b1 : ¬ (¬ Int32.ofNat j = Int32.ofNat (R.2 13 i))) => ?_) (fun b1 => absurd hjN b1)
    refine y_iload_n (pc := 40) o dX13_many_40 rfl ?_
    obtain rfl : j = R.2 13 i := by omega
    exact y_iret (pc := 41) o dX13_many_41 rfl (vp_nar_int _) (by decide) (by decide) (fun h hp => ⟨rfl, hp.drop1⟩)
  | succ m ih =>
    intro j hj
    have hjN : ¬ Int32.ofNat j = Int32.ofNat (R.2 13 i) := fun z => by have := (gneqN (by omega) (by omega)).mp z; omega
    refine y_aload_n (pc := 12) o dX13_many_12 rfl ?_
    refine z_callF (pc := 13) (k := 1) (n := 4) (k' := 1) (n' := 4) (ci := 2) o (b := q1) (As := []) (rest := []) (kHasN (l := 7) (g := i) (gl_24_7 hR hi) q1 (Int32.ofNat j) _) rfl lf_X13_22 dX13_many_13 (fun h hr => ⟨_, hr.2.2.2.1 _ List.mem_cons_self⟩) rfl rfl (Nat.le_of_ble_eq_true rfl) ⟨by decide, by decide⟩ ⟨rfl, rfl⟩ ⟨by decide, by decide⟩ ?_
    refine z_beq (pc := 18) (tgt := 40) o dX13_many_18 rfl (fun b2 => absurd hjN b2) (fun (b2 : ¬ Int32.ofNat j = Int32.ofNat (R.2 13 i)) => ?_)
    refine y_aload_n (pc := 21) o dX13_many_21 rfl ?_
    refine z_callF (pc := 22) (k := 1) (n := 4) (k' := 1) (n' := 4) (ci := 2) o (b := q1) (As := []) (rest := []) (kNext (l := 7) (g := i) (gl_24_7 hR hi) (hBR 7 i (by decide)) q1 j (show j < R.2 13 i by omega) _) rfl lf_X13_28 dX13_many_22 (fun h hr => ⟨_, hr.2.2.2.1 _ List.mem_cons_self⟩) rfl rfl (Nat.le_of_ble_eq_true rfl) ⟨by decide, by decide⟩ ⟨rfl, rfl⟩ ⟨by decide, by decide⟩ ?_
    refine z_castI (pc := 27) (K := (33, i, j)) (N := 3) o qw_1763 dX13_many_27 (gl_33 (show j < R.2 13 i by omega)) rfl ?_
    refine y_astore_n (pc := 30) (i := 3) (lv' := [(3, .ref (ad (33, i, j))), (2, .ref (q1)), (1, .int (gsum (fun j => R.1 (13, i, j) 1) j))]) o dX13_many_30 rfl (by decide) rfl ?_
    refine y_iload_n (pc := 31) o dX13_many_31 rfl ?_
    refine y_aload_n (pc := 32) o dX13_many_32 rfl ?_
    refine y_iconst (pc := 33) (x := 1) o dX13_many_33 (by decide) ?_
    refine z_iald (pc := 34) (K := (33, i, j)) (i := 1) (v := R.1 (13, i, j) 1) o dX13_many_34 (gl_33 (show j < R.2 13 i by omega)) rfl (by unfold vp_in; decide) rfl ?_
    refine y_iadd (pc := 35) o dX13_many_35 ?_
    refine y_istore_n (pc := 36) (i := 1) (lv' := [(1, .int ((gsum (fun j => R.1 (13, i, j) 1) j) + (R.1 (13, i, j) 1))), (3, .ref (ad (33, i, j))), (2, .ref (q1))]) o dX13_many_36 rfl (by decide) rfl ?_
    refine y_goto (pc := 37) (tgt := 12) o dX13_many_37 rfl ?_
    refine y_lv [2, 0] (lv' := [(2, .ref (q1)), (1, .int ((gsum (fun j => R.1 (13, i, j) 1) j) + (R.1 (13, i, j) 1)))]) rfl ?_
    refine y_mono (P' := gR κ ad (C, R) ((q1, .inr (2, [.int (Int32.ofNat (j + 1)), .int (Int32.ofNat (j + 1) - 1), .int (Int32.ofNat (R.2 13 i)), .ref (ad (24, 7, i))])) :: T)) (fun h hr => by rw [gofN1]; exact hr) ?_
    exact ih (j + 1) (by omega)

theorem kMany {κ : gq_K} {ad : gKey → Nat} {C R : gG} {T : List (Nat × va_E)} (hR : gfix R.2) (hBR : gcnt R.2) (i : Nat) (hi : i < R.2 11 0) (he : R.1 (11, 0, i) 1 = gsum (fun j => R.1 (13, i, j) 1) (R.2 13 i)) : gq_C κ mX13_many [.ref (ad (31, 0, i))] (gR κ ad (C, R) T) (fun v9 g9 => v9 = some (.int (R.1 (11, 0, i) 1)) ∧ gR κ ad (C, R) T g9) gq_no := by
  rw [he]
  exact kMany0 hR hBR i hi

theorem r_go {κ : gq_K} {ad : gKey → Nat} {C Rp R : gG} {T : List (Nat × va_E)} {n : Nat} (hb : gup Rp (0, 0, 0) 5 0 = R) (hI : gI n R) (hn : n ≤ 512) (a : Int32) : gq_C κ mX16_go [.ref (ad (20, 0, 0)), .int (a)] (gR κ ad (C, Rp) T) (gP κ ad C T (F_go R a)) (gq_no) := by
  refine gq_enter (by decide +kernel) rfl (Nat.le_of_ble_eq_true rfl) rfl (fun f o => ?_)
  have hR := hI.fix
  have hBR := hI.cnt
  have hRp : gfix Rp.2 := by rw [← hb] at hR; exact hR
  have h5 : R.1 (0, 0, 0) 5 = 0 := by rw [← hb]; exact gup_v _ _ _ _
  refine y_aload_n (pc := 0) o dX16_go_0 rfl ?_
  refine z_callVv (pc := 1) (k := 0) (n := 0) (k' := 0) (n' := 0) o (b := ad (20, 0, 0)) (As := []) (rest := []) (kBegins hRp) ln_X16_69 dX16_go_1 (z_rc (ci := 20) (K := (20, 0, 0)) rfl (gl_20 hRp) rfl) rfl rfl (Nat.le_of_ble_eq_true rfl) ⟨by decide, by decide⟩ ⟨rfl, rfl⟩ ⟨by decide, by decide⟩ rfl gq_nox2 ?_
  rw [hb]
  refine y_aload_n (pc := 4) o dX16_go_4 rfl ?_
  refine y_iload_n (pc := 5) o dX16_go_5 rfl ?_
  refine y_i2l (pc := 6) o dX16_go_6 ?_
  refine y_lconst (pc := 7) (x := 1) o dX16_go_7 (by decide) ?_
  refine y_ldc2 (pc := 8) o dX16_go_8 qw_1266 ?_
  refine z_callS (pc := 11) (k := 0) (n := 0) (k' := 0) (n' := 0) o (As := [.long (a.toInt64), .long (1), .long (500)]) (rest := [.ref (ad (20, 0, 0))]) (kIn a 1 500) ln_X16_13 dX16_go_11 rfl rfl (Nat.le_of_ble_eq_true rfl) ⟨by decide, by decide⟩ ⟨rfl, rfl⟩ ⟨by decide, by decide⟩ rfl gq_nox2 ?_
  refine z_bne (pc := 14) (tgt := 21) o dX16_go_14 rfl (fun (b1 : gin 1 a 500 = true) => ?_) (fun (b1 : ¬ (gin 1 a 500 = true)) => ?_)
  · refine y_iconst (pc := 21) (x := 0) o dX16_go_21 (by decide) ?_
    refine y_iconst (pc := 22) (x := 1) o dX16_go_22 (by decide) ?_
    refine z_callV (pc := 23) (k := 0) (n := 0) (k' := 0) (n' := 0) o (b := ad (20, 0, 0)) (As := [.int (0), .int (1)]) (rest := []) (kFailsF hR h5 1) ln_X16_74 dX16_go_23 (z_rc (ci := 20) (K := (20, 0, 0)) rfl (gl_20 hR) rfl) rfl rfl (Nat.le_of_ble_eq_true rfl) ⟨by decide, by decide⟩ ⟨rfl, rfl⟩ ⟨by decide, by decide⟩ rfl gq_nox2 ?_
    refine y_if_ne (pc := 26) (tgt := 54) o dX16_go_26 rfl (fun b2 => absurd b2 (by decide)) (fun (b2 : 0 = 0) => ?_)
    refine y_aload_n (pc := 29) o dX16_go_29 rfl ?_
    refine y_aload_n (pc := 30) o dX16_go_30 rfl ?_
    refine z_get (pc := 31) (K := (20, 0, 0)) (v := .int (R.1 (0, 0, 0) 0)) o fl_X16_78 dX16_go_31 (gl_20 hR) rfl rfl ?_
    refine y_iload_n (pc := 34) o dX16_go_34 rfl ?_
    refine y_iadd (pc := 35) o dX16_go_35 ?_
    refine y_sipush (pc := 36) (x := 9999) o dX16_go_36 (by decide) ?_
    refine z_icmp_le (pc := 39) (tgt := 46) o dX16_go_39 rfl (fun (b3 : ¬ 9999 < ((R.1 (0, 0, 0) 0) + a)) => ?_) (fun (b3 : 9999 < ((R.1 (0, 0, 0) 0) + a)) => ?_)
    · refine y_iconst (pc := 46) (x := 0) o dX16_go_46 (by decide) ?_
      refine y_iconst (pc := 47) (x := 2) o dX16_go_47 (by decide) ?_
      refine z_callV (pc := 48) (k := 0) (n := 0) (k' := 0) (n' := 0) o (b := ad (20, 0, 0)) (As := [.int (0), .int (2)]) (rest := []) (kFailsF hR h5 2) ln_X16_74 dX16_go_48 (z_rc (ci := 20) (K := (20, 0, 0)) rfl (gl_20 hR) rfl) rfl rfl (Nat.le_of_ble_eq_true rfl) ⟨by decide, by decide⟩ ⟨rfl, rfl⟩ ⟨by decide, by decide⟩ rfl gq_nox2 ?_
      refine y_if_eq (pc := 51) (tgt := 56) o dX16_go_51 rfl (fun (b4 : 0 = 0) => ?_) (fun b4 => absurd b4 (by rw [b2]; decide))
      refine y_aload_n (pc := 56) o dX16_go_56 rfl ?_
      refine y_dup (pc := 57) o dX16_go_57 rfl ?_
      refine z_get (pc := 58) (K := (20, 0, 0)) (v := .int (R.1 (0, 0, 0) 0)) o fl_X16_78 dX16_go_58 (gl_20 hR) rfl rfl ?_
      refine y_iload_n (pc := 61) o dX16_go_61 rfl ?_
      refine y_iadd (pc := 62) o dX16_go_62 ?_
      refine z_put20 (pc := 63) (b := 0) (fd := 0) (x := (R.1 (0, 0, 0) 0) + a) o fw_X16_78 dX16_go_63 (gfix_0 hR) (gl_20 hR) (by decide) rfl (Nat.le_of_ble_eq_true rfl) (vp_nar_int _) rfl rfl p20_1 ?_
      refine y_aload_n (pc := 66) o dX16_go_66 rfl ?_
      refine z_get (pc := 67) (K := (20, 0, 0)) (v := .int ((gup R (0, 0, 0) 0 ((R.1 (0, 0, 0) 0) + a)).1 (0, 0, 0) 0)) o fl_X16_78 dX16_go_67 (gl_20 hR) rfl rfl ?_
      refine z_top (congrArg Value.int (gup_v _ _ _ _)) ?_
      exact y_iret (pc := 70) o dX16_go_70 rfl (vp_nar_int _) (by decide) (by decide) (fun h hp => gP_mk (by simp +decide only [F_go, b1, b3, gtc0, gtc1, gtc2, gtc3, gtc4, not_true_eq_false, not_false_eq_true, if_true, if_false, or_true, true_or, or_false, false_or, and_true, true_and, and_false, false_and, or_self, and_self, eq_self, Bool.false_eq_true, ne_eq, reduceIte]) rfl rfl hp)
    refine y_iconst (pc := 42) (x := 1) o dX16_go_42 (by decide) ?_
    refine y_goto (pc := 43) (tgt := 47) o dX16_go_43 rfl ?_
    refine y_iconst (pc := 47) (x := 2) o dX16_go_47 (by decide) ?_
    refine z_callV (pc := 48) (k := 0) (n := 0) (k' := 0) (n' := 0) o (b := ad (20, 0, 0)) (As := [.int (1), .int (2)]) (rest := []) (kFailsT hR h5 2 (by decide)) ln_X16_74 dX16_go_48 (z_rc (ci := 20) (K := (20, 0, 0)) rfl (gl_20 hR) rfl) rfl rfl (Nat.le_of_ble_eq_true rfl) ⟨by decide, by decide⟩ ⟨rfl, rfl⟩ ⟨by decide, by decide⟩ rfl gq_nox2 ?_
    refine y_if_eq (pc := 51) (tgt := 56) o dX16_go_51 rfl (fun b5 => absurd b5 (by decide)) (fun (b5 : ¬ 1 = 0) => ?_)
    refine y_iconst (pc := 54) (x := -1) o dX16_go_54 (by decide) ?_
    exact y_iret (pc := 55) o dX16_go_55 rfl (vp_nar_int _) (by decide) (by decide) (fun h hp => gP_thr (k := 2) (by simp +decide only [F_go, b1, b3, gtc0, gtc1, gtc2, gtc3, gtc4, not_true_eq_false, not_false_eq_true, if_true, if_false, or_true, true_or, or_false, false_or, and_true, true_and, and_false, false_and, or_self, and_self, eq_self, Bool.false_eq_true, ne_eq, reduceIte]) (by decide) hp)
  refine y_iconst (pc := 17) (x := 1) o dX16_go_17 (by decide) ?_
  refine y_goto (pc := 18) (tgt := 22) o dX16_go_18 rfl ?_
  refine y_iconst (pc := 22) (x := 1) o dX16_go_22 (by decide) ?_
  refine z_callV (pc := 23) (k := 0) (n := 0) (k' := 0) (n' := 0) o (b := ad (20, 0, 0)) (As := [.int (1), .int (1)]) (rest := []) (kFailsT hR h5 1 (by decide)) ln_X16_74 dX16_go_23 (z_rc (ci := 20) (K := (20, 0, 0)) rfl (gl_20 hR) rfl) rfl rfl (Nat.le_of_ble_eq_true rfl) ⟨by decide, by decide⟩ ⟨rfl, rfl⟩ ⟨by decide, by decide⟩ rfl gq_nox2 ?_
  refine y_if_ne (pc := 26) (tgt := 54) o dX16_go_26 rfl (fun (b6 : ¬ 1 = 0) => ?_) (fun b6 => absurd b6 (by decide))
  refine y_iconst (pc := 54) (x := -1) o dX16_go_54 (by decide) ?_
  exact y_iret (pc := 55) o dX16_go_55 rfl (vp_nar_int _) (by decide) (by decide) (fun h hp => gP_thr (k := 1) (by simp +decide only [F_go, b1, gtc0, gtc1, gtc2, gtc3, gtc4, not_true_eq_false, not_false_eq_true, if_true, if_false, or_true, true_or, or_false, false_or, and_true, true_and, and_false, false_and, or_self, and_self, eq_self, Bool.false_eq_true, ne_eq, reduceIte]) (by decide) hp)

theorem r_shaft {κ : gq_K} {ad : gKey → Nat} {C Rp R : gG} {T : List (Nat × va_E)} {n : Nat} (hb : gup Rp (0, 0, 0) 5 0 = R) (hI : gI n R) (hn : n ≤ 512) (p : Prop) [Decidable p] : gq_C κ mX16_shaft [.ref (ad (20, 0, 0)), .int (gb (p))] (gR κ ad (C, Rp) T) (gP κ ad C T (F_shaft R (gb p))) (gq_no) := by
  refine gq_enter (by decide +kernel) rfl (Nat.le_of_ble_eq_true rfl) rfl (fun f o => ?_)
  have hR := hI.fix
  have hBR := hI.cnt
  have hRp : gfix Rp.2 := by rw [← hb] at hR; exact hR
  have h5 : R.1 (0, 0, 0) 5 = 0 := by rw [← hb]; exact gup_v _ _ _ _
  refine y_aload_n (pc := 0) o dX16_shaft_0 rfl ?_
  refine z_callVv (pc := 1) (k := 0) (n := 0) (k' := 0) (n' := 0) o (b := ad (20, 0, 0)) (As := []) (rest := []) (kBegins hRp) ln_X16_69 dX16_shaft_1 (z_rc (ci := 20) (K := (20, 0, 0)) rfl (gl_20 hRp) rfl) rfl rfl (Nat.le_of_ble_eq_true rfl) ⟨by decide, by decide⟩ ⟨rfl, rfl⟩ ⟨by decide, by decide⟩ rfl gq_nox2 ?_
  rw [hb]
  refine y_aload_n (pc := 4) o dX16_shaft_4 rfl ?_
  refine z_get (pc := 5) (K := (20, 0, 0)) (v := .int (R.1 (1, 0, 0) 0)) o fl_X16_23 dX16_shaft_5 (gl_20 hR) rfl rfl ?_
  refine y_istore_n (pc := 8) (i := 2) (lv' := [(2, .int (R.1 (1, 0, 0) 0)), (0, .ref (ad (20, 0, 0))), (1, .int (gb (p)))]) o dX16_shaft_8 rfl (by decide) rfl ?_
  refine y_aload_n (pc := 9) o dX16_shaft_9 rfl ?_
  refine y_iload_n (pc := 10) o dX16_shaft_10 rfl ?_
  refine z_put20 (pc := 11) (b := 1) (fd := 0) (x := gb (p)) o fw_X16_23 dX16_shaft_11 (gfix_0 hR) (gl_20 hR) (by decide) rfl (Nat.le_of_ble_eq_true rfl) gb_nar gb_fit rfl p20_2 ?_
  refine y_iload_n (pc := 14) o dX16_shaft_14 rfl ?_
  exact y_iret (pc := 15) o dX16_shaft_15 rfl (gbl_nar hI.2.1.2.2.1) (by decide) (by decide) (fun h hp => gP_mk (by simp +decide only [F_shaft, gtc0, gtc1, gtc2, gtc3, gtc4, not_true_eq_false, not_false_eq_true, if_true, if_false, or_true, true_or, or_false, false_or, and_true, true_and, and_false, false_and, or_self, and_self, eq_self, Bool.false_eq_true, ne_eq, reduceIte]) rfl rfl hp)

theorem r_lot {κ : gq_K} {ad : gKey → Nat} {C Rp R : gG} {T : List (Nat × va_E)} {n : Nat} (hb : gup Rp (0, 0, 0) 5 0 = R) (hI : gI n R) (hn : n ≤ 512) (a : Int32) (b : Int32) (c : Int32) (d : Int32) : gq_C κ mX16_lot [.ref (ad (20, 0, 0)), .int (a), .int (b), .int (c), .int (d)] (gR κ ad (C, Rp) T) (gP κ ad C T (F_lot R a b c d)) (gq_no) := by
  refine gq_enter (by decide +kernel) rfl (Nat.le_of_ble_eq_true rfl) rfl (fun f o => ?_)
  have hR := hI.fix
  have hBR := hI.cnt
  have hRp : gfix Rp.2 := by rw [← hb] at hR; exact hR
  have h5 : R.1 (0, 0, 0) 5 = 0 := by rw [← hb]; exact gup_v _ _ _ _
  refine y_aload_n (pc := 0) o dX16_lot_0 rfl ?_
  refine z_callVv (pc := 1) (k := 0) (n := 0) (k' := 0) (n' := 0) o (b := ad (20, 0, 0)) (As := []) (rest := []) (kBegins hRp) ln_X16_69 dX16_lot_1 (z_rc (ci := 20) (K := (20, 0, 0)) rfl (gl_20 hRp) rfl) rfl rfl (Nat.le_of_ble_eq_true rfl) ⟨by decide, by decide⟩ ⟨rfl, rfl⟩ ⟨by decide, by decide⟩ rfl gq_nox2 ?_
  rw [hb]
  refine y_iload_n (pc := 4) o dX16_lot_4 rfl ?_
  refine y_bipush (pc := 5) (x := 103) o dX16_lot_5 (by decide) ?_
  refine y_icmp_eq (pc := 7) (tgt := 16) o dX16_lot_7 rfl (fun (b1 : a = 103) => ?_) (fun (b1 : ¬ a = 103) => ?_)
  · refine y_iload_n (pc := 16) o dX16_lot_16 rfl ?_
    refine y_i2l (pc := 17) o dX16_lot_17 ?_
    refine y_ldc2 (pc := 18) o dX16_lot_18 qw_1399 ?_
    refine y_ldc2 (pc := 21) o dX16_lot_21 qw_1400 ?_
    refine z_callS (pc := 24) (k := 0) (n := 0) (k' := 0) (n' := 0) o (As := [.long (b.toInt64), .long (50), .long (99)]) (rest := []) (kIn b 50 99) ln_X16_13 dX16_lot_24 rfl rfl (Nat.le_of_ble_eq_true rfl) ⟨by decide, by decide⟩ ⟨rfl, rfl⟩ ⟨by decide, by decide⟩ rfl gq_nox2 ?_
    refine z_beq (pc := 27) (tgt := 59) o dX16_lot_27 rfl (fun (b2 : ¬ (gin 50 b 99 = true)) => ?_) (fun (b2 : gin 50 b 99 = true) => ?_)
    · refine y_iconst (pc := 59) (x := 0) o dX16_lot_59 (by decide) ?_
      refine y_istore (pc := 60) (i := 5) (lv' := [(5, .int (0)), (0, .ref (ad (20, 0, 0))), (1, .int (a)), (2, .int (b)), (3, .int (c)), (4, .int (d))]) o dX16_lot_60 (by decide) rfl ?_
      refine y_aload_n (pc := 62) o dX16_lot_62 rfl ?_
      refine y_iload (pc := 63) o dX16_lot_63 rfl ?_
      refine y_if_ne (pc := 65) (tgt := 72) o dX16_lot_65 rfl (fun b3 => absurd b3 (by decide)) (fun (b3 : 0 = 0) => ?_)
      refine y_iconst (pc := 68) (x := 1) o dX16_lot_68 (by decide) ?_
      refine y_goto (pc := 69) (tgt := 73) o dX16_lot_69 rfl ?_
      refine y_iconst (pc := 73) (x := 1) o dX16_lot_73 (by decide) ?_
      refine z_callV (pc := 74) (k := 0) (n := 0) (k' := 0) (n' := 0) o (b := ad (20, 0, 0)) (As := [.int (1), .int (1)]) (rest := []) (kFailsT hR h5 1 (by decide)) ln_X16_74 dX16_lot_74 (z_rc (ci := 20) (K := (20, 0, 0)) rfl (gl_20 hR) rfl) rfl rfl (Nat.le_of_ble_eq_true rfl) ⟨by decide, by decide⟩ ⟨rfl, rfl⟩ ⟨by decide, by decide⟩ rfl gq_nox2 ?_
      refine y_if_ne (pc := 77) (tgt := 107) o dX16_lot_77 rfl (fun (b4 : ¬ 1 = 0) => ?_) (fun b4 => absurd b4 (by decide))
      refine y_iconst (pc := 107) (x := -1) o dX16_lot_107 (by decide) ?_
      exact y_iret (pc := 108) o dX16_lot_108 rfl (vp_nar_int _) (by decide) (by decide) (fun h hp => gP_thr (k := 1) (by simp +decide only [F_lot, b1, b2, gtc0, gtc1, gtc2, gtc3, gtc4, not_true_eq_false, not_false_eq_true, if_true, if_false, or_true, true_or, or_false, false_or, and_true, true_and, and_false, false_and, or_self, and_self, eq_self, Bool.false_eq_true, ne_eq, reduceIte]) (by decide) hp)
    refine y_iload_n (pc := 30) o dX16_lot_30 rfl ?_
    refine y_i2l (pc := 31) o dX16_lot_31 ?_
    refine y_lconst (pc := 32) (x := 1) o dX16_lot_32 (by decide) ?_
    refine y_ldc2 (pc := 33) o dX16_lot_33 qw_1401 ?_
    refine z_callS (pc := 36) (k := 0) (n := 0) (k' := 0) (n' := 0) o (As := [.long (c.toInt64), .long (1), .long (9)]) (rest := []) (kIn c 1 9) ln_X16_13 dX16_lot_36 rfl rfl (Nat.le_of_ble_eq_true rfl) ⟨by decide, by decide⟩ ⟨rfl, rfl⟩ ⟨by decide, by decide⟩ rfl gq_nox2 ?_
    refine z_beq (pc := 39) (tgt := 59) o dX16_lot_39 rfl (fun (b5 : ¬ (gin 1 c 9 = true)) => ?_) (fun (b5 : gin 1 c 9 = true) => ?_)
    · refine y_iconst (pc := 59) (x := 0) o dX16_lot_59 (by decide) ?_
      refine y_istore (pc := 60) (i := 5) (lv' := [(5, .int (0)), (0, .ref (ad (20, 0, 0))), (1, .int (a)), (2, .int (b)), (3, .int (c)), (4, .int (d))]) o dX16_lot_60 (by decide) rfl ?_
      refine y_aload_n (pc := 62) o dX16_lot_62 rfl ?_
      refine y_iload (pc := 63) o dX16_lot_63 rfl ?_
      refine y_if_ne (pc := 65) (tgt := 72) o dX16_lot_65 rfl (fun b6 => absurd b6 (by decide)) (fun (b6 : 0 = 0) => ?_)
      refine y_iconst (pc := 68) (x := 1) o dX16_lot_68 (by decide) ?_
      refine y_goto (pc := 69) (tgt := 73) o dX16_lot_69 rfl ?_
      refine y_iconst (pc := 73) (x := 1) o dX16_lot_73 (by decide) ?_
      refine z_callV (pc := 74) (k := 0) (n := 0) (k' := 0) (n' := 0) o (b := ad (20, 0, 0)) (As := [.int (1), .int (1)]) (rest := []) (kFailsT hR h5 1 (by decide)) ln_X16_74 dX16_lot_74 (z_rc (ci := 20) (K := (20, 0, 0)) rfl (gl_20 hR) rfl) rfl rfl (Nat.le_of_ble_eq_true rfl) ⟨by decide, by decide⟩ ⟨rfl, rfl⟩ ⟨by decide, by decide⟩ rfl gq_nox2 ?_
      refine y_if_ne (pc := 77) (tgt := 107) o dX16_lot_77 rfl (fun (b7 : ¬ 1 = 0) => ?_) (fun b7 => absurd b7 (by decide))
      refine y_iconst (pc := 107) (x := -1) o dX16_lot_107 (by decide) ?_
      exact y_iret (pc := 108) o dX16_lot_108 rfl (vp_nar_int _) (by decide) (by decide) (fun h hp => gP_thr (k := 1) (by simp +decide only [F_lot, b1, b2, b5, gtc0, gtc1, gtc2, gtc3, gtc4, not_true_eq_false, not_false_eq_true, if_true, if_false, or_true, true_or, or_false, false_or, and_true, true_and, and_false, false_and, or_self, and_self, eq_self, Bool.false_eq_true, ne_eq, reduceIte]) (by decide) hp)
    refine y_iload (pc := 42) o dX16_lot_42 rfl ?_
    refine y_i2l (pc := 44) o dX16_lot_44 ?_
    refine y_lconst (pc := 45) (x := 1) o dX16_lot_45 (by decide) ?_
    refine y_ldc2 (pc := 46) o dX16_lot_46 qw_1266 ?_
    refine z_callS (pc := 49) (k := 0) (n := 0) (k' := 0) (n' := 0) o (As := [.long (d.toInt64), .long (1), .long (500)]) (rest := []) (kIn d 1 500) ln_X16_13 dX16_lot_49 rfl rfl (Nat.le_of_ble_eq_true rfl) ⟨by decide, by decide⟩ ⟨rfl, rfl⟩ ⟨by decide, by decide⟩ rfl gq_nox2 ?_
    refine z_beq (pc := 52) (tgt := 59) o dX16_lot_52 rfl (fun (b8 : ¬ (gin 1 d 500 = true)) => ?_) (fun (b8 : gin 1 d 500 = true) => ?_)
    · refine y_iconst (pc := 59) (x := 0) o dX16_lot_59 (by decide) ?_
      refine y_istore (pc := 60) (i := 5) (lv' := [(5, .int (0)), (0, .ref (ad (20, 0, 0))), (1, .int (a)), (2, .int (b)), (3, .int (c)), (4, .int (d))]) o dX16_lot_60 (by decide) rfl ?_
      refine y_aload_n (pc := 62) o dX16_lot_62 rfl ?_
      refine y_iload (pc := 63) o dX16_lot_63 rfl ?_
      refine y_if_ne (pc := 65) (tgt := 72) o dX16_lot_65 rfl (fun b9 => absurd b9 (by decide)) (fun (b9 : 0 = 0) => ?_)
      refine y_iconst (pc := 68) (x := 1) o dX16_lot_68 (by decide) ?_
      refine y_goto (pc := 69) (tgt := 73) o dX16_lot_69 rfl ?_
      refine y_iconst (pc := 73) (x := 1) o dX16_lot_73 (by decide) ?_
      refine z_callV (pc := 74) (k := 0) (n := 0) (k' := 0) (n' := 0) o (b := ad (20, 0, 0)) (As := [.int (1), .int (1)]) (rest := []) (kFailsT hR h5 1 (by decide)) ln_X16_74 dX16_lot_74 (z_rc (ci := 20) (K := (20, 0, 0)) rfl (gl_20 hR) rfl) rfl rfl (Nat.le_of_ble_eq_true rfl) ⟨by decide, by decide⟩ ⟨rfl, rfl⟩ ⟨by decide, by decide⟩ rfl gq_nox2 ?_
      refine y_if_ne (pc := 77) (tgt := 107) o dX16_lot_77 rfl (fun (b10 : ¬ 1 = 0) => ?_) (fun b10 => absurd b10 (by decide))
      refine y_iconst (pc := 107) (x := -1) o dX16_lot_107 (by decide) ?_
      exact y_iret (pc := 108) o dX16_lot_108 rfl (vp_nar_int _) (by decide) (by decide) (fun h hp => gP_thr (k := 1) (by simp +decide only [F_lot, b1, b2, b5, b8, gtc0, gtc1, gtc2, gtc3, gtc4, not_true_eq_false, not_false_eq_true, if_true, if_false, or_true, true_or, or_false, false_or, and_true, true_and, and_false, false_and, or_self, and_self, eq_self, Bool.false_eq_true, ne_eq, reduceIte]) (by decide) hp)
    refine y_iconst (pc := 55) (x := 1) o dX16_lot_55 (by decide) ?_
    refine y_goto (pc := 56) (tgt := 60) o dX16_lot_56 rfl ?_
    refine y_istore (pc := 60) (i := 5) (lv' := [(5, .int (1)), (0, .ref (ad (20, 0, 0))), (1, .int (a)), (2, .int (b)), (3, .int (c)), (4, .int (d))]) o dX16_lot_60 (by decide) rfl ?_
    refine y_aload_n (pc := 62) o dX16_lot_62 rfl ?_
    refine y_iload (pc := 63) o dX16_lot_63 rfl ?_
    refine y_if_ne (pc := 65) (tgt := 72) o dX16_lot_65 rfl (fun (b11 : ¬ 1 = 0) => ?_) (fun b11 => absurd b11 (by decide))
    refine y_iconst (pc := 72) (x := 0) o dX16_lot_72 (by decide) ?_
    refine y_iconst (pc := 73) (x := 1) o dX16_lot_73 (by decide) ?_
    refine z_callV (pc := 74) (k := 0) (n := 0) (k' := 0) (n' := 0) o (b := ad (20, 0, 0)) (As := [.int (0), .int (1)]) (rest := []) (kFailsF hR h5 1) ln_X16_74 dX16_lot_74 (z_rc (ci := 20) (K := (20, 0, 0)) rfl (gl_20 hR) rfl) rfl rfl (Nat.le_of_ble_eq_true rfl) ⟨by decide, by decide⟩ ⟨rfl, rfl⟩ ⟨by decide, by decide⟩ rfl gq_nox2 ?_
    refine y_if_ne (pc := 77) (tgt := 107) o dX16_lot_77 rfl (fun b12 => absurd b12 (by decide)) (fun (b12 : 0 = 0) => ?_)
    refine y_aload_n (pc := 80) o dX16_lot_80 rfl ?_
    refine y_aload_n (pc := 81) o dX16_lot_81 rfl ?_
    refine z_get (pc := 82) (K := (20, 0, 0)) (v := .ref (ad (24, 0, 0))) o fl_X16_38 dX16_lot_82 (gl_20 hR) rfl rfl ?_
    refine z_callF (pc := 85) (k := 0) (n := 0) (k' := 0) (n' := 0) (ci := 3) o (b := ad (24, 0, 0)) (As := []) (rest := [.ref (ad (20, 0, 0))]) (sizeR (l := 0) (g := 0) (gl_24_0 hR)) rfl lf_X16_7 dX16_lot_85 (fun h hr => ⟨_, ghdr_R (R := R) (gl_24_0 hR) hr⟩) rfl rfl (Nat.le_of_ble_eq_true rfl) ⟨by decide, by decide⟩ ⟨rfl, rfl⟩ ⟨by decide, by decide⟩ ?_
    refine y_bipush (pc := 90) (x := 16) o dX16_lot_90 (by decide) ?_
    refine y_icmp_ne (pc := 92) (tgt := 99) o dX16_lot_92 rfl (fun (b13 : ¬ (Int32.ofNat (R.2 6 0)) = 16) => ?_) (fun (b13 : (Int32.ofNat (R.2 6 0)) = 16) => ?_)
    · refine y_iconst (pc := 99) (x := 0) o dX16_lot_99 (by decide) ?_
      refine y_iconst (pc := 100) (x := 2) o dX16_lot_100 (by decide) ?_
      refine z_callV (pc := 101) (k := 0) (n := 0) (k' := 0) (n' := 0) o (b := ad (20, 0, 0)) (As := [.int (0), .int (2)]) (rest := []) (kFailsF hR h5 2) ln_X16_74 dX16_lot_101 (z_rc (ci := 20) (K := (20, 0, 0)) rfl (gl_20 hR) rfl) rfl rfl (Nat.le_of_ble_eq_true rfl) ⟨by decide, by decide⟩ ⟨rfl, rfl⟩ ⟨by decide, by decide⟩ rfl gq_nox2 ?_
      refine y_if_eq (pc := 104) (tgt := 109) o dX16_lot_104 rfl (fun (b14 : 0 = 0) => ?_) (fun b14 => absurd b14 (by rw [b12]; decide))
      refine y_aload_n (pc := 109) o dX16_lot_109 rfl ?_
      refine z_get (pc := 110) (K := (20, 0, 0)) (v := .ref (ad (24, 0, 0))) o fl_X16_38 dX16_lot_110 (gl_20 hR) rfl rfl ?_
      refine y_iconst (pc := 113) (x := 4) o dX16_lot_113 (by decide) ?_
      refine z_newI (pc := 114) (k := 0) (n := 0) (N := 4) o dX16_lot_114 (by decide) (by decide) (by decide) (by decide) (by decide) (fun q15 => ?_)
      refine y_dup (pc := 116) o dX16_lot_116 rfl ?_
      refine y_iconst (pc := 117) (x := 0) o dX16_lot_117 (by decide) ?_
      refine y_iload_n (pc := 118) o dX16_lot_118 rfl ?_
      refine z_iastT (pc := 119) (i := 0) (x := a) (T' := (q15, .inl (κ.2.1 0, 4, .inl (upd (fun _ => 0) (0 : Int32).toNatClampNeg a))) :: T) o 0 dX16_lot_119 rfl (by unfold vp_in; decide) rfl ?_
      refine y_dup (pc := 120) o dX16_lot_120 rfl ?_
      refine y_iconst (pc := 121) (x := 1) o dX16_lot_121 (by decide) ?_
      refine y_iload_n (pc := 122) o dX16_lot_122 rfl ?_
      refine z_iastT (pc := 123) (i := 1) (x := b) (T' := (q15, .inl (κ.2.1 0, 4, .inl (upd (upd (fun _ => 0) (0 : Int32).toNatClampNeg a) (1 : Int32).toNatClampNeg b))) :: T) o 0 dX16_lot_123 rfl (by unfold vp_in; decide) rfl ?_
      refine y_dup (pc := 124) o dX16_lot_124 rfl ?_
      refine y_iconst (pc := 125) (x := 2) o dX16_lot_125 (by decide) ?_
      refine y_iload_n (pc := 126) o dX16_lot_126 rfl ?_
      refine z_iastT (pc := 127) (i := 2) (x := c) (T' := (q15, .inl (κ.2.1 0, 4, .inl (upd (upd (upd (fun _ => 0) (0 : Int32).toNatClampNeg a) (1 : Int32).toNatClampNeg b) (2 : Int32).toNatClampNeg c))) :: T) o 0 dX16_lot_127 rfl (by unfold vp_in; decide) rfl ?_
      refine y_dup (pc := 128) o dX16_lot_128 rfl ?_
      refine y_iconst (pc := 129) (x := 3) o dX16_lot_129 (by decide) ?_
      refine y_iload (pc := 130) o dX16_lot_130 rfl ?_
      refine z_iastT (pc := 132) (i := 3) (x := d) (T' := (q15, .inl (κ.2.1 0, 4, .inl (upd (upd (upd (upd (fun _ => 0) (0 : Int32).toNatClampNeg a) (1 : Int32).toNatClampNeg b) (2 : Int32).toNatClampNeg c) (3 : Int32).toNatClampNeg d))) :: T) o 0 dX16_lot_132 rfl (by unfold vp_in; decide) rfl ?_
      refine y_callF (pc := 133) (ci := 3) (k := 1) (n := 4) o (b := ad (24, 0, 0)) (As := [.ref q15]) (rest := []) (addRa (C := C) (R := R) (l := 0) (g := 0) (n := R.2 6 0) (row := (glist [a, b, c, d])) (a := 6) rfl (gl_24_0 hR) (Or.inr rfl) rfl (hBR 0 0 (by decide)) nA4_6 (fun K hK => by cases hK)) rfl lf_X16_107 dX16_lot_133 (fun h hr => ⟨_, ghdr_R (R := R) (gl_24_0 hR) hr⟩) rfl rfl (Nat.le_of_ble_eq_true rfl) ⟨by decide, by decide⟩ ⟨by decide, by decide⟩ (fun _ e => e) (fun _ _ z => z) (fun v => y_and fun ev => y_ex fun ad16 => y_and fun had => y_and fun hadq => ?_)
      subst ev
      have e0 : ad16 (0, 0, 0) = ad (0, 0, 0) := had (0, 0, 0) (by simp) (by simp)
      have e20 : ad16 (20, 0, 0) = ad (20, 0, 0) := had (20, 0, 0) (by simp) (by simp)
      refine z_st (st' := [.int (1)]) rfl ?_
      rw [← e20]
      refine y_pop (pc := 138) o dX16_lot_138 rfl ?_
      refine y_aload_n (pc := 139) o dX16_lot_139 rfl ?_
      refine z_get (pc := 140) (K := (20, 0, 0)) (v := .ref (ad16 (24, 0, 0))) o fl_X16_38 dX16_lot_140 (gl_20 (gfix_new (a := 6) (by decide) hR)) rfl rfl ?_
      refine z_callF (pc := 143) (k := 2) (n := 260) (k' := 2) (n' := 260) (ci := 3) o (b := ad16 (24, 0, 0)) (As := []) (rest := []) (sizeR (l := 0) (g := 0) (gl_24_0 (gfix_new (a := 6) (by decide) hR))) rfl lf_X16_7 dX16_lot_143 (fun h hr => ⟨_, ghdr_R (R := (gnew R (6, 0, (R.2 6 0)) ((glist [a, b, c, d])))) (gl_24_0 (gfix_new (a := 6) (by decide) hR)) hr⟩) rfl rfl (Nat.le_of_ble_eq_true rfl) ⟨by decide, by decide⟩ ⟨rfl, rfl⟩ ⟨by decide, by decide⟩ ?_
      refine z_top (w := .int (Int32.ofNat (R.2 6 0 + 1))) (congrArg (fun z => Value.int (Int32.ofNat z)) (gnew_n _ _)) ?_
      refine y_iconst (pc := 148) (x := 1) o dX16_lot_148 (by decide) ?_
      refine y_isub (pc := 149) o dX16_lot_149 ?_
      exact y_iret (pc := 150) o dX16_lot_150 rfl (vp_nar_int _) (by decide) (by decide) (fun h hp => gP_mk (by simp +decide only [F_lot, b1, b2, b5, b8, gsz_f (k := 16) 16 rfl (by decide) hI.1.2.1.1 b13, gtc0, gtc1, gtc2, gtc3, gtc4, not_true_eq_false, not_false_eq_true, if_true, if_false, or_true, true_or, or_false, false_or, and_true, true_and, and_false, false_and, or_self, and_self, eq_self, Bool.false_eq_true, ne_eq, reduceIte]) e0 e20 hp)
    refine y_iconst (pc := 95) (x := 1) o dX16_lot_95 (by decide) ?_
    refine y_goto (pc := 96) (tgt := 100) o dX16_lot_96 rfl ?_
    refine y_iconst (pc := 100) (x := 2) o dX16_lot_100 (by decide) ?_
    refine z_callV (pc := 101) (k := 0) (n := 0) (k' := 0) (n' := 0) o (b := ad (20, 0, 0)) (As := [.int (1), .int (2)]) (rest := []) (kFailsT hR h5 2 (by decide)) ln_X16_74 dX16_lot_101 (z_rc (ci := 20) (K := (20, 0, 0)) rfl (gl_20 hR) rfl) rfl rfl (Nat.le_of_ble_eq_true rfl) ⟨by decide, by decide⟩ ⟨rfl, rfl⟩ ⟨by decide, by decide⟩ rfl gq_nox2 ?_
    refine y_if_eq (pc := 104) (tgt := 109) o dX16_lot_104 rfl (fun b17 => absurd b17 (by decide)) (fun (b17 : ¬ 1 = 0) => ?_)
    refine y_iconst (pc := 107) (x := -1) o dX16_lot_107 (by decide) ?_
    exact y_iret (pc := 108) o dX16_lot_108 rfl (vp_nar_int _) (by decide) (by decide) (fun h hp => gP_thr (k := 2) (by simp +decide only [F_lot, b1, b2, b5, b8, gsz_t b13, gtc0, gtc1, gtc2, gtc3, gtc4, not_true_eq_false, not_false_eq_true, if_true, if_false, or_true, true_or, or_false, false_or, and_true, true_and, and_false, false_and, or_self, and_self, eq_self, Bool.false_eq_true, ne_eq, reduceIte]) (by decide) hp)
  refine y_iload_n (pc := 10) o dX16_lot_10 rfl ?_
  refine y_bipush (pc := 11) (x := 99) o dX16_lot_11 (by decide) ?_
  refine y_icmp_ne (pc := 13) (tgt := 59) o dX16_lot_13 rfl (fun (b18 : ¬ a = 99) => ?_) (fun (b18 : a = 99) => ?_)
  · refine y_iconst (pc := 59) (x := 0) o dX16_lot_59 (by decide) ?_
    refine y_istore (pc := 60) (i := 5) (lv' := [(5, .int (0)), (0, .ref (ad (20, 0, 0))), (1, .int (a)), (2, .int (b)), (3, .int (c)), (4, .int (d))]) o dX16_lot_60 (by decide) rfl ?_
    refine y_aload_n (pc := 62) o dX16_lot_62 rfl ?_
    refine y_iload (pc := 63) o dX16_lot_63 rfl ?_
    refine y_if_ne (pc := 65) (tgt := 72) o dX16_lot_65 rfl (fun b19 => absurd b19 (by decide)) (fun (b19 : 0 = 0) => ?_)
    refine y_iconst (pc := 68) (x := 1) o dX16_lot_68 (by decide) ?_
    refine y_goto (pc := 69) (tgt := 73) o dX16_lot_69 rfl ?_
    refine y_iconst (pc := 73) (x := 1) o dX16_lot_73 (by decide) ?_
    refine z_callV (pc := 74) (k := 0) (n := 0) (k' := 0) (n' := 0) o (b := ad (20, 0, 0)) (As := [.int (1), .int (1)]) (rest := []) (kFailsT hR h5 1 (by decide)) ln_X16_74 dX16_lot_74 (z_rc (ci := 20) (K := (20, 0, 0)) rfl (gl_20 hR) rfl) rfl rfl (Nat.le_of_ble_eq_true rfl) ⟨by decide, by decide⟩ ⟨rfl, rfl⟩ ⟨by decide, by decide⟩ rfl gq_nox2 ?_
    refine y_if_ne (pc := 77) (tgt := 107) o dX16_lot_77 rfl (fun (b20 : ¬ 1 = 0) => ?_) (fun b20 => absurd b20 (by decide))
    refine y_iconst (pc := 107) (x := -1) o dX16_lot_107 (by decide) ?_
    exact y_iret (pc := 108) o dX16_lot_108 rfl (vp_nar_int _) (by decide) (by decide) (fun h hp => gP_thr (k := 1) (by simp +decide only [F_lot, b1, b18, gtc0, gtc1, gtc2, gtc3, gtc4, not_true_eq_false, not_false_eq_true, if_true, if_false, or_true, true_or, or_false, false_or, and_true, true_and, and_false, false_and, or_self, and_self, eq_self, Bool.false_eq_true, ne_eq, reduceIte]) (by decide) hp)
  refine y_iload_n (pc := 16) o dX16_lot_16 rfl ?_
  refine y_i2l (pc := 17) o dX16_lot_17 ?_
  refine y_ldc2 (pc := 18) o dX16_lot_18 qw_1399 ?_
  refine y_ldc2 (pc := 21) o dX16_lot_21 qw_1400 ?_
  refine z_callS (pc := 24) (k := 0) (n := 0) (k' := 0) (n' := 0) o (As := [.long (b.toInt64), .long (50), .long (99)]) (rest := []) (kIn b 50 99) ln_X16_13 dX16_lot_24 rfl rfl (Nat.le_of_ble_eq_true rfl) ⟨by decide, by decide⟩ ⟨rfl, rfl⟩ ⟨by decide, by decide⟩ rfl gq_nox2 ?_
  refine z_beq (pc := 27) (tgt := 59) o dX16_lot_27 rfl (fun (b21 : ¬ (gin 50 b 99 = true)) => ?_) (fun (b21 : gin 50 b 99 = true) => ?_)
  · refine y_iconst (pc := 59) (x := 0) o dX16_lot_59 (by decide) ?_
    refine y_istore (pc := 60) (i := 5) (lv' := [(5, .int (0)), (0, .ref (ad (20, 0, 0))), (1, .int (a)), (2, .int (b)), (3, .int (c)), (4, .int (d))]) o dX16_lot_60 (by decide) rfl ?_
    refine y_aload_n (pc := 62) o dX16_lot_62 rfl ?_
    refine y_iload (pc := 63) o dX16_lot_63 rfl ?_
    refine y_if_ne (pc := 65) (tgt := 72) o dX16_lot_65 rfl (fun b22 => absurd b22 (by decide)) (fun (b22 : 0 = 0) => ?_)
    refine y_iconst (pc := 68) (x := 1) o dX16_lot_68 (by decide) ?_
    refine y_goto (pc := 69) (tgt := 73) o dX16_lot_69 rfl ?_
    refine y_iconst (pc := 73) (x := 1) o dX16_lot_73 (by decide) ?_
    refine z_callV (pc := 74) (k := 0) (n := 0) (k' := 0) (n' := 0) o (b := ad (20, 0, 0)) (As := [.int (1), .int (1)]) (rest := []) (kFailsT hR h5 1 (by decide)) ln_X16_74 dX16_lot_74 (z_rc (ci := 20) (K := (20, 0, 0)) rfl (gl_20 hR) rfl) rfl rfl (Nat.le_of_ble_eq_true rfl) ⟨by decide, by decide⟩ ⟨rfl, rfl⟩ ⟨by decide, by decide⟩ rfl gq_nox2 ?_
    refine y_if_ne (pc := 77) (tgt := 107) o dX16_lot_77 rfl (fun (b23 : ¬ 1 = 0) => ?_) (fun b23 => absurd b23 (by decide))
    refine y_iconst (pc := 107) (x := -1) o dX16_lot_107 (by decide) ?_
    exact y_iret (pc := 108) o dX16_lot_108 rfl (vp_nar_int _) (by decide) (by decide) (fun h hp => gP_thr (k := 1) (by simp +decide only [F_lot, b1, b18, b21, gtc0, gtc1, gtc2, gtc3, gtc4, not_true_eq_false, not_false_eq_true, if_true, if_false, or_true, true_or, or_false, false_or, and_true, true_and, and_false, false_and, or_self, and_self, eq_self, Bool.false_eq_true, ne_eq, reduceIte]) (by decide) hp)
  refine y_iload_n (pc := 30) o dX16_lot_30 rfl ?_
  refine y_i2l (pc := 31) o dX16_lot_31 ?_
  refine y_lconst (pc := 32) (x := 1) o dX16_lot_32 (by decide) ?_
  refine y_ldc2 (pc := 33) o dX16_lot_33 qw_1401 ?_
  refine z_callS (pc := 36) (k := 0) (n := 0) (k' := 0) (n' := 0) o (As := [.long (c.toInt64), .long (1), .long (9)]) (rest := []) (kIn c 1 9) ln_X16_13 dX16_lot_36 rfl rfl (Nat.le_of_ble_eq_true rfl) ⟨by decide, by decide⟩ ⟨rfl, rfl⟩ ⟨by decide, by decide⟩ rfl gq_nox2 ?_
  refine z_beq (pc := 39) (tgt := 59) o dX16_lot_39 rfl (fun (b24 : ¬ (gin 1 c 9 = true)) => ?_) (fun (b24 : gin 1 c 9 = true) => ?_)
  · refine y_iconst (pc := 59) (x := 0) o dX16_lot_59 (by decide) ?_
    refine y_istore (pc := 60) (i := 5) (lv' := [(5, .int (0)), (0, .ref (ad (20, 0, 0))), (1, .int (a)), (2, .int (b)), (3, .int (c)), (4, .int (d))]) o dX16_lot_60 (by decide) rfl ?_
    refine y_aload_n (pc := 62) o dX16_lot_62 rfl ?_
    refine y_iload (pc := 63) o dX16_lot_63 rfl ?_
    refine y_if_ne (pc := 65) (tgt := 72) o dX16_lot_65 rfl (fun b25 => absurd b25 (by decide)) (fun (b25 : 0 = 0) => ?_)
    refine y_iconst (pc := 68) (x := 1) o dX16_lot_68 (by decide) ?_
    refine y_goto (pc := 69) (tgt := 73) o dX16_lot_69 rfl ?_
    refine y_iconst (pc := 73) (x := 1) o dX16_lot_73 (by decide) ?_
    refine z_callV (pc := 74) (k := 0) (n := 0) (k' := 0) (n' := 0) o (b := ad (20, 0, 0)) (As := [.int (1), .int (1)]) (rest := []) (kFailsT hR h5 1 (by decide)) ln_X16_74 dX16_lot_74 (z_rc (ci := 20) (K := (20, 0, 0)) rfl (gl_20 hR) rfl) rfl rfl (Nat.le_of_ble_eq_true rfl) ⟨by decide, by decide⟩ ⟨rfl, rfl⟩ ⟨by decide, by decide⟩ rfl gq_nox2 ?_
    refine y_if_ne (pc := 77) (tgt := 107) o dX16_lot_77 rfl (fun (b26 : ¬ 1 = 0) => ?_) (fun b26 => absurd b26 (by decide))
    refine y_iconst (pc := 107) (x := -1) o dX16_lot_107 (by decide) ?_
    exact y_iret (pc := 108) o dX16_lot_108 rfl (vp_nar_int _) (by decide) (by decide) (fun h hp => gP_thr (k := 1) (by simp +decide only [F_lot, b1, b18, b21, b24, gtc0, gtc1, gtc2, gtc3, gtc4, not_true_eq_false, not_false_eq_true, if_true, if_false, or_true, true_or, or_false, false_or, and_true, true_and, and_false, false_and, or_self, and_self, eq_self, Bool.false_eq_true, ne_eq, reduceIte]) (by decide) hp)
  refine y_iload (pc := 42) o dX16_lot_42 rfl ?_
  refine y_i2l (pc := 44) o dX16_lot_44 ?_
  refine y_lconst (pc := 45) (x := 1) o dX16_lot_45 (by decide) ?_
  refine y_ldc2 (pc := 46) o dX16_lot_46 qw_1266 ?_
  refine z_callS (pc := 49) (k := 0) (n := 0) (k' := 0) (n' := 0) o (As := [.long (d.toInt64), .long (1), .long (500)]) (rest := []) (kIn d 1 500) ln_X16_13 dX16_lot_49 rfl rfl (Nat.le_of_ble_eq_true rfl) ⟨by decide, by decide⟩ ⟨rfl, rfl⟩ ⟨by decide, by decide⟩ rfl gq_nox2 ?_
  refine z_beq (pc := 52) (tgt := 59) o dX16_lot_52 rfl (fun (b27 : ¬ (gin 1 d 500 = true)) => ?_) (fun (b27 : gin 1 d 500 = true) => ?_)
  · refine y_iconst (pc := 59) (x := 0) o dX16_lot_59 (by decide) ?_
    refine y_istore (pc := 60) (i := 5) (lv' := [(5, .int (0)), (0, .ref (ad (20, 0, 0))), (1, .int (a)), (2, .int (b)), (3, .int (c)), (4, .int (d))]) o dX16_lot_60 (by decide) rfl ?_
    refine y_aload_n (pc := 62) o dX16_lot_62 rfl ?_
    refine y_iload (pc := 63) o dX16_lot_63 rfl ?_
    refine y_if_ne (pc := 65) (tgt := 72) o dX16_lot_65 rfl (fun b28 => absurd b28 (by decide)) (fun (b28 : 0 = 0) => ?_)
    refine y_iconst (pc := 68) (x := 1) o dX16_lot_68 (by decide) ?_
    refine y_goto (pc := 69) (tgt := 73) o dX16_lot_69 rfl ?_
    refine y_iconst (pc := 73) (x := 1) o dX16_lot_73 (by decide) ?_
    refine z_callV (pc := 74) (k := 0) (n := 0) (k' := 0) (n' := 0) o (b := ad (20, 0, 0)) (As := [.int (1), .int (1)]) (rest := []) (kFailsT hR h5 1 (by decide)) ln_X16_74 dX16_lot_74 (z_rc (ci := 20) (K := (20, 0, 0)) rfl (gl_20 hR) rfl) rfl rfl (Nat.le_of_ble_eq_true rfl) ⟨by decide, by decide⟩ ⟨rfl, rfl⟩ ⟨by decide, by decide⟩ rfl gq_nox2 ?_
    refine y_if_ne (pc := 77) (tgt := 107) o dX16_lot_77 rfl (fun (b29 : ¬ 1 = 0) => ?_) (fun b29 => absurd b29 (by decide))
    refine y_iconst (pc := 107) (x := -1) o dX16_lot_107 (by decide) ?_
    exact y_iret (pc := 108) o dX16_lot_108 rfl (vp_nar_int _) (by decide) (by decide) (fun h hp => gP_thr (k := 1) (by simp +decide only [F_lot, b1, b18, b21, b24, b27, gtc0, gtc1, gtc2, gtc3, gtc4, not_true_eq_false, not_false_eq_true, if_true, if_false, or_true, true_or, or_false, false_or, and_true, true_and, and_false, false_and, or_self, and_self, eq_self, Bool.false_eq_true, ne_eq, reduceIte]) (by decide) hp)
  refine y_iconst (pc := 55) (x := 1) o dX16_lot_55 (by decide) ?_
  refine y_goto (pc := 56) (tgt := 60) o dX16_lot_56 rfl ?_
  refine y_istore (pc := 60) (i := 5) (lv' := [(5, .int (1)), (0, .ref (ad (20, 0, 0))), (1, .int (a)), (2, .int (b)), (3, .int (c)), (4, .int (d))]) o dX16_lot_60 (by decide) rfl ?_
  refine y_aload_n (pc := 62) o dX16_lot_62 rfl ?_
  refine y_iload (pc := 63) o dX16_lot_63 rfl ?_
  refine y_if_ne (pc := 65) (tgt := 72) o dX16_lot_65 rfl (fun (b30 : ¬ 1 = 0) => ?_) (fun b30 => absurd b30 (by decide))
  refine y_iconst (pc := 72) (x := 0) o dX16_lot_72 (by decide) ?_
  refine y_iconst (pc := 73) (x := 1) o dX16_lot_73 (by decide) ?_
  refine z_callV (pc := 74) (k := 0) (n := 0) (k' := 0) (n' := 0) o (b := ad (20, 0, 0)) (As := [.int (0), .int (1)]) (rest := []) (kFailsF hR h5 1) ln_X16_74 dX16_lot_74 (z_rc (ci := 20) (K := (20, 0, 0)) rfl (gl_20 hR) rfl) rfl rfl (Nat.le_of_ble_eq_true rfl) ⟨by decide, by decide⟩ ⟨rfl, rfl⟩ ⟨by decide, by decide⟩ rfl gq_nox2 ?_
  refine y_if_ne (pc := 77) (tgt := 107) o dX16_lot_77 rfl (fun b31 => absurd b31 (by decide)) (fun (b31 : 0 = 0) => ?_)
  refine y_aload_n (pc := 80) o dX16_lot_80 rfl ?_
  refine y_aload_n (pc := 81) o dX16_lot_81 rfl ?_
  refine z_get (pc := 82) (K := (20, 0, 0)) (v := .ref (ad (24, 0, 0))) o fl_X16_38 dX16_lot_82 (gl_20 hR) rfl rfl ?_
  refine z_callF (pc := 85) (k := 0) (n := 0) (k' := 0) (n' := 0) (ci := 3) o (b := ad (24, 0, 0)) (As := []) (rest := [.ref (ad (20, 0, 0))]) (sizeR (l := 0) (g := 0) (gl_24_0 hR)) rfl lf_X16_7 dX16_lot_85 (fun h hr => ⟨_, ghdr_R (R := R) (gl_24_0 hR) hr⟩) rfl rfl (Nat.le_of_ble_eq_true rfl) ⟨by decide, by decide⟩ ⟨rfl, rfl⟩ ⟨by decide, by decide⟩ ?_
  refine y_bipush (pc := 90) (x := 16) o dX16_lot_90 (by decide) ?_
  refine y_icmp_ne (pc := 92) (tgt := 99) o dX16_lot_92 rfl (fun (b32 : ¬ (Int32.ofNat (R.2 6 0)) = 16) => ?_) (fun (b32 : (Int32.ofNat (R.2 6 0)) = 16) => ?_)
  · refine y_iconst (pc := 99) (x := 0) o dX16_lot_99 (by decide) ?_
    refine y_iconst (pc := 100) (x := 2) o dX16_lot_100 (by decide) ?_
    refine z_callV (pc := 101) (k := 0) (n := 0) (k' := 0) (n' := 0) o (b := ad (20, 0, 0)) (As := [.int (0), .int (2)]) (rest := []) (kFailsF hR h5 2) ln_X16_74 dX16_lot_101 (z_rc (ci := 20) (K := (20, 0, 0)) rfl (gl_20 hR) rfl) rfl rfl (Nat.le_of_ble_eq_true rfl) ⟨by decide, by decide⟩ ⟨rfl, rfl⟩ ⟨by decide, by decide⟩ rfl gq_nox2 ?_
    refine y_if_eq (pc := 104) (tgt := 109) o dX16_lot_104 rfl (fun (b33 : 0 = 0) => ?_) (fun b33 => absurd b33 (by rw [b31]; decide))
    refine y_aload_n (pc := 109) o dX16_lot_109 rfl ?_
    refine z_get (pc := 110) (K := (20, 0, 0)) (v := .ref (ad (24, 0, 0))) o fl_X16_38 dX16_lot_110 (gl_20 hR) rfl rfl ?_
    refine y_iconst (pc := 113) (x := 4) o dX16_lot_113 (by decide) ?_
    refine z_newI (pc := 114) (k := 0) (n := 0) (N := 4) o dX16_lot_114 (by decide) (by decide) (by decide) (by decide) (by decide) (fun q34 => ?_)
    refine y_dup (pc := 116) o dX16_lot_116 rfl ?_
    refine y_iconst (pc := 117) (x := 0) o dX16_lot_117 (by decide) ?_
    refine y_iload_n (pc := 118) o dX16_lot_118 rfl ?_
    refine z_iastT (pc := 119) (i := 0) (x := a) (T' := (q34, .inl (κ.2.1 0, 4, .inl (upd (fun _ => 0) (0 : Int32).toNatClampNeg a))) :: T) o 0 dX16_lot_119 rfl (by unfold vp_in; decide) rfl ?_
    refine y_dup (pc := 120) o dX16_lot_120 rfl ?_
    refine y_iconst (pc := 121) (x := 1) o dX16_lot_121 (by decide) ?_
    refine y_iload_n (pc := 122) o dX16_lot_122 rfl ?_
    refine z_iastT (pc := 123) (i := 1) (x := b) (T' := (q34, .inl (κ.2.1 0, 4, .inl (upd (upd (fun _ => 0) (0 : Int32).toNatClampNeg a) (1 : Int32).toNatClampNeg b))) :: T) o 0 dX16_lot_123 rfl (by unfold vp_in; decide) rfl ?_
    refine y_dup (pc := 124) o dX16_lot_124 rfl ?_
    refine y_iconst (pc := 125) (x := 2) o dX16_lot_125 (by decide) ?_
    refine y_iload_n (pc := 126) o dX16_lot_126 rfl ?_
    refine z_iastT (pc := 127) (i := 2) (x := c) (T' := (q34, .inl (κ.2.1 0, 4, .inl (upd (upd (upd (fun _ => 0) (0 : Int32).toNatClampNeg a) (1 : Int32).toNatClampNeg b) (2 : Int32).toNatClampNeg c))) :: T) o 0 dX16_lot_127 rfl (by unfold vp_in; decide) rfl ?_
    refine y_dup (pc := 128) o dX16_lot_128 rfl ?_
    refine y_iconst (pc := 129) (x := 3) o dX16_lot_129 (by decide) ?_
    refine y_iload (pc := 130) o dX16_lot_130 rfl ?_
    refine z_iastT (pc := 132) (i := 3) (x := d) (T' := (q34, .inl (κ.2.1 0, 4, .inl (upd (upd (upd (upd (fun _ => 0) (0 : Int32).toNatClampNeg a) (1 : Int32).toNatClampNeg b) (2 : Int32).toNatClampNeg c) (3 : Int32).toNatClampNeg d))) :: T) o 0 dX16_lot_132 rfl (by unfold vp_in; decide) rfl ?_
    refine y_callF (pc := 133) (ci := 3) (k := 1) (n := 4) o (b := ad (24, 0, 0)) (As := [.ref q34]) (rest := []) (addRa (C := C) (R := R) (l := 0) (g := 0) (n := R.2 6 0) (row := (glist [a, b, c, d])) (a := 6) rfl (gl_24_0 hR) (Or.inr rfl) rfl (hBR 0 0 (by decide)) nA4_6 (fun K hK => by cases hK)) rfl lf_X16_107 dX16_lot_133 (fun h hr => ⟨_, ghdr_R (R := R) (gl_24_0 hR) hr⟩) rfl rfl (Nat.le_of_ble_eq_true rfl) ⟨by decide, by decide⟩ ⟨by decide, by decide⟩ (fun _ e => e) (fun _ _ z => z) (fun v => y_and fun ev => y_ex fun ad35 => y_and fun had => y_and fun hadq => ?_)
    subst ev
    have e0 : ad35 (0, 0, 0) = ad (0, 0, 0) := had (0, 0, 0) (by simp) (by simp)
    have e20 : ad35 (20, 0, 0) = ad (20, 0, 0) := had (20, 0, 0) (by simp) (by simp)
    refine z_st (st' := [.int (1)]) rfl ?_
    rw [← e20]
    refine y_pop (pc := 138) o dX16_lot_138 rfl ?_
    refine y_aload_n (pc := 139) o dX16_lot_139 rfl ?_
    refine z_get (pc := 140) (K := (20, 0, 0)) (v := .ref (ad35 (24, 0, 0))) o fl_X16_38 dX16_lot_140 (gl_20 (gfix_new (a := 6) (by decide) hR)) rfl rfl ?_
    refine z_callF (pc := 143) (k := 2) (n := 260) (k' := 2) (n' := 260) (ci := 3) o (b := ad35 (24, 0, 0)) (As := []) (rest := []) (sizeR (l := 0) (g := 0) (gl_24_0 (gfix_new (a := 6) (by decide) hR))) rfl lf_X16_7 dX16_lot_143 (fun h hr => ⟨_, ghdr_R (R := (gnew R (6, 0, (R.2 6 0)) ((glist [a, b, c, d])))) (gl_24_0 (gfix_new (a := 6) (by decide) hR)) hr⟩) rfl rfl (Nat.le_of_ble_eq_true rfl) ⟨by decide, by decide⟩ ⟨rfl, rfl⟩ ⟨by decide, by decide⟩ ?_
    refine z_top (w := .int (Int32.ofNat (R.2 6 0 + 1))) (congrArg (fun z => Value.int (Int32.ofNat z)) (gnew_n _ _)) ?_
    refine y_iconst (pc := 148) (x := 1) o dX16_lot_148 (by decide) ?_
    refine y_isub (pc := 149) o dX16_lot_149 ?_
    exact y_iret (pc := 150) o dX16_lot_150 rfl (vp_nar_int _) (by decide) (by decide) (fun h hp => gP_mk (by simp +decide only [F_lot, b1, b18, b21, b24, b27, gsz_f (k := 16) 16 rfl (by decide) hI.1.2.1.1 b32, gtc0, gtc1, gtc2, gtc3, gtc4, not_true_eq_false, not_false_eq_true, if_true, if_false, or_true, true_or, or_false, false_or, and_true, true_and, and_false, false_and, or_self, and_self, eq_self, Bool.false_eq_true, ne_eq, reduceIte]) e0 e20 hp)
  refine y_iconst (pc := 95) (x := 1) o dX16_lot_95 (by decide) ?_
  refine y_goto (pc := 96) (tgt := 100) o dX16_lot_96 rfl ?_
  refine y_iconst (pc := 100) (x := 2) o dX16_lot_100 (by decide) ?_
  refine z_callV (pc := 101) (k := 0) (n := 0) (k' := 0) (n' := 0) o (b := ad (20, 0, 0)) (As := [.int (1), .int (2)]) (rest := []) (kFailsT hR h5 2 (by decide)) ln_X16_74 dX16_lot_101 (z_rc (ci := 20) (K := (20, 0, 0)) rfl (gl_20 hR) rfl) rfl rfl (Nat.le_of_ble_eq_true rfl) ⟨by decide, by decide⟩ ⟨rfl, rfl⟩ ⟨by decide, by decide⟩ rfl gq_nox2 ?_
  refine y_if_eq (pc := 104) (tgt := 109) o dX16_lot_104 rfl (fun b36 => absurd b36 (by decide)) (fun (b36 : ¬ 1 = 0) => ?_)
  refine y_iconst (pc := 107) (x := -1) o dX16_lot_107 (by decide) ?_
  exact y_iret (pc := 108) o dX16_lot_108 rfl (vp_nar_int _) (by decide) (by decide) (fun h hp => gP_thr (k := 2) (by simp +decide only [F_lot, b1, b18, b21, b24, b27, gsz_t b32, gtc0, gtc1, gtc2, gtc3, gtc4, not_true_eq_false, not_false_eq_true, if_true, if_false, or_true, true_or, or_false, false_or, and_true, true_and, and_false, false_and, or_self, and_self, eq_self, Bool.false_eq_true, ne_eq, reduceIte]) (by decide) hp)

theorem r_kilos {κ : gq_K} {ad : gKey → Nat} {C Rp R : gG} {T : List (Nat × va_E)} {n : Nat} (hb : gup Rp (0, 0, 0) 5 0 = R) (hI : gI n R) (hn : n ≤ 512) (a : Int32) : gq_C κ mX16_kilos [.ref (ad (20, 0, 0)), .int (a)] (gR κ ad (C, Rp) T) (gP κ ad C T (F_kilos R a)) (gq_no) := by
  refine gq_enter (by decide +kernel) rfl (Nat.le_of_ble_eq_true rfl) rfl (fun f o => ?_)
  have hR := hI.fix
  have hBR := hI.cnt
  have hRp : gfix Rp.2 := by rw [← hb] at hR; exact hR
  have h5 : R.1 (0, 0, 0) 5 = 0 := by rw [← hb]; exact gup_v _ _ _ _
  refine y_aload_n (pc := 0) o dX16_kilos_0 rfl ?_
  refine z_callVv (pc := 1) (k := 0) (n := 0) (k' := 0) (n' := 0) o (b := ad (20, 0, 0)) (As := []) (rest := []) (kBegins hRp) ln_X16_69 dX16_kilos_1 (z_rc (ci := 20) (K := (20, 0, 0)) rfl (gl_20 hRp) rfl) rfl rfl (Nat.le_of_ble_eq_true rfl) ⟨by decide, by decide⟩ ⟨rfl, rfl⟩ ⟨by decide, by decide⟩ rfl gq_nox2 ?_
  rw [hb]
  refine y_aload_n (pc := 4) o dX16_kilos_4 rfl ?_
  refine y_iload_n (pc := 5) o dX16_kilos_5 rfl ?_
  by_cases g1 : gix (R.2 6 0) a = true
  · refine z_callV (pc := 6) (k := 0) (n := 0) (k' := 0) (n' := 0) o (b := ad (20, 0, 0)) (As := [.int (a)]) (rest := []) (knoLotF hR hBR h5 a g1) ln_X16_111 dX16_kilos_6 (z_rc (ci := 20) (K := (20, 0, 0)) rfl (gl_20 hR) rfl) rfl rfl (Nat.le_of_ble_eq_true rfl) ⟨by decide, by decide⟩ ⟨rfl, rfl⟩ ⟨by decide, by decide⟩ rfl gq_nox2 ?_
    refine y_if_eq (pc := 9) (tgt := 16) o dX16_kilos_9 rfl (fun (b2 : 0 = 0) => ?_) (fun b2 => absurd b2 (by decide))
    refine y_aload_n (pc := 16) o dX16_kilos_16 rfl ?_
    refine z_get (pc := 17) (K := (20, 0, 0)) (v := .ref (ad (24, 0, 0))) o fl_X16_38 dX16_kilos_17 (gl_20 hR) rfl rfl ?_
    refine y_iload_n (pc := 20) o dX16_kilos_20 rfl ?_
    refine z_callF (pc := 21) (k := 0) (n := 0) (k' := 0) (n' := 0) (ci := 3) o (b := ad (24, 0, 0)) (As := [.int (a)]) (rest := []) (getR (l := 0) (g := 0) (gl_24_0 hR) (hBR 0 0 (by decide)) g1) rfl lf_X16_114 dX16_kilos_21 (fun h hr => ⟨_, ghdr_R (R := R) (gl_24_0 hR) hr⟩) rfl rfl (Nat.le_of_ble_eq_true rfl) ⟨by decide, by decide⟩ ⟨rfl, rfl⟩ ⟨by decide, by decide⟩ ?_
    refine z_castI (pc := 26) (K := (26, 0, a.toNatClampNeg)) (N := 4) o qw_1435 dX16_kilos_26 (gl_26 (gix_lt (Nat.le_trans (hBR 0 0 (by decide)) (by decide)) g1)) rfl ?_
    refine y_iconst (pc := 29) (x := 3) o dX16_kilos_29 (by decide) ?_
    refine z_iald (pc := 30) (K := (26, 0, a.toNatClampNeg)) (i := 3) (v := R.1 (6, 0, a.toNatClampNeg) 3) o dX16_kilos_30 (gl_26 (gix_lt (Nat.le_trans (hBR 0 0 (by decide)) (by decide)) g1)) rfl (by unfold vp_in; decide) rfl ?_
    exact y_iret (pc := 31) o dX16_kilos_31 rfl (vp_nar_int _) (by decide) (by decide) (fun h hp => gP_mk (by simp +decide only [F_kilos, g1, gtc0, gtc1, gtc2, gtc3, gtc4, not_true_eq_false, not_false_eq_true, if_true, if_false, or_true, true_or, or_false, false_or, and_true, true_and, and_false, false_and, or_self, and_self, eq_self, Bool.false_eq_true, ne_eq, reduceIte]) rfl rfl hp)
  refine z_callV (pc := 6) (k := 0) (n := 0) (k' := 0) (n' := 0) o (b := ad (20, 0, 0)) (As := [.int (a)]) (rest := []) (knoLotT hR hBR h5 a g1) ln_X16_111 dX16_kilos_6 (z_rc (ci := 20) (K := (20, 0, 0)) rfl (gl_20 hR) rfl) rfl rfl (Nat.le_of_ble_eq_true rfl) ⟨by decide, by decide⟩ ⟨rfl, rfl⟩ ⟨by decide, by decide⟩ rfl gq_nox2 ?_
  refine y_if_eq (pc := 9) (tgt := 16) o dX16_kilos_9 rfl (fun b3 => absurd b3 (by decide)) (fun (b3 : ¬ 1 = 0) => ?_)
  refine y_iconst (pc := 12) (x := -1) o dX16_kilos_12 (by decide) ?_
  refine y_goto (pc := 13) (tgt := 31) o dX16_kilos_13 rfl ?_
  exact y_iret (pc := 31) o dX16_kilos_31 rfl (vp_nar_int _) (by decide) (by decide) (fun h hp => gP_thr (k := 1) (by simp +decide only [F_kilos, g1, gtc0, gtc1, gtc2, gtc3, gtc4, not_true_eq_false, not_false_eq_true, if_true, if_false, or_true, true_or, or_false, false_or, and_true, true_and, and_false, false_and, or_self, and_self, eq_self, Bool.false_eq_true, ne_eq, reduceIte]) (by decide) hp)

theorem r_worn {κ : gq_K} {ad : gKey → Nat} {C Rp R : gG} {T : List (Nat × va_E)} {n : Nat} (hb : gup Rp (0, 0, 0) 5 0 = R) (hI : gI n R) (hn : n ≤ 512) (a : Int32) : gq_C κ mX16_worn [.ref (ad (20, 0, 0)), .int (a)] (gR κ ad (C, Rp) T) (gP κ ad C T (F_worn R a)) (gq_no) := by
  refine gq_enter (by decide +kernel) rfl (Nat.le_of_ble_eq_true rfl) rfl (fun f o => ?_)
  have hR := hI.fix
  have hBR := hI.cnt
  have hRp : gfix Rp.2 := by rw [← hb] at hR; exact hR
  have h5 : R.1 (0, 0, 0) 5 = 0 := by rw [← hb]; exact gup_v _ _ _ _
  refine y_aload_n (pc := 0) o dX16_worn_0 rfl ?_
  refine z_callVv (pc := 1) (k := 0) (n := 0) (k' := 0) (n' := 0) o (b := ad (20, 0, 0)) (As := []) (rest := []) (kBegins hRp) ln_X16_69 dX16_worn_1 (z_rc (ci := 20) (K := (20, 0, 0)) rfl (gl_20 hRp) rfl) rfl rfl (Nat.le_of_ble_eq_true rfl) ⟨by decide, by decide⟩ ⟨rfl, rfl⟩ ⟨by decide, by decide⟩ rfl gq_nox2 ?_
  rw [hb]
  refine y_aload_n (pc := 4) o dX16_worn_4 rfl ?_
  refine y_iload_n (pc := 5) o dX16_worn_5 rfl ?_
  refine y_i2l (pc := 6) o dX16_worn_6 ?_
  refine y_lconst (pc := 7) (x := 0) o dX16_worn_7 (by decide) ?_
  refine y_ldc2 (pc := 8) o dX16_worn_8 qw_1451 ?_
  refine z_callS (pc := 11) (k := 0) (n := 0) (k' := 0) (n' := 0) o (As := [.long (a.toInt64), .long (0), .long (3)]) (rest := [.ref (ad (20, 0, 0))]) (kIn a 0 3) ln_X16_13 dX16_worn_11 rfl rfl (Nat.le_of_ble_eq_true rfl) ⟨by decide, by decide⟩ ⟨rfl, rfl⟩ ⟨by decide, by decide⟩ rfl gq_nox2 ?_
  refine z_bne (pc := 14) (tgt := 21) o dX16_worn_14 rfl (fun (b1 : gin 0 a 3 = true) => ?_) (fun (b1 : ¬ (gin 0 a 3 = true)) => ?_)
  · refine y_iconst (pc := 21) (x := 0) o dX16_worn_21 (by decide) ?_
    refine y_iconst (pc := 22) (x := 1) o dX16_worn_22 (by decide) ?_
    refine z_callV (pc := 23) (k := 0) (n := 0) (k' := 0) (n' := 0) o (b := ad (20, 0, 0)) (As := [.int (0), .int (1)]) (rest := []) (kFailsF hR h5 1) ln_X16_74 dX16_worn_23 (z_rc (ci := 20) (K := (20, 0, 0)) rfl (gl_20 hR) rfl) rfl rfl (Nat.le_of_ble_eq_true rfl) ⟨by decide, by decide⟩ ⟨rfl, rfl⟩ ⟨by decide, by decide⟩ rfl gq_nox2 ?_
    refine y_if_eq (pc := 26) (tgt := 33) o dX16_worn_26 rfl (fun (b2 : 0 = 0) => ?_) (fun b2 => absurd b2 (by decide))
    refine y_aload_n (pc := 33) o dX16_worn_33 rfl ?_
    refine z_get (pc := 34) (K := (20, 0, 0)) (v := .ref (ad (34, 0, 0))) o fl_X16_45 dX16_worn_34 (gl_20 hR) rfl rfl ?_
    refine y_iload_n (pc := 37) o dX16_worn_37 rfl ?_
    refine z_iald (pc := 38) (K := (34, 0, 0)) (i := a) (v := R.1 (14, 0, 0) a.toNatClampNeg) o dX16_worn_38 (gl_34 hR) rfl (gin4g b1) (if_pos (gin_lt (gin4g b1))) ?_
    exact y_iret (pc := 39) o dX16_worn_39 rfl (vp_nar_int _) (by decide) (by decide) (fun h hp => gP_mk (by simp +decide only [F_worn, b1, gin3p, gtc0, gtc1, gtc2, gtc3, gtc4, not_true_eq_false, not_false_eq_true, if_true, if_false, or_true, true_or, or_false, false_or, and_true, true_and, and_false, false_and, or_self, and_self, eq_self, Bool.false_eq_true, ne_eq, reduceIte]) rfl rfl hp)
  refine y_iconst (pc := 17) (x := 1) o dX16_worn_17 (by decide) ?_
  refine y_goto (pc := 18) (tgt := 22) o dX16_worn_18 rfl ?_
  refine y_iconst (pc := 22) (x := 1) o dX16_worn_22 (by decide) ?_
  refine z_callV (pc := 23) (k := 0) (n := 0) (k' := 0) (n' := 0) o (b := ad (20, 0, 0)) (As := [.int (1), .int (1)]) (rest := []) (kFailsT hR h5 1 (by decide)) ln_X16_74 dX16_worn_23 (z_rc (ci := 20) (K := (20, 0, 0)) rfl (gl_20 hR) rfl) rfl rfl (Nat.le_of_ble_eq_true rfl) ⟨by decide, by decide⟩ ⟨rfl, rfl⟩ ⟨by decide, by decide⟩ rfl gq_nox2 ?_
  refine y_if_eq (pc := 26) (tgt := 33) o dX16_worn_26 rfl (fun b3 => absurd b3 (by decide)) (fun (b3 : ¬ 1 = 0) => ?_)
  refine y_iconst (pc := 29) (x := -1) o dX16_worn_29 (by decide) ?_
  refine y_goto (pc := 30) (tgt := 39) o dX16_worn_30 rfl ?_
  exact y_iret (pc := 39) o dX16_worn_39 rfl (vp_nar_int _) (by decide) (by decide) (fun h hp => gP_thr (k := 1) (by simp +decide only [F_worn, b1, gin3p, gtc0, gtc1, gtc2, gtc3, gtc4, not_true_eq_false, not_false_eq_true, if_true, if_false, or_true, true_or, or_false, false_or, and_true, true_and, and_false, false_and, or_self, and_self, eq_self, Bool.false_eq_true, ne_eq, reduceIte]) (by decide) hp)

theorem r_renew {κ : gq_K} {ad : gKey → Nat} {C Rp R : gG} {T : List (Nat × va_E)} {n : Nat} (hb : gup Rp (0, 0, 0) 5 0 = R) (hI : gI n R) (hn : n ≤ 512) (a : Int32) : gq_C κ mX16_renew [.ref (ad (20, 0, 0)), .int (a)] (gR κ ad (C, Rp) T) (gP κ ad C T (F_renew R a)) (gq_no) := by
  refine gq_enter (by decide +kernel) rfl (Nat.le_of_ble_eq_true rfl) rfl (fun f o => ?_)
  have hR := hI.fix
  have hBR := hI.cnt
  have hRp : gfix Rp.2 := by rw [← hb] at hR; exact hR
  have h5 : R.1 (0, 0, 0) 5 = 0 := by rw [← hb]; exact gup_v _ _ _ _
  refine y_aload_n (pc := 0) o dX16_renew_0 rfl ?_
  refine z_callVv (pc := 1) (k := 0) (n := 0) (k' := 0) (n' := 0) o (b := ad (20, 0, 0)) (As := []) (rest := []) (kBegins hRp) ln_X16_69 dX16_renew_1 (z_rc (ci := 20) (K := (20, 0, 0)) rfl (gl_20 hRp) rfl) rfl rfl (Nat.le_of_ble_eq_true rfl) ⟨by decide, by decide⟩ ⟨rfl, rfl⟩ ⟨by decide, by decide⟩ rfl gq_nox2 ?_
  rw [hb]
  refine y_aload_n (pc := 4) o dX16_renew_4 rfl ?_
  refine y_iload_n (pc := 5) o dX16_renew_5 rfl ?_
  refine y_i2l (pc := 6) o dX16_renew_6 ?_
  refine y_lconst (pc := 7) (x := 0) o dX16_renew_7 (by decide) ?_
  refine y_ldc2 (pc := 8) o dX16_renew_8 qw_1451 ?_
  refine z_callS (pc := 11) (k := 0) (n := 0) (k' := 0) (n' := 0) o (As := [.long (a.toInt64), .long (0), .long (3)]) (rest := [.ref (ad (20, 0, 0))]) (kIn a 0 3) ln_X16_13 dX16_renew_11 rfl rfl (Nat.le_of_ble_eq_true rfl) ⟨by decide, by decide⟩ ⟨rfl, rfl⟩ ⟨by decide, by decide⟩ rfl gq_nox2 ?_
  refine z_bne (pc := 14) (tgt := 21) o dX16_renew_14 rfl (fun (b1 : gin 0 a 3 = true) => ?_) (fun (b1 : ¬ (gin 0 a 3 = true)) => ?_)
  · refine y_iconst (pc := 21) (x := 0) o dX16_renew_21 (by decide) ?_
    refine y_iconst (pc := 22) (x := 1) o dX16_renew_22 (by decide) ?_
    refine z_callV (pc := 23) (k := 0) (n := 0) (k' := 0) (n' := 0) o (b := ad (20, 0, 0)) (As := [.int (0), .int (1)]) (rest := []) (kFailsF hR h5 1) ln_X16_74 dX16_renew_23 (z_rc (ci := 20) (K := (20, 0, 0)) rfl (gl_20 hR) rfl) rfl rfl (Nat.le_of_ble_eq_true rfl) ⟨by decide, by decide⟩ ⟨rfl, rfl⟩ ⟨by decide, by decide⟩ rfl gq_nox2 ?_
    refine y_if_eq (pc := 26) (tgt := 31) o dX16_renew_26 rfl (fun (b2 : 0 = 0) => ?_) (fun b2 => absurd b2 (by decide))
    refine y_aload_n (pc := 31) o dX16_renew_31 rfl ?_
    refine z_get (pc := 32) (K := (20, 0, 0)) (v := .ref (ad (34, 0, 0))) o fl_X16_45 dX16_renew_32 (gl_20 hR) rfl rfl ?_
    refine y_iload_n (pc := 35) o dX16_renew_35 rfl ?_
    refine z_iald (pc := 36) (K := (34, 0, 0)) (i := a) (v := R.1 (14, 0, 0) a.toNatClampNeg) o dX16_renew_36 (gl_34 hR) rfl (gin4g b1) (if_pos (gin_lt (gin4g b1))) ?_
    refine y_istore_n (pc := 37) (i := 2) (lv' := [(2, .int (R.1 (14, 0, 0) a.toNatClampNeg)), (0, .ref (ad (20, 0, 0))), (1, .int (a))]) o dX16_renew_37 rfl (by decide) rfl ?_
    refine y_aload_n (pc := 38) o dX16_renew_38 rfl ?_
    refine z_get (pc := 39) (K := (20, 0, 0)) (v := .ref (ad (34, 0, 0))) o fl_X16_45 dX16_renew_39 (gl_20 hR) rfl rfl ?_
    refine y_iload_n (pc := 42) o dX16_renew_42 rfl ?_
    refine y_iconst (pc := 43) (x := 0) o dX16_renew_43 (by decide) ?_
    refine z_iastR (pc := 44) (K := (34, 0, 0)) (i := a) (x := 0) (B := (14, 0, 0)) o dX16_renew_44 (gl_34 hR) (show 24 ≤ (34:Nat) by decide) rfl (fun _ => rfl) (gin4g b1) ?_
    refine y_iload_n (pc := 45) o dX16_renew_45 rfl ?_
    exact y_iret (pc := 46) o dX16_renew_46 rfl (vp_nar_int _) (by decide) (by decide) (fun h hp => gP_mk (by simp +decide only [F_renew, b1, gin3p, gtc0, gtc1, gtc2, gtc3, gtc4, not_true_eq_false, not_false_eq_true, if_true, if_false, or_true, true_or, or_false, false_or, and_true, true_and, and_false, false_and, or_self, and_self, eq_self, Bool.false_eq_true, ne_eq, reduceIte]) rfl rfl hp)
  refine y_iconst (pc := 17) (x := 1) o dX16_renew_17 (by decide) ?_
  refine y_goto (pc := 18) (tgt := 22) o dX16_renew_18 rfl ?_
  refine y_iconst (pc := 22) (x := 1) o dX16_renew_22 (by decide) ?_
  refine z_callV (pc := 23) (k := 0) (n := 0) (k' := 0) (n' := 0) o (b := ad (20, 0, 0)) (As := [.int (1), .int (1)]) (rest := []) (kFailsT hR h5 1 (by decide)) ln_X16_74 dX16_renew_23 (z_rc (ci := 20) (K := (20, 0, 0)) rfl (gl_20 hR) rfl) rfl rfl (Nat.le_of_ble_eq_true rfl) ⟨by decide, by decide⟩ ⟨rfl, rfl⟩ ⟨by decide, by decide⟩ rfl gq_nox2 ?_
  refine y_if_eq (pc := 26) (tgt := 31) o dX16_renew_26 rfl (fun b3 => absurd b3 (by decide)) (fun (b3 : ¬ 1 = 0) => ?_)
  refine y_iconst (pc := 29) (x := -1) o dX16_renew_29 (by decide) ?_
  exact y_iret (pc := 30) o dX16_renew_30 rfl (vp_nar_int _) (by decide) (by decide) (fun h hp => gP_thr (k := 1) (by simp +decide only [F_renew, b1, gin3p, gtc0, gtc1, gtc2, gtc3, gtc4, not_true_eq_false, not_false_eq_true, if_true, if_false, or_true, true_or, or_false, false_or, and_true, true_and, and_false, false_and, or_self, and_self, eq_self, Bool.false_eq_true, ne_eq, reduceIte]) (by decide) hp)

end Z28
