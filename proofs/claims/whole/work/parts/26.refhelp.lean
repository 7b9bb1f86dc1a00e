
section Z26
variable {κ : gq_K} {M : gq_M} {Q : Option Value → gq_H → Prop} {E : String → gq_H → Prop} {f : gq_F} {lv : List (Nat × Value)} {pc : Nat} {st : List Value} {k n : Nat} {ad ad' : gKey → Nat} {S : gG × gG} {C C' R R' : gG} {T : List (Nat × va_E)} {h : gq_H}
def gbl (x : Int32) : Prop := x = 0 ∨ x = 1
theorem gbl_nar {x : Int32} (h : gbl x) : narrow .boolean (.int x) = .int x := by rcases h with rfl | rfl <;> rfl
theorem gbl_vp {x : Int32} (h : gbl x) : vp_nar .boolean x = x := by rcases h with rfl | rfl <;> rfl
theorem gbl_fit {x : Int32} (h : gbl x) : fits .boolean (.int x) = true := by rcases h with rfl | rfl <;> rfl
theorem gbl_gb {p : Prop} [Decidable p] : gbl (gb p) := by
  by_cases hp : p
  · rw [gb_t hp]; exact Or.inr rfl
  · rw [gb_f hp]; exact Or.inl rfl
-- ===== what always holds =====
def gI1 (N : Nat → Nat → Nat) : Prop := gfix N ∧ (N 6 0 ≤ 16 ∧ N 7 0 ≤ 12 ∧ N 8 0 ≤ 16 ∧ N 9 0 ≤ 12 ∧ N 10 0 ≤ 16 ∧ N 11 0 ≤ 30 ∧ N 12 0 ≤ 12) ∧ (∀ l g : Nat, l < 7 → g ≠ 0 → N (6 + l) g = 0) ∧ (∀ g : Nat, N 11 0 ≤ g → N 13 g = 0)
def gI2 (C : gG) : Prop := (∀ i : Nat, C.1 (3, 0, i) 1 = -1 ∨ gix 4 (C.1 (3, 0, i) 1) = true) ∧ (∀ i : Nat, i < 4 → gchn C 4 i = true) ∧ gbl (C.1 (1, 0, 0) 0) ∧ ∀ i : Nat, gbl (C.1 (3, 0, i) 0)
def gI3 (n : Nat) (C : gG) : Prop := gin 0 (C.1 (0, 0, 0) 0) 9999 = true ∧ gin 0 (C.1 (0, 0, 0) 1) (Int32.ofNat n) = true ∧ gin 0 (C.1 (2, 0, 0) 0) (Int32.ofNat (3 * n)) = true ∧ gin 0 (C.1 (2, 0, 0) 1) 7 = true ∧ ((C.1 (2, 0, 0) 2).toInt - (C.1 (2, 0, 0) 1).toInt) % 8 = 0
def gI6 (C : gG) : Prop := ∀ i : Nat, i < C.2 6 0 → ¬ 500 < C.1 (6, 0, i) 3
def gI8 (C : gG) : Prop := ∀ i : Nat, i < C.2 8 0 → gix (C.2 7 0) (C.1 (8, 0, i) 0) = true ∧ gin 0 (C.1 (8, 0, i) 10) 999 = true ∧ ¬ C.1 (8, 0, i) 6 < -1 ∧ (¬ C.1 (8, 0, i) 6 < 0 → C.1 (8, 0, i) 7 = C.1 (8, 0, i) 11) ∧ gbl (C.1 (8, 0, i) 5) ∧ gbl (C.1 (8, 0, i) 8)
def gI10 (C : gG) : Prop := ∀ i : Nat, i < C.2 10 0 → gix (C.2 8 0) (C.1 (10, 0, i) 0) = true ∧ gix (C.2 9 0) (C.1 (10, 0, i) 1) = true ∧ gin 0 (C.1 (10, 0, i) 4) (C.1 (10, 0, i) 3) = true ∧ ¬ 500 < C.1 (10, 0, i) 3 ∧ ¬ C.1 (10, 0, i) 9 < -1 ∧ ¬ 8 < C.1 (10, 0, i) 7 ∧ ¬ C.1 (8, 0, (C.1 (10, 0, i) 0).toNatClampNeg) 6 < 0 ∧ gbl (C.1 (10, 0, i) 10)
def gI11 (C : gG) : Prop := ∀ i : Nat, i < C.2 11 0 → C.1 (11, 0, i) 1 = gsum (fun j => C.1 (13, i, j) 1) (C.2 13 i) ∧ (C.2 13 i : Int) ≤ (C.1 (11, 0, i) 1).toInt ∧ ¬ 144 < C.1 (11, 0, i) 1 ∧ ¬ C.1 (11, 0, i) 0 < 0 ∧ gbl (C.1 (11, 0, i) 2)
def gI13 (C : gG) : Prop := ∀ i j : Nat, i < C.2 11 0 → j < C.2 13 i → gix (C.2 10 0) (C.1 (13, i, j) 0) = true ∧ C.1 (10, 0, (C.1 (13, i, j) 0).toNatClampNeg) 9 = C.1 (11, 0, i) 0 ∧ ¬ C.1 (13, i, j) 2 < 0
def gI12 (C : gG) : Prop := ∀ i : Nat, i < C.2 12 0 → ¬ C.1 (12, 0, i) 1 < 0 ∧ gbl (C.1 (12, 0, i) 3)
def gIx (n : Nat) (C : gG) : Prop := (∀ i : Nat, i < C.2 6 0 → gin 50 (C.1 (6, 0, i) 1) 99 = true) ∧ (∀ i : Nat, i < C.2 7 0 → gin 0 (C.1 (7, 0, i) 2) 1000 = true ∧ gin 0 (C.1 (7, 0, i) 3) 9 = true) ∧ (∀ i : Nat, i < C.2 8 0 → gin 0 (C.1 (8, 0, i) 9) (Int32.ofNat (900 + 50 * n)) = true) ∧ (∀ i : Nat, i < C.2 9 0 → gin 0 (C.1 (9, 0, i) 1) 9 = true) ∧ (∀ i : Nat, i < C.2 10 0 → gin 0 (C.1 (10, 0, i) 5) 4 = true) ∧ ¬ C.1 (0, 0, 0) 2 < 0 ∧ (∀ i : Nat, i < C.2 9 0 → gin 0 (C.1 (9, 0, i) 4) 30 = true) ∧ ∀ i : Nat, i < C.2 8 0 → gin (-100000000) (C.1 (8, 0, i) 3) 1000 = true
def gI (n : Nat) (C : gG) : Prop := gI1 C.2 ∧ gI2 C ∧ gI3 n C ∧ gI6 C ∧ gI8 C ∧ gI10 C ∧ gI11 C ∧ gI13 C ∧ gI12 C ∧ gmiss C ∧ gIx n C
theorem gI.fix {n : Nat} (h : gI n C) : gfix C.2 := h.1.1
theorem gI.cnt {n : Nat} (h : gI n C) : gcnt C.2 := by
  obtain ⟨⟨h1, h2, h3, h4⟩, -, -, -, -, -, h11, -⟩ := h
  intro l g hl
  by_cases hg : g = 0
  · subst hg
    have h13 : C.2 13 0 ≤ 144 := by
      by_cases h0 : 0 < C.2 11 0
      · obtain ⟨-, a, b, -⟩ := h11 0 h0
        rw [Int32.lt_iff_toInt_lt] at b
        have e : (144 : Int32).toInt = 144 := rfl
        omega
      · rw [h4 0 (by omega)]; omega
    obtain rfl | rfl | rfl | rfl | rfl | rfl | rfl | rfl : l = 0 ∨ l = 1 ∨ l = 2 ∨ l = 3 ∨ l = 4 ∨ l = 5 ∨ l = 6 ∨ l = 7 := by omega
    all_goals simp only [Nat.reduceAdd]; omega
  · by_cases h7 : l < 7
    · rw [h3 l g h7 hg]; omega
    · obtain rfl : l = 7 := by omega
      by_cases h0 : g < C.2 11 0
      · obtain ⟨-, a, b, -⟩ := h11 g h0
        rw [Int32.lt_iff_toInt_lt] at b
        have e : (144 : Int32).toInt = 144 := rfl
        show C.2 13 g ≤ 144
        omega
      · show C.2 13 g ≤ 144
        rw [h4 g (by omega)]; omega
theorem gI.mach {n : Nat} (h : gI n C) : gmach C := fun i hi => by
  rcases h.2.1.1 i with z | z
  · exact absurd z hi
  · exact gix_lt (by decide) z
theorem gI.chn {n : Nat} (h : gI n C) : ∀ i : Nat, i < 4 → gchn C 4 i = true := h.2.1.2.1
theorem gI.drv {n : Nat} (h : gI n C) (i : Nat) : C.1 (3, 0, i) 1 = -1 ∨ gix 4 (C.1 (3, 0, i) 1) = true := h.2.1.1 i
-- ===== rows =====
theorem z_castI (o : gq_Ok κ M f) {idx N : Nat} {K : gKey} {g : Nat → Int32} (hl9 : Cond.classLink M.1.cls idx "[I" ∈ gq_ws) (d : decode M.2.1 pc = .ok (.checkcast idx, 3)) (hl : glive S K) (he : gent κ ad S K = .inl (κ.2.1 0, N, .inl g)) (yy : gq_Y κ M Q E f (gR κ ad S T) lv (pc + 3) (.ref (ad K) :: st) k n) : gq_Y κ M Q E f (gR κ ad S T) lv pc (.ref (ad K) :: st) k n := by
  obtain ⟨p, l, e, s, m, args, below, meth, c, A⟩ := f
  intro h H locs ls h1 h2 h3 h4
  obtain ⟨ws, hP, hD, hw⟩ := h2.place
  obtain ⟨q0, hq0⟩ := hw (ad K) _ (by rw [h1.1 K hl, he])
  obtain ⟨hx, hb, hml, hown, hts, hTB, hZ, hA, -⟩ := id o
  exact va_castA hx hb hown (hts _ hl9) hP q0 hq0 (hTB.1.2 0 _ rfl).2 d (yy h H locs ls h1 h2 h3 h4)
/-- what a call of the reference leaves -/
def gP (κ : gq_K) (ad : gKey → Nat) (C : gG) (T : List (Nat × va_E)) (r : gF) : Option Value → gq_H → Prop := fun v h => (∃ x : Int32, v = some (.int x) ∧ (r.1 = 0 → x = r.2.1)) ∧ ∃ ad' : gKey → Nat, ad' (0, 0, 0) = ad (0, 0, 0) ∧ ad' (20, 0, 0) = ad (20, 0, 0) ∧ gR κ ad' (C, r.2.2) T h
theorem gP_thr {r : gF} {v k : Int32} (e : r = gthr R k) (hk : ¬ k = 0) (hr : gR κ ad (C, gup R (0, 0, 0) 5 k) T h) : gP κ ad C T r (some (.int v)) h := by
  subst e
  exact ⟨⟨v, rfl, fun z => absurd z hk⟩, ad, rfl, rfl, hr⟩
theorem gP_mk {r : gF} {v : Int32} (e : r = (0, v, R')) (e0 : ad' (0, 0, 0) = ad (0, 0, 0)) (e20 : ad' (20, 0, 0) = ad (20, 0, 0)) (hr : gR κ ad' (C, R') T h) : gP κ ad C T r (some (.int v)) h := by
  subst e
  exact ⟨⟨v, rfl, fun _ => rfl⟩, ad', e0, e20, hr⟩
theorem lcmp_lt {x y : Int32} : lg_cmp x.toInt64 y.toInt64 < 0 ↔ x < y := by
  rw [lg_cmp_lt, Int64.lt_iff_toInt_lt, Int32.toInt_toInt64, Int32.toInt_toInt64, Int32.lt_iff_toInt_lt]
theorem lcmp_gt {x y : Int32} : 0 < lg_cmp x.toInt64 y.toInt64 ↔ y < x := by
  rw [lg_cmp_gt, Int64.lt_iff_toInt_lt, Int32.toInt_toInt64, Int32.toInt_toInt64, Int32.lt_iff_toInt_lt]
theorem gin_t {lo x hi : Int32} (h1 : ¬ x < lo) (h2 : ¬ hi < x) : gin lo x hi = true := gin_iff.mpr ⟨h1, h2⟩
theorem gin_f1 {lo x hi : Int32} (h1 : x < lo) : ¬ gin lo x hi = true := fun z => (gin_iff.mp z).1 h1
theorem gin_f2 {lo x hi : Int32} (h1 : hi < x) : ¬ gin lo x hi = true := fun z => (gin_iff.mp z).2 h1
theorem gin_gix {N : Nat} (hN : N ≤ 144) (x : Int32) : (gin 0 x (Int32.ofNat N - 1) = true) = (gix N x = true) := by
  rw [gin_iff, gix_iff]
  refine propext (and_congr_right fun h0 => ?_)
  have e : (Int32.ofNat N - 1).toInt = (N : Int) - 1 := by
    rw [Int32.toInt_sub, Int32.toInt_ofNat_of_lt (by omega), show (1 : Int32).toInt = 1 from rfl, Int.bmod_def]
    split <;> omega
  rw [Int32.lt_iff_toInt_lt, e, Int32.lt_iff_toInt_lt, Int32.toInt_ofNat_of_lt (by omega)]
  omega
theorem gsz_t {N : Nat} {k : Int32} (e : Int32.ofNat N = k) : ¬ Int32.ofNat N < k := by rw [e]; exact Int32.lt_irrefl
theorem gsz_f {N : Nat} {k : Int32} (m : Nat) (hm : k = Int32.ofNat m) (h1 : m ≤ 100) (h : N ≤ m) (e : ¬ Int32.ofNat N = k) : Int32.ofNat N < k := by
  subst hm
  rw [gofs_lt (by omega) (by omega)]
  by_cases z : N = m
  · exact absurd (by rw [z]) e
  · omega
theorem gm1_t {x : Int32} (h : x = -1) : x < 0 := by rw [h]; decide
theorem gm1_f {x : Int32} (h1 : ¬ x < -1) (h : ¬ x = -1) : ¬ x < 0 := fun z => by
  rw [Int32.lt_iff_toInt_lt] at h1 z
  rw [← Int32.toInt_inj] at h
  have e1 : (-1 : Int32).toInt = -1 := rfl
  have e0 : (0 : Int32).toInt = 0 := rfl
  omega
theorem gmx_min {x y : Int32} : gmin x y = gmin y x := by
  unfold gmin
  by_cases h1 : y < x
  · rw [if_pos h1, if_neg (fun z => by rw [Int32.lt_iff_toInt_lt] at h1 z; omega)]
  · rw [if_neg h1]
    by_cases h2 : x < y
    · rw [if_pos h2]
    · rw [if_neg h2, ← Int32.toInt_inj]
      rw [Int32.lt_iff_toInt_lt] at h1 h2
      omega
theorem gfind_mem {l : List Int32} {j : Nat} {x : Int32} (hj : j + l.length ≤ 1000) : gfind l j x < 0 ↔ ∀ c ∈ l, ¬ x = c := by
  induction l generalizing j with
  | nil => exact ⟨fun _ c hc => (List.not_mem_nil hc).elim, fun _ => (show (-1 : Int32) < 0 from by decide)⟩
  | cons a r ih =>
    unfold gfind
    by_cases e : a = x
    · rw [if_pos e]
      exact ⟨fun z => absurd z (gofs (by simp at hj; omega)).1, fun z => absurd e.symm (z a List.mem_cons_self)⟩
    · rw [if_neg e, ih (by simp at hj; omega), List.forall_mem_cons]
      exact ⟨fun z => ⟨fun q => e q.symm, z⟩, fun z => z.2⟩
theorem gfind_gmi (x : Int32) : gfind (gq_sbyt.getD 0 []) 0 x = gmi x := by
  show gfind [109, 112, 103, 99] 0 x = gmi x
  unfold gmi
  simp only [gfind, eq_comm (b := x)]
  rfl
theorem gmi_lt (x : Int32) : (gmi x < 0) = (gmi x = -1) := by
  refine propext ⟨fun h => ?_, fun h => gm1_t h⟩
  unfold gmi at h ⊢
  repeat' split
  all_goals first | rfl | (exfalso; simp_all; done) | skip
  all_goals revert h; decide
theorem kIn {κ : gq_K} {P : gq_H → Prop} (x lo hi : Int32) : gq_C κ mX16_in [.long (x.toInt64), .long (lo.toInt64), .long (hi.toInt64)] (P) (fun v9 g => v9 = some (.int (gb (gin lo x hi = true))) ∧ P g) (gq_no) := by
  refine gq_enter (by decide +kernel) rfl (Nat.le_of_ble_eq_true rfl) rfl (fun f o => ?_)
  refine y_lload_n (pc := 0) o dX16_in_0 rfl ?_
  refine y_lload_n (pc := 1) o dX16_in_1 rfl ?_
  refine y_lcmp (pc := 2) o dX16_in_2 ?_
  refine y_if_lt (pc := 3) (tgt := 17) o dX16_in_3 rfl (fun (b1 : (lg_cmp x.toInt64 lo.toInt64) < 0) => ?_) (fun (b1 : ¬ (lg_cmp x.toInt64 lo.toInt64) < 0) => ?_)
  · refine y_iconst (pc := 17) (x := 0) o dX16_in_17 (by decide) ?_
    exact y_iret (pc := 18) o dX16_in_18 rfl rfl (by decide) (by decide) (fun h hp => ⟨congrArg (fun z => some (Value.int z)) (gb_f (p := gin lo x hi = true) (gin_f1 (lcmp_lt.mp b1))).symm, hp⟩)
  refine y_lload_n (pc := 6) o dX16_in_6 rfl ?_
  refine y_lload (pc := 7) o dX16_in_7 rfl ?_
  refine y_lcmp (pc := 9) o dX16_in_9 ?_
  refine y_if_gt (pc := 10) (tgt := 17) o dX16_in_10 rfl (fun (b2 : 0 < (lg_cmp x.toInt64 hi.toInt64)) => ?_) (fun (b2 : ¬ 0 < (lg_cmp x.toInt64 hi.toInt64)) => ?_)
  · refine y_iconst (pc := 17) (x := 0) o dX16_in_17 (by decide) ?_
    exact y_iret (pc := 18) o dX16_in_18 rfl rfl (by decide) (by decide) (fun h hp => ⟨congrArg (fun z => some (Value.int z)) (gb_f (p := gin lo x hi = true) (gin_f2 (lcmp_gt.mp b2))).symm, hp⟩)
  refine y_iconst (pc := 13) (x := 1) o dX16_in_13 (by decide) ?_
  refine y_goto (pc := 14) (tgt := 18) o dX16_in_14 rfl ?_
  exact y_iret (pc := 18) o dX16_in_18 rfl rfl (by decide) (by decide) (fun h hp => ⟨congrArg (fun z => some (Value.int z)) (gb_t (p := gin lo x hi = true) (gin_t (fun z => b1 (lcmp_lt.mpr z)) (fun z => b2 (lcmp_gt.mpr z)))).symm, hp⟩)

theorem kIsOf0 {κ : gq_K} {ad : gKey → Nat} {C R : gG} {T : List (Nat × va_E)} {l g : Nat} (hl4 : glive (C, R) (24, l, g)) (hl : l ≤ 7) (hBR : gcnt R.2) (x : Int32) : gq_C κ mX16_isOf [.ref (ad (24, l, g)), .int (x)] (gR κ ad (C, R) T) (fun v9 g9 => v9 = some (.int (gb (gix (R.2 (6 + l) g) x = true))) ∧ gR κ ad (C, R) T g9) (gq_no) := by
  refine gq_enter (by decide +kernel) rfl (Nat.le_of_ble_eq_true rfl) rfl (fun f o => ?_)
  refine y_iload_n (pc := 0) o dX16_isOf_0 rfl ?_
  refine y_i2l (pc := 1) o dX16_isOf_1 ?_
  refine y_lconst (pc := 2) (x := 0) o dX16_isOf_2 (by decide) ?_
  refine y_aload_n (pc := 3) o dX16_isOf_3 rfl ?_
  refine z_callF (pc := 4) (k := 0) (n := 0) (k' := 0) (n' := 0) (ci := 3) o (b := ad (24, l, g)) (As := []) (rest := [.long (0), .long (x.toInt64)]) (sizeR (l := l) (g := g) hl4) rfl lf_X16_7 dX16_isOf_4 (fun h hr => ⟨_, ghdr_R hl4 hr⟩) rfl rfl (Nat.le_of_ble_eq_true rfl) ⟨by decide, by decide⟩ ⟨rfl, rfl⟩ ⟨by decide, by decide⟩ ?_
  refine y_iconst (pc := 9) (x := 1) o dX16_isOf_9 (by decide) ?_
  refine y_isub (pc := 10) o dX16_isOf_10 ?_
  refine y_i2l (pc := 11) o dX16_isOf_11 ?_
  refine z_callS (pc := 12) (k := 0) (n := 0) (k' := 0) (n' := 0) o (As := [.long (x.toInt64), .long (0), .long (((Int32.ofNat (R.2 (6 + l) g)) - 1).toInt64)]) (rest := []) (kIn x 0 ((Int32.ofNat (R.2 (6 + l) g)) - 1)) ln_X16_13 dX16_isOf_12 rfl rfl (Nat.le_of_ble_eq_true rfl) ⟨by decide, by decide⟩ ⟨rfl, rfl⟩ ⟨by decide, by decide⟩ rfl gq_nox2 ?_
  exact y_iret (pc := 15) o dX16_isOf_15 rfl gb_nar (by decide) (by decide) (fun h hp => ⟨by rw [gb_c (iff_of_eq (gin_gix (hBR l g hl) x))], hp⟩)

theorem kIsOf {κ : gq_K} {ad : gKey → Nat} {C R : gG} {T : List (Nat × va_E)} {l g : Nat} (hl4 : glive (C, R) (24, l, g)) (hBR : gcnt R.2) (x : Int32) : gq_C κ mX16_isOf [.ref (ad (24, l, g)), .int x] (gR κ ad (C, R) T) (fun v9 g1 => v9 = some (.int (gb (gix (R.2 (6 + l) g) x = true))) ∧ gR κ ad (C, R) T g1) gq_no := kIsOf0 hl4 (glive_l7R (K := (24, l, g)) (show ¬ (24:Nat) < 20 by decide) (Or.inl rfl) hl4) hBR x

theorem kBegins {κ : gq_K} {ad : gKey → Nat} {C R : gG} {T : List (Nat × va_E)} (hR : gfix R.2) : gq_C κ mX16_begins [.ref (ad (20, 0, 0))] (gR κ ad (C, R) T) (fun v9 g => v9 = none ∧ gR κ ad (C, gup R (0, 0, 0) 5 0) T g) (gq_no) := by
  refine gq_enter (by decide +kernel) rfl (Nat.le_of_ble_eq_true rfl) rfl (fun f o => ?_)
  refine y_aload_n (pc := 0) o dX16_begins_0 rfl ?_
  refine y_iconst (pc := 1) (x := 0) o dX16_begins_1 (by decide) ?_
  refine z_put20 (pc := 2) (b := 0) (fd := 5) (x := 0) o fw_X16_1 dX16_begins_2 (gfix_0 hR) (gl_20 hR) (by decide) rfl (Nat.le_of_ble_eq_true rfl) (vp_nar_int _) rfl rfl p20_0 ?_
  exact y_vret (pc := 5) o dX16_begins_5 rfl (by decide) (by decide) (fun h hp => ⟨rfl, hp⟩)

theorem kFailsF {κ : gq_K} {ad : gKey → Nat} {C R : gG} {T : List (Nat × va_E)} (hR : gfix R.2) (h5 : R.1 (0, 0, 0) 5 = 0) (q : Int32) : gq_C κ mX16_fails [.ref (ad (20, 0, 0)), .int (0), .int (q)] (gR κ ad (C, R) T) (fun v9 g => v9 = some (.int 0) ∧ gR κ ad (C, R) T g) (gq_no) := by
  refine gq_enter (by decide +kernel) rfl (Nat.le_of_ble_eq_true rfl) rfl (fun f o => ?_)
  refine y_aload_n (pc := 0) o dX16_fails_0 rfl ?_
  refine z_get (pc := 1) (K := (20, 0, 0)) (v := .int (R.1 (0, 0, 0) 5)) o fl_X16_1 dX16_fails_1 (gl_20 hR) rfl rfl ?_
  refine y_if_ne (pc := 4) (tgt := 16) o dX16_fails_4 rfl (fun b1 => absurd h5 b1) (fun (b1 : (R.1 (0, 0, 0) 5) = 0) => ?_)
  refine y_iload_n (pc := 7) o dX16_fails_7 rfl ?_
  refine y_if_eq (pc := 8) (tgt := 16) o dX16_fails_8 rfl (fun (b2 : 0 = 0) => ?_) (fun b2 => absurd b2 (by decide))
  refine y_aload_n (pc := 16) o dX16_fails_16 rfl ?_
  refine z_get (pc := 17) (K := (20, 0, 0)) (v := .int (R.1 (0, 0, 0) 5)) o fl_X16_1 dX16_fails_17 (gl_20 hR) rfl rfl ?_
  refine z_if_le (pc := 20) (tgt := 27) o dX16_fails_20 rfl (fun (b3 : ¬ 0 < (R.1 (0, 0, 0) 5)) => ?_) (fun b3 => absurd b3 (by rw [h5]; decide))
  refine y_iconst (pc := 27) (x := 0) o dX16_fails_27 (by decide) ?_
  exact y_iret (pc := 28) o dX16_fails_28 rfl rfl (by decide) (by decide) (fun h hp => ⟨rfl, hp⟩)

theorem kFailsT {κ : gq_K} {ad : gKey → Nat} {C R : gG} {T : List (Nat × va_E)} (hR : gfix R.2) (h5 : R.1 (0, 0, 0) 5 = 0) (q : Int32) (hq : 0 < q) : gq_C κ mX16_fails [.ref (ad (20, 0, 0)), .int (1), .int (q)] (gR κ ad (C, R) T) (fun v9 g => v9 = some (.int 1) ∧ gR κ ad (C, gup R (0, 0, 0) 5 q) T g) (gq_no) := by
  refine gq_enter (by decide +kernel) rfl (Nat.le_of_ble_eq_true rfl) rfl (fun f o => ?_)
  refine y_aload_n (pc := 0) o dX16_fails_0 rfl ?_
  refine z_get (pc := 1) (K := (20, 0, 0)) (v := .int (R.1 (0, 0, 0) 5)) o fl_X16_1 dX16_fails_1 (gl_20 hR) rfl rfl ?_
  refine y_if_ne (pc := 4) (tgt := 16) o dX16_fails_4 rfl (fun b1 => absurd h5 b1) (fun (b1 : (R.1 (0, 0, 0) 5) = 0) => ?_)
  refine y_iload_n (pc := 7) o dX16_fails_7 rfl ?_
  refine y_if_eq (pc := 8) (tgt := 16) o dX16_fails_8 rfl (fun b2 => absurd b2 (by decide)) (fun (b2 : ¬ 1 = 0) => ?_)
  refine y_aload_n (pc := 11) o dX16_fails_11 rfl ?_
  refine y_iload_n (pc := 12) o dX16_fails_12 rfl ?_
  refine z_put20 (pc := 13) (b := 0) (fd := 5) (x := q) o fw_X16_1 dX16_fails_13 (gfix_0 hR) (gl_20 hR) (by decide) rfl (Nat.le_of_ble_eq_true rfl) (vp_nar_int _) rfl rfl p20_0 ?_
  refine y_aload_n (pc := 16) o dX16_fails_16 rfl ?_
  refine z_get (pc := 17) (K := (20, 0, 0)) (v := .int ((gup R (0, 0, 0) 5 q).1 (0, 0, 0) 5)) o fl_X16_1 dX16_fails_17 (gl_20 hR) rfl rfl ?_
  refine z_top (congrArg Value.int (gup_v _ _ _ _)) ?_
  refine z_if_le (pc := 20) (tgt := 27) o dX16_fails_20 rfl (fun b3 => absurd hq b3) (fun (b3 : 0 < q) => ?_)
  refine y_iconst (pc := 23) (x := 1) o dX16_fails_23 (by decide) ?_
  refine y_goto (pc := 24) (tgt := 28) o dX16_fails_24 rfl ?_
  exact y_iret (pc := 28) o dX16_fails_28 rfl rfl (by decide) (by decide) (fun h hp => ⟨rfl, hp⟩)

theorem knoLotT {κ : gq_K} {ad : gKey → Nat} {C R : gG} {T : List (Nat × va_E)} (hR : gfix R.2) (hBR : gcnt R.2) (h5 : R.1 (0, 0, 0) 5 = 0) (x : Int32) (hx : ¬ gix (R.2 6 0) x = true) : gq_C κ mX16_noLot [.ref (ad (20, 0, 0)), .int (x)] (gR κ ad (C, R) T) (fun v9 g => v9 = some (.int 1) ∧ gR κ ad (C, gup R (0, 0, 0) 5 1) T g) (gq_no) := by
  refine gq_enter (by decide +kernel) rfl (Nat.le_of_ble_eq_true rfl) rfl (fun f o => ?_)
  refine y_aload_n (pc := 0) o dX16_noLot_0 rfl ?_
  refine y_aload_n (pc := 1) o dX16_noLot_1 rfl ?_
  refine z_get (pc := 2) (K := (20, 0, 0)) (v := .ref (ad (24, 0, 0))) o fl_X16_38 dX16_noLot_2 (gl_20 hR) rfl rfl ?_
  refine y_iload_n (pc := 5) o dX16_noLot_5 rfl ?_
  refine z_callS (pc := 6) (k := 0) (n := 0) (k' := 0) (n' := 0) o (As := [.ref (ad (24, 0, 0)), .int (x)]) (rest := [.ref (ad (20, 0, 0))]) (kIsOf (l := 0) (g := 0) (gl_24_0 hR) hBR x) ln_X16_97 dX16_noLot_6 rfl rfl (Nat.le_of_ble_eq_true rfl) ⟨by decide, by decide⟩ ⟨rfl, rfl⟩ ⟨by decide, by decide⟩ rfl gq_nox2 ?_
  refine z_bne (pc := 9) (tgt := 16) o dX16_noLot_9 rfl (fun b1 => absurd b1 hx) (fun (b1 : ¬ (gix (R.2 6 0) x = true)) => ?_)
  refine y_iconst (pc := 12) (x := 1) o dX16_noLot_12 (by decide) ?_
  refine y_goto (pc := 13) (tgt := 17) o dX16_noLot_13 rfl ?_
  refine y_iconst (pc := 17) (x := 1) o dX16_noLot_17 (by decide) ?_
  refine z_callV (pc := 18) (k := 0) (n := 0) (k' := 0) (n' := 0) o (b := ad (20, 0, 0)) (As := [.int (1), .int (1)]) (rest := []) (kFailsT hR h5 1 (by decide)) ln_X16_74 dX16_noLot_18 (z_rc (ci := 20) (K := (20, 0, 0)) rfl (gl_20 hR) rfl) rfl rfl (Nat.le_of_ble_eq_true rfl) ⟨by decide, by decide⟩ ⟨rfl, rfl⟩ ⟨by decide, by decide⟩ rfl gq_nox2 ?_
  exact y_iret (pc := 21) o dX16_noLot_21 rfl rfl (by decide) (by decide) (fun h hp => ⟨rfl, hp⟩)

theorem knoLotF {κ : gq_K} {ad : gKey → Nat} {C R : gG} {T : List (Nat × va_E)} (hR : gfix R.2) (hBR : gcnt R.2) (h5 : R.1 (0, 0, 0) 5 = 0) (x : Int32) (hx : gix (R.2 6 0) x = true) : gq_C κ mX16_noLot [.ref (ad (20, 0, 0)), .int (x)] (gR κ ad (C, R) T) (fun v9 g => v9 = some (.int 0) ∧ gR κ ad (C, R) T g) (gq_no) := by
  refine gq_enter (by decide +kernel) rfl (Nat.le_of_ble_eq_true rfl) rfl (fun f o => ?_)
  refine y_aload_n (pc := 0) o dX16_noLot_0 rfl ?_
  refine y_aload_n (pc := 1) o dX16_noLot_1 rfl ?_
  refine z_get (pc := 2) (K := (20, 0, 0)) (v := .ref (ad (24, 0, 0))) o fl_X16_38 dX16_noLot_2 (gl_20 hR) rfl rfl ?_
  refine y_iload_n (pc := 5) o dX16_noLot_5 rfl ?_
  refine z_callS (pc := 6) (k := 0) (n := 0) (k' := 0) (n' := 0) o (As := [.ref (ad (24, 0, 0)), .int (x)]) (rest := [.ref (ad (20, 0, 0))]) (kIsOf (l := 0) (g := 0) (gl_24_0 hR) hBR x) ln_X16_97 dX16_noLot_6 rfl rfl (Nat.le_of_ble_eq_true rfl) ⟨by decide, by decide⟩ ⟨rfl, rfl⟩ ⟨by decide, by decide⟩ rfl gq_nox2 ?_
  refine z_bne (pc := 9) (tgt := 16) o dX16_noLot_9 rfl (fun (b1 : gix (R.2 6 0) x = true) => ?_) (fun b1 => absurd hx b1)
  refine y_iconst (pc := 16) (x := 0) o dX16_noLot_16 (by decide) ?_
  refine y_iconst (pc := 17) (x := 1) o dX16_noLot_17 (by decide) ?_
  refine z_callV (pc := 18) (k := 0) (n := 0) (k' := 0) (n' := 0) o (b := ad (20, 0, 0)) (As := [.int (0), .int (1)]) (rest := []) (kFailsF hR h5 1) ln_X16_74 dX16_noLot_18 (z_rc (ci := 20) (K := (20, 0, 0)) rfl (gl_20 hR) rfl) rfl rfl (Nat.le_of_ble_eq_true rfl) ⟨by decide, by decide⟩ ⟨rfl, rfl⟩ ⟨by decide, by decide⟩ rfl gq_nox2 ?_
  exact y_iret (pc := 21) o dX16_noLot_21 rfl rfl (by decide) (by decide) (fun h hp => ⟨rfl, hp⟩)

theorem knoBatchT {κ : gq_K} {ad : gKey → Nat} {C R : gG} {T : List (Nat × va_E)} (hR : gfix R.2) (hBR : gcnt R.2) (h5 : R.1 (0, 0, 0) 5 = 0) (x : Int32) (hx : ¬ gix (R.2 8 0) x = true) : gq_C κ mX16_noBatch [.ref (ad (20, 0, 0)), .int (x)] (gR κ ad (C, R) T) (fun v9 g => v9 = some (.int 1) ∧ gR κ ad (C, gup R (0, 0, 0) 5 1) T g) (gq_no) := by
  refine gq_enter (by decide +kernel) rfl (Nat.le_of_ble_eq_true rfl) rfl (fun f o => ?_)
  refine y_aload_n (pc := 0) o dX16_noBatch_0 rfl ?_
  refine y_aload_n (pc := 1) o dX16_noBatch_1 rfl ?_
  refine z_get (pc := 2) (K := (20, 0, 0)) (v := .ref (ad (24, 2, 0))) o fl_X16_51 dX16_noBatch_2 (gl_20 hR) rfl rfl ?_
  refine y_iload_n (pc := 5) o dX16_noBatch_5 rfl ?_
  refine z_callS (pc := 6) (k := 0) (n := 0) (k' := 0) (n' := 0) o (As := [.ref (ad (24, 2, 0)), .int (x)]) (rest := [.ref (ad (20, 0, 0))]) (kIsOf (l := 2) (g := 0) (gl_24_2 hR) hBR x) ln_X16_97 dX16_noBatch_6 rfl rfl (Nat.le_of_ble_eq_true rfl) ⟨by decide, by decide⟩ ⟨rfl, rfl⟩ ⟨by decide, by decide⟩ rfl gq_nox2 ?_
  refine z_bne (pc := 9) (tgt := 16) o dX16_noBatch_9 rfl (fun b1 => absurd b1 hx) (fun (b1 : ¬ (gix (R.2 8 0) x = true)) => ?_)
  refine y_iconst (pc := 12) (x := 1) o dX16_noBatch_12 (by decide) ?_
  refine y_goto (pc := 13) (tgt := 17) o dX16_noBatch_13 rfl ?_
  refine y_iconst (pc := 17) (x := 1) o dX16_noBatch_17 (by decide) ?_
  refine z_callV (pc := 18) (k := 0) (n := 0) (k' := 0) (n' := 0) o (b := ad (20, 0, 0)) (As := [.int (1), .int (1)]) (rest := []) (kFailsT hR h5 1 (by decide)) ln_X16_74 dX16_noBatch_18 (z_rc (ci := 20) (K := (20, 0, 0)) rfl (gl_20 hR) rfl) rfl rfl (Nat.le_of_ble_eq_true rfl) ⟨by decide, by decide⟩ ⟨rfl, rfl⟩ ⟨by decide, by decide⟩ rfl gq_nox2 ?_
  exact y_iret (pc := 21) o dX16_noBatch_21 rfl rfl (by decide) (by decide) (fun h hp => ⟨rfl, hp⟩)

theorem knoBatchF {κ : gq_K} {ad : gKey → Nat} {C R : gG} {T : List (Nat × va_E)} (hR : gfix R.2) (hBR : gcnt R.2) (h5 : R.1 (0, 0, 0) 5 = 0) (x : Int32) (hx : gix (R.2 8 0) x = true) : gq_C κ mX16_noBatch [.ref (ad (20, 0, 0)), .int (x)] (gR κ ad (C, R) T) (fun v9 g => v9 = some (.int 0) ∧ gR κ ad (C, R) T g) (gq_no) := by
  refine gq_enter (by decide +kernel) rfl (Nat.le_of_ble_eq_true rfl) rfl (fun f o => ?_)
  refine y_aload_n (pc := 0) o dX16_noBatch_0 rfl ?_
  refine y_aload_n (pc := 1) o dX16_noBatch_1 rfl ?_
  refine z_get (pc := 2) (K := (20, 0, 0)) (v := .ref (ad (24, 2, 0))) o fl_X16_51 dX16_noBatch_2 (gl_20 hR) rfl rfl ?_
  refine y_iload_n (pc := 5) o dX16_noBatch_5 rfl ?_
  refine z_callS (pc := 6) (k := 0) (n := 0) (k' := 0) (n' := 0) o (As := [.ref (ad (24, 2, 0)), .int (x)]) (rest := [.ref (ad (20, 0, 0))]) (kIsOf (l := 2) (g := 0) (gl_24_2 hR) hBR x) ln_X16_97 dX16_noBatch_6 rfl rfl (Nat.le_of_ble_eq_true rfl) ⟨by decide, by decide⟩ ⟨rfl, rfl⟩ ⟨by decide, by decide⟩ rfl gq_nox2 ?_
  refine z_bne (pc := 9) (tgt := 16) o dX16_noBatch_9 rfl (fun (b1 : gix (R.2 8 0) x = true) => ?_) (fun b1 => absurd hx b1)
  refine y_iconst (pc := 16) (x := 0) o dX16_noBatch_16 (by decide) ?_
  refine y_iconst (pc := 17) (x := 1) o dX16_noBatch_17 (by decide) ?_
  refine z_callV (pc := 18) (k := 0) (n := 0) (k' := 0) (n' := 0) o (b := ad (20, 0, 0)) (As := [.int (0), .int (1)]) (rest := []) (kFailsF hR h5 1) ln_X16_74 dX16_noBatch_18 (z_rc (ci := 20) (K := (20, 0, 0)) rfl (gl_20 hR) rfl) rfl rfl (Nat.le_of_ble_eq_true rfl) ⟨by decide, by decide⟩ ⟨rfl, rfl⟩ ⟨by decide, by decide⟩ rfl gq_nox2 ?_
  exact y_iret (pc := 21) o dX16_noBatch_21 rfl rfl (by decide) (by decide) (fun h hp => ⟨rfl, hp⟩)

theorem knoSlatsT {κ : gq_K} {ad : gKey → Nat} {C R : gG} {T : List (Nat × va_E)} (hR : gfix R.2) (hBR : gcnt R.2) (h5 : R.1 (0, 0, 0) 5 = 0) (x : Int32) (hx : ¬ gix (R.2 9 0) x = true) : gq_C κ mX16_noSlats [.ref (ad (20, 0, 0)), .int (x)] (gR κ ad (C, R) T) (fun v9 g => v9 = some (.int 1) ∧ gR κ ad (C, gup R (0, 0, 0) 5 1) T g) (gq_no) := by
  refine gq_enter (by decide +kernel) rfl (Nat.le_of_ble_eq_true rfl) rfl (fun f o => ?_)
  refine y_aload_n (pc := 0) o dX16_noSlats_0 rfl ?_
  refine y_aload_n (pc := 1) o dX16_noSlats_1 rfl ?_
  refine z_get (pc := 2) (K := (20, 0, 0)) (v := .ref (ad (24, 3, 0))) o fl_X16_54 dX16_noSlats_2 (gl_20 hR) rfl rfl ?_
  refine y_iload_n (pc := 5) o dX16_noSlats_5 rfl ?_
  refine z_callS (pc := 6) (k := 0) (n := 0) (k' := 0) (n' := 0) o (As := [.ref (ad (24, 3, 0)), .int (x)]) (rest := [.ref (ad (20, 0, 0))]) (kIsOf (l := 3) (g := 0) (gl_24_3 hR) hBR x) ln_X16_97 dX16_noSlats_6 rfl rfl (Nat.le_of_ble_eq_true rfl) ⟨by decide, by decide⟩ ⟨rfl, rfl⟩ ⟨by decide, by decide⟩ rfl gq_nox2 ?_
  refine z_bne (pc := 9) (tgt := 16) o dX16_noSlats_9 rfl (fun b1 => absurd b1 hx) (fun (b1 : ¬ (gix (R.2 9 0) x = true)) => ?_)
  refine y_iconst (pc := 12) (x := 1) o dX16_noSlats_12 (by decide) ?_
  refine y_goto (pc := 13) (tgt := 17) o dX16_noSlats_13 rfl ?_
  refine y_iconst (pc := 17) (x := 1) o dX16_noSlats_17 (by decide) ?_
  refine z_callV (pc := 18) (k := 0) (n := 0) (k' := 0) (n' := 0) o (b := ad (20, 0, 0)) (As := [.int (1), .int (1)]) (rest := []) (kFailsT hR h5 1 (by decide)) ln_X16_74 dX16_noSlats_18 (z_rc (ci := 20) (K := (20, 0, 0)) rfl (gl_20 hR) rfl) rfl rfl (Nat.le_of_ble_eq_true rfl) ⟨by decide, by decide⟩ ⟨rfl, rfl⟩ ⟨by decide, by decide⟩ rfl gq_nox2 ?_
  exact y_iret (pc := 21) o dX16_noSlats_21 rfl rfl (by decide) (by decide) (fun h hp => ⟨rfl, hp⟩)

theorem knoSlatsF {κ : gq_K} {ad : gKey → Nat} {C R : gG} {T : List (Nat × va_E)} (hR : gfix R.2) (hBR : gcnt R.2) (h5 : R.1 (0, 0, 0) 5 = 0) (x : Int32) (hx : gix (R.2 9 0) x = true) : gq_C κ mX16_noSlats [.ref (ad (20, 0, 0)), .int (x)] (gR κ ad (C, R) T) (fun v9 g => v9 = some (.int 0) ∧ gR κ ad (C, R) T g) (gq_no) := by
  refine gq_enter (by decide +kernel) rfl (Nat.le_of_ble_eq_true rfl) rfl (fun f o => ?_)
  refine y_aload_n (pc := 0) o dX16_noSlats_0 rfl ?_
  refine y_aload_n (pc := 1) o dX16_noSlats_1 rfl ?_
  refine z_get (pc := 2) (K := (20, 0, 0)) (v := .ref (ad (24, 3, 0))) o fl_X16_54 dX16_noSlats_2 (gl_20 hR) rfl rfl ?_
  refine y_iload_n (pc := 5) o dX16_noSlats_5 rfl ?_
  refine z_callS (pc := 6) (k := 0) (n := 0) (k' := 0) (n' := 0) o (As := [.ref (ad (24, 3, 0)), .int (x)]) (rest := [.ref (ad (20, 0, 0))]) (kIsOf (l := 3) (g := 0) (gl_24_3 hR) hBR x) ln_X16_97 dX16_noSlats_6 rfl rfl (Nat.le_of_ble_eq_true rfl) ⟨by decide, by decide⟩ ⟨rfl, rfl⟩ ⟨by decide, by decide⟩ rfl gq_nox2 ?_
  refine z_bne (pc := 9) (tgt := 16) o dX16_noSlats_9 rfl (fun (b1 : gix (R.2 9 0) x = true) => ?_) (fun b1 => absurd hx b1)
  refine y_iconst (pc := 16) (x := 0) o dX16_noSlats_16 (by decide) ?_
  refine y_iconst (pc := 17) (x := 1) o dX16_noSlats_17 (by decide) ?_
  refine z_callV (pc := 18) (k := 0) (n := 0) (k' := 0) (n' := 0) o (b := ad (20, 0, 0)) (As := [.int (0), .int (1)]) (rest := []) (kFailsF hR h5 1) ln_X16_74 dX16_noSlats_18 (z_rc (ci := 20) (K := (20, 0, 0)) rfl (gl_20 hR) rfl) rfl rfl (Nat.le_of_ble_eq_true rfl) ⟨by decide, by decide⟩ ⟨rfl, rfl⟩ ⟨by decide, by decide⟩ rfl gq_nox2 ?_
  exact y_iret (pc := 21) o dX16_noSlats_21 rfl rfl (by decide) (by decide) (fun h hp => ⟨rfl, hp⟩)

theorem knoRunT {κ : gq_K} {ad : gKey → Nat} {C R : gG} {T : List (Nat × va_E)} (hR : gfix R.2) (hBR : gcnt R.2) (h5 : R.1 (0, 0, 0) 5 = 0) (x : Int32) (hx : ¬ gix (R.2 10 0) x = true) : gq_C κ mX16_noRun [.ref (ad (20, 0, 0)), .int (x)] (gR κ ad (C, R) T) (fun v9 g => v9 = some (.int 1) ∧ gR κ ad (C, gup R (0, 0, 0) 5 1) T g) (gq_no) := by
  refine gq_enter (by decide +kernel) rfl (Nat.le_of_ble_eq_true rfl) rfl (fun f o => ?_)
  refine y_aload_n (pc := 0) o dX16_noRun_0 rfl ?_
  refine y_aload_n (pc := 1) o dX16_noRun_1 rfl ?_
  refine z_get (pc := 2) (K := (20, 0, 0)) (v := .ref (ad (24, 4, 0))) o fl_X16_57 dX16_noRun_2 (gl_20 hR) rfl rfl ?_
  refine y_iload_n (pc := 5) o dX16_noRun_5 rfl ?_
  refine z_callS (pc := 6) (k := 0) (n := 0) (k' := 0) (n' := 0) o (As := [.ref (ad (24, 4, 0)), .int (x)]) (rest := [.ref (ad (20, 0, 0))]) (kIsOf (l := 4) (g := 0) (gl_24_4 hR) hBR x) ln_X16_97 dX16_noRun_6 rfl rfl (Nat.le_of_ble_eq_true rfl) ⟨by decide, by decide⟩ ⟨rfl, rfl⟩ ⟨by decide, by decide⟩ rfl gq_nox2 ?_
  refine z_bne (pc := 9) (tgt := 16) o dX16_noRun_9 rfl (fun b1 => absurd b1 hx) (fun (b1 : ¬ (gix (R.2 10 0) x = true)) => ?_)
  refine y_iconst (pc := 12) (x := 1) o dX16_noRun_12 (by decide) ?_
  refine y_goto (pc := 13) (tgt := 17) o dX16_noRun_13 rfl ?_
  refine y_iconst (pc := 17) (x := 1) o dX16_noRun_17 (by decide) ?_
  refine z_callV (pc := 18) (k := 0) (n := 0) (k' := 0) (n' := 0) o (b := ad (20, 0, 0)) (As := [.int (1), .int (1)]) (rest := []) (kFailsT hR h5 1 (by decide)) ln_X16_74 dX16_noRun_18 (z_rc (ci := 20) (K := (20, 0, 0)) rfl (gl_20 hR) rfl) rfl rfl (Nat.le_of_ble_eq_true rfl) ⟨by decide, by decide⟩ ⟨rfl, rfl⟩ ⟨by decide, by decide⟩ rfl gq_nox2 ?_
  exact y_iret (pc := 21) o dX16_noRun_21 rfl rfl (by decide) (by decide) (fun h hp => ⟨rfl, hp⟩)

theorem knoRunF {κ : gq_K} {ad : gKey → Nat} {C R : gG} {T : List (Nat × va_E)} (hR : gfix R.2) (hBR : gcnt R.2) (h5 : R.1 (0, 0, 0) 5 = 0) (x : Int32) (hx : gix (R.2 10 0) x = true) : gq_C κ mX16_noRun [.ref (ad (20, 0, 0)), .int (x)] (gR κ ad (C, R) T) (fun v9 g => v9 = some (.int 0) ∧ gR κ ad (C, R) T g) (gq_no) := by
  refine gq_enter (by decide +kernel) rfl (Nat.le_of_ble_eq_true rfl) rfl (fun f o => ?_)
  refine y_aload_n (pc := 0) o dX16_noRun_0 rfl ?_
  refine y_aload_n (pc := 1) o dX16_noRun_1 rfl ?_
  refine z_get (pc := 2) (K := (20, 0, 0)) (v := .ref (ad (24, 4, 0))) o fl_X16_57 dX16_noRun_2 (gl_20 hR) rfl rfl ?_
  refine y_iload_n (pc := 5) o dX16_noRun_5 rfl ?_
  refine z_callS (pc := 6) (k := 0) (n := 0) (k' := 0) (n' := 0) o (As := [.ref (ad (24, 4, 0)), .int (x)]) (rest := [.ref (ad (20, 0, 0))]) (kIsOf (l := 4) (g := 0) (gl_24_4 hR) hBR x) ln_X16_97 dX16_noRun_6 rfl rfl (Nat.le_of_ble_eq_true rfl) ⟨by decide, by decide⟩ ⟨rfl, rfl⟩ ⟨by decide, by decide⟩ rfl gq_nox2 ?_
  refine z_bne (pc := 9) (tgt := 16) o dX16_noRun_9 rfl (fun (b1 : gix (R.2 10 0) x = true) => ?_) (fun b1 => absurd hx b1)
  refine y_iconst (pc := 16) (x := 0) o dX16_noRun_16 (by decide) ?_
  refine y_iconst (pc := 17) (x := 1) o dX16_noRun_17 (by decide) ?_
  refine z_callV (pc := 18) (k := 0) (n := 0) (k' := 0) (n' := 0) o (b := ad (20, 0, 0)) (As := [.int (0), .int (1)]) (rest := []) (kFailsF hR h5 1) ln_X16_74 dX16_noRun_18 (z_rc (ci := 20) (K := (20, 0, 0)) rfl (gl_20 hR) rfl) rfl rfl (Nat.le_of_ble_eq_true rfl) ⟨by decide, by decide⟩ ⟨rfl, rfl⟩ ⟨by decide, by decide⟩ rfl gq_nox2 ?_
  exact y_iret (pc := 21) o dX16_noRun_21 rfl rfl (by decide) (by decide) (fun h hp => ⟨rfl, hp⟩)

theorem knoGrossT {κ : gq_K} {ad : gKey → Nat} {C R : gG} {T : List (Nat × va_E)} (hR : gfix R.2) (hBR : gcnt R.2) (h5 : R.1 (0, 0, 0) 5 = 0) (x : Int32) (hx : ¬ gix (R.2 11 0) x = true) : gq_C κ mX16_noGross [.ref (ad (20, 0, 0)), .int (x)] (gR κ ad (C, R) T) (fun v9 g => v9 = some (.int 1) ∧ gR κ ad (C, gup R (0, 0, 0) 5 1) T g) (gq_no) := by
  refine gq_enter (by decide +kernel) rfl (Nat.le_of_ble_eq_true rfl) rfl (fun f o => ?_)
  refine y_aload_n (pc := 0) o dX16_noGross_0 rfl ?_
  refine y_aload_n (pc := 1) o dX16_noGross_1 rfl ?_
  refine z_get (pc := 2) (K := (20, 0, 0)) (v := .ref (ad (24, 5, 0))) o fl_X16_60 dX16_noGross_2 (gl_20 hR) rfl rfl ?_
  refine y_iload_n (pc := 5) o dX16_noGross_5 rfl ?_
  refine z_callS (pc := 6) (k := 0) (n := 0) (k' := 0) (n' := 0) o (As := [.ref (ad (24, 5, 0)), .int (x)]) (rest := [.ref (ad (20, 0, 0))]) (kIsOf (l := 5) (g := 0) (gl_24_5 hR) hBR x) ln_X16_97 dX16_noGross_6 rfl rfl (Nat.le_of_ble_eq_true rfl) ⟨by decide, by decide⟩ ⟨rfl, rfl⟩ ⟨by decide, by decide⟩ rfl gq_nox2 ?_
  refine z_bne (pc := 9) (tgt := 16) o dX16_noGross_9 rfl (fun b1 => absurd b1 hx) (fun (b1 : ¬ (gix (R.2 11 0) x = true)) => ?_)
  refine y_iconst (pc := 12) (x := 1) o dX16_noGross_12 (by decide) ?_
  refine y_goto (pc := 13) (tgt := 17) o dX16_noGross_13 rfl ?_
  refine y_iconst (pc := 17) (x := 1) o dX16_noGross_17 (by decide) ?_
  refine z_callV (pc := 18) (k := 0) (n := 0) (k' := 0) (n' := 0) o (b := ad (20, 0, 0)) (As := [.int (1), .int (1)]) (rest := []) (kFailsT hR h5 1 (by decide)) ln_X16_74 dX16_noGross_18 (z_rc (ci := 20) (K := (20, 0, 0)) rfl (gl_20 hR) rfl) rfl rfl (Nat.le_of_ble_eq_true rfl) ⟨by decide, by decide⟩ ⟨rfl, rfl⟩ ⟨by decide, by decide⟩ rfl gq_nox2 ?_
  exact y_iret (pc := 21) o dX16_noGross_21 rfl rfl (by decide) (by decide) (fun h hp => ⟨rfl, hp⟩)

theorem knoGrossF {κ : gq_K} {ad : gKey → Nat} {C R : gG} {T : List (Nat × va_E)} (hR : gfix R.2) (hBR : gcnt R.2) (h5 : R.1 (0, 0, 0) 5 = 0) (x : Int32) (hx : gix (R.2 11 0) x = true) : gq_C κ mX16_noGross [.ref (ad (20, 0, 0)), .int (x)] (gR κ ad (C, R) T) (fun v9 g => v9 = some (.int 0) ∧ gR κ ad (C, R) T g) (gq_no) := by
  refine gq_enter (by decide +kernel) rfl (Nat.le_of_ble_eq_true rfl) rfl (fun f o => ?_)
  refine y_aload_n (pc := 0) o dX16_noGross_0 rfl ?_
  refine y_aload_n (pc := 1) o dX16_noGross_1 rfl ?_
  refine z_get (pc := 2) (K := (20, 0, 0)) (v := .ref (ad (24, 5, 0))) o fl_X16_60 dX16_noGross_2 (gl_20 hR) rfl rfl ?_
  refine y_iload_n (pc := 5) o dX16_noGross_5 rfl ?_
  refine z_callS (pc := 6) (k := 0) (n := 0) (k' := 0) (n' := 0) o (As := [.ref (ad (24, 5, 0)), .int (x)]) (rest := [.ref (ad (20, 0, 0))]) (kIsOf (l := 5) (g := 0) (gl_24_5 hR) hBR x) ln_X16_97 dX16_noGross_6 rfl rfl (Nat.le_of_ble_eq_true rfl) ⟨by decide, by decide⟩ ⟨rfl, rfl⟩ ⟨by decide, by decide⟩ rfl gq_nox2 ?_
  refine z_bne (pc := 9) (tgt := 16) o dX16_noGross_9 rfl (fun (b1 : gix (R.2 11 0) x = true) => ?_) (fun b1 => absurd hx b1)
  refine y_iconst (pc := 16) (x := 0) o dX16_noGross_16 (by decide) ?_
  refine y_iconst (pc := 17) (x := 1) o dX16_noGross_17 (by decide) ?_
  refine z_callV (pc := 18) (k := 0) (n := 0) (k' := 0) (n' := 0) o (b := ad (20, 0, 0)) (As := [.int (0), .int (1)]) (rest := []) (kFailsF hR h5 1) ln_X16_74 dX16_noGross_18 (z_rc (ci := 20) (K := (20, 0, 0)) rfl (gl_20 hR) rfl) rfl rfl (Nat.le_of_ble_eq_true rfl) ⟨by decide, by decide⟩ ⟨rfl, rfl⟩ ⟨by decide, by decide⟩ rfl gq_nox2 ?_
  exact y_iret (pc := 21) o dX16_noGross_21 rfl rfl (by decide) (by decide) (fun h hp => ⟨rfl, hp⟩)

theorem kFine {κ : gq_K} {ad : gKey → Nat} {C R : gG} {T : List (Nat × va_E)} (hR : gfix R.2) (hBR : gcnt R.2) (i : Nat) (hi : i < R.2 8 0) (hx : gix (R.2 7 0) (R.1 (8, 0, i) 0) = true) : gq_C κ mX16_fineness [.ref (ad (20, 0, 0)), .ref (ad (28, 0, i))] (gR κ ad (C, R) T) (fun v9 g => v9 = some (.int (R.1 (7, 0, (R.1 (8, 0, i) 0).toNatClampNeg) 3)) ∧ gR κ ad (C, R) T g) (gq_no) := by
  refine gq_enter (by decide +kernel) rfl (Nat.le_of_ble_eq_true rfl) rfl (fun f o => ?_)
  refine y_aload_n (pc := 0) o dX16_fineness_0 rfl ?_
  refine z_get (pc := 1) (K := (20, 0, 0)) (v := .ref (ad (24, 1, 0))) o fl_X16_42 dX16_fineness_1 (gl_20 hR) rfl rfl ?_
  refine y_aload_n (pc := 4) o dX16_fineness_4 rfl ?_
  refine z_get (pc := 5) (K := (28, 0, i)) (v := .int (R.1 (8, 0, i) 0)) o fl_X16_135 dX16_fineness_5 (gl_28 hi) rfl rfl ?_
  refine z_callF (pc := 8) (k := 0) (n := 0) (k' := 0) (n' := 0) (ci := 3) o (b := ad (24, 1, 0)) (As := [.int (R.1 (8, 0, i) 0)]) (rest := []) (getR (l := 1) (g := 0) (gl_24_1 hR) (hBR 1 0 (by decide)) hx) rfl lf_X16_114 dX16_fineness_8 (fun h hr => ⟨_, ghdr_R (R := R) (gl_24_1 hR) hr⟩) rfl rfl (Nat.le_of_ble_eq_true rfl) ⟨by decide, by decide⟩ ⟨rfl, rfl⟩ ⟨by decide, by decide⟩ ?_
  refine z_castI (pc := 13) (K := (27, 0, (R.1 (8, 0, i) 0).toNatClampNeg)) (N := 5) o qw_1435 dX16_fineness_13 (gl_27 (gix_lt (Nat.le_trans (hBR 1 0 (by decide)) (by decide)) hx)) rfl ?_
  refine y_iconst (pc := 16) (x := 3) o dX16_fineness_16 (by decide) ?_
  refine z_iald (pc := 17) (K := (27, 0, (R.1 (8, 0, i) 0).toNatClampNeg)) (i := 3) (v := R.1 (7, 0, (R.1 (8, 0, i) 0).toNatClampNeg) 3) o dX16_fineness_17 (gl_27 (gix_lt (Nat.le_trans (hBR 1 0 (by decide)) (by decide)) hx)) rfl (by unfold vp_in; decide) rfl ?_
  exact y_iret (pc := 18) o dX16_fineness_18 rfl (vp_nar_int _) (by decide) (by decide) (fun h hp => ⟨rfl, hp⟩)

theorem kFiredR {κ : gq_K} {ad : gKey → Nat} {C R : gG} {T : List (Nat × va_E)} (hR : gfix R.2) (i : Nat) (hi : i < R.2 8 0) : gq_C κ mX16_isFired [.ref (ad (20, 0, 0)), .ref (ad (28, 0, i))] (gR κ ad (C, R) T) (fun v9 g9 => v9 = some (.int (gb (¬ R.1 (8, 0, i) 6 = -1 ∧ ¬ R.1 (0, 0, 0) 0 < R.1 (8, 0, i) 4))) ∧ gR κ ad (C, R) T g9) (gq_no) := by
  refine gq_enter (by decide +kernel) rfl (Nat.le_of_ble_eq_true rfl) rfl (fun f o => ?_)
  refine y_aload_n (pc := 0) o dX16_isFired_0 rfl ?_
  refine z_get (pc := 1) (K := (28, 0, i)) (v := .int (R.1 (8, 0, i) 6)) o fl_X16_168 dX16_isFired_1 (gl_28 hi) rfl rfl ?_
  refine y_iconst (pc := 4) (x := -1) o dX16_isFired_4 (by decide) ?_
  refine y_icmp_eq (pc := 5) (tgt := 23) o dX16_isFired_5 rfl (fun (b1 : (R.1 (8, 0, i) 6) = (-1)) => ?_) (fun (b1 : ¬ (R.1 (8, 0, i) 6) = (-1)) => ?_)
  · refine y_iconst (pc := 23) (x := 0) o dX16_isFired_23 (by decide) ?_
    exact y_iret (pc := 24) o dX16_isFired_24 rfl rfl (by decide) (by decide) (fun h hp => ⟨congrArg (fun z => some (Value.int z)) (gb_f (p := ¬ R.1 (8, 0, i) 6 = -1 ∧ ¬ R.1 (0, 0, 0) 0 < R.1 (8, 0, i) 4) (fun z => z.1 b1)).symm, hp⟩)
  refine y_aload_n (pc := 8) o dX16_isFired_8 rfl ?_
  refine z_get (pc := 9) (K := (20, 0, 0)) (v := .int (R.1 (0, 0, 0) 0)) o fl_X16_78 dX16_isFired_9 (gl_20 hR) rfl rfl ?_
  refine y_aload_n (pc := 12) o dX16_isFired_12 rfl ?_
  refine z_get (pc := 13) (K := (28, 0, i)) (v := .int (R.1 (8, 0, i) 4)) o fl_X16_152 dX16_isFired_13 (gl_28 hi) rfl rfl ?_
  refine y_icmp_lt (pc := 16) (tgt := 23) o dX16_isFired_16 rfl (fun (b2 : (R.1 (0, 0, 0) 0) < (R.1 (8, 0, i) 4)) => ?_) (fun (b2 : ¬ (R.1 (0, 0, 0) 0) < (R.1 (8, 0, i) 4)) => ?_)
  · refine y_iconst (pc := 23) (x := 0) o dX16_isFired_23 (by decide) ?_
    exact y_iret (pc := 24) o dX16_isFired_24 rfl rfl (by decide) (by decide) (fun h hp => ⟨congrArg (fun z => some (Value.int z)) (gb_f (p := ¬ R.1 (8, 0, i) 6 = -1 ∧ ¬ R.1 (0, 0, 0) 0 < R.1 (8, 0, i) 4) (fun z => z.2 b2)).symm, hp⟩)
  refine y_iconst (pc := 19) (x := 1) o dX16_isFired_19 (by decide) ?_
  refine y_goto (pc := 20) (tgt := 24) o dX16_isFired_20 rfl ?_
  exact y_iret (pc := 24) o dX16_isFired_24 rfl rfl (by decide) (by decide) (fun h hp => ⟨congrArg (fun z => some (Value.int z)) (gb_t (p := ¬ R.1 (8, 0, i) 6 = -1 ∧ ¬ R.1 (0, 0, 0) 0 < R.1 (8, 0, i) 4) ⟨b1, b2⟩).symm, hp⟩)

end Z26
