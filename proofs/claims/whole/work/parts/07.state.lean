
section Y7
variable {κ : gq_K} {M : gq_M} {Q : Option Value → gq_H → Prop} {E : String → gq_H → Prop} {f : gq_F} {P P' : gq_H → Prop} {lv lv' : List (Nat × Value)} {pc : Nat} {st : List Value} {k n : Nat}
/-- the greater, the smaller, the size without sign -/
def gmax (x y : Int32) : Int32 := if x < y then y else x
def gmin (x y : Int32) : Int32 := if y < x then y else x
def gabs (x : Int32) : Int32 := if 0 ≤ x then x else 0 - x
theorem y_mmax (o : gq_Ok κ M f) {ix : Nat} {x y : Int32} (hl : Cond.methodLink M.1.cls ix Lib.Math.max.name ∈ gq_ws) (d : decode M.2.1 pc = .ok (.invokestatic ix, 3)) (hr : 1 ≤ M.2.2.2.2.1.frames ∧ (st.map fun v => v.category).sum + 13 ≤ M.2.2.2.2.1.locals) (hk : k ≤ M.2.2.2.2.1.cells) (hn : n ≤ M.2.2.2.2.1.slots) (yy : gq_Y κ M Q E f P lv (pc + 3) (.int (gmax x y) :: st) k n) : gq_Y κ M Q E f P lv pc (.int y :: .int x :: st) k n := by
  obtain ⟨p, l, e, s, m, args, below, meth, c, A⟩ := f
  intro h H locs ls h1 h2 h3 h4
  obtain ⟨hx, hb, hml, hown, hts, hTB, hZ, hA, -⟩ := id o
  exact va_mmax hx hb (hml.trans h4.1.symm) hown (hts _ hl) (hts _ qw_487) (hts _ qw_43) (hts _ qw_488) hr.1 hr.2 hk hn d (yy h H locs ls h1 h2 h3 h4)
theorem y_mmin (o : gq_Ok κ M f) {ix : Nat} {x y : Int32} (hl : Cond.methodLink M.1.cls ix Lib.Math.min.name ∈ gq_ws) (d : decode M.2.1 pc = .ok (.invokestatic ix, 3)) (hr : 1 ≤ M.2.2.2.2.1.frames ∧ (st.map fun v => v.category).sum + 13 ≤ M.2.2.2.2.1.locals) (hk : k ≤ M.2.2.2.2.1.cells) (hn : n ≤ M.2.2.2.2.1.slots) (yy : gq_Y κ M Q E f P lv (pc + 3) (.int (gmin x y) :: st) k n) : gq_Y κ M Q E f P lv pc (.int y :: .int x :: st) k n := by
  obtain ⟨p, l, e, s, m, args, below, meth, c, A⟩ := f
  intro h H locs ls h1 h2 h3 h4
  obtain ⟨hx, hb, hml, hown, hts, hTB, hZ, hA, -⟩ := id o
  exact va_mmin hx hb (hml.trans h4.1.symm) hown (hts _ hl) (hts _ qw_532) (hts _ qw_43) (hts _ qw_533) hr.1 hr.2 hk hn d (yy h H locs ls h1 h2 h3 h4)
theorem y_mabs (o : gq_Ok κ M f) {ix : Nat} {x : Int32} (hl : Cond.methodLink M.1.cls ix Lib.Math.abs.name ∈ gq_ws) (d : decode M.2.1 pc = .ok (.invokestatic ix, 3)) (hr : 1 ≤ M.2.2.2.2.1.frames ∧ (st.map fun v => v.category).sum + 13 ≤ M.2.2.2.2.1.locals) (hk : k ≤ M.2.2.2.2.1.cells) (hn : n ≤ M.2.2.2.2.1.slots) (yy : gq_Y κ M Q E f P lv (pc + 3) (.int (gabs x) :: st) k n) : gq_Y κ M Q E f P lv pc (.int x :: st) k n := by
  obtain ⟨p, l, e, s, m, args, below, meth, c, A⟩ := f
  intro h H locs ls h1 h2 h3 h4
  obtain ⟨hx, hb, hml, hown, hts, hTB, hZ, hA, -⟩ := id o
  exact va_mabs hx hb (hml.trans h4.1.symm) hown (hts _ hl) (hts _ qw_877) (hts _ qw_43) (hts _ qw_878) hr.1 hr.2 hk hn d (yy h H locs ls h1 h2 h3 h4)
/-- a boolean as an int -/
def gb (p : Prop) [Decidable p] : Int32 := if p then 1 else 0
theorem gb_t {p : Prop} [Decidable p] (h : p) : gb p = 1 := if_pos h
theorem gb_f {p : Prop} [Decidable p] (h : ¬ p) : gb p = 0 := if_neg h
theorem gb_c {p q : Prop} [Decidable p] [Decidable q] (h : p ↔ q) : gb p = gb q := by
  by_cases hp : p
  · rw [gb_t hp, gb_t (h.mp hp)]
  · rw [gb_f hp, gb_f (fun x => hp (h.mpr x))]
theorem gb_0 {p : Prop} [Decidable p] : gb p = 0 ↔ ¬ p := by
  by_cases hp : p
  · rw [gb_t hp]; exact ⟨fun h => absurd h (by decide), fun h => absurd hp h⟩
  · rw [gb_f hp]; exact ⟨fun _ => hp, fun _ => rfl⟩
theorem gb_1 {p : Prop} [Decidable p] : gb p = 1 ↔ p := by
  by_cases hp : p
  · rw [gb_t hp]; exact ⟨fun _ => hp, fun _ => rfl⟩
  · rw [gb_f hp]; exact ⟨fun h => absurd h (by decide), fun h => absurd h hp⟩
theorem gb_nar {p : Prop} [Decidable p] : narrow .boolean (.int (gb p)) = .int (gb p) := by
  by_cases hp : p
  · rw [gb_t hp]; rfl
  · rw [gb_f hp]; rfl
theorem gb_vp {p : Prop} [Decidable p] : vp_nar .boolean (gb p) = gb p := by
  by_cases hp : p
  · rw [gb_t hp]; rfl
  · rw [gb_f hp]; rfl
theorem z_beq (o : gq_Ok κ M f) {p : Prop} [Decidable p] {off : Int} {tgt : Nat} (d : decode M.2.1 pc = .ok (.ifCond .eq off, 3)) (ht : (pc : Int) + off = (tgt : Int)) (yt : ¬ p → gq_Y κ M Q E f P lv tgt st k n) (yf : p → gq_Y κ M Q E f P lv (pc + 3) st k n) : gq_Y κ M Q E f P lv pc (.int (gb p) :: st) k n := y_if_eq o d ht (fun h => yt (gb_0.mp h)) (fun h => yf (Classical.byContradiction fun hp => h (gb_f hp)))
theorem z_bne (o : gq_Ok κ M f) {p : Prop} [Decidable p] {off : Int} {tgt : Nat} (d : decode M.2.1 pc = .ok (.ifCond .ne off, 3)) (ht : (pc : Int) + off = (tgt : Int)) (yt : p → gq_Y κ M Q E f P lv tgt st k n) (yf : ¬ p → gq_Y κ M Q E f P lv (pc + 3) st k n) : gq_Y κ M Q E f P lv pc (.int (gb p) :: st) k n := y_if_ne o d ht (fun h => yt (Classical.byContradiction fun hp => h (gb_f hp))) (fun h => yf (gb_0.mp h))
theorem gle {x y : Int32} : y ≤ x ↔ ¬ x < y := Int32.not_lt.symm
theorem z_if_ge (o : gq_Ok κ M f) {x : Int32} {off : Int} {tgt : Nat} (d : decode M.2.1 pc = .ok (.ifCond .ge off, 3)) (ht : (pc : Int) + off = (tgt : Int)) (yt : ¬ x < 0 → gq_Y κ M Q E f P lv tgt st k n) (yf : x < 0 → gq_Y κ M Q E f P lv (pc + 3) st k n) : gq_Y κ M Q E f P lv pc (.int x :: st) k n := y_if_ge o d ht (fun h => yt (gle.mp h)) (fun h => yf (Classical.byContradiction fun hp => h (gle.mpr hp)))
theorem z_icmp_ge (o : gq_Ok κ M f) {x y : Int32} {off : Int} {tgt : Nat} (d : decode M.2.1 pc = .ok (.if_icmp .ge off, 3)) (ht : (pc : Int) + off = (tgt : Int)) (yt : ¬ x < y → gq_Y κ M Q E f P lv tgt st k n) (yf : x < y → gq_Y κ M Q E f P lv (pc + 3) st k n) : gq_Y κ M Q E f P lv pc (.int y :: .int x :: st) k n := y_icmp_ge o d ht (fun h => yt (gle.mp h)) (fun h => yf (Classical.byContradiction fun hp => h (gle.mpr hp)))
theorem z_if_le (o : gq_Ok κ M f) {x : Int32} {off : Int} {tgt : Nat} (d : decode M.2.1 pc = .ok (.ifCond .le off, 3)) (ht : (pc : Int) + off = (tgt : Int)) (yt : ¬ 0 < x → gq_Y κ M Q E f P lv tgt st k n) (yf : 0 < x → gq_Y κ M Q E f P lv (pc + 3) st k n) : gq_Y κ M Q E f P lv pc (.int x :: st) k n := y_if_le o d ht (fun h => yt (gle.mp h)) (fun h => yf (Classical.byContradiction fun hp => h (gle.mpr hp)))
theorem z_icmp_le (o : gq_Ok κ M f) {x y : Int32} {off : Int} {tgt : Nat} (d : decode M.2.1 pc = .ok (.if_icmp .le off, 3)) (ht : (pc : Int) + off = (tgt : Int)) (yt : ¬ y < x → gq_Y κ M Q E f P lv tgt st k n) (yf : y < x → gq_Y κ M Q E f P lv (pc + 3) st k n) : gq_Y κ M Q E f P lv pc (.int y :: .int x :: st) k n := y_icmp_le o d ht (fun h => yt (gle.mp h)) (fun h => yf (Classical.byContradiction fun hp => h (gle.mpr hp)))
/-- the top of the stack said otherwise -/
theorem z_top {v w : Value} (e : v = w) (y : gq_Y κ M Q E f P lv pc (w :: st) k n) : gq_Y κ M Q E f P lv pc (v :: st) k n := e ▸ y
theorem z_st {st' : List Value} (e : st = st') (y : gq_Y κ M Q E f P lv pc st' k n) : gq_Y κ M Q E f P lv pc st k n := e ▸ y
theorem gq_C.opn {args : List Value} (hC : ∀ h, P h → gq_C κ M args (fun g => g = h) Q E) : gq_C κ M args P Q E := by
  intro l A hfl p e had hfc hck s m a below hfr happ hp hK
  obtain ⟨h1, h2, h3, h4, h, h5, h6⟩ := hp
  exact hC h h5 l A hfl p e had hfc hck s m a below hfr happ ⟨h1, h2, h3, h4, h, rfl, h6⟩ hK
theorem gq_C.pre {args : List Value} (hp : ∀ h, P h → P' h) (hC : gq_C κ M args P' Q E) : gq_C κ M args P Q E := gq_C.opn fun h h1 l A hfl p e had hfc hck s m a below hfr happ hq hK => by
  obtain ⟨a1, a2, a3, a4, h', rfl, a6⟩ := hq
  exact hC l A hfl p e had hfc hck s m a below hfr happ ⟨a1, a2, a3, a4, h', hp _ h1, a6⟩ hK
end Y7
-- ===== the state of both =====
abbrev gKey : Type := Nat × Nat × Nat
/-- rows of ints by key, and how many keys there are -/
abbrev gG : Type := (gKey → Nat → Int32) × (Nat → Nat → Nat)
def grup (r : Nat → Int32) (f : Nat) (x : Int32) : Nat → Int32 := fun j => if j = f then x else r j
def gup (C : gG) (K : gKey) (f : Nat) (x : Int32) : gG := (fun K' => if K' = K then grup (C.1 K) f x else C.1 K', C.2)
def gnew (C : gG) (K : gKey) (row : Nat → Int32) : gG := (fun K' => if K' = K then row else C.1 K', fun a b => if a = K.1 ∧ b = K.2.1 then C.2 a b + 1 else C.2 a b)
theorem gup_1 (C : gG) (K : gKey) (f : Nat) (x : Int32) : (gup C K f x).1 K = grup (C.1 K) f x := if_pos rfl
theorem gup_1n {C : gG} {K K' : gKey} (f : Nat) (x : Int32) (h : K' ≠ K) : (gup C K f x).1 K' = C.1 K' := if_neg h
theorem gup_2 (C : gG) (K : gKey) (f : Nat) (x : Int32) : (gup C K f x).2 = C.2 := rfl
theorem gnew_1 (C : gG) (K : gKey) (r : Nat → Int32) : (gnew C K r).1 K = r := if_pos rfl
theorem gnew_1n {C : gG} {K K' : gKey} (r : Nat → Int32) (h : K' ≠ K) : (gnew C K r).1 K' = C.1 K' := if_neg h
theorem gnew_2 (C : gG) (K : gKey) (r : Nat → Int32) (a b : Nat) : (gnew C K r).2 a b = if a = K.1 ∧ b = K.2.1 then C.2 a b + 1 else C.2 a b := rfl
theorem gup_v (C : gG) (K : gKey) (f : Nat) (x : Int32) : (gup C K f x).1 K f = x := by rw [gup_1]; exact if_pos rfl
theorem gup_vf {C : gG} {K : gKey} {f f' : Nat} (x : Int32) (h : f' ≠ f) : (gup C K f x).1 K f' = C.1 K f' := by rw [gup_1]; exact if_neg h
theorem gup_vk {C : gG} {K K' : gKey} {f f' : Nat} (x : Int32) (h : K' ≠ K) : (gup C K f x).1 K' f' = C.1 K' f' := by rw [gup_1n f x h]
theorem gup_vc {C : gG} {K : gKey} {a b c f f' : Nat} (x : Int32) (h : a ≠ K.1) : (gup C K f x).1 (a, b, c) f' = C.1 (a, b, c) f' := gup_vk x (fun e => h (by rw [← e]))
theorem gup_gup (C : gG) (K : gKey) (f : Nat) (x y : Int32) : gup (gup C K f x) K f y = gup C K f y := by
  unfold gup
  refine congrArg (·, C.2) (funext fun K' => ?_)
  by_cases h : K' = K
  · simp only [h, if_true]
    funext j
    unfold grup
    by_cases hj : j = f <;> simp [hj]
  · simp only [h, if_false]
theorem gup_comm {K K' : gKey} {f f' : Nat} (h : K ≠ K' ∨ f ≠ f') (C : gG) (x y : Int32) : gup (gup C K f x) K' f' y = gup (gup C K' f' y) K f x := by
  refine Prod.ext ?_ rfl
  funext K1 j
  show (gup (gup C K f x) K' f' y).1 K1 j = (gup (gup C K' f' y) K f x).1 K1 j
  by_cases h1 : K1 = K
  · by_cases h2 : K1 = K'
    · subst h1; subst h2
      rcases h with h | h
      · exact absurd rfl h
      · simp only [gup_1, grup]
        by_cases a : j = f <;> by_cases b : j = f' <;> simp_all
    · subst h1
      rw [gup_1n _ _ h2, gup_1, gup_1]
      unfold grup
      rw [gup_1n _ _ h2]
  · by_cases h2 : K1 = K'
    · subst h2
      rw [gup_1n (K := K) _ _ h1, gup_1, gup_1]
      unfold grup
      rw [gup_1n _ _ h1]
    · rw [gup_1n _ _ h2, gup_1n _ _ h1, gup_1n _ _ h1, gup_1n _ _ h2]
theorem gup_id (C : gG) (K : gKey) (f : Nat) : gup C K f (C.1 K f) = C := by
  refine Prod.ext ?_ rfl
  funext K1 j
  show (gup C K f (C.1 K f)).1 K1 j = _
  by_cases h1 : K1 = K
  · subst h1
    rw [gup_1]; unfold grup
    by_cases a : j = f
    · rw [a]; simp
    · simp [a]
  · rw [gup_1n _ _ h1]
def gcap (n : Nat) : Nat := if n = 0 then 0 else if n ≤ 10 then 10 else if n ≤ 15 then 15 else if n ≤ 22 then 22 else if n ≤ 33 then 33 else if n ≤ 49 then 49 else if n ≤ 73 then 73 else if n ≤ 109 then 109 else 163
theorem gcap_le {n : Nat} (h : n ≤ 163) : n ≤ gcap n := by
  unfold gcap
  repeat' split
  all_goals omega
def gnm (i : Nat) : Int32 := if i = 0 then 109 else if i = 1 then 112 else if i = 2 then 103 else 99
def gdrv (ad : gKey → Nat) (x : Int32) : Value := if x = -1 then .null else .ref (ad (3, 0, x.toNatClampNeg))
/-- a row of k ints out of r -/
abbrev grow (κ : gq_K) (k : Nat) (r : Nat → Int32) : va_E := .inl (κ.2.1 0, k, .inl (fun j => if j < k then r j else 0))
def ghdr (κ : gq_K) (n b : Nat) : va_E := .inr (3, [.int (Int32.ofNat n), .ref (if n = 0 then κ.2.2 100 else b), .int (Int32.ofNat n)])
def gbak (κ : gq_K) (n : Nat) (el : Nat → Nat) : va_E := .inl (κ.2.1 4, gcap n, .inr (.inr (.inr (.inr (fun j => if j < n then some (el j) else none)))))
/-- what lies at a key of the class -/
def gentC (κ : gq_K) (ad : gKey → Nat) (N : Nat → Nat → Nat) (r : Nat → Int32) : gKey → va_E
  | (0, _, _) => .inr (15, [.ref (ad (1, 0, 0)), .ref (ad (2, 0, 0)), .ref (ad (4, 0, 0)), .ref (ad (4, 1, 0)), .ref (ad (4, 2, 0)), .ref (ad (4, 3, 0)), .ref (ad (4, 4, 0)), .ref (ad (4, 5, 0)), .ref (ad (4, 6, 0)), .ref (ad (14, 0, 0)), .ref (ad (15, 0, 0)), .int (r 0), .int (r 1), .int (r 2), .int (r 3), .int (r 4)])
  | (1, _, _) => .inr (5, [.ref (ad (3, 0, 0)), .ref (ad (3, 0, 1)), .ref (ad (3, 0, 2)), .ref (ad (3, 0, 3)), .int (r 0)])
  | (2, _, _) => .inr (14, [.int (r 0), .int (r 1)])
  | (3, _, i) => .inr (8, [.int (gnm i), .int (r 0), gdrv ad (r 1)])
  | (4, l, g) => ghdr κ (N (6 + l) g) (ad (5, l, g))
  | (5, l, g) => gbak κ (N (6 + l) g) (fun j => ad (6 + l, g, j))
  | (6, _, _) => .inr (7, [.int (r 0), .int (r 1), .int (r 2), .int (r 3)])
  | (7, _, _) => .inr (9, [.int (r 0), .int (r 1), .int (r 2), .int (r 3), .int (r 4)])
  | (8, _, i) => .inr (4, [.int (Int32.ofNat i), .ref (ad (7, 0, (r 0).toNatClampNeg)), .int (r 3), .int (r 1), .int (r 2), .int (r 4), .int (r 9), .int (r 10), .int (r 6), .int (r 7), .int (r 5), .int (r 8)])
  | (9, _, i) => .inr (13, [.int (Int32.ofNat i), .int (r 0), .int (r 1), .int (r 2), .int (r 3), .int (r 4), .int (r 5)])
  | (10, _, i) => .inr (12, [.int (Int32.ofNat i), .ref (ad (8, 0, (r 0).toNatClampNeg)), .ref (ad (9, 0, (r 1).toNatClampNeg)), .int (r 2), .int (r 5), .int (r 3), .int (r 4), .int (r 7), .int (r 8), .int (r 9), .int (r 6), .int (r 10)])
  | (11, _, i) => .inr (6, [.int (r 0), .ref (ad (4, 7, i)), .int (r 1), .int (r 2)])
  | (12, _, _) => .inr (10, [.int (r 0), .int (r 2), .int (r 1), .int (r 3)])
  | (13, _, _) => .inr (11, [.ref (ad (10, 0, (r 0).toNatClampNeg)), .int (r 1), .int (r 2)])
  | (14, _, _) => grow κ 4 r
  | (15, _, _) => grow κ 2 r
  | (_, _, _) => .inr (0, [])
def grefC (N : Nat → Nat → Nat) (r : Nat → Int32) : gKey → List gKey
  | (0, _, _) => [(1, 0, 0), (2, 0, 0), (4, 0, 0), (4, 1, 0), (4, 2, 0), (4, 3, 0), (4, 4, 0), (4, 5, 0), (4, 6, 0), (14, 0, 0), (15, 0, 0)]
  | (1, _, _) => [(3, 0, 0), (3, 0, 1), (3, 0, 2), (3, 0, 3)]
  | (3, _, _) => if r 1 = -1 then [] else [(3, 0, (r 1).toNatClampNeg)]
  | (4, l, g) => if N (6 + l) g = 0 then [] else [(5, l, g)]
  | (5, l, g) => (List.range (N (6 + l) g)).map (fun j => (6 + l, g, j))
  | (8, _, _) => [(7, 0, (r 0).toNatClampNeg)]
  | (10, _, _) => [(8, 0, (r 0).toNatClampNeg), (9, 0, (r 1).toNatClampNeg)]
  | (11, _, i) => [(4, 7, i)]
  | (13, _, _) => [(10, 0, (r 0).toNatClampNeg)]
  | (_, _, _) => []
/-- what lies at a key of the reference, the one whose row is r -/
def gentR1 (κ : gq_K) (ad : gKey → Nat) (N : Nat → Nat → Nat) (r : Nat → Int32) : gKey → va_E
  | (24, l, g) => ghdr κ (N (6 + l) g) (ad (25, l, g))
  | (25, l, g) => gbak κ (N (6 + l) g) (fun j => ad (26 + l, g, j))
  | (26, _, _) => grow κ 4 r
  | (27, _, _) => grow κ 5 r
  | (28, _, _) => .inr (16, [.int (r 0), .int (r 1), .int (r 2), .int (r 3), .int (r 4), .int (r 5), .int (r 6), .int (r 11), .int (r 8), .int (r 9), .int (r 10)])
  | (29, _, _) => .inr (19, [.int (r 0), .int (r 1), .int (r 2), .int (r 3), .int (r 4), .int (r 5)])
  | (30, _, _) => .inr (18, [.int (r 0), .int (r 1), .int (r 2), .int (r 3), .int (r 4), .int (r 5), .int (r 6), .int (r 7), .int (r 8), .int (r 9), .int (r 10)])
  | (31, _, i) => .inr (17, [.int (r 0), .ref (ad (24, 7, i)), .int (r 2)])
  | (32, _, _) => grow κ 4 r
  | (33, _, _) => grow κ 3 r
  | (34, _, _) => grow κ 4 r
  | (35, _, _) => grow κ 2 r
  | (_, _, _) => .inr (0, [])
def gentR (κ : gq_K) (ad : gKey → Nat) (N : Nat → Nat → Nat) (σ : gKey → Nat → Int32) (K : gKey) : va_E :=
  if K.1 = 20 then .inr (20, [.int (σ (0, 0, 0) 5), .int (σ (0, 0, 0) 0), .int (σ (1, 0, 0) 0), .ref (ad (21, 0, 0)), .ref (ad (22, 0, 0)), .ref (ad (24, 0, 0)), .ref (ad (24, 1, 0)), .ref (ad (34, 0, 0)), .ref (ad (35, 0, 0)), .ref (ad (24, 2, 0)), .ref (ad (24, 3, 0)), .ref (ad (24, 4, 0)), .ref (ad (24, 5, 0)), .ref (ad (24, 6, 0)), .int (σ (0, 0, 0) 1), .int (σ (2, 0, 0) 2), .int (σ (2, 0, 0) 0), .int (σ (0, 0, 0) 2)])
  else if K.1 = 21 then .inl (κ.2.1 3, 4, .inl (fun j => if j < 4 then σ (3, 0, j) 0 else 0))
  else if K.1 = 22 then .inl (κ.2.1 0, 4, .inl (fun j => if j < 4 then σ (3, 0, j) 1 else 0))
  else gentR1 κ ad N (σ (K.1 - 20, K.2)) K
def grefR (N : Nat → Nat → Nat) : gKey → List gKey
  | (20, _, _) => [(21, 0, 0), (22, 0, 0), (24, 0, 0), (24, 1, 0), (24, 2, 0), (24, 3, 0), (24, 4, 0), (24, 5, 0), (24, 6, 0), (34, 0, 0), (35, 0, 0)]
  | (24, l, g) => if N (6 + l) g = 0 then [] else [(25, l, g)]
  | (25, l, g) => (List.range (N (6 + l) g)).map (fun j => (26 + l, g, j))
  | (31, _, i) => [(24, 7, i)]
  | (_, _, _) => []
def gent (κ : gq_K) (ad : gKey → Nat) (S : gG × gG) (K : gKey) : va_E := if K.1 < 20 then gentC κ ad S.1.2 (S.1.1 K) K else gentR κ ad S.2.2 S.2.1 K
def gref (S : gG × gG) (K : gKey) : List gKey := if K.1 < 20 then grefC S.1.2 (S.1.1 K) K else grefR S.2.2 K
def glive1 (N : Nat → Nat → Nat) (a : Nat) (L : Nat × Nat) : Prop := if a = 4 then L.1 ≤ 7 ∧ L.2 < N 4 L.1 else if a = 5 then L.1 ≤ 7 ∧ L.2 < N 4 L.1 ∧ 0 < N (6 + L.1) L.2 else (a = 13 ∨ L.1 = 0) ∧ L.2 < N a L.1
def glive (S : gG × gG) (K : gKey) : Prop := if K.1 < 20 then glive1 S.1.2 K.1 K.2 else K.1 ≠ 23 ∧ glive1 S.2.2 (K.1 - 20) K.2
theorem gent_c {κ : gq_K} {ad : gKey → Nat} {S : gG × gG} {K : gKey} (h : K.1 < 20) : gent κ ad S K = gentC κ ad S.1.2 (S.1.1 K) K := if_pos h
theorem gent_r {κ : gq_K} {ad : gKey → Nat} {S : gG × gG} {K : gKey} (h : ¬ K.1 < 20) : gent κ ad S K = gentR κ ad S.2.2 S.2.1 K := if_neg h
theorem gref_c {S : gG × gG} {K : gKey} (h : K.1 < 20) : gref S K = grefC S.1.2 (S.1.1 K) K := if_pos h
theorem gref_r {S : gG × gG} {K : gKey} (h : ¬ K.1 < 20) : gref S K = grefR S.2.2 K := if_neg h
theorem glive_c {S : gG × gG} {K : gKey} (h : K.1 < 20) : glive S K ↔ glive1 S.1.2 K.1 K.2 := by unfold glive; rw [if_pos h]
theorem glive_r {S : gG × gG} {K : gKey} (h : ¬ K.1 < 20) : glive S K ↔ (K.1 ≠ 23 ∧ glive1 S.2.2 (K.1 - 20) K.2) := by unfold glive; rw [if_neg h]
theorem gentC_ad {κ : gq_K} {ad ad' : gKey → Nat} {N : Nat → Nat → Nat} {r : Nat → Int32} {K : gKey} (h : ∀ K' ∈ grefC N r K, ad' K' = ad K') : gentC κ ad' N r K = gentC κ ad N r K := by
  unfold gentC
  unfold grefC at h
  split at h
  · simp only [List.mem_cons, List.not_mem_nil, or_false, forall_eq_or_imp, forall_eq] at h
    simp only [h]
  · simp only [List.mem_cons, List.not_mem_nil, or_false, forall_eq_or_imp, forall_eq] at h
    simp only [h]
  · rename_i r0
    by_cases hr : r 1 = -1
    · simp only [gdrv, hr, if_true]
    · simp only [hr, if_false, List.mem_cons, List.not_mem_nil, or_false, forall_eq] at h
      simp only [gdrv, hr, if_false, h]
  · rename_i l g
    by_cases hr : N (6 + l) g = 0
    · simp only [ghdr, hr, if_true]
    · simp only [hr, if_false, List.mem_cons, List.not_mem_nil, or_false, forall_eq] at h
      simp only [ghdr, hr, if_false, h]
  · rename_i l g
    simp only [gbak]
    refine congrArg (fun z => (Sum.inl (κ.2.1 4, gcap (N (6 + l) g), .inr (.inr (.inr (.inr z)))) : va_E)) (funext fun j => ?_)
    by_cases hj : j < N (6 + l) g
    · simp only [hj, if_true]
      rw [h _ (List.mem_map.mpr ⟨j, List.mem_range.mpr hj, rfl⟩)]
    · simp only [hj, if_false]
  · simp only [List.mem_cons, List.not_mem_nil, or_false, forall_eq_or_imp, forall_eq] at h
    simp only [h]
  · simp only [List.mem_cons, List.not_mem_nil, or_false, forall_eq_or_imp, forall_eq] at h
    simp only [h]
  · simp only [List.mem_cons, List.not_mem_nil, or_false, forall_eq_or_imp, forall_eq] at h
    simp only [h]
  · simp only [List.mem_cons, List.not_mem_nil, or_false, forall_eq_or_imp, forall_eq] at h
    simp only [h]
  · split <;> first | rfl | simp_all
theorem gentR1_ad {κ : gq_K} {ad ad' : gKey → Nat} {N : Nat → Nat → Nat} {r : Nat → Int32} {K : gKey} (h : ∀ K' ∈ grefR N K, ad' K' = ad K') : gentR1 κ ad' N r K = gentR1 κ ad N r K := by
  unfold gentR1
  unfold grefR at h
  split at h
  · rfl
  · rename_i l g
    by_cases hr : N (6 + l) g = 0
    · simp only [ghdr, hr, if_true]
    · simp only [hr, if_false, List.mem_cons, List.not_mem_nil, or_false, forall_eq] at h
      simp only [ghdr, hr, if_false, h]
  · rename_i l g
    simp only [gbak]
    refine congrArg (fun z => (Sum.inl (κ.2.1 4, gcap (N (6 + l) g), .inr (.inr (.inr (.inr z)))) : va_E)) (funext fun j => ?_)
    by_cases hj : j < N (6 + l) g
    · simp only [hj, if_true]
      rw [h _ (List.mem_map.mpr ⟨j, List.mem_range.mpr hj, rfl⟩)]
    · simp only [hj, if_false]
  · simp only [List.mem_cons, List.not_mem_nil, or_false, forall_eq] at h
    simp only [h]
  · split <;> first | rfl | simp_all
theorem gentR_ad {κ : gq_K} {ad ad' : gKey → Nat} {N : Nat → Nat → Nat} {σ : gKey → Nat → Int32} {K : gKey} (h : ∀ K' ∈ grefR N K, ad' K' = ad K') : gentR κ ad' N σ K = gentR κ ad N σ K := by
  unfold gentR
  by_cases h0 : K.1 = 20
  · rw [if_pos h0, if_pos h0]
    have h1 : ∀ K' ∈ ([(21, 0, 0), (22, 0, 0), (24, 0, 0), (24, 1, 0), (24, 2, 0), (24, 3, 0), (24, 4, 0), (24, 5, 0), (24, 6, 0), (34, 0, 0), (35, 0, 0)] : List gKey), ad' K' = ad K' := by
      intro K' hK'
      refine h K' ?_
      obtain ⟨a, b, c⟩ := K
      simp only at h0
      subst h0
      exact hK'
    simp only [List.mem_cons, List.not_mem_nil, or_false, forall_eq_or_imp, forall_eq] at h1
    simp only [h1]
  · rw [if_neg h0, if_neg h0, gentR1_ad h]
theorem gk1 {K K' : gKey} (h1 : K'.1 < 20) (h5 : K'.1 ≠ 5) : K'.1 < 20 ∧ (K'.1 = 5 → K.1 = 4 ∧ K'.2 = K.2) := ⟨h1, fun z => absurd z h5⟩
theorem gk2 {K K' : gKey} (h1 : ¬ K'.1 < 20) (h5 : K'.1 ≠ 25) : ¬ K'.1 < 20 ∧ (K'.1 = 25 → K.1 = 24 ∧ K'.2 = K.2) := ⟨h1, fun z => absurd z h5⟩
theorem grefC_lt {N : Nat → Nat → Nat} {r : Nat → Int32} {K K' : gKey} (hl : K.1 = 5 → K.2.1 ≤ 7) (h : K' ∈ grefC N r K) : K'.1 < 20 ∧ (K'.1 = 5 → K.1 = 4 ∧ K'.2 = K.2) := by
  unfold grefC at h
  split at h
  · simp only [List.mem_cons, List.not_mem_nil, or_false] at h
    rcases h with rfl | rfl | rfl | rfl | rfl | rfl | rfl | rfl | rfl | rfl | rfl <;> exact gk1 (by simp) (by simp)
  · simp only [List.mem_cons, List.not_mem_nil, or_false] at h
    rcases h with rfl | rfl | rfl | rfl <;> exact gk1 (by simp) (by simp)
  · split at h
    · cases h
    · simp only [List.mem_cons, List.not_mem_nil, or_false] at h
      subst h
      exact gk1 (by simp) (by simp)
  · split at h
    · cases h
    · simp only [List.mem_cons, List.not_mem_nil, or_false] at h
      subst h
      exact ⟨by simp, fun _ => ⟨rfl, rfl⟩⟩
  · obtain ⟨j, -, rfl⟩ := List.mem_map.mp h
    have := hl rfl
    exact gk1 (by show 6 + _ < 20; simp only at this; omega) (by show 6 + _ ≠ 5; omega)
  · simp only [List.mem_cons, List.not_mem_nil, or_false] at h
    subst h
    exact gk1 (by simp) (by simp)
  · simp only [List.mem_cons, List.not_mem_nil, or_false] at h
    rcases h with rfl | rfl <;> exact gk1 (by simp) (by simp)
  · simp only [List.mem_cons, List.not_mem_nil, or_false] at h
    subst h
    exact gk1 (by simp) (by simp)
  · simp only [List.mem_cons, List.not_mem_nil, or_false] at h
    subst h
    exact gk1 (by simp) (by simp)
  · cases h
theorem grefR_ge {N : Nat → Nat → Nat} {K K' : gKey} (h : K' ∈ grefR N K) : ¬ K'.1 < 20 ∧ (K'.1 = 25 → K.1 = 24 ∧ K'.2 = K.2) := by
  unfold grefR at h
  split at h
  · simp only [List.mem_cons, List.not_mem_nil, or_false] at h
    rcases h with rfl | rfl | rfl | rfl | rfl | rfl | rfl | rfl | rfl | rfl | rfl <;> exact gk2 (by simp) (by simp)
  · split at h
    · cases h
    · simp only [List.mem_cons, List.not_mem_nil, or_false] at h
      subst h
      exact ⟨by simp, fun _ => ⟨rfl, rfl⟩⟩
  · obtain ⟨j, -, rfl⟩ := List.mem_map.mp h
    exact gk2 (by show ¬ 26 + _ < 20; omega) (by show 26 + _ ≠ 25; omega)
  · simp only [List.mem_cons, List.not_mem_nil, or_false] at h
    subst h
    exact gk2 (by simp) (by simp)
  · cases h
/-- both machines lie in the picture h, and the temporaries T beside them -/
def gR (κ : gq_K) (ad : gKey → Nat) (S : gG × gG) (T : List (Nat × va_E)) (h : gq_H) : Prop :=
  (∀ K, glive S K → h (ad K) = some (gent κ ad S K)) ∧ (∀ K K', glive S K → glive S K' → ad K = ad K' → K = K') ∧ (∀ K, glive S K → ∀ K' ∈ gref S K, glive S K') ∧ (∀ t ∈ T, h t.1 = some t.2) ∧ (∀ t ∈ T, ∀ K, glive S K → ad K ≠ t.1) ∧ (T.map (·.1)).Nodup
section GR
variable {κ : gq_K} {ad ad' : gKey → Nat} {S S' : gG × gG} {C R : gG} {T : List (Nat × va_E)} {h h' : gq_H}
/-- a live key's entry is written -/
theorem gR.put (hr : gR κ ad S T h) {K0 : gKey} (hl : glive S K0) {e' : va_E} (hlv : ∀ K, glive S' K ↔ glive S K) (hs : ∀ K, glive S K → K ≠ K0 → gent κ ad S' K = gent κ ad S K) (he : gent κ ad S' K0 = e') (hc : ∀ K, glive S K → ∀ K' ∈ gref S' K, glive S K') : gR κ ad S' T (gq_hs h (ad K0) e') := by
  refine ⟨fun K hK => ?_, fun K K' hK hK' => hr.2.1 K K' ((hlv K).mp hK) ((hlv K').mp hK'), fun K hK K' hK' => (hlv K').mpr (hc K ((hlv K).mp hK) K' hK'), fun t ht => ?_, fun t ht K hK => hr.2.2.2.2.1 t ht K ((hlv K).mp hK), hr.2.2.2.2.2⟩
  · have hK := (hlv K).mp hK
    by_cases hk : K = K0
    · rw [hk, gq_hs_eq, he]
    · rw [gq_hs_ne _ _ (fun z => hk (hr.2.1 K K0 hK hl z)), hr.1 K hK, hs K hK hk]
  · rw [gq_hs_ne _ _ (fun z => hr.2.2.2.2.1 t ht K0 hl z.symm)]
    exact hr.2.2.2.1 t ht
/-- the state said otherwise, where nothing that lies in the picture differs -/
theorem gR.same (hr : gR κ ad S T h) (hlv : ∀ K, glive S' K ↔ glive S K) (hs : ∀ K, glive S K → gent κ ad S' K = gent κ ad S K) (hc : ∀ K, glive S K → ∀ K' ∈ gref S' K, glive S K') : gR κ ad S' T h := by
  refine ⟨fun K hK => ?_, fun K K' hK hK' => hr.2.1 K K' ((hlv K).mp hK) ((hlv K').mp hK'), fun K hK K' hK' => (hlv K').mpr (hc K ((hlv K).mp hK) K' hK'), hr.2.2.2.1, fun t ht K hK => hr.2.2.2.2.1 t ht K ((hlv K).mp hK), hr.2.2.2.2.2⟩
  rw [hr.1 K ((hlv K).mp hK), hs K ((hlv K).mp hK)]
theorem gR.putC (hr : gR κ ad (C, R) T h) {K0 : gKey} (hl : glive (C, R) K0) (h20 : K0.1 < 20) {f : Nat} {x : Int32} {e' : va_E} (he : gentC κ ad C.2 (grup (C.1 K0) f x) K0 = e') (hc : ∀ K' ∈ grefC C.2 (grup (C.1 K0) f x) K0, glive (C, R) K') : gR κ ad (gup C K0 f x, R) T (gq_hs h (ad K0) e') := by
  refine hr.put (S' := (gup C K0 f x, R)) hl (fun K => Iff.rfl) (fun K hK hk => ?_) ?_ (fun K hK => ?_)
  · by_cases h2 : K.1 < 20
    · rw [gent_c h2, gent_c h2]
      show gentC κ ad C.2 ((gup C K0 f x).1 K) K = _
      rw [gup_1n f x hk]
    · rw [gent_r h2, gent_r h2]
  · rw [gent_c h20]
    show gentC κ ad C.2 ((gup C K0 f x).1 K0) K0 = _
    rw [gup_1, he]
  · by_cases hk : K = K0
    · subst hk
      rw [gref_c h20]
      show ∀ K' ∈ grefC C.2 ((gup C K f x).1 K) K, _
      rw [gup_1]
      exact hc
    · have : gref (gup C K0 f x, R) K = gref (C, R) K := by
        by_cases h2 : K.1 < 20
        · rw [gref_c h2, gref_c h2]
          show grefC C.2 ((gup C K0 f x).1 K) K = _
          rw [gup_1n f x hk]
        · rw [gref_r h2, gref_r h2]
      rw [this]
      exact hr.2.2.1 K hK
theorem gR.ghostC (hr : gR κ ad (C, R) T h) (K0 : gKey) (f : Nat) (x : Int32) (he : ∀ (ad : gKey → Nat) (N : Nat → Nat → Nat) (r : Nat → Int32), gentC κ ad N (grup r f x) K0 = gentC κ ad N r K0) (hc : ∀ (N : Nat → Nat → Nat) (r : Nat → Int32), grefC N (grup r f x) K0 = grefC N r K0) : gR κ ad (gup C K0 f x, R) T h := by
  refine hr.same (S' := (gup C K0 f x, R)) (fun K => Iff.rfl) (fun K hK => ?_) (fun K hK => ?_)
  · by_cases h2 : K.1 < 20
    · rw [gent_c h2, gent_c h2]
      show gentC κ ad C.2 ((gup C K0 f x).1 K) K = _
      by_cases hk : K = K0
      · subst hk; rw [gup_1, he]
      · rw [gup_1n f x hk]
    · rw [gent_r h2, gent_r h2]
  · have : gref (gup C K0 f x, R) K = gref (C, R) K := by
      by_cases h2 : K.1 < 20
      · rw [gref_c h2, gref_c h2]
        show grefC C.2 ((gup C K0 f x).1 K) K = _
        by_cases hk : K = K0
        · subst hk; rw [gup_1, hc]
        · rw [gup_1n f x hk]
      · rw [gref_r h2, gref_r h2]
    rw [this]
    exact hr.2.2.1 K hK
/-- the reference's rows: which keys read the row B -/
theorem gentR_n {N : Nat → Nat → Nat} {σ : gG} {B K : gKey} {f : Nat} {x : Int32} (h2 : ¬ K.1 < 20) (hB : 4 ≤ B.1) (hk : K ≠ (B.1 + 20, B.2)) : gentR κ ad N (gup σ B f x).1 K = gentR κ ad N σ.1 K := by
  have h0 : ∀ a j : Nat, a < 4 → (gup σ B f x).1 (a, 0, j) = σ.1 (a, 0, j) := fun a j ha => gup_1n f x (fun z => by rw [← z] at hB; simp only at hB; omega)
  have h1 : (gup σ B f x).1 (K.1 - 20, K.2) = σ.1 (K.1 - 20, K.2) := gup_1n f x (fun z => hk (by
    rw [← z]
    refine Prod.ext ?_ rfl
    show K.1 = K.1 - 20 + 20
    omega))
  unfold gentR
  rw [h0 0 0 (by decide), h0 1 0 (by decide), h0 2 0 (by decide), h1]
  have h3 : ∀ j : Nat, (gup σ B f x).1 (3, 0, j) = σ.1 (3, 0, j) := fun j => h0 3 j (by decide)
  simp only [h3]
theorem gR.putR (hr : gR κ ad (C, R) T h) {K0 : gKey} (hl : glive (C, R) K0) (h20 : 24 ≤ K0.1) {f : Nat} {x : Int32} {e' : va_E} (he : gentR1 κ ad R.2 (grup (R.1 (K0.1 - 20, K0.2)) f x) K0 = e') : gR κ ad (C, gup R (K0.1 - 20, K0.2) f x) T (gq_hs h (ad K0) e') := by
  have hkk : K0 = (K0.1 - 20 + 20, K0.2) := Prod.ext (show K0.1 = K0.1 - 20 + 20 by omega) rfl
  refine hr.put (S' := (C, gup R (K0.1 - 20, K0.2) f x)) hl (fun K => Iff.rfl) (fun K hK hk => ?_) ?_ (fun K hK => ?_)
  · by_cases h2 : K.1 < 20
    · rw [gent_c h2, gent_c h2]
    · rw [gent_r h2, gent_r h2]
      exact gentR_n h2 (by show 4 ≤ K0.1 - 20; omega) (by rw [← hkk]; exact hk)
  · rw [gent_r (by omega)]
    show gentR κ ad R.2 (gup R (K0.1 - 20, K0.2) f x).1 K0 = _
    unfold gentR
    rw [if_neg (by omega), if_neg (by omega), if_neg (by omega), gup_1, he]
  · have : gref (C, gup R (K0.1 - 20, K0.2) f x) K = gref (C, R) K := by
      by_cases h2 : K.1 < 20
      · rw [gref_c h2, gref_c h2]
      · rw [gref_r h2, gref_r h2]; rfl
    rw [this]
    exact hr.2.2.1 K hK
theorem gR.ghostR (hr : gR κ ad (C, R) T h) (B : gKey) (f : Nat) (x : Int32) (he : ∀ K, ¬ K.1 < 20 → gentR κ ad R.2 (gup R B f x).1 K = gentR κ ad R.2 R.1 K) : gR κ ad (C, gup R B f x) T h := by
  refine hr.same (S' := (C, gup R B f x)) (fun K => Iff.rfl) (fun K hK => ?_) (fun K hK => ?_)
  · by_cases h2 : K.1 < 20
    · rw [gent_c h2, gent_c h2]
    · rw [gent_r h2, gent_r h2]
      exact he K h2
  · have : gref (C, gup R B f x) K = gref (C, R) K := by
      by_cases h2 : K.1 < 20
      · rw [gref_c h2, gref_c h2]
      · rw [gref_r h2, gref_r h2]; rfl
    rw [this]
    exact hr.2.2.1 K hK
/-- a row of things is wider than what the reference shows of it -/
theorem gR.ghostR1 (hr : gR κ ad (C, R) T h) (B : gKey) (f : Nat) (x : Int32) (hB : 4 ≤ B.1) (he : ∀ (ad : gKey → Nat) (N : Nat → Nat → Nat) (r : Nat → Int32), gentR1 κ ad N (grup r f x) (B.1 + 20, B.2) = gentR1 κ ad N r (B.1 + 20, B.2)) : gR κ ad (C, gup R B f x) T h := by
  refine hr.ghostR B f x fun K h2 => ?_
  by_cases hk : K = (B.1 + 20, B.2)
  · subst hk
    unfold gentR
    rw [if_neg (by show ¬ B.1 + 20 = 20; omega), if_neg (by show ¬ B.1 + 20 = 21; omega), if_neg (by show ¬ B.1 + 20 = 22; omega), if_neg (by show ¬ B.1 + 20 = 20; omega), if_neg (by show ¬ B.1 + 20 = 21; omega), if_neg (by show ¬ B.1 + 20 = 22; omega)]
    have hb : ((B.1 + 20 - 20, B.2) : gKey) = B := Prod.ext (show B.1 + 20 - 20 = B.1 by omega) rfl
    show gentR1 κ ad R.2 ((gup R B f x).1 (B.1 + 20 - 20, B.2)) _ = gentR1 κ ad R.2 (R.1 (B.1 + 20 - 20, B.2)) _
    rw [hb, gup_1, he]
  · exact gentR_n h2 hB hk
theorem gentR_20 {N : Nat → Nat → Nat} {σ : gG} {b f : Nat} {x : Int32} (hb : b < 3) {K : gKey} (h2 : ¬ K.1 < 20) (hk : K.1 ≠ 20) (h23 : K.1 ≠ 23) : gentR κ ad N (gup σ (b, 0, 0) f x).1 K = gentR κ ad N σ.1 K := by
  unfold gentR
  rw [if_neg hk, if_neg hk]
  have h3 : ∀ j : Nat, (gup σ (b, 0, 0) f x).1 (3, 0, j) = σ.1 (3, 0, j) := fun j => gup_1n f x (fun z => by have := congrArg (·.1) z; simp only at this; omega)
  simp only [h3]
  by_cases h21 : K.1 = 21
  · rw [if_pos h21, if_pos h21]
  · by_cases h22 : K.1 = 22
    · rw [if_neg h21, if_pos h22, if_neg h21, if_pos h22]
    · rw [if_neg h21, if_neg h22, if_neg h21, if_neg h22, gup_1n f x (fun z => by have := congrArg (·.1) z; simp only at this; omega)]
theorem gkey1 {S : gG × gG} {a : Nat} (h20 : ¬ a < 20) (h4 : a ≠ 24) (h5 : a ≠ 25) (h13 : a ≠ 33) (hN : S.2.2 (a - 20) 0 = 1) {K : gKey} (hK : glive S K) (e : K.1 = a) : K = (a, 0, 0) := by
  obtain ⟨x, y, z⟩ := K
  simp only at e
  subst e
  have h1 := ((glive_r (K := (x, y, z)) h20).mp hK).2
  unfold glive1 at h1
  rw [if_neg (by show ¬ x - 20 = 4; omega), if_neg (by show ¬ x - 20 = 5; omega)] at h1
  obtain ⟨h2, h3⟩ := h1
  have h2 : y = 0 := h2.resolve_left (by show ¬ x - 20 = 13; omega)
  subst h2
  have h3 : z < S.2.2 (x - 20) 0 := h3
  rw [hN] at h3
  rw [show z = 0 by omega]
theorem gref_R {C R R' : gG} (e : R'.2 = R.2) (K : gKey) : gref (C, R') K = gref (C, R) K := by
  by_cases h2 : K.1 < 20
  · rw [gref_c h2, gref_c h2]
  · rw [gref_r h2, gref_r h2, show ((C, R') : gG × gG).2.2 = R'.2 from rfl, e]
/-- the reference's own fields -/
theorem gR.put20 (hr : gR κ ad (C, R) T h) (hN : R.2 0 0 = 1) (hl : glive (C, R) (20, 0, 0)) {b f : Nat} {x : Int32} (hb : b < 3) {e' : va_E} (he : gentR κ ad R.2 (gup R (b, 0, 0) f x).1 (20, 0, 0) = e') : gR κ ad (C, gup R (b, 0, 0) f x) T (gq_hs h (ad (20, 0, 0)) e') := by
  refine hr.put (S' := (C, gup R (b, 0, 0) f x)) hl (fun K => Iff.rfl) (fun K hK hk => ?_) ?_ (fun K hK => ?_)
  · by_cases h2 : K.1 < 20
    · rw [gent_c h2, gent_c h2]
    · rw [gent_r h2, gent_r h2]
      exact gentR_20 hb h2 (fun h0 => hk (gkey1 (by decide) (by decide) (by decide) (by decide) hN hK h0)) ((glive_r h2).mp hK).1
  · rw [gent_r (by decide)]
    exact he
  · rw [gref_R (by rfl)]
    exact hr.2.2.1 K hK
theorem gentR_3 {N : Nat → Nat → Nat} {σ : gG} {i f : Nat} {x : Int32} {K : gKey} (h2 : ¬ K.1 < 20) (h23 : K.1 ≠ 23) (hk : (f = 0 ∧ K.1 ≠ 21) ∨ (f = 1 ∧ K.1 ≠ 22)) : gentR κ ad N (gup σ (3, 0, i) f x).1 K = gentR κ ad N σ.1 K := by
  unfold gentR
  have h0 : ∀ a j : Nat, a < 3 → (gup σ (3, 0, i) f x).1 (a, 0, j) = σ.1 (a, 0, j) := fun a j ha => gup_1n f x (fun z => by have := congrArg (·.1) z; simp only at this; omega)
  rw [h0 0 0 (by decide), h0 1 0 (by decide), h0 2 0 (by decide)]
  have hx : ∀ j f' : Nat, f' ≠ f → (gup σ (3, 0, i) f x).1 (3, 0, j) f' = σ.1 (3, 0, j) f' := fun j f' hf => by
    by_cases hj : ((3, 0, j) : gKey) = (3, 0, i)
    · rw [hj, gup_vf x hf]
    · rw [gup_vk x hj]
  by_cases h20 : K.1 = 20
  · rw [if_pos h20, if_pos h20]
  · rw [if_neg h20, if_neg h20]
    by_cases h21 : K.1 = 21
    · rw [if_pos h21, if_pos h21]
      rcases hk with ⟨-, hk⟩ | ⟨rfl, -⟩
      · exact absurd h21 hk
      · simp only [hx _ 0 (by decide)]
    · rw [if_neg h21, if_neg h21]
      by_cases h22 : K.1 = 22
      · rw [if_pos h22, if_pos h22]
        rcases hk with ⟨rfl, -⟩ | ⟨-, hk⟩
        · simp only [hx _ 1 (by decide)]
        · exact absurd h22 hk
      · rw [if_neg h22, if_neg h22, gup_1n f x (fun z => by have := congrArg (·.1) z; simp only at this; omega)]
theorem gR.put21 (hr : gR κ ad (C, R) T h) (hN : R.2 1 0 = 1) (hl : glive (C, R) (21, 0, 0)) {i : Nat} {x : Int32} {e' : va_E} (he : gentR κ ad R.2 (gup R (3, 0, i) 0 x).1 (21, 0, 0) = e') : gR κ ad (C, gup R (3, 0, i) 0 x) T (gq_hs h (ad (21, 0, 0)) e') := by
  refine hr.put (S' := (C, gup R (3, 0, i) 0 x)) hl (fun K => Iff.rfl) (fun K hK hk => ?_) ?_ (fun K hK => ?_)
  · by_cases h2 : K.1 < 20
    · rw [gent_c h2, gent_c h2]
    · rw [gent_r h2, gent_r h2]
      exact gentR_3 h2 ((glive_r h2).mp hK).1 (Or.inl ⟨rfl, fun h0 => hk (gkey1 (by decide) (by decide) (by decide) (by decide) hN hK h0)⟩)
  · rw [gent_r (by decide)]
    exact he
  · rw [gref_R (by rfl)]
    exact hr.2.2.1 K hK
theorem gR.put22 (hr : gR κ ad (C, R) T h) (hN : R.2 2 0 = 1) (hl : glive (C, R) (22, 0, 0)) {i : Nat} {x : Int32} {e' : va_E} (he : gentR κ ad R.2 (gup R (3, 0, i) 1 x).1 (22, 0, 0) = e') : gR κ ad (C, gup R (3, 0, i) 1 x) T (gq_hs h (ad (22, 0, 0)) e') := by
  refine hr.put (S' := (C, gup R (3, 0, i) 1 x)) hl (fun K => Iff.rfl) (fun K hK hk => ?_) ?_ (fun K hK => ?_)
  · by_cases h2 : K.1 < 20
    · rw [gent_c h2, gent_c h2]
    · rw [gent_r h2, gent_r h2]
      exact gentR_3 h2 ((glive_r h2).mp hK).1 (Or.inr ⟨rfl, fun h0 => hk (gkey1 (by decide) (by decide) (by decide) (by decide) hN hK h0)⟩)
  · rw [gent_r (by decide)]
    exact he
  · rw [gref_R (by rfl)]
    exact hr.2.2.1 K hK
/-- fields of the rows 0, 1, 2 that the reference does not show -/
theorem gR.ghost20 (hr : gR κ ad (C, R) T h) (b f : Nat) (x : Int32) (hb : b < 3) (he : ∀ (ad : gKey → Nat) (N : Nat → Nat → Nat), gentR κ ad N (gup R (b, 0, 0) f x).1 (20, 0, 0) = gentR κ ad N R.1 (20, 0, 0)) : gR κ ad (C, gup R (b, 0, 0) f x) T h := by
  refine hr.same (S' := (C, gup R (b, 0, 0) f x)) (fun K => Iff.rfl) (fun K hK => ?_) (fun K hK => ?_)
  · by_cases h2 : K.1 < 20
    · rw [gent_c h2, gent_c h2]
    · rw [gent_r h2, gent_r h2]
      by_cases h0 : K.1 = 20
      · have e1 : ∀ σ : gKey → Nat → Int32, gentR κ ad R.2 σ K = gentR κ ad R.2 σ (20, 0, 0) := fun σ => by unfold gentR; rw [if_pos h0, if_pos rfl]
        show gentR κ ad R.2 (gup R (b, 0, 0) f x).1 K = gentR κ ad R.2 R.1 K
        rw [e1, e1, he]
      · exact gentR_20 hb h2 h0 ((glive_r h2).mp hK).1
  · rw [gref_R (by rfl)]
    exact hr.2.2.1 K hK
-- ===== temporaries =====
theorem gR.new (hr : gR κ ad S T h) {q : Nat} (hq : h q = none) (e : va_E) : gR κ ad S ((q, e) :: T) (gq_hs h q e) := by
  have hne : ∀ a e0, h a = some e0 → a ≠ q := fun a e0 h1 h2 => by rw [h2, hq] at h1; cases h1
  refine ⟨fun K hK => ?_, hr.2.1, hr.2.2.1, fun t ht => ?_, fun t ht K hK => ?_, ?_⟩
  · rw [gq_hs_ne _ _ (hne _ _ (hr.1 K hK))]
    exact hr.1 K hK
  · rcases List.mem_cons.mp ht with rfl | ht
    · exact gq_hs_eq _ _ _
    · rw [gq_hs_ne _ _ (hne _ _ (hr.2.2.2.1 t ht))]
      exact hr.2.2.2.1 t ht
  · rcases List.mem_cons.mp ht with rfl | ht
    · exact hne _ _ (hr.1 K hK)
    · exact hr.2.2.2.2.1 t ht K hK
  · rw [List.map_cons, List.nodup_cons]
    refine ⟨fun hm => ?_, hr.2.2.2.2.2⟩
    obtain ⟨t, ht, e1⟩ := List.mem_map.mp hm
    exact hne _ _ (hr.2.2.2.1 t ht) e1
theorem gR.setT (hr : gR κ ad S T h) {j q : Nat} {e0 : va_E} (ht : T[j]? = some (q, e0)) (e : va_E) : gR κ ad S (T.set j (q, e)) (gq_hs h q e) := by
  have hm := List.mem_of_getElem? ht
  have hmap : (T.set j (q, e)).map (·.1) = T.map (·.1) := by
    rw [List.map_set]
    refine List.ext_getElem? fun i => ?_
    rw [List.getElem?_set]
    by_cases hj : j = i
    · subst hj
      have hjl := (List.getElem?_eq_some_iff.mp ht).1
      rw [if_pos rfl, List.getElem?_map, ht, if_pos (by rw [List.length_map]; exact hjl)]
      rfl
    · rw [if_neg hj]
  refine ⟨fun K hK => ?_, hr.2.1, hr.2.2.1, fun t h1 => ?_, fun t h1 K hK => ?_, ?_⟩
  · rw [gq_hs_ne _ _ (hr.2.2.2.2.1 _ hm K hK)]
    exact hr.1 K hK
  · obtain ⟨i, hi⟩ := List.getElem?_of_mem h1
    rw [List.getElem?_set] at hi
    by_cases hj : j = i
    · subst hj
      rw [if_pos rfl] at hi
      split at hi
      · cases hi
        exact gq_hs_eq _ _ _
      · cases hi
    · rw [if_neg hj] at hi
      have hne : t.1 ≠ q := by
        intro hq
        have hnd := hr.2.2.2.2.2
        have a1 : (T.map (·.1))[i]? = some q := by rw [List.getElem?_map, hi]; exact congrArg some hq
        have a2 : (T.map (·.1))[j]? = some q := by rw [List.getElem?_map, ht]; rfl
        have hil := (List.getElem?_eq_some_iff.mp a1).1
        exact hj ((List.getElem?_inj (i := j) (j := i) (List.getElem?_eq_some_iff.mp a2).1 hnd).mp (by rw [a1, a2]))
      rw [gq_hs_ne _ _ hne]
      exact hr.2.2.2.1 t (List.mem_of_getElem? hi)
  · have : t.1 ∈ (T.set j (q, e)).map (·.1) := List.mem_map.mpr ⟨t, h1, rfl⟩
    rw [hmap] at this
    obtain ⟨t', h2, h3⟩ := List.mem_map.mp this
    rw [← h3]
    exact hr.2.2.2.2.1 t' h2 K hK
  · rw [hmap]
    exact hr.2.2.2.2.2
theorem gR.drop (hr : gR κ ad S T h) {T' : List (Nat × va_E)} (hs : T'.Sublist T) : gR κ ad S T' h := ⟨hr.1, hr.2.1, hr.2.2.1, fun t ht => hr.2.2.2.1 t (hs.subset ht), fun t ht => hr.2.2.2.2.1 t (hs.subset ht), (hs.map (·.1)).nodup hr.2.2.2.2.2⟩
theorem gR.perm (hr : gR κ ad S T h) {T' : List (Nat × va_E)} (hs : T'.Perm T) : gR κ ad S T' h := ⟨hr.1, hr.2.1, hr.2.2.1, fun t ht => hr.2.2.2.1 t (hs.mem_iff.mp ht), fun t ht => hr.2.2.2.2.1 t (hs.mem_iff.mp ht), (hs.map (·.1)).nodup_iff.mpr hr.2.2.2.2.2⟩
end GR
