
section GK
variable {κ : gq_K} {ad ad' : gKey → Nat} {S S' : gG × gG} {C R : gG} {T : List (Nat × va_E)} {h h' : gq_H}
theorem glive_keyC {a g i : Nat} (ha : (a < 4 ∧ g = 0) ∨ (a = 14 ∧ g = 0) ∨ (a = 15 ∧ g = 0) ∨ (a = 4 ∧ g ≤ 7 ∧ C.2 (6 + g) i = 0)) (hi : C.2 a g = i) (K : gKey) : glive (ginc C a g, R) K ↔ (glive (C, R) K ∨ K = (a, g, i)) := by
  obtain ⟨x, b, c⟩ := K
  by_cases h2 : x < 20
  · rw [glive_c (K := (x, b, c)) h2, glive_c (K := (x, b, c)) h2]
    show glive1 (ginc C a g).2 x (b, c) ↔ (glive1 C.2 x (b, c) ∨ _)
    unfold glive1
    simp only [ginc_2, Prod.mk.injEq]
    by_cases h4 : x = 4
    · subst h4
      simp only [if_true]
      by_cases hx : 4 = a ∧ b = g
      · rw [if_pos hx]
        obtain ⟨rfl, rfl⟩ := hx
        constructor
        · rintro ⟨z1, z2⟩
          by_cases hc : c = i
          · exact Or.inr ⟨rfl, rfl, hc⟩
          · exact Or.inl ⟨z1, by omega⟩
        · rintro (z | z)
          · exact ⟨z.1, by omega⟩
          · exact ⟨by omega, by omega⟩
      · rw [if_neg hx]
        constructor
        · exact Or.inl
        · rintro (z | z)
          · exact z
          · exact absurd ⟨z.1, z.2.1⟩ hx
    · by_cases h5 : x = 5
      · subst h5
        simp only [if_true, show ¬ (5 : Nat) = 4 by decide, if_false]
        have n1 : ∀ y, y ≤ 7 → ¬ (6 + y = a ∧ c = g) := fun y hy => by omega
        by_cases hx : 4 = a ∧ b = g
        · rw [if_pos hx]
          obtain ⟨rfl, rfl⟩ := hx
          constructor
          · rintro ⟨z1, z2, z3⟩
            rw [if_neg (n1 b z1)] at z3
            refine Or.inl ⟨z1, ?_, z3⟩
            by_cases hc : c = i
            · rw [hc] at z3
              omega
            · omega
          · rintro (z | z)
            · rw [if_neg (n1 b z.1)]
              exact ⟨z.1, by omega, z.2.2⟩
            · omega
        · rw [if_neg hx]
          constructor
          · rintro ⟨z1, z2, z3⟩
            rw [if_neg (n1 b z1)] at z3
            exact Or.inl ⟨z1, z2, z3⟩
          · rintro (z | z)
            · rw [if_neg (n1 b z.1)]
              exact z
            · omega
      · simp only [h4, h5, if_false]
        by_cases hx : x = a ∧ b = g
        · rw [if_pos hx]
          obtain ⟨rfl, rfl⟩ := hx
          constructor
          · rintro ⟨z1, z2⟩
            by_cases hc : c = i
            · exact Or.inr ⟨rfl, rfl, hc⟩
            · exact Or.inl ⟨z1, by omega⟩
          · rintro (z | z)
            · exact ⟨z.1, by omega⟩
            · exact ⟨by omega, by omega⟩
        · rw [if_neg hx]
          constructor
          · exact Or.inl
          · rintro (z | z)
            · exact z
            · exact absurd ⟨z.1, z.2.1⟩ hx
  · rw [glive_r (K := (x, b, c)) h2, glive_r (K := (x, b, c)) h2]
    simp only [Prod.mk.injEq]
    constructor
    · exact Or.inl
    · rintro (z | z)
      · exact z
      · omega
theorem glive_keyR {a g i : Nat} (ha : (a < 3 ∧ g = 0) ∨ (a = 14 ∧ g = 0) ∨ (a = 15 ∧ g = 0) ∨ (a = 4 ∧ g ≤ 7 ∧ R.2 (6 + g) i = 0)) (hi : R.2 a g = i) (K : gKey) : glive (C, ginc R a g) K ↔ (glive (C, R) K ∨ K = (a + 20, g, i)) := by
  obtain ⟨x', b, c⟩ := K
  by_cases h2 : x' < 20
  · rw [glive_c (K := (x', b, c)) h2, glive_c (K := (x', b, c)) h2]
    simp only [Prod.mk.injEq]
    constructor
    · exact Or.inl
    · rintro (z | z)
      · exact z
      · omega
  · rw [glive_r (K := (x', b, c)) h2, glive_r (K := (x', b, c)) h2]
    obtain ⟨x, rfl⟩ : ∃ x, x' = x + 20 := ⟨x' - 20, by omega⟩
    show (x + 20 ≠ 23 ∧ glive1 (ginc R a g).2 (x + 20 - 20) (b, c)) ↔ ((x + 20 ≠ 23 ∧ glive1 R.2 (x + 20 - 20) (b, c)) ∨ _)
    rw [Nat.add_sub_cancel]
    unfold glive1
    simp only [ginc_2, Prod.mk.injEq]
    by_cases h4 : x = 4
    · subst h4
      simp only [if_true]
      by_cases hx : 4 = a ∧ b = g
      · rw [if_pos hx]
        obtain ⟨rfl, rfl⟩ := hx
        constructor
        · rintro ⟨z0, z1, z2⟩
          by_cases hc : c = i
          · exact Or.inr ⟨rfl, rfl, hc⟩
          · exact Or.inl ⟨z0, z1, by omega⟩
        · rintro (z | z)
          · exact ⟨z.1, z.2.1, by omega⟩
          · exact ⟨by omega, by omega, by omega⟩
      · rw [if_neg hx]
        constructor
        · exact Or.inl
        · rintro (z | z)
          · exact z
          · exact absurd ⟨by omega, z.2.1⟩ hx
    · by_cases h5 : x = 5
      · subst h5
        simp only [if_true, show ¬ (5 : Nat) = 4 by decide, if_false]
        have n1 : ∀ y, y ≤ 7 → ¬ (6 + y = a ∧ c = g) := fun y hy => by omega
        by_cases hx : 4 = a ∧ b = g
        · rw [if_pos hx]
          obtain ⟨rfl, rfl⟩ := hx
          constructor
          · rintro ⟨z0, z1, z2, z3⟩
            rw [if_neg (n1 b z1)] at z3
            refine Or.inl ⟨z0, z1, ?_, z3⟩
            by_cases hc : c = i
            · rw [hc] at z3
              omega
            · omega
          · rintro (z | z)
            · rw [if_neg (n1 b z.2.1)]
              exact ⟨z.1, z.2.1, by omega, z.2.2.2⟩
            · omega
        · rw [if_neg hx]
          constructor
          · rintro ⟨z0, z1, z2, z3⟩
            rw [if_neg (n1 b z1)] at z3
            exact Or.inl ⟨z0, z1, z2, z3⟩
          · rintro (z | z)
            · rw [if_neg (n1 b z.2.1)]
              exact z
            · omega
      · simp only [h4, h5, if_false]
        by_cases hx : x = a ∧ b = g
        · rw [if_pos hx]
          obtain ⟨rfl, rfl⟩ := hx
          constructor
          · rintro ⟨z0, z1, z2⟩
            by_cases hc : c = i
            · exact Or.inr ⟨rfl, rfl, hc⟩
            · exact Or.inl ⟨z0, z1, by omega⟩
          · rintro (z | z)
            · exact ⟨z.1, z.2.1, by omega⟩
            · exact ⟨by omega, by omega, by omega⟩
        · rw [if_neg hx]
          constructor
          · exact Or.inl
          · rintro (z | z)
            · exact z
            · exact absurd ⟨by omega, z.2.1⟩ hx
/-- one more key, the rest as it was -/
theorem gR.key {q : Nat} {e : va_E} {K0 : gKey} (hr : gR κ ad S ((q, e) :: T) h) (hlv : ∀ K, glive S' K ↔ (glive S K ∨ K = K0)) (hn : ¬ glive S K0) (hs : ∀ K, glive S K → gent κ (gset ad K0 q) S' K = gent κ ad S K ∧ gref S' K = gref S K) (he : gent κ (gset ad K0 q) S' K0 = e) (hc : ∀ K' ∈ gref S' K0, glive S K') : gR κ (gset ad K0 q) S' T h := by
  have had : ∀ K, glive S K → gset ad K0 q K = ad K := fun K hK => gset_ne _ _ (fun z => hn (z ▸ hK))
  have hqm : (q, e) ∈ (q, e) :: T := List.mem_cons_self
  have hnd := hr.2.2.2.2.2
  rw [List.map_cons, List.nodup_cons] at hnd
  refine ⟨fun K hK => ?_, fun K K' hK hK' hKK => ?_, fun K hK K' hK' => ?_, fun t ht => hr.2.2.2.1 t (List.mem_cons_of_mem _ ht), fun t ht K hK => ?_, hnd.2⟩
  · rcases (hlv K).mp hK with hK | rfl
    · rw [had K hK, hr.1 K hK, (hs K hK).1]
    · rw [gset_eq, hr.2.2.2.1 _ hqm, he]
  · rcases (hlv K).mp hK with hK | rfl <;> rcases (hlv K').mp hK' with hK' | rfl
    · rw [had K hK, had K' hK'] at hKK
      exact hr.2.1 _ _ hK hK' hKK
    · rw [had K hK, gset_eq] at hKK
      exact absurd hKK (hr.2.2.2.2.1 _ hqm _ hK)
    · rw [had K' hK', gset_eq] at hKK
      exact absurd hKK.symm (hr.2.2.2.2.1 _ hqm _ hK')
    · rfl
  · refine (hlv K').mpr (Or.inl ?_)
    rcases (hlv K).mp hK with hK | rfl
    · rw [(hs K hK).2] at hK'
      exact hr.2.2.1 K hK K' hK'
    · exact hc K' hK'
  · rcases (hlv K).mp hK with hK | rfl
    · rw [had K hK]
      exact hr.2.2.2.2.1 t (List.mem_cons_of_mem _ ht) K hK
    · rw [gset_eq]
      exact fun z => hnd.1 (List.mem_map.mpr ⟨t, ht, z.symm⟩)
theorem glive_l7 {K : gKey} (h2 : K.1 < 20) (h5 : K.1 = 4 ∨ K.1 = 5) (hK : glive S K) : K.2.1 ≤ 7 := by
  have h1 := (glive_c h2).mp hK
  unfold glive1 at h1
  rcases h5 with h5 | h5
  · rw [if_pos h5] at h1
    exact h1.1
  · rw [if_neg (by omega), if_pos h5] at h1
    exact h1.1
theorem glive_l7R {K : gKey} (h2 : ¬ K.1 < 20) (h5 : K.1 = 24 ∨ K.1 = 25) (hK : glive S K) : K.2.1 ≤ 7 := by
  have h1 := ((glive_r h2).mp hK).2
  unfold glive1 at h1
  rcases h5 with h5 | h5
  · rw [if_pos (by omega)] at h1
    exact h1.1
  · rw [if_neg (by omega), if_pos (by omega)] at h1
    exact h1.1
theorem gR.keyC {a g i q : Nat} {e : va_E} (hr : gR κ ad (C, R) ((q, e) :: T) h) (ha : (a < 4 ∧ g = 0) ∨ (a = 14 ∧ g = 0) ∨ (a = 15 ∧ g = 0) ∨ (a = 4 ∧ g ≤ 7 ∧ C.2 (6 + g) i = 0)) (hi : C.2 a g = i) (he : e = gentC κ ad C.2 (C.1 (a, g, i)) (a, g, i)) (hc : ∀ K' ∈ grefC C.2 (C.1 (a, g, i)) (a, g, i), glive (C, R) K') : gR κ (gset ad (a, g, i) q) (ginc C a g, R) T h := by
  have hlv := glive_keyC (R := R) ha hi
  have ha20 : a < 20 := by omega
  have hn : ¬ glive (C, R) (a, g, i) := fun hK => by
    have h1 := (glive_c (K := (a, g, i)) ha20).mp hK
    unfold glive1 at h1
    simp only at h1
    by_cases h4 : a = 4
    · rw [if_pos h4] at h1
      subst h4
      omega
    · rw [if_neg h4, if_neg (by omega)] at h1
      omega
  have hN : ∀ K : gKey, K.1 < 20 → glive (C, R) K → K.1 = 4 ∨ K.1 = 5 → (ginc C a g).2 (6 + K.2.1) K.2.2 = C.2 (6 + K.2.1) K.2.2 := fun K h2 hK h0 => if_neg (fun z => by
    have := glive_l7 h2 h0 hK
    omega)
  have hN0 : (a = 4 ∨ a = 5) → (ginc C a g).2 (6 + g) i = C.2 (6 + g) i := fun h0 => if_neg (fun z => by omega)
  refine hr.key hlv hn (fun K hK => ?_) ?_ ?_
  · have hrefs := hr.2.2.1 K hK
    by_cases h2 : K.1 < 20
    · rw [gref_c h2] at hrefs
      rw [gent_c h2, gent_c h2, gref_c h2, gref_c h2]
      have hNN := gentC_N (κ := κ) (ad := gset ad (a, g, i) q) (r := C.1 K) (hN K h2 hK)
      exact ⟨hNN.1.trans (gentC_ad fun K' hK' => gset_ne _ _ (fun z => hn (z ▸ hrefs K' hK'))), hNN.2⟩
    · rw [gref_r h2] at hrefs
      rw [gent_r h2, gent_r h2, gref_r h2, gref_r h2]
      exact ⟨gentR_ad fun K' hK' => gset_ne _ _ (fun z => hn (z ▸ hrefs K' hK')), rfl⟩
  · rw [gent_c (K := (a, g, i)) ha20, he]
    exact (gentC_N (N := C.2) (N' := (ginc C a g).2) (K := (a, g, i)) hN0).1.trans (gentC_ad fun K' hK' => gset_ne _ _ (fun z => hn (z ▸ hc K' hK')))
  · rw [gref_c (K := (a, g, i)) ha20]
    show ∀ K' ∈ grefC (ginc C a g).2 (C.1 (a, g, i)) (a, g, i), _
    rw [(gentC_N (κ := κ) (ad := ad) (r := C.1 (a, g, i)) (N := C.2) (N' := (ginc C a g).2) (K := (a, g, i)) hN0).2]
    exact hc
theorem gR.keyR {a g i q : Nat} {e : va_E} (hr : gR κ ad (C, R) ((q, e) :: T) h) (ha : (a < 3 ∧ g = 0) ∨ (a = 14 ∧ g = 0) ∨ (a = 15 ∧ g = 0) ∨ (a = 4 ∧ g ≤ 7 ∧ R.2 (6 + g) i = 0)) (hi : R.2 a g = i) (he : e = gentR κ ad R.2 R.1 (a + 20, g, i)) (hc : ∀ K' ∈ grefR R.2 (a + 20, g, i), glive (C, R) K') : gR κ (gset ad (a + 20, g, i) q) (C, ginc R a g) T h := by
  have hlv := glive_keyR (C := C) ha hi
  have ha20 : ¬ a + 20 < 20 := by omega
  have hn : ¬ glive (C, R) (a + 20, g, i) := fun hK => by
    have h1 := ((glive_r (K := (a + 20, g, i)) ha20).mp hK).2
    unfold glive1 at h1
    simp only [Nat.add_sub_cancel] at h1
    by_cases h4 : a = 4
    · rw [if_pos h4] at h1
      subst h4
      omega
    · rw [if_neg h4, if_neg (by omega)] at h1
      omega
  have hN : ∀ K : gKey, ¬ K.1 < 20 → glive (C, R) K → K.1 = 24 ∨ K.1 = 25 → (ginc R a g).2 (6 + K.2.1) K.2.2 = R.2 (6 + K.2.1) K.2.2 := fun K h2 hK h0 => if_neg (fun z => by
    have := glive_l7R h2 h0 hK
    omega)
  have hN0 : (a + 20 = 24 ∨ a + 20 = 25) → (ginc R a g).2 (6 + g) i = R.2 (6 + g) i := fun h0 => if_neg (fun z => by omega)
  refine hr.key hlv hn (fun K hK => ?_) ?_ ?_
  · have hrefs := hr.2.2.1 K hK
    by_cases h2 : K.1 < 20
    · rw [gref_c h2] at hrefs
      rw [gent_c h2, gent_c h2, gref_c h2, gref_c h2]
      exact ⟨gentC_ad fun K' hK' => gset_ne _ _ (fun z => hn (z ▸ hrefs K' hK')), rfl⟩
    · rw [gref_r h2] at hrefs
      rw [gent_r h2, gent_r h2, gref_r h2, gref_r h2]
      have hNN := gentR_N (κ := κ) (ad := gset ad (a + 20, g, i) q) (σ := R.1) (hN K h2 hK)
      exact ⟨hNN.1.trans (gentR_ad fun K' hK' => gset_ne _ _ (fun z => hn (z ▸ hrefs K' hK'))), hNN.2⟩
  · rw [gent_r (K := (a + 20, g, i)) ha20, he]
    exact (gentR_N (N := R.2) (N' := (ginc R a g).2) (K := (a + 20, g, i)) hN0).1.trans (gentR_ad fun K' hK' => gset_ne _ _ (fun z => hn (z ▸ hc K' hK')))
  · rw [gref_r (K := (a + 20, g, i)) ha20]
    show ∀ K' ∈ grefR (ginc R a g).2 (a + 20, g, i), _
    rw [(gentR_N (κ := κ) (ad := ad) (σ := R.1) (N := R.2) (N' := (ginc R a g).2) (K := (a + 20, g, i)) hN0).2]
    exact hc
/-- a row of ints that is written -/
theorem grow_upd {n f : Nat} {r : Nat → Int32} {x : Int32} (hf : f < n) : (Sum.inl (κ.2.1 0, n, .inl (upd (fun j => if j < n then r j else 0) f x)) : va_E) = grow κ n (grup r f x) := by
  refine congrArg (fun z => (Sum.inl (κ.2.1 0, n, .inl z) : va_E)) (funext fun j => ?_)
  show (if j = f then x else if j < n then r j else 0) = if j < n then (if j = f then x else r j) else 0
  by_cases h1 : j = f
  · rw [if_pos h1, if_pos h1, if_pos (h1 ▸ hf)]
  · rw [if_neg h1, if_neg h1]
end GK
-- ===== rows over gR =====
section ZR
variable {κ : gq_K} {M : gq_M} {Q : Option Value → gq_H → Prop} {E : String → gq_H → Prop} {f : gq_F} {lv lv' : List (Nat × Value)} {pc : Nat} {st : List Value} {k n : Nat} {ad : gKey → Nat} {S : gG × gG} {C R : gG} {T T' : List (Nat × va_E)}
theorem z_get (o : gq_Ok κ M f) {idx ci kf : Nat} {K : gKey} {fs : List Value} {v : Value} (fl : gq_FL M.1.cls idx ci kf) (d : decode M.2.1 pc = .ok (.getfield idx, 3)) (hl : glive S K) (he : gent κ ad S K = .inr (ci, fs)) (hv : fs[kf]? = some v) (yy : gq_Y κ M Q E f (gR κ ad S T) lv (pc + 3) (v :: st) k n) : gq_Y κ M Q E f (gR κ ad S T) lv pc (.ref (ad K) :: st) k n := y_get o fl d (fun h hr => by rw [hr.1 K hl, he]) hv yy
theorem z_getT (o : gq_Ok κ M f) {idx ci kf q : Nat} (j : Nat) {fs : List Value} {v : Value} (fl : gq_FL M.1.cls idx ci kf) (d : decode M.2.1 pc = .ok (.getfield idx, 3)) (ht : T[j]? = some (q, .inr (ci, fs))) (hv : fs[kf]? = some v) (yy : gq_Y κ M Q E f (gR κ ad S T) lv (pc + 3) (v :: st) k n) : gq_Y κ M Q E f (gR κ ad S T) lv pc (.ref q :: st) k n := y_get o fl d (fun h hr => hr.2.2.2.1 _ (List.mem_of_getElem? ht)) hv yy
theorem z_putC (o : gq_Ok κ M f) {idx ci kf fd : Nat} {K : gKey} {ty : FieldType} {fs fs' : List Value} {v : Value} {x : Int32} (fl : gq_FW M.1.cls idx ci kf ty) (d : decode M.2.1 pc = .ok (.putfield idx, 3)) (hl : glive (C, R) K) (h20 : K.1 < 20) (he : gentC κ ad C.2 (C.1 K) K = .inr (ci, fs)) (hlen : kf < fs.length) (hn : narrow ty v = v) (hf : fits ty v = true) (hs : fs.set kf v = fs') (he' : gentC κ ad C.2 (grup (C.1 K) fd x) K = .inr (ci, fs')) (hc : ∀ h, gR κ ad (C, R) T h → ∀ K' ∈ grefC C.2 (grup (C.1 K) fd x) K, glive (C, R) K') (yy : gq_Y κ M Q E f (gR κ ad (gup C K fd x, R) T) lv (pc + 3) st k n) : gq_Y κ M Q E f (gR κ ad (C, R) T) lv pc (v :: .ref (ad K) :: st) k n := by
  subst hs
  exact y_put o fl d (fun h hr => by rw [hr.1 K hl, gent_c h20, he]) hlen hn hf (fun h hr => hr.putC hl h20 he' (hc h hr)) yy
theorem z_refC {K : gKey} {fd : Nat} {x : Int32} (h20 : K.1 < 20) (hl : glive (C, R) K) (h : grefC C.2 (grup (C.1 K) fd x) K = grefC C.2 (C.1 K) K) : ∀ h, gR κ ad (C, R) T h → ∀ K' ∈ grefC C.2 (grup (C.1 K) fd x) K, glive (C, R) K' := fun g hr => by
  rw [h]
  have := hr.2.2.1 K hl
  rw [gref_c h20] at this
  exact this
theorem z_putR (o : gq_Ok κ M f) {idx ci kf fd : Nat} {K : gKey} {ty : FieldType} {fs fs' : List Value} {v : Value} {x : Int32} (B : gKey) (fl : gq_FW M.1.cls idx ci kf ty) (d : decode M.2.1 pc = .ok (.putfield idx, 3)) (hl : glive (C, R) K) (h20 : 24 ≤ K.1) (hB : B = (K.1 - 20, K.2)) (he : gentR1 κ ad R.2 (R.1 B) K = .inr (ci, fs)) (hlen : kf < fs.length) (hn : narrow ty v = v) (hf : fits ty v = true) (hs : fs.set kf v = fs') (he' : gentR1 κ ad R.2 (grup (R.1 B) fd x) K = .inr (ci, fs')) (yy : gq_Y κ M Q E f (gR κ ad (C, gup R B fd x) T) lv (pc + 3) st k n) : gq_Y κ M Q E f (gR κ ad (C, R) T) lv pc (v :: .ref (ad K) :: st) k n := by
  subst hs hB
  refine y_put o fl d (fun h hr => ?_) hlen hn hf (fun h hr => hr.putR hl h20 he') yy
  rw [hr.1 K hl, gent_r (by omega)]
  unfold gentR
  rw [if_neg (by omega), if_neg (by omega), if_neg (by omega), he]
theorem z_put20 (o : gq_Ok κ M f) {idx ci kf b fd : Nat} {ty : FieldType} {fs fs' : List Value} {v : Value} {x : Int32} (fl : gq_FW M.1.cls idx ci kf ty) (d : decode M.2.1 pc = .ok (.putfield idx, 3)) (hN : R.2 0 0 = 1) (hl : glive (C, R) (20, 0, 0)) (hb : b < 3) (he : gentR κ ad R.2 R.1 (20, 0, 0) = .inr (ci, fs)) (hlen : kf < fs.length) (hn : narrow ty v = v) (hf : fits ty v = true) (hs : fs.set kf v = fs') (he' : gentR κ ad R.2 (gup R (b, 0, 0) fd x).1 (20, 0, 0) = .inr (ci, fs')) (yy : gq_Y κ M Q E f (gR κ ad (C, gup R (b, 0, 0) fd x) T) lv (pc + 3) st k n) : gq_Y κ M Q E f (gR κ ad (C, R) T) lv pc (v :: .ref (ad (20, 0, 0)) :: st) k n := by
  subst hs
  exact y_put o fl d (fun h hr => by rw [hr.1 _ hl, gent_r (by decide), he]) hlen hn hf (fun h hr => hr.put20 hN hl hb he') yy
theorem z_putT (o : gq_Ok κ M f) {idx ci kf q : Nat} (j : Nat) {ty : FieldType} {fs fs' : List Value} {v : Value} (fl : gq_FW M.1.cls idx ci kf ty) (d : decode M.2.1 pc = .ok (.putfield idx, 3)) (ht : T[j]? = some (q, .inr (ci, fs))) (hlen : kf < fs.length) (hn : narrow ty v = v) (hf : fits ty v = true) (hs : fs.set kf v = fs') (hT : T.set j (q, .inr (ci, fs')) = T') (yy : gq_Y κ M Q E f (gR κ ad S T') lv (pc + 3) st k n) : gq_Y κ M Q E f (gR κ ad S T) lv pc (v :: .ref q :: st) k n := by
  subst hs hT
  exact y_put o fl d (fun h hr => hr.2.2.2.1 _ (List.mem_of_getElem? ht)) hlen hn hf (fun h hr => hr.setT ht _) yy
theorem z_putTF (o : gq_Ok κ M f) {idx ci kf q : Nat} (j : Nat) {ty : FieldType} {fs fs' : List Value} {v : Value} (fl : gq_FF M.1.cls idx ci kf ty) (hi : M.1.name = "<init>") (d : decode M.2.1 pc = .ok (.putfield idx, 3)) (ht : T[j]? = some (q, .inr (ci, fs))) (hlen : kf < fs.length) (hn : narrow ty v = v) (hf : fits ty v = true) (hs : fs.set kf v = fs') (hT : T.set j (q, .inr (ci, fs')) = T') (yy : gq_Y κ M Q E f (gR κ ad S T') lv (pc + 3) st k n) : gq_Y κ M Q E f (gR κ ad S T) lv pc (v :: .ref q :: st) k n := by
  subst hs hT
  exact y_putF o fl hi d (fun h hr => hr.2.2.2.1 _ (List.mem_of_getElem? ht)) hlen hn hf (fun h hr => hr.setT ht _) yy
theorem z_new (o : gq_Ok κ M f) {idx ci N : Nat} {fs : List Value} (nw : gq_NW M.1.cls idx ci N fs) (d : decode M.2.1 pc = .ok (.new idx, 3)) (hk : k + 1 ≤ M.2.2.2.2.1.cells) (hn : n + N ≤ M.2.2.2.2.1.slots) (yy : ∀ q, gq_Y κ M Q E f (gR κ ad S ((q, .inr (ci, fs)) :: T)) lv (pc + 3) (.ref q :: st) (k + 1) (n + N)) : gq_Y κ M Q E f (gR κ ad S T) lv pc st k n :=
  y_new o nw d hk hn (P' := fun q => gR κ ad S ((q, .inr (ci, fs)) :: T)) (fun h q hr hq => hr.new hq _) yy
/-- a row of ints that is made -/
theorem z_newI (o : gq_Ok κ M f) {N : Nat} {i : Int32} (d : decode M.2.1 pc = .ok (.newarray .int, 2)) (hi : ¬ i < 0) (hN : i.toNatClampNeg = N) (hby : N * 4 ≤ 536870912) (hk : k + 1 ≤ M.2.2.2.2.1.cells) (hn : n + N ≤ M.2.2.2.2.1.slots) (yy : ∀ q, gq_Y κ M Q E f (gR κ ad S ((q, .inl (κ.2.1 0, N, .inl fun _ => 0)) :: T)) lv (pc + 2) (.ref q :: st) (k + 1) (n + N)) : gq_Y κ M Q E f (gR κ ad S T) lv pc (.int i :: st) k n :=
  y_newarr o (t := 0) (ty := .int) qw_214 rfl rfl (fun C h => by cases h) d (fun cA => rfl) hi hN hby hk hn (P' := fun q => gR κ ad S ((q, .inl (κ.2.1 0, N, .inl fun _ => 0)) :: T)) (fun h q hr hq => hr.new hq _) yy
theorem z_newZ (o : gq_Ok κ M f) {N : Nat} {i : Int32} (d : decode M.2.1 pc = .ok (.newarray .boolean, 2)) (hi : ¬ i < 0) (hN : i.toNatClampNeg = N) (hby : N * 1 ≤ 536870912) (hk : k + 1 ≤ M.2.2.2.2.1.cells) (hn : n + N ≤ M.2.2.2.2.1.slots) (yy : ∀ q, gq_Y κ M Q E f (gR κ ad S ((q, .inl (κ.2.1 3, N, .inl fun _ => 0)) :: T)) lv (pc + 2) (.ref q :: st) (k + 1) (n + N)) : gq_Y κ M Q E f (gR κ ad S T) lv pc (.int i :: st) k n :=
  y_newarr o (t := 3) (ty := .boolean) qw_1257 rfl rfl (fun C h => by cases h) d (fun cA => rfl) hi hN hby hk hn (P' := fun q => gR κ ad S ((q, .inl (κ.2.1 3, N, .inl fun _ => 0)) :: T)) (fun h q hr hq => hr.new hq _) yy
theorem z_iastT (o : gq_Ok κ M f) {N q : Nat} (j : Nat) {g : Nat → Int32} {i x : Int32} (d : decode M.2.1 pc = .ok (.iastore, 1)) (ht : T[j]? = some (q, .inl (κ.2.1 0, N, .inl g))) (hin : vp_in i N) (hT : T.set j (q, .inl (κ.2.1 0, N, .inl (upd g i.toNatClampNeg x))) = T') (yy : gq_Y κ M Q E f (gR κ ad S T') lv (pc + 1) st k n) : gq_Y κ M Q E f (gR κ ad S T) lv pc (.int x :: .int i :: .ref q :: st) k n := by
  subst hT
  exact y_iast o d (fun h hr => hr.2.2.2.1 _ (List.mem_of_getElem? ht)) hin (fun h hr => hr.setT ht _) yy
theorem z_zastT (o : gq_Ok κ M f) {N q : Nat} (j : Nat) {g : Nat → Int32} {i x : Int32} (d : decode M.2.1 pc = .ok (.bastore, 1)) (ht : T[j]? = some (q, .inl (κ.2.1 3, N, .inl g))) (hin : vp_in i N) (hx : vp_nar .boolean x = x) (hT : T.set j (q, .inl (κ.2.1 3, N, .inl (upd g i.toNatClampNeg x))) = T') (yy : gq_Y κ M Q E f (gR κ ad S T') lv (pc + 1) st k n) : gq_Y κ M Q E f (gR κ ad S T) lv pc (.int x :: .int i :: .ref q :: st) k n := by
  subst hT
  exact y_zast o d (fun h hr => hr.2.2.2.1 _ (List.mem_of_getElem? ht)) hin (fun h hr => by rw [hx]; exact hr.setT ht _) yy
theorem z_lastT (o : gq_Ok κ M f) {N q : Nat} (j : Nat) {g : Nat → Int64} {i : Int32} {x : Int64} (d : decode M.2.1 pc = .ok (.lastore, 1)) (ht : T[j]? = some (q, .inl (κ.2.1 1, N, .inr (.inl g)))) (hin : vp_in i N) (hT : T.set j (q, .inl (κ.2.1 1, N, .inr (.inl (vp_updL g i.toNatClampNeg x)))) = T') (yy : gq_Y κ M Q E f (gR κ ad S T') lv (pc + 1) st k n) : gq_Y κ M Q E f (gR κ ad S T) lv pc (.long x :: .int i :: .ref q :: st) k n := by
  subst hT
  exact y_last o d (fun h hr => hr.2.2.2.1 _ (List.mem_of_getElem? ht)) hin (fun h hr => hr.setT ht _) yy
theorem z_dastT (o : gq_Ok κ M f) {N q : Nat} (j : Nat) {g : Nat → UInt64} {i : Int32} {x : UInt64} (d : decode M.2.1 pc = .ok (.dastore, 1)) (ht : T[j]? = some (q, .inl (κ.2.1 2, N, .inr (.inr (.inr (.inl g)))))) (hin : vp_in i N) (hT : T.set j (q, .inl (κ.2.1 2, N, .inr (.inr (.inr (.inl (vf_upd g i.toNatClampNeg x)))))) = T') (yy : gq_Y κ M Q E f (gR κ ad S T') lv (pc + 1) st k n) : gq_Y κ M Q E f (gR κ ad S T) lv pc (.double x :: .int i :: .ref q :: st) k n := by
  subst hT
  exact y_dast o d (fun h hr => hr.2.2.2.1 _ (List.mem_of_getElem? ht)) hin (fun h hr => hr.setT ht _) yy
theorem z_laldT (o : gq_Ok κ M f) {N q : Nat} (j : Nat) {g : Nat → Int64} {i : Int32} {v : Int64} (d : decode M.2.1 pc = .ok (.laload, 1)) (ht : T[j]? = some (q, .inl (κ.2.1 1, N, .inr (.inl g)))) (hin : vp_in i N) (hv : g i.toNatClampNeg = v) (yy : gq_Y κ M Q E f (gR κ ad S T) lv (pc + 1) (.long v :: st) k n) : gq_Y κ M Q E f (gR κ ad S T) lv pc (.int i :: .ref q :: st) k n := y_lald o d (fun h hr => hr.2.2.2.1 _ (List.mem_of_getElem? ht)) hin hv yy
theorem z_daldT (o : gq_Ok κ M f) {N q : Nat} (j : Nat) {g : Nat → UInt64} {i : Int32} {v : UInt64} (d : decode M.2.1 pc = .ok (.daload, 1)) (ht : T[j]? = some (q, .inl (κ.2.1 2, N, .inr (.inr (.inr (.inl g)))))) (hin : vp_in i N) (hv : g i.toNatClampNeg = v) (yy : gq_Y κ M Q E f (gR κ ad S T) lv (pc + 1) (.double v :: st) k n) : gq_Y κ M Q E f (gR κ ad S T) lv pc (.int i :: .ref q :: st) k n := y_dald o d (fun h hr => hr.2.2.2.1 _ (List.mem_of_getElem? ht)) hin hv yy
theorem z_ialdT (o : gq_Ok κ M f) {N q : Nat} (j : Nat) {g : Nat → Int32} {i : Int32} {v : Int32} (d : decode M.2.1 pc = .ok (.iaload, 1)) (ht : T[j]? = some (q, .inl (κ.2.1 0, N, .inl g))) (hin : vp_in i N) (hv : g i.toNatClampNeg = v) (yy : gq_Y κ M Q E f (gR κ ad S T) lv (pc + 1) (.int v :: st) k n) : gq_Y κ M Q E f (gR κ ad S T) lv pc (.int i :: .ref q :: st) k n := y_iald o d (fun h hr => hr.2.2.2.1 _ (List.mem_of_getElem? ht)) hin hv yy
theorem z_alenT (o : gq_Ok κ M f) {N q : Nat} (j : Nat) {g : Nat → Int32} {v : Int32} (d : decode M.2.1 pc = .ok (.arraylength, 1)) (ht : T[j]? = some (q, .inl (κ.2.1 0, N, .inl g))) (hv : Int32.ofNat N = v) (yy : gq_Y κ M Q E f (gR κ ad S T) lv (pc + 1) (.int v :: st) k n) : gq_Y κ M Q E f (gR κ ad S T) lv pc (.ref q :: st) k n := y_alen o (t := 0) d (fun h hr => hr.2.2.2.1 _ (List.mem_of_getElem? ht)) rfl hv yy
/-- a live row of ints -/
theorem z_iald (o : gq_Ok κ M f) {N : Nat} {K : gKey} {g : Nat → Int32} {i v : Int32} (d : decode M.2.1 pc = .ok (.iaload, 1)) (hl : glive S K) (he : gent κ ad S K = .inl (κ.2.1 0, N, .inl g)) (hin : vp_in i N) (hv : g i.toNatClampNeg = v) (yy : gq_Y κ M Q E f (gR κ ad S T) lv (pc + 1) (.int v :: st) k n) : gq_Y κ M Q E f (gR κ ad S T) lv pc (.int i :: .ref (ad K) :: st) k n := y_iald o d (fun h hr => by rw [hr.1 K hl, he]) hin hv yy
theorem z_zald (o : gq_Ok κ M f) {N : Nat} {K : gKey} {g : Nat → Int32} {i v : Int32} (d : decode M.2.1 pc = .ok (.baload, 1)) (hl : glive S K) (he : gent κ ad S K = .inl (κ.2.1 3, N, .inl g)) (hin : vp_in i N) (hv : g i.toNatClampNeg = v) (yy : gq_Y κ M Q E f (gR κ ad S T) lv (pc + 1) (.int v :: st) k n) : gq_Y κ M Q E f (gR κ ad S T) lv pc (.int i :: .ref (ad K) :: st) k n := y_zald o d (fun h hr => by rw [hr.1 K hl, he]) hin hv yy
theorem z_alen (o : gq_Ok κ M f) {N : Nat} {K : gKey} {g : Nat → Int32} {v : Int32} (d : decode M.2.1 pc = .ok (.arraylength, 1)) (hl : glive S K) (he : gent κ ad S K = .inl (κ.2.1 0, N, .inl g)) (hv : Int32.ofNat N = v) (yy : gq_Y κ M Q E f (gR κ ad S T) lv (pc + 1) (.int v :: st) k n) : gq_Y κ M Q E f (gR κ ad S T) lv pc (.ref (ad K) :: st) k n := y_alen o (t := 0) d (fun h hr => by rw [hr.1 K hl, he]) rfl hv yy
theorem z_iastC (o : gq_Ok κ M f) {N : Nat} {K : gKey} {i x : Int32} (d : decode M.2.1 pc = .ok (.iastore, 1)) (hl : glive (C, R) K) (h20 : K.1 < 20) (he : ∀ r, gentC κ ad C.2 r K = grow κ N r) (hg : ∀ r, grefC C.2 r K = []) (hin : vp_in i N) (yy : gq_Y κ M Q E f (gR κ ad (gup C K i.toNatClampNeg x, R) T) lv (pc + 1) st k n) : gq_Y κ M Q E f (gR κ ad (C, R) T) lv pc (.int x :: .int i :: .ref (ad K) :: st) k n := by
  refine y_iast o (N := N) d (fun h hr => by rw [hr.1 K hl, gent_c h20, he]) hin (fun h hr => ?_) yy
  rw [grow_upd (by unfold vp_in at hin; omega)]
  exact hr.putC hl h20 (he _) (by rw [hg]; intro K' hK'; cases hK')
theorem z_iastR (o : gq_Ok κ M f) {N : Nat} {K : gKey} {i x : Int32} (B : gKey) (d : decode M.2.1 pc = .ok (.iastore, 1)) (hl : glive (C, R) K) (h20 : 24 ≤ K.1) (hB : B = (K.1 - 20, K.2)) (he : ∀ r, gentR1 κ ad R.2 r K = grow κ N r) (hin : vp_in i N) (yy : gq_Y κ M Q E f (gR κ ad (C, gup R B i.toNatClampNeg x) T) lv (pc + 1) st k n) : gq_Y κ M Q E f (gR κ ad (C, R) T) lv pc (.int x :: .int i :: .ref (ad K) :: st) k n := by
  subst hB
  refine y_iast o (N := N) (g := fun j => if j < N then R.1 (K.1 - 20, K.2) j else 0) d (fun h hr => ?_) hin (fun h hr => ?_) yy
  · rw [hr.1 K hl, gent_r (by omega)]
    unfold gentR
    rw [if_neg (by omega), if_neg (by omega), if_neg (by omega), he]
  · rw [grow_upd (by unfold vp_in at hin; omega)]
    exact hr.putR hl h20 (he _)
theorem z_zast21 (o : gq_Ok κ M f) {i x : Int32} (d : decode M.2.1 pc = .ok (.bastore, 1)) (hN : R.2 1 0 = 1) (hl : glive (C, R) (21, 0, 0)) (hin : vp_in i 4) (hx : vp_nar .boolean x = x) (yy : gq_Y κ M Q E f (gR κ ad (C, gup R (3, 0, i.toNatClampNeg) 0 x) T) lv (pc + 1) st k n) : gq_Y κ M Q E f (gR κ ad (C, R) T) lv pc (.int x :: .int i :: .ref (ad (21, 0, 0)) :: st) k n := by
  refine y_zast o (N := 4) (g := fun j => if j < 4 then R.1 (3, 0, j) 0 else 0) d (fun h hr => ?_) hin (fun h hr => ?_) yy
  · rw [hr.1 _ hl]; rfl
  · rw [hx]
    refine hr.put21 hN hl ?_
    refine congrArg (fun z => (Sum.inl (κ.2.1 3, 4, .inl z) : va_E)) (funext fun j => ?_)
    show (if j < 4 then (gup R (3, 0, i.toNatClampNeg) 0 x).1 (3, 0, j) 0 else 0) = if j = i.toNatClampNeg then x else if j < 4 then R.1 (3, 0, j) 0 else 0
    have h4 : i.toNatClampNeg < 4 := by unfold vp_in at hin; omega
    by_cases h1 : j = i.toNatClampNeg
    · rw [if_pos h1, if_pos (h1 ▸ h4), h1, gup_v]
    · rw [if_neg h1, gup_vk _ (fun z => h1 (by simpa using z))]
theorem z_iast22 (o : gq_Ok κ M f) {i x : Int32} (d : decode M.2.1 pc = .ok (.iastore, 1)) (hN : R.2 2 0 = 1) (hl : glive (C, R) (22, 0, 0)) (hin : vp_in i 4) (yy : gq_Y κ M Q E f (gR κ ad (C, gup R (3, 0, i.toNatClampNeg) 1 x) T) lv (pc + 1) st k n) : gq_Y κ M Q E f (gR κ ad (C, R) T) lv pc (.int x :: .int i :: .ref (ad (22, 0, 0)) :: st) k n := by
  refine y_iast o (N := 4) (g := fun j => if j < 4 then R.1 (3, 0, j) 1 else 0) d (fun h hr => ?_) hin (fun h hr => ?_) yy
  · rw [hr.1 _ hl]; rfl
  · refine hr.put22 hN hl ?_
    refine congrArg (fun z => (Sum.inl (κ.2.1 0, 4, .inl z) : va_E)) (funext fun j => ?_)
    show (if j < 4 then (gup R (3, 0, i.toNatClampNeg) 1 x).1 (3, 0, j) 1 else 0) = if j = i.toNatClampNeg then x else if j < 4 then R.1 (3, 0, j) 1 else 0
    have h4 : i.toNatClampNeg < 4 := by unfold vp_in at hin; omega
    by_cases h1 : j = i.toNatClampNeg
    · rw [if_pos h1, if_pos (h1 ▸ h4), h1, gup_v]
    · rw [if_neg h1, gup_vk _ (fun z => h1 (by simpa using z))]
/-- a call's receiver out of gR -/
theorem z_rc {K : gKey} {ci : Nat} {q : vw_C} {fs : List Value} (hc : vwCl[ci]? = some q) (hl : glive S K) (he : gent κ ad S K = .inr (ci, fs)) : gq_rv κ (gR κ ad S T) (ad K) q.1 := gq_rc hc (fun h hr => ⟨fs, by rw [hr.1 K hl, he]⟩)
theorem z_rcT {q0 : Nat} (j : Nat) {ci : Nat} {q : vw_C} {fs : List Value} (hc : vwCl[ci]? = some q) (ht : T[j]? = some (q0, .inr (ci, fs))) : gq_rv κ (gR κ ad S T) q0 q.1 := gq_rc hc (fun h hr => ⟨fs, hr.2.2.2.1 _ (List.mem_of_getElem? ht)⟩)
theorem z_cast (o : gq_Ok κ M f) {idx ci : Nat} {K : gKey} {fs : List Value} {q : vw_C} (hc : vwCl[ci]? = some q) (hl9 : Cond.classLink M.1.cls idx q.1 ∈ gq_ws) (d : decode M.2.1 pc = .ok (.checkcast idx, 3)) (hl : glive S K) (he : gent κ ad S K = .inr (ci, fs)) (yy : gq_Y κ M Q E f (gR κ ad S T) lv (pc + 3) (.ref (ad K) :: st) k n) : gq_Y κ M Q E f (gR κ ad S T) lv pc (.ref (ad K) :: st) k n := y_cast o hc hl9 d (fun h hr => by rw [hr.1 K hl, he]) yy
end ZR
