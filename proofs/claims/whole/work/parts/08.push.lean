
def gset (ad : gKey → Nat) (K : gKey) (q : Nat) : gKey → Nat := fun K' => if K' = K then q else ad K'
theorem gset_eq (ad : gKey → Nat) (K : gKey) (q : Nat) : gset ad K q K = q := if_pos rfl
theorem gset_ne (ad : gKey → Nat) {K K' : gKey} (q : Nat) (h : K' ≠ K) : gset ad K q K' = ad K' := if_neg h
def ginc (C : gG) (a g : Nat) : gG := (C.1, fun a' b' => if a' = a ∧ b' = g then C.2 a' b' + 1 else C.2 a' b')
theorem ginc_2 (C : gG) (a g a' b' : Nat) : (ginc C a g).2 a' b' = if a' = a ∧ b' = g then C.2 a' b' + 1 else C.2 a' b' := rfl
theorem gentC_N {κ : gq_K} {ad : gKey → Nat} {N N' : Nat → Nat → Nat} {r : Nat → Int32} {K : gKey} (h : K.1 = 4 ∨ K.1 = 5 → N' (6 + K.2.1) K.2.2 = N (6 + K.2.1) K.2.2) : gentC κ ad N' r K = gentC κ ad N r K ∧ grefC N' r K = grefC N r K := by
  obtain ⟨a, l, g⟩ := K
  by_cases h4 : a = 4
  · subst h4
    have h := h (Or.inl rfl)
    simp only at h
    constructor
    · show ghdr κ (N' (6 + l) g) (ad (5, l, g)) = ghdr κ (N (6 + l) g) (ad (5, l, g))
      rw [h]
    · show (if N' (6 + l) g = 0 then [] else [(5, l, g)]) = if N (6 + l) g = 0 then [] else [(5, l, g)]
      rw [h]
  · by_cases h5 : a = 5
    · subst h5
      have h := h (Or.inr rfl)
      simp only at h
      constructor
      · show gbak κ (N' (6 + l) g) _ = gbak κ (N (6 + l) g) _
        rw [h]
      · show (List.range (N' (6 + l) g)).map (fun j => ((6 + l, g, j) : gKey)) = (List.range (N (6 + l) g)).map (fun j => (6 + l, g, j))
        rw [h]
    · constructor
      · unfold gentC
        split <;> first | rfl | exact absurd rfl h4 | exact absurd rfl h5 | simp_all
      · unfold grefC
        split <;> first | rfl | exact absurd rfl h4 | exact absurd rfl h5 | simp_all
theorem gentR_N {κ : gq_K} {ad : gKey → Nat} {N N' : Nat → Nat → Nat} {σ : gKey → Nat → Int32} {K : gKey} (h : K.1 = 24 ∨ K.1 = 25 → N' (6 + K.2.1) K.2.2 = N (6 + K.2.1) K.2.2) : gentR κ ad N' σ K = gentR κ ad N σ K ∧ grefR N' K = grefR N K := by
  obtain ⟨a, l, g⟩ := K
  by_cases h4 : a = 24
  · subst h4
    have h := h (Or.inl rfl)
    simp only at h
    constructor
    · show ghdr κ (N' (6 + l) g) (ad (25, l, g)) = ghdr κ (N (6 + l) g) (ad (25, l, g))
      rw [h]
    · show (if N' (6 + l) g = 0 then [] else [(25, l, g)]) = if N (6 + l) g = 0 then [] else [(25, l, g)]
      rw [h]
  · by_cases h5 : a = 25
    · subst h5
      have h := h (Or.inr rfl)
      simp only at h
      constructor
      · show gbak κ (N' (6 + l) g) _ = gbak κ (N (6 + l) g) _
        rw [h]
      · show (List.range (N' (6 + l) g)).map (fun j => ((26 + l, g, j) : gKey)) = (List.range (N (6 + l) g)).map (fun j => (26 + l, g, j))
        rw [h]
    · constructor
      · unfold gentR gentR1
        refine ite_congr rfl (fun _ => rfl) (fun _ => ite_congr rfl (fun _ => rfl) (fun _ => ite_congr rfl (fun _ => rfl) (fun _ => ?_)))
        split <;> first | rfl | exact absurd rfl h4 | exact absurd rfl h5 | simp_all
      · unfold grefR
        split <;> first | rfl | exact absurd rfl h4 | exact absurd rfl h5 | simp_all
section GP
variable {κ : gq_K} {ad ad' : gKey → Nat} {S S' : gG × gG} {C R : gG} {T : List (Nat × va_E)} {h h' : gq_H}
theorem glive1_mono {N N' : Nat → Nat → Nat} (hN : ∀ a b, N a b ≤ N' a b) {a : Nat} {L : Nat × Nat} (hl : glive1 N a L) : glive1 N' a L := by
  unfold glive1 at hl ⊢
  by_cases h4 : a = 4
  · rw [if_pos h4] at hl ⊢
    exact ⟨hl.1, Nat.lt_of_lt_of_le hl.2 (hN _ _)⟩
  · by_cases h5 : a = 5
    · rw [if_neg h4, if_pos h5] at hl ⊢
      exact ⟨hl.1, Nat.lt_of_lt_of_le hl.2.1 (hN _ _), Nat.lt_of_lt_of_le hl.2.2 (hN _ _)⟩
    · rw [if_neg h4, if_neg h5] at hl ⊢
      exact ⟨hl.1, Nat.lt_of_lt_of_le hl.2 (hN _ _)⟩

/-- C: a new element of a list -/
theorem glive_pushC {l g n : Nat} {row : Nat → Int32} (hh : glive (C, R) (4, l, g)) (hg : l = 7 ∨ g = 0) (hn : C.2 (6 + l) g = n) (K : gKey) : glive (gnew C (6 + l, g, n) row, R) K ↔ (glive (C, R) K ∨ K = (6 + l, g, n) ∨ K = (5, l, g)) := by
  have hl7 : l ≤ 7 ∧ g < C.2 4 l := by
    have h1 := (glive_c (S := (C, R)) (K := (4, l, g)) (show 4 < 20 by decide)).mp hh
    unfold glive1 at h1
    rw [if_pos rfl] at h1
    exact h1
  obtain ⟨a, b, c⟩ := K
  by_cases h2 : a < 20
  · rw [glive_c (K := (a, b, c)) h2, glive_c (K := (a, b, c)) h2]
    show glive1 (gnew C (6 + l, g, n) row).2 a (b, c) ↔ (glive1 C.2 a (b, c) ∨ _)
    unfold glive1
    simp only [gnew_2, Prod.mk.injEq]
    by_cases h4 : a = 4
    · subst h4
      simp only [if_true]
      rw [if_neg (by omega)]
      constructor
      · exact Or.inl
      · rintro (z | z | z)
        · exact z
        · omega
        · omega
    · by_cases h5 : a = 5
      · subst h5
        simp only [if_true, show ¬ (5 : Nat) = 4 by decide, if_false]
        rw [if_neg (by omega)]
        by_cases hx : 6 + b = 6 + l ∧ c = g
        · rw [if_pos hx]
          obtain ⟨hx1, rfl⟩ := hx
          have hx1 : b = l := by omega
          subst hx1
          constructor
          · intro _
            exact Or.inr (Or.inr (by simp))
          · intro _
            exact ⟨hl7.1, hl7.2, by omega⟩
        · rw [if_neg hx]
          constructor
          · exact Or.inl
          · rintro (z | z | z)
            · exact z
            · omega
            · exact absurd ⟨by omega, z.2.2⟩ hx
      · simp only [h4, h5, if_false]
        by_cases hx : a = 6 + l ∧ b = g
        · rw [if_pos hx]
          obtain ⟨rfl, rfl⟩ := hx
          constructor
          · rintro ⟨z1, z2⟩
            by_cases hc : c = n
            · exact Or.inr (Or.inl ⟨rfl, rfl, hc⟩)
            · exact Or.inl ⟨z1, by omega⟩
          · rintro (z | z | z)
            · exact ⟨z.1, by omega⟩
            · exact ⟨by rcases hg with z | z <;> omega, by omega⟩
            · first | omega | simp at z
        · rw [if_neg hx]
          constructor
          · exact Or.inl
          · rintro (z | z | z)
            · exact z
            · exact absurd ⟨z.1, z.2.1⟩ hx
            · first | omega | simp at z
  · rw [glive_r (K := (a, b, c)) h2, glive_r (K := (a, b, c)) h2]
    simp only [Prod.mk.injEq]
    constructor
    · exact Or.inl
    · rintro (z | z | z)
      · exact z
      · omega
      · omega
theorem gR.pushC {l g n q b' : Nat} {row : Nat → Int32} {e : va_E} (hr : gR κ ad (C, R) ((q, e) :: T) h) (hh : glive (C, R) (4, l, g)) (hg : l = 7 ∨ g = 0) (hn : C.2 (6 + l) g = n)
    (hb : ((n = 0 ∨ n = gcap n) ∧ h b' = none) ∨ (0 < n ∧ b' = ad (5, l, g)))
    (hx : ∀ x, h' x = if x = ad (4, l, g) then some (ghdr κ (n + 1) b') else if x = b' then some (gbak κ (n + 1) (fun j => if j = n then q else ad (6 + l, g, j))) else h x)
    (he : e = gentC κ ad C.2 row (6 + l, g, n)) (hc : ∀ K' ∈ grefC C.2 row (6 + l, g, n), glive (C, R) K') :
    gR κ (gset (gset ad (5, l, g) b') (6 + l, g, n) q) (gnew C (6 + l, g, n) row, R) T h' := by
  have hlv := glive_pushC (row := row) hh hg hn
  have hl7 : l ≤ 7 ∧ g < C.2 4 l := by
    have h1 := (glive_c (S := (C, R)) (K := (4, l, g)) (show 4 < 20 by decide)).mp hh
    unfold glive1 at h1
    rw [if_pos rfl] at h1
    exact h1
  have n4 : ¬ glive (C, R) (6 + l, g, n) := by
    rw [glive_c (K := (6 + l, g, n)) (show 6 + l < 20 by omega)]
    unfold glive1
    rw [if_neg (show ¬ 6 + l = 4 by omega), if_neg (show ¬ 6 + l = 5 by omega)]
    show ¬ (_ ∧ n < C.2 (6 + l) g)
    rw [hn]
    omega
  have hne1 : ∀ K, glive (C, R) K → K ≠ (6 + l, g, n) := fun K hK e1 => n4 (e1 ▸ hK)
  have hb5 : 0 < n → glive (C, R) (5, l, g) := fun h0 => by
    rw [glive_c (K := (5, l, g)) (show 5 < 20 by decide)]
    unfold glive1
    rw [if_neg (show ¬ 5 = 4 by decide), if_pos rfl]
    exact ⟨hl7.1, hl7.2, by show 0 < C.2 (6 + l) g; omega⟩
  have hn5 : n = 0 → ¬ glive (C, R) (5, l, g) := fun h0 h1 => by
    rw [glive_c (K := (5, l, g)) (show 5 < 20 by decide)] at h1
    unfold glive1 at h1
    rw [if_neg (show ¬ 5 = 4 by decide), if_pos rfl] at h1
    have h1 : 0 < C.2 (6 + l) g := h1.2.2
    omega
  -- b' is no address of another key
  have hbk : ∀ K, glive (C, R) K → K ≠ (5, l, g) → ad K ≠ b' := fun K hK h5 e1 => by
    rcases hb with ⟨-, hb⟩ | ⟨h0, hb⟩
    · have := hr.1 K hK
      rw [e1, hb] at this
      cases this
    · rw [hb] at e1
      exact h5 (hr.2.1 _ _ hK (hb5 h0) e1)
  have hbT : ∀ t ∈ (q, e) :: T, t.1 ≠ b' := fun t ht e1 => by
    rcases hb with ⟨-, hb⟩ | ⟨h0, hb⟩
    · have := hr.2.2.2.1 t ht
      rw [e1, hb] at this
      cases this
    · rw [hb] at e1
      exact hr.2.2.2.2.1 t ht _ (hb5 h0) e1.symm
  have hq4 : ∀ t ∈ (q, e) :: T, t.1 ≠ ad (4, l, g) := fun t ht e1 => hr.2.2.2.2.1 t ht _ hh e1.symm
  have hqm : (q, e) ∈ (q, e) :: T := List.mem_cons_self
  have h45 : ((5, l, g) : gKey) ≠ (6 + l, g, n) := fun z => by have := congrArg (·.1) z; simp only at this; omega
  have h44 : ((4, l, g) : gKey) ≠ (6 + l, g, n) := fun z => by have := congrArg (·.1) z; simp only at this; omega
  have h4b : ad (4, l, g) ≠ b' := hbk _ hh (fun z => by have := congrArg (·.1) z; simp only at this; omega)
  have had : ∀ K, glive (C, R) K → K ≠ (5, l, g) → gset (gset ad (5, l, g) b') (6 + l, g, n) q K = ad K := fun K hK h5 => by
    rw [gset_ne _ _ (hne1 K hK), gset_ne _ _ h5]
  have had5 : gset (gset ad (5, l, g) b') (6 + l, g, n) q (5, l, g) = b' := by rw [gset_ne _ _ h45, gset_eq]
  have had1 : gset (gset ad (5, l, g) b') (6 + l, g, n) q (6 + l, g, n) = q := gset_eq _ _ _
  generalize hA : gset (gset ad (5, l, g) b') (6 + l, g, n) q = ad' at had had5 had1
  have hN : ∀ a b : Nat, ¬ (a = 6 + l ∧ b = g) → (gnew C (6 + l, g, n) row).2 a b = C.2 a b := fun a b h0 => if_neg h0
  have hN1 : (gnew C (6 + l, g, n) row).2 (6 + l) g = n + 1 := by rw [gnew_2, if_pos ⟨rfl, rfl⟩, hn]
  -- the entries of the old keys
  have hold : ∀ K, glive (C, R) K → K ≠ (4, l, g) → K ≠ (5, l, g) → gent κ ad' (gnew C (6 + l, g, n) row, R) K = gent κ ad (C, R) K ∧ gref (gnew C (6 + l, g, n) row, R) K = gref (C, R) K := fun K hK k4 k5 => by
    have hrefs := hr.2.2.1 K hK
    have hNK : K.1 = 4 ∨ K.1 = 5 → (gnew C (6 + l, g, n) row).2 (6 + K.2.1) K.2.2 = C.2 (6 + K.2.1) K.2.2 := fun h0 => hN _ _ (fun ⟨z1, z2⟩ => by
      rcases h0 with h0 | h0
      · exact k4 (Prod.ext h0 (Prod.ext (by show K.2.1 = l; omega) z2))
      · exact k5 (Prod.ext h0 (Prod.ext (by show K.2.1 = l; omega) z2)))
    by_cases h2 : K.1 < 20
    · rw [gref_c h2] at hrefs
      rw [gent_c h2, gent_c h2, gref_c h2, gref_c h2]
      have hNN := gentC_N (κ := κ) (ad := ad') (r := (gnew C (6 + l, g, n) row).1 K) hNK
      have hrow : (gnew C (6 + l, g, n) row).1 K = C.1 K := gnew_1n row (hne1 K hK)
      refine ⟨hNN.1.trans ?_, hNN.2.trans (by rw [hrow])⟩
      rw [hrow]
      refine gentC_ad fun K' hK' => had K' (hrefs K' hK') (fun z => ?_)
      have hk5 : K.1 = 5 → K.2.1 ≤ 7 := fun z5 => by
        have h1 := (glive_c h2).mp hK
        unfold glive1 at h1
        rw [z5, if_neg (show ¬ 5 = 4 by decide), if_pos rfl] at h1
        exact h1.1
      have hz := (grefC_lt hk5 hK').2 (by rw [z])
      exact k4 (Prod.ext hz.1 (by rw [← hz.2, z]))
    · rw [gref_r h2] at hrefs
      rw [gent_r h2, gent_r h2, gref_r h2, gref_r h2]
      refine ⟨gentR_ad fun K' hK' => had K' (hrefs K' hK') (fun z => ?_), rfl⟩
      have hz := (grefR_ge hK').1
      rw [z] at hz
      exact hz (show 5 < 20 by decide)
  have e4 : gent κ ad' (gnew C (6 + l, g, n) row, R) (4, l, g) = ghdr κ (n + 1) b' := by
    rw [gent_c (K := (4, l, g)) (show 4 < 20 by decide)]
    show ghdr κ ((gnew C (6 + l, g, n) row).2 (6 + l) g) (ad' (5, l, g)) = _
    rw [hN1, had5]
  have e5 : gent κ ad' (gnew C (6 + l, g, n) row, R) (5, l, g) = gbak κ (n + 1) (fun j => if j = n then q else ad (6 + l, g, j)) := by
    rw [gent_c (K := (5, l, g)) (show 5 < 20 by decide)]
    show gbak κ ((gnew C (6 + l, g, n) row).2 (6 + l) g) (fun j => ad' (6 + l, g, j)) = _
    rw [hN1]
    unfold gbak
    refine congrArg (fun z => (Sum.inl (κ.2.1 4, gcap (n + 1), .inr (.inr (.inr (.inr z)))) : va_E)) (funext fun j => ?_)
    by_cases hj : j < n + 1
    · rw [if_pos hj, if_pos hj]
      show some (ad' (6 + l, g, j)) = some (if j = n then q else ad (6 + l, g, j))
      by_cases hj1 : j = n
      · rw [if_pos hj1, hj1, had1]
      · rw [if_neg hj1, had (6 + l, g, j) (by
          rw [glive_c (K := (6 + l, g, j)) (show 6 + l < 20 by omega)]
          unfold glive1
          rw [if_neg (show ¬ 6 + l = 4 by omega), if_neg (show ¬ 6 + l = 5 by omega)]
          show ((6 + l = 13 ∨ g = 0) ∧ j < C.2 (6 + l) g)
          rw [hn]
          exact ⟨by rcases hg with z | z <;> omega, by omega⟩) (fun z => by have := congrArg (·.1) z; simp only at this; omega)]
    · rw [if_neg hj, if_neg hj]
  have e1 : gent κ ad' (gnew C (6 + l, g, n) row, R) (6 + l, g, n) = e := by
    rw [gent_c (K := (6 + l, g, n)) (show 6 + l < 20 by omega), he]
    show gentC κ ad' (gnew C (6 + l, g, n) row).2 ((gnew C (6 + l, g, n) row).1 (6 + l, g, n)) _ = _
    rw [gnew_1, (gentC_N (κ := κ) (ad := ad') (r := row) (N := C.2) (K := (6 + l, g, n)) (fun z => by simp only at z; omega)).1]
    refine gentC_ad fun K' hK' => had K' (hc K' hK') (fun z => ?_)
    have hz := (grefC_lt (fun z5 => by simp only at z5; omega) hK').2 (by rw [z])
    have := hz.1
    simp only at this
    omega
  refine ⟨fun K hK => ?_, fun K K' hK hK' hKK => ?_, fun K hK K' hK' => ?_, fun t ht => ?_, fun t ht K hK => ?_, ?_⟩
  · rcases (hlv K).mp hK with hK | rfl | rfl
    · by_cases k4 : K = (4, l, g)
      · subst k4
        rw [had _ hK (fun z => by have := congrArg (·.1) z; simp only at this; omega), hx, if_pos rfl, e4]
      · by_cases k5 : K = (5, l, g)
        · subst k5
          rw [had5, hx, if_neg (fun z => h4b z.symm), if_pos rfl, e5]
        · rw [had K hK k5, hx, if_neg (fun z => k4 (hr.2.1 _ _ hK hh z)), if_neg (hbk K hK k5), hr.1 K hK, (hold K hK k4 k5).1]
    · rw [had1, hx, if_neg (hq4 _ hqm), if_neg (hbT _ hqm), hr.2.2.2.1 _ hqm, e1]
    · rw [had5, hx, if_neg (fun z => h4b z.symm), if_pos rfl, e5]
  · have key : ∀ K, glive (gnew C (6 + l, g, n) row, R) K → (K = (6 + l, g, n) ∧ ad' K = q) ∨ (K = (5, l, g) ∧ ad' K = b') ∨ (glive (C, R) K ∧ K ≠ (5, l, g) ∧ ad' K = ad K) := fun K hK => by
      rcases (hlv K).mp hK with hK | rfl | rfl
      · by_cases k5 : K = (5, l, g)
        · exact Or.inr (Or.inl ⟨k5, k5 ▸ had5⟩)
        · exact Or.inr (Or.inr ⟨hK, k5, had K hK k5⟩)
      · exact Or.inl ⟨rfl, had1⟩
      · exact Or.inr (Or.inl ⟨rfl, had5⟩)
    rcases key K hK with ⟨a1, a2⟩ | ⟨a1, a2⟩ | ⟨a1, a2, a3⟩ <;> rcases key K' hK' with ⟨b1, b2⟩ | ⟨b1, b2⟩ | ⟨b1, b2, b3⟩
    · rw [a1, b1]
    · exact absurd (a2.symm.trans (hKK.trans b2)) (hbT _ hqm)
    · exact absurd (b3.symm.trans (hKK.symm.trans a2)) (hr.2.2.2.2.1 _ hqm _ b1)
    · exact absurd (b2.symm.trans (hKK.symm.trans a2)) (hbT _ hqm)
    · rw [a1, b1]
    · exact absurd (b3.symm.trans (hKK.symm.trans a2)) (hbk _ b1 b2)
    · exact absurd (a3.symm.trans (hKK.trans b2)) (hr.2.2.2.2.1 _ hqm _ a1)
    · exact absurd (a3.symm.trans (hKK.trans b2)) (hbk _ a1 a2)
    · exact hr.2.1 _ _ a1 b1 (by rw [← a3, ← b3, hKK])
  · refine (hlv K').mpr ?_
    rcases (hlv K).mp hK with hK | rfl | rfl
    · by_cases k4 : K = (4, l, g)
      · subst k4
        rw [gref_c (K := (4, l, g)) (show 4 < 20 by decide)] at hK'
        have hK' : K' ∈ (if (gnew C (6 + l, g, n) row).2 (6 + l) g = 0 then [] else [((5, l, g) : gKey)]) := hK'
        rw [hN1, if_neg (by omega), List.mem_singleton] at hK'
        exact Or.inr (Or.inr hK')
      · by_cases k5 : K = (5, l, g)
        · subst k5
          rw [gref_c (K := (5, l, g)) (show 5 < 20 by decide)] at hK'
          have hK' : K' ∈ (List.range ((gnew C (6 + l, g, n) row).2 (6 + l) g)).map (fun j => ((6 + l, g, j) : gKey)) := hK'
          obtain ⟨j, hj, rfl⟩ := List.mem_map.mp hK'
          have hj := List.mem_range.mp hj
          rw [hN1] at hj
          by_cases hj1 : j = n
          · exact Or.inr (Or.inl (by rw [hj1]))
          · refine Or.inl ?_
            rw [glive_c (K := (6 + l, g, j)) (show 6 + l < 20 by omega)]
            unfold glive1
            rw [if_neg (show ¬ 6 + l = 4 by omega), if_neg (show ¬ 6 + l = 5 by omega)]
            show ((6 + l = 13 ∨ g = 0) ∧ j < C.2 (6 + l) g)
            rw [hn]
            exact ⟨by rcases hg with z | z <;> omega, by omega⟩
        · rw [(hold K hK k4 k5).2] at hK'
          exact Or.inl (hr.2.2.1 K hK K' hK')
    · rw [gref_c (K := (6 + l, g, n)) (show 6 + l < 20 by omega)] at hK'
      have hK' : K' ∈ grefC (gnew C (6 + l, g, n) row).2 ((gnew C (6 + l, g, n) row).1 (6 + l, g, n)) (6 + l, g, n) := hK'
      rw [gnew_1, (gentC_N (κ := κ) (ad := ad') (r := row) (N := C.2) (K := (6 + l, g, n)) (fun z => by simp only at z; omega)).2] at hK'
      exact Or.inl (hc K' hK')
    · rw [gref_c (K := (5, l, g)) (show 5 < 20 by decide)] at hK'
      have hK' : K' ∈ (List.range ((gnew C (6 + l, g, n) row).2 (6 + l) g)).map (fun j => ((6 + l, g, j) : gKey)) := hK'
      obtain ⟨j, hj, rfl⟩ := List.mem_map.mp hK'
      have hj := List.mem_range.mp hj
      rw [hN1] at hj
      by_cases hj1 : j = n
      · exact Or.inr (Or.inl (by rw [hj1]))
      · refine Or.inl ?_
        rw [glive_c (K := (6 + l, g, j)) (show 6 + l < 20 by omega)]
        unfold glive1
        rw [if_neg (show ¬ 6 + l = 4 by omega), if_neg (show ¬ 6 + l = 5 by omega)]
        show ((6 + l = 13 ∨ g = 0) ∧ j < C.2 (6 + l) g)
        rw [hn]
        exact ⟨by rcases hg with z | z <;> omega, by omega⟩
  · have htm := List.mem_cons_of_mem (q, e) ht
    rw [hx, if_neg (hq4 t htm), if_neg (hbT t htm)]
    exact hr.2.2.2.1 t htm
  · have htm := List.mem_cons_of_mem (q, e) ht
    rcases (hlv K).mp hK with hK | rfl | rfl
    · by_cases k5 : K = (5, l, g)
      · rw [k5, had5]
        exact fun z => hbT t htm z.symm
      · rw [had K hK k5]
        exact hr.2.2.2.2.1 t htm K hK
    · rw [had1]
      intro z
      have hnd := hr.2.2.2.2.2
      rw [List.map_cons, List.nodup_cons] at hnd
      exact hnd.1 (List.mem_map.mpr ⟨t, ht, z.symm⟩)
    · rw [had5]
      exact fun z => hbT t htm z.symm
  · have hnd := hr.2.2.2.2.2
    rw [List.map_cons, List.nodup_cons] at hnd
    exact hnd.2

/-- R: a new element of a list -/
theorem glive_pushR {l g n : Nat} {row : Nat → Int32} (hh : glive (C, R) (24, l, g)) (hg : l = 7 ∨ g = 0) (hn : R.2 (6 + l) g = n) (K : gKey) : glive (C, gnew R (6 + l, g, n) row) K ↔ (glive (C, R) K ∨ K = (26 + l, g, n) ∨ K = (25, l, g)) := by
  have hl7 : l ≤ 7 ∧ g < R.2 4 l := by
    have h1 := (glive_r (S := (C, R)) (K := (24, l, g)) (show ¬ 24 < 20 by decide)).mp hh
    unfold glive1 at h1
    have h1 := h1.2
    rw [if_pos (show 24 - 20 = 4 by decide)] at h1
    exact h1
  obtain ⟨a, b, c⟩ := K
  by_cases h2 : a < 20
  · rw [glive_c (K := (a, b, c)) h2, glive_c (K := (a, b, c)) h2]
    simp only [Prod.mk.injEq]
    constructor
    · exact Or.inl
    · rintro (z | z | z)
      · exact z
      · omega
      · omega
  · rw [glive_r (K := (a, b, c)) h2, glive_r (K := (a, b, c)) h2]
    obtain ⟨x, rfl⟩ : ∃ x, a = x + 20 := ⟨a - 20, by omega⟩
    show (x + 20 ≠ 23 ∧ glive1 (gnew R (6 + l, g, n) row).2 (x + 20 - 20) (b, c)) ↔ ((x + 20 ≠ 23 ∧ glive1 R.2 (x + 20 - 20) (b, c)) ∨ _)
    rw [Nat.add_sub_cancel]
    unfold glive1
    simp only [gnew_2, Prod.mk.injEq]
    by_cases h4 : x = 4
    · subst h4
      simp only [if_true]
      rw [if_neg (by omega)]
      constructor
      · exact Or.inl
      · rintro (z | z | z)
        · exact z
        · omega
        · omega
    · by_cases h5 : x = 5
      · subst h5
        simp only [if_true, show ¬ (5 : Nat) = 4 by decide, if_false]
        rw [if_neg (by omega)]
        by_cases hx : 6 + b = 6 + l ∧ c = g
        · rw [if_pos hx]
          obtain ⟨hx1, rfl⟩ := hx
          have hx1 : b = l := by omega
          subst hx1
          constructor
          · intro _
            exact Or.inr (Or.inr (by simp))
          · intro _
            exact ⟨by decide, hl7.1, hl7.2, by omega⟩
        · rw [if_neg hx]
          constructor
          · exact Or.inl
          · rintro (z | z | z)
            · exact z
            · omega
            · exact absurd ⟨by omega, z.2.2⟩ hx
      · simp only [h4, h5, if_false]
        by_cases hx : x = 6 + l ∧ b = g
        · rw [if_pos hx]
          obtain ⟨rfl, rfl⟩ := hx
          constructor
          · rintro ⟨z0, z1, z2⟩
            by_cases hc : c = n
            · exact Or.inr (Or.inl ⟨by omega, rfl, hc⟩)
            · exact Or.inl ⟨z0, z1, by omega⟩
          · rintro (z | z | z)
            · exact ⟨z.1, z.2.1, by omega⟩
            · exact ⟨by omega, by rcases hg with z | z <;> omega, by omega⟩
            · first | omega | simp at z
        · rw [if_neg hx]
          constructor
          · exact Or.inl
          · rintro (z | z | z)
            · exact z
            · exact absurd ⟨by omega, z.2.1⟩ hx
            · first | omega | simp at z
theorem gR.pushR {l g n q b' : Nat} {row : Nat → Int32} {e : va_E} (hr : gR κ ad (C, R) ((q, e) :: T) h) (hh : glive (C, R) (24, l, g)) (hg : l = 7 ∨ g = 0) (hn : R.2 (6 + l) g = n)
    (hb : ((n = 0 ∨ n = gcap n) ∧ h b' = none) ∨ (0 < n ∧ b' = ad (25, l, g)))
    (hx : ∀ x, h' x = if x = ad (24, l, g) then some (ghdr κ (n + 1) b') else if x = b' then some (gbak κ (n + 1) (fun j => if j = n then q else ad (26 + l, g, j))) else h x)
    (he : e = gentR1 κ ad R.2 row (26 + l, g, n)) (hc : ∀ K' ∈ grefR R.2 (26 + l, g, n), glive (C, R) K') :
    gR κ (gset (gset ad (25, l, g) b') (26 + l, g, n) q) (C, gnew R (6 + l, g, n) row) T h' := by
  have hlv := glive_pushR (row := row) hh hg hn
  have hl7 : l ≤ 7 ∧ g < R.2 4 l := by
    have h1 := (glive_r (S := (C, R)) (K := (24, l, g)) (show ¬ 24 < 20 by decide)).mp hh
    unfold glive1 at h1
    have h1 := h1.2
    rw [if_pos (show 24 - 20 = 4 by decide)] at h1
    exact h1
  have n4 : ¬ glive (C, R) (26 + l, g, n) := by
    rw [glive_r (K := (26 + l, g, n)) (show ¬ 26 + l < 20 by omega)]
    unfold glive1
    show ¬ (_ ∧ if 26 + l - 20 = 4 then _ else if 26 + l - 20 = 5 then _ else (_ ∧ n < R.2 (26 + l - 20) g))
    rw [if_neg (show ¬ 26 + l - 20 = 4 by omega), if_neg (show ¬ 26 + l - 20 = 5 by omega), show 26 + l - 20 = 6 + l by omega, hn]
    omega
  have hne1 : ∀ K, glive (C, R) K → K ≠ (26 + l, g, n) := fun K hK e1 => n4 (e1 ▸ hK)
  have hb5 : 0 < n → glive (C, R) (25, l, g) := fun h0 => by
    rw [glive_r (K := (25, l, g)) (show ¬ 25 < 20 by decide)]
    unfold glive1
    rw [if_neg (show ¬ 25 - 20 = 4 by decide), if_pos (show 25 - 20 = 5 by decide)]
    exact ⟨by simp, hl7.1, hl7.2, by show 0 < R.2 (6 + l) g; omega⟩
  have hn5 : n = 0 → ¬ glive (C, R) (25, l, g) := fun h0 h1 => by
    rw [glive_r (K := (25, l, g)) (show ¬ 25 < 20 by decide)] at h1
    unfold glive1 at h1
    rw [if_neg (show ¬ 25 - 20 = 4 by decide), if_pos (show 25 - 20 = 5 by decide)] at h1
    have h1 : 0 < R.2 (6 + l) g := h1.2.2.2
    omega
  -- b' is no address of another key
  have hbk : ∀ K, glive (C, R) K → K ≠ (25, l, g) → ad K ≠ b' := fun K hK h5 e1 => by
    rcases hb with ⟨-, hb⟩ | ⟨h0, hb⟩
    · have := hr.1 K hK
      rw [e1, hb] at this
      cases this
    · rw [hb] at e1
      exact h5 (hr.2.1 _ _ hK (hb5 h0) e1)
  have hbT : ∀ t ∈ (q, e) :: T, t.1 ≠ b' := fun t ht e1 => by
    rcases hb with ⟨-, hb⟩ | ⟨h0, hb⟩
    · have := hr.2.2.2.1 t ht
      rw [e1, hb] at this
      cases this
    · rw [hb] at e1
      exact hr.2.2.2.2.1 t ht _ (hb5 h0) e1.symm
  have hq4 : ∀ t ∈ (q, e) :: T, t.1 ≠ ad (24, l, g) := fun t ht e1 => hr.2.2.2.2.1 t ht _ hh e1.symm
  have hqm : (q, e) ∈ (q, e) :: T := List.mem_cons_self
  have h45 : ((25, l, g) : gKey) ≠ (26 + l, g, n) := fun z => by have := congrArg (·.1) z; simp only at this; omega
  have h44 : ((24, l, g) : gKey) ≠ (26 + l, g, n) := fun z => by have := congrArg (·.1) z; simp only at this; omega
  have h4b : ad (24, l, g) ≠ b' := hbk _ hh (fun z => by have := congrArg (·.1) z; simp only at this; omega)
  have had : ∀ K, glive (C, R) K → K ≠ (25, l, g) → gset (gset ad (25, l, g) b') (26 + l, g, n) q K = ad K := fun K hK h5 => by
    rw [gset_ne _ _ (hne1 K hK), gset_ne _ _ h5]
  have had5 : gset (gset ad (25, l, g) b') (26 + l, g, n) q (25, l, g) = b' := by rw [gset_ne _ _ h45, gset_eq]
  have had1 : gset (gset ad (25, l, g) b') (26 + l, g, n) q (26 + l, g, n) = q := gset_eq _ _ _
  generalize hA : gset (gset ad (25, l, g) b') (26 + l, g, n) q = ad' at had had5 had1
  have hN : ∀ a b : Nat, ¬ (a = 6 + l ∧ b = g) → (gnew R (6 + l, g, n) row).2 a b = R.2 a b := fun a b h0 => if_neg h0
  have hN1 : (gnew R (6 + l, g, n) row).2 (6 + l) g = n + 1 := by rw [gnew_2, if_pos ⟨rfl, rfl⟩, hn]
  -- the entries of the old keys
  have hold : ∀ K, glive (C, R) K → K ≠ (24, l, g) → K ≠ (25, l, g) → gent κ ad' (C, gnew R (6 + l, g, n) row) K = gent κ ad (C, R) K ∧ gref (C, gnew R (6 + l, g, n) row) K = gref (C, R) K := fun K hK k4 k5 => by
    have hrefs := hr.2.2.1 K hK
    have hNK : K.1 = 24 ∨ K.1 = 25 → (gnew R (6 + l, g, n) row).2 (6 + K.2.1) K.2.2 = R.2 (6 + K.2.1) K.2.2 := fun h0 => hN _ _ (fun ⟨z1, z2⟩ => by
      rcases h0 with h0 | h0
      · exact k4 (Prod.ext h0 (Prod.ext (by show K.2.1 = l; omega) z2))
      · exact k5 (Prod.ext h0 (Prod.ext (by show K.2.1 = l; omega) z2)))
    by_cases h2 : K.1 < 20
    · rw [gref_c h2] at hrefs
      rw [gent_c h2, gent_c h2, gref_c h2, gref_c h2]
      refine ⟨gentC_ad fun K' hK' => had K' (hrefs K' hK') (fun z => ?_), rfl⟩
      have hk5 : K.1 = 5 → K.2.1 ≤ 7 := fun z5 => by
        have h1 := (glive_c h2).mp hK
        unfold glive1 at h1
        rw [z5, if_neg (show ¬ 5 = 4 by decide), if_pos rfl] at h1
        exact h1.1
      have hz := (grefC_lt hk5 hK').1
      rw [z] at hz
      have hz : (25 : Nat) < 20 := hz
      omega
    · rw [gref_r h2] at hrefs
      rw [gent_r h2, gent_r h2, gref_r h2, gref_r h2]
      have hNN := gentR_N (κ := κ) (ad := ad') (σ := (gnew R (6 + l, g, n) row).1) hNK
      refine ⟨hNN.1.trans ?_, hNN.2⟩
      have hsig : gentR κ ad' R.2 (gnew R (6 + l, g, n) row).1 K = gentR κ ad' R.2 R.1 K := by
        have h0 : ∀ a j : Nat, a < 4 → (gnew R (6 + l, g, n) row).1 (a, 0, j) = R.1 (a, 0, j) := fun a j ha => gnew_1n row (fun z => by have := congrArg (·.1) z; simp only at this; omega)
        have h1 : (gnew R (6 + l, g, n) row).1 (K.1 - 20, K.2) = R.1 (K.1 - 20, K.2) := gnew_1n row (fun z => hne1 K hK (by
          have z1 := congrArg (·.1) z
          have z2 := congrArg (·.2) z
          simp only at z1 z2
          exact Prod.ext (by show K.1 = 26 + l; omega) z2))
        unfold gentR
        have h3 : ∀ j : Nat, (gnew R (6 + l, g, n) row).1 (3, 0, j) = R.1 (3, 0, j) := fun j => h0 3 j (by decide)
        rw [h0 0 0 (by decide), h0 1 0 (by decide), h0 2 0 (by decide), h1]
        simp only [h3]
      rw [hsig]
      refine gentR_ad fun K' hK' => had K' (hrefs K' hK') (fun z => ?_)
      have hz := (grefR_ge hK').2 (by rw [z])
      exact k4 (Prod.ext hz.1 (by rw [← hz.2, z]))
  have e4 : gent κ ad' (C, gnew R (6 + l, g, n) row) (24, l, g) = ghdr κ (n + 1) b' := by
    rw [gent_r (K := (24, l, g)) (show ¬ 24 < 20 by decide)]
    show ghdr κ ((gnew R (6 + l, g, n) row).2 (6 + l) g) (ad' (25, l, g)) = _
    rw [hN1, had5]
  have e5 : gent κ ad' (C, gnew R (6 + l, g, n) row) (25, l, g) = gbak κ (n + 1) (fun j => if j = n then q else ad (26 + l, g, j)) := by
    rw [gent_r (K := (25, l, g)) (show ¬ 25 < 20 by decide)]
    show gbak κ ((gnew R (6 + l, g, n) row).2 (6 + l) g) (fun j => ad' (26 + l, g, j)) = _
    rw [hN1]
    unfold gbak
    refine congrArg (fun z => (Sum.inl (κ.2.1 4, gcap (n + 1), .inr (.inr (.inr (.inr z)))) : va_E)) (funext fun j => ?_)
    by_cases hj : j < n + 1
    · rw [if_pos hj, if_pos hj]
      show some (ad' (26 + l, g, j)) = some (if j = n then q else ad (26 + l, g, j))
      by_cases hj1 : j = n
      · rw [if_pos hj1, hj1, had1]
      · rw [if_neg hj1, had (26 + l, g, j) (by
          rw [glive_r (K := (26 + l, g, j)) (show ¬ 26 + l < 20 by omega)]
          unfold glive1
          show (26 + l ≠ 23 ∧ if 26 + l - 20 = 4 then _ else if 26 + l - 20 = 5 then _ else ((26 + l - 20 = 13 ∨ g = 0) ∧ j < R.2 (26 + l - 20) g))
          rw [if_neg (show ¬ 26 + l - 20 = 4 by omega), if_neg (show ¬ 26 + l - 20 = 5 by omega), show 26 + l - 20 = 6 + l by omega, hn]
          exact ⟨by omega, by rcases hg with z | z <;> omega, by omega⟩) (fun z => by have := congrArg (·.1) z; simp only at this; omega)]
    · rw [if_neg hj, if_neg hj]
  have e1 : gent κ ad' (C, gnew R (6 + l, g, n) row) (26 + l, g, n) = e := by
    rw [gent_r (K := (26 + l, g, n)) (show ¬ 26 + l < 20 by omega), he]
    unfold gentR
    rw [if_neg (show ¬ 26 + l = 20 by omega), if_neg (show ¬ 26 + l = 21 by omega), if_neg (show ¬ 26 + l = 22 by omega)]
    show gentR1 κ ad' (gnew R (6 + l, g, n) row).2 ((gnew R (6 + l, g, n) row).1 (26 + l - 20, g, n)) _ = _
    rw [show 26 + l - 20 = 6 + l by omega, gnew_1]
    refine Eq.trans ?_ (gentR1_ad fun K' hK' => had K' (hc K' hK') (fun z => ?_))
    · unfold gentR1
      split <;> first | rfl | (rename_i z; have := congrArg (·.1) z; simp only at this; omega) | omega
    · have hz := (grefR_ge hK').2 (by rw [z])
      have := hz.1
      simp only at this
      omega
  refine ⟨fun K hK => ?_, fun K K' hK hK' hKK => ?_, fun K hK K' hK' => ?_, fun t ht => ?_, fun t ht K hK => ?_, ?_⟩
  · rcases (hlv K).mp hK with hK | rfl | rfl
    · by_cases k4 : K = (24, l, g)
      · subst k4
        rw [had _ hK (fun z => by have := congrArg (·.1) z; simp only at this; omega), hx, if_pos rfl, e4]
      · by_cases k5 : K = (25, l, g)
        · subst k5
          rw [had5, hx, if_neg (fun z => h4b z.symm), if_pos rfl, e5]
        · rw [had K hK k5, hx, if_neg (fun z => k4 (hr.2.1 _ _ hK hh z)), if_neg (hbk K hK k5), hr.1 K hK, (hold K hK k4 k5).1]
    · rw [had1, hx, if_neg (hq4 _ hqm), if_neg (hbT _ hqm), hr.2.2.2.1 _ hqm, e1]
    · rw [had5, hx, if_neg (fun z => h4b z.symm), if_pos rfl, e5]
  · have key : ∀ K, glive (C, gnew R (6 + l, g, n) row) K → (K = (26 + l, g, n) ∧ ad' K = q) ∨ (K = (25, l, g) ∧ ad' K = b') ∨ (glive (C, R) K ∧ K ≠ (25, l, g) ∧ ad' K = ad K) := fun K hK => by
      rcases (hlv K).mp hK with hK | rfl | rfl
      · by_cases k5 : K = (25, l, g)
        · exact Or.inr (Or.inl ⟨k5, k5 ▸ had5⟩)
        · exact Or.inr (Or.inr ⟨hK, k5, had K hK k5⟩)
      · exact Or.inl ⟨rfl, had1⟩
      · exact Or.inr (Or.inl ⟨rfl, had5⟩)
    rcases key K hK with ⟨a1, a2⟩ | ⟨a1, a2⟩ | ⟨a1, a2, a3⟩ <;> rcases key K' hK' with ⟨b1, b2⟩ | ⟨b1, b2⟩ | ⟨b1, b2, b3⟩
    · rw [a1, b1]
    · exact absurd (a2.symm.trans (hKK.trans b2)) (hbT _ hqm)
    · exact absurd (b3.symm.trans (hKK.symm.trans a2)) (hr.2.2.2.2.1 _ hqm _ b1)
    · exact absurd (b2.symm.trans (hKK.symm.trans a2)) (hbT _ hqm)
    · rw [a1, b1]
    · exact absurd (b3.symm.trans (hKK.symm.trans a2)) (hbk _ b1 b2)
    · exact absurd (a3.symm.trans (hKK.trans b2)) (hr.2.2.2.2.1 _ hqm _ a1)
    · exact absurd (a3.symm.trans (hKK.trans b2)) (hbk _ a1 a2)
    · exact hr.2.1 _ _ a1 b1 (by rw [← a3, ← b3, hKK])
  · refine (hlv K').mpr ?_
    rcases (hlv K).mp hK with hK | rfl | rfl
    · by_cases k4 : K = (24, l, g)
      · subst k4
        rw [gref_r (K := (24, l, g)) (show ¬ 24 < 20 by decide)] at hK'
        have hK' : K' ∈ (if (gnew R (6 + l, g, n) row).2 (6 + l) g = 0 then [] else [((25, l, g) : gKey)]) := hK'
        rw [hN1, if_neg (by omega), List.mem_singleton] at hK'
        exact Or.inr (Or.inr hK')
      · by_cases k5 : K = (25, l, g)
        · subst k5
          rw [gref_r (K := (25, l, g)) (show ¬ 25 < 20 by decide)] at hK'
          have hK' : K' ∈ (List.range ((gnew R (6 + l, g, n) row).2 (6 + l) g)).map (fun j => ((26 + l, g, j) : gKey)) := hK'
          obtain ⟨j, hj, rfl⟩ := List.mem_map.mp hK'
          have hj := List.mem_range.mp hj
          rw [hN1] at hj
          by_cases hj1 : j = n
          · exact Or.inr (Or.inl (by rw [hj1]))
          · refine Or.inl ?_
            rw [glive_r (K := (26 + l, g, j)) (show ¬ 26 + l < 20 by omega)]
            unfold glive1
            show (26 + l ≠ 23 ∧ if 26 + l - 20 = 4 then _ else if 26 + l - 20 = 5 then _ else ((26 + l - 20 = 13 ∨ g = 0) ∧ j < R.2 (26 + l - 20) g))
            rw [if_neg (show ¬ 26 + l - 20 = 4 by omega), if_neg (show ¬ 26 + l - 20 = 5 by omega), show 26 + l - 20 = 6 + l by omega, hn]
            exact ⟨by omega, by rcases hg with z | z <;> omega, by omega⟩
        · rw [(hold K hK k4 k5).2] at hK'
          exact Or.inl (hr.2.2.1 K hK K' hK')
    · rw [gref_r (K := (26 + l, g, n)) (show ¬ 26 + l < 20 by omega)] at hK'
      refine Or.inl (hc K' ?_)
      have := (gentR_N (κ := κ) (ad := ad') (σ := R.1) (N := R.2) (N' := (gnew R (6 + l, g, n) row).2) (K := (26 + l, g, n)) (fun z => by simp only at z; omega)).2
      rw [← this]
      exact hK'
    · rw [gref_r (K := (25, l, g)) (show ¬ 25 < 20 by decide)] at hK'
      have hK' : K' ∈ (List.range ((gnew R (6 + l, g, n) row).2 (6 + l) g)).map (fun j => ((26 + l, g, j) : gKey)) := hK'
      obtain ⟨j, hj, rfl⟩ := List.mem_map.mp hK'
      have hj := List.mem_range.mp hj
      rw [hN1] at hj
      by_cases hj1 : j = n
      · exact Or.inr (Or.inl (by rw [hj1]))
      · refine Or.inl ?_
        rw [glive_r (K := (26 + l, g, j)) (show ¬ 26 + l < 20 by omega)]
        unfold glive1
        show (26 + l ≠ 23 ∧ if 26 + l - 20 = 4 then _ else if 26 + l - 20 = 5 then _ else ((26 + l - 20 = 13 ∨ g = 0) ∧ j < R.2 (26 + l - 20) g))
        rw [if_neg (show ¬ 26 + l - 20 = 4 by omega), if_neg (show ¬ 26 + l - 20 = 5 by omega), show 26 + l - 20 = 6 + l by omega, hn]
        exact ⟨by omega, by rcases hg with z | z <;> omega, by omega⟩
  · have htm := List.mem_cons_of_mem (q, e) ht
    rw [hx, if_neg (hq4 t htm), if_neg (hbT t htm)]
    exact hr.2.2.2.1 t htm
  · have htm := List.mem_cons_of_mem (q, e) ht
    rcases (hlv K).mp hK with hK | rfl | rfl
    · by_cases k5 : K = (25, l, g)
      · rw [k5, had5]
        exact fun z => hbT t htm z.symm
      · rw [had K hK k5]
        exact hr.2.2.2.2.1 t htm K hK
    · rw [had1]
      intro z
      have hnd := hr.2.2.2.2.2
      rw [List.map_cons, List.nodup_cons] at hnd
      exact hnd.1 (List.mem_map.mpr ⟨t, ht, z.symm⟩)
    · rw [had5]
      exact fun z => hbT t htm z.symm
  · have hnd := hr.2.2.2.2.2
    rw [List.map_cons, List.nodup_cons] at hnd
    exact hnd.2
end GP
