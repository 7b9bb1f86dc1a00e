
section Z40
def gW (κ : gq_K) (ad : gKey → Nat) (R : gG) (o : Nat) (T : List (Nat × va_E)) (r : gF) : Option Value → gq_H → Prop := fun v h => v = some (.int r.1) ∧ ∃ (g : Nat → Int64) (ad' : gKey → Nat), (r.1 = 0 → g 0 = r.2.1.toInt64) ∧ ad' (0, 0, 0) = ad (0, 0, 0) ∧ ad' (20, 0, 0) = ad (20, 0, 0) ∧ gR κ ad' (r.2.2, R) ((o, .inl (κ.2.1 1, 1, .inr (.inl g))) :: T) h
def gWb (κ : gq_K) (ad : gKey → Nat) (R : gG) (o : Nat) (T : List (Nat × va_E)) (r : gF) : Option Value → gq_H → Prop := fun v h => v = some (.int r.1) ∧ ∃ (g : Nat → Int64) (ad' : gKey → Nat), (r.1 = 0 → g 0 = if r.2.1 = 0 then 0 else 1) ∧ ad' (0, 0, 0) = ad (0, 0, 0) ∧ ad' (20, 0, 0) = ad (20, 0, 0) ∧ gR κ ad' (r.2.2, R) ((o, .inl (κ.2.1 1, 1, .inr (.inl g))) :: T) h
def gWf (κ : gq_K) (ad : gKey → Nat) (C R : gG) (o : Nat) (T : List (Nat × va_E)) : Option Value → gq_H → Prop := fun v h => (gpen C < 1 ∧ v = some (.int 1) ∧ ∃ g : Nat → UInt64, gR κ ad (C, R) ((o, .inl (κ.2.1 2, 1, .inr (.inr (.inr (.inl g))))) :: T) h) ∨ (¬ gpen C < 1 ∧ v = some (.int 0) ∧ ∃ g : Nat → UInt64, g 0 = FP.f2d (FP.fdiv (FP.i2f (gbro C)) (FP.i2f (gpen C))) ∧ gR κ ad (C, R) ((o, .inl (κ.2.1 2, 1, .inr (.inr (.inr (.inl g))))) :: T) h)
def gWd (κ : gq_K) (ad : gKey → Nat) (C R : gG) (o : Nat) (T : List (Nat × va_E)) : Option Value → gq_H → Prop := fun v h => (gfir C < 1 ∧ v = some (.int 1) ∧ ∃ g : Nat → UInt64, gR κ ad (C, R) ((o, .inl (κ.2.1 2, 1, .inr (.inr (.inr (.inl g))))) :: T) h) ∨ (¬ gfir C < 1 ∧ v = some (.int 0) ∧ ∃ g : Nat → UInt64, g 0 = FP.ddiv (FP.i2d (gdrk C)) (FP.i2d (gfir C)) ∧ gR κ ad (C, R) ((o, .inl (κ.2.1 2, 1, .inr (.inr (.inr (.inl g))))) :: T) h)
theorem gfd {a b : Int32} (h : ¬ b < 1) : vf_n64 (FP.f2d (FP.fdiv (FP.i2f a) (FP.i2f b))) := gnn64 (by
  have h1 := FP.f2d_nan (FP.fdiv (FP.i2f a) (FP.i2f b))
  rw [show FP.Core.dIsNaN (FP.f2d (FP.fdiv (FP.i2f a) (FP.i2f b))) = FP.dIsNaN (FP.f2d (FP.fdiv (FP.i2f a) (FP.i2f b))) from rfl, h1]
  exact gfdiv (gnz1 h))
theorem qw_286 : Cond.classLink "GraphlineLaw" 13 "java/lang/IllegalArgumentException" ∈ gq_ws := gq_t2 (i := 20) rfl rfl
theorem qw_287 : Cond.classLink "GraphlineLaw" 15 "java/lang/IllegalStateException" ∈ gq_ws := gq_t2 (i := 21) rfl rfl
theorem qw_385 : Cond.classLink "GraphlineLaw" 21 "java/lang/UnsupportedOperationException" ∈ gq_ws := gq_t2 (i := 119) rfl rfl
theorem qw_542 : Cond.classLink "GraphlineLaw" 38 "java/lang/IndexOutOfBoundsException" ∈ gq_ws := gq_t3 (i := 36) rfl rfl
theorem qw_1161 : Cond.classLink "GraphlineLaw" 142 "java/lang/ArithmeticException" ∈ gq_ws := gq_t5 (i := 175) rfl rfl
theorem nc_IX : ("java/lang/IllegalArgumentException", "java/lang/IndexOutOfBoundsException") ∈ gq_nc := by decide +kernel
theorem nc_SI : ("java/lang/IllegalStateException", "java/lang/IllegalArgumentException") ∈ gq_nc := by decide +kernel
theorem nc_SU : ("java/lang/IllegalStateException", "java/lang/UnsupportedOperationException") ∈ gq_nc := by decide +kernel
theorem nc_SX : ("java/lang/IllegalStateException", "java/lang/IndexOutOfBoundsException") ∈ gq_nc := by decide +kernel
theorem nc_UI : ("java/lang/UnsupportedOperationException", "java/lang/IllegalArgumentException") ∈ gq_nc := by decide +kernel
theorem nc_UX : ("java/lang/UnsupportedOperationException", "java/lang/IndexOutOfBoundsException") ∈ gq_nc := by decide +kernel
theorem ca_I : ("java/lang/IllegalArgumentException", "java/lang/IllegalArgumentException") ∈ gq_ca := by decide +kernel
theorem ca_S : ("java/lang/IllegalStateException", "java/lang/IllegalStateException") ∈ gq_ca := by decide +kernel
theorem ca_U : ("java/lang/UnsupportedOperationException", "java/lang/UnsupportedOperationException") ∈ gq_ca := by decide +kernel
theorem ca_X : ("java/lang/IndexOutOfBoundsException", "java/lang/IndexOutOfBoundsException") ∈ gq_ca := by decide +kernel
theorem ca_A : ("java/lang/ArithmeticException", "java/lang/ArithmeticException") ∈ gq_ca := by decide +kernel
theorem w_go {κ : gq_K} {ad : gKey → Nat} {C R : gG} {T : List (Nat × va_E)} {n : Nat} (hI : gI n C) (o1 : Nat) (g : Nat → Int64) (a : Int32) : gq_C κ mL_go [.ref (ad (0, 0, 0)), .int (a), .ref (o1)] (gR κ ad (C, R) ((o1, .inl (κ.2.1 1, 1, .inr (.inl g))) :: T)) (gW κ ad R o1 T (F_go C a)) (gq_no) := by
  refine gq_enterW (by decide +kernel) rfl (Nat.le_of_ble_eq_true rfl) rfl (fun f o => ?_)
  have hC := hI.fix
  have hBC := hI.cnt
  have hM := hI.mach
  refine y_aload_n (pc := 0) o dL_go_0 rfl ?_
  refine y_iconst (pc := 1) (x := 0) o dL_go_1 (by decide) ?_
  refine y_aload_n (pc := 2) o dL_go_2 rfl ?_
  refine y_iload_n (pc := 3) o dL_go_3 rfl ?_
  refine y_callVH (pc := 4) (k := 0) (n := 0) o (b := ad (0, 0, 0)) (As := [.int (a)]) (rest := [.int (0), .ref (o1)]) (p_go hC hBC hM a) ln_L_7 dL_go_4 (z_rc (ci := 15) (K := (0, 0, 0)) rfl (gl_0 hC) rfl) rfl rfl (Nat.le_of_ble_eq_true rfl) ⟨by decide, by decide⟩ ⟨by decide, by decide⟩ (fun _ e => e) ?_ ?_
  · intro x h hE
    obtain ⟨hm, ad1, h0, h20, hr⟩ := hE
    simp only [List.mem_cons, List.not_mem_nil, or_false, Prod.mk.injEq] at hm
    rcases hm with ⟨rfl, hk⟩ | ⟨rfl, hk⟩
    · refine ⟨12, ⟨tableOf [], _, tableOf [(0, 9, 15, 15)], rfl, (fun z hz => absurd hz List.not_mem_nil), by decide, by decide, qw_286, ca_I, rfl⟩, fun q => ?_⟩
      refine y_lv [0] (lv' := [(0, .ref (ad (0, 0, 0)))]) rfl ?_
      refine y_astore_n (pc := 12) (i := 3) (lv' := [(3, .ref (q)), (0, .ref (ad (0, 0, 0)))]) o dL_go_12 rfl (by decide) rfl ?_
      refine y_iconst (pc := 13) (x := 1) o dL_go_13 (by decide) ?_
      exact y_iret (pc := 14) o dL_go_14 rfl (vp_nar_int _) (by decide) (by decide) (fun h9 e => by subst e; exact ⟨by rw [hk], _, ad1, fun z => absurd (hk.symm.trans z) (by decide), h0, h20, hr⟩)
    · refine ⟨15, ⟨tableOf [(0, 9, 12, 13)], _, tableOf [], rfl, (List.forall_mem_cons.mpr ⟨⟨by decide, _, qw_286, nc_SI⟩, (fun z hz => absurd hz List.not_mem_nil)⟩), by decide, by decide, qw_287, ca_S, rfl⟩, fun q => ?_⟩
      refine y_lv [0] (lv' := [(0, .ref (ad (0, 0, 0)))]) rfl ?_
      refine y_astore_n (pc := 15) (i := 3) (lv' := [(3, .ref (q)), (0, .ref (ad (0, 0, 0)))]) o dL_go_15 rfl (by decide) rfl ?_
      refine y_iconst (pc := 16) (x := 2) o dL_go_16 (by decide) ?_
      exact y_iret (pc := 17) o dL_go_17 rfl (vp_nar_int _) (by decide) (by decide) (fun h9 e => by subst e; exact ⟨by rw [hk], _, ad1, fun z => absurd (hk.symm.trans z) (by decide), h0, h20, hr⟩)
  refine fun v => y_and fun hz => y_and fun ev => y_ex fun ad1 => y_and fun h0 => y_and fun h20 => ?_
  subst ev
  refine z_st (st' := [.int ((F_go C a).2.1), .int (0), .ref (o1)]) rfl ?_
  refine y_i2l (pc := 7) o dL_go_7 ?_
  refine z_lastT (pc := 8) (i := 0) (x := ((F_go C a).2.1).toInt64) (T' := (o1, .inl (κ.2.1 1, 1, .inr (.inl (vp_updL g (0 : Int32).toNatClampNeg (((F_go C a).2.1).toInt64))))) :: T) o 0 dL_go_8 rfl (by unfold vp_in; decide) rfl ?_
  refine y_goto (pc := 9) (tgt := 18) o dL_go_9 rfl ?_
  refine y_iconst (pc := 18) (x := 0) o dL_go_18 (by decide) ?_
  exact y_iret (pc := 19) o dL_go_19 rfl (vp_nar_int _) (by decide) (by decide) (fun h hp => ⟨by rw [hz], _, ad1, fun _ => rfl, h0, h20, hp⟩)

theorem w_belt {κ : gq_K} {ad : gKey → Nat} {C R : gG} {T : List (Nat × va_E)} {n : Nat} (hI : gI n C) (o1 : Nat) (g : Nat → Int64) (a : Int32) (b : Int32) : gq_C κ mL_belt [.ref (ad (0, 0, 0)), .int (a), .int (b), .ref (o1)] (gR κ ad (C, R) ((o1, .inl (κ.2.1 1, 1, .inr (.inl g))) :: T)) (gW κ ad R o1 T (F_belt C a b)) (gq_no) := by
  refine gq_enterW (by decide +kernel) rfl (Nat.le_of_ble_eq_true rfl) rfl (fun f o => ?_)
  have hC := hI.fix
  have hBC := hI.cnt
  have hM := hI.mach
  refine y_aload_n (pc := 0) o dL_belt_0 rfl ?_
  refine y_iconst (pc := 1) (x := 0) o dL_belt_1 (by decide) ?_
  refine y_aload_n (pc := 2) o dL_belt_2 rfl ?_
  refine y_iload_n (pc := 3) o dL_belt_3 rfl ?_
  refine y_iload_n (pc := 4) o dL_belt_4 rfl ?_
  refine y_callVH (pc := 5) (k := 0) (n := 0) o (b := ad (0, 0, 0)) (As := [.int (a), .int (b)]) (rest := [.int (0), .ref (o1)]) (p_belt hC hBC hM a b) ln_L_17 dL_belt_5 (z_rc (ci := 15) (K := (0, 0, 0)) rfl (gl_0 hC) rfl) rfl rfl (Nat.le_of_ble_eq_true rfl) ⟨by decide, by decide⟩ ⟨by decide, by decide⟩ (fun _ e => e) ?_ ?_
  · intro x h hE
    obtain ⟨hm, ad1, h0, h20, hr⟩ := hE
    simp only [List.mem_cons, List.not_mem_nil, or_false, Prod.mk.injEq] at hm
    rcases hm with ⟨rfl, hk⟩ | ⟨rfl, hk⟩
    · refine ⟨13, ⟨tableOf [], _, tableOf [(0, 10, 17, 21)], rfl, (fun z hz => absurd hz List.not_mem_nil), by decide, by decide, qw_286, ca_I, rfl⟩, fun q => ?_⟩
      refine y_lv [0] (lv' := [(0, .ref (ad (0, 0, 0)))]) rfl ?_
      refine y_astore (pc := 13) (i := 4) (lv' := [(4, .ref (q)), (0, .ref (ad (0, 0, 0)))]) o dL_belt_13 (by decide) rfl ?_
      refine y_iconst (pc := 15) (x := 1) o dL_belt_15 (by decide) ?_
      exact y_iret (pc := 16) o dL_belt_16 rfl (vp_nar_int _) (by decide) (by decide) (fun h9 e => by subst e; exact ⟨by rw [hk], _, ad1, fun z => absurd (hk.symm.trans z) (by decide), h0, h20, hr⟩)
    · refine ⟨17, ⟨tableOf [(0, 10, 13, 13)], _, tableOf [], rfl, (List.forall_mem_cons.mpr ⟨⟨by decide, _, qw_286, nc_UI⟩, (fun z hz => absurd hz List.not_mem_nil)⟩), by decide, by decide, qw_385, ca_U, rfl⟩, fun q => ?_⟩
      refine y_lv [0] (lv' := [(0, .ref (ad (0, 0, 0)))]) rfl ?_
      refine y_astore (pc := 17) (i := 4) (lv' := [(4, .ref (q)), (0, .ref (ad (0, 0, 0)))]) o dL_belt_17 (by decide) rfl ?_
      refine y_iconst (pc := 19) (x := 2) o dL_belt_19 (by decide) ?_
      exact y_iret (pc := 20) o dL_belt_20 rfl (vp_nar_int _) (by decide) (by decide) (fun h9 e => by subst e; exact ⟨by rw [hk], _, ad1, fun z => absurd (hk.symm.trans z) (by decide), h0, h20, hr⟩)
  refine fun v => y_and fun hz => y_and fun ev => y_ex fun ad1 => y_and fun h0 => y_and fun h20 => ?_
  subst ev
  refine z_st (st' := [.int ((F_belt C a b).2.1), .int (0), .ref (o1)]) rfl ?_
  refine y_i2l (pc := 8) o dL_belt_8 ?_
  refine z_lastT (pc := 9) (i := 0) (x := ((F_belt C a b).2.1).toInt64) (T' := (o1, .inl (κ.2.1 1, 1, .inr (.inl (vp_updL g (0 : Int32).toNatClampNeg (((F_belt C a b).2.1).toInt64))))) :: T) o 0 dL_belt_9 rfl (by unfold vp_in; decide) rfl ?_
  refine y_goto (pc := 10) (tgt := 21) o dL_belt_10 rfl ?_
  refine y_iconst (pc := 21) (x := 0) o dL_belt_21 (by decide) ?_
  exact y_iret (pc := 22) o dL_belt_22 rfl (vp_nar_int _) (by decide) (by decide) (fun h hp => ⟨by rw [hz], _, ad1, fun _ => rfl, h0, h20, hp⟩)

theorem w_on {κ : gq_K} {ad : gKey → Nat} {C R : gG} {T : List (Nat × va_E)} {n : Nat} (hI : gI n C) (o1 : Nat) (g : Nat → Int64) (a : Int32) (p : Prop) [Decidable p] : gq_C κ mL_on [.ref (ad (0, 0, 0)), .int (a), .int (gb (p)), .ref (o1)] (gR κ ad (C, R) ((o1, .inl (κ.2.1 1, 1, .inr (.inl g))) :: T)) (gWb κ ad R o1 T (F_on C a (gb p))) (gq_no) := by
  refine gq_enterW (by decide +kernel) rfl (Nat.le_of_ble_eq_true rfl) rfl (fun f o => ?_)
  have hC := hI.fix
  have hBC := hI.cnt
  have hM := hI.mach
  refine y_aload_n (pc := 0) o dL_on_0 rfl ?_
  refine y_iconst (pc := 1) (x := 0) o dL_on_1 (by decide) ?_
  refine y_aload_n (pc := 2) o dL_on_2 rfl ?_
  refine y_iload_n (pc := 3) o dL_on_3 rfl ?_
  refine y_iload_n (pc := 4) o dL_on_4 rfl ?_
  refine y_callVH (pc := 5) (k := 0) (n := 0) o (b := ad (0, 0, 0)) (As := [.int (a), .int (gb (p))]) (rest := [.int (0), .ref (o1)]) (p_on hC hBC hM ⟨gbl_nar hI.2.1.2.2.1, fun i _ => gbl_nar (hI.2.1.2.2.2 i)⟩ a p) ln_L_23 dL_on_5 (z_rc (ci := 15) (K := (0, 0, 0)) rfl (gl_0 hC) rfl) rfl rfl (Nat.le_of_ble_eq_true rfl) ⟨by decide, by decide⟩ ⟨by decide, by decide⟩ (fun _ e => e) ?_ ?_
  · intro x h hE
    obtain ⟨hm, ad1, h0, h20, hr⟩ := hE
    simp only [List.mem_cons, List.not_mem_nil, or_false, Prod.mk.injEq] at hm
    rcases hm with ⟨rfl, hk⟩
    · refine ⟨20, ⟨tableOf [], _, tableOf [], rfl, (fun z hz => absurd hz List.not_mem_nil), by decide, by decide, qw_286, ca_I, rfl⟩, fun q => ?_⟩
      refine y_lv [0] (lv' := [(0, .ref (ad (0, 0, 0)))]) rfl ?_
      refine y_astore (pc := 20) (i := 4) (lv' := [(4, .ref (q)), (0, .ref (ad (0, 0, 0)))]) o dL_on_20 (by decide) rfl ?_
      refine y_iconst (pc := 22) (x := 1) o dL_on_22 (by decide) ?_
      exact y_iret (pc := 23) o dL_on_23 rfl (vp_nar_int _) (by decide) (by decide) (fun h9 e => by subst e; exact ⟨by rw [hk], _, ad1, fun z => absurd (hk.symm.trans z) (by decide), h0, h20, hr⟩)
  refine fun v => y_and fun hz => y_and fun ev => y_ex fun ad1 => y_and fun h0 => y_and fun h20 => ?_
  subst ev
  refine z_st (st' := [.int ((F_on C a (gb p)).2.1), .int (0), .ref (o1)]) rfl ?_
  refine y_if_eq (pc := 8) (tgt := 15) o dL_on_8 rfl (fun (b1 : ((F_on C a (gb p)).2.1) = 0) => ?_) (fun (b1 : ¬ ((F_on C a (gb p)).2.1) = 0) => ?_)
  · refine y_lconst (pc := 15) (x := 0) o dL_on_15 (by decide) ?_
    refine z_lastT (pc := 16) (i := 0) (x := 0) (T' := (o1, .inl (κ.2.1 1, 1, .inr (.inl (vp_updL g (0 : Int32).toNatClampNeg 0)))) :: T) o 0 dL_on_16 rfl (by unfold vp_in; decide) rfl ?_
    refine y_goto (pc := 17) (tgt := 24) o dL_on_17 rfl ?_
    refine y_iconst (pc := 24) (x := 0) o dL_on_24 (by decide) ?_
    exact y_iret (pc := 25) o dL_on_25 rfl (vp_nar_int _) (by decide) (by decide) (fun h hp => ⟨by rw [hz], _, ad1, fun _ => by rw [if_pos b1]; rfl, h0, h20, hp⟩)
  refine y_lconst (pc := 11) (x := 1) o dL_on_11 (by decide) ?_
  refine y_goto (pc := 12) (tgt := 16) o dL_on_12 rfl ?_
  refine z_lastT (pc := 16) (i := 0) (x := 1) (T' := (o1, .inl (κ.2.1 1, 1, .inr (.inl (vp_updL g (0 : Int32).toNatClampNeg 1)))) :: T) o 0 dL_on_16 rfl (by unfold vp_in; decide) rfl ?_
  refine y_goto (pc := 17) (tgt := 24) o dL_on_17 rfl ?_
  refine y_iconst (pc := 24) (x := 0) o dL_on_24 (by decide) ?_
  exact y_iret (pc := 25) o dL_on_25 rfl (vp_nar_int _) (by decide) (by decide) (fun h hp => ⟨by rw [hz], _, ad1, fun _ => by rw [if_neg b1]; rfl, h0, h20, hp⟩)

theorem w_runs {κ : gq_K} {ad : gKey → Nat} {C R : gG} {T : List (Nat × va_E)} {n : Nat} (hI : gI n C) (o1 : Nat) (g : Nat → Int64) (a : Int32) : gq_C κ mL_runs [.ref (ad (0, 0, 0)), .int (a), .ref (o1)] (gR κ ad (C, R) ((o1, .inl (κ.2.1 1, 1, .inr (.inl g))) :: T)) (gWb κ ad R o1 T (F_runs C a)) (gq_no) := by
  refine gq_enterW (by decide +kernel) rfl (Nat.le_of_ble_eq_true rfl) rfl (fun f o => ?_)
  have hC := hI.fix
  have hBC := hI.cnt
  have hM := hI.mach
  refine y_aload_n (pc := 0) o dL_runs_0 rfl ?_
  refine y_iconst (pc := 1) (x := 0) o dL_runs_1 (by decide) ?_
  refine y_aload_n (pc := 2) o dL_runs_2 rfl ?_
  refine y_iload_n (pc := 3) o dL_runs_3 rfl ?_
  refine y_callVH (pc := 4) (k := 0) (n := 0) o (b := ad (0, 0, 0)) (As := [.int (a)]) (rest := [.int (0), .ref (o1)]) (p_runs hC hBC hM a) ln_L_27 dL_runs_4 (z_rc (ci := 15) (K := (0, 0, 0)) rfl (gl_0 hC) rfl) rfl rfl (Nat.le_of_ble_eq_true rfl) ⟨by decide, by decide⟩ ⟨by decide, by decide⟩ (fun _ e => e) ?_ ?_
  · intro x h hE
    obtain ⟨hm, ad1, h0, h20, hr⟩ := hE
    simp only [List.mem_cons, List.not_mem_nil, or_false, Prod.mk.injEq] at hm
    rcases hm with ⟨rfl, hk⟩
    · refine ⟨19, ⟨tableOf [], _, tableOf [], rfl, (fun z hz => absurd hz List.not_mem_nil), by decide, by decide, qw_286, ca_I, rfl⟩, fun q => ?_⟩
      refine y_lv [0] (lv' := [(0, .ref (ad (0, 0, 0)))]) rfl ?_
      refine y_astore_n (pc := 19) (i := 3) (lv' := [(3, .ref (q)), (0, .ref (ad (0, 0, 0)))]) o dL_runs_19 rfl (by decide) rfl ?_
      refine y_iconst (pc := 20) (x := 1) o dL_runs_20 (by decide) ?_
      exact y_iret (pc := 21) o dL_runs_21 rfl (vp_nar_int _) (by decide) (by decide) (fun h9 e => by subst e; exact ⟨by rw [hk], _, ad1, fun z => absurd (hk.symm.trans z) (by decide), h0, h20, hr⟩)
  refine fun v => y_and fun hz => y_and fun ev => y_ex fun ad1 => y_and fun h0 => y_and fun h20 => ?_
  subst ev
  refine z_st (st' := [.int ((F_runs C a).2.1), .int (0), .ref (o1)]) rfl ?_
  refine y_if_eq (pc := 7) (tgt := 14) o dL_runs_7 rfl (fun (b1 : ((F_runs C a).2.1) = 0) => ?_) (fun (b1 : ¬ ((F_runs C a).2.1) = 0) => ?_)
  · refine y_lconst (pc := 14) (x := 0) o dL_runs_14 (by decide) ?_
    refine z_lastT (pc := 15) (i := 0) (x := 0) (T' := (o1, .inl (κ.2.1 1, 1, .inr (.inl (vp_updL g (0 : Int32).toNatClampNeg 0)))) :: T) o 0 dL_runs_15 rfl (by unfold vp_in; decide) rfl ?_
    refine y_goto (pc := 16) (tgt := 22) o dL_runs_16 rfl ?_
    refine y_iconst (pc := 22) (x := 0) o dL_runs_22 (by decide) ?_
    exact y_iret (pc := 23) o dL_runs_23 rfl (vp_nar_int _) (by decide) (by decide) (fun h hp => ⟨by rw [hz], _, ad1, fun _ => by rw [if_pos b1]; rfl, h0, h20, hp⟩)
  refine y_lconst (pc := 10) (x := 1) o dL_runs_10 (by decide) ?_
  refine y_goto (pc := 11) (tgt := 15) o dL_runs_11 rfl ?_
  refine z_lastT (pc := 15) (i := 0) (x := 1) (T' := (o1, .inl (κ.2.1 1, 1, .inr (.inl (vp_updL g (0 : Int32).toNatClampNeg 1)))) :: T) o 0 dL_runs_15 rfl (by unfold vp_in; decide) rfl ?_
  refine y_goto (pc := 16) (tgt := 22) o dL_runs_16 rfl ?_
  refine y_iconst (pc := 22) (x := 0) o dL_runs_22 (by decide) ?_
  exact y_iret (pc := 23) o dL_runs_23 rfl (vp_nar_int _) (by decide) (by decide) (fun h hp => ⟨by rw [hz], _, ad1, fun _ => by rw [if_neg b1]; rfl, h0, h20, hp⟩)

theorem w_lot {κ : gq_K} {ad : gKey → Nat} {C R : gG} {T : List (Nat × va_E)} {n : Nat} (hI : gI n C) (o1 : Nat) (g : Nat → Int64) (a : Int32) (b : Int32) (c : Int32) (d : Int32) : gq_C κ mL_lot [.ref (ad (0, 0, 0)), .int (a), .int (b), .int (c), .int (d), .ref (o1)] (gR κ ad (C, R) ((o1, .inl (κ.2.1 1, 1, .inr (.inl g))) :: T)) (gW κ ad R o1 T (F_lot C a b c d)) (gq_no) := by
  refine gq_enterW (by decide +kernel) rfl (Nat.le_of_ble_eq_true rfl) rfl (fun f o => ?_)
  have hC := hI.fix
  have hBC := hI.cnt
  have hM := hI.mach
  refine y_aload (pc := 0) o dL_lot_0 rfl ?_
  refine y_iconst (pc := 2) (x := 0) o dL_lot_2 (by decide) ?_
  refine y_aload_n (pc := 3) o dL_lot_3 rfl ?_
  refine y_iload_n (pc := 4) o dL_lot_4 rfl ?_
  refine y_iload_n (pc := 5) o dL_lot_5 rfl ?_
  refine y_iload_n (pc := 6) o dL_lot_6 rfl ?_
  refine y_iload (pc := 7) o dL_lot_7 rfl ?_
  refine y_callVH (pc := 9) (k := 0) (n := 0) o (b := ad (0, 0, 0)) (As := [.int (a), .int (b), .int (c), .int (d)]) (rest := [.int (0), .ref (o1)]) (p_lot hC hBC hM a b c d) ln_L_31 dL_lot_9 (z_rc (ci := 15) (K := (0, 0, 0)) rfl (gl_0 hC) rfl) rfl rfl (Nat.le_of_ble_eq_true rfl) ⟨by decide, by decide⟩ ⟨by decide, by decide⟩ (fun _ e => e) ?_ ?_
  · intro x h hE
    obtain ⟨hm, ad1, h0, h20, hr⟩ := hE
    simp only [List.mem_cons, List.not_mem_nil, or_false, Prod.mk.injEq] at hm
    rcases hm with ⟨rfl, hk⟩ | ⟨rfl, hk⟩
    · refine ⟨17, ⟨tableOf [], _, tableOf [(0, 14, 21, 15)], rfl, (fun z hz => absurd hz List.not_mem_nil), by decide, by decide, qw_286, ca_I, rfl⟩, fun q => ?_⟩
      refine y_lv [0] (lv' := [(0, .ref (ad (0, 0, 0)))]) rfl ?_
      refine y_astore (pc := 17) (i := 6) (lv' := [(6, .ref (q)), (0, .ref (ad (0, 0, 0)))]) o dL_lot_17 (by decide) rfl ?_
      refine y_iconst (pc := 19) (x := 1) o dL_lot_19 (by decide) ?_
      exact y_iret (pc := 20) o dL_lot_20 rfl (vp_nar_int _) (by decide) (by decide) (fun h9 e => by subst e; exact ⟨by rw [hk], _, ad1, fun z => absurd (hk.symm.trans z) (by decide), h0, h20, hr⟩)
    · refine ⟨21, ⟨tableOf [(0, 14, 17, 13)], _, tableOf [], rfl, (List.forall_mem_cons.mpr ⟨⟨by decide, _, qw_286, nc_SI⟩, (fun z hz => absurd hz List.not_mem_nil)⟩), by decide, by decide, qw_287, ca_S, rfl⟩, fun q => ?_⟩
      refine y_lv [0] (lv' := [(0, .ref (ad (0, 0, 0)))]) rfl ?_
      refine y_astore (pc := 21) (i := 6) (lv' := [(6, .ref (q)), (0, .ref (ad (0, 0, 0)))]) o dL_lot_21 (by decide) rfl ?_
      refine y_iconst (pc := 23) (x := 2) o dL_lot_23 (by decide) ?_
      exact y_iret (pc := 24) o dL_lot_24 rfl (vp_nar_int _) (by decide) (by decide) (fun h9 e => by subst e; exact ⟨by rw [hk], _, ad1, fun z => absurd (hk.symm.trans z) (by decide), h0, h20, hr⟩)
  refine fun v => y_and fun hz => y_and fun ev => y_ex fun ad1 => y_and fun h0 => y_and fun h20 => ?_
  subst ev
  refine z_st (st' := [.int ((F_lot C a b c d).2.1), .int (0), .ref (o1)]) rfl ?_
  refine y_i2l (pc := 12) o dL_lot_12 ?_
  refine z_lastT (pc := 13) (i := 0) (x := ((F_lot C a b c d).2.1).toInt64) (T' := (o1, .inl (κ.2.1 1, 1, .inr (.inl (vp_updL g (0 : Int32).toNatClampNeg (((F_lot C a b c d).2.1).toInt64))))) :: T) o 0 dL_lot_13 rfl (by unfold vp_in; decide) rfl ?_
  refine y_goto (pc := 14) (tgt := 25) o dL_lot_14 rfl ?_
  refine y_iconst (pc := 25) (x := 0) o dL_lot_25 (by decide) ?_
  exact y_iret (pc := 26) o dL_lot_26 rfl (vp_nar_int _) (by decide) (by decide) (fun h hp => ⟨by rw [hz], _, ad1, fun _ => rfl, h0, h20, hp⟩)

theorem w_kilos {κ : gq_K} {ad : gKey → Nat} {C R : gG} {T : List (Nat × va_E)} {n : Nat} (hI : gI n C) (o1 : Nat) (g : Nat → Int64) (a : Int32) : gq_C κ mL_kilos [.ref (ad (0, 0, 0)), .int (a), .ref (o1)] (gR κ ad (C, R) ((o1, .inl (κ.2.1 1, 1, .inr (.inl g))) :: T)) (gW κ ad R o1 T (F_kilos C a)) (gq_no) := by
  refine gq_enterW (by decide +kernel) rfl (Nat.le_of_ble_eq_true rfl) rfl (fun f o => ?_)
  have hC := hI.fix
  have hBC := hI.cnt
  have hM := hI.mach
  refine y_aload_n (pc := 0) o dL_kilos_0 rfl ?_
  refine y_iconst (pc := 1) (x := 0) o dL_kilos_1 (by decide) ?_
  refine y_aload_n (pc := 2) o dL_kilos_2 rfl ?_
  refine y_iload_n (pc := 3) o dL_kilos_3 rfl ?_
  refine y_callVH (pc := 4) (k := 0) (n := 0) o (b := ad (0, 0, 0)) (As := [.int (a)]) (rest := [.int (0), .ref (o1)]) (p_kilos hC hBC hM a) ln_L_35 dL_kilos_4 (z_rc (ci := 15) (K := (0, 0, 0)) rfl (gl_0 hC) rfl) rfl rfl (Nat.le_of_ble_eq_true rfl) ⟨by decide, by decide⟩ ⟨by decide, by decide⟩ (fun _ e => e) ?_ ?_
  · intro x h hE
    obtain ⟨hm, ad1, h0, h20, hr⟩ := hE
    simp only [List.mem_cons, List.not_mem_nil, or_false, Prod.mk.injEq] at hm
    rcases hm with ⟨rfl, hk⟩
    · refine ⟨12, ⟨tableOf [], _, tableOf [], rfl, (fun z hz => absurd hz List.not_mem_nil), by decide, by decide, qw_542, ca_X, rfl⟩, fun q => ?_⟩
      refine y_lv [0] (lv' := [(0, .ref (ad (0, 0, 0)))]) rfl ?_
      refine y_astore_n (pc := 12) (i := 3) (lv' := [(3, .ref (q)), (0, .ref (ad (0, 0, 0)))]) o dL_kilos_12 rfl (by decide) rfl ?_
      refine y_iconst (pc := 13) (x := 1) o dL_kilos_13 (by decide) ?_
      exact y_iret (pc := 14) o dL_kilos_14 rfl (vp_nar_int _) (by decide) (by decide) (fun h9 e => by subst e; exact ⟨by rw [hk], _, ad1, fun z => absurd (hk.symm.trans z) (by decide), h0, h20, hr⟩)
  refine fun v => y_and fun hz => y_and fun ev => y_ex fun ad1 => y_and fun h0 => y_and fun h20 => ?_
  subst ev
  refine z_st (st' := [.int ((F_kilos C a).2.1), .int (0), .ref (o1)]) rfl ?_
  refine y_i2l (pc := 7) o dL_kilos_7 ?_
  refine z_lastT (pc := 8) (i := 0) (x := ((F_kilos C a).2.1).toInt64) (T' := (o1, .inl (κ.2.1 1, 1, .inr (.inl (vp_updL g (0 : Int32).toNatClampNeg (((F_kilos C a).2.1).toInt64))))) :: T) o 0 dL_kilos_8 rfl (by unfold vp_in; decide) rfl ?_
  refine y_goto (pc := 9) (tgt := 15) o dL_kilos_9 rfl ?_
  refine y_iconst (pc := 15) (x := 0) o dL_kilos_15 (by decide) ?_
  exact y_iret (pc := 16) o dL_kilos_16 rfl (vp_nar_int _) (by decide) (by decide) (fun h hp => ⟨by rw [hz], _, ad1, fun _ => rfl, h0, h20, hp⟩)

theorem w_mix {κ : gq_K} {ad : gKey → Nat} {C R : gG} {T : List (Nat × va_E)} {n : Nat} (hI : gI n C) (o1 : Nat) (g : Nat → Int64) (a : Int32) (b : Int32) (c : Int32) (d : Int32) (e : Int32) : gq_C κ mL_mix [.ref (ad (0, 0, 0)), .int (a), .int (b), .int (c), .int (d), .int (e), .ref (o1)] (gR κ ad (C, R) ((o1, .inl (κ.2.1 1, 1, .inr (.inl g))) :: T)) (gW κ ad R o1 T (F_mix C a b c d e)) (gq_no) := by
  refine gq_enterW (by decide +kernel) rfl (Nat.le_of_ble_eq_true rfl) rfl (fun f o => ?_)
  have hC := hI.fix
  have hBC := hI.cnt
  have hM := hI.mach
  refine y_aload (pc := 0) o dL_mix_0 rfl ?_
  refine y_iconst (pc := 2) (x := 0) o dL_mix_2 (by decide) ?_
  refine y_aload_n (pc := 3) o dL_mix_3 rfl ?_
  refine y_iload_n (pc := 4) o dL_mix_4 rfl ?_
  refine y_iload_n (pc := 5) o dL_mix_5 rfl ?_
  refine y_iload_n (pc := 6) o dL_mix_6 rfl ?_
  refine y_iload (pc := 7) o dL_mix_7 rfl ?_
  refine y_iload (pc := 9) o dL_mix_9 rfl ?_
  refine y_callVH (pc := 11) (k := 0) (n := 0) o (b := ad (0, 0, 0)) (As := [.int (a), .int (b), .int (c), .int (d), .int (e)]) (rest := [.int (0), .ref (o1)]) (p_mix hC hBC hM hI.2.2.2.1 a b c d e) ln_L_40 dL_mix_11 (z_rc (ci := 15) (K := (0, 0, 0)) rfl (gl_0 hC) rfl) rfl rfl (Nat.le_of_ble_eq_true rfl) ⟨by decide, by decide⟩ ⟨by decide, by decide⟩ (fun _ e => e) ?_ ?_
  · intro x h hE
    obtain ⟨hm, ad1, h0, h20, hr⟩ := hE
    simp only [List.mem_cons, List.not_mem_nil, or_false, Prod.mk.injEq] at hm
    rcases hm with ⟨rfl, hk⟩ | ⟨rfl, hk⟩ | ⟨rfl, hk⟩ | ⟨rfl, hk⟩
    · refine ⟨19, ⟨tableOf [], _, tableOf [(0, 16, 23, 13), (0, 16, 27, 21), (0, 16, 31, 15)], rfl, (fun z hz => absurd hz List.not_mem_nil), by decide, by decide, qw_542, ca_X, rfl⟩, fun q => ?_⟩
      refine y_lv [0] (lv' := [(0, .ref (ad (0, 0, 0)))]) rfl ?_
      refine y_astore (pc := 19) (i := 7) (lv' := [(7, .ref (q)), (0, .ref (ad (0, 0, 0)))]) o dL_mix_19 (by decide) rfl ?_
      refine y_iconst (pc := 21) (x := 1) o dL_mix_21 (by decide) ?_
      exact y_iret (pc := 22) o dL_mix_22 rfl (vp_nar_int _) (by decide) (by decide) (fun h9 e => by subst e; exact ⟨by rw [hk], _, ad1, fun z => absurd (hk.symm.trans z) (by decide), h0, h20, hr⟩)
    · refine ⟨23, ⟨tableOf [(0, 16, 19, 38)], _, tableOf [(0, 16, 27, 21), (0, 16, 31, 15)], rfl, (List.forall_mem_cons.mpr ⟨⟨by decide, _, qw_542, nc_IX⟩, (fun z hz => absurd hz List.not_mem_nil)⟩), by decide, by decide, qw_286, ca_I, rfl⟩, fun q => ?_⟩
      refine y_lv [0] (lv' := [(0, .ref (ad (0, 0, 0)))]) rfl ?_
      refine y_astore (pc := 23) (i := 7) (lv' := [(7, .ref (q)), (0, .ref (ad (0, 0, 0)))]) o dL_mix_23 (by decide) rfl ?_
      refine y_iconst (pc := 25) (x := 2) o dL_mix_25 (by decide) ?_
      exact y_iret (pc := 26) o dL_mix_26 rfl (vp_nar_int _) (by decide) (by decide) (fun h9 e => by subst e; exact ⟨by rw [hk], _, ad1, fun z => absurd (hk.symm.trans z) (by decide), h0, h20, hr⟩)
    · refine ⟨27, ⟨tableOf [(0, 16, 19, 38), (0, 16, 23, 13)], _, tableOf [(0, 16, 31, 15)], rfl, (List.forall_mem_cons.mpr ⟨⟨by decide, _, qw_542, nc_UX⟩, (List.forall_mem_cons.mpr ⟨⟨by decide, _, qw_286, nc_UI⟩, (fun z hz => absurd hz List.not_mem_nil)⟩)⟩), by decide, by decide, qw_385, ca_U, rfl⟩, fun q => ?_⟩
      refine y_lv [0] (lv' := [(0, .ref (ad (0, 0, 0)))]) rfl ?_
      refine y_astore (pc := 27) (i := 7) (lv' := [(7, .ref (q)), (0, .ref (ad (0, 0, 0)))]) o dL_mix_27 (by decide) rfl ?_
      refine y_iconst (pc := 29) (x := 3) o dL_mix_29 (by decide) ?_
      exact y_iret (pc := 30) o dL_mix_30 rfl (vp_nar_int _) (by decide) (by decide) (fun h9 e => by subst e; exact ⟨by rw [hk], _, ad1, fun z => absurd (hk.symm.trans z) (by decide), h0, h20, hr⟩)
    · refine ⟨31, ⟨tableOf [(0, 16, 19, 38), (0, 16, 23, 13), (0, 16, 27, 21)], _, tableOf [], rfl, (List.forall_mem_cons.mpr ⟨⟨by decide, _, qw_542, nc_SX⟩, (List.forall_mem_cons.mpr ⟨⟨by decide, _, qw_286, nc_SI⟩, (List.forall_mem_cons.mpr ⟨⟨by decide, _, qw_385, nc_SU⟩, (fun z hz => absurd hz List.not_mem_nil)⟩)⟩)⟩), by decide, by decide, qw_287, ca_S, rfl⟩, fun q => ?_⟩
      refine y_lv [0] (lv' := [(0, .ref (ad (0, 0, 0)))]) rfl ?_
      refine y_astore (pc := 31) (i := 7) (lv' := [(7, .ref (q)), (0, .ref (ad (0, 0, 0)))]) o dL_mix_31 (by decide) rfl ?_
      refine y_iconst (pc := 33) (x := 4) o dL_mix_33 (by decide) ?_
      exact y_iret (pc := 34) o dL_mix_34 rfl (vp_nar_int _) (by decide) (by decide) (fun h9 e => by subst e; exact ⟨by rw [hk], _, ad1, fun z => absurd (hk.symm.trans z) (by decide), h0, h20, hr⟩)
  refine fun v => y_and fun hz => y_and fun ev => y_ex fun ad1 => y_and fun h0 => y_and fun h20 => ?_
  subst ev
  refine z_st (st' := [.int ((F_mix C a b c d e).2.1), .int (0), .ref (o1)]) rfl ?_
  refine y_i2l (pc := 14) o dL_mix_14 ?_
  refine z_lastT (pc := 15) (i := 0) (x := ((F_mix C a b c d e).2.1).toInt64) (T' := (o1, .inl (κ.2.1 1, 1, .inr (.inl (vp_updL g (0 : Int32).toNatClampNeg (((F_mix C a b c d e).2.1).toInt64))))) :: T) o 0 dL_mix_15 rfl (by unfold vp_in; decide) rfl ?_
  refine y_goto (pc := 16) (tgt := 35) o dL_mix_16 rfl ?_
  refine y_iconst (pc := 35) (x := 0) o dL_mix_35 (by decide) ?_
  exact y_iret (pc := 36) o dL_mix_36 rfl (vp_nar_int _) (by decide) (by decide) (fun h hp => ⟨by rw [hz], _, ad1, fun _ => rfl, h0, h20, hp⟩)

theorem w_mixture {κ : gq_K} {ad : gKey → Nat} {C R : gG} {T : List (Nat × va_E)} {n : Nat} (hI : gI n C) (o1 : Nat) (g : Nat → Int64) (a : Int32) (b : Int32) : gq_C κ mL_mixture [.ref (ad (0, 0, 0)), .int (a), .int (b), .ref (o1)] (gR κ ad (C, R) ((o1, .inl (κ.2.1 1, 1, .inr (.inl g))) :: T)) (gW κ ad R o1 T (F_mixture C a b)) (gq_no) := by
  refine gq_enterW (by decide +kernel) rfl (Nat.le_of_ble_eq_true rfl) rfl (fun f o => ?_)
  have hC := hI.fix
  have hBC := hI.cnt
  have hM := hI.mach
  refine y_aload_n (pc := 0) o dL_mixture_0 rfl ?_
  refine y_iconst (pc := 1) (x := 0) o dL_mixture_1 (by decide) ?_
  refine y_aload_n (pc := 2) o dL_mixture_2 rfl ?_
  refine y_iload_n (pc := 3) o dL_mixture_3 rfl ?_
  refine y_iload_n (pc := 4) o dL_mixture_4 rfl ?_
  refine y_callVH (pc := 5) (k := 0) (n := 0) o (b := ad (0, 0, 0)) (As := [.int (a), .int (b)]) (rest := [.int (0), .ref (o1)]) (p_mixture hC hBC hM a b) ln_L_44 dL_mixture_5 (z_rc (ci := 15) (K := (0, 0, 0)) rfl (gl_0 hC) rfl) rfl rfl (Nat.le_of_ble_eq_true rfl) ⟨by decide, by decide⟩ ⟨by decide, by decide⟩ (fun _ e => e) ?_ ?_
  · intro x h hE
    obtain ⟨hm, ad1, h0, h20, hr⟩ := hE
    simp only [List.mem_cons, List.not_mem_nil, or_false, Prod.mk.injEq] at hm
    rcases hm with ⟨rfl, hk⟩ | ⟨rfl, hk⟩
    · refine ⟨13, ⟨tableOf [], _, tableOf [(0, 10, 17, 13)], rfl, (fun z hz => absurd hz List.not_mem_nil), by decide, by decide, qw_542, ca_X, rfl⟩, fun q => ?_⟩
      refine y_lv [0] (lv' := [(0, .ref (ad (0, 0, 0)))]) rfl ?_
      refine y_astore (pc := 13) (i := 4) (lv' := [(4, .ref (q)), (0, .ref (ad (0, 0, 0)))]) o dL_mixture_13 (by decide) rfl ?_
      refine y_iconst (pc := 15) (x := 1) o dL_mixture_15 (by decide) ?_
      exact y_iret (pc := 16) o dL_mixture_16 rfl (vp_nar_int _) (by decide) (by decide) (fun h9 e => by subst e; exact ⟨by rw [hk], _, ad1, fun z => absurd (hk.symm.trans z) (by decide), h0, h20, hr⟩)
    · refine ⟨17, ⟨tableOf [(0, 10, 13, 38)], _, tableOf [], rfl, (List.forall_mem_cons.mpr ⟨⟨by decide, _, qw_542, nc_IX⟩, (fun z hz => absurd hz List.not_mem_nil)⟩), by decide, by decide, qw_286, ca_I, rfl⟩, fun q => ?_⟩
      refine y_lv [0] (lv' := [(0, .ref (ad (0, 0, 0)))]) rfl ?_
      refine y_astore (pc := 17) (i := 4) (lv' := [(4, .ref (q)), (0, .ref (ad (0, 0, 0)))]) o dL_mixture_17 (by decide) rfl ?_
      refine y_iconst (pc := 19) (x := 2) o dL_mixture_19 (by decide) ?_
      exact y_iret (pc := 20) o dL_mixture_20 rfl (vp_nar_int _) (by decide) (by decide) (fun h9 e => by subst e; exact ⟨by rw [hk], _, ad1, fun z => absurd (hk.symm.trans z) (by decide), h0, h20, hr⟩)
  refine fun v => y_and fun hz => y_and fun ev => y_ex fun ad1 => y_and fun h0 => y_and fun h20 => ?_
  subst ev
  refine z_st (st' := [.int ((F_mixture C a b).2.1), .int (0), .ref (o1)]) rfl ?_
  refine y_i2l (pc := 8) o dL_mixture_8 ?_
  refine z_lastT (pc := 9) (i := 0) (x := ((F_mixture C a b).2.1).toInt64) (T' := (o1, .inl (κ.2.1 1, 1, .inr (.inl (vp_updL g (0 : Int32).toNatClampNeg (((F_mixture C a b).2.1).toInt64))))) :: T) o 0 dL_mixture_9 rfl (by unfold vp_in; decide) rfl ?_
  refine y_goto (pc := 10) (tgt := 21) o dL_mixture_10 rfl ?_
  refine y_iconst (pc := 21) (x := 0) o dL_mixture_21 (by decide) ?_
  exact y_iret (pc := 22) o dL_mixture_22 rfl (vp_nar_int _) (by decide) (by decide) (fun h hp => ⟨by rw [hz], _, ad1, fun _ => rfl, h0, h20, hp⟩)

theorem w_press {κ : gq_K} {ad : gKey → Nat} {C R : gG} {T : List (Nat × va_E)} {n : Nat} (hI : gI n C) (o1 : Nat) (g : Nat → Int64) (a : Int32) (b : Int32) (c : Int32) : gq_C κ mL_press [.ref (ad (0, 0, 0)), .int (a), .int (b), .int (c), .ref (o1)] (gR κ ad (C, R) ((o1, .inl (κ.2.1 1, 1, .inr (.inl g))) :: T)) (gW κ ad R o1 T (F_press C a b c)) (gq_no) := by
  refine gq_enterW (by decide +kernel) rfl (Nat.le_of_ble_eq_true rfl) rfl (fun f o => ?_)
  have hC := hI.fix
  have hBC := hI.cnt
  have hM := hI.mach
  refine y_aload (pc := 0) o dL_press_0 rfl ?_
  refine y_iconst (pc := 2) (x := 0) o dL_press_2 (by decide) ?_
  refine y_aload_n (pc := 3) o dL_press_3 rfl ?_
  refine y_iload_n (pc := 4) o dL_press_4 rfl ?_
  refine y_iload_n (pc := 5) o dL_press_5 rfl ?_
  refine y_iload_n (pc := 6) o dL_press_6 rfl ?_
  refine y_callVH (pc := 7) (k := 0) (n := 0) o (b := ad (0, 0, 0)) (As := [.int (a), .int (b), .int (c)]) (rest := [.int (0), .ref (o1)]) (p_press hC hBC hM a b c) ln_L_48 dL_press_7 (z_rc (ci := 15) (K := (0, 0, 0)) rfl (gl_0 hC) rfl) rfl rfl (Nat.le_of_ble_eq_true rfl) ⟨by decide, by decide⟩ ⟨by decide, by decide⟩ (fun _ e => e) ?_ ?_
  · intro x h hE
    obtain ⟨hm, ad1, h0, h20, hr⟩ := hE
    simp only [List.mem_cons, List.not_mem_nil, or_false, Prod.mk.injEq] at hm
    rcases hm with ⟨rfl, hk⟩ | ⟨rfl, hk⟩ | ⟨rfl, hk⟩ | ⟨rfl, hk⟩
    · refine ⟨15, ⟨tableOf [], _, tableOf [(0, 12, 19, 13), (0, 12, 23, 21), (0, 12, 27, 15)], rfl, (fun z hz => absurd hz List.not_mem_nil), by decide, by decide, qw_542, ca_X, rfl⟩, fun q => ?_⟩
      refine y_lv [0] (lv' := [(0, .ref (ad (0, 0, 0)))]) rfl ?_
      refine y_astore (pc := 15) (i := 5) (lv' := [(5, .ref (q)), (0, .ref (ad (0, 0, 0)))]) o dL_press_15 (by decide) rfl ?_
      refine y_iconst (pc := 17) (x := 1) o dL_press_17 (by decide) ?_
      exact y_iret (pc := 18) o dL_press_18 rfl (vp_nar_int _) (by decide) (by decide) (fun h9 e => by subst e; exact ⟨by rw [hk], _, ad1, fun z => absurd (hk.symm.trans z) (by decide), h0, h20, hr⟩)
    · refine ⟨19, ⟨tableOf [(0, 12, 15, 38)], _, tableOf [(0, 12, 23, 21), (0, 12, 27, 15)], rfl, (List.forall_mem_cons.mpr ⟨⟨by decide, _, qw_542, nc_IX⟩, (fun z hz => absurd hz List.not_mem_nil)⟩), by decide, by decide, qw_286, ca_I, rfl⟩, fun q => ?_⟩
      refine y_lv [0] (lv' := [(0, .ref (ad (0, 0, 0)))]) rfl ?_
      refine y_astore (pc := 19) (i := 5) (lv' := [(5, .ref (q)), (0, .ref (ad (0, 0, 0)))]) o dL_press_19 (by decide) rfl ?_
      refine y_iconst (pc := 21) (x := 2) o dL_press_21 (by decide) ?_
      exact y_iret (pc := 22) o dL_press_22 rfl (vp_nar_int _) (by decide) (by decide) (fun h9 e => by subst e; exact ⟨by rw [hk], _, ad1, fun z => absurd (hk.symm.trans z) (by decide), h0, h20, hr⟩)
    · refine ⟨23, ⟨tableOf [(0, 12, 15, 38), (0, 12, 19, 13)], _, tableOf [(0, 12, 27, 15)], rfl, (List.forall_mem_cons.mpr ⟨⟨by decide, _, qw_542, nc_UX⟩, (List.forall_mem_cons.mpr ⟨⟨by decide, _, qw_286, nc_UI⟩, (fun z hz => absurd hz List.not_mem_nil)⟩)⟩), by decide, by decide, qw_385, ca_U, rfl⟩, fun q => ?_⟩
      refine y_lv [0] (lv' := [(0, .ref (ad (0, 0, 0)))]) rfl ?_
      refine y_astore (pc := 23) (i := 5) (lv' := [(5, .ref (q)), (0, .ref (ad (0, 0, 0)))]) o dL_press_23 (by decide) rfl ?_
      refine y_iconst (pc := 25) (x := 3) o dL_press_25 (by decide) ?_
      exact y_iret (pc := 26) o dL_press_26 rfl (vp_nar_int _) (by decide) (by decide) (fun h9 e => by subst e; exact ⟨by rw [hk], _, ad1, fun z => absurd (hk.symm.trans z) (by decide), h0, h20, hr⟩)
    · refine ⟨27, ⟨tableOf [(0, 12, 15, 38), (0, 12, 19, 13), (0, 12, 23, 21)], _, tableOf [], rfl, (List.forall_mem_cons.mpr ⟨⟨by decide, _, qw_542, nc_SX⟩, (List.forall_mem_cons.mpr ⟨⟨by decide, _, qw_286, nc_SI⟩, (List.forall_mem_cons.mpr ⟨⟨by decide, _, qw_385, nc_SU⟩, (fun z hz => absurd hz List.not_mem_nil)⟩)⟩)⟩), by decide, by decide, qw_287, ca_S, rfl⟩, fun q => ?_⟩
      refine y_lv [0] (lv' := [(0, .ref (ad (0, 0, 0)))]) rfl ?_
      refine y_astore (pc := 27) (i := 5) (lv' := [(5, .ref (q)), (0, .ref (ad (0, 0, 0)))]) o dL_press_27 (by decide) rfl ?_
      refine y_iconst (pc := 29) (x := 4) o dL_press_29 (by decide) ?_
      exact y_iret (pc := 30) o dL_press_30 rfl (vp_nar_int _) (by decide) (by decide) (fun h9 e => by subst e; exact ⟨by rw [hk], _, ad1, fun z => absurd (hk.symm.trans z) (by decide), h0, h20, hr⟩)
  refine fun v => y_and fun hz => y_and fun ev => y_ex fun ad1 => y_and fun h0 => y_and fun h20 => ?_
  subst ev
  refine z_st (st' := [.int ((F_press C a b c).2.1), .int (0), .ref (o1)]) rfl ?_
  refine y_i2l (pc := 10) o dL_press_10 ?_
  refine z_lastT (pc := 11) (i := 0) (x := ((F_press C a b c).2.1).toInt64) (T' := (o1, .inl (κ.2.1 1, 1, .inr (.inl (vp_updL g (0 : Int32).toNatClampNeg (((F_press C a b c).2.1).toInt64))))) :: T) o 0 dL_press_11 rfl (by unfold vp_in; decide) rfl ?_
  refine y_goto (pc := 12) (tgt := 31) o dL_press_12 rfl ?_
  refine y_iconst (pc := 31) (x := 0) o dL_press_31 (by decide) ?_
  exact y_iret (pc := 32) o dL_press_32 rfl (vp_nar_int _) (by decide) (by decide) (fun h hp => ⟨by rw [hz], _, ad1, fun _ => rfl, h0, h20, hp⟩)

theorem w_worn {κ : gq_K} {ad : gKey → Nat} {C R : gG} {T : List (Nat × va_E)} {n : Nat} (hI : gI n C) (o1 : Nat) (g : Nat → Int64) (a : Int32) : gq_C κ mL_worn [.ref (ad (0, 0, 0)), .int (a), .ref (o1)] (gR κ ad (C, R) ((o1, .inl (κ.2.1 1, 1, .inr (.inl g))) :: T)) (gW κ ad R o1 T (F_worn C a)) (gq_no) := by
  refine gq_enterW (by decide +kernel) rfl (Nat.le_of_ble_eq_true rfl) rfl (fun f o => ?_)
  have hC := hI.fix
  have hBC := hI.cnt
  have hM := hI.mach
  refine y_aload_n (pc := 0) o dL_worn_0 rfl ?_
  refine y_iconst (pc := 1) (x := 0) o dL_worn_1 (by decide) ?_
  refine y_aload_n (pc := 2) o dL_worn_2 rfl ?_
  refine y_iload_n (pc := 3) o dL_worn_3 rfl ?_
  refine y_callVH (pc := 4) (k := 0) (n := 0) o (b := ad (0, 0, 0)) (As := [.int (a)]) (rest := [.int (0), .ref (o1)]) (p_worn hC hBC hM a) ln_L_52 dL_worn_4 (z_rc (ci := 15) (K := (0, 0, 0)) rfl (gl_0 hC) rfl) rfl rfl (Nat.le_of_ble_eq_true rfl) ⟨by decide, by decide⟩ ⟨by decide, by decide⟩ (fun _ e => e) ?_ ?_
  · intro x h hE
    obtain ⟨hm, ad1, h0, h20, hr⟩ := hE
    simp only [List.mem_cons, List.not_mem_nil, or_false, Prod.mk.injEq] at hm
    rcases hm with ⟨rfl, hk⟩
    · refine ⟨12, ⟨tableOf [], _, tableOf [], rfl, (fun z hz => absurd hz List.not_mem_nil), by decide, by decide, qw_286, ca_I, rfl⟩, fun q => ?_⟩
      refine y_lv [0] (lv' := [(0, .ref (ad (0, 0, 0)))]) rfl ?_
      refine y_astore_n (pc := 12) (i := 3) (lv' := [(3, .ref (q)), (0, .ref (ad (0, 0, 0)))]) o dL_worn_12 rfl (by decide) rfl ?_
      refine y_iconst (pc := 13) (x := 1) o dL_worn_13 (by decide) ?_
      exact y_iret (pc := 14) o dL_worn_14 rfl (vp_nar_int _) (by decide) (by decide) (fun h9 e => by subst e; exact ⟨by rw [hk], _, ad1, fun z => absurd (hk.symm.trans z) (by decide), h0, h20, hr⟩)
  refine fun v => y_and fun hz => y_and fun ev => y_ex fun ad1 => y_and fun h0 => y_and fun h20 => ?_
  subst ev
  refine z_st (st' := [.int ((F_worn C a).2.1), .int (0), .ref (o1)]) rfl ?_
  refine y_i2l (pc := 7) o dL_worn_7 ?_
  refine z_lastT (pc := 8) (i := 0) (x := ((F_worn C a).2.1).toInt64) (T' := (o1, .inl (κ.2.1 1, 1, .inr (.inl (vp_updL g (0 : Int32).toNatClampNeg (((F_worn C a).2.1).toInt64))))) :: T) o 0 dL_worn_8 rfl (by unfold vp_in; decide) rfl ?_
  refine y_goto (pc := 9) (tgt := 15) o dL_worn_9 rfl ?_
  refine y_iconst (pc := 15) (x := 0) o dL_worn_15 (by decide) ?_
  exact y_iret (pc := 16) o dL_worn_16 rfl (vp_nar_int _) (by decide) (by decide) (fun h hp => ⟨by rw [hz], _, ad1, fun _ => rfl, h0, h20, hp⟩)

theorem w_renew {κ : gq_K} {ad : gKey → Nat} {C R : gG} {T : List (Nat × va_E)} {n : Nat} (hI : gI n C) (o1 : Nat) (g : Nat → Int64) (a : Int32) : gq_C κ mL_renew [.ref (ad (0, 0, 0)), .int (a), .ref (o1)] (gR κ ad (C, R) ((o1, .inl (κ.2.1 1, 1, .inr (.inl g))) :: T)) (gW κ ad R o1 T (F_renew C a)) (gq_no) := by
  refine gq_enterW (by decide +kernel) rfl (Nat.le_of_ble_eq_true rfl) rfl (fun f o => ?_)
  have hC := hI.fix
  have hBC := hI.cnt
  have hM := hI.mach
  refine y_aload_n (pc := 0) o dL_renew_0 rfl ?_
  refine y_iconst (pc := 1) (x := 0) o dL_renew_1 (by decide) ?_
  refine y_aload_n (pc := 2) o dL_renew_2 rfl ?_
  refine y_iload_n (pc := 3) o dL_renew_3 rfl ?_
  refine y_callVH (pc := 4) (k := 0) (n := 0) o (b := ad (0, 0, 0)) (As := [.int (a)]) (rest := [.int (0), .ref (o1)]) (p_renew hC hBC hM a) ln_L_55 dL_renew_4 (z_rc (ci := 15) (K := (0, 0, 0)) rfl (gl_0 hC) rfl) rfl rfl (Nat.le_of_ble_eq_true rfl) ⟨by decide, by decide⟩ ⟨by decide, by decide⟩ (fun _ e => e) ?_ ?_
  · intro x h hE
    obtain ⟨hm, ad1, h0, h20, hr⟩ := hE
    simp only [List.mem_cons, List.not_mem_nil, or_false, Prod.mk.injEq] at hm
    rcases hm with ⟨rfl, hk⟩
    · refine ⟨12, ⟨tableOf [], _, tableOf [], rfl, (fun z hz => absurd hz List.not_mem_nil), by decide, by decide, qw_286, ca_I, rfl⟩, fun q => ?_⟩
      refine y_lv [0] (lv' := [(0, .ref (ad (0, 0, 0)))]) rfl ?_
      refine y_astore_n (pc := 12) (i := 3) (lv' := [(3, .ref (q)), (0, .ref (ad (0, 0, 0)))]) o dL_renew_12 rfl (by decide) rfl ?_
      refine y_iconst (pc := 13) (x := 1) o dL_renew_13 (by decide) ?_
      exact y_iret (pc := 14) o dL_renew_14 rfl (vp_nar_int _) (by decide) (by decide) (fun h9 e => by subst e; exact ⟨by rw [hk], _, ad1, fun z => absurd (hk.symm.trans z) (by decide), h0, h20, hr⟩)
  refine fun v => y_and fun hz => y_and fun ev => y_ex fun ad1 => y_and fun h0 => y_and fun h20 => ?_
  subst ev
  refine z_st (st' := [.int ((F_renew C a).2.1), .int (0), .ref (o1)]) rfl ?_
  refine y_i2l (pc := 7) o dL_renew_7 ?_
  refine z_lastT (pc := 8) (i := 0) (x := ((F_renew C a).2.1).toInt64) (T' := (o1, .inl (κ.2.1 1, 1, .inr (.inl (vp_updL g (0 : Int32).toNatClampNeg (((F_renew C a).2.1).toInt64))))) :: T) o 0 dL_renew_8 rfl (by unfold vp_in; decide) rfl ?_
  refine y_goto (pc := 9) (tgt := 15) o dL_renew_9 rfl ?_
  refine y_iconst (pc := 15) (x := 0) o dL_renew_15 (by decide) ?_
  exact y_iret (pc := 16) o dL_renew_16 rfl (vp_nar_int _) (by decide) (by decide) (fun h hp => ⟨by rw [hz], _, ad1, fun _ => rfl, h0, h20, hp⟩)

theorem w_dry {κ : gq_K} {ad : gKey → Nat} {C R : gG} {T : List (Nat × va_E)} {n : Nat} (hI : gI n C) (o1 : Nat) (g : Nat → Int64) (a : Int32) (b : Int32) : gq_C κ mL_dry [.ref (ad (0, 0, 0)), .int (a), .int (b), .ref (o1)] (gR κ ad (C, R) ((o1, .inl (κ.2.1 1, 1, .inr (.inl g))) :: T)) (gW κ ad R o1 T (F_dry C a b)) (gq_no) := by
  refine gq_enterW (by decide +kernel) rfl (Nat.le_of_ble_eq_true rfl) rfl (fun f o => ?_)
  have hC := hI.fix
  have hBC := hI.cnt
  have hM := hI.mach
  refine y_aload_n (pc := 0) o dL_dry_0 rfl ?_
  refine y_iconst (pc := 1) (x := 0) o dL_dry_1 (by decide) ?_
  refine y_aload_n (pc := 2) o dL_dry_2 rfl ?_
  refine y_iload_n (pc := 3) o dL_dry_3 rfl ?_
  refine y_iload_n (pc := 4) o dL_dry_4 rfl ?_
  refine y_callVH (pc := 5) (k := 0) (n := 0) o (b := ad (0, 0, 0)) (As := [.int (a), .int (b)]) (rest := [.int (0), .ref (o1)]) (p_dry hC hBC hM a b) ln_L_58 dL_dry_5 (z_rc (ci := 15) (K := (0, 0, 0)) rfl (gl_0 hC) rfl) rfl rfl (Nat.le_of_ble_eq_true rfl) ⟨by decide, by decide⟩ ⟨by decide, by decide⟩ (fun _ e => e) ?_ ?_
  · intro x h hE
    obtain ⟨hm, ad1, h0, h20, hr⟩ := hE
    simp only [List.mem_cons, List.not_mem_nil, or_false, Prod.mk.injEq] at hm
    rcases hm with ⟨rfl, hk⟩ | ⟨rfl, hk⟩ | ⟨rfl, hk⟩
    · refine ⟨13, ⟨tableOf [], _, tableOf [(0, 10, 17, 13), (0, 10, 21, 21)], rfl, (fun z hz => absurd hz List.not_mem_nil), by decide, by decide, qw_542, ca_X, rfl⟩, fun q => ?_⟩
      refine y_lv [0] (lv' := [(0, .ref (ad (0, 0, 0)))]) rfl ?_
      refine y_astore (pc := 13) (i := 4) (lv' := [(4, .ref (q)), (0, .ref (ad (0, 0, 0)))]) o dL_dry_13 (by decide) rfl ?_
      refine y_iconst (pc := 15) (x := 1) o dL_dry_15 (by decide) ?_
      exact y_iret (pc := 16) o dL_dry_16 rfl (vp_nar_int _) (by decide) (by decide) (fun h9 e => by subst e; exact ⟨by rw [hk], _, ad1, fun z => absurd (hk.symm.trans z) (by decide), h0, h20, hr⟩)
    · refine ⟨17, ⟨tableOf [(0, 10, 13, 38)], _, tableOf [(0, 10, 21, 21)], rfl, (List.forall_mem_cons.mpr ⟨⟨by decide, _, qw_542, nc_IX⟩, (fun z hz => absurd hz List.not_mem_nil)⟩), by decide, by decide, qw_286, ca_I, rfl⟩, fun q => ?_⟩
      refine y_lv [0] (lv' := [(0, .ref (ad (0, 0, 0)))]) rfl ?_
      refine y_astore (pc := 17) (i := 4) (lv' := [(4, .ref (q)), (0, .ref (ad (0, 0, 0)))]) o dL_dry_17 (by decide) rfl ?_
      refine y_iconst (pc := 19) (x := 2) o dL_dry_19 (by decide) ?_
      exact y_iret (pc := 20) o dL_dry_20 rfl (vp_nar_int _) (by decide) (by decide) (fun h9 e => by subst e; exact ⟨by rw [hk], _, ad1, fun z => absurd (hk.symm.trans z) (by decide), h0, h20, hr⟩)
    · refine ⟨21, ⟨tableOf [(0, 10, 13, 38), (0, 10, 17, 13)], _, tableOf [], rfl, (List.forall_mem_cons.mpr ⟨⟨by decide, _, qw_542, nc_UX⟩, (List.forall_mem_cons.mpr ⟨⟨by decide, _, qw_286, nc_UI⟩, (fun z hz => absurd hz List.not_mem_nil)⟩)⟩), by decide, by decide, qw_385, ca_U, rfl⟩, fun q => ?_⟩
      refine y_lv [0] (lv' := [(0, .ref (ad (0, 0, 0)))]) rfl ?_
      refine y_astore (pc := 21) (i := 4) (lv' := [(4, .ref (q)), (0, .ref (ad (0, 0, 0)))]) o dL_dry_21 (by decide) rfl ?_
      refine y_iconst (pc := 23) (x := 3) o dL_dry_23 (by decide) ?_
      exact y_iret (pc := 24) o dL_dry_24 rfl (vp_nar_int _) (by decide) (by decide) (fun h9 e => by subst e; exact ⟨by rw [hk], _, ad1, fun z => absurd (hk.symm.trans z) (by decide), h0, h20, hr⟩)
  refine fun v => y_and fun hz => y_and fun ev => y_ex fun ad1 => y_and fun h0 => y_and fun h20 => ?_
  subst ev
  refine z_st (st' := [.int ((F_dry C a b).2.1), .int (0), .ref (o1)]) rfl ?_
  refine y_i2l (pc := 8) o dL_dry_8 ?_
  refine z_lastT (pc := 9) (i := 0) (x := ((F_dry C a b).2.1).toInt64) (T' := (o1, .inl (κ.2.1 1, 1, .inr (.inl (vp_updL g (0 : Int32).toNatClampNeg (((F_dry C a b).2.1).toInt64))))) :: T) o 0 dL_dry_9 rfl (by unfold vp_in; decide) rfl ?_
  refine y_goto (pc := 10) (tgt := 25) o dL_dry_10 rfl ?_
  refine y_iconst (pc := 25) (x := 0) o dL_dry_25 (by decide) ?_
  exact y_iret (pc := 26) o dL_dry_26 rfl (vp_nar_int _) (by decide) (by decide) (fun h hp => ⟨by rw [hz], _, ad1, fun _ => rfl, h0, h20, hp⟩)

theorem w_fire {κ : gq_K} {ad : gKey → Nat} {C R : gG} {T : List (Nat × va_E)} {n : Nat} (hI : gI n C) (o1 : Nat) (g : Nat → Int64) (a : Int32) (b : Int32) (c : Int32) (d : Int32) : gq_C κ mL_fire [.ref (ad (0, 0, 0)), .int (a), .int (b), .int (c), .int (d), .ref (o1)] (gR κ ad (C, R) ((o1, .inl (κ.2.1 1, 1, .inr (.inl g))) :: T)) (gW κ ad R o1 T (F_fire C a b c d)) (gq_no) := by
  refine gq_enterW (by decide +kernel) rfl (Nat.le_of_ble_eq_true rfl) rfl (fun f o => ?_)
  have hC := hI.fix
  have hBC := hI.cnt
  have hM := hI.mach
  refine y_aload (pc := 0) o dL_fire_0 rfl ?_
  refine y_iconst (pc := 2) (x := 0) o dL_fire_2 (by decide) ?_
  refine y_aload_n (pc := 3) o dL_fire_3 rfl ?_
  refine y_iload_n (pc := 4) o dL_fire_4 rfl ?_
  refine y_iload_n (pc := 5) o dL_fire_5 rfl ?_
  refine y_iload_n (pc := 6) o dL_fire_6 rfl ?_
  refine y_iload (pc := 7) o dL_fire_7 rfl ?_
  refine y_callVH (pc := 9) (k := 0) (n := 0) o (b := ad (0, 0, 0)) (As := [.int (a), .int (b), .int (c), .int (d)]) (rest := [.int (0), .ref (o1)]) (p_fire hC hBC hM a b c d) ln_L_62 dL_fire_9 (z_rc (ci := 15) (K := (0, 0, 0)) rfl (gl_0 hC) rfl) rfl rfl (Nat.le_of_ble_eq_true rfl) ⟨by decide, by decide⟩ ⟨by decide, by decide⟩ (fun _ e => e) ?_ ?_
  · intro x h hE
    obtain ⟨hm, ad1, h0, h20, hr⟩ := hE
    simp only [List.mem_cons, List.not_mem_nil, or_false, Prod.mk.injEq] at hm
    rcases hm with ⟨rfl, hk⟩ | ⟨rfl, hk⟩ | ⟨rfl, hk⟩
    · refine ⟨17, ⟨tableOf [], _, tableOf [(0, 14, 21, 13), (0, 14, 25, 21)], rfl, (fun z hz => absurd hz List.not_mem_nil), by decide, by decide, qw_542, ca_X, rfl⟩, fun q => ?_⟩
      refine y_lv [0] (lv' := [(0, .ref (ad (0, 0, 0)))]) rfl ?_
      refine y_astore (pc := 17) (i := 6) (lv' := [(6, .ref (q)), (0, .ref (ad (0, 0, 0)))]) o dL_fire_17 (by decide) rfl ?_
      refine y_iconst (pc := 19) (x := 1) o dL_fire_19 (by decide) ?_
      exact y_iret (pc := 20) o dL_fire_20 rfl (vp_nar_int _) (by decide) (by decide) (fun h9 e => by subst e; exact ⟨by rw [hk], _, ad1, fun z => absurd (hk.symm.trans z) (by decide), h0, h20, hr⟩)
    · refine ⟨21, ⟨tableOf [(0, 14, 17, 38)], _, tableOf [(0, 14, 25, 21)], rfl, (List.forall_mem_cons.mpr ⟨⟨by decide, _, qw_542, nc_IX⟩, (fun z hz => absurd hz List.not_mem_nil)⟩), by decide, by decide, qw_286, ca_I, rfl⟩, fun q => ?_⟩
      refine y_lv [0] (lv' := [(0, .ref (ad (0, 0, 0)))]) rfl ?_
      refine y_astore (pc := 21) (i := 6) (lv' := [(6, .ref (q)), (0, .ref (ad (0, 0, 0)))]) o dL_fire_21 (by decide) rfl ?_
      refine y_iconst (pc := 23) (x := 2) o dL_fire_23 (by decide) ?_
      exact y_iret (pc := 24) o dL_fire_24 rfl (vp_nar_int _) (by decide) (by decide) (fun h9 e => by subst e; exact ⟨by rw [hk], _, ad1, fun z => absurd (hk.symm.trans z) (by decide), h0, h20, hr⟩)
    · refine ⟨25, ⟨tableOf [(0, 14, 17, 38), (0, 14, 21, 13)], _, tableOf [], rfl, (List.forall_mem_cons.mpr ⟨⟨by decide, _, qw_542, nc_UX⟩, (List.forall_mem_cons.mpr ⟨⟨by decide, _, qw_286, nc_UI⟩, (fun z hz => absurd hz List.not_mem_nil)⟩)⟩), by decide, by decide, qw_385, ca_U, rfl⟩, fun q => ?_⟩
      refine y_lv [0] (lv' := [(0, .ref (ad (0, 0, 0)))]) rfl ?_
      refine y_astore (pc := 25) (i := 6) (lv' := [(6, .ref (q)), (0, .ref (ad (0, 0, 0)))]) o dL_fire_25 (by decide) rfl ?_
      refine y_iconst (pc := 27) (x := 3) o dL_fire_27 (by decide) ?_
      exact y_iret (pc := 28) o dL_fire_28 rfl (vp_nar_int _) (by decide) (by decide) (fun h9 e => by subst e; exact ⟨by rw [hk], _, ad1, fun z => absurd (hk.symm.trans z) (by decide), h0, h20, hr⟩)
  refine fun v => y_and fun hz => y_and fun ev => y_ex fun ad1 => y_and fun h0 => y_and fun h20 => ?_
  subst ev
  refine z_st (st' := [.int ((F_fire C a b c d).2.1), .int (0), .ref (o1)]) rfl ?_
  refine y_i2l (pc := 12) o dL_fire_12 ?_
  refine z_lastT (pc := 13) (i := 0) (x := ((F_fire C a b c d).2.1).toInt64) (T' := (o1, .inl (κ.2.1 1, 1, .inr (.inl (vp_updL g (0 : Int32).toNatClampNeg (((F_fire C a b c d).2.1).toInt64))))) :: T) o 0 dL_fire_13 rfl (by unfold vp_in; decide) rfl ?_
  refine y_goto (pc := 14) (tgt := 29) o dL_fire_14 rfl ?_
  refine y_iconst (pc := 29) (x := 0) o dL_fire_29 (by decide) ?_
  exact y_iret (pc := 30) o dL_fire_30 rfl (vp_nar_int _) (by decide) (by decide) (fun h hp => ⟨by rw [hz], _, ad1, fun _ => rfl, h0, h20, hp⟩)

theorem w_soak {κ : gq_K} {ad : gKey → Nat} {C R : gG} {T : List (Nat × va_E)} {n : Nat} (hI : gI n C) (o1 : Nat) (g : Nat → Int64) (a : Int32) (b : Int32) : gq_C κ mL_soak [.ref (ad (0, 0, 0)), .int (a), .int (b), .ref (o1)] (gR κ ad (C, R) ((o1, .inl (κ.2.1 1, 1, .inr (.inl g))) :: T)) (gW κ ad R o1 T (F_soak C a b)) (gq_no) := by
  refine gq_enterW (by decide +kernel) rfl (Nat.le_of_ble_eq_true rfl) rfl (fun f o => ?_)
  have hC := hI.fix
  have hBC := hI.cnt
  have hM := hI.mach
  refine y_aload_n (pc := 0) o dL_soak_0 rfl ?_
  refine y_iconst (pc := 1) (x := 0) o dL_soak_1 (by decide) ?_
  refine y_aload_n (pc := 2) o dL_soak_2 rfl ?_
  refine y_iload_n (pc := 3) o dL_soak_3 rfl ?_
  refine y_iload_n (pc := 4) o dL_soak_4 rfl ?_
  refine y_callVH (pc := 5) (k := 0) (n := 0) o (b := ad (0, 0, 0)) (As := [.int (a), .int (b)]) (rest := [.int (0), .ref (o1)]) (p_soak hC hBC hM a b) ln_L_66 dL_soak_5 (z_rc (ci := 15) (K := (0, 0, 0)) rfl (gl_0 hC) rfl) rfl rfl (Nat.le_of_ble_eq_true rfl) ⟨by decide, by decide⟩ ⟨by decide, by decide⟩ (fun _ e => e) ?_ ?_
  · intro x h hE
    obtain ⟨hm, ad1, h0, h20, hr⟩ := hE
    simp only [List.mem_cons, List.not_mem_nil, or_false, Prod.mk.injEq] at hm
    rcases hm with ⟨rfl, hk⟩ | ⟨rfl, hk⟩ | ⟨rfl, hk⟩
    · refine ⟨13, ⟨tableOf [], _, tableOf [(0, 10, 17, 13), (0, 10, 21, 21)], rfl, (fun z hz => absurd hz List.not_mem_nil), by decide, by decide, qw_542, ca_X, rfl⟩, fun q => ?_⟩
      refine y_lv [0] (lv' := [(0, .ref (ad (0, 0, 0)))]) rfl ?_
      refine y_astore (pc := 13) (i := 4) (lv' := [(4, .ref (q)), (0, .ref (ad (0, 0, 0)))]) o dL_soak_13 (by decide) rfl ?_
      refine y_iconst (pc := 15) (x := 1) o dL_soak_15 (by decide) ?_
      exact y_iret (pc := 16) o dL_soak_16 rfl (vp_nar_int _) (by decide) (by decide) (fun h9 e => by subst e; exact ⟨by rw [hk], _, ad1, fun z => absurd (hk.symm.trans z) (by decide), h0, h20, hr⟩)
    · refine ⟨17, ⟨tableOf [(0, 10, 13, 38)], _, tableOf [(0, 10, 21, 21)], rfl, (List.forall_mem_cons.mpr ⟨⟨by decide, _, qw_542, nc_IX⟩, (fun z hz => absurd hz List.not_mem_nil)⟩), by decide, by decide, qw_286, ca_I, rfl⟩, fun q => ?_⟩
      refine y_lv [0] (lv' := [(0, .ref (ad (0, 0, 0)))]) rfl ?_
      refine y_astore (pc := 17) (i := 4) (lv' := [(4, .ref (q)), (0, .ref (ad (0, 0, 0)))]) o dL_soak_17 (by decide) rfl ?_
      refine y_iconst (pc := 19) (x := 2) o dL_soak_19 (by decide) ?_
      exact y_iret (pc := 20) o dL_soak_20 rfl (vp_nar_int _) (by decide) (by decide) (fun h9 e => by subst e; exact ⟨by rw [hk], _, ad1, fun z => absurd (hk.symm.trans z) (by decide), h0, h20, hr⟩)
    · refine ⟨21, ⟨tableOf [(0, 10, 13, 38), (0, 10, 17, 13)], _, tableOf [], rfl, (List.forall_mem_cons.mpr ⟨⟨by decide, _, qw_542, nc_UX⟩, (List.forall_mem_cons.mpr ⟨⟨by decide, _, qw_286, nc_UI⟩, (fun z hz => absurd hz List.not_mem_nil)⟩)⟩), by decide, by decide, qw_385, ca_U, rfl⟩, fun q => ?_⟩
      refine y_lv [0] (lv' := [(0, .ref (ad (0, 0, 0)))]) rfl ?_
      refine y_astore (pc := 21) (i := 4) (lv' := [(4, .ref (q)), (0, .ref (ad (0, 0, 0)))]) o dL_soak_21 (by decide) rfl ?_
      refine y_iconst (pc := 23) (x := 3) o dL_soak_23 (by decide) ?_
      exact y_iret (pc := 24) o dL_soak_24 rfl (vp_nar_int _) (by decide) (by decide) (fun h9 e => by subst e; exact ⟨by rw [hk], _, ad1, fun z => absurd (hk.symm.trans z) (by decide), h0, h20, hr⟩)
  refine fun v => y_and fun hz => y_and fun ev => y_ex fun ad1 => y_and fun h0 => y_and fun h20 => ?_
  subst ev
  refine z_st (st' := [.int ((F_soak C a b).2.1), .int (0), .ref (o1)]) rfl ?_
  refine y_i2l (pc := 8) o dL_soak_8 ?_
  refine z_lastT (pc := 9) (i := 0) (x := ((F_soak C a b).2.1).toInt64) (T' := (o1, .inl (κ.2.1 1, 1, .inr (.inl (vp_updL g (0 : Int32).toNatClampNeg (((F_soak C a b).2.1).toInt64))))) :: T) o 0 dL_soak_9 rfl (by unfold vp_in; decide) rfl ?_
  refine y_goto (pc := 10) (tgt := 25) o dL_soak_10 rfl ?_
  refine y_iconst (pc := 25) (x := 0) o dL_soak_25 (by decide) ?_
  exact y_iret (pc := 26) o dL_soak_26 rfl (vp_nar_int _) (by decide) (by decide) (fun h hp => ⟨by rw [hz], _, ad1, fun _ => rfl, h0, h20, hp⟩)

theorem w_batch {κ : gq_K} {ad : gKey → Nat} {C R : gG} {T : List (Nat × va_E)} {n : Nat} (hI : gI n C) (o1 : Nat) (g : Nat → Int64) (a : Int32) (b : Int32) : gq_C κ mL_batch [.ref (ad (0, 0, 0)), .int (a), .int (b), .ref (o1)] (gR κ ad (C, R) ((o1, .inl (κ.2.1 1, 1, .inr (.inl g))) :: T)) (gW κ ad R o1 T (F_batch C a b)) (gq_no) := by
  refine gq_enterW (by decide +kernel) rfl (Nat.le_of_ble_eq_true rfl) rfl (fun f o => ?_)
  have hC := hI.fix
  have hBC := hI.cnt
  have hM := hI.mach
  refine y_aload_n (pc := 0) o dL_batch_0 rfl ?_
  refine y_iconst (pc := 1) (x := 0) o dL_batch_1 (by decide) ?_
  refine y_aload_n (pc := 2) o dL_batch_2 rfl ?_
  refine y_iload_n (pc := 3) o dL_batch_3 rfl ?_
  refine y_iload_n (pc := 4) o dL_batch_4 rfl ?_
  refine y_callVH (pc := 5) (k := 0) (n := 0) o (b := ad (0, 0, 0)) (As := [.int (a), .int (b)]) (rest := [.int (0), .ref (o1)]) (p_batch hC hBC hM a b) ln_L_69 dL_batch_5 (z_rc (ci := 15) (K := (0, 0, 0)) rfl (gl_0 hC) rfl) rfl rfl (Nat.le_of_ble_eq_true rfl) ⟨by decide, by decide⟩ ⟨by decide, by decide⟩ (fun _ e => e) ?_ ?_
  · intro x h hE
    obtain ⟨hm, ad1, h0, h20, hr⟩ := hE
    simp only [List.mem_cons, List.not_mem_nil, or_false, Prod.mk.injEq] at hm
    rcases hm with ⟨rfl, hk⟩ | ⟨rfl, hk⟩
    · refine ⟨13, ⟨tableOf [], _, tableOf [(0, 10, 17, 13)], rfl, (fun z hz => absurd hz List.not_mem_nil), by decide, by decide, qw_542, ca_X, rfl⟩, fun q => ?_⟩
      refine y_lv [0] (lv' := [(0, .ref (ad (0, 0, 0)))]) rfl ?_
      refine y_astore (pc := 13) (i := 4) (lv' := [(4, .ref (q)), (0, .ref (ad (0, 0, 0)))]) o dL_batch_13 (by decide) rfl ?_
      refine y_iconst (pc := 15) (x := 1) o dL_batch_15 (by decide) ?_
      exact y_iret (pc := 16) o dL_batch_16 rfl (vp_nar_int _) (by decide) (by decide) (fun h9 e => by subst e; exact ⟨by rw [hk], _, ad1, fun z => absurd (hk.symm.trans z) (by decide), h0, h20, hr⟩)
    · refine ⟨17, ⟨tableOf [(0, 10, 13, 38)], _, tableOf [], rfl, (List.forall_mem_cons.mpr ⟨⟨by decide, _, qw_542, nc_IX⟩, (fun z hz => absurd hz List.not_mem_nil)⟩), by decide, by decide, qw_286, ca_I, rfl⟩, fun q => ?_⟩
      refine y_lv [0] (lv' := [(0, .ref (ad (0, 0, 0)))]) rfl ?_
      refine y_astore (pc := 17) (i := 4) (lv' := [(4, .ref (q)), (0, .ref (ad (0, 0, 0)))]) o dL_batch_17 (by decide) rfl ?_
      refine y_iconst (pc := 19) (x := 2) o dL_batch_19 (by decide) ?_
      exact y_iret (pc := 20) o dL_batch_20 rfl (vp_nar_int _) (by decide) (by decide) (fun h9 e => by subst e; exact ⟨by rw [hk], _, ad1, fun z => absurd (hk.symm.trans z) (by decide), h0, h20, hr⟩)
  refine fun v => y_and fun hz => y_and fun ev => y_ex fun ad1 => y_and fun h0 => y_and fun h20 => ?_
  subst ev
  refine z_st (st' := [.int ((F_batch C a b).2.1), .int (0), .ref (o1)]) rfl ?_
  refine y_i2l (pc := 8) o dL_batch_8 ?_
  refine z_lastT (pc := 9) (i := 0) (x := ((F_batch C a b).2.1).toInt64) (T' := (o1, .inl (κ.2.1 1, 1, .inr (.inl (vp_updL g (0 : Int32).toNatClampNeg (((F_batch C a b).2.1).toInt64))))) :: T) o 0 dL_batch_9 rfl (by unfold vp_in; decide) rfl ?_
  refine y_goto (pc := 10) (tgt := 21) o dL_batch_10 rfl ?_
  refine y_iconst (pc := 21) (x := 0) o dL_batch_21 (by decide) ?_
  exact y_iret (pc := 22) o dL_batch_22 rfl (vp_nar_int _) (by decide) (by decide) (fun h hp => ⟨by rw [hz], _, ad1, fun _ => rfl, h0, h20, hp⟩)

theorem w_draw {κ : gq_K} {ad : gKey → Nat} {C R : gG} {T : List (Nat × va_E)} {n : Nat} (hI : gI n C) (o1 : Nat) (g : Nat → Int64) (a : Int32) : gq_C κ mL_draw [.ref (ad (0, 0, 0)), .int (a), .ref (o1)] (gR κ ad (C, R) ((o1, .inl (κ.2.1 1, 1, .inr (.inl g))) :: T)) (gW κ ad R o1 T (F_draw C a)) (gq_no) := by
  refine gq_enterW (by decide +kernel) rfl (Nat.le_of_ble_eq_true rfl) rfl (fun f o => ?_)
  have hC := hI.fix
  have hBC := hI.cnt
  have hM := hI.mach
  refine y_aload_n (pc := 0) o dL_draw_0 rfl ?_
  refine y_iconst (pc := 1) (x := 0) o dL_draw_1 (by decide) ?_
  refine y_aload_n (pc := 2) o dL_draw_2 rfl ?_
  refine y_iload_n (pc := 3) o dL_draw_3 rfl ?_
  refine y_callVH (pc := 4) (k := 0) (n := 0) o (b := ad (0, 0, 0)) (As := [.int (a)]) (rest := [.int (0), .ref (o1)]) (p_draw hC hBC hM a) ln_L_72 dL_draw_4 (z_rc (ci := 15) (K := (0, 0, 0)) rfl (gl_0 hC) rfl) rfl rfl (Nat.le_of_ble_eq_true rfl) ⟨by decide, by decide⟩ ⟨by decide, by decide⟩ (fun _ e => e) ?_ ?_
  · intro x h hE
    obtain ⟨hm, ad1, h0, h20, hr⟩ := hE
    simp only [List.mem_cons, List.not_mem_nil, or_false, Prod.mk.injEq] at hm
    rcases hm with ⟨rfl, hk⟩ | ⟨rfl, hk⟩
    · refine ⟨12, ⟨tableOf [], _, tableOf [(0, 9, 15, 21)], rfl, (fun z hz => absurd hz List.not_mem_nil), by decide, by decide, qw_542, ca_X, rfl⟩, fun q => ?_⟩
      refine y_lv [0] (lv' := [(0, .ref (ad (0, 0, 0)))]) rfl ?_
      refine y_astore_n (pc := 12) (i := 3) (lv' := [(3, .ref (q)), (0, .ref (ad (0, 0, 0)))]) o dL_draw_12 rfl (by decide) rfl ?_
      refine y_iconst (pc := 13) (x := 1) o dL_draw_13 (by decide) ?_
      exact y_iret (pc := 14) o dL_draw_14 rfl (vp_nar_int _) (by decide) (by decide) (fun h9 e => by subst e; exact ⟨by rw [hk], _, ad1, fun z => absurd (hk.symm.trans z) (by decide), h0, h20, hr⟩)
    · refine ⟨15, ⟨tableOf [(0, 9, 12, 38)], _, tableOf [], rfl, (List.forall_mem_cons.mpr ⟨⟨by decide, _, qw_542, nc_UX⟩, (fun z hz => absurd hz List.not_mem_nil)⟩), by decide, by decide, qw_385, ca_U, rfl⟩, fun q => ?_⟩
      refine y_lv [0] (lv' := [(0, .ref (ad (0, 0, 0)))]) rfl ?_
      refine y_astore_n (pc := 15) (i := 3) (lv' := [(3, .ref (q)), (0, .ref (ad (0, 0, 0)))]) o dL_draw_15 rfl (by decide) rfl ?_
      refine y_iconst (pc := 16) (x := 2) o dL_draw_16 (by decide) ?_
      exact y_iret (pc := 17) o dL_draw_17 rfl (vp_nar_int _) (by decide) (by decide) (fun h9 e => by subst e; exact ⟨by rw [hk], _, ad1, fun z => absurd (hk.symm.trans z) (by decide), h0, h20, hr⟩)
  refine fun v => y_and fun hz => y_and fun ev => y_ex fun ad1 => y_and fun h0 => y_and fun h20 => ?_
  subst ev
  refine z_st (st' := [.int ((F_draw C a).2.1), .int (0), .ref (o1)]) rfl ?_
  refine y_i2l (pc := 7) o dL_draw_7 ?_
  refine z_lastT (pc := 8) (i := 0) (x := ((F_draw C a).2.1).toInt64) (T' := (o1, .inl (κ.2.1 1, 1, .inr (.inl (vp_updL g (0 : Int32).toNatClampNeg (((F_draw C a).2.1).toInt64))))) :: T) o 0 dL_draw_8 rfl (by unfold vp_in; decide) rfl ?_
  refine y_goto (pc := 9) (tgt := 18) o dL_draw_9 rfl ?_
  refine y_iconst (pc := 18) (x := 0) o dL_draw_18 (by decide) ?_
  exact y_iret (pc := 19) o dL_draw_19 rfl (vp_nar_int _) (by decide) (by decide) (fun h hp => ⟨by rw [hz], _, ad1, fun _ => rfl, h0, h20, hp⟩)

theorem w_slats {κ : gq_K} {ad : gKey → Nat} {C R : gG} {T : List (Nat × va_E)} {n : Nat} (hI : gI n C) (o1 : Nat) (g : Nat → Int64) (a : Int32) (b : Int32) (c : Int32) (d : Int32) : gq_C κ mL_slats [.ref (ad (0, 0, 0)), .int (a), .int (b), .int (c), .int (d), .ref (o1)] (gR κ ad (C, R) ((o1, .inl (κ.2.1 1, 1, .inr (.inl g))) :: T)) (gW κ ad R o1 T (F_slats C a b c d)) (gq_no) := by
  refine gq_enterW (by decide +kernel) rfl (Nat.le_of_ble_eq_true rfl) rfl (fun f o => ?_)
  have hC := hI.fix
  have hBC := hI.cnt
  have hM := hI.mach
  refine y_aload (pc := 0) o dL_slats_0 rfl ?_
  refine y_iconst (pc := 2) (x := 0) o dL_slats_2 (by decide) ?_
  refine y_aload_n (pc := 3) o dL_slats_3 rfl ?_
  refine y_iload_n (pc := 4) o dL_slats_4 rfl ?_
  refine y_iload_n (pc := 5) o dL_slats_5 rfl ?_
  refine y_iload_n (pc := 6) o dL_slats_6 rfl ?_
  refine y_iload (pc := 7) o dL_slats_7 rfl ?_
  refine y_callVH (pc := 9) (k := 0) (n := 0) o (b := ad (0, 0, 0)) (As := [.int (a), .int (b), .int (c), .int (d)]) (rest := [.int (0), .ref (o1)]) (p_slats hC hBC hM a b c d) ln_L_75 dL_slats_9 (z_rc (ci := 15) (K := (0, 0, 0)) rfl (gl_0 hC) rfl) rfl rfl (Nat.le_of_ble_eq_true rfl) ⟨by decide, by decide⟩ ⟨by decide, by decide⟩ (fun _ e => e) ?_ ?_
  · intro x h hE
    obtain ⟨hm, ad1, h0, h20, hr⟩ := hE
    simp only [List.mem_cons, List.not_mem_nil, or_false, Prod.mk.injEq] at hm
    rcases hm with ⟨rfl, hk⟩ | ⟨rfl, hk⟩
    · refine ⟨17, ⟨tableOf [], _, tableOf [(0, 14, 21, 15)], rfl, (fun z hz => absurd hz List.not_mem_nil), by decide, by decide, qw_286, ca_I, rfl⟩, fun q => ?_⟩
      refine y_lv [0] (lv' := [(0, .ref (ad (0, 0, 0)))]) rfl ?_
      refine y_astore (pc := 17) (i := 6) (lv' := [(6, .ref (q)), (0, .ref (ad (0, 0, 0)))]) o dL_slats_17 (by decide) rfl ?_
      refine y_iconst (pc := 19) (x := 1) o dL_slats_19 (by decide) ?_
      exact y_iret (pc := 20) o dL_slats_20 rfl (vp_nar_int _) (by decide) (by decide) (fun h9 e => by subst e; exact ⟨by rw [hk], _, ad1, fun z => absurd (hk.symm.trans z) (by decide), h0, h20, hr⟩)
    · refine ⟨21, ⟨tableOf [(0, 14, 17, 13)], _, tableOf [], rfl, (List.forall_mem_cons.mpr ⟨⟨by decide, _, qw_286, nc_SI⟩, (fun z hz => absurd hz List.not_mem_nil)⟩), by decide, by decide, qw_287, ca_S, rfl⟩, fun q => ?_⟩
      refine y_lv [0] (lv' := [(0, .ref (ad (0, 0, 0)))]) rfl ?_
      refine y_astore (pc := 21) (i := 6) (lv' := [(6, .ref (q)), (0, .ref (ad (0, 0, 0)))]) o dL_slats_21 (by decide) rfl ?_
      refine y_iconst (pc := 23) (x := 2) o dL_slats_23 (by decide) ?_
      exact y_iret (pc := 24) o dL_slats_24 rfl (vp_nar_int _) (by decide) (by decide) (fun h9 e => by subst e; exact ⟨by rw [hk], _, ad1, fun z => absurd (hk.symm.trans z) (by decide), h0, h20, hr⟩)
  refine fun v => y_and fun hz => y_and fun ev => y_ex fun ad1 => y_and fun h0 => y_and fun h20 => ?_
  subst ev
  refine z_st (st' := [.int ((F_slats C a b c d).2.1), .int (0), .ref (o1)]) rfl ?_
  refine y_i2l (pc := 12) o dL_slats_12 ?_
  refine z_lastT (pc := 13) (i := 0) (x := ((F_slats C a b c d).2.1).toInt64) (T' := (o1, .inl (κ.2.1 1, 1, .inr (.inl (vp_updL g (0 : Int32).toNatClampNeg (((F_slats C a b c d).2.1).toInt64))))) :: T) o 0 dL_slats_13 rfl (by unfold vp_in; decide) rfl ?_
  refine y_goto (pc := 14) (tgt := 25) o dL_slats_14 rfl ?_
  refine y_iconst (pc := 25) (x := 0) o dL_slats_25 (by decide) ?_
  exact y_iret (pc := 26) o dL_slats_26 rfl (vp_nar_int _) (by decide) (by decide) (fun h hp => ⟨by rw [hz], _, ad1, fun _ => rfl, h0, h20, hp⟩)

theorem w_season {κ : gq_K} {ad : gKey → Nat} {C R : gG} {T : List (Nat × va_E)} {n : Nat} (hI : gI n C) (o1 : Nat) (g : Nat → Int64) (a : Int32) (b : Int32) : gq_C κ mL_season [.ref (ad (0, 0, 0)), .int (a), .int (b), .ref (o1)] (gR κ ad (C, R) ((o1, .inl (κ.2.1 1, 1, .inr (.inl g))) :: T)) (gW κ ad R o1 T (F_season C a b)) (gq_no) := by
  refine gq_enterW (by decide +kernel) rfl (Nat.le_of_ble_eq_true rfl) rfl (fun f o => ?_)
  have hC := hI.fix
  have hBC := hI.cnt
  have hM := hI.mach
  refine y_aload_n (pc := 0) o dL_season_0 rfl ?_
  refine y_iconst (pc := 1) (x := 0) o dL_season_1 (by decide) ?_
  refine y_aload_n (pc := 2) o dL_season_2 rfl ?_
  refine y_iload_n (pc := 3) o dL_season_3 rfl ?_
  refine y_iload_n (pc := 4) o dL_season_4 rfl ?_
  refine y_callVH (pc := 5) (k := 0) (n := 0) o (b := ad (0, 0, 0)) (As := [.int (a), .int (b)]) (rest := [.int (0), .ref (o1)]) (p_season hC hBC hM a b) ln_L_78 dL_season_5 (z_rc (ci := 15) (K := (0, 0, 0)) rfl (gl_0 hC) rfl) rfl rfl (Nat.le_of_ble_eq_true rfl) ⟨by decide, by decide⟩ ⟨by decide, by decide⟩ (fun _ e => e) ?_ ?_
  · intro x h hE
    obtain ⟨hm, ad1, h0, h20, hr⟩ := hE
    simp only [List.mem_cons, List.not_mem_nil, or_false, Prod.mk.injEq] at hm
    rcases hm with ⟨rfl, hk⟩ | ⟨rfl, hk⟩ | ⟨rfl, hk⟩
    · refine ⟨13, ⟨tableOf [], _, tableOf [(0, 10, 17, 13), (0, 10, 21, 21)], rfl, (fun z hz => absurd hz List.not_mem_nil), by decide, by decide, qw_542, ca_X, rfl⟩, fun q => ?_⟩
      refine y_lv [0] (lv' := [(0, .ref (ad (0, 0, 0)))]) rfl ?_
      refine y_astore (pc := 13) (i := 4) (lv' := [(4, .ref (q)), (0, .ref (ad (0, 0, 0)))]) o dL_season_13 (by decide) rfl ?_
      refine y_iconst (pc := 15) (x := 1) o dL_season_15 (by decide) ?_
      exact y_iret (pc := 16) o dL_season_16 rfl (vp_nar_int _) (by decide) (by decide) (fun h9 e => by subst e; exact ⟨by rw [hk], _, ad1, fun z => absurd (hk.symm.trans z) (by decide), h0, h20, hr⟩)
    · refine ⟨17, ⟨tableOf [(0, 10, 13, 38)], _, tableOf [(0, 10, 21, 21)], rfl, (List.forall_mem_cons.mpr ⟨⟨by decide, _, qw_542, nc_IX⟩, (fun z hz => absurd hz List.not_mem_nil)⟩), by decide, by decide, qw_286, ca_I, rfl⟩, fun q => ?_⟩
      refine y_lv [0] (lv' := [(0, .ref (ad (0, 0, 0)))]) rfl ?_
      refine y_astore (pc := 17) (i := 4) (lv' := [(4, .ref (q)), (0, .ref (ad (0, 0, 0)))]) o dL_season_17 (by decide) rfl ?_
      refine y_iconst (pc := 19) (x := 2) o dL_season_19 (by decide) ?_
      exact y_iret (pc := 20) o dL_season_20 rfl (vp_nar_int _) (by decide) (by decide) (fun h9 e => by subst e; exact ⟨by rw [hk], _, ad1, fun z => absurd (hk.symm.trans z) (by decide), h0, h20, hr⟩)
    · refine ⟨21, ⟨tableOf [(0, 10, 13, 38), (0, 10, 17, 13)], _, tableOf [], rfl, (List.forall_mem_cons.mpr ⟨⟨by decide, _, qw_542, nc_UX⟩, (List.forall_mem_cons.mpr ⟨⟨by decide, _, qw_286, nc_UI⟩, (fun z hz => absurd hz List.not_mem_nil)⟩)⟩), by decide, by decide, qw_385, ca_U, rfl⟩, fun q => ?_⟩
      refine y_lv [0] (lv' := [(0, .ref (ad (0, 0, 0)))]) rfl ?_
      refine y_astore (pc := 21) (i := 4) (lv' := [(4, .ref (q)), (0, .ref (ad (0, 0, 0)))]) o dL_season_21 (by decide) rfl ?_
      refine y_iconst (pc := 23) (x := 3) o dL_season_23 (by decide) ?_
      exact y_iret (pc := 24) o dL_season_24 rfl (vp_nar_int _) (by decide) (by decide) (fun h9 e => by subst e; exact ⟨by rw [hk], _, ad1, fun z => absurd (hk.symm.trans z) (by decide), h0, h20, hr⟩)
  refine fun v => y_and fun hz => y_and fun ev => y_ex fun ad1 => y_and fun h0 => y_and fun h20 => ?_
  subst ev
  refine z_st (st' := [.int ((F_season C a b).2.1), .int (0), .ref (o1)]) rfl ?_
  refine y_i2l (pc := 8) o dL_season_8 ?_
  refine z_lastT (pc := 9) (i := 0) (x := ((F_season C a b).2.1).toInt64) (T' := (o1, .inl (κ.2.1 1, 1, .inr (.inl (vp_updL g (0 : Int32).toNatClampNeg (((F_season C a b).2.1).toInt64))))) :: T) o 0 dL_season_9 rfl (by unfold vp_in; decide) rfl ?_
  refine y_goto (pc := 10) (tgt := 25) o dL_season_10 rfl ?_
  refine y_iconst (pc := 25) (x := 0) o dL_season_25 (by decide) ?_
  exact y_iret (pc := 26) o dL_season_26 rfl (vp_nar_int _) (by decide) (by decide) (fun h hp => ⟨by rw [hz], _, ad1, fun _ => rfl, h0, h20, hp⟩)

theorem w_groove {κ : gq_K} {ad : gKey → Nat} {C R : gG} {T : List (Nat × va_E)} {n : Nat} (hI : gI n C) (o1 : Nat) (g : Nat → Int64) (a : Int32) (b : Int32) : gq_C κ mL_groove [.ref (ad (0, 0, 0)), .int (a), .int (b), .ref (o1)] (gR κ ad (C, R) ((o1, .inl (κ.2.1 1, 1, .inr (.inl g))) :: T)) (gW κ ad R o1 T (F_groove C a b)) (gq_no) := by
  refine gq_enterW (by decide +kernel) rfl (Nat.le_of_ble_eq_true rfl) rfl (fun f o => ?_)
  have hC := hI.fix
  have hBC := hI.cnt
  have hM := hI.mach
  refine y_aload_n (pc := 0) o dL_groove_0 rfl ?_
  refine y_iconst (pc := 1) (x := 0) o dL_groove_1 (by decide) ?_
  refine y_aload_n (pc := 2) o dL_groove_2 rfl ?_
  refine y_iload_n (pc := 3) o dL_groove_3 rfl ?_
  refine y_iload_n (pc := 4) o dL_groove_4 rfl ?_
  refine y_callVH (pc := 5) (k := 0) (n := 0) o (b := ad (0, 0, 0)) (As := [.int (a), .int (b)]) (rest := [.int (0), .ref (o1)]) (p_groove hC hBC hM a b) ln_L_81 dL_groove_5 (z_rc (ci := 15) (K := (0, 0, 0)) rfl (gl_0 hC) rfl) rfl rfl (Nat.le_of_ble_eq_true rfl) ⟨by decide, by decide⟩ ⟨by decide, by decide⟩ (fun _ e => e) ?_ ?_
  · intro x h hE
    obtain ⟨hm, ad1, h0, h20, hr⟩ := hE
    simp only [List.mem_cons, List.not_mem_nil, or_false, Prod.mk.injEq] at hm
    rcases hm with ⟨rfl, hk⟩ | ⟨rfl, hk⟩ | ⟨rfl, hk⟩
    · refine ⟨13, ⟨tableOf [], _, tableOf [(0, 10, 17, 13), (0, 10, 21, 21)], rfl, (fun z hz => absurd hz List.not_mem_nil), by decide, by decide, qw_542, ca_X, rfl⟩, fun q => ?_⟩
      refine y_lv [0] (lv' := [(0, .ref (ad (0, 0, 0)))]) rfl ?_
      refine y_astore (pc := 13) (i := 4) (lv' := [(4, .ref (q)), (0, .ref (ad (0, 0, 0)))]) o dL_groove_13 (by decide) rfl ?_
      refine y_iconst (pc := 15) (x := 1) o dL_groove_15 (by decide) ?_
      exact y_iret (pc := 16) o dL_groove_16 rfl (vp_nar_int _) (by decide) (by decide) (fun h9 e => by subst e; exact ⟨by rw [hk], _, ad1, fun z => absurd (hk.symm.trans z) (by decide), h0, h20, hr⟩)
    · refine ⟨17, ⟨tableOf [(0, 10, 13, 38)], _, tableOf [(0, 10, 21, 21)], rfl, (List.forall_mem_cons.mpr ⟨⟨by decide, _, qw_542, nc_IX⟩, (fun z hz => absurd hz List.not_mem_nil)⟩), by decide, by decide, qw_286, ca_I, rfl⟩, fun q => ?_⟩
      refine y_lv [0] (lv' := [(0, .ref (ad (0, 0, 0)))]) rfl ?_
      refine y_astore (pc := 17) (i := 4) (lv' := [(4, .ref (q)), (0, .ref (ad (0, 0, 0)))]) o dL_groove_17 (by decide) rfl ?_
      refine y_iconst (pc := 19) (x := 2) o dL_groove_19 (by decide) ?_
      exact y_iret (pc := 20) o dL_groove_20 rfl (vp_nar_int _) (by decide) (by decide) (fun h9 e => by subst e; exact ⟨by rw [hk], _, ad1, fun z => absurd (hk.symm.trans z) (by decide), h0, h20, hr⟩)
    · refine ⟨21, ⟨tableOf [(0, 10, 13, 38), (0, 10, 17, 13)], _, tableOf [], rfl, (List.forall_mem_cons.mpr ⟨⟨by decide, _, qw_542, nc_UX⟩, (List.forall_mem_cons.mpr ⟨⟨by decide, _, qw_286, nc_UI⟩, (fun z hz => absurd hz List.not_mem_nil)⟩)⟩), by decide, by decide, qw_385, ca_U, rfl⟩, fun q => ?_⟩
      refine y_lv [0] (lv' := [(0, .ref (ad (0, 0, 0)))]) rfl ?_
      refine y_astore (pc := 21) (i := 4) (lv' := [(4, .ref (q)), (0, .ref (ad (0, 0, 0)))]) o dL_groove_21 (by decide) rfl ?_
      refine y_iconst (pc := 23) (x := 3) o dL_groove_23 (by decide) ?_
      exact y_iret (pc := 24) o dL_groove_24 rfl (vp_nar_int _) (by decide) (by decide) (fun h9 e => by subst e; exact ⟨by rw [hk], _, ad1, fun z => absurd (hk.symm.trans z) (by decide), h0, h20, hr⟩)
  refine fun v => y_and fun hz => y_and fun ev => y_ex fun ad1 => y_and fun h0 => y_and fun h20 => ?_
  subst ev
  refine z_st (st' := [.int ((F_groove C a b).2.1), .int (0), .ref (o1)]) rfl ?_
  refine y_i2l (pc := 8) o dL_groove_8 ?_
  refine z_lastT (pc := 9) (i := 0) (x := ((F_groove C a b).2.1).toInt64) (T' := (o1, .inl (κ.2.1 1, 1, .inr (.inl (vp_updL g (0 : Int32).toNatClampNeg (((F_groove C a b).2.1).toInt64))))) :: T) o 0 dL_groove_9 rfl (by unfold vp_in; decide) rfl ?_
  refine y_goto (pc := 10) (tgt := 25) o dL_groove_10 rfl ?_
  refine y_iconst (pc := 25) (x := 0) o dL_groove_25 (by decide) ?_
  exact y_iret (pc := 26) o dL_groove_26 rfl (vp_nar_int _) (by decide) (by decide) (fun h hp => ⟨by rw [hz], _, ad1, fun _ => rfl, h0, h20, hp⟩)

theorem w_slat {κ : gq_K} {ad : gKey → Nat} {C R : gG} {T : List (Nat × va_E)} {n : Nat} (hI : gI n C) (o1 : Nat) (g : Nat → Int64) (a : Int32) (b : Int32) : gq_C κ mL_slat [.ref (ad (0, 0, 0)), .int (a), .int (b), .ref (o1)] (gR κ ad (C, R) ((o1, .inl (κ.2.1 1, 1, .inr (.inl g))) :: T)) (gW κ ad R o1 T (F_slat C a b)) (gq_no) := by
  refine gq_enterW (by decide +kernel) rfl (Nat.le_of_ble_eq_true rfl) rfl (fun f o => ?_)
  have hC := hI.fix
  have hBC := hI.cnt
  have hM := hI.mach
  refine y_aload_n (pc := 0) o dL_slat_0 rfl ?_
  refine y_iconst (pc := 1) (x := 0) o dL_slat_1 (by decide) ?_
  refine y_aload_n (pc := 2) o dL_slat_2 rfl ?_
  refine y_iload_n (pc := 3) o dL_slat_3 rfl ?_
  refine y_iload_n (pc := 4) o dL_slat_4 rfl ?_
  refine y_callVH (pc := 5) (k := 0) (n := 0) o (b := ad (0, 0, 0)) (As := [.int (a), .int (b)]) (rest := [.int (0), .ref (o1)]) (p_slat hC hBC hM a b) ln_L_84 dL_slat_5 (z_rc (ci := 15) (K := (0, 0, 0)) rfl (gl_0 hC) rfl) rfl rfl (Nat.le_of_ble_eq_true rfl) ⟨by decide, by decide⟩ ⟨by decide, by decide⟩ (fun _ e => e) ?_ ?_
  · intro x h hE
    obtain ⟨hm, ad1, h0, h20, hr⟩ := hE
    simp only [List.mem_cons, List.not_mem_nil, or_false, Prod.mk.injEq] at hm
    rcases hm with ⟨rfl, hk⟩ | ⟨rfl, hk⟩
    · refine ⟨13, ⟨tableOf [], _, tableOf [(0, 10, 17, 13)], rfl, (fun z hz => absurd hz List.not_mem_nil), by decide, by decide, qw_542, ca_X, rfl⟩, fun q => ?_⟩
      refine y_lv [0] (lv' := [(0, .ref (ad (0, 0, 0)))]) rfl ?_
      refine y_astore (pc := 13) (i := 4) (lv' := [(4, .ref (q)), (0, .ref (ad (0, 0, 0)))]) o dL_slat_13 (by decide) rfl ?_
      refine y_iconst (pc := 15) (x := 1) o dL_slat_15 (by decide) ?_
      exact y_iret (pc := 16) o dL_slat_16 rfl (vp_nar_int _) (by decide) (by decide) (fun h9 e => by subst e; exact ⟨by rw [hk], _, ad1, fun z => absurd (hk.symm.trans z) (by decide), h0, h20, hr⟩)
    · refine ⟨17, ⟨tableOf [(0, 10, 13, 38)], _, tableOf [], rfl, (List.forall_mem_cons.mpr ⟨⟨by decide, _, qw_542, nc_IX⟩, (fun z hz => absurd hz List.not_mem_nil)⟩), by decide, by decide, qw_286, ca_I, rfl⟩, fun q => ?_⟩
      refine y_lv [0] (lv' := [(0, .ref (ad (0, 0, 0)))]) rfl ?_
      refine y_astore (pc := 17) (i := 4) (lv' := [(4, .ref (q)), (0, .ref (ad (0, 0, 0)))]) o dL_slat_17 (by decide) rfl ?_
      refine y_iconst (pc := 19) (x := 2) o dL_slat_19 (by decide) ?_
      exact y_iret (pc := 20) o dL_slat_20 rfl (vp_nar_int _) (by decide) (by decide) (fun h9 e => by subst e; exact ⟨by rw [hk], _, ad1, fun z => absurd (hk.symm.trans z) (by decide), h0, h20, hr⟩)
  refine fun v => y_and fun hz => y_and fun ev => y_ex fun ad1 => y_and fun h0 => y_and fun h20 => ?_
  subst ev
  refine z_st (st' := [.int ((F_slat C a b).2.1), .int (0), .ref (o1)]) rfl ?_
  refine y_i2l (pc := 8) o dL_slat_8 ?_
  refine z_lastT (pc := 9) (i := 0) (x := ((F_slat C a b).2.1).toInt64) (T' := (o1, .inl (κ.2.1 1, 1, .inr (.inl (vp_updL g (0 : Int32).toNatClampNeg (((F_slat C a b).2.1).toInt64))))) :: T) o 0 dL_slat_9 rfl (by unfold vp_in; decide) rfl ?_
  refine y_goto (pc := 10) (tgt := 21) o dL_slat_10 rfl ?_
  refine y_iconst (pc := 21) (x := 0) o dL_slat_21 (by decide) ?_
  exact y_iret (pc := 22) o dL_slat_22 rfl (vp_nar_int _) (by decide) (by decide) (fun h hp => ⟨by rw [hz], _, ad1, fun _ => rfl, h0, h20, hp⟩)

theorem w_lay {κ : gq_K} {ad : gKey → Nat} {C R : gG} {T : List (Nat × va_E)} {n : Nat} (hI : gI n C) (o1 : Nat) (g : Nat → Int64) (a : Int32) (b : Int32) (c : Int32) (d : Int32) (e : Int32) : gq_C κ mL_lay [.ref (ad (0, 0, 0)), .int (a), .int (b), .int (c), .int (d), .int (e), .ref (o1)] (gR κ ad (C, R) ((o1, .inl (κ.2.1 1, 1, .inr (.inl g))) :: T)) (gW κ ad R o1 T (F_lay C a b c d e)) (gq_no) := by
  refine gq_enterW (by decide +kernel) rfl (Nat.le_of_ble_eq_true rfl) rfl (fun f o => ?_)
  have hC := hI.fix
  have hBC := hI.cnt
  have hM := hI.mach
  refine y_aload (pc := 0) o dL_lay_0 rfl ?_
  refine y_iconst (pc := 2) (x := 0) o dL_lay_2 (by decide) ?_
  refine y_aload_n (pc := 3) o dL_lay_3 rfl ?_
  refine y_iload_n (pc := 4) o dL_lay_4 rfl ?_
  refine y_iload_n (pc := 5) o dL_lay_5 rfl ?_
  refine y_iload_n (pc := 6) o dL_lay_6 rfl ?_
  refine y_iload (pc := 7) o dL_lay_7 rfl ?_
  refine y_iload (pc := 9) o dL_lay_9 rfl ?_
  refine y_callVH (pc := 11) (k := 0) (n := 0) o (b := ad (0, 0, 0)) (As := [.int (a), .int (b), .int (c), .int (d), .int (e)]) (rest := [.int (0), .ref (o1)]) (p_lay hC hBC hM a b c d e) ln_L_87 dL_lay_11 (z_rc (ci := 15) (K := (0, 0, 0)) rfl (gl_0 hC) rfl) rfl rfl (Nat.le_of_ble_eq_true rfl) ⟨by decide, by decide⟩ ⟨by decide, by decide⟩ (fun _ e => e) ?_ ?_
  · intro x h hE
    obtain ⟨hm, ad1, h0, h20, hr⟩ := hE
    simp only [List.mem_cons, List.not_mem_nil, or_false, Prod.mk.injEq] at hm
    rcases hm with ⟨rfl, hk⟩ | ⟨rfl, hk⟩ | ⟨rfl, hk⟩ | ⟨rfl, hk⟩
    · refine ⟨19, ⟨tableOf [], _, tableOf [(0, 16, 23, 13), (0, 16, 27, 21), (0, 16, 31, 15)], rfl, (fun z hz => absurd hz List.not_mem_nil), by decide, by decide, qw_542, ca_X, rfl⟩, fun q => ?_⟩
      refine y_lv [0] (lv' := [(0, .ref (ad (0, 0, 0)))]) rfl ?_
      refine y_astore (pc := 19) (i := 7) (lv' := [(7, .ref (q)), (0, .ref (ad (0, 0, 0)))]) o dL_lay_19 (by decide) rfl ?_
      refine y_iconst (pc := 21) (x := 1) o dL_lay_21 (by decide) ?_
      exact y_iret (pc := 22) o dL_lay_22 rfl (vp_nar_int _) (by decide) (by decide) (fun h9 e => by subst e; exact ⟨by rw [hk], _, ad1, fun z => absurd (hk.symm.trans z) (by decide), h0, h20, hr⟩)
    · refine ⟨23, ⟨tableOf [(0, 16, 19, 38)], _, tableOf [(0, 16, 27, 21), (0, 16, 31, 15)], rfl, (List.forall_mem_cons.mpr ⟨⟨by decide, _, qw_542, nc_IX⟩, (fun z hz => absurd hz List.not_mem_nil)⟩), by decide, by decide, qw_286, ca_I, rfl⟩, fun q => ?_⟩
      refine y_lv [0] (lv' := [(0, .ref (ad (0, 0, 0)))]) rfl ?_
      refine y_astore (pc := 23) (i := 7) (lv' := [(7, .ref (q)), (0, .ref (ad (0, 0, 0)))]) o dL_lay_23 (by decide) rfl ?_
      refine y_iconst (pc := 25) (x := 2) o dL_lay_25 (by decide) ?_
      exact y_iret (pc := 26) o dL_lay_26 rfl (vp_nar_int _) (by decide) (by decide) (fun h9 e => by subst e; exact ⟨by rw [hk], _, ad1, fun z => absurd (hk.symm.trans z) (by decide), h0, h20, hr⟩)
    · refine ⟨27, ⟨tableOf [(0, 16, 19, 38), (0, 16, 23, 13)], _, tableOf [(0, 16, 31, 15)], rfl, (List.forall_mem_cons.mpr ⟨⟨by decide, _, qw_542, nc_UX⟩, (List.forall_mem_cons.mpr ⟨⟨by decide, _, qw_286, nc_UI⟩, (fun z hz => absurd hz List.not_mem_nil)⟩)⟩), by decide, by decide, qw_385, ca_U, rfl⟩, fun q => ?_⟩
      refine y_lv [0] (lv' := [(0, .ref (ad (0, 0, 0)))]) rfl ?_
      refine y_astore (pc := 27) (i := 7) (lv' := [(7, .ref (q)), (0, .ref (ad (0, 0, 0)))]) o dL_lay_27 (by decide) rfl ?_
      refine y_iconst (pc := 29) (x := 3) o dL_lay_29 (by decide) ?_
      exact y_iret (pc := 30) o dL_lay_30 rfl (vp_nar_int _) (by decide) (by decide) (fun h9 e => by subst e; exact ⟨by rw [hk], _, ad1, fun z => absurd (hk.symm.trans z) (by decide), h0, h20, hr⟩)
    · refine ⟨31, ⟨tableOf [(0, 16, 19, 38), (0, 16, 23, 13), (0, 16, 27, 21)], _, tableOf [], rfl, (List.forall_mem_cons.mpr ⟨⟨by decide, _, qw_542, nc_SX⟩, (List.forall_mem_cons.mpr ⟨⟨by decide, _, qw_286, nc_SI⟩, (List.forall_mem_cons.mpr ⟨⟨by decide, _, qw_385, nc_SU⟩, (fun z hz => absurd hz List.not_mem_nil)⟩)⟩)⟩), by decide, by decide, qw_287, ca_S, rfl⟩, fun q => ?_⟩
      refine y_lv [0] (lv' := [(0, .ref (ad (0, 0, 0)))]) rfl ?_
      refine y_astore (pc := 31) (i := 7) (lv' := [(7, .ref (q)), (0, .ref (ad (0, 0, 0)))]) o dL_lay_31 (by decide) rfl ?_
      refine y_iconst (pc := 33) (x := 4) o dL_lay_33 (by decide) ?_
      exact y_iret (pc := 34) o dL_lay_34 rfl (vp_nar_int _) (by decide) (by decide) (fun h9 e => by subst e; exact ⟨by rw [hk], _, ad1, fun z => absurd (hk.symm.trans z) (by decide), h0, h20, hr⟩)
  refine fun v => y_and fun hz => y_and fun ev => y_ex fun ad1 => y_and fun h0 => y_and fun h20 => ?_
  subst ev
  refine z_st (st' := [.int ((F_lay C a b c d e).2.1), .int (0), .ref (o1)]) rfl ?_
  refine y_i2l (pc := 14) o dL_lay_14 ?_
  refine z_lastT (pc := 15) (i := 0) (x := ((F_lay C a b c d e).2.1).toInt64) (T' := (o1, .inl (κ.2.1 1, 1, .inr (.inl (vp_updL g (0 : Int32).toNatClampNeg (((F_lay C a b c d e).2.1).toInt64))))) :: T) o 0 dL_lay_15 rfl (by unfold vp_in; decide) rfl ?_
  refine y_goto (pc := 16) (tgt := 35) o dL_lay_16 rfl ?_
  refine y_iconst (pc := 35) (x := 0) o dL_lay_35 (by decide) ?_
  exact y_iret (pc := 36) o dL_lay_36 rfl (vp_nar_int _) (by decide) (by decide) (fun h hp => ⟨by rw [hz], _, ad1, fun _ => rfl, h0, h20, hp⟩)

theorem w_coat {κ : gq_K} {ad : gKey → Nat} {C R : gG} {T : List (Nat × va_E)} {n : Nat} (hI : gI n C) (o1 : Nat) (g : Nat → Int64) (a : Int32) (b : Int32) : gq_C κ mL_coat [.ref (ad (0, 0, 0)), .int (a), .int (b), .ref (o1)] (gR κ ad (C, R) ((o1, .inl (κ.2.1 1, 1, .inr (.inl g))) :: T)) (gW κ ad R o1 T (F_coat C a b)) (gq_no) := by
  refine gq_enterW (by decide +kernel) rfl (Nat.le_of_ble_eq_true rfl) rfl (fun f o => ?_)
  have hC := hI.fix
  have hBC := hI.cnt
  have hM := hI.mach
  refine y_aload_n (pc := 0) o dL_coat_0 rfl ?_
  refine y_iconst (pc := 1) (x := 0) o dL_coat_1 (by decide) ?_
  refine y_aload_n (pc := 2) o dL_coat_2 rfl ?_
  refine y_iload_n (pc := 3) o dL_coat_3 rfl ?_
  refine y_iload_n (pc := 4) o dL_coat_4 rfl ?_
  refine y_callVH (pc := 5) (k := 0) (n := 0) o (b := ad (0, 0, 0)) (As := [.int (a), .int (b)]) (rest := [.int (0), .ref (o1)]) (p_coat hC hBC hM a b) ln_L_91 dL_coat_5 (z_rc (ci := 15) (K := (0, 0, 0)) rfl (gl_0 hC) rfl) rfl rfl (Nat.le_of_ble_eq_true rfl) ⟨by decide, by decide⟩ ⟨by decide, by decide⟩ (fun _ e => e) ?_ ?_
  · intro x h hE
    obtain ⟨hm, ad1, h0, h20, hr⟩ := hE
    simp only [List.mem_cons, List.not_mem_nil, or_false, Prod.mk.injEq] at hm
    rcases hm with ⟨rfl, hk⟩ | ⟨rfl, hk⟩ | ⟨rfl, hk⟩
    · refine ⟨13, ⟨tableOf [], _, tableOf [(0, 10, 17, 13), (0, 10, 21, 21)], rfl, (fun z hz => absurd hz List.not_mem_nil), by decide, by decide, qw_542, ca_X, rfl⟩, fun q => ?_⟩
      refine y_lv [0] (lv' := [(0, .ref (ad (0, 0, 0)))]) rfl ?_
      refine y_astore (pc := 13) (i := 4) (lv' := [(4, .ref (q)), (0, .ref (ad (0, 0, 0)))]) o dL_coat_13 (by decide) rfl ?_
      refine y_iconst (pc := 15) (x := 1) o dL_coat_15 (by decide) ?_
      exact y_iret (pc := 16) o dL_coat_16 rfl (vp_nar_int _) (by decide) (by decide) (fun h9 e => by subst e; exact ⟨by rw [hk], _, ad1, fun z => absurd (hk.symm.trans z) (by decide), h0, h20, hr⟩)
    · refine ⟨17, ⟨tableOf [(0, 10, 13, 38)], _, tableOf [(0, 10, 21, 21)], rfl, (List.forall_mem_cons.mpr ⟨⟨by decide, _, qw_542, nc_IX⟩, (fun z hz => absurd hz List.not_mem_nil)⟩), by decide, by decide, qw_286, ca_I, rfl⟩, fun q => ?_⟩
      refine y_lv [0] (lv' := [(0, .ref (ad (0, 0, 0)))]) rfl ?_
      refine y_astore (pc := 17) (i := 4) (lv' := [(4, .ref (q)), (0, .ref (ad (0, 0, 0)))]) o dL_coat_17 (by decide) rfl ?_
      refine y_iconst (pc := 19) (x := 2) o dL_coat_19 (by decide) ?_
      exact y_iret (pc := 20) o dL_coat_20 rfl (vp_nar_int _) (by decide) (by decide) (fun h9 e => by subst e; exact ⟨by rw [hk], _, ad1, fun z => absurd (hk.symm.trans z) (by decide), h0, h20, hr⟩)
    · refine ⟨21, ⟨tableOf [(0, 10, 13, 38), (0, 10, 17, 13)], _, tableOf [], rfl, (List.forall_mem_cons.mpr ⟨⟨by decide, _, qw_542, nc_UX⟩, (List.forall_mem_cons.mpr ⟨⟨by decide, _, qw_286, nc_UI⟩, (fun z hz => absurd hz List.not_mem_nil)⟩)⟩), by decide, by decide, qw_385, ca_U, rfl⟩, fun q => ?_⟩
      refine y_lv [0] (lv' := [(0, .ref (ad (0, 0, 0)))]) rfl ?_
      refine y_astore (pc := 21) (i := 4) (lv' := [(4, .ref (q)), (0, .ref (ad (0, 0, 0)))]) o dL_coat_21 (by decide) rfl ?_
      refine y_iconst (pc := 23) (x := 3) o dL_coat_23 (by decide) ?_
      exact y_iret (pc := 24) o dL_coat_24 rfl (vp_nar_int _) (by decide) (by decide) (fun h9 e => by subst e; exact ⟨by rw [hk], _, ad1, fun z => absurd (hk.symm.trans z) (by decide), h0, h20, hr⟩)
  refine fun v => y_and fun hz => y_and fun ev => y_ex fun ad1 => y_and fun h0 => y_and fun h20 => ?_
  subst ev
  refine z_st (st' := [.int ((F_coat C a b).2.1), .int (0), .ref (o1)]) rfl ?_
  refine y_i2l (pc := 8) o dL_coat_8 ?_
  refine z_lastT (pc := 9) (i := 0) (x := ((F_coat C a b).2.1).toInt64) (T' := (o1, .inl (κ.2.1 1, 1, .inr (.inl (vp_updL g (0 : Int32).toNatClampNeg (((F_coat C a b).2.1).toInt64))))) :: T) o 0 dL_coat_9 rfl (by unfold vp_in; decide) rfl ?_
  refine y_goto (pc := 10) (tgt := 25) o dL_coat_10 rfl ?_
  refine y_iconst (pc := 25) (x := 0) o dL_coat_25 (by decide) ?_
  exact y_iret (pc := 26) o dL_coat_26 rfl (vp_nar_int _) (by decide) (by decide) (fun h hp => ⟨by rw [hz], _, ad1, fun _ => rfl, h0, h20, hp⟩)

theorem w_stamp {κ : gq_K} {ad : gKey → Nat} {C R : gG} {T : List (Nat × va_E)} {n : Nat} (hI : gI n C) (o1 : Nat) (g : Nat → Int64) (a : Int32) : gq_C κ mL_stamp [.ref (ad (0, 0, 0)), .int (a), .ref (o1)] (gR κ ad (C, R) ((o1, .inl (κ.2.1 1, 1, .inr (.inl g))) :: T)) (gW κ ad R o1 T (F_stamp C a)) (gq_no) := by
  refine gq_enterW (by decide +kernel) rfl (Nat.le_of_ble_eq_true rfl) rfl (fun f o => ?_)
  have hC := hI.fix
  have hBC := hI.cnt
  have hM := hI.mach
  refine y_aload_n (pc := 0) o dL_stamp_0 rfl ?_
  refine y_iconst (pc := 1) (x := 0) o dL_stamp_1 (by decide) ?_
  refine y_aload_n (pc := 2) o dL_stamp_2 rfl ?_
  refine y_iload_n (pc := 3) o dL_stamp_3 rfl ?_
  refine y_callVH (pc := 4) (k := 0) (n := 0) o (b := ad (0, 0, 0)) (As := [.int (a)]) (rest := [.int (0), .ref (o1)]) (p_stamp hC hBC hM a) ln_L_94 dL_stamp_4 (z_rc (ci := 15) (K := (0, 0, 0)) rfl (gl_0 hC) rfl) rfl rfl (Nat.le_of_ble_eq_true rfl) ⟨by decide, by decide⟩ ⟨by decide, by decide⟩ (fun _ e => e) ?_ ?_
  · intro x h hE
    obtain ⟨hm, ad1, h0, h20, hr⟩ := hE
    simp only [List.mem_cons, List.not_mem_nil, or_false, Prod.mk.injEq] at hm
    rcases hm with ⟨rfl, hk⟩ | ⟨rfl, hk⟩
    · refine ⟨12, ⟨tableOf [], _, tableOf [(0, 9, 15, 21)], rfl, (fun z hz => absurd hz List.not_mem_nil), by decide, by decide, qw_542, ca_X, rfl⟩, fun q => ?_⟩
      refine y_lv [0] (lv' := [(0, .ref (ad (0, 0, 0)))]) rfl ?_
      refine y_astore_n (pc := 12) (i := 3) (lv' := [(3, .ref (q)), (0, .ref (ad (0, 0, 0)))]) o dL_stamp_12 rfl (by decide) rfl ?_
      refine y_iconst (pc := 13) (x := 1) o dL_stamp_13 (by decide) ?_
      exact y_iret (pc := 14) o dL_stamp_14 rfl (vp_nar_int _) (by decide) (by decide) (fun h9 e => by subst e; exact ⟨by rw [hk], _, ad1, fun z => absurd (hk.symm.trans z) (by decide), h0, h20, hr⟩)
    · refine ⟨15, ⟨tableOf [(0, 9, 12, 38)], _, tableOf [], rfl, (List.forall_mem_cons.mpr ⟨⟨by decide, _, qw_542, nc_UX⟩, (fun z hz => absurd hz List.not_mem_nil)⟩), by decide, by decide, qw_385, ca_U, rfl⟩, fun q => ?_⟩
      refine y_lv [0] (lv' := [(0, .ref (ad (0, 0, 0)))]) rfl ?_
      refine y_astore_n (pc := 15) (i := 3) (lv' := [(3, .ref (q)), (0, .ref (ad (0, 0, 0)))]) o dL_stamp_15 rfl (by decide) rfl ?_
      refine y_iconst (pc := 16) (x := 2) o dL_stamp_16 (by decide) ?_
      exact y_iret (pc := 17) o dL_stamp_17 rfl (vp_nar_int _) (by decide) (by decide) (fun h9 e => by subst e; exact ⟨by rw [hk], _, ad1, fun z => absurd (hk.symm.trans z) (by decide), h0, h20, hr⟩)
  refine fun v => y_and fun hz => y_and fun ev => y_ex fun ad1 => y_and fun h0 => y_and fun h20 => ?_
  subst ev
  refine z_st (st' := [.int ((F_stamp C a).2.1), .int (0), .ref (o1)]) rfl ?_
  refine y_i2l (pc := 7) o dL_stamp_7 ?_
  refine z_lastT (pc := 8) (i := 0) (x := ((F_stamp C a).2.1).toInt64) (T' := (o1, .inl (κ.2.1 1, 1, .inr (.inl (vp_updL g (0 : Int32).toNatClampNeg (((F_stamp C a).2.1).toInt64))))) :: T) o 0 dL_stamp_8 rfl (by unfold vp_in; decide) rfl ?_
  refine y_goto (pc := 9) (tgt := 18) o dL_stamp_9 rfl ?_
  refine y_iconst (pc := 18) (x := 0) o dL_stamp_18 (by decide) ?_
  exact y_iret (pc := 19) o dL_stamp_19 rfl (vp_nar_int _) (by decide) (by decide) (fun h hp => ⟨by rw [hz], _, ad1, fun _ => rfl, h0, h20, hp⟩)

theorem w_erase {κ : gq_K} {ad : gKey → Nat} {C R : gG} {T : List (Nat × va_E)} {n : Nat} (hI : gI n C) (o1 : Nat) (g : Nat → Int64) (a : Int32) (b : Int32) : gq_C κ mL_erase [.ref (ad (0, 0, 0)), .int (a), .int (b), .ref (o1)] (gR κ ad (C, R) ((o1, .inl (κ.2.1 1, 1, .inr (.inl g))) :: T)) (gW κ ad R o1 T (F_erase C a b)) (gq_no) := by
  refine gq_enterW (by decide +kernel) rfl (Nat.le_of_ble_eq_true rfl) rfl (fun f o => ?_)
  have hC := hI.fix
  have hBC := hI.cnt
  have hM := hI.mach
  refine y_aload_n (pc := 0) o dL_erase_0 rfl ?_
  refine y_iconst (pc := 1) (x := 0) o dL_erase_1 (by decide) ?_
  refine y_aload_n (pc := 2) o dL_erase_2 rfl ?_
  refine y_iload_n (pc := 3) o dL_erase_3 rfl ?_
  refine y_iload_n (pc := 4) o dL_erase_4 rfl ?_
  refine y_callVH (pc := 5) (k := 0) (n := 0) o (b := ad (0, 0, 0)) (As := [.int (a), .int (b)]) (rest := [.int (0), .ref (o1)]) (p_erase hC hBC hM a b) ln_L_97 dL_erase_5 (z_rc (ci := 15) (K := (0, 0, 0)) rfl (gl_0 hC) rfl) rfl rfl (Nat.le_of_ble_eq_true rfl) ⟨by decide, by decide⟩ ⟨by decide, by decide⟩ (fun _ e => e) ?_ ?_
  · intro x h hE
    obtain ⟨hm, ad1, h0, h20, hr⟩ := hE
    simp only [List.mem_cons, List.not_mem_nil, or_false, Prod.mk.injEq] at hm
    rcases hm with ⟨rfl, hk⟩ | ⟨rfl, hk⟩ | ⟨rfl, hk⟩
    · refine ⟨13, ⟨tableOf [], _, tableOf [(0, 10, 17, 13), (0, 10, 21, 21)], rfl, (fun z hz => absurd hz List.not_mem_nil), by decide, by decide, qw_542, ca_X, rfl⟩, fun q => ?_⟩
      refine y_lv [0] (lv' := [(0, .ref (ad (0, 0, 0)))]) rfl ?_
      refine y_astore (pc := 13) (i := 4) (lv' := [(4, .ref (q)), (0, .ref (ad (0, 0, 0)))]) o dL_erase_13 (by decide) rfl ?_
      refine y_iconst (pc := 15) (x := 1) o dL_erase_15 (by decide) ?_
      exact y_iret (pc := 16) o dL_erase_16 rfl (vp_nar_int _) (by decide) (by decide) (fun h9 e => by subst e; exact ⟨by rw [hk], _, ad1, fun z => absurd (hk.symm.trans z) (by decide), h0, h20, hr⟩)
    · refine ⟨17, ⟨tableOf [(0, 10, 13, 38)], _, tableOf [(0, 10, 21, 21)], rfl, (List.forall_mem_cons.mpr ⟨⟨by decide, _, qw_542, nc_IX⟩, (fun z hz => absurd hz List.not_mem_nil)⟩), by decide, by decide, qw_286, ca_I, rfl⟩, fun q => ?_⟩
      refine y_lv [0] (lv' := [(0, .ref (ad (0, 0, 0)))]) rfl ?_
      refine y_astore (pc := 17) (i := 4) (lv' := [(4, .ref (q)), (0, .ref (ad (0, 0, 0)))]) o dL_erase_17 (by decide) rfl ?_
      refine y_iconst (pc := 19) (x := 2) o dL_erase_19 (by decide) ?_
      exact y_iret (pc := 20) o dL_erase_20 rfl (vp_nar_int _) (by decide) (by decide) (fun h9 e => by subst e; exact ⟨by rw [hk], _, ad1, fun z => absurd (hk.symm.trans z) (by decide), h0, h20, hr⟩)
    · refine ⟨21, ⟨tableOf [(0, 10, 13, 38), (0, 10, 17, 13)], _, tableOf [], rfl, (List.forall_mem_cons.mpr ⟨⟨by decide, _, qw_542, nc_UX⟩, (List.forall_mem_cons.mpr ⟨⟨by decide, _, qw_286, nc_UI⟩, (fun z hz => absurd hz List.not_mem_nil)⟩)⟩), by decide, by decide, qw_385, ca_U, rfl⟩, fun q => ?_⟩
      refine y_lv [0] (lv' := [(0, .ref (ad (0, 0, 0)))]) rfl ?_
      refine y_astore (pc := 21) (i := 4) (lv' := [(4, .ref (q)), (0, .ref (ad (0, 0, 0)))]) o dL_erase_21 (by decide) rfl ?_
      refine y_iconst (pc := 23) (x := 3) o dL_erase_23 (by decide) ?_
      exact y_iret (pc := 24) o dL_erase_24 rfl (vp_nar_int _) (by decide) (by decide) (fun h9 e => by subst e; exact ⟨by rw [hk], _, ad1, fun z => absurd (hk.symm.trans z) (by decide), h0, h20, hr⟩)
  refine fun v => y_and fun hz => y_and fun ev => y_ex fun ad1 => y_and fun h0 => y_and fun h20 => ?_
  subst ev
  refine z_st (st' := [.int ((F_erase C a b).2.1), .int (0), .ref (o1)]) rfl ?_
  refine y_i2l (pc := 8) o dL_erase_8 ?_
  refine z_lastT (pc := 9) (i := 0) (x := ((F_erase C a b).2.1).toInt64) (T' := (o1, .inl (κ.2.1 1, 1, .inr (.inl (vp_updL g (0 : Int32).toNatClampNeg (((F_erase C a b).2.1).toInt64))))) :: T) o 0 dL_erase_9 rfl (by unfold vp_in; decide) rfl ?_
  refine y_goto (pc := 10) (tgt := 25) o dL_erase_10 rfl ?_
  refine y_iconst (pc := 25) (x := 0) o dL_erase_25 (by decide) ?_
  exact y_iret (pc := 26) o dL_erase_26 rfl (vp_nar_int _) (by decide) (by decide) (fun h hp => ⟨by rw [hz], _, ad1, fun _ => rfl, h0, h20, hp⟩)

theorem w_run {κ : gq_K} {ad : gKey → Nat} {C R : gG} {T : List (Nat × va_E)} {n : Nat} (hI : gI n C) (o1 : Nat) (g : Nat → Int64) (a : Int32) (b : Int32) : gq_C κ mL_run [.ref (ad (0, 0, 0)), .int (a), .int (b), .ref (o1)] (gR κ ad (C, R) ((o1, .inl (κ.2.1 1, 1, .inr (.inl g))) :: T)) (gW κ ad R o1 T (F_run C a b)) (gq_no) := by
  refine gq_enterW (by decide +kernel) rfl (Nat.le_of_ble_eq_true rfl) rfl (fun f o => ?_)
  have hC := hI.fix
  have hBC := hI.cnt
  have hM := hI.mach
  refine y_aload_n (pc := 0) o dL_run_0 rfl ?_
  refine y_iconst (pc := 1) (x := 0) o dL_run_1 (by decide) ?_
  refine y_aload_n (pc := 2) o dL_run_2 rfl ?_
  refine y_iload_n (pc := 3) o dL_run_3 rfl ?_
  refine y_iload_n (pc := 4) o dL_run_4 rfl ?_
  refine y_callVH (pc := 5) (k := 0) (n := 0) o (b := ad (0, 0, 0)) (As := [.int (a), .int (b)]) (rest := [.int (0), .ref (o1)]) (p_run hC hBC hM a b) ln_L_100 dL_run_5 (z_rc (ci := 15) (K := (0, 0, 0)) rfl (gl_0 hC) rfl) rfl rfl (Nat.le_of_ble_eq_true rfl) ⟨by decide, by decide⟩ ⟨by decide, by decide⟩ (fun _ e => e) ?_ ?_
  · intro x h hE
    obtain ⟨hm, ad1, h0, h20, hr⟩ := hE
    simp only [List.mem_cons, List.not_mem_nil, or_false, Prod.mk.injEq] at hm
    rcases hm with ⟨rfl, hk⟩ | ⟨rfl, hk⟩
    · refine ⟨13, ⟨tableOf [], _, tableOf [(0, 10, 17, 13)], rfl, (fun z hz => absurd hz List.not_mem_nil), by decide, by decide, qw_542, ca_X, rfl⟩, fun q => ?_⟩
      refine y_lv [0] (lv' := [(0, .ref (ad (0, 0, 0)))]) rfl ?_
      refine y_astore (pc := 13) (i := 4) (lv' := [(4, .ref (q)), (0, .ref (ad (0, 0, 0)))]) o dL_run_13 (by decide) rfl ?_
      refine y_iconst (pc := 15) (x := 1) o dL_run_15 (by decide) ?_
      exact y_iret (pc := 16) o dL_run_16 rfl (vp_nar_int _) (by decide) (by decide) (fun h9 e => by subst e; exact ⟨by rw [hk], _, ad1, fun z => absurd (hk.symm.trans z) (by decide), h0, h20, hr⟩)
    · refine ⟨17, ⟨tableOf [(0, 10, 13, 38)], _, tableOf [], rfl, (List.forall_mem_cons.mpr ⟨⟨by decide, _, qw_542, nc_IX⟩, (fun z hz => absurd hz List.not_mem_nil)⟩), by decide, by decide, qw_286, ca_I, rfl⟩, fun q => ?_⟩
      refine y_lv [0] (lv' := [(0, .ref (ad (0, 0, 0)))]) rfl ?_
      refine y_astore (pc := 17) (i := 4) (lv' := [(4, .ref (q)), (0, .ref (ad (0, 0, 0)))]) o dL_run_17 (by decide) rfl ?_
      refine y_iconst (pc := 19) (x := 2) o dL_run_19 (by decide) ?_
      exact y_iret (pc := 20) o dL_run_20 rfl (vp_nar_int _) (by decide) (by decide) (fun h9 e => by subst e; exact ⟨by rw [hk], _, ad1, fun z => absurd (hk.symm.trans z) (by decide), h0, h20, hr⟩)
  refine fun v => y_and fun hz => y_and fun ev => y_ex fun ad1 => y_and fun h0 => y_and fun h20 => ?_
  subst ev
  refine z_st (st' := [.int ((F_run C a b).2.1), .int (0), .ref (o1)]) rfl ?_
  refine y_i2l (pc := 8) o dL_run_8 ?_
  refine z_lastT (pc := 9) (i := 0) (x := ((F_run C a b).2.1).toInt64) (T' := (o1, .inl (κ.2.1 1, 1, .inr (.inl (vp_updL g (0 : Int32).toNatClampNeg (((F_run C a b).2.1).toInt64))))) :: T) o 0 dL_run_9 rfl (by unfold vp_in; decide) rfl ?_
  refine y_goto (pc := 10) (tgt := 21) o dL_run_10 rfl ?_
  refine y_iconst (pc := 21) (x := 0) o dL_run_21 (by decide) ?_
  exact y_iret (pc := 22) o dL_run_22 rfl (vp_nar_int _) (by decide) (by decide) (fun h hp => ⟨by rw [hz], _, ad1, fun _ => rfl, h0, h20, hp⟩)

theorem w_fall {κ : gq_K} {ad : gKey → Nat} {C R : gG} {T : List (Nat × va_E)} {n : Nat} (hI : gI n C) (o1 : Nat) (g : Nat → Int64) (a : Int32) (b : Int32) : gq_C κ mL_fall [.ref (ad (0, 0, 0)), .int (a), .int (b), .ref (o1)] (gR κ ad (C, R) ((o1, .inl (κ.2.1 1, 1, .inr (.inl g))) :: T)) (gW κ ad R o1 T (F_fall C a b)) (gq_no) := by
  refine gq_enterW (by decide +kernel) rfl (Nat.le_of_ble_eq_true rfl) rfl (fun f o => ?_)
  have hC := hI.fix
  have hBC := hI.cnt
  have hM := hI.mach
  refine y_aload_n (pc := 0) o dL_fall_0 rfl ?_
  refine y_iconst (pc := 1) (x := 0) o dL_fall_1 (by decide) ?_
  refine y_aload_n (pc := 2) o dL_fall_2 rfl ?_
  refine y_iload_n (pc := 3) o dL_fall_3 rfl ?_
  refine y_iload_n (pc := 4) o dL_fall_4 rfl ?_
  refine y_callVH (pc := 5) (k := 0) (n := 0) o (b := ad (0, 0, 0)) (As := [.int (a), .int (b)]) (rest := [.int (0), .ref (o1)]) (p_fall hC hBC hM a b) ln_L_103 dL_fall_5 (z_rc (ci := 15) (K := (0, 0, 0)) rfl (gl_0 hC) rfl) rfl rfl (Nat.le_of_ble_eq_true rfl) ⟨by decide, by decide⟩ ⟨by decide, by decide⟩ (fun _ e => e) ?_ ?_
  · intro x h hE
    obtain ⟨hm, ad1, h0, h20, hr⟩ := hE
    simp only [List.mem_cons, List.not_mem_nil, or_false, Prod.mk.injEq] at hm
    rcases hm with ⟨rfl, hk⟩ | ⟨rfl, hk⟩
    · refine ⟨13, ⟨tableOf [], _, tableOf [(0, 10, 17, 13)], rfl, (fun z hz => absurd hz List.not_mem_nil), by decide, by decide, qw_542, ca_X, rfl⟩, fun q => ?_⟩
      refine y_lv [0] (lv' := [(0, .ref (ad (0, 0, 0)))]) rfl ?_
      refine y_astore (pc := 13) (i := 4) (lv' := [(4, .ref (q)), (0, .ref (ad (0, 0, 0)))]) o dL_fall_13 (by decide) rfl ?_
      refine y_iconst (pc := 15) (x := 1) o dL_fall_15 (by decide) ?_
      exact y_iret (pc := 16) o dL_fall_16 rfl (vp_nar_int _) (by decide) (by decide) (fun h9 e => by subst e; exact ⟨by rw [hk], _, ad1, fun z => absurd (hk.symm.trans z) (by decide), h0, h20, hr⟩)
    · refine ⟨17, ⟨tableOf [(0, 10, 13, 38)], _, tableOf [], rfl, (List.forall_mem_cons.mpr ⟨⟨by decide, _, qw_542, nc_IX⟩, (fun z hz => absurd hz List.not_mem_nil)⟩), by decide, by decide, qw_286, ca_I, rfl⟩, fun q => ?_⟩
      refine y_lv [0] (lv' := [(0, .ref (ad (0, 0, 0)))]) rfl ?_
      refine y_astore (pc := 17) (i := 4) (lv' := [(4, .ref (q)), (0, .ref (ad (0, 0, 0)))]) o dL_fall_17 (by decide) rfl ?_
      refine y_iconst (pc := 19) (x := 2) o dL_fall_19 (by decide) ?_
      exact y_iret (pc := 20) o dL_fall_20 rfl (vp_nar_int _) (by decide) (by decide) (fun h9 e => by subst e; exact ⟨by rw [hk], _, ad1, fun z => absurd (hk.symm.trans z) (by decide), h0, h20, hr⟩)
  refine fun v => y_and fun hz => y_and fun ev => y_ex fun ad1 => y_and fun h0 => y_and fun h20 => ?_
  subst ev
  refine z_st (st' := [.int ((F_fall C a b).2.1), .int (0), .ref (o1)]) rfl ?_
  refine y_i2l (pc := 8) o dL_fall_8 ?_
  refine z_lastT (pc := 9) (i := 0) (x := ((F_fall C a b).2.1).toInt64) (T' := (o1, .inl (κ.2.1 1, 1, .inr (.inl (vp_updL g (0 : Int32).toNatClampNeg (((F_fall C a b).2.1).toInt64))))) :: T) o 0 dL_fall_9 rfl (by unfold vp_in; decide) rfl ?_
  refine y_goto (pc := 10) (tgt := 21) o dL_fall_10 rfl ?_
  refine y_iconst (pc := 21) (x := 0) o dL_fall_21 (by decide) ?_
  exact y_iret (pc := 22) o dL_fall_22 rfl (vp_nar_int _) (by decide) (by decide) (fun h hp => ⟨by rw [hz], _, ad1, fun _ => rfl, h0, h20, hp⟩)

theorem w_sample {κ : gq_K} {ad : gKey → Nat} {C R : gG} {T : List (Nat × va_E)} {n : Nat} (hI : gI n C) (o1 : Nat) (g : Nat → Int64) (a : Int32) (b : Int32) : gq_C κ mL_sample [.ref (ad (0, 0, 0)), .int (a), .int (b), .ref (o1)] (gR κ ad (C, R) ((o1, .inl (κ.2.1 1, 1, .inr (.inl g))) :: T)) (gW κ ad R o1 T (F_sample C a b)) (gq_no) := by
  refine gq_enterW (by decide +kernel) rfl (Nat.le_of_ble_eq_true rfl) rfl (fun f o => ?_)
  have hC := hI.fix
  have hBC := hI.cnt
  have hM := hI.mach
  refine y_aload_n (pc := 0) o dL_sample_0 rfl ?_
  refine y_iconst (pc := 1) (x := 0) o dL_sample_1 (by decide) ?_
  refine y_aload_n (pc := 2) o dL_sample_2 rfl ?_
  refine y_iload_n (pc := 3) o dL_sample_3 rfl ?_
  refine y_iload_n (pc := 4) o dL_sample_4 rfl ?_
  refine y_callVH (pc := 5) (k := 0) (n := 0) o (b := ad (0, 0, 0)) (As := [.int (a), .int (b)]) (rest := [.int (0), .ref (o1)]) (p_sample hC hBC hM a b) ln_L_106 dL_sample_5 (z_rc (ci := 15) (K := (0, 0, 0)) rfl (gl_0 hC) rfl) rfl rfl (Nat.le_of_ble_eq_true rfl) ⟨by decide, by decide⟩ ⟨by decide, by decide⟩ (fun _ e => e) ?_ ?_
  · intro x h hE
    obtain ⟨hm, ad1, h0, h20, hr⟩ := hE
    simp only [List.mem_cons, List.not_mem_nil, or_false, Prod.mk.injEq] at hm
    rcases hm with ⟨rfl, hk⟩ | ⟨rfl, hk⟩ | ⟨rfl, hk⟩
    · refine ⟨13, ⟨tableOf [], _, tableOf [(0, 10, 17, 13), (0, 10, 21, 21)], rfl, (fun z hz => absurd hz List.not_mem_nil), by decide, by decide, qw_542, ca_X, rfl⟩, fun q => ?_⟩
      refine y_lv [0] (lv' := [(0, .ref (ad (0, 0, 0)))]) rfl ?_
      refine y_astore (pc := 13) (i := 4) (lv' := [(4, .ref (q)), (0, .ref (ad (0, 0, 0)))]) o dL_sample_13 (by decide) rfl ?_
      refine y_iconst (pc := 15) (x := 1) o dL_sample_15 (by decide) ?_
      exact y_iret (pc := 16) o dL_sample_16 rfl (vp_nar_int _) (by decide) (by decide) (fun h9 e => by subst e; exact ⟨by rw [hk], _, ad1, fun z => absurd (hk.symm.trans z) (by decide), h0, h20, hr⟩)
    · refine ⟨17, ⟨tableOf [(0, 10, 13, 38)], _, tableOf [(0, 10, 21, 21)], rfl, (List.forall_mem_cons.mpr ⟨⟨by decide, _, qw_542, nc_IX⟩, (fun z hz => absurd hz List.not_mem_nil)⟩), by decide, by decide, qw_286, ca_I, rfl⟩, fun q => ?_⟩
      refine y_lv [0] (lv' := [(0, .ref (ad (0, 0, 0)))]) rfl ?_
      refine y_astore (pc := 17) (i := 4) (lv' := [(4, .ref (q)), (0, .ref (ad (0, 0, 0)))]) o dL_sample_17 (by decide) rfl ?_
      refine y_iconst (pc := 19) (x := 2) o dL_sample_19 (by decide) ?_
      exact y_iret (pc := 20) o dL_sample_20 rfl (vp_nar_int _) (by decide) (by decide) (fun h9 e => by subst e; exact ⟨by rw [hk], _, ad1, fun z => absurd (hk.symm.trans z) (by decide), h0, h20, hr⟩)
    · refine ⟨21, ⟨tableOf [(0, 10, 13, 38), (0, 10, 17, 13)], _, tableOf [], rfl, (List.forall_mem_cons.mpr ⟨⟨by decide, _, qw_542, nc_UX⟩, (List.forall_mem_cons.mpr ⟨⟨by decide, _, qw_286, nc_UI⟩, (fun z hz => absurd hz List.not_mem_nil)⟩)⟩), by decide, by decide, qw_385, ca_U, rfl⟩, fun q => ?_⟩
      refine y_lv [0] (lv' := [(0, .ref (ad (0, 0, 0)))]) rfl ?_
      refine y_astore (pc := 21) (i := 4) (lv' := [(4, .ref (q)), (0, .ref (ad (0, 0, 0)))]) o dL_sample_21 (by decide) rfl ?_
      refine y_iconst (pc := 23) (x := 3) o dL_sample_23 (by decide) ?_
      exact y_iret (pc := 24) o dL_sample_24 rfl (vp_nar_int _) (by decide) (by decide) (fun h9 e => by subst e; exact ⟨by rw [hk], _, ad1, fun z => absurd (hk.symm.trans z) (by decide), h0, h20, hr⟩)
  refine fun v => y_and fun hz => y_and fun ev => y_ex fun ad1 => y_and fun h0 => y_and fun h20 => ?_
  subst ev
  refine z_st (st' := [.int ((F_sample C a b).2.1), .int (0), .ref (o1)]) rfl ?_
  refine y_i2l (pc := 8) o dL_sample_8 ?_
  refine z_lastT (pc := 9) (i := 0) (x := ((F_sample C a b).2.1).toInt64) (T' := (o1, .inl (κ.2.1 1, 1, .inr (.inl (vp_updL g (0 : Int32).toNatClampNeg (((F_sample C a b).2.1).toInt64))))) :: T) o 0 dL_sample_9 rfl (by unfold vp_in; decide) rfl ?_
  refine y_goto (pc := 10) (tgt := 25) o dL_sample_10 rfl ?_
  refine y_iconst (pc := 25) (x := 0) o dL_sample_25 (by decide) ?_
  exact y_iret (pc := 26) o dL_sample_26 rfl (vp_nar_int _) (by decide) (by decide) (fun h hp => ⟨by rw [hz], _, ad1, fun _ => rfl, h0, h20, hp⟩)

theorem w_seed {κ : gq_K} {ad : gKey → Nat} {C R : gG} {T : List (Nat × va_E)} {n : Nat} (hI : gI n C) (o1 : Nat) (g : Nat → Int64) (a : Int32) : gq_C κ mL_seed [.ref (ad (0, 0, 0)), .int (a), .ref (o1)] (gR κ ad (C, R) ((o1, .inl (κ.2.1 1, 1, .inr (.inl g))) :: T)) (gW κ ad R o1 T (F_seed C a)) (gq_no) := by
  refine gq_enterW (by decide +kernel) rfl (Nat.le_of_ble_eq_true rfl) rfl (fun f o => ?_)
  have hC := hI.fix
  have hBC := hI.cnt
  have hM := hI.mach
  refine y_aload_n (pc := 0) o dL_seed_0 rfl ?_
  refine y_iconst (pc := 1) (x := 0) o dL_seed_1 (by decide) ?_
  refine y_aload_n (pc := 2) o dL_seed_2 rfl ?_
  refine y_iload_n (pc := 3) o dL_seed_3 rfl ?_
  refine y_callVH (pc := 4) (k := 0) (n := 0) o (b := ad (0, 0, 0)) (As := [.int (a)]) (rest := [.int (0), .ref (o1)]) (p_seed hC hBC hM a) ln_L_109 dL_seed_4 (z_rc (ci := 15) (K := (0, 0, 0)) rfl (gl_0 hC) rfl) rfl rfl (Nat.le_of_ble_eq_true rfl) ⟨by decide, by decide⟩ ⟨by decide, by decide⟩ (fun _ e => e) ?_ ?_
  · intro x h hE
    obtain ⟨hm, ad1, h0, h20, hr⟩ := hE
    simp only [List.mem_cons, List.not_mem_nil, or_false, Prod.mk.injEq] at hm
    rcases hm with ⟨rfl, hk⟩
    · refine ⟨12, ⟨tableOf [], _, tableOf [], rfl, (fun z hz => absurd hz List.not_mem_nil), by decide, by decide, qw_286, ca_I, rfl⟩, fun q => ?_⟩
      refine y_lv [0] (lv' := [(0, .ref (ad (0, 0, 0)))]) rfl ?_
      refine y_astore_n (pc := 12) (i := 3) (lv' := [(3, .ref (q)), (0, .ref (ad (0, 0, 0)))]) o dL_seed_12 rfl (by decide) rfl ?_
      refine y_iconst (pc := 13) (x := 1) o dL_seed_13 (by decide) ?_
      exact y_iret (pc := 14) o dL_seed_14 rfl (vp_nar_int _) (by decide) (by decide) (fun h9 e => by subst e; exact ⟨by rw [hk], _, ad1, fun z => absurd (hk.symm.trans z) (by decide), h0, h20, hr⟩)
  refine fun v => y_and fun hz => y_and fun ev => y_ex fun ad1 => y_and fun h0 => y_and fun h20 => ?_
  subst ev
  refine z_st (st' := [.int ((F_seed C a).2.1), .int (0), .ref (o1)]) rfl ?_
  refine y_i2l (pc := 7) o dL_seed_7 ?_
  refine z_lastT (pc := 8) (i := 0) (x := ((F_seed C a).2.1).toInt64) (T' := (o1, .inl (κ.2.1 1, 1, .inr (.inl (vp_updL g (0 : Int32).toNatClampNeg (((F_seed C a).2.1).toInt64))))) :: T) o 0 dL_seed_8 rfl (by unfold vp_in; decide) rfl ?_
  refine y_goto (pc := 9) (tgt := 15) o dL_seed_9 rfl ?_
  refine y_iconst (pc := 15) (x := 0) o dL_seed_15 (by decide) ?_
  exact y_iret (pc := 16) o dL_seed_16 rfl (vp_nar_int _) (by decide) (by decide) (fun h hp => ⟨by rw [hz], _, ad1, fun _ => rfl, h0, h20, hp⟩)

theorem w_gross {κ : gq_K} {ad : gKey → Nat} {C R : gG} {T : List (Nat × va_E)} {n : Nat} (hI : gI n C) (o1 : Nat) (g : Nat → Int64) (a : Int32) : gq_C κ mL_gross [.ref (ad (0, 0, 0)), .int (a), .ref (o1)] (gR κ ad (C, R) ((o1, .inl (κ.2.1 1, 1, .inr (.inl g))) :: T)) (gW κ ad R o1 T (F_gross C a)) (gq_no) := by
  refine gq_enterW (by decide +kernel) rfl (Nat.le_of_ble_eq_true rfl) rfl (fun f o => ?_)
  have hC := hI.fix
  have hBC := hI.cnt
  have hM := hI.mach
  refine y_aload_n (pc := 0) o dL_gross_0 rfl ?_
  refine y_iconst (pc := 1) (x := 0) o dL_gross_1 (by decide) ?_
  refine y_aload_n (pc := 2) o dL_gross_2 rfl ?_
  refine y_iload_n (pc := 3) o dL_gross_3 rfl ?_
  refine y_callVH (pc := 4) (k := 0) (n := 0) o (b := ad (0, 0, 0)) (As := [.int (a)]) (rest := [.int (0), .ref (o1)]) (p_gross hC hBC hM (hI.1.2.2.2 _ (Nat.le_refl _)) a) ln_L_112 dL_gross_4 (z_rc (ci := 15) (K := (0, 0, 0)) rfl (gl_0 hC) rfl) rfl rfl (Nat.le_of_ble_eq_true rfl) ⟨by decide, by decide⟩ ⟨by decide, by decide⟩ (fun _ e => e) ?_ ?_
  · intro x h hE
    obtain ⟨hm, ad1, h0, h20, hr⟩ := hE
    simp only [List.mem_cons, List.not_mem_nil, or_false, Prod.mk.injEq] at hm
    rcases hm with ⟨rfl, hk⟩ | ⟨rfl, hk⟩
    · refine ⟨12, ⟨tableOf [], _, tableOf [(0, 9, 15, 15)], rfl, (fun z hz => absurd hz List.not_mem_nil), by decide, by decide, qw_286, ca_I, rfl⟩, fun q => ?_⟩
      refine y_lv [0] (lv' := [(0, .ref (ad (0, 0, 0)))]) rfl ?_
      refine y_astore_n (pc := 12) (i := 3) (lv' := [(3, .ref (q)), (0, .ref (ad (0, 0, 0)))]) o dL_gross_12 rfl (by decide) rfl ?_
      refine y_iconst (pc := 13) (x := 1) o dL_gross_13 (by decide) ?_
      exact y_iret (pc := 14) o dL_gross_14 rfl (vp_nar_int _) (by decide) (by decide) (fun h9 e => by subst e; exact ⟨by rw [hk], _, ad1, fun z => absurd (hk.symm.trans z) (by decide), h0, h20, hr⟩)
    · refine ⟨15, ⟨tableOf [(0, 9, 12, 13)], _, tableOf [], rfl, (List.forall_mem_cons.mpr ⟨⟨by decide, _, qw_286, nc_SI⟩, (fun z hz => absurd hz List.not_mem_nil)⟩), by decide, by decide, qw_287, ca_S, rfl⟩, fun q => ?_⟩
      refine y_lv [0] (lv' := [(0, .ref (ad (0, 0, 0)))]) rfl ?_
      refine y_astore_n (pc := 15) (i := 3) (lv' := [(3, .ref (q)), (0, .ref (ad (0, 0, 0)))]) o dL_gross_15 rfl (by decide) rfl ?_
      refine y_iconst (pc := 16) (x := 2) o dL_gross_16 (by decide) ?_
      exact y_iret (pc := 17) o dL_gross_17 rfl (vp_nar_int _) (by decide) (by decide) (fun h9 e => by subst e; exact ⟨by rw [hk], _, ad1, fun z => absurd (hk.symm.trans z) (by decide), h0, h20, hr⟩)
  refine fun v => y_and fun hz => y_and fun ev => y_ex fun ad1 => y_and fun h0 => y_and fun h20 => ?_
  subst ev
  refine z_st (st' := [.int ((F_gross C a).2.1), .int (0), .ref (o1)]) rfl ?_
  refine y_i2l (pc := 7) o dL_gross_7 ?_
  refine z_lastT (pc := 8) (i := 0) (x := ((F_gross C a).2.1).toInt64) (T' := (o1, .inl (κ.2.1 1, 1, .inr (.inl (vp_updL g (0 : Int32).toNatClampNeg (((F_gross C a).2.1).toInt64))))) :: T) o 0 dL_gross_8 rfl (by unfold vp_in; decide) rfl ?_
  refine y_goto (pc := 9) (tgt := 18) o dL_gross_9 rfl ?_
  refine y_iconst (pc := 18) (x := 0) o dL_gross_18 (by decide) ?_
  exact y_iret (pc := 19) o dL_gross_19 rfl (vp_nar_int _) (by decide) (by decide) (fun h hp => ⟨by rw [hz], _, ad1, fun _ => rfl, h0, h20, hp⟩)

theorem w_pack {κ : gq_K} {ad : gKey → Nat} {C R : gG} {T : List (Nat × va_E)} {n : Nat} (hI : gI n C) (o1 : Nat) (g : Nat → Int64) (a : Int32) (b : Int32) (c : Int32) : gq_C κ mL_pack [.ref (ad (0, 0, 0)), .int (a), .int (b), .int (c), .ref (o1)] (gR κ ad (C, R) ((o1, .inl (κ.2.1 1, 1, .inr (.inl g))) :: T)) (gW κ ad R o1 T (F_pack C a b c)) (gq_no) := by
  refine gq_enterW (by decide +kernel) rfl (Nat.le_of_ble_eq_true rfl) rfl (fun f o => ?_)
  have hC := hI.fix
  have hBC := hI.cnt
  have hM := hI.mach
  refine y_aload (pc := 0) o dL_pack_0 rfl ?_
  refine y_iconst (pc := 2) (x := 0) o dL_pack_2 (by decide) ?_
  refine y_aload_n (pc := 3) o dL_pack_3 rfl ?_
  refine y_iload_n (pc := 4) o dL_pack_4 rfl ?_
  refine y_iload_n (pc := 5) o dL_pack_5 rfl ?_
  refine y_iload_n (pc := 6) o dL_pack_6 rfl ?_
  refine y_callVH (pc := 7) (k := 0) (n := 0) o (b := ad (0, 0, 0)) (As := [.int (a), .int (b), .int (c)]) (rest := [.int (0), .ref (o1)]) (p_pack hC hBC hM a b c) ln_L_115 dL_pack_7 (z_rc (ci := 15) (K := (0, 0, 0)) rfl (gl_0 hC) rfl) rfl rfl (Nat.le_of_ble_eq_true rfl) ⟨by decide, by decide⟩ ⟨by decide, by decide⟩ (fun _ e => e) ?_ ?_
  · intro x h hE
    obtain ⟨hm, ad1, h0, h20, hr⟩ := hE
    simp only [List.mem_cons, List.not_mem_nil, or_false, Prod.mk.injEq] at hm
    rcases hm with ⟨rfl, hk⟩ | ⟨rfl, hk⟩ | ⟨rfl, hk⟩
    · refine ⟨15, ⟨tableOf [], _, tableOf [(0, 12, 19, 13), (0, 12, 23, 21)], rfl, (fun z hz => absurd hz List.not_mem_nil), by decide, by decide, qw_542, ca_X, rfl⟩, fun q => ?_⟩
      refine y_lv [0] (lv' := [(0, .ref (ad (0, 0, 0)))]) rfl ?_
      refine y_astore (pc := 15) (i := 5) (lv' := [(5, .ref (q)), (0, .ref (ad (0, 0, 0)))]) o dL_pack_15 (by decide) rfl ?_
      refine y_iconst (pc := 17) (x := 1) o dL_pack_17 (by decide) ?_
      exact y_iret (pc := 18) o dL_pack_18 rfl (vp_nar_int _) (by decide) (by decide) (fun h9 e => by subst e; exact ⟨by rw [hk], _, ad1, fun z => absurd (hk.symm.trans z) (by decide), h0, h20, hr⟩)
    · refine ⟨19, ⟨tableOf [(0, 12, 15, 38)], _, tableOf [(0, 12, 23, 21)], rfl, (List.forall_mem_cons.mpr ⟨⟨by decide, _, qw_542, nc_IX⟩, (fun z hz => absurd hz List.not_mem_nil)⟩), by decide, by decide, qw_286, ca_I, rfl⟩, fun q => ?_⟩
      refine y_lv [0] (lv' := [(0, .ref (ad (0, 0, 0)))]) rfl ?_
      refine y_astore (pc := 19) (i := 5) (lv' := [(5, .ref (q)), (0, .ref (ad (0, 0, 0)))]) o dL_pack_19 (by decide) rfl ?_
      refine y_iconst (pc := 21) (x := 2) o dL_pack_21 (by decide) ?_
      exact y_iret (pc := 22) o dL_pack_22 rfl (vp_nar_int _) (by decide) (by decide) (fun h9 e => by subst e; exact ⟨by rw [hk], _, ad1, fun z => absurd (hk.symm.trans z) (by decide), h0, h20, hr⟩)
    · refine ⟨23, ⟨tableOf [(0, 12, 15, 38), (0, 12, 19, 13)], _, tableOf [], rfl, (List.forall_mem_cons.mpr ⟨⟨by decide, _, qw_542, nc_UX⟩, (List.forall_mem_cons.mpr ⟨⟨by decide, _, qw_286, nc_UI⟩, (fun z hz => absurd hz List.not_mem_nil)⟩)⟩), by decide, by decide, qw_385, ca_U, rfl⟩, fun q => ?_⟩
      refine y_lv [0] (lv' := [(0, .ref (ad (0, 0, 0)))]) rfl ?_
      refine y_astore (pc := 23) (i := 5) (lv' := [(5, .ref (q)), (0, .ref (ad (0, 0, 0)))]) o dL_pack_23 (by decide) rfl ?_
      refine y_iconst (pc := 25) (x := 3) o dL_pack_25 (by decide) ?_
      exact y_iret (pc := 26) o dL_pack_26 rfl (vp_nar_int _) (by decide) (by decide) (fun h9 e => by subst e; exact ⟨by rw [hk], _, ad1, fun z => absurd (hk.symm.trans z) (by decide), h0, h20, hr⟩)
  refine fun v => y_and fun hz => y_and fun ev => y_ex fun ad1 => y_and fun h0 => y_and fun h20 => ?_
  subst ev
  refine z_st (st' := [.int ((F_pack C a b c).2.1), .int (0), .ref (o1)]) rfl ?_
  refine y_i2l (pc := 10) o dL_pack_10 ?_
  refine z_lastT (pc := 11) (i := 0) (x := ((F_pack C a b c).2.1).toInt64) (T' := (o1, .inl (κ.2.1 1, 1, .inr (.inl (vp_updL g (0 : Int32).toNatClampNeg (((F_pack C a b c).2.1).toInt64))))) :: T) o 0 dL_pack_11 rfl (by unfold vp_in; decide) rfl ?_
  refine y_goto (pc := 12) (tgt := 27) o dL_pack_12 rfl ?_
  refine y_iconst (pc := 27) (x := 0) o dL_pack_27 (by decide) ?_
  exact y_iret (pc := 28) o dL_pack_28 rfl (vp_nar_int _) (by decide) (by decide) (fun h hp => ⟨by rw [hz], _, ad1, fun _ => rfl, h0, h20, hp⟩)

theorem w_order {κ : gq_K} {ad : gKey → Nat} {C R : gG} {T : List (Nat × va_E)} {n : Nat} (hI : gI n C) (o1 : Nat) (g : Nat → Int64) (a : Int32) (b : Int32) (c : Int32) : gq_C κ mL_order [.ref (ad (0, 0, 0)), .int (a), .int (b), .int (c), .ref (o1)] (gR κ ad (C, R) ((o1, .inl (κ.2.1 1, 1, .inr (.inl g))) :: T)) (gW κ ad R o1 T (F_order C a b c)) (gq_no) := by
  refine gq_enterW (by decide +kernel) rfl (Nat.le_of_ble_eq_true rfl) rfl (fun f o => ?_)
  have hC := hI.fix
  have hBC := hI.cnt
  have hM := hI.mach
  refine y_aload (pc := 0) o dL_order_0 rfl ?_
  refine y_iconst (pc := 2) (x := 0) o dL_order_2 (by decide) ?_
  refine y_aload_n (pc := 3) o dL_order_3 rfl ?_
  refine y_iload_n (pc := 4) o dL_order_4 rfl ?_
  refine y_iload_n (pc := 5) o dL_order_5 rfl ?_
  refine y_iload_n (pc := 6) o dL_order_6 rfl ?_
  refine y_callVH (pc := 7) (k := 0) (n := 0) o (b := ad (0, 0, 0)) (As := [.int (a), .int (b), .int (c)]) (rest := [.int (0), .ref (o1)]) (p_order hC hBC hM a b c) ln_L_118 dL_order_7 (z_rc (ci := 15) (K := (0, 0, 0)) rfl (gl_0 hC) rfl) rfl rfl (Nat.le_of_ble_eq_true rfl) ⟨by decide, by decide⟩ ⟨by decide, by decide⟩ (fun _ e => e) ?_ ?_
  · intro x h hE
    obtain ⟨hm, ad1, h0, h20, hr⟩ := hE
    simp only [List.mem_cons, List.not_mem_nil, or_false, Prod.mk.injEq] at hm
    rcases hm with ⟨rfl, hk⟩ | ⟨rfl, hk⟩
    · refine ⟨15, ⟨tableOf [], _, tableOf [(0, 12, 19, 15)], rfl, (fun z hz => absurd hz List.not_mem_nil), by decide, by decide, qw_286, ca_I, rfl⟩, fun q => ?_⟩
      refine y_lv [0] (lv' := [(0, .ref (ad (0, 0, 0)))]) rfl ?_
      refine y_astore (pc := 15) (i := 5) (lv' := [(5, .ref (q)), (0, .ref (ad (0, 0, 0)))]) o dL_order_15 (by decide) rfl ?_
      refine y_iconst (pc := 17) (x := 1) o dL_order_17 (by decide) ?_
      exact y_iret (pc := 18) o dL_order_18 rfl (vp_nar_int _) (by decide) (by decide) (fun h9 e => by subst e; exact ⟨by rw [hk], _, ad1, fun z => absurd (hk.symm.trans z) (by decide), h0, h20, hr⟩)
    · refine ⟨19, ⟨tableOf [(0, 12, 15, 13)], _, tableOf [], rfl, (List.forall_mem_cons.mpr ⟨⟨by decide, _, qw_286, nc_SI⟩, (fun z hz => absurd hz List.not_mem_nil)⟩), by decide, by decide, qw_287, ca_S, rfl⟩, fun q => ?_⟩
      refine y_lv [0] (lv' := [(0, .ref (ad (0, 0, 0)))]) rfl ?_
      refine y_astore (pc := 19) (i := 5) (lv' := [(5, .ref (q)), (0, .ref (ad (0, 0, 0)))]) o dL_order_19 (by decide) rfl ?_
      refine y_iconst (pc := 21) (x := 2) o dL_order_21 (by decide) ?_
      exact y_iret (pc := 22) o dL_order_22 rfl (vp_nar_int _) (by decide) (by decide) (fun h9 e => by subst e; exact ⟨by rw [hk], _, ad1, fun z => absurd (hk.symm.trans z) (by decide), h0, h20, hr⟩)
  refine fun v => y_and fun hz => y_and fun ev => y_ex fun ad1 => y_and fun h0 => y_and fun h20 => ?_
  subst ev
  refine z_st (st' := [.int ((F_order C a b c).2.1), .int (0), .ref (o1)]) rfl ?_
  refine y_i2l (pc := 10) o dL_order_10 ?_
  refine z_lastT (pc := 11) (i := 0) (x := ((F_order C a b c).2.1).toInt64) (T' := (o1, .inl (κ.2.1 1, 1, .inr (.inl (vp_updL g (0 : Int32).toNatClampNeg (((F_order C a b c).2.1).toInt64))))) :: T) o 0 dL_order_11 rfl (by unfold vp_in; decide) rfl ?_
  refine y_goto (pc := 12) (tgt := 23) o dL_order_12 rfl ?_
  refine y_iconst (pc := 23) (x := 0) o dL_order_23 (by decide) ?_
  exact y_iret (pc := 24) o dL_order_24 rfl (vp_nar_int _) (by decide) (by decide) (fun h hp => ⟨by rw [hz], _, ad1, fun _ => rfl, h0, h20, hp⟩)

theorem w_ship {κ : gq_K} {ad : gKey → Nat} {C R : gG} {T : List (Nat × va_E)} {n : Nat} (hI : gI n C) (o1 : Nat) (g : Nat → Int64) (a : Int32) (b : Int32) : gq_C κ mL_ship [.ref (ad (0, 0, 0)), .int (a), .int (b), .ref (o1)] (gR κ ad (C, R) ((o1, .inl (κ.2.1 1, 1, .inr (.inl g))) :: T)) (gW κ ad R o1 T (F_ship C a b)) (gq_no) := by
  refine gq_enterW (by decide +kernel) rfl (Nat.le_of_ble_eq_true rfl) rfl (fun f o => ?_)
  have hC := hI.fix
  have hBC := hI.cnt
  have hM := hI.mach
  refine y_aload_n (pc := 0) o dL_ship_0 rfl ?_
  refine y_iconst (pc := 1) (x := 0) o dL_ship_1 (by decide) ?_
  refine y_aload_n (pc := 2) o dL_ship_2 rfl ?_
  refine y_iload_n (pc := 3) o dL_ship_3 rfl ?_
  refine y_iload_n (pc := 4) o dL_ship_4 rfl ?_
  refine y_callVH (pc := 5) (k := 0) (n := 0) o (b := ad (0, 0, 0)) (As := [.int (a), .int (b)]) (rest := [.int (0), .ref (o1)]) (p_ship hC hBC hM a b) ln_L_121 dL_ship_5 (z_rc (ci := 15) (K := (0, 0, 0)) rfl (gl_0 hC) rfl) rfl rfl (Nat.le_of_ble_eq_true rfl) ⟨by decide, by decide⟩ ⟨by decide, by decide⟩ (fun _ e => e) ?_ ?_
  · intro x h hE
    obtain ⟨hm, ad1, h0, h20, hr⟩ := hE
    simp only [List.mem_cons, List.not_mem_nil, or_false, Prod.mk.injEq] at hm
    rcases hm with ⟨rfl, hk⟩ | ⟨rfl, hk⟩
    · refine ⟨13, ⟨tableOf [], _, tableOf [(0, 10, 17, 21)], rfl, (fun z hz => absurd hz List.not_mem_nil), by decide, by decide, qw_542, ca_X, rfl⟩, fun q => ?_⟩
      refine y_lv [0] (lv' := [(0, .ref (ad (0, 0, 0)))]) rfl ?_
      refine y_astore (pc := 13) (i := 4) (lv' := [(4, .ref (q)), (0, .ref (ad (0, 0, 0)))]) o dL_ship_13 (by decide) rfl ?_
      refine y_iconst (pc := 15) (x := 1) o dL_ship_15 (by decide) ?_
      exact y_iret (pc := 16) o dL_ship_16 rfl (vp_nar_int _) (by decide) (by decide) (fun h9 e => by subst e; exact ⟨by rw [hk], _, ad1, fun z => absurd (hk.symm.trans z) (by decide), h0, h20, hr⟩)
    · refine ⟨17, ⟨tableOf [(0, 10, 13, 38)], _, tableOf [], rfl, (List.forall_mem_cons.mpr ⟨⟨by decide, _, qw_542, nc_UX⟩, (fun z hz => absurd hz List.not_mem_nil)⟩), by decide, by decide, qw_385, ca_U, rfl⟩, fun q => ?_⟩
      refine y_lv [0] (lv' := [(0, .ref (ad (0, 0, 0)))]) rfl ?_
      refine y_astore (pc := 17) (i := 4) (lv' := [(4, .ref (q)), (0, .ref (ad (0, 0, 0)))]) o dL_ship_17 (by decide) rfl ?_
      refine y_iconst (pc := 19) (x := 2) o dL_ship_19 (by decide) ?_
      exact y_iret (pc := 20) o dL_ship_20 rfl (vp_nar_int _) (by decide) (by decide) (fun h9 e => by subst e; exact ⟨by rw [hk], _, ad1, fun z => absurd (hk.symm.trans z) (by decide), h0, h20, hr⟩)
  refine fun v => y_and fun hz => y_and fun ev => y_ex fun ad1 => y_and fun h0 => y_and fun h20 => ?_
  subst ev
  refine z_st (st' := [.int ((F_ship C a b).2.1), .int (0), .ref (o1)]) rfl ?_
  refine y_i2l (pc := 8) o dL_ship_8 ?_
  refine z_lastT (pc := 9) (i := 0) (x := ((F_ship C a b).2.1).toInt64) (T' := (o1, .inl (κ.2.1 1, 1, .inr (.inl (vp_updL g (0 : Int32).toNatClampNeg (((F_ship C a b).2.1).toInt64))))) :: T) o 0 dL_ship_9 rfl (by unfold vp_in; decide) rfl ?_
  refine y_goto (pc := 10) (tgt := 21) o dL_ship_10 rfl ?_
  refine y_iconst (pc := 21) (x := 0) o dL_ship_21 (by decide) ?_
  exact y_iret (pc := 22) o dL_ship_22 rfl (vp_nar_int _) (by decide) (by decide) (fun h hp => ⟨by rw [hz], _, ad1, fun _ => rfl, h0, h20, hp⟩)

theorem w_isLate {κ : gq_K} {ad : gKey → Nat} {C R : gG} {T : List (Nat × va_E)} {n : Nat} (hI : gI n C) (o1 : Nat) (g : Nat → Int64) (a : Int32) : gq_C κ mL_isLate [.ref (ad (0, 0, 0)), .int (a), .ref (o1)] (gR κ ad (C, R) ((o1, .inl (κ.2.1 1, 1, .inr (.inl g))) :: T)) (gWb κ ad R o1 T (F_isLate C a)) (gq_no) := by
  refine gq_enterW (by decide +kernel) rfl (Nat.le_of_ble_eq_true rfl) rfl (fun f o => ?_)
  have hC := hI.fix
  have hBC := hI.cnt
  have hM := hI.mach
  refine y_aload_n (pc := 0) o dL_isLate_0 rfl ?_
  refine y_iconst (pc := 1) (x := 0) o dL_isLate_1 (by decide) ?_
  refine y_aload_n (pc := 2) o dL_isLate_2 rfl ?_
  refine y_iload_n (pc := 3) o dL_isLate_3 rfl ?_
  refine y_callVH (pc := 4) (k := 0) (n := 0) o (b := ad (0, 0, 0)) (As := [.int (a)]) (rest := [.int (0), .ref (o1)]) (p_isLate hC hBC hM a) ln_L_124 dL_isLate_4 (z_rc (ci := 15) (K := (0, 0, 0)) rfl (gl_0 hC) rfl) rfl rfl (Nat.le_of_ble_eq_true rfl) ⟨by decide, by decide⟩ ⟨by decide, by decide⟩ (fun _ e => e) ?_ ?_
  · intro x h hE
    obtain ⟨hm, ad1, h0, h20, hr⟩ := hE
    simp only [List.mem_cons, List.not_mem_nil, or_false, Prod.mk.injEq] at hm
    rcases hm with ⟨rfl, hk⟩
    · refine ⟨19, ⟨tableOf [], _, tableOf [], rfl, (fun z hz => absurd hz List.not_mem_nil), by decide, by decide, qw_542, ca_X, rfl⟩, fun q => ?_⟩
      refine y_lv [0] (lv' := [(0, .ref (ad (0, 0, 0)))]) rfl ?_
      refine y_astore_n (pc := 19) (i := 3) (lv' := [(3, .ref (q)), (0, .ref (ad (0, 0, 0)))]) o dL_isLate_19 rfl (by decide) rfl ?_
      refine y_iconst (pc := 20) (x := 1) o dL_isLate_20 (by decide) ?_
      exact y_iret (pc := 21) o dL_isLate_21 rfl (vp_nar_int _) (by decide) (by decide) (fun h9 e => by subst e; exact ⟨by rw [hk], _, ad1, fun z => absurd (hk.symm.trans z) (by decide), h0, h20, hr⟩)
  refine fun v => y_and fun hz => y_and fun ev => y_ex fun ad1 => y_and fun h0 => y_and fun h20 => ?_
  subst ev
  refine z_st (st' := [.int ((F_isLate C a).2.1), .int (0), .ref (o1)]) rfl ?_
  refine y_if_eq (pc := 7) (tgt := 14) o dL_isLate_7 rfl (fun (b1 : ((F_isLate C a).2.1) = 0) => ?_) (fun (b1 : ¬ ((F_isLate C a).2.1) = 0) => ?_)
  · refine y_lconst (pc := 14) (x := 0) o dL_isLate_14 (by decide) ?_
    refine z_lastT (pc := 15) (i := 0) (x := 0) (T' := (o1, .inl (κ.2.1 1, 1, .inr (.inl (vp_updL g (0 : Int32).toNatClampNeg 0)))) :: T) o 0 dL_isLate_15 rfl (by unfold vp_in; decide) rfl ?_
    refine y_goto (pc := 16) (tgt := 22) o dL_isLate_16 rfl ?_
    refine y_iconst (pc := 22) (x := 0) o dL_isLate_22 (by decide) ?_
    exact y_iret (pc := 23) o dL_isLate_23 rfl (vp_nar_int _) (by decide) (by decide) (fun h hp => ⟨by rw [hz], _, ad1, fun _ => by rw [if_pos b1]; rfl, h0, h20, hp⟩)
  refine y_lconst (pc := 10) (x := 1) o dL_isLate_10 (by decide) ?_
  refine y_goto (pc := 11) (tgt := 15) o dL_isLate_11 rfl ?_
  refine z_lastT (pc := 15) (i := 0) (x := 1) (T' := (o1, .inl (κ.2.1 1, 1, .inr (.inl (vp_updL g (0 : Int32).toNatClampNeg 1)))) :: T) o 0 dL_isLate_15 rfl (by unfold vp_in; decide) rfl ?_
  refine y_goto (pc := 16) (tgt := 22) o dL_isLate_16 rfl ?_
  refine y_iconst (pc := 22) (x := 0) o dL_isLate_22 (by decide) ?_
  exact y_iret (pc := 23) o dL_isLate_23 rfl (vp_nar_int _) (by decide) (by decide) (fun h hp => ⟨by rw [hz], _, ad1, fun _ => by rw [if_neg b1]; rfl, h0, h20, hp⟩)

theorem w_claim {κ : gq_K} {ad : gKey → Nat} {C R : gG} {T : List (Nat × va_E)} {n : Nat} (hI : gI n C) (o1 : Nat) (g : Nat → Int64) (a : Int32) : gq_C κ mL_claim [.ref (ad (0, 0, 0)), .int (a), .ref (o1)] (gR κ ad (C, R) ((o1, .inl (κ.2.1 1, 1, .inr (.inl g))) :: T)) (gWb κ ad R o1 T (F_claim C a)) (gq_no) := by
  refine gq_enterW (by decide +kernel) rfl (Nat.le_of_ble_eq_true rfl) rfl (fun f o => ?_)
  have hC := hI.fix
  have hBC := hI.cnt
  have hM := hI.mach
  refine y_aload_n (pc := 0) o dL_claim_0 rfl ?_
  refine y_iconst (pc := 1) (x := 0) o dL_claim_1 (by decide) ?_
  refine y_aload_n (pc := 2) o dL_claim_2 rfl ?_
  refine y_iload_n (pc := 3) o dL_claim_3 rfl ?_
  refine y_callVH (pc := 4) (k := 0) (n := 0) o (b := ad (0, 0, 0)) (As := [.int (a)]) (rest := [.int (0), .ref (o1)]) (p_claim hC hBC hM a) ln_L_128 dL_claim_4 (z_rc (ci := 15) (K := (0, 0, 0)) rfl (gl_0 hC) rfl) rfl rfl (Nat.le_of_ble_eq_true rfl) ⟨by decide, by decide⟩ ⟨by decide, by decide⟩ (fun _ e => e) ?_ ?_
  · intro x h hE
    obtain ⟨hm, ad1, h0, h20, hr⟩ := hE
    simp only [List.mem_cons, List.not_mem_nil, or_false, Prod.mk.injEq] at hm
    rcases hm with ⟨rfl, hk⟩
    · refine ⟨19, ⟨tableOf [], _, tableOf [], rfl, (fun z hz => absurd hz List.not_mem_nil), by decide, by decide, qw_542, ca_X, rfl⟩, fun q => ?_⟩
      refine y_lv [0] (lv' := [(0, .ref (ad (0, 0, 0)))]) rfl ?_
      refine y_astore_n (pc := 19) (i := 3) (lv' := [(3, .ref (q)), (0, .ref (ad (0, 0, 0)))]) o dL_claim_19 rfl (by decide) rfl ?_
      refine y_iconst (pc := 20) (x := 1) o dL_claim_20 (by decide) ?_
      exact y_iret (pc := 21) o dL_claim_21 rfl (vp_nar_int _) (by decide) (by decide) (fun h9 e => by subst e; exact ⟨by rw [hk], _, ad1, fun z => absurd (hk.symm.trans z) (by decide), h0, h20, hr⟩)
  refine fun v => y_and fun hz => y_and fun ev => y_ex fun ad1 => y_and fun h0 => y_and fun h20 => ?_
  subst ev
  refine z_st (st' := [.int ((F_claim C a).2.1), .int (0), .ref (o1)]) rfl ?_
  refine y_if_eq (pc := 7) (tgt := 14) o dL_claim_7 rfl (fun (b1 : ((F_claim C a).2.1) = 0) => ?_) (fun (b1 : ¬ ((F_claim C a).2.1) = 0) => ?_)
  · refine y_lconst (pc := 14) (x := 0) o dL_claim_14 (by decide) ?_
    refine z_lastT (pc := 15) (i := 0) (x := 0) (T' := (o1, .inl (κ.2.1 1, 1, .inr (.inl (vp_updL g (0 : Int32).toNatClampNeg 0)))) :: T) o 0 dL_claim_15 rfl (by unfold vp_in; decide) rfl ?_
    refine y_goto (pc := 16) (tgt := 22) o dL_claim_16 rfl ?_
    refine y_iconst (pc := 22) (x := 0) o dL_claim_22 (by decide) ?_
    exact y_iret (pc := 23) o dL_claim_23 rfl (vp_nar_int _) (by decide) (by decide) (fun h hp => ⟨by rw [hz], _, ad1, fun _ => by rw [if_pos b1]; rfl, h0, h20, hp⟩)
  refine y_lconst (pc := 10) (x := 1) o dL_claim_10 (by decide) ?_
  refine y_goto (pc := 11) (tgt := 15) o dL_claim_11 rfl ?_
  refine z_lastT (pc := 15) (i := 0) (x := 1) (T' := (o1, .inl (κ.2.1 1, 1, .inr (.inl (vp_updL g (0 : Int32).toNatClampNeg 1)))) :: T) o 0 dL_claim_15 rfl (by unfold vp_in; decide) rfl ?_
  refine y_goto (pc := 16) (tgt := 22) o dL_claim_16 rfl ?_
  refine y_iconst (pc := 22) (x := 0) o dL_claim_22 (by decide) ?_
  exact y_iret (pc := 23) o dL_claim_23 rfl (vp_nar_int _) (by decide) (by decide) (fun h hp => ⟨by rw [hz], _, ad1, fun _ => by rw [if_neg b1]; rfl, h0, h20, hp⟩)

theorem w_parts {κ : gq_K} {ad : gKey → Nat} {C R : gG} {T : List (Nat × va_E)} {n : Nat} (hI : gI n C) (o1 : Nat) (g : Nat → Int64) (a : Int32) : gq_C κ mL_parts [.ref (ad (0, 0, 0)), .int (a), .ref (o1)] (gR κ ad (C, R) ((o1, .inl (κ.2.1 1, 1, .inr (.inl g))) :: T)) (gW κ ad R o1 T (F_parts C a)) (gq_no) := by
  refine gq_enterW (by decide +kernel) rfl (Nat.le_of_ble_eq_true rfl) rfl (fun f o => ?_)
  have hC := hI.fix
  have hBC := hI.cnt
  have hM := hI.mach
  refine y_aload_n (pc := 0) o dL_parts_0 rfl ?_
  refine y_iconst (pc := 1) (x := 0) o dL_parts_1 (by decide) ?_
  refine y_aload_n (pc := 2) o dL_parts_2 rfl ?_
  refine y_iload_n (pc := 3) o dL_parts_3 rfl ?_
  refine y_callVH (pc := 4) (k := 0) (n := 0) o (b := ad (0, 0, 0)) (As := [.int (a)]) (rest := [.int (0), .ref (o1)]) (p_parts hC hBC hM a) ln_L_131 dL_parts_4 (z_rc (ci := 15) (K := (0, 0, 0)) rfl (gl_0 hC) rfl) rfl rfl (Nat.le_of_ble_eq_true rfl) ⟨by decide, by decide⟩ ⟨by decide, by decide⟩ (fun _ e => e) ?_ ?_
  · intro x h hE
    obtain ⟨hm, ad1, h0, h20, hr⟩ := hE
    simp only [List.mem_cons, List.not_mem_nil, or_false, Prod.mk.injEq] at hm
    rcases hm with ⟨rfl, hk⟩
    · refine ⟨12, ⟨tableOf [], _, tableOf [], rfl, (fun z hz => absurd hz List.not_mem_nil), by decide, by decide, qw_542, ca_X, rfl⟩, fun q => ?_⟩
      refine y_lv [0] (lv' := [(0, .ref (ad (0, 0, 0)))]) rfl ?_
      refine y_astore_n (pc := 12) (i := 3) (lv' := [(3, .ref (q)), (0, .ref (ad (0, 0, 0)))]) o dL_parts_12 rfl (by decide) rfl ?_
      refine y_iconst (pc := 13) (x := 1) o dL_parts_13 (by decide) ?_
      exact y_iret (pc := 14) o dL_parts_14 rfl (vp_nar_int _) (by decide) (by decide) (fun h9 e => by subst e; exact ⟨by rw [hk], _, ad1, fun z => absurd (hk.symm.trans z) (by decide), h0, h20, hr⟩)
  refine fun v => y_and fun hz => y_and fun ev => y_ex fun ad1 => y_and fun h0 => y_and fun h20 => ?_
  subst ev
  refine z_st (st' := [.int ((F_parts C a).2.1), .int (0), .ref (o1)]) rfl ?_
  refine y_i2l (pc := 7) o dL_parts_7 ?_
  refine z_lastT (pc := 8) (i := 0) (x := ((F_parts C a).2.1).toInt64) (T' := (o1, .inl (κ.2.1 1, 1, .inr (.inl (vp_updL g (0 : Int32).toNatClampNeg (((F_parts C a).2.1).toInt64))))) :: T) o 0 dL_parts_8 rfl (by unfold vp_in; decide) rfl ?_
  refine y_goto (pc := 9) (tgt := 15) o dL_parts_9 rfl ?_
  refine y_iconst (pc := 15) (x := 0) o dL_parts_15 (by decide) ?_
  exact y_iret (pc := 16) o dL_parts_16 rfl (vp_nar_int _) (by decide) (by decide) (fun h hp => ⟨by rw [hz], _, ad1, fun _ => rfl, h0, h20, hp⟩)

theorem w_trace {κ : gq_K} {ad : gKey → Nat} {C R : gG} {T : List (Nat × va_E)} {n : Nat} (hI : gI n C) (o1 : Nat) (g : Nat → Int64) (a : Int32) (b : Int32) (c : Int32) : gq_C κ mL_trace [.ref (ad (0, 0, 0)), .int (a), .int (b), .int (c), .ref (o1)] (gR κ ad (C, R) ((o1, .inl (κ.2.1 1, 1, .inr (.inl g))) :: T)) (gW κ ad R o1 T (F_trace C a b c)) (gq_no) := by
  refine gq_enterW (by decide +kernel) rfl (Nat.le_of_ble_eq_true rfl) rfl (fun f o => ?_)
  have hC := hI.fix
  have hBC := hI.cnt
  have hM := hI.mach
  refine y_aload (pc := 0) o dL_trace_0 rfl ?_
  refine y_iconst (pc := 2) (x := 0) o dL_trace_2 (by decide) ?_
  refine y_aload_n (pc := 3) o dL_trace_3 rfl ?_
  refine y_iload_n (pc := 4) o dL_trace_4 rfl ?_
  refine y_iload_n (pc := 5) o dL_trace_5 rfl ?_
  refine y_iload_n (pc := 6) o dL_trace_6 rfl ?_
  refine y_callVH (pc := 7) (k := 0) (n := 0) o (b := ad (0, 0, 0)) (As := [.int (a), .int (b), .int (c)]) (rest := [.int (0), .ref (o1)]) (p_trace hC hBC hM a b c) ln_L_134 dL_trace_7 (z_rc (ci := 15) (K := (0, 0, 0)) rfl (gl_0 hC) rfl) rfl rfl (Nat.le_of_ble_eq_true rfl) ⟨by decide, by decide⟩ ⟨by decide, by decide⟩ (fun _ e => e) ?_ ?_
  · intro x h hE
    obtain ⟨hm, ad1, h0, h20, hr⟩ := hE
    simp only [List.mem_cons, List.not_mem_nil, or_false, Prod.mk.injEq] at hm
    rcases hm with ⟨rfl, hk⟩ | ⟨rfl, hk⟩
    · refine ⟨15, ⟨tableOf [], _, tableOf [(0, 12, 19, 13)], rfl, (fun z hz => absurd hz List.not_mem_nil), by decide, by decide, qw_542, ca_X, rfl⟩, fun q => ?_⟩
      refine y_lv [0] (lv' := [(0, .ref (ad (0, 0, 0)))]) rfl ?_
      refine y_astore (pc := 15) (i := 5) (lv' := [(5, .ref (q)), (0, .ref (ad (0, 0, 0)))]) o dL_trace_15 (by decide) rfl ?_
      refine y_iconst (pc := 17) (x := 1) o dL_trace_17 (by decide) ?_
      exact y_iret (pc := 18) o dL_trace_18 rfl (vp_nar_int _) (by decide) (by decide) (fun h9 e => by subst e; exact ⟨by rw [hk], _, ad1, fun z => absurd (hk.symm.trans z) (by decide), h0, h20, hr⟩)
    · refine ⟨19, ⟨tableOf [(0, 12, 15, 38)], _, tableOf [], rfl, (List.forall_mem_cons.mpr ⟨⟨by decide, _, qw_542, nc_IX⟩, (fun z hz => absurd hz List.not_mem_nil)⟩), by decide, by decide, qw_286, ca_I, rfl⟩, fun q => ?_⟩
      refine y_lv [0] (lv' := [(0, .ref (ad (0, 0, 0)))]) rfl ?_
      refine y_astore (pc := 19) (i := 5) (lv' := [(5, .ref (q)), (0, .ref (ad (0, 0, 0)))]) o dL_trace_19 (by decide) rfl ?_
      refine y_iconst (pc := 21) (x := 2) o dL_trace_21 (by decide) ?_
      exact y_iret (pc := 22) o dL_trace_22 rfl (vp_nar_int _) (by decide) (by decide) (fun h9 e => by subst e; exact ⟨by rw [hk], _, ad1, fun z => absurd (hk.symm.trans z) (by decide), h0, h20, hr⟩)
  refine fun v => y_and fun hz => y_and fun ev => y_ex fun ad1 => y_and fun h0 => y_and fun h20 => ?_
  subst ev
  refine z_st (st' := [.int ((F_trace C a b c).2.1), .int (0), .ref (o1)]) rfl ?_
  refine y_i2l (pc := 10) o dL_trace_10 ?_
  refine z_lastT (pc := 11) (i := 0) (x := ((F_trace C a b c).2.1).toInt64) (T' := (o1, .inl (κ.2.1 1, 1, .inr (.inl (vp_updL g (0 : Int32).toNatClampNeg (((F_trace C a b c).2.1).toInt64))))) :: T) o 0 dL_trace_11 rfl (by unfold vp_in; decide) rfl ?_
  refine y_goto (pc := 12) (tgt := 23) o dL_trace_12 rfl ?_
  refine y_iconst (pc := 23) (x := 0) o dL_trace_23 (by decide) ?_
  exact y_iret (pc := 24) o dL_trace_24 rfl (vp_nar_int _) (by decide) (by decide) (fun h hp => ⟨by rw [hz], _, ad1, fun _ => rfl, h0, h20, hp⟩)

theorem w_brokenShare {κ : gq_K} {ad : gKey → Nat} {C R : gG} {T : List (Nat × va_E)} {n : Nat} (hI : gI n C) (o1 : Nat) (g : Nat → UInt64) : gq_C κ mL_brokenShare [.ref (ad (0, 0, 0)), .ref (o1)] (gR κ ad (C, R) ((o1, .inl (κ.2.1 2, 1, .inr (.inr (.inr (.inl g))))) :: T)) (gWf κ ad C R o1 T) (gq_no) := by
  refine gq_enterW (by decide +kernel) rfl (Nat.le_of_ble_eq_true rfl) rfl (fun f o => ?_)
  have hC := hI.fix
  have hBC := hI.cnt
  refine y_aload_n (pc := 0) o dL_brokenShare_0 rfl ?_
  refine y_iconst (pc := 1) (x := 0) o dL_brokenShare_1 (by decide) ?_
  refine y_aload_n (pc := 2) o dL_brokenShare_2 rfl ?_
  refine y_callVH (pc := 3) (k := 0) (n := 0) o (b := ad (0, 0, 0)) (As := []) (rest := [.int (0), .ref (o1)]) (p_brokenShare hC hBC) ln_L_138 dL_brokenShare_3 (z_rc (ci := 15) (K := (0, 0, 0)) rfl (gl_0 hC) rfl) rfl rfl (Nat.le_of_ble_eq_true rfl) ⟨by decide, by decide⟩ ⟨by decide, by decide⟩ (fun _ e => e) ?_ ?_
  · intro x h hE
    obtain ⟨hm, hk, hr⟩ := hE
    subst hm
    refine ⟨11, ⟨tableOf [], _, tableOf [], rfl, (fun z hz => absurd hz List.not_mem_nil), by decide, by decide, qw_1161, ca_A, rfl⟩, fun q => ?_⟩
    refine y_lv [0] (lv' := [(0, .ref (ad (0, 0, 0)))]) rfl ?_
    refine y_astore_n (pc := 11) (i := 2) (lv' := [(2, .ref (q)), (0, .ref (ad (0, 0, 0)))]) o dL_brokenShare_11 rfl (by decide) rfl ?_
    refine y_iconst (pc := 12) (x := 1) o dL_brokenShare_12 (by decide) ?_
    exact y_iret (pc := 13) o dL_brokenShare_13 rfl (vp_nar_int _) (by decide) (by decide) (fun h9 e => by subst e; exact Or.inl ⟨hk, rfl, _, hr⟩)
  refine fun v => y_and fun hz => y_and fun ev => ?_
  subst ev
  refine z_st (st' := [.float (FP.fdiv (FP.i2f (gbro C)) (FP.i2f (gpen C))), .int (0), .ref (o1)]) rfl ?_
  refine y_f2d (pc := 6) o dL_brokenShare_6 (gfd hz) ?_
  refine z_dastT (pc := 7) (i := 0) (x := FP.f2d (FP.fdiv (FP.i2f (gbro C)) (FP.i2f (gpen C)))) (T' := (o1, .inl (κ.2.1 2, 1, .inr (.inr (.inr (.inl (vf_upd g (0 : Int32).toNatClampNeg (FP.f2d (FP.fdiv (FP.i2f (gbro C)) (FP.i2f (gpen C)))))))))) :: T) o 0 dL_brokenShare_7 rfl (by unfold vp_in; decide) rfl ?_
  refine y_goto (pc := 8) (tgt := 14) o dL_brokenShare_8 rfl ?_
  refine y_iconst (pc := 14) (x := 0) o dL_brokenShare_14 (by decide) ?_
  exact y_iret (pc := 15) o dL_brokenShare_15 rfl (vp_nar_int _) (by decide) (by decide) (fun h hp => Or.inr ⟨hz, rfl, _, rfl, hp⟩)

theorem w_meanDarkness {κ : gq_K} {ad : gKey → Nat} {C R : gG} {T : List (Nat × va_E)} {n : Nat} (hI : gI n C) (o1 : Nat) (g : Nat → UInt64) : gq_C κ mL_meanDarkness [.ref (ad (0, 0, 0)), .ref (o1)] (gR κ ad (C, R) ((o1, .inl (κ.2.1 2, 1, .inr (.inr (.inr (.inl g))))) :: T)) (gWd κ ad C R o1 T) (gq_no) := by
  refine gq_enterW (by decide +kernel) rfl (Nat.le_of_ble_eq_true rfl) rfl (fun f o => ?_)
  have hC := hI.fix
  have hBC := hI.cnt
  refine y_aload_n (pc := 0) o dL_meanDarkness_0 rfl ?_
  refine y_iconst (pc := 1) (x := 0) o dL_meanDarkness_1 (by decide) ?_
  refine y_aload_n (pc := 2) o dL_meanDarkness_2 rfl ?_
  refine y_callVH (pc := 3) (k := 0) (n := 0) o (b := ad (0, 0, 0)) (As := []) (rest := [.int (0), .ref (o1)]) (p_meanDarkness hC hBC) ln_L_144 dL_meanDarkness_3 (z_rc (ci := 15) (K := (0, 0, 0)) rfl (gl_0 hC) rfl) rfl rfl (Nat.le_of_ble_eq_true rfl) ⟨by decide, by decide⟩ ⟨by decide, by decide⟩ (fun _ e => e) ?_ ?_
  · intro x h hE
    obtain ⟨hm, hk, hr⟩ := hE
    subst hm
    refine ⟨10, ⟨tableOf [], _, tableOf [], rfl, (fun z hz => absurd hz List.not_mem_nil), by decide, by decide, qw_1161, ca_A, rfl⟩, fun q => ?_⟩
    refine y_lv [0] (lv' := [(0, .ref (ad (0, 0, 0)))]) rfl ?_
    refine y_astore_n (pc := 10) (i := 2) (lv' := [(2, .ref (q)), (0, .ref (ad (0, 0, 0)))]) o dL_meanDarkness_10 rfl (by decide) rfl ?_
    refine y_iconst (pc := 11) (x := 1) o dL_meanDarkness_11 (by decide) ?_
    exact y_iret (pc := 12) o dL_meanDarkness_12 rfl (vp_nar_int _) (by decide) (by decide) (fun h9 e => by subst e; exact Or.inl ⟨hk, rfl, _, hr⟩)
  refine fun v => y_and fun hz => y_and fun ev => ?_
  subst ev
  refine z_st (st' := [.double (FP.ddiv (FP.i2d (gdrk C)) (FP.i2d (gfir C))), .int (0), .ref (o1)]) rfl ?_
  refine z_dastT (pc := 6) (i := 0) (x := FP.ddiv (FP.i2d (gdrk C)) (FP.i2d (gfir C))) (T' := (o1, .inl (κ.2.1 2, 1, .inr (.inr (.inr (.inl (vf_upd g (0 : Int32).toNatClampNeg (FP.ddiv (FP.i2d (gdrk C)) (FP.i2d (gfir C))))))))) :: T) o 0 dL_meanDarkness_6 rfl (by unfold vp_in; decide) rfl ?_
  refine y_goto (pc := 7) (tgt := 13) o dL_meanDarkness_7 rfl ?_
  refine y_iconst (pc := 13) (x := 0) o dL_meanDarkness_13 (by decide) ?_
  exact y_iret (pc := 14) o dL_meanDarkness_14 rfl (vp_nar_int _) (by decide) (by decide) (fun h hp => Or.inr ⟨hz, rfl, _, rfl, hp⟩)

end Z40
