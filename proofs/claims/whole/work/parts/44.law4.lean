
section Z44
variable {κ : gq_K} {M : gq_M} {Q : Option Value → gq_H → Prop} {E : String → gq_H → Prop} {f : gq_F} {S : gG × gG} {ad : gKey → Nat} {T : List (Nat × va_E)} {lv : List (Nat × Value)} {pc : Nat} {st : List Value} {k n : Nat}
theorem z_newJ (o : gq_Ok κ M f) {N : Nat} {i : Int32} (d : decode M.2.1 pc = .ok (.newarray .long, 2)) (hi : ¬ i < 0) (hN : i.toNatClampNeg = N) (hby : N * 8 ≤ 536870912) (hk : k + 1 ≤ M.2.2.2.2.1.cells) (hn : n + N ≤ M.2.2.2.2.1.slots) (yy : ∀ q, gq_Y κ M Q E f (gR κ ad S ((q, .inl (κ.2.1 1, N, .inr (.inl fun _ => 0))) :: T)) lv (pc + 2) (.ref q :: st) (k + 1) (n + N)) : gq_Y κ M Q E f (gR κ ad S T) lv pc (.int i :: st) k n :=
  y_newarr o (t := 1) (ty := .long) qw_1822 rfl rfl (fun C h => by cases h) d (fun cA => rfl) hi hN hby hk hn (P' := fun q => gR κ ad S ((q, .inl (κ.2.1 1, N, .inr (.inl fun _ => 0))) :: T)) (fun h q hr hq => hr.new hq _) yy
theorem z_newD (o : gq_Ok κ M f) {N : Nat} {i : Int32} (d : decode M.2.1 pc = .ok (.newarray .double, 2)) (hi : ¬ i < 0) (hN : i.toNatClampNeg = N) (hby : N * 8 ≤ 536870912) (hk : k + 1 ≤ M.2.2.2.2.1.cells) (hn : n + N ≤ M.2.2.2.2.1.slots) (yy : ∀ q, gq_Y κ M Q E f (gR κ ad S ((q, .inl (κ.2.1 2, N, .inr (.inr (.inr (.inl fun _ => 0))))) :: T)) lv (pc + 2) (.ref q :: st) (k + 1) (n + N)) : gq_Y κ M Q E f (gR κ ad S T) lv pc (.int i :: st) k n :=
  y_newarr o (t := 2) (ty := .double) qw_1823 rfl rfl (fun C h => by cases h) d (fun cA => rfl) hi hN hby hk hn (P' := fun q => gR κ ad S ((q, .inl (κ.2.1 2, N, .inr (.inr (.inr (.inl fun _ => 0))))) :: T)) (fun h q hr hq => hr.new hq _) yy
theorem law_0 {P : gq_H → Prop} {b L : Nat} {xs : Nat → Int32} (o : gq_Ok κ mL_law f) (sc : gq_Sc f b L xs) (hL : L ≤ 3072) (hp : ∀ h, P h → gR κ ad (giC, giR) [] h) : gq_Y κ mL_law gQL gq_no f P [(0, .ref b)] 0 [] 0 0 := by
  refine y_mono hp ?_
  refine z_new (pc := 0) (k := 0) (n := 0) o nw_L_8 dL_law_0 (by decide) (by decide) (fun qc => ?_)
  refine y_dup (pc := 3) o dL_law_3 rfl ?_
  refine y_callI (pc := 4) (k := 1) (n := 16) o (b := qc) (As := []) (rest := [.ref qc]) (kX11_0 _) ln_L_148 dL_law_4 rfl rfl (Nat.le_of_ble_eq_true rfl) ⟨by decide, by decide⟩ ⟨by decide, by decide⟩ (fun _ e => e) gq_nox2 (fun v => y_and fun ev => y_ex fun q11 => y_ex fun q10 => y_ex fun q9 => y_ex fun q8 => y_ex fun q7 => y_ex fun q6 => y_ex fun q5 => y_ex fun q4 => y_ex fun q3 => y_ex fun q2 => y_ex fun m4 => y_ex fun m3 => y_ex fun m2 => y_ex fun m1 => y_ex fun q1 => ?_)
  subst ev
  refine z_stk (st' := [.ref qc]) (k' := 16) (n' := 88) rfl ⟨rfl, rfl⟩ ?_
  refine y_mono (P' := fun g => ∃ ad' : gKey → Nat, ad' (0, 0, 0) = qc ∧ gR κ ad' (gst, giR) [] g) (fun h hr => ?_) ?_
  · obtain ⟨ad', h0, -, h1⟩ := gstartC qc hr
    exact ⟨ad', h0, h1⟩
  refine y_ex fun ad1 => y_and fun h0 => ?_
  refine y_astore_n (pc := 7) (i := 1) (lv' := [(1, .ref qc), (0, .ref b)]) o dL_law_7 rfl (by decide) rfl ?_
  refine z_new (pc := 8) (k := 16) (n := 88) o nw_L_149 dL_law_8 (by decide) (by decide) (fun qr => ?_)
  refine y_dup (pc := 11) o dL_law_11 rfl ?_
  refine y_callI (pc := 12) (k := 17) (n := 106) o (b := qr) (As := []) (rest := [.ref qr]) (kX16_0 _) ln_L_151 dL_law_12 rfl rfl (Nat.le_of_ble_eq_true rfl) ⟨by decide, by decide⟩ ⟨by decide, by decide⟩ (fun _ e => e) gq_nox2 (fun v => y_and fun ev => y_ex fun q11 => y_ex fun q10 => y_ex fun q9 => y_ex fun q8 => y_ex fun q7 => y_ex fun q6 => y_ex fun q5 => y_ex fun q4 => y_ex fun q3 => y_ex fun q2 => y_ex fun q1 => ?_)
  subst ev
  refine z_stk (st' := [.ref qr]) (k' := 28) (n' := 191) rfl ⟨rfl, rfl⟩ ?_
  refine y_mono (P' := fun g => ∃ ad' : gKey → Nat, ad' (20, 0, 0) = qr ∧ ad' (0, 0, 0) = qc ∧ gR κ ad' (gst, gst) [] g) (fun h hr => ?_) ?_
  · obtain ⟨ad', q0, q1, hr'⟩ := gstartR qr hr
    rw [gst_R] at hr'
    exact ⟨ad', q0, (q1 (0, 0, 0) (by decide)).trans h0, hr'⟩
  refine y_ex fun ad2 => y_and fun h20 => y_and fun h0' => ?_
  refine y_astore_n (pc := 15) (i := 2) (lv' := [(2, .ref qr), (1, .ref qc), (0, .ref b)]) o dL_law_15 rfl (by decide) rfl ?_
  refine y_iconst (pc := 16) (x := 1) o dL_law_16 (by decide) ?_
  refine z_newJ (pc := 17) (k := 28) (n := 191) (N := 1) o dL_law_17 (by decide) (by decide) (by decide) (by decide) (by decide) (fun o3 => ?_)
  refine y_astore_n (pc := 19) (i := 3) (lv' := [(3, .ref o3), (2, .ref qr), (1, .ref qc), (0, .ref b)]) o dL_law_19 rfl (by decide) rfl ?_
  refine y_iconst (pc := 20) (x := 1) o dL_law_20 (by decide) ?_
  refine z_newD (pc := 21) (k := 29) (n := 192) (N := 1) o dL_law_21 (by decide) (by decide) (by decide) (by decide) (by decide) (fun o4 => ?_)
  refine y_astore (pc := 23) (i := 4) (lv' := [(4, .ref o4), (3, .ref o3), (2, .ref qr), (1, .ref qc), (0, .ref b)]) o dL_law_23 (by decide) rfl ?_
  refine y_iconst (pc := 25) (x := 0) o dL_law_25 (by decide) ?_
  refine y_istore (pc := 26) (i := 5) (lv' := [(5, .int 0), (4, .ref o4), (3, .ref o3), (2, .ref qr), (1, .ref qc), (0, .ref b)]) o dL_law_26 (by decide) rfl ?_
  subst h20
  subst h0'
  refine y_mono (P' := gLP κ ad2 gst o3 (fun _ => 0) o4 (fun _ => 0)) (fun h hr => hr.perm (List.Perm.swap _ _ _)) ?_
  exact ll_law o sc hL 513 0 _ _ ad2 gst _ _ rfl (Nat.zero_le _) gI_0 (by decide) (by decide)
end Z44
