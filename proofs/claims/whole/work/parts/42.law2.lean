
section Z42
theorem z_stk {κ : gq_K} {M : gq_M} {Q : Option Value → gq_H → Prop} {E : String → gq_H → Prop} {f : gq_F} {P : gq_H → Prop} {lv : List (Nat × Value)} {pc : Nat} {st st' : List Value} {k n k' n' : Nat} (e : st = st') (e2 : k = k' ∧ n = n') (y : gq_Y κ M Q E f P lv pc st' k' n') : gq_Y κ M Q E f P lv pc st k n := by
  obtain ⟨rfl, rfl⟩ := e2
  exact e ▸ y
theorem lc_go {κ : gq_K} {f : gq_F} {b L j k n o3 o4 : Nat} {xs : Nat → Int32} {ad : gKey → Nat} {C : gG} {g3 : Nat → Int64} {g4 : Nat → UInt64} (o : gq_Ok κ mL_law f) (sc : gq_Sc f b L xs) (hL : L ≤ 3072) (hj : 6 * j + 6 ≤ L) (hI : gI j C) (hk : k + 40 ≤ 630091) (hn9 : n + 700 ≤ 7125959) (K : ∀ (C' : gG) (ad' : gKey → Nat) (g3 : Nat → Int64) (g4 : Nat → UInt64), gI (j + 1) C' → gq_Y κ mL_law gQL gq_no f (gLP κ ad' C' o3 g3 o4 g4) (gLV ad' j o3 o4 b) 3021 [] (k + 40) (n + 700)) : gq_Y κ mL_law gQL gq_no f (gLP κ ad C o3 g3 o4 g4) (gLV ad j o3 o4 b) 232 [] k n := by
  obtain ⟨C0, hC0⟩ : ∃ C0, gup C (0, 0, 0) 5 0 = C0 := ⟨_, rfl⟩
  have hI0 : gI j C0 := by rw [← hC0]; exact hI.up (Nat.le_refl _) (by omega)
  have h50 : C0.1 (0, 0, 0) 5 = 0 := by rw [← hC0]; exact gup_v _ _ _ _
  show gq_Y κ mL_law gQL gq_no f (gR κ ad (C, C) [(o3, .inl (κ.2.1 1, 1, .inr (.inl g3))), (o4, .inl (κ.2.1 2, 1, .inr (.inr (.inr (.inl g4)))))]) [(5, .int (Int32.ofNat (6 * j))), (4, .ref o4), (3, .ref o3), (2, .ref (ad (20, 0, 0))), (1, .ref (ad (0, 0, 0))), (0, .ref b)] 232 [] k n
  refine y_aload_n (pc := 232) o dL_law_232 rfl ?_
  refine y_aload_n (pc := 233) o dL_law_233 rfl ?_
  refine y_iload (pc := 234) o dL_law_234 rfl ?_
  refine y_iconst (pc := 236) (x := 1) o dL_law_236 (by decide) ?_
  refine y_iadd (pc := 237) o dL_law_237 ?_
  refine y_sld (pc := 238) o sc (6 * j + 1) (Int32.ofNat_add _ _).symm (by omega) hL dL_law_238 ?_
  refine y_aload_n (pc := 239) o dL_law_239 rfl ?_
  have hok := i_go hI0 (by omega) h50 (xs (6 * j + 1))
  have hw := w_go (κ := κ) (ad := ad) (R := C) (T := [(o4, .inl (κ.2.1 2, 1, .inr (.inr (.inr (.inl g4)))))]) hI0 o3 g3 (xs (6 * j + 1))
  have hm9 := fun (ad1 : gKey → Nat) (T1 : List (Nat × va_E)) => r_go (κ := κ) (ad := ad1) (C := (F_go C0 (xs (6 * j + 1))).2.2) (T := T1) hC0 hI0 (by omega) (xs (6 * j + 1))
  generalize F_go C0 (xs (6 * j + 1)) = r at hok hw hm9
  refine y_mono (P' := gR κ ad (C0, C) [(o3, .inl (κ.2.1 1, 1, .inr (.inl g3))), (o4, .inl (κ.2.1 2, 1, .inr (.inr (.inr (.inl g4)))))]) (fun h hr => by rw [← hC0]; exact hr.ghostC (0, 0, 0) 5 0 (fun _ _ _ => rfl) (fun _ _ => rfl)) ?_
  refine y_callSW (pc := 240) (k := k) (n := n) o (As := [.ref (ad (0, 0, 0)), .int (xs (6 * j + 1)), .ref (o3)]) (rest := []) hw ls_L_152 dL_law_240 rfl rfl (Nat.le_of_ble_eq_true rfl) ⟨by decide, by decide⟩ ⟨(show k + 1 ≤ 630091 by omega), (show n + 6 ≤ 7125959 by omega)⟩ (fun _ e => e) (fun v => y_and fun ev => y_ex fun g5 => y_ex fun ad1 => y_and fun hg => y_and fun h0 => y_and fun h20 => ?_)
  subst ev
  refine z_stk (st' := [.int r.1]) (k' := k + 1) (n' := n + 6) rfl ⟨rfl, rfl⟩ ?_
  rw [← h0, ← h20]
  refine y_istore (pc := 243) (i := 6) (lv' := [(6, .int (r.1)), (5, .int (Int32.ofNat (6 * j))), (4, .ref (o4)), (3, .ref (o3)), (2, .ref (ad1 (20, 0, 0))), (1, .ref (ad1 (0, 0, 0))), (0, .ref (b))]) o dL_law_243 (by decide) rfl ?_
  refine y_aload_n (pc := 245) o dL_law_245 rfl ?_
  refine y_aload_n (pc := 246) o dL_law_246 rfl ?_
  refine y_iload (pc := 247) o dL_law_247 rfl ?_
  refine y_iconst (pc := 249) (x := 1) o dL_law_249 (by decide) ?_
  refine y_iadd (pc := 250) o dL_law_250 ?_
  refine y_sld (pc := 251) o sc (6 * j + 1) (Int32.ofNat_add _ _).symm (by omega) hL dL_law_251 ?_
  refine y_callV (pc := 252) (k := k + 1) (n := n + 6) o (b := ad1 (20, 0, 0)) (As := [.int (xs (6 * j + 1))]) (rest := []) (hm9 _ _) ln_L_157 dL_law_252 (z_rc (ci := 20) (K := (20, 0, 0)) rfl (gl_20 hI.fix) rfl) rfl rfl (Nat.le_of_ble_eq_true rfl) ⟨by decide, by decide⟩ ⟨(show k + 1 ≤ 630091 by omega), (show n + 6 ≤ 7125959 by omega)⟩ (fun _ e => e) rfl gq_nox2 (fun v => y_and fun ⟨x, ev, hx⟩ => y_ex fun ad2 => y_and fun q0 => y_and fun q20 => ?_)
  subst ev
  refine z_stk (st' := [.int (x)]) (k' := k + 1) (n' := n + 6) rfl ⟨rfl, rfl⟩ ?_
  rw [← q0, ← q20]
  refine y_istore (pc := 255) (i := 7) (lv' := [(7, .int (x)), (6, .int (r.1)), (5, .int (Int32.ofNat (6 * j))), (4, .ref (o4)), (3, .ref (o3)), (2, .ref (ad2 (20, 0, 0))), (1, .ref (ad2 (0, 0, 0))), (0, .ref (b))]) o dL_law_255 (by decide) rfl ?_
  refine y_aload_n (pc := 257) o dL_law_257 rfl ?_
  refine z_callV (pc := 258) (k := k + 1) (n := n + 6) (k' := k + 1) (n' := n + 6) o (b := ad2 (20, 0, 0)) (As := []) (rest := []) (r_thrown (C := r.2.2) (R := r.2.2) hok.1.fix) ln_L_158 dL_law_258 (z_rc (ci := 20) (K := (20, 0, 0)) rfl (gl_20 hok.1.fix) rfl) rfl rfl (Nat.le_of_ble_eq_true rfl) ⟨by decide, by decide⟩ ⟨rfl, rfl⟩ ⟨(show k + 1 ≤ 630091 by omega), (show n + 6 ≤ 7125959 by omega)⟩ rfl gq_nox2 ?_
  rw [hok.2]
  refine y_iload (pc := 261) o dL_law_261 rfl ?_
  refine y_icmp_eq (pc := 263) (tgt := 268) o dL_law_263 rfl (fun (b1 : r.1 = r.1) => ?_) (fun b1 => absurd rfl b1)
  refine y_iload (pc := 268) o dL_law_268 rfl ?_
  refine y_if_ne (pc := 270) (tgt := 285) o dL_law_270 rfl (fun (b2 : ¬ r.1 = 0) => ?_) (fun (b2 : r.1 = 0) => ?_)
  · refine y_goto (pc := 285) (tgt := 3021) o dL_law_285 rfl ?_
    refine y_lv [2, 3, 4, 5, 6, 7] (lv' := [(5, .int (Int32.ofNat (6 * j))), (4, .ref (o4)), (3, .ref (o3)), (2, .ref (ad2 (20, 0, 0))), (1, .ref (ad2 (0, 0, 0))), (0, .ref (b))]) rfl ?_
    exact y_wide (by omega) (by omega) (K _ _ _ _ (hok.1))
  refine y_aload_n (pc := 273) o dL_law_273 rfl ?_
  refine y_iconst (pc := 274) (x := 0) o dL_law_274 (by decide) ?_
  refine z_laldT (pc := 275) (i := 0) (v := g5 0) o 0 dL_law_275 rfl (by unfold vp_in; decide) rfl ?_
  refine y_iload (pc := 276) o dL_law_276 rfl ?_
  refine y_i2l (pc := 278) o dL_law_278 ?_
  refine y_lcmp (pc := 279) o dL_law_279 ?_
  refine y_if_eq (pc := 280) (tgt := 285) o dL_law_280 rfl (fun (b3 : (lg_cmp (g5 0) x.toInt64) = 0) => ?_) (fun b3 => absurd (gl0 (by rw [hg b2, hx b2])) b3)
  refine y_goto (pc := 285) (tgt := 3021) o dL_law_285 rfl ?_
  refine y_lv [2, 3, 4, 5, 6, 7] (lv' := [(5, .int (Int32.ofNat (6 * j))), (4, .ref (o4)), (3, .ref (o3)), (2, .ref (ad2 (20, 0, 0))), (1, .ref (ad2 (0, 0, 0))), (0, .ref (b))]) rfl ?_
  exact y_wide (by omega) (by omega) (K _ _ _ _ (hok.1))

theorem lc_shaft {κ : gq_K} {f : gq_F} {b L j k n o3 o4 : Nat} {xs : Nat → Int32} {ad : gKey → Nat} {C : gG} {g3 : Nat → Int64} {g4 : Nat → UInt64} (o : gq_Ok κ mL_law f) (sc : gq_Sc f b L xs) (hL : L ≤ 3072) (hj : 6 * j + 6 ≤ L) (hI : gI j C) (hk : k + 40 ≤ 630091) (hn9 : n + 700 ≤ 7125959) (K : ∀ (C' : gG) (ad' : gKey → Nat) (g3 : Nat → Int64) (g4 : Nat → UInt64), gI (j + 1) C' → gq_Y κ mL_law gQL gq_no f (gLP κ ad' C' o3 g3 o4 g4) (gLV ad' j o3 o4 b) 3021 [] (k + 40) (n + 700)) : gq_Y κ mL_law gQL gq_no f (gLP κ ad C o3 g3 o4 g4) (gLV ad j o3 o4 b) 288 [] k n := by
  obtain ⟨C0, hC0⟩ : ∃ C0, gup C (0, 0, 0) 5 0 = C0 := ⟨_, rfl⟩
  have hI0 : gI j C0 := by rw [← hC0]; exact hI.up (Nat.le_refl _) (by omega)
  have h50 : C0.1 (0, 0, 0) 5 = 0 := by rw [← hC0]; exact gup_v _ _ _ _
  show gq_Y κ mL_law gQL gq_no f (gR κ ad (C, C) [(o3, .inl (κ.2.1 1, 1, .inr (.inl g3))), (o4, .inl (κ.2.1 2, 1, .inr (.inr (.inr (.inl g4)))))]) [(5, .int (Int32.ofNat (6 * j))), (4, .ref o4), (3, .ref o3), (2, .ref (ad (20, 0, 0))), (1, .ref (ad (0, 0, 0))), (0, .ref b)] 288 [] k n
  refine y_aload_n (pc := 288) o dL_law_288 rfl ?_
  refine y_aload_n (pc := 289) o dL_law_289 rfl ?_
  refine y_iload (pc := 290) o dL_law_290 rfl ?_
  refine y_iconst (pc := 292) (x := 1) o dL_law_292 (by decide) ?_
  refine y_iadd (pc := 293) o dL_law_293 ?_
  refine y_sld (pc := 294) o sc (6 * j + 1) (Int32.ofNat_add _ _).symm (by omega) hL dL_law_294 ?_
  refine y_if_eq (pc := 295) (tgt := 302) o dL_law_295 rfl (fun (b1 : (xs (6 * j + 1)) = 0) => ?_) (fun (b1 : ¬ (xs (6 * j + 1)) = 0) => ?_)
  · refine y_iconst (pc := 302) (x := 0) o dL_law_302 (by decide) ?_
    have hok := i_shaft hI0 (by omega) h50 False
    have hw := p_shaft (κ := κ) (ad := ad) (R := C) (T := [(o3, .inl (κ.2.1 1, 1, .inr (.inl g3))), (o4, .inl (κ.2.1 2, 1, .inr (.inr (.inr (.inl g4)))))]) hI0.fix hI0.cnt hI0.mach ⟨gbl_nar hI0.2.1.2.2.1, fun i _ => gbl_nar (hI0.2.1.2.2.2 i)⟩ False
    have hm9 := fun (ad1 : gKey → Nat) (T1 : List (Nat × va_E)) => r_shaft (κ := κ) (ad := ad1) (C := (F_shaft C0 (gb False)).2.2) (T := T1) hC0 hI0 (by omega) False
    generalize F_shaft C0 (gb False) = r at hok hw hm9
    refine y_mono (P' := gR κ ad (C0, C) [(o3, .inl (κ.2.1 1, 1, .inr (.inl g3))), (o4, .inl (κ.2.1 2, 1, .inr (.inr (.inr (.inl g4)))))]) (fun h hr => by rw [← hC0]; exact hr.ghostC (0, 0, 0) 5 0 (fun _ _ _ => rfl) (fun _ _ => rfl)) ?_
    refine y_callV (pc := 303) (k := k) (n := n) o (b := ad (0, 0, 0)) (As := [.int (gb (False))]) (rest := []) hw ln_L_162 dL_law_303 (z_rc (ci := 15) (K := (0, 0, 0)) rfl (gl_0 hI0.fix) rfl) rfl rfl (Nat.le_of_ble_eq_true rfl) ⟨by decide, by decide⟩ ⟨(show k ≤ 630091 by omega), (show n ≤ 7125959 by omega)⟩ (fun _ e => e) rfl (fun x h hE => absurd hE.1 List.not_mem_nil) (fun v => y_and fun hz => y_and fun ev => y_ex fun ad1 => y_and fun h0 => y_and fun h20 => ?_)
    subst ev
    refine z_stk (st' := [.int (r.2.1)]) (k' := k) (n' := n) rfl ⟨rfl, rfl⟩ ?_
    rw [← h0, ← h20]
    refine y_aload_n (pc := 306) o dL_law_306 rfl ?_
    refine y_aload_n (pc := 307) o dL_law_307 rfl ?_
    refine y_iload (pc := 308) o dL_law_308 rfl ?_
    refine y_iconst (pc := 310) (x := 1) o dL_law_310 (by decide) ?_
    refine y_iadd (pc := 311) o dL_law_311 ?_
    refine y_sld (pc := 312) o sc (6 * j + 1) (Int32.ofNat_add _ _).symm (by omega) hL dL_law_312 ?_
    refine y_if_eq (pc := 313) (tgt := 320) o dL_law_313 rfl (fun (b2 : (xs (6 * j + 1)) = 0) => ?_) (fun b2 => absurd b2 (by rw [b1]; decide))
    refine y_iconst (pc := 320) (x := 0) o dL_law_320 (by decide) ?_
    refine y_callV (pc := 321) (k := k) (n := n) o (b := ad1 (20, 0, 0)) (As := [.int (gb (False))]) (rest := [.int (r.2.1)]) (hm9 _ _) ln_L_166 dL_law_321 (z_rc (ci := 20) (K := (20, 0, 0)) rfl (gl_20 hI.fix) rfl) rfl rfl (Nat.le_of_ble_eq_true rfl) ⟨by decide, by decide⟩ ⟨(show k ≤ 630091 by omega), (show n ≤ 7125959 by omega)⟩ (fun _ e => e) rfl gq_nox2 (fun v => y_and fun ⟨x, ev, hx⟩ => y_ex fun ad2 => y_and fun q0 => y_and fun q20 => ?_)
    subst ev
    refine z_stk (st' := [.int (x), .int (r.2.1)]) (k' := k) (n' := n) rfl ⟨rfl, rfl⟩ ?_
    rw [← q0, ← q20]
    refine y_icmp_eq (pc := 324) (tgt := 3021) o dL_law_324 rfl (fun (b3 : r.2.1 = x) => ?_) (fun b3 => absurd (hx hz).symm b3)
    exact y_wide (by omega) (by omega) (K _ _ _ _ (hok.1))
  refine y_iconst (pc := 298) (x := 1) o dL_law_298 (by decide) ?_
  refine y_goto (pc := 299) (tgt := 303) o dL_law_299 rfl ?_
  have hok := i_shaft hI0 (by omega) h50 True
  have hw := p_shaft (κ := κ) (ad := ad) (R := C) (T := [(o3, .inl (κ.2.1 1, 1, .inr (.inl g3))), (o4, .inl (κ.2.1 2, 1, .inr (.inr (.inr (.inl g4)))))]) hI0.fix hI0.cnt hI0.mach ⟨gbl_nar hI0.2.1.2.2.1, fun i _ => gbl_nar (hI0.2.1.2.2.2 i)⟩ True
  have hm9 := fun (ad1 : gKey → Nat) (T1 : List (Nat × va_E)) => r_shaft (κ := κ) (ad := ad1) (C := (F_shaft C0 (gb True)).2.2) (T := T1) hC0 hI0 (by omega) True
  generalize F_shaft C0 (gb True) = r at hok hw hm9
  refine y_mono (P' := gR κ ad (C0, C) [(o3, .inl (κ.2.1 1, 1, .inr (.inl g3))), (o4, .inl (κ.2.1 2, 1, .inr (.inr (.inr (.inl g4)))))]) (fun h hr => by rw [← hC0]; exact hr.ghostC (0, 0, 0) 5 0 (fun _ _ _ => rfl) (fun _ _ => rfl)) ?_
  refine y_callV (pc := 303) (k := k) (n := n) o (b := ad (0, 0, 0)) (As := [.int (gb (True))]) (rest := []) hw ln_L_162 dL_law_303 (z_rc (ci := 15) (K := (0, 0, 0)) rfl (gl_0 hI0.fix) rfl) rfl rfl (Nat.le_of_ble_eq_true rfl) ⟨by decide, by decide⟩ ⟨(show k ≤ 630091 by omega), (show n ≤ 7125959 by omega)⟩ (fun _ e => e) rfl (fun x h hE => absurd hE.1 List.not_mem_nil) (fun v => y_and fun hz => y_and fun ev => y_ex fun ad1 => y_and fun h0 => y_and fun h20 => ?_)
  subst ev
  refine z_stk (st' := [.int (r.2.1)]) (k' := k) (n' := n) rfl ⟨rfl, rfl⟩ ?_
  rw [← h0, ← h20]
  refine y_aload_n (pc := 306) o dL_law_306 rfl ?_
  refine y_aload_n (pc := 307) o dL_law_307 rfl ?_
  refine y_iload (pc := 308) o dL_law_308 rfl ?_
  refine y_iconst (pc := 310) (x := 1) o dL_law_310 (by decide) ?_
  refine y_iadd (pc := 311) o dL_law_311 ?_
  refine y_sld (pc := 312) o sc (6 * j + 1) (Int32.ofNat_add _ _).symm (by omega) hL dL_law_312 ?_
  refine y_if_eq (pc := 313) (tgt := 320) o dL_law_313 rfl (fun b4 => absurd b4 b1) (fun (b4 : ¬ (xs (6 * j + 1)) = 0) => ?_)
  refine y_iconst (pc := 316) (x := 1) o dL_law_316 (by decide) ?_
  refine y_goto (pc := 317) (tgt := 321) o dL_law_317 rfl ?_
  refine y_callV (pc := 321) (k := k) (n := n) o (b := ad1 (20, 0, 0)) (As := [.int (gb (True))]) (rest := [.int (r.2.1)]) (hm9 _ _) ln_L_166 dL_law_321 (z_rc (ci := 20) (K := (20, 0, 0)) rfl (gl_20 hI.fix) rfl) rfl rfl (Nat.le_of_ble_eq_true rfl) ⟨by decide, by decide⟩ ⟨(show k ≤ 630091 by omega), (show n ≤ 7125959 by omega)⟩ (fun _ e => e) rfl gq_nox2 (fun v => y_and fun ⟨x, ev, hx⟩ => y_ex fun ad2 => y_and fun q0 => y_and fun q20 => ?_)
  subst ev
  refine z_stk (st' := [.int (x), .int (r.2.1)]) (k' := k) (n' := n) rfl ⟨rfl, rfl⟩ ?_
  rw [← q0, ← q20]
  refine y_icmp_eq (pc := 324) (tgt := 3021) o dL_law_324 rfl (fun (b5 : r.2.1 = x) => ?_) (fun b5 => absurd (hx hz).symm b5)
  exact y_wide (by omega) (by omega) (K _ _ _ _ (hok.1))

theorem lc_belt {κ : gq_K} {f : gq_F} {b L j k n o3 o4 : Nat} {xs : Nat → Int32} {ad : gKey → Nat} {C : gG} {g3 : Nat → Int64} {g4 : Nat → UInt64} (o : gq_Ok κ mL_law f) (sc : gq_Sc f b L xs) (hL : L ≤ 3072) (hj : 6 * j + 6 ≤ L) (hI : gI j C) (hk : k + 40 ≤ 630091) (hn9 : n + 700 ≤ 7125959) (K : ∀ (C' : gG) (ad' : gKey → Nat) (g3 : Nat → Int64) (g4 : Nat → UInt64), gI (j + 1) C' → gq_Y κ mL_law gQL gq_no f (gLP κ ad' C' o3 g3 o4 g4) (gLV ad' j o3 o4 b) 3021 [] (k + 40) (n + 700)) : gq_Y κ mL_law gQL gq_no f (gLP κ ad C o3 g3 o4 g4) (gLV ad j o3 o4 b) 329 [] k n := by
  obtain ⟨C0, hC0⟩ : ∃ C0, gup C (0, 0, 0) 5 0 = C0 := ⟨_, rfl⟩
  have hI0 : gI j C0 := by rw [← hC0]; exact hI.up (Nat.le_refl _) (by omega)
  have h50 : C0.1 (0, 0, 0) 5 = 0 := by rw [← hC0]; exact gup_v _ _ _ _
  show gq_Y κ mL_law gQL gq_no f (gR κ ad (C, C) [(o3, .inl (κ.2.1 1, 1, .inr (.inl g3))), (o4, .inl (κ.2.1 2, 1, .inr (.inr (.inr (.inl g4)))))]) [(5, .int (Int32.ofNat (6 * j))), (4, .ref o4), (3, .ref o3), (2, .ref (ad (20, 0, 0))), (1, .ref (ad (0, 0, 0))), (0, .ref b)] 329 [] k n
  refine y_aload_n (pc := 329) o dL_law_329 rfl ?_
  refine y_aload_n (pc := 330) o dL_law_330 rfl ?_
  refine y_iload (pc := 331) o dL_law_331 rfl ?_
  refine y_iconst (pc := 333) (x := 1) o dL_law_333 (by decide) ?_
  refine y_iadd (pc := 334) o dL_law_334 ?_
  refine y_sld (pc := 335) o sc (6 * j + 1) (Int32.ofNat_add _ _).symm (by omega) hL dL_law_335 ?_
  refine y_i2c (pc := 336) (v := gc16 (xs (6 * j + 1))) o dL_law_336 rfl ?_
  refine y_aload_n (pc := 337) o dL_law_337 rfl ?_
  refine y_iload (pc := 338) o dL_law_338 rfl ?_
  refine y_iconst (pc := 340) (x := 2) o dL_law_340 (by decide) ?_
  refine y_iadd (pc := 341) o dL_law_341 ?_
  refine y_sld (pc := 342) o sc (6 * j + 2) (Int32.ofNat_add _ _).symm (by omega) hL dL_law_342 ?_
  refine y_i2c (pc := 343) (v := gc16 (xs (6 * j + 2))) o dL_law_343 rfl ?_
  refine y_aload_n (pc := 344) o dL_law_344 rfl ?_
  have hok := i_belt hI0 (by omega) h50 (gc16 (xs (6 * j + 1))) (gc16 (xs (6 * j + 2)))
  have hw := w_belt (κ := κ) (ad := ad) (R := C) (T := [(o4, .inl (κ.2.1 2, 1, .inr (.inr (.inr (.inl g4)))))]) hI0 o3 g3 (gc16 (xs (6 * j + 1))) (gc16 (xs (6 * j + 2)))
  have hm9 := fun (ad1 : gKey → Nat) (T1 : List (Nat × va_E)) => r_belt (κ := κ) (ad := ad1) (C := (F_belt C0 (gc16 (xs (6 * j + 1))) (gc16 (xs (6 * j + 2)))).2.2) (T := T1) hC0 hI0 (by omega) (gc16 (xs (6 * j + 1))) (gc16 (xs (6 * j + 2)))
  generalize F_belt C0 (gc16 (xs (6 * j + 1))) (gc16 (xs (6 * j + 2))) = r at hok hw hm9
  refine y_mono (P' := gR κ ad (C0, C) [(o3, .inl (κ.2.1 1, 1, .inr (.inl g3))), (o4, .inl (κ.2.1 2, 1, .inr (.inr (.inr (.inl g4)))))]) (fun h hr => by rw [← hC0]; exact hr.ghostC (0, 0, 0) 5 0 (fun _ _ _ => rfl) (fun _ _ => rfl)) ?_
  refine y_callSW (pc := 345) (k := k) (n := n) o (As := [.ref (ad (0, 0, 0)), .int (gc16 (xs (6 * j + 1))), .int (gc16 (xs (6 * j + 2))), .ref (o3)]) (rest := []) hw ls_L_167 dL_law_345 rfl rfl (Nat.le_of_ble_eq_true rfl) ⟨by decide, by decide⟩ ⟨(show k + 3 ≤ 630091 by omega), (show n + 18 ≤ 7125959 by omega)⟩ (fun _ e => e) (fun v => y_and fun ev => y_ex fun g5 => y_ex fun ad1 => y_and fun hg => y_and fun h0 => y_and fun h20 => ?_)
  subst ev
  refine z_stk (st' := [.int r.1]) (k' := k + 3) (n' := n + 18) rfl ⟨rfl, rfl⟩ ?_
  rw [← h0, ← h20]
  refine y_istore (pc := 348) (i := 6) (lv' := [(6, .int (r.1)), (5, .int (Int32.ofNat (6 * j))), (4, .ref (o4)), (3, .ref (o3)), (2, .ref (ad1 (20, 0, 0))), (1, .ref (ad1 (0, 0, 0))), (0, .ref (b))]) o dL_law_348 (by decide) rfl ?_
  refine y_aload_n (pc := 350) o dL_law_350 rfl ?_
  refine y_aload_n (pc := 351) o dL_law_351 rfl ?_
  refine y_iload (pc := 352) o dL_law_352 rfl ?_
  refine y_iconst (pc := 354) (x := 1) o dL_law_354 (by decide) ?_
  refine y_iadd (pc := 355) o dL_law_355 ?_
  refine y_sld (pc := 356) o sc (6 * j + 1) (Int32.ofNat_add _ _).symm (by omega) hL dL_law_356 ?_
  refine y_i2c (pc := 357) (v := gc16 (xs (6 * j + 1))) o dL_law_357 rfl ?_
  refine y_aload_n (pc := 358) o dL_law_358 rfl ?_
  refine y_iload (pc := 359) o dL_law_359 rfl ?_
  refine y_iconst (pc := 361) (x := 2) o dL_law_361 (by decide) ?_
  refine y_iadd (pc := 362) o dL_law_362 ?_
  refine y_sld (pc := 363) o sc (6 * j + 2) (Int32.ofNat_add _ _).symm (by omega) hL dL_law_363 ?_
  refine y_i2c (pc := 364) (v := gc16 (xs (6 * j + 2))) o dL_law_364 rfl ?_
  refine y_callV (pc := 365) (k := k + 3) (n := n + 18) o (b := ad1 (20, 0, 0)) (As := [.int (gc16 (xs (6 * j + 1))), .int (gc16 (xs (6 * j + 2)))]) (rest := []) (hm9 _ _) ln_L_170 dL_law_365 (z_rc (ci := 20) (K := (20, 0, 0)) rfl (gl_20 hI.fix) rfl) rfl rfl (Nat.le_of_ble_eq_true rfl) ⟨by decide, by decide⟩ ⟨(show k + 3 ≤ 630091 by omega), (show n + 18 ≤ 7125959 by omega)⟩ (fun _ e => e) rfl gq_nox2 (fun v => y_and fun ⟨x, ev, hx⟩ => y_ex fun ad2 => y_and fun q0 => y_and fun q20 => ?_)
  subst ev
  refine z_stk (st' := [.int (x)]) (k' := k + 3) (n' := n + 18) rfl ⟨rfl, rfl⟩ ?_
  rw [← q0, ← q20]
  refine y_istore (pc := 368) (i := 7) (lv' := [(7, .int (x)), (6, .int (r.1)), (5, .int (Int32.ofNat (6 * j))), (4, .ref (o4)), (3, .ref (o3)), (2, .ref (ad2 (20, 0, 0))), (1, .ref (ad2 (0, 0, 0))), (0, .ref (b))]) o dL_law_368 (by decide) rfl ?_
  refine y_aload_n (pc := 370) o dL_law_370 rfl ?_
  refine z_callV (pc := 371) (k := k + 3) (n := n + 18) (k' := k + 3) (n' := n + 18) o (b := ad2 (20, 0, 0)) (As := []) (rest := []) (r_thrown (C := r.2.2) (R := r.2.2) hok.1.fix) ln_L_158 dL_law_371 (z_rc (ci := 20) (K := (20, 0, 0)) rfl (gl_20 hok.1.fix) rfl) rfl rfl (Nat.le_of_ble_eq_true rfl) ⟨by decide, by decide⟩ ⟨rfl, rfl⟩ ⟨(show k + 3 ≤ 630091 by omega), (show n + 18 ≤ 7125959 by omega)⟩ rfl gq_nox2 ?_
  rw [hok.2]
  refine y_iload (pc := 374) o dL_law_374 rfl ?_
  refine y_icmp_eq (pc := 376) (tgt := 381) o dL_law_376 rfl (fun (b1 : r.1 = r.1) => ?_) (fun b1 => absurd rfl b1)
  refine y_iload (pc := 381) o dL_law_381 rfl ?_
  refine y_if_ne (pc := 383) (tgt := 398) o dL_law_383 rfl (fun (b2 : ¬ r.1 = 0) => ?_) (fun (b2 : r.1 = 0) => ?_)
  · refine y_goto (pc := 398) (tgt := 3021) o dL_law_398 rfl ?_
    refine y_lv [2, 3, 4, 5, 6, 7] (lv' := [(5, .int (Int32.ofNat (6 * j))), (4, .ref (o4)), (3, .ref (o3)), (2, .ref (ad2 (20, 0, 0))), (1, .ref (ad2 (0, 0, 0))), (0, .ref (b))]) rfl ?_
    exact y_wide (by omega) (by omega) (K _ _ _ _ (hok.1))
  refine y_aload_n (pc := 386) o dL_law_386 rfl ?_
  refine y_iconst (pc := 387) (x := 0) o dL_law_387 (by decide) ?_
  refine z_laldT (pc := 388) (i := 0) (v := g5 0) o 0 dL_law_388 rfl (by unfold vp_in; decide) rfl ?_
  refine y_iload (pc := 389) o dL_law_389 rfl ?_
  refine y_i2l (pc := 391) o dL_law_391 ?_
  refine y_lcmp (pc := 392) o dL_law_392 ?_
  refine y_if_eq (pc := 393) (tgt := 398) o dL_law_393 rfl (fun (b3 : (lg_cmp (g5 0) x.toInt64) = 0) => ?_) (fun b3 => absurd (gl0 (by rw [hg b2, hx b2])) b3)
  refine y_goto (pc := 398) (tgt := 3021) o dL_law_398 rfl ?_
  refine y_lv [2, 3, 4, 5, 6, 7] (lv' := [(5, .int (Int32.ofNat (6 * j))), (4, .ref (o4)), (3, .ref (o3)), (2, .ref (ad2 (20, 0, 0))), (1, .ref (ad2 (0, 0, 0))), (0, .ref (b))]) rfl ?_
  exact y_wide (by omega) (by omega) (K _ _ _ _ (hok.1))

theorem lc_on {κ : gq_K} {f : gq_F} {b L j k n o3 o4 : Nat} {xs : Nat → Int32} {ad : gKey → Nat} {C : gG} {g3 : Nat → Int64} {g4 : Nat → UInt64} (o : gq_Ok κ mL_law f) (sc : gq_Sc f b L xs) (hL : L ≤ 3072) (hj : 6 * j + 6 ≤ L) (hI : gI j C) (hk : k + 40 ≤ 630091) (hn9 : n + 700 ≤ 7125959) (K : ∀ (C' : gG) (ad' : gKey → Nat) (g3 : Nat → Int64) (g4 : Nat → UInt64), gI (j + 1) C' → gq_Y κ mL_law gQL gq_no f (gLP κ ad' C' o3 g3 o4 g4) (gLV ad' j o3 o4 b) 3021 [] (k + 40) (n + 700)) : gq_Y κ mL_law gQL gq_no f (gLP κ ad C o3 g3 o4 g4) (gLV ad j o3 o4 b) 401 [] k n := by
  obtain ⟨C0, hC0⟩ : ∃ C0, gup C (0, 0, 0) 5 0 = C0 := ⟨_, rfl⟩
  have hI0 : gI j C0 := by rw [← hC0]; exact hI.up (Nat.le_refl _) (by omega)
  have h50 : C0.1 (0, 0, 0) 5 = 0 := by rw [← hC0]; exact gup_v _ _ _ _
  show gq_Y κ mL_law gQL gq_no f (gR κ ad (C, C) [(o3, .inl (κ.2.1 1, 1, .inr (.inl g3))), (o4, .inl (κ.2.1 2, 1, .inr (.inr (.inr (.inl g4)))))]) [(5, .int (Int32.ofNat (6 * j))), (4, .ref o4), (3, .ref o3), (2, .ref (ad (20, 0, 0))), (1, .ref (ad (0, 0, 0))), (0, .ref b)] 401 [] k n
  refine y_aload_n (pc := 401) o dL_law_401 rfl ?_
  refine y_aload_n (pc := 402) o dL_law_402 rfl ?_
  refine y_iload (pc := 403) o dL_law_403 rfl ?_
  refine y_iconst (pc := 405) (x := 1) o dL_law_405 (by decide) ?_
  refine y_iadd (pc := 406) o dL_law_406 ?_
  refine y_sld (pc := 407) o sc (6 * j + 1) (Int32.ofNat_add _ _).symm (by omega) hL dL_law_407 ?_
  refine y_i2c (pc := 408) (v := gc16 (xs (6 * j + 1))) o dL_law_408 rfl ?_
  refine y_aload_n (pc := 409) o dL_law_409 rfl ?_
  refine y_iload (pc := 410) o dL_law_410 rfl ?_
  refine y_iconst (pc := 412) (x := 2) o dL_law_412 (by decide) ?_
  refine y_iadd (pc := 413) o dL_law_413 ?_
  refine y_sld (pc := 414) o sc (6 * j + 2) (Int32.ofNat_add _ _).symm (by omega) hL dL_law_414 ?_
  refine y_if_eq (pc := 415) (tgt := 422) o dL_law_415 rfl (fun (b1 : (xs (6 * j + 2)) = 0) => ?_) (fun (b1 : ¬ (xs (6 * j + 2)) = 0) => ?_)
  · refine y_iconst (pc := 422) (x := 0) o dL_law_422 (by decide) ?_
    refine y_aload_n (pc := 423) o dL_law_423 rfl ?_
    have hok := i_on hI0 (by omega) h50 (gc16 (xs (6 * j + 1))) False
    have hw := w_on (κ := κ) (ad := ad) (R := C) (T := [(o4, .inl (κ.2.1 2, 1, .inr (.inr (.inr (.inl g4)))))]) hI0 o3 g3 (gc16 (xs (6 * j + 1))) False
    have hm9 := fun (ad1 : gKey → Nat) (T1 : List (Nat × va_E)) => r_on (κ := κ) (ad := ad1) (C := (F_on C0 (gc16 (xs (6 * j + 1))) (gb False)).2.2) (T := T1) hC0 hI0 (by omega) (gc16 (xs (6 * j + 1))) False
    generalize F_on C0 (gc16 (xs (6 * j + 1))) (gb False) = r at hok hw hm9
    refine y_mono (P' := gR κ ad (C0, C) [(o3, .inl (κ.2.1 1, 1, .inr (.inl g3))), (o4, .inl (κ.2.1 2, 1, .inr (.inr (.inr (.inl g4)))))]) (fun h hr => by rw [← hC0]; exact hr.ghostC (0, 0, 0) 5 0 (fun _ _ _ => rfl) (fun _ _ => rfl)) ?_
    refine y_callSW (pc := 424) (k := k) (n := n) o (As := [.ref (ad (0, 0, 0)), .int (gc16 (xs (6 * j + 1))), .int (gb (False)), .ref (o3)]) (rest := []) hw ls_L_171 dL_law_424 rfl rfl (Nat.le_of_ble_eq_true rfl) ⟨by decide, by decide⟩ ⟨(show k + 1 ≤ 630091 by omega), (show n + 6 ≤ 7125959 by omega)⟩ (fun _ e => e) (fun v => y_and fun ev => y_ex fun g5 => y_ex fun ad1 => y_and fun hg => y_and fun h0 => y_and fun h20 => ?_)
    subst ev
    refine z_stk (st' := [.int r.1]) (k' := k + 1) (n' := n + 6) rfl ⟨rfl, rfl⟩ ?_
    rw [← h0, ← h20]
    refine y_istore (pc := 427) (i := 6) (lv' := [(6, .int (r.1)), (5, .int (Int32.ofNat (6 * j))), (4, .ref (o4)), (3, .ref (o3)), (2, .ref (ad1 (20, 0, 0))), (1, .ref (ad1 (0, 0, 0))), (0, .ref (b))]) o dL_law_427 (by decide) rfl ?_
    refine y_aload_n (pc := 429) o dL_law_429 rfl ?_
    refine y_aload_n (pc := 430) o dL_law_430 rfl ?_
    refine y_iload (pc := 431) o dL_law_431 rfl ?_
    refine y_iconst (pc := 433) (x := 1) o dL_law_433 (by decide) ?_
    refine y_iadd (pc := 434) o dL_law_434 ?_
    refine y_sld (pc := 435) o sc (6 * j + 1) (Int32.ofNat_add _ _).symm (by omega) hL dL_law_435 ?_
    refine y_i2c (pc := 436) (v := gc16 (xs (6 * j + 1))) o dL_law_436 rfl ?_
    refine y_aload_n (pc := 437) o dL_law_437 rfl ?_
    refine y_iload (pc := 438) o dL_law_438 rfl ?_
    refine y_iconst (pc := 440) (x := 2) o dL_law_440 (by decide) ?_
    refine y_iadd (pc := 441) o dL_law_441 ?_
    refine y_sld (pc := 442) o sc (6 * j + 2) (Int32.ofNat_add _ _).symm (by omega) hL dL_law_442 ?_
    refine y_if_eq (pc := 443) (tgt := 450) o dL_law_443 rfl (fun (b2 : (xs (6 * j + 2)) = 0) => ?_) (fun b2 => absurd b2 (by rw [b1]; decide))
    refine y_iconst (pc := 450) (x := 0) o dL_law_450 (by decide) ?_
    refine y_callV (pc := 451) (k := k + 1) (n := n + 6) o (b := ad1 (20, 0, 0)) (As := [.int (gc16 (xs (6 * j + 1))), .int (gb (False))]) (rest := []) (hm9 _ _) ln_L_174 dL_law_451 (z_rc (ci := 20) (K := (20, 0, 0)) rfl (gl_20 hI.fix) rfl) rfl rfl (Nat.le_of_ble_eq_true rfl) ⟨by decide, by decide⟩ ⟨(show k + 1 ≤ 630091 by omega), (show n + 6 ≤ 7125959 by omega)⟩ (fun _ e => e) rfl gq_nox2 (fun v => y_and fun ⟨x, ev, hx⟩ => y_ex fun ad2 => y_and fun q0 => y_and fun q20 => ?_)
    subst ev
    refine z_stk (st' := [.int (x)]) (k' := k + 1) (n' := n + 6) rfl ⟨rfl, rfl⟩ ?_
    rw [← q0, ← q20]
    refine y_istore (pc := 454) (i := 7) (lv' := [(7, .int (x)), (6, .int (r.1)), (5, .int (Int32.ofNat (6 * j))), (4, .ref (o4)), (3, .ref (o3)), (2, .ref (ad2 (20, 0, 0))), (1, .ref (ad2 (0, 0, 0))), (0, .ref (b))]) o dL_law_454 (by decide) rfl ?_
    refine y_aload_n (pc := 456) o dL_law_456 rfl ?_
    refine z_callV (pc := 457) (k := k + 1) (n := n + 6) (k' := k + 1) (n' := n + 6) o (b := ad2 (20, 0, 0)) (As := []) (rest := []) (r_thrown (C := r.2.2) (R := r.2.2) hok.1.fix) ln_L_158 dL_law_457 (z_rc (ci := 20) (K := (20, 0, 0)) rfl (gl_20 hok.1.fix) rfl) rfl rfl (Nat.le_of_ble_eq_true rfl) ⟨by decide, by decide⟩ ⟨rfl, rfl⟩ ⟨(show k + 1 ≤ 630091 by omega), (show n + 6 ≤ 7125959 by omega)⟩ rfl gq_nox2 ?_
    rw [hok.2]
    refine y_iload (pc := 460) o dL_law_460 rfl ?_
    refine y_icmp_eq (pc := 462) (tgt := 467) o dL_law_462 rfl (fun (b3 : r.1 = r.1) => ?_) (fun b3 => absurd rfl b3)
    refine y_iload (pc := 467) o dL_law_467 rfl ?_
    refine y_if_ne (pc := 469) (tgt := 491) o dL_law_469 rfl (fun (b4 : ¬ r.1 = 0) => ?_) (fun (b4 : r.1 = 0) => ?_)
    · refine y_goto (pc := 491) (tgt := 3021) o dL_law_491 rfl ?_
      refine y_lv [2, 3, 4, 5, 6, 7] (lv' := [(5, .int (Int32.ofNat (6 * j))), (4, .ref (o4)), (3, .ref (o3)), (2, .ref (ad2 (20, 0, 0))), (1, .ref (ad2 (0, 0, 0))), (0, .ref (b))]) rfl ?_
      exact y_wide (by omega) (by omega) (K _ _ _ _ (hok.1))
    refine y_aload_n (pc := 472) o dL_law_472 rfl ?_
    refine y_iconst (pc := 473) (x := 0) o dL_law_473 (by decide) ?_
    refine z_laldT (pc := 474) (i := 0) (v := g5 0) o 0 dL_law_474 rfl (by unfold vp_in; decide) rfl ?_
    refine y_iload (pc := 475) o dL_law_475 rfl ?_
    refine y_if_eq (pc := 477) (tgt := 484) o dL_law_477 rfl (fun (b5 : x = 0) => ?_) (fun (b5 : ¬ x = 0) => ?_)
    · refine y_lconst (pc := 484) (x := 0) o dL_law_484 (by decide) ?_
      refine y_lcmp (pc := 485) o dL_law_485 ?_
      refine y_if_eq (pc := 486) (tgt := 491) o dL_law_486 rfl (fun (b6 : (lg_cmp (g5 0) 0) = 0) => ?_) (fun b6 => absurd (gl0 (by rw [hg b4, ← hx b4, if_pos b5])) b6)
      refine y_goto (pc := 491) (tgt := 3021) o dL_law_491 rfl ?_
      refine y_lv [2, 3, 4, 5, 6, 7] (lv' := [(5, .int (Int32.ofNat (6 * j))), (4, .ref (o4)), (3, .ref (o3)), (2, .ref (ad2 (20, 0, 0))), (1, .ref (ad2 (0, 0, 0))), (0, .ref (b))]) rfl ?_
      exact y_wide (by omega) (by omega) (K _ _ _ _ (hok.1))
    refine y_lconst (pc := 480) (x := 1) o dL_law_480 (by decide) ?_
    refine y_goto (pc := 481) (tgt := 485) o dL_law_481 rfl ?_
    refine y_lcmp (pc := 485) o dL_law_485 ?_
    refine y_if_eq (pc := 486) (tgt := 491) o dL_law_486 rfl (fun (b7 : (lg_cmp (g5 0) 1) = 0) => ?_) (fun b7 => absurd (gl0 (by rw [hg b4, ← hx b4, if_neg b5])) b7)
    refine y_goto (pc := 491) (tgt := 3021) o dL_law_491 rfl ?_
    refine y_lv [2, 3, 4, 5, 6, 7] (lv' := [(5, .int (Int32.ofNat (6 * j))), (4, .ref (o4)), (3, .ref (o3)), (2, .ref (ad2 (20, 0, 0))), (1, .ref (ad2 (0, 0, 0))), (0, .ref (b))]) rfl ?_
    exact y_wide (by omega) (by omega) (K _ _ _ _ (hok.1))
  refine y_iconst (pc := 418) (x := 1) o dL_law_418 (by decide) ?_
  refine y_goto (pc := 419) (tgt := 423) o dL_law_419 rfl ?_
  refine y_aload_n (pc := 423) o dL_law_423 rfl ?_
  have hok := i_on hI0 (by omega) h50 (gc16 (xs (6 * j + 1))) True
  have hw := w_on (κ := κ) (ad := ad) (R := C) (T := [(o4, .inl (κ.2.1 2, 1, .inr (.inr (.inr (.inl g4)))))]) hI0 o3 g3 (gc16 (xs (6 * j + 1))) True
  have hm9 := fun (ad1 : gKey → Nat) (T1 : List (Nat × va_E)) => r_on (κ := κ) (ad := ad1) (C := (F_on C0 (gc16 (xs (6 * j + 1))) (gb True)).2.2) (T := T1) hC0 hI0 (by omega) (gc16 (xs (6 * j + 1))) True
  generalize F_on C0 (gc16 (xs (6 * j + 1))) (gb True) = r at hok hw hm9
  refine y_mono (P' := gR κ ad (C0, C) [(o3, .inl (κ.2.1 1, 1, .inr (.inl g3))), (o4, .inl (κ.2.1 2, 1, .inr (.inr (.inr (.inl g4)))))]) (fun h hr => by rw [← hC0]; exact hr.ghostC (0, 0, 0) 5 0 (fun _ _ _ => rfl) (fun _ _ => rfl)) ?_
  refine y_callSW (pc := 424) (k := k) (n := n) o (As := [.ref (ad (0, 0, 0)), .int (gc16 (xs (6 * j + 1))), .int (gb (True)), .ref (o3)]) (rest := []) hw ls_L_171 dL_law_424 rfl rfl (Nat.le_of_ble_eq_true rfl) ⟨by decide, by decide⟩ ⟨(show k + 1 ≤ 630091 by omega), (show n + 6 ≤ 7125959 by omega)⟩ (fun _ e => e) (fun v => y_and fun ev => y_ex fun g5 => y_ex fun ad1 => y_and fun hg => y_and fun h0 => y_and fun h20 => ?_)
  subst ev
  refine z_stk (st' := [.int r.1]) (k' := k + 1) (n' := n + 6) rfl ⟨rfl, rfl⟩ ?_
  rw [← h0, ← h20]
  refine y_istore (pc := 427) (i := 6) (lv' := [(6, .int (r.1)), (5, .int (Int32.ofNat (6 * j))), (4, .ref (o4)), (3, .ref (o3)), (2, .ref (ad1 (20, 0, 0))), (1, .ref (ad1 (0, 0, 0))), (0, .ref (b))]) o dL_law_427 (by decide) rfl ?_
  refine y_aload_n (pc := 429) o dL_law_429 rfl ?_
  refine y_aload_n (pc := 430) o dL_law_430 rfl ?_
  refine y_iload (pc := 431) o dL_law_431 rfl ?_
  refine y_iconst (pc := 433) (x := 1) o dL_law_433 (by decide) ?_
  refine y_iadd (pc := 434) o dL_law_434 ?_
  refine y_sld (pc := 435) o sc (6 * j + 1) (Int32.ofNat_add _ _).symm (by omega) hL dL_law_435 ?_
  refine y_i2c (pc := 436) (v := gc16 (xs (6 * j + 1))) o dL_law_436 rfl ?_
  refine y_aload_n (pc := 437) o dL_law_437 rfl ?_
  refine y_iload (pc := 438) o dL_law_438 rfl ?_
  refine y_iconst (pc := 440) (x := 2) o dL_law_440 (by decide) ?_
  refine y_iadd (pc := 441) o dL_law_441 ?_
  refine y_sld (pc := 442) o sc (6 * j + 2) (Int32.ofNat_add _ _).symm (by omega) hL dL_law_442 ?_
  refine y_if_eq (pc := 443) (tgt := 450) o dL_law_443 rfl (fun b8 => absurd b8 b1) (fun (b8 : ¬ (xs (6 * j + 2)) = 0) => ?_)
  refine y_iconst (pc := 446) (x := 1) o dL_law_446 (by decide) ?_
  refine y_goto (pc := 447) (tgt := 451) o dL_law_447 rfl ?_
  refine y_callV (pc := 451) (k := k + 1) (n := n + 6) o (b := ad1 (20, 0, 0)) (As := [.int (gc16 (xs (6 * j + 1))), .int (gb (True))]) (rest := []) (hm9 _ _) ln_L_174 dL_law_451 (z_rc (ci := 20) (K := (20, 0, 0)) rfl (gl_20 hI.fix) rfl) rfl rfl (Nat.le_of_ble_eq_true rfl) ⟨by decide, by decide⟩ ⟨(show k + 1 ≤ 630091 by omega), (show n + 6 ≤ 7125959 by omega)⟩ (fun _ e => e) rfl gq_nox2 (fun v => y_and fun ⟨x, ev, hx⟩ => y_ex fun ad2 => y_and fun q0 => y_and fun q20 => ?_)
  subst ev
  refine z_stk (st' := [.int (x)]) (k' := k + 1) (n' := n + 6) rfl ⟨rfl, rfl⟩ ?_
  rw [← q0, ← q20]
  refine y_istore (pc := 454) (i := 7) (lv' := [(7, .int (x)), (6, .int (r.1)), (5, .int (Int32.ofNat (6 * j))), (4, .ref (o4)), (3, .ref (o3)), (2, .ref (ad2 (20, 0, 0))), (1, .ref (ad2 (0, 0, 0))), (0, .ref (b))]) o dL_law_454 (by decide) rfl ?_
  refine y_aload_n (pc := 456) o dL_law_456 rfl ?_
  refine z_callV (pc := 457) (k := k + 1) (n := n + 6) (k' := k + 1) (n' := n + 6) o (b := ad2 (20, 0, 0)) (As := []) (rest := []) (r_thrown (C := r.2.2) (R := r.2.2) hok.1.fix) ln_L_158 dL_law_457 (z_rc (ci := 20) (K := (20, 0, 0)) rfl (gl_20 hok.1.fix) rfl) rfl rfl (Nat.le_of_ble_eq_true rfl) ⟨by decide, by decide⟩ ⟨rfl, rfl⟩ ⟨(show k + 1 ≤ 630091 by omega), (show n + 6 ≤ 7125959 by omega)⟩ rfl gq_nox2 ?_
  rw [hok.2]
  refine y_iload (pc := 460) o dL_law_460 rfl ?_
  refine y_icmp_eq (pc := 462) (tgt := 467) o dL_law_462 rfl (fun (b9 : r.1 = r.1) => ?_) (fun b9 => absurd rfl b9)
  refine y_iload (pc := 467) o dL_law_467 rfl ?_
  refine y_if_ne (pc := 469) (tgt := 491) o dL_law_469 rfl (fun (b10 : ¬ r.1 = 0) => ?_) (fun (b10 : r.1 = 0) => ?_)
  · refine y_goto (pc := 491) (tgt := 3021) o dL_law_491 rfl ?_
    refine y_lv [2, 3, 4, 5, 6, 7] (lv' := [(5, .int (Int32.ofNat (6 * j))), (4, .ref (o4)), (3, .ref (o3)), (2, .ref (ad2 (20, 0, 0))), (1, .ref (ad2 (0, 0, 0))), (0, .ref (b))]) rfl ?_
    exact y_wide (by omega) (by omega) (K _ _ _ _ (hok.1))
  refine y_aload_n (pc := 472) o dL_law_472 rfl ?_
  refine y_iconst (pc := 473) (x := 0) o dL_law_473 (by decide) ?_
  refine z_laldT (pc := 474) (i := 0) (v := g5 0) o 0 dL_law_474 rfl (by unfold vp_in; decide) rfl ?_
  refine y_iload (pc := 475) o dL_law_475 rfl ?_
  refine y_if_eq (pc := 477) (tgt := 484) o dL_law_477 rfl (fun (b11 : x = 0) => ?_) (fun (b11 : ¬ x = 0) => ?_)
  · refine y_lconst (pc := 484) (x := 0) o dL_law_484 (by decide) ?_
    refine y_lcmp (pc := 485) o dL_law_485 ?_
    refine y_if_eq (pc := 486) (tgt := 491) o dL_law_486 rfl (fun (b12 : (lg_cmp (g5 0) 0) = 0) => ?_) (fun b12 => absurd (gl0 (by rw [hg b10, ← hx b10, if_pos b11])) b12)
    refine y_goto (pc := 491) (tgt := 3021) o dL_law_491 rfl ?_
    refine y_lv [2, 3, 4, 5, 6, 7] (lv' := [(5, .int (Int32.ofNat (6 * j))), (4, .ref (o4)), (3, .ref (o3)), (2, .ref (ad2 (20, 0, 0))), (1, .ref (ad2 (0, 0, 0))), (0, .ref (b))]) rfl ?_
    exact y_wide (by omega) (by omega) (K _ _ _ _ (hok.1))
  refine y_lconst (pc := 480) (x := 1) o dL_law_480 (by decide) ?_
  refine y_goto (pc := 481) (tgt := 485) o dL_law_481 rfl ?_
  refine y_lcmp (pc := 485) o dL_law_485 ?_
  refine y_if_eq (pc := 486) (tgt := 491) o dL_law_486 rfl (fun (b13 : (lg_cmp (g5 0) 1) = 0) => ?_) (fun b13 => absurd (gl0 (by rw [hg b10, ← hx b10, if_neg b11])) b13)
  refine y_goto (pc := 491) (tgt := 3021) o dL_law_491 rfl ?_
  refine y_lv [2, 3, 4, 5, 6, 7] (lv' := [(5, .int (Int32.ofNat (6 * j))), (4, .ref (o4)), (3, .ref (o3)), (2, .ref (ad2 (20, 0, 0))), (1, .ref (ad2 (0, 0, 0))), (0, .ref (b))]) rfl ?_
  exact y_wide (by omega) (by omega) (K _ _ _ _ (hok.1))

theorem lc_runs {κ : gq_K} {f : gq_F} {b L j k n o3 o4 : Nat} {xs : Nat → Int32} {ad : gKey → Nat} {C : gG} {g3 : Nat → Int64} {g4 : Nat → UInt64} (o : gq_Ok κ mL_law f) (sc : gq_Sc f b L xs) (hL : L ≤ 3072) (hj : 6 * j + 6 ≤ L) (hI : gI j C) (hk : k + 40 ≤ 630091) (hn9 : n + 700 ≤ 7125959) (K : ∀ (C' : gG) (ad' : gKey → Nat) (g3 : Nat → Int64) (g4 : Nat → UInt64), gI (j + 1) C' → gq_Y κ mL_law gQL gq_no f (gLP κ ad' C' o3 g3 o4 g4) (gLV ad' j o3 o4 b) 3021 [] (k + 40) (n + 700)) : gq_Y κ mL_law gQL gq_no f (gLP κ ad C o3 g3 o4 g4) (gLV ad j o3 o4 b) 494 [] k n := by
  obtain ⟨C0, hC0⟩ : ∃ C0, gup C (0, 0, 0) 5 0 = C0 := ⟨_, rfl⟩
  have hI0 : gI j C0 := by rw [← hC0]; exact hI.up (Nat.le_refl _) (by omega)
  have h50 : C0.1 (0, 0, 0) 5 = 0 := by rw [← hC0]; exact gup_v _ _ _ _
  show gq_Y κ mL_law gQL gq_no f (gR κ ad (C, C) [(o3, .inl (κ.2.1 1, 1, .inr (.inl g3))), (o4, .inl (κ.2.1 2, 1, .inr (.inr (.inr (.inl g4)))))]) [(5, .int (Int32.ofNat (6 * j))), (4, .ref o4), (3, .ref o3), (2, .ref (ad (20, 0, 0))), (1, .ref (ad (0, 0, 0))), (0, .ref b)] 494 [] k n
  refine y_aload_n (pc := 494) o dL_law_494 rfl ?_
  refine y_aload_n (pc := 495) o dL_law_495 rfl ?_
  refine y_iload (pc := 496) o dL_law_496 rfl ?_
  refine y_iconst (pc := 498) (x := 1) o dL_law_498 (by decide) ?_
  refine y_iadd (pc := 499) o dL_law_499 ?_
  refine y_sld (pc := 500) o sc (6 * j + 1) (Int32.ofNat_add _ _).symm (by omega) hL dL_law_500 ?_
  refine y_i2c (pc := 501) (v := gc16 (xs (6 * j + 1))) o dL_law_501 rfl ?_
  refine y_aload_n (pc := 502) o dL_law_502 rfl ?_
  have hok := i_runs hI0 (by omega) h50 (gc16 (xs (6 * j + 1)))
  have hw := w_runs (κ := κ) (ad := ad) (R := C) (T := [(o4, .inl (κ.2.1 2, 1, .inr (.inr (.inr (.inl g4)))))]) hI0 o3 g3 (gc16 (xs (6 * j + 1)))
  have hm9 := fun (ad1 : gKey → Nat) (T1 : List (Nat × va_E)) => r_runs (κ := κ) (ad := ad1) (C := (F_runs C0 (gc16 (xs (6 * j + 1)))).2.2) (T := T1) hC0 hI0 (by omega) (gc16 (xs (6 * j + 1)))
  generalize F_runs C0 (gc16 (xs (6 * j + 1))) = r at hok hw hm9
  refine y_mono (P' := gR κ ad (C0, C) [(o3, .inl (κ.2.1 1, 1, .inr (.inl g3))), (o4, .inl (κ.2.1 2, 1, .inr (.inr (.inr (.inl g4)))))]) (fun h hr => by rw [← hC0]; exact hr.ghostC (0, 0, 0) 5 0 (fun _ _ _ => rfl) (fun _ _ => rfl)) ?_
  refine y_callSW (pc := 503) (k := k) (n := n) o (As := [.ref (ad (0, 0, 0)), .int (gc16 (xs (6 * j + 1))), .ref (o3)]) (rest := []) hw ls_L_175 dL_law_503 rfl rfl (Nat.le_of_ble_eq_true rfl) ⟨by decide, by decide⟩ ⟨(show k + 1 ≤ 630091 by omega), (show n + 6 ≤ 7125959 by omega)⟩ (fun _ e => e) (fun v => y_and fun ev => y_ex fun g5 => y_ex fun ad1 => y_and fun hg => y_and fun h0 => y_and fun h20 => ?_)
  subst ev
  refine z_stk (st' := [.int r.1]) (k' := k + 1) (n' := n + 6) rfl ⟨rfl, rfl⟩ ?_
  rw [← h0, ← h20]
  refine y_istore (pc := 506) (i := 6) (lv' := [(6, .int (r.1)), (5, .int (Int32.ofNat (6 * j))), (4, .ref (o4)), (3, .ref (o3)), (2, .ref (ad1 (20, 0, 0))), (1, .ref (ad1 (0, 0, 0))), (0, .ref (b))]) o dL_law_506 (by decide) rfl ?_
  refine y_aload_n (pc := 508) o dL_law_508 rfl ?_
  refine y_aload_n (pc := 509) o dL_law_509 rfl ?_
  refine y_iload (pc := 510) o dL_law_510 rfl ?_
  refine y_iconst (pc := 512) (x := 1) o dL_law_512 (by decide) ?_
  refine y_iadd (pc := 513) o dL_law_513 ?_
  refine y_sld (pc := 514) o sc (6 * j + 1) (Int32.ofNat_add _ _).symm (by omega) hL dL_law_514 ?_
  refine y_i2c (pc := 515) (v := gc16 (xs (6 * j + 1))) o dL_law_515 rfl ?_
  refine y_callV (pc := 516) (k := k + 1) (n := n + 6) o (b := ad1 (20, 0, 0)) (As := [.int (gc16 (xs (6 * j + 1)))]) (rest := []) (hm9 _ _) ln_L_178 dL_law_516 (z_rc (ci := 20) (K := (20, 0, 0)) rfl (gl_20 hI.fix) rfl) rfl rfl (Nat.le_of_ble_eq_true rfl) ⟨by decide, by decide⟩ ⟨(show k + 1 ≤ 630091 by omega), (show n + 6 ≤ 7125959 by omega)⟩ (fun _ e => e) rfl gq_nox2 (fun v => y_and fun ⟨x, ev, hx⟩ => y_ex fun ad2 => y_and fun q0 => y_and fun q20 => ?_)
  subst ev
  refine z_stk (st' := [.int (x)]) (k' := k + 1) (n' := n + 6) rfl ⟨rfl, rfl⟩ ?_
  rw [← q0, ← q20]
  refine y_istore (pc := 519) (i := 7) (lv' := [(7, .int (x)), (6, .int (r.1)), (5, .int (Int32.ofNat (6 * j))), (4, .ref (o4)), (3, .ref (o3)), (2, .ref (ad2 (20, 0, 0))), (1, .ref (ad2 (0, 0, 0))), (0, .ref (b))]) o dL_law_519 (by decide) rfl ?_
  refine y_aload_n (pc := 521) o dL_law_521 rfl ?_
  refine z_callV (pc := 522) (k := k + 1) (n := n + 6) (k' := k + 1) (n' := n + 6) o (b := ad2 (20, 0, 0)) (As := []) (rest := []) (r_thrown (C := r.2.2) (R := r.2.2) hok.1.fix) ln_L_158 dL_law_522 (z_rc (ci := 20) (K := (20, 0, 0)) rfl (gl_20 hok.1.fix) rfl) rfl rfl (Nat.le_of_ble_eq_true rfl) ⟨by decide, by decide⟩ ⟨rfl, rfl⟩ ⟨(show k + 1 ≤ 630091 by omega), (show n + 6 ≤ 7125959 by omega)⟩ rfl gq_nox2 ?_
  rw [hok.2]
  refine y_iload (pc := 525) o dL_law_525 rfl ?_
  refine y_icmp_eq (pc := 527) (tgt := 532) o dL_law_527 rfl (fun (b1 : r.1 = r.1) => ?_) (fun b1 => absurd rfl b1)
  refine y_iload (pc := 532) o dL_law_532 rfl ?_
  refine y_if_ne (pc := 534) (tgt := 556) o dL_law_534 rfl (fun (b2 : ¬ r.1 = 0) => ?_) (fun (b2 : r.1 = 0) => ?_)
  · refine y_goto (pc := 556) (tgt := 3021) o dL_law_556 rfl ?_
    refine y_lv [2, 3, 4, 5, 6, 7] (lv' := [(5, .int (Int32.ofNat (6 * j))), (4, .ref (o4)), (3, .ref (o3)), (2, .ref (ad2 (20, 0, 0))), (1, .ref (ad2 (0, 0, 0))), (0, .ref (b))]) rfl ?_
    exact y_wide (by omega) (by omega) (K _ _ _ _ (hok.1))
  refine y_aload_n (pc := 537) o dL_law_537 rfl ?_
  refine y_iconst (pc := 538) (x := 0) o dL_law_538 (by decide) ?_
  refine z_laldT (pc := 539) (i := 0) (v := g5 0) o 0 dL_law_539 rfl (by unfold vp_in; decide) rfl ?_
  refine y_iload (pc := 540) o dL_law_540 rfl ?_
  refine y_if_eq (pc := 542) (tgt := 549) o dL_law_542 rfl (fun (b3 : x = 0) => ?_) (fun (b3 : ¬ x = 0) => ?_)
  · refine y_lconst (pc := 549) (x := 0) o dL_law_549 (by decide) ?_
    refine y_lcmp (pc := 550) o dL_law_550 ?_
    refine y_if_eq (pc := 551) (tgt := 556) o dL_law_551 rfl (fun (b4 : (lg_cmp (g5 0) 0) = 0) => ?_) (fun b4 => absurd (gl0 (by rw [hg b2, ← hx b2, if_pos b3])) b4)
    refine y_goto (pc := 556) (tgt := 3021) o dL_law_556 rfl ?_
    refine y_lv [2, 3, 4, 5, 6, 7] (lv' := [(5, .int (Int32.ofNat (6 * j))), (4, .ref (o4)), (3, .ref (o3)), (2, .ref (ad2 (20, 0, 0))), (1, .ref (ad2 (0, 0, 0))), (0, .ref (b))]) rfl ?_
    exact y_wide (by omega) (by omega) (K _ _ _ _ (hok.1))
  refine y_lconst (pc := 545) (x := 1) o dL_law_545 (by decide) ?_
  refine y_goto (pc := 546) (tgt := 550) o dL_law_546 rfl ?_
  refine y_lcmp (pc := 550) o dL_law_550 ?_
  refine y_if_eq (pc := 551) (tgt := 556) o dL_law_551 rfl (fun (b5 : (lg_cmp (g5 0) 1) = 0) => ?_) (fun b5 => absurd (gl0 (by rw [hg b2, ← hx b2, if_neg b3])) b5)
  refine y_goto (pc := 556) (tgt := 3021) o dL_law_556 rfl ?_
  refine y_lv [2, 3, 4, 5, 6, 7] (lv' := [(5, .int (Int32.ofNat (6 * j))), (4, .ref (o4)), (3, .ref (o3)), (2, .ref (ad2 (20, 0, 0))), (1, .ref (ad2 (0, 0, 0))), (0, .ref (b))]) rfl ?_
  exact y_wide (by omega) (by omega) (K _ _ _ _ (hok.1))

theorem lc_lot {κ : gq_K} {f : gq_F} {b L j k n o3 o4 : Nat} {xs : Nat → Int32} {ad : gKey → Nat} {C : gG} {g3 : Nat → Int64} {g4 : Nat → UInt64} (o : gq_Ok κ mL_law f) (sc : gq_Sc f b L xs) (hL : L ≤ 3072) (hj : 6 * j + 6 ≤ L) (hI : gI j C) (hk : k + 40 ≤ 630091) (hn9 : n + 700 ≤ 7125959) (K : ∀ (C' : gG) (ad' : gKey → Nat) (g3 : Nat → Int64) (g4 : Nat → UInt64), gI (j + 1) C' → gq_Y κ mL_law gQL gq_no f (gLP κ ad' C' o3 g3 o4 g4) (gLV ad' j o3 o4 b) 3021 [] (k + 40) (n + 700)) : gq_Y κ mL_law gQL gq_no f (gLP κ ad C o3 g3 o4 g4) (gLV ad j o3 o4 b) 559 [] k n := by
  obtain ⟨C0, hC0⟩ : ∃ C0, gup C (0, 0, 0) 5 0 = C0 := ⟨_, rfl⟩
  have hI0 : gI j C0 := by rw [← hC0]; exact hI.up (Nat.le_refl _) (by omega)
  have h50 : C0.1 (0, 0, 0) 5 = 0 := by rw [← hC0]; exact gup_v _ _ _ _
  show gq_Y κ mL_law gQL gq_no f (gR κ ad (C, C) [(o3, .inl (κ.2.1 1, 1, .inr (.inl g3))), (o4, .inl (κ.2.1 2, 1, .inr (.inr (.inr (.inl g4)))))]) [(5, .int (Int32.ofNat (6 * j))), (4, .ref o4), (3, .ref o3), (2, .ref (ad (20, 0, 0))), (1, .ref (ad (0, 0, 0))), (0, .ref b)] 559 [] k n
  refine y_aload_n (pc := 559) o dL_law_559 rfl ?_
  refine y_aload_n (pc := 560) o dL_law_560 rfl ?_
  refine y_iload (pc := 561) o dL_law_561 rfl ?_
  refine y_iconst (pc := 563) (x := 1) o dL_law_563 (by decide) ?_
  refine y_iadd (pc := 564) o dL_law_564 ?_
  refine y_sld (pc := 565) o sc (6 * j + 1) (Int32.ofNat_add _ _).symm (by omega) hL dL_law_565 ?_
  refine y_i2c (pc := 566) (v := gc16 (xs (6 * j + 1))) o dL_law_566 rfl ?_
  refine y_aload_n (pc := 567) o dL_law_567 rfl ?_
  refine y_iload (pc := 568) o dL_law_568 rfl ?_
  refine y_iconst (pc := 570) (x := 2) o dL_law_570 (by decide) ?_
  refine y_iadd (pc := 571) o dL_law_571 ?_
  refine y_sld (pc := 572) o sc (6 * j + 2) (Int32.ofNat_add _ _).symm (by omega) hL dL_law_572 ?_
  refine y_aload_n (pc := 573) o dL_law_573 rfl ?_
  refine y_iload (pc := 574) o dL_law_574 rfl ?_
  refine y_iconst (pc := 576) (x := 3) o dL_law_576 (by decide) ?_
  refine y_iadd (pc := 577) o dL_law_577 ?_
  refine y_sld (pc := 578) o sc (6 * j + 3) (Int32.ofNat_add _ _).symm (by omega) hL dL_law_578 ?_
  refine y_aload_n (pc := 579) o dL_law_579 rfl ?_
  refine y_iload (pc := 580) o dL_law_580 rfl ?_
  refine y_iconst (pc := 582) (x := 4) o dL_law_582 (by decide) ?_
  refine y_iadd (pc := 583) o dL_law_583 ?_
  refine y_sld (pc := 584) o sc (6 * j + 4) (Int32.ofNat_add _ _).symm (by omega) hL dL_law_584 ?_
  refine y_aload_n (pc := 585) o dL_law_585 rfl ?_
  have hok := i_lot hI0 (by omega) h50 (gc16 (xs (6 * j + 1))) (xs (6 * j + 2)) (xs (6 * j + 3)) (xs (6 * j + 4))
  have hw := w_lot (κ := κ) (ad := ad) (R := C) (T := [(o4, .inl (κ.2.1 2, 1, .inr (.inr (.inr (.inl g4)))))]) hI0 o3 g3 (gc16 (xs (6 * j + 1))) (xs (6 * j + 2)) (xs (6 * j + 3)) (xs (6 * j + 4))
  have hm9 := fun (ad1 : gKey → Nat) (T1 : List (Nat × va_E)) => r_lot (κ := κ) (ad := ad1) (C := (F_lot C0 (gc16 (xs (6 * j + 1))) (xs (6 * j + 2)) (xs (6 * j + 3)) (xs (6 * j + 4))).2.2) (T := T1) hC0 hI0 (by omega) (gc16 (xs (6 * j + 1))) (xs (6 * j + 2)) (xs (6 * j + 3)) (xs (6 * j + 4))
  generalize F_lot C0 (gc16 (xs (6 * j + 1))) (xs (6 * j + 2)) (xs (6 * j + 3)) (xs (6 * j + 4)) = r at hok hw hm9
  refine y_mono (P' := gR κ ad (C0, C) [(o3, .inl (κ.2.1 1, 1, .inr (.inl g3))), (o4, .inl (κ.2.1 2, 1, .inr (.inr (.inr (.inl g4)))))]) (fun h hr => by rw [← hC0]; exact hr.ghostC (0, 0, 0) 5 0 (fun _ _ _ => rfl) (fun _ _ => rfl)) ?_
  refine y_callSW (pc := 586) (k := k) (n := n) o (As := [.ref (ad (0, 0, 0)), .int (gc16 (xs (6 * j + 1))), .int (xs (6 * j + 2)), .int (xs (6 * j + 3)), .int (xs (6 * j + 4)), .ref (o3)]) (rest := []) hw ls_L_179 dL_law_586 rfl rfl (Nat.le_of_ble_eq_true rfl) ⟨by decide, by decide⟩ ⟨(show k + 3 ≤ 630091 by omega), (show n + 266 ≤ 7125959 by omega)⟩ (fun _ e => e) (fun v => y_and fun ev => y_ex fun g5 => y_ex fun ad1 => y_and fun hg => y_and fun h0 => y_and fun h20 => ?_)
  subst ev
  refine z_stk (st' := [.int r.1]) (k' := k + 3) (n' := n + 266) rfl ⟨rfl, rfl⟩ ?_
  rw [← h0, ← h20]
  refine y_istore (pc := 589) (i := 6) (lv' := [(6, .int (r.1)), (5, .int (Int32.ofNat (6 * j))), (4, .ref (o4)), (3, .ref (o3)), (2, .ref (ad1 (20, 0, 0))), (1, .ref (ad1 (0, 0, 0))), (0, .ref (b))]) o dL_law_589 (by decide) rfl ?_
  refine y_aload_n (pc := 591) o dL_law_591 rfl ?_
  refine y_aload_n (pc := 592) o dL_law_592 rfl ?_
  refine y_iload (pc := 593) o dL_law_593 rfl ?_
  refine y_iconst (pc := 595) (x := 1) o dL_law_595 (by decide) ?_
  refine y_iadd (pc := 596) o dL_law_596 ?_
  refine y_sld (pc := 597) o sc (6 * j + 1) (Int32.ofNat_add _ _).symm (by omega) hL dL_law_597 ?_
  refine y_i2c (pc := 598) (v := gc16 (xs (6 * j + 1))) o dL_law_598 rfl ?_
  refine y_aload_n (pc := 599) o dL_law_599 rfl ?_
  refine y_iload (pc := 600) o dL_law_600 rfl ?_
  refine y_iconst (pc := 602) (x := 2) o dL_law_602 (by decide) ?_
  refine y_iadd (pc := 603) o dL_law_603 ?_
  refine y_sld (pc := 604) o sc (6 * j + 2) (Int32.ofNat_add _ _).symm (by omega) hL dL_law_604 ?_
  refine y_aload_n (pc := 605) o dL_law_605 rfl ?_
  refine y_iload (pc := 606) o dL_law_606 rfl ?_
  refine y_iconst (pc := 608) (x := 3) o dL_law_608 (by decide) ?_
  refine y_iadd (pc := 609) o dL_law_609 ?_
  refine y_sld (pc := 610) o sc (6 * j + 3) (Int32.ofNat_add _ _).symm (by omega) hL dL_law_610 ?_
  refine y_aload_n (pc := 611) o dL_law_611 rfl ?_
  refine y_iload (pc := 612) o dL_law_612 rfl ?_
  refine y_iconst (pc := 614) (x := 4) o dL_law_614 (by decide) ?_
  refine y_iadd (pc := 615) o dL_law_615 ?_
  refine y_sld (pc := 616) o sc (6 * j + 4) (Int32.ofNat_add _ _).symm (by omega) hL dL_law_616 ?_
  refine y_callV (pc := 617) (k := k + 3) (n := n + 266) o (b := ad1 (20, 0, 0)) (As := [.int (gc16 (xs (6 * j + 1))), .int (xs (6 * j + 2)), .int (xs (6 * j + 3)), .int (xs (6 * j + 4))]) (rest := []) (hm9 _ _) ln_L_182 dL_law_617 (z_rc (ci := 20) (K := (20, 0, 0)) rfl (gl_20 hI.fix) rfl) rfl rfl (Nat.le_of_ble_eq_true rfl) ⟨by decide, by decide⟩ ⟨(show k + 3 + 2 ≤ 630091 by omega), (show n + 266 + 272 ≤ 7125959 by omega)⟩ (fun _ e => e) rfl gq_nox2 (fun v => y_and fun ⟨x, ev, hx⟩ => y_ex fun ad2 => y_and fun q0 => y_and fun q20 => ?_)
  subst ev
  refine z_stk (st' := [.int (x)]) (k' := k + 3 + 2) (n' := n + 266 + 272) rfl ⟨rfl, rfl⟩ ?_
  rw [← q0, ← q20]
  refine y_istore (pc := 620) (i := 7) (lv' := [(7, .int (x)), (6, .int (r.1)), (5, .int (Int32.ofNat (6 * j))), (4, .ref (o4)), (3, .ref (o3)), (2, .ref (ad2 (20, 0, 0))), (1, .ref (ad2 (0, 0, 0))), (0, .ref (b))]) o dL_law_620 (by decide) rfl ?_
  refine y_aload_n (pc := 622) o dL_law_622 rfl ?_
  refine z_callV (pc := 623) (k := k + 3 + 2) (n := n + 266 + 272) (k' := k + 3 + 2) (n' := n + 266 + 272) o (b := ad2 (20, 0, 0)) (As := []) (rest := []) (r_thrown (C := r.2.2) (R := r.2.2) hok.1.fix) ln_L_158 dL_law_623 (z_rc (ci := 20) (K := (20, 0, 0)) rfl (gl_20 hok.1.fix) rfl) rfl rfl (Nat.le_of_ble_eq_true rfl) ⟨by decide, by decide⟩ ⟨rfl, rfl⟩ ⟨(show k + 3 + 2 ≤ 630091 by omega), (show n + 266 + 272 ≤ 7125959 by omega)⟩ rfl gq_nox2 ?_
  rw [hok.2]
  refine y_iload (pc := 626) o dL_law_626 rfl ?_
  refine y_icmp_eq (pc := 628) (tgt := 633) o dL_law_628 rfl (fun (b1 : r.1 = r.1) => ?_) (fun b1 => absurd rfl b1)
  refine y_iload (pc := 633) o dL_law_633 rfl ?_
  refine y_if_ne (pc := 635) (tgt := 650) o dL_law_635 rfl (fun (b2 : ¬ r.1 = 0) => ?_) (fun (b2 : r.1 = 0) => ?_)
  · refine y_goto (pc := 650) (tgt := 3021) o dL_law_650 rfl ?_
    refine y_lv [2, 3, 4, 5, 6, 7] (lv' := [(5, .int (Int32.ofNat (6 * j))), (4, .ref (o4)), (3, .ref (o3)), (2, .ref (ad2 (20, 0, 0))), (1, .ref (ad2 (0, 0, 0))), (0, .ref (b))]) rfl ?_
    exact y_wide (by omega) (by omega) (K _ _ _ _ (hok.1))
  refine y_aload_n (pc := 638) o dL_law_638 rfl ?_
  refine y_iconst (pc := 639) (x := 0) o dL_law_639 (by decide) ?_
  refine z_laldT (pc := 640) (i := 0) (v := g5 0) o 0 dL_law_640 rfl (by unfold vp_in; decide) rfl ?_
  refine y_iload (pc := 641) o dL_law_641 rfl ?_
  refine y_i2l (pc := 643) o dL_law_643 ?_
  refine y_lcmp (pc := 644) o dL_law_644 ?_
  refine y_if_eq (pc := 645) (tgt := 650) o dL_law_645 rfl (fun (b3 : (lg_cmp (g5 0) x.toInt64) = 0) => ?_) (fun b3 => absurd (gl0 (by rw [hg b2, hx b2])) b3)
  refine y_goto (pc := 650) (tgt := 3021) o dL_law_650 rfl ?_
  refine y_lv [2, 3, 4, 5, 6, 7] (lv' := [(5, .int (Int32.ofNat (6 * j))), (4, .ref (o4)), (3, .ref (o3)), (2, .ref (ad2 (20, 0, 0))), (1, .ref (ad2 (0, 0, 0))), (0, .ref (b))]) rfl ?_
  exact y_wide (by omega) (by omega) (K _ _ _ _ (hok.1))

theorem lc_kilos {κ : gq_K} {f : gq_F} {b L j k n o3 o4 : Nat} {xs : Nat → Int32} {ad : gKey → Nat} {C : gG} {g3 : Nat → Int64} {g4 : Nat → UInt64} (o : gq_Ok κ mL_law f) (sc : gq_Sc f b L xs) (hL : L ≤ 3072) (hj : 6 * j + 6 ≤ L) (hI : gI j C) (hk : k + 40 ≤ 630091) (hn9 : n + 700 ≤ 7125959) (K : ∀ (C' : gG) (ad' : gKey → Nat) (g3 : Nat → Int64) (g4 : Nat → UInt64), gI (j + 1) C' → gq_Y κ mL_law gQL gq_no f (gLP κ ad' C' o3 g3 o4 g4) (gLV ad' j o3 o4 b) 3021 [] (k + 40) (n + 700)) : gq_Y κ mL_law gQL gq_no f (gLP κ ad C o3 g3 o4 g4) (gLV ad j o3 o4 b) 653 [] k n := by
  obtain ⟨C0, hC0⟩ : ∃ C0, gup C (0, 0, 0) 5 0 = C0 := ⟨_, rfl⟩
  have hI0 : gI j C0 := by rw [← hC0]; exact hI.up (Nat.le_refl _) (by omega)
  have h50 : C0.1 (0, 0, 0) 5 = 0 := by rw [← hC0]; exact gup_v _ _ _ _
  show gq_Y κ mL_law gQL gq_no f (gR κ ad (C, C) [(o3, .inl (κ.2.1 1, 1, .inr (.inl g3))), (o4, .inl (κ.2.1 2, 1, .inr (.inr (.inr (.inl g4)))))]) [(5, .int (Int32.ofNat (6 * j))), (4, .ref o4), (3, .ref o3), (2, .ref (ad (20, 0, 0))), (1, .ref (ad (0, 0, 0))), (0, .ref b)] 653 [] k n
  refine y_aload_n (pc := 653) o dL_law_653 rfl ?_
  refine y_aload_n (pc := 654) o dL_law_654 rfl ?_
  refine y_iload (pc := 655) o dL_law_655 rfl ?_
  refine y_iconst (pc := 657) (x := 1) o dL_law_657 (by decide) ?_
  refine y_iadd (pc := 658) o dL_law_658 ?_
  refine y_sld (pc := 659) o sc (6 * j + 1) (Int32.ofNat_add _ _).symm (by omega) hL dL_law_659 ?_
  refine y_aload_n (pc := 660) o dL_law_660 rfl ?_
  have hok := i_kilos hI0 (by omega) h50 (xs (6 * j + 1))
  have hw := w_kilos (κ := κ) (ad := ad) (R := C) (T := [(o4, .inl (κ.2.1 2, 1, .inr (.inr (.inr (.inl g4)))))]) hI0 o3 g3 (xs (6 * j + 1))
  have hm9 := fun (ad1 : gKey → Nat) (T1 : List (Nat × va_E)) => r_kilos (κ := κ) (ad := ad1) (C := (F_kilos C0 (xs (6 * j + 1))).2.2) (T := T1) hC0 hI0 (by omega) (xs (6 * j + 1))
  generalize F_kilos C0 (xs (6 * j + 1)) = r at hok hw hm9
  refine y_mono (P' := gR κ ad (C0, C) [(o3, .inl (κ.2.1 1, 1, .inr (.inl g3))), (o4, .inl (κ.2.1 2, 1, .inr (.inr (.inr (.inl g4)))))]) (fun h hr => by rw [← hC0]; exact hr.ghostC (0, 0, 0) 5 0 (fun _ _ _ => rfl) (fun _ _ => rfl)) ?_
  refine y_callSW (pc := 661) (k := k) (n := n) o (As := [.ref (ad (0, 0, 0)), .int (xs (6 * j + 1)), .ref (o3)]) (rest := []) hw ls_L_183 dL_law_661 rfl rfl (Nat.le_of_ble_eq_true rfl) ⟨by decide, by decide⟩ ⟨(show k + 1 ≤ 630091 by omega), (show n + 6 ≤ 7125959 by omega)⟩ (fun _ e => e) (fun v => y_and fun ev => y_ex fun g5 => y_ex fun ad1 => y_and fun hg => y_and fun h0 => y_and fun h20 => ?_)
  subst ev
  refine z_stk (st' := [.int r.1]) (k' := k + 1) (n' := n + 6) rfl ⟨rfl, rfl⟩ ?_
  rw [← h0, ← h20]
  refine y_istore (pc := 664) (i := 6) (lv' := [(6, .int (r.1)), (5, .int (Int32.ofNat (6 * j))), (4, .ref (o4)), (3, .ref (o3)), (2, .ref (ad1 (20, 0, 0))), (1, .ref (ad1 (0, 0, 0))), (0, .ref (b))]) o dL_law_664 (by decide) rfl ?_
  refine y_aload_n (pc := 666) o dL_law_666 rfl ?_
  refine y_aload_n (pc := 667) o dL_law_667 rfl ?_
  refine y_iload (pc := 668) o dL_law_668 rfl ?_
  refine y_iconst (pc := 670) (x := 1) o dL_law_670 (by decide) ?_
  refine y_iadd (pc := 671) o dL_law_671 ?_
  refine y_sld (pc := 672) o sc (6 * j + 1) (Int32.ofNat_add _ _).symm (by omega) hL dL_law_672 ?_
  refine y_callV (pc := 673) (k := k + 1) (n := n + 6) o (b := ad1 (20, 0, 0)) (As := [.int (xs (6 * j + 1))]) (rest := []) (hm9 _ _) ln_L_185 dL_law_673 (z_rc (ci := 20) (K := (20, 0, 0)) rfl (gl_20 hI.fix) rfl) rfl rfl (Nat.le_of_ble_eq_true rfl) ⟨by decide, by decide⟩ ⟨(show k + 1 ≤ 630091 by omega), (show n + 6 ≤ 7125959 by omega)⟩ (fun _ e => e) rfl gq_nox2 (fun v => y_and fun ⟨x, ev, hx⟩ => y_ex fun ad2 => y_and fun q0 => y_and fun q20 => ?_)
  subst ev
  refine z_stk (st' := [.int (x)]) (k' := k + 1) (n' := n + 6) rfl ⟨rfl, rfl⟩ ?_
  rw [← q0, ← q20]
  refine y_istore (pc := 676) (i := 7) (lv' := [(7, .int (x)), (6, .int (r.1)), (5, .int (Int32.ofNat (6 * j))), (4, .ref (o4)), (3, .ref (o3)), (2, .ref (ad2 (20, 0, 0))), (1, .ref (ad2 (0, 0, 0))), (0, .ref (b))]) o dL_law_676 (by decide) rfl ?_
  refine y_aload_n (pc := 678) o dL_law_678 rfl ?_
  refine z_callV (pc := 679) (k := k + 1) (n := n + 6) (k' := k + 1) (n' := n + 6) o (b := ad2 (20, 0, 0)) (As := []) (rest := []) (r_thrown (C := r.2.2) (R := r.2.2) hok.1.fix) ln_L_158 dL_law_679 (z_rc (ci := 20) (K := (20, 0, 0)) rfl (gl_20 hok.1.fix) rfl) rfl rfl (Nat.le_of_ble_eq_true rfl) ⟨by decide, by decide⟩ ⟨rfl, rfl⟩ ⟨(show k + 1 ≤ 630091 by omega), (show n + 6 ≤ 7125959 by omega)⟩ rfl gq_nox2 ?_
  rw [hok.2]
  refine y_iload (pc := 682) o dL_law_682 rfl ?_
  refine y_icmp_eq (pc := 684) (tgt := 689) o dL_law_684 rfl (fun (b1 : r.1 = r.1) => ?_) (fun b1 => absurd rfl b1)
  refine y_iload (pc := 689) o dL_law_689 rfl ?_
  refine y_if_ne (pc := 691) (tgt := 706) o dL_law_691 rfl (fun (b2 : ¬ r.1 = 0) => ?_) (fun (b2 : r.1 = 0) => ?_)
  · refine y_goto (pc := 706) (tgt := 3021) o dL_law_706 rfl ?_
    refine y_lv [2, 3, 4, 5, 6, 7] (lv' := [(5, .int (Int32.ofNat (6 * j))), (4, .ref (o4)), (3, .ref (o3)), (2, .ref (ad2 (20, 0, 0))), (1, .ref (ad2 (0, 0, 0))), (0, .ref (b))]) rfl ?_
    exact y_wide (by omega) (by omega) (K _ _ _ _ (hok.1))
  refine y_aload_n (pc := 694) o dL_law_694 rfl ?_
  refine y_iconst (pc := 695) (x := 0) o dL_law_695 (by decide) ?_
  refine z_laldT (pc := 696) (i := 0) (v := g5 0) o 0 dL_law_696 rfl (by unfold vp_in; decide) rfl ?_
  refine y_iload (pc := 697) o dL_law_697 rfl ?_
  refine y_i2l (pc := 699) o dL_law_699 ?_
  refine y_lcmp (pc := 700) o dL_law_700 ?_
  refine y_if_eq (pc := 701) (tgt := 706) o dL_law_701 rfl (fun (b3 : (lg_cmp (g5 0) x.toInt64) = 0) => ?_) (fun b3 => absurd (gl0 (by rw [hg b2, hx b2])) b3)
  refine y_goto (pc := 706) (tgt := 3021) o dL_law_706 rfl ?_
  refine y_lv [2, 3, 4, 5, 6, 7] (lv' := [(5, .int (Int32.ofNat (6 * j))), (4, .ref (o4)), (3, .ref (o3)), (2, .ref (ad2 (20, 0, 0))), (1, .ref (ad2 (0, 0, 0))), (0, .ref (b))]) rfl ?_
  exact y_wide (by omega) (by omega) (K _ _ _ _ (hok.1))

theorem lc_mix {κ : gq_K} {f : gq_F} {b L j k n o3 o4 : Nat} {xs : Nat → Int32} {ad : gKey → Nat} {C : gG} {g3 : Nat → Int64} {g4 : Nat → UInt64} (o : gq_Ok κ mL_law f) (sc : gq_Sc f b L xs) (hL : L ≤ 3072) (hj : 6 * j + 6 ≤ L) (hI : gI j C) (hk : k + 40 ≤ 630091) (hn9 : n + 700 ≤ 7125959) (K : ∀ (C' : gG) (ad' : gKey → Nat) (g3 : Nat → Int64) (g4 : Nat → UInt64), gI (j + 1) C' → gq_Y κ mL_law gQL gq_no f (gLP κ ad' C' o3 g3 o4 g4) (gLV ad' j o3 o4 b) 3021 [] (k + 40) (n + 700)) : gq_Y κ mL_law gQL gq_no f (gLP κ ad C o3 g3 o4 g4) (gLV ad j o3 o4 b) 709 [] k n := by
  obtain ⟨C0, hC0⟩ : ∃ C0, gup C (0, 0, 0) 5 0 = C0 := ⟨_, rfl⟩
  have hI0 : gI j C0 := by rw [← hC0]; exact hI.up (Nat.le_refl _) (by omega)
  have h50 : C0.1 (0, 0, 0) 5 = 0 := by rw [← hC0]; exact gup_v _ _ _ _
  show gq_Y κ mL_law gQL gq_no f (gR κ ad (C, C) [(o3, .inl (κ.2.1 1, 1, .inr (.inl g3))), (o4, .inl (κ.2.1 2, 1, .inr (.inr (.inr (.inl g4)))))]) [(5, .int (Int32.ofNat (6 * j))), (4, .ref o4), (3, .ref o3), (2, .ref (ad (20, 0, 0))), (1, .ref (ad (0, 0, 0))), (0, .ref b)] 709 [] k n
  refine y_aload_n (pc := 709) o dL_law_709 rfl ?_
  refine y_aload_n (pc := 710) o dL_law_710 rfl ?_
  refine y_iload (pc := 711) o dL_law_711 rfl ?_
  refine y_iconst (pc := 713) (x := 1) o dL_law_713 (by decide) ?_
  refine y_iadd (pc := 714) o dL_law_714 ?_
  refine y_sld (pc := 715) o sc (6 * j + 1) (Int32.ofNat_add _ _).symm (by omega) hL dL_law_715 ?_
  refine y_aload_n (pc := 716) o dL_law_716 rfl ?_
  refine y_iload (pc := 717) o dL_law_717 rfl ?_
  refine y_iconst (pc := 719) (x := 2) o dL_law_719 (by decide) ?_
  refine y_iadd (pc := 720) o dL_law_720 ?_
  refine y_sld (pc := 721) o sc (6 * j + 2) (Int32.ofNat_add _ _).symm (by omega) hL dL_law_721 ?_
  refine y_aload_n (pc := 722) o dL_law_722 rfl ?_
  refine y_iload (pc := 723) o dL_law_723 rfl ?_
  refine y_iconst (pc := 725) (x := 3) o dL_law_725 (by decide) ?_
  refine y_iadd (pc := 726) o dL_law_726 ?_
  refine y_sld (pc := 727) o sc (6 * j + 3) (Int32.ofNat_add _ _).symm (by omega) hL dL_law_727 ?_
  refine y_aload_n (pc := 728) o dL_law_728 rfl ?_
  refine y_iload (pc := 729) o dL_law_729 rfl ?_
  refine y_iconst (pc := 731) (x := 4) o dL_law_731 (by decide) ?_
  refine y_iadd (pc := 732) o dL_law_732 ?_
  refine y_sld (pc := 733) o sc (6 * j + 4) (Int32.ofNat_add _ _).symm (by omega) hL dL_law_733 ?_
  refine y_aload_n (pc := 734) o dL_law_734 rfl ?_
  refine y_iload (pc := 735) o dL_law_735 rfl ?_
  refine y_iconst (pc := 737) (x := 5) o dL_law_737 (by decide) ?_
  refine y_iadd (pc := 738) o dL_law_738 ?_
  refine y_sld (pc := 739) o sc (6 * j + 5) (Int32.ofNat_add _ _).symm (by omega) hL dL_law_739 ?_
  refine y_aload_n (pc := 740) o dL_law_740 rfl ?_
  have hok := i_mix hI0 (by omega) h50 (xs (6 * j + 1)) (xs (6 * j + 2)) (xs (6 * j + 3)) (xs (6 * j + 4)) (xs (6 * j + 5))
  have hw := w_mix (κ := κ) (ad := ad) (R := C) (T := [(o4, .inl (κ.2.1 2, 1, .inr (.inr (.inr (.inl g4)))))]) hI0 o3 g3 (xs (6 * j + 1)) (xs (6 * j + 2)) (xs (6 * j + 3)) (xs (6 * j + 4)) (xs (6 * j + 5))
  have hm9 := fun (ad1 : gKey → Nat) (T1 : List (Nat × va_E)) => r_mix (κ := κ) (ad := ad1) (C := (F_mix C0 (xs (6 * j + 1)) (xs (6 * j + 2)) (xs (6 * j + 3)) (xs (6 * j + 4)) (xs (6 * j + 5))).2.2) (T := T1) hC0 hI0 (by omega) (xs (6 * j + 1)) (xs (6 * j + 2)) (xs (6 * j + 3)) (xs (6 * j + 4)) (xs (6 * j + 5))
  generalize F_mix C0 (xs (6 * j + 1)) (xs (6 * j + 2)) (xs (6 * j + 3)) (xs (6 * j + 4)) (xs (6 * j + 5)) = r at hok hw hm9
  refine y_mono (P' := gR κ ad (C0, C) [(o3, .inl (κ.2.1 1, 1, .inr (.inl g3))), (o4, .inl (κ.2.1 2, 1, .inr (.inr (.inr (.inl g4)))))]) (fun h hr => by rw [← hC0]; exact hr.ghostC (0, 0, 0) 5 0 (fun _ _ _ => rfl) (fun _ _ => rfl)) ?_
  refine y_callSW (pc := 741) (k := k) (n := n) o (As := [.ref (ad (0, 0, 0)), .int (xs (6 * j + 1)), .int (xs (6 * j + 2)), .int (xs (6 * j + 3)), .int (xs (6 * j + 4)), .int (xs (6 * j + 5)), .ref (o3)]) (rest := []) hw ls_L_186 dL_law_741 rfl rfl (Nat.le_of_ble_eq_true rfl) ⟨by decide, by decide⟩ ⟨(show k + 5 ≤ 630091 by omega), (show n + 279 ≤ 7125959 by omega)⟩ (fun _ e => e) (fun v => y_and fun ev => y_ex fun g5 => y_ex fun ad1 => y_and fun hg => y_and fun h0 => y_and fun h20 => ?_)
  subst ev
  refine z_stk (st' := [.int r.1]) (k' := k + 5) (n' := n + 279) rfl ⟨rfl, rfl⟩ ?_
  rw [← h0, ← h20]
  refine y_istore (pc := 744) (i := 6) (lv' := [(6, .int (r.1)), (5, .int (Int32.ofNat (6 * j))), (4, .ref (o4)), (3, .ref (o3)), (2, .ref (ad1 (20, 0, 0))), (1, .ref (ad1 (0, 0, 0))), (0, .ref (b))]) o dL_law_744 (by decide) rfl ?_
  refine y_aload_n (pc := 746) o dL_law_746 rfl ?_
  refine y_aload_n (pc := 747) o dL_law_747 rfl ?_
  refine y_iload (pc := 748) o dL_law_748 rfl ?_
  refine y_iconst (pc := 750) (x := 1) o dL_law_750 (by decide) ?_
  refine y_iadd (pc := 751) o dL_law_751 ?_
  refine y_sld (pc := 752) o sc (6 * j + 1) (Int32.ofNat_add _ _).symm (by omega) hL dL_law_752 ?_
  refine y_aload_n (pc := 753) o dL_law_753 rfl ?_
  refine y_iload (pc := 754) o dL_law_754 rfl ?_
  refine y_iconst (pc := 756) (x := 2) o dL_law_756 (by decide) ?_
  refine y_iadd (pc := 757) o dL_law_757 ?_
  refine y_sld (pc := 758) o sc (6 * j + 2) (Int32.ofNat_add _ _).symm (by omega) hL dL_law_758 ?_
  refine y_aload_n (pc := 759) o dL_law_759 rfl ?_
  refine y_iload (pc := 760) o dL_law_760 rfl ?_
  refine y_iconst (pc := 762) (x := 3) o dL_law_762 (by decide) ?_
  refine y_iadd (pc := 763) o dL_law_763 ?_
  refine y_sld (pc := 764) o sc (6 * j + 3) (Int32.ofNat_add _ _).symm (by omega) hL dL_law_764 ?_
  refine y_aload_n (pc := 765) o dL_law_765 rfl ?_
  refine y_iload (pc := 766) o dL_law_766 rfl ?_
  refine y_iconst (pc := 768) (x := 4) o dL_law_768 (by decide) ?_
  refine y_iadd (pc := 769) o dL_law_769 ?_
  refine y_sld (pc := 770) o sc (6 * j + 4) (Int32.ofNat_add _ _).symm (by omega) hL dL_law_770 ?_
  refine y_aload_n (pc := 771) o dL_law_771 rfl ?_
  refine y_iload (pc := 772) o dL_law_772 rfl ?_
  refine y_iconst (pc := 774) (x := 5) o dL_law_774 (by decide) ?_
  refine y_iadd (pc := 775) o dL_law_775 ?_
  refine y_sld (pc := 776) o sc (6 * j + 5) (Int32.ofNat_add _ _).symm (by omega) hL dL_law_776 ?_
  refine y_callV (pc := 777) (k := k + 5) (n := n + 279) o (b := ad1 (20, 0, 0)) (As := [.int (xs (6 * j + 1)), .int (xs (6 * j + 2)), .int (xs (6 * j + 3)), .int (xs (6 * j + 4)), .int (xs (6 * j + 5))]) (rest := []) (hm9 _ _) ln_L_189 dL_law_777 (z_rc (ci := 20) (K := (20, 0, 0)) rfl (gl_20 hI.fix) rfl) rfl rfl (Nat.le_of_ble_eq_true rfl) ⟨by decide, by decide⟩ ⟨(show k + 5 + 2 ≤ 630091 by omega), (show n + 279 + 272 ≤ 7125959 by omega)⟩ (fun _ e => e) rfl gq_nox2 (fun v => y_and fun ⟨x, ev, hx⟩ => y_ex fun ad2 => y_and fun q0 => y_and fun q20 => ?_)
  subst ev
  refine z_stk (st' := [.int (x)]) (k' := k + 5 + 2) (n' := n + 279 + 272) rfl ⟨rfl, rfl⟩ ?_
  rw [← q0, ← q20]
  refine y_istore (pc := 780) (i := 7) (lv' := [(7, .int (x)), (6, .int (r.1)), (5, .int (Int32.ofNat (6 * j))), (4, .ref (o4)), (3, .ref (o3)), (2, .ref (ad2 (20, 0, 0))), (1, .ref (ad2 (0, 0, 0))), (0, .ref (b))]) o dL_law_780 (by decide) rfl ?_
  refine y_aload_n (pc := 782) o dL_law_782 rfl ?_
  refine z_callV (pc := 783) (k := k + 5 + 2) (n := n + 279 + 272) (k' := k + 5 + 2) (n' := n + 279 + 272) o (b := ad2 (20, 0, 0)) (As := []) (rest := []) (r_thrown (C := r.2.2) (R := r.2.2) hok.1.fix) ln_L_158 dL_law_783 (z_rc (ci := 20) (K := (20, 0, 0)) rfl (gl_20 hok.1.fix) rfl) rfl rfl (Nat.le_of_ble_eq_true rfl) ⟨by decide, by decide⟩ ⟨rfl, rfl⟩ ⟨(show k + 5 + 2 ≤ 630091 by omega), (show n + 279 + 272 ≤ 7125959 by omega)⟩ rfl gq_nox2 ?_
  rw [hok.2]
  refine y_iload (pc := 786) o dL_law_786 rfl ?_
  refine y_icmp_eq (pc := 788) (tgt := 793) o dL_law_788 rfl (fun (b1 : r.1 = r.1) => ?_) (fun b1 => absurd rfl b1)
  refine y_iload (pc := 793) o dL_law_793 rfl ?_
  refine y_if_ne (pc := 795) (tgt := 810) o dL_law_795 rfl (fun (b2 : ¬ r.1 = 0) => ?_) (fun (b2 : r.1 = 0) => ?_)
  · refine y_goto (pc := 810) (tgt := 3021) o dL_law_810 rfl ?_
    refine y_lv [2, 3, 4, 5, 6, 7] (lv' := [(5, .int (Int32.ofNat (6 * j))), (4, .ref (o4)), (3, .ref (o3)), (2, .ref (ad2 (20, 0, 0))), (1, .ref (ad2 (0, 0, 0))), (0, .ref (b))]) rfl ?_
    exact y_wide (by omega) (by omega) (K _ _ _ _ (hok.1))
  refine y_aload_n (pc := 798) o dL_law_798 rfl ?_
  refine y_iconst (pc := 799) (x := 0) o dL_law_799 (by decide) ?_
  refine z_laldT (pc := 800) (i := 0) (v := g5 0) o 0 dL_law_800 rfl (by unfold vp_in; decide) rfl ?_
  refine y_iload (pc := 801) o dL_law_801 rfl ?_
  refine y_i2l (pc := 803) o dL_law_803 ?_
  refine y_lcmp (pc := 804) o dL_law_804 ?_
  refine y_if_eq (pc := 805) (tgt := 810) o dL_law_805 rfl (fun (b3 : (lg_cmp (g5 0) x.toInt64) = 0) => ?_) (fun b3 => absurd (gl0 (by rw [hg b2, hx b2])) b3)
  refine y_goto (pc := 810) (tgt := 3021) o dL_law_810 rfl ?_
  refine y_lv [2, 3, 4, 5, 6, 7] (lv' := [(5, .int (Int32.ofNat (6 * j))), (4, .ref (o4)), (3, .ref (o3)), (2, .ref (ad2 (20, 0, 0))), (1, .ref (ad2 (0, 0, 0))), (0, .ref (b))]) rfl ?_
  exact y_wide (by omega) (by omega) (K _ _ _ _ (hok.1))

theorem lc_mixture {κ : gq_K} {f : gq_F} {b L j k n o3 o4 : Nat} {xs : Nat → Int32} {ad : gKey → Nat} {C : gG} {g3 : Nat → Int64} {g4 : Nat → UInt64} (o : gq_Ok κ mL_law f) (sc : gq_Sc f b L xs) (hL : L ≤ 3072) (hj : 6 * j + 6 ≤ L) (hI : gI j C) (hk : k + 40 ≤ 630091) (hn9 : n + 700 ≤ 7125959) (K : ∀ (C' : gG) (ad' : gKey → Nat) (g3 : Nat → Int64) (g4 : Nat → UInt64), gI (j + 1) C' → gq_Y κ mL_law gQL gq_no f (gLP κ ad' C' o3 g3 o4 g4) (gLV ad' j o3 o4 b) 3021 [] (k + 40) (n + 700)) : gq_Y κ mL_law gQL gq_no f (gLP κ ad C o3 g3 o4 g4) (gLV ad j o3 o4 b) 813 [] k n := by
  obtain ⟨C0, hC0⟩ : ∃ C0, gup C (0, 0, 0) 5 0 = C0 := ⟨_, rfl⟩
  have hI0 : gI j C0 := by rw [← hC0]; exact hI.up (Nat.le_refl _) (by omega)
  have h50 : C0.1 (0, 0, 0) 5 = 0 := by rw [← hC0]; exact gup_v _ _ _ _
  show gq_Y κ mL_law gQL gq_no f (gR κ ad (C, C) [(o3, .inl (κ.2.1 1, 1, .inr (.inl g3))), (o4, .inl (κ.2.1 2, 1, .inr (.inr (.inr (.inl g4)))))]) [(5, .int (Int32.ofNat (6 * j))), (4, .ref o4), (3, .ref o3), (2, .ref (ad (20, 0, 0))), (1, .ref (ad (0, 0, 0))), (0, .ref b)] 813 [] k n
  refine y_aload_n (pc := 813) o dL_law_813 rfl ?_
  refine y_aload_n (pc := 814) o dL_law_814 rfl ?_
  refine y_iload (pc := 815) o dL_law_815 rfl ?_
  refine y_iconst (pc := 817) (x := 1) o dL_law_817 (by decide) ?_
  refine y_iadd (pc := 818) o dL_law_818 ?_
  refine y_sld (pc := 819) o sc (6 * j + 1) (Int32.ofNat_add _ _).symm (by omega) hL dL_law_819 ?_
  refine y_aload_n (pc := 820) o dL_law_820 rfl ?_
  refine y_iload (pc := 821) o dL_law_821 rfl ?_
  refine y_iconst (pc := 823) (x := 2) o dL_law_823 (by decide) ?_
  refine y_iadd (pc := 824) o dL_law_824 ?_
  refine y_sld (pc := 825) o sc (6 * j + 2) (Int32.ofNat_add _ _).symm (by omega) hL dL_law_825 ?_
  refine y_i2c (pc := 826) (v := gc16 (xs (6 * j + 2))) o dL_law_826 rfl ?_
  refine y_aload_n (pc := 827) o dL_law_827 rfl ?_
  have hok := i_mixture hI0 (by omega) h50 (xs (6 * j + 1)) (gc16 (xs (6 * j + 2)))
  have hw := w_mixture (κ := κ) (ad := ad) (R := C) (T := [(o4, .inl (κ.2.1 2, 1, .inr (.inr (.inr (.inl g4)))))]) hI0 o3 g3 (xs (6 * j + 1)) (gc16 (xs (6 * j + 2)))
  have hm9 := fun (ad1 : gKey → Nat) (T1 : List (Nat × va_E)) => r_mixture (κ := κ) (ad := ad1) (C := (F_mixture C0 (xs (6 * j + 1)) (gc16 (xs (6 * j + 2)))).2.2) (T := T1) hC0 hI0 (by omega) (xs (6 * j + 1)) (gc16 (xs (6 * j + 2)))
  generalize F_mixture C0 (xs (6 * j + 1)) (gc16 (xs (6 * j + 2))) = r at hok hw hm9
  refine y_mono (P' := gR κ ad (C0, C) [(o3, .inl (κ.2.1 1, 1, .inr (.inl g3))), (o4, .inl (κ.2.1 2, 1, .inr (.inr (.inr (.inl g4)))))]) (fun h hr => by rw [← hC0]; exact hr.ghostC (0, 0, 0) 5 0 (fun _ _ _ => rfl) (fun _ _ => rfl)) ?_
  refine y_callSW (pc := 828) (k := k) (n := n) o (As := [.ref (ad (0, 0, 0)), .int (xs (6 * j + 1)), .int (gc16 (xs (6 * j + 2))), .ref (o3)]) (rest := []) hw ls_L_190 dL_law_828 rfl rfl (Nat.le_of_ble_eq_true rfl) ⟨by decide, by decide⟩ ⟨(show k + 2 ≤ 630091 by omega), (show n + 12 ≤ 7125959 by omega)⟩ (fun _ e => e) (fun v => y_and fun ev => y_ex fun g5 => y_ex fun ad1 => y_and fun hg => y_and fun h0 => y_and fun h20 => ?_)
  subst ev
  refine z_stk (st' := [.int r.1]) (k' := k + 2) (n' := n + 12) rfl ⟨rfl, rfl⟩ ?_
  rw [← h0, ← h20]
  refine y_istore (pc := 831) (i := 6) (lv' := [(6, .int (r.1)), (5, .int (Int32.ofNat (6 * j))), (4, .ref (o4)), (3, .ref (o3)), (2, .ref (ad1 (20, 0, 0))), (1, .ref (ad1 (0, 0, 0))), (0, .ref (b))]) o dL_law_831 (by decide) rfl ?_
  refine y_aload_n (pc := 833) o dL_law_833 rfl ?_
  refine y_aload_n (pc := 834) o dL_law_834 rfl ?_
  refine y_iload (pc := 835) o dL_law_835 rfl ?_
  refine y_iconst (pc := 837) (x := 1) o dL_law_837 (by decide) ?_
  refine y_iadd (pc := 838) o dL_law_838 ?_
  refine y_sld (pc := 839) o sc (6 * j + 1) (Int32.ofNat_add _ _).symm (by omega) hL dL_law_839 ?_
  refine y_aload_n (pc := 840) o dL_law_840 rfl ?_
  refine y_iload (pc := 841) o dL_law_841 rfl ?_
  refine y_iconst (pc := 843) (x := 2) o dL_law_843 (by decide) ?_
  refine y_iadd (pc := 844) o dL_law_844 ?_
  refine y_sld (pc := 845) o sc (6 * j + 2) (Int32.ofNat_add _ _).symm (by omega) hL dL_law_845 ?_
  refine y_i2c (pc := 846) (v := gc16 (xs (6 * j + 2))) o dL_law_846 rfl ?_
  refine y_callV (pc := 847) (k := k + 2) (n := n + 12) o (b := ad1 (20, 0, 0)) (As := [.int (xs (6 * j + 1)), .int (gc16 (xs (6 * j + 2)))]) (rest := []) (hm9 _ _) ln_L_193 dL_law_847 (z_rc (ci := 20) (K := (20, 0, 0)) rfl (gl_20 hI.fix) rfl) rfl rfl (Nat.le_of_ble_eq_true rfl) ⟨by decide, by decide⟩ ⟨(show k + 2 ≤ 630091 by omega), (show n + 12 ≤ 7125959 by omega)⟩ (fun _ e => e) rfl gq_nox2 (fun v => y_and fun ⟨x, ev, hx⟩ => y_ex fun ad2 => y_and fun q0 => y_and fun q20 => ?_)
  subst ev
  refine z_stk (st' := [.int (x)]) (k' := k + 2) (n' := n + 12) rfl ⟨rfl, rfl⟩ ?_
  rw [← q0, ← q20]
  refine y_istore (pc := 850) (i := 7) (lv' := [(7, .int (x)), (6, .int (r.1)), (5, .int (Int32.ofNat (6 * j))), (4, .ref (o4)), (3, .ref (o3)), (2, .ref (ad2 (20, 0, 0))), (1, .ref (ad2 (0, 0, 0))), (0, .ref (b))]) o dL_law_850 (by decide) rfl ?_
  refine y_aload_n (pc := 852) o dL_law_852 rfl ?_
  refine z_callV (pc := 853) (k := k + 2) (n := n + 12) (k' := k + 2) (n' := n + 12) o (b := ad2 (20, 0, 0)) (As := []) (rest := []) (r_thrown (C := r.2.2) (R := r.2.2) hok.1.fix) ln_L_158 dL_law_853 (z_rc (ci := 20) (K := (20, 0, 0)) rfl (gl_20 hok.1.fix) rfl) rfl rfl (Nat.le_of_ble_eq_true rfl) ⟨by decide, by decide⟩ ⟨rfl, rfl⟩ ⟨(show k + 2 ≤ 630091 by omega), (show n + 12 ≤ 7125959 by omega)⟩ rfl gq_nox2 ?_
  rw [hok.2]
  refine y_iload (pc := 856) o dL_law_856 rfl ?_
  refine y_icmp_eq (pc := 858) (tgt := 863) o dL_law_858 rfl (fun (b1 : r.1 = r.1) => ?_) (fun b1 => absurd rfl b1)
  refine y_iload (pc := 863) o dL_law_863 rfl ?_
  refine y_if_ne (pc := 865) (tgt := 880) o dL_law_865 rfl (fun (b2 : ¬ r.1 = 0) => ?_) (fun (b2 : r.1 = 0) => ?_)
  · refine y_goto (pc := 880) (tgt := 3021) o dL_law_880 rfl ?_
    refine y_lv [2, 3, 4, 5, 6, 7] (lv' := [(5, .int (Int32.ofNat (6 * j))), (4, .ref (o4)), (3, .ref (o3)), (2, .ref (ad2 (20, 0, 0))), (1, .ref (ad2 (0, 0, 0))), (0, .ref (b))]) rfl ?_
    exact y_wide (by omega) (by omega) (K _ _ _ _ (hok.1))
  refine y_aload_n (pc := 868) o dL_law_868 rfl ?_
  refine y_iconst (pc := 869) (x := 0) o dL_law_869 (by decide) ?_
  refine z_laldT (pc := 870) (i := 0) (v := g5 0) o 0 dL_law_870 rfl (by unfold vp_in; decide) rfl ?_
  refine y_iload (pc := 871) o dL_law_871 rfl ?_
  refine y_i2l (pc := 873) o dL_law_873 ?_
  refine y_lcmp (pc := 874) o dL_law_874 ?_
  refine y_if_eq (pc := 875) (tgt := 880) o dL_law_875 rfl (fun (b3 : (lg_cmp (g5 0) x.toInt64) = 0) => ?_) (fun b3 => absurd (gl0 (by rw [hg b2, hx b2])) b3)
  refine y_goto (pc := 880) (tgt := 3021) o dL_law_880 rfl ?_
  refine y_lv [2, 3, 4, 5, 6, 7] (lv' := [(5, .int (Int32.ofNat (6 * j))), (4, .ref (o4)), (3, .ref (o3)), (2, .ref (ad2 (20, 0, 0))), (1, .ref (ad2 (0, 0, 0))), (0, .ref (b))]) rfl ?_
  exact y_wide (by omega) (by omega) (K _ _ _ _ (hok.1))

theorem lc_press {κ : gq_K} {f : gq_F} {b L j k n o3 o4 : Nat} {xs : Nat → Int32} {ad : gKey → Nat} {C : gG} {g3 : Nat → Int64} {g4 : Nat → UInt64} (o : gq_Ok κ mL_law f) (sc : gq_Sc f b L xs) (hL : L ≤ 3072) (hj : 6 * j + 6 ≤ L) (hI : gI j C) (hk : k + 40 ≤ 630091) (hn9 : n + 700 ≤ 7125959) (K : ∀ (C' : gG) (ad' : gKey → Nat) (g3 : Nat → Int64) (g4 : Nat → UInt64), gI (j + 1) C' → gq_Y κ mL_law gQL gq_no f (gLP κ ad' C' o3 g3 o4 g4) (gLV ad' j o3 o4 b) 3021 [] (k + 40) (n + 700)) : gq_Y κ mL_law gQL gq_no f (gLP κ ad C o3 g3 o4 g4) (gLV ad j o3 o4 b) 883 [] k n := by
  obtain ⟨C0, hC0⟩ : ∃ C0, gup C (0, 0, 0) 5 0 = C0 := ⟨_, rfl⟩
  have hI0 : gI j C0 := by rw [← hC0]; exact hI.up (Nat.le_refl _) (by omega)
  have h50 : C0.1 (0, 0, 0) 5 = 0 := by rw [← hC0]; exact gup_v _ _ _ _
  show gq_Y κ mL_law gQL gq_no f (gR κ ad (C, C) [(o3, .inl (κ.2.1 1, 1, .inr (.inl g3))), (o4, .inl (κ.2.1 2, 1, .inr (.inr (.inr (.inl g4)))))]) [(5, .int (Int32.ofNat (6 * j))), (4, .ref o4), (3, .ref o3), (2, .ref (ad (20, 0, 0))), (1, .ref (ad (0, 0, 0))), (0, .ref b)] 883 [] k n
  refine y_aload_n (pc := 883) o dL_law_883 rfl ?_
  refine y_aload_n (pc := 884) o dL_law_884 rfl ?_
  refine y_iload (pc := 885) o dL_law_885 rfl ?_
  refine y_iconst (pc := 887) (x := 1) o dL_law_887 (by decide) ?_
  refine y_iadd (pc := 888) o dL_law_888 ?_
  refine y_sld (pc := 889) o sc (6 * j + 1) (Int32.ofNat_add _ _).symm (by omega) hL dL_law_889 ?_
  refine y_aload_n (pc := 890) o dL_law_890 rfl ?_
  refine y_iload (pc := 891) o dL_law_891 rfl ?_
  refine y_iconst (pc := 893) (x := 2) o dL_law_893 (by decide) ?_
  refine y_iadd (pc := 894) o dL_law_894 ?_
  refine y_sld (pc := 895) o sc (6 * j + 2) (Int32.ofNat_add _ _).symm (by omega) hL dL_law_895 ?_
  refine y_aload_n (pc := 896) o dL_law_896 rfl ?_
  refine y_iload (pc := 897) o dL_law_897 rfl ?_
  refine y_iconst (pc := 899) (x := 3) o dL_law_899 (by decide) ?_
  refine y_iadd (pc := 900) o dL_law_900 ?_
  refine y_sld (pc := 901) o sc (6 * j + 3) (Int32.ofNat_add _ _).symm (by omega) hL dL_law_901 ?_
  refine y_aload_n (pc := 902) o dL_law_902 rfl ?_
  have hok := i_press hI0 (by omega) h50 (xs (6 * j + 1)) (xs (6 * j + 2)) (xs (6 * j + 3))
  have hw := w_press (κ := κ) (ad := ad) (R := C) (T := [(o4, .inl (κ.2.1 2, 1, .inr (.inr (.inr (.inl g4)))))]) hI0 o3 g3 (xs (6 * j + 1)) (xs (6 * j + 2)) (xs (6 * j + 3))
  have hm9 := fun (ad1 : gKey → Nat) (T1 : List (Nat × va_E)) => r_press (κ := κ) (ad := ad1) (C := (F_press C0 (xs (6 * j + 1)) (xs (6 * j + 2)) (xs (6 * j + 3))).2.2) (T := T1) hC0 hI0 (by omega) (xs (6 * j + 1)) (xs (6 * j + 2)) (xs (6 * j + 3))
  generalize F_press C0 (xs (6 * j + 1)) (xs (6 * j + 2)) (xs (6 * j + 3)) = r at hok hw hm9
  refine y_mono (P' := gR κ ad (C0, C) [(o3, .inl (κ.2.1 1, 1, .inr (.inl g3))), (o4, .inl (κ.2.1 2, 1, .inr (.inr (.inr (.inl g4)))))]) (fun h hr => by rw [← hC0]; exact hr.ghostC (0, 0, 0) 5 0 (fun _ _ _ => rfl) (fun _ _ => rfl)) ?_
  refine y_callSW (pc := 903) (k := k) (n := n) o (As := [.ref (ad (0, 0, 0)), .int (xs (6 * j + 1)), .int (xs (6 * j + 2)), .int (xs (6 * j + 3)), .ref (o3)]) (rest := []) hw ls_L_194 dL_law_903 rfl rfl (Nat.le_of_ble_eq_true rfl) ⟨by decide, by decide⟩ ⟨(show k + 4 ≤ 630091 by omega), (show n + 280 ≤ 7125959 by omega)⟩ (fun _ e => e) (fun v => y_and fun ev => y_ex fun g5 => y_ex fun ad1 => y_and fun hg => y_and fun h0 => y_and fun h20 => ?_)
  subst ev
  refine z_stk (st' := [.int r.1]) (k' := k + 4) (n' := n + 280) rfl ⟨rfl, rfl⟩ ?_
  rw [← h0, ← h20]
  refine y_istore (pc := 906) (i := 6) (lv' := [(6, .int (r.1)), (5, .int (Int32.ofNat (6 * j))), (4, .ref (o4)), (3, .ref (o3)), (2, .ref (ad1 (20, 0, 0))), (1, .ref (ad1 (0, 0, 0))), (0, .ref (b))]) o dL_law_906 (by decide) rfl ?_
  refine y_aload_n (pc := 908) o dL_law_908 rfl ?_
  refine y_aload_n (pc := 909) o dL_law_909 rfl ?_
  refine y_iload (pc := 910) o dL_law_910 rfl ?_
  refine y_iconst (pc := 912) (x := 1) o dL_law_912 (by decide) ?_
  refine y_iadd (pc := 913) o dL_law_913 ?_
  refine y_sld (pc := 914) o sc (6 * j + 1) (Int32.ofNat_add _ _).symm (by omega) hL dL_law_914 ?_
  refine y_aload_n (pc := 915) o dL_law_915 rfl ?_
  refine y_iload (pc := 916) o dL_law_916 rfl ?_
  refine y_iconst (pc := 918) (x := 2) o dL_law_918 (by decide) ?_
  refine y_iadd (pc := 919) o dL_law_919 ?_
  refine y_sld (pc := 920) o sc (6 * j + 2) (Int32.ofNat_add _ _).symm (by omega) hL dL_law_920 ?_
  refine y_aload_n (pc := 921) o dL_law_921 rfl ?_
  refine y_iload (pc := 922) o dL_law_922 rfl ?_
  refine y_iconst (pc := 924) (x := 3) o dL_law_924 (by decide) ?_
  refine y_iadd (pc := 925) o dL_law_925 ?_
  refine y_sld (pc := 926) o sc (6 * j + 3) (Int32.ofNat_add _ _).symm (by omega) hL dL_law_926 ?_
  refine y_callV (pc := 927) (k := k + 4) (n := n + 280) o (b := ad1 (20, 0, 0)) (As := [.int (xs (6 * j + 1)), .int (xs (6 * j + 2)), .int (xs (6 * j + 3))]) (rest := []) (hm9 _ _) ln_L_197 dL_law_927 (z_rc (ci := 20) (K := (20, 0, 0)) rfl (gl_20 hI.fix) rfl) rfl rfl (Nat.le_of_ble_eq_true rfl) ⟨by decide, by decide⟩ ⟨(show k + 4 + 2 ≤ 630091 by omega), (show n + 280 + 267 ≤ 7125959 by omega)⟩ (fun _ e => e) rfl gq_nox2 (fun v => y_and fun ⟨x, ev, hx⟩ => y_ex fun ad2 => y_and fun q0 => y_and fun q20 => ?_)
  subst ev
  refine z_stk (st' := [.int (x)]) (k' := k + 4 + 2) (n' := n + 280 + 267) rfl ⟨rfl, rfl⟩ ?_
  rw [← q0, ← q20]
  refine y_istore (pc := 930) (i := 7) (lv' := [(7, .int (x)), (6, .int (r.1)), (5, .int (Int32.ofNat (6 * j))), (4, .ref (o4)), (3, .ref (o3)), (2, .ref (ad2 (20, 0, 0))), (1, .ref (ad2 (0, 0, 0))), (0, .ref (b))]) o dL_law_930 (by decide) rfl ?_
  refine y_aload_n (pc := 932) o dL_law_932 rfl ?_
  refine z_callV (pc := 933) (k := k + 4 + 2) (n := n + 280 + 267) (k' := k + 4 + 2) (n' := n + 280 + 267) o (b := ad2 (20, 0, 0)) (As := []) (rest := []) (r_thrown (C := r.2.2) (R := r.2.2) hok.1.fix) ln_L_158 dL_law_933 (z_rc (ci := 20) (K := (20, 0, 0)) rfl (gl_20 hok.1.fix) rfl) rfl rfl (Nat.le_of_ble_eq_true rfl) ⟨by decide, by decide⟩ ⟨rfl, rfl⟩ ⟨(show k + 4 + 2 ≤ 630091 by omega), (show n + 280 + 267 ≤ 7125959 by omega)⟩ rfl gq_nox2 ?_
  rw [hok.2]
  refine y_iload (pc := 936) o dL_law_936 rfl ?_
  refine y_icmp_eq (pc := 938) (tgt := 943) o dL_law_938 rfl (fun (b1 : r.1 = r.1) => ?_) (fun b1 => absurd rfl b1)
  refine y_iload (pc := 943) o dL_law_943 rfl ?_
  refine y_if_ne (pc := 945) (tgt := 960) o dL_law_945 rfl (fun (b2 : ¬ r.1 = 0) => ?_) (fun (b2 : r.1 = 0) => ?_)
  · refine y_goto (pc := 960) (tgt := 3021) o dL_law_960 rfl ?_
    refine y_lv [2, 3, 4, 5, 6, 7] (lv' := [(5, .int (Int32.ofNat (6 * j))), (4, .ref (o4)), (3, .ref (o3)), (2, .ref (ad2 (20, 0, 0))), (1, .ref (ad2 (0, 0, 0))), (0, .ref (b))]) rfl ?_
    exact y_wide (by omega) (by omega) (K _ _ _ _ (hok.1))
  refine y_aload_n (pc := 948) o dL_law_948 rfl ?_
  refine y_iconst (pc := 949) (x := 0) o dL_law_949 (by decide) ?_
  refine z_laldT (pc := 950) (i := 0) (v := g5 0) o 0 dL_law_950 rfl (by unfold vp_in; decide) rfl ?_
  refine y_iload (pc := 951) o dL_law_951 rfl ?_
  refine y_i2l (pc := 953) o dL_law_953 ?_
  refine y_lcmp (pc := 954) o dL_law_954 ?_
  refine y_if_eq (pc := 955) (tgt := 960) o dL_law_955 rfl (fun (b3 : (lg_cmp (g5 0) x.toInt64) = 0) => ?_) (fun b3 => absurd (gl0 (by rw [hg b2, hx b2])) b3)
  refine y_goto (pc := 960) (tgt := 3021) o dL_law_960 rfl ?_
  refine y_lv [2, 3, 4, 5, 6, 7] (lv' := [(5, .int (Int32.ofNat (6 * j))), (4, .ref (o4)), (3, .ref (o3)), (2, .ref (ad2 (20, 0, 0))), (1, .ref (ad2 (0, 0, 0))), (0, .ref (b))]) rfl ?_
  exact y_wide (by omega) (by omega) (K _ _ _ _ (hok.1))

theorem lc_worn {κ : gq_K} {f : gq_F} {b L j k n o3 o4 : Nat} {xs : Nat → Int32} {ad : gKey → Nat} {C : gG} {g3 : Nat → Int64} {g4 : Nat → UInt64} (o : gq_Ok κ mL_law f) (sc : gq_Sc f b L xs) (hL : L ≤ 3072) (hj : 6 * j + 6 ≤ L) (hI : gI j C) (hk : k + 40 ≤ 630091) (hn9 : n + 700 ≤ 7125959) (K : ∀ (C' : gG) (ad' : gKey → Nat) (g3 : Nat → Int64) (g4 : Nat → UInt64), gI (j + 1) C' → gq_Y κ mL_law gQL gq_no f (gLP κ ad' C' o3 g3 o4 g4) (gLV ad' j o3 o4 b) 3021 [] (k + 40) (n + 700)) : gq_Y κ mL_law gQL gq_no f (gLP κ ad C o3 g3 o4 g4) (gLV ad j o3 o4 b) 963 [] k n := by
  obtain ⟨C0, hC0⟩ : ∃ C0, gup C (0, 0, 0) 5 0 = C0 := ⟨_, rfl⟩
  have hI0 : gI j C0 := by rw [← hC0]; exact hI.up (Nat.le_refl _) (by omega)
  have h50 : C0.1 (0, 0, 0) 5 = 0 := by rw [← hC0]; exact gup_v _ _ _ _
  show gq_Y κ mL_law gQL gq_no f (gR κ ad (C, C) [(o3, .inl (κ.2.1 1, 1, .inr (.inl g3))), (o4, .inl (κ.2.1 2, 1, .inr (.inr (.inr (.inl g4)))))]) [(5, .int (Int32.ofNat (6 * j))), (4, .ref o4), (3, .ref o3), (2, .ref (ad (20, 0, 0))), (1, .ref (ad (0, 0, 0))), (0, .ref b)] 963 [] k n
  refine y_aload_n (pc := 963) o dL_law_963 rfl ?_
  refine y_aload_n (pc := 964) o dL_law_964 rfl ?_
  refine y_iload (pc := 965) o dL_law_965 rfl ?_
  refine y_iconst (pc := 967) (x := 1) o dL_law_967 (by decide) ?_
  refine y_iadd (pc := 968) o dL_law_968 ?_
  refine y_sld (pc := 969) o sc (6 * j + 1) (Int32.ofNat_add _ _).symm (by omega) hL dL_law_969 ?_
  refine y_aload_n (pc := 970) o dL_law_970 rfl ?_
  have hok := i_worn hI0 (by omega) h50 (xs (6 * j + 1))
  have hw := w_worn (κ := κ) (ad := ad) (R := C) (T := [(o4, .inl (κ.2.1 2, 1, .inr (.inr (.inr (.inl g4)))))]) hI0 o3 g3 (xs (6 * j + 1))
  have hm9 := fun (ad1 : gKey → Nat) (T1 : List (Nat × va_E)) => r_worn (κ := κ) (ad := ad1) (C := (F_worn C0 (xs (6 * j + 1))).2.2) (T := T1) hC0 hI0 (by omega) (xs (6 * j + 1))
  generalize F_worn C0 (xs (6 * j + 1)) = r at hok hw hm9
  refine y_mono (P' := gR κ ad (C0, C) [(o3, .inl (κ.2.1 1, 1, .inr (.inl g3))), (o4, .inl (κ.2.1 2, 1, .inr (.inr (.inr (.inl g4)))))]) (fun h hr => by rw [← hC0]; exact hr.ghostC (0, 0, 0) 5 0 (fun _ _ _ => rfl) (fun _ _ => rfl)) ?_
  refine y_callSW (pc := 971) (k := k) (n := n) o (As := [.ref (ad (0, 0, 0)), .int (xs (6 * j + 1)), .ref (o3)]) (rest := []) hw ls_L_198 dL_law_971 rfl rfl (Nat.le_of_ble_eq_true rfl) ⟨by decide, by decide⟩ ⟨(show k + 1 ≤ 630091 by omega), (show n + 6 ≤ 7125959 by omega)⟩ (fun _ e => e) (fun v => y_and fun ev => y_ex fun g5 => y_ex fun ad1 => y_and fun hg => y_and fun h0 => y_and fun h20 => ?_)
  subst ev
  refine z_stk (st' := [.int r.1]) (k' := k + 1) (n' := n + 6) rfl ⟨rfl, rfl⟩ ?_
  rw [← h0, ← h20]
  refine y_istore (pc := 974) (i := 6) (lv' := [(6, .int (r.1)), (5, .int (Int32.ofNat (6 * j))), (4, .ref (o4)), (3, .ref (o3)), (2, .ref (ad1 (20, 0, 0))), (1, .ref (ad1 (0, 0, 0))), (0, .ref (b))]) o dL_law_974 (by decide) rfl ?_
  refine y_aload_n (pc := 976) o dL_law_976 rfl ?_
  refine y_aload_n (pc := 977) o dL_law_977 rfl ?_
  refine y_iload (pc := 978) o dL_law_978 rfl ?_
  refine y_iconst (pc := 980) (x := 1) o dL_law_980 (by decide) ?_
  refine y_iadd (pc := 981) o dL_law_981 ?_
  refine y_sld (pc := 982) o sc (6 * j + 1) (Int32.ofNat_add _ _).symm (by omega) hL dL_law_982 ?_
  refine y_callV (pc := 983) (k := k + 1) (n := n + 6) o (b := ad1 (20, 0, 0)) (As := [.int (xs (6 * j + 1))]) (rest := []) (hm9 _ _) ln_L_200 dL_law_983 (z_rc (ci := 20) (K := (20, 0, 0)) rfl (gl_20 hI.fix) rfl) rfl rfl (Nat.le_of_ble_eq_true rfl) ⟨by decide, by decide⟩ ⟨(show k + 1 ≤ 630091 by omega), (show n + 6 ≤ 7125959 by omega)⟩ (fun _ e => e) rfl gq_nox2 (fun v => y_and fun ⟨x, ev, hx⟩ => y_ex fun ad2 => y_and fun q0 => y_and fun q20 => ?_)
  subst ev
  refine z_stk (st' := [.int (x)]) (k' := k + 1) (n' := n + 6) rfl ⟨rfl, rfl⟩ ?_
  rw [← q0, ← q20]
  refine y_istore (pc := 986) (i := 7) (lv' := [(7, .int (x)), (6, .int (r.1)), (5, .int (Int32.ofNat (6 * j))), (4, .ref (o4)), (3, .ref (o3)), (2, .ref (ad2 (20, 0, 0))), (1, .ref (ad2 (0, 0, 0))), (0, .ref (b))]) o dL_law_986 (by decide) rfl ?_
  refine y_aload_n (pc := 988) o dL_law_988 rfl ?_
  refine z_callV (pc := 989) (k := k + 1) (n := n + 6) (k' := k + 1) (n' := n + 6) o (b := ad2 (20, 0, 0)) (As := []) (rest := []) (r_thrown (C := r.2.2) (R := r.2.2) hok.1.fix) ln_L_158 dL_law_989 (z_rc (ci := 20) (K := (20, 0, 0)) rfl (gl_20 hok.1.fix) rfl) rfl rfl (Nat.le_of_ble_eq_true rfl) ⟨by decide, by decide⟩ ⟨rfl, rfl⟩ ⟨(show k + 1 ≤ 630091 by omega), (show n + 6 ≤ 7125959 by omega)⟩ rfl gq_nox2 ?_
  rw [hok.2]
  refine y_iload (pc := 992) o dL_law_992 rfl ?_
  refine y_icmp_eq (pc := 994) (tgt := 999) o dL_law_994 rfl (fun (b1 : r.1 = r.1) => ?_) (fun b1 => absurd rfl b1)
  refine y_iload (pc := 999) o dL_law_999 rfl ?_
  refine y_if_ne (pc := 1001) (tgt := 1016) o dL_law_1001 rfl (fun (b2 : ¬ r.1 = 0) => ?_) (fun (b2 : r.1 = 0) => ?_)
  · refine y_goto (pc := 1016) (tgt := 3021) o dL_law_1016 rfl ?_
    refine y_lv [2, 3, 4, 5, 6, 7] (lv' := [(5, .int (Int32.ofNat (6 * j))), (4, .ref (o4)), (3, .ref (o3)), (2, .ref (ad2 (20, 0, 0))), (1, .ref (ad2 (0, 0, 0))), (0, .ref (b))]) rfl ?_
    exact y_wide (by omega) (by omega) (K _ _ _ _ (hok.1))
  refine y_aload_n (pc := 1004) o dL_law_1004 rfl ?_
  refine y_iconst (pc := 1005) (x := 0) o dL_law_1005 (by decide) ?_
  refine z_laldT (pc := 1006) (i := 0) (v := g5 0) o 0 dL_law_1006 rfl (by unfold vp_in; decide) rfl ?_
  refine y_iload (pc := 1007) o dL_law_1007 rfl ?_
  refine y_i2l (pc := 1009) o dL_law_1009 ?_
  refine y_lcmp (pc := 1010) o dL_law_1010 ?_
  refine y_if_eq (pc := 1011) (tgt := 1016) o dL_law_1011 rfl (fun (b3 : (lg_cmp (g5 0) x.toInt64) = 0) => ?_) (fun b3 => absurd (gl0 (by rw [hg b2, hx b2])) b3)
  refine y_goto (pc := 1016) (tgt := 3021) o dL_law_1016 rfl ?_
  refine y_lv [2, 3, 4, 5, 6, 7] (lv' := [(5, .int (Int32.ofNat (6 * j))), (4, .ref (o4)), (3, .ref (o3)), (2, .ref (ad2 (20, 0, 0))), (1, .ref (ad2 (0, 0, 0))), (0, .ref (b))]) rfl ?_
  exact y_wide (by omega) (by omega) (K _ _ _ _ (hok.1))

theorem lc_renew {κ : gq_K} {f : gq_F} {b L j k n o3 o4 : Nat} {xs : Nat → Int32} {ad : gKey → Nat} {C : gG} {g3 : Nat → Int64} {g4 : Nat → UInt64} (o : gq_Ok κ mL_law f) (sc : gq_Sc f b L xs) (hL : L ≤ 3072) (hj : 6 * j + 6 ≤ L) (hI : gI j C) (hk : k + 40 ≤ 630091) (hn9 : n + 700 ≤ 7125959) (K : ∀ (C' : gG) (ad' : gKey → Nat) (g3 : Nat → Int64) (g4 : Nat → UInt64), gI (j + 1) C' → gq_Y κ mL_law gQL gq_no f (gLP κ ad' C' o3 g3 o4 g4) (gLV ad' j o3 o4 b) 3021 [] (k + 40) (n + 700)) : gq_Y κ mL_law gQL gq_no f (gLP κ ad C o3 g3 o4 g4) (gLV ad j o3 o4 b) 1019 [] k n := by
  obtain ⟨C0, hC0⟩ : ∃ C0, gup C (0, 0, 0) 5 0 = C0 := ⟨_, rfl⟩
  have hI0 : gI j C0 := by rw [← hC0]; exact hI.up (Nat.le_refl _) (by omega)
  have h50 : C0.1 (0, 0, 0) 5 = 0 := by rw [← hC0]; exact gup_v _ _ _ _
  show gq_Y κ mL_law gQL gq_no f (gR κ ad (C, C) [(o3, .inl (κ.2.1 1, 1, .inr (.inl g3))), (o4, .inl (κ.2.1 2, 1, .inr (.inr (.inr (.inl g4)))))]) [(5, .int (Int32.ofNat (6 * j))), (4, .ref o4), (3, .ref o3), (2, .ref (ad (20, 0, 0))), (1, .ref (ad (0, 0, 0))), (0, .ref b)] 1019 [] k n
  refine y_aload_n (pc := 1019) o dL_law_1019 rfl ?_
  refine y_aload_n (pc := 1020) o dL_law_1020 rfl ?_
  refine y_iload (pc := 1021) o dL_law_1021 rfl ?_
  refine y_iconst (pc := 1023) (x := 1) o dL_law_1023 (by decide) ?_
  refine y_iadd (pc := 1024) o dL_law_1024 ?_
  refine y_sld (pc := 1025) o sc (6 * j + 1) (Int32.ofNat_add _ _).symm (by omega) hL dL_law_1025 ?_
  refine y_aload_n (pc := 1026) o dL_law_1026 rfl ?_
  have hok := i_renew hI0 (by omega) h50 (xs (6 * j + 1))
  have hw := w_renew (κ := κ) (ad := ad) (R := C) (T := [(o4, .inl (κ.2.1 2, 1, .inr (.inr (.inr (.inl g4)))))]) hI0 o3 g3 (xs (6 * j + 1))
  have hm9 := fun (ad1 : gKey → Nat) (T1 : List (Nat × va_E)) => r_renew (κ := κ) (ad := ad1) (C := (F_renew C0 (xs (6 * j + 1))).2.2) (T := T1) hC0 hI0 (by omega) (xs (6 * j + 1))
  generalize F_renew C0 (xs (6 * j + 1)) = r at hok hw hm9
  refine y_mono (P' := gR κ ad (C0, C) [(o3, .inl (κ.2.1 1, 1, .inr (.inl g3))), (o4, .inl (κ.2.1 2, 1, .inr (.inr (.inr (.inl g4)))))]) (fun h hr => by rw [← hC0]; exact hr.ghostC (0, 0, 0) 5 0 (fun _ _ _ => rfl) (fun _ _ => rfl)) ?_
  refine y_callSW (pc := 1027) (k := k) (n := n) o (As := [.ref (ad (0, 0, 0)), .int (xs (6 * j + 1)), .ref (o3)]) (rest := []) hw ls_L_201 dL_law_1027 rfl rfl (Nat.le_of_ble_eq_true rfl) ⟨by decide, by decide⟩ ⟨(show k + 1 ≤ 630091 by omega), (show n + 6 ≤ 7125959 by omega)⟩ (fun _ e => e) (fun v => y_and fun ev => y_ex fun g5 => y_ex fun ad1 => y_and fun hg => y_and fun h0 => y_and fun h20 => ?_)
  subst ev
  refine z_stk (st' := [.int r.1]) (k' := k + 1) (n' := n + 6) rfl ⟨rfl, rfl⟩ ?_
  rw [← h0, ← h20]
  refine y_istore (pc := 1030) (i := 6) (lv' := [(6, .int (r.1)), (5, .int (Int32.ofNat (6 * j))), (4, .ref (o4)), (3, .ref (o3)), (2, .ref (ad1 (20, 0, 0))), (1, .ref (ad1 (0, 0, 0))), (0, .ref (b))]) o dL_law_1030 (by decide) rfl ?_
  refine y_aload_n (pc := 1032) o dL_law_1032 rfl ?_
  refine y_aload_n (pc := 1033) o dL_law_1033 rfl ?_
  refine y_iload (pc := 1034) o dL_law_1034 rfl ?_
  refine y_iconst (pc := 1036) (x := 1) o dL_law_1036 (by decide) ?_
  refine y_iadd (pc := 1037) o dL_law_1037 ?_
  refine y_sld (pc := 1038) o sc (6 * j + 1) (Int32.ofNat_add _ _).symm (by omega) hL dL_law_1038 ?_
  refine y_callV (pc := 1039) (k := k + 1) (n := n + 6) o (b := ad1 (20, 0, 0)) (As := [.int (xs (6 * j + 1))]) (rest := []) (hm9 _ _) ln_L_203 dL_law_1039 (z_rc (ci := 20) (K := (20, 0, 0)) rfl (gl_20 hI.fix) rfl) rfl rfl (Nat.le_of_ble_eq_true rfl) ⟨by decide, by decide⟩ ⟨(show k + 1 ≤ 630091 by omega), (show n + 6 ≤ 7125959 by omega)⟩ (fun _ e => e) rfl gq_nox2 (fun v => y_and fun ⟨x, ev, hx⟩ => y_ex fun ad2 => y_and fun q0 => y_and fun q20 => ?_)
  subst ev
  refine z_stk (st' := [.int (x)]) (k' := k + 1) (n' := n + 6) rfl ⟨rfl, rfl⟩ ?_
  rw [← q0, ← q20]
  refine y_istore (pc := 1042) (i := 7) (lv' := [(7, .int (x)), (6, .int (r.1)), (5, .int (Int32.ofNat (6 * j))), (4, .ref (o4)), (3, .ref (o3)), (2, .ref (ad2 (20, 0, 0))), (1, .ref (ad2 (0, 0, 0))), (0, .ref (b))]) o dL_law_1042 (by decide) rfl ?_
  refine y_aload_n (pc := 1044) o dL_law_1044 rfl ?_
  refine z_callV (pc := 1045) (k := k + 1) (n := n + 6) (k' := k + 1) (n' := n + 6) o (b := ad2 (20, 0, 0)) (As := []) (rest := []) (r_thrown (C := r.2.2) (R := r.2.2) hok.1.fix) ln_L_158 dL_law_1045 (z_rc (ci := 20) (K := (20, 0, 0)) rfl (gl_20 hok.1.fix) rfl) rfl rfl (Nat.le_of_ble_eq_true rfl) ⟨by decide, by decide⟩ ⟨rfl, rfl⟩ ⟨(show k + 1 ≤ 630091 by omega), (show n + 6 ≤ 7125959 by omega)⟩ rfl gq_nox2 ?_
  rw [hok.2]
  refine y_iload (pc := 1048) o dL_law_1048 rfl ?_
  refine y_icmp_eq (pc := 1050) (tgt := 1055) o dL_law_1050 rfl (fun (b1 : r.1 = r.1) => ?_) (fun b1 => absurd rfl b1)
  refine y_iload (pc := 1055) o dL_law_1055 rfl ?_
  refine y_if_ne (pc := 1057) (tgt := 1072) o dL_law_1057 rfl (fun (b2 : ¬ r.1 = 0) => ?_) (fun (b2 : r.1 = 0) => ?_)
  · refine y_goto (pc := 1072) (tgt := 3021) o dL_law_1072 rfl ?_
    refine y_lv [2, 3, 4, 5, 6, 7] (lv' := [(5, .int (Int32.ofNat (6 * j))), (4, .ref (o4)), (3, .ref (o3)), (2, .ref (ad2 (20, 0, 0))), (1, .ref (ad2 (0, 0, 0))), (0, .ref (b))]) rfl ?_
    exact y_wide (by omega) (by omega) (K _ _ _ _ (hok.1))
  refine y_aload_n (pc := 1060) o dL_law_1060 rfl ?_
  refine y_iconst (pc := 1061) (x := 0) o dL_law_1061 (by decide) ?_
  refine z_laldT (pc := 1062) (i := 0) (v := g5 0) o 0 dL_law_1062 rfl (by unfold vp_in; decide) rfl ?_
  refine y_iload (pc := 1063) o dL_law_1063 rfl ?_
  refine y_i2l (pc := 1065) o dL_law_1065 ?_
  refine y_lcmp (pc := 1066) o dL_law_1066 ?_
  refine y_if_eq (pc := 1067) (tgt := 1072) o dL_law_1067 rfl (fun (b3 : (lg_cmp (g5 0) x.toInt64) = 0) => ?_) (fun b3 => absurd (gl0 (by rw [hg b2, hx b2])) b3)
  refine y_goto (pc := 1072) (tgt := 3021) o dL_law_1072 rfl ?_
  refine y_lv [2, 3, 4, 5, 6, 7] (lv' := [(5, .int (Int32.ofNat (6 * j))), (4, .ref (o4)), (3, .ref (o3)), (2, .ref (ad2 (20, 0, 0))), (1, .ref (ad2 (0, 0, 0))), (0, .ref (b))]) rfl ?_
  exact y_wide (by omega) (by omega) (K _ _ _ _ (hok.1))

theorem lc_dry {κ : gq_K} {f : gq_F} {b L j k n o3 o4 : Nat} {xs : Nat → Int32} {ad : gKey → Nat} {C : gG} {g3 : Nat → Int64} {g4 : Nat → UInt64} (o : gq_Ok κ mL_law f) (sc : gq_Sc f b L xs) (hL : L ≤ 3072) (hj : 6 * j + 6 ≤ L) (hI : gI j C) (hk : k + 40 ≤ 630091) (hn9 : n + 700 ≤ 7125959) (K : ∀ (C' : gG) (ad' : gKey → Nat) (g3 : Nat → Int64) (g4 : Nat → UInt64), gI (j + 1) C' → gq_Y κ mL_law gQL gq_no f (gLP κ ad' C' o3 g3 o4 g4) (gLV ad' j o3 o4 b) 3021 [] (k + 40) (n + 700)) : gq_Y κ mL_law gQL gq_no f (gLP κ ad C o3 g3 o4 g4) (gLV ad j o3 o4 b) 1075 [] k n := by
  obtain ⟨C0, hC0⟩ : ∃ C0, gup C (0, 0, 0) 5 0 = C0 := ⟨_, rfl⟩
  have hI0 : gI j C0 := by rw [← hC0]; exact hI.up (Nat.le_refl _) (by omega)
  have h50 : C0.1 (0, 0, 0) 5 = 0 := by rw [← hC0]; exact gup_v _ _ _ _
  show gq_Y κ mL_law gQL gq_no f (gR κ ad (C, C) [(o3, .inl (κ.2.1 1, 1, .inr (.inl g3))), (o4, .inl (κ.2.1 2, 1, .inr (.inr (.inr (.inl g4)))))]) [(5, .int (Int32.ofNat (6 * j))), (4, .ref o4), (3, .ref o3), (2, .ref (ad (20, 0, 0))), (1, .ref (ad (0, 0, 0))), (0, .ref b)] 1075 [] k n
  refine y_aload_n (pc := 1075) o dL_law_1075 rfl ?_
  refine y_aload_n (pc := 1076) o dL_law_1076 rfl ?_
  refine y_iload (pc := 1077) o dL_law_1077 rfl ?_
  refine y_iconst (pc := 1079) (x := 1) o dL_law_1079 (by decide) ?_
  refine y_iadd (pc := 1080) o dL_law_1080 ?_
  refine y_sld (pc := 1081) o sc (6 * j + 1) (Int32.ofNat_add _ _).symm (by omega) hL dL_law_1081 ?_
  refine y_aload_n (pc := 1082) o dL_law_1082 rfl ?_
  refine y_iload (pc := 1083) o dL_law_1083 rfl ?_
  refine y_iconst (pc := 1085) (x := 2) o dL_law_1085 (by decide) ?_
  refine y_iadd (pc := 1086) o dL_law_1086 ?_
  refine y_sld (pc := 1087) o sc (6 * j + 2) (Int32.ofNat_add _ _).symm (by omega) hL dL_law_1087 ?_
  refine y_aload_n (pc := 1088) o dL_law_1088 rfl ?_
  have hok := i_dry hI0 (by omega) h50 (xs (6 * j + 1)) (xs (6 * j + 2))
  have hw := w_dry (κ := κ) (ad := ad) (R := C) (T := [(o4, .inl (κ.2.1 2, 1, .inr (.inr (.inr (.inl g4)))))]) hI0 o3 g3 (xs (6 * j + 1)) (xs (6 * j + 2))
  have hm9 := fun (ad1 : gKey → Nat) (T1 : List (Nat × va_E)) => r_dry (κ := κ) (ad := ad1) (C := (F_dry C0 (xs (6 * j + 1)) (xs (6 * j + 2))).2.2) (T := T1) hC0 hI0 (by omega) (xs (6 * j + 1)) (xs (6 * j + 2))
  generalize F_dry C0 (xs (6 * j + 1)) (xs (6 * j + 2)) = r at hok hw hm9
  refine y_mono (P' := gR κ ad (C0, C) [(o3, .inl (κ.2.1 1, 1, .inr (.inl g3))), (o4, .inl (κ.2.1 2, 1, .inr (.inr (.inr (.inl g4)))))]) (fun h hr => by rw [← hC0]; exact hr.ghostC (0, 0, 0) 5 0 (fun _ _ _ => rfl) (fun _ _ => rfl)) ?_
  refine y_callSW (pc := 1089) (k := k) (n := n) o (As := [.ref (ad (0, 0, 0)), .int (xs (6 * j + 1)), .int (xs (6 * j + 2)), .ref (o3)]) (rest := []) hw ls_L_204 dL_law_1089 rfl rfl (Nat.le_of_ble_eq_true rfl) ⟨by decide, by decide⟩ ⟨(show k + 2 ≤ 630091 by omega), (show n + 12 ≤ 7125959 by omega)⟩ (fun _ e => e) (fun v => y_and fun ev => y_ex fun g5 => y_ex fun ad1 => y_and fun hg => y_and fun h0 => y_and fun h20 => ?_)
  subst ev
  refine z_stk (st' := [.int r.1]) (k' := k + 2) (n' := n + 12) rfl ⟨rfl, rfl⟩ ?_
  rw [← h0, ← h20]
  refine y_istore (pc := 1092) (i := 6) (lv' := [(6, .int (r.1)), (5, .int (Int32.ofNat (6 * j))), (4, .ref (o4)), (3, .ref (o3)), (2, .ref (ad1 (20, 0, 0))), (1, .ref (ad1 (0, 0, 0))), (0, .ref (b))]) o dL_law_1092 (by decide) rfl ?_
  refine y_aload_n (pc := 1094) o dL_law_1094 rfl ?_
  refine y_aload_n (pc := 1095) o dL_law_1095 rfl ?_
  refine y_iload (pc := 1096) o dL_law_1096 rfl ?_
  refine y_iconst (pc := 1098) (x := 1) o dL_law_1098 (by decide) ?_
  refine y_iadd (pc := 1099) o dL_law_1099 ?_
  refine y_sld (pc := 1100) o sc (6 * j + 1) (Int32.ofNat_add _ _).symm (by omega) hL dL_law_1100 ?_
  refine y_aload_n (pc := 1101) o dL_law_1101 rfl ?_
  refine y_iload (pc := 1102) o dL_law_1102 rfl ?_
  refine y_iconst (pc := 1104) (x := 2) o dL_law_1104 (by decide) ?_
  refine y_iadd (pc := 1105) o dL_law_1105 ?_
  refine y_sld (pc := 1106) o sc (6 * j + 2) (Int32.ofNat_add _ _).symm (by omega) hL dL_law_1106 ?_
  refine y_callV (pc := 1107) (k := k + 2) (n := n + 12) o (b := ad1 (20, 0, 0)) (As := [.int (xs (6 * j + 1)), .int (xs (6 * j + 2))]) (rest := []) (hm9 _ _) ln_L_207 dL_law_1107 (z_rc (ci := 20) (K := (20, 0, 0)) rfl (gl_20 hI.fix) rfl) rfl rfl (Nat.le_of_ble_eq_true rfl) ⟨by decide, by decide⟩ ⟨(show k + 2 ≤ 630091 by omega), (show n + 12 ≤ 7125959 by omega)⟩ (fun _ e => e) rfl gq_nox2 (fun v => y_and fun ⟨x, ev, hx⟩ => y_ex fun ad2 => y_and fun q0 => y_and fun q20 => ?_)
  subst ev
  refine z_stk (st' := [.int (x)]) (k' := k + 2) (n' := n + 12) rfl ⟨rfl, rfl⟩ ?_
  rw [← q0, ← q20]
  refine y_istore (pc := 1110) (i := 7) (lv' := [(7, .int (x)), (6, .int (r.1)), (5, .int (Int32.ofNat (6 * j))), (4, .ref (o4)), (3, .ref (o3)), (2, .ref (ad2 (20, 0, 0))), (1, .ref (ad2 (0, 0, 0))), (0, .ref (b))]) o dL_law_1110 (by decide) rfl ?_
  refine y_aload_n (pc := 1112) o dL_law_1112 rfl ?_
  refine z_callV (pc := 1113) (k := k + 2) (n := n + 12) (k' := k + 2) (n' := n + 12) o (b := ad2 (20, 0, 0)) (As := []) (rest := []) (r_thrown (C := r.2.2) (R := r.2.2) hok.1.fix) ln_L_158 dL_law_1113 (z_rc (ci := 20) (K := (20, 0, 0)) rfl (gl_20 hok.1.fix) rfl) rfl rfl (Nat.le_of_ble_eq_true rfl) ⟨by decide, by decide⟩ ⟨rfl, rfl⟩ ⟨(show k + 2 ≤ 630091 by omega), (show n + 12 ≤ 7125959 by omega)⟩ rfl gq_nox2 ?_
  rw [hok.2]
  refine y_iload (pc := 1116) o dL_law_1116 rfl ?_
  refine y_icmp_eq (pc := 1118) (tgt := 1123) o dL_law_1118 rfl (fun (b1 : r.1 = r.1) => ?_) (fun b1 => absurd rfl b1)
  refine y_iload (pc := 1123) o dL_law_1123 rfl ?_
  refine y_if_ne (pc := 1125) (tgt := 1140) o dL_law_1125 rfl (fun (b2 : ¬ r.1 = 0) => ?_) (fun (b2 : r.1 = 0) => ?_)
  · refine y_goto (pc := 1140) (tgt := 3021) o dL_law_1140 rfl ?_
    refine y_lv [2, 3, 4, 5, 6, 7] (lv' := [(5, .int (Int32.ofNat (6 * j))), (4, .ref (o4)), (3, .ref (o3)), (2, .ref (ad2 (20, 0, 0))), (1, .ref (ad2 (0, 0, 0))), (0, .ref (b))]) rfl ?_
    exact y_wide (by omega) (by omega) (K _ _ _ _ (hok.1))
  refine y_aload_n (pc := 1128) o dL_law_1128 rfl ?_
  refine y_iconst (pc := 1129) (x := 0) o dL_law_1129 (by decide) ?_
  refine z_laldT (pc := 1130) (i := 0) (v := g5 0) o 0 dL_law_1130 rfl (by unfold vp_in; decide) rfl ?_
  refine y_iload (pc := 1131) o dL_law_1131 rfl ?_
  refine y_i2l (pc := 1133) o dL_law_1133 ?_
  refine y_lcmp (pc := 1134) o dL_law_1134 ?_
  refine y_if_eq (pc := 1135) (tgt := 1140) o dL_law_1135 rfl (fun (b3 : (lg_cmp (g5 0) x.toInt64) = 0) => ?_) (fun b3 => absurd (gl0 (by rw [hg b2, hx b2])) b3)
  refine y_goto (pc := 1140) (tgt := 3021) o dL_law_1140 rfl ?_
  refine y_lv [2, 3, 4, 5, 6, 7] (lv' := [(5, .int (Int32.ofNat (6 * j))), (4, .ref (o4)), (3, .ref (o3)), (2, .ref (ad2 (20, 0, 0))), (1, .ref (ad2 (0, 0, 0))), (0, .ref (b))]) rfl ?_
  exact y_wide (by omega) (by omega) (K _ _ _ _ (hok.1))

theorem lc_fire {κ : gq_K} {f : gq_F} {b L j k n o3 o4 : Nat} {xs : Nat → Int32} {ad : gKey → Nat} {C : gG} {g3 : Nat → Int64} {g4 : Nat → UInt64} (o : gq_Ok κ mL_law f) (sc : gq_Sc f b L xs) (hL : L ≤ 3072) (hj : 6 * j + 6 ≤ L) (hI : gI j C) (hk : k + 40 ≤ 630091) (hn9 : n + 700 ≤ 7125959) (K : ∀ (C' : gG) (ad' : gKey → Nat) (g3 : Nat → Int64) (g4 : Nat → UInt64), gI (j + 1) C' → gq_Y κ mL_law gQL gq_no f (gLP κ ad' C' o3 g3 o4 g4) (gLV ad' j o3 o4 b) 3021 [] (k + 40) (n + 700)) : gq_Y κ mL_law gQL gq_no f (gLP κ ad C o3 g3 o4 g4) (gLV ad j o3 o4 b) 1143 [] k n := by
  obtain ⟨C0, hC0⟩ : ∃ C0, gup C (0, 0, 0) 5 0 = C0 := ⟨_, rfl⟩
  have hI0 : gI j C0 := by rw [← hC0]; exact hI.up (Nat.le_refl _) (by omega)
  have h50 : C0.1 (0, 0, 0) 5 = 0 := by rw [← hC0]; exact gup_v _ _ _ _
  show gq_Y κ mL_law gQL gq_no f (gR κ ad (C, C) [(o3, .inl (κ.2.1 1, 1, .inr (.inl g3))), (o4, .inl (κ.2.1 2, 1, .inr (.inr (.inr (.inl g4)))))]) [(5, .int (Int32.ofNat (6 * j))), (4, .ref o4), (3, .ref o3), (2, .ref (ad (20, 0, 0))), (1, .ref (ad (0, 0, 0))), (0, .ref b)] 1143 [] k n
  refine y_aload_n (pc := 1143) o dL_law_1143 rfl ?_
  refine y_aload_n (pc := 1144) o dL_law_1144 rfl ?_
  refine y_iload (pc := 1145) o dL_law_1145 rfl ?_
  refine y_iconst (pc := 1147) (x := 1) o dL_law_1147 (by decide) ?_
  refine y_iadd (pc := 1148) o dL_law_1148 ?_
  refine y_sld (pc := 1149) o sc (6 * j + 1) (Int32.ofNat_add _ _).symm (by omega) hL dL_law_1149 ?_
  refine y_aload_n (pc := 1150) o dL_law_1150 rfl ?_
  refine y_iload (pc := 1151) o dL_law_1151 rfl ?_
  refine y_iconst (pc := 1153) (x := 2) o dL_law_1153 (by decide) ?_
  refine y_iadd (pc := 1154) o dL_law_1154 ?_
  refine y_sld (pc := 1155) o sc (6 * j + 2) (Int32.ofNat_add _ _).symm (by omega) hL dL_law_1155 ?_
  refine y_aload_n (pc := 1156) o dL_law_1156 rfl ?_
  refine y_iload (pc := 1157) o dL_law_1157 rfl ?_
  refine y_iconst (pc := 1159) (x := 3) o dL_law_1159 (by decide) ?_
  refine y_iadd (pc := 1160) o dL_law_1160 ?_
  refine y_sld (pc := 1161) o sc (6 * j + 3) (Int32.ofNat_add _ _).symm (by omega) hL dL_law_1161 ?_
  refine y_aload_n (pc := 1162) o dL_law_1162 rfl ?_
  refine y_iload (pc := 1163) o dL_law_1163 rfl ?_
  refine y_iconst (pc := 1165) (x := 4) o dL_law_1165 (by decide) ?_
  refine y_iadd (pc := 1166) o dL_law_1166 ?_
  refine y_sld (pc := 1167) o sc (6 * j + 4) (Int32.ofNat_add _ _).symm (by omega) hL dL_law_1167 ?_
  refine y_aload_n (pc := 1168) o dL_law_1168 rfl ?_
  have hok := i_fire hI0 (by omega) h50 (xs (6 * j + 1)) (xs (6 * j + 2)) (xs (6 * j + 3)) (xs (6 * j + 4))
  have hw := w_fire (κ := κ) (ad := ad) (R := C) (T := [(o4, .inl (κ.2.1 2, 1, .inr (.inr (.inr (.inl g4)))))]) hI0 o3 g3 (xs (6 * j + 1)) (xs (6 * j + 2)) (xs (6 * j + 3)) (xs (6 * j + 4))
  have hm9 := fun (ad1 : gKey → Nat) (T1 : List (Nat × va_E)) => r_fire (κ := κ) (ad := ad1) (C := (F_fire C0 (xs (6 * j + 1)) (xs (6 * j + 2)) (xs (6 * j + 3)) (xs (6 * j + 4))).2.2) (T := T1) hC0 hI0 (by omega) (xs (6 * j + 1)) (xs (6 * j + 2)) (xs (6 * j + 3)) (xs (6 * j + 4))
  generalize F_fire C0 (xs (6 * j + 1)) (xs (6 * j + 2)) (xs (6 * j + 3)) (xs (6 * j + 4)) = r at hok hw hm9
  refine y_mono (P' := gR κ ad (C0, C) [(o3, .inl (κ.2.1 1, 1, .inr (.inl g3))), (o4, .inl (κ.2.1 2, 1, .inr (.inr (.inr (.inl g4)))))]) (fun h hr => by rw [← hC0]; exact hr.ghostC (0, 0, 0) 5 0 (fun _ _ _ => rfl) (fun _ _ => rfl)) ?_
  refine y_callSW (pc := 1169) (k := k) (n := n) o (As := [.ref (ad (0, 0, 0)), .int (xs (6 * j + 1)), .int (xs (6 * j + 2)), .int (xs (6 * j + 3)), .int (xs (6 * j + 4)), .ref (o3)]) (rest := []) hw ls_L_208 dL_law_1169 rfl rfl (Nat.le_of_ble_eq_true rfl) ⟨by decide, by decide⟩ ⟨(show k + 2 ≤ 630091 by omega), (show n + 12 ≤ 7125959 by omega)⟩ (fun _ e => e) (fun v => y_and fun ev => y_ex fun g5 => y_ex fun ad1 => y_and fun hg => y_and fun h0 => y_and fun h20 => ?_)
  subst ev
  refine z_stk (st' := [.int r.1]) (k' := k + 2) (n' := n + 12) rfl ⟨rfl, rfl⟩ ?_
  rw [← h0, ← h20]
  refine y_istore (pc := 1172) (i := 6) (lv' := [(6, .int (r.1)), (5, .int (Int32.ofNat (6 * j))), (4, .ref (o4)), (3, .ref (o3)), (2, .ref (ad1 (20, 0, 0))), (1, .ref (ad1 (0, 0, 0))), (0, .ref (b))]) o dL_law_1172 (by decide) rfl ?_
  refine y_aload_n (pc := 1174) o dL_law_1174 rfl ?_
  refine y_aload_n (pc := 1175) o dL_law_1175 rfl ?_
  refine y_iload (pc := 1176) o dL_law_1176 rfl ?_
  refine y_iconst (pc := 1178) (x := 1) o dL_law_1178 (by decide) ?_
  refine y_iadd (pc := 1179) o dL_law_1179 ?_
  refine y_sld (pc := 1180) o sc (6 * j + 1) (Int32.ofNat_add _ _).symm (by omega) hL dL_law_1180 ?_
  refine y_aload_n (pc := 1181) o dL_law_1181 rfl ?_
  refine y_iload (pc := 1182) o dL_law_1182 rfl ?_
  refine y_iconst (pc := 1184) (x := 2) o dL_law_1184 (by decide) ?_
  refine y_iadd (pc := 1185) o dL_law_1185 ?_
  refine y_sld (pc := 1186) o sc (6 * j + 2) (Int32.ofNat_add _ _).symm (by omega) hL dL_law_1186 ?_
  refine y_aload_n (pc := 1187) o dL_law_1187 rfl ?_
  refine y_iload (pc := 1188) o dL_law_1188 rfl ?_
  refine y_iconst (pc := 1190) (x := 3) o dL_law_1190 (by decide) ?_
  refine y_iadd (pc := 1191) o dL_law_1191 ?_
  refine y_sld (pc := 1192) o sc (6 * j + 3) (Int32.ofNat_add _ _).symm (by omega) hL dL_law_1192 ?_
  refine y_aload_n (pc := 1193) o dL_law_1193 rfl ?_
  refine y_iload (pc := 1194) o dL_law_1194 rfl ?_
  refine y_iconst (pc := 1196) (x := 4) o dL_law_1196 (by decide) ?_
  refine y_iadd (pc := 1197) o dL_law_1197 ?_
  refine y_sld (pc := 1198) o sc (6 * j + 4) (Int32.ofNat_add _ _).symm (by omega) hL dL_law_1198 ?_
  refine y_callV (pc := 1199) (k := k + 2) (n := n + 12) o (b := ad1 (20, 0, 0)) (As := [.int (xs (6 * j + 1)), .int (xs (6 * j + 2)), .int (xs (6 * j + 3)), .int (xs (6 * j + 4))]) (rest := []) (hm9 _ _) ln_L_211 dL_law_1199 (z_rc (ci := 20) (K := (20, 0, 0)) rfl (gl_20 hI.fix) rfl) rfl rfl (Nat.le_of_ble_eq_true rfl) ⟨by decide, by decide⟩ ⟨(show k + 2 ≤ 630091 by omega), (show n + 12 ≤ 7125959 by omega)⟩ (fun _ e => e) rfl gq_nox2 (fun v => y_and fun ⟨x, ev, hx⟩ => y_ex fun ad2 => y_and fun q0 => y_and fun q20 => ?_)
  subst ev
  refine z_stk (st' := [.int (x)]) (k' := k + 2) (n' := n + 12) rfl ⟨rfl, rfl⟩ ?_
  rw [← q0, ← q20]
  refine y_istore (pc := 1202) (i := 7) (lv' := [(7, .int (x)), (6, .int (r.1)), (5, .int (Int32.ofNat (6 * j))), (4, .ref (o4)), (3, .ref (o3)), (2, .ref (ad2 (20, 0, 0))), (1, .ref (ad2 (0, 0, 0))), (0, .ref (b))]) o dL_law_1202 (by decide) rfl ?_
  refine y_aload_n (pc := 1204) o dL_law_1204 rfl ?_
  refine z_callV (pc := 1205) (k := k + 2) (n := n + 12) (k' := k + 2) (n' := n + 12) o (b := ad2 (20, 0, 0)) (As := []) (rest := []) (r_thrown (C := r.2.2) (R := r.2.2) hok.1.fix) ln_L_158 dL_law_1205 (z_rc (ci := 20) (K := (20, 0, 0)) rfl (gl_20 hok.1.fix) rfl) rfl rfl (Nat.le_of_ble_eq_true rfl) ⟨by decide, by decide⟩ ⟨rfl, rfl⟩ ⟨(show k + 2 ≤ 630091 by omega), (show n + 12 ≤ 7125959 by omega)⟩ rfl gq_nox2 ?_
  rw [hok.2]
  refine y_iload (pc := 1208) o dL_law_1208 rfl ?_
  refine y_icmp_eq (pc := 1210) (tgt := 1215) o dL_law_1210 rfl (fun (b1 : r.1 = r.1) => ?_) (fun b1 => absurd rfl b1)
  refine y_iload (pc := 1215) o dL_law_1215 rfl ?_
  refine y_if_ne (pc := 1217) (tgt := 1232) o dL_law_1217 rfl (fun (b2 : ¬ r.1 = 0) => ?_) (fun (b2 : r.1 = 0) => ?_)
  · refine y_goto (pc := 1232) (tgt := 3021) o dL_law_1232 rfl ?_
    refine y_lv [2, 3, 4, 5, 6, 7] (lv' := [(5, .int (Int32.ofNat (6 * j))), (4, .ref (o4)), (3, .ref (o3)), (2, .ref (ad2 (20, 0, 0))), (1, .ref (ad2 (0, 0, 0))), (0, .ref (b))]) rfl ?_
    exact y_wide (by omega) (by omega) (K _ _ _ _ (hok.1))
  refine y_aload_n (pc := 1220) o dL_law_1220 rfl ?_
  refine y_iconst (pc := 1221) (x := 0) o dL_law_1221 (by decide) ?_
  refine z_laldT (pc := 1222) (i := 0) (v := g5 0) o 0 dL_law_1222 rfl (by unfold vp_in; decide) rfl ?_
  refine y_iload (pc := 1223) o dL_law_1223 rfl ?_
  refine y_i2l (pc := 1225) o dL_law_1225 ?_
  refine y_lcmp (pc := 1226) o dL_law_1226 ?_
  refine y_if_eq (pc := 1227) (tgt := 1232) o dL_law_1227 rfl (fun (b3 : (lg_cmp (g5 0) x.toInt64) = 0) => ?_) (fun b3 => absurd (gl0 (by rw [hg b2, hx b2])) b3)
  refine y_goto (pc := 1232) (tgt := 3021) o dL_law_1232 rfl ?_
  refine y_lv [2, 3, 4, 5, 6, 7] (lv' := [(5, .int (Int32.ofNat (6 * j))), (4, .ref (o4)), (3, .ref (o3)), (2, .ref (ad2 (20, 0, 0))), (1, .ref (ad2 (0, 0, 0))), (0, .ref (b))]) rfl ?_
  exact y_wide (by omega) (by omega) (K _ _ _ _ (hok.1))

theorem lc_soak {κ : gq_K} {f : gq_F} {b L j k n o3 o4 : Nat} {xs : Nat → Int32} {ad : gKey → Nat} {C : gG} {g3 : Nat → Int64} {g4 : Nat → UInt64} (o : gq_Ok κ mL_law f) (sc : gq_Sc f b L xs) (hL : L ≤ 3072) (hj : 6 * j + 6 ≤ L) (hI : gI j C) (hk : k + 40 ≤ 630091) (hn9 : n + 700 ≤ 7125959) (K : ∀ (C' : gG) (ad' : gKey → Nat) (g3 : Nat → Int64) (g4 : Nat → UInt64), gI (j + 1) C' → gq_Y κ mL_law gQL gq_no f (gLP κ ad' C' o3 g3 o4 g4) (gLV ad' j o3 o4 b) 3021 [] (k + 40) (n + 700)) : gq_Y κ mL_law gQL gq_no f (gLP κ ad C o3 g3 o4 g4) (gLV ad j o3 o4 b) 1235 [] k n := by
  obtain ⟨C0, hC0⟩ : ∃ C0, gup C (0, 0, 0) 5 0 = C0 := ⟨_, rfl⟩
  have hI0 : gI j C0 := by rw [← hC0]; exact hI.up (Nat.le_refl _) (by omega)
  have h50 : C0.1 (0, 0, 0) 5 = 0 := by rw [← hC0]; exact gup_v _ _ _ _
  show gq_Y κ mL_law gQL gq_no f (gR κ ad (C, C) [(o3, .inl (κ.2.1 1, 1, .inr (.inl g3))), (o4, .inl (κ.2.1 2, 1, .inr (.inr (.inr (.inl g4)))))]) [(5, .int (Int32.ofNat (6 * j))), (4, .ref o4), (3, .ref o3), (2, .ref (ad (20, 0, 0))), (1, .ref (ad (0, 0, 0))), (0, .ref b)] 1235 [] k n
  refine y_aload_n (pc := 1235) o dL_law_1235 rfl ?_
  refine y_aload_n (pc := 1236) o dL_law_1236 rfl ?_
  refine y_iload (pc := 1237) o dL_law_1237 rfl ?_
  refine y_iconst (pc := 1239) (x := 1) o dL_law_1239 (by decide) ?_
  refine y_iadd (pc := 1240) o dL_law_1240 ?_
  refine y_sld (pc := 1241) o sc (6 * j + 1) (Int32.ofNat_add _ _).symm (by omega) hL dL_law_1241 ?_
  refine y_aload_n (pc := 1242) o dL_law_1242 rfl ?_
  refine y_iload (pc := 1243) o dL_law_1243 rfl ?_
  refine y_iconst (pc := 1245) (x := 2) o dL_law_1245 (by decide) ?_
  refine y_iadd (pc := 1246) o dL_law_1246 ?_
  refine y_sld (pc := 1247) o sc (6 * j + 2) (Int32.ofNat_add _ _).symm (by omega) hL dL_law_1247 ?_
  refine y_aload_n (pc := 1248) o dL_law_1248 rfl ?_
  have hok := i_soak hI0 (by omega) h50 (xs (6 * j + 1)) (xs (6 * j + 2))
  have hw := w_soak (κ := κ) (ad := ad) (R := C) (T := [(o4, .inl (κ.2.1 2, 1, .inr (.inr (.inr (.inl g4)))))]) hI0 o3 g3 (xs (6 * j + 1)) (xs (6 * j + 2))
  have hm9 := fun (ad1 : gKey → Nat) (T1 : List (Nat × va_E)) => r_soak (κ := κ) (ad := ad1) (C := (F_soak C0 (xs (6 * j + 1)) (xs (6 * j + 2))).2.2) (T := T1) hC0 hI0 (by omega) (xs (6 * j + 1)) (xs (6 * j + 2))
  generalize F_soak C0 (xs (6 * j + 1)) (xs (6 * j + 2)) = r at hok hw hm9
  refine y_mono (P' := gR κ ad (C0, C) [(o3, .inl (κ.2.1 1, 1, .inr (.inl g3))), (o4, .inl (κ.2.1 2, 1, .inr (.inr (.inr (.inl g4)))))]) (fun h hr => by rw [← hC0]; exact hr.ghostC (0, 0, 0) 5 0 (fun _ _ _ => rfl) (fun _ _ => rfl)) ?_
  refine y_callSW (pc := 1249) (k := k) (n := n) o (As := [.ref (ad (0, 0, 0)), .int (xs (6 * j + 1)), .int (xs (6 * j + 2)), .ref (o3)]) (rest := []) hw ls_L_212 dL_law_1249 rfl rfl (Nat.le_of_ble_eq_true rfl) ⟨by decide, by decide⟩ ⟨(show k + 2 ≤ 630091 by omega), (show n + 12 ≤ 7125959 by omega)⟩ (fun _ e => e) (fun v => y_and fun ev => y_ex fun g5 => y_ex fun ad1 => y_and fun hg => y_and fun h0 => y_and fun h20 => ?_)
  subst ev
  refine z_stk (st' := [.int r.1]) (k' := k + 2) (n' := n + 12) rfl ⟨rfl, rfl⟩ ?_
  rw [← h0, ← h20]
  refine y_istore (pc := 1252) (i := 6) (lv' := [(6, .int (r.1)), (5, .int (Int32.ofNat (6 * j))), (4, .ref (o4)), (3, .ref (o3)), (2, .ref (ad1 (20, 0, 0))), (1, .ref (ad1 (0, 0, 0))), (0, .ref (b))]) o dL_law_1252 (by decide) rfl ?_
  refine y_aload_n (pc := 1254) o dL_law_1254 rfl ?_
  refine y_aload_n (pc := 1255) o dL_law_1255 rfl ?_
  refine y_iload (pc := 1256) o dL_law_1256 rfl ?_
  refine y_iconst (pc := 1258) (x := 1) o dL_law_1258 (by decide) ?_
  refine y_iadd (pc := 1259) o dL_law_1259 ?_
  refine y_sld (pc := 1260) o sc (6 * j + 1) (Int32.ofNat_add _ _).symm (by omega) hL dL_law_1260 ?_
  refine y_aload_n (pc := 1261) o dL_law_1261 rfl ?_
  refine y_iload (pc := 1262) o dL_law_1262 rfl ?_
  refine y_iconst (pc := 1264) (x := 2) o dL_law_1264 (by decide) ?_
  refine y_iadd (pc := 1265) o dL_law_1265 ?_
  refine y_sld (pc := 1266) o sc (6 * j + 2) (Int32.ofNat_add _ _).symm (by omega) hL dL_law_1266 ?_
  refine y_callV (pc := 1267) (k := k + 2) (n := n + 12) o (b := ad1 (20, 0, 0)) (As := [.int (xs (6 * j + 1)), .int (xs (6 * j + 2))]) (rest := []) (hm9 _ _) ln_L_214 dL_law_1267 (z_rc (ci := 20) (K := (20, 0, 0)) rfl (gl_20 hI.fix) rfl) rfl rfl (Nat.le_of_ble_eq_true rfl) ⟨by decide, by decide⟩ ⟨(show k + 2 ≤ 630091 by omega), (show n + 12 ≤ 7125959 by omega)⟩ (fun _ e => e) rfl gq_nox2 (fun v => y_and fun ⟨x, ev, hx⟩ => y_ex fun ad2 => y_and fun q0 => y_and fun q20 => ?_)
  subst ev
  refine z_stk (st' := [.int (x)]) (k' := k + 2) (n' := n + 12) rfl ⟨rfl, rfl⟩ ?_
  rw [← q0, ← q20]
  refine y_istore (pc := 1270) (i := 7) (lv' := [(7, .int (x)), (6, .int (r.1)), (5, .int (Int32.ofNat (6 * j))), (4, .ref (o4)), (3, .ref (o3)), (2, .ref (ad2 (20, 0, 0))), (1, .ref (ad2 (0, 0, 0))), (0, .ref (b))]) o dL_law_1270 (by decide) rfl ?_
  refine y_aload_n (pc := 1272) o dL_law_1272 rfl ?_
  refine z_callV (pc := 1273) (k := k + 2) (n := n + 12) (k' := k + 2) (n' := n + 12) o (b := ad2 (20, 0, 0)) (As := []) (rest := []) (r_thrown (C := r.2.2) (R := r.2.2) hok.1.fix) ln_L_158 dL_law_1273 (z_rc (ci := 20) (K := (20, 0, 0)) rfl (gl_20 hok.1.fix) rfl) rfl rfl (Nat.le_of_ble_eq_true rfl) ⟨by decide, by decide⟩ ⟨rfl, rfl⟩ ⟨(show k + 2 ≤ 630091 by omega), (show n + 12 ≤ 7125959 by omega)⟩ rfl gq_nox2 ?_
  rw [hok.2]
  refine y_iload (pc := 1276) o dL_law_1276 rfl ?_
  refine y_icmp_eq (pc := 1278) (tgt := 1283) o dL_law_1278 rfl (fun (b1 : r.1 = r.1) => ?_) (fun b1 => absurd rfl b1)
  refine y_iload (pc := 1283) o dL_law_1283 rfl ?_
  refine y_if_ne (pc := 1285) (tgt := 1300) o dL_law_1285 rfl (fun (b2 : ¬ r.1 = 0) => ?_) (fun (b2 : r.1 = 0) => ?_)
  · refine y_goto (pc := 1300) (tgt := 3021) o dL_law_1300 rfl ?_
    refine y_lv [2, 3, 4, 5, 6, 7] (lv' := [(5, .int (Int32.ofNat (6 * j))), (4, .ref (o4)), (3, .ref (o3)), (2, .ref (ad2 (20, 0, 0))), (1, .ref (ad2 (0, 0, 0))), (0, .ref (b))]) rfl ?_
    exact y_wide (by omega) (by omega) (K _ _ _ _ (hok.1))
  refine y_aload_n (pc := 1288) o dL_law_1288 rfl ?_
  refine y_iconst (pc := 1289) (x := 0) o dL_law_1289 (by decide) ?_
  refine z_laldT (pc := 1290) (i := 0) (v := g5 0) o 0 dL_law_1290 rfl (by unfold vp_in; decide) rfl ?_
  refine y_iload (pc := 1291) o dL_law_1291 rfl ?_
  refine y_i2l (pc := 1293) o dL_law_1293 ?_
  refine y_lcmp (pc := 1294) o dL_law_1294 ?_
  refine y_if_eq (pc := 1295) (tgt := 1300) o dL_law_1295 rfl (fun (b3 : (lg_cmp (g5 0) x.toInt64) = 0) => ?_) (fun b3 => absurd (gl0 (by rw [hg b2, hx b2])) b3)
  refine y_goto (pc := 1300) (tgt := 3021) o dL_law_1300 rfl ?_
  refine y_lv [2, 3, 4, 5, 6, 7] (lv' := [(5, .int (Int32.ofNat (6 * j))), (4, .ref (o4)), (3, .ref (o3)), (2, .ref (ad2 (20, 0, 0))), (1, .ref (ad2 (0, 0, 0))), (0, .ref (b))]) rfl ?_
  exact y_wide (by omega) (by omega) (K _ _ _ _ (hok.1))

theorem lc_batch {κ : gq_K} {f : gq_F} {b L j k n o3 o4 : Nat} {xs : Nat → Int32} {ad : gKey → Nat} {C : gG} {g3 : Nat → Int64} {g4 : Nat → UInt64} (o : gq_Ok κ mL_law f) (sc : gq_Sc f b L xs) (hL : L ≤ 3072) (hj : 6 * j + 6 ≤ L) (hI : gI j C) (hk : k + 40 ≤ 630091) (hn9 : n + 700 ≤ 7125959) (K : ∀ (C' : gG) (ad' : gKey → Nat) (g3 : Nat → Int64) (g4 : Nat → UInt64), gI (j + 1) C' → gq_Y κ mL_law gQL gq_no f (gLP κ ad' C' o3 g3 o4 g4) (gLV ad' j o3 o4 b) 3021 [] (k + 40) (n + 700)) : gq_Y κ mL_law gQL gq_no f (gLP κ ad C o3 g3 o4 g4) (gLV ad j o3 o4 b) 1303 [] k n := by
  obtain ⟨C0, hC0⟩ : ∃ C0, gup C (0, 0, 0) 5 0 = C0 := ⟨_, rfl⟩
  have hI0 : gI j C0 := by rw [← hC0]; exact hI.up (Nat.le_refl _) (by omega)
  have h50 : C0.1 (0, 0, 0) 5 = 0 := by rw [← hC0]; exact gup_v _ _ _ _
  show gq_Y κ mL_law gQL gq_no f (gR κ ad (C, C) [(o3, .inl (κ.2.1 1, 1, .inr (.inl g3))), (o4, .inl (κ.2.1 2, 1, .inr (.inr (.inr (.inl g4)))))]) [(5, .int (Int32.ofNat (6 * j))), (4, .ref o4), (3, .ref o3), (2, .ref (ad (20, 0, 0))), (1, .ref (ad (0, 0, 0))), (0, .ref b)] 1303 [] k n
  refine y_aload_n (pc := 1303) o dL_law_1303 rfl ?_
  refine y_aload_n (pc := 1304) o dL_law_1304 rfl ?_
  refine y_iload (pc := 1305) o dL_law_1305 rfl ?_
  refine y_iconst (pc := 1307) (x := 1) o dL_law_1307 (by decide) ?_
  refine y_iadd (pc := 1308) o dL_law_1308 ?_
  refine y_sld (pc := 1309) o sc (6 * j + 1) (Int32.ofNat_add _ _).symm (by omega) hL dL_law_1309 ?_
  refine y_aload_n (pc := 1310) o dL_law_1310 rfl ?_
  refine y_iload (pc := 1311) o dL_law_1311 rfl ?_
  refine y_iconst (pc := 1313) (x := 2) o dL_law_1313 (by decide) ?_
  refine y_iadd (pc := 1314) o dL_law_1314 ?_
  refine y_sld (pc := 1315) o sc (6 * j + 2) (Int32.ofNat_add _ _).symm (by omega) hL dL_law_1315 ?_
  refine y_i2c (pc := 1316) (v := gc16 (xs (6 * j + 2))) o dL_law_1316 rfl ?_
  refine y_aload_n (pc := 1317) o dL_law_1317 rfl ?_
  have hok := i_batch hI0 (by omega) h50 (xs (6 * j + 1)) (gc16 (xs (6 * j + 2)))
  have hw := w_batch (κ := κ) (ad := ad) (R := C) (T := [(o4, .inl (κ.2.1 2, 1, .inr (.inr (.inr (.inl g4)))))]) hI0 o3 g3 (xs (6 * j + 1)) (gc16 (xs (6 * j + 2)))
  have hm9 := fun (ad1 : gKey → Nat) (T1 : List (Nat × va_E)) => r_batch (κ := κ) (ad := ad1) (C := (F_batch C0 (xs (6 * j + 1)) (gc16 (xs (6 * j + 2)))).2.2) (T := T1) hC0 hI0 (by omega) (xs (6 * j + 1)) (gc16 (xs (6 * j + 2)))
  generalize F_batch C0 (xs (6 * j + 1)) (gc16 (xs (6 * j + 2))) = r at hok hw hm9
  refine y_mono (P' := gR κ ad (C0, C) [(o3, .inl (κ.2.1 1, 1, .inr (.inl g3))), (o4, .inl (κ.2.1 2, 1, .inr (.inr (.inr (.inl g4)))))]) (fun h hr => by rw [← hC0]; exact hr.ghostC (0, 0, 0) 5 0 (fun _ _ _ => rfl) (fun _ _ => rfl)) ?_
  refine y_callSW (pc := 1318) (k := k) (n := n) o (As := [.ref (ad (0, 0, 0)), .int (xs (6 * j + 1)), .int (gc16 (xs (6 * j + 2))), .ref (o3)]) (rest := []) hw ls_L_215 dL_law_1318 rfl rfl (Nat.le_of_ble_eq_true rfl) ⟨by decide, by decide⟩ ⟨(show k + 2 ≤ 630091 by omega), (show n + 12 ≤ 7125959 by omega)⟩ (fun _ e => e) (fun v => y_and fun ev => y_ex fun g5 => y_ex fun ad1 => y_and fun hg => y_and fun h0 => y_and fun h20 => ?_)
  subst ev
  refine z_stk (st' := [.int r.1]) (k' := k + 2) (n' := n + 12) rfl ⟨rfl, rfl⟩ ?_
  rw [← h0, ← h20]
  refine y_istore (pc := 1321) (i := 6) (lv' := [(6, .int (r.1)), (5, .int (Int32.ofNat (6 * j))), (4, .ref (o4)), (3, .ref (o3)), (2, .ref (ad1 (20, 0, 0))), (1, .ref (ad1 (0, 0, 0))), (0, .ref (b))]) o dL_law_1321 (by decide) rfl ?_
  refine y_aload_n (pc := 1323) o dL_law_1323 rfl ?_
  refine y_aload_n (pc := 1324) o dL_law_1324 rfl ?_
  refine y_iload (pc := 1325) o dL_law_1325 rfl ?_
  refine y_iconst (pc := 1327) (x := 1) o dL_law_1327 (by decide) ?_
  refine y_iadd (pc := 1328) o dL_law_1328 ?_
  refine y_sld (pc := 1329) o sc (6 * j + 1) (Int32.ofNat_add _ _).symm (by omega) hL dL_law_1329 ?_
  refine y_aload_n (pc := 1330) o dL_law_1330 rfl ?_
  refine y_iload (pc := 1331) o dL_law_1331 rfl ?_
  refine y_iconst (pc := 1333) (x := 2) o dL_law_1333 (by decide) ?_
  refine y_iadd (pc := 1334) o dL_law_1334 ?_
  refine y_sld (pc := 1335) o sc (6 * j + 2) (Int32.ofNat_add _ _).symm (by omega) hL dL_law_1335 ?_
  refine y_i2c (pc := 1336) (v := gc16 (xs (6 * j + 2))) o dL_law_1336 rfl ?_
  refine y_callV (pc := 1337) (k := k + 2) (n := n + 12) o (b := ad1 (20, 0, 0)) (As := [.int (xs (6 * j + 1)), .int (gc16 (xs (6 * j + 2)))]) (rest := []) (hm9 _ _) ln_L_217 dL_law_1337 (z_rc (ci := 20) (K := (20, 0, 0)) rfl (gl_20 hI.fix) rfl) rfl rfl (Nat.le_of_ble_eq_true rfl) ⟨by decide, by decide⟩ ⟨(show k + 2 ≤ 630091 by omega), (show n + 12 ≤ 7125959 by omega)⟩ (fun _ e => e) rfl gq_nox2 (fun v => y_and fun ⟨x, ev, hx⟩ => y_ex fun ad2 => y_and fun q0 => y_and fun q20 => ?_)
  subst ev
  refine z_stk (st' := [.int (x)]) (k' := k + 2) (n' := n + 12) rfl ⟨rfl, rfl⟩ ?_
  rw [← q0, ← q20]
  refine y_istore (pc := 1340) (i := 7) (lv' := [(7, .int (x)), (6, .int (r.1)), (5, .int (Int32.ofNat (6 * j))), (4, .ref (o4)), (3, .ref (o3)), (2, .ref (ad2 (20, 0, 0))), (1, .ref (ad2 (0, 0, 0))), (0, .ref (b))]) o dL_law_1340 (by decide) rfl ?_
  refine y_aload_n (pc := 1342) o dL_law_1342 rfl ?_
  refine z_callV (pc := 1343) (k := k + 2) (n := n + 12) (k' := k + 2) (n' := n + 12) o (b := ad2 (20, 0, 0)) (As := []) (rest := []) (r_thrown (C := r.2.2) (R := r.2.2) hok.1.fix) ln_L_158 dL_law_1343 (z_rc (ci := 20) (K := (20, 0, 0)) rfl (gl_20 hok.1.fix) rfl) rfl rfl (Nat.le_of_ble_eq_true rfl) ⟨by decide, by decide⟩ ⟨rfl, rfl⟩ ⟨(show k + 2 ≤ 630091 by omega), (show n + 12 ≤ 7125959 by omega)⟩ rfl gq_nox2 ?_
  rw [hok.2]
  refine y_iload (pc := 1346) o dL_law_1346 rfl ?_
  refine y_icmp_eq (pc := 1348) (tgt := 1353) o dL_law_1348 rfl (fun (b1 : r.1 = r.1) => ?_) (fun b1 => absurd rfl b1)
  refine y_iload (pc := 1353) o dL_law_1353 rfl ?_
  refine y_if_ne (pc := 1355) (tgt := 1370) o dL_law_1355 rfl (fun (b2 : ¬ r.1 = 0) => ?_) (fun (b2 : r.1 = 0) => ?_)
  · refine y_goto (pc := 1370) (tgt := 3021) o dL_law_1370 rfl ?_
    refine y_lv [2, 3, 4, 5, 6, 7] (lv' := [(5, .int (Int32.ofNat (6 * j))), (4, .ref (o4)), (3, .ref (o3)), (2, .ref (ad2 (20, 0, 0))), (1, .ref (ad2 (0, 0, 0))), (0, .ref (b))]) rfl ?_
    exact y_wide (by omega) (by omega) (K _ _ _ _ (hok.1))
  refine y_aload_n (pc := 1358) o dL_law_1358 rfl ?_
  refine y_iconst (pc := 1359) (x := 0) o dL_law_1359 (by decide) ?_
  refine z_laldT (pc := 1360) (i := 0) (v := g5 0) o 0 dL_law_1360 rfl (by unfold vp_in; decide) rfl ?_
  refine y_iload (pc := 1361) o dL_law_1361 rfl ?_
  refine y_i2l (pc := 1363) o dL_law_1363 ?_
  refine y_lcmp (pc := 1364) o dL_law_1364 ?_
  refine y_if_eq (pc := 1365) (tgt := 1370) o dL_law_1365 rfl (fun (b3 : (lg_cmp (g5 0) x.toInt64) = 0) => ?_) (fun b3 => absurd (gl0 (by rw [hg b2, hx b2])) b3)
  refine y_goto (pc := 1370) (tgt := 3021) o dL_law_1370 rfl ?_
  refine y_lv [2, 3, 4, 5, 6, 7] (lv' := [(5, .int (Int32.ofNat (6 * j))), (4, .ref (o4)), (3, .ref (o3)), (2, .ref (ad2 (20, 0, 0))), (1, .ref (ad2 (0, 0, 0))), (0, .ref (b))]) rfl ?_
  exact y_wide (by omega) (by omega) (K _ _ _ _ (hok.1))

theorem lc_draw {κ : gq_K} {f : gq_F} {b L j k n o3 o4 : Nat} {xs : Nat → Int32} {ad : gKey → Nat} {C : gG} {g3 : Nat → Int64} {g4 : Nat → UInt64} (o : gq_Ok κ mL_law f) (sc : gq_Sc f b L xs) (hL : L ≤ 3072) (hj : 6 * j + 6 ≤ L) (hI : gI j C) (hk : k + 40 ≤ 630091) (hn9 : n + 700 ≤ 7125959) (K : ∀ (C' : gG) (ad' : gKey → Nat) (g3 : Nat → Int64) (g4 : Nat → UInt64), gI (j + 1) C' → gq_Y κ mL_law gQL gq_no f (gLP κ ad' C' o3 g3 o4 g4) (gLV ad' j o3 o4 b) 3021 [] (k + 40) (n + 700)) : gq_Y κ mL_law gQL gq_no f (gLP κ ad C o3 g3 o4 g4) (gLV ad j o3 o4 b) 1373 [] k n := by
  obtain ⟨C0, hC0⟩ : ∃ C0, gup C (0, 0, 0) 5 0 = C0 := ⟨_, rfl⟩
  have hI0 : gI j C0 := by rw [← hC0]; exact hI.up (Nat.le_refl _) (by omega)
  have h50 : C0.1 (0, 0, 0) 5 = 0 := by rw [← hC0]; exact gup_v _ _ _ _
  show gq_Y κ mL_law gQL gq_no f (gR κ ad (C, C) [(o3, .inl (κ.2.1 1, 1, .inr (.inl g3))), (o4, .inl (κ.2.1 2, 1, .inr (.inr (.inr (.inl g4)))))]) [(5, .int (Int32.ofNat (6 * j))), (4, .ref o4), (3, .ref o3), (2, .ref (ad (20, 0, 0))), (1, .ref (ad (0, 0, 0))), (0, .ref b)] 1373 [] k n
  refine y_aload_n (pc := 1373) o dL_law_1373 rfl ?_
  refine y_aload_n (pc := 1374) o dL_law_1374 rfl ?_
  refine y_iload (pc := 1375) o dL_law_1375 rfl ?_
  refine y_iconst (pc := 1377) (x := 1) o dL_law_1377 (by decide) ?_
  refine y_iadd (pc := 1378) o dL_law_1378 ?_
  refine y_sld (pc := 1379) o sc (6 * j + 1) (Int32.ofNat_add _ _).symm (by omega) hL dL_law_1379 ?_
  refine y_aload_n (pc := 1380) o dL_law_1380 rfl ?_
  have hok := i_draw hI0 (by omega) h50 (xs (6 * j + 1))
  have hw := w_draw (κ := κ) (ad := ad) (R := C) (T := [(o4, .inl (κ.2.1 2, 1, .inr (.inr (.inr (.inl g4)))))]) hI0 o3 g3 (xs (6 * j + 1))
  have hm9 := fun (ad1 : gKey → Nat) (T1 : List (Nat × va_E)) => r_draw (κ := κ) (ad := ad1) (C := (F_draw C0 (xs (6 * j + 1))).2.2) (T := T1) hC0 hI0 (by omega) (xs (6 * j + 1))
  generalize F_draw C0 (xs (6 * j + 1)) = r at hok hw hm9
  refine y_mono (P' := gR κ ad (C0, C) [(o3, .inl (κ.2.1 1, 1, .inr (.inl g3))), (o4, .inl (κ.2.1 2, 1, .inr (.inr (.inr (.inl g4)))))]) (fun h hr => by rw [← hC0]; exact hr.ghostC (0, 0, 0) 5 0 (fun _ _ _ => rfl) (fun _ _ => rfl)) ?_
  refine y_callSW (pc := 1381) (k := k) (n := n) o (As := [.ref (ad (0, 0, 0)), .int (xs (6 * j + 1)), .ref (o3)]) (rest := []) hw ls_L_218 dL_law_1381 rfl rfl (Nat.le_of_ble_eq_true rfl) ⟨by decide, by decide⟩ ⟨(show k + 2 ≤ 630091 by omega), (show n + 12 ≤ 7125959 by omega)⟩ (fun _ e => e) (fun v => y_and fun ev => y_ex fun g5 => y_ex fun ad1 => y_and fun hg => y_and fun h0 => y_and fun h20 => ?_)
  subst ev
  refine z_stk (st' := [.int r.1]) (k' := k + 2) (n' := n + 12) rfl ⟨rfl, rfl⟩ ?_
  rw [← h0, ← h20]
  refine y_istore (pc := 1384) (i := 6) (lv' := [(6, .int (r.1)), (5, .int (Int32.ofNat (6 * j))), (4, .ref (o4)), (3, .ref (o3)), (2, .ref (ad1 (20, 0, 0))), (1, .ref (ad1 (0, 0, 0))), (0, .ref (b))]) o dL_law_1384 (by decide) rfl ?_
  refine y_aload_n (pc := 1386) o dL_law_1386 rfl ?_
  refine y_aload_n (pc := 1387) o dL_law_1387 rfl ?_
  refine y_iload (pc := 1388) o dL_law_1388 rfl ?_
  refine y_iconst (pc := 1390) (x := 1) o dL_law_1390 (by decide) ?_
  refine y_iadd (pc := 1391) o dL_law_1391 ?_
  refine y_sld (pc := 1392) o sc (6 * j + 1) (Int32.ofNat_add _ _).symm (by omega) hL dL_law_1392 ?_
  refine y_callV (pc := 1393) (k := k + 2) (n := n + 12) o (b := ad1 (20, 0, 0)) (As := [.int (xs (6 * j + 1))]) (rest := []) (hm9 _ _) ln_L_220 dL_law_1393 (z_rc (ci := 20) (K := (20, 0, 0)) rfl (gl_20 hI.fix) rfl) rfl rfl (Nat.le_of_ble_eq_true rfl) ⟨by decide, by decide⟩ ⟨(show k + 2 ≤ 630091 by omega), (show n + 12 ≤ 7125959 by omega)⟩ (fun _ e => e) rfl gq_nox2 (fun v => y_and fun ⟨x, ev, hx⟩ => y_ex fun ad2 => y_and fun q0 => y_and fun q20 => ?_)
  subst ev
  refine z_stk (st' := [.int (x)]) (k' := k + 2) (n' := n + 12) rfl ⟨rfl, rfl⟩ ?_
  rw [← q0, ← q20]
  refine y_istore (pc := 1396) (i := 7) (lv' := [(7, .int (x)), (6, .int (r.1)), (5, .int (Int32.ofNat (6 * j))), (4, .ref (o4)), (3, .ref (o3)), (2, .ref (ad2 (20, 0, 0))), (1, .ref (ad2 (0, 0, 0))), (0, .ref (b))]) o dL_law_1396 (by decide) rfl ?_
  refine y_aload_n (pc := 1398) o dL_law_1398 rfl ?_
  refine z_callV (pc := 1399) (k := k + 2) (n := n + 12) (k' := k + 2) (n' := n + 12) o (b := ad2 (20, 0, 0)) (As := []) (rest := []) (r_thrown (C := r.2.2) (R := r.2.2) hok.1.fix) ln_L_158 dL_law_1399 (z_rc (ci := 20) (K := (20, 0, 0)) rfl (gl_20 hok.1.fix) rfl) rfl rfl (Nat.le_of_ble_eq_true rfl) ⟨by decide, by decide⟩ ⟨rfl, rfl⟩ ⟨(show k + 2 ≤ 630091 by omega), (show n + 12 ≤ 7125959 by omega)⟩ rfl gq_nox2 ?_
  rw [hok.2]
  refine y_iload (pc := 1402) o dL_law_1402 rfl ?_
  refine y_icmp_eq (pc := 1404) (tgt := 1409) o dL_law_1404 rfl (fun (b1 : r.1 = r.1) => ?_) (fun b1 => absurd rfl b1)
  refine y_iload (pc := 1409) o dL_law_1409 rfl ?_
  refine y_if_ne (pc := 1411) (tgt := 1426) o dL_law_1411 rfl (fun (b2 : ¬ r.1 = 0) => ?_) (fun (b2 : r.1 = 0) => ?_)
  · refine y_goto (pc := 1426) (tgt := 3021) o dL_law_1426 rfl ?_
    refine y_lv [2, 3, 4, 5, 6, 7] (lv' := [(5, .int (Int32.ofNat (6 * j))), (4, .ref (o4)), (3, .ref (o3)), (2, .ref (ad2 (20, 0, 0))), (1, .ref (ad2 (0, 0, 0))), (0, .ref (b))]) rfl ?_
    exact y_wide (by omega) (by omega) (K _ _ _ _ (hok.1))
  refine y_aload_n (pc := 1414) o dL_law_1414 rfl ?_
  refine y_iconst (pc := 1415) (x := 0) o dL_law_1415 (by decide) ?_
  refine z_laldT (pc := 1416) (i := 0) (v := g5 0) o 0 dL_law_1416 rfl (by unfold vp_in; decide) rfl ?_
  refine y_iload (pc := 1417) o dL_law_1417 rfl ?_
  refine y_i2l (pc := 1419) o dL_law_1419 ?_
  refine y_lcmp (pc := 1420) o dL_law_1420 ?_
  refine y_if_eq (pc := 1421) (tgt := 1426) o dL_law_1421 rfl (fun (b3 : (lg_cmp (g5 0) x.toInt64) = 0) => ?_) (fun b3 => absurd (gl0 (by rw [hg b2, hx b2])) b3)
  refine y_goto (pc := 1426) (tgt := 3021) o dL_law_1426 rfl ?_
  refine y_lv [2, 3, 4, 5, 6, 7] (lv' := [(5, .int (Int32.ofNat (6 * j))), (4, .ref (o4)), (3, .ref (o3)), (2, .ref (ad2 (20, 0, 0))), (1, .ref (ad2 (0, 0, 0))), (0, .ref (b))]) rfl ?_
  exact y_wide (by omega) (by omega) (K _ _ _ _ (hok.1))

theorem lc_check {κ : gq_K} {f : gq_F} {b L j k n o3 o4 : Nat} {xs : Nat → Int32} {ad : gKey → Nat} {C : gG} {g3 : Nat → Int64} {g4 : Nat → UInt64} (o : gq_Ok κ mL_law f) (sc : gq_Sc f b L xs) (hL : L ≤ 3072) (hj : 6 * j + 6 ≤ L) (hI : gI j C) (hk : k + 40 ≤ 630091) (hn9 : n + 700 ≤ 7125959) (K : ∀ (C' : gG) (ad' : gKey → Nat) (g3 : Nat → Int64) (g4 : Nat → UInt64), gI (j + 1) C' → gq_Y κ mL_law gQL gq_no f (gLP κ ad' C' o3 g3 o4 g4) (gLV ad' j o3 o4 b) 3021 [] (k + 40) (n + 700)) : gq_Y κ mL_law gQL gq_no f (gLP κ ad C o3 g3 o4 g4) (gLV ad j o3 o4 b) 1429 [] k n := by
  obtain ⟨C0, hC0⟩ : ∃ C0, gup C (0, 0, 0) 5 0 = C0 := ⟨_, rfl⟩
  have hI0 : gI j C0 := by rw [← hC0]; exact hI.up (Nat.le_refl _) (by omega)
  have h50 : C0.1 (0, 0, 0) 5 = 0 := by rw [← hC0]; exact gup_v _ _ _ _
  show gq_Y κ mL_law gQL gq_no f (gR κ ad (C, C) [(o3, .inl (κ.2.1 1, 1, .inr (.inl g3))), (o4, .inl (κ.2.1 2, 1, .inr (.inr (.inr (.inl g4)))))]) [(5, .int (Int32.ofNat (6 * j))), (4, .ref o4), (3, .ref o3), (2, .ref (ad (20, 0, 0))), (1, .ref (ad (0, 0, 0))), (0, .ref b)] 1429 [] k n
  refine y_aload_n (pc := 1429) o dL_law_1429 rfl ?_
  have hok := i_check hI0 (by omega) h50
  have hw := p_check (κ := κ) (ad := ad) (R := C) (T := [(o3, .inl (κ.2.1 1, 1, .inr (.inl g3))), (o4, .inl (κ.2.1 2, 1, .inr (.inr (.inr (.inl g4)))))]) hI0.fix hI0.cnt hI0.mach
  have hm9 := fun (ad1 : gKey → Nat) (T1 : List (Nat × va_E)) => r_check (κ := κ) (ad := ad1) (C := (F_check C0).2.2) (T := T1) hC0 hI0 (by omega)
  generalize F_check C0 = r at hok hw hm9
  refine y_mono (P' := gR κ ad (C0, C) [(o3, .inl (κ.2.1 1, 1, .inr (.inl g3))), (o4, .inl (κ.2.1 2, 1, .inr (.inr (.inr (.inl g4)))))]) (fun h hr => by rw [← hC0]; exact hr.ghostC (0, 0, 0) 5 0 (fun _ _ _ => rfl) (fun _ _ => rfl)) ?_
  refine y_callV (pc := 1430) (k := k) (n := n) o (b := ad (0, 0, 0)) (As := []) (rest := []) hw ln_L_221 dL_law_1430 (z_rc (ci := 15) (K := (0, 0, 0)) rfl (gl_0 hI0.fix) rfl) rfl rfl (Nat.le_of_ble_eq_true rfl) ⟨by decide, by decide⟩ ⟨(show k ≤ 630091 by omega), (show n ≤ 7125959 by omega)⟩ (fun _ e => e) rfl (fun x h hE => absurd hE.1 List.not_mem_nil) (fun v => y_and fun hz => y_and fun ev => y_ex fun ad1 => y_and fun h0 => y_and fun h20 => ?_)
  subst ev
  refine z_stk (st' := [.int (r.2.1)]) (k' := k) (n' := n) rfl ⟨rfl, rfl⟩ ?_
  rw [← h0, ← h20]
  refine y_aload_n (pc := 1433) o dL_law_1433 rfl ?_
  refine y_callV (pc := 1434) (k := k) (n := n) o (b := ad1 (20, 0, 0)) (As := []) (rest := [.int (r.2.1)]) (hm9 _ _) ln_L_224 dL_law_1434 (z_rc (ci := 20) (K := (20, 0, 0)) rfl (gl_20 hI.fix) rfl) rfl rfl (Nat.le_of_ble_eq_true rfl) ⟨by decide, by decide⟩ ⟨(show k ≤ 630091 by omega), (show n ≤ 7125959 by omega)⟩ (fun _ e => e) rfl gq_nox2 (fun v => y_and fun ⟨x, ev, hx⟩ => y_ex fun ad2 => y_and fun q0 => y_and fun q20 => ?_)
  subst ev
  refine z_stk (st' := [.int (x), .int (r.2.1)]) (k' := k) (n' := n) rfl ⟨rfl, rfl⟩ ?_
  rw [← q0, ← q20]
  refine y_icmp_eq (pc := 1437) (tgt := 3021) o dL_law_1437 rfl (fun (b1 : r.2.1 = x) => ?_) (fun b1 => absurd (hx hz).symm b1)
  exact y_wide (by omega) (by omega) (K _ _ _ _ (hok.1))

theorem lc_slats {κ : gq_K} {f : gq_F} {b L j k n o3 o4 : Nat} {xs : Nat → Int32} {ad : gKey → Nat} {C : gG} {g3 : Nat → Int64} {g4 : Nat → UInt64} (o : gq_Ok κ mL_law f) (sc : gq_Sc f b L xs) (hL : L ≤ 3072) (hj : 6 * j + 6 ≤ L) (hI : gI j C) (hk : k + 40 ≤ 630091) (hn9 : n + 700 ≤ 7125959) (K : ∀ (C' : gG) (ad' : gKey → Nat) (g3 : Nat → Int64) (g4 : Nat → UInt64), gI (j + 1) C' → gq_Y κ mL_law gQL gq_no f (gLP κ ad' C' o3 g3 o4 g4) (gLV ad' j o3 o4 b) 3021 [] (k + 40) (n + 700)) : gq_Y κ mL_law gQL gq_no f (gLP κ ad C o3 g3 o4 g4) (gLV ad j o3 o4 b) 1442 [] k n := by
  obtain ⟨C0, hC0⟩ : ∃ C0, gup C (0, 0, 0) 5 0 = C0 := ⟨_, rfl⟩
  have hI0 : gI j C0 := by rw [← hC0]; exact hI.up (Nat.le_refl _) (by omega)
  have h50 : C0.1 (0, 0, 0) 5 = 0 := by rw [← hC0]; exact gup_v _ _ _ _
  show gq_Y κ mL_law gQL gq_no f (gR κ ad (C, C) [(o3, .inl (κ.2.1 1, 1, .inr (.inl g3))), (o4, .inl (κ.2.1 2, 1, .inr (.inr (.inr (.inl g4)))))]) [(5, .int (Int32.ofNat (6 * j))), (4, .ref o4), (3, .ref o3), (2, .ref (ad (20, 0, 0))), (1, .ref (ad (0, 0, 0))), (0, .ref b)] 1442 [] k n
  refine y_aload_n (pc := 1442) o dL_law_1442 rfl ?_
  refine y_aload_n (pc := 1443) o dL_law_1443 rfl ?_
  refine y_iload (pc := 1444) o dL_law_1444 rfl ?_
  refine y_iconst (pc := 1446) (x := 1) o dL_law_1446 (by decide) ?_
  refine y_iadd (pc := 1447) o dL_law_1447 ?_
  refine y_sld (pc := 1448) o sc (6 * j + 1) (Int32.ofNat_add _ _).symm (by omega) hL dL_law_1448 ?_
  refine y_i2c (pc := 1449) (v := gc16 (xs (6 * j + 1))) o dL_law_1449 rfl ?_
  refine y_aload_n (pc := 1450) o dL_law_1450 rfl ?_
  refine y_iload (pc := 1451) o dL_law_1451 rfl ?_
  refine y_iconst (pc := 1453) (x := 2) o dL_law_1453 (by decide) ?_
  refine y_iadd (pc := 1454) o dL_law_1454 ?_
  refine y_sld (pc := 1455) o sc (6 * j + 2) (Int32.ofNat_add _ _).symm (by omega) hL dL_law_1455 ?_
  refine y_aload_n (pc := 1456) o dL_law_1456 rfl ?_
  refine y_iload (pc := 1457) o dL_law_1457 rfl ?_
  refine y_iconst (pc := 1459) (x := 3) o dL_law_1459 (by decide) ?_
  refine y_iadd (pc := 1460) o dL_law_1460 ?_
  refine y_sld (pc := 1461) o sc (6 * j + 3) (Int32.ofNat_add _ _).symm (by omega) hL dL_law_1461 ?_
  refine y_aload_n (pc := 1462) o dL_law_1462 rfl ?_
  refine y_iload (pc := 1463) o dL_law_1463 rfl ?_
  refine y_iconst (pc := 1465) (x := 4) o dL_law_1465 (by decide) ?_
  refine y_iadd (pc := 1466) o dL_law_1466 ?_
  refine y_sld (pc := 1467) o sc (6 * j + 4) (Int32.ofNat_add _ _).symm (by omega) hL dL_law_1467 ?_
  refine y_aload_n (pc := 1468) o dL_law_1468 rfl ?_
  have hok := i_slats hI0 (by omega) h50 (gc16 (xs (6 * j + 1))) (xs (6 * j + 2)) (xs (6 * j + 3)) (xs (6 * j + 4))
  have hw := w_slats (κ := κ) (ad := ad) (R := C) (T := [(o4, .inl (κ.2.1 2, 1, .inr (.inr (.inr (.inl g4)))))]) hI0 o3 g3 (gc16 (xs (6 * j + 1))) (xs (6 * j + 2)) (xs (6 * j + 3)) (xs (6 * j + 4))
  have hm9 := fun (ad1 : gKey → Nat) (T1 : List (Nat × va_E)) => r_slats (κ := κ) (ad := ad1) (C := (F_slats C0 (gc16 (xs (6 * j + 1))) (xs (6 * j + 2)) (xs (6 * j + 3)) (xs (6 * j + 4))).2.2) (T := T1) hC0 hI0 (by omega) (gc16 (xs (6 * j + 1))) (xs (6 * j + 2)) (xs (6 * j + 3)) (xs (6 * j + 4))
  generalize F_slats C0 (gc16 (xs (6 * j + 1))) (xs (6 * j + 2)) (xs (6 * j + 3)) (xs (6 * j + 4)) = r at hok hw hm9
  refine y_mono (P' := gR κ ad (C0, C) [(o3, .inl (κ.2.1 1, 1, .inr (.inl g3))), (o4, .inl (κ.2.1 2, 1, .inr (.inr (.inr (.inl g4)))))]) (fun h hr => by rw [← hC0]; exact hr.ghostC (0, 0, 0) 5 0 (fun _ _ _ => rfl) (fun _ _ => rfl)) ?_
  refine y_callSW (pc := 1469) (k := k) (n := n) o (As := [.ref (ad (0, 0, 0)), .int (gc16 (xs (6 * j + 1))), .int (xs (6 * j + 2)), .int (xs (6 * j + 3)), .int (xs (6 * j + 4)), .ref (o3)]) (rest := []) hw ls_L_225 dL_law_1469 rfl rfl (Nat.le_of_ble_eq_true rfl) ⟨by decide, by decide⟩ ⟨(show k + 3 ≤ 630091 by omega), (show n + 269 ≤ 7125959 by omega)⟩ (fun _ e => e) (fun v => y_and fun ev => y_ex fun g5 => y_ex fun ad1 => y_and fun hg => y_and fun h0 => y_and fun h20 => ?_)
  subst ev
  refine z_stk (st' := [.int r.1]) (k' := k + 3) (n' := n + 269) rfl ⟨rfl, rfl⟩ ?_
  rw [← h0, ← h20]
  refine y_istore (pc := 1472) (i := 6) (lv' := [(6, .int (r.1)), (5, .int (Int32.ofNat (6 * j))), (4, .ref (o4)), (3, .ref (o3)), (2, .ref (ad1 (20, 0, 0))), (1, .ref (ad1 (0, 0, 0))), (0, .ref (b))]) o dL_law_1472 (by decide) rfl ?_
  refine y_aload_n (pc := 1474) o dL_law_1474 rfl ?_
  refine y_aload_n (pc := 1475) o dL_law_1475 rfl ?_
  refine y_iload (pc := 1476) o dL_law_1476 rfl ?_
  refine y_iconst (pc := 1478) (x := 1) o dL_law_1478 (by decide) ?_
  refine y_iadd (pc := 1479) o dL_law_1479 ?_
  refine y_sld (pc := 1480) o sc (6 * j + 1) (Int32.ofNat_add _ _).symm (by omega) hL dL_law_1480 ?_
  refine y_i2c (pc := 1481) (v := gc16 (xs (6 * j + 1))) o dL_law_1481 rfl ?_
  refine y_aload_n (pc := 1482) o dL_law_1482 rfl ?_
  refine y_iload (pc := 1483) o dL_law_1483 rfl ?_
  refine y_iconst (pc := 1485) (x := 2) o dL_law_1485 (by decide) ?_
  refine y_iadd (pc := 1486) o dL_law_1486 ?_
  refine y_sld (pc := 1487) o sc (6 * j + 2) (Int32.ofNat_add _ _).symm (by omega) hL dL_law_1487 ?_
  refine y_aload_n (pc := 1488) o dL_law_1488 rfl ?_
  refine y_iload (pc := 1489) o dL_law_1489 rfl ?_
  refine y_iconst (pc := 1491) (x := 3) o dL_law_1491 (by decide) ?_
  refine y_iadd (pc := 1492) o dL_law_1492 ?_
  refine y_sld (pc := 1493) o sc (6 * j + 3) (Int32.ofNat_add _ _).symm (by omega) hL dL_law_1493 ?_
  refine y_aload_n (pc := 1494) o dL_law_1494 rfl ?_
  refine y_iload (pc := 1495) o dL_law_1495 rfl ?_
  refine y_iconst (pc := 1497) (x := 4) o dL_law_1497 (by decide) ?_
  refine y_iadd (pc := 1498) o dL_law_1498 ?_
  refine y_sld (pc := 1499) o sc (6 * j + 4) (Int32.ofNat_add _ _).symm (by omega) hL dL_law_1499 ?_
  refine y_callV (pc := 1500) (k := k + 3) (n := n + 269) o (b := ad1 (20, 0, 0)) (As := [.int (gc16 (xs (6 * j + 1))), .int (xs (6 * j + 2)), .int (xs (6 * j + 3)), .int (xs (6 * j + 4))]) (rest := []) (hm9 _ _) ln_L_227 dL_law_1500 (z_rc (ci := 20) (K := (20, 0, 0)) rfl (gl_20 hI.fix) rfl) rfl rfl (Nat.le_of_ble_eq_true rfl) ⟨by decide, by decide⟩ ⟨(show k + 3 + 2 ≤ 630091 by omega), (show n + 269 + 262 ≤ 7125959 by omega)⟩ (fun _ e => e) rfl gq_nox2 (fun v => y_and fun ⟨x, ev, hx⟩ => y_ex fun ad2 => y_and fun q0 => y_and fun q20 => ?_)
  subst ev
  refine z_stk (st' := [.int (x)]) (k' := k + 3 + 2) (n' := n + 269 + 262) rfl ⟨rfl, rfl⟩ ?_
  rw [← q0, ← q20]
  refine y_istore (pc := 1503) (i := 7) (lv' := [(7, .int (x)), (6, .int (r.1)), (5, .int (Int32.ofNat (6 * j))), (4, .ref (o4)), (3, .ref (o3)), (2, .ref (ad2 (20, 0, 0))), (1, .ref (ad2 (0, 0, 0))), (0, .ref (b))]) o dL_law_1503 (by decide) rfl ?_
  refine y_aload_n (pc := 1505) o dL_law_1505 rfl ?_
  refine z_callV (pc := 1506) (k := k + 3 + 2) (n := n + 269 + 262) (k' := k + 3 + 2) (n' := n + 269 + 262) o (b := ad2 (20, 0, 0)) (As := []) (rest := []) (r_thrown (C := r.2.2) (R := r.2.2) hok.1.fix) ln_L_158 dL_law_1506 (z_rc (ci := 20) (K := (20, 0, 0)) rfl (gl_20 hok.1.fix) rfl) rfl rfl (Nat.le_of_ble_eq_true rfl) ⟨by decide, by decide⟩ ⟨rfl, rfl⟩ ⟨(show k + 3 + 2 ≤ 630091 by omega), (show n + 269 + 262 ≤ 7125959 by omega)⟩ rfl gq_nox2 ?_
  rw [hok.2]
  refine y_iload (pc := 1509) o dL_law_1509 rfl ?_
  refine y_icmp_eq (pc := 1511) (tgt := 1516) o dL_law_1511 rfl (fun (b1 : r.1 = r.1) => ?_) (fun b1 => absurd rfl b1)
  refine y_iload (pc := 1516) o dL_law_1516 rfl ?_
  refine y_if_ne (pc := 1518) (tgt := 1533) o dL_law_1518 rfl (fun (b2 : ¬ r.1 = 0) => ?_) (fun (b2 : r.1 = 0) => ?_)
  · refine y_goto (pc := 1533) (tgt := 3021) o dL_law_1533 rfl ?_
    refine y_lv [2, 3, 4, 5, 6, 7] (lv' := [(5, .int (Int32.ofNat (6 * j))), (4, .ref (o4)), (3, .ref (o3)), (2, .ref (ad2 (20, 0, 0))), (1, .ref (ad2 (0, 0, 0))), (0, .ref (b))]) rfl ?_
    exact y_wide (by omega) (by omega) (K _ _ _ _ (hok.1))
  refine y_aload_n (pc := 1521) o dL_law_1521 rfl ?_
  refine y_iconst (pc := 1522) (x := 0) o dL_law_1522 (by decide) ?_
  refine z_laldT (pc := 1523) (i := 0) (v := g5 0) o 0 dL_law_1523 rfl (by unfold vp_in; decide) rfl ?_
  refine y_iload (pc := 1524) o dL_law_1524 rfl ?_
  refine y_i2l (pc := 1526) o dL_law_1526 ?_
  refine y_lcmp (pc := 1527) o dL_law_1527 ?_
  refine y_if_eq (pc := 1528) (tgt := 1533) o dL_law_1528 rfl (fun (b3 : (lg_cmp (g5 0) x.toInt64) = 0) => ?_) (fun b3 => absurd (gl0 (by rw [hg b2, hx b2])) b3)
  refine y_goto (pc := 1533) (tgt := 3021) o dL_law_1533 rfl ?_
  refine y_lv [2, 3, 4, 5, 6, 7] (lv' := [(5, .int (Int32.ofNat (6 * j))), (4, .ref (o4)), (3, .ref (o3)), (2, .ref (ad2 (20, 0, 0))), (1, .ref (ad2 (0, 0, 0))), (0, .ref (b))]) rfl ?_
  exact y_wide (by omega) (by omega) (K _ _ _ _ (hok.1))

theorem lc_season {κ : gq_K} {f : gq_F} {b L j k n o3 o4 : Nat} {xs : Nat → Int32} {ad : gKey → Nat} {C : gG} {g3 : Nat → Int64} {g4 : Nat → UInt64} (o : gq_Ok κ mL_law f) (sc : gq_Sc f b L xs) (hL : L ≤ 3072) (hj : 6 * j + 6 ≤ L) (hI : gI j C) (hk : k + 40 ≤ 630091) (hn9 : n + 700 ≤ 7125959) (K : ∀ (C' : gG) (ad' : gKey → Nat) (g3 : Nat → Int64) (g4 : Nat → UInt64), gI (j + 1) C' → gq_Y κ mL_law gQL gq_no f (gLP κ ad' C' o3 g3 o4 g4) (gLV ad' j o3 o4 b) 3021 [] (k + 40) (n + 700)) : gq_Y κ mL_law gQL gq_no f (gLP κ ad C o3 g3 o4 g4) (gLV ad j o3 o4 b) 1536 [] k n := by
  obtain ⟨C0, hC0⟩ : ∃ C0, gup C (0, 0, 0) 5 0 = C0 := ⟨_, rfl⟩
  have hI0 : gI j C0 := by rw [← hC0]; exact hI.up (Nat.le_refl _) (by omega)
  have h50 : C0.1 (0, 0, 0) 5 = 0 := by rw [← hC0]; exact gup_v _ _ _ _
  show gq_Y κ mL_law gQL gq_no f (gR κ ad (C, C) [(o3, .inl (κ.2.1 1, 1, .inr (.inl g3))), (o4, .inl (κ.2.1 2, 1, .inr (.inr (.inr (.inl g4)))))]) [(5, .int (Int32.ofNat (6 * j))), (4, .ref o4), (3, .ref o3), (2, .ref (ad (20, 0, 0))), (1, .ref (ad (0, 0, 0))), (0, .ref b)] 1536 [] k n
  refine y_aload_n (pc := 1536) o dL_law_1536 rfl ?_
  refine y_aload_n (pc := 1537) o dL_law_1537 rfl ?_
  refine y_iload (pc := 1538) o dL_law_1538 rfl ?_
  refine y_iconst (pc := 1540) (x := 1) o dL_law_1540 (by decide) ?_
  refine y_iadd (pc := 1541) o dL_law_1541 ?_
  refine y_sld (pc := 1542) o sc (6 * j + 1) (Int32.ofNat_add _ _).symm (by omega) hL dL_law_1542 ?_
  refine y_aload_n (pc := 1543) o dL_law_1543 rfl ?_
  refine y_iload (pc := 1544) o dL_law_1544 rfl ?_
  refine y_iconst (pc := 1546) (x := 2) o dL_law_1546 (by decide) ?_
  refine y_iadd (pc := 1547) o dL_law_1547 ?_
  refine y_sld (pc := 1548) o sc (6 * j + 2) (Int32.ofNat_add _ _).symm (by omega) hL dL_law_1548 ?_
  refine y_aload_n (pc := 1549) o dL_law_1549 rfl ?_
  have hok := i_season hI0 (by omega) h50 (xs (6 * j + 1)) (xs (6 * j + 2))
  have hw := w_season (κ := κ) (ad := ad) (R := C) (T := [(o4, .inl (κ.2.1 2, 1, .inr (.inr (.inr (.inl g4)))))]) hI0 o3 g3 (xs (6 * j + 1)) (xs (6 * j + 2))
  have hm9 := fun (ad1 : gKey → Nat) (T1 : List (Nat × va_E)) => r_season (κ := κ) (ad := ad1) (C := (F_season C0 (xs (6 * j + 1)) (xs (6 * j + 2))).2.2) (T := T1) hC0 hI0 (by omega) (xs (6 * j + 1)) (xs (6 * j + 2))
  generalize F_season C0 (xs (6 * j + 1)) (xs (6 * j + 2)) = r at hok hw hm9
  refine y_mono (P' := gR κ ad (C0, C) [(o3, .inl (κ.2.1 1, 1, .inr (.inl g3))), (o4, .inl (κ.2.1 2, 1, .inr (.inr (.inr (.inl g4)))))]) (fun h hr => by rw [← hC0]; exact hr.ghostC (0, 0, 0) 5 0 (fun _ _ _ => rfl) (fun _ _ => rfl)) ?_
  refine y_callSW (pc := 1550) (k := k) (n := n) o (As := [.ref (ad (0, 0, 0)), .int (xs (6 * j + 1)), .int (xs (6 * j + 2)), .ref (o3)]) (rest := []) hw ls_L_228 dL_law_1550 rfl rfl (Nat.le_of_ble_eq_true rfl) ⟨by decide, by decide⟩ ⟨(show k + 2 ≤ 630091 by omega), (show n + 12 ≤ 7125959 by omega)⟩ (fun _ e => e) (fun v => y_and fun ev => y_ex fun g5 => y_ex fun ad1 => y_and fun hg => y_and fun h0 => y_and fun h20 => ?_)
  subst ev
  refine z_stk (st' := [.int r.1]) (k' := k + 2) (n' := n + 12) rfl ⟨rfl, rfl⟩ ?_
  rw [← h0, ← h20]
  refine y_istore (pc := 1553) (i := 6) (lv' := [(6, .int (r.1)), (5, .int (Int32.ofNat (6 * j))), (4, .ref (o4)), (3, .ref (o3)), (2, .ref (ad1 (20, 0, 0))), (1, .ref (ad1 (0, 0, 0))), (0, .ref (b))]) o dL_law_1553 (by decide) rfl ?_
  refine y_aload_n (pc := 1555) o dL_law_1555 rfl ?_
  refine y_aload_n (pc := 1556) o dL_law_1556 rfl ?_
  refine y_iload (pc := 1557) o dL_law_1557 rfl ?_
  refine y_iconst (pc := 1559) (x := 1) o dL_law_1559 (by decide) ?_
  refine y_iadd (pc := 1560) o dL_law_1560 ?_
  refine y_sld (pc := 1561) o sc (6 * j + 1) (Int32.ofNat_add _ _).symm (by omega) hL dL_law_1561 ?_
  refine y_aload_n (pc := 1562) o dL_law_1562 rfl ?_
  refine y_iload (pc := 1563) o dL_law_1563 rfl ?_
  refine y_iconst (pc := 1565) (x := 2) o dL_law_1565 (by decide) ?_
  refine y_iadd (pc := 1566) o dL_law_1566 ?_
  refine y_sld (pc := 1567) o sc (6 * j + 2) (Int32.ofNat_add _ _).symm (by omega) hL dL_law_1567 ?_
  refine y_callV (pc := 1568) (k := k + 2) (n := n + 12) o (b := ad1 (20, 0, 0)) (As := [.int (xs (6 * j + 1)), .int (xs (6 * j + 2))]) (rest := []) (hm9 _ _) ln_L_230 dL_law_1568 (z_rc (ci := 20) (K := (20, 0, 0)) rfl (gl_20 hI.fix) rfl) rfl rfl (Nat.le_of_ble_eq_true rfl) ⟨by decide, by decide⟩ ⟨(show k + 2 ≤ 630091 by omega), (show n + 12 ≤ 7125959 by omega)⟩ (fun _ e => e) rfl gq_nox2 (fun v => y_and fun ⟨x, ev, hx⟩ => y_ex fun ad2 => y_and fun q0 => y_and fun q20 => ?_)
  subst ev
  refine z_stk (st' := [.int (x)]) (k' := k + 2) (n' := n + 12) rfl ⟨rfl, rfl⟩ ?_
  rw [← q0, ← q20]
  refine y_istore (pc := 1571) (i := 7) (lv' := [(7, .int (x)), (6, .int (r.1)), (5, .int (Int32.ofNat (6 * j))), (4, .ref (o4)), (3, .ref (o3)), (2, .ref (ad2 (20, 0, 0))), (1, .ref (ad2 (0, 0, 0))), (0, .ref (b))]) o dL_law_1571 (by decide) rfl ?_
  refine y_aload_n (pc := 1573) o dL_law_1573 rfl ?_
  refine z_callV (pc := 1574) (k := k + 2) (n := n + 12) (k' := k + 2) (n' := n + 12) o (b := ad2 (20, 0, 0)) (As := []) (rest := []) (r_thrown (C := r.2.2) (R := r.2.2) hok.1.fix) ln_L_158 dL_law_1574 (z_rc (ci := 20) (K := (20, 0, 0)) rfl (gl_20 hok.1.fix) rfl) rfl rfl (Nat.le_of_ble_eq_true rfl) ⟨by decide, by decide⟩ ⟨rfl, rfl⟩ ⟨(show k + 2 ≤ 630091 by omega), (show n + 12 ≤ 7125959 by omega)⟩ rfl gq_nox2 ?_
  rw [hok.2]
  refine y_iload (pc := 1577) o dL_law_1577 rfl ?_
  refine y_icmp_eq (pc := 1579) (tgt := 1584) o dL_law_1579 rfl (fun (b1 : r.1 = r.1) => ?_) (fun b1 => absurd rfl b1)
  refine y_iload (pc := 1584) o dL_law_1584 rfl ?_
  refine y_if_ne (pc := 1586) (tgt := 1601) o dL_law_1586 rfl (fun (b2 : ¬ r.1 = 0) => ?_) (fun (b2 : r.1 = 0) => ?_)
  · refine y_goto (pc := 1601) (tgt := 3021) o dL_law_1601 rfl ?_
    refine y_lv [2, 3, 4, 5, 6, 7] (lv' := [(5, .int (Int32.ofNat (6 * j))), (4, .ref (o4)), (3, .ref (o3)), (2, .ref (ad2 (20, 0, 0))), (1, .ref (ad2 (0, 0, 0))), (0, .ref (b))]) rfl ?_
    exact y_wide (by omega) (by omega) (K _ _ _ _ (hok.1))
  refine y_aload_n (pc := 1589) o dL_law_1589 rfl ?_
  refine y_iconst (pc := 1590) (x := 0) o dL_law_1590 (by decide) ?_
  refine z_laldT (pc := 1591) (i := 0) (v := g5 0) o 0 dL_law_1591 rfl (by unfold vp_in; decide) rfl ?_
  refine y_iload (pc := 1592) o dL_law_1592 rfl ?_
  refine y_i2l (pc := 1594) o dL_law_1594 ?_
  refine y_lcmp (pc := 1595) o dL_law_1595 ?_
  refine y_if_eq (pc := 1596) (tgt := 1601) o dL_law_1596 rfl (fun (b3 : (lg_cmp (g5 0) x.toInt64) = 0) => ?_) (fun b3 => absurd (gl0 (by rw [hg b2, hx b2])) b3)
  refine y_goto (pc := 1601) (tgt := 3021) o dL_law_1601 rfl ?_
  refine y_lv [2, 3, 4, 5, 6, 7] (lv' := [(5, .int (Int32.ofNat (6 * j))), (4, .ref (o4)), (3, .ref (o3)), (2, .ref (ad2 (20, 0, 0))), (1, .ref (ad2 (0, 0, 0))), (0, .ref (b))]) rfl ?_
  exact y_wide (by omega) (by omega) (K _ _ _ _ (hok.1))

theorem lc_groove {κ : gq_K} {f : gq_F} {b L j k n o3 o4 : Nat} {xs : Nat → Int32} {ad : gKey → Nat} {C : gG} {g3 : Nat → Int64} {g4 : Nat → UInt64} (o : gq_Ok κ mL_law f) (sc : gq_Sc f b L xs) (hL : L ≤ 3072) (hj : 6 * j + 6 ≤ L) (hI : gI j C) (hk : k + 40 ≤ 630091) (hn9 : n + 700 ≤ 7125959) (K : ∀ (C' : gG) (ad' : gKey → Nat) (g3 : Nat → Int64) (g4 : Nat → UInt64), gI (j + 1) C' → gq_Y κ mL_law gQL gq_no f (gLP κ ad' C' o3 g3 o4 g4) (gLV ad' j o3 o4 b) 3021 [] (k + 40) (n + 700)) : gq_Y κ mL_law gQL gq_no f (gLP κ ad C o3 g3 o4 g4) (gLV ad j o3 o4 b) 1604 [] k n := by
  obtain ⟨C0, hC0⟩ : ∃ C0, gup C (0, 0, 0) 5 0 = C0 := ⟨_, rfl⟩
  have hI0 : gI j C0 := by rw [← hC0]; exact hI.up (Nat.le_refl _) (by omega)
  have h50 : C0.1 (0, 0, 0) 5 = 0 := by rw [← hC0]; exact gup_v _ _ _ _
  show gq_Y κ mL_law gQL gq_no f (gR κ ad (C, C) [(o3, .inl (κ.2.1 1, 1, .inr (.inl g3))), (o4, .inl (κ.2.1 2, 1, .inr (.inr (.inr (.inl g4)))))]) [(5, .int (Int32.ofNat (6 * j))), (4, .ref o4), (3, .ref o3), (2, .ref (ad (20, 0, 0))), (1, .ref (ad (0, 0, 0))), (0, .ref b)] 1604 [] k n
  refine y_aload_n (pc := 1604) o dL_law_1604 rfl ?_
  refine y_aload_n (pc := 1605) o dL_law_1605 rfl ?_
  refine y_iload (pc := 1606) o dL_law_1606 rfl ?_
  refine y_iconst (pc := 1608) (x := 1) o dL_law_1608 (by decide) ?_
  refine y_iadd (pc := 1609) o dL_law_1609 ?_
  refine y_sld (pc := 1610) o sc (6 * j + 1) (Int32.ofNat_add _ _).symm (by omega) hL dL_law_1610 ?_
  refine y_aload_n (pc := 1611) o dL_law_1611 rfl ?_
  refine y_iload (pc := 1612) o dL_law_1612 rfl ?_
  refine y_iconst (pc := 1614) (x := 2) o dL_law_1614 (by decide) ?_
  refine y_iadd (pc := 1615) o dL_law_1615 ?_
  refine y_sld (pc := 1616) o sc (6 * j + 2) (Int32.ofNat_add _ _).symm (by omega) hL dL_law_1616 ?_
  refine y_aload_n (pc := 1617) o dL_law_1617 rfl ?_
  have hok := i_groove hI0 (by omega) h50 (xs (6 * j + 1)) (xs (6 * j + 2))
  have hw := w_groove (κ := κ) (ad := ad) (R := C) (T := [(o4, .inl (κ.2.1 2, 1, .inr (.inr (.inr (.inl g4)))))]) hI0 o3 g3 (xs (6 * j + 1)) (xs (6 * j + 2))
  have hm9 := fun (ad1 : gKey → Nat) (T1 : List (Nat × va_E)) => r_groove (κ := κ) (ad := ad1) (C := (F_groove C0 (xs (6 * j + 1)) (xs (6 * j + 2))).2.2) (T := T1) hC0 hI0 (by omega) (xs (6 * j + 1)) (xs (6 * j + 2))
  generalize F_groove C0 (xs (6 * j + 1)) (xs (6 * j + 2)) = r at hok hw hm9
  refine y_mono (P' := gR κ ad (C0, C) [(o3, .inl (κ.2.1 1, 1, .inr (.inl g3))), (o4, .inl (κ.2.1 2, 1, .inr (.inr (.inr (.inl g4)))))]) (fun h hr => by rw [← hC0]; exact hr.ghostC (0, 0, 0) 5 0 (fun _ _ _ => rfl) (fun _ _ => rfl)) ?_
  refine y_callSW (pc := 1618) (k := k) (n := n) o (As := [.ref (ad (0, 0, 0)), .int (xs (6 * j + 1)), .int (xs (6 * j + 2)), .ref (o3)]) (rest := []) hw ls_L_231 dL_law_1618 rfl rfl (Nat.le_of_ble_eq_true rfl) ⟨by decide, by decide⟩ ⟨(show k + 2 ≤ 630091 by omega), (show n + 12 ≤ 7125959 by omega)⟩ (fun _ e => e) (fun v => y_and fun ev => y_ex fun g5 => y_ex fun ad1 => y_and fun hg => y_and fun h0 => y_and fun h20 => ?_)
  subst ev
  refine z_stk (st' := [.int r.1]) (k' := k + 2) (n' := n + 12) rfl ⟨rfl, rfl⟩ ?_
  rw [← h0, ← h20]
  refine y_istore (pc := 1621) (i := 6) (lv' := [(6, .int (r.1)), (5, .int (Int32.ofNat (6 * j))), (4, .ref (o4)), (3, .ref (o3)), (2, .ref (ad1 (20, 0, 0))), (1, .ref (ad1 (0, 0, 0))), (0, .ref (b))]) o dL_law_1621 (by decide) rfl ?_
  refine y_aload_n (pc := 1623) o dL_law_1623 rfl ?_
  refine y_aload_n (pc := 1624) o dL_law_1624 rfl ?_
  refine y_iload (pc := 1625) o dL_law_1625 rfl ?_
  refine y_iconst (pc := 1627) (x := 1) o dL_law_1627 (by decide) ?_
  refine y_iadd (pc := 1628) o dL_law_1628 ?_
  refine y_sld (pc := 1629) o sc (6 * j + 1) (Int32.ofNat_add _ _).symm (by omega) hL dL_law_1629 ?_
  refine y_aload_n (pc := 1630) o dL_law_1630 rfl ?_
  refine y_iload (pc := 1631) o dL_law_1631 rfl ?_
  refine y_iconst (pc := 1633) (x := 2) o dL_law_1633 (by decide) ?_
  refine y_iadd (pc := 1634) o dL_law_1634 ?_
  refine y_sld (pc := 1635) o sc (6 * j + 2) (Int32.ofNat_add _ _).symm (by omega) hL dL_law_1635 ?_
  refine y_callV (pc := 1636) (k := k + 2) (n := n + 12) o (b := ad1 (20, 0, 0)) (As := [.int (xs (6 * j + 1)), .int (xs (6 * j + 2))]) (rest := []) (hm9 _ _) ln_L_233 dL_law_1636 (z_rc (ci := 20) (K := (20, 0, 0)) rfl (gl_20 hI.fix) rfl) rfl rfl (Nat.le_of_ble_eq_true rfl) ⟨by decide, by decide⟩ ⟨(show k + 2 ≤ 630091 by omega), (show n + 12 ≤ 7125959 by omega)⟩ (fun _ e => e) rfl gq_nox2 (fun v => y_and fun ⟨x, ev, hx⟩ => y_ex fun ad2 => y_and fun q0 => y_and fun q20 => ?_)
  subst ev
  refine z_stk (st' := [.int (x)]) (k' := k + 2) (n' := n + 12) rfl ⟨rfl, rfl⟩ ?_
  rw [← q0, ← q20]
  refine y_istore (pc := 1639) (i := 7) (lv' := [(7, .int (x)), (6, .int (r.1)), (5, .int (Int32.ofNat (6 * j))), (4, .ref (o4)), (3, .ref (o3)), (2, .ref (ad2 (20, 0, 0))), (1, .ref (ad2 (0, 0, 0))), (0, .ref (b))]) o dL_law_1639 (by decide) rfl ?_
  refine y_aload_n (pc := 1641) o dL_law_1641 rfl ?_
  refine z_callV (pc := 1642) (k := k + 2) (n := n + 12) (k' := k + 2) (n' := n + 12) o (b := ad2 (20, 0, 0)) (As := []) (rest := []) (r_thrown (C := r.2.2) (R := r.2.2) hok.1.fix) ln_L_158 dL_law_1642 (z_rc (ci := 20) (K := (20, 0, 0)) rfl (gl_20 hok.1.fix) rfl) rfl rfl (Nat.le_of_ble_eq_true rfl) ⟨by decide, by decide⟩ ⟨rfl, rfl⟩ ⟨(show k + 2 ≤ 630091 by omega), (show n + 12 ≤ 7125959 by omega)⟩ rfl gq_nox2 ?_
  rw [hok.2]
  refine y_iload (pc := 1645) o dL_law_1645 rfl ?_
  refine y_icmp_eq (pc := 1647) (tgt := 1652) o dL_law_1647 rfl (fun (b1 : r.1 = r.1) => ?_) (fun b1 => absurd rfl b1)
  refine y_iload (pc := 1652) o dL_law_1652 rfl ?_
  refine y_if_ne (pc := 1654) (tgt := 1669) o dL_law_1654 rfl (fun (b2 : ¬ r.1 = 0) => ?_) (fun (b2 : r.1 = 0) => ?_)
  · refine y_goto (pc := 1669) (tgt := 3021) o dL_law_1669 rfl ?_
    refine y_lv [2, 3, 4, 5, 6, 7] (lv' := [(5, .int (Int32.ofNat (6 * j))), (4, .ref (o4)), (3, .ref (o3)), (2, .ref (ad2 (20, 0, 0))), (1, .ref (ad2 (0, 0, 0))), (0, .ref (b))]) rfl ?_
    exact y_wide (by omega) (by omega) (K _ _ _ _ (hok.1))
  refine y_aload_n (pc := 1657) o dL_law_1657 rfl ?_
  refine y_iconst (pc := 1658) (x := 0) o dL_law_1658 (by decide) ?_
  refine z_laldT (pc := 1659) (i := 0) (v := g5 0) o 0 dL_law_1659 rfl (by unfold vp_in; decide) rfl ?_
  refine y_iload (pc := 1660) o dL_law_1660 rfl ?_
  refine y_i2l (pc := 1662) o dL_law_1662 ?_
  refine y_lcmp (pc := 1663) o dL_law_1663 ?_
  refine y_if_eq (pc := 1664) (tgt := 1669) o dL_law_1664 rfl (fun (b3 : (lg_cmp (g5 0) x.toInt64) = 0) => ?_) (fun b3 => absurd (gl0 (by rw [hg b2, hx b2])) b3)
  refine y_goto (pc := 1669) (tgt := 3021) o dL_law_1669 rfl ?_
  refine y_lv [2, 3, 4, 5, 6, 7] (lv' := [(5, .int (Int32.ofNat (6 * j))), (4, .ref (o4)), (3, .ref (o3)), (2, .ref (ad2 (20, 0, 0))), (1, .ref (ad2 (0, 0, 0))), (0, .ref (b))]) rfl ?_
  exact y_wide (by omega) (by omega) (K _ _ _ _ (hok.1))

theorem lc_slat {κ : gq_K} {f : gq_F} {b L j k n o3 o4 : Nat} {xs : Nat → Int32} {ad : gKey → Nat} {C : gG} {g3 : Nat → Int64} {g4 : Nat → UInt64} (o : gq_Ok κ mL_law f) (sc : gq_Sc f b L xs) (hL : L ≤ 3072) (hj : 6 * j + 6 ≤ L) (hI : gI j C) (hk : k + 40 ≤ 630091) (hn9 : n + 700 ≤ 7125959) (K : ∀ (C' : gG) (ad' : gKey → Nat) (g3 : Nat → Int64) (g4 : Nat → UInt64), gI (j + 1) C' → gq_Y κ mL_law gQL gq_no f (gLP κ ad' C' o3 g3 o4 g4) (gLV ad' j o3 o4 b) 3021 [] (k + 40) (n + 700)) : gq_Y κ mL_law gQL gq_no f (gLP κ ad C o3 g3 o4 g4) (gLV ad j o3 o4 b) 1672 [] k n := by
  obtain ⟨C0, hC0⟩ : ∃ C0, gup C (0, 0, 0) 5 0 = C0 := ⟨_, rfl⟩
  have hI0 : gI j C0 := by rw [← hC0]; exact hI.up (Nat.le_refl _) (by omega)
  have h50 : C0.1 (0, 0, 0) 5 = 0 := by rw [← hC0]; exact gup_v _ _ _ _
  show gq_Y κ mL_law gQL gq_no f (gR κ ad (C, C) [(o3, .inl (κ.2.1 1, 1, .inr (.inl g3))), (o4, .inl (κ.2.1 2, 1, .inr (.inr (.inr (.inl g4)))))]) [(5, .int (Int32.ofNat (6 * j))), (4, .ref o4), (3, .ref o3), (2, .ref (ad (20, 0, 0))), (1, .ref (ad (0, 0, 0))), (0, .ref b)] 1672 [] k n
  refine y_aload_n (pc := 1672) o dL_law_1672 rfl ?_
  refine y_aload_n (pc := 1673) o dL_law_1673 rfl ?_
  refine y_iload (pc := 1674) o dL_law_1674 rfl ?_
  refine y_iconst (pc := 1676) (x := 1) o dL_law_1676 (by decide) ?_
  refine y_iadd (pc := 1677) o dL_law_1677 ?_
  refine y_sld (pc := 1678) o sc (6 * j + 1) (Int32.ofNat_add _ _).symm (by omega) hL dL_law_1678 ?_
  refine y_aload_n (pc := 1679) o dL_law_1679 rfl ?_
  refine y_iload (pc := 1680) o dL_law_1680 rfl ?_
  refine y_iconst (pc := 1682) (x := 2) o dL_law_1682 (by decide) ?_
  refine y_iadd (pc := 1683) o dL_law_1683 ?_
  refine y_sld (pc := 1684) o sc (6 * j + 2) (Int32.ofNat_add _ _).symm (by omega) hL dL_law_1684 ?_
  refine y_i2c (pc := 1685) (v := gc16 (xs (6 * j + 2))) o dL_law_1685 rfl ?_
  refine y_aload_n (pc := 1686) o dL_law_1686 rfl ?_
  have hok := i_slat hI0 (by omega) h50 (xs (6 * j + 1)) (gc16 (xs (6 * j + 2)))
  have hw := w_slat (κ := κ) (ad := ad) (R := C) (T := [(o4, .inl (κ.2.1 2, 1, .inr (.inr (.inr (.inl g4)))))]) hI0 o3 g3 (xs (6 * j + 1)) (gc16 (xs (6 * j + 2)))
  have hm9 := fun (ad1 : gKey → Nat) (T1 : List (Nat × va_E)) => r_slat (κ := κ) (ad := ad1) (C := (F_slat C0 (xs (6 * j + 1)) (gc16 (xs (6 * j + 2)))).2.2) (T := T1) hC0 hI0 (by omega) (xs (6 * j + 1)) (gc16 (xs (6 * j + 2)))
  generalize F_slat C0 (xs (6 * j + 1)) (gc16 (xs (6 * j + 2))) = r at hok hw hm9
  refine y_mono (P' := gR κ ad (C0, C) [(o3, .inl (κ.2.1 1, 1, .inr (.inl g3))), (o4, .inl (κ.2.1 2, 1, .inr (.inr (.inr (.inl g4)))))]) (fun h hr => by rw [← hC0]; exact hr.ghostC (0, 0, 0) 5 0 (fun _ _ _ => rfl) (fun _ _ => rfl)) ?_
  refine y_callSW (pc := 1687) (k := k) (n := n) o (As := [.ref (ad (0, 0, 0)), .int (xs (6 * j + 1)), .int (gc16 (xs (6 * j + 2))), .ref (o3)]) (rest := []) hw ls_L_234 dL_law_1687 rfl rfl (Nat.le_of_ble_eq_true rfl) ⟨by decide, by decide⟩ ⟨(show k + 2 ≤ 630091 by omega), (show n + 12 ≤ 7125959 by omega)⟩ (fun _ e => e) (fun v => y_and fun ev => y_ex fun g5 => y_ex fun ad1 => y_and fun hg => y_and fun h0 => y_and fun h20 => ?_)
  subst ev
  refine z_stk (st' := [.int r.1]) (k' := k + 2) (n' := n + 12) rfl ⟨rfl, rfl⟩ ?_
  rw [← h0, ← h20]
  refine y_istore (pc := 1690) (i := 6) (lv' := [(6, .int (r.1)), (5, .int (Int32.ofNat (6 * j))), (4, .ref (o4)), (3, .ref (o3)), (2, .ref (ad1 (20, 0, 0))), (1, .ref (ad1 (0, 0, 0))), (0, .ref (b))]) o dL_law_1690 (by decide) rfl ?_
  refine y_aload_n (pc := 1692) o dL_law_1692 rfl ?_
  refine y_aload_n (pc := 1693) o dL_law_1693 rfl ?_
  refine y_iload (pc := 1694) o dL_law_1694 rfl ?_
  refine y_iconst (pc := 1696) (x := 1) o dL_law_1696 (by decide) ?_
  refine y_iadd (pc := 1697) o dL_law_1697 ?_
  refine y_sld (pc := 1698) o sc (6 * j + 1) (Int32.ofNat_add _ _).symm (by omega) hL dL_law_1698 ?_
  refine y_aload_n (pc := 1699) o dL_law_1699 rfl ?_
  refine y_iload (pc := 1700) o dL_law_1700 rfl ?_
  refine y_iconst (pc := 1702) (x := 2) o dL_law_1702 (by decide) ?_
  refine y_iadd (pc := 1703) o dL_law_1703 ?_
  refine y_sld (pc := 1704) o sc (6 * j + 2) (Int32.ofNat_add _ _).symm (by omega) hL dL_law_1704 ?_
  refine y_i2c (pc := 1705) (v := gc16 (xs (6 * j + 2))) o dL_law_1705 rfl ?_
  refine y_callV (pc := 1706) (k := k + 2) (n := n + 12) o (b := ad1 (20, 0, 0)) (As := [.int (xs (6 * j + 1)), .int (gc16 (xs (6 * j + 2)))]) (rest := []) (hm9 _ _) ln_L_236 dL_law_1706 (z_rc (ci := 20) (K := (20, 0, 0)) rfl (gl_20 hI.fix) rfl) rfl rfl (Nat.le_of_ble_eq_true rfl) ⟨by decide, by decide⟩ ⟨(show k + 2 ≤ 630091 by omega), (show n + 12 ≤ 7125959 by omega)⟩ (fun _ e => e) rfl gq_nox2 (fun v => y_and fun ⟨x, ev, hx⟩ => y_ex fun ad2 => y_and fun q0 => y_and fun q20 => ?_)
  subst ev
  refine z_stk (st' := [.int (x)]) (k' := k + 2) (n' := n + 12) rfl ⟨rfl, rfl⟩ ?_
  rw [← q0, ← q20]
  refine y_istore (pc := 1709) (i := 7) (lv' := [(7, .int (x)), (6, .int (r.1)), (5, .int (Int32.ofNat (6 * j))), (4, .ref (o4)), (3, .ref (o3)), (2, .ref (ad2 (20, 0, 0))), (1, .ref (ad2 (0, 0, 0))), (0, .ref (b))]) o dL_law_1709 (by decide) rfl ?_
  refine y_aload_n (pc := 1711) o dL_law_1711 rfl ?_
  refine z_callV (pc := 1712) (k := k + 2) (n := n + 12) (k' := k + 2) (n' := n + 12) o (b := ad2 (20, 0, 0)) (As := []) (rest := []) (r_thrown (C := r.2.2) (R := r.2.2) hok.1.fix) ln_L_158 dL_law_1712 (z_rc (ci := 20) (K := (20, 0, 0)) rfl (gl_20 hok.1.fix) rfl) rfl rfl (Nat.le_of_ble_eq_true rfl) ⟨by decide, by decide⟩ ⟨rfl, rfl⟩ ⟨(show k + 2 ≤ 630091 by omega), (show n + 12 ≤ 7125959 by omega)⟩ rfl gq_nox2 ?_
  rw [hok.2]
  refine y_iload (pc := 1715) o dL_law_1715 rfl ?_
  refine y_icmp_eq (pc := 1717) (tgt := 1722) o dL_law_1717 rfl (fun (b1 : r.1 = r.1) => ?_) (fun b1 => absurd rfl b1)
  refine y_iload (pc := 1722) o dL_law_1722 rfl ?_
  refine y_if_ne (pc := 1724) (tgt := 1739) o dL_law_1724 rfl (fun (b2 : ¬ r.1 = 0) => ?_) (fun (b2 : r.1 = 0) => ?_)
  · refine y_goto (pc := 1739) (tgt := 3021) o dL_law_1739 rfl ?_
    refine y_lv [2, 3, 4, 5, 6, 7] (lv' := [(5, .int (Int32.ofNat (6 * j))), (4, .ref (o4)), (3, .ref (o3)), (2, .ref (ad2 (20, 0, 0))), (1, .ref (ad2 (0, 0, 0))), (0, .ref (b))]) rfl ?_
    exact y_wide (by omega) (by omega) (K _ _ _ _ (hok.1))
  refine y_aload_n (pc := 1727) o dL_law_1727 rfl ?_
  refine y_iconst (pc := 1728) (x := 0) o dL_law_1728 (by decide) ?_
  refine z_laldT (pc := 1729) (i := 0) (v := g5 0) o 0 dL_law_1729 rfl (by unfold vp_in; decide) rfl ?_
  refine y_iload (pc := 1730) o dL_law_1730 rfl ?_
  refine y_i2l (pc := 1732) o dL_law_1732 ?_
  refine y_lcmp (pc := 1733) o dL_law_1733 ?_
  refine y_if_eq (pc := 1734) (tgt := 1739) o dL_law_1734 rfl (fun (b3 : (lg_cmp (g5 0) x.toInt64) = 0) => ?_) (fun b3 => absurd (gl0 (by rw [hg b2, hx b2])) b3)
  refine y_goto (pc := 1739) (tgt := 3021) o dL_law_1739 rfl ?_
  refine y_lv [2, 3, 4, 5, 6, 7] (lv' := [(5, .int (Int32.ofNat (6 * j))), (4, .ref (o4)), (3, .ref (o3)), (2, .ref (ad2 (20, 0, 0))), (1, .ref (ad2 (0, 0, 0))), (0, .ref (b))]) rfl ?_
  exact y_wide (by omega) (by omega) (K _ _ _ _ (hok.1))

theorem lc_lay {κ : gq_K} {f : gq_F} {b L j k n o3 o4 : Nat} {xs : Nat → Int32} {ad : gKey → Nat} {C : gG} {g3 : Nat → Int64} {g4 : Nat → UInt64} (o : gq_Ok κ mL_law f) (sc : gq_Sc f b L xs) (hL : L ≤ 3072) (hj : 6 * j + 6 ≤ L) (hI : gI j C) (hk : k + 40 ≤ 630091) (hn9 : n + 700 ≤ 7125959) (K : ∀ (C' : gG) (ad' : gKey → Nat) (g3 : Nat → Int64) (g4 : Nat → UInt64), gI (j + 1) C' → gq_Y κ mL_law gQL gq_no f (gLP κ ad' C' o3 g3 o4 g4) (gLV ad' j o3 o4 b) 3021 [] (k + 40) (n + 700)) : gq_Y κ mL_law gQL gq_no f (gLP κ ad C o3 g3 o4 g4) (gLV ad j o3 o4 b) 1742 [] k n := by
  obtain ⟨C0, hC0⟩ : ∃ C0, gup C (0, 0, 0) 5 0 = C0 := ⟨_, rfl⟩
  have hI0 : gI j C0 := by rw [← hC0]; exact hI.up (Nat.le_refl _) (by omega)
  have h50 : C0.1 (0, 0, 0) 5 = 0 := by rw [← hC0]; exact gup_v _ _ _ _
  show gq_Y κ mL_law gQL gq_no f (gR κ ad (C, C) [(o3, .inl (κ.2.1 1, 1, .inr (.inl g3))), (o4, .inl (κ.2.1 2, 1, .inr (.inr (.inr (.inl g4)))))]) [(5, .int (Int32.ofNat (6 * j))), (4, .ref o4), (3, .ref o3), (2, .ref (ad (20, 0, 0))), (1, .ref (ad (0, 0, 0))), (0, .ref b)] 1742 [] k n
  refine y_aload_n (pc := 1742) o dL_law_1742 rfl ?_
  refine y_aload_n (pc := 1743) o dL_law_1743 rfl ?_
  refine y_iload (pc := 1744) o dL_law_1744 rfl ?_
  refine y_iconst (pc := 1746) (x := 1) o dL_law_1746 (by decide) ?_
  refine y_iadd (pc := 1747) o dL_law_1747 ?_
  refine y_sld (pc := 1748) o sc (6 * j + 1) (Int32.ofNat_add _ _).symm (by omega) hL dL_law_1748 ?_
  refine y_aload_n (pc := 1749) o dL_law_1749 rfl ?_
  refine y_iload (pc := 1750) o dL_law_1750 rfl ?_
  refine y_iconst (pc := 1752) (x := 2) o dL_law_1752 (by decide) ?_
  refine y_iadd (pc := 1753) o dL_law_1753 ?_
  refine y_sld (pc := 1754) o sc (6 * j + 2) (Int32.ofNat_add _ _).symm (by omega) hL dL_law_1754 ?_
  refine y_aload_n (pc := 1755) o dL_law_1755 rfl ?_
  refine y_iload (pc := 1756) o dL_law_1756 rfl ?_
  refine y_iconst (pc := 1758) (x := 3) o dL_law_1758 (by decide) ?_
  refine y_iadd (pc := 1759) o dL_law_1759 ?_
  refine y_sld (pc := 1760) o sc (6 * j + 3) (Int32.ofNat_add _ _).symm (by omega) hL dL_law_1760 ?_
  refine y_i2c (pc := 1761) (v := gc16 (xs (6 * j + 3))) o dL_law_1761 rfl ?_
  refine y_aload_n (pc := 1762) o dL_law_1762 rfl ?_
  refine y_iload (pc := 1763) o dL_law_1763 rfl ?_
  refine y_iconst (pc := 1765) (x := 4) o dL_law_1765 (by decide) ?_
  refine y_iadd (pc := 1766) o dL_law_1766 ?_
  refine y_sld (pc := 1767) o sc (6 * j + 4) (Int32.ofNat_add _ _).symm (by omega) hL dL_law_1767 ?_
  refine y_aload_n (pc := 1768) o dL_law_1768 rfl ?_
  refine y_iload (pc := 1769) o dL_law_1769 rfl ?_
  refine y_iconst (pc := 1771) (x := 5) o dL_law_1771 (by decide) ?_
  refine y_iadd (pc := 1772) o dL_law_1772 ?_
  refine y_sld (pc := 1773) o sc (6 * j + 5) (Int32.ofNat_add _ _).symm (by omega) hL dL_law_1773 ?_
  refine y_aload_n (pc := 1774) o dL_law_1774 rfl ?_
  have hok := i_lay hI0 (by omega) h50 (xs (6 * j + 1)) (xs (6 * j + 2)) (gc16 (xs (6 * j + 3))) (xs (6 * j + 4)) (xs (6 * j + 5))
  have hw := w_lay (κ := κ) (ad := ad) (R := C) (T := [(o4, .inl (κ.2.1 2, 1, .inr (.inr (.inr (.inl g4)))))]) hI0 o3 g3 (xs (6 * j + 1)) (xs (6 * j + 2)) (gc16 (xs (6 * j + 3))) (xs (6 * j + 4)) (xs (6 * j + 5))
  have hm9 := fun (ad1 : gKey → Nat) (T1 : List (Nat × va_E)) => r_lay (κ := κ) (ad := ad1) (C := (F_lay C0 (xs (6 * j + 1)) (xs (6 * j + 2)) (gc16 (xs (6 * j + 3))) (xs (6 * j + 4)) (xs (6 * j + 5))).2.2) (T := T1) hC0 hI0 (by omega) (xs (6 * j + 1)) (xs (6 * j + 2)) (gc16 (xs (6 * j + 3))) (xs (6 * j + 4)) (xs (6 * j + 5))
  generalize F_lay C0 (xs (6 * j + 1)) (xs (6 * j + 2)) (gc16 (xs (6 * j + 3))) (xs (6 * j + 4)) (xs (6 * j + 5)) = r at hok hw hm9
  refine y_mono (P' := gR κ ad (C0, C) [(o3, .inl (κ.2.1 1, 1, .inr (.inl g3))), (o4, .inl (κ.2.1 2, 1, .inr (.inr (.inr (.inl g4)))))]) (fun h hr => by rw [← hC0]; exact hr.ghostC (0, 0, 0) 5 0 (fun _ _ _ => rfl) (fun _ _ => rfl)) ?_
  refine y_callSW (pc := 1775) (k := k) (n := n) o (As := [.ref (ad (0, 0, 0)), .int (xs (6 * j + 1)), .int (xs (6 * j + 2)), .int (gc16 (xs (6 * j + 3))), .int (xs (6 * j + 4)), .int (xs (6 * j + 5)), .ref (o3)]) (rest := []) hw ls_L_237 dL_law_1775 rfl rfl (Nat.le_of_ble_eq_true rfl) ⟨by decide, by decide⟩ ⟨(show k + 5 ≤ 630091 by omega), (show n + 286 ≤ 7125959 by omega)⟩ (fun _ e => e) (fun v => y_and fun ev => y_ex fun g5 => y_ex fun ad1 => y_and fun hg => y_and fun h0 => y_and fun h20 => ?_)
  subst ev
  refine z_stk (st' := [.int r.1]) (k' := k + 5) (n' := n + 286) rfl ⟨rfl, rfl⟩ ?_
  rw [← h0, ← h20]
  refine y_istore (pc := 1778) (i := 6) (lv' := [(6, .int (r.1)), (5, .int (Int32.ofNat (6 * j))), (4, .ref (o4)), (3, .ref (o3)), (2, .ref (ad1 (20, 0, 0))), (1, .ref (ad1 (0, 0, 0))), (0, .ref (b))]) o dL_law_1778 (by decide) rfl ?_
  refine y_aload_n (pc := 1780) o dL_law_1780 rfl ?_
  refine y_aload_n (pc := 1781) o dL_law_1781 rfl ?_
  refine y_iload (pc := 1782) o dL_law_1782 rfl ?_
  refine y_iconst (pc := 1784) (x := 1) o dL_law_1784 (by decide) ?_
  refine y_iadd (pc := 1785) o dL_law_1785 ?_
  refine y_sld (pc := 1786) o sc (6 * j + 1) (Int32.ofNat_add _ _).symm (by omega) hL dL_law_1786 ?_
  refine y_aload_n (pc := 1787) o dL_law_1787 rfl ?_
  refine y_iload (pc := 1788) o dL_law_1788 rfl ?_
  refine y_iconst (pc := 1790) (x := 2) o dL_law_1790 (by decide) ?_
  refine y_iadd (pc := 1791) o dL_law_1791 ?_
  refine y_sld (pc := 1792) o sc (6 * j + 2) (Int32.ofNat_add _ _).symm (by omega) hL dL_law_1792 ?_
  refine y_aload_n (pc := 1793) o dL_law_1793 rfl ?_
  refine y_iload (pc := 1794) o dL_law_1794 rfl ?_
  refine y_iconst (pc := 1796) (x := 3) o dL_law_1796 (by decide) ?_
  refine y_iadd (pc := 1797) o dL_law_1797 ?_
  refine y_sld (pc := 1798) o sc (6 * j + 3) (Int32.ofNat_add _ _).symm (by omega) hL dL_law_1798 ?_
  refine y_i2c (pc := 1799) (v := gc16 (xs (6 * j + 3))) o dL_law_1799 rfl ?_
  refine y_aload_n (pc := 1800) o dL_law_1800 rfl ?_
  refine y_iload (pc := 1801) o dL_law_1801 rfl ?_
  refine y_iconst (pc := 1803) (x := 4) o dL_law_1803 (by decide) ?_
  refine y_iadd (pc := 1804) o dL_law_1804 ?_
  refine y_sld (pc := 1805) o sc (6 * j + 4) (Int32.ofNat_add _ _).symm (by omega) hL dL_law_1805 ?_
  refine y_aload_n (pc := 1806) o dL_law_1806 rfl ?_
  refine y_iload (pc := 1807) o dL_law_1807 rfl ?_
  refine y_iconst (pc := 1809) (x := 5) o dL_law_1809 (by decide) ?_
  refine y_iadd (pc := 1810) o dL_law_1810 ?_
  refine y_sld (pc := 1811) o sc (6 * j + 5) (Int32.ofNat_add _ _).symm (by omega) hL dL_law_1811 ?_
  refine y_callV (pc := 1812) (k := k + 5) (n := n + 286) o (b := ad1 (20, 0, 0)) (As := [.int (xs (6 * j + 1)), .int (xs (6 * j + 2)), .int (gc16 (xs (6 * j + 3))), .int (xs (6 * j + 4)), .int (xs (6 * j + 5))]) (rest := []) (hm9 _ _) ln_L_240 dL_law_1812 (z_rc (ci := 20) (K := (20, 0, 0)) rfl (gl_20 hI.fix) rfl) rfl rfl (Nat.le_of_ble_eq_true rfl) ⟨by decide, by decide⟩ ⟨(show k + 5 + 2 ≤ 630091 by omega), (show n + 286 + 267 ≤ 7125959 by omega)⟩ (fun _ e => e) rfl gq_nox2 (fun v => y_and fun ⟨x, ev, hx⟩ => y_ex fun ad2 => y_and fun q0 => y_and fun q20 => ?_)
  subst ev
  refine z_stk (st' := [.int (x)]) (k' := k + 5 + 2) (n' := n + 286 + 267) rfl ⟨rfl, rfl⟩ ?_
  rw [← q0, ← q20]
  refine y_istore (pc := 1815) (i := 7) (lv' := [(7, .int (x)), (6, .int (r.1)), (5, .int (Int32.ofNat (6 * j))), (4, .ref (o4)), (3, .ref (o3)), (2, .ref (ad2 (20, 0, 0))), (1, .ref (ad2 (0, 0, 0))), (0, .ref (b))]) o dL_law_1815 (by decide) rfl ?_
  refine y_aload_n (pc := 1817) o dL_law_1817 rfl ?_
  refine z_callV (pc := 1818) (k := k + 5 + 2) (n := n + 286 + 267) (k' := k + 5 + 2) (n' := n + 286 + 267) o (b := ad2 (20, 0, 0)) (As := []) (rest := []) (r_thrown (C := r.2.2) (R := r.2.2) hok.1.fix) ln_L_158 dL_law_1818 (z_rc (ci := 20) (K := (20, 0, 0)) rfl (gl_20 hok.1.fix) rfl) rfl rfl (Nat.le_of_ble_eq_true rfl) ⟨by decide, by decide⟩ ⟨rfl, rfl⟩ ⟨(show k + 5 + 2 ≤ 630091 by omega), (show n + 286 + 267 ≤ 7125959 by omega)⟩ rfl gq_nox2 ?_
  rw [hok.2]
  refine y_iload (pc := 1821) o dL_law_1821 rfl ?_
  refine y_icmp_eq (pc := 1823) (tgt := 1828) o dL_law_1823 rfl (fun (b1 : r.1 = r.1) => ?_) (fun b1 => absurd rfl b1)
  refine y_iload (pc := 1828) o dL_law_1828 rfl ?_
  refine y_if_ne (pc := 1830) (tgt := 1845) o dL_law_1830 rfl (fun (b2 : ¬ r.1 = 0) => ?_) (fun (b2 : r.1 = 0) => ?_)
  · refine y_goto (pc := 1845) (tgt := 3021) o dL_law_1845 rfl ?_
    refine y_lv [2, 3, 4, 5, 6, 7] (lv' := [(5, .int (Int32.ofNat (6 * j))), (4, .ref (o4)), (3, .ref (o3)), (2, .ref (ad2 (20, 0, 0))), (1, .ref (ad2 (0, 0, 0))), (0, .ref (b))]) rfl ?_
    exact y_wide (by omega) (by omega) (K _ _ _ _ (hok.1))
  refine y_aload_n (pc := 1833) o dL_law_1833 rfl ?_
  refine y_iconst (pc := 1834) (x := 0) o dL_law_1834 (by decide) ?_
  refine z_laldT (pc := 1835) (i := 0) (v := g5 0) o 0 dL_law_1835 rfl (by unfold vp_in; decide) rfl ?_
  refine y_iload (pc := 1836) o dL_law_1836 rfl ?_
  refine y_i2l (pc := 1838) o dL_law_1838 ?_
  refine y_lcmp (pc := 1839) o dL_law_1839 ?_
  refine y_if_eq (pc := 1840) (tgt := 1845) o dL_law_1840 rfl (fun (b3 : (lg_cmp (g5 0) x.toInt64) = 0) => ?_) (fun b3 => absurd (gl0 (by rw [hg b2, hx b2])) b3)
  refine y_goto (pc := 1845) (tgt := 3021) o dL_law_1845 rfl ?_
  refine y_lv [2, 3, 4, 5, 6, 7] (lv' := [(5, .int (Int32.ofNat (6 * j))), (4, .ref (o4)), (3, .ref (o3)), (2, .ref (ad2 (20, 0, 0))), (1, .ref (ad2 (0, 0, 0))), (0, .ref (b))]) rfl ?_
  exact y_wide (by omega) (by omega) (K _ _ _ _ (hok.1))

theorem lc_coat {κ : gq_K} {f : gq_F} {b L j k n o3 o4 : Nat} {xs : Nat → Int32} {ad : gKey → Nat} {C : gG} {g3 : Nat → Int64} {g4 : Nat → UInt64} (o : gq_Ok κ mL_law f) (sc : gq_Sc f b L xs) (hL : L ≤ 3072) (hj : 6 * j + 6 ≤ L) (hI : gI j C) (hk : k + 40 ≤ 630091) (hn9 : n + 700 ≤ 7125959) (K : ∀ (C' : gG) (ad' : gKey → Nat) (g3 : Nat → Int64) (g4 : Nat → UInt64), gI (j + 1) C' → gq_Y κ mL_law gQL gq_no f (gLP κ ad' C' o3 g3 o4 g4) (gLV ad' j o3 o4 b) 3021 [] (k + 40) (n + 700)) : gq_Y κ mL_law gQL gq_no f (gLP κ ad C o3 g3 o4 g4) (gLV ad j o3 o4 b) 1848 [] k n := by
  obtain ⟨C0, hC0⟩ : ∃ C0, gup C (0, 0, 0) 5 0 = C0 := ⟨_, rfl⟩
  have hI0 : gI j C0 := by rw [← hC0]; exact hI.up (Nat.le_refl _) (by omega)
  have h50 : C0.1 (0, 0, 0) 5 = 0 := by rw [← hC0]; exact gup_v _ _ _ _
  show gq_Y κ mL_law gQL gq_no f (gR κ ad (C, C) [(o3, .inl (κ.2.1 1, 1, .inr (.inl g3))), (o4, .inl (κ.2.1 2, 1, .inr (.inr (.inr (.inl g4)))))]) [(5, .int (Int32.ofNat (6 * j))), (4, .ref o4), (3, .ref o3), (2, .ref (ad (20, 0, 0))), (1, .ref (ad (0, 0, 0))), (0, .ref b)] 1848 [] k n
  refine y_aload_n (pc := 1848) o dL_law_1848 rfl ?_
  refine y_aload_n (pc := 1849) o dL_law_1849 rfl ?_
  refine y_iload (pc := 1850) o dL_law_1850 rfl ?_
  refine y_iconst (pc := 1852) (x := 1) o dL_law_1852 (by decide) ?_
  refine y_iadd (pc := 1853) o dL_law_1853 ?_
  refine y_sld (pc := 1854) o sc (6 * j + 1) (Int32.ofNat_add _ _).symm (by omega) hL dL_law_1854 ?_
  refine y_aload_n (pc := 1855) o dL_law_1855 rfl ?_
  refine y_iload (pc := 1856) o dL_law_1856 rfl ?_
  refine y_iconst (pc := 1858) (x := 2) o dL_law_1858 (by decide) ?_
  refine y_iadd (pc := 1859) o dL_law_1859 ?_
  refine y_sld (pc := 1860) o sc (6 * j + 2) (Int32.ofNat_add _ _).symm (by omega) hL dL_law_1860 ?_
  refine y_aload_n (pc := 1861) o dL_law_1861 rfl ?_
  have hok := i_coat hI0 (by omega) h50 (xs (6 * j + 1)) (xs (6 * j + 2))
  have hw := w_coat (κ := κ) (ad := ad) (R := C) (T := [(o4, .inl (κ.2.1 2, 1, .inr (.inr (.inr (.inl g4)))))]) hI0 o3 g3 (xs (6 * j + 1)) (xs (6 * j + 2))
  have hm9 := fun (ad1 : gKey → Nat) (T1 : List (Nat × va_E)) => r_coat (κ := κ) (ad := ad1) (C := (F_coat C0 (xs (6 * j + 1)) (xs (6 * j + 2))).2.2) (T := T1) hC0 hI0 (by omega) (xs (6 * j + 1)) (xs (6 * j + 2))
  generalize F_coat C0 (xs (6 * j + 1)) (xs (6 * j + 2)) = r at hok hw hm9
  refine y_mono (P' := gR κ ad (C0, C) [(o3, .inl (κ.2.1 1, 1, .inr (.inl g3))), (o4, .inl (κ.2.1 2, 1, .inr (.inr (.inr (.inl g4)))))]) (fun h hr => by rw [← hC0]; exact hr.ghostC (0, 0, 0) 5 0 (fun _ _ _ => rfl) (fun _ _ => rfl)) ?_
  refine y_callSW (pc := 1862) (k := k) (n := n) o (As := [.ref (ad (0, 0, 0)), .int (xs (6 * j + 1)), .int (xs (6 * j + 2)), .ref (o3)]) (rest := []) hw ls_L_241 dL_law_1862 rfl rfl (Nat.le_of_ble_eq_true rfl) ⟨by decide, by decide⟩ ⟨(show k + 2 ≤ 630091 by omega), (show n + 12 ≤ 7125959 by omega)⟩ (fun _ e => e) (fun v => y_and fun ev => y_ex fun g5 => y_ex fun ad1 => y_and fun hg => y_and fun h0 => y_and fun h20 => ?_)
  subst ev
  refine z_stk (st' := [.int r.1]) (k' := k + 2) (n' := n + 12) rfl ⟨rfl, rfl⟩ ?_
  rw [← h0, ← h20]
  refine y_istore (pc := 1865) (i := 6) (lv' := [(6, .int (r.1)), (5, .int (Int32.ofNat (6 * j))), (4, .ref (o4)), (3, .ref (o3)), (2, .ref (ad1 (20, 0, 0))), (1, .ref (ad1 (0, 0, 0))), (0, .ref (b))]) o dL_law_1865 (by decide) rfl ?_
  refine y_aload_n (pc := 1867) o dL_law_1867 rfl ?_
  refine y_aload_n (pc := 1868) o dL_law_1868 rfl ?_
  refine y_iload (pc := 1869) o dL_law_1869 rfl ?_
  refine y_iconst (pc := 1871) (x := 1) o dL_law_1871 (by decide) ?_
  refine y_iadd (pc := 1872) o dL_law_1872 ?_
  refine y_sld (pc := 1873) o sc (6 * j + 1) (Int32.ofNat_add _ _).symm (by omega) hL dL_law_1873 ?_
  refine y_aload_n (pc := 1874) o dL_law_1874 rfl ?_
  refine y_iload (pc := 1875) o dL_law_1875 rfl ?_
  refine y_iconst (pc := 1877) (x := 2) o dL_law_1877 (by decide) ?_
  refine y_iadd (pc := 1878) o dL_law_1878 ?_
  refine y_sld (pc := 1879) o sc (6 * j + 2) (Int32.ofNat_add _ _).symm (by omega) hL dL_law_1879 ?_
  refine y_callV (pc := 1880) (k := k + 2) (n := n + 12) o (b := ad1 (20, 0, 0)) (As := [.int (xs (6 * j + 1)), .int (xs (6 * j + 2))]) (rest := []) (hm9 _ _) ln_L_243 dL_law_1880 (z_rc (ci := 20) (K := (20, 0, 0)) rfl (gl_20 hI.fix) rfl) rfl rfl (Nat.le_of_ble_eq_true rfl) ⟨by decide, by decide⟩ ⟨(show k + 2 ≤ 630091 by omega), (show n + 12 ≤ 7125959 by omega)⟩ (fun _ e => e) rfl gq_nox2 (fun v => y_and fun ⟨x, ev, hx⟩ => y_ex fun ad2 => y_and fun q0 => y_and fun q20 => ?_)
  subst ev
  refine z_stk (st' := [.int (x)]) (k' := k + 2) (n' := n + 12) rfl ⟨rfl, rfl⟩ ?_
  rw [← q0, ← q20]
  refine y_istore (pc := 1883) (i := 7) (lv' := [(7, .int (x)), (6, .int (r.1)), (5, .int (Int32.ofNat (6 * j))), (4, .ref (o4)), (3, .ref (o3)), (2, .ref (ad2 (20, 0, 0))), (1, .ref (ad2 (0, 0, 0))), (0, .ref (b))]) o dL_law_1883 (by decide) rfl ?_
  refine y_aload_n (pc := 1885) o dL_law_1885 rfl ?_
  refine z_callV (pc := 1886) (k := k + 2) (n := n + 12) (k' := k + 2) (n' := n + 12) o (b := ad2 (20, 0, 0)) (As := []) (rest := []) (r_thrown (C := r.2.2) (R := r.2.2) hok.1.fix) ln_L_158 dL_law_1886 (z_rc (ci := 20) (K := (20, 0, 0)) rfl (gl_20 hok.1.fix) rfl) rfl rfl (Nat.le_of_ble_eq_true rfl) ⟨by decide, by decide⟩ ⟨rfl, rfl⟩ ⟨(show k + 2 ≤ 630091 by omega), (show n + 12 ≤ 7125959 by omega)⟩ rfl gq_nox2 ?_
  rw [hok.2]
  refine y_iload (pc := 1889) o dL_law_1889 rfl ?_
  refine y_icmp_eq (pc := 1891) (tgt := 1896) o dL_law_1891 rfl (fun (b1 : r.1 = r.1) => ?_) (fun b1 => absurd rfl b1)
  refine y_iload (pc := 1896) o dL_law_1896 rfl ?_
  refine y_if_ne (pc := 1898) (tgt := 1913) o dL_law_1898 rfl (fun (b2 : ¬ r.1 = 0) => ?_) (fun (b2 : r.1 = 0) => ?_)
  · refine y_goto (pc := 1913) (tgt := 3021) o dL_law_1913 rfl ?_
    refine y_lv [2, 3, 4, 5, 6, 7] (lv' := [(5, .int (Int32.ofNat (6 * j))), (4, .ref (o4)), (3, .ref (o3)), (2, .ref (ad2 (20, 0, 0))), (1, .ref (ad2 (0, 0, 0))), (0, .ref (b))]) rfl ?_
    exact y_wide (by omega) (by omega) (K _ _ _ _ (hok.1))
  refine y_aload_n (pc := 1901) o dL_law_1901 rfl ?_
  refine y_iconst (pc := 1902) (x := 0) o dL_law_1902 (by decide) ?_
  refine z_laldT (pc := 1903) (i := 0) (v := g5 0) o 0 dL_law_1903 rfl (by unfold vp_in; decide) rfl ?_
  refine y_iload (pc := 1904) o dL_law_1904 rfl ?_
  refine y_i2l (pc := 1906) o dL_law_1906 ?_
  refine y_lcmp (pc := 1907) o dL_law_1907 ?_
  refine y_if_eq (pc := 1908) (tgt := 1913) o dL_law_1908 rfl (fun (b3 : (lg_cmp (g5 0) x.toInt64) = 0) => ?_) (fun b3 => absurd (gl0 (by rw [hg b2, hx b2])) b3)
  refine y_goto (pc := 1913) (tgt := 3021) o dL_law_1913 rfl ?_
  refine y_lv [2, 3, 4, 5, 6, 7] (lv' := [(5, .int (Int32.ofNat (6 * j))), (4, .ref (o4)), (3, .ref (o3)), (2, .ref (ad2 (20, 0, 0))), (1, .ref (ad2 (0, 0, 0))), (0, .ref (b))]) rfl ?_
  exact y_wide (by omega) (by omega) (K _ _ _ _ (hok.1))

theorem lc_stamp {κ : gq_K} {f : gq_F} {b L j k n o3 o4 : Nat} {xs : Nat → Int32} {ad : gKey → Nat} {C : gG} {g3 : Nat → Int64} {g4 : Nat → UInt64} (o : gq_Ok κ mL_law f) (sc : gq_Sc f b L xs) (hL : L ≤ 3072) (hj : 6 * j + 6 ≤ L) (hI : gI j C) (hk : k + 40 ≤ 630091) (hn9 : n + 700 ≤ 7125959) (K : ∀ (C' : gG) (ad' : gKey → Nat) (g3 : Nat → Int64) (g4 : Nat → UInt64), gI (j + 1) C' → gq_Y κ mL_law gQL gq_no f (gLP κ ad' C' o3 g3 o4 g4) (gLV ad' j o3 o4 b) 3021 [] (k + 40) (n + 700)) : gq_Y κ mL_law gQL gq_no f (gLP κ ad C o3 g3 o4 g4) (gLV ad j o3 o4 b) 1916 [] k n := by
  obtain ⟨C0, hC0⟩ : ∃ C0, gup C (0, 0, 0) 5 0 = C0 := ⟨_, rfl⟩
  have hI0 : gI j C0 := by rw [← hC0]; exact hI.up (Nat.le_refl _) (by omega)
  have h50 : C0.1 (0, 0, 0) 5 = 0 := by rw [← hC0]; exact gup_v _ _ _ _
  show gq_Y κ mL_law gQL gq_no f (gR κ ad (C, C) [(o3, .inl (κ.2.1 1, 1, .inr (.inl g3))), (o4, .inl (κ.2.1 2, 1, .inr (.inr (.inr (.inl g4)))))]) [(5, .int (Int32.ofNat (6 * j))), (4, .ref o4), (3, .ref o3), (2, .ref (ad (20, 0, 0))), (1, .ref (ad (0, 0, 0))), (0, .ref b)] 1916 [] k n
  refine y_aload_n (pc := 1916) o dL_law_1916 rfl ?_
  refine y_aload_n (pc := 1917) o dL_law_1917 rfl ?_
  refine y_iload (pc := 1918) o dL_law_1918 rfl ?_
  refine y_iconst (pc := 1920) (x := 1) o dL_law_1920 (by decide) ?_
  refine y_iadd (pc := 1921) o dL_law_1921 ?_
  refine y_sld (pc := 1922) o sc (6 * j + 1) (Int32.ofNat_add _ _).symm (by omega) hL dL_law_1922 ?_
  refine y_aload_n (pc := 1923) o dL_law_1923 rfl ?_
  have hok := i_stamp hI0 (by omega) h50 (xs (6 * j + 1))
  have hw := w_stamp (κ := κ) (ad := ad) (R := C) (T := [(o4, .inl (κ.2.1 2, 1, .inr (.inr (.inr (.inl g4)))))]) hI0 o3 g3 (xs (6 * j + 1))
  have hm9 := fun (ad1 : gKey → Nat) (T1 : List (Nat × va_E)) => r_stamp (κ := κ) (ad := ad1) (C := (F_stamp C0 (xs (6 * j + 1))).2.2) (T := T1) hC0 hI0 (by omega) (xs (6 * j + 1))
  generalize F_stamp C0 (xs (6 * j + 1)) = r at hok hw hm9
  refine y_mono (P' := gR κ ad (C0, C) [(o3, .inl (κ.2.1 1, 1, .inr (.inl g3))), (o4, .inl (κ.2.1 2, 1, .inr (.inr (.inr (.inl g4)))))]) (fun h hr => by rw [← hC0]; exact hr.ghostC (0, 0, 0) 5 0 (fun _ _ _ => rfl) (fun _ _ => rfl)) ?_
  refine y_callSW (pc := 1924) (k := k) (n := n) o (As := [.ref (ad (0, 0, 0)), .int (xs (6 * j + 1)), .ref (o3)]) (rest := []) hw ls_L_244 dL_law_1924 rfl rfl (Nat.le_of_ble_eq_true rfl) ⟨by decide, by decide⟩ ⟨(show k + 2 ≤ 630091 by omega), (show n + 12 ≤ 7125959 by omega)⟩ (fun _ e => e) (fun v => y_and fun ev => y_ex fun g5 => y_ex fun ad1 => y_and fun hg => y_and fun h0 => y_and fun h20 => ?_)
  subst ev
  refine z_stk (st' := [.int r.1]) (k' := k + 2) (n' := n + 12) rfl ⟨rfl, rfl⟩ ?_
  rw [← h0, ← h20]
  refine y_istore (pc := 1927) (i := 6) (lv' := [(6, .int (r.1)), (5, .int (Int32.ofNat (6 * j))), (4, .ref (o4)), (3, .ref (o3)), (2, .ref (ad1 (20, 0, 0))), (1, .ref (ad1 (0, 0, 0))), (0, .ref (b))]) o dL_law_1927 (by decide) rfl ?_
  refine y_aload_n (pc := 1929) o dL_law_1929 rfl ?_
  refine y_aload_n (pc := 1930) o dL_law_1930 rfl ?_
  refine y_iload (pc := 1931) o dL_law_1931 rfl ?_
  refine y_iconst (pc := 1933) (x := 1) o dL_law_1933 (by decide) ?_
  refine y_iadd (pc := 1934) o dL_law_1934 ?_
  refine y_sld (pc := 1935) o sc (6 * j + 1) (Int32.ofNat_add _ _).symm (by omega) hL dL_law_1935 ?_
  refine y_callV (pc := 1936) (k := k + 2) (n := n + 12) o (b := ad1 (20, 0, 0)) (As := [.int (xs (6 * j + 1))]) (rest := []) (hm9 _ _) ln_L_246 dL_law_1936 (z_rc (ci := 20) (K := (20, 0, 0)) rfl (gl_20 hI.fix) rfl) rfl rfl (Nat.le_of_ble_eq_true rfl) ⟨by decide, by decide⟩ ⟨(show k + 2 ≤ 630091 by omega), (show n + 12 ≤ 7125959 by omega)⟩ (fun _ e => e) rfl gq_nox2 (fun v => y_and fun ⟨x, ev, hx⟩ => y_ex fun ad2 => y_and fun q0 => y_and fun q20 => ?_)
  subst ev
  refine z_stk (st' := [.int (x)]) (k' := k + 2) (n' := n + 12) rfl ⟨rfl, rfl⟩ ?_
  rw [← q0, ← q20]
  refine y_istore (pc := 1939) (i := 7) (lv' := [(7, .int (x)), (6, .int (r.1)), (5, .int (Int32.ofNat (6 * j))), (4, .ref (o4)), (3, .ref (o3)), (2, .ref (ad2 (20, 0, 0))), (1, .ref (ad2 (0, 0, 0))), (0, .ref (b))]) o dL_law_1939 (by decide) rfl ?_
  refine y_aload_n (pc := 1941) o dL_law_1941 rfl ?_
  refine z_callV (pc := 1942) (k := k + 2) (n := n + 12) (k' := k + 2) (n' := n + 12) o (b := ad2 (20, 0, 0)) (As := []) (rest := []) (r_thrown (C := r.2.2) (R := r.2.2) hok.1.fix) ln_L_158 dL_law_1942 (z_rc (ci := 20) (K := (20, 0, 0)) rfl (gl_20 hok.1.fix) rfl) rfl rfl (Nat.le_of_ble_eq_true rfl) ⟨by decide, by decide⟩ ⟨rfl, rfl⟩ ⟨(show k + 2 ≤ 630091 by omega), (show n + 12 ≤ 7125959 by omega)⟩ rfl gq_nox2 ?_
  rw [hok.2]
  refine y_iload (pc := 1945) o dL_law_1945 rfl ?_
  refine y_icmp_eq (pc := 1947) (tgt := 1952) o dL_law_1947 rfl (fun (b1 : r.1 = r.1) => ?_) (fun b1 => absurd rfl b1)
  refine y_iload (pc := 1952) o dL_law_1952 rfl ?_
  refine y_if_ne (pc := 1954) (tgt := 1969) o dL_law_1954 rfl (fun (b2 : ¬ r.1 = 0) => ?_) (fun (b2 : r.1 = 0) => ?_)
  · refine y_goto (pc := 1969) (tgt := 3021) o dL_law_1969 rfl ?_
    refine y_lv [2, 3, 4, 5, 6, 7] (lv' := [(5, .int (Int32.ofNat (6 * j))), (4, .ref (o4)), (3, .ref (o3)), (2, .ref (ad2 (20, 0, 0))), (1, .ref (ad2 (0, 0, 0))), (0, .ref (b))]) rfl ?_
    exact y_wide (by omega) (by omega) (K _ _ _ _ (hok.1))
  refine y_aload_n (pc := 1957) o dL_law_1957 rfl ?_
  refine y_iconst (pc := 1958) (x := 0) o dL_law_1958 (by decide) ?_
  refine z_laldT (pc := 1959) (i := 0) (v := g5 0) o 0 dL_law_1959 rfl (by unfold vp_in; decide) rfl ?_
  refine y_iload (pc := 1960) o dL_law_1960 rfl ?_
  refine y_i2l (pc := 1962) o dL_law_1962 ?_
  refine y_lcmp (pc := 1963) o dL_law_1963 ?_
  refine y_if_eq (pc := 1964) (tgt := 1969) o dL_law_1964 rfl (fun (b3 : (lg_cmp (g5 0) x.toInt64) = 0) => ?_) (fun b3 => absurd (gl0 (by rw [hg b2, hx b2])) b3)
  refine y_goto (pc := 1969) (tgt := 3021) o dL_law_1969 rfl ?_
  refine y_lv [2, 3, 4, 5, 6, 7] (lv' := [(5, .int (Int32.ofNat (6 * j))), (4, .ref (o4)), (3, .ref (o3)), (2, .ref (ad2 (20, 0, 0))), (1, .ref (ad2 (0, 0, 0))), (0, .ref (b))]) rfl ?_
  exact y_wide (by omega) (by omega) (K _ _ _ _ (hok.1))

theorem lc_erase {κ : gq_K} {f : gq_F} {b L j k n o3 o4 : Nat} {xs : Nat → Int32} {ad : gKey → Nat} {C : gG} {g3 : Nat → Int64} {g4 : Nat → UInt64} (o : gq_Ok κ mL_law f) (sc : gq_Sc f b L xs) (hL : L ≤ 3072) (hj : 6 * j + 6 ≤ L) (hI : gI j C) (hk : k + 40 ≤ 630091) (hn9 : n + 700 ≤ 7125959) (K : ∀ (C' : gG) (ad' : gKey → Nat) (g3 : Nat → Int64) (g4 : Nat → UInt64), gI (j + 1) C' → gq_Y κ mL_law gQL gq_no f (gLP κ ad' C' o3 g3 o4 g4) (gLV ad' j o3 o4 b) 3021 [] (k + 40) (n + 700)) : gq_Y κ mL_law gQL gq_no f (gLP κ ad C o3 g3 o4 g4) (gLV ad j o3 o4 b) 1972 [] k n := by
  obtain ⟨C0, hC0⟩ : ∃ C0, gup C (0, 0, 0) 5 0 = C0 := ⟨_, rfl⟩
  have hI0 : gI j C0 := by rw [← hC0]; exact hI.up (Nat.le_refl _) (by omega)
  have h50 : C0.1 (0, 0, 0) 5 = 0 := by rw [← hC0]; exact gup_v _ _ _ _
  show gq_Y κ mL_law gQL gq_no f (gR κ ad (C, C) [(o3, .inl (κ.2.1 1, 1, .inr (.inl g3))), (o4, .inl (κ.2.1 2, 1, .inr (.inr (.inr (.inl g4)))))]) [(5, .int (Int32.ofNat (6 * j))), (4, .ref o4), (3, .ref o3), (2, .ref (ad (20, 0, 0))), (1, .ref (ad (0, 0, 0))), (0, .ref b)] 1972 [] k n
  refine y_aload_n (pc := 1972) o dL_law_1972 rfl ?_
  refine y_aload_n (pc := 1973) o dL_law_1973 rfl ?_
  refine y_iload (pc := 1974) o dL_law_1974 rfl ?_
  refine y_iconst (pc := 1976) (x := 1) o dL_law_1976 (by decide) ?_
  refine y_iadd (pc := 1977) o dL_law_1977 ?_
  refine y_sld (pc := 1978) o sc (6 * j + 1) (Int32.ofNat_add _ _).symm (by omega) hL dL_law_1978 ?_
  refine y_aload_n (pc := 1979) o dL_law_1979 rfl ?_
  refine y_iload (pc := 1980) o dL_law_1980 rfl ?_
  refine y_iconst (pc := 1982) (x := 2) o dL_law_1982 (by decide) ?_
  refine y_iadd (pc := 1983) o dL_law_1983 ?_
  refine y_sld (pc := 1984) o sc (6 * j + 2) (Int32.ofNat_add _ _).symm (by omega) hL dL_law_1984 ?_
  refine y_aload_n (pc := 1985) o dL_law_1985 rfl ?_
  have hok := i_erase hI0 (by omega) h50 (xs (6 * j + 1)) (xs (6 * j + 2))
  have hw := w_erase (κ := κ) (ad := ad) (R := C) (T := [(o4, .inl (κ.2.1 2, 1, .inr (.inr (.inr (.inl g4)))))]) hI0 o3 g3 (xs (6 * j + 1)) (xs (6 * j + 2))
  have hm9 := fun (ad1 : gKey → Nat) (T1 : List (Nat × va_E)) => r_erase (κ := κ) (ad := ad1) (C := (F_erase C0 (xs (6 * j + 1)) (xs (6 * j + 2))).2.2) (T := T1) hC0 hI0 (by omega) (xs (6 * j + 1)) (xs (6 * j + 2))
  generalize F_erase C0 (xs (6 * j + 1)) (xs (6 * j + 2)) = r at hok hw hm9
  refine y_mono (P' := gR κ ad (C0, C) [(o3, .inl (κ.2.1 1, 1, .inr (.inl g3))), (o4, .inl (κ.2.1 2, 1, .inr (.inr (.inr (.inl g4)))))]) (fun h hr => by rw [← hC0]; exact hr.ghostC (0, 0, 0) 5 0 (fun _ _ _ => rfl) (fun _ _ => rfl)) ?_
  refine y_callSW (pc := 1986) (k := k) (n := n) o (As := [.ref (ad (0, 0, 0)), .int (xs (6 * j + 1)), .int (xs (6 * j + 2)), .ref (o3)]) (rest := []) hw ls_L_247 dL_law_1986 rfl rfl (Nat.le_of_ble_eq_true rfl) ⟨by decide, by decide⟩ ⟨(show k + 2 ≤ 630091 by omega), (show n + 12 ≤ 7125959 by omega)⟩ (fun _ e => e) (fun v => y_and fun ev => y_ex fun g5 => y_ex fun ad1 => y_and fun hg => y_and fun h0 => y_and fun h20 => ?_)
  subst ev
  refine z_stk (st' := [.int r.1]) (k' := k + 2) (n' := n + 12) rfl ⟨rfl, rfl⟩ ?_
  rw [← h0, ← h20]
  refine y_istore (pc := 1989) (i := 6) (lv' := [(6, .int (r.1)), (5, .int (Int32.ofNat (6 * j))), (4, .ref (o4)), (3, .ref (o3)), (2, .ref (ad1 (20, 0, 0))), (1, .ref (ad1 (0, 0, 0))), (0, .ref (b))]) o dL_law_1989 (by decide) rfl ?_
  refine y_aload_n (pc := 1991) o dL_law_1991 rfl ?_
  refine y_aload_n (pc := 1992) o dL_law_1992 rfl ?_
  refine y_iload (pc := 1993) o dL_law_1993 rfl ?_
  refine y_iconst (pc := 1995) (x := 1) o dL_law_1995 (by decide) ?_
  refine y_iadd (pc := 1996) o dL_law_1996 ?_
  refine y_sld (pc := 1997) o sc (6 * j + 1) (Int32.ofNat_add _ _).symm (by omega) hL dL_law_1997 ?_
  refine y_aload_n (pc := 1998) o dL_law_1998 rfl ?_
  refine y_iload (pc := 1999) o dL_law_1999 rfl ?_
  refine y_iconst (pc := 2001) (x := 2) o dL_law_2001 (by decide) ?_
  refine y_iadd (pc := 2002) o dL_law_2002 ?_
  refine y_sld (pc := 2003) o sc (6 * j + 2) (Int32.ofNat_add _ _).symm (by omega) hL dL_law_2003 ?_
  refine y_callV (pc := 2004) (k := k + 2) (n := n + 12) o (b := ad1 (20, 0, 0)) (As := [.int (xs (6 * j + 1)), .int (xs (6 * j + 2))]) (rest := []) (hm9 _ _) ln_L_249 dL_law_2004 (z_rc (ci := 20) (K := (20, 0, 0)) rfl (gl_20 hI.fix) rfl) rfl rfl (Nat.le_of_ble_eq_true rfl) ⟨by decide, by decide⟩ ⟨(show k + 2 ≤ 630091 by omega), (show n + 12 ≤ 7125959 by omega)⟩ (fun _ e => e) rfl gq_nox2 (fun v => y_and fun ⟨x, ev, hx⟩ => y_ex fun ad2 => y_and fun q0 => y_and fun q20 => ?_)
  subst ev
  refine z_stk (st' := [.int (x)]) (k' := k + 2) (n' := n + 12) rfl ⟨rfl, rfl⟩ ?_
  rw [← q0, ← q20]
  refine y_istore (pc := 2007) (i := 7) (lv' := [(7, .int (x)), (6, .int (r.1)), (5, .int (Int32.ofNat (6 * j))), (4, .ref (o4)), (3, .ref (o3)), (2, .ref (ad2 (20, 0, 0))), (1, .ref (ad2 (0, 0, 0))), (0, .ref (b))]) o dL_law_2007 (by decide) rfl ?_
  refine y_aload_n (pc := 2009) o dL_law_2009 rfl ?_
  refine z_callV (pc := 2010) (k := k + 2) (n := n + 12) (k' := k + 2) (n' := n + 12) o (b := ad2 (20, 0, 0)) (As := []) (rest := []) (r_thrown (C := r.2.2) (R := r.2.2) hok.1.fix) ln_L_158 dL_law_2010 (z_rc (ci := 20) (K := (20, 0, 0)) rfl (gl_20 hok.1.fix) rfl) rfl rfl (Nat.le_of_ble_eq_true rfl) ⟨by decide, by decide⟩ ⟨rfl, rfl⟩ ⟨(show k + 2 ≤ 630091 by omega), (show n + 12 ≤ 7125959 by omega)⟩ rfl gq_nox2 ?_
  rw [hok.2]
  refine y_iload (pc := 2013) o dL_law_2013 rfl ?_
  refine y_icmp_eq (pc := 2015) (tgt := 2020) o dL_law_2015 rfl (fun (b1 : r.1 = r.1) => ?_) (fun b1 => absurd rfl b1)
  refine y_iload (pc := 2020) o dL_law_2020 rfl ?_
  refine y_if_ne (pc := 2022) (tgt := 2037) o dL_law_2022 rfl (fun (b2 : ¬ r.1 = 0) => ?_) (fun (b2 : r.1 = 0) => ?_)
  · refine y_goto (pc := 2037) (tgt := 3021) o dL_law_2037 rfl ?_
    refine y_lv [2, 3, 4, 5, 6, 7] (lv' := [(5, .int (Int32.ofNat (6 * j))), (4, .ref (o4)), (3, .ref (o3)), (2, .ref (ad2 (20, 0, 0))), (1, .ref (ad2 (0, 0, 0))), (0, .ref (b))]) rfl ?_
    exact y_wide (by omega) (by omega) (K _ _ _ _ (hok.1))
  refine y_aload_n (pc := 2025) o dL_law_2025 rfl ?_
  refine y_iconst (pc := 2026) (x := 0) o dL_law_2026 (by decide) ?_
  refine z_laldT (pc := 2027) (i := 0) (v := g5 0) o 0 dL_law_2027 rfl (by unfold vp_in; decide) rfl ?_
  refine y_iload (pc := 2028) o dL_law_2028 rfl ?_
  refine y_i2l (pc := 2030) o dL_law_2030 ?_
  refine y_lcmp (pc := 2031) o dL_law_2031 ?_
  refine y_if_eq (pc := 2032) (tgt := 2037) o dL_law_2032 rfl (fun (b3 : (lg_cmp (g5 0) x.toInt64) = 0) => ?_) (fun b3 => absurd (gl0 (by rw [hg b2, hx b2])) b3)
  refine y_goto (pc := 2037) (tgt := 3021) o dL_law_2037 rfl ?_
  refine y_lv [2, 3, 4, 5, 6, 7] (lv' := [(5, .int (Int32.ofNat (6 * j))), (4, .ref (o4)), (3, .ref (o3)), (2, .ref (ad2 (20, 0, 0))), (1, .ref (ad2 (0, 0, 0))), (0, .ref (b))]) rfl ?_
  exact y_wide (by omega) (by omega) (K _ _ _ _ (hok.1))

theorem lc_run {κ : gq_K} {f : gq_F} {b L j k n o3 o4 : Nat} {xs : Nat → Int32} {ad : gKey → Nat} {C : gG} {g3 : Nat → Int64} {g4 : Nat → UInt64} (o : gq_Ok κ mL_law f) (sc : gq_Sc f b L xs) (hL : L ≤ 3072) (hj : 6 * j + 6 ≤ L) (hI : gI j C) (hk : k + 40 ≤ 630091) (hn9 : n + 700 ≤ 7125959) (K : ∀ (C' : gG) (ad' : gKey → Nat) (g3 : Nat → Int64) (g4 : Nat → UInt64), gI (j + 1) C' → gq_Y κ mL_law gQL gq_no f (gLP κ ad' C' o3 g3 o4 g4) (gLV ad' j o3 o4 b) 3021 [] (k + 40) (n + 700)) : gq_Y κ mL_law gQL gq_no f (gLP κ ad C o3 g3 o4 g4) (gLV ad j o3 o4 b) 2040 [] k n := by
  obtain ⟨C0, hC0⟩ : ∃ C0, gup C (0, 0, 0) 5 0 = C0 := ⟨_, rfl⟩
  have hI0 : gI j C0 := by rw [← hC0]; exact hI.up (Nat.le_refl _) (by omega)
  have h50 : C0.1 (0, 0, 0) 5 = 0 := by rw [← hC0]; exact gup_v _ _ _ _
  show gq_Y κ mL_law gQL gq_no f (gR κ ad (C, C) [(o3, .inl (κ.2.1 1, 1, .inr (.inl g3))), (o4, .inl (κ.2.1 2, 1, .inr (.inr (.inr (.inl g4)))))]) [(5, .int (Int32.ofNat (6 * j))), (4, .ref o4), (3, .ref o3), (2, .ref (ad (20, 0, 0))), (1, .ref (ad (0, 0, 0))), (0, .ref b)] 2040 [] k n
  refine y_aload_n (pc := 2040) o dL_law_2040 rfl ?_
  refine y_aload_n (pc := 2041) o dL_law_2041 rfl ?_
  refine y_iload (pc := 2042) o dL_law_2042 rfl ?_
  refine y_iconst (pc := 2044) (x := 1) o dL_law_2044 (by decide) ?_
  refine y_iadd (pc := 2045) o dL_law_2045 ?_
  refine y_sld (pc := 2046) o sc (6 * j + 1) (Int32.ofNat_add _ _).symm (by omega) hL dL_law_2046 ?_
  refine y_aload_n (pc := 2047) o dL_law_2047 rfl ?_
  refine y_iload (pc := 2048) o dL_law_2048 rfl ?_
  refine y_iconst (pc := 2050) (x := 2) o dL_law_2050 (by decide) ?_
  refine y_iadd (pc := 2051) o dL_law_2051 ?_
  refine y_sld (pc := 2052) o sc (6 * j + 2) (Int32.ofNat_add _ _).symm (by omega) hL dL_law_2052 ?_
  refine y_i2c (pc := 2053) (v := gc16 (xs (6 * j + 2))) o dL_law_2053 rfl ?_
  refine y_aload_n (pc := 2054) o dL_law_2054 rfl ?_
  have hok := i_run hI0 (by omega) h50 (xs (6 * j + 1)) (gc16 (xs (6 * j + 2)))
  have hw := w_run (κ := κ) (ad := ad) (R := C) (T := [(o4, .inl (κ.2.1 2, 1, .inr (.inr (.inr (.inl g4)))))]) hI0 o3 g3 (xs (6 * j + 1)) (gc16 (xs (6 * j + 2)))
  have hm9 := fun (ad1 : gKey → Nat) (T1 : List (Nat × va_E)) => r_run (κ := κ) (ad := ad1) (C := (F_run C0 (xs (6 * j + 1)) (gc16 (xs (6 * j + 2)))).2.2) (T := T1) hC0 hI0 (by omega) (xs (6 * j + 1)) (gc16 (xs (6 * j + 2)))
  generalize F_run C0 (xs (6 * j + 1)) (gc16 (xs (6 * j + 2))) = r at hok hw hm9
  refine y_mono (P' := gR κ ad (C0, C) [(o3, .inl (κ.2.1 1, 1, .inr (.inl g3))), (o4, .inl (κ.2.1 2, 1, .inr (.inr (.inr (.inl g4)))))]) (fun h hr => by rw [← hC0]; exact hr.ghostC (0, 0, 0) 5 0 (fun _ _ _ => rfl) (fun _ _ => rfl)) ?_
  refine y_callSW (pc := 2055) (k := k) (n := n) o (As := [.ref (ad (0, 0, 0)), .int (xs (6 * j + 1)), .int (gc16 (xs (6 * j + 2))), .ref (o3)]) (rest := []) hw ls_L_250 dL_law_2055 rfl rfl (Nat.le_of_ble_eq_true rfl) ⟨by decide, by decide⟩ ⟨(show k + 2 ≤ 630091 by omega), (show n + 12 ≤ 7125959 by omega)⟩ (fun _ e => e) (fun v => y_and fun ev => y_ex fun g5 => y_ex fun ad1 => y_and fun hg => y_and fun h0 => y_and fun h20 => ?_)
  subst ev
  refine z_stk (st' := [.int r.1]) (k' := k + 2) (n' := n + 12) rfl ⟨rfl, rfl⟩ ?_
  rw [← h0, ← h20]
  refine y_istore (pc := 2058) (i := 6) (lv' := [(6, .int (r.1)), (5, .int (Int32.ofNat (6 * j))), (4, .ref (o4)), (3, .ref (o3)), (2, .ref (ad1 (20, 0, 0))), (1, .ref (ad1 (0, 0, 0))), (0, .ref (b))]) o dL_law_2058 (by decide) rfl ?_
  refine y_aload_n (pc := 2060) o dL_law_2060 rfl ?_
  refine y_aload_n (pc := 2061) o dL_law_2061 rfl ?_
  refine y_iload (pc := 2062) o dL_law_2062 rfl ?_
  refine y_iconst (pc := 2064) (x := 1) o dL_law_2064 (by decide) ?_
  refine y_iadd (pc := 2065) o dL_law_2065 ?_
  refine y_sld (pc := 2066) o sc (6 * j + 1) (Int32.ofNat_add _ _).symm (by omega) hL dL_law_2066 ?_
  refine y_aload_n (pc := 2067) o dL_law_2067 rfl ?_
  refine y_iload (pc := 2068) o dL_law_2068 rfl ?_
  refine y_iconst (pc := 2070) (x := 2) o dL_law_2070 (by decide) ?_
  refine y_iadd (pc := 2071) o dL_law_2071 ?_
  refine y_sld (pc := 2072) o sc (6 * j + 2) (Int32.ofNat_add _ _).symm (by omega) hL dL_law_2072 ?_
  refine y_i2c (pc := 2073) (v := gc16 (xs (6 * j + 2))) o dL_law_2073 rfl ?_
  refine y_callV (pc := 2074) (k := k + 2) (n := n + 12) o (b := ad1 (20, 0, 0)) (As := [.int (xs (6 * j + 1)), .int (gc16 (xs (6 * j + 2)))]) (rest := []) (hm9 _ _) ln_L_252 dL_law_2074 (z_rc (ci := 20) (K := (20, 0, 0)) rfl (gl_20 hI.fix) rfl) rfl rfl (Nat.le_of_ble_eq_true rfl) ⟨by decide, by decide⟩ ⟨(show k + 2 ≤ 630091 by omega), (show n + 12 ≤ 7125959 by omega)⟩ (fun _ e => e) rfl gq_nox2 (fun v => y_and fun ⟨x, ev, hx⟩ => y_ex fun ad2 => y_and fun q0 => y_and fun q20 => ?_)
  subst ev
  refine z_stk (st' := [.int (x)]) (k' := k + 2) (n' := n + 12) rfl ⟨rfl, rfl⟩ ?_
  rw [← q0, ← q20]
  refine y_istore (pc := 2077) (i := 7) (lv' := [(7, .int (x)), (6, .int (r.1)), (5, .int (Int32.ofNat (6 * j))), (4, .ref (o4)), (3, .ref (o3)), (2, .ref (ad2 (20, 0, 0))), (1, .ref (ad2 (0, 0, 0))), (0, .ref (b))]) o dL_law_2077 (by decide) rfl ?_
  refine y_aload_n (pc := 2079) o dL_law_2079 rfl ?_
  refine z_callV (pc := 2080) (k := k + 2) (n := n + 12) (k' := k + 2) (n' := n + 12) o (b := ad2 (20, 0, 0)) (As := []) (rest := []) (r_thrown (C := r.2.2) (R := r.2.2) hok.1.fix) ln_L_158 dL_law_2080 (z_rc (ci := 20) (K := (20, 0, 0)) rfl (gl_20 hok.1.fix) rfl) rfl rfl (Nat.le_of_ble_eq_true rfl) ⟨by decide, by decide⟩ ⟨rfl, rfl⟩ ⟨(show k + 2 ≤ 630091 by omega), (show n + 12 ≤ 7125959 by omega)⟩ rfl gq_nox2 ?_
  rw [hok.2]
  refine y_iload (pc := 2083) o dL_law_2083 rfl ?_
  refine y_icmp_eq (pc := 2085) (tgt := 2090) o dL_law_2085 rfl (fun (b1 : r.1 = r.1) => ?_) (fun b1 => absurd rfl b1)
  refine y_iload (pc := 2090) o dL_law_2090 rfl ?_
  refine y_if_ne (pc := 2092) (tgt := 2107) o dL_law_2092 rfl (fun (b2 : ¬ r.1 = 0) => ?_) (fun (b2 : r.1 = 0) => ?_)
  · refine y_goto (pc := 2107) (tgt := 3021) o dL_law_2107 rfl ?_
    refine y_lv [2, 3, 4, 5, 6, 7] (lv' := [(5, .int (Int32.ofNat (6 * j))), (4, .ref (o4)), (3, .ref (o3)), (2, .ref (ad2 (20, 0, 0))), (1, .ref (ad2 (0, 0, 0))), (0, .ref (b))]) rfl ?_
    exact y_wide (by omega) (by omega) (K _ _ _ _ (hok.1))
  refine y_aload_n (pc := 2095) o dL_law_2095 rfl ?_
  refine y_iconst (pc := 2096) (x := 0) o dL_law_2096 (by decide) ?_
  refine z_laldT (pc := 2097) (i := 0) (v := g5 0) o 0 dL_law_2097 rfl (by unfold vp_in; decide) rfl ?_
  refine y_iload (pc := 2098) o dL_law_2098 rfl ?_
  refine y_i2l (pc := 2100) o dL_law_2100 ?_
  refine y_lcmp (pc := 2101) o dL_law_2101 ?_
  refine y_if_eq (pc := 2102) (tgt := 2107) o dL_law_2102 rfl (fun (b3 : (lg_cmp (g5 0) x.toInt64) = 0) => ?_) (fun b3 => absurd (gl0 (by rw [hg b2, hx b2])) b3)
  refine y_goto (pc := 2107) (tgt := 3021) o dL_law_2107 rfl ?_
  refine y_lv [2, 3, 4, 5, 6, 7] (lv' := [(5, .int (Int32.ofNat (6 * j))), (4, .ref (o4)), (3, .ref (o3)), (2, .ref (ad2 (20, 0, 0))), (1, .ref (ad2 (0, 0, 0))), (0, .ref (b))]) rfl ?_
  exact y_wide (by omega) (by omega) (K _ _ _ _ (hok.1))

theorem lc_fall {κ : gq_K} {f : gq_F} {b L j k n o3 o4 : Nat} {xs : Nat → Int32} {ad : gKey → Nat} {C : gG} {g3 : Nat → Int64} {g4 : Nat → UInt64} (o : gq_Ok κ mL_law f) (sc : gq_Sc f b L xs) (hL : L ≤ 3072) (hj : 6 * j + 6 ≤ L) (hI : gI j C) (hk : k + 40 ≤ 630091) (hn9 : n + 700 ≤ 7125959) (K : ∀ (C' : gG) (ad' : gKey → Nat) (g3 : Nat → Int64) (g4 : Nat → UInt64), gI (j + 1) C' → gq_Y κ mL_law gQL gq_no f (gLP κ ad' C' o3 g3 o4 g4) (gLV ad' j o3 o4 b) 3021 [] (k + 40) (n + 700)) : gq_Y κ mL_law gQL gq_no f (gLP κ ad C o3 g3 o4 g4) (gLV ad j o3 o4 b) 2110 [] k n := by
  obtain ⟨C0, hC0⟩ : ∃ C0, gup C (0, 0, 0) 5 0 = C0 := ⟨_, rfl⟩
  have hI0 : gI j C0 := by rw [← hC0]; exact hI.up (Nat.le_refl _) (by omega)
  have h50 : C0.1 (0, 0, 0) 5 = 0 := by rw [← hC0]; exact gup_v _ _ _ _
  show gq_Y κ mL_law gQL gq_no f (gR κ ad (C, C) [(o3, .inl (κ.2.1 1, 1, .inr (.inl g3))), (o4, .inl (κ.2.1 2, 1, .inr (.inr (.inr (.inl g4)))))]) [(5, .int (Int32.ofNat (6 * j))), (4, .ref o4), (3, .ref o3), (2, .ref (ad (20, 0, 0))), (1, .ref (ad (0, 0, 0))), (0, .ref b)] 2110 [] k n
  refine y_aload_n (pc := 2110) o dL_law_2110 rfl ?_
  refine y_aload_n (pc := 2111) o dL_law_2111 rfl ?_
  refine y_iload (pc := 2112) o dL_law_2112 rfl ?_
  refine y_iconst (pc := 2114) (x := 1) o dL_law_2114 (by decide) ?_
  refine y_iadd (pc := 2115) o dL_law_2115 ?_
  refine y_sld (pc := 2116) o sc (6 * j + 1) (Int32.ofNat_add _ _).symm (by omega) hL dL_law_2116 ?_
  refine y_aload_n (pc := 2117) o dL_law_2117 rfl ?_
  refine y_iload (pc := 2118) o dL_law_2118 rfl ?_
  refine y_iconst (pc := 2120) (x := 2) o dL_law_2120 (by decide) ?_
  refine y_iadd (pc := 2121) o dL_law_2121 ?_
  refine y_sld (pc := 2122) o sc (6 * j + 2) (Int32.ofNat_add _ _).symm (by omega) hL dL_law_2122 ?_
  refine y_aload_n (pc := 2123) o dL_law_2123 rfl ?_
  have hok := i_fall hI0 (by omega) h50 (xs (6 * j + 1)) (xs (6 * j + 2))
  have hw := w_fall (κ := κ) (ad := ad) (R := C) (T := [(o4, .inl (κ.2.1 2, 1, .inr (.inr (.inr (.inl g4)))))]) hI0 o3 g3 (xs (6 * j + 1)) (xs (6 * j + 2))
  have hm9 := fun (ad1 : gKey → Nat) (T1 : List (Nat × va_E)) => r_fall (κ := κ) (ad := ad1) (C := (F_fall C0 (xs (6 * j + 1)) (xs (6 * j + 2))).2.2) (T := T1) hC0 hI0 (by omega) (xs (6 * j + 1)) (xs (6 * j + 2))
  generalize F_fall C0 (xs (6 * j + 1)) (xs (6 * j + 2)) = r at hok hw hm9
  refine y_mono (P' := gR κ ad (C0, C) [(o3, .inl (κ.2.1 1, 1, .inr (.inl g3))), (o4, .inl (κ.2.1 2, 1, .inr (.inr (.inr (.inl g4)))))]) (fun h hr => by rw [← hC0]; exact hr.ghostC (0, 0, 0) 5 0 (fun _ _ _ => rfl) (fun _ _ => rfl)) ?_
  refine y_callSW (pc := 2124) (k := k) (n := n) o (As := [.ref (ad (0, 0, 0)), .int (xs (6 * j + 1)), .int (xs (6 * j + 2)), .ref (o3)]) (rest := []) hw ls_L_253 dL_law_2124 rfl rfl (Nat.le_of_ble_eq_true rfl) ⟨by decide, by decide⟩ ⟨(show k + 2 ≤ 630091 by omega), (show n + 12 ≤ 7125959 by omega)⟩ (fun _ e => e) (fun v => y_and fun ev => y_ex fun g5 => y_ex fun ad1 => y_and fun hg => y_and fun h0 => y_and fun h20 => ?_)
  subst ev
  refine z_stk (st' := [.int r.1]) (k' := k + 2) (n' := n + 12) rfl ⟨rfl, rfl⟩ ?_
  rw [← h0, ← h20]
  refine y_istore (pc := 2127) (i := 6) (lv' := [(6, .int (r.1)), (5, .int (Int32.ofNat (6 * j))), (4, .ref (o4)), (3, .ref (o3)), (2, .ref (ad1 (20, 0, 0))), (1, .ref (ad1 (0, 0, 0))), (0, .ref (b))]) o dL_law_2127 (by decide) rfl ?_
  refine y_aload_n (pc := 2129) o dL_law_2129 rfl ?_
  refine y_aload_n (pc := 2130) o dL_law_2130 rfl ?_
  refine y_iload (pc := 2131) o dL_law_2131 rfl ?_
  refine y_iconst (pc := 2133) (x := 1) o dL_law_2133 (by decide) ?_
  refine y_iadd (pc := 2134) o dL_law_2134 ?_
  refine y_sld (pc := 2135) o sc (6 * j + 1) (Int32.ofNat_add _ _).symm (by omega) hL dL_law_2135 ?_
  refine y_aload_n (pc := 2136) o dL_law_2136 rfl ?_
  refine y_iload (pc := 2137) o dL_law_2137 rfl ?_
  refine y_iconst (pc := 2139) (x := 2) o dL_law_2139 (by decide) ?_
  refine y_iadd (pc := 2140) o dL_law_2140 ?_
  refine y_sld (pc := 2141) o sc (6 * j + 2) (Int32.ofNat_add _ _).symm (by omega) hL dL_law_2141 ?_
  refine y_callV (pc := 2142) (k := k + 2) (n := n + 12) o (b := ad1 (20, 0, 0)) (As := [.int (xs (6 * j + 1)), .int (xs (6 * j + 2))]) (rest := []) (hm9 _ _) ln_L_255 dL_law_2142 (z_rc (ci := 20) (K := (20, 0, 0)) rfl (gl_20 hI.fix) rfl) rfl rfl (Nat.le_of_ble_eq_true rfl) ⟨by decide, by decide⟩ ⟨(show k + 2 ≤ 630091 by omega), (show n + 12 ≤ 7125959 by omega)⟩ (fun _ e => e) rfl gq_nox2 (fun v => y_and fun ⟨x, ev, hx⟩ => y_ex fun ad2 => y_and fun q0 => y_and fun q20 => ?_)
  subst ev
  refine z_stk (st' := [.int (x)]) (k' := k + 2) (n' := n + 12) rfl ⟨rfl, rfl⟩ ?_
  rw [← q0, ← q20]
  refine y_istore (pc := 2145) (i := 7) (lv' := [(7, .int (x)), (6, .int (r.1)), (5, .int (Int32.ofNat (6 * j))), (4, .ref (o4)), (3, .ref (o3)), (2, .ref (ad2 (20, 0, 0))), (1, .ref (ad2 (0, 0, 0))), (0, .ref (b))]) o dL_law_2145 (by decide) rfl ?_
  refine y_aload_n (pc := 2147) o dL_law_2147 rfl ?_
  refine z_callV (pc := 2148) (k := k + 2) (n := n + 12) (k' := k + 2) (n' := n + 12) o (b := ad2 (20, 0, 0)) (As := []) (rest := []) (r_thrown (C := r.2.2) (R := r.2.2) hok.1.fix) ln_L_158 dL_law_2148 (z_rc (ci := 20) (K := (20, 0, 0)) rfl (gl_20 hok.1.fix) rfl) rfl rfl (Nat.le_of_ble_eq_true rfl) ⟨by decide, by decide⟩ ⟨rfl, rfl⟩ ⟨(show k + 2 ≤ 630091 by omega), (show n + 12 ≤ 7125959 by omega)⟩ rfl gq_nox2 ?_
  rw [hok.2]
  refine y_iload (pc := 2151) o dL_law_2151 rfl ?_
  refine y_icmp_eq (pc := 2153) (tgt := 2158) o dL_law_2153 rfl (fun (b1 : r.1 = r.1) => ?_) (fun b1 => absurd rfl b1)
  refine y_iload (pc := 2158) o dL_law_2158 rfl ?_
  refine y_if_ne (pc := 2160) (tgt := 2175) o dL_law_2160 rfl (fun (b2 : ¬ r.1 = 0) => ?_) (fun (b2 : r.1 = 0) => ?_)
  · refine y_goto (pc := 2175) (tgt := 3021) o dL_law_2175 rfl ?_
    refine y_lv [2, 3, 4, 5, 6, 7] (lv' := [(5, .int (Int32.ofNat (6 * j))), (4, .ref (o4)), (3, .ref (o3)), (2, .ref (ad2 (20, 0, 0))), (1, .ref (ad2 (0, 0, 0))), (0, .ref (b))]) rfl ?_
    exact y_wide (by omega) (by omega) (K _ _ _ _ (hok.1))
  refine y_aload_n (pc := 2163) o dL_law_2163 rfl ?_
  refine y_iconst (pc := 2164) (x := 0) o dL_law_2164 (by decide) ?_
  refine z_laldT (pc := 2165) (i := 0) (v := g5 0) o 0 dL_law_2165 rfl (by unfold vp_in; decide) rfl ?_
  refine y_iload (pc := 2166) o dL_law_2166 rfl ?_
  refine y_i2l (pc := 2168) o dL_law_2168 ?_
  refine y_lcmp (pc := 2169) o dL_law_2169 ?_
  refine y_if_eq (pc := 2170) (tgt := 2175) o dL_law_2170 rfl (fun (b3 : (lg_cmp (g5 0) x.toInt64) = 0) => ?_) (fun b3 => absurd (gl0 (by rw [hg b2, hx b2])) b3)
  refine y_goto (pc := 2175) (tgt := 3021) o dL_law_2175 rfl ?_
  refine y_lv [2, 3, 4, 5, 6, 7] (lv' := [(5, .int (Int32.ofNat (6 * j))), (4, .ref (o4)), (3, .ref (o3)), (2, .ref (ad2 (20, 0, 0))), (1, .ref (ad2 (0, 0, 0))), (0, .ref (b))]) rfl ?_
  exact y_wide (by omega) (by omega) (K _ _ _ _ (hok.1))

theorem lc_sample {κ : gq_K} {f : gq_F} {b L j k n o3 o4 : Nat} {xs : Nat → Int32} {ad : gKey → Nat} {C : gG} {g3 : Nat → Int64} {g4 : Nat → UInt64} (o : gq_Ok κ mL_law f) (sc : gq_Sc f b L xs) (hL : L ≤ 3072) (hj : 6 * j + 6 ≤ L) (hI : gI j C) (hk : k + 40 ≤ 630091) (hn9 : n + 700 ≤ 7125959) (K : ∀ (C' : gG) (ad' : gKey → Nat) (g3 : Nat → Int64) (g4 : Nat → UInt64), gI (j + 1) C' → gq_Y κ mL_law gQL gq_no f (gLP κ ad' C' o3 g3 o4 g4) (gLV ad' j o3 o4 b) 3021 [] (k + 40) (n + 700)) : gq_Y κ mL_law gQL gq_no f (gLP κ ad C o3 g3 o4 g4) (gLV ad j o3 o4 b) 2178 [] k n := by
  obtain ⟨C0, hC0⟩ : ∃ C0, gup C (0, 0, 0) 5 0 = C0 := ⟨_, rfl⟩
  have hI0 : gI j C0 := by rw [← hC0]; exact hI.up (Nat.le_refl _) (by omega)
  have h50 : C0.1 (0, 0, 0) 5 = 0 := by rw [← hC0]; exact gup_v _ _ _ _
  show gq_Y κ mL_law gQL gq_no f (gR κ ad (C, C) [(o3, .inl (κ.2.1 1, 1, .inr (.inl g3))), (o4, .inl (κ.2.1 2, 1, .inr (.inr (.inr (.inl g4)))))]) [(5, .int (Int32.ofNat (6 * j))), (4, .ref o4), (3, .ref o3), (2, .ref (ad (20, 0, 0))), (1, .ref (ad (0, 0, 0))), (0, .ref b)] 2178 [] k n
  refine y_aload_n (pc := 2178) o dL_law_2178 rfl ?_
  refine y_aload_n (pc := 2179) o dL_law_2179 rfl ?_
  refine y_iload (pc := 2180) o dL_law_2180 rfl ?_
  refine y_iconst (pc := 2182) (x := 1) o dL_law_2182 (by decide) ?_
  refine y_iadd (pc := 2183) o dL_law_2183 ?_
  refine y_sld (pc := 2184) o sc (6 * j + 1) (Int32.ofNat_add _ _).symm (by omega) hL dL_law_2184 ?_
  refine y_aload_n (pc := 2185) o dL_law_2185 rfl ?_
  refine y_iload (pc := 2186) o dL_law_2186 rfl ?_
  refine y_iconst (pc := 2188) (x := 2) o dL_law_2188 (by decide) ?_
  refine y_iadd (pc := 2189) o dL_law_2189 ?_
  refine y_sld (pc := 2190) o sc (6 * j + 2) (Int32.ofNat_add _ _).symm (by omega) hL dL_law_2190 ?_
  refine y_aload_n (pc := 2191) o dL_law_2191 rfl ?_
  have hok := i_sample hI0 (by omega) h50 (xs (6 * j + 1)) (xs (6 * j + 2))
  have hw := w_sample (κ := κ) (ad := ad) (R := C) (T := [(o4, .inl (κ.2.1 2, 1, .inr (.inr (.inr (.inl g4)))))]) hI0 o3 g3 (xs (6 * j + 1)) (xs (6 * j + 2))
  have hm9 := fun (ad1 : gKey → Nat) (T1 : List (Nat × va_E)) => r_sample (κ := κ) (ad := ad1) (C := (F_sample C0 (xs (6 * j + 1)) (xs (6 * j + 2))).2.2) (T := T1) hC0 hI0 (by omega) (xs (6 * j + 1)) (xs (6 * j + 2))
  generalize F_sample C0 (xs (6 * j + 1)) (xs (6 * j + 2)) = r at hok hw hm9
  refine y_mono (P' := gR κ ad (C0, C) [(o3, .inl (κ.2.1 1, 1, .inr (.inl g3))), (o4, .inl (κ.2.1 2, 1, .inr (.inr (.inr (.inl g4)))))]) (fun h hr => by rw [← hC0]; exact hr.ghostC (0, 0, 0) 5 0 (fun _ _ _ => rfl) (fun _ _ => rfl)) ?_
  refine y_callSW (pc := 2192) (k := k) (n := n) o (As := [.ref (ad (0, 0, 0)), .int (xs (6 * j + 1)), .int (xs (6 * j + 2)), .ref (o3)]) (rest := []) hw ls_L_256 dL_law_2192 rfl rfl (Nat.le_of_ble_eq_true rfl) ⟨by decide, by decide⟩ ⟨(show k + 2 ≤ 630091 by omega), (show n + 12 ≤ 7125959 by omega)⟩ (fun _ e => e) (fun v => y_and fun ev => y_ex fun g5 => y_ex fun ad1 => y_and fun hg => y_and fun h0 => y_and fun h20 => ?_)
  subst ev
  refine z_stk (st' := [.int r.1]) (k' := k + 2) (n' := n + 12) rfl ⟨rfl, rfl⟩ ?_
  rw [← h0, ← h20]
  refine y_istore (pc := 2195) (i := 6) (lv' := [(6, .int (r.1)), (5, .int (Int32.ofNat (6 * j))), (4, .ref (o4)), (3, .ref (o3)), (2, .ref (ad1 (20, 0, 0))), (1, .ref (ad1 (0, 0, 0))), (0, .ref (b))]) o dL_law_2195 (by decide) rfl ?_
  refine y_aload_n (pc := 2197) o dL_law_2197 rfl ?_
  refine y_aload_n (pc := 2198) o dL_law_2198 rfl ?_
  refine y_iload (pc := 2199) o dL_law_2199 rfl ?_
  refine y_iconst (pc := 2201) (x := 1) o dL_law_2201 (by decide) ?_
  refine y_iadd (pc := 2202) o dL_law_2202 ?_
  refine y_sld (pc := 2203) o sc (6 * j + 1) (Int32.ofNat_add _ _).symm (by omega) hL dL_law_2203 ?_
  refine y_aload_n (pc := 2204) o dL_law_2204 rfl ?_
  refine y_iload (pc := 2205) o dL_law_2205 rfl ?_
  refine y_iconst (pc := 2207) (x := 2) o dL_law_2207 (by decide) ?_
  refine y_iadd (pc := 2208) o dL_law_2208 ?_
  refine y_sld (pc := 2209) o sc (6 * j + 2) (Int32.ofNat_add _ _).symm (by omega) hL dL_law_2209 ?_
  refine y_callV (pc := 2210) (k := k + 2) (n := n + 12) o (b := ad1 (20, 0, 0)) (As := [.int (xs (6 * j + 1)), .int (xs (6 * j + 2))]) (rest := []) (hm9 _ _) ln_L_258 dL_law_2210 (z_rc (ci := 20) (K := (20, 0, 0)) rfl (gl_20 hI.fix) rfl) rfl rfl (Nat.le_of_ble_eq_true rfl) ⟨by decide, by decide⟩ ⟨(show k + 2 ≤ 630091 by omega), (show n + 12 ≤ 7125959 by omega)⟩ (fun _ e => e) rfl gq_nox2 (fun v => y_and fun ⟨x, ev, hx⟩ => y_ex fun ad2 => y_and fun q0 => y_and fun q20 => ?_)
  subst ev
  refine z_stk (st' := [.int (x)]) (k' := k + 2) (n' := n + 12) rfl ⟨rfl, rfl⟩ ?_
  rw [← q0, ← q20]
  refine y_istore (pc := 2213) (i := 7) (lv' := [(7, .int (x)), (6, .int (r.1)), (5, .int (Int32.ofNat (6 * j))), (4, .ref (o4)), (3, .ref (o3)), (2, .ref (ad2 (20, 0, 0))), (1, .ref (ad2 (0, 0, 0))), (0, .ref (b))]) o dL_law_2213 (by decide) rfl ?_
  refine y_aload_n (pc := 2215) o dL_law_2215 rfl ?_
  refine z_callV (pc := 2216) (k := k + 2) (n := n + 12) (k' := k + 2) (n' := n + 12) o (b := ad2 (20, 0, 0)) (As := []) (rest := []) (r_thrown (C := r.2.2) (R := r.2.2) hok.1.fix) ln_L_158 dL_law_2216 (z_rc (ci := 20) (K := (20, 0, 0)) rfl (gl_20 hok.1.fix) rfl) rfl rfl (Nat.le_of_ble_eq_true rfl) ⟨by decide, by decide⟩ ⟨rfl, rfl⟩ ⟨(show k + 2 ≤ 630091 by omega), (show n + 12 ≤ 7125959 by omega)⟩ rfl gq_nox2 ?_
  rw [hok.2]
  refine y_iload (pc := 2219) o dL_law_2219 rfl ?_
  refine y_icmp_eq (pc := 2221) (tgt := 2226) o dL_law_2221 rfl (fun (b1 : r.1 = r.1) => ?_) (fun b1 => absurd rfl b1)
  refine y_iload (pc := 2226) o dL_law_2226 rfl ?_
  refine y_if_ne (pc := 2228) (tgt := 2243) o dL_law_2228 rfl (fun (b2 : ¬ r.1 = 0) => ?_) (fun (b2 : r.1 = 0) => ?_)
  · refine y_goto (pc := 2243) (tgt := 3021) o dL_law_2243 rfl ?_
    refine y_lv [2, 3, 4, 5, 6, 7] (lv' := [(5, .int (Int32.ofNat (6 * j))), (4, .ref (o4)), (3, .ref (o3)), (2, .ref (ad2 (20, 0, 0))), (1, .ref (ad2 (0, 0, 0))), (0, .ref (b))]) rfl ?_
    exact y_wide (by omega) (by omega) (K _ _ _ _ (hok.1))
  refine y_aload_n (pc := 2231) o dL_law_2231 rfl ?_
  refine y_iconst (pc := 2232) (x := 0) o dL_law_2232 (by decide) ?_
  refine z_laldT (pc := 2233) (i := 0) (v := g5 0) o 0 dL_law_2233 rfl (by unfold vp_in; decide) rfl ?_
  refine y_iload (pc := 2234) o dL_law_2234 rfl ?_
  refine y_i2l (pc := 2236) o dL_law_2236 ?_
  refine y_lcmp (pc := 2237) o dL_law_2237 ?_
  refine y_if_eq (pc := 2238) (tgt := 2243) o dL_law_2238 rfl (fun (b3 : (lg_cmp (g5 0) x.toInt64) = 0) => ?_) (fun b3 => absurd (gl0 (by rw [hg b2, hx b2])) b3)
  refine y_goto (pc := 2243) (tgt := 3021) o dL_law_2243 rfl ?_
  refine y_lv [2, 3, 4, 5, 6, 7] (lv' := [(5, .int (Int32.ofNat (6 * j))), (4, .ref (o4)), (3, .ref (o3)), (2, .ref (ad2 (20, 0, 0))), (1, .ref (ad2 (0, 0, 0))), (0, .ref (b))]) rfl ?_
  exact y_wide (by omega) (by omega) (K _ _ _ _ (hok.1))

theorem lc_seed {κ : gq_K} {f : gq_F} {b L j k n o3 o4 : Nat} {xs : Nat → Int32} {ad : gKey → Nat} {C : gG} {g3 : Nat → Int64} {g4 : Nat → UInt64} (o : gq_Ok κ mL_law f) (sc : gq_Sc f b L xs) (hL : L ≤ 3072) (hj : 6 * j + 6 ≤ L) (hI : gI j C) (hk : k + 40 ≤ 630091) (hn9 : n + 700 ≤ 7125959) (K : ∀ (C' : gG) (ad' : gKey → Nat) (g3 : Nat → Int64) (g4 : Nat → UInt64), gI (j + 1) C' → gq_Y κ mL_law gQL gq_no f (gLP κ ad' C' o3 g3 o4 g4) (gLV ad' j o3 o4 b) 3021 [] (k + 40) (n + 700)) : gq_Y κ mL_law gQL gq_no f (gLP κ ad C o3 g3 o4 g4) (gLV ad j o3 o4 b) 2246 [] k n := by
  obtain ⟨C0, hC0⟩ : ∃ C0, gup C (0, 0, 0) 5 0 = C0 := ⟨_, rfl⟩
  have hI0 : gI j C0 := by rw [← hC0]; exact hI.up (Nat.le_refl _) (by omega)
  have h50 : C0.1 (0, 0, 0) 5 = 0 := by rw [← hC0]; exact gup_v _ _ _ _
  show gq_Y κ mL_law gQL gq_no f (gR κ ad (C, C) [(o3, .inl (κ.2.1 1, 1, .inr (.inl g3))), (o4, .inl (κ.2.1 2, 1, .inr (.inr (.inr (.inl g4)))))]) [(5, .int (Int32.ofNat (6 * j))), (4, .ref o4), (3, .ref o3), (2, .ref (ad (20, 0, 0))), (1, .ref (ad (0, 0, 0))), (0, .ref b)] 2246 [] k n
  refine y_aload_n (pc := 2246) o dL_law_2246 rfl ?_
  refine y_aload_n (pc := 2247) o dL_law_2247 rfl ?_
  refine y_iload (pc := 2248) o dL_law_2248 rfl ?_
  refine y_iconst (pc := 2250) (x := 1) o dL_law_2250 (by decide) ?_
  refine y_iadd (pc := 2251) o dL_law_2251 ?_
  refine y_sld (pc := 2252) o sc (6 * j + 1) (Int32.ofNat_add _ _).symm (by omega) hL dL_law_2252 ?_
  refine y_aload_n (pc := 2253) o dL_law_2253 rfl ?_
  have hok := i_seed hI0 (by omega) h50 (xs (6 * j + 1))
  have hw := w_seed (κ := κ) (ad := ad) (R := C) (T := [(o4, .inl (κ.2.1 2, 1, .inr (.inr (.inr (.inl g4)))))]) hI0 o3 g3 (xs (6 * j + 1))
  have hm9 := fun (ad1 : gKey → Nat) (T1 : List (Nat × va_E)) => r_seed (κ := κ) (ad := ad1) (C := (F_seed C0 (xs (6 * j + 1))).2.2) (T := T1) hC0 hI0 (by omega) (xs (6 * j + 1))
  generalize F_seed C0 (xs (6 * j + 1)) = r at hok hw hm9
  refine y_mono (P' := gR κ ad (C0, C) [(o3, .inl (κ.2.1 1, 1, .inr (.inl g3))), (o4, .inl (κ.2.1 2, 1, .inr (.inr (.inr (.inl g4)))))]) (fun h hr => by rw [← hC0]; exact hr.ghostC (0, 0, 0) 5 0 (fun _ _ _ => rfl) (fun _ _ => rfl)) ?_
  refine y_callSW (pc := 2254) (k := k) (n := n) o (As := [.ref (ad (0, 0, 0)), .int (xs (6 * j + 1)), .ref (o3)]) (rest := []) hw ls_L_259 dL_law_2254 rfl rfl (Nat.le_of_ble_eq_true rfl) ⟨by decide, by decide⟩ ⟨(show k + 1 ≤ 630091 by omega), (show n + 6 ≤ 7125959 by omega)⟩ (fun _ e => e) (fun v => y_and fun ev => y_ex fun g5 => y_ex fun ad1 => y_and fun hg => y_and fun h0 => y_and fun h20 => ?_)
  subst ev
  refine z_stk (st' := [.int r.1]) (k' := k + 1) (n' := n + 6) rfl ⟨rfl, rfl⟩ ?_
  rw [← h0, ← h20]
  refine y_istore (pc := 2257) (i := 6) (lv' := [(6, .int (r.1)), (5, .int (Int32.ofNat (6 * j))), (4, .ref (o4)), (3, .ref (o3)), (2, .ref (ad1 (20, 0, 0))), (1, .ref (ad1 (0, 0, 0))), (0, .ref (b))]) o dL_law_2257 (by decide) rfl ?_
  refine y_aload_n (pc := 2259) o dL_law_2259 rfl ?_
  refine y_aload_n (pc := 2260) o dL_law_2260 rfl ?_
  refine y_iload (pc := 2261) o dL_law_2261 rfl ?_
  refine y_iconst (pc := 2263) (x := 1) o dL_law_2263 (by decide) ?_
  refine y_iadd (pc := 2264) o dL_law_2264 ?_
  refine y_sld (pc := 2265) o sc (6 * j + 1) (Int32.ofNat_add _ _).symm (by omega) hL dL_law_2265 ?_
  refine y_callV (pc := 2266) (k := k + 1) (n := n + 6) o (b := ad1 (20, 0, 0)) (As := [.int (xs (6 * j + 1))]) (rest := []) (hm9 _ _) ln_L_261 dL_law_2266 (z_rc (ci := 20) (K := (20, 0, 0)) rfl (gl_20 hI.fix) rfl) rfl rfl (Nat.le_of_ble_eq_true rfl) ⟨by decide, by decide⟩ ⟨(show k + 1 ≤ 630091 by omega), (show n + 6 ≤ 7125959 by omega)⟩ (fun _ e => e) rfl gq_nox2 (fun v => y_and fun ⟨x, ev, hx⟩ => y_ex fun ad2 => y_and fun q0 => y_and fun q20 => ?_)
  subst ev
  refine z_stk (st' := [.int (x)]) (k' := k + 1) (n' := n + 6) rfl ⟨rfl, rfl⟩ ?_
  rw [← q0, ← q20]
  refine y_istore (pc := 2269) (i := 7) (lv' := [(7, .int (x)), (6, .int (r.1)), (5, .int (Int32.ofNat (6 * j))), (4, .ref (o4)), (3, .ref (o3)), (2, .ref (ad2 (20, 0, 0))), (1, .ref (ad2 (0, 0, 0))), (0, .ref (b))]) o dL_law_2269 (by decide) rfl ?_
  refine y_aload_n (pc := 2271) o dL_law_2271 rfl ?_
  refine z_callV (pc := 2272) (k := k + 1) (n := n + 6) (k' := k + 1) (n' := n + 6) o (b := ad2 (20, 0, 0)) (As := []) (rest := []) (r_thrown (C := r.2.2) (R := r.2.2) hok.1.fix) ln_L_158 dL_law_2272 (z_rc (ci := 20) (K := (20, 0, 0)) rfl (gl_20 hok.1.fix) rfl) rfl rfl (Nat.le_of_ble_eq_true rfl) ⟨by decide, by decide⟩ ⟨rfl, rfl⟩ ⟨(show k + 1 ≤ 630091 by omega), (show n + 6 ≤ 7125959 by omega)⟩ rfl gq_nox2 ?_
  rw [hok.2]
  refine y_iload (pc := 2275) o dL_law_2275 rfl ?_
  refine y_icmp_eq (pc := 2277) (tgt := 2282) o dL_law_2277 rfl (fun (b1 : r.1 = r.1) => ?_) (fun b1 => absurd rfl b1)
  refine y_iload (pc := 2282) o dL_law_2282 rfl ?_
  refine y_if_ne (pc := 2284) (tgt := 2299) o dL_law_2284 rfl (fun (b2 : ¬ r.1 = 0) => ?_) (fun (b2 : r.1 = 0) => ?_)
  · refine y_goto (pc := 2299) (tgt := 3021) o dL_law_2299 rfl ?_
    refine y_lv [2, 3, 4, 5, 6, 7] (lv' := [(5, .int (Int32.ofNat (6 * j))), (4, .ref (o4)), (3, .ref (o3)), (2, .ref (ad2 (20, 0, 0))), (1, .ref (ad2 (0, 0, 0))), (0, .ref (b))]) rfl ?_
    exact y_wide (by omega) (by omega) (K _ _ _ _ (hok.1))
  refine y_aload_n (pc := 2287) o dL_law_2287 rfl ?_
  refine y_iconst (pc := 2288) (x := 0) o dL_law_2288 (by decide) ?_
  refine z_laldT (pc := 2289) (i := 0) (v := g5 0) o 0 dL_law_2289 rfl (by unfold vp_in; decide) rfl ?_
  refine y_iload (pc := 2290) o dL_law_2290 rfl ?_
  refine y_i2l (pc := 2292) o dL_law_2292 ?_
  refine y_lcmp (pc := 2293) o dL_law_2293 ?_
  refine y_if_eq (pc := 2294) (tgt := 2299) o dL_law_2294 rfl (fun (b3 : (lg_cmp (g5 0) x.toInt64) = 0) => ?_) (fun b3 => absurd (gl0 (by rw [hg b2, hx b2])) b3)
  refine y_goto (pc := 2299) (tgt := 3021) o dL_law_2299 rfl ?_
  refine y_lv [2, 3, 4, 5, 6, 7] (lv' := [(5, .int (Int32.ofNat (6 * j))), (4, .ref (o4)), (3, .ref (o3)), (2, .ref (ad2 (20, 0, 0))), (1, .ref (ad2 (0, 0, 0))), (0, .ref (b))]) rfl ?_
  exact y_wide (by omega) (by omega) (K _ _ _ _ (hok.1))

theorem lc_gross {κ : gq_K} {f : gq_F} {b L j k n o3 o4 : Nat} {xs : Nat → Int32} {ad : gKey → Nat} {C : gG} {g3 : Nat → Int64} {g4 : Nat → UInt64} (o : gq_Ok κ mL_law f) (sc : gq_Sc f b L xs) (hL : L ≤ 3072) (hj : 6 * j + 6 ≤ L) (hI : gI j C) (hk : k + 40 ≤ 630091) (hn9 : n + 700 ≤ 7125959) (K : ∀ (C' : gG) (ad' : gKey → Nat) (g3 : Nat → Int64) (g4 : Nat → UInt64), gI (j + 1) C' → gq_Y κ mL_law gQL gq_no f (gLP κ ad' C' o3 g3 o4 g4) (gLV ad' j o3 o4 b) 3021 [] (k + 40) (n + 700)) : gq_Y κ mL_law gQL gq_no f (gLP κ ad C o3 g3 o4 g4) (gLV ad j o3 o4 b) 2302 [] k n := by
  obtain ⟨C0, hC0⟩ : ∃ C0, gup C (0, 0, 0) 5 0 = C0 := ⟨_, rfl⟩
  have hI0 : gI j C0 := by rw [← hC0]; exact hI.up (Nat.le_refl _) (by omega)
  have h50 : C0.1 (0, 0, 0) 5 = 0 := by rw [← hC0]; exact gup_v _ _ _ _
  show gq_Y κ mL_law gQL gq_no f (gR κ ad (C, C) [(o3, .inl (κ.2.1 1, 1, .inr (.inl g3))), (o4, .inl (κ.2.1 2, 1, .inr (.inr (.inr (.inl g4)))))]) [(5, .int (Int32.ofNat (6 * j))), (4, .ref o4), (3, .ref o3), (2, .ref (ad (20, 0, 0))), (1, .ref (ad (0, 0, 0))), (0, .ref b)] 2302 [] k n
  refine y_aload_n (pc := 2302) o dL_law_2302 rfl ?_
  refine y_aload_n (pc := 2303) o dL_law_2303 rfl ?_
  refine y_iload (pc := 2304) o dL_law_2304 rfl ?_
  refine y_iconst (pc := 2306) (x := 1) o dL_law_2306 (by decide) ?_
  refine y_iadd (pc := 2307) o dL_law_2307 ?_
  refine y_sld (pc := 2308) o sc (6 * j + 1) (Int32.ofNat_add _ _).symm (by omega) hL dL_law_2308 ?_
  refine y_aload_n (pc := 2309) o dL_law_2309 rfl ?_
  have hok := i_gross hI0 (by omega) h50 (xs (6 * j + 1))
  have hw := w_gross (κ := κ) (ad := ad) (R := C) (T := [(o4, .inl (κ.2.1 2, 1, .inr (.inr (.inr (.inl g4)))))]) hI0 o3 g3 (xs (6 * j + 1))
  have hm9 := fun (ad1 : gKey → Nat) (T1 : List (Nat × va_E)) => r_gross (κ := κ) (ad := ad1) (C := (F_gross C0 (xs (6 * j + 1))).2.2) (T := T1) hC0 hI0 (by omega) (xs (6 * j + 1))
  generalize F_gross C0 (xs (6 * j + 1)) = r at hok hw hm9
  refine y_mono (P' := gR κ ad (C0, C) [(o3, .inl (κ.2.1 1, 1, .inr (.inl g3))), (o4, .inl (κ.2.1 2, 1, .inr (.inr (.inr (.inl g4)))))]) (fun h hr => by rw [← hC0]; exact hr.ghostC (0, 0, 0) 5 0 (fun _ _ _ => rfl) (fun _ _ => rfl)) ?_
  refine y_callSW (pc := 2310) (k := k) (n := n) o (As := [.ref (ad (0, 0, 0)), .int (xs (6 * j + 1)), .ref (o3)]) (rest := []) hw ls_L_262 dL_law_2310 rfl rfl (Nat.le_of_ble_eq_true rfl) ⟨by decide, by decide⟩ ⟨(show k + 4 ≤ 630091 by omega), (show n + 269 ≤ 7125959 by omega)⟩ (fun _ e => e) (fun v => y_and fun ev => y_ex fun g5 => y_ex fun ad1 => y_and fun hg => y_and fun h0 => y_and fun h20 => ?_)
  subst ev
  refine z_stk (st' := [.int r.1]) (k' := k + 4) (n' := n + 269) rfl ⟨rfl, rfl⟩ ?_
  rw [← h0, ← h20]
  refine y_istore (pc := 2313) (i := 6) (lv' := [(6, .int (r.1)), (5, .int (Int32.ofNat (6 * j))), (4, .ref (o4)), (3, .ref (o3)), (2, .ref (ad1 (20, 0, 0))), (1, .ref (ad1 (0, 0, 0))), (0, .ref (b))]) o dL_law_2313 (by decide) rfl ?_
  refine y_aload_n (pc := 2315) o dL_law_2315 rfl ?_
  refine y_aload_n (pc := 2316) o dL_law_2316 rfl ?_
  refine y_iload (pc := 2317) o dL_law_2317 rfl ?_
  refine y_iconst (pc := 2319) (x := 1) o dL_law_2319 (by decide) ?_
  refine y_iadd (pc := 2320) o dL_law_2320 ?_
  refine y_sld (pc := 2321) o sc (6 * j + 1) (Int32.ofNat_add _ _).symm (by omega) hL dL_law_2321 ?_
  refine y_callV (pc := 2322) (k := k + 4) (n := n + 269) o (b := ad1 (20, 0, 0)) (As := [.int (xs (6 * j + 1))]) (rest := []) (hm9 _ _) ln_L_264 dL_law_2322 (z_rc (ci := 20) (K := (20, 0, 0)) rfl (gl_20 hI.fix) rfl) rfl rfl (Nat.le_of_ble_eq_true rfl) ⟨by decide, by decide⟩ ⟨(show k + 4 + 3 ≤ 630091 by omega), (show n + 269 + 262 ≤ 7125959 by omega)⟩ (fun _ e => e) rfl gq_nox2 (fun v => y_and fun ⟨x, ev, hx⟩ => y_ex fun ad2 => y_and fun q0 => y_and fun q20 => ?_)
  subst ev
  refine z_stk (st' := [.int (x)]) (k' := k + 4 + 3) (n' := n + 269 + 262) rfl ⟨rfl, rfl⟩ ?_
  rw [← q0, ← q20]
  refine y_istore (pc := 2325) (i := 7) (lv' := [(7, .int (x)), (6, .int (r.1)), (5, .int (Int32.ofNat (6 * j))), (4, .ref (o4)), (3, .ref (o3)), (2, .ref (ad2 (20, 0, 0))), (1, .ref (ad2 (0, 0, 0))), (0, .ref (b))]) o dL_law_2325 (by decide) rfl ?_
  refine y_aload_n (pc := 2327) o dL_law_2327 rfl ?_
  refine z_callV (pc := 2328) (k := k + 4 + 3) (n := n + 269 + 262) (k' := k + 4 + 3) (n' := n + 269 + 262) o (b := ad2 (20, 0, 0)) (As := []) (rest := []) (r_thrown (C := r.2.2) (R := r.2.2) hok.1.fix) ln_L_158 dL_law_2328 (z_rc (ci := 20) (K := (20, 0, 0)) rfl (gl_20 hok.1.fix) rfl) rfl rfl (Nat.le_of_ble_eq_true rfl) ⟨by decide, by decide⟩ ⟨rfl, rfl⟩ ⟨(show k + 4 + 3 ≤ 630091 by omega), (show n + 269 + 262 ≤ 7125959 by omega)⟩ rfl gq_nox2 ?_
  rw [hok.2]
  refine y_iload (pc := 2331) o dL_law_2331 rfl ?_
  refine y_icmp_eq (pc := 2333) (tgt := 2338) o dL_law_2333 rfl (fun (b1 : r.1 = r.1) => ?_) (fun b1 => absurd rfl b1)
  refine y_iload (pc := 2338) o dL_law_2338 rfl ?_
  refine y_if_ne (pc := 2340) (tgt := 2355) o dL_law_2340 rfl (fun (b2 : ¬ r.1 = 0) => ?_) (fun (b2 : r.1 = 0) => ?_)
  · refine y_goto (pc := 2355) (tgt := 3021) o dL_law_2355 rfl ?_
    refine y_lv [2, 3, 4, 5, 6, 7] (lv' := [(5, .int (Int32.ofNat (6 * j))), (4, .ref (o4)), (3, .ref (o3)), (2, .ref (ad2 (20, 0, 0))), (1, .ref (ad2 (0, 0, 0))), (0, .ref (b))]) rfl ?_
    exact y_wide (by omega) (by omega) (K _ _ _ _ (hok.1))
  refine y_aload_n (pc := 2343) o dL_law_2343 rfl ?_
  refine y_iconst (pc := 2344) (x := 0) o dL_law_2344 (by decide) ?_
  refine z_laldT (pc := 2345) (i := 0) (v := g5 0) o 0 dL_law_2345 rfl (by unfold vp_in; decide) rfl ?_
  refine y_iload (pc := 2346) o dL_law_2346 rfl ?_
  refine y_i2l (pc := 2348) o dL_law_2348 ?_
  refine y_lcmp (pc := 2349) o dL_law_2349 ?_
  refine y_if_eq (pc := 2350) (tgt := 2355) o dL_law_2350 rfl (fun (b3 : (lg_cmp (g5 0) x.toInt64) = 0) => ?_) (fun b3 => absurd (gl0 (by rw [hg b2, hx b2])) b3)
  refine y_goto (pc := 2355) (tgt := 3021) o dL_law_2355 rfl ?_
  refine y_lv [2, 3, 4, 5, 6, 7] (lv' := [(5, .int (Int32.ofNat (6 * j))), (4, .ref (o4)), (3, .ref (o3)), (2, .ref (ad2 (20, 0, 0))), (1, .ref (ad2 (0, 0, 0))), (0, .ref (b))]) rfl ?_
  exact y_wide (by omega) (by omega) (K _ _ _ _ (hok.1))

theorem lc_pack {κ : gq_K} {f : gq_F} {b L j k n o3 o4 : Nat} {xs : Nat → Int32} {ad : gKey → Nat} {C : gG} {g3 : Nat → Int64} {g4 : Nat → UInt64} (o : gq_Ok κ mL_law f) (sc : gq_Sc f b L xs) (hL : L ≤ 3072) (hj : 6 * j + 6 ≤ L) (hI : gI j C) (hk : k + 40 ≤ 630091) (hn9 : n + 700 ≤ 7125959) (K : ∀ (C' : gG) (ad' : gKey → Nat) (g3 : Nat → Int64) (g4 : Nat → UInt64), gI (j + 1) C' → gq_Y κ mL_law gQL gq_no f (gLP κ ad' C' o3 g3 o4 g4) (gLV ad' j o3 o4 b) 3021 [] (k + 40) (n + 700)) : gq_Y κ mL_law gQL gq_no f (gLP κ ad C o3 g3 o4 g4) (gLV ad j o3 o4 b) 2358 [] k n := by
  obtain ⟨C0, hC0⟩ : ∃ C0, gup C (0, 0, 0) 5 0 = C0 := ⟨_, rfl⟩
  have hI0 : gI j C0 := by rw [← hC0]; exact hI.up (Nat.le_refl _) (by omega)
  have h50 : C0.1 (0, 0, 0) 5 = 0 := by rw [← hC0]; exact gup_v _ _ _ _
  show gq_Y κ mL_law gQL gq_no f (gR κ ad (C, C) [(o3, .inl (κ.2.1 1, 1, .inr (.inl g3))), (o4, .inl (κ.2.1 2, 1, .inr (.inr (.inr (.inl g4)))))]) [(5, .int (Int32.ofNat (6 * j))), (4, .ref o4), (3, .ref o3), (2, .ref (ad (20, 0, 0))), (1, .ref (ad (0, 0, 0))), (0, .ref b)] 2358 [] k n
  refine y_aload_n (pc := 2358) o dL_law_2358 rfl ?_
  refine y_aload_n (pc := 2359) o dL_law_2359 rfl ?_
  refine y_iload (pc := 2360) o dL_law_2360 rfl ?_
  refine y_iconst (pc := 2362) (x := 1) o dL_law_2362 (by decide) ?_
  refine y_iadd (pc := 2363) o dL_law_2363 ?_
  refine y_sld (pc := 2364) o sc (6 * j + 1) (Int32.ofNat_add _ _).symm (by omega) hL dL_law_2364 ?_
  refine y_aload_n (pc := 2365) o dL_law_2365 rfl ?_
  refine y_iload (pc := 2366) o dL_law_2366 rfl ?_
  refine y_iconst (pc := 2368) (x := 2) o dL_law_2368 (by decide) ?_
  refine y_iadd (pc := 2369) o dL_law_2369 ?_
  refine y_sld (pc := 2370) o sc (6 * j + 2) (Int32.ofNat_add _ _).symm (by omega) hL dL_law_2370 ?_
  refine y_aload_n (pc := 2371) o dL_law_2371 rfl ?_
  refine y_iload (pc := 2372) o dL_law_2372 rfl ?_
  refine y_iconst (pc := 2374) (x := 3) o dL_law_2374 (by decide) ?_
  refine y_iadd (pc := 2375) o dL_law_2375 ?_
  refine y_sld (pc := 2376) o sc (6 * j + 3) (Int32.ofNat_add _ _).symm (by omega) hL dL_law_2376 ?_
  refine y_aload_n (pc := 2377) o dL_law_2377 rfl ?_
  have hok := i_pack hI0 (by omega) h50 (xs (6 * j + 1)) (xs (6 * j + 2)) (xs (6 * j + 3))
  have hw := w_pack (κ := κ) (ad := ad) (R := C) (T := [(o4, .inl (κ.2.1 2, 1, .inr (.inr (.inr (.inl g4)))))]) hI0 o3 g3 (xs (6 * j + 1)) (xs (6 * j + 2)) (xs (6 * j + 3))
  have hm9 := fun (ad1 : gKey → Nat) (T1 : List (Nat × va_E)) => r_pack (κ := κ) (ad := ad1) (C := (F_pack C0 (xs (6 * j + 1)) (xs (6 * j + 2)) (xs (6 * j + 3))).2.2) (T := T1) hC0 hI0 (by omega) (xs (6 * j + 1)) (xs (6 * j + 2)) (xs (6 * j + 3))
  generalize F_pack C0 (xs (6 * j + 1)) (xs (6 * j + 2)) (xs (6 * j + 3)) = r at hok hw hm9
  refine y_mono (P' := gR κ ad (C0, C) [(o3, .inl (κ.2.1 1, 1, .inr (.inl g3))), (o4, .inl (κ.2.1 2, 1, .inr (.inr (.inr (.inl g4)))))]) (fun h hr => by rw [← hC0]; exact hr.ghostC (0, 0, 0) 5 0 (fun _ _ _ => rfl) (fun _ _ => rfl)) ?_
  refine y_callSW (pc := 2378) (k := k) (n := n) o (As := [.ref (ad (0, 0, 0)), .int (xs (6 * j + 1)), .int (xs (6 * j + 2)), .int (xs (6 * j + 3)), .ref (o3)]) (rest := []) hw ls_L_265 dL_law_2378 rfl rfl (Nat.le_of_ble_eq_true rfl) ⟨by decide, by decide⟩ ⟨(show k + 5 ≤ 630091 by omega), (show n + 277 ≤ 7125959 by omega)⟩ (fun _ e => e) (fun v => y_and fun ev => y_ex fun g5 => y_ex fun ad1 => y_and fun hg => y_and fun h0 => y_and fun h20 => ?_)
  subst ev
  refine z_stk (st' := [.int r.1]) (k' := k + 5) (n' := n + 277) rfl ⟨rfl, rfl⟩ ?_
  rw [← h0, ← h20]
  refine y_istore (pc := 2381) (i := 6) (lv' := [(6, .int (r.1)), (5, .int (Int32.ofNat (6 * j))), (4, .ref (o4)), (3, .ref (o3)), (2, .ref (ad1 (20, 0, 0))), (1, .ref (ad1 (0, 0, 0))), (0, .ref (b))]) o dL_law_2381 (by decide) rfl ?_
  refine y_aload_n (pc := 2383) o dL_law_2383 rfl ?_
  refine y_aload_n (pc := 2384) o dL_law_2384 rfl ?_
  refine y_iload (pc := 2385) o dL_law_2385 rfl ?_
  refine y_iconst (pc := 2387) (x := 1) o dL_law_2387 (by decide) ?_
  refine y_iadd (pc := 2388) o dL_law_2388 ?_
  refine y_sld (pc := 2389) o sc (6 * j + 1) (Int32.ofNat_add _ _).symm (by omega) hL dL_law_2389 ?_
  refine y_aload_n (pc := 2390) o dL_law_2390 rfl ?_
  refine y_iload (pc := 2391) o dL_law_2391 rfl ?_
  refine y_iconst (pc := 2393) (x := 2) o dL_law_2393 (by decide) ?_
  refine y_iadd (pc := 2394) o dL_law_2394 ?_
  refine y_sld (pc := 2395) o sc (6 * j + 2) (Int32.ofNat_add _ _).symm (by omega) hL dL_law_2395 ?_
  refine y_aload_n (pc := 2396) o dL_law_2396 rfl ?_
  refine y_iload (pc := 2397) o dL_law_2397 rfl ?_
  refine y_iconst (pc := 2399) (x := 3) o dL_law_2399 (by decide) ?_
  refine y_iadd (pc := 2400) o dL_law_2400 ?_
  refine y_sld (pc := 2401) o sc (6 * j + 3) (Int32.ofNat_add _ _).symm (by omega) hL dL_law_2401 ?_
  refine y_callV (pc := 2402) (k := k + 5) (n := n + 277) o (b := ad1 (20, 0, 0)) (As := [.int (xs (6 * j + 1)), .int (xs (6 * j + 2)), .int (xs (6 * j + 3))]) (rest := []) (hm9 _ _) ln_L_267 dL_law_2402 (z_rc (ci := 20) (K := (20, 0, 0)) rfl (gl_20 hI.fix) rfl) rfl rfl (Nat.le_of_ble_eq_true rfl) ⟨by decide, by decide⟩ ⟨(show k + 5 + 4 ≤ 630091 by omega), (show n + 277 + 280 ≤ 7125959 by omega)⟩ (fun _ e => e) rfl gq_nox2 (fun v => y_and fun ⟨x, ev, hx⟩ => y_ex fun ad2 => y_and fun q0 => y_and fun q20 => ?_)
  subst ev
  refine z_stk (st' := [.int (x)]) (k' := k + 5 + 4) (n' := n + 277 + 280) rfl ⟨rfl, rfl⟩ ?_
  rw [← q0, ← q20]
  refine y_istore (pc := 2405) (i := 7) (lv' := [(7, .int (x)), (6, .int (r.1)), (5, .int (Int32.ofNat (6 * j))), (4, .ref (o4)), (3, .ref (o3)), (2, .ref (ad2 (20, 0, 0))), (1, .ref (ad2 (0, 0, 0))), (0, .ref (b))]) o dL_law_2405 (by decide) rfl ?_
  refine y_aload_n (pc := 2407) o dL_law_2407 rfl ?_
  refine z_callV (pc := 2408) (k := k + 5 + 4) (n := n + 277 + 280) (k' := k + 5 + 4) (n' := n + 277 + 280) o (b := ad2 (20, 0, 0)) (As := []) (rest := []) (r_thrown (C := r.2.2) (R := r.2.2) hok.1.fix) ln_L_158 dL_law_2408 (z_rc (ci := 20) (K := (20, 0, 0)) rfl (gl_20 hok.1.fix) rfl) rfl rfl (Nat.le_of_ble_eq_true rfl) ⟨by decide, by decide⟩ ⟨rfl, rfl⟩ ⟨(show k + 5 + 4 ≤ 630091 by omega), (show n + 277 + 280 ≤ 7125959 by omega)⟩ rfl gq_nox2 ?_
  rw [hok.2]
  refine y_iload (pc := 2411) o dL_law_2411 rfl ?_
  refine y_icmp_eq (pc := 2413) (tgt := 2418) o dL_law_2413 rfl (fun (b1 : r.1 = r.1) => ?_) (fun b1 => absurd rfl b1)
  refine y_iload (pc := 2418) o dL_law_2418 rfl ?_
  refine y_if_ne (pc := 2420) (tgt := 2435) o dL_law_2420 rfl (fun (b2 : ¬ r.1 = 0) => ?_) (fun (b2 : r.1 = 0) => ?_)
  · refine y_goto (pc := 2435) (tgt := 3021) o dL_law_2435 rfl ?_
    refine y_lv [2, 3, 4, 5, 6, 7] (lv' := [(5, .int (Int32.ofNat (6 * j))), (4, .ref (o4)), (3, .ref (o3)), (2, .ref (ad2 (20, 0, 0))), (1, .ref (ad2 (0, 0, 0))), (0, .ref (b))]) rfl ?_
    exact y_wide (by omega) (by omega) (K _ _ _ _ (hok.1))
  refine y_aload_n (pc := 2423) o dL_law_2423 rfl ?_
  refine y_iconst (pc := 2424) (x := 0) o dL_law_2424 (by decide) ?_
  refine z_laldT (pc := 2425) (i := 0) (v := g5 0) o 0 dL_law_2425 rfl (by unfold vp_in; decide) rfl ?_
  refine y_iload (pc := 2426) o dL_law_2426 rfl ?_
  refine y_i2l (pc := 2428) o dL_law_2428 ?_
  refine y_lcmp (pc := 2429) o dL_law_2429 ?_
  refine y_if_eq (pc := 2430) (tgt := 2435) o dL_law_2430 rfl (fun (b3 : (lg_cmp (g5 0) x.toInt64) = 0) => ?_) (fun b3 => absurd (gl0 (by rw [hg b2, hx b2])) b3)
  refine y_goto (pc := 2435) (tgt := 3021) o dL_law_2435 rfl ?_
  refine y_lv [2, 3, 4, 5, 6, 7] (lv' := [(5, .int (Int32.ofNat (6 * j))), (4, .ref (o4)), (3, .ref (o3)), (2, .ref (ad2 (20, 0, 0))), (1, .ref (ad2 (0, 0, 0))), (0, .ref (b))]) rfl ?_
  exact y_wide (by omega) (by omega) (K _ _ _ _ (hok.1))

theorem lc_order {κ : gq_K} {f : gq_F} {b L j k n o3 o4 : Nat} {xs : Nat → Int32} {ad : gKey → Nat} {C : gG} {g3 : Nat → Int64} {g4 : Nat → UInt64} (o : gq_Ok κ mL_law f) (sc : gq_Sc f b L xs) (hL : L ≤ 3072) (hj : 6 * j + 6 ≤ L) (hI : gI j C) (hk : k + 40 ≤ 630091) (hn9 : n + 700 ≤ 7125959) (K : ∀ (C' : gG) (ad' : gKey → Nat) (g3 : Nat → Int64) (g4 : Nat → UInt64), gI (j + 1) C' → gq_Y κ mL_law gQL gq_no f (gLP κ ad' C' o3 g3 o4 g4) (gLV ad' j o3 o4 b) 3021 [] (k + 40) (n + 700)) : gq_Y κ mL_law gQL gq_no f (gLP κ ad C o3 g3 o4 g4) (gLV ad j o3 o4 b) 2438 [] k n := by
  obtain ⟨C0, hC0⟩ : ∃ C0, gup C (0, 0, 0) 5 0 = C0 := ⟨_, rfl⟩
  have hI0 : gI j C0 := by rw [← hC0]; exact hI.up (Nat.le_refl _) (by omega)
  have h50 : C0.1 (0, 0, 0) 5 = 0 := by rw [← hC0]; exact gup_v _ _ _ _
  show gq_Y κ mL_law gQL gq_no f (gR κ ad (C, C) [(o3, .inl (κ.2.1 1, 1, .inr (.inl g3))), (o4, .inl (κ.2.1 2, 1, .inr (.inr (.inr (.inl g4)))))]) [(5, .int (Int32.ofNat (6 * j))), (4, .ref o4), (3, .ref o3), (2, .ref (ad (20, 0, 0))), (1, .ref (ad (0, 0, 0))), (0, .ref b)] 2438 [] k n
  refine y_aload_n (pc := 2438) o dL_law_2438 rfl ?_
  refine y_aload_n (pc := 2439) o dL_law_2439 rfl ?_
  refine y_iload (pc := 2440) o dL_law_2440 rfl ?_
  refine y_iconst (pc := 2442) (x := 1) o dL_law_2442 (by decide) ?_
  refine y_iadd (pc := 2443) o dL_law_2443 ?_
  refine y_sld (pc := 2444) o sc (6 * j + 1) (Int32.ofNat_add _ _).symm (by omega) hL dL_law_2444 ?_
  refine y_aload_n (pc := 2445) o dL_law_2445 rfl ?_
  refine y_iload (pc := 2446) o dL_law_2446 rfl ?_
  refine y_iconst (pc := 2448) (x := 2) o dL_law_2448 (by decide) ?_
  refine y_iadd (pc := 2449) o dL_law_2449 ?_
  refine y_sld (pc := 2450) o sc (6 * j + 2) (Int32.ofNat_add _ _).symm (by omega) hL dL_law_2450 ?_
  refine y_aload_n (pc := 2451) o dL_law_2451 rfl ?_
  refine y_iload (pc := 2452) o dL_law_2452 rfl ?_
  refine y_iconst (pc := 2454) (x := 3) o dL_law_2454 (by decide) ?_
  refine y_iadd (pc := 2455) o dL_law_2455 ?_
  refine y_sld (pc := 2456) o sc (6 * j + 3) (Int32.ofNat_add _ _).symm (by omega) hL dL_law_2456 ?_
  refine y_aload_n (pc := 2457) o dL_law_2457 rfl ?_
  have hok := i_order hI0 (by omega) h50 (xs (6 * j + 1)) (xs (6 * j + 2)) (xs (6 * j + 3))
  have hw := w_order (κ := κ) (ad := ad) (R := C) (T := [(o4, .inl (κ.2.1 2, 1, .inr (.inr (.inr (.inl g4)))))]) hI0 o3 g3 (xs (6 * j + 1)) (xs (6 * j + 2)) (xs (6 * j + 3))
  have hm9 := fun (ad1 : gKey → Nat) (T1 : List (Nat × va_E)) => r_order (κ := κ) (ad := ad1) (C := (F_order C0 (xs (6 * j + 1)) (xs (6 * j + 2)) (xs (6 * j + 3))).2.2) (T := T1) hC0 hI0 (by omega) (xs (6 * j + 1)) (xs (6 * j + 2)) (xs (6 * j + 3))
  generalize F_order C0 (xs (6 * j + 1)) (xs (6 * j + 2)) (xs (6 * j + 3)) = r at hok hw hm9
  refine y_mono (P' := gR κ ad (C0, C) [(o3, .inl (κ.2.1 1, 1, .inr (.inl g3))), (o4, .inl (κ.2.1 2, 1, .inr (.inr (.inr (.inl g4)))))]) (fun h hr => by rw [← hC0]; exact hr.ghostC (0, 0, 0) 5 0 (fun _ _ _ => rfl) (fun _ _ => rfl)) ?_
  refine y_callSW (pc := 2458) (k := k) (n := n) o (As := [.ref (ad (0, 0, 0)), .int (xs (6 * j + 1)), .int (xs (6 * j + 2)), .int (xs (6 * j + 3)), .ref (o3)]) (rest := []) hw ls_L_268 dL_law_2458 rfl rfl (Nat.le_of_ble_eq_true rfl) ⟨by decide, by decide⟩ ⟨(show k + 3 ≤ 630091 by omega), (show n + 266 ≤ 7125959 by omega)⟩ (fun _ e => e) (fun v => y_and fun ev => y_ex fun g5 => y_ex fun ad1 => y_and fun hg => y_and fun h0 => y_and fun h20 => ?_)
  subst ev
  refine z_stk (st' := [.int r.1]) (k' := k + 3) (n' := n + 266) rfl ⟨rfl, rfl⟩ ?_
  rw [← h0, ← h20]
  refine y_istore (pc := 2461) (i := 6) (lv' := [(6, .int (r.1)), (5, .int (Int32.ofNat (6 * j))), (4, .ref (o4)), (3, .ref (o3)), (2, .ref (ad1 (20, 0, 0))), (1, .ref (ad1 (0, 0, 0))), (0, .ref (b))]) o dL_law_2461 (by decide) rfl ?_
  refine y_aload_n (pc := 2463) o dL_law_2463 rfl ?_
  refine y_aload_n (pc := 2464) o dL_law_2464 rfl ?_
  refine y_iload (pc := 2465) o dL_law_2465 rfl ?_
  refine y_iconst (pc := 2467) (x := 1) o dL_law_2467 (by decide) ?_
  refine y_iadd (pc := 2468) o dL_law_2468 ?_
  refine y_sld (pc := 2469) o sc (6 * j + 1) (Int32.ofNat_add _ _).symm (by omega) hL dL_law_2469 ?_
  refine y_aload_n (pc := 2470) o dL_law_2470 rfl ?_
  refine y_iload (pc := 2471) o dL_law_2471 rfl ?_
  refine y_iconst (pc := 2473) (x := 2) o dL_law_2473 (by decide) ?_
  refine y_iadd (pc := 2474) o dL_law_2474 ?_
  refine y_sld (pc := 2475) o sc (6 * j + 2) (Int32.ofNat_add _ _).symm (by omega) hL dL_law_2475 ?_
  refine y_aload_n (pc := 2476) o dL_law_2476 rfl ?_
  refine y_iload (pc := 2477) o dL_law_2477 rfl ?_
  refine y_iconst (pc := 2479) (x := 3) o dL_law_2479 (by decide) ?_
  refine y_iadd (pc := 2480) o dL_law_2480 ?_
  refine y_sld (pc := 2481) o sc (6 * j + 3) (Int32.ofNat_add _ _).symm (by omega) hL dL_law_2481 ?_
  refine y_callV (pc := 2482) (k := k + 3) (n := n + 266) o (b := ad1 (20, 0, 0)) (As := [.int (xs (6 * j + 1)), .int (xs (6 * j + 2)), .int (xs (6 * j + 3))]) (rest := []) (hm9 _ _) ln_L_270 dL_law_2482 (z_rc (ci := 20) (K := (20, 0, 0)) rfl (gl_20 hI.fix) rfl) rfl rfl (Nat.le_of_ble_eq_true rfl) ⟨by decide, by decide⟩ ⟨(show k + 3 + 2 ≤ 630091 by omega), (show n + 266 + 272 ≤ 7125959 by omega)⟩ (fun _ e => e) rfl gq_nox2 (fun v => y_and fun ⟨x, ev, hx⟩ => y_ex fun ad2 => y_and fun q0 => y_and fun q20 => ?_)
  subst ev
  refine z_stk (st' := [.int (x)]) (k' := k + 3 + 2) (n' := n + 266 + 272) rfl ⟨rfl, rfl⟩ ?_
  rw [← q0, ← q20]
  refine y_istore (pc := 2485) (i := 7) (lv' := [(7, .int (x)), (6, .int (r.1)), (5, .int (Int32.ofNat (6 * j))), (4, .ref (o4)), (3, .ref (o3)), (2, .ref (ad2 (20, 0, 0))), (1, .ref (ad2 (0, 0, 0))), (0, .ref (b))]) o dL_law_2485 (by decide) rfl ?_
  refine y_aload_n (pc := 2487) o dL_law_2487 rfl ?_
  refine z_callV (pc := 2488) (k := k + 3 + 2) (n := n + 266 + 272) (k' := k + 3 + 2) (n' := n + 266 + 272) o (b := ad2 (20, 0, 0)) (As := []) (rest := []) (r_thrown (C := r.2.2) (R := r.2.2) hok.1.fix) ln_L_158 dL_law_2488 (z_rc (ci := 20) (K := (20, 0, 0)) rfl (gl_20 hok.1.fix) rfl) rfl rfl (Nat.le_of_ble_eq_true rfl) ⟨by decide, by decide⟩ ⟨rfl, rfl⟩ ⟨(show k + 3 + 2 ≤ 630091 by omega), (show n + 266 + 272 ≤ 7125959 by omega)⟩ rfl gq_nox2 ?_
  rw [hok.2]
  refine y_iload (pc := 2491) o dL_law_2491 rfl ?_
  refine y_icmp_eq (pc := 2493) (tgt := 2498) o dL_law_2493 rfl (fun (b1 : r.1 = r.1) => ?_) (fun b1 => absurd rfl b1)
  refine y_iload (pc := 2498) o dL_law_2498 rfl ?_
  refine y_if_ne (pc := 2500) (tgt := 2515) o dL_law_2500 rfl (fun (b2 : ¬ r.1 = 0) => ?_) (fun (b2 : r.1 = 0) => ?_)
  · refine y_goto (pc := 2515) (tgt := 3021) o dL_law_2515 rfl ?_
    refine y_lv [2, 3, 4, 5, 6, 7] (lv' := [(5, .int (Int32.ofNat (6 * j))), (4, .ref (o4)), (3, .ref (o3)), (2, .ref (ad2 (20, 0, 0))), (1, .ref (ad2 (0, 0, 0))), (0, .ref (b))]) rfl ?_
    exact y_wide (by omega) (by omega) (K _ _ _ _ (hok.1))
  refine y_aload_n (pc := 2503) o dL_law_2503 rfl ?_
  refine y_iconst (pc := 2504) (x := 0) o dL_law_2504 (by decide) ?_
  refine z_laldT (pc := 2505) (i := 0) (v := g5 0) o 0 dL_law_2505 rfl (by unfold vp_in; decide) rfl ?_
  refine y_iload (pc := 2506) o dL_law_2506 rfl ?_
  refine y_i2l (pc := 2508) o dL_law_2508 ?_
  refine y_lcmp (pc := 2509) o dL_law_2509 ?_
  refine y_if_eq (pc := 2510) (tgt := 2515) o dL_law_2510 rfl (fun (b3 : (lg_cmp (g5 0) x.toInt64) = 0) => ?_) (fun b3 => absurd (gl0 (by rw [hg b2, hx b2])) b3)
  refine y_goto (pc := 2515) (tgt := 3021) o dL_law_2515 rfl ?_
  refine y_lv [2, 3, 4, 5, 6, 7] (lv' := [(5, .int (Int32.ofNat (6 * j))), (4, .ref (o4)), (3, .ref (o3)), (2, .ref (ad2 (20, 0, 0))), (1, .ref (ad2 (0, 0, 0))), (0, .ref (b))]) rfl ?_
  exact y_wide (by omega) (by omega) (K _ _ _ _ (hok.1))

theorem lc_ship {κ : gq_K} {f : gq_F} {b L j k n o3 o4 : Nat} {xs : Nat → Int32} {ad : gKey → Nat} {C : gG} {g3 : Nat → Int64} {g4 : Nat → UInt64} (o : gq_Ok κ mL_law f) (sc : gq_Sc f b L xs) (hL : L ≤ 3072) (hj : 6 * j + 6 ≤ L) (hI : gI j C) (hk : k + 40 ≤ 630091) (hn9 : n + 700 ≤ 7125959) (K : ∀ (C' : gG) (ad' : gKey → Nat) (g3 : Nat → Int64) (g4 : Nat → UInt64), gI (j + 1) C' → gq_Y κ mL_law gQL gq_no f (gLP κ ad' C' o3 g3 o4 g4) (gLV ad' j o3 o4 b) 3021 [] (k + 40) (n + 700)) : gq_Y κ mL_law gQL gq_no f (gLP κ ad C o3 g3 o4 g4) (gLV ad j o3 o4 b) 2518 [] k n := by
  obtain ⟨C0, hC0⟩ : ∃ C0, gup C (0, 0, 0) 5 0 = C0 := ⟨_, rfl⟩
  have hI0 : gI j C0 := by rw [← hC0]; exact hI.up (Nat.le_refl _) (by omega)
  have h50 : C0.1 (0, 0, 0) 5 = 0 := by rw [← hC0]; exact gup_v _ _ _ _
  show gq_Y κ mL_law gQL gq_no f (gR κ ad (C, C) [(o3, .inl (κ.2.1 1, 1, .inr (.inl g3))), (o4, .inl (κ.2.1 2, 1, .inr (.inr (.inr (.inl g4)))))]) [(5, .int (Int32.ofNat (6 * j))), (4, .ref o4), (3, .ref o3), (2, .ref (ad (20, 0, 0))), (1, .ref (ad (0, 0, 0))), (0, .ref b)] 2518 [] k n
  refine y_aload_n (pc := 2518) o dL_law_2518 rfl ?_
  refine y_aload_n (pc := 2519) o dL_law_2519 rfl ?_
  refine y_iload (pc := 2520) o dL_law_2520 rfl ?_
  refine y_iconst (pc := 2522) (x := 1) o dL_law_2522 (by decide) ?_
  refine y_iadd (pc := 2523) o dL_law_2523 ?_
  refine y_sld (pc := 2524) o sc (6 * j + 1) (Int32.ofNat_add _ _).symm (by omega) hL dL_law_2524 ?_
  refine y_aload_n (pc := 2525) o dL_law_2525 rfl ?_
  refine y_iload (pc := 2526) o dL_law_2526 rfl ?_
  refine y_iconst (pc := 2528) (x := 2) o dL_law_2528 (by decide) ?_
  refine y_iadd (pc := 2529) o dL_law_2529 ?_
  refine y_sld (pc := 2530) o sc (6 * j + 2) (Int32.ofNat_add _ _).symm (by omega) hL dL_law_2530 ?_
  refine y_aload_n (pc := 2531) o dL_law_2531 rfl ?_
  have hok := i_ship hI0 (by omega) h50 (xs (6 * j + 1)) (xs (6 * j + 2))
  have hw := w_ship (κ := κ) (ad := ad) (R := C) (T := [(o4, .inl (κ.2.1 2, 1, .inr (.inr (.inr (.inl g4)))))]) hI0 o3 g3 (xs (6 * j + 1)) (xs (6 * j + 2))
  have hm9 := fun (ad1 : gKey → Nat) (T1 : List (Nat × va_E)) => r_ship (κ := κ) (ad := ad1) (C := (F_ship C0 (xs (6 * j + 1)) (xs (6 * j + 2))).2.2) (T := T1) hC0 hI0 (by omega) (xs (6 * j + 1)) (xs (6 * j + 2))
  generalize F_ship C0 (xs (6 * j + 1)) (xs (6 * j + 2)) = r at hok hw hm9
  refine y_mono (P' := gR κ ad (C0, C) [(o3, .inl (κ.2.1 1, 1, .inr (.inl g3))), (o4, .inl (κ.2.1 2, 1, .inr (.inr (.inr (.inl g4)))))]) (fun h hr => by rw [← hC0]; exact hr.ghostC (0, 0, 0) 5 0 (fun _ _ _ => rfl) (fun _ _ => rfl)) ?_
  refine y_callSW (pc := 2532) (k := k) (n := n) o (As := [.ref (ad (0, 0, 0)), .int (xs (6 * j + 1)), .int (xs (6 * j + 2)), .ref (o3)]) (rest := []) hw ls_L_271 dL_law_2532 rfl rfl (Nat.le_of_ble_eq_true rfl) ⟨by decide, by decide⟩ ⟨(show k + 3 ≤ 630091 by omega), (show n + 18 ≤ 7125959 by omega)⟩ (fun _ e => e) (fun v => y_and fun ev => y_ex fun g5 => y_ex fun ad1 => y_and fun hg => y_and fun h0 => y_and fun h20 => ?_)
  subst ev
  refine z_stk (st' := [.int r.1]) (k' := k + 3) (n' := n + 18) rfl ⟨rfl, rfl⟩ ?_
  rw [← h0, ← h20]
  refine y_istore (pc := 2535) (i := 6) (lv' := [(6, .int (r.1)), (5, .int (Int32.ofNat (6 * j))), (4, .ref (o4)), (3, .ref (o3)), (2, .ref (ad1 (20, 0, 0))), (1, .ref (ad1 (0, 0, 0))), (0, .ref (b))]) o dL_law_2535 (by decide) rfl ?_
  refine y_aload_n (pc := 2537) o dL_law_2537 rfl ?_
  refine y_aload_n (pc := 2538) o dL_law_2538 rfl ?_
  refine y_iload (pc := 2539) o dL_law_2539 rfl ?_
  refine y_iconst (pc := 2541) (x := 1) o dL_law_2541 (by decide) ?_
  refine y_iadd (pc := 2542) o dL_law_2542 ?_
  refine y_sld (pc := 2543) o sc (6 * j + 1) (Int32.ofNat_add _ _).symm (by omega) hL dL_law_2543 ?_
  refine y_aload_n (pc := 2544) o dL_law_2544 rfl ?_
  refine y_iload (pc := 2545) o dL_law_2545 rfl ?_
  refine y_iconst (pc := 2547) (x := 2) o dL_law_2547 (by decide) ?_
  refine y_iadd (pc := 2548) o dL_law_2548 ?_
  refine y_sld (pc := 2549) o sc (6 * j + 2) (Int32.ofNat_add _ _).symm (by omega) hL dL_law_2549 ?_
  refine y_callV (pc := 2550) (k := k + 3) (n := n + 18) o (b := ad1 (20, 0, 0)) (As := [.int (xs (6 * j + 1)), .int (xs (6 * j + 2))]) (rest := []) (hm9 _ _) ln_L_273 dL_law_2550 (z_rc (ci := 20) (K := (20, 0, 0)) rfl (gl_20 hI.fix) rfl) rfl rfl (Nat.le_of_ble_eq_true rfl) ⟨by decide, by decide⟩ ⟨(show k + 3 + 1 ≤ 630091 by omega), (show n + 18 + 4 ≤ 7125959 by omega)⟩ (fun _ e => e) rfl gq_nox2 (fun v => y_and fun ⟨x, ev, hx⟩ => y_ex fun ad2 => y_and fun q0 => y_and fun q20 => ?_)
  subst ev
  refine z_stk (st' := [.int (x)]) (k' := k + 3 + 1) (n' := n + 18 + 4) rfl ⟨rfl, rfl⟩ ?_
  rw [← q0, ← q20]
  refine y_istore (pc := 2553) (i := 7) (lv' := [(7, .int (x)), (6, .int (r.1)), (5, .int (Int32.ofNat (6 * j))), (4, .ref (o4)), (3, .ref (o3)), (2, .ref (ad2 (20, 0, 0))), (1, .ref (ad2 (0, 0, 0))), (0, .ref (b))]) o dL_law_2553 (by decide) rfl ?_
  refine y_aload_n (pc := 2555) o dL_law_2555 rfl ?_
  refine z_callV (pc := 2556) (k := k + 3 + 1) (n := n + 18 + 4) (k' := k + 3 + 1) (n' := n + 18 + 4) o (b := ad2 (20, 0, 0)) (As := []) (rest := []) (r_thrown (C := r.2.2) (R := r.2.2) hok.1.fix) ln_L_158 dL_law_2556 (z_rc (ci := 20) (K := (20, 0, 0)) rfl (gl_20 hok.1.fix) rfl) rfl rfl (Nat.le_of_ble_eq_true rfl) ⟨by decide, by decide⟩ ⟨rfl, rfl⟩ ⟨(show k + 3 + 1 ≤ 630091 by omega), (show n + 18 + 4 ≤ 7125959 by omega)⟩ rfl gq_nox2 ?_
  rw [hok.2]
  refine y_iload (pc := 2559) o dL_law_2559 rfl ?_
  refine y_icmp_eq (pc := 2561) (tgt := 2566) o dL_law_2561 rfl (fun (b1 : r.1 = r.1) => ?_) (fun b1 => absurd rfl b1)
  refine y_iload (pc := 2566) o dL_law_2566 rfl ?_
  refine y_if_ne (pc := 2568) (tgt := 2583) o dL_law_2568 rfl (fun (b2 : ¬ r.1 = 0) => ?_) (fun (b2 : r.1 = 0) => ?_)
  · refine y_goto (pc := 2583) (tgt := 3021) o dL_law_2583 rfl ?_
    refine y_lv [2, 3, 4, 5, 6, 7] (lv' := [(5, .int (Int32.ofNat (6 * j))), (4, .ref (o4)), (3, .ref (o3)), (2, .ref (ad2 (20, 0, 0))), (1, .ref (ad2 (0, 0, 0))), (0, .ref (b))]) rfl ?_
    exact y_wide (by omega) (by omega) (K _ _ _ _ (hok.1))
  refine y_aload_n (pc := 2571) o dL_law_2571 rfl ?_
  refine y_iconst (pc := 2572) (x := 0) o dL_law_2572 (by decide) ?_
  refine z_laldT (pc := 2573) (i := 0) (v := g5 0) o 0 dL_law_2573 rfl (by unfold vp_in; decide) rfl ?_
  refine y_iload (pc := 2574) o dL_law_2574 rfl ?_
  refine y_i2l (pc := 2576) o dL_law_2576 ?_
  refine y_lcmp (pc := 2577) o dL_law_2577 ?_
  refine y_if_eq (pc := 2578) (tgt := 2583) o dL_law_2578 rfl (fun (b3 : (lg_cmp (g5 0) x.toInt64) = 0) => ?_) (fun b3 => absurd (gl0 (by rw [hg b2, hx b2])) b3)
  refine y_goto (pc := 2583) (tgt := 3021) o dL_law_2583 rfl ?_
  refine y_lv [2, 3, 4, 5, 6, 7] (lv' := [(5, .int (Int32.ofNat (6 * j))), (4, .ref (o4)), (3, .ref (o3)), (2, .ref (ad2 (20, 0, 0))), (1, .ref (ad2 (0, 0, 0))), (0, .ref (b))]) rfl ?_
  exact y_wide (by omega) (by omega) (K _ _ _ _ (hok.1))

theorem lc_isLate {κ : gq_K} {f : gq_F} {b L j k n o3 o4 : Nat} {xs : Nat → Int32} {ad : gKey → Nat} {C : gG} {g3 : Nat → Int64} {g4 : Nat → UInt64} (o : gq_Ok κ mL_law f) (sc : gq_Sc f b L xs) (hL : L ≤ 3072) (hj : 6 * j + 6 ≤ L) (hI : gI j C) (hk : k + 40 ≤ 630091) (hn9 : n + 700 ≤ 7125959) (K : ∀ (C' : gG) (ad' : gKey → Nat) (g3 : Nat → Int64) (g4 : Nat → UInt64), gI (j + 1) C' → gq_Y κ mL_law gQL gq_no f (gLP κ ad' C' o3 g3 o4 g4) (gLV ad' j o3 o4 b) 3021 [] (k + 40) (n + 700)) : gq_Y κ mL_law gQL gq_no f (gLP κ ad C o3 g3 o4 g4) (gLV ad j o3 o4 b) 2586 [] k n := by
  obtain ⟨C0, hC0⟩ : ∃ C0, gup C (0, 0, 0) 5 0 = C0 := ⟨_, rfl⟩
  have hI0 : gI j C0 := by rw [← hC0]; exact hI.up (Nat.le_refl _) (by omega)
  have h50 : C0.1 (0, 0, 0) 5 = 0 := by rw [← hC0]; exact gup_v _ _ _ _
  show gq_Y κ mL_law gQL gq_no f (gR κ ad (C, C) [(o3, .inl (κ.2.1 1, 1, .inr (.inl g3))), (o4, .inl (κ.2.1 2, 1, .inr (.inr (.inr (.inl g4)))))]) [(5, .int (Int32.ofNat (6 * j))), (4, .ref o4), (3, .ref o3), (2, .ref (ad (20, 0, 0))), (1, .ref (ad (0, 0, 0))), (0, .ref b)] 2586 [] k n
  refine y_aload_n (pc := 2586) o dL_law_2586 rfl ?_
  refine y_aload_n (pc := 2587) o dL_law_2587 rfl ?_
  refine y_iload (pc := 2588) o dL_law_2588 rfl ?_
  refine y_iconst (pc := 2590) (x := 1) o dL_law_2590 (by decide) ?_
  refine y_iadd (pc := 2591) o dL_law_2591 ?_
  refine y_sld (pc := 2592) o sc (6 * j + 1) (Int32.ofNat_add _ _).symm (by omega) hL dL_law_2592 ?_
  refine y_aload_n (pc := 2593) o dL_law_2593 rfl ?_
  have hok := i_isLate hI0 (by omega) h50 (xs (6 * j + 1))
  have hw := w_isLate (κ := κ) (ad := ad) (R := C) (T := [(o4, .inl (κ.2.1 2, 1, .inr (.inr (.inr (.inl g4)))))]) hI0 o3 g3 (xs (6 * j + 1))
  have hm9 := fun (ad1 : gKey → Nat) (T1 : List (Nat × va_E)) => r_isLate (κ := κ) (ad := ad1) (C := (F_isLate C0 (xs (6 * j + 1))).2.2) (T := T1) hC0 hI0 (by omega) (xs (6 * j + 1))
  generalize F_isLate C0 (xs (6 * j + 1)) = r at hok hw hm9
  refine y_mono (P' := gR κ ad (C0, C) [(o3, .inl (κ.2.1 1, 1, .inr (.inl g3))), (o4, .inl (κ.2.1 2, 1, .inr (.inr (.inr (.inl g4)))))]) (fun h hr => by rw [← hC0]; exact hr.ghostC (0, 0, 0) 5 0 (fun _ _ _ => rfl) (fun _ _ => rfl)) ?_
  refine y_callSW (pc := 2594) (k := k) (n := n) o (As := [.ref (ad (0, 0, 0)), .int (xs (6 * j + 1)), .ref (o3)]) (rest := []) hw ls_L_274 dL_law_2594 rfl rfl (Nat.le_of_ble_eq_true rfl) ⟨by decide, by decide⟩ ⟨(show k + 1 ≤ 630091 by omega), (show n + 6 ≤ 7125959 by omega)⟩ (fun _ e => e) (fun v => y_and fun ev => y_ex fun g5 => y_ex fun ad1 => y_and fun hg => y_and fun h0 => y_and fun h20 => ?_)
  subst ev
  refine z_stk (st' := [.int r.1]) (k' := k + 1) (n' := n + 6) rfl ⟨rfl, rfl⟩ ?_
  rw [← h0, ← h20]
  refine y_istore (pc := 2597) (i := 6) (lv' := [(6, .int (r.1)), (5, .int (Int32.ofNat (6 * j))), (4, .ref (o4)), (3, .ref (o3)), (2, .ref (ad1 (20, 0, 0))), (1, .ref (ad1 (0, 0, 0))), (0, .ref (b))]) o dL_law_2597 (by decide) rfl ?_
  refine y_aload_n (pc := 2599) o dL_law_2599 rfl ?_
  refine y_aload_n (pc := 2600) o dL_law_2600 rfl ?_
  refine y_iload (pc := 2601) o dL_law_2601 rfl ?_
  refine y_iconst (pc := 2603) (x := 1) o dL_law_2603 (by decide) ?_
  refine y_iadd (pc := 2604) o dL_law_2604 ?_
  refine y_sld (pc := 2605) o sc (6 * j + 1) (Int32.ofNat_add _ _).symm (by omega) hL dL_law_2605 ?_
  refine y_callV (pc := 2606) (k := k + 1) (n := n + 6) o (b := ad1 (20, 0, 0)) (As := [.int (xs (6 * j + 1))]) (rest := []) (hm9 _ _) ln_L_276 dL_law_2606 (z_rc (ci := 20) (K := (20, 0, 0)) rfl (gl_20 hI.fix) rfl) rfl rfl (Nat.le_of_ble_eq_true rfl) ⟨by decide, by decide⟩ ⟨(show k + 1 ≤ 630091 by omega), (show n + 6 ≤ 7125959 by omega)⟩ (fun _ e => e) rfl gq_nox2 (fun v => y_and fun ⟨x, ev, hx⟩ => y_ex fun ad2 => y_and fun q0 => y_and fun q20 => ?_)
  subst ev
  refine z_stk (st' := [.int (x)]) (k' := k + 1) (n' := n + 6) rfl ⟨rfl, rfl⟩ ?_
  rw [← q0, ← q20]
  refine y_istore (pc := 2609) (i := 7) (lv' := [(7, .int (x)), (6, .int (r.1)), (5, .int (Int32.ofNat (6 * j))), (4, .ref (o4)), (3, .ref (o3)), (2, .ref (ad2 (20, 0, 0))), (1, .ref (ad2 (0, 0, 0))), (0, .ref (b))]) o dL_law_2609 (by decide) rfl ?_
  refine y_aload_n (pc := 2611) o dL_law_2611 rfl ?_
  refine z_callV (pc := 2612) (k := k + 1) (n := n + 6) (k' := k + 1) (n' := n + 6) o (b := ad2 (20, 0, 0)) (As := []) (rest := []) (r_thrown (C := r.2.2) (R := r.2.2) hok.1.fix) ln_L_158 dL_law_2612 (z_rc (ci := 20) (K := (20, 0, 0)) rfl (gl_20 hok.1.fix) rfl) rfl rfl (Nat.le_of_ble_eq_true rfl) ⟨by decide, by decide⟩ ⟨rfl, rfl⟩ ⟨(show k + 1 ≤ 630091 by omega), (show n + 6 ≤ 7125959 by omega)⟩ rfl gq_nox2 ?_
  rw [hok.2]
  refine y_iload (pc := 2615) o dL_law_2615 rfl ?_
  refine y_icmp_eq (pc := 2617) (tgt := 2622) o dL_law_2617 rfl (fun (b1 : r.1 = r.1) => ?_) (fun b1 => absurd rfl b1)
  refine y_iload (pc := 2622) o dL_law_2622 rfl ?_
  refine y_if_ne (pc := 2624) (tgt := 2646) o dL_law_2624 rfl (fun (b2 : ¬ r.1 = 0) => ?_) (fun (b2 : r.1 = 0) => ?_)
  · refine y_goto (pc := 2646) (tgt := 3021) o dL_law_2646 rfl ?_
    refine y_lv [2, 3, 4, 5, 6, 7] (lv' := [(5, .int (Int32.ofNat (6 * j))), (4, .ref (o4)), (3, .ref (o3)), (2, .ref (ad2 (20, 0, 0))), (1, .ref (ad2 (0, 0, 0))), (0, .ref (b))]) rfl ?_
    exact y_wide (by omega) (by omega) (K _ _ _ _ (hok.1))
  refine y_aload_n (pc := 2627) o dL_law_2627 rfl ?_
  refine y_iconst (pc := 2628) (x := 0) o dL_law_2628 (by decide) ?_
  refine z_laldT (pc := 2629) (i := 0) (v := g5 0) o 0 dL_law_2629 rfl (by unfold vp_in; decide) rfl ?_
  refine y_iload (pc := 2630) o dL_law_2630 rfl ?_
  refine y_if_eq (pc := 2632) (tgt := 2639) o dL_law_2632 rfl (fun (b3 : x = 0) => ?_) (fun (b3 : ¬ x = 0) => ?_)
  · refine y_lconst (pc := 2639) (x := 0) o dL_law_2639 (by decide) ?_
    refine y_lcmp (pc := 2640) o dL_law_2640 ?_
    refine y_if_eq (pc := 2641) (tgt := 2646) o dL_law_2641 rfl (fun (b4 : (lg_cmp (g5 0) 0) = 0) => ?_) (fun b4 => absurd (gl0 (by rw [hg b2, ← hx b2, if_pos b3])) b4)
    refine y_goto (pc := 2646) (tgt := 3021) o dL_law_2646 rfl ?_
    refine y_lv [2, 3, 4, 5, 6, 7] (lv' := [(5, .int (Int32.ofNat (6 * j))), (4, .ref (o4)), (3, .ref (o3)), (2, .ref (ad2 (20, 0, 0))), (1, .ref (ad2 (0, 0, 0))), (0, .ref (b))]) rfl ?_
    exact y_wide (by omega) (by omega) (K _ _ _ _ (hok.1))
  refine y_lconst (pc := 2635) (x := 1) o dL_law_2635 (by decide) ?_
  refine y_goto (pc := 2636) (tgt := 2640) o dL_law_2636 rfl ?_
  refine y_lcmp (pc := 2640) o dL_law_2640 ?_
  refine y_if_eq (pc := 2641) (tgt := 2646) o dL_law_2641 rfl (fun (b5 : (lg_cmp (g5 0) 1) = 0) => ?_) (fun b5 => absurd (gl0 (by rw [hg b2, ← hx b2, if_neg b3])) b5)
  refine y_goto (pc := 2646) (tgt := 3021) o dL_law_2646 rfl ?_
  refine y_lv [2, 3, 4, 5, 6, 7] (lv' := [(5, .int (Int32.ofNat (6 * j))), (4, .ref (o4)), (3, .ref (o3)), (2, .ref (ad2 (20, 0, 0))), (1, .ref (ad2 (0, 0, 0))), (0, .ref (b))]) rfl ?_
  exact y_wide (by omega) (by omega) (K _ _ _ _ (hok.1))

theorem lc_claim {κ : gq_K} {f : gq_F} {b L j k n o3 o4 : Nat} {xs : Nat → Int32} {ad : gKey → Nat} {C : gG} {g3 : Nat → Int64} {g4 : Nat → UInt64} (o : gq_Ok κ mL_law f) (sc : gq_Sc f b L xs) (hL : L ≤ 3072) (hj : 6 * j + 6 ≤ L) (hI : gI j C) (hk : k + 40 ≤ 630091) (hn9 : n + 700 ≤ 7125959) (K : ∀ (C' : gG) (ad' : gKey → Nat) (g3 : Nat → Int64) (g4 : Nat → UInt64), gI (j + 1) C' → gq_Y κ mL_law gQL gq_no f (gLP κ ad' C' o3 g3 o4 g4) (gLV ad' j o3 o4 b) 3021 [] (k + 40) (n + 700)) : gq_Y κ mL_law gQL gq_no f (gLP κ ad C o3 g3 o4 g4) (gLV ad j o3 o4 b) 2649 [] k n := by
  obtain ⟨C0, hC0⟩ : ∃ C0, gup C (0, 0, 0) 5 0 = C0 := ⟨_, rfl⟩
  have hI0 : gI j C0 := by rw [← hC0]; exact hI.up (Nat.le_refl _) (by omega)
  have h50 : C0.1 (0, 0, 0) 5 = 0 := by rw [← hC0]; exact gup_v _ _ _ _
  show gq_Y κ mL_law gQL gq_no f (gR κ ad (C, C) [(o3, .inl (κ.2.1 1, 1, .inr (.inl g3))), (o4, .inl (κ.2.1 2, 1, .inr (.inr (.inr (.inl g4)))))]) [(5, .int (Int32.ofNat (6 * j))), (4, .ref o4), (3, .ref o3), (2, .ref (ad (20, 0, 0))), (1, .ref (ad (0, 0, 0))), (0, .ref b)] 2649 [] k n
  refine y_aload_n (pc := 2649) o dL_law_2649 rfl ?_
  refine y_aload_n (pc := 2650) o dL_law_2650 rfl ?_
  refine y_iload (pc := 2651) o dL_law_2651 rfl ?_
  refine y_iconst (pc := 2653) (x := 1) o dL_law_2653 (by decide) ?_
  refine y_iadd (pc := 2654) o dL_law_2654 ?_
  refine y_sld (pc := 2655) o sc (6 * j + 1) (Int32.ofNat_add _ _).symm (by omega) hL dL_law_2655 ?_
  refine y_aload_n (pc := 2656) o dL_law_2656 rfl ?_
  have hok := i_claim hI0 (by omega) h50 (xs (6 * j + 1))
  have hw := w_claim (κ := κ) (ad := ad) (R := C) (T := [(o4, .inl (κ.2.1 2, 1, .inr (.inr (.inr (.inl g4)))))]) hI0 o3 g3 (xs (6 * j + 1))
  have hm9 := fun (ad1 : gKey → Nat) (T1 : List (Nat × va_E)) => r_claim (κ := κ) (ad := ad1) (C := (F_claim C0 (xs (6 * j + 1))).2.2) (T := T1) hC0 hI0 (by omega) (xs (6 * j + 1))
  generalize F_claim C0 (xs (6 * j + 1)) = r at hok hw hm9
  refine y_mono (P' := gR κ ad (C0, C) [(o3, .inl (κ.2.1 1, 1, .inr (.inl g3))), (o4, .inl (κ.2.1 2, 1, .inr (.inr (.inr (.inl g4)))))]) (fun h hr => by rw [← hC0]; exact hr.ghostC (0, 0, 0) 5 0 (fun _ _ _ => rfl) (fun _ _ => rfl)) ?_
  refine y_callSW (pc := 2657) (k := k) (n := n) o (As := [.ref (ad (0, 0, 0)), .int (xs (6 * j + 1)), .ref (o3)]) (rest := []) hw ls_L_277 dL_law_2657 rfl rfl (Nat.le_of_ble_eq_true rfl) ⟨by decide, by decide⟩ ⟨(show k + 1 ≤ 630091 by omega), (show n + 6 ≤ 7125959 by omega)⟩ (fun _ e => e) (fun v => y_and fun ev => y_ex fun g5 => y_ex fun ad1 => y_and fun hg => y_and fun h0 => y_and fun h20 => ?_)
  subst ev
  refine z_stk (st' := [.int r.1]) (k' := k + 1) (n' := n + 6) rfl ⟨rfl, rfl⟩ ?_
  rw [← h0, ← h20]
  refine y_istore (pc := 2660) (i := 6) (lv' := [(6, .int (r.1)), (5, .int (Int32.ofNat (6 * j))), (4, .ref (o4)), (3, .ref (o3)), (2, .ref (ad1 (20, 0, 0))), (1, .ref (ad1 (0, 0, 0))), (0, .ref (b))]) o dL_law_2660 (by decide) rfl ?_
  refine y_aload_n (pc := 2662) o dL_law_2662 rfl ?_
  refine y_aload_n (pc := 2663) o dL_law_2663 rfl ?_
  refine y_iload (pc := 2664) o dL_law_2664 rfl ?_
  refine y_iconst (pc := 2666) (x := 1) o dL_law_2666 (by decide) ?_
  refine y_iadd (pc := 2667) o dL_law_2667 ?_
  refine y_sld (pc := 2668) o sc (6 * j + 1) (Int32.ofNat_add _ _).symm (by omega) hL dL_law_2668 ?_
  refine y_callV (pc := 2669) (k := k + 1) (n := n + 6) o (b := ad1 (20, 0, 0)) (As := [.int (xs (6 * j + 1))]) (rest := []) (hm9 _ _) ln_L_279 dL_law_2669 (z_rc (ci := 20) (K := (20, 0, 0)) rfl (gl_20 hI.fix) rfl) rfl rfl (Nat.le_of_ble_eq_true rfl) ⟨by decide, by decide⟩ ⟨(show k + 1 + 1 ≤ 630091 by omega), (show n + 6 + 4 ≤ 7125959 by omega)⟩ (fun _ e => e) rfl gq_nox2 (fun v => y_and fun ⟨x, ev, hx⟩ => y_ex fun ad2 => y_and fun q0 => y_and fun q20 => ?_)
  subst ev
  refine z_stk (st' := [.int (x)]) (k' := k + 1 + 1) (n' := n + 6 + 4) rfl ⟨rfl, rfl⟩ ?_
  rw [← q0, ← q20]
  refine y_istore (pc := 2672) (i := 7) (lv' := [(7, .int (x)), (6, .int (r.1)), (5, .int (Int32.ofNat (6 * j))), (4, .ref (o4)), (3, .ref (o3)), (2, .ref (ad2 (20, 0, 0))), (1, .ref (ad2 (0, 0, 0))), (0, .ref (b))]) o dL_law_2672 (by decide) rfl ?_
  refine y_aload_n (pc := 2674) o dL_law_2674 rfl ?_
  refine z_callV (pc := 2675) (k := k + 1 + 1) (n := n + 6 + 4) (k' := k + 1 + 1) (n' := n + 6 + 4) o (b := ad2 (20, 0, 0)) (As := []) (rest := []) (r_thrown (C := r.2.2) (R := r.2.2) hok.1.fix) ln_L_158 dL_law_2675 (z_rc (ci := 20) (K := (20, 0, 0)) rfl (gl_20 hok.1.fix) rfl) rfl rfl (Nat.le_of_ble_eq_true rfl) ⟨by decide, by decide⟩ ⟨rfl, rfl⟩ ⟨(show k + 1 + 1 ≤ 630091 by omega), (show n + 6 + 4 ≤ 7125959 by omega)⟩ rfl gq_nox2 ?_
  rw [hok.2]
  refine y_iload (pc := 2678) o dL_law_2678 rfl ?_
  refine y_icmp_eq (pc := 2680) (tgt := 2685) o dL_law_2680 rfl (fun (b1 : r.1 = r.1) => ?_) (fun b1 => absurd rfl b1)
  refine y_iload (pc := 2685) o dL_law_2685 rfl ?_
  refine y_if_ne (pc := 2687) (tgt := 2709) o dL_law_2687 rfl (fun (b2 : ¬ r.1 = 0) => ?_) (fun (b2 : r.1 = 0) => ?_)
  · refine y_goto (pc := 2709) (tgt := 3021) o dL_law_2709 rfl ?_
    refine y_lv [2, 3, 4, 5, 6, 7] (lv' := [(5, .int (Int32.ofNat (6 * j))), (4, .ref (o4)), (3, .ref (o3)), (2, .ref (ad2 (20, 0, 0))), (1, .ref (ad2 (0, 0, 0))), (0, .ref (b))]) rfl ?_
    exact y_wide (by omega) (by omega) (K _ _ _ _ (hok.1))
  refine y_aload_n (pc := 2690) o dL_law_2690 rfl ?_
  refine y_iconst (pc := 2691) (x := 0) o dL_law_2691 (by decide) ?_
  refine z_laldT (pc := 2692) (i := 0) (v := g5 0) o 0 dL_law_2692 rfl (by unfold vp_in; decide) rfl ?_
  refine y_iload (pc := 2693) o dL_law_2693 rfl ?_
  refine y_if_eq (pc := 2695) (tgt := 2702) o dL_law_2695 rfl (fun (b3 : x = 0) => ?_) (fun (b3 : ¬ x = 0) => ?_)
  · refine y_lconst (pc := 2702) (x := 0) o dL_law_2702 (by decide) ?_
    refine y_lcmp (pc := 2703) o dL_law_2703 ?_
    refine y_if_eq (pc := 2704) (tgt := 2709) o dL_law_2704 rfl (fun (b4 : (lg_cmp (g5 0) 0) = 0) => ?_) (fun b4 => absurd (gl0 (by rw [hg b2, ← hx b2, if_pos b3])) b4)
    refine y_goto (pc := 2709) (tgt := 3021) o dL_law_2709 rfl ?_
    refine y_lv [2, 3, 4, 5, 6, 7] (lv' := [(5, .int (Int32.ofNat (6 * j))), (4, .ref (o4)), (3, .ref (o3)), (2, .ref (ad2 (20, 0, 0))), (1, .ref (ad2 (0, 0, 0))), (0, .ref (b))]) rfl ?_
    exact y_wide (by omega) (by omega) (K _ _ _ _ (hok.1))
  refine y_lconst (pc := 2698) (x := 1) o dL_law_2698 (by decide) ?_
  refine y_goto (pc := 2699) (tgt := 2703) o dL_law_2699 rfl ?_
  refine y_lcmp (pc := 2703) o dL_law_2703 ?_
  refine y_if_eq (pc := 2704) (tgt := 2709) o dL_law_2704 rfl (fun (b5 : (lg_cmp (g5 0) 1) = 0) => ?_) (fun b5 => absurd (gl0 (by rw [hg b2, ← hx b2, if_neg b3])) b5)
  refine y_goto (pc := 2709) (tgt := 3021) o dL_law_2709 rfl ?_
  refine y_lv [2, 3, 4, 5, 6, 7] (lv' := [(5, .int (Int32.ofNat (6 * j))), (4, .ref (o4)), (3, .ref (o3)), (2, .ref (ad2 (20, 0, 0))), (1, .ref (ad2 (0, 0, 0))), (0, .ref (b))]) rfl ?_
  exact y_wide (by omega) (by omega) (K _ _ _ _ (hok.1))

theorem lc_parts {κ : gq_K} {f : gq_F} {b L j k n o3 o4 : Nat} {xs : Nat → Int32} {ad : gKey → Nat} {C : gG} {g3 : Nat → Int64} {g4 : Nat → UInt64} (o : gq_Ok κ mL_law f) (sc : gq_Sc f b L xs) (hL : L ≤ 3072) (hj : 6 * j + 6 ≤ L) (hI : gI j C) (hk : k + 40 ≤ 630091) (hn9 : n + 700 ≤ 7125959) (K : ∀ (C' : gG) (ad' : gKey → Nat) (g3 : Nat → Int64) (g4 : Nat → UInt64), gI (j + 1) C' → gq_Y κ mL_law gQL gq_no f (gLP κ ad' C' o3 g3 o4 g4) (gLV ad' j o3 o4 b) 3021 [] (k + 40) (n + 700)) : gq_Y κ mL_law gQL gq_no f (gLP κ ad C o3 g3 o4 g4) (gLV ad j o3 o4 b) 2712 [] k n := by
  obtain ⟨C0, hC0⟩ : ∃ C0, gup C (0, 0, 0) 5 0 = C0 := ⟨_, rfl⟩
  have hI0 : gI j C0 := by rw [← hC0]; exact hI.up (Nat.le_refl _) (by omega)
  have h50 : C0.1 (0, 0, 0) 5 = 0 := by rw [← hC0]; exact gup_v _ _ _ _
  show gq_Y κ mL_law gQL gq_no f (gR κ ad (C, C) [(o3, .inl (κ.2.1 1, 1, .inr (.inl g3))), (o4, .inl (κ.2.1 2, 1, .inr (.inr (.inr (.inl g4)))))]) [(5, .int (Int32.ofNat (6 * j))), (4, .ref o4), (3, .ref o3), (2, .ref (ad (20, 0, 0))), (1, .ref (ad (0, 0, 0))), (0, .ref b)] 2712 [] k n
  refine y_aload_n (pc := 2712) o dL_law_2712 rfl ?_
  refine y_aload_n (pc := 2713) o dL_law_2713 rfl ?_
  refine y_iload (pc := 2714) o dL_law_2714 rfl ?_
  refine y_iconst (pc := 2716) (x := 1) o dL_law_2716 (by decide) ?_
  refine y_iadd (pc := 2717) o dL_law_2717 ?_
  refine y_sld (pc := 2718) o sc (6 * j + 1) (Int32.ofNat_add _ _).symm (by omega) hL dL_law_2718 ?_
  refine y_aload_n (pc := 2719) o dL_law_2719 rfl ?_
  have hok := i_parts hI0 (by omega) h50 (xs (6 * j + 1))
  have hw := w_parts (κ := κ) (ad := ad) (R := C) (T := [(o4, .inl (κ.2.1 2, 1, .inr (.inr (.inr (.inl g4)))))]) hI0 o3 g3 (xs (6 * j + 1))
  have hm9 := fun (ad1 : gKey → Nat) (T1 : List (Nat × va_E)) => r_parts (κ := κ) (ad := ad1) (C := (F_parts C0 (xs (6 * j + 1))).2.2) (T := T1) hC0 hI0 (by omega) (xs (6 * j + 1))
  generalize F_parts C0 (xs (6 * j + 1)) = r at hok hw hm9
  refine y_mono (P' := gR κ ad (C0, C) [(o3, .inl (κ.2.1 1, 1, .inr (.inl g3))), (o4, .inl (κ.2.1 2, 1, .inr (.inr (.inr (.inl g4)))))]) (fun h hr => by rw [← hC0]; exact hr.ghostC (0, 0, 0) 5 0 (fun _ _ _ => rfl) (fun _ _ => rfl)) ?_
  refine y_callSW (pc := 2720) (k := k) (n := n) o (As := [.ref (ad (0, 0, 0)), .int (xs (6 * j + 1)), .ref (o3)]) (rest := []) hw ls_L_280 dL_law_2720 rfl rfl (Nat.le_of_ble_eq_true rfl) ⟨by decide, by decide⟩ ⟨(show k + 1 ≤ 630091 by omega), (show n + 6 ≤ 7125959 by omega)⟩ (fun _ e => e) (fun v => y_and fun ev => y_ex fun g5 => y_ex fun ad1 => y_and fun hg => y_and fun h0 => y_and fun h20 => ?_)
  subst ev
  refine z_stk (st' := [.int r.1]) (k' := k + 1) (n' := n + 6) rfl ⟨rfl, rfl⟩ ?_
  rw [← h0, ← h20]
  refine y_istore (pc := 2723) (i := 6) (lv' := [(6, .int (r.1)), (5, .int (Int32.ofNat (6 * j))), (4, .ref (o4)), (3, .ref (o3)), (2, .ref (ad1 (20, 0, 0))), (1, .ref (ad1 (0, 0, 0))), (0, .ref (b))]) o dL_law_2723 (by decide) rfl ?_
  refine y_aload_n (pc := 2725) o dL_law_2725 rfl ?_
  refine y_aload_n (pc := 2726) o dL_law_2726 rfl ?_
  refine y_iload (pc := 2727) o dL_law_2727 rfl ?_
  refine y_iconst (pc := 2729) (x := 1) o dL_law_2729 (by decide) ?_
  refine y_iadd (pc := 2730) o dL_law_2730 ?_
  refine y_sld (pc := 2731) o sc (6 * j + 1) (Int32.ofNat_add _ _).symm (by omega) hL dL_law_2731 ?_
  refine y_callV (pc := 2732) (k := k + 1) (n := n + 6) o (b := ad1 (20, 0, 0)) (As := [.int (xs (6 * j + 1))]) (rest := []) (hm9 _ _) ln_L_282 dL_law_2732 (z_rc (ci := 20) (K := (20, 0, 0)) rfl (gl_20 hI.fix) rfl) rfl rfl (Nat.le_of_ble_eq_true rfl) ⟨by decide, by decide⟩ ⟨(show k + 1 ≤ 630091 by omega), (show n + 6 ≤ 7125959 by omega)⟩ (fun _ e => e) rfl gq_nox2 (fun v => y_and fun ⟨x, ev, hx⟩ => y_ex fun ad2 => y_and fun q0 => y_and fun q20 => ?_)
  subst ev
  refine z_stk (st' := [.int (x)]) (k' := k + 1) (n' := n + 6) rfl ⟨rfl, rfl⟩ ?_
  rw [← q0, ← q20]
  refine y_istore (pc := 2735) (i := 7) (lv' := [(7, .int (x)), (6, .int (r.1)), (5, .int (Int32.ofNat (6 * j))), (4, .ref (o4)), (3, .ref (o3)), (2, .ref (ad2 (20, 0, 0))), (1, .ref (ad2 (0, 0, 0))), (0, .ref (b))]) o dL_law_2735 (by decide) rfl ?_
  refine y_aload_n (pc := 2737) o dL_law_2737 rfl ?_
  refine z_callV (pc := 2738) (k := k + 1) (n := n + 6) (k' := k + 1) (n' := n + 6) o (b := ad2 (20, 0, 0)) (As := []) (rest := []) (r_thrown (C := r.2.2) (R := r.2.2) hok.1.fix) ln_L_158 dL_law_2738 (z_rc (ci := 20) (K := (20, 0, 0)) rfl (gl_20 hok.1.fix) rfl) rfl rfl (Nat.le_of_ble_eq_true rfl) ⟨by decide, by decide⟩ ⟨rfl, rfl⟩ ⟨(show k + 1 ≤ 630091 by omega), (show n + 6 ≤ 7125959 by omega)⟩ rfl gq_nox2 ?_
  rw [hok.2]
  refine y_iload (pc := 2741) o dL_law_2741 rfl ?_
  refine y_icmp_eq (pc := 2743) (tgt := 2748) o dL_law_2743 rfl (fun (b1 : r.1 = r.1) => ?_) (fun b1 => absurd rfl b1)
  refine y_iload (pc := 2748) o dL_law_2748 rfl ?_
  refine y_if_ne (pc := 2750) (tgt := 2765) o dL_law_2750 rfl (fun (b2 : ¬ r.1 = 0) => ?_) (fun (b2 : r.1 = 0) => ?_)
  · refine y_goto (pc := 2765) (tgt := 3021) o dL_law_2765 rfl ?_
    refine y_lv [2, 3, 4, 5, 6, 7] (lv' := [(5, .int (Int32.ofNat (6 * j))), (4, .ref (o4)), (3, .ref (o3)), (2, .ref (ad2 (20, 0, 0))), (1, .ref (ad2 (0, 0, 0))), (0, .ref (b))]) rfl ?_
    exact y_wide (by omega) (by omega) (K _ _ _ _ (hok.1))
  refine y_aload_n (pc := 2753) o dL_law_2753 rfl ?_
  refine y_iconst (pc := 2754) (x := 0) o dL_law_2754 (by decide) ?_
  refine z_laldT (pc := 2755) (i := 0) (v := g5 0) o 0 dL_law_2755 rfl (by unfold vp_in; decide) rfl ?_
  refine y_iload (pc := 2756) o dL_law_2756 rfl ?_
  refine y_i2l (pc := 2758) o dL_law_2758 ?_
  refine y_lcmp (pc := 2759) o dL_law_2759 ?_
  refine y_if_eq (pc := 2760) (tgt := 2765) o dL_law_2760 rfl (fun (b3 : (lg_cmp (g5 0) x.toInt64) = 0) => ?_) (fun b3 => absurd (gl0 (by rw [hg b2, hx b2])) b3)
  refine y_goto (pc := 2765) (tgt := 3021) o dL_law_2765 rfl ?_
  refine y_lv [2, 3, 4, 5, 6, 7] (lv' := [(5, .int (Int32.ofNat (6 * j))), (4, .ref (o4)), (3, .ref (o3)), (2, .ref (ad2 (20, 0, 0))), (1, .ref (ad2 (0, 0, 0))), (0, .ref (b))]) rfl ?_
  exact y_wide (by omega) (by omega) (K _ _ _ _ (hok.1))

theorem lc_trace {κ : gq_K} {f : gq_F} {b L j k n o3 o4 : Nat} {xs : Nat → Int32} {ad : gKey → Nat} {C : gG} {g3 : Nat → Int64} {g4 : Nat → UInt64} (o : gq_Ok κ mL_law f) (sc : gq_Sc f b L xs) (hL : L ≤ 3072) (hj : 6 * j + 6 ≤ L) (hI : gI j C) (hk : k + 40 ≤ 630091) (hn9 : n + 700 ≤ 7125959) (K : ∀ (C' : gG) (ad' : gKey → Nat) (g3 : Nat → Int64) (g4 : Nat → UInt64), gI (j + 1) C' → gq_Y κ mL_law gQL gq_no f (gLP κ ad' C' o3 g3 o4 g4) (gLV ad' j o3 o4 b) 3021 [] (k + 40) (n + 700)) : gq_Y κ mL_law gQL gq_no f (gLP κ ad C o3 g3 o4 g4) (gLV ad j o3 o4 b) 2768 [] k n := by
  obtain ⟨C0, hC0⟩ : ∃ C0, gup C (0, 0, 0) 5 0 = C0 := ⟨_, rfl⟩
  have hI0 : gI j C0 := by rw [← hC0]; exact hI.up (Nat.le_refl _) (by omega)
  have h50 : C0.1 (0, 0, 0) 5 = 0 := by rw [← hC0]; exact gup_v _ _ _ _
  show gq_Y κ mL_law gQL gq_no f (gR κ ad (C, C) [(o3, .inl (κ.2.1 1, 1, .inr (.inl g3))), (o4, .inl (κ.2.1 2, 1, .inr (.inr (.inr (.inl g4)))))]) [(5, .int (Int32.ofNat (6 * j))), (4, .ref o4), (3, .ref o3), (2, .ref (ad (20, 0, 0))), (1, .ref (ad (0, 0, 0))), (0, .ref b)] 2768 [] k n
  refine y_aload_n (pc := 2768) o dL_law_2768 rfl ?_
  refine y_aload_n (pc := 2769) o dL_law_2769 rfl ?_
  refine y_iload (pc := 2770) o dL_law_2770 rfl ?_
  refine y_iconst (pc := 2772) (x := 1) o dL_law_2772 (by decide) ?_
  refine y_iadd (pc := 2773) o dL_law_2773 ?_
  refine y_sld (pc := 2774) o sc (6 * j + 1) (Int32.ofNat_add _ _).symm (by omega) hL dL_law_2774 ?_
  refine y_aload_n (pc := 2775) o dL_law_2775 rfl ?_
  refine y_iload (pc := 2776) o dL_law_2776 rfl ?_
  refine y_iconst (pc := 2778) (x := 2) o dL_law_2778 (by decide) ?_
  refine y_iadd (pc := 2779) o dL_law_2779 ?_
  refine y_sld (pc := 2780) o sc (6 * j + 2) (Int32.ofNat_add _ _).symm (by omega) hL dL_law_2780 ?_
  refine y_aload_n (pc := 2781) o dL_law_2781 rfl ?_
  refine y_iload (pc := 2782) o dL_law_2782 rfl ?_
  refine y_iconst (pc := 2784) (x := 3) o dL_law_2784 (by decide) ?_
  refine y_iadd (pc := 2785) o dL_law_2785 ?_
  refine y_sld (pc := 2786) o sc (6 * j + 3) (Int32.ofNat_add _ _).symm (by omega) hL dL_law_2786 ?_
  refine y_i2c (pc := 2787) (v := gc16 (xs (6 * j + 3))) o dL_law_2787 rfl ?_
  refine y_aload_n (pc := 2788) o dL_law_2788 rfl ?_
  have hok := i_trace hI0 (by omega) h50 (xs (6 * j + 1)) (xs (6 * j + 2)) (gc16 (xs (6 * j + 3)))
  have hw := w_trace (κ := κ) (ad := ad) (R := C) (T := [(o4, .inl (κ.2.1 2, 1, .inr (.inr (.inr (.inl g4)))))]) hI0 o3 g3 (xs (6 * j + 1)) (xs (6 * j + 2)) (gc16 (xs (6 * j + 3)))
  have hm9 := fun (ad1 : gKey → Nat) (T1 : List (Nat × va_E)) => r_trace (κ := κ) (ad := ad1) (C := (F_trace C0 (xs (6 * j + 1)) (xs (6 * j + 2)) (gc16 (xs (6 * j + 3)))).2.2) (T := T1) hC0 hI0 (by omega) (xs (6 * j + 1)) (xs (6 * j + 2)) (gc16 (xs (6 * j + 3)))
  generalize F_trace C0 (xs (6 * j + 1)) (xs (6 * j + 2)) (gc16 (xs (6 * j + 3))) = r at hok hw hm9
  refine y_mono (P' := gR κ ad (C0, C) [(o3, .inl (κ.2.1 1, 1, .inr (.inl g3))), (o4, .inl (κ.2.1 2, 1, .inr (.inr (.inr (.inl g4)))))]) (fun h hr => by rw [← hC0]; exact hr.ghostC (0, 0, 0) 5 0 (fun _ _ _ => rfl) (fun _ _ => rfl)) ?_
  refine y_callSW (pc := 2789) (k := k) (n := n) o (As := [.ref (ad (0, 0, 0)), .int (xs (6 * j + 1)), .int (xs (6 * j + 2)), .int (gc16 (xs (6 * j + 3))), .ref (o3)]) (rest := []) hw ls_L_283 dL_law_2789 rfl rfl (Nat.le_of_ble_eq_true rfl) ⟨by decide, by decide⟩ ⟨(show k + 3 ≤ 630091 by omega), (show n + 18 ≤ 7125959 by omega)⟩ (fun _ e => e) (fun v => y_and fun ev => y_ex fun g5 => y_ex fun ad1 => y_and fun hg => y_and fun h0 => y_and fun h20 => ?_)
  subst ev
  refine z_stk (st' := [.int r.1]) (k' := k + 3) (n' := n + 18) rfl ⟨rfl, rfl⟩ ?_
  rw [← h0, ← h20]
  refine y_istore (pc := 2792) (i := 6) (lv' := [(6, .int (r.1)), (5, .int (Int32.ofNat (6 * j))), (4, .ref (o4)), (3, .ref (o3)), (2, .ref (ad1 (20, 0, 0))), (1, .ref (ad1 (0, 0, 0))), (0, .ref (b))]) o dL_law_2792 (by decide) rfl ?_
  refine y_aload_n (pc := 2794) o dL_law_2794 rfl ?_
  refine y_aload_n (pc := 2795) o dL_law_2795 rfl ?_
  refine y_iload (pc := 2796) o dL_law_2796 rfl ?_
  refine y_iconst (pc := 2798) (x := 1) o dL_law_2798 (by decide) ?_
  refine y_iadd (pc := 2799) o dL_law_2799 ?_
  refine y_sld (pc := 2800) o sc (6 * j + 1) (Int32.ofNat_add _ _).symm (by omega) hL dL_law_2800 ?_
  refine y_aload_n (pc := 2801) o dL_law_2801 rfl ?_
  refine y_iload (pc := 2802) o dL_law_2802 rfl ?_
  refine y_iconst (pc := 2804) (x := 2) o dL_law_2804 (by decide) ?_
  refine y_iadd (pc := 2805) o dL_law_2805 ?_
  refine y_sld (pc := 2806) o sc (6 * j + 2) (Int32.ofNat_add _ _).symm (by omega) hL dL_law_2806 ?_
  refine y_aload_n (pc := 2807) o dL_law_2807 rfl ?_
  refine y_iload (pc := 2808) o dL_law_2808 rfl ?_
  refine y_iconst (pc := 2810) (x := 3) o dL_law_2810 (by decide) ?_
  refine y_iadd (pc := 2811) o dL_law_2811 ?_
  refine y_sld (pc := 2812) o sc (6 * j + 3) (Int32.ofNat_add _ _).symm (by omega) hL dL_law_2812 ?_
  refine y_i2c (pc := 2813) (v := gc16 (xs (6 * j + 3))) o dL_law_2813 rfl ?_
  refine y_callV (pc := 2814) (k := k + 3) (n := n + 18) o (b := ad1 (20, 0, 0)) (As := [.int (xs (6 * j + 1)), .int (xs (6 * j + 2)), .int (gc16 (xs (6 * j + 3)))]) (rest := []) (hm9 _ _) ln_L_286 dL_law_2814 (z_rc (ci := 20) (K := (20, 0, 0)) rfl (gl_20 hI.fix) rfl) rfl rfl (Nat.le_of_ble_eq_true rfl) ⟨by decide, by decide⟩ ⟨(show k + 3 ≤ 630091 by omega), (show n + 18 ≤ 7125959 by omega)⟩ (fun _ e => e) rfl gq_nox2 (fun v => y_and fun ⟨x, ev, hx⟩ => y_ex fun ad2 => y_and fun q0 => y_and fun q20 => ?_)
  subst ev
  refine z_stk (st' := [.int (x)]) (k' := k + 3) (n' := n + 18) rfl ⟨rfl, rfl⟩ ?_
  rw [← q0, ← q20]
  refine y_istore (pc := 2817) (i := 7) (lv' := [(7, .int (x)), (6, .int (r.1)), (5, .int (Int32.ofNat (6 * j))), (4, .ref (o4)), (3, .ref (o3)), (2, .ref (ad2 (20, 0, 0))), (1, .ref (ad2 (0, 0, 0))), (0, .ref (b))]) o dL_law_2817 (by decide) rfl ?_
  refine y_aload_n (pc := 2819) o dL_law_2819 rfl ?_
  refine z_callV (pc := 2820) (k := k + 3) (n := n + 18) (k' := k + 3) (n' := n + 18) o (b := ad2 (20, 0, 0)) (As := []) (rest := []) (r_thrown (C := r.2.2) (R := r.2.2) hok.1.fix) ln_L_158 dL_law_2820 (z_rc (ci := 20) (K := (20, 0, 0)) rfl (gl_20 hok.1.fix) rfl) rfl rfl (Nat.le_of_ble_eq_true rfl) ⟨by decide, by decide⟩ ⟨rfl, rfl⟩ ⟨(show k + 3 ≤ 630091 by omega), (show n + 18 ≤ 7125959 by omega)⟩ rfl gq_nox2 ?_
  rw [hok.2]
  refine y_iload (pc := 2823) o dL_law_2823 rfl ?_
  refine y_icmp_eq (pc := 2825) (tgt := 2830) o dL_law_2825 rfl (fun (b1 : r.1 = r.1) => ?_) (fun b1 => absurd rfl b1)
  refine y_iload (pc := 2830) o dL_law_2830 rfl ?_
  refine y_if_ne (pc := 2832) (tgt := 2847) o dL_law_2832 rfl (fun (b2 : ¬ r.1 = 0) => ?_) (fun (b2 : r.1 = 0) => ?_)
  · refine y_goto (pc := 2847) (tgt := 3021) o dL_law_2847 rfl ?_
    refine y_lv [2, 3, 4, 5, 6, 7] (lv' := [(5, .int (Int32.ofNat (6 * j))), (4, .ref (o4)), (3, .ref (o3)), (2, .ref (ad2 (20, 0, 0))), (1, .ref (ad2 (0, 0, 0))), (0, .ref (b))]) rfl ?_
    exact y_wide (by omega) (by omega) (K _ _ _ _ (hok.1))
  refine y_aload_n (pc := 2835) o dL_law_2835 rfl ?_
  refine y_iconst (pc := 2836) (x := 0) o dL_law_2836 (by decide) ?_
  refine z_laldT (pc := 2837) (i := 0) (v := g5 0) o 0 dL_law_2837 rfl (by unfold vp_in; decide) rfl ?_
  refine y_iload (pc := 2838) o dL_law_2838 rfl ?_
  refine y_i2l (pc := 2840) o dL_law_2840 ?_
  refine y_lcmp (pc := 2841) o dL_law_2841 ?_
  refine y_if_eq (pc := 2842) (tgt := 2847) o dL_law_2842 rfl (fun (b3 : (lg_cmp (g5 0) x.toInt64) = 0) => ?_) (fun b3 => absurd (gl0 (by rw [hg b2, hx b2])) b3)
  refine y_goto (pc := 2847) (tgt := 3021) o dL_law_2847 rfl ?_
  refine y_lv [2, 3, 4, 5, 6, 7] (lv' := [(5, .int (Int32.ofNat (6 * j))), (4, .ref (o4)), (3, .ref (o3)), (2, .ref (ad2 (20, 0, 0))), (1, .ref (ad2 (0, 0, 0))), (0, .ref (b))]) rfl ?_
  exact y_wide (by omega) (by omega) (K _ _ _ _ (hok.1))

theorem lc_missing {κ : gq_K} {f : gq_F} {b L j k n o3 o4 : Nat} {xs : Nat → Int32} {ad : gKey → Nat} {C : gG} {g3 : Nat → Int64} {g4 : Nat → UInt64} (o : gq_Ok κ mL_law f) (sc : gq_Sc f b L xs) (hL : L ≤ 3072) (hj : 6 * j + 6 ≤ L) (hI : gI j C) (hk : k + 40 ≤ 630091) (hn9 : n + 700 ≤ 7125959) (K : ∀ (C' : gG) (ad' : gKey → Nat) (g3 : Nat → Int64) (g4 : Nat → UInt64), gI (j + 1) C' → gq_Y κ mL_law gQL gq_no f (gLP κ ad' C' o3 g3 o4 g4) (gLV ad' j o3 o4 b) 3021 [] (k + 40) (n + 700)) : gq_Y κ mL_law gQL gq_no f (gLP κ ad C o3 g3 o4 g4) (gLV ad j o3 o4 b) 2850 [] k n := by
  obtain ⟨C0, hC0⟩ : ∃ C0, gup C (0, 0, 0) 5 0 = C0 := ⟨_, rfl⟩
  have hI0 : gI j C0 := by rw [← hC0]; exact hI.up (Nat.le_refl _) (by omega)
  have h50 : C0.1 (0, 0, 0) 5 = 0 := by rw [← hC0]; exact gup_v _ _ _ _
  show gq_Y κ mL_law gQL gq_no f (gR κ ad (C, C) [(o3, .inl (κ.2.1 1, 1, .inr (.inl g3))), (o4, .inl (κ.2.1 2, 1, .inr (.inr (.inr (.inl g4)))))]) [(5, .int (Int32.ofNat (6 * j))), (4, .ref o4), (3, .ref o3), (2, .ref (ad (20, 0, 0))), (1, .ref (ad (0, 0, 0))), (0, .ref b)] 2850 [] k n
  refine y_aload_n (pc := 2850) o dL_law_2850 rfl ?_
  have hok := i_const hI0 (by omega) h50 0
  have hw := p_missing (κ := κ) (ad := ad) (R := C) (T := [(o3, .inl (κ.2.1 1, 1, .inr (.inl g3))), (o4, .inl (κ.2.1 2, 1, .inr (.inr (.inr (.inl g4)))))]) hI0.fix hI0.cnt hI0.2.2.2.2.2.2.2.2.2.1
  have hm9 := fun (ad1 : gKey → Nat) (T1 : List (Nat × va_E)) => r_missing (κ := κ) (ad := ad1) (C := (F_const C0 0).2.2) (T := T1) hC0 hI0 (by omega)
  generalize F_const C0 0 = r at hok hw hm9
  refine y_mono (P' := gR κ ad (C0, C) [(o3, .inl (κ.2.1 1, 1, .inr (.inl g3))), (o4, .inl (κ.2.1 2, 1, .inr (.inr (.inr (.inl g4)))))]) (fun h hr => by rw [← hC0]; exact hr.ghostC (0, 0, 0) 5 0 (fun _ _ _ => rfl) (fun _ _ => rfl)) ?_
  refine y_callV (pc := 2851) (k := k) (n := n) o (b := ad (0, 0, 0)) (As := []) (rest := []) hw ln_L_287 dL_law_2851 (z_rc (ci := 15) (K := (0, 0, 0)) rfl (gl_0 hI0.fix) rfl) rfl rfl (Nat.le_of_ble_eq_true rfl) ⟨by decide, by decide⟩ ⟨(show k ≤ 630091 by omega), (show n ≤ 7125959 by omega)⟩ (fun _ e => e) rfl (fun x h hE => absurd hE.1 List.not_mem_nil) (fun v => y_and fun hz => y_and fun ev => y_ex fun ad1 => y_and fun h0 => y_and fun h20 => ?_)
  subst ev
  refine z_stk (st' := [.int (r.2.1)]) (k' := k) (n' := n) rfl ⟨rfl, rfl⟩ ?_
  rw [← h0, ← h20]
  refine y_aload_n (pc := 2854) o dL_law_2854 rfl ?_
  refine y_callV (pc := 2855) (k := k) (n := n) o (b := ad1 (20, 0, 0)) (As := []) (rest := [.int (r.2.1)]) (hm9 _ _) ln_L_290 dL_law_2855 (z_rc (ci := 20) (K := (20, 0, 0)) rfl (gl_20 hI.fix) rfl) rfl rfl (Nat.le_of_ble_eq_true rfl) ⟨by decide, by decide⟩ ⟨(show k ≤ 630091 by omega), (show n ≤ 7125959 by omega)⟩ (fun _ e => e) rfl gq_nox2 (fun v => y_and fun ⟨x, ev, hx⟩ => y_ex fun ad2 => y_and fun q0 => y_and fun q20 => ?_)
  subst ev
  refine z_stk (st' := [.int (x), .int (r.2.1)]) (k' := k) (n' := n) rfl ⟨rfl, rfl⟩ ?_
  rw [← q0, ← q20]
  refine y_icmp_eq (pc := 2858) (tgt := 3021) o dL_law_2858 rfl (fun (b1 : r.2.1 = x) => ?_) (fun b1 => absurd (hx hz).symm b1)
  exact y_wide (by omega) (by omega) (K _ _ _ _ (hok.1))

theorem lc_checksum {κ : gq_K} {f : gq_F} {b L j k n o3 o4 : Nat} {xs : Nat → Int32} {ad : gKey → Nat} {C : gG} {g3 : Nat → Int64} {g4 : Nat → UInt64} (o : gq_Ok κ mL_law f) (sc : gq_Sc f b L xs) (hL : L ≤ 3072) (hj : 6 * j + 6 ≤ L) (hI : gI j C) (hk : k + 40 ≤ 630091) (hn9 : n + 700 ≤ 7125959) (K : ∀ (C' : gG) (ad' : gKey → Nat) (g3 : Nat → Int64) (g4 : Nat → UInt64), gI (j + 1) C' → gq_Y κ mL_law gQL gq_no f (gLP κ ad' C' o3 g3 o4 g4) (gLV ad' j o3 o4 b) 3021 [] (k + 40) (n + 700)) : gq_Y κ mL_law gQL gq_no f (gLP κ ad C o3 g3 o4 g4) (gLV ad j o3 o4 b) 2863 [] k n := by
  obtain ⟨C0, hC0⟩ : ∃ C0, gup C (0, 0, 0) 5 0 = C0 := ⟨_, rfl⟩
  have hI0 : gI j C0 := by rw [← hC0]; exact hI.up (Nat.le_refl _) (by omega)
  have h50 : C0.1 (0, 0, 0) 5 = 0 := by rw [← hC0]; exact gup_v _ _ _ _
  show gq_Y κ mL_law gQL gq_no f (gR κ ad (C, C) [(o3, .inl (κ.2.1 1, 1, .inr (.inl g3))), (o4, .inl (κ.2.1 2, 1, .inr (.inr (.inr (.inl g4)))))]) [(5, .int (Int32.ofNat (6 * j))), (4, .ref o4), (3, .ref o3), (2, .ref (ad (20, 0, 0))), (1, .ref (ad (0, 0, 0))), (0, .ref b)] 2863 [] k n
  refine y_aload_n (pc := 2863) o dL_law_2863 rfl ?_
  refine y_mono (P' := gR κ ad (C0, C) [(o3, .inl (κ.2.1 1, 1, .inr (.inl g3))), (o4, .inl (κ.2.1 2, 1, .inr (.inr (.inr (.inl g4)))))]) (fun h hr => by rw [← hC0]; exact hr.ghostC (0, 0, 0) 5 0 (fun _ _ _ => rfl) (fun _ _ => rfl)) ?_
  refine z_callV (pc := 2864) (k := k) (n := n) (k' := k) (n' := n) o (b := ad (0, 0, 0)) (As := []) (rest := []) (p_checksum (R := C) hI0.fix hI0.cnt) ln_L_291 dL_law_2864 (z_rc (ci := 15) (K := (0, 0, 0)) rfl (gl_0 hI0.fix) rfl) rfl rfl (Nat.le_of_ble_eq_true rfl) ⟨by decide, by decide⟩ ⟨rfl, rfl⟩ ⟨(show k ≤ 630091 by omega), (show n ≤ 7125959 by omega)⟩ rfl gq_nox2 ?_
  refine y_aload_n (pc := 2867) o dL_law_2867 rfl ?_
  refine z_callV (pc := 2868) (k := k) (n := n) (k' := k + 34) (n' := n + 136) o (b := ad (20, 0, 0)) (As := []) (rest := [.long (gck3 C0 (C0.2 11 0))]) (r_checksum (C := C0) hC0 hI0 (by omega)) ln_L_295 dL_law_2868 (z_rc (ci := 20) (K := (20, 0, 0)) rfl (gl_20 hI.fix) rfl) rfl rfl (Nat.le_of_ble_eq_true rfl) ⟨by decide, by decide⟩ ⟨rfl, rfl⟩ ⟨(show k + 34 ≤ 630091 by omega), (show n + 136 ≤ 7125959 by omega)⟩ rfl gq_nox2 ?_
  refine y_lcmp (pc := 2871) o dL_law_2871 ?_
  refine y_if_eq (pc := 2872) (tgt := 3021) o dL_law_2872 rfl (fun (b1 : (lg_cmp (gck3 C0 (C0.2 11 0)) (gck3 C0 (C0.2 11 0))) = 0) => ?_) (fun b1 => absurd (gl0 rfl) b1)
  exact y_wide (by omega) (by omega) (K _ _ _ _ (hI0.succ (by omega)))

theorem lc_brokenShare {κ : gq_K} {f : gq_F} {b L j k n o3 o4 : Nat} {xs : Nat → Int32} {ad : gKey → Nat} {C : gG} {g3 : Nat → Int64} {g4 : Nat → UInt64} (o : gq_Ok κ mL_law f) (sc : gq_Sc f b L xs) (hL : L ≤ 3072) (hj : 6 * j + 6 ≤ L) (hI : gI j C) (hk : k + 40 ≤ 630091) (hn9 : n + 700 ≤ 7125959) (K : ∀ (C' : gG) (ad' : gKey → Nat) (g3 : Nat → Int64) (g4 : Nat → UInt64), gI (j + 1) C' → gq_Y κ mL_law gQL gq_no f (gLP κ ad' C' o3 g3 o4 g4) (gLV ad' j o3 o4 b) 3021 [] (k + 40) (n + 700)) : gq_Y κ mL_law gQL gq_no f (gLP κ ad C o3 g3 o4 g4) (gLV ad j o3 o4 b) 2877 [] k n := by
  obtain ⟨C0, hC0⟩ : ∃ C0, gup C (0, 0, 0) 5 0 = C0 := ⟨_, rfl⟩
  have hI0 : gI j C0 := by rw [← hC0]; exact hI.up (Nat.le_refl _) (by omega)
  have h50 : C0.1 (0, 0, 0) 5 = 0 := by rw [← hC0]; exact gup_v _ _ _ _
  show gq_Y κ mL_law gQL gq_no f (gR κ ad (C, C) [(o3, .inl (κ.2.1 1, 1, .inr (.inl g3))), (o4, .inl (κ.2.1 2, 1, .inr (.inr (.inr (.inl g4)))))]) [(5, .int (Int32.ofNat (6 * j))), (4, .ref o4), (3, .ref o3), (2, .ref (ad (20, 0, 0))), (1, .ref (ad (0, 0, 0))), (0, .ref b)] 2877 [] k n
  refine y_aload_n (pc := 2877) o dL_law_2877 rfl ?_
  refine y_aload (pc := 2878) o dL_law_2878 rfl ?_
  refine y_mono (P' := gR κ ad (C0, C) [(o4, .inl (κ.2.1 2, 1, .inr (.inr (.inr (.inl g4))))), (o3, .inl (κ.2.1 1, 1, .inr (.inl g3)))]) (fun h hr => by rw [← hC0]; exact (hr.perm (List.Perm.swap _ _ _)).ghostC (0, 0, 0) 5 0 (fun _ _ _ => rfl) (fun _ _ => rfl)) ?_
  refine y_callSW (pc := 2880) (k := k) (n := n) o (As := [.ref (ad (0, 0, 0)), .ref (o4)]) (rest := []) (w_brokenShare (R := C) hI0 o4 g4) ls_L_296 dL_law_2880 rfl rfl (Nat.le_of_ble_eq_true rfl) ⟨by decide, by decide⟩ ⟨(show k + 1 ≤ 630091 by omega), (show n + 6 ≤ 7125959 by omega)⟩ (fun _ e => e) (fun v => y_or (y_and fun hz => y_and fun ev => y_ex fun g5 => ?_) (y_and fun hz => y_and fun ev => y_ex fun g5 => y_and fun hg5 => ?_))
  · subst ev
    refine z_stk (st' := [.int 1]) (k' := k + 1) (n' := n + 6) rfl ⟨rfl, rfl⟩ ?_
    refine y_istore (pc := 2883) (i := 6) (lv' := [(6, .int (1)), (5, .int (Int32.ofNat (6 * j))), (4, .ref (o4)), (3, .ref (o3)), (2, .ref (ad (20, 0, 0))), (1, .ref (ad (0, 0, 0))), (0, .ref (b))]) o dL_law_2883 (by decide) rfl ?_
    refine y_aload_n (pc := 2885) o dL_law_2885 rfl ?_
    refine y_callV (pc := 2886) (k := k + 1) (n := n + 6) o (b := ad (20, 0, 0)) (As := []) (rest := []) (r_brokenShare (C := C0) hC0 hI0 (by omega)) ln_L_299 dL_law_2886 (z_rc (ci := 20) (K := (20, 0, 0)) rfl (gl_20 hI.fix) rfl) rfl rfl (Nat.le_of_ble_eq_true rfl) ⟨by decide, by decide⟩ ⟨(show k + 1 + 1 ≤ 630091 by omega), (show n + 6 + 4 ≤ 7125959 by omega)⟩ (fun _ e => e) rfl gq_nox2 (fun v => y_or (y_and fun hz2 => y_and fun hv => ?_) (y_and fun hz2 => absurd hz hz2))
    obtain ⟨fx, ev⟩ := hv
    subst ev
    refine z_stk (st' := [.float (fx)]) (k' := k + 1 + 1) (n' := n + 6 + 4) rfl ⟨rfl, rfl⟩ ?_
    refine y_fstore (pc := 2889) (i := 7) (lv' := [(7, .float (fx)), (6, .int (1)), (5, .int (Int32.ofNat (6 * j))), (4, .ref (o4)), (3, .ref (o3)), (2, .ref (ad (20, 0, 0))), (1, .ref (ad (0, 0, 0))), (0, .ref (b))]) o dL_law_2889 (by decide) rfl ?_
    refine y_aload_n (pc := 2891) o dL_law_2891 rfl ?_
    refine z_callV (pc := 2892) (k := k + 1 + 1) (n := n + 6 + 4) (k' := k + 1 + 1) (n' := n + 6 + 4) o (b := ad (20, 0, 0)) (As := []) (rest := []) (r_thrown (C := C0) (R := (gup C0 (0, 0, 0) 5 1)) hI0.fix) ln_L_158 dL_law_2892 (z_rc (ci := 20) (K := (20, 0, 0)) rfl (gl_20 hI0.fix) rfl) rfl rfl (Nat.le_of_ble_eq_true rfl) ⟨by decide, by decide⟩ ⟨rfl, rfl⟩ ⟨(show k + 1 + 1 ≤ 630091 by omega), (show n + 6 + 4 ≤ 7125959 by omega)⟩ rfl gq_nox2 ?_
    rw [gup_v]
    refine y_iload (pc := 2895) o dL_law_2895 rfl ?_
    refine y_icmp_eq (pc := 2897) (tgt := 2902) o dL_law_2897 rfl (fun (b1 : 1 = 1) => ?_) (fun b1 => absurd rfl b1)
    refine y_iload (pc := 2902) o dL_law_2902 rfl ?_
    refine y_if_ne (pc := 2904) (tgt := 2940) o dL_law_2904 rfl (fun (b2 : ¬ 1 = 0) => ?_) (fun b2 => absurd b2 (by rw [b1]; decide))
    refine y_goto (pc := 2940) (tgt := 3021) o dL_law_2940 rfl ?_
    refine y_mono (P' := gLP κ ad (gup C0 (0, 0, 0) 5 1) o3 g3 o4 g5) (fun h hr => (hr.perm (List.Perm.swap _ _ _)).ghostC (0, 0, 0) 5 1 (fun _ _ _ => rfl) (fun _ _ => rfl)) ?_
    refine y_lv [2, 3, 4, 5, 6, 7] (lv' := [(5, .int (Int32.ofNat (6 * j))), (4, .ref (o4)), (3, .ref (o3)), (2, .ref (ad (20, 0, 0))), (1, .ref (ad (0, 0, 0))), (0, .ref (b))]) rfl ?_
    exact y_wide (by omega) (by omega) (K _ _ _ _ (hI0.up (Nat.le_succ _) (by omega)))
  subst ev
  refine z_stk (st' := [.int 0]) (k' := k + 1) (n' := n + 6) rfl ⟨rfl, rfl⟩ ?_
  refine y_istore (pc := 2883) (i := 6) (lv' := [(6, .int (0)), (5, .int (Int32.ofNat (6 * j))), (4, .ref (o4)), (3, .ref (o3)), (2, .ref (ad (20, 0, 0))), (1, .ref (ad (0, 0, 0))), (0, .ref (b))]) o dL_law_2883 (by decide) rfl ?_
  refine y_aload_n (pc := 2885) o dL_law_2885 rfl ?_
  refine y_callV (pc := 2886) (k := k + 1) (n := n + 6) o (b := ad (20, 0, 0)) (As := []) (rest := []) (r_brokenShare (C := C0) hC0 hI0 (by omega)) ln_L_299 dL_law_2886 (z_rc (ci := 20) (K := (20, 0, 0)) rfl (gl_20 hI.fix) rfl) rfl rfl (Nat.le_of_ble_eq_true rfl) ⟨by decide, by decide⟩ ⟨(show k + 1 + 1 ≤ 630091 by omega), (show n + 6 + 4 ≤ 7125959 by omega)⟩ (fun _ e => e) rfl gq_nox2 (fun v => y_or (y_and fun hz2 => absurd hz2 hz) (y_and fun hz2 => y_and fun ev => ?_))
  subst ev
  refine z_stk (st' := [.float (FP.fdiv (FP.i2f (gbro C0)) (FP.i2f (gpen C0)))]) (k' := k + 1 + 1) (n' := n + 6 + 4) rfl ⟨rfl, rfl⟩ ?_
  refine y_fstore (pc := 2889) (i := 7) (lv' := [(7, .float (FP.fdiv (FP.i2f (gbro C0)) (FP.i2f (gpen C0)))), (6, .int (0)), (5, .int (Int32.ofNat (6 * j))), (4, .ref (o4)), (3, .ref (o3)), (2, .ref (ad (20, 0, 0))), (1, .ref (ad (0, 0, 0))), (0, .ref (b))]) o dL_law_2889 (by decide) rfl ?_
  refine y_aload_n (pc := 2891) o dL_law_2891 rfl ?_
  refine z_callV (pc := 2892) (k := k + 1 + 1) (n := n + 6 + 4) (k' := k + 1 + 1) (n' := n + 6 + 4) o (b := ad (20, 0, 0)) (As := []) (rest := []) (r_thrown (C := C0) (R := C0) hI0.fix) ln_L_158 dL_law_2892 (z_rc (ci := 20) (K := (20, 0, 0)) rfl (gl_20 hI0.fix) rfl) rfl rfl (Nat.le_of_ble_eq_true rfl) ⟨by decide, by decide⟩ ⟨rfl, rfl⟩ ⟨(show k + 1 + 1 ≤ 630091 by omega), (show n + 6 + 4 ≤ 7125959 by omega)⟩ rfl gq_nox2 ?_
  rw [h50]
  refine y_iload (pc := 2895) o dL_law_2895 rfl ?_
  refine y_icmp_eq (pc := 2897) (tgt := 2902) o dL_law_2897 rfl (fun (b3 : 0 = 0) => ?_) (fun b3 => absurd rfl b3)
  refine y_iload (pc := 2902) o dL_law_2902 rfl ?_
  refine y_if_ne (pc := 2904) (tgt := 2940) o dL_law_2904 rfl (fun b4 => absurd b4 (by rw [b3]; decide)) (fun (b4 : 0 = 0) => ?_)
  refine y_aload (pc := 2907) o dL_law_2907 rfl ?_
  refine y_iconst (pc := 2909) (x := 0) o dL_law_2909 (by decide) ?_
  refine z_daldT (pc := 2910) (i := 0) (v := FP.f2d (FP.fdiv (FP.i2f (gbro C0)) (FP.i2f (gpen C0)))) o 0 dL_law_2910 rfl (by unfold vp_in; decide) hg5 ?_
  refine y_fload (pc := 2911) o dL_law_2911 rfl ?_
  refine y_f2d (pc := 2913) o dL_law_2913 (gfd hz) ?_
  refine y_dcmp (pc := 2914) o dL_law_2914 ?_
  rw [gdcmp (gfdn hz)]
  refine y_if_eq (pc := 2915) (tgt := 2940) o dL_law_2915 rfl (fun (b5 : 0 = 0) => ?_) (fun b5 => absurd b5 (by rw [b3]; decide))
  refine y_goto (pc := 2940) (tgt := 3021) o dL_law_2940 rfl ?_
  refine y_mono (P' := gLP κ ad C0 o3 g3 o4 g5) (fun h hr => hr.perm (List.Perm.swap _ _ _)) ?_
  refine y_lv [2, 3, 4, 5, 6, 7] (lv' := [(5, .int (Int32.ofNat (6 * j))), (4, .ref (o4)), (3, .ref (o3)), (2, .ref (ad (20, 0, 0))), (1, .ref (ad (0, 0, 0))), (0, .ref (b))]) rfl ?_
  exact y_wide (by omega) (by omega) (K _ _ _ _ (hI0.succ (by omega)))

theorem lc_meanDarkness {κ : gq_K} {f : gq_F} {b L j k n o3 o4 : Nat} {xs : Nat → Int32} {ad : gKey → Nat} {C : gG} {g3 : Nat → Int64} {g4 : Nat → UInt64} (o : gq_Ok κ mL_law f) (sc : gq_Sc f b L xs) (hL : L ≤ 3072) (hj : 6 * j + 6 ≤ L) (hI : gI j C) (hk : k + 40 ≤ 630091) (hn9 : n + 700 ≤ 7125959) (K : ∀ (C' : gG) (ad' : gKey → Nat) (g3 : Nat → Int64) (g4 : Nat → UInt64), gI (j + 1) C' → gq_Y κ mL_law gQL gq_no f (gLP κ ad' C' o3 g3 o4 g4) (gLV ad' j o3 o4 b) 3021 [] (k + 40) (n + 700)) : gq_Y κ mL_law gQL gq_no f (gLP κ ad C o3 g3 o4 g4) (gLV ad j o3 o4 b) 2943 [] k n := by
  obtain ⟨C0, hC0⟩ : ∃ C0, gup C (0, 0, 0) 5 0 = C0 := ⟨_, rfl⟩
  have hI0 : gI j C0 := by rw [← hC0]; exact hI.up (Nat.le_refl _) (by omega)
  have h50 : C0.1 (0, 0, 0) 5 = 0 := by rw [← hC0]; exact gup_v _ _ _ _
  show gq_Y κ mL_law gQL gq_no f (gR κ ad (C, C) [(o3, .inl (κ.2.1 1, 1, .inr (.inl g3))), (o4, .inl (κ.2.1 2, 1, .inr (.inr (.inr (.inl g4)))))]) [(5, .int (Int32.ofNat (6 * j))), (4, .ref o4), (3, .ref o3), (2, .ref (ad (20, 0, 0))), (1, .ref (ad (0, 0, 0))), (0, .ref b)] 2943 [] k n
  refine y_aload_n (pc := 2943) o dL_law_2943 rfl ?_
  refine y_aload (pc := 2944) o dL_law_2944 rfl ?_
  refine y_mono (P' := gR κ ad (C0, C) [(o4, .inl (κ.2.1 2, 1, .inr (.inr (.inr (.inl g4))))), (o3, .inl (κ.2.1 1, 1, .inr (.inl g3)))]) (fun h hr => by rw [← hC0]; exact (hr.perm (List.Perm.swap _ _ _)).ghostC (0, 0, 0) 5 0 (fun _ _ _ => rfl) (fun _ _ => rfl)) ?_
  refine y_callSW (pc := 2946) (k := k) (n := n) o (As := [.ref (ad (0, 0, 0)), .ref (o4)]) (rest := []) (w_meanDarkness (R := C) hI0 o4 g4) ls_L_300 dL_law_2946 rfl rfl (Nat.le_of_ble_eq_true rfl) ⟨by decide, by decide⟩ ⟨(show k + 1 ≤ 630091 by omega), (show n + 6 ≤ 7125959 by omega)⟩ (fun _ e => e) (fun v => y_or (y_and fun hz => y_and fun ev => y_ex fun g5 => ?_) (y_and fun hz => y_and fun ev => y_ex fun g5 => y_and fun hg5 => ?_))
  · subst ev
    refine z_stk (st' := [.int 1]) (k' := k + 1) (n' := n + 6) rfl ⟨rfl, rfl⟩ ?_
    refine y_istore (pc := 2949) (i := 6) (lv' := [(6, .int (1)), (5, .int (Int32.ofNat (6 * j))), (4, .ref (o4)), (3, .ref (o3)), (2, .ref (ad (20, 0, 0))), (1, .ref (ad (0, 0, 0))), (0, .ref (b))]) o dL_law_2949 (by decide) rfl ?_
    refine y_aload_n (pc := 2951) o dL_law_2951 rfl ?_
    refine y_callV (pc := 2952) (k := k + 1) (n := n + 6) o (b := ad (20, 0, 0)) (As := []) (rest := []) (r_meanDarkness (C := C0) hC0 hI0 (by omega)) ln_L_302 dL_law_2952 (z_rc (ci := 20) (K := (20, 0, 0)) rfl (gl_20 hI.fix) rfl) rfl rfl (Nat.le_of_ble_eq_true rfl) ⟨by decide, by decide⟩ ⟨(show k + 1 + 1 ≤ 630091 by omega), (show n + 6 + 4 ≤ 7125959 by omega)⟩ (fun _ e => e) rfl gq_nox2 (fun v => y_or (y_and fun hz2 => y_and fun hv => ?_) (y_and fun hz2 => absurd hz hz2))
    obtain ⟨fx, ev⟩ := hv
    subst ev
    refine z_stk (st' := [.double (fx)]) (k' := k + 1 + 1) (n' := n + 6 + 4) rfl ⟨rfl, rfl⟩ ?_
    refine y_dstore (pc := 2955) (i := 7) (lv' := [(7, .double (fx)), (6, .int (1)), (5, .int (Int32.ofNat (6 * j))), (4, .ref (o4)), (3, .ref (o3)), (2, .ref (ad (20, 0, 0))), (1, .ref (ad (0, 0, 0))), (0, .ref (b))]) o dL_law_2955 (by decide) rfl ?_
    refine y_aload_n (pc := 2957) o dL_law_2957 rfl ?_
    refine z_callV (pc := 2958) (k := k + 1 + 1) (n := n + 6 + 4) (k' := k + 1 + 1) (n' := n + 6 + 4) o (b := ad (20, 0, 0)) (As := []) (rest := []) (r_thrown (C := C0) (R := (gup C0 (0, 0, 0) 5 1)) hI0.fix) ln_L_158 dL_law_2958 (z_rc (ci := 20) (K := (20, 0, 0)) rfl (gl_20 hI0.fix) rfl) rfl rfl (Nat.le_of_ble_eq_true rfl) ⟨by decide, by decide⟩ ⟨rfl, rfl⟩ ⟨(show k + 1 + 1 ≤ 630091 by omega), (show n + 6 + 4 ≤ 7125959 by omega)⟩ rfl gq_nox2 ?_
    rw [gup_v]
    refine y_iload (pc := 2961) o dL_law_2961 rfl ?_
    refine y_icmp_eq (pc := 2963) (tgt := 2968) o dL_law_2963 rfl (fun (b1 : 1 = 1) => ?_) (fun b1 => absurd rfl b1)
    refine y_iload (pc := 2968) o dL_law_2968 rfl ?_
    refine y_if_ne (pc := 2970) (tgt := 3005) o dL_law_2970 rfl (fun (b2 : ¬ 1 = 0) => ?_) (fun b2 => absurd b2 (by rw [b1]; decide))
    refine y_goto (pc := 3005) (tgt := 3021) o dL_law_3005 rfl ?_
    refine y_mono (P' := gLP κ ad (gup C0 (0, 0, 0) 5 1) o3 g3 o4 g5) (fun h hr => (hr.perm (List.Perm.swap _ _ _)).ghostC (0, 0, 0) 5 1 (fun _ _ _ => rfl) (fun _ _ => rfl)) ?_
    refine y_lv [2, 3, 4, 5, 6, 7] (lv' := [(5, .int (Int32.ofNat (6 * j))), (4, .ref (o4)), (3, .ref (o3)), (2, .ref (ad (20, 0, 0))), (1, .ref (ad (0, 0, 0))), (0, .ref (b))]) rfl ?_
    exact y_wide (by omega) (by omega) (K _ _ _ _ (hI0.up (Nat.le_succ _) (by omega)))
  subst ev
  refine z_stk (st' := [.int 0]) (k' := k + 1) (n' := n + 6) rfl ⟨rfl, rfl⟩ ?_
  refine y_istore (pc := 2949) (i := 6) (lv' := [(6, .int (0)), (5, .int (Int32.ofNat (6 * j))), (4, .ref (o4)), (3, .ref (o3)), (2, .ref (ad (20, 0, 0))), (1, .ref (ad (0, 0, 0))), (0, .ref (b))]) o dL_law_2949 (by decide) rfl ?_
  refine y_aload_n (pc := 2951) o dL_law_2951 rfl ?_
  refine y_callV (pc := 2952) (k := k + 1) (n := n + 6) o (b := ad (20, 0, 0)) (As := []) (rest := []) (r_meanDarkness (C := C0) hC0 hI0 (by omega)) ln_L_302 dL_law_2952 (z_rc (ci := 20) (K := (20, 0, 0)) rfl (gl_20 hI.fix) rfl) rfl rfl (Nat.le_of_ble_eq_true rfl) ⟨by decide, by decide⟩ ⟨(show k + 1 + 1 ≤ 630091 by omega), (show n + 6 + 4 ≤ 7125959 by omega)⟩ (fun _ e => e) rfl gq_nox2 (fun v => y_or (y_and fun hz2 => absurd hz2 hz) (y_and fun hz2 => y_and fun ev => ?_))
  subst ev
  refine z_stk (st' := [.double (FP.ddiv (FP.i2d (gdrk C0)) (FP.i2d (gfir C0)))]) (k' := k + 1 + 1) (n' := n + 6 + 4) rfl ⟨rfl, rfl⟩ ?_
  refine y_dstore (pc := 2955) (i := 7) (lv' := [(7, .double (FP.ddiv (FP.i2d (gdrk C0)) (FP.i2d (gfir C0)))), (6, .int (0)), (5, .int (Int32.ofNat (6 * j))), (4, .ref (o4)), (3, .ref (o3)), (2, .ref (ad (20, 0, 0))), (1, .ref (ad (0, 0, 0))), (0, .ref (b))]) o dL_law_2955 (by decide) rfl ?_
  refine y_aload_n (pc := 2957) o dL_law_2957 rfl ?_
  refine z_callV (pc := 2958) (k := k + 1 + 1) (n := n + 6 + 4) (k' := k + 1 + 1) (n' := n + 6 + 4) o (b := ad (20, 0, 0)) (As := []) (rest := []) (r_thrown (C := C0) (R := C0) hI0.fix) ln_L_158 dL_law_2958 (z_rc (ci := 20) (K := (20, 0, 0)) rfl (gl_20 hI0.fix) rfl) rfl rfl (Nat.le_of_ble_eq_true rfl) ⟨by decide, by decide⟩ ⟨rfl, rfl⟩ ⟨(show k + 1 + 1 ≤ 630091 by omega), (show n + 6 + 4 ≤ 7125959 by omega)⟩ rfl gq_nox2 ?_
  rw [h50]
  refine y_iload (pc := 2961) o dL_law_2961 rfl ?_
  refine y_icmp_eq (pc := 2963) (tgt := 2968) o dL_law_2963 rfl (fun (b3 : 0 = 0) => ?_) (fun b3 => absurd rfl b3)
  refine y_iload (pc := 2968) o dL_law_2968 rfl ?_
  refine y_if_ne (pc := 2970) (tgt := 3005) o dL_law_2970 rfl (fun b4 => absurd b4 (by rw [b3]; decide)) (fun (b4 : 0 = 0) => ?_)
  refine y_aload (pc := 2973) o dL_law_2973 rfl ?_
  refine y_iconst (pc := 2975) (x := 0) o dL_law_2975 (by decide) ?_
  refine z_daldT (pc := 2976) (i := 0) (v := FP.ddiv (FP.i2d (gdrk C0)) (FP.i2d (gfir C0))) o 0 dL_law_2976 rfl (by unfold vp_in; decide) hg5 ?_
  refine y_dload (pc := 2977) o dL_law_2977 rfl ?_
  refine y_dcmp (pc := 2979) o dL_law_2979 ?_
  rw [gdcmp (gddiv (gnz1 hz))]
  refine y_if_eq (pc := 2980) (tgt := 3005) o dL_law_2980 rfl (fun (b5 : 0 = 0) => ?_) (fun b5 => absurd b5 (by rw [b3]; decide))
  refine y_goto (pc := 3005) (tgt := 3021) o dL_law_3005 rfl ?_
  refine y_mono (P' := gLP κ ad C0 o3 g3 o4 g5) (fun h hr => hr.perm (List.Perm.swap _ _ _)) ?_
  refine y_lv [2, 3, 4, 5, 6, 7] (lv' := [(5, .int (Int32.ofNat (6 * j))), (4, .ref (o4)), (3, .ref (o3)), (2, .ref (ad (20, 0, 0))), (1, .ref (ad (0, 0, 0))), (0, .ref (b))]) rfl ?_
  exact y_wide (by omega) (by omega) (K _ _ _ _ (hI0.succ (by omega)))

theorem lc_isSound {κ : gq_K} {f : gq_F} {b L j k n o3 o4 : Nat} {xs : Nat → Int32} {ad : gKey → Nat} {C : gG} {g3 : Nat → Int64} {g4 : Nat → UInt64} (o : gq_Ok κ mL_law f) (sc : gq_Sc f b L xs) (hL : L ≤ 3072) (hj : 6 * j + 6 ≤ L) (hI : gI j C) (hk : k + 40 ≤ 630091) (hn9 : n + 700 ≤ 7125959) (K : ∀ (C' : gG) (ad' : gKey → Nat) (g3 : Nat → Int64) (g4 : Nat → UInt64), gI (j + 1) C' → gq_Y κ mL_law gQL gq_no f (gLP κ ad' C' o3 g3 o4 g4) (gLV ad' j o3 o4 b) 3021 [] (k + 40) (n + 700)) : gq_Y κ mL_law gQL gq_no f (gLP κ ad C o3 g3 o4 g4) (gLV ad j o3 o4 b) 3008 [] k n := by
  obtain ⟨C0, hC0⟩ : ∃ C0, gup C (0, 0, 0) 5 0 = C0 := ⟨_, rfl⟩
  have hI0 : gI j C0 := by rw [← hC0]; exact hI.up (Nat.le_refl _) (by omega)
  have h50 : C0.1 (0, 0, 0) 5 = 0 := by rw [← hC0]; exact gup_v _ _ _ _
  show gq_Y κ mL_law gQL gq_no f (gR κ ad (C, C) [(o3, .inl (κ.2.1 1, 1, .inr (.inl g3))), (o4, .inl (κ.2.1 2, 1, .inr (.inr (.inr (.inl g4)))))]) [(5, .int (Int32.ofNat (6 * j))), (4, .ref o4), (3, .ref o3), (2, .ref (ad (20, 0, 0))), (1, .ref (ad (0, 0, 0))), (0, .ref b)] 3008 [] k n
  refine y_aload_n (pc := 3008) o dL_law_3008 rfl ?_
  have hok := i_const hI0 (by omega) h50 1
  have hw := p_isSound (κ := κ) (ad := ad) (R := C) (T := [(o3, .inl (κ.2.1 1, 1, .inr (.inl g3))), (o4, .inl (κ.2.1 2, 1, .inr (.inr (.inr (.inl g4)))))]) hI0.fix hI0.cnt hI0.mach hI0.2.2.2.2.2.2.2.2.2.1 hI0.chn (fun i hi => (gin_iff.mp (hI0.2.2.2.2.2.1 i hi).2.2.1).2) (fun i j hi hj => (hI0.2.2.2.2.2.2.2.1 i j hi hj).2.1)
  have hm9 := fun (ad1 : gKey → Nat) (T1 : List (Nat × va_E)) => r_isSound (κ := κ) (ad := ad1) (C := (F_const C0 1).2.2) (T := T1) hC0 hI0 (by omega)
  generalize F_const C0 1 = r at hok hw hm9
  refine y_mono (P' := gR κ ad (C0, C) [(o3, .inl (κ.2.1 1, 1, .inr (.inl g3))), (o4, .inl (κ.2.1 2, 1, .inr (.inr (.inr (.inl g4)))))]) (fun h hr => by rw [← hC0]; exact hr.ghostC (0, 0, 0) 5 0 (fun _ _ _ => rfl) (fun _ _ => rfl)) ?_
  refine y_callV (pc := 3009) (k := k) (n := n) o (b := ad (0, 0, 0)) (As := []) (rest := []) hw ln_L_303 dL_law_3009 (z_rc (ci := 15) (K := (0, 0, 0)) rfl (gl_0 hI0.fix) rfl) rfl rfl (Nat.le_of_ble_eq_true rfl) ⟨by decide, by decide⟩ ⟨(show k ≤ 630091 by omega), (show n ≤ 7125959 by omega)⟩ (fun _ e => e) rfl (fun x h hE => absurd hE.1 List.not_mem_nil) (fun v => y_and fun hz => y_and fun ev => y_ex fun ad1 => y_and fun h0 => y_and fun h20 => ?_)
  subst ev
  refine z_stk (st' := [.int (r.2.1)]) (k' := k) (n' := n) rfl ⟨rfl, rfl⟩ ?_
  rw [← h0, ← h20]
  refine y_aload_n (pc := 3012) o dL_law_3012 rfl ?_
  refine y_callV (pc := 3013) (k := k) (n := n) o (b := ad1 (20, 0, 0)) (As := []) (rest := [.int (r.2.1)]) (hm9 _ _) ln_L_307 dL_law_3013 (z_rc (ci := 20) (K := (20, 0, 0)) rfl (gl_20 hI.fix) rfl) rfl rfl (Nat.le_of_ble_eq_true rfl) ⟨by decide, by decide⟩ ⟨(show k ≤ 630091 by omega), (show n ≤ 7125959 by omega)⟩ (fun _ e => e) rfl gq_nox2 (fun v => y_and fun ⟨x, ev, hx⟩ => y_ex fun ad2 => y_and fun q0 => y_and fun q20 => ?_)
  subst ev
  refine z_stk (st' := [.int (x), .int (r.2.1)]) (k' := k) (n' := n) rfl ⟨rfl, rfl⟩ ?_
  rw [← q0, ← q20]
  refine y_icmp_eq (pc := 3016) (tgt := 3021) o dL_law_3016 rfl (fun (b1 : r.2.1 = x) => ?_) (fun b1 => absurd (hx hz).symm b1)
  exact y_wide (by omega) (by omega) (K _ _ _ _ (hok.1))

end Z42
