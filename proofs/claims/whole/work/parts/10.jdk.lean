
section Z10
variable {κ : gq_K} {M : gq_M} {Q : Option Value → gq_H → Prop} {E : String → gq_H → Prop} {f : gq_F} {P P' : gq_H → Prop} {lv lv' : List (Nat × Value)} {pc : Nat} {st : List Value} {k n k' n' : Nat}
theorem gsw_none {ps : List (Int × Int)} {dflt j : Int} (h : ∀ p ∈ ps, p.1 ≠ j) : Op.lookupswitch.offset ps dflt j = dflt := Op.lookupswitch.offset_none (by
  rw [List.find?_eq_none]
  intro p hp
  simpa using h p hp)
theorem z_lookupD (o : gq_Ok κ M f) {dflt : Int} {ps : Array (Int × Int)} {len : Nat} {x : Int32} {tgt : Nat} (ks : List Int32) (d : decode M.2.1 pc = .ok (.lookupswitch dflt ps, len)) (hp : (ps.toList.zip (ps.toList.drop 1)).all (fun (a, next) => a.1 < next.1) = true) (hk : ps.toList.map (·.1) = ks.map (·.toInt)) (hx : ∀ c ∈ ks, ¬ x = c) (ht : (pc : Int) + dflt = (tgt : Int)) (y : gq_Y κ M Q E f P lv tgt st k n) : gq_Y κ M Q E f P lv pc (.int x :: st) k n :=
  y_lookup o d hp (gsw_none fun p hp' e => by
    have h1 : p.1 ∈ ks.map (·.toInt) := hk ▸ List.mem_map.mpr ⟨p, hp', rfl⟩
    obtain ⟨c, hc, h2⟩ := List.mem_map.mp h1
    exact hx c hc (Int32.toInt_inj.mp (e.symm.trans h2.symm))) ht y
theorem z_lookupK (o : gq_Ok κ M f) {dflt : Int} {ps : Array (Int × Int)} {len : Nat} {x : Int32} {off : Int} {tgt : Nat} (c : Int32) (d : decode M.2.1 pc = .ok (.lookupswitch dflt ps, len)) (hp : (ps.toList.zip (ps.toList.drop 1)).all (fun (a, next) => a.1 < next.1) = true) (hx : x = c) (ho : Op.lookupswitch.offset ps.toList dflt c.toInt = off) (ht : (pc : Int) + off = (tgt : Int)) (y : gq_Y κ M Q E f P lv tgt st k n) : gq_Y κ M Q E f P lv pc (.int x :: st) k n := by
  subst hx
  exact y_lookup o d hp ho ht y
theorem z_tableK (o : gq_Ok κ M f) {dflt lo hi : Int} {offs : Array Int} {len : Nat} {x : Int32} {off : Int} {tgt : Nat} (c : Int32) (d : decode M.2.1 pc = .ok (.tableswitch dflt lo hi offs, len)) (hx : x = c) (hc : ¬ c.toInt < lo ∧ ¬ hi < c.toInt ∧ offs[(c.toInt - lo).toNat]? = some off) (ht : (pc : Int) + off = (tgt : Int)) (y : gq_Y κ M Q E f P lv tgt st k n) : gq_Y κ M Q E f P lv pc (.int x :: st) k n := by
  subst hx
  exact y_tableIn o d hc.1 hc.2.1 hc.2.2 ht y
theorem z_tableD (o : gq_Ok κ M f) {dflt lo hi : Int} {offs : Array Int} {len : Nat} {x : Int32} {tgt : Nat} (ks : List Int32) (d : decode M.2.1 pc = .ok (.tableswitch dflt lo hi offs, len)) (hs : hi = lo + offs.size - 1) (hk : (List.range offs.size).all (fun j => decide (offs[j]? = some dflt) || ks.any (fun c => decide (c.toInt = lo + j))) = true) (hx : ∀ c ∈ ks, ¬ x = c) (ht : (pc : Int) + dflt = (tgt : Int)) (y : gq_Y κ M Q E f P lv tgt st k n) : gq_Y κ M Q E f P lv pc (.int x :: st) k n := by
  by_cases h : x.toInt < lo ∨ hi < x.toInt
  · exact y_tableOut o d h ht y
  · have h1 : ¬ x.toInt < lo := fun z => h (Or.inl z)
    have h2 : ¬ hi < x.toInt := fun z => h (Or.inr z)
    have hj : (x.toInt - lo).toNat < offs.size := by omega
    have h3 := List.all_eq_true.mp hk _ (List.mem_range.mpr hj)
    simp only [Bool.or_eq_true, decide_eq_true_eq, List.any_eq_true] at h3
    rcases h3 with h3 | ⟨c, hc, h3⟩
    · exact y_tableIn o d h1 h2 h3 ht y
    · refine absurd (Int32.toInt_inj.mp ?_) (hx c hc)
      rw [h3]
      omega
theorem z_callV (o : gq_Ok κ M f) {M' : gq_M} {b idx n0 : Nat} {C : String} {As rest stk : List Value} {v : Value} {E1 : String → gq_H → Prop} (hC : gq_C κ M' (.ref b :: As) P (fun v9 g => v9 = some v ∧ P' g) E1) (lk : gq_LV M.1.cls idx C M' n0) (d : decode M.2.1 pc = .ok (.invokevirtual idx, 3)) (hb : gq_rv κ P b C) (hst : stk = As.reverse ++ .ref b :: rest) (hn0 : As.length = n0) (hw : (rest.map fun v => v.category).sum ≤ 8) (hR : M'.2.2.2.2.1.frames + 1 ≤ M.2.2.2.2.1.frames ∧ 8 + (M'.2.2.1 + 11) + M'.2.2.2.2.1.locals ≤ M.2.2.2.2.1.locals) (hk : k + M'.2.2.2.2.1.cells = k' ∧ n + M'.2.2.2.2.1.slots = n') (hf : k' ≤ M.2.2.2.2.1.cells ∧ n' ≤ M.2.2.2.2.1.slots) (ht : M.2.2.2.2.2 = []) (kx : ∀ x h, E1 x h → E x h) (yy : gq_Y κ M Q E f P' lv (pc + 3) (v :: rest) k' n') : gq_Y κ M Q E f P lv pc stk k n := by
  obtain ⟨rfl, rfl⟩ := hk
  exact y_callV o hC lk d hb hst hn0 hw hR hf (fun _ e => e) ht kx (fun v9 => y_and (fun e => by subst e; exact yy))
theorem z_callVv (o : gq_Ok κ M f) {M' : gq_M} {b idx n0 : Nat} {C : String} {As rest stk : List Value} {E1 : String → gq_H → Prop} (hC : gq_C κ M' (.ref b :: As) P (fun v9 g => v9 = none ∧ P' g) E1) (lk : gq_LV M.1.cls idx C M' n0) (d : decode M.2.1 pc = .ok (.invokevirtual idx, 3)) (hb : gq_rv κ P b C) (hst : stk = As.reverse ++ .ref b :: rest) (hn0 : As.length = n0) (hw : (rest.map fun v => v.category).sum ≤ 8) (hR : M'.2.2.2.2.1.frames + 1 ≤ M.2.2.2.2.1.frames ∧ 8 + (M'.2.2.1 + 11) + M'.2.2.2.2.1.locals ≤ M.2.2.2.2.1.locals) (hk : k + M'.2.2.2.2.1.cells = k' ∧ n + M'.2.2.2.2.1.slots = n') (hf : k' ≤ M.2.2.2.2.1.cells ∧ n' ≤ M.2.2.2.2.1.slots) (ht : M.2.2.2.2.2 = []) (kx : ∀ x h, E1 x h → E x h) (yy : gq_Y κ M Q E f P' lv (pc + 3) rest k' n') : gq_Y κ M Q E f P lv pc stk k n := by
  obtain ⟨rfl, rfl⟩ := hk
  exact y_callV o hC lk d hb hst hn0 hw hR hf (fun _ e => e) ht kx (fun v9 => y_and (fun e => by subst e; exact yy))
theorem z_callS (o : gq_Ok κ M f) {M' : gq_M} {idx n0 : Nat} {As rest stk : List Value} {v : Value} {E1 : String → gq_H → Prop} (hC : gq_C κ M' As P (fun v9 g => v9 = some v ∧ P' g) E1) (lk : gq_LS M.1.cls idx M' n0) (d : decode M.2.1 pc = .ok (.invokestatic idx, 3)) (hst : stk = As.reverse ++ rest) (hn0 : As.length = n0) (hw : (rest.map fun v => v.category).sum ≤ 8) (hR : M'.2.2.2.2.1.frames + 1 ≤ M.2.2.2.2.1.frames ∧ 8 + (M'.2.2.1 + 11) + M'.2.2.2.2.1.locals ≤ M.2.2.2.2.1.locals) (hk : k + M'.2.2.2.2.1.cells = k' ∧ n + M'.2.2.2.2.1.slots = n') (hf : k' ≤ M.2.2.2.2.1.cells ∧ n' ≤ M.2.2.2.2.1.slots) (ht : M.2.2.2.2.2 = []) (kx : ∀ x h, E1 x h → E x h) (yy : gq_Y κ M Q E f P' lv (pc + 3) (v :: rest) k' n') : gq_Y κ M Q E f P lv pc stk k n := by
  obtain ⟨rfl, rfl⟩ := hk
  exact y_callS o hC lk d hst hn0 hw hR hf (fun _ e => e) ht kx (fun v9 => y_and (fun e => by subst e; exact yy))
theorem z_callSv (o : gq_Ok κ M f) {M' : gq_M} {idx n0 : Nat} {As rest stk : List Value} {E1 : String → gq_H → Prop} (hC : gq_C κ M' As P (fun v9 g => v9 = none ∧ P' g) E1) (lk : gq_LS M.1.cls idx M' n0) (d : decode M.2.1 pc = .ok (.invokestatic idx, 3)) (hst : stk = As.reverse ++ rest) (hn0 : As.length = n0) (hw : (rest.map fun v => v.category).sum ≤ 8) (hR : M'.2.2.2.2.1.frames + 1 ≤ M.2.2.2.2.1.frames ∧ 8 + (M'.2.2.1 + 11) + M'.2.2.2.2.1.locals ≤ M.2.2.2.2.1.locals) (hk : k + M'.2.2.2.2.1.cells = k' ∧ n + M'.2.2.2.2.1.slots = n') (hf : k' ≤ M.2.2.2.2.1.cells ∧ n' ≤ M.2.2.2.2.1.slots) (ht : M.2.2.2.2.2 = []) (kx : ∀ x h, E1 x h → E x h) (yy : gq_Y κ M Q E f P' lv (pc + 3) rest k' n') : gq_Y κ M Q E f P lv pc stk k n := by
  obtain ⟨rfl, rfl⟩ := hk
  exact y_callS o hC lk d hst hn0 hw hR hf (fun _ e => e) ht kx (fun v9 => y_and (fun e => by subst e; exact yy))
theorem z_callSN (o : gq_Ok κ M f) {M' : gq_M} {idx n0 : Nat} {host : String} {As rest stk : List Value} {v : Value} (hC : gq_C κ M' As P (fun v9 g => v9 = some v ∧ P' g) gq_no) (lk : (M.1.cls, idx, M'.1, host) ∈ gq_nm ∧ (Cond.static M'.1 ∈ gq_ws ∧ Cond.initialized M'.1.cls ∈ gq_ws ∧ gq_hd M' ∈ gq_ws ∧ M'.2.2.2.2.2 = [] ∧ (M'.1.cls ≠ "java/lang/invoke/MethodHandle" ∧ M'.1.cls ≠ "java/lang/invoke/VarHandle" ∧ (parseMethodDescriptor M'.1.desc).map (fun d => d.parameters.length) = some n0))) (d : decode M.2.1 pc = .ok (.invokestatic idx, 3)) (hst : stk = As.reverse ++ rest) (hn0 : As.length = n0) (hw : (rest.map fun v => v.category).sum ≤ 8) (hR : M'.2.2.2.2.1.frames + 1 ≤ M.2.2.2.2.1.frames ∧ 8 + (M'.2.2.1 + 11) + M'.2.2.2.2.1.locals ≤ M.2.2.2.2.1.locals) (hk : k + M'.2.2.2.2.1.cells = k' ∧ n + M'.2.2.2.2.1.slots = n') (hf : k' ≤ M.2.2.2.2.1.cells ∧ n' ≤ M.2.2.2.2.1.slots) (yy : gq_Y κ M Q E f P' lv (pc + 3) (v :: rest) k' n') : gq_Y κ M Q E f P lv pc stk k n := by
  obtain ⟨rfl, rfl⟩ := hk
  exact y_callSN o hC lk.1 lk.2 d hst hn0 hw hR hf (fun _ e => e) gq_nox (fun v9 => y_and (fun e => by subst e; exact yy))
theorem z_callI (o : gq_Ok κ M f) {M' : gq_M} {b idx n0 : Nat} {As rest stk : List Value} (hC : gq_C κ M' (.ref b :: As) P (fun v9 g => v9 = none ∧ P' g) gq_no) (lk : gq_LI M.1.cls idx M' n0) (d : decode M.2.1 pc = .ok (.invokespecial idx, 3)) (hst : stk = As.reverse ++ .ref b :: rest) (hn0 : As.length = n0) (hw : (rest.map fun v => v.category).sum ≤ 8) (hR : M'.2.2.2.2.1.frames + 1 ≤ M.2.2.2.2.1.frames ∧ 8 + (M'.2.2.1 + 11) + M'.2.2.2.2.1.locals ≤ M.2.2.2.2.1.locals) (hk : k + M'.2.2.2.2.1.cells = k' ∧ n + M'.2.2.2.2.1.slots = n') (hf : k' ≤ M.2.2.2.2.1.cells ∧ n' ≤ M.2.2.2.2.1.slots) (yy : gq_Y κ M Q E f P' lv (pc + 3) rest k' n') : gq_Y κ M Q E f P lv pc stk k n := by
  obtain ⟨rfl, rfl⟩ := hk
  exact y_callI o hC lk d hst hn0 hw hR hf (fun _ e => e) gq_nox (fun v9 => y_and (fun e => by subst e; exact yy))
theorem z_callF (o : gq_Ok κ M f) {M' : gq_M} {b ci idx cnt n0 : Nat} {qc : vw_C} {x : MethodName} {As rest stk : List Value} {v : Value} (hC : gq_C κ M' (.ref b :: As) P (fun v9 g => v9 = some v ∧ P' g) gq_no) (hc : vwCl[ci]? = some qc) (lk : gq_LF M.1.cls idx qc.1 x M' n0) (d : decode M.2.1 pc = .ok (.invokeinterface idx cnt, 5)) (hb : ∀ h, P h → ∃ fs, h b = some (.inr (ci, fs))) (hst : stk = As.reverse ++ .ref b :: rest) (hn0 : As.length = n0) (hw : (rest.map fun v => v.category).sum ≤ 8) (hR : M'.2.2.2.2.1.frames + 1 ≤ M.2.2.2.2.1.frames ∧ 8 + (M'.2.2.1 + 11) + M'.2.2.2.2.1.locals ≤ M.2.2.2.2.1.locals) (hk : k + M'.2.2.2.2.1.cells = k' ∧ n + M'.2.2.2.2.1.slots = n') (hf : k' ≤ M.2.2.2.2.1.cells ∧ n' ≤ M.2.2.2.2.1.slots) (yy : gq_Y κ M Q E f P' lv (pc + 5) (v :: rest) k' n') : gq_Y κ M Q E f P lv pc stk k n := by
  obtain ⟨rfl, rfl⟩ := hk
  exact y_callF o hC hc lk d hb hst hn0 hw hR hf (fun _ e => e) gq_nox (fun v9 => y_and (fun e => by subst e; exact yy))
/-- the index of x in a list of bytes -/
def gfind : List Int32 → Nat → Int32 → Int32
  | [], _, _ => -1
  | c :: r, j, x => if c = x then Int32.ofNat j else gfind r (j + 1) x

theorem gsh0 {x : Int32} : x >>> ((0 : Int32) &&& 31) = x := by
  rw [show ((0 : Int32) &&& 31) = 0 by decide]
  exact Int32.shiftRight_zero
theorem gq_nox2 : ∀ (x : String) (h : gq_H), gq_no x h → E x h := fun _ _ h => h.elim
end Z10
theorem c_ckiN {κ : gq_K} {P : gq_H → Prop} (i n : Int32) (h0 : ¬ i < 0) (h1 : i < n) : gq_C κ mJ3_checkIndex_8e157 [.int (i), .int (n), .null] (P) (fun v9 g => v9 = some (.int i) ∧ P g) (gq_no) := by
  refine gq_enter (by decide +kernel) rfl (Nat.le_of_ble_eq_true rfl) rfl (fun f o => ?_)
  refine y_iload_n (pc := 0) o dJ3_checkIndex_8e157_0 rfl ?_
  refine y_if_lt (pc := 1) (tgt := 9) o dJ3_checkIndex_8e157_1 rfl (fun b1 => absurd b1 h0) (fun (b1 : ¬ i < 0) => ?_)
  refine y_iload_n (pc := 4) o dJ3_checkIndex_8e157_4 rfl ?_
  refine y_iload_n (pc := 5) o dJ3_checkIndex_8e157_5 rfl ?_
  refine y_icmp_lt (pc := 6) (tgt := 16) o dJ3_checkIndex_8e157_6 rfl (fun (b2 : i < n) => ?_) (fun b2 => absurd h1 b2)
  refine y_iload_n (pc := 16) o dJ3_checkIndex_8e157_16 rfl ?_
  exact y_iret (pc := 17) o dJ3_checkIndex_8e157_17 rfl (vp_nar_int _) (by decide) (by decide) (fun h hp => ⟨rfl, hp⟩)

theorem c_ckiR {κ : gq_K} {P : gq_H → Prop} (i n : Int32) (q : Nat) (h0 : ¬ i < 0) (h1 : i < n) : gq_C κ mJ3_checkIndex_8e157 [.int (i), .int (n), .ref (q)] (P) (fun v9 g => v9 = some (.int i) ∧ P g) (gq_no) := by
  refine gq_enter (by decide +kernel) rfl (Nat.le_of_ble_eq_true rfl) rfl (fun f o => ?_)
  refine y_iload_n (pc := 0) o dJ3_checkIndex_8e157_0 rfl ?_
  refine y_if_lt (pc := 1) (tgt := 9) o dJ3_checkIndex_8e157_1 rfl (fun b1 => absurd b1 h0) (fun (b1 : ¬ i < 0) => ?_)
  refine y_iload_n (pc := 4) o dJ3_checkIndex_8e157_4 rfl ?_
  refine y_iload_n (pc := 5) o dJ3_checkIndex_8e157_5 rfl ?_
  refine y_icmp_lt (pc := 6) (tgt := 16) o dJ3_checkIndex_8e157_6 rfl (fun (b2 : i < n) => ?_) (fun b2 => absurd h1 b2)
  refine y_iload_n (pc := 16) o dJ3_checkIndex_8e157_16 rfl ?_
  exact y_iret (pc := 17) o dJ3_checkIndex_8e157_17 rfl (vp_nar_int _) (by decide) (by decide) (fun h hp => ⟨rfl, hp⟩)

theorem c_oci {κ : gq_K} {P : gq_H → Prop} (i n : Int32) (h0 : ¬ i < 0) (h1 : i < n) : gq_C κ mJ15_checkIndex_7cf53 [.int (i), .int (n)] (P) (fun v9 g => v9 = some (.int i) ∧ P g) (gq_no) := by
  refine gq_enter (by decide +kernel) rfl (Nat.le_of_ble_eq_true rfl) rfl (fun f o => ?_)
  refine y_iload_n (pc := 0) o dJ15_checkIndex_7cf53_0 rfl ?_
  refine y_iload_n (pc := 1) o dJ15_checkIndex_7cf53_1 rfl ?_
  refine y_null (pc := 2) o dJ15_checkIndex_7cf53_2 ?_
  refine z_callS (pc := 3) (k := 0) (n := 0) (k' := 0) (n' := 0) o (As := [.int (i), .int (n), .null]) (rest := []) (c_ckiN _ _ h0 h1) ln_J15_105 dJ15_checkIndex_7cf53_3 rfl rfl (Nat.le_of_ble_eq_true rfl) ⟨by decide, by decide⟩ ⟨rfl, rfl⟩ ⟨by decide, by decide⟩ rfl gq_nox2 ?_
  exact y_iret (pc := 6) o dJ15_checkIndex_7cf53_6 rfl (vp_nar_int _) (by decide) (by decide) (fun h hp => ⟨rfl, hp⟩)

theorem c_size {κ : gq_K} {P : gq_H → Prop} (a : Nat) (mc n : Int32) (r : Value) (ha : ∀ h, P h → h a = some (.inr (3, [.int mc, r, .int n]))) : gq_C κ mJx4a65c_size_8abf5 [.ref (a)] (P) (fun v9 g => v9 = some (.int n) ∧ P g) (gq_no) := by
  refine gq_enter (by decide +kernel) rfl (Nat.le_of_ble_eq_true rfl) rfl (fun f o => ?_)
  refine y_aload_n (pc := 0) o dJx4a65c_size_8abf5_0 rfl ?_
  refine y_get (pc := 1) o fl_Jx4a65c_48 dJx4a65c_size_8abf5_1 ha rfl ?_
  exact y_iret (pc := 4) o dJx4a65c_size_8abf5_4 rfl (vp_nar_int _) (by decide) (by decide) (fun h hp => ⟨rfl, hp⟩)

theorem c_elD {κ : gq_K} {P : gq_H → Prop} (a b N : Nat) (mc n : Int32) (g : Nat → Option Nat) (ha : ∀ h, P h → h a = some (.inr (3, [.int mc, .ref b, .int n]))) (i : Int32) (y : Nat) (hb : ∀ h, P h → h b = some (.inl (κ.2.1 4, N, .inr (.inr (.inr (.inr g)))))) (hin : vp_in i N) (hy : g i.toNatClampNeg = some y) : gq_C κ mJx4a65c_elementData_915e3 [.ref (a), .int (i)] (P) (fun v9 g => v9 = some (.ref y) ∧ P g) (gq_no) := by
  refine gq_enter (by decide +kernel) rfl (Nat.le_of_ble_eq_true rfl) rfl (fun f o => ?_)
  refine y_aload_n (pc := 0) o dJx4a65c_elementData_915e3_0 rfl ?_
  refine y_get (pc := 1) o fl_Jx4a65c_9 dJx4a65c_elementData_915e3_1 ha rfl ?_
  refine y_iload_n (pc := 4) o dJx4a65c_elementData_915e3_4 rfl ?_
  refine y_aald (pc := 5) o dJx4a65c_elementData_915e3_5 hb hin (congrArg va_rf hy) ?_
  exact y_aret (pc := 6) o dJx4a65c_elementData_915e3_6 rfl (Or.inl ⟨_, rfl⟩) (Or.inr ⟨_, rfl⟩) (by decide) (by decide) (fun h hp => ⟨rfl, hp⟩)

theorem c_get {κ : gq_K} {P : gq_H → Prop} (a b N : Nat) (mc n : Int32) (g : Nat → Option Nat) (ha : ∀ h, P h → h a = some (.inr (3, [.int mc, .ref b, .int n]))) (i : Int32) (y : Nat) (hb : ∀ h, P h → h b = some (.inl (κ.2.1 4, N, .inr (.inr (.inr (.inr g)))))) (hin : vp_in i N) (hy : g i.toNatClampNeg = some y) (h0 : ¬ i < 0) (h1 : i < n) : gq_C κ mJx4a65c_get_915e3 [.ref (a), .int (i)] (P) (fun v9 g => v9 = some (.ref y) ∧ P g) (gq_no) := by
  refine gq_enter (by decide +kernel) rfl (Nat.le_of_ble_eq_true rfl) rfl (fun f o => ?_)
  refine y_iload_n (pc := 0) o dJx4a65c_get_915e3_0 rfl ?_
  refine y_aload_n (pc := 1) o dJx4a65c_get_915e3_1 rfl ?_
  refine y_get (pc := 2) o fl_Jx4a65c_48 dJx4a65c_get_915e3_2 ha rfl ?_
  refine z_callS (pc := 5) (k := 0) (n := 0) (k' := 0) (n' := 0) o (As := [.int (i), .int (n)]) (rest := []) (c_oci _ _ h0 h1) ln_Jx4a65c_118 dJx4a65c_get_915e3_5 rfl rfl (Nat.le_of_ble_eq_true rfl) ⟨by decide, by decide⟩ ⟨rfl, rfl⟩ ⟨by decide, by decide⟩ rfl gq_nox2 ?_
  refine y_pop (pc := 8) o dJx4a65c_get_915e3_8 rfl ?_
  refine y_aload_n (pc := 9) o dJx4a65c_get_915e3_9 rfl ?_
  refine y_iload_n (pc := 10) o dJx4a65c_get_915e3_10 rfl ?_
  refine z_callV (pc := 11) (k := 0) (n := 0) (k' := 0) (n' := 0) o (b := a) (As := [.int (i)]) (rest := []) (c_elD a b N mc n g ha i y hb hin hy) ln_Jx4a65c_123 dJx4a65c_get_915e3_11 (gq_rc (ci := 3) rfl (fun h hp => ⟨_, ha h hp⟩)) rfl rfl (Nat.le_of_ble_eq_true rfl) ⟨by decide, by decide⟩ ⟨rfl, rfl⟩ ⟨by decide, by decide⟩ rfl gq_nox2 ?_
  exact y_aret (pc := 14) o dJx4a65c_get_915e3_14 rfl (Or.inl ⟨_, rfl⟩) (Or.inr ⟨_, rfl⟩) (by decide) (by decide) (fun h hp => ⟨rfl, hp⟩)

theorem c_hasN {κ : gq_K} {P : gq_H → Prop} (t a : Nat) (c l e mc n : Int32) (r : Value) (ht : ∀ h, P h → h t = some (.inr (2, [.int c, .int l, .int e, .ref a]))) (ha : ∀ h, P h → h a = some (.inr (3, [.int mc, r, .int n]))) : gq_C κ mJx35411_hasNext_aae02 [.ref (t)] (P) (fun v9 g => v9 = some (.int (gb (¬ c = n))) ∧ P g) (gq_no) := by
  refine gq_enter (by decide +kernel) rfl (Nat.le_of_ble_eq_true rfl) rfl (fun f o => ?_)
  refine y_aload_n (pc := 0) o dJx35411_hasNext_aae02_0 rfl ?_
  refine y_get (pc := 1) o fl_Jx35411_25 dJx35411_hasNext_aae02_1 ht rfl ?_
  refine y_aload_n (pc := 4) o dJx35411_hasNext_aae02_4 rfl ?_
  refine y_get (pc := 5) o fl_Jx35411_1 dJx35411_hasNext_aae02_5 ht rfl ?_
  refine y_get (pc := 8) o fl_Jx35411_28 dJx35411_hasNext_aae02_8 ha rfl ?_
  refine y_icmp_eq (pc := 11) (tgt := 18) o dJx35411_hasNext_aae02_11 rfl (fun (b1 : c = n) => ?_) (fun (b1 : ¬ c = n) => ?_)
  · refine y_iconst (pc := 18) (x := 0) o dJx35411_hasNext_aae02_18 (by decide) ?_
    exact y_iret (pc := 19) o dJx35411_hasNext_aae02_19 rfl rfl (by decide) (by decide) (fun h hp => ⟨by rw [gb_f (fun z => z b1)], hp⟩)
  refine y_iconst (pc := 14) (x := 1) o dJx35411_hasNext_aae02_14 (by decide) ?_
  refine y_goto (pc := 15) (tgt := 19) o dJx35411_hasNext_aae02_15 rfl ?_
  exact y_iret (pc := 19) o dJx35411_hasNext_aae02_19 rfl rfl (by decide) (by decide) (fun h hp => ⟨by rw [gb_t b1], hp⟩)

theorem c_ckCo {κ : gq_K} {P : gq_H → Prop} (t a : Nat) (c l e mc n : Int32) (r : Value) (ht : ∀ h, P h → h t = some (.inr (2, [.int c, .int l, .int e, .ref a]))) (ha : ∀ h, P h → h a = some (.inr (3, [.int mc, r, .int n]))) (he : mc = e) : gq_C κ mJx35411_checkForComodification_da8c8 [.ref (t)] (P) (fun v9 g => v9 = none ∧ P g) (gq_no) := by
  refine gq_enter (by decide +kernel) rfl (Nat.le_of_ble_eq_true rfl) rfl (fun f o => ?_)
  refine y_aload_n (pc := 0) o dJx35411_checkForComodification_da8c8_0 rfl ?_
  refine y_get (pc := 1) o fl_Jx35411_1 dJx35411_checkForComodification_da8c8_1 ht rfl ?_
  refine y_get (pc := 4) o fl_Jx35411_17 dJx35411_checkForComodification_da8c8_4 ha rfl ?_
  refine y_aload_n (pc := 7) o dJx35411_checkForComodification_da8c8_7 rfl ?_
  refine y_get (pc := 8) o fl_Jx35411_22 dJx35411_checkForComodification_da8c8_8 ht rfl ?_
  refine y_icmp_eq (pc := 11) (tgt := 22) o dJx35411_checkForComodification_da8c8_11 rfl (fun (b1 : mc = e) => ?_) (fun b1 => absurd he b1)
  exact y_vret (pc := 22) o dJx35411_checkForComodification_da8c8_22 rfl (by decide) (by decide) (fun h hp => ⟨rfl, hp⟩)

theorem c_lat {κ : gq_K} {P : gq_H → Prop} (i : Nat) (hi : i < 7) : gq_C κ mJ0_isLatin1_aae02 [.ref (κ.2.2 i)] (P) (fun v9 g => v9 = some (.int 1) ∧ P g) (gq_no) := by
  refine gq_enter (by decide +kernel) rfl (Nat.le_of_ble_eq_true rfl) rfl (fun f o => ?_)
  refine y_gets (pc := 0) (v := .int 1) o qw_1295 rfl dJ0_isLatin1_aae02_0 (fun _ _ z => z.2.2.1) ?_
  refine y_if_eq (pc := 3) (tgt := 17) o dJ0_isLatin1_aae02_3 rfl (fun b1 => absurd b1 (by decide)) (fun (b1 : ¬ 1 = 0) => ?_)
  refine y_aload_n (pc := 6) o dJ0_isLatin1_aae02_6 rfl ?_
  refine y_strf (pc := 7) o i hi qw_1862 dJ0_isLatin1_aae02_7 (Or.inl ⟨rfl, rfl, rfl⟩) ?_
  refine y_if_ne (pc := 10) (tgt := 17) o dJ0_isLatin1_aae02_10 rfl (fun b2 => absurd rfl b2) (fun (b2 : 0 = 0) => ?_)
  refine y_iconst (pc := 13) (x := 1) o dJ0_isLatin1_aae02_13 (by decide) ?_
  refine y_goto (pc := 14) (tgt := 18) o dJ0_isLatin1_aae02_14 rfl ?_
  exact y_iret (pc := 18) o dJ0_isLatin1_aae02_18 rfl rfl (by decide) (by decide) (fun h hp => ⟨rfl, hp⟩)

theorem c_coder {κ : gq_K} {P : gq_H → Prop} (i : Nat) (hi : i < 7) : gq_C κ mJ0_coder_7d493 [.ref (κ.2.2 i)] (P) (fun v9 g => v9 = some (.int 0) ∧ P g) (gq_no) := by
  refine gq_enter (by decide +kernel) rfl (Nat.le_of_ble_eq_true rfl) rfl (fun f o => ?_)
  refine y_gets (pc := 0) (v := .int 1) o qw_1295 rfl dJ0_coder_7d493_0 (fun _ _ z => z.2.2.1) ?_
  refine y_if_eq (pc := 3) (tgt := 13) o dJ0_coder_7d493_3 rfl (fun b1 => absurd b1 (by decide)) (fun (b1 : ¬ 1 = 0) => ?_)
  refine y_aload_n (pc := 6) o dJ0_coder_7d493_6 rfl ?_
  refine y_strf (pc := 7) o i hi qw_1862 dJ0_coder_7d493_7 (Or.inl ⟨rfl, rfl, rfl⟩) ?_
  refine y_goto (pc := 10) (tgt := 14) o dJ0_coder_7d493_10 rfl ?_
  exact y_iret (pc := 14) o dJ0_coder_7d493_14 rfl rfl (by decide) (by decide) (fun h hp => ⟨rfl, hp⟩)

theorem c_len {κ : gq_K} {P : gq_H → Prop} (i : Nat) (hi : i < 7) : gq_C κ mJ0_length_8abf5 [.ref (κ.2.2 i)] (P) (fun v9 g => v9 = some (.int (Int32.ofNat (gq_slen.getD i 0))) ∧ P g) (gq_no) := by
  refine gq_enter (by decide +kernel) rfl (Nat.le_of_ble_eq_true rfl) rfl (fun f o => ?_)
  refine y_aload_n (pc := 0) o dJ0_length_8abf5_0 rfl ?_
  refine y_strf (pc := 1) o i hi qw_1863 dJ0_length_8abf5_1 (Or.inr ⟨rfl, rfl, rfl⟩) ?_
  refine y_strlen (pc := 4) o i hi rfl dJ0_length_8abf5_4 ?_
  refine y_aload_n (pc := 5) o dJ0_length_8abf5_5 rfl ?_
  refine z_callV (pc := 6) (k := 0) (n := 0) (k' := 0) (n' := 0) o (b := κ.2.2 i) (As := []) (rest := [.int (Int32.ofNat (gq_slen.getD i 0))]) (c_coder i hi) ln_J0_335 dJ0_length_8abf5_6 (gq_rs i hi) rfl rfl (Nat.le_of_ble_eq_true rfl) ⟨by decide, by decide⟩ ⟨rfl, rfl⟩ ⟨by decide, by decide⟩ rfl gq_nox2 ?_
  refine y_ishr (pc := 9) o dJ0_length_8abf5_9 ?_
  exact y_iret (pc := 10) o dJ0_length_8abf5_10 rfl (vp_nar_int _) (by decide) (by decide) (fun h hp => ⟨by rw [gsh0], hp⟩)

theorem c_canE {κ : gq_K} {P : gq_H → Prop} (x : Int32) : gq_C κ mJ1_canEncode_9a6ad [.int (x)] (P) (fun v9 g => v9 = some (.int (gb (¬ x < 0 ∧ ¬ 255 < x))) ∧ P g) (gq_no) := by
  refine gq_enter (by decide +kernel) rfl (Nat.le_of_ble_eq_true rfl) rfl (fun f o => ?_)
  refine y_iload_n (pc := 0) o dJ1_canEncode_9a6ad_0 rfl ?_
  refine y_if_lt (pc := 1) (tgt := 15) o dJ1_canEncode_9a6ad_1 rfl (fun (b1 : x < 0) => ?_) (fun (b1 : ¬ x < 0) => ?_)
  · refine y_iconst (pc := 15) (x := 0) o dJ1_canEncode_9a6ad_15 (by decide) ?_
    exact y_iret (pc := 16) o dJ1_canEncode_9a6ad_16 rfl rfl (by decide) (by decide) (fun h hp => ⟨by rw [gb_f (fun z => z.1 b1)], hp⟩)
  refine y_iload_n (pc := 4) o dJ1_canEncode_9a6ad_4 rfl ?_
  refine y_sipush (pc := 5) (x := 255) o dJ1_canEncode_9a6ad_5 (by decide) ?_
  refine y_icmp_gt (pc := 8) (tgt := 15) o dJ1_canEncode_9a6ad_8 rfl (fun (b2 : 255 < x) => ?_) (fun (b2 : ¬ 255 < x) => ?_)
  · refine y_iconst (pc := 15) (x := 0) o dJ1_canEncode_9a6ad_15 (by decide) ?_
    exact y_iret (pc := 16) o dJ1_canEncode_9a6ad_16 rfl rfl (by decide) (by decide) (fun h hp => ⟨by rw [gb_f (fun z => z.2 b2)], hp⟩)
  refine y_iconst (pc := 11) (x := 1) o dJ1_canEncode_9a6ad_11 (by decide) ?_
  refine y_goto (pc := 12) (tgt := 16) o dJ1_canEncode_9a6ad_12 rfl ?_
  exact y_iret (pc := 16) o dJ1_canEncode_9a6ad_16 rfl rfl (by decide) (by decide) (fun h hp => ⟨by rw [gb_t ⟨b1, b2⟩], hp⟩)


theorem gsb_lt : ∀ i : Nat, i < 7 → (gq_sbyt.getD i []).length = gq_slen.getD i 0 ∧ gq_slen.getD i 0 ≤ 10 ∧ ∀ c ∈ gq_sbyt.getD i [], 0 < c ∧ c < 128 := by decide
theorem gfind_drop {l : List Int32} {j : Nat} {x c : Int32} (h : l[j]? = some c) : gfind (l.drop j) j x = if c = x then Int32.ofNat j else gfind (l.drop (j + 1)) (j + 1) x := by
  have hj := (List.getElem?_eq_some_iff.mp h)
  rw [List.drop_eq_getElem_cons hj.1, hj.2]
  rfl
theorem gfind_ge {l : List Int32} {j : Nat} {x : Int32} (h : l.length ≤ j) : gfind (l.drop j) j x = -1 := by
  rw [List.drop_eq_nil_of_le h]
  rfl
theorem gofs {n : Nat} (h : n ≤ 1000) : ¬ Int32.ofNat n < 0 ∧ (Int32.ofNat n).toNatClampNeg = n ∧ Int32.ofNat n + 1 = Int32.ofNat (n + 1) := by
  have h1 : (Int32.ofNat n).toInt = n := Int32.toInt_ofNat_of_lt (by omega)
  refine ⟨?_, ?_, ?_⟩
  · rw [Int32.lt_iff_toInt_lt, h1]
    have : (0 : Int32).toInt = 0 := rfl
    omega
  · rw [← Int32.toNat_toInt, h1]; rfl
  · rw [Int32.ofNat_add]; rfl
theorem gofs_lt {n m : Nat} (h : n ≤ 1000) (h' : m ≤ 1000) : Int32.ofNat n < Int32.ofNat m ↔ n < m := by
  rw [Int32.lt_iff_toInt_lt, Int32.toInt_ofNat_of_lt (by omega), Int32.toInt_ofNat_of_lt (by omega)]
  omega
theorem gin_of {n m : Nat} (h : n ≤ 1000) (h' : n < m) : vp_in (Int32.ofNat n) m := by
  have := gofs h
  unfold vp_in
  rw [this.2.1]
  intro z
  rcases z with z | z
  · exact this.1 z
  · omega
theorem gbyte {x c : Int32} (h0 : ¬ x < 0) (h1 : ¬ 255 < x) (hc : 0 < c ∧ c < 128) : c = x.toInt8.toInt32 ↔ c = x := by
  have e0 : (0 : Int32).toInt = 0 := rfl
  have e1 : (255 : Int32).toInt = 255 := rfl
  have e2 : (128 : Int32).toInt = 128 := rfl
  rw [Int32.lt_iff_toInt_lt, e0] at h0
  rw [Int32.lt_iff_toInt_lt, e1] at h1
  rw [Int32.lt_iff_toInt_lt, Int32.lt_iff_toInt_lt, e0, e2] at hc
  rw [← Int32.toInt_inj, ← Int32.toInt_inj, Int8.toInt_toInt32, Int32.toInt_toInt8]
  rw [Int.bmod_def]
  split <;> omega

theorem c_iofc {κ : gq_K} {P : gq_H → Prop} (i : Nat) (hi : i < 7) (x : Int32) (h0 : ¬ x < 0) (h1 : ¬ 255 < x) : gq_C κ mJ1_indexOfChar_4cfef [.ref (κ.2.2 (110 + i)), .int (x), .int (0), .int (Int32.ofNat (gq_slen.getD i 0))] (P) (fun v9 g => v9 = some (.int (gfind (gq_sbyt.getD i []) 0 x)) ∧ P g) (gq_no) := by
  refine gq_enter (by decide +kernel) rfl (Nat.le_of_ble_eq_true rfl) rfl (fun f o => ?_)
  refine y_iload_n (pc := 0) o dJ1_indexOfChar_4cfef_0 rfl ?_
  refine y_i2b (pc := 1) o dJ1_indexOfChar_4cfef_1 ?_
  refine y_istore (pc := 2) (i := 4) (lv' := [(4, .int (x.toInt8.toInt32)), (0, .ref (κ.2.2 (110 + i))), (1, .int (x)), (2, .int (0)), (3, .int (Int32.ofNat (gq_slen.getD i 0)))]) o dJ1_indexOfChar_4cfef_2 (by decide) rfl ?_
  refine y_iload_n (pc := 4) o dJ1_indexOfChar_4cfef_4 rfl ?_
  refine y_istore (pc := 5) (i := 5) (lv' := [(5, .int (0)), (4, .int (x.toInt8.toInt32)), (0, .ref (κ.2.2 (110 + i))), (1, .int (x)), (2, .int (0)), (3, .int (Int32.ofNat (gq_slen.getD i 0)))]) o dJ1_indexOfChar_4cfef_5 (by decide) rfl ?_
  suffices H : ∀ m j : Nat, j + m = gq_slen.getD i 0 → gfind (gq_sbyt.getD i []) 0 x = gfind ((gq_sbyt.getD i []).drop j) j x → gq_Y κ mJ1_indexOfChar_4cfef (fun v9 g => v9 = some (.int (gfind (gq_sbyt.getD i []) 0 x)) ∧ P g) gq_no f P [(5, .int (Int32.ofNat j)), (4, .int (x.toInt8.toInt32)), (0, .ref (κ.2.2 (110 + i))), (1, .int (x)), (2, .int (0)), (3, .int (Int32.ofNat (gq_slen.getD i 0)))] 7 [] 0 0 from H (gq_slen.getD i 0) 0 (by omega) rfl
  obtain ⟨hlen, hle, hall⟩ := gsb_lt i hi
  intro m
  induction m with
  | zero =>
    intro j hj hf
    refine y_iload (pc := 7) o dJ1_indexOfChar_4cfef_7 rfl ?_
    refine y_iload_n (pc := 9) o dJ1_indexOfChar_4cfef_9 rfl ?_
    refine z_icmp_ge (pc := 10) (tgt := 31) o dJ1_indexOfChar_4cfef_10 rfl (fun (b1 : ¬ (Int32.ofNat j) < (Int32.ofNat (gq_slen.getD i 0))) => ?_) (fun b1 => absurd b1 (by rw [gofs_lt (by omega) (by omega)]; omega))
    refine y_iconst (pc := 31) (x := -1) o dJ1_indexOfChar_4cfef_31 (by decide) ?_
    exact y_iret (pc := 32) o dJ1_indexOfChar_4cfef_32 rfl (vp_nar_int _) (by decide) (by decide) (fun h hp => ⟨by rw [hf, gfind_ge (by omega)], hp⟩)
  | succ m ih =>
    intro j hj hf
    obtain ⟨c, hc⟩ : ∃ c, (gq_sbyt.getD i [])[j]? = some c := ⟨_, List.getElem?_eq_getElem (by omega)⟩
    have hcm := hall c (List.mem_of_getElem? hc)
    refine y_iload (pc := 7) o dJ1_indexOfChar_4cfef_7 rfl ?_
    refine y_iload_n (pc := 9) o dJ1_indexOfChar_4cfef_9 rfl ?_
    refine z_icmp_ge (pc := 10) (tgt := 31) o dJ1_indexOfChar_4cfef_10 rfl (fun b2 => absurd ((gofs_lt (by omega) (by omega)).mpr (by omega)) b2) (fun (b2 : (Int32.ofNat j) < (Int32.ofNat (gq_slen.getD i 0))) => ?_)
    refine y_aload_n (pc := 13) o dJ1_indexOfChar_4cfef_13 rfl ?_
    refine y_iload (pc := 14) o dJ1_indexOfChar_4cfef_14 rfl ?_
    refine y_strb (pc := 16) o i hi (j := Int32.ofNat j) (v := c) (gin_of (by omega) (by omega)) (by rw [(gofs (n := j) (by omega)).2.1, List.getD_eq_getElem?_getD, hc]; rfl) dJ1_indexOfChar_4cfef_16 ?_
    refine y_iload (pc := 17) o dJ1_indexOfChar_4cfef_17 rfl ?_
    refine y_icmp_ne (pc := 19) (tgt := 25) o dJ1_indexOfChar_4cfef_19 rfl (fun (b3 : ¬ c = x.toInt8.toInt32) => ?_) (fun (b3 : c = x.toInt8.toInt32) => ?_)
    · refine y_iinc (pc := 25) (i := 5) (j := 0) (v := (Int32.ofNat j) + 1) (lv' := [(5, .int ((Int32.ofNat j) + 1)), (4, .int (x.toInt8.toInt32)), (0, .ref (κ.2.2 (110 + i))), (1, .int (x)), (2, .int (0)), (3, .int (Int32.ofNat (gq_slen.getD i 0)))]) o dJ1_indexOfChar_4cfef_25 rfl rfl (by decide) rfl ?_
      refine y_goto (pc := 28) (tgt := 7) o dJ1_indexOfChar_4cfef_28 rfl ?_
      have e9 := (gofs (n := j) (by omega)).2.2
      rw [e9]
      exact ih (j + 1) (by omega) (by rw [hf, gfind_drop hc, if_neg (fun z => b3 ((gbyte h0 h1 hcm).mpr z))])
    refine y_iload (pc := 22) o dJ1_indexOfChar_4cfef_22 rfl ?_
    exact y_iret (pc := 24) o dJ1_indexOfChar_4cfef_24 rfl (vp_nar_int _) (by decide) (by decide) (fun h hp => ⟨by rw [hf, gfind_drop hc, if_pos ((gbyte h0 h1 hcm).mp b3)], hp⟩)


theorem gfind_no {l : List Int32} {x : Int32} (h : ∀ c ∈ l, c ≠ x) (j : Nat) : gfind l j x = -1 := by
  induction l generalizing j with
  | nil => rfl
  | cons c r ih =>
    unfold gfind
    rw [if_neg (h c List.mem_cons_self)]
    exact ih (fun c hc => h c (List.mem_cons_of_mem _ hc)) (j + 1)
theorem gcan_no {i : Nat} (hi : i < 7) {x : Int32} (h : ¬ (¬ x < 0 ∧ ¬ 255 < x)) : gfind (gq_sbyt.getD i []) 0 x = -1 := by
  refine gfind_no (fun c hc e => h ?_) 0
  have := (gsb_lt i hi).2.2 c hc
  rw [e, Int32.lt_iff_toInt_lt, Int32.lt_iff_toInt_lt] at this
  have e0 : (0 : Int32).toInt = 0 := rfl
  have e1 : (255 : Int32).toInt = 255 := rfl
  have e2 : (128 : Int32).toInt = 128 := rfl
  rw [Int32.lt_iff_toInt_lt, Int32.lt_iff_toInt_lt]
  omega
theorem gmax00 : gmax 0 0 = 0 := by decide
theorem gmin_same (x : Int32) : gmin x x = x := by unfold gmin; split <;> rfl
theorem gslen_pos : ∀ i : Nat, i < 7 → (0 : Int32) < Int32.ofNat (gq_slen.getD i 0) := by decide

theorem c_j1i {κ : gq_K} {P : gq_H → Prop} (i : Nat) (hi : i < 7) (x : Int32) : gq_C κ mJ1_indexOf_4cfef [.ref (κ.2.2 (110 + i)), .int (x), .int (0), .int (Int32.ofNat (gq_slen.getD i 0))] (P) (fun v9 g => v9 = some (.int (gfind (gq_sbyt.getD i []) 0 x)) ∧ P g) (gq_no) := by
  refine gq_enter (by decide +kernel) rfl (Nat.le_of_ble_eq_true rfl) rfl (fun f o => ?_)
  refine y_iload_n (pc := 0) o dJ1_indexOf_4cfef_0 rfl ?_
  refine z_callS (pc := 1) (k := 0) (n := 0) (k' := 0) (n' := 0) o (As := [.int (x)]) (rest := []) (c_canE x) ln_J1_88 dJ1_indexOf_4cfef_1 rfl rfl (Nat.le_of_ble_eq_true rfl) ⟨by decide, by decide⟩ ⟨rfl, rfl⟩ ⟨by decide, by decide⟩ rfl gq_nox2 ?_
  refine z_bne (pc := 4) (tgt := 9) o dJ1_indexOf_4cfef_4 rfl (fun (b1 : ¬ x < 0 ∧ ¬ 255 < x) => ?_) (fun (b1 : ¬ (¬ x < 0 ∧ ¬ 255 < x)) => ?_)
  · refine y_iload_n (pc := 9) o dJ1_indexOf_4cfef_9 rfl ?_
    refine y_iconst (pc := 10) (x := 0) o dJ1_indexOf_4cfef_10 (by decide) ?_
    refine y_mmax (pc := 11) o qw_1311 dJ1_indexOf_4cfef_11 ⟨by decide, Nat.le_of_ble_eq_true rfl⟩ (by decide) (by decide) ?_
    refine z_top (congrArg Value.int (gmax00)) ?_
    refine y_istore_n (pc := 14) (i := 2) (lv' := [(2, .int (0)), (0, .ref (κ.2.2 (110 + i))), (1, .int (x)), (3, .int (Int32.ofNat (gq_slen.getD i 0)))]) o dJ1_indexOf_4cfef_14 rfl (by decide) rfl ?_
    refine y_iload_n (pc := 15) o dJ1_indexOf_4cfef_15 rfl ?_
    refine y_aload_n (pc := 16) o dJ1_indexOf_4cfef_16 rfl ?_
    refine y_strlen (pc := 17) o i hi rfl dJ1_indexOf_4cfef_17 ?_
    refine y_mmin (pc := 18) o qw_1312 dJ1_indexOf_4cfef_18 ⟨by decide, Nat.le_of_ble_eq_true rfl⟩ (by decide) (by decide) ?_
    refine z_top (congrArg Value.int (gmin_same _)) ?_
    refine y_istore_n (pc := 21) (i := 3) (lv' := [(3, .int (Int32.ofNat (gq_slen.getD i 0))), (2, .int (0)), (0, .ref (κ.2.2 (110 + i))), (1, .int (x))]) o dJ1_indexOf_4cfef_21 rfl (by decide) rfl ?_
    refine y_iload_n (pc := 22) o dJ1_indexOf_4cfef_22 rfl ?_
    refine y_iload_n (pc := 23) o dJ1_indexOf_4cfef_23 rfl ?_
    refine y_icmp_lt (pc := 24) (tgt := 29) o dJ1_indexOf_4cfef_24 rfl (fun (b2 : 0 < (Int32.ofNat (gq_slen.getD i 0))) => ?_) (fun b2 => absurd (gslen_pos i hi) b2)
    refine y_aload_n (pc := 29) o dJ1_indexOf_4cfef_29 rfl ?_
    refine y_iload_n (pc := 30) o dJ1_indexOf_4cfef_30 rfl ?_
    refine y_iload_n (pc := 31) o dJ1_indexOf_4cfef_31 rfl ?_
    refine y_iload_n (pc := 32) o dJ1_indexOf_4cfef_32 rfl ?_
    refine z_callS (pc := 33) (k := 0) (n := 0) (k' := 0) (n' := 0) o (As := [.ref (κ.2.2 (110 + i)), .int (x), .int (0), .int (Int32.ofNat (gq_slen.getD i 0))]) (rest := []) (c_iofc i hi x b1.1 b1.2) ln_J1_95 dJ1_indexOf_4cfef_33 rfl rfl (Nat.le_of_ble_eq_true rfl) ⟨by decide, by decide⟩ ⟨rfl, rfl⟩ ⟨by decide, by decide⟩ rfl gq_nox2 ?_
    exact y_iret (pc := 36) o dJ1_indexOf_4cfef_36 rfl (vp_nar_int _) (by decide) (by decide) (fun h hp => ⟨rfl, hp⟩)
  refine y_iconst (pc := 7) (x := -1) o dJ1_indexOf_4cfef_7 (by decide) ?_
  exact y_iret (pc := 8) o dJ1_indexOf_4cfef_8 rfl (vp_nar_int _) (by decide) (by decide) (fun h hp => ⟨by rw [gcan_no hi b1], hp⟩)

theorem c_iof2 {κ : gq_K} {P : gq_H → Prop} (i : Nat) (hi : i < 7) (x : Int32) : gq_C κ mJ0_indexOf_7cf53 [.ref (κ.2.2 i), .int (x), .int (0)] (P) (fun v9 g => v9 = some (.int (gfind (gq_sbyt.getD i []) 0 x)) ∧ P g) (gq_no) := by
  refine gq_enter (by decide +kernel) rfl (Nat.le_of_ble_eq_true rfl) rfl (fun f o => ?_)
  refine y_aload_n (pc := 0) o dJ0_indexOf_7cf53_0 rfl ?_
  refine z_callV (pc := 1) (k := 0) (n := 0) (k' := 0) (n' := 0) o (b := κ.2.2 i) (As := []) (rest := []) (c_lat i hi) ln_J0_492 dJ0_indexOf_7cf53_1 (gq_rs i hi) rfl rfl (Nat.le_of_ble_eq_true rfl) ⟨by decide, by decide⟩ ⟨rfl, rfl⟩ ⟨by decide, by decide⟩ rfl gq_nox2 ?_
  refine y_if_eq (pc := 4) (tgt := 23) o dJ0_indexOf_7cf53_4 rfl (fun b1 => absurd b1 (by decide)) (fun (b1 : ¬ 1 = 0) => ?_)
  refine y_aload_n (pc := 7) o dJ0_indexOf_7cf53_7 rfl ?_
  refine y_strf (pc := 8) o i hi qw_1863 dJ0_indexOf_7cf53_8 (Or.inr ⟨rfl, rfl, rfl⟩) ?_
  refine y_iload_n (pc := 11) o dJ0_indexOf_7cf53_11 rfl ?_
  refine y_iload_n (pc := 12) o dJ0_indexOf_7cf53_12 rfl ?_
  refine y_aload_n (pc := 13) o dJ0_indexOf_7cf53_13 rfl ?_
  refine z_callV (pc := 14) (k := 0) (n := 0) (k' := 0) (n' := 0) o (b := κ.2.2 i) (As := []) (rest := [.int (0), .int (x), .ref (κ.2.2 (110 + i))]) (c_len i hi) ln_J0_505 dJ0_indexOf_7cf53_14 (gq_rs i hi) rfl rfl (Nat.le_of_ble_eq_true rfl) ⟨by decide, by decide⟩ ⟨rfl, rfl⟩ ⟨by decide, by decide⟩ rfl gq_nox2 ?_
  refine z_callS (pc := 17) (k := 0) (n := 0) (k' := 0) (n' := 0) o (As := [.ref (κ.2.2 (110 + i)), .int (x), .int (0), .int (Int32.ofNat (gq_slen.getD i 0))]) (rest := []) (c_j1i i hi x) ln_J0_637 dJ0_indexOf_7cf53_17 rfl rfl (Nat.le_of_ble_eq_true rfl) ⟨by decide, by decide⟩ ⟨rfl, rfl⟩ ⟨by decide, by decide⟩ rfl gq_nox2 ?_
  refine y_goto (pc := 20) (tgt := 36) o dJ0_indexOf_7cf53_20 rfl ?_
  exact y_iret (pc := 36) o dJ0_indexOf_7cf53_36 rfl (vp_nar_int _) (by decide) (by decide) (fun h hp => ⟨rfl, hp⟩)

theorem c_indexOf {κ : gq_K} {P : gq_H → Prop} (i : Nat) (hi : i < 7) (x : Int32) : gq_C κ mJ0_indexOf_0f7a4 [.ref (κ.2.2 i), .int (x)] (P) (fun v9 g => v9 = some (.int (gfind (gq_sbyt.getD i []) 0 x)) ∧ P g) (gq_no) := by
  refine gq_enter (by decide +kernel) rfl (Nat.le_of_ble_eq_true rfl) rfl (fun f o => ?_)
  refine y_aload_n (pc := 0) o dJ0_indexOf_0f7a4_0 rfl ?_
  refine y_iload_n (pc := 1) o dJ0_indexOf_0f7a4_1 rfl ?_
  refine y_iconst (pc := 2) (x := 0) o dJ0_indexOf_0f7a4_2 (by decide) ?_
  refine z_callV (pc := 3) (k := 0) (n := 0) (k' := 0) (n' := 0) o (b := κ.2.2 i) (As := [.int (x), .int (0)]) (rest := []) (c_iof2 i hi x) ln_J0_633 dJ0_indexOf_0f7a4_3 (gq_rs i hi) rfl rfl (Nat.le_of_ble_eq_true rfl) ⟨by decide, by decide⟩ ⟨rfl, rfl⟩ ⟨by decide, by decide⟩ rfl gq_nox2 ?_
  exact y_iret (pc := 6) o dJ0_indexOf_0f7a4_6 rfl (vp_nar_int _) (by decide) (by decide) (fun h hp => ⟨rfl, hp⟩)


theorem c_cki {κ : gq_K} {P : gq_H → Prop} (i n : Int32) (r : Option Nat) (h0 : ¬ i < 0) (h1 : i < n) : gq_C κ mJ3_checkIndex_8e157 [.int i, .int n, va_rf r] P (fun v9 g => v9 = some (.int i) ∧ P g) gq_no := by
  rcases r with _ | q
  · exact c_ckiN i n h0 h1
  · exact c_ckiR i n q h0 h1

theorem c_sck {κ : gq_K} {P : gq_H → Prop} (j n : Int32) (h0 : ¬ j < 0) (h1 : j < n) : gq_C κ mJ0_checkIndex_df160 [.int (j), .int (n)] (P) (fun v9 g => v9 = none ∧ P g) (gq_no) := by
  refine gq_enter (by decide +kernel) rfl (Nat.le_of_ble_eq_true rfl) rfl (fun f o => ?_)
  refine y_iload_n (pc := 0) o dJ0_checkIndex_df160_0 rfl ?_
  refine y_iload_n (pc := 1) o dJ0_checkIndex_df160_1 rfl ?_
  refine y_getq (pc := 2) o qw_1334 rfl dJ0_checkIndex_df160_2 (fun _ _ z => z.2.2.2.2.2.1) (fun r => ?_)
  refine z_callS (pc := 5) (k := 0) (n := 0) (k' := 0) (n' := 0) o (As := [.int (j), .int (n), va_rf r]) (rest := []) (c_cki j n r h0 h1) ln_J0_1059 dJ0_checkIndex_df160_5 rfl rfl (Nat.le_of_ble_eq_true rfl) ⟨by decide, by decide⟩ ⟨rfl, rfl⟩ ⟨by decide, by decide⟩ rfl gq_nox2 ?_
  refine y_pop (pc := 8) o dJ0_checkIndex_df160_8 rfl ?_
  exact y_vret (pc := 9) o dJ0_checkIndex_df160_9 rfl (by decide) (by decide) (fun h hp => ⟨rfl, hp⟩)


theorem gchr : ∀ i : Nat, i < 7 → ∀ c ∈ gq_sbyt.getD i [], ((c &&& 255).toUInt32 % 65536).toInt32 = c ∧ narrow .char (.int c) = .int c := by decide +kernel

theorem c_l1c {κ : gq_K} {P : gq_H → Prop} (i : Nat) (hi : i < 7) (j c : Int32) (h0 : ¬ j < 0) (h1 : j < Int32.ofNat (gq_slen.getD i 0)) (hin : vp_in j (gq_slen.getD i 0)) (hc : (gq_sbyt.getD i [])[j.toNatClampNeg]? = some c) : gq_C κ mJ1_charAt_3b067 [.ref (κ.2.2 (110 + i)), .int (j)] (P) (fun v9 g => v9 = some (.int c) ∧ P g) (gq_no) := by
  refine gq_enter (by decide +kernel) rfl (Nat.le_of_ble_eq_true rfl) rfl (fun f o => ?_)
  refine y_iload_n (pc := 0) o dJ1_charAt_3b067_0 rfl ?_
  refine y_aload_n (pc := 1) o dJ1_charAt_3b067_1 rfl ?_
  refine y_strlen (pc := 2) o i hi rfl dJ1_charAt_3b067_2 ?_
  refine z_callSv (pc := 3) (k := 0) (n := 0) (k' := 0) (n' := 0) o (As := [.int (j), .int (Int32.ofNat (gq_slen.getD i 0))]) (rest := []) (c_sck j _ h0 h1) ln_J1_9 dJ1_charAt_3b067_3 rfl rfl (Nat.le_of_ble_eq_true rfl) ⟨by decide, by decide⟩ ⟨rfl, rfl⟩ ⟨by decide, by decide⟩ rfl gq_nox2 ?_
  refine y_aload_n (pc := 6) o dJ1_charAt_3b067_6 rfl ?_
  refine y_iload_n (pc := 7) o dJ1_charAt_3b067_7 rfl ?_
  refine y_strb (pc := 8) o i hi (j := j) (v := c) hin (by rw [List.getD_eq_getElem?_getD, hc]; rfl) dJ1_charAt_3b067_8 ?_
  refine y_sipush (pc := 9) (x := 255) o dJ1_charAt_3b067_9 (by decide) ?_
  refine y_iand (pc := 12) o dJ1_charAt_3b067_12 ?_
  refine y_i2c (pc := 13) (v := c) o dJ1_charAt_3b067_13 ((gchr i hi c (List.mem_of_getElem? hc)).1) ?_
  exact y_iret (pc := 14) o dJ1_charAt_3b067_14 rfl ((gchr i hi c (List.mem_of_getElem? hc)).2) (by decide) (by decide) (fun h hp => ⟨rfl, hp⟩)

theorem c_charAt {κ : gq_K} {P : gq_H → Prop} (i : Nat) (hi : i < 7) (j c : Int32) (h0 : ¬ j < 0) (h1 : j < Int32.ofNat (gq_slen.getD i 0)) (hin : vp_in j (gq_slen.getD i 0)) (hc : (gq_sbyt.getD i [])[j.toNatClampNeg]? = some c) : gq_C κ mJ0_charAt_5068e [.ref (κ.2.2 i), .int (j)] (P) (fun v9 g => v9 = some (.int c) ∧ P g) (gq_no) := by
  refine gq_enter (by decide +kernel) rfl (Nat.le_of_ble_eq_true rfl) rfl (fun f o => ?_)
  refine y_aload_n (pc := 0) o dJ0_charAt_5068e_0 rfl ?_
  refine z_callV (pc := 1) (k := 0) (n := 0) (k' := 0) (n' := 0) o (b := κ.2.2 i) (As := []) (rest := []) (c_lat i hi) ln_J0_492 dJ0_charAt_5068e_1 (gq_rs i hi) rfl rfl (Nat.le_of_ble_eq_true rfl) ⟨by decide, by decide⟩ ⟨rfl, rfl⟩ ⟨by decide, by decide⟩ rfl gq_nox2 ?_
  refine y_if_eq (pc := 4) (tgt := 16) o dJ0_charAt_5068e_4 rfl (fun b1 => absurd b1 (by decide)) (fun (b1 : ¬ 1 = 0) => ?_)
  refine y_aload_n (pc := 7) o dJ0_charAt_5068e_7 rfl ?_
  refine y_strf (pc := 8) o i hi qw_1863 dJ0_charAt_5068e_8 (Or.inr ⟨rfl, rfl, rfl⟩) ?_
  refine y_iload_n (pc := 11) o dJ0_charAt_5068e_11 rfl ?_
  refine z_callS (pc := 12) (k := 0) (n := 0) (k' := 0) (n' := 0) o (As := [.ref (κ.2.2 (110 + i)), .int (j)]) (rest := []) (c_l1c i hi j c h0 h1 hin hc) ln_J0_495 dJ0_charAt_5068e_12 rfl rfl (Nat.le_of_ble_eq_true rfl) ⟨by decide, by decide⟩ ⟨rfl, rfl⟩ ⟨by decide, by decide⟩ rfl gq_nox2 ?_
  exact y_iret (pc := 15) o dJ0_charAt_5068e_15 rfl ((gchr i hi c (List.mem_of_getElem? hc)).2) (by decide) (by decide) (fun h hp => ⟨rfl, hp⟩)
