
section Z41
variable {κ : gq_K} {M : gq_M} {Q : Option Value → gq_H → Prop} {E : String → gq_H → Prop} {f : gq_F} {P P1 P2 : gq_H → Prop} {lv : List (Nat × Value)} {pc : Nat} {st : List Value} {k n : Nat}
abbrev mL_law : gq_M := (x, code, 9, ret, room_1, [])
def gq_LSW (own : String) (idx : Nat) (M' : gq_M) (n0 : Nat) : Prop := Cond.methodLink own idx M'.1 ∈ gq_ws ∧ Cond.static M'.1 ∈ gq_ws ∧ Cond.initialized M'.1.cls ∈ gq_ws ∧ gq_hd M' ∈ gq_ws ∧ gq_hd M' = Cond.codeWith M'.1 M'.2.1 M'.2.2.1 M'.2.2.2.1 M'.2.2.2.2.2 ∧ (M'.1.cls ≠ "java/lang/invoke/MethodHandle" ∧ M'.1.cls ≠ "java/lang/invoke/VarHandle" ∧ (parseMethodDescriptor M'.1.desc).map (fun d => d.parameters.length) = some n0)
theorem gq_cwSW {R : Room} {s : State} {args : Array Value} {own : String} {idx n0 : Nat} {M' : gq_M} (hts : ∀ w ∈ gq_ws, w.before args s = true) (lk : gq_LSW own idx M' n0) (hR : M'.2.2.2.2.1.frames + 1 ≤ R.frames ∧ 8 + (M'.2.2.1 + 11) + M'.2.2.2.2.1.locals ≤ R.locals) : vx_CSW R s args own idx M'.1 M'.2.1 M'.2.2.1 M'.2.2.2.1 M'.2.2.2.2.2 (gq_hd M' :: gq_ws) M'.2.2.2.2.1 M'.2.2.2.2.1.cells M'.2.2.2.2.1.slots n0 := by
  obtain ⟨h1, h2, h3, h5, h6, h7⟩ := lk
  refine vx_cwSW (ws' := gq_ws) n0 hts ?_ (by rw [h6]) rfl rfl h7 hR
  intro w hw
  refine gq_good w ?_
  rcases List.mem_append.mp hw with hw | hw
  · simp only [List.mem_cons, List.not_mem_nil, or_false] at hw
    rcases hw with rfl | rfl | rfl
    · exact h1
    · exact h2
    · exact h3
  · rcases List.mem_cons.mp hw with rfl | hw
    · exact h5
    · exact hw
set_option maxHeartbeats 4000000 in
theorem y_callSW (o : gq_Ok κ M f) {M' : gq_M} {idx n0 : Nat} {As rest stk : List Value} {P1 : gq_H → Prop} {Q1 : Option Value → gq_H → Prop} (hC : gq_C κ M' As P1 Q1 gq_no) (lk : gq_LSW M.1.cls idx M' n0) (d : decode M.2.1 pc = .ok (.invokestatic idx, 3)) (hst : stk = As.reverse ++ rest) (hn0 : As.length = n0) (hw : (rest.map fun v => v.category).sum ≤ 8) (hR : M'.2.2.2.2.1.frames + 1 ≤ M.2.2.2.2.1.frames ∧ 8 + (M'.2.2.1 + 11) + M'.2.2.2.2.1.locals ≤ M.2.2.2.2.1.locals) (hf : k + M'.2.2.2.2.1.cells ≤ M.2.2.2.2.1.cells ∧ n + M'.2.2.2.2.1.slots ≤ M.2.2.2.2.1.slots) (hp : ∀ h, P h → P1 h)
    (kk : ∀ v, gq_Y κ M Q E f (Q1 v) lv (pc + 3) (v.toList ++ rest) (k + M'.2.2.2.2.1.cells) (n + M'.2.2.2.2.1.slots)) : gq_Y κ M Q E f P lv pc stk k n := by
  subst hst
  obtain ⟨p, l, e, s, m, args, below, meth, c, A⟩ := f
  intro h H locs ls h1 h2 h3 h4
  obtain ⟨hx, hbb, hml, hown, hts, hTB, hZs, hA, hret, hlk, hfl, hnm, htb⟩ := id o
  exact gq_ofRun (vx_runSW (As := As) (rest := rest) ⟨hx, hbb, hml, hown, hts⟩ (gq_met hC (fun _ _ z => z) hfl) (gq_cwSW hts lk hR) ⟨gq_Pc.blind, gq_pc hTB hZs hA h3 h2 (hp h h1)⟩ rfl hn0 h4.1 rfl (lv_room hw) d hf) h3 (fun v h' H1 locs1 hq hh hS => kk v h' H1 locs1 ls hq hh hS h4)
/-- two worlds, one or the other -/
theorem y_or (y1 : gq_Y κ M Q E f P1 lv pc st k n) (y2 : gq_Y κ M Q E f P2 lv pc st k n) : gq_Y κ M Q E f (fun h => P1 h ∨ P2 h) lv pc st k n := by
  obtain ⟨p, l, e, s, m, args, below, meth, c, A⟩ := f
  exact fun h H locs ls h1 h2 h3 h4 => h1.elim (fun q => y1 h H locs ls q h2 h3 h4) (fun q => y2 h H locs ls q h2 h3 h4)
/-- the script lies below -/
def gq_Sc (f : gq_F) (b L : Nat) (xs : Nat → Int32) : Prop := match f with
  | (_, _, _, s, _, _, _, _, _, A) => va_X b L xs s s.heap ∧ b < s.heap.size ∧ ¬ A b
theorem y_sld (o : gq_Ok κ M f) {b L : Nat} {xs : Nat → Int32} (sc : gq_Sc f b L xs) {x : Int32} (q : Nat) (hx : x = Int32.ofNat q) (hq : q < L) (hL : L ≤ 3072) (d : decode M.2.1 pc = .ok (.iaload, 1)) (y : gq_Y κ M Q E f P lv (pc + 1) (.int (xs q) :: st) k n) : gq_Y κ M Q E f P lv pc (.int x :: .ref b :: st) k n := by
  obtain ⟨p, l, e, s, m, args, below, meth, c, A⟩ := f
  have e1 : (Int32.ofNat q).toNatClampNeg = q := nI_clamp (n := q) (by omega)
  intro h H locs ls h1 h2 h3 h4
  refine va_sld o.1 o.2.1 sc.1 sc.2.1 sc.2.2 h3 (i := x) ?_ d ?_
  · rw [hx]
    intro z
    rcases z with z | z
    · rw [Int32.lt_iff_toInt_lt, Int32.toInt_ofNat_of_lt (by omega)] at z
      have e0 : (0 : Int32).toInt = 0 := rfl
      omega
    · rw [e1] at z; omega
  · rw [hx, e1]
    exact y h H locs ls h1 h2 h3 h4
theorem y_slen (o : gq_Ok κ M f) {b L : Nat} {xs : Nat → Int32} (sc : gq_Sc f b L xs) (d : decode M.2.1 pc = .ok (.arraylength, 1)) (y : gq_Y κ M Q E f P lv (pc + 1) (.int (Int32.ofNat L) :: st) k n) : gq_Y κ M Q E f P lv pc (.ref b :: st) k n := by
  obtain ⟨p, l, e, s, m, args, below, meth, c, A⟩ := f
  intro h H locs ls h1 h2 h3 h4
  exact va_slen o.1 o.2.1 sc.1 sc.2.1 sc.2.2 h3 d (y h H locs ls h1 h2 h3 h4)
def gc16 (x : Int32) : Int32 := (x.toUInt32 % 65536).toInt32
abbrev gLP (κ : gq_K) (ad : gKey → Nat) (C : gG) (o3 : Nat) (g3 : Nat → Int64) (o4 : Nat) (g4 : Nat → UInt64) : gq_H → Prop := gR κ ad (C, C) [(o3, .inl (κ.2.1 1, 1, .inr (.inl g3))), (o4, .inl (κ.2.1 2, 1, .inr (.inr (.inr (.inl g4)))))]
abbrev gLV (ad : gKey → Nat) (j o3 o4 b : Nat) : List (Nat × Value) := [(5, .int (Int32.ofNat (6 * j))), (4, .ref o4), (3, .ref o3), (2, .ref (ad (20, 0, 0))), (1, .ref (ad (0, 0, 0))), (0, .ref b)]
abbrev gQL : Option Value → gq_H → Prop := fun v _ => v = some (.int 1)
theorem gdcmp {v : UInt64} {op : CmpOp} (h : FP.Core.dIsNaN v = false) : Op.cmpValue (FP.dcmp v v) op = 0 := by
  have e : FP.dcmp v v = some .eq := FP.Core.dcmp_refl h
  rw [e]
  rfl
theorem gfdn {a b : Int32} (h : ¬ b < 1) : FP.Core.dIsNaN (FP.f2d (FP.fdiv (FP.i2f a) (FP.i2f b))) = false := by
  have h1 := FP.f2d_nan (FP.fdiv (FP.i2f a) (FP.i2f b))
  rw [show FP.Core.dIsNaN (FP.f2d (FP.fdiv (FP.i2f a) (FP.i2f b))) = FP.dIsNaN (FP.f2d (FP.fdiv (FP.i2f a) (FP.i2f b))) from rfl, h1]
  exact gfdiv (gnz1 h)
theorem gl0 {x y : Int64} (h : x = y) : lg_cmp x y = 0 := (lg_cmp_eq x y).mpr h
theorem ls_L_152 : gq_LSW "GraphlineLaw" 152 mL_go 3 := ⟨gq_t2 (i := 17) rfl rfl, gq_t2 (i := 18) rfl rfl, gq_t1 (i := 0) rfl rfl, gq_t2 (i := 19) rfl rfl, rfl, ⟨by decide +kernel, by decide +kernel, by decide +kernel⟩⟩
theorem ls_L_167 : gq_LSW "GraphlineLaw" 167 mL_belt 4 := ⟨gq_t2 (i := 116) rfl rfl, gq_t2 (i := 117) rfl rfl, gq_t1 (i := 0) rfl rfl, gq_t2 (i := 118) rfl rfl, rfl, ⟨by decide +kernel, by decide +kernel, by decide +kernel⟩⟩
theorem ls_L_171 : gq_LSW "GraphlineLaw" 171 mL_on 4 := ⟨gq_t2 (i := 150) rfl rfl, gq_t2 (i := 151) rfl rfl, gq_t1 (i := 0) rfl rfl, gq_t2 (i := 152) rfl rfl, rfl, ⟨by decide +kernel, by decide +kernel, by decide +kernel⟩⟩
theorem ls_L_175 : gq_LSW "GraphlineLaw" 175 mL_runs 3 := ⟨gq_t2 (i := 157) rfl rfl, gq_t2 (i := 158) rfl rfl, gq_t1 (i := 0) rfl rfl, gq_t2 (i := 159) rfl rfl, rfl, ⟨by decide +kernel, by decide +kernel, by decide +kernel⟩⟩
theorem ls_L_179 : gq_LSW "GraphlineLaw" 179 mL_lot 6 := ⟨gq_t2 (i := 168) rfl rfl, gq_t2 (i := 169) rfl rfl, gq_t1 (i := 0) rfl rfl, gq_t2 (i := 170) rfl rfl, rfl, ⟨by decide +kernel, by decide +kernel, by decide +kernel⟩⟩
theorem ls_L_183 : gq_LSW "GraphlineLaw" 183 mL_kilos 3 := ⟨gq_t3 (i := 33) rfl rfl, gq_t3 (i := 34) rfl rfl, gq_t1 (i := 0) rfl rfl, gq_t3 (i := 35) rfl rfl, rfl, ⟨by decide +kernel, by decide +kernel, by decide +kernel⟩⟩
theorem ls_L_186 : gq_LSW "GraphlineLaw" 186 mL_mix 7 := ⟨gq_t3 (i := 81) rfl rfl, gq_t3 (i := 82) rfl rfl, gq_t1 (i := 0) rfl rfl, gq_t3 (i := 83) rfl rfl, rfl, ⟨by decide +kernel, by decide +kernel, by decide +kernel⟩⟩
theorem ls_L_190 : gq_LSW "GraphlineLaw" 190 mL_mixture 4 := ⟨gq_t3 (i := 125) rfl rfl, gq_t3 (i := 126) rfl rfl, gq_t1 (i := 0) rfl rfl, gq_t3 (i := 127) rfl rfl, rfl, ⟨by decide +kernel, by decide +kernel, by decide +kernel⟩⟩
theorem ls_L_194 : gq_LSW "GraphlineLaw" 194 mL_press 5 := ⟨gq_t3 (i := 138) rfl rfl, gq_t3 (i := 139) rfl rfl, gq_t1 (i := 0) rfl rfl, gq_t3 (i := 140) rfl rfl, rfl, ⟨by decide +kernel, by decide +kernel, by decide +kernel⟩⟩
theorem ls_L_198 : gq_LSW "GraphlineLaw" 198 mL_worn 3 := ⟨gq_t3 (i := 204) rfl rfl, gq_t3 (i := 205) rfl rfl, gq_t1 (i := 0) rfl rfl, gq_t3 (i := 206) rfl rfl, rfl, ⟨by decide +kernel, by decide +kernel, by decide +kernel⟩⟩
theorem ls_L_201 : gq_LSW "GraphlineLaw" 201 mL_renew 3 := ⟨gq_t3 (i := 212) rfl rfl, gq_t3 (i := 213) rfl rfl, gq_t1 (i := 0) rfl rfl, gq_t3 (i := 214) rfl rfl, rfl, ⟨by decide +kernel, by decide +kernel, by decide +kernel⟩⟩
theorem ls_L_204 : gq_LSW "GraphlineLaw" 204 mL_dry 4 := ⟨gq_t3 (i := 219) rfl rfl, gq_t3 (i := 220) rfl rfl, gq_t1 (i := 0) rfl rfl, gq_t3 (i := 221) rfl rfl, rfl, ⟨by decide +kernel, by decide +kernel, by decide +kernel⟩⟩
theorem ls_L_208 : gq_LSW "GraphlineLaw" 208 mL_fire 6 := ⟨gq_t3 (i := 233) rfl rfl, gq_t3 (i := 234) rfl rfl, gq_t1 (i := 0) rfl rfl, gq_t3 (i := 235) rfl rfl, rfl, ⟨by decide +kernel, by decide +kernel, by decide +kernel⟩⟩
theorem ls_L_212 : gq_LSW "GraphlineLaw" 212 mL_soak 4 := ⟨gq_t4 (i := 7) rfl rfl, gq_t4 (i := 8) rfl rfl, gq_t1 (i := 0) rfl rfl, gq_t4 (i := 9) rfl rfl, rfl, ⟨by decide +kernel, by decide +kernel, by decide +kernel⟩⟩
theorem ls_L_215 : gq_LSW "GraphlineLaw" 215 mL_batch 4 := ⟨gq_t4 (i := 16) rfl rfl, gq_t4 (i := 17) rfl rfl, gq_t1 (i := 0) rfl rfl, gq_t4 (i := 18) rfl rfl, rfl, ⟨by decide +kernel, by decide +kernel, by decide +kernel⟩⟩
theorem ls_L_218 : gq_LSW "GraphlineLaw" 218 mL_draw 3 := ⟨gq_t4 (i := 24) rfl rfl, gq_t4 (i := 25) rfl rfl, gq_t1 (i := 0) rfl rfl, gq_t4 (i := 26) rfl rfl, rfl, ⟨by decide +kernel, by decide +kernel, by decide +kernel⟩⟩
theorem ls_L_225 : gq_LSW "GraphlineLaw" 225 mL_slats 6 := ⟨gq_t4 (i := 37) rfl rfl, gq_t4 (i := 38) rfl rfl, gq_t1 (i := 0) rfl rfl, gq_t4 (i := 39) rfl rfl, rfl, ⟨by decide +kernel, by decide +kernel, by decide +kernel⟩⟩
theorem ls_L_228 : gq_LSW "GraphlineLaw" 228 mL_season 4 := ⟨gq_t4 (i := 82) rfl rfl, gq_t4 (i := 83) rfl rfl, gq_t1 (i := 0) rfl rfl, gq_t4 (i := 84) rfl rfl, rfl, ⟨by decide +kernel, by decide +kernel, by decide +kernel⟩⟩
theorem ls_L_231 : gq_LSW "GraphlineLaw" 231 mL_groove 4 := ⟨gq_t4 (i := 96) rfl rfl, gq_t4 (i := 97) rfl rfl, gq_t1 (i := 0) rfl rfl, gq_t4 (i := 98) rfl rfl, rfl, ⟨by decide +kernel, by decide +kernel, by decide +kernel⟩⟩
theorem ls_L_234 : gq_LSW "GraphlineLaw" 234 mL_slat 4 := ⟨gq_t4 (i := 110) rfl rfl, gq_t4 (i := 111) rfl rfl, gq_t1 (i := 0) rfl rfl, gq_t4 (i := 112) rfl rfl, rfl, ⟨by decide +kernel, by decide +kernel, by decide +kernel⟩⟩
theorem ls_L_237 : gq_LSW "GraphlineLaw" 237 mL_lay 7 := ⟨gq_t4 (i := 118) rfl rfl, gq_t4 (i := 119) rfl rfl, gq_t1 (i := 0) rfl rfl, gq_t4 (i := 120) rfl rfl, rfl, ⟨by decide +kernel, by decide +kernel, by decide +kernel⟩⟩
theorem ls_L_241 : gq_LSW "GraphlineLaw" 241 mL_coat 4 := ⟨gq_t4 (i := 190) rfl rfl, gq_t4 (i := 191) rfl rfl, gq_t1 (i := 0) rfl rfl, gq_t4 (i := 192) rfl rfl, rfl, ⟨by decide +kernel, by decide +kernel, by decide +kernel⟩⟩
theorem ls_L_244 : gq_LSW "GraphlineLaw" 244 mL_stamp 3 := ⟨gq_t4 (i := 205) rfl rfl, gq_t4 (i := 206) rfl rfl, gq_t1 (i := 0) rfl rfl, gq_t4 (i := 207) rfl rfl, rfl, ⟨by decide +kernel, by decide +kernel, by decide +kernel⟩⟩
theorem ls_L_247 : gq_LSW "GraphlineLaw" 247 mL_erase 4 := ⟨gq_t4 (i := 221) rfl rfl, gq_t4 (i := 222) rfl rfl, gq_t1 (i := 0) rfl rfl, gq_t4 (i := 223) rfl rfl, rfl, ⟨by decide +kernel, by decide +kernel, by decide +kernel⟩⟩
theorem ls_L_250 : gq_LSW "GraphlineLaw" 250 mL_run 4 := ⟨gq_t4 (i := 230) rfl rfl, gq_t4 (i := 231) rfl rfl, gq_t1 (i := 0) rfl rfl, gq_t4 (i := 232) rfl rfl, rfl, ⟨by decide +kernel, by decide +kernel, by decide +kernel⟩⟩
theorem ls_L_253 : gq_LSW "GraphlineLaw" 253 mL_fall 4 := ⟨gq_t4 (i := 238) rfl rfl, gq_t4 (i := 239) rfl rfl, gq_t1 (i := 0) rfl rfl, gq_t5 (i := 0) rfl rfl, rfl, ⟨by decide +kernel, by decide +kernel, by decide +kernel⟩⟩
theorem ls_L_256 : gq_LSW "GraphlineLaw" 256 mL_sample 4 := ⟨gq_t5 (i := 6) rfl rfl, gq_t5 (i := 7) rfl rfl, gq_t1 (i := 0) rfl rfl, gq_t5 (i := 8) rfl rfl, rfl, ⟨by decide +kernel, by decide +kernel, by decide +kernel⟩⟩
theorem ls_L_259 : gq_LSW "GraphlineLaw" 259 mL_seed 3 := ⟨gq_t5 (i := 17) rfl rfl, gq_t5 (i := 18) rfl rfl, gq_t1 (i := 0) rfl rfl, gq_t5 (i := 19) rfl rfl, rfl, ⟨by decide +kernel, by decide +kernel, by decide +kernel⟩⟩
theorem ls_L_262 : gq_LSW "GraphlineLaw" 262 mL_gross 3 := ⟨gq_t5 (i := 26) rfl rfl, gq_t5 (i := 27) rfl rfl, gq_t1 (i := 0) rfl rfl, gq_t5 (i := 28) rfl rfl, rfl, ⟨by decide +kernel, by decide +kernel, by decide +kernel⟩⟩
theorem ls_L_265 : gq_LSW "GraphlineLaw" 265 mL_pack 5 := ⟨gq_t5 (i := 59) rfl rfl, gq_t5 (i := 60) rfl rfl, gq_t1 (i := 0) rfl rfl, gq_t5 (i := 61) rfl rfl, rfl, ⟨by decide +kernel, by decide +kernel, by decide +kernel⟩⟩
theorem ls_L_268 : gq_LSW "GraphlineLaw" 268 mL_order 5 := ⟨gq_t5 (i := 92) rfl rfl, gq_t5 (i := 93) rfl rfl, gq_t1 (i := 0) rfl rfl, gq_t5 (i := 94) rfl rfl, rfl, ⟨by decide +kernel, by decide +kernel, by decide +kernel⟩⟩
theorem ls_L_271 : gq_LSW "GraphlineLaw" 271 mL_ship 4 := ⟨gq_t5 (i := 125) rfl rfl, gq_t5 (i := 126) rfl rfl, gq_t1 (i := 0) rfl rfl, gq_t5 (i := 127) rfl rfl, rfl, ⟨by decide +kernel, by decide +kernel, by decide +kernel⟩⟩
theorem ls_L_274 : gq_LSW "GraphlineLaw" 274 mL_isLate 3 := ⟨gq_t5 (i := 139) rfl rfl, gq_t5 (i := 140) rfl rfl, gq_t1 (i := 0) rfl rfl, gq_t5 (i := 141) rfl rfl, rfl, ⟨by decide +kernel, by decide +kernel, by decide +kernel⟩⟩
theorem ls_L_277 : gq_LSW "GraphlineLaw" 277 mL_claim 3 := ⟨gq_t5 (i := 146) rfl rfl, gq_t5 (i := 147) rfl rfl, gq_t1 (i := 0) rfl rfl, gq_t5 (i := 148) rfl rfl, rfl, ⟨by decide +kernel, by decide +kernel, by decide +kernel⟩⟩
theorem ls_L_280 : gq_LSW "GraphlineLaw" 280 mL_parts 3 := ⟨gq_t5 (i := 153) rfl rfl, gq_t5 (i := 154) rfl rfl, gq_t1 (i := 0) rfl rfl, gq_t5 (i := 155) rfl rfl, rfl, ⟨by decide +kernel, by decide +kernel, by decide +kernel⟩⟩
theorem ls_L_283 : gq_LSW "GraphlineLaw" 283 mL_trace 5 := ⟨gq_t5 (i := 160) rfl rfl, gq_t5 (i := 161) rfl rfl, gq_t1 (i := 0) rfl rfl, gq_t5 (i := 162) rfl rfl, rfl, ⟨by decide +kernel, by decide +kernel, by decide +kernel⟩⟩
theorem ls_L_296 : gq_LSW "GraphlineLaw" 296 mL_brokenShare 2 := ⟨gq_t5 (i := 172) rfl rfl, gq_t5 (i := 173) rfl rfl, gq_t1 (i := 0) rfl rfl, gq_t5 (i := 174) rfl rfl, rfl, ⟨by decide +kernel, by decide +kernel, by decide +kernel⟩⟩
theorem ls_L_300 : gq_LSW "GraphlineLaw" 300 mL_meanDarkness 2 := ⟨gq_t5 (i := 196) rfl rfl, gq_t5 (i := 197) rfl rfl, gq_t1 (i := 0) rfl rfl, gq_t5 (i := 198) rfl rfl, rfl, ⟨by decide +kernel, by decide +kernel, by decide +kernel⟩⟩
end Z41
