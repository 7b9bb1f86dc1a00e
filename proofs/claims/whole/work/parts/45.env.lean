
section Z45
theorem gA1 {a b : Cond} {args : Array Value} {s : State} (h : (Cond.and a b).before args s = true) : a.before args s = true := by
  rw [Cond.before_and, Bool.and_eq_true] at h
  exact h.1
theorem gA2 {a b : Cond} {args : Array Value} {s : State} (h : (Cond.and a b).before args s = true) : b.before args s = true := by
  rw [Cond.before_and, Bool.and_eq_true] at h
  exact h.2
theorem gl_t1 {w : Cond} {i : Nat} (h : tables_1_1[i]? = some w) : w ∈ lw_tbl := gq_tt (List.mem_append_left _ (List.mem_of_getElem? h))
theorem gl_t2 {w : Cond} {i : Nat} (h : tables_1_2[i]? = some w) : w ∈ lw_tbl := gq_tt (List.mem_append_right _ (List.mem_append_left _ (List.mem_of_getElem? h)))
theorem gl_t3 {w : Cond} {i : Nat} (h : tables_1_3[i]? = some w) : w ∈ lw_tbl := gq_tt (List.mem_append_right _ (List.mem_append_right _ (List.mem_append_left _ (List.mem_of_getElem? h))))
theorem gl_t4 {w : Cond} {i : Nat} (h : tables_1_4[i]? = some w) : w ∈ lw_tbl := gq_tt (List.mem_append_right _ (List.mem_append_right _ (List.mem_append_right _ (List.mem_append_left _ (List.mem_of_getElem? h)))))
theorem gl_t5 {w : Cond} {i : Nat} (h : tables_1_5[i]? = some w) : w ∈ lw_tbl := gq_tt (List.mem_append_right _ (List.mem_append_right _ (List.mem_append_right _ (List.mem_append_right _ (List.mem_append_left _ (List.mem_of_getElem? h))))))
theorem gl_t6 {w : Cond} {i : Nat} (h : tables_1_6[i]? = some w) : w ∈ lw_tbl := gq_tt (List.mem_append_right _ (List.mem_append_right _ (List.mem_append_right _ (List.mem_append_right _ (List.mem_append_right _ (List.mem_append_left _ (List.mem_of_getElem? h)))))))
theorem gl_t7 {w : Cond} {i : Nat} (h : tables_1_7[i]? = some w) : w ∈ lw_tbl := gq_tt (List.mem_append_right _ (List.mem_append_right _ (List.mem_append_right _ (List.mem_append_right _ (List.mem_append_right _ (List.mem_append_right _ (List.mem_append_left _ (List.mem_of_getElem? h))))))))
theorem gl_t8 {w : Cond} {i : Nat} (h : tables_1_8[i]? = some w) : w ∈ lw_tbl := gq_tt (List.mem_append_right _ (List.mem_append_right _ (List.mem_append_right _ (List.mem_append_right _ (List.mem_append_right _ (List.mem_append_right _ (List.mem_append_right _ (List.mem_of_getElem? h))))))))

variable {s : State} {b : Nat}
def gEn (s : State) (b : Nat) : Prop := (∀ w ∈ lw_tbl, w.before #[Value.ref b] s = true) ∧ (Cond.and given_1 narrow_1).before #[Value.ref b] s = true
theorem gEn.ws (h : gEn s b) : ∀ w ∈ gq_ws, w.before #[Value.ref b] s = true := fun w hw => h.1 w (List.mem_filter.mp hw).1
theorem env_nf (he : gEn s b) : ∀ t ∈ gq_nf, va_Nw (.fieldLinkNest t.1 t.2.1 t.2.2.1 t.2.2.2.1 t.2.2.2.2.1 t.2.2.2.2.2) s := by
  have hts := he.1
  exact List.forall_mem_cons.mpr ⟨va_Nw.of rfl (hts _ (gl_t1 (i := 126) rfl)), List.forall_mem_cons.mpr ⟨va_Nw.of rfl (hts _ (gl_t6 (i := 232) rfl)), List.forall_mem_cons.mpr ⟨va_Nw.of rfl (hts _ (gl_t6 (i := 233) rfl)), List.forall_mem_cons.mpr ⟨va_Nw.of rfl (hts _ (gl_t6 (i := 234) rfl)), List.forall_mem_cons.mpr ⟨va_Nw.of rfl (hts _ (gl_t6 (i := 235) rfl)), List.forall_mem_cons.mpr ⟨va_Nw.of rfl (hts _ (gl_t6 (i := 236) rfl)), List.forall_mem_cons.mpr ⟨va_Nw.of rfl (hts _ (gl_t6 (i := 237) rfl)), List.forall_mem_cons.mpr ⟨va_Nw.of rfl (hts _ (gl_t6 (i := 239) rfl)), List.forall_mem_cons.mpr ⟨va_Nw.of rfl (hts _ (gl_t7 (i := 0) rfl)), List.forall_mem_cons.mpr ⟨va_Nw.of rfl (hts _ (gl_t7 (i := 1) rfl)), List.forall_mem_cons.mpr ⟨va_Nw.of rfl (hts _ (gl_t7 (i := 2) rfl)), List.forall_mem_cons.mpr ⟨va_Nw.of rfl (hts _ (gl_t7 (i := 3) rfl)), List.forall_mem_cons.mpr ⟨va_Nw.of rfl (hts _ (gl_t7 (i := 91) rfl)), List.forall_mem_cons.mpr ⟨va_Nw.of rfl (hts _ (gl_t7 (i := 92) rfl)), List.forall_mem_cons.mpr ⟨va_Nw.of rfl (hts _ (gl_t7 (i := 93) rfl)), List.forall_mem_cons.mpr ⟨va_Nw.of rfl (hts _ (gl_t7 (i := 94) rfl)), List.forall_mem_cons.mpr ⟨va_Nw.of rfl (hts _ (gl_t7 (i := 95) rfl)), List.forall_mem_cons.mpr ⟨va_Nw.of rfl (hts _ (gl_t7 (i := 96) rfl)), List.forall_mem_cons.mpr ⟨va_Nw.of rfl (hts _ (gl_t7 (i := 141) rfl)), List.forall_mem_cons.mpr ⟨va_Nw.of rfl (hts _ (gl_t7 (i := 142) rfl)), List.forall_mem_cons.mpr ⟨va_Nw.of rfl (hts _ (gl_t7 (i := 143) rfl)), List.forall_mem_cons.mpr ⟨va_Nw.of rfl (hts _ (gl_t7 (i := 144) rfl)), List.forall_mem_cons.mpr ⟨va_Nw.of rfl (hts _ (gl_t7 (i := 145) rfl)), List.forall_mem_cons.mpr ⟨va_Nw.of rfl (hts _ (gl_t7 (i := 146) rfl)), List.forall_mem_cons.mpr ⟨va_Nw.of rfl (hts _ (gl_t7 (i := 147) rfl)), List.forall_mem_cons.mpr ⟨va_Nw.of rfl (hts _ (gl_t7 (i := 148) rfl)), List.forall_mem_cons.mpr ⟨va_Nw.of rfl (hts _ (gl_t7 (i := 150) rfl)), List.forall_mem_cons.mpr ⟨va_Nw.of rfl (hts _ (gl_t7 (i := 152) rfl)), List.forall_mem_cons.mpr ⟨va_Nw.of rfl (hts _ (gl_t7 (i := 153) rfl)), List.forall_mem_cons.mpr ⟨va_Nw.of rfl (hts _ (gl_t7 (i := 226) rfl)), List.forall_mem_cons.mpr ⟨va_Nw.of rfl (hts _ (gl_t7 (i := 228) rfl)), List.forall_mem_cons.mpr ⟨va_Nw.of rfl (hts _ (gl_t7 (i := 229) rfl)), fun _ z => absurd z List.not_mem_nil⟩⟩⟩⟩⟩⟩⟩⟩⟩⟩⟩⟩⟩⟩⟩⟩⟩⟩⟩⟩⟩⟩⟩⟩⟩⟩⟩⟩⟩⟩⟩⟩
theorem env_nm (he : gEn s b) : ∀ t ∈ gq_nm, va_Nw (.methodLinkNest t.1 t.2.1 t.2.2.1 t.2.2.2) s := by
  have hts := he.1
  exact List.forall_mem_cons.mpr ⟨va_Nw.of rfl (hts _ (gl_t1 (i := 51) rfl)), List.forall_mem_cons.mpr ⟨va_Nw.of rfl (hts _ (gl_t1 (i := 99) rfl)), List.forall_mem_cons.mpr ⟨va_Nw.of rfl (hts _ (gl_t4 (i := 36) rfl)), List.forall_mem_cons.mpr ⟨va_Nw.of rfl (hts _ (gl_t6 (i := 228) rfl)), List.forall_mem_cons.mpr ⟨va_Nw.of rfl (hts _ (gl_t7 (i := 87) rfl)), List.forall_mem_cons.mpr ⟨va_Nw.of rfl (hts _ (gl_t7 (i := 137) rfl)), List.forall_mem_cons.mpr ⟨va_Nw.of rfl (hts _ (gl_t7 (i := 220) rfl)), fun _ z => absurd z List.not_mem_nil⟩⟩⟩⟩⟩⟩⟩
theorem env_ca (he : gEn s b) : ∀ t ∈ gq_ca, va_Nw (.castable t.1 t.2) s := by
  have hts := he.1
  exact List.forall_mem_cons.mpr ⟨va_Nw.of rfl (hts _ (gl_t2 (i := 31) rfl)), List.forall_mem_cons.mpr ⟨va_Nw.of rfl (hts _ (gl_t2 (i := 102) rfl)), List.forall_mem_cons.mpr ⟨va_Nw.of rfl (hts _ (gl_t2 (i := 136) rfl)), List.forall_mem_cons.mpr ⟨va_Nw.of rfl (hts _ (gl_t3 (i := 51) rfl)), List.forall_mem_cons.mpr ⟨va_Nw.of rfl (hts _ (gl_t3 (i := 70) rfl)), List.forall_mem_cons.mpr ⟨va_Nw.of rfl (hts _ (gl_t5 (i := 187) rfl)), List.forall_mem_cons.mpr ⟨va_Nw.of rfl (hts _ (gl_t6 (i := 180) rfl)), List.forall_mem_cons.mpr ⟨va_Nw.of rfl (hts _ (gl_t8 (i := 38) rfl)), List.forall_mem_cons.mpr ⟨va_Nw.of rfl (hts _ (gl_t8 (i := 119) rfl)), List.forall_mem_cons.mpr ⟨va_Nw.of rfl (hts _ (gl_t8 (i := 120) rfl)), List.forall_mem_cons.mpr ⟨va_Nw.of rfl (hts _ (gl_t8 (i := 121) rfl)), List.forall_mem_cons.mpr ⟨va_Nw.of rfl (hts _ (gl_t8 (i := 122) rfl)), List.forall_mem_cons.mpr ⟨va_Nw.of rfl (hts _ (gl_t8 (i := 123) rfl)), List.forall_mem_cons.mpr ⟨va_Nw.of rfl (hts _ (gl_t8 (i := 124) rfl)), List.forall_mem_cons.mpr ⟨va_Nw.of rfl (hts _ (gl_t8 (i := 125) rfl)), List.forall_mem_cons.mpr ⟨va_Nw.of rfl (hts _ (gl_t8 (i := 126) rfl)), List.forall_mem_cons.mpr ⟨va_Nw.of rfl (hts _ (gl_t8 (i := 127) rfl)), List.forall_mem_cons.mpr ⟨va_Nw.of rfl (hts _ (gl_t8 (i := 128) rfl)), List.forall_mem_cons.mpr ⟨va_Nw.of rfl (hts _ (gl_t8 (i := 129) rfl)), List.forall_mem_cons.mpr ⟨va_Nw.of rfl (hts _ (gl_t8 (i := 130) rfl)), List.forall_mem_cons.mpr ⟨va_Nw.of rfl (hts _ (gl_t8 (i := 131) rfl)), List.forall_mem_cons.mpr ⟨va_Nw.of rfl (hts _ (gl_t8 (i := 132) rfl)), List.forall_mem_cons.mpr ⟨va_Nw.of rfl (hts _ (gl_t8 (i := 133) rfl)), List.forall_mem_cons.mpr ⟨va_Nw.of rfl (hts _ (gl_t8 (i := 134) rfl)), List.forall_mem_cons.mpr ⟨va_Nw.of rfl (hts _ (gl_t8 (i := 135) rfl)), List.forall_mem_cons.mpr ⟨va_Nw.of rfl (hts _ (gl_t8 (i := 136) rfl)), List.forall_mem_cons.mpr ⟨va_Nw.of rfl (hts _ (gl_t8 (i := 137) rfl)), List.forall_mem_cons.mpr ⟨va_Nw.of rfl (hts _ (gl_t8 (i := 138) rfl)), List.forall_mem_cons.mpr ⟨va_Nw.of rfl (hts _ (gl_t8 (i := 139) rfl)), List.forall_mem_cons.mpr ⟨va_Nw.of rfl (hts _ (gl_t8 (i := 140) rfl)), List.forall_mem_cons.mpr ⟨va_Nw.of rfl (hts _ (gl_t8 (i := 141) rfl)), List.forall_mem_cons.mpr ⟨va_Nw.of rfl (hts _ (gl_t8 (i := 142) rfl)), List.forall_mem_cons.mpr ⟨va_Nw.of rfl (hts _ (gl_t8 (i := 143) rfl)), List.forall_mem_cons.mpr ⟨va_Nw.of rfl (hts _ (gl_t8 (i := 144) rfl)), List.forall_mem_cons.mpr ⟨va_Nw.of rfl (hts _ (gl_t8 (i := 145) rfl)), List.forall_mem_cons.mpr ⟨va_Nw.of rfl (hts _ (gl_t8 (i := 146) rfl)), List.forall_mem_cons.mpr ⟨va_Nw.of rfl (hts _ (gl_t8 (i := 150) rfl)), List.forall_mem_cons.mpr ⟨va_Nw.of rfl (hts _ (gl_t8 (i := 151) rfl)), List.forall_mem_cons.mpr ⟨va_Nw.of rfl (hts _ (gl_t8 (i := 152) rfl)), List.forall_mem_cons.mpr ⟨va_Nw.of rfl (hts _ (gl_t8 (i := 153) rfl)), List.forall_mem_cons.mpr ⟨va_Nw.of rfl (hts _ (gl_t8 (i := 154) rfl)), List.forall_mem_cons.mpr ⟨va_Nw.of rfl (hts _ (gl_t8 (i := 155) rfl)), fun _ z => absurd z List.not_mem_nil⟩⟩⟩⟩⟩⟩⟩⟩⟩⟩⟩⟩⟩⟩⟩⟩⟩⟩⟩⟩⟩⟩⟩⟩⟩⟩⟩⟩⟩⟩⟩⟩⟩⟩⟩⟩⟩⟩⟩⟩⟩⟩
theorem env_de (he : gEn s b) : ∀ t ∈ gq_de, va_Nw (.declares t) s := by
  have hts := he.1
  exact List.forall_mem_cons.mpr ⟨va_Nw.of rfl (hts _ (gl_t2 (i := 32) rfl)), List.forall_mem_cons.mpr ⟨va_Nw.of rfl (hts _ (gl_t2 (i := 33) rfl)), List.forall_mem_cons.mpr ⟨va_Nw.of rfl (hts _ (gl_t2 (i := 34) rfl)), List.forall_mem_cons.mpr ⟨va_Nw.of rfl (hts _ (gl_t2 (i := 35) rfl)), List.forall_mem_cons.mpr ⟨va_Nw.of rfl (hts _ (gl_t2 (i := 36) rfl)), List.forall_mem_cons.mpr ⟨va_Nw.of rfl (hts _ (gl_t2 (i := 37) rfl)), List.forall_mem_cons.mpr ⟨va_Nw.of rfl (hts _ (gl_t3 (i := 52) rfl)), List.forall_mem_cons.mpr ⟨va_Nw.of rfl (hts _ (gl_t3 (i := 53) rfl)), List.forall_mem_cons.mpr ⟨va_Nw.of rfl (hts _ (gl_t6 (i := 179) rfl)), List.forall_mem_cons.mpr ⟨va_Nw.of rfl (hts _ (gl_t6 (i := 187) rfl)), List.forall_mem_cons.mpr ⟨va_Nw.of rfl (hts _ (gl_t6 (i := 205) rfl)), List.forall_mem_cons.mpr ⟨va_Nw.of rfl (hts _ (gl_t8 (i := 9) rfl)), List.forall_mem_cons.mpr ⟨va_Nw.of rfl (hts _ (gl_t8 (i := 37) rfl)), List.forall_mem_cons.mpr ⟨va_Nw.of rfl (hts _ (gl_t8 (i := 47) rfl)), List.forall_mem_cons.mpr ⟨va_Nw.of rfl (hts _ (gl_t8 (i := 149) rfl)), fun _ z => absurd z List.not_mem_nil⟩⟩⟩⟩⟩⟩⟩⟩⟩⟩⟩⟩⟩⟩⟩
theorem env_fw (he : gEn s b) : ∀ t ∈ gq_fw, va_Fw t.1 t.2.1 t.2.2 s := by
  have hts := he.1
  exact List.forall_mem_cons.mpr ⟨va_Fw.of (hts _ (gl_t6 (i := 179) rfl)) (hts _ (gl_t6 (i := 178) rfl)) (hts _ (gl_t6 (i := 183) rfl)) (hts _ (gl_t6 (i := 182) rfl)) (hts _ (gl_t6 (i := 180) rfl)), List.forall_mem_cons.mpr ⟨va_Fw.of (hts _ (gl_t6 (i := 205) rfl)) (hts _ (gl_t6 (i := 204) rfl)) (hts _ (gl_t6 (i := 208) rfl)) (hts _ (gl_t6 (i := 207) rfl)) (hts _ (gl_t6 (i := 180) rfl)), List.forall_mem_cons.mpr ⟨va_Fw.of (hts _ (gl_t6 (i := 187) rfl)) (hts _ (gl_t6 (i := 186) rfl)) (hts _ (gl_t6 (i := 190) rfl)) (hts _ (gl_t6 (i := 189) rfl)) (hts _ (gl_t6 (i := 180) rfl)), List.forall_mem_cons.mpr ⟨va_Fw.of (hts _ (gl_t8 (i := 9) rfl)) (hts _ (gl_t8 (i := 8) rfl)) (hts _ (gl_t8 (i := 13) rfl)) (hts _ (gl_t8 (i := 11) rfl)) (hts _ (gl_t6 (i := 180) rfl)), List.forall_mem_cons.mpr ⟨va_Fw.of (hts _ (gl_t8 (i := 37) rfl)) (hts _ (gl_t8 (i := 36) rfl)) (hts _ (gl_t8 (i := 42) rfl)) (hts _ (gl_t8 (i := 40) rfl)) (hts _ (gl_t8 (i := 38) rfl)), List.forall_mem_cons.mpr ⟨va_Fw.of (hts _ (gl_t8 (i := 47) rfl)) (hts _ (gl_t8 (i := 46) rfl)) (hts _ (gl_t8 (i := 51) rfl)) (hts _ (gl_t8 (i := 49) rfl)) (hts _ (gl_t8 (i := 38) rfl)), fun _ z => absurd z List.not_mem_nil⟩⟩⟩⟩⟩⟩
theorem env_nc (he : gEn s b) : ∀ t ∈ gq_nc, va_Nc t.1 t.2 s := by
  have hn := gA2 he.2
  have n1 : narrow_1_1.before #[Value.ref b] s = true := (gA1 (gA1 hn))
  have n2 : narrow_1_2.before #[Value.ref b] s = true := (gA1 (gA2 (gA1 hn)))
  have n3 : narrow_1_3.before #[Value.ref b] s = true := (gA2 (gA2 (gA1 hn)))
  have n4 : narrow_1_4.before #[Value.ref b] s = true := (gA1 (gA1 (gA2 hn)))
  have n5 : narrow_1_5.before #[Value.ref b] s = true := (gA2 (gA1 (gA2 hn)))
  have n6 : narrow_1_6.before #[Value.ref b] s = true := (gA1 (gA2 (gA2 hn)))
  have n7 : narrow_1_7.before #[Value.ref b] s = true := (gA2 (gA2 (gA2 hn)))
  exact List.forall_mem_cons.mpr ⟨va_Nc.of (gA1 (gA2 (gA1 (gA2 (gA2 (gA1 (gA1 (gA1 (gA1 n1))))))))), List.forall_mem_cons.mpr ⟨va_Nc.of (gA2 (gA2 (gA1 (gA2 (gA2 (gA1 (gA1 (gA1 (gA1 n1))))))))), List.forall_mem_cons.mpr ⟨va_Nc.of (gA1 (gA2 (gA2 (gA2 (gA2 (gA1 (gA1 (gA1 (gA1 n1))))))))), List.forall_mem_cons.mpr ⟨va_Nc.of (gA2 (gA2 (gA2 (gA2 (gA1 (gA2 (gA1 (gA1 (gA1 n1))))))))), List.forall_mem_cons.mpr ⟨va_Nc.of (gA1 (gA1 (gA2 (gA2 (gA2 (gA1 (gA1 (gA1 n1)))))))), List.forall_mem_cons.mpr ⟨va_Nc.of (gA1 (gA2 (gA1 (gA2 (gA2 (gA2 (gA1 (gA1 (gA1 n1))))))))), List.forall_mem_cons.mpr ⟨va_Nc.of (gA2 (gA1 (gA2 (gA2 (gA2 (gA2 (gA1 (gA1 (gA1 n1))))))))), List.forall_mem_cons.mpr ⟨va_Nc.of (gA1 (gA2 (gA2 (gA2 (gA1 (gA1 (gA2 (gA1 (gA1 n1))))))))), List.forall_mem_cons.mpr ⟨va_Nc.of (gA2 (gA2 (gA2 (gA1 (gA2 (gA1 (gA2 (gA1 (gA1 n1))))))))), List.forall_mem_cons.mpr ⟨va_Nc.of (gA1 (gA1 (gA2 (gA2 (gA1 (gA2 (gA1 (gA1 n1)))))))), List.forall_mem_cons.mpr ⟨va_Nc.of (gA1 (gA1 (gA2 (gA2 (gA2 (gA1 (gA2 (gA1 (gA1 n1))))))))), List.forall_mem_cons.mpr ⟨va_Nc.of (gA1 (gA2 (gA2 (gA1 (gA2 (gA2 (gA1 (gA1 n1)))))))), List.forall_mem_cons.mpr ⟨va_Nc.of (gA1 (gA2 (gA2 (gA1 (gA2 (gA2 (gA2 (gA1 (gA1 n1))))))))), List.forall_mem_cons.mpr ⟨va_Nc.of (gA2 (gA2 (gA2 (gA1 (gA2 (gA2 (gA2 (gA1 (gA1 n1))))))))), List.forall_mem_cons.mpr ⟨va_Nc.of (gA1 (gA1 (gA2 (gA2 (gA2 (gA2 (gA1 (gA1 n1)))))))), List.forall_mem_cons.mpr ⟨va_Nc.of (gA1 (gA2 (gA1 (gA2 (gA1 (gA1 (gA1 (gA2 (gA1 n1))))))))), List.forall_mem_cons.mpr ⟨va_Nc.of (gA2 (gA2 (gA1 (gA1 (gA2 (gA1 (gA1 (gA2 (gA1 n1))))))))), List.forall_mem_cons.mpr ⟨va_Nc.of (gA1 (gA2 (gA1 (gA2 (gA1 (gA1 (gA2 (gA1 n1)))))))), List.forall_mem_cons.mpr ⟨va_Nc.of (gA1 (gA2 (gA2 (gA1 (gA2 (gA1 (gA1 (gA2 (gA1 n1))))))))), List.forall_mem_cons.mpr ⟨va_Nc.of (gA1 (gA2 (gA1 (gA2 (gA2 (gA1 (gA1 (gA2 (gA1 n1))))))))), fun _ z => absurd z List.not_mem_nil⟩⟩⟩⟩⟩⟩⟩⟩⟩⟩⟩⟩⟩⟩⟩⟩⟩⟩⟩⟩
theorem usJ0 : ∀ w ∈ u_ws RJ0 TJ0 2, w ∈ gq_ws := gq_us (fun k hk => by
  rcases (show k = 0 ∨ k = 1 by omega) with rfl | rfl
  · exact gq_t3 (i := 56) rfl rfl
  · exact gq_t3 (i := 58) rfl rfl)
theorem usJx00060 : ∀ w ∈ u_ws RJx00060 TJx00060 6, w ∈ gq_ws := gq_us (fun k hk => by
  rcases (show k = 0 ∨ k = 1 ∨ k = 2 ∨ k = 3 ∨ k = 4 ∨ k = 5 by omega) with rfl | rfl | rfl | rfl | rfl | rfl
  · exact gq_t3 (i := 44) rfl rfl
  · exact gq_t3 (i := 45) rfl rfl
  · exact gq_t3 (i := 46) rfl rfl
  · exact gq_t3 (i := 47) rfl rfl
  · exact gq_t3 (i := 48) rfl rfl
  · exact gq_t3 (i := 49) rfl rfl)
theorem gkn {r : vw_C} (h : ∃ (cC : ClassId) (iS : Nat → Nat), u_Kn s r.1 r.2.1 r.2.2 cC iS) : ∃ q : ClassId × (Nat → Nat), u_Kn s r.1 r.2.1 r.2.2 q.1 q.2 := h.elim fun c h => h.elim fun i h => ⟨(c, i), h⟩
theorem env_cl (he : gEn s b) : ∃ D : va_G, ∀ (c : Nat) (q : vw_C), vwCl[c]? = some q → u_Kn s q.1 q.2.1 q.2.2 (D.1 c) (D.2 c) := by
  have hts := he.1
  have h0 : ∀ r ∈ vwCl, ∃ q : ClassId × (Nat → Nat), u_Kn s r.1 r.2.1 r.2.2 q.1 q.2 := List.forall_mem_cons.mpr ⟨gkn (r := (RJ0, TJ0, 2)) (u_known he.ws usJ0 (hts _ (gl_t3 (i := 55) rfl))), List.forall_mem_cons.mpr ⟨gkn (r := (RJx00060, TJx00060, 6)) (u_known he.ws usJx00060 (hts _ (gl_t3 (i := 37) rfl))), List.forall_mem_cons.mpr ⟨gkn (r := (RJx35411, TJx35411, 4)) (u_known he.ws usJx35411 (hts _ (gl_t8 (i := 16) rfl))), List.forall_mem_cons.mpr ⟨gkn (r := (RJx4a65c, TJx4a65c, 3)) (u_known he.ws usJx4a65c (hts _ (gl_t1 (i := 111) rfl))), List.forall_mem_cons.mpr ⟨gkn (r := (RX0, TX0, 12)) (u_known he.ws usX0 (hts _ (gl_t3 (i := 150) rfl))), List.forall_mem_cons.mpr ⟨gkn (r := (RX1, TX1, 5)) (u_known he.ws usX1 (hts _ (gl_t1 (i := 50) rfl))), List.forall_mem_cons.mpr ⟨gkn (r := (RX2, TX2, 4)) (u_known he.ws usX2 (hts _ (gl_t5 (i := 35) rfl))), List.forall_mem_cons.mpr ⟨gkn (r := (RX3, TX3, 4)) (u_known he.ws usX3 (hts _ (gl_t2 (i := 179) rfl))), List.forall_mem_cons.mpr ⟨gkn (r := (RX4, TX4, 3)) (u_known he.ws usX4 (hts _ (gl_t1 (i := 56) rfl))), List.forall_mem_cons.mpr ⟨gkn (r := (RX5, TX5, 5)) (u_known he.ws usX5 (hts _ (gl_t3 (i := 99) rfl))), List.forall_mem_cons.mpr ⟨gkn (r := (RX6, TX6, 4)) (u_known he.ws usX6 (hts _ (gl_t5 (i := 103) rfl))), List.forall_mem_cons.mpr ⟨gkn (r := (RX7, TX7, 3)) (u_known he.ws usX7 (hts _ (gl_t5 (i := 74) rfl))), List.forall_mem_cons.mpr ⟨gkn (r := (RX8, TX8, 12)) (u_known he.ws usX8 (hts _ (gl_t4 (i := 136) rfl))), List.forall_mem_cons.mpr ⟨gkn (r := (RX9, TX9, 7)) (u_known he.ws usX9 (hts _ (gl_t4 (i := 48) rfl))), List.forall_mem_cons.mpr ⟨gkn (r := (RX10, TX10, 2)) (u_known he.ws usX10 (hts _ (gl_t1 (i := 98) rfl))), List.forall_mem_cons.mpr ⟨gkn (r := (RX11, TX11, 16)) (u_known he.ws usX11 (hts _ (gl_t1 (i := 42) rfl))), List.forall_mem_cons.mpr ⟨gkn (r := (RX12, TX12, 11)) (u_known he.ws usX12 (hts _ (gl_t6 (i := 227) rfl))), List.forall_mem_cons.mpr ⟨gkn (r := (RX13, TX13, 3)) (u_known he.ws usX13 (hts _ (gl_t7 (i := 219) rfl))), List.forall_mem_cons.mpr ⟨gkn (r := (RX14, TX14, 11)) (u_known he.ws usX14 (hts _ (gl_t7 (i := 136) rfl))), List.forall_mem_cons.mpr ⟨gkn (r := (RX15, TX15, 6)) (u_known he.ws usX15 (hts _ (gl_t7 (i := 86) rfl))), List.forall_mem_cons.mpr ⟨gkn (r := (RX16, TX16, 18)) (u_known he.ws usX16 (hts _ (gl_t5 (i := 209) rfl))), fun _ z => absurd z List.not_mem_nil⟩⟩⟩⟩⟩⟩⟩⟩⟩⟩⟩⟩⟩⟩⟩⟩⟩⟩⟩⟩⟩
  have h1 : ∀ c : Nat, ∃ q : ClassId × (Nat → Nat), ∀ r : vw_C, vwCl[c]? = some r → u_Kn s r.1 r.2.1 r.2.2 q.1 q.2 := fun c => by
    by_cases hc : ∃ r : vw_C, vwCl[c]? = some r
    · obtain ⟨r, hr⟩ := hc
      obtain ⟨q, hq⟩ := h0 r (List.mem_of_getElem? hr)
      exact ⟨q, fun r' hr' => (Option.some.inj (hr.symm.trans hr')) ▸ hq⟩
    · exact ⟨(0, fun _ => 0), fun r hr => absurd ⟨r, hr⟩ hc⟩
  obtain ⟨D, hD⟩ := Classical.axiomOfChoice h1
  exact ⟨(fun c => (D c).1, fun c => (D c).2), hD⟩
theorem gar {ty : FieldType} {args : Array Value} (h : (Cond.arrayClass ty).before args s = true) (ho : ∀ C, ty ≠ .object C) (hr : ∀ c : ClassId, s.vm.findClass ("[" ++ ty.toString) = some c → va_RA s c ty) : ∃ c : ClassId, ArrOfT s c ty ∧ va_RA s c ty := by
  obtain ⟨c, k, comp, h1, h2, h3⟩ := Cond.arrayClass_spec h
  exact ⟨c, fun n z => ⟨fun k' h' => (by cases h'), k, h2, comp, h3⟩, hr c h1⟩
theorem gao {C : String} {args : Array Value} (h : (Cond.arrayOver (.object C)).before args s = true) : ∃ c : ClassId, ArrOfT s c (.object C) ∧ va_RA s c (.object C) := by
  obtain ⟨comp, c, k, h1, h2, h3, h4, h5⟩ := Cond.arrayOver_spec h
  exact ⟨c, fun N z => ⟨(fun k h => by cases h), k, h3, comp, h4⟩, k, comp, h3, h4, h1, h5⟩
def ga5 (c0 c1 c2 c3 c4 : ClassId) : Nat → ClassId
  | 0 => c0
  | 1 => c1
  | 2 => c2
  | 3 => c3
  | _ => c4
theorem env_ar (he : gEn s b) : ∃ d : Nat → ClassId, ∀ q ∈ ([(d 0, .int), (d 1, .long), (d 2, .double), (d 3, .boolean), (d 4, .object "java/lang/Object")] : List (ClassId × FieldType)), ArrOfT s q.1 q.2 ∧ va_RA s q.1 q.2 := by
  have hts := he.1
  obtain ⟨c0, h0⟩ := gar (ty := .int) (hts _ (gl_t1 (i := 188) rfl)) (fun C h => by cases h) (fun c h => h)
  obtain ⟨c1, h1⟩ := gar (ty := .long) (hts _ (gl_t8 (i := 116) rfl)) (fun C h => by cases h) (fun c h => h)
  obtain ⟨c2, h2⟩ := gar (ty := .double) (hts _ (gl_t8 (i := 117) rfl)) (fun C h => by cases h) (fun c h => h)
  obtain ⟨c3, h3⟩ := gar (ty := .boolean) (hts _ (gl_t6 (i := 31) rfl)) (fun C h => by cases h) (fun c h => h)
  obtain ⟨c4, h4⟩ := gao (C := "java/lang/Object") (hts _ (gl_t3 (i := 23) rfl))
  exact ⟨ga5 c0 c1 c2 c3 c4, List.forall_mem_cons.mpr ⟨h0, List.forall_mem_cons.mpr ⟨h1, List.forall_mem_cons.mpr ⟨h2, List.forall_mem_cons.mpr ⟨h3, List.forall_mem_cons.mpr ⟨h4, fun _ z => absurd z List.not_mem_nil⟩⟩⟩⟩⟩⟩
theorem gstr {own tx : String} {k cur : Nat} {args : Array Value} (hc : s.vm.findClass own = some cur) (h : (Cond.stringRef own k tx).before args s = true) : ∃ a : Nat, vk_R own k tx a s := by
  obtain ⟨-, -, -, a, -, -, -, -, -, he⟩ := Cond.stringRef_spec hc h
  exact ⟨a, vk_R.of h he⟩
theorem ghc {C : String} {n : Nat} {args : Array Value} (h : (Cond.instantiable C n).before args s = true) : ∃ cur : ClassId, s.vm.findClass C = some cur := by
  obtain ⟨cC, kC, hfc, -⟩ := Cond.instantiable_spec h
  exact ⟨cC, hfc⟩
theorem env_str (he : gEn s b) : ∃ a : Nat → Nat, ∀ (i : Nat) (t : String × Nat × String), gq_strs[i]? = some t → vk_R t.1 t.2.1 t.2.2 (a i) s := by
  have hts := he.1
  obtain ⟨c0, hc0⟩ := ghc (hts _ (gl_t1 (i := 42) rfl))
  obtain ⟨c1, hc1⟩ := ghc (hts _ (gl_t5 (i := 209) rfl))
  have h0 : ∀ t ∈ gq_strs, ∃ a : Nat, vk_R t.1 t.2.1 t.2.2 a s := List.forall_mem_cons.mpr ⟨gstr hc1 (hts _ (gl_t6 (i := 56) rfl)), List.forall_mem_cons.mpr ⟨gstr hc1 (hts _ (gl_t6 (i := 220) rfl)), List.forall_mem_cons.mpr ⟨gstr hc1 (hts _ (gl_t7 (i := 67) rfl)), List.forall_mem_cons.mpr ⟨gstr hc1 (hts _ (gl_t7 (i := 128) rfl)), List.forall_mem_cons.mpr ⟨gstr hc1 (hts _ (gl_t7 (i := 133) rfl)), List.forall_mem_cons.mpr ⟨gstr hc1 (hts _ (gl_t7 (i := 197) rfl)), List.forall_mem_cons.mpr ⟨gstr hc1 (hts _ (gl_t8 (i := 93) rfl)), List.forall_mem_cons.mpr ⟨gstr hc0 (hts _ (gl_t2 (i := 73) rfl)), List.forall_mem_cons.mpr ⟨gstr hc0 (hts _ (gl_t2 (i := 109) rfl)), List.forall_mem_cons.mpr ⟨gstr hc0 (hts _ (gl_t2 (i := 128) rfl)), List.forall_mem_cons.mpr ⟨gstr hc0 (hts _ (gl_t2 (i := 129) rfl)), List.forall_mem_cons.mpr ⟨gstr hc0 (hts _ (gl_t2 (i := 143) rfl)), List.forall_mem_cons.mpr ⟨gstr hc0 (hts _ (gl_t2 (i := 175) rfl)), List.forall_mem_cons.mpr ⟨gstr hc0 (hts _ (gl_t2 (i := 176) rfl)), List.forall_mem_cons.mpr ⟨gstr hc0 (hts _ (gl_t2 (i := 177) rfl)), List.forall_mem_cons.mpr ⟨gstr hc0 (hts _ (gl_t3 (i := 77) rfl)), List.forall_mem_cons.mpr ⟨gstr hc0 (hts _ (gl_t3 (i := 88) rfl)), List.forall_mem_cons.mpr ⟨gstr hc0 (hts _ (gl_t3 (i := 89) rfl)), List.forall_mem_cons.mpr ⟨gstr hc0 (hts _ (gl_t3 (i := 90) rfl)), List.forall_mem_cons.mpr ⟨gstr hc0 (hts _ (gl_t3 (i := 91) rfl)), List.forall_mem_cons.mpr ⟨gstr hc0 (hts _ (gl_t3 (i := 92) rfl)), List.forall_mem_cons.mpr ⟨gstr hc0 (hts _ (gl_t3 (i := 136) rfl)), List.forall_mem_cons.mpr ⟨gstr hc0 (hts _ (gl_t3 (i := 137) rfl)), List.forall_mem_cons.mpr ⟨gstr hc0 (hts _ (gl_t3 (i := 145) rfl)), List.forall_mem_cons.mpr ⟨gstr hc0 (hts _ (gl_t3 (i := 146) rfl)), List.forall_mem_cons.mpr ⟨gstr hc0 (hts _ (gl_t3 (i := 147) rfl)), List.forall_mem_cons.mpr ⟨gstr hc0 (hts _ (gl_t3 (i := 148) rfl)), List.forall_mem_cons.mpr ⟨gstr hc0 (hts _ (gl_t3 (i := 149) rfl)), List.forall_mem_cons.mpr ⟨gstr hc0 (hts _ (gl_t3 (i := 211) rfl)), List.forall_mem_cons.mpr ⟨gstr hc0 (hts _ (gl_t3 (i := 230) rfl)), List.forall_mem_cons.mpr ⟨gstr hc0 (hts _ (gl_t3 (i := 231) rfl)), List.forall_mem_cons.mpr ⟨gstr hc0 (hts _ (gl_t3 (i := 232) rfl)), List.forall_mem_cons.mpr ⟨gstr hc0 (hts _ (gl_t4 (i := 0) rfl)), List.forall_mem_cons.mpr ⟨gstr hc0 (hts _ (gl_t4 (i := 5) rfl)), List.forall_mem_cons.mpr ⟨gstr hc0 (hts _ (gl_t4 (i := 6) rfl)), List.forall_mem_cons.mpr ⟨gstr hc0 (hts _ (gl_t4 (i := 14) rfl)), List.forall_mem_cons.mpr ⟨gstr hc0 (hts _ (gl_t4 (i := 15) rfl)), List.forall_mem_cons.mpr ⟨gstr hc0 (hts _ (gl_t4 (i := 23) rfl)), List.forall_mem_cons.mpr ⟨gstr hc0 (hts _ (gl_t4 (i := 31) rfl)), List.forall_mem_cons.mpr ⟨gstr hc0 (hts _ (gl_t4 (i := 44) rfl)), List.forall_mem_cons.mpr ⟨gstr hc0 (hts _ (gl_t4 (i := 45) rfl)), List.forall_mem_cons.mpr ⟨gstr hc0 (hts _ (gl_t4 (i := 46) rfl)), List.forall_mem_cons.mpr ⟨gstr hc0 (hts _ (gl_t4 (i := 93) rfl)), List.forall_mem_cons.mpr ⟨gstr hc0 (hts _ (gl_t4 (i := 94) rfl)), List.forall_mem_cons.mpr ⟨gstr hc0 (hts _ (gl_t4 (i := 95) rfl)), List.forall_mem_cons.mpr ⟨gstr hc0 (hts _ (gl_t4 (i := 103) rfl)), List.forall_mem_cons.mpr ⟨gstr hc0 (hts _ (gl_t4 (i := 108) rfl)), List.forall_mem_cons.mpr ⟨gstr hc0 (hts _ (gl_t4 (i := 109) rfl)), List.forall_mem_cons.mpr ⟨gstr hc0 (hts _ (gl_t4 (i := 117) rfl)), List.forall_mem_cons.mpr ⟨gstr hc0 (hts _ (gl_t4 (i := 128) rfl)), List.forall_mem_cons.mpr ⟨gstr hc0 (hts _ (gl_t4 (i := 129) rfl)), List.forall_mem_cons.mpr ⟨gstr hc0 (hts _ (gl_t4 (i := 133) rfl)), List.forall_mem_cons.mpr ⟨gstr hc0 (hts _ (gl_t4 (i := 134) rfl)), List.forall_mem_cons.mpr ⟨gstr hc0 (hts _ (gl_t4 (i := 135) rfl)), List.forall_mem_cons.mpr ⟨gstr hc0 (hts _ (gl_t4 (i := 201) rfl)), List.forall_mem_cons.mpr ⟨gstr hc0 (hts _ (gl_t4 (i := 202) rfl)), List.forall_mem_cons.mpr ⟨gstr hc0 (hts _ (gl_t4 (i := 203) rfl)), List.forall_mem_cons.mpr ⟨gstr hc0 (hts _ (gl_t4 (i := 204) rfl)), List.forall_mem_cons.mpr ⟨gstr hc0 (hts _ (gl_t4 (i := 216) rfl)), List.forall_mem_cons.mpr ⟨gstr hc0 (hts _ (gl_t4 (i := 217) rfl)), List.forall_mem_cons.mpr ⟨gstr hc0 (hts _ (gl_t4 (i := 228) rfl)), List.forall_mem_cons.mpr ⟨gstr hc0 (hts _ (gl_t4 (i := 229) rfl)), List.forall_mem_cons.mpr ⟨gstr hc0 (hts _ (gl_t4 (i := 237) rfl)), List.forall_mem_cons.mpr ⟨gstr hc0 (hts _ (gl_t5 (i := 5) rfl)), List.forall_mem_cons.mpr ⟨gstr hc0 (hts _ (gl_t5 (i := 13) rfl)), List.forall_mem_cons.mpr ⟨gstr hc0 (hts _ (gl_t5 (i := 14) rfl)), List.forall_mem_cons.mpr ⟨gstr hc0 (hts _ (gl_t5 (i := 25) rfl)), List.forall_mem_cons.mpr ⟨gstr hc0 (hts _ (gl_t5 (i := 33) rfl)), List.forall_mem_cons.mpr ⟨gstr hc0 (hts _ (gl_t5 (i := 34) rfl)), List.forall_mem_cons.mpr ⟨gstr hc0 (hts _ (gl_t5 (i := 70) rfl)), List.forall_mem_cons.mpr ⟨gstr hc0 (hts _ (gl_t5 (i := 71) rfl)), List.forall_mem_cons.mpr ⟨gstr hc0 (hts _ (gl_t5 (i := 72) rfl)), List.forall_mem_cons.mpr ⟨gstr hc0 (hts _ (gl_t5 (i := 73) rfl)), List.forall_mem_cons.mpr ⟨gstr hc0 (hts _ (gl_t5 (i := 99) rfl)), List.forall_mem_cons.mpr ⟨gstr hc0 (hts _ (gl_t5 (i := 100) rfl)), List.forall_mem_cons.mpr ⟨gstr hc0 (hts _ (gl_t5 (i := 101) rfl)), List.forall_mem_cons.mpr ⟨gstr hc0 (hts _ (gl_t5 (i := 136) rfl)), List.forall_mem_cons.mpr ⟨gstr hc0 (hts _ (gl_t5 (i := 137) rfl)), List.forall_mem_cons.mpr ⟨gstr hc0 (hts _ (gl_t5 (i := 138) rfl)), List.forall_mem_cons.mpr ⟨gstr hc0 (hts _ (gl_t5 (i := 170) rfl)), List.forall_mem_cons.mpr ⟨gstr hc0 (hts _ (gl_t5 (i := 171) rfl)), List.forall_mem_cons.mpr ⟨gstr hc0 (hts _ (gl_t5 (i := 194) rfl)), List.forall_mem_cons.mpr ⟨gstr hc0 (hts _ (gl_t5 (i := 203) rfl)), fun _ z => absurd z List.not_mem_nil⟩⟩⟩⟩⟩⟩⟩⟩⟩⟩⟩⟩⟩⟩⟩⟩⟩⟩⟩⟩⟩⟩⟩⟩⟩⟩⟩⟩⟩⟩⟩⟩⟩⟩⟩⟩⟩⟩⟩⟩⟩⟩⟩⟩⟩⟩⟩⟩⟩⟩⟩⟩⟩⟩⟩⟩⟩⟩⟩⟩⟩⟩⟩⟩⟩⟩⟩⟩⟩⟩⟩⟩⟩⟩⟩⟩⟩⟩⟩⟩⟩⟩⟩
  have h1 : ∀ i : Nat, ∃ a : Nat, ∀ t : String × Nat × String, gq_strs[i]? = some t → vk_R t.1 t.2.1 t.2.2 a s := fun i => by
    by_cases hc : ∃ t : String × Nat × String, gq_strs[i]? = some t
    · obtain ⟨t, ht⟩ := hc
      obtain ⟨a, ha⟩ := h0 t (List.mem_of_getElem? ht)
      exact ⟨a, fun t' ht' => (Option.some.inj (ht.symm.trans ht')) ▸ ha⟩
    · exact ⟨0, fun t ht => absurd ⟨t, ht⟩ hc⟩
  exact Classical.axiomOfChoice h1
def gSv (s : State) (a v i : Nat) : Prop := va_O "java/lang/String" a (fun q => s.heap.size ≤ q) s s.heap ∧ va_OF "java/lang/String" "coder" "B" (.int 0) a (fun q => s.heap.size ≤ q) s s.heap ∧ va_OF "java/lang/String" "value" "[B" (.ref v) a (fun q => s.heap.size ≤ q) s s.heap ∧ va_T .byte v (gq_slen.getD i 0) (fun j => .int ((gq_sbyt.getD i []).getD j 0)) (fun q => s.heap.size ≤ q) s s.heap
theorem gnA (s : State) : ∀ a : Nat, a < s.heap.size → ¬ (fun q : Nat => s.heap.size ≤ q) a := fun a h z => absurd h (Nat.not_lt.mpr z)
theorem gsv {own tx : String} {k a i : Nat} {args : Array Value} (hr : vk_R own k tx a s) (hex : (Cond.exactly (.string own k) "java/lang/String").before args s = true) (hco : (Cond.eq (.field (.string own k) "java/lang/String" "coder" "B") (.int 0)).before args s = true) (har : (Cond.arrayOf (.field (.string own k) "java/lang/String" "value" "[B") .byte).before args s = true) (hle : (Cond.eq (.length (.field (.string own k) "java/lang/String" "value" "[B")) (.int (Int32.ofNat (gq_slen.getD i 0)))).before args s = true) (hN : gq_slen.getD i 0 < 2 ^ 31) (hel : ∀ j : Nat, j < gq_slen.getD i 0 → (Cond.eq (.elem (.field (.string own k) "java/lang/String" "value" "[B") (.int (Int32.ofNat j))) (.int ((gq_sbyt.getD i []).getD j 0))).before args s = true) : ∃ v : Nat, gSv s a v i := by
  obtain ⟨a', c, cA, kA, q1, q2, q3, q4, q5, q6, -⟩ := Cond.exactly_spec (args := args) (first := s) (o := none) (s := s) (idx := []) (t := .string own k) (cls := "java/lang/String") hex
  have e : a' = a := by
    have h2 : (Term.string own k).eval args s none [] s = some (.ref a) := hr.2
    have h3 := q1.symm.trans h2
    cases h3
    rfl
  subst e
  obtain ⟨t, ht, hT⟩ := va_Tof (f := fun j => .int ((gq_sbyt.getD i []).getD j 0)) (A := fun q => s.heap.size ≤ q) hN har (va_eqt hle) (fun j hj => va_eqt (hel j hj)) (gnA s)
  exact ⟨t, ⟨cA, q3, q5, by rw [q6]; exact q2, gnA s a' (Array.getElem?_eq_some_iff.mp q3).1⟩, vk_OFof q1 (va_eqt hco) (gnA s), vk_OFof q1 ht (gnA s), hT⟩
theorem env_sv0 (he : gEn s b) {a : Nat} (hr : vk_R "GraphlineModel" 81 "mpgc" a s) : ∃ v : Nat, gSv s a v 0 := by
  have hn := gA2 he.2
  have n1 : narrow_1_1.before #[Value.ref b] s = true := (gA1 (gA1 hn))
  have n2 : narrow_1_2.before #[Value.ref b] s = true := (gA1 (gA2 (gA1 hn)))
  have n3 : narrow_1_3.before #[Value.ref b] s = true := (gA2 (gA2 (gA1 hn)))
  have n4 : narrow_1_4.before #[Value.ref b] s = true := (gA1 (gA1 (gA2 hn)))
  have n5 : narrow_1_5.before #[Value.ref b] s = true := (gA2 (gA1 (gA2 hn)))
  have n6 : narrow_1_6.before #[Value.ref b] s = true := (gA1 (gA2 (gA2 hn)))
  have n7 : narrow_1_7.before #[Value.ref b] s = true := (gA2 (gA2 (gA2 hn)))
  exact gsv (i := 0) hr (gA1 (gA1 (gA2 (gA1 (gA2 (gA2 (gA1 n7))))))) (gA2 (gA1 (gA2 (gA1 (gA2 (gA2 (gA1 n7))))))) (gA1 (gA2 (gA2 (gA1 (gA2 (gA2 (gA1 n7))))))) (gA2 (gA2 (gA2 (gA1 (gA2 (gA2 (gA1 n7))))))) (by decide) (fun j hj => by
    have hj : j < 4 := hj
    rcases (show j = 0 ∨ j = 1 ∨ j = 2 ∨ j = 3 by omega) with rfl | rfl | rfl | rfl
    · exact (gA1 (gA1 (gA2 (gA2 (gA2 (gA1 n7))))))
    · exact (gA1 (gA2 (gA1 (gA2 (gA2 (gA2 (gA1 n7)))))))
    · exact (gA2 (gA2 (gA1 (gA2 (gA2 (gA2 (gA1 n7)))))))
    · exact (gA1 (gA1 (gA2 (gA2 (gA2 (gA2 (gA1 n7))))))))
theorem env_sv1 (he : gEn s b) {a : Nat} (hr : vk_R "GraphlineModel" 128 "cfk" a s) : ∃ v : Nat, gSv s a v 1 := by
  have hn := gA2 he.2
  have n1 : narrow_1_1.before #[Value.ref b] s = true := (gA1 (gA1 hn))
  have n2 : narrow_1_2.before #[Value.ref b] s = true := (gA1 (gA2 (gA1 hn)))
  have n3 : narrow_1_3.before #[Value.ref b] s = true := (gA2 (gA2 (gA1 hn)))
  have n4 : narrow_1_4.before #[Value.ref b] s = true := (gA1 (gA1 (gA2 hn)))
  have n5 : narrow_1_5.before #[Value.ref b] s = true := (gA2 (gA1 (gA2 hn)))
  have n6 : narrow_1_6.before #[Value.ref b] s = true := (gA1 (gA2 (gA2 hn)))
  have n7 : narrow_1_7.before #[Value.ref b] s = true := (gA2 (gA2 (gA2 hn)))
  exact gsv (i := 1) hr (gA2 (gA1 (gA2 (gA2 (gA2 (gA2 (gA1 n7))))))) (gA1 (gA2 (gA2 (gA2 (gA2 (gA2 (gA1 n7))))))) (gA2 (gA2 (gA2 (gA2 (gA2 (gA2 (gA1 n7))))))) (gA1 (gA1 (gA1 (gA1 (gA1 (gA2 n7)))))) (by decide) (fun j hj => by
    have hj : j < 3 := hj
    rcases (show j = 0 ∨ j = 1 ∨ j = 2 by omega) with rfl | rfl | rfl
    · exact (gA1 (gA2 (gA1 (gA1 (gA1 (gA1 (gA2 n7)))))))
    · exact (gA2 (gA2 (gA1 (gA1 (gA1 (gA1 (gA2 n7)))))))
    · exact (gA1 (gA2 (gA1 (gA1 (gA1 (gA2 n7)))))))
theorem env_sv2 (he : gEn s b) {a : Nat} (hr : vk_R "GraphlineModel" 190 "nwbrsdf" a s) : ∃ v : Nat, gSv s a v 2 := by
  have hn := gA2 he.2
  have n1 : narrow_1_1.before #[Value.ref b] s = true := (gA1 (gA1 hn))
  have n2 : narrow_1_2.before #[Value.ref b] s = true := (gA1 (gA2 (gA1 hn)))
  have n3 : narrow_1_3.before #[Value.ref b] s = true := (gA2 (gA2 (gA1 hn)))
  have n4 : narrow_1_4.before #[Value.ref b] s = true := (gA1 (gA1 (gA2 hn)))
  have n5 : narrow_1_5.before #[Value.ref b] s = true := (gA2 (gA1 (gA2 hn)))
  have n6 : narrow_1_6.before #[Value.ref b] s = true := (gA1 (gA2 (gA2 hn)))
  have n7 : narrow_1_7.before #[Value.ref b] s = true := (gA2 (gA2 (gA2 hn)))
  exact gsv (i := 2) hr (gA1 (gA2 (gA2 (gA1 (gA1 (gA1 (gA2 n7))))))) (gA2 (gA2 (gA2 (gA1 (gA1 (gA1 (gA2 n7))))))) (gA1 (gA1 (gA2 (gA1 (gA1 (gA2 n7)))))) (gA1 (gA2 (gA1 (gA2 (gA1 (gA1 (gA2 n7))))))) (by decide) (fun j hj => by
    have hj : j < 7 := hj
    rcases (show j = 0 ∨ j = 1 ∨ j = 2 ∨ j = 3 ∨ j = 4 ∨ j = 5 ∨ j = 6 by omega) with rfl | rfl | rfl | rfl | rfl | rfl | rfl
    · exact (gA2 (gA2 (gA1 (gA2 (gA1 (gA1 (gA2 n7)))))))
    · exact (gA1 (gA1 (gA2 (gA2 (gA1 (gA1 (gA2 n7)))))))
    · exact (gA2 (gA1 (gA2 (gA2 (gA1 (gA1 (gA2 n7)))))))
    · exact (gA1 (gA2 (gA2 (gA2 (gA1 (gA1 (gA2 n7)))))))
    · exact (gA2 (gA2 (gA2 (gA2 (gA1 (gA1 (gA2 n7)))))))
    · exact (gA1 (gA1 (gA1 (gA2 (gA1 (gA2 n7))))))
    · exact (gA1 (gA2 (gA1 (gA1 (gA2 (gA1 (gA2 n7))))))))
theorem env_sv3 (he : gEn s b) {a : Nat} (hr : vk_R "GraphlineModel" 230 "nwgr" a s) : ∃ v : Nat, gSv s a v 3 := by
  have hn := gA2 he.2
  have n1 : narrow_1_1.before #[Value.ref b] s = true := (gA1 (gA1 hn))
  have n2 : narrow_1_2.before #[Value.ref b] s = true := (gA1 (gA2 (gA1 hn)))
  have n3 : narrow_1_3.before #[Value.ref b] s = true := (gA2 (gA2 (gA1 hn)))
  have n4 : narrow_1_4.before #[Value.ref b] s = true := (gA1 (gA1 (gA2 hn)))
  have n5 : narrow_1_5.before #[Value.ref b] s = true := (gA2 (gA1 (gA2 hn)))
  have n6 : narrow_1_6.before #[Value.ref b] s = true := (gA1 (gA2 (gA2 hn)))
  have n7 : narrow_1_7.before #[Value.ref b] s = true := (gA2 (gA2 (gA2 hn)))
  exact gsv (i := 3) hr (gA2 (gA2 (gA1 (gA1 (gA2 (gA1 (gA2 n7))))))) (gA1 (gA1 (gA2 (gA1 (gA2 (gA1 (gA2 n7))))))) (gA2 (gA1 (gA2 (gA1 (gA2 (gA1 (gA2 n7))))))) (gA1 (gA2 (gA2 (gA1 (gA2 (gA1 (gA2 n7))))))) (by decide) (fun j hj => by
    have hj : j < 4 := hj
    rcases (show j = 0 ∨ j = 1 ∨ j = 2 ∨ j = 3 by omega) with rfl | rfl | rfl | rfl
    · exact (gA2 (gA2 (gA2 (gA1 (gA2 (gA1 (gA2 n7)))))))
    · exact (gA1 (gA1 (gA2 (gA2 (gA1 (gA2 n7))))))
    · exact (gA1 (gA2 (gA1 (gA2 (gA2 (gA1 (gA2 n7)))))))
    · exact (gA2 (gA2 (gA1 (gA2 (gA2 (gA1 (gA2 n7))))))))
theorem env_sv4 (he : gEn s b) {a : Nat} (hr : vk_R "GraphlineModel" 232 "603" a s) : ∃ v : Nat, gSv s a v 4 := by
  have hn := gA2 he.2
  have n1 : narrow_1_1.before #[Value.ref b] s = true := (gA1 (gA1 hn))
  have n2 : narrow_1_2.before #[Value.ref b] s = true := (gA1 (gA2 (gA1 hn)))
  have n3 : narrow_1_3.before #[Value.ref b] s = true := (gA2 (gA2 (gA1 hn)))
  have n4 : narrow_1_4.before #[Value.ref b] s = true := (gA1 (gA1 (gA2 hn)))
  have n5 : narrow_1_5.before #[Value.ref b] s = true := (gA2 (gA1 (gA2 hn)))
  have n6 : narrow_1_6.before #[Value.ref b] s = true := (gA1 (gA2 (gA2 hn)))
  have n7 : narrow_1_7.before #[Value.ref b] s = true := (gA2 (gA2 (gA2 hn)))
  exact gsv (i := 4) hr (gA1 (gA1 (gA2 (gA2 (gA2 (gA1 (gA2 n7))))))) (gA2 (gA1 (gA2 (gA2 (gA2 (gA1 (gA2 n7))))))) (gA1 (gA2 (gA2 (gA2 (gA2 (gA1 (gA2 n7))))))) (gA2 (gA2 (gA2 (gA2 (gA2 (gA1 (gA2 n7))))))) (by decide) (fun j hj => by
    have hj : j < 3 := hj
    rcases (show j = 0 ∨ j = 1 ∨ j = 2 by omega) with rfl | rfl | rfl
    · exact (gA1 (gA1 (gA1 (gA1 (gA2 (gA2 n7))))))
    · exact (gA1 (gA2 (gA1 (gA1 (gA1 (gA2 (gA2 n7)))))))
    · exact (gA2 (gA2 (gA1 (gA1 (gA1 (gA2 (gA2 n7))))))))
theorem env_sv5 (he : gEn s b) {a : Nat} (hr : vk_R "GraphlineModel" 268 "nbclgor" a s) : ∃ v : Nat, gSv s a v 5 := by
  have hn := gA2 he.2
  have n1 : narrow_1_1.before #[Value.ref b] s = true := (gA1 (gA1 hn))
  have n2 : narrow_1_2.before #[Value.ref b] s = true := (gA1 (gA2 (gA1 hn)))
  have n3 : narrow_1_3.before #[Value.ref b] s = true := (gA2 (gA2 (gA1 hn)))
  have n4 : narrow_1_4.before #[Value.ref b] s = true := (gA1 (gA1 (gA2 hn)))
  have n5 : narrow_1_5.before #[Value.ref b] s = true := (gA2 (gA1 (gA2 hn)))
  have n6 : narrow_1_6.before #[Value.ref b] s = true := (gA1 (gA2 (gA2 hn)))
  have n7 : narrow_1_7.before #[Value.ref b] s = true := (gA2 (gA2 (gA2 hn)))
  exact gsv (i := 5) hr (gA1 (gA1 (gA2 (gA1 (gA1 (gA2 (gA2 n7))))))) (gA2 (gA1 (gA2 (gA1 (gA1 (gA2 (gA2 n7))))))) (gA1 (gA2 (gA2 (gA1 (gA1 (gA2 (gA2 n7))))))) (gA2 (gA2 (gA2 (gA1 (gA1 (gA2 (gA2 n7))))))) (by decide) (fun j hj => by
    have hj : j < 7 := hj
    rcases (show j = 0 ∨ j = 1 ∨ j = 2 ∨ j = 3 ∨ j = 4 ∨ j = 5 ∨ j = 6 by omega) with rfl | rfl | rfl | rfl | rfl | rfl | rfl
    · exact (gA1 (gA1 (gA2 (gA1 (gA2 (gA2 n7))))))
    · exact (gA1 (gA2 (gA1 (gA2 (gA1 (gA2 (gA2 n7)))))))
    · exact (gA2 (gA2 (gA1 (gA2 (gA1 (gA2 (gA2 n7)))))))
    · exact (gA1 (gA1 (gA2 (gA2 (gA1 (gA2 (gA2 n7)))))))
    · exact (gA2 (gA1 (gA2 (gA2 (gA1 (gA2 (gA2 n7)))))))
    · exact (gA1 (gA2 (gA2 (gA2 (gA1 (gA2 (gA2 n7)))))))
    · exact (gA2 (gA2 (gA2 (gA2 (gA1 (gA2 (gA2 n7))))))))
theorem env_sv6 (he : gEn s b) {a : Nat} (hr : vk_R "GraphlineModel" 316 "rnxbfkshgc" a s) : ∃ v : Nat, gSv s a v 6 := by
  have hn := gA2 he.2
  have n1 : narrow_1_1.before #[Value.ref b] s = true := (gA1 (gA1 hn))
  have n2 : narrow_1_2.before #[Value.ref b] s = true := (gA1 (gA2 (gA1 hn)))
  have n3 : narrow_1_3.before #[Value.ref b] s = true := (gA2 (gA2 (gA1 hn)))
  have n4 : narrow_1_4.before #[Value.ref b] s = true := (gA1 (gA1 (gA2 hn)))
  have n5 : narrow_1_5.before #[Value.ref b] s = true := (gA2 (gA1 (gA2 hn)))
  have n6 : narrow_1_6.before #[Value.ref b] s = true := (gA1 (gA2 (gA2 hn)))
  have n7 : narrow_1_7.before #[Value.ref b] s = true := (gA2 (gA2 (gA2 hn)))
  exact gsv (i := 6) hr (gA1 (gA1 (gA1 (gA2 (gA2 (gA2 n7)))))) (gA1 (gA2 (gA1 (gA1 (gA2 (gA2 (gA2 n7))))))) (gA2 (gA2 (gA1 (gA1 (gA2 (gA2 (gA2 n7))))))) (gA1 (gA1 (gA2 (gA1 (gA2 (gA2 (gA2 n7))))))) (by decide) (fun j hj => by
    have hj : j < 10 := hj
    rcases (show j = 0 ∨ j = 1 ∨ j = 2 ∨ j = 3 ∨ j = 4 ∨ j = 5 ∨ j = 6 ∨ j = 7 ∨ j = 8 ∨ j = 9 by omega) with rfl | rfl | rfl | rfl | rfl | rfl | rfl | rfl | rfl | rfl
    · exact (gA2 (gA1 (gA2 (gA1 (gA2 (gA2 (gA2 n7)))))))
    · exact (gA1 (gA2 (gA2 (gA1 (gA2 (gA2 (gA2 n7)))))))
    · exact (gA2 (gA2 (gA2 (gA1 (gA2 (gA2 (gA2 n7)))))))
    · exact (gA1 (gA1 (gA2 (gA2 (gA2 (gA2 n7))))))
    · exact (gA1 (gA2 (gA1 (gA2 (gA2 (gA2 (gA2 n7)))))))
    · exact (gA2 (gA2 (gA1 (gA2 (gA2 (gA2 (gA2 n7)))))))
    · exact (gA1 (gA1 (gA2 (gA2 (gA2 (gA2 (gA2 n7)))))))
    · exact (gA2 (gA1 (gA2 (gA2 (gA2 (gA2 (gA2 n7)))))))
    · exact (gA1 (gA2 (gA2 (gA2 (gA2 (gA2 (gA2 n7)))))))
    · exact (gA2 (gA2 (gA2 (gA2 (gA2 (gA2 (gA2 n7))))))))
theorem gOF_inj {o n d : String} {v v' : Value} {a : Nat} {A : Nat → Prop} {H : Heap} (h : va_OF o n d v a A s H) (h' : va_OF o n d v' a A s H) : v = v' := by
  obtain ⟨cf, k, i, f, cell, h1, -, h2, -, h3, -⟩ := h
  obtain ⟨cf', k', i', f', cell', h1', -, h2', -, h3', -⟩ := h'
  cases h1.symm.trans h1'
  cases h2.symm.trans h2'
  exact Option.some.inj (h3.symm.trans h3')
theorem gT_inj {ty : FieldType} {t N N' : Nat} {f f' : Nat → Value} {A : Nat → Prop} {H : Heap} (h : va_T ty t N f A s H) (h' : va_T ty t N' f' A s H) : Int32.ofNat N = Int32.ofNat N' ∧ ∀ j, j < N → j < N' → f j = f' j := by
  obtain ⟨cell, h1, -, -, -, h2, h3, -⟩ := h
  obtain ⟨cell', h1', -, -, -, h2', h3', -⟩ := h'
  cases h1.symm.trans h1'
  exact ⟨h2.symm.trans h2', fun j hj hj' => Option.some.inj ((h3 j hj).symm.trans (h3' j hj'))⟩
theorem gsdif : ∀ i : Nat, i < 7 → ∀ j : Nat, j < 7 → Int32.ofNat (gq_slen.getD i 0) = Int32.ofNat (gq_slen.getD j 0) → (∀ p : Nat, p < gq_slen.getD i 0 → (gq_sbyt.getD i []).getD p 0 = (gq_sbyt.getD j []).getD p 0) → i = j := by decide +kernel
theorem gsle : ∀ i : Nat, i < 7 → ∀ j : Nat, j < 7 → Int32.ofNat (gq_slen.getD i 0) = Int32.ofNat (gq_slen.getD j 0) → gq_slen.getD i 0 = gq_slen.getD j 0 := by decide +kernel
theorem gSv.inj {a v v' i j : Nat} (hi : i < 7) (hj : j < 7) (h : gSv s a v i) (h' : gSv s a v' j) : i = j := by
  have e : v = v' := by
    have := gOF_inj h.2.2.1 h'.2.2.1
    cases this
    rfl
  subst e
  obtain ⟨h1, h2⟩ := gT_inj h.2.2.2 h'.2.2.2
  refine gsdif i hi j hj h1 (fun p hp => ?_)
  have := h2 p hp (gsle i hi j hj h1 ▸ hp)
  exact Value.int.inj this
def gv7 (v0 v1 v2 v3 v4 v5 v6 : Nat) : Nat → Nat
  | 0 => v0
  | 1 => v1
  | 2 => v2
  | 3 => v3
  | 4 => v4
  | 5 => v5
  | _ => v6
def gad (a v : Nat → Nat) (z m : Nat) : Nat → Nat := fun i => if i = 100 then z else if i = 101 then m else if i < 100 then a i else v (i - 110)
theorem gad_s {a v : Nat → Nat} {z m i : Nat} (h : i < 100) : gad a v z m i = a i := by unfold gad; rw [if_neg (by omega), if_neg (by omega), if_pos h]
theorem gad_v {a v : Nat → Nat} {z m i : Nat} : gad a v z m (110 + i) = v i := by unfold gad; rw [if_neg (by omega), if_neg (by omega), if_neg (by omega), Nat.add_sub_cancel_left]
theorem gslt {i : Nat} {t : String × Nat × String} (h : gq_strs[i]? = some t) : i < 100 := Nat.lt_of_lt_of_le (List.getElem?_eq_some_iff.mp h).1 (Nat.le_of_ble_eq_true rfl)
theorem env_ok (he : gEn s b) : ∃ κ : gq_K, gq_TB κ s ∧ gq_Zs κ (fun q => s.heap.size ≤ q) s s.heap := by
  have hts := he.1
  have hn := gA2 he.2
  have n1 : narrow_1_1.before #[Value.ref b] s = true := (gA1 (gA1 hn))
  have n2 : narrow_1_2.before #[Value.ref b] s = true := (gA1 (gA2 (gA1 hn)))
  have n3 : narrow_1_3.before #[Value.ref b] s = true := (gA2 (gA2 (gA1 hn)))
  have n4 : narrow_1_4.before #[Value.ref b] s = true := (gA1 (gA1 (gA2 hn)))
  have n5 : narrow_1_5.before #[Value.ref b] s = true := (gA2 (gA1 (gA2 hn)))
  have n6 : narrow_1_6.before #[Value.ref b] s = true := (gA1 (gA2 (gA2 hn)))
  have n7 : narrow_1_7.before #[Value.ref b] s = true := (gA2 (gA2 (gA2 hn)))
  obtain ⟨D, hD⟩ := env_cl he
  obtain ⟨d, hd⟩ := env_ar he
  obtain ⟨a, ha⟩ := env_str he
  obtain ⟨v0, hv0⟩ := env_sv0 he (show vk_R "GraphlineModel" 81 "mpgc" (a 0) s from ha 0 ("GraphlineModel", 81, "mpgc") rfl)
  obtain ⟨v1, hv1⟩ := env_sv1 he (show vk_R "GraphlineModel" 128 "cfk" (a 1) s from ha 1 ("GraphlineModel", 128, "cfk") rfl)
  obtain ⟨v2, hv2⟩ := env_sv2 he (show vk_R "GraphlineModel" 190 "nwbrsdf" (a 2) s from ha 2 ("GraphlineModel", 190, "nwbrsdf") rfl)
  obtain ⟨v3, hv3⟩ := env_sv3 he (show vk_R "GraphlineModel" 230 "nwgr" (a 3) s from ha 3 ("GraphlineModel", 230, "nwgr") rfl)
  obtain ⟨v4, hv4⟩ := env_sv4 he (show vk_R "GraphlineModel" 232 "603" (a 4) s from ha 4 ("GraphlineModel", 232, "603") rfl)
  obtain ⟨v5, hv5⟩ := env_sv5 he (show vk_R "GraphlineModel" 268 "nbclgor" (a 5) s from ha 5 ("GraphlineModel", 268, "nbclgor") rfl)
  obtain ⟨v6, hv6⟩ := env_sv6 he (show vk_R "GraphlineModel" 316 "rnxbfkshgc" (a 6) s from ha 6 ("GraphlineModel", 316, "rnxbfkshgc") rfl)
  obtain ⟨mi, hmi⟩ := va_Mi.of (C := "[Ljava/lang/Object;") (gA1 (gA2 (gA1 (gA2 (gA1 (gA2 (gA1 (gA2 (gA1 n1)))))))))
  obtain ⟨z, hz, hzT⟩ := va_Tof (ty := .object "java/lang/Object") (N := 0) (f := fun _ => .null) (A := fun q => s.heap.size ≤ q) (by decide) (gA1 (gA2 (gA1 (gA1 (gA1 (gA1 (gA1 (gA1 n1)))))))) (va_eqt (gA2 (gA2 (gA2 (gA1 (gA1 (gA1 (gA1 (gA1 (gA1 n1)))))))))) (fun j hj => absurd hj (Nat.not_lt_zero j)) (gnA s)
  obtain ⟨vs, h7⟩ : ∃ vs : Nat → Nat, ∀ i : Nat, i < 7 → gSv s (a i) (vs i) i := ⟨gv7 v0 v1 v2 v3 v4 v5 v6, fun i hi => by
      rcases (show i = 0 ∨ i = 1 ∨ i = 2 ∨ i = 3 ∨ i = 4 ∨ i = 5 ∨ i = 6 by omega) with rfl | rfl | rfl | rfl | rfl | rfl | rfl
      · exact hv0
      · exact hv1
      · exact hv2
      · exact hv3
      · exact hv4
      · exact hv5
      · exact hv6⟩
  obtain ⟨k2, h100, h101, hks, hkv⟩ : ∃ k2 : Nat → Nat, k2 100 = z ∧ k2 101 = mi ∧ (∀ i : Nat, i < 100 → k2 i = a i) ∧ ∀ i : Nat, k2 (110 + i) = vs i := ⟨gad a vs z mi, if_pos rfl, (if_neg (by omega)).trans (if_pos rfl), fun i h => gad_s h, fun i => gad_v⟩
  subst h100
  subst h101
  have hTB : gq_TB (D, d, k2) s := by
    refine ⟨⟨hD, fun k q hk => hd q (List.mem_of_getElem? hk)⟩, env_nf he, env_nm he, env_ca he, env_de he, env_fw he, va_AO.of (hts _ (gl_t3 (i := 23) rfl)), env_nc he, fun i t ht => ?_, hmi⟩
    show vk_R t.1 t.2.1 t.2.2 (k2 i) s
    rw [hks i (gslt ht)]
    exact ha i t ht
  refine ⟨(D, d, k2), hTB, ?_⟩
  refine ⟨vx_Zqof (hts _ (gl_t2 (i := 56) rfl)) (hts _ (gl_t1 (i := 9) rfl)) (gA1 (gA1 (gA2 (gA1 (gA1 (gA1 (gA1 (gA1 n1)))))))) (gnA s), vx_Zqof (hts _ (gl_t2 (i := 58) rfl)) (hts _ (gl_t1 (i := 9) rfl)) (gA1 (gA2 (gA1 (gA2 (gA1 (gA1 (gA1 (gA1 (gA1 n1))))))))) (gnA s), va_Zof (hts _ (gl_t6 (i := 70) rfl)) (hts _ (gl_t1 (i := 15) rfl)) (va_eqi (gA2 (gA2 (gA1 (gA2 (gA1 (gA1 (gA1 (gA1 (gA1 n1)))))))))) (gnA s), va_Zref (hts _ (gl_t1 (i := 123) rfl)) (hts _ (gl_t1 (i := 7) rfl)) hz (gnA s), hzT, va_Zqof (hts _ (gl_t6 (i := 109) rfl)) (hts _ (gl_t1 (i := 19) rfl)) (gA1 (gA2 (gA2 (gA1 (gA1 (gA1 (gA1 (gA1 n1)))))))) (gnA s), ?_⟩
  refine ⟨fun i hi => ?_, fun i j hi hj e => ?_⟩
  · show gSv s (k2 i) (k2 (110 + i)) i
    rw [hks i (by omega), hkv]
    exact h7 i hi
  · have e : k2 i = k2 j := e
    rw [hks i (by omega), hks j (by omega)] at e
    exact gSv.inj hi hj (h7 i hi) (e ▸ h7 j hj)
end Z45
