
/-! THE FRAME OF A WALK. A heap picture is a function of addresses (gq_H); gq_C M κ args P Q E: the contract of a method M: from a heap with a picture of P it returns with Q or throws with E; gq_Y: the frame of such a method at a pc, with a picture of P. -/
abbrev gq_H : Type := Nat → Option va_E
def gq_hs (h : gq_H) (a : Nat) (e : va_E) : gq_H := fun b => if b = a then some e else h b
theorem gq_hs_eq (h : gq_H) (a : Nat) (e : va_E) : gq_hs h a e a = some e := if_pos rfl
theorem gq_hs_ne (h : gq_H) {a b : Nat} (e : va_E) (n : b ≠ a) : gq_hs h a e b = h b := if_neg n
abbrev gq_K : Type := va_G × (Nat → ClassId) × (Nat → Nat)
abbrev gq_tys (κ : gq_K) : List (ClassId × FieldType) := [(κ.2.1 0, .int), (κ.2.1 1, .long), (κ.2.1 2, .double), (κ.2.1 3, .boolean), (κ.2.1 4, .object "java/lang/Object")]
def gq_HP (κ : gq_K) (A : Nat → Prop) (h : gq_H) (H : Heap) : Prop := ∃ ws : va_W, va_P κ.1 vwCl ws H ∧ va_D A ws ∧ ∀ (a : Nat) (e : va_E), h a = some e → (a, e) ∈ ws
theorem gq_HP.place {κ : gq_K} {A : Nat → Prop} {h : gq_H} {H : Heap} (hh : gq_HP κ A h H) : ∃ ws : va_W, va_P κ.1 vwCl ws H ∧ va_D A ws ∧ (∀ (a : Nat) (e : va_E), h a = some e → ∃ q0 : Nat, ws[q0]? = some (a, e)) := by
  obtain ⟨ws, h1, h2, h3⟩ := hh
  exact ⟨ws, h1, h2, fun a e he => List.getElem?_of_mem (h3 a e he)⟩
theorem gq_HP.set {κ : gq_K} {A : Nat → Prop} {h : gq_H} {H1 : Heap} {ws : va_W} {q0 a : Nat} {e0 e : va_E} (hw : ∀ (a : Nat) (e : va_E), h a = some e → ∃ q0 : Nat, ws[q0]? = some (a, e)) (hD0 : va_D A ws) (hq : ws[q0]? = some (a, e0)) (hP : va_P κ.1 vwCl (ws.set q0 (a, e)) H1) (hD : va_D A (ws.set q0 (a, e))) : gq_HP κ A (gq_hs h a e) H1 := by
  refine ⟨_, hP, hD, fun b x hb => ?_⟩
  have hl := (List.getElem?_eq_some_iff.mp hq).1
  by_cases hba : b = a
  · subst hba
    rw [gq_hs_eq] at hb
    cases hb
    exact List.mem_of_getElem? (List.getElem?_set_self hl)
  · rw [gq_hs_ne _ _ hba] at hb
    obtain ⟨j, hj⟩ := hw b x hb
    have hjq : j ≠ q0 := fun z => by
      subst z
      rw [hq] at hj
      exact hba (congrArg Prod.fst (Option.some.inj hj)).symm
    exact List.mem_of_getElem? (by rw [List.getElem?_set_ne (Ne.symm hjq)]; exact hj)
theorem gq_HP.push {κ : gq_K} {A : Nat → Prop} {h : gq_H} {H1 : Heap} {ws : va_W} {a : Nat} {e : va_E} (hw : ∀ (a : Nat) (e : va_E), h a = some e → ∃ q0 : Nat, ws[q0]? = some (a, e)) (hP : va_P κ.1 vwCl (ws ++ [(a, e)]) H1) (hD : va_D A (ws ++ [(a, e)])) : h a = none ∧ gq_HP κ A (gq_hs h a e) H1 := by
  have hn : h a = none := by
    cases hx : h a with
    | none => rfl
    | some x =>
      obtain ⟨j, hj⟩ := hw a x hx
      have hl := (List.getElem?_eq_some_iff.mp hj).1
      have h1 : (ws ++ [(a, e)])[j]? = some (a, x) := by rw [List.getElem?_append_left hl]; exact hj
      have h2 : (ws ++ [(a, e)])[ws.length]? = some (a, e) := by rw [List.getElem?_append_right (Nat.le_refl _), Nat.sub_self]; rfl
      have := hD.1 _ _ _ _ h1 h2 rfl
      omega
  refine ⟨hn, _, hP, hD, fun b x hb => ?_⟩
  by_cases hba : b = a
  · subst hba
    rw [gq_hs_eq] at hb
    cases hb
    exact List.mem_append_right _ List.mem_cons_self
  · rw [gq_hs_ne _ _ hba] at hb
    obtain ⟨j, hj⟩ := hw b x hb
    exact List.mem_append_left _ (List.mem_of_getElem? hj)
/-- less is known -/
theorem gq_HP.less {κ : gq_K} {A : Nat → Prop} {h h' : gq_H} {H : Heap} (hh : gq_HP κ A h H) (hl : ∀ (a : Nat) (e : va_E), h' a = some e → h a = some e) : gq_HP κ A h' H := by
  obtain ⟨ws, h1, h2, h3⟩ := hh
  exact ⟨ws, h1, h2, fun a e he => h3 a e (hl a e he)⟩
/-- the same cells in a heap that keeps them -/
theorem gq_HP.kept {κ : gq_K} {A : Nat → Prop} {h : gq_H} {H H1 : Heap} (hh : gq_HP κ A h H) (hq : ∀ q : Nat, q < H.size → H1[q]? = H[q]?) : gq_HP κ A h H1 := by
  obtain ⟨ws, h1, h2, h3⟩ := hh
  exact ⟨ws, h1.kept fun k q hk => hq q.1 (h1 k q hk).lt, h2, h3⟩
-- the words
def gq_ws : List Cond := lw_tbl.filter goodWord
theorem gq_in {w : Cond} (n : Nat) (h : lw_tbl[n]? = some w) (g : goodWord w = true) : w ∈ gq_ws := List.mem_filter.mpr ⟨List.mem_of_getElem? h, g⟩
theorem gq_inM {w : Cond} (h : w ∈ lw_tbl) (g : goodWord w = true) : w ∈ gq_ws := List.mem_filter.mpr ⟨h, g⟩
theorem gq_good : ∀ w ∈ gq_ws, w ∈ gq_ws ∧ ((w.onTables && w.keeps) = true ∨ ∃ ty, w = .arrayClass ty) := fun w h => ⟨h, good_of_word (List.mem_filter.mp h).2⟩
-- what the tables say beside the good words: nest links, casts, interface methods, string constants
abbrev gq_nf : List (String × Nat × String × String × String × String) := [("java/util/ArrayList$Itr", 28, "java/util/ArrayList", "size", "I", "java/util/ArrayList"), ("GraphlineModel", 135, "GraphlineModel$Batch", "mixture", "I", "GraphlineModel"), ("GraphlineModel", 138, "GraphlineModel$Batch", "leads", "I", "GraphlineModel"), ("GraphlineModel", 159, "GraphlineModel$Batch", "warped", "I", "GraphlineModel"), ("GraphlineModel", 141, "GraphlineModel$Batch", "bore", "I", "GraphlineModel"), ("GraphlineModel", 152, "GraphlineModel$Batch", "ready", "I", "GraphlineModel"), ("GraphlineModel", 149, "GraphlineModel$Batch", "dried", "Z", "GraphlineModel"), ("GraphlineModel", 168, "GraphlineModel$Batch", "firing", "I", "GraphlineModel"), ("GraphlineModel", 174, "GraphlineModel$Batch", "kiln", "I", "GraphlineModel"), ("GraphlineModel", 187, "GraphlineModel$Batch", "soaked", "Z", "GraphlineModel"), ("GraphlineModel", 177, "GraphlineModel$Batch", "strength", "I", "GraphlineModel"), ("GraphlineModel", 180, "GraphlineModel$Batch", "darkness", "I", "GraphlineModel"), ("GraphlineModel", 206, "GraphlineModel$Slat", "wood", "C", "GraphlineModel"), ("GraphlineModel", 210, "GraphlineModel$Slat", "grain", "I", "GraphlineModel"), ("GraphlineModel", 213, "GraphlineModel$Slat", "wet", "I", "GraphlineModel"), ("GraphlineModel", 216, "GraphlineModel$Slat", "many", "I", "GraphlineModel"), ("GraphlineModel", 227, "GraphlineModel$Slat", "width", "I", "GraphlineModel"), ("GraphlineModel", 224, "GraphlineModel$Slat", "ready", "I", "GraphlineModel"), ("GraphlineModel", 240, "GraphlineModel$Run", "batch", "I", "GraphlineModel"), ("GraphlineModel", 243, "GraphlineModel$Run", "slats", "I", "GraphlineModel"), ("GraphlineModel", 245, "GraphlineModel$Run", "hand", "I", "GraphlineModel"), ("GraphlineModel", 248, "GraphlineModel$Run", "many", "I", "GraphlineModel"), ("GraphlineModel", 270, "GraphlineModel$Run", "broken", "I", "GraphlineModel"), ("GraphlineModel", 249, "GraphlineModel$Run", "off", "I", "GraphlineModel"), ("GraphlineModel", 252, "GraphlineModel$Run", "ready", "I", "GraphlineModel"), ("GraphlineModel", 256, "GraphlineModel$Run", "coats", "I", "GraphlineModel"), ("GraphlineModel", 259, "GraphlineModel$Run", "colour", "I", "GraphlineModel"), ("GraphlineModel", 262, "GraphlineModel$Run", "stamp", "I", "GraphlineModel"), ("GraphlineModel", 265, "GraphlineModel$Run", "erased", "Z", "GraphlineModel"), ("GraphlineModel", 284, "GraphlineModel$Gross", "grade", "I", "GraphlineModel"), ("GraphlineModel", 294, "GraphlineModel$Gross", "parts", "Ljava/util/List;", "GraphlineModel"), ("GraphlineModel", 291, "GraphlineModel$Gross", "shipped", "Z", "GraphlineModel")]
abbrev gq_nm : List (String × Nat × MethodName × String) := [("Graphline", 9, ⟨"Graphline$Drive", "<init>", "()V"⟩, "Graphline"), ("Graphline", 18, ⟨"Graphline$Wheel", "<init>", "()V"⟩, "Graphline"), ("Graphline$Wheel", 18, ⟨"Graphline", "clamped", "(III)I"⟩, "Graphline"), ("GraphlineModel", 134, ⟨"GraphlineModel$Batch", "<init>", "()V"⟩, "GraphlineModel"), ("GraphlineModel", 205, ⟨"GraphlineModel$Slat", "<init>", "()V"⟩, "GraphlineModel"), ("GraphlineModel", 239, ⟨"GraphlineModel$Run", "<init>", "()V"⟩, "GraphlineModel"), ("GraphlineModel", 283, ⟨"GraphlineModel$Gross", "<init>", "()V"⟩, "GraphlineModel")]
abbrev gq_ca : List (String × String) := [("java/lang/IllegalArgumentException", "java/lang/IllegalArgumentException"), ("java/lang/IllegalStateException", "java/lang/IllegalStateException"), ("java/lang/UnsupportedOperationException", "java/lang/UnsupportedOperationException"), ("java/lang/ArrayIndexOutOfBoundsException", "java/lang/ArrayIndexOutOfBoundsException"), ("java/lang/IndexOutOfBoundsException", "java/lang/IndexOutOfBoundsException"), ("java/lang/ArithmeticException", "java/lang/ArithmeticException"), ("java/util/ArrayList", "java/util/List"), ("java/util/ArrayList$Itr", "java/util/Iterator"), ("java/lang/ArrayIndexOutOfBoundsException", "java/lang/IndexOutOfBoundsException"), ("Graphline", "java/lang/Object"), ("Graphline$Drive", "java/lang/Object"), ("Graphline$Machine", "java/lang/Object"), ("Graphline$Wheel", "java/lang/Object"), ("java/util/ArrayList", "java/lang/Object"), ("GraphlineModel", "java/lang/Object"), ("java/lang/IllegalArgumentException", "java/lang/Object"), ("java/lang/IllegalStateException", "java/lang/Object"), ("java/lang/UnsupportedOperationException", "java/lang/Object"), ("Graphline$Lot", "java/lang/Object"), ("java/lang/ArrayIndexOutOfBoundsException", "java/lang/Object"), ("java/lang/IndexOutOfBoundsException", "java/lang/Object"), ("Graphline$Mixture", "java/lang/Object"), ("Graphline$Batch", "java/lang/Object"), ("GraphlineModel$Batch", "java/lang/Object"), ("Graphline$SlatLot", "java/lang/Object"), ("GraphlineModel$Slat", "java/lang/Object"), ("Graphline$Run", "java/lang/Object"), ("GraphlineModel$Run", "java/lang/Object"), ("Graphline$Gross", "java/lang/Object"), ("GraphlineModel$Gross", "java/lang/Object"), ("Graphline$Part", "java/lang/Object"), ("java/util/ArrayList$Itr", "java/lang/Object"), ("Graphline$Order", "java/lang/Object"), ("java/lang/ArithmeticException", "java/lang/Object"), ("java/lang/Throwable", "java/lang/Object"), ("java/lang/String", "java/lang/Object"), ("[I", "java/lang/Object"), ("[B", "java/lang/Object"), ("[Ljava/lang/Object;", "java/lang/Object"), ("[Z", "java/lang/Object"), ("[J", "java/lang/Object"), ("[D", "java/lang/Object")]
abbrev gq_de : List MethodName := [⟨"java/lang/RuntimeException", "<init>", "()V"⟩, ⟨"java/lang/RuntimeException", "<init>", "(Ljava/lang/String;)V"⟩, ⟨"java/lang/Exception", "<init>", "()V"⟩, ⟨"java/lang/Exception", "<init>", "(Ljava/lang/String;)V"⟩, ⟨"java/lang/Throwable", "<init>", "()V"⟩, ⟨"java/lang/Throwable", "<init>", "(Ljava/lang/String;)V"⟩, ⟨"java/lang/IndexOutOfBoundsException", "<init>", "()V"⟩, ⟨"java/lang/IndexOutOfBoundsException", "<init>", "(Ljava/lang/String;)V"⟩, ⟨"java/util/List", "size", "()I"⟩, ⟨"java/util/List", "add", "(Ljava/lang/Object;)Z"⟩, ⟨"java/util/List", "get", "(I)Ljava/lang/Object;"⟩, ⟨"java/util/List", "iterator", "()Ljava/util/Iterator;"⟩, ⟨"java/util/Iterator", "hasNext", "()Z"⟩, ⟨"java/util/Iterator", "next", "()Ljava/lang/Object;"⟩, ⟨"java/lang/Object", "getClass", "()Ljava/lang/Class;"⟩]
abbrev gq_fw : List (String × MethodName × MethodName) := [("java/util/ArrayList", ⟨"java/util/List", "size", "()I"⟩, ⟨"java/util/ArrayList", "size", "()I"⟩), ("java/util/ArrayList", ⟨"java/util/List", "get", "(I)Ljava/lang/Object;"⟩, ⟨"java/util/ArrayList", "get", "(I)Ljava/lang/Object;"⟩), ("java/util/ArrayList", ⟨"java/util/List", "add", "(Ljava/lang/Object;)Z"⟩, ⟨"java/util/ArrayList", "add", "(Ljava/lang/Object;)Z"⟩), ("java/util/ArrayList", ⟨"java/util/List", "iterator", "()Ljava/util/Iterator;"⟩, ⟨"java/util/ArrayList", "iterator", "()Ljava/util/Iterator;"⟩), ("java/util/ArrayList$Itr", ⟨"java/util/Iterator", "hasNext", "()Z"⟩, ⟨"java/util/ArrayList$Itr", "hasNext", "()Z"⟩), ("java/util/ArrayList$Itr", ⟨"java/util/Iterator", "next", "()Ljava/lang/Object;"⟩, ⟨"java/util/ArrayList$Itr", "next", "()Ljava/lang/Object;"⟩)]
abbrev gq_nc : List (String × String) := [("java/lang/IllegalStateException", "java/lang/IllegalArgumentException"), ("java/lang/UnsupportedOperationException", "java/lang/IllegalArgumentException"), ("java/lang/IndexOutOfBoundsException", "java/lang/IllegalArgumentException"), ("java/lang/ArithmeticException", "java/lang/IllegalArgumentException"), ("java/lang/IllegalArgumentException", "java/lang/IllegalStateException"), ("java/lang/UnsupportedOperationException", "java/lang/IllegalStateException"), ("java/lang/IndexOutOfBoundsException", "java/lang/IllegalStateException"), ("java/lang/ArithmeticException", "java/lang/IllegalStateException"), ("java/lang/IllegalArgumentException", "java/lang/UnsupportedOperationException"), ("java/lang/IllegalStateException", "java/lang/UnsupportedOperationException"), ("java/lang/IndexOutOfBoundsException", "java/lang/UnsupportedOperationException"), ("java/lang/ArithmeticException", "java/lang/UnsupportedOperationException"), ("java/lang/IllegalArgumentException", "java/lang/IndexOutOfBoundsException"), ("java/lang/IllegalStateException", "java/lang/IndexOutOfBoundsException"), ("java/lang/UnsupportedOperationException", "java/lang/IndexOutOfBoundsException"), ("java/lang/ArithmeticException", "java/lang/IndexOutOfBoundsException"), ("java/lang/IllegalArgumentException", "java/lang/ArithmeticException"), ("java/lang/IllegalStateException", "java/lang/ArithmeticException"), ("java/lang/UnsupportedOperationException", "java/lang/ArithmeticException"), ("java/lang/IndexOutOfBoundsException", "java/lang/ArithmeticException")]
abbrev gq_strs : List (String × Nat × String) := [("GraphlineModel", 81, "mpgc"), ("GraphlineModel", 128, "cfk"), ("GraphlineModel", 190, "nwbrsdf"), ("GraphlineModel", 230, "nwgr"), ("GraphlineModel", 232, "603"), ("GraphlineModel", 268, "nbclgor"), ("GraphlineModel", 316, "rnxbfkshgc"), ("Graphline", 77, "hours are 1 to 500"), ("Graphline", 84, "the clock ends at 9999"), ("Graphline", 550, "there is no such machine"), ("Graphline", 95, "a machine does not drive itself"), ("Graphline", 103, "that would be a ring"), ("Graphline", 123, "a lot is graphite 'g' or clay 'c'"), ("Graphline", 125, "purity, size or kilos are out of range"), ("Graphline", 131, "there are 16 lots"), ("Graphline", 554, "there is no such lot"), ("Graphline", 149, "kilos or days are out of range"), ("Graphline", 154, "a lot is of another kind"), ("Graphline", 156, "a lot has not as much"), ("Graphline", 161, "the mill does not run"), ("Graphline", 163, "there are 12 mixtures"), ("Graphline", 557, "there is no such mixture"), ("Graphline", 190, "a mixture has no such thing"), ("Graphline", 192, "the die or the kilos are out of range"), ("Graphline", 194, "the mixture has not as much"), ("Graphline", 196, "the die is worn out"), ("Graphline", 201, "the press does not run"), ("Graphline", 203, "there are 16 batches"), ("Graphline", 210, "there is no such die"), ("Graphline", 559, "there is no such batch"), ("Graphline", 216, "a speed is 1 to 5"), ("Graphline", 221, "the batch was dried"), ("Graphline", 236, "the kiln, the heat or the hours are out of range"), ("Graphline", 242, "the batch is not one to be fired now"), ("Graphline", 244, "the kiln is not ready"), ("Graphline", 258, "a wax is 1 to 5"), ("Graphline", 263, "the batch is not one to be soaked now"), ("Graphline", 268, "a batch has no such thing"), ("Graphline", 270, "the batch is not one to be drawn now"), ("Graphline", 279, "a wood is cedar 'c' or basswood 'b'"), ("Graphline", 281, "grain, wetness or slats are out of range"), ("Graphline", 283, "there are 12 lots of slats"), ("Graphline", 561, "there is no such lot of slats"), ("Graphline", 294, "hours are 1 to 200"), ("Graphline", 297, "the slats are not ready"), ("Graphline", 311, "a width is 5 to 30"), ("Graphline", 316, "the slats are not ones to be grooved now"), ("Graphline", 321, "the groover does not run"), ("Graphline", 329, "slats have no such thing"), ("Graphline", 335, "the shape, the pencils or the hand are out of range"), ("Graphline", 337, "the batch or the slats are not ones to be laid now"), ("Graphline", 342, "the groove does not fit"), ("Graphline", 344, "there are not as many leads or slats"), ("Graphline", 346, "there are 16 runs"), ("Graphline", 563, "there is no such run"), ("Graphline", 360, "a colour is 0 to 9"), ("Graphline", 366, "the run is not one to be coated now"), ("Graphline", 371, "the coater does not run"), ("Graphline", 379, "the run is not one to be stamped now"), ("Graphline", 385, "the batch is not ready"), ("Graphline", 393, "pumice is 0 to 9"), ("Graphline", 398, "the run is not one to get erasers now"), ("Graphline", 409, "a run has no such thing"), ("Graphline", 411, "a height is 1 to 9"), ("Graphline", 416, "a sample is 1 to 50"), ("Graphline", 418, "there are not as many pencils"), ("Graphline", 425, "z is 1 to 2147483646"), ("Graphline", 427, "a grade is 0 to 19"), ("Graphline", 429, "there are 30 grosses"), ("Graphline", 565, "there is no such gross"), ("Graphline", 440, "a part is 1 to 144 pencils"), ("Graphline", 445, "the run has not as many pencils of this grade now"), ("Graphline", 451, "the gross takes no more of them"), ("Graphline", 463, "the grade, the grosses or the hour are out of range"), ("Graphline", 465, "the hour has gone by"), ("Graphline", 467, "there are 12 orders"), ("Graphline", 569, "there is no such order"), ("Graphline", 479, "the gross is not one for this order"), ("Graphline", 484, "the order lacks none"), ("Graphline", 567, "there is no such part"), ("Graphline", 522, "a part has no such thing"), ("Graphline", 533, "there are no pencils in runs"), ("Graphline", 536, "no batch was fired")]
def gq_TB (κ : gq_K) (U : State) : Prop := va_K κ.1 vwCl (gq_tys κ) U ∧ (∀ t ∈ gq_nf, va_Nw (.fieldLinkNest t.1 t.2.1 t.2.2.1 t.2.2.2.1 t.2.2.2.2.1 t.2.2.2.2.2) U) ∧ (∀ t ∈ gq_nm, va_Nw (.methodLinkNest t.1 t.2.1 t.2.2.1 t.2.2.2) U) ∧ (∀ t ∈ gq_ca, va_Nw (.castable t.1 t.2) U) ∧ (∀ t ∈ gq_de, va_Nw (.declares t) U) ∧ (∀ t ∈ gq_fw, va_Fw t.1 t.2.1 t.2.2 U) ∧ va_AO "java/lang/Object" U ∧ (∀ t ∈ gq_nc, va_Nc t.1 t.2 U) ∧ (∀ (i : Nat) (t : String × Nat × String), gq_strs[i]? = some t → vk_R t.1 t.2.1 t.2.2 (κ.2.2 i) U) ∧ va_Mi "[Ljava/lang/Object;" (κ.2.2 101) U
theorem gq_fw_ok : ∀ t ∈ gq_fw, t.2.1.cls ≠ "java/lang/invoke/MethodHandle" ∧ t.2.1.cls ≠ "java/lang/invoke/VarHandle" := by decide +kernel
theorem gq_TB.warm {κ : gq_K} {s U : State} (hW : s.WarmedH U.vm) (h : gq_TB κ s) : gq_TB κ U := by
  obtain ⟨h1, h2, h3, h4, h5, h6, h7, h8, h9, h10⟩ := h
  exact ⟨va_K.moved hW.alike h1, fun t ht => va_Nw.warmF hW (h2 t ht), fun t ht => va_Nw.warmM hW (h3 t ht), fun t ht => va_Nw.warmC hW (h4 t ht), fun t ht => va_Nw.warmD hW (h5 t ht), fun t ht => va_Fw.moved (gq_fw_ok t ht) hW.alike (h6 t ht), va_AO.moved hW.alike h7, fun t ht => va_Nc.moved hW.alike (h8 t ht), fun i t ht => vk_R.warm hW (h9 i t ht), va_Mi.moved hW.alike h10⟩
-- the statics and the string constants that nobody writes
abbrev gq_slen : List Nat := [4, 3, 7, 4, 3, 7, 10]
abbrev gq_sbyt : List (List Int32) := [[109, 112, 103, 99], [99, 102, 107], [110, 119, 98, 114, 115, 100, 102], [110, 119, 103, 114], [54, 48, 51], [110, 98, 99, 108, 103, 111, 114], [114, 110, 120, 98, 102, 107, 115, 104, 103, 99]]
def gq_Zs (κ : gq_K) (A : Nat → Prop) (U : State) (H : Heap) : Prop := vx_Zq Bundle.tN "UNASSIGNED_STACK" Bundle.steD A U H ∧ vx_Zq Bundle.tN "SUPPRESSED_SENTINEL" Bundle.listD A U H ∧ va_Z "java/lang/String" "COMPACT_STRINGS" "Z" (.int 1) A U H ∧ va_Z "java/util/ArrayList" "DEFAULTCAPACITY_EMPTY_ELEMENTDATA" "[Ljava/lang/Object;" (.ref (κ.2.2 100)) A U H ∧ va_T (.object "java/lang/Object") (κ.2.2 100) 0 (fun _ => .null) A U H ∧ va_Zq "jdk/internal/util/Preconditions" "SIOOBE_FORMATTER" "Ljava/util/function/BiFunction;" A U H ∧ vk_S 7 gq_slen gq_sbyt κ.2.2 (fun i => κ.2.2 (110 + i)) A U H
theorem gq_Zs.moved {κ : gq_K} {A : Nat → Prop} {u U : State} {H : Heap} (hvm : u.vm.Alike U.vm) (h : gq_Zs κ A u H) : gq_Zs κ A U H :=
  ⟨vx_Zq.moved hvm h.1, vx_Zq.moved hvm h.2.1, va_Z.moved hvm h.2.2.1, va_Z.moved hvm h.2.2.2.1, va_T.moved hvm h.2.2.2.2.1, va_Zq.moved hvm h.2.2.2.2.2.1, vk_S.moved hvm h.2.2.2.2.2.2⟩
theorem gq_Zs.kept {κ : gq_K} {A : Nat → Prop} {U : State} {H H1 : Heap} (h : gq_Zs κ A U H) (hq : ∀ a : Nat, a < H.size → ¬ A a → H1[a]? = H[a]?) : gq_Zs κ A U H1 :=
  ⟨h.1.kept hq, h.2.1.kept hq, h.2.2.1.kept hq, h.2.2.2.1.kept hq, h.2.2.2.2.1.kept hq, h.2.2.2.2.2.1.kept hq, h.2.2.2.2.2.2.kept hq⟩
-- contracts
def gq_Pc (κ : gq_K) (A : Nat → Prop) (args : List Value) (P : gq_H → Prop) : Array Value → State → Prop := fun v U => v = args.toArray ∧ gq_TB κ U ∧ gq_Zs κ A U U.heap ∧ (∀ q : Nat, U.heap.size ≤ q → A q) ∧ ∃ h : gq_H, P h ∧ gq_HP κ A h U.heap
def gq_Qc (κ : gq_K) (A : Nat → Prop) (Q : Option Value → gq_H → Prop) : Array Value → State → Outcome → State → Prop := fun _ st oc t => (∃ (v : Option Value) (h : gq_H), oc = .returned v ∧ Q v h ∧ gq_HP κ A h t.heap) ∧ va_F A st t
def gq_Xc (κ : gq_K) (A : Nat → Prop) (E : String → gq_H → Prop) : String → State → State → Prop := fun x st t => (∃ h : gq_H, E x h ∧ gq_HP κ A h t.heap) ∧ va_F A st t
theorem gq_Pc.blind {κ : gq_K} {A : Nat → Prop} {args : List Value} {P : gq_H → Prop} : FrameBlind (gq_Pc κ A args P) := by
  intro a U g mk ⟨h1, h2, h3, h4, h5⟩
  have hW : U.WarmedH (U.calling g mk a).vm := State.WarmedH.refl U
  exact ⟨h1, h2.warm hW, gq_Zs.moved hW.alike h3, h4, h5⟩
/-- a method: its name, code, number of locals, type, room, table -/
abbrev gq_M : Type := MethodName × ByteArray × Nat × Option FieldType × Room × List (Nat × Nat × Nat × Nat)
def gq_hd (M : gq_M) : Cond := match M.2.2.2.2.2 with
  | [] => .code M.1 M.2.1 M.2.2.1 M.2.2.2.1
  | hh => .codeWith M.1 M.2.1 M.2.2.1 M.2.2.2.1 hh
def gq_C (κ : gq_K) (M : gq_M) (args : List Value) (P : gq_H → Prop) (Q : Option Value → gq_H → Prop) (E : String → gq_H → Prop) : Prop :=
  ∀ (l : Launch) (A : Nat → Prop), l.flags = flags0 → vx_Met l M.1 (gq_hd M :: gq_ws) M.2.2.2.2.1 (gq_Pc κ A args P) (gq_Qc κ A Q) (gq_Xc κ A E) M.2.2.2.2.1.cells M.2.2.2.2.1.slots A
abbrev gq_F : Type := Program × Launch × Env × State × MethodId × Array Value × List Frame × Method × Code × (Nat → Prop)
/-- what is fixed in a frame of the method M, that owes Q and E -/
def gq_Ok (κ : gq_K) (M : gq_M) (f : gq_F) : Prop := match f with
  | (p, l, _, s, m, args, _, meth, c, A) => p.tables.exec = Jvm.exec ∧ c.code = M.2.1 ∧ c.maxLocals = M.2.2.1 ∧ s.vm.findClass M.1.cls = some m.cls ∧ (∀ w ∈ gq_ws, w.before args s = true) ∧ gq_TB κ s ∧ gq_Zs κ A s s.heap ∧ (∀ q : Nat, s.heap.size ≤ q → A q) ∧ meth.sig.returnType = M.2.2.2.1 ∧ meth.locks = false ∧ l.flags = flags0 ∧ meth.name = M.1.name ∧ c.exceptionTable.toList = tableOf M.2.2.2.2.2
def gq_Y (κ : gq_K) (M : gq_M) (Q : Option Value → gq_H → Prop) (E : String → gq_H → Prop) (f : gq_F) (P : gq_H → Prop) (lv : List (Nat × Value)) (pc : Nat) (st : List Value) (k n : Nat) : Prop := match f with
  | (p, l, e, s, m, args, below, meth, c, A) => ∀ (h : gq_H) (H : Heap) (locs : List Loc) (ls : Array Slot), P h → gq_HP κ A h H → va_S A s.heap H locs → lv_has ls M.2.2.1 lv →
    W p l e M.2.2.2.2.1 s m args below meth c H locs k n (vx_MQ below (gq_Qc κ A Q) (gq_Xc κ A E) args s M.2.2.2.2.1.cells M.2.2.2.2.1.slots A) (F0 m pc ls st)
theorem gq_nt {l : Launch} (h : l.flags = flags0) : l.stackTraces = false := by
  unfold Launch.stackTraces
  rw [h]
  decide +kernel
set_option maxHeartbeats 4000000 in
theorem gq_enter {κ : gq_K} {M : gq_M} {args : List Value} {P : gq_H → Prop} {Q : Option Value → gq_H → Prop} {E : String → gq_H → Prop} (hy : plainName M.1.cls = true) (ht : M.2.2.2.2.2 = []) (hn : (lg_sl args).length ≤ M.2.2.1) {lv : List (Nat × Value)} (hlv : lv_args 0 args = lv) (body : ∀ f, gq_Ok κ M f → gq_Y κ M Q E f P lv 0 [] 0 0) : gq_C κ M args P Q E := by
  subst hlv
  intro l A hfl
  have hhd : gq_hd M = Cond.code M.1 M.2.1 M.2.2.1 M.2.2.2.1 := by unfold gq_hd; rw [ht]
  refine vx_ofW (cc := M.2.1) (maxL := M.2.2.1) (ret := M.2.2.2.1) (ws' := gq_ws) hy (by rw [hhd]) ?_
  intro p e s m args' below meth c s₁ B hml htab hv
  obtain ⟨rfl, hTB, hZs, hA, h, hP, hH⟩ := hv
  have hts := atoms_spec (ws := gq_hd M :: gq_ws) B.pre
  have hown := findClass_of_methodNamed B.named
  have hl := lv_entry args (n := M.2.2.1) hn
  rw [lg_entry_eq]
  generalize (lg_sl args ++ List.replicate (M.2.2.1 - (lg_sl args).length) Slot.unset).toArray = ls at hl ⊢
  have htl : c.exceptionTable.toList = tableOf M.2.2.2.2.2 := by
    rw [ht]
    cases hx : c.exceptionTable.toList with
    | nil => rfl
    | cons x r => exact (htab x (by rw [hx]; exact List.mem_cons_self)).elim
  exact body (p, l, e, s, m, args.toArray, below, meth, c, A) ⟨B.exec, B.bytes, hml, hown, fun w hw => hts w (List.mem_cons_of_mem _ hw), hTB, hZs, hA, B.returns, B.notSynchronized, hfl, (name_of_methodNamed B.named B.method).1, htl⟩ h s.heap [] ls hP hH va_S.rf hl
set_option maxHeartbeats 4000000 in
theorem gq_enterW {κ : gq_K} {M : gq_M} {args : List Value} {P : gq_H → Prop} {Q : Option Value → gq_H → Prop} {E : String → gq_H → Prop} (hy : plainName M.1.cls = true) {x : Nat × Nat × Nat × Nat} {r : List (Nat × Nat × Nat × Nat)} (ht : M.2.2.2.2.2 = x :: r) (hn : (lg_sl args).length ≤ M.2.2.1) {lv : List (Nat × Value)} (hlv : lv_args 0 args = lv) (body : ∀ f, gq_Ok κ M f → gq_Y κ M Q E f P lv 0 [] 0 0) : gq_C κ M args P Q E := by
  subst hlv
  intro l A hfl
  have hhd : gq_hd M = Cond.codeWith M.1 M.2.1 M.2.2.1 M.2.2.2.1 M.2.2.2.2.2 := by unfold gq_hd; rw [ht]
  refine vx_ofWH (cc := M.2.1) (maxL := M.2.2.1) (ret := M.2.2.2.1) (hh := M.2.2.2.2.2) (ws' := gq_ws) hy (by rw [hhd]) ?_
  intro p e s m args' below meth c s₁ B hml hv
  obtain ⟨rfl, hTB, hZs, hA, h, hP, hH⟩ := hv
  have hts := atoms_spec (ws := gq_hd M :: gq_ws) B.pre
  have hown := findClass_of_methodNamed B.named
  have hl := lv_entry args (n := M.2.2.1) hn
  rw [lg_entry_eq]
  generalize (lg_sl args ++ List.replicate (M.2.2.1 - (lg_sl args).length) Slot.unset).toArray = ls at hl ⊢
  have htl : c.exceptionTable.toList = tableOf M.2.2.2.2.2 := vx_table (x := M.1) B (by rw [← hhd]; exact hts _ List.mem_cons_self)
  exact body (p, l, e, s, m, args.toArray, below, meth, c, A) ⟨B.exec, B.bytes, hml, hown, fun w hw => hts w (List.mem_cons_of_mem _ hw), hTB, hZs, hA, B.returns, B.notSynchronized, hfl, (name_of_methodNamed B.named B.method).1, htl⟩ h s.heap [] ls hP hH va_S.rf hl
theorem gq_look {ls : Array Slot} {n : Nat} {lv : List (Nat × Value)} (h : lv_has ls n lv) {i : Nat} {v : Value} (hl : lv.lookup i = some v) : ls[i]? = some (.val v) := by
  refine h.2.2 (i, v) ?_
  induction lv with
  | nil => cases hl
  | cons q r ih =>
    obtain ⟨j, w⟩ := q
    rw [List.lookup_cons] at hl
    by_cases hij : i = j
    · subst hij
      simp at hl
      subst hl
      exact List.mem_cons_self
    · have hb : (i == j) = false := by simpa using hij
      rw [hb] at hl
      exact List.mem_cons_of_mem _ (ih ⟨h.1, h.2.1, fun q hq => h.2.2 q (List.mem_cons_of_mem _ hq)⟩ hl)
section YR
variable {κ : gq_K} {M : gq_M} {Q : Option Value → gq_H → Prop} {E : String → gq_H → Prop} {f : gq_F} {P P' : gq_H → Prop} {lv lv' : List (Nat × Value)} {pc : Nat} {st : List Value} {k n : Nat}
theorem y_mono (hp : ∀ h, P h → P' h) (y : gq_Y κ M Q E f P' lv pc st k n) : gq_Y κ M Q E f P lv pc st k n := by
  obtain ⟨p, l, e, s, m, args, below, meth, c, A⟩ := f
  exact fun h H locs ls h1 h2 h3 h4 => y h H locs ls (hp h h1) h2 h3 h4
/-- less of the picture is wanted -/
theorem y_less (hp : ∀ h, P h → ∃ h' : gq_H, P' h' ∧ ∀ (a : Nat) (e : va_E), h' a = some e → h a = some e) (y : gq_Y κ M Q E f P' lv pc st k n) : gq_Y κ M Q E f P lv pc st k n := by
  obtain ⟨p, l, e, s, m, args, below, meth, c, A⟩ := f
  intro h H locs ls h1 h2 h3 h4
  obtain ⟨h', g1, g2⟩ := hp h h1
  exact y h' H locs ls g1 (h2.less g2) h3 h4
theorem y_open (y : ∀ h, P h → gq_Y κ M Q E f (fun g => g = h) lv pc st k n) : gq_Y κ M Q E f P lv pc st k n := by
  obtain ⟨p, l, e, s, m, args, below, meth, c, A⟩ := f
  exact fun h H locs ls h1 h2 h3 h4 => y h h1 h H locs ls rfl h2 h3 h4
theorem y_lv (is : List Nat) (hl : lv_pick lv is = lv') (y : gq_Y κ M Q E f P lv' pc st k n) : gq_Y κ M Q E f P lv pc st k n := by
  obtain ⟨p, l, e, s, m, args, below, meth, c, A⟩ := f
  exact fun h H locs ls h1 h2 h3 h4 => y h H locs ls h1 h2 h3 (lv_sub h4 is hl)
theorem y_wide {k' n' : Nat} (hk : k ≤ k') (hn : n ≤ n') (y : gq_Y κ M Q E f P lv pc st k' n') : gq_Y κ M Q E f P lv pc st k n := by
  obtain ⟨p, l, e, s, m, args, below, meth, c, A⟩ := f
  exact fun h H locs ls h1 h2 h3 h4 => W.widen hk hn (y h H locs ls h1 h2 h3 h4)
theorem y_ex {α : Type} {R : α → gq_H → Prop} (y : ∀ x, gq_Y κ M Q E f (R x) lv pc st k n) : gq_Y κ M Q E f (fun h => ∃ x, R x h) lv pc st k n := by
  obtain ⟨p, l, e, s, m, args, below, meth, c, A⟩ := f
  exact fun h H locs ls ⟨x, h1⟩ h2 h3 h4 => y x h H locs ls h1 h2 h3 h4
theorem y_and {a : Prop} {R : gq_H → Prop} (y : a → gq_Y κ M Q E f R lv pc st k n) : gq_Y κ M Q E f (fun h => a ∧ R h) lv pc st k n := by
  obtain ⟨p, l, e, s, m, args, below, meth, c, A⟩ := f
  exact fun h H locs ls ⟨x, h1⟩ h2 h3 h4 => y x h H locs ls h1 h2 h3 h4
theorem y_iconst (o : gq_Ok κ M f) {v : Int} {x : Int32} (d : decode M.2.1 pc = .ok (.iconst v, 1)) (hv : Int32.ofInt v = x) (yy : gq_Y κ M Q E f P lv (pc + 1) (.int x :: st) k n) : gq_Y κ M Q E f P lv pc (st) k n := by
  obtain ⟨p, l, e, s, m, args, below, meth, c, A⟩ := f
  exact fun h H locs ls h1 h2 h3 h4 => lv_iconst o.1 o.2.1 d hv (yy h H locs ls h1 h2 h3 h4)
theorem y_iload_n (o : gq_Ok κ M f) {i : Fin 4} {x : Int32} (d : decode M.2.1 pc = .ok (.iload_n i, 1)) (hl : lv.lookup i.val = some (.int x)) (y : gq_Y κ M Q E f P lv (pc + 1) (.int x :: st) k n) : gq_Y κ M Q E f P lv pc st k n := by
  obtain ⟨p, l, e, s, m, args, below, meth, c, A⟩ := f
  exact fun h H locs ls h1 h2 h3 h4 => lv_iload_n o.1 o.2.1 d rfl (gq_look h4 hl) (y h H locs ls h1 h2 h3 h4)
theorem y_iload (o : gq_Ok κ M f) {i : Nat} {x : Int32} (d : decode M.2.1 pc = .ok (.iload i, 2)) (hl : lv.lookup i = some (.int x)) (y : gq_Y κ M Q E f P lv (pc + 2) (.int x :: st) k n) : gq_Y κ M Q E f P lv pc st k n := by
  obtain ⟨p, l, e, s, m, args, below, meth, c, A⟩ := f
  exact fun h H locs ls h1 h2 h3 h4 => lv_iload o.1 o.2.1 d (gq_look h4 hl) (y h H locs ls h1 h2 h3 h4)
theorem y_lload_n (o : gq_Ok κ M f) {i : Fin 4} {x : Int64} (d : decode M.2.1 pc = .ok (.lload_n i, 1)) (hl : lv.lookup i.val = some (.long x)) (y : gq_Y κ M Q E f P lv (pc + 1) (.long x :: st) k n) : gq_Y κ M Q E f P lv pc st k n := by
  obtain ⟨p, l, e, s, m, args, below, meth, c, A⟩ := f
  exact fun h H locs ls h1 h2 h3 h4 => lv_lload_n o.1 o.2.1 d rfl (gq_look h4 hl) (y h H locs ls h1 h2 h3 h4)
theorem y_lload (o : gq_Ok κ M f) {i : Nat} {x : Int64} (d : decode M.2.1 pc = .ok (.lload i, 2)) (hl : lv.lookup i = some (.long x)) (y : gq_Y κ M Q E f P lv (pc + 2) (.long x :: st) k n) : gq_Y κ M Q E f P lv pc st k n := by
  obtain ⟨p, l, e, s, m, args, below, meth, c, A⟩ := f
  exact fun h H locs ls h1 h2 h3 h4 => lv_lload o.1 o.2.1 d (gq_look h4 hl) (y h H locs ls h1 h2 h3 h4)
theorem y_fload_n (o : gq_Ok κ M f) {i : Fin 4} {x : UInt32} (d : decode M.2.1 pc = .ok (.fload_n i, 1)) (hl : lv.lookup i.val = some (.float x)) (y : gq_Y κ M Q E f P lv (pc + 1) (.float x :: st) k n) : gq_Y κ M Q E f P lv pc st k n := by
  obtain ⟨p, l, e, s, m, args, below, meth, c, A⟩ := f
  exact fun h H locs ls h1 h2 h3 h4 => lv_fload_n o.1 o.2.1 d rfl (gq_look h4 hl) (y h H locs ls h1 h2 h3 h4)
theorem y_fload (o : gq_Ok κ M f) {i : Nat} {x : UInt32} (d : decode M.2.1 pc = .ok (.fload i, 2)) (hl : lv.lookup i = some (.float x)) (y : gq_Y κ M Q E f P lv (pc + 2) (.float x :: st) k n) : gq_Y κ M Q E f P lv pc st k n := by
  obtain ⟨p, l, e, s, m, args, below, meth, c, A⟩ := f
  exact fun h H locs ls h1 h2 h3 h4 => lv_fload o.1 o.2.1 d (gq_look h4 hl) (y h H locs ls h1 h2 h3 h4)
theorem y_dload_n (o : gq_Ok κ M f) {i : Fin 4} {x : UInt64} (d : decode M.2.1 pc = .ok (.dload_n i, 1)) (hl : lv.lookup i.val = some (.double x)) (y : gq_Y κ M Q E f P lv (pc + 1) (.double x :: st) k n) : gq_Y κ M Q E f P lv pc st k n := by
  obtain ⟨p, l, e, s, m, args, below, meth, c, A⟩ := f
  exact fun h H locs ls h1 h2 h3 h4 => lv_dload_n o.1 o.2.1 d rfl (gq_look h4 hl) (y h H locs ls h1 h2 h3 h4)
theorem y_dload (o : gq_Ok κ M f) {i : Nat} {x : UInt64} (d : decode M.2.1 pc = .ok (.dload i, 2)) (hl : lv.lookup i = some (.double x)) (y : gq_Y κ M Q E f P lv (pc + 2) (.double x :: st) k n) : gq_Y κ M Q E f P lv pc st k n := by
  obtain ⟨p, l, e, s, m, args, below, meth, c, A⟩ := f
  exact fun h H locs ls h1 h2 h3 h4 => lv_dload o.1 o.2.1 d (gq_look h4 hl) (y h H locs ls h1 h2 h3 h4)
theorem y_aload_n (o : gq_Ok κ M f) {i : Fin 4} {x : Nat} (d : decode M.2.1 pc = .ok (.aload_n i, 1)) (hl : lv.lookup i.val = some (.ref x)) (y : gq_Y κ M Q E f P lv (pc + 1) (.ref x :: st) k n) : gq_Y κ M Q E f P lv pc st k n := by
  obtain ⟨p, l, e, s, m, args, below, meth, c, A⟩ := f
  exact fun h H locs ls h1 h2 h3 h4 => lv_aload_n o.1 o.2.1 d rfl (gq_look h4 hl) (y h H locs ls h1 h2 h3 h4)
theorem y_aload (o : gq_Ok κ M f) {i : Nat} {x : Nat} (d : decode M.2.1 pc = .ok (.aload i, 2)) (hl : lv.lookup i = some (.ref x)) (y : gq_Y κ M Q E f P lv (pc + 2) (.ref x :: st) k n) : gq_Y κ M Q E f P lv pc st k n := by
  obtain ⟨p, l, e, s, m, args, below, meth, c, A⟩ := f
  exact fun h H locs ls h1 h2 h3 h4 => lv_aload o.1 o.2.1 d (gq_look h4 hl) (y h H locs ls h1 h2 h3 h4)
theorem y_aload_nN (o : gq_Ok κ M f) {i : Fin 4} (d : decode M.2.1 pc = .ok (.aload_n i, 1)) (hl : lv.lookup i.val = some .null) (y : gq_Y κ M Q E f P lv (pc + 1) (.null :: st) k n) : gq_Y κ M Q E f P lv pc st k n := by
  obtain ⟨p, l, e, s, m, args, below, meth, c, A⟩ := f
  exact fun h H locs ls h1 h2 h3 h4 => lv_aload_nN o.1 o.2.1 d rfl (gq_look h4 hl) (y h H locs ls h1 h2 h3 h4)
theorem y_aloadN (o : gq_Ok κ M f) {i : Nat} (d : decode M.2.1 pc = .ok (.aload i, 2)) (hl : lv.lookup i = some .null) (y : gq_Y κ M Q E f P lv (pc + 2) (.null :: st) k n) : gq_Y κ M Q E f P lv pc st k n := by
  obtain ⟨p, l, e, s, m, args, below, meth, c, A⟩ := f
  exact fun h H locs ls h1 h2 h3 h4 => lv_aloadN o.1 o.2.1 d (gq_look h4 hl) (y h H locs ls h1 h2 h3 h4)
theorem y_istore_n (o : gq_Ok κ M f) {j : Fin 4} {i : Nat} {x : Int32} (d : decode M.2.1 pc = .ok (.istore_n j, 1)) (hj : j.val = i) (hi : i < M.2.2.1) (hl : (i, Value.int x) :: lv.filter (fun q => !(q.1 == i) && !(q.1 + 1 == i && q.2.category == 2)) = lv') (y : gq_Y κ M Q E f P lv' (pc + 1) st k n) : gq_Y κ M Q E f P lv pc (.int x :: st) k n := by
  obtain ⟨p, l, e, s, m, args, below, meth, c, A⟩ := f
  exact fun h H locs ls h1 h2 h3 h4 => lv_istore_n o.1 o.2.1 d hj h4 hi hl (fun ls' h5 => y h H locs ls' h1 h2 h3 h5)
theorem y_istore (o : gq_Ok κ M f) {i : Nat} {x : Int32} (d : decode M.2.1 pc = .ok (.istore i, 2)) (hi : i < M.2.2.1) (hl : (i, Value.int x) :: lv.filter (fun q => !(q.1 == i) && !(q.1 + 1 == i && q.2.category == 2)) = lv') (y : gq_Y κ M Q E f P lv' (pc + 2) st k n) : gq_Y κ M Q E f P lv pc (.int x :: st) k n := by
  obtain ⟨p, l, e, s, m, args, below, meth, c, A⟩ := f
  exact fun h H locs ls h1 h2 h3 h4 => lv_istore o.1 o.2.1 d h4 hi hl (fun ls' h5 => y h H locs ls' h1 h2 h3 h5)
theorem y_lstore_n (o : gq_Ok κ M f) {j : Fin 4} {i : Nat} {x : Int64} (d : decode M.2.1 pc = .ok (.lstore_n j, 1)) (hj : j.val = i) (hi : i + 1 < M.2.2.1) (hl : (i, Value.long x) :: lv.filter (fun q => !(q.1 == i) && (!(q.1 == i + 1) && !(q.1 + 1 == i && q.2.category == 2))) = lv') (y : gq_Y κ M Q E f P lv' (pc + 1) st k n) : gq_Y κ M Q E f P lv pc (.long x :: st) k n := by
  obtain ⟨p, l, e, s, m, args, below, meth, c, A⟩ := f
  exact fun h H locs ls h1 h2 h3 h4 => lv_lstore_n o.1 o.2.1 d hj h4 hi hl (fun ls' h5 => y h H locs ls' h1 h2 h3 h5)
theorem y_lstore (o : gq_Ok κ M f) {i : Nat} {x : Int64} (d : decode M.2.1 pc = .ok (.lstore i, 2)) (hi : i + 1 < M.2.2.1) (hl : (i, Value.long x) :: lv.filter (fun q => !(q.1 == i) && (!(q.1 == i + 1) && !(q.1 + 1 == i && q.2.category == 2))) = lv') (y : gq_Y κ M Q E f P lv' (pc + 2) st k n) : gq_Y κ M Q E f P lv pc (.long x :: st) k n := by
  obtain ⟨p, l, e, s, m, args, below, meth, c, A⟩ := f
  exact fun h H locs ls h1 h2 h3 h4 => lv_lstore o.1 o.2.1 d h4 hi hl (fun ls' h5 => y h H locs ls' h1 h2 h3 h5)
theorem y_fstore_n (o : gq_Ok κ M f) {j : Fin 4} {i : Nat} {x : UInt32} (d : decode M.2.1 pc = .ok (.fstore_n j, 1)) (hj : j.val = i) (hi : i < M.2.2.1) (hl : (i, Value.float x) :: lv.filter (fun q => !(q.1 == i) && !(q.1 + 1 == i && q.2.category == 2)) = lv') (y : gq_Y κ M Q E f P lv' (pc + 1) st k n) : gq_Y κ M Q E f P lv pc (.float x :: st) k n := by
  obtain ⟨p, l, e, s, m, args, below, meth, c, A⟩ := f
  exact fun h H locs ls h1 h2 h3 h4 => lv_fstore_n o.1 o.2.1 d hj h4 hi hl (fun ls' h5 => y h H locs ls' h1 h2 h3 h5)
theorem y_fstore (o : gq_Ok κ M f) {i : Nat} {x : UInt32} (d : decode M.2.1 pc = .ok (.fstore i, 2)) (hi : i < M.2.2.1) (hl : (i, Value.float x) :: lv.filter (fun q => !(q.1 == i) && !(q.1 + 1 == i && q.2.category == 2)) = lv') (y : gq_Y κ M Q E f P lv' (pc + 2) st k n) : gq_Y κ M Q E f P lv pc (.float x :: st) k n := by
  obtain ⟨p, l, e, s, m, args, below, meth, c, A⟩ := f
  exact fun h H locs ls h1 h2 h3 h4 => lv_fstore o.1 o.2.1 d h4 hi hl (fun ls' h5 => y h H locs ls' h1 h2 h3 h5)
theorem y_dstore_n (o : gq_Ok κ M f) {j : Fin 4} {i : Nat} {x : UInt64} (d : decode M.2.1 pc = .ok (.dstore_n j, 1)) (hj : j.val = i) (hi : i + 1 < M.2.2.1) (hl : (i, Value.double x) :: lv.filter (fun q => !(q.1 == i) && (!(q.1 == i + 1) && !(q.1 + 1 == i && q.2.category == 2))) = lv') (y : gq_Y κ M Q E f P lv' (pc + 1) st k n) : gq_Y κ M Q E f P lv pc (.double x :: st) k n := by
  obtain ⟨p, l, e, s, m, args, below, meth, c, A⟩ := f
  exact fun h H locs ls h1 h2 h3 h4 => lv_dstore_n o.1 o.2.1 d hj h4 hi hl (fun ls' h5 => y h H locs ls' h1 h2 h3 h5)
theorem y_dstore (o : gq_Ok κ M f) {i : Nat} {x : UInt64} (d : decode M.2.1 pc = .ok (.dstore i, 2)) (hi : i + 1 < M.2.2.1) (hl : (i, Value.double x) :: lv.filter (fun q => !(q.1 == i) && (!(q.1 == i + 1) && !(q.1 + 1 == i && q.2.category == 2))) = lv') (y : gq_Y κ M Q E f P lv' (pc + 2) st k n) : gq_Y κ M Q E f P lv pc (.double x :: st) k n := by
  obtain ⟨p, l, e, s, m, args, below, meth, c, A⟩ := f
  exact fun h H locs ls h1 h2 h3 h4 => lv_dstore o.1 o.2.1 d h4 hi hl (fun ls' h5 => y h H locs ls' h1 h2 h3 h5)
theorem y_astore_n (o : gq_Ok κ M f) {j : Fin 4} {i : Nat} {x : Nat} (d : decode M.2.1 pc = .ok (.astore_n j, 1)) (hj : j.val = i) (hi : i < M.2.2.1) (hl : (i, Value.ref x) :: lv.filter (fun q => !(q.1 == i) && !(q.1 + 1 == i && q.2.category == 2)) = lv') (y : gq_Y κ M Q E f P lv' (pc + 1) st k n) : gq_Y κ M Q E f P lv pc (.ref x :: st) k n := by
  obtain ⟨p, l, e, s, m, args, below, meth, c, A⟩ := f
  exact fun h H locs ls h1 h2 h3 h4 => lv_astore_n o.1 o.2.1 d hj h4 hi hl (fun ls' h5 => y h H locs ls' h1 h2 h3 h5)
theorem y_astore (o : gq_Ok κ M f) {i : Nat} {x : Nat} (d : decode M.2.1 pc = .ok (.astore i, 2)) (hi : i < M.2.2.1) (hl : (i, Value.ref x) :: lv.filter (fun q => !(q.1 == i) && !(q.1 + 1 == i && q.2.category == 2)) = lv') (y : gq_Y κ M Q E f P lv' (pc + 2) st k n) : gq_Y κ M Q E f P lv pc (.ref x :: st) k n := by
  obtain ⟨p, l, e, s, m, args, below, meth, c, A⟩ := f
  exact fun h H locs ls h1 h2 h3 h4 => lv_astore o.1 o.2.1 d h4 hi hl (fun ls' h5 => y h H locs ls' h1 h2 h3 h5)
theorem y_astore_nN (o : gq_Ok κ M f) {j : Fin 4} {i : Nat}  (d : decode M.2.1 pc = .ok (.astore_n j, 1)) (hj : j.val = i) (hi : i < M.2.2.1) (hl : (i, Value.null) :: lv.filter (fun q => !(q.1 == i) && !(q.1 + 1 == i && q.2.category == 2)) = lv') (y : gq_Y κ M Q E f P lv' (pc + 1) st k n) : gq_Y κ M Q E f P lv pc (.null :: st) k n := by
  obtain ⟨p, l, e, s, m, args, below, meth, c, A⟩ := f
  exact fun h H locs ls h1 h2 h3 h4 => lv_astore_nN o.1 o.2.1 d hj h4 hi hl (fun ls' h5 => y h H locs ls' h1 h2 h3 h5)
theorem y_astoreN (o : gq_Ok κ M f) {i : Nat}  (d : decode M.2.1 pc = .ok (.astore i, 2)) (hi : i < M.2.2.1) (hl : (i, Value.null) :: lv.filter (fun q => !(q.1 == i) && !(q.1 + 1 == i && q.2.category == 2)) = lv') (y : gq_Y κ M Q E f P lv' (pc + 2) st k n) : gq_Y κ M Q E f P lv pc (.null :: st) k n := by
  obtain ⟨p, l, e, s, m, args, below, meth, c, A⟩ := f
  exact fun h H locs ls h1 h2 h3 h4 => lv_astoreN o.1 o.2.1 d h4 hi hl (fun ls' h5 => y h H locs ls' h1 h2 h3 h5)
theorem y_iinc (o : gq_Ok κ M f) {i j : Nat} {c0 : Int} {x v : Int32} (d : decode M.2.1 pc = .ok (.iinc i c0, 3)) (hk : lv[j]? = some (i, .int x)) (hv : x + Int32.ofInt c0 = v) (hi : i < M.2.2.1) (hl : (i, Value.int v) :: lv.filter (fun q => !(q.1 == i) && !(q.1 + 1 == i && q.2.category == 2)) = lv') (y : gq_Y κ M Q E f P lv' (pc + 3) st k n) : gq_Y κ M Q E f P lv pc st k n := by
  obtain ⟨p, l, e, s, m, args, below, meth, c, A⟩ := f
  exact fun h H locs ls h1 h2 h3 h4 => lv_iinc o.1 o.2.1 d h4 hk hv hi hl (fun ls' h5 => y h H locs ls' h1 h2 h3 h5)
theorem y_iadd (o : gq_Ok κ M f) {x y : Int32} (d : decode M.2.1 pc = .ok (.iadd, 1))  (yy : gq_Y κ M Q E f P lv (pc + 1) (.int (x + y) :: st) k n) : gq_Y κ M Q E f P lv pc (.int y :: .int x :: st) k n := by
  obtain ⟨p, l, e, s, m, args, below, meth, c, A⟩ := f
  exact fun h H locs ls h1 h2 h3 h4 => lv_iadd o.1 o.2.1 d  (yy h H locs ls h1 h2 h3 h4)
theorem y_isub (o : gq_Ok κ M f) {x y : Int32} (d : decode M.2.1 pc = .ok (.isub, 1))  (yy : gq_Y κ M Q E f P lv (pc + 1) (.int (x - y) :: st) k n) : gq_Y κ M Q E f P lv pc (.int y :: .int x :: st) k n := by
  obtain ⟨p, l, e, s, m, args, below, meth, c, A⟩ := f
  exact fun h H locs ls h1 h2 h3 h4 => lv_isub o.1 o.2.1 d  (yy h H locs ls h1 h2 h3 h4)
theorem y_imul (o : gq_Ok κ M f) {x y : Int32} (d : decode M.2.1 pc = .ok (.imul, 1))  (yy : gq_Y κ M Q E f P lv (pc + 1) (.int (x * y) :: st) k n) : gq_Y κ M Q E f P lv pc (.int y :: .int x :: st) k n := by
  obtain ⟨p, l, e, s, m, args, below, meth, c, A⟩ := f
  exact fun h H locs ls h1 h2 h3 h4 => lv_imul o.1 o.2.1 d  (yy h H locs ls h1 h2 h3 h4)
theorem y_iand (o : gq_Ok κ M f) {x y : Int32} (d : decode M.2.1 pc = .ok (.iand, 1))  (yy : gq_Y κ M Q E f P lv (pc + 1) (.int (x &&& y) :: st) k n) : gq_Y κ M Q E f P lv pc (.int y :: .int x :: st) k n := by
  obtain ⟨p, l, e, s, m, args, below, meth, c, A⟩ := f
  exact fun h H locs ls h1 h2 h3 h4 => lv_iand o.1 o.2.1 d  (yy h H locs ls h1 h2 h3 h4)
theorem y_ior (o : gq_Ok κ M f) {x y : Int32} (d : decode M.2.1 pc = .ok (.ior, 1))  (yy : gq_Y κ M Q E f P lv (pc + 1) (.int (x ||| y) :: st) k n) : gq_Y κ M Q E f P lv pc (.int y :: .int x :: st) k n := by
  obtain ⟨p, l, e, s, m, args, below, meth, c, A⟩ := f
  exact fun h H locs ls h1 h2 h3 h4 => lv_ior o.1 o.2.1 d  (yy h H locs ls h1 h2 h3 h4)
theorem y_idiv (o : gq_Ok κ M f) {x y : Int32} (d : decode M.2.1 pc = .ok (.idiv, 1)) (h0 : ¬ y = 0) (yy : gq_Y κ M Q E f P lv (pc + 1) (.int (x / y) :: st) k n) : gq_Y κ M Q E f P lv pc (.int y :: .int x :: st) k n := by
  obtain ⟨p, l, e, s, m, args, below, meth, c, A⟩ := f
  exact fun h H locs ls h1 h2 h3 h4 => lv_idiv o.1 o.2.1 d h0 (yy h H locs ls h1 h2 h3 h4)
theorem y_irem (o : gq_Ok κ M f) {x y : Int32} (d : decode M.2.1 pc = .ok (.irem, 1)) (h0 : ¬ y = 0) (yy : gq_Y κ M Q E f P lv (pc + 1) (.int (x - x / y * y) :: st) k n) : gq_Y κ M Q E f P lv pc (.int y :: .int x :: st) k n := by
  obtain ⟨p, l, e, s, m, args, below, meth, c, A⟩ := f
  exact fun h H locs ls h1 h2 h3 h4 => lv_irem o.1 o.2.1 d h0 (yy h H locs ls h1 h2 h3 h4)
theorem y_ineg (o : gq_Ok κ M f) {x : Int32} (d : decode M.2.1 pc = .ok (.ineg, 1))  (yy : gq_Y κ M Q E f P lv (pc + 1) (.int (-x) :: st) k n) : gq_Y κ M Q E f P lv pc (.int x :: st) k n := by
  obtain ⟨p, l, e, s, m, args, below, meth, c, A⟩ := f
  exact fun h H locs ls h1 h2 h3 h4 => lv_ineg o.1 o.2.1 d  (yy h H locs ls h1 h2 h3 h4)
theorem y_ladd (o : gq_Ok κ M f) {x y : Int64} (d : decode M.2.1 pc = .ok (.ladd, 1))  (yy : gq_Y κ M Q E f P lv (pc + 1) (.long (x + y) :: st) k n) : gq_Y κ M Q E f P lv pc (.long y :: .long x :: st) k n := by
  obtain ⟨p, l, e, s, m, args, below, meth, c, A⟩ := f
  exact fun h H locs ls h1 h2 h3 h4 => lv_ladd o.1 o.2.1 d  (yy h H locs ls h1 h2 h3 h4)
theorem y_lsub (o : gq_Ok κ M f) {x y : Int64} (d : decode M.2.1 pc = .ok (.lsub, 1))  (yy : gq_Y κ M Q E f P lv (pc + 1) (.long (x - y) :: st) k n) : gq_Y κ M Q E f P lv pc (.long y :: .long x :: st) k n := by
  obtain ⟨p, l, e, s, m, args, below, meth, c, A⟩ := f
  exact fun h H locs ls h1 h2 h3 h4 => lv_lsub o.1 o.2.1 d  (yy h H locs ls h1 h2 h3 h4)
theorem y_lmul (o : gq_Ok κ M f) {x y : Int64} (d : decode M.2.1 pc = .ok (.lmul, 1))  (yy : gq_Y κ M Q E f P lv (pc + 1) (.long (x * y) :: st) k n) : gq_Y κ M Q E f P lv pc (.long y :: .long x :: st) k n := by
  obtain ⟨p, l, e, s, m, args, below, meth, c, A⟩ := f
  exact fun h H locs ls h1 h2 h3 h4 => lv_lmul o.1 o.2.1 d  (yy h H locs ls h1 h2 h3 h4)
theorem y_lrem (o : gq_Ok κ M f) {x y : Int64} (d : decode M.2.1 pc = .ok (.lrem, 1)) (h0 : ¬ y = 0) (yy : gq_Y κ M Q E f P lv (pc + 1) (.long (x - x / y * y) :: st) k n) : gq_Y κ M Q E f P lv pc (.long y :: .long x :: st) k n := by
  obtain ⟨p, l, e, s, m, args, below, meth, c, A⟩ := f
  exact fun h H locs ls h1 h2 h3 h4 => lv_lrem o.1 o.2.1 d h0 (yy h H locs ls h1 h2 h3 h4)
theorem y_ishr (o : gq_Ok κ M f) {x y : Int32} (d : decode M.2.1 pc = .ok (.ishr, 1))  (yy : gq_Y κ M Q E f P lv (pc + 1) (.int (x >>> (y &&& 31)) :: st) k n) : gq_Y κ M Q E f P lv pc (.int y :: .int x :: st) k n := by
  obtain ⟨p, l, e, s, m, args, below, meth, c, A⟩ := f
  exact fun h H locs ls h1 h2 h3 h4 => lv_ishr o.1 o.2.1 d  (yy h H locs ls h1 h2 h3 h4)
theorem y_iushr (o : gq_Ok κ M f) {x y : Int32} (d : decode M.2.1 pc = .ok (.iushr, 1))  (yy : gq_Y κ M Q E f P lv (pc + 1) (.int (x.toUInt32 >>> (y.toUInt32 &&& Int32.toUInt32 31)).toInt32 :: st) k n) : gq_Y κ M Q E f P lv pc (.int y :: .int x :: st) k n := by
  obtain ⟨p, l, e, s, m, args, below, meth, c, A⟩ := f
  exact fun h H locs ls h1 h2 h3 h4 => lv_iushr o.1 o.2.1 d rfl (yy h H locs ls h1 h2 h3 h4)
theorem y_i2l (o : gq_Ok κ M f) {x : Int32} (d : decode M.2.1 pc = .ok (.i2l, 1))  (yy : gq_Y κ M Q E f P lv (pc + 1) (.long x.toInt64 :: st) k n) : gq_Y κ M Q E f P lv pc (.int x :: st) k n := by
  obtain ⟨p, l, e, s, m, args, below, meth, c, A⟩ := f
  exact fun h H locs ls h1 h2 h3 h4 => lv_i2l o.1 o.2.1 d rfl (yy h H locs ls h1 h2 h3 h4)
theorem y_l2i (o : gq_Ok κ M f) {x : Int64} (d : decode M.2.1 pc = .ok (.l2i, 1))  (yy : gq_Y κ M Q E f P lv (pc + 1) (.int x.toInt32 :: st) k n) : gq_Y κ M Q E f P lv pc (.long x :: st) k n := by
  obtain ⟨p, l, e, s, m, args, below, meth, c, A⟩ := f
  exact fun h H locs ls h1 h2 h3 h4 => lv_l2i o.1 o.2.1 d rfl (yy h H locs ls h1 h2 h3 h4)
theorem y_i2b (o : gq_Ok κ M f) {x : Int32} (d : decode M.2.1 pc = .ok (.i2b, 1))  (yy : gq_Y κ M Q E f P lv (pc + 1) (.int x.toInt8.toInt32 :: st) k n) : gq_Y κ M Q E f P lv pc (.int x :: st) k n := by
  obtain ⟨p, l, e, s, m, args, below, meth, c, A⟩ := f
  exact fun h H locs ls h1 h2 h3 h4 => lv_i2b o.1 o.2.1 d rfl (yy h H locs ls h1 h2 h3 h4)
theorem y_i2c (o : gq_Ok κ M f) {x v : Int32} (d : decode M.2.1 pc = .ok (.i2c, 1)) (hv : (x.toUInt32 % 65536).toInt32 = v) (yy : gq_Y κ M Q E f P lv (pc + 1) (.int v :: st) k n) : gq_Y κ M Q E f P lv pc (.int x :: st) k n := by
  obtain ⟨p, l, e, s, m, args, below, meth, c, A⟩ := f
  exact fun h H locs ls h1 h2 h3 h4 => lv_i2c o.1 o.2.1 d hv (yy h H locs ls h1 h2 h3 h4)
theorem y_i2f (o : gq_Ok κ M f) {x : Int32} (d : decode M.2.1 pc = .ok (.i2f, 1))  (yy : gq_Y κ M Q E f P lv (pc + 1) (.float (FP.i2f x) :: st) k n) : gq_Y κ M Q E f P lv pc (.int x :: st) k n := by
  obtain ⟨p, l, e, s, m, args, below, meth, c, A⟩ := f
  exact fun h H locs ls h1 h2 h3 h4 => lv_i2f o.1 o.2.1 d  (yy h H locs ls h1 h2 h3 h4)
theorem y_i2d (o : gq_Ok κ M f) {x : Int32} (d : decode M.2.1 pc = .ok (.i2d, 1))  (yy : gq_Y κ M Q E f P lv (pc + 1) (.double (FP.i2d x) :: st) k n) : gq_Y κ M Q E f P lv pc (.int x :: st) k n := by
  obtain ⟨p, l, e, s, m, args, below, meth, c, A⟩ := f
  exact fun h H locs ls h1 h2 h3 h4 => lv_i2d o.1 o.2.1 d  (yy h H locs ls h1 h2 h3 h4)
theorem y_fdiv (o : gq_Ok κ M f) {x y : UInt32} (d : decode M.2.1 pc = .ok (.fdiv, 1)) (hn : vf_n32 (FP.fdiv x y)) (yy : gq_Y κ M Q E f P lv (pc + 1) (.float (FP.fdiv x y) :: st) k n) : gq_Y κ M Q E f P lv pc (.float y :: .float x :: st) k n := by
  obtain ⟨p, l, e, s, m, args, below, meth, c, A⟩ := f
  exact fun h H locs ls h1 h2 h3 h4 => lv_fdiv o.1 o.2.1 d hn (yy h H locs ls h1 h2 h3 h4)
theorem y_ddiv (o : gq_Ok κ M f) {x y : UInt64} (d : decode M.2.1 pc = .ok (.ddiv, 1)) (hn : vf_n64 (FP.ddiv x y)) (yy : gq_Y κ M Q E f P lv (pc + 1) (.double (FP.ddiv x y) :: st) k n) : gq_Y κ M Q E f P lv pc (.double y :: .double x :: st) k n := by
  obtain ⟨p, l, e, s, m, args, below, meth, c, A⟩ := f
  exact fun h H locs ls h1 h2 h3 h4 => lv_ddiv o.1 o.2.1 d hn (yy h H locs ls h1 h2 h3 h4)
theorem y_f2d (o : gq_Ok κ M f) {x : UInt32} (d : decode M.2.1 pc = .ok (.f2d, 1)) (hn : vf_n64 (FP.f2d x)) (yy : gq_Y κ M Q E f P lv (pc + 1) (.double (FP.f2d x) :: st) k n) : gq_Y κ M Q E f P lv pc (.float x :: st) k n := by
  obtain ⟨p, l, e, s, m, args, below, meth, c, A⟩ := f
  exact fun h H locs ls h1 h2 h3 h4 => lv_f2d o.1 o.2.1 d hn (yy h H locs ls h1 h2 h3 h4)
theorem y_dcmp (o : gq_Ok κ M f) {x y : UInt64} {op : CmpOp} (d : decode M.2.1 pc = .ok (.dcmp op, 1))  (yy : gq_Y κ M Q E f P lv (pc + 1) (.int (Op.cmpValue (FP.dcmp x y) op) :: st) k n) : gq_Y κ M Q E f P lv pc (.double y :: .double x :: st) k n := by
  obtain ⟨p, l, e, s, m, args, below, meth, c, A⟩ := f
  exact fun h H locs ls h1 h2 h3 h4 => lv_dcmp o.1 o.2.1 d  (yy h H locs ls h1 h2 h3 h4)
theorem y_fcmp (o : gq_Ok κ M f) {x y : UInt32} {op : CmpOp} (d : decode M.2.1 pc = .ok (.fcmp op, 1))  (yy : gq_Y κ M Q E f P lv (pc + 1) (.int (Op.cmpValue (FP.fcmp x y) op) :: st) k n) : gq_Y κ M Q E f P lv pc (.float y :: .float x :: st) k n := by
  obtain ⟨p, l, e, s, m, args, below, meth, c, A⟩ := f
  exact fun h H locs ls h1 h2 h3 h4 => lv_fcmp o.1 o.2.1 d  (yy h H locs ls h1 h2 h3 h4)
theorem y_dup (o : gq_Ok κ M f) {v : Value} (d : decode M.2.1 pc = .ok (.dup, 1)) (hv : v.category = 1) (yy : gq_Y κ M Q E f P lv (pc + 1) (v :: v :: st) k n) : gq_Y κ M Q E f P lv pc (v :: st) k n := by
  obtain ⟨p, l, e, s, m, args, below, meth, c, A⟩ := f
  exact fun h H locs ls h1 h2 h3 h4 => lv_dup o.1 o.2.1 d hv (yy h H locs ls h1 h2 h3 h4)
theorem y_null (o : gq_Ok κ M f)  (d : decode M.2.1 pc = .ok (.aconst_null, 1))  (yy : gq_Y κ M Q E f P lv (pc + 1) (.null :: st) k n) : gq_Y κ M Q E f P lv pc (st) k n := by
  obtain ⟨p, l, e, s, m, args, below, meth, c, A⟩ := f
  exact fun h H locs ls h1 h2 h3 h4 => lv_null o.1 o.2.1 d  (yy h H locs ls h1 h2 h3 h4)
theorem y_if_eq (o : gq_Ok κ M f) {x : Int32} {off : Int} {tgt : Nat} (d : decode M.2.1 pc = .ok (.ifCond .eq off, 3)) (ht : (pc : Int) + off = (tgt : Int)) (yt : x = 0 → gq_Y κ M Q E f P lv tgt st k n) (yf : ¬ x = 0 → gq_Y κ M Q E f P lv (pc + 3) st k n) : gq_Y κ M Q E f P lv pc (.int x :: st) k n := by
  obtain ⟨p, l, e, s, m, args, below, meth, c, A⟩ := f
  exact fun h H locs ls h1 h2 h3 h4 => lv_if_eq o.1 o.2.1 d ht (fun q => yt q h H locs ls h1 h2 h3 h4) (fun q => yf q h H locs ls h1 h2 h3 h4)
theorem y_icmp_eq (o : gq_Ok κ M f) {x y : Int32} {off : Int} {tgt : Nat} (d : decode M.2.1 pc = .ok (.if_icmp .eq off, 3)) (ht : (pc : Int) + off = (tgt : Int)) (yt : x = y → gq_Y κ M Q E f P lv tgt st k n) (yf : ¬ x = y → gq_Y κ M Q E f P lv (pc + 3) st k n) : gq_Y κ M Q E f P lv pc (.int y :: .int x :: st) k n := by
  obtain ⟨p, l, e, s, m, args, below, meth, c, A⟩ := f
  exact fun h H locs ls h1 h2 h3 h4 => lv_icmp_eq o.1 o.2.1 d ht (fun q => yt q h H locs ls h1 h2 h3 h4) (fun q => yf q h H locs ls h1 h2 h3 h4)
theorem y_if_ne (o : gq_Ok κ M f) {x : Int32} {off : Int} {tgt : Nat} (d : decode M.2.1 pc = .ok (.ifCond .ne off, 3)) (ht : (pc : Int) + off = (tgt : Int)) (yt : ¬ x = 0 → gq_Y κ M Q E f P lv tgt st k n) (yf : x = 0 → gq_Y κ M Q E f P lv (pc + 3) st k n) : gq_Y κ M Q E f P lv pc (.int x :: st) k n := by
  obtain ⟨p, l, e, s, m, args, below, meth, c, A⟩ := f
  exact fun h H locs ls h1 h2 h3 h4 => lv_if_ne o.1 o.2.1 d ht (fun q => yt q h H locs ls h1 h2 h3 h4) (fun q => yf q h H locs ls h1 h2 h3 h4)
theorem y_icmp_ne (o : gq_Ok κ M f) {x y : Int32} {off : Int} {tgt : Nat} (d : decode M.2.1 pc = .ok (.if_icmp .ne off, 3)) (ht : (pc : Int) + off = (tgt : Int)) (yt : ¬ x = y → gq_Y κ M Q E f P lv tgt st k n) (yf : x = y → gq_Y κ M Q E f P lv (pc + 3) st k n) : gq_Y κ M Q E f P lv pc (.int y :: .int x :: st) k n := by
  obtain ⟨p, l, e, s, m, args, below, meth, c, A⟩ := f
  exact fun h H locs ls h1 h2 h3 h4 => lv_icmp_ne o.1 o.2.1 d ht (fun q => yt q h H locs ls h1 h2 h3 h4) (fun q => yf q h H locs ls h1 h2 h3 h4)
theorem y_if_lt (o : gq_Ok κ M f) {x : Int32} {off : Int} {tgt : Nat} (d : decode M.2.1 pc = .ok (.ifCond .lt off, 3)) (ht : (pc : Int) + off = (tgt : Int)) (yt : x < 0 → gq_Y κ M Q E f P lv tgt st k n) (yf : ¬ x < 0 → gq_Y κ M Q E f P lv (pc + 3) st k n) : gq_Y κ M Q E f P lv pc (.int x :: st) k n := by
  obtain ⟨p, l, e, s, m, args, below, meth, c, A⟩ := f
  exact fun h H locs ls h1 h2 h3 h4 => lv_if_lt o.1 o.2.1 d ht (fun q => yt q h H locs ls h1 h2 h3 h4) (fun q => yf q h H locs ls h1 h2 h3 h4)
theorem y_icmp_lt (o : gq_Ok κ M f) {x y : Int32} {off : Int} {tgt : Nat} (d : decode M.2.1 pc = .ok (.if_icmp .lt off, 3)) (ht : (pc : Int) + off = (tgt : Int)) (yt : x < y → gq_Y κ M Q E f P lv tgt st k n) (yf : ¬ x < y → gq_Y κ M Q E f P lv (pc + 3) st k n) : gq_Y κ M Q E f P lv pc (.int y :: .int x :: st) k n := by
  obtain ⟨p, l, e, s, m, args, below, meth, c, A⟩ := f
  exact fun h H locs ls h1 h2 h3 h4 => lv_icmp_lt o.1 o.2.1 d ht (fun q => yt q h H locs ls h1 h2 h3 h4) (fun q => yf q h H locs ls h1 h2 h3 h4)
theorem y_if_ge (o : gq_Ok κ M f) {x : Int32} {off : Int} {tgt : Nat} (d : decode M.2.1 pc = .ok (.ifCond .ge off, 3)) (ht : (pc : Int) + off = (tgt : Int)) (yt : 0 ≤ x → gq_Y κ M Q E f P lv tgt st k n) (yf : ¬ 0 ≤ x → gq_Y κ M Q E f P lv (pc + 3) st k n) : gq_Y κ M Q E f P lv pc (.int x :: st) k n := by
  obtain ⟨p, l, e, s, m, args, below, meth, c, A⟩ := f
  exact fun h H locs ls h1 h2 h3 h4 => lv_if_ge o.1 o.2.1 d ht (fun q => yt q h H locs ls h1 h2 h3 h4) (fun q => yf q h H locs ls h1 h2 h3 h4)
theorem y_icmp_ge (o : gq_Ok κ M f) {x y : Int32} {off : Int} {tgt : Nat} (d : decode M.2.1 pc = .ok (.if_icmp .ge off, 3)) (ht : (pc : Int) + off = (tgt : Int)) (yt : y ≤ x → gq_Y κ M Q E f P lv tgt st k n) (yf : ¬ y ≤ x → gq_Y κ M Q E f P lv (pc + 3) st k n) : gq_Y κ M Q E f P lv pc (.int y :: .int x :: st) k n := by
  obtain ⟨p, l, e, s, m, args, below, meth, c, A⟩ := f
  exact fun h H locs ls h1 h2 h3 h4 => lv_icmp_ge o.1 o.2.1 d ht (fun q => yt q h H locs ls h1 h2 h3 h4) (fun q => yf q h H locs ls h1 h2 h3 h4)
theorem y_if_gt (o : gq_Ok κ M f) {x : Int32} {off : Int} {tgt : Nat} (d : decode M.2.1 pc = .ok (.ifCond .gt off, 3)) (ht : (pc : Int) + off = (tgt : Int)) (yt : 0 < x → gq_Y κ M Q E f P lv tgt st k n) (yf : ¬ 0 < x → gq_Y κ M Q E f P lv (pc + 3) st k n) : gq_Y κ M Q E f P lv pc (.int x :: st) k n := by
  obtain ⟨p, l, e, s, m, args, below, meth, c, A⟩ := f
  exact fun h H locs ls h1 h2 h3 h4 => lv_if_gt o.1 o.2.1 d ht (fun q => yt q h H locs ls h1 h2 h3 h4) (fun q => yf q h H locs ls h1 h2 h3 h4)
theorem y_icmp_gt (o : gq_Ok κ M f) {x y : Int32} {off : Int} {tgt : Nat} (d : decode M.2.1 pc = .ok (.if_icmp .gt off, 3)) (ht : (pc : Int) + off = (tgt : Int)) (yt : y < x → gq_Y κ M Q E f P lv tgt st k n) (yf : ¬ y < x → gq_Y κ M Q E f P lv (pc + 3) st k n) : gq_Y κ M Q E f P lv pc (.int y :: .int x :: st) k n := by
  obtain ⟨p, l, e, s, m, args, below, meth, c, A⟩ := f
  exact fun h H locs ls h1 h2 h3 h4 => lv_icmp_gt o.1 o.2.1 d ht (fun q => yt q h H locs ls h1 h2 h3 h4) (fun q => yf q h H locs ls h1 h2 h3 h4)
theorem y_if_le (o : gq_Ok κ M f) {x : Int32} {off : Int} {tgt : Nat} (d : decode M.2.1 pc = .ok (.ifCond .le off, 3)) (ht : (pc : Int) + off = (tgt : Int)) (yt : x ≤ 0 → gq_Y κ M Q E f P lv tgt st k n) (yf : ¬ x ≤ 0 → gq_Y κ M Q E f P lv (pc + 3) st k n) : gq_Y κ M Q E f P lv pc (.int x :: st) k n := by
  obtain ⟨p, l, e, s, m, args, below, meth, c, A⟩ := f
  exact fun h H locs ls h1 h2 h3 h4 => lv_if_le o.1 o.2.1 d ht (fun q => yt q h H locs ls h1 h2 h3 h4) (fun q => yf q h H locs ls h1 h2 h3 h4)
theorem y_icmp_le (o : gq_Ok κ M f) {x y : Int32} {off : Int} {tgt : Nat} (d : decode M.2.1 pc = .ok (.if_icmp .le off, 3)) (ht : (pc : Int) + off = (tgt : Int)) (yt : x ≤ y → gq_Y κ M Q E f P lv tgt st k n) (yf : ¬ x ≤ y → gq_Y κ M Q E f P lv (pc + 3) st k n) : gq_Y κ M Q E f P lv pc (.int y :: .int x :: st) k n := by
  obtain ⟨p, l, e, s, m, args, below, meth, c, A⟩ := f
  exact fun h H locs ls h1 h2 h3 h4 => lv_icmp_le o.1 o.2.1 d ht (fun q => yt q h H locs ls h1 h2 h3 h4) (fun q => yf q h H locs ls h1 h2 h3 h4)
theorem y_goto (o : gq_Ok κ M f) {off : Int} {tgt : Nat} (d : decode M.2.1 pc = .ok (.goto off, 3)) (ht : (pc : Int) + off = (tgt : Int)) (y : gq_Y κ M Q E f P lv tgt st k n) : gq_Y κ M Q E f P lv pc st k n := by
  obtain ⟨p, l, e, s, m, args, below, meth, c, A⟩ := f
  exact fun h H locs ls h1 h2 h3 h4 => lv_goto o.1 o.2.1 d ht (y h H locs ls h1 h2 h3 h4)
theorem y_ifnonnull (o : gq_Ok κ M f) {x : Nat} {off : Int} {tgt : Nat} (d : decode M.2.1 pc = .ok (.ifnonnull off, 3)) (ht : (pc : Int) + off = (tgt : Int)) (y : gq_Y κ M Q E f P lv tgt st k n) : gq_Y κ M Q E f P lv pc (.ref x :: st) k n := by
  obtain ⟨p, l, e, s, m, args, below, meth, c, A⟩ := f
  exact fun h H locs ls h1 h2 h3 h4 => lv_ifnonnull o.1 o.2.1 d ht (y h H locs ls h1 h2 h3 h4)
theorem y_ifnull (o : gq_Ok κ M f) {x : Nat} {off : Int} (d : decode M.2.1 pc = .ok (.ifnull off, 3)) (y : gq_Y κ M Q E f P lv (pc + 3) st k n) : gq_Y κ M Q E f P lv pc (.ref x :: st) k n := by
  obtain ⟨p, l, e, s, m, args, below, meth, c, A⟩ := f
  exact fun h H locs ls h1 h2 h3 h4 => lv_ifnull o.1 o.2.1 d (y h H locs ls h1 h2 h3 h4)
theorem y_ifnullN (o : gq_Ok κ M f) {off : Int} {tgt : Nat} (d : decode M.2.1 pc = .ok (.ifnull off, 3)) (ht : (pc : Int) + off = (tgt : Int)) (y : gq_Y κ M Q E f P lv tgt st k n) : gq_Y κ M Q E f P lv pc (.null :: st) k n := by
  obtain ⟨p, l, e, s, m, args, below, meth, c, A⟩ := f
  exact fun h H locs ls h1 h2 h3 h4 => lv_ifnullN o.1 o.2.1 d ht (y h H locs ls h1 h2 h3 h4)
theorem y_ifnonnullN (o : gq_Ok κ M f) {off : Int} (d : decode M.2.1 pc = .ok (.ifnonnull off, 3)) (y : gq_Y κ M Q E f P lv (pc + 3) st k n) : gq_Y κ M Q E f P lv pc (.null :: st) k n := by
  obtain ⟨p, l, e, s, m, args, below, meth, c, A⟩ := f
  exact fun h H locs ls h1 h2 h3 h4 => lv_ifnonnullN o.1 o.2.1 d (y h H locs ls h1 h2 h3 h4)
theorem y_bipush (o : gq_Ok κ M f) {v : Int} {x : Int32} (d : decode M.2.1 pc = .ok (.bipush v, 2)) (hv : (Int8.ofInt v).toInt32 = x) (y : gq_Y κ M Q E f P lv (pc + 2) (.int x :: st) k n) : gq_Y κ M Q E f P lv pc st k n := by
  obtain ⟨p, l, e, s, m, args, below, meth, c, A⟩ := f
  exact fun h H locs ls h1 h2 h3 h4 => lv_bipush o.1 o.2.1 d hv (y h H locs ls h1 h2 h3 h4)
theorem y_sipush (o : gq_Ok κ M f) {v : Int} {x : Int32} (d : decode M.2.1 pc = .ok (.sipush v, 3)) (hv : (Int16.ofInt v).toInt32 = x) (y : gq_Y κ M Q E f P lv (pc + 3) (.int x :: st) k n) : gq_Y κ M Q E f P lv pc st k n := by
  obtain ⟨p, l, e, s, m, args, below, meth, c, A⟩ := f
  exact fun h H locs ls h1 h2 h3 h4 => lv_sipush o.1 o.2.1 d hv (y h H locs ls h1 h2 h3 h4)
theorem y_lconst (o : gq_Ok κ M f) {v : Fin 2} {x : Int64} (d : decode M.2.1 pc = .ok (.lconst v, 1)) (hv : Int64.ofNat (v : Nat) = x) (y : gq_Y κ M Q E f P lv (pc + 1) (.long x :: st) k n) : gq_Y κ M Q E f P lv pc st k n := by
  obtain ⟨p, l, e, s, m, args, below, meth, c, A⟩ := f
  exact fun h H locs ls h1 h2 h3 h4 => lv_lconst o.1 o.2.1 d hv (y h H locs ls h1 h2 h3 h4)
theorem y_lcmp (o : gq_Ok κ M f) {x y : Int64} (d : decode M.2.1 pc = .ok (.lcmp, 1)) (yy : gq_Y κ M Q E f P lv (pc + 1) (.int (lg_cmp x y) :: st) k n) : gq_Y κ M Q E f P lv pc (.long y :: .long x :: st) k n := by
  obtain ⟨p, l, e, s, m, args, below, meth, c, A⟩ := f
  exact fun h H locs ls h1 h2 h3 h4 => W.lcmp o.1 o.2.1 d (yy h H locs ls h1 h2 h3 h4)
theorem y_ldc (o : gq_Ok κ M f) {i : Nat} {v : Int32} (d : decode M.2.1 pc = .ok (.ldc i, 2)) (hw : Cond.constant M.1.cls i v ∈ gq_ws) (y : gq_Y κ M Q E f P lv (pc + 2) (.int v :: st) k n) : gq_Y κ M Q E f P lv pc st k n := by
  obtain ⟨p, l, e, s, m, args, below, meth, c, A⟩ := f
  exact fun h H locs ls h1 h2 h3 h4 => lv_ldc o.1 o.2.1 o.2.2.2.1 (o.2.2.2.2.1 _ hw) d (y h H locs ls h1 h2 h3 h4)
theorem y_ldcw (o : gq_Ok κ M f) {i : Nat} {v : Int32} (d : decode M.2.1 pc = .ok (.ldc_w i, 3)) (hw : Cond.constant M.1.cls i v ∈ gq_ws) (y : gq_Y κ M Q E f P lv (pc + 3) (.int v :: st) k n) : gq_Y κ M Q E f P lv pc st k n := by
  obtain ⟨p, l, e, s, m, args, below, meth, c, A⟩ := f
  exact fun h H locs ls h1 h2 h3 h4 => lv_ldcw o.1 o.2.1 o.2.2.2.1 (o.2.2.2.2.1 _ hw) d (y h H locs ls h1 h2 h3 h4)
theorem y_ldc2 (o : gq_Ok κ M f) {i : Nat} {v : Int64} (d : decode M.2.1 pc = .ok (.ldc2_w i, 3)) (hw : Cond.constantLong M.1.cls i v ∈ gq_ws) (y : gq_Y κ M Q E f P lv (pc + 3) (.long v :: st) k n) : gq_Y κ M Q E f P lv pc st k n := by
  obtain ⟨p, l, e, s, m, args, below, meth, c, A⟩ := f
  exact fun h H locs ls h1 h2 h3 h4 => lv_ldc2 o.1 o.2.1 o.2.2.2.1 (o.2.2.2.2.1 _ hw) d (y h H locs ls h1 h2 h3 h4)
/-- a string constant: the i-th of gq_strs -/
theorem y_ldcS (o : gq_Ok κ M f) {ix : Nat} (i : Nat) {tx : String} (d : decode M.2.1 pc = .ok (.ldc ix, 2)) (hs : gq_strs[i]? = some (M.1.cls, ix, tx)) (y : gq_Y κ M Q E f P lv (pc + 2) (.ref (κ.2.2 i) :: st) k n) : gq_Y κ M Q E f P lv pc st k n := by
  obtain ⟨p, l, e, s, m, args, below, meth, c, A⟩ := f
  exact fun h H locs ls h1 h2 h3 h4 => va_ldcS o.1 o.2.1 o.2.2.2.1 (o.2.2.2.2.2.1.2.2.2.2.2.2.2.2.1 i _ hs) d (y h H locs ls h1 h2 h3 h4)
theorem y_pop (o : gq_Ok κ M f) {v : Value} (d : decode M.2.1 pc = .ok (.pop, 1)) (hv : v.category = 1) (y : gq_Y κ M Q E f P lv (pc + 1) st k n) : gq_Y κ M Q E f P lv pc (v :: st) k n := by
  obtain ⟨p, l, e, s, m, args, below, meth, c, A⟩ := f
  exact fun h H locs ls h1 h2 h3 h4 => lv_pop o.1 o.2.1 d hv (y h H locs ls h1 h2 h3 h4)
theorem y_dup_x1 (o : gq_Ok κ M f) {v w : Value} (d : decode M.2.1 pc = .ok (.dup_x1, 1)) (hv : v.category = 1) (hw : w.category = 1) (y : gq_Y κ M Q E f P lv (pc + 1) (v :: w :: v :: st) k n) : gq_Y κ M Q E f P lv pc (v :: w :: st) k n := by
  obtain ⟨p, l, e, s, m, args, below, meth, c, A⟩ := f
  exact fun h H locs ls h1 h2 h3 h4 => lv_dup_x1 o.1 o.2.1 d hv hw (y h H locs ls h1 h2 h3 h4)
theorem y_dup2 (o : gq_Ok κ M f) {v w : Value} (d : decode M.2.1 pc = .ok (.dup2, 1)) (hv : v.category = 1) (hw : w.category = 1) (y : gq_Y κ M Q E f P lv (pc + 1) (v :: w :: v :: w :: st) k n) : gq_Y κ M Q E f P lv pc (v :: w :: st) k n := by
  obtain ⟨p, l, e, s, m, args, below, meth, c, A⟩ := f
  exact fun h H locs ls h1 h2 h3 h4 => lv_dup2_11 o.1 o.2.1 d hv hw (y h H locs ls h1 h2 h3 h4)
theorem y_acmp_eq (o : gq_Ok κ M f) {x y : Option Nat} {off : Int} {tgt : Nat} (d : decode M.2.1 pc = .ok (.if_acmp .eq off, 3)) (ht : (pc : Int) + off = (tgt : Int)) {vx vy : Value} (hx : vx = va_rf x) (hy : vy = va_rf y) (yt : x = y → gq_Y κ M Q E f P lv tgt st k n) (yf : ¬ x = y → gq_Y κ M Q E f P lv (pc + 3) st k n) : gq_Y κ M Q E f P lv pc (vy :: vx :: st) k n := by
  subst hx; subst hy
  obtain ⟨p, l, e, s, m, args, below, meth, c, A⟩ := f
  exact fun h H locs ls h1 h2 h3 h4 => lv_acmp_eq o.1 o.2.1 d ht (fun q => yt q h H locs ls h1 h2 h3 h4) (fun q => yf q h H locs ls h1 h2 h3 h4)
theorem y_acmp_ne (o : gq_Ok κ M f) {x y : Option Nat} {off : Int} {tgt : Nat} (d : decode M.2.1 pc = .ok (.if_acmp .ne off, 3)) (ht : (pc : Int) + off = (tgt : Int)) {vx vy : Value} (hx : vx = va_rf x) (hy : vy = va_rf y) (yt : ¬ x = y → gq_Y κ M Q E f P lv tgt st k n) (yf : x = y → gq_Y κ M Q E f P lv (pc + 3) st k n) : gq_Y κ M Q E f P lv pc (vy :: vx :: st) k n := by
  subst hx; subst hy
  obtain ⟨p, l, e, s, m, args, below, meth, c, A⟩ := f
  exact fun h H locs ls h1 h2 h3 h4 => lv_acmp_ne o.1 o.2.1 d ht (fun q => yt q h H locs ls h1 h2 h3 h4) (fun q => yf q h H locs ls h1 h2 h3 h4)
theorem y_lookup (o : gq_Ok κ M f) {dflt : Int} {ps : Array (Int × Int)} {len : Nat} {x : Int32} {off : Int} {tgt : Nat} (d : decode M.2.1 pc = .ok (.lookupswitch dflt ps, len)) (hp : (ps.toList.zip (ps.toList.drop 1)).all (fun (a, next) => a.1 < next.1) = true) (ho : Op.lookupswitch.offset ps.toList dflt x.toInt = off) (ht : (pc : Int) + off = (tgt : Int)) (y : gq_Y κ M Q E f P lv tgt st k n) : gq_Y κ M Q E f P lv pc (.int x :: st) k n := by
  obtain ⟨p, l, e, s, m, args, below, meth, c, A⟩ := f
  exact fun h H locs ls h1 h2 h3 h4 => lv_lookup o.1 o.2.1 d hp ho ht (y h H locs ls h1 h2 h3 h4)
theorem y_tableOut (o : gq_Ok κ M f) {dflt lo hi : Int} {offs : Array Int} {len : Nat} {x : Int32} {tgt : Nat} (d : decode M.2.1 pc = .ok (.tableswitch dflt lo hi offs, len)) (hx : x.toInt < lo ∨ hi < x.toInt) (ht : (pc : Int) + dflt = (tgt : Int)) (y : gq_Y κ M Q E f P lv tgt st k n) : gq_Y κ M Q E f P lv pc (.int x :: st) k n := by
  obtain ⟨p, l, e, s, m, args, below, meth, c, A⟩ := f
  exact fun h H locs ls h1 h2 h3 h4 => lv_tableOut o.1 o.2.1 d hx ht (y h H locs ls h1 h2 h3 h4)
theorem y_tableIn (o : gq_Ok κ M f) {dflt lo hi : Int} {offs : Array Int} {len : Nat} {x : Int32} {off : Int} {tgt : Nat} (d : decode M.2.1 pc = .ok (.tableswitch dflt lo hi offs, len)) (hx1 : ¬ x.toInt < lo) (hx2 : ¬ hi < x.toInt) (ho : offs[(x.toInt - lo).toNat]? = some off) (ht : (pc : Int) + off = (tgt : Int)) (y : gq_Y κ M Q E f P lv tgt st k n) : gq_Y κ M Q E f P lv pc (.int x :: st) k n := by
  obtain ⟨p, l, e, s, m, args, below, meth, c, A⟩ := f
  exact fun h H locs ls h1 h2 h3 h4 => lv_tableIn o.1 o.2.1 d hx1 hx2 ho ht (y h H locs ls h1 h2 h3 h4)
-- ===== fields =====
/-- a getfield or putfield of the class own: entry idx is field kf of the class ci -/
def gq_FL (own : String) (idx ci kf : Nat) : Prop := ∃ (C : String) (T : u_T) (N : Nat) (ref : String), vwCl[ci]? = some (C, T, N) ∧ (∀ w ∈ u_ws C T N, w ∈ gq_ws) ∧ kf < N ∧ (Cond.fieldLink own idx ref (T kf).2.1 (T kf).2.2.1 ∈ gq_ws ∨ ∃ host : String, (own, idx, ref, (T kf).2.1, (T kf).2.2.1, host) ∈ gq_nf) ∧ ((T kf).1 = ref ∨ Cond.sameField ref (T kf).1 (T kf).2.1 (T kf).2.2.1 ∈ gq_ws)
/-- and it may be written with values of the type ty -/
def gq_FW (own : String) (idx ci kf : Nat) (ty : FieldType) : Prop := ∃ (C : String) (T : u_T) (N : Nat) (ref : String) (ty0 : Nat → FieldType), vwCl[ci]? = some (C, T, N) ∧ (∀ w ∈ u_ws C T N, w ∈ gq_ws) ∧ kf < N ∧ (Cond.fieldLink own idx ref (T kf).2.1 (T kf).2.2.1 ∈ gq_ws ∨ ∃ host : String, (own, idx, ref, (T kf).2.1, (T kf).2.2.1, host) ∈ gq_nf) ∧ ((T kf).1 = ref ∨ Cond.sameField ref (T kf).1 (T kf).2.1 (T kf).2.2.1 ∈ gq_ws) ∧ (∀ j, j < N → parseFieldDescriptor (T j).2.2.1 = some (ty0 j)) ∧ (∀ a, a < N → ∀ b, b < N → a ≠ b → (T a).2.1 ≠ (T b).2.1) ∧ (T kf).2.2.2 = false ∧ parseFieldDescriptor (T kf).2.2.1 = some ty
/-- a final one, in its class's constructor -/
def gq_FF (own : String) (idx ci kf : Nat) (ty : FieldType) : Prop := ∃ (C : String) (T : u_T) (N : Nat) (ref : String) (ty0 : Nat → FieldType), vwCl[ci]? = some (C, T, N) ∧ (∀ w ∈ u_ws C T N, w ∈ gq_ws) ∧ kf < N ∧ Cond.fieldLink own idx ref (T kf).2.1 (T kf).2.2.1 ∈ gq_ws ∧ (T kf).1 = ref ∧ (∀ j, j < N → parseFieldDescriptor (T j).2.2.1 = some (ty0 j)) ∧ (∀ a, a < N → ∀ b, b < N → a ≠ b → (T a).2.1 ≠ (T b).2.1) ∧ (T kf).2.2.2 = true ∧ (T kf).1 = own ∧ parseFieldDescriptor (T kf).2.2.1 = some ty
theorem gq_same {args : Array Value} {s : State} {ref o nm ds : String} (hts : ∀ w ∈ gq_ws, w.before args s = true) (h : o = ref ∨ Cond.sameField ref o nm ds ∈ gq_ws) : ∀ x, s.fieldFound? o nm ds = some x → s.fieldFound? ref nm ds = some x := by
  intro x hx
  rcases h with h | h
  · rw [← h]; exact hx
  · exact u_same (hts _ h) x hx
set_option maxHeartbeats 1000000 in
theorem y_get (o : gq_Ok κ M f) {idx ci kf a : Nat} {fs : List Value} {v : Value} (fl : gq_FL M.1.cls idx ci kf) (d : decode M.2.1 pc = .ok (.getfield idx, 3)) (ha : ∀ h, P h → h a = some (.inr (ci, fs))) (hv : fs[kf]? = some v) (y : gq_Y κ M Q E f P lv (pc + 3) (v :: st) k n) : gq_Y κ M Q E f P lv pc (.ref a :: st) k n := by
  obtain ⟨p, l, e, s, m, args, below, meth, c, A⟩ := f
  intro h H locs ls h1 h2 h3 h4
  obtain ⟨ws, hP, hD, hw⟩ := h2.place
  obtain ⟨q0, hq0⟩ := hw a _ (ha h h1)
  obtain ⟨C, T, N, ref, hc, hin, hk, hlink, hsame⟩ := fl
  obtain ⟨hx, hb, hml, hown, hts, hTB, -⟩ := id o
  rcases hlink with hl | ⟨host, hl⟩
  · exact va_get hx hb hts hin hown hTB.1 hP q0 hq0 hc kf hk (hts _ hl) (gq_same hts hsame) hv d (y h H locs ls h1 h2 h3 h4)
  · exact va_getN hx hb hts hin hown hTB.1 hP q0 hq0 hc kf hk (va_Nw.use rfl (hTB.2.1 _ hl)) (gq_same hts hsame) hv d (y h H locs ls h1 h2 h3 h4)
set_option maxHeartbeats 1000000 in
theorem y_put (o : gq_Ok κ M f) {idx ci kf a : Nat} {ty : FieldType} {fs : List Value} {v : Value} (fl : gq_FW M.1.cls idx ci kf ty) (d : decode M.2.1 pc = .ok (.putfield idx, 3)) (ha : ∀ h, P h → h a = some (.inr (ci, fs))) (hlen : kf < fs.length) (hn : narrow ty v = v) (hf : fits ty v = true) (hp : ∀ h, P h → P' (gq_hs h a (.inr (ci, fs.set kf v)))) (y : gq_Y κ M Q E f P' lv (pc + 3) st k n) : gq_Y κ M Q E f P lv pc (v :: .ref a :: st) k n := by
  obtain ⟨p, l, e, s, m, args, below, meth, c, A⟩ := f
  intro h H locs ls h1 h2 h3 h4
  obtain ⟨ws, hP, hD, hw⟩ := h2.place
  obtain ⟨q0, hq0⟩ := hw a _ (ha h h1)
  obtain ⟨C, T, N, ref, ty0, hc, hin, hk, hlink, hsame, hty, hnm, hfin, hpd⟩ := fl
  obtain ⟨hx, hb, hml, hown, hts, hTB, -⟩ := id o
  rcases hlink with hl | ⟨host, hl⟩
  · exact va_put hx hb hts hin ty0 hty hnm hown hTB.1 hP hD h3 q0 hq0 hc kf hk (hts _ hl) (gq_same hts hsame) hfin hpd hn hf hlen d (fun H1 locs1 hP1 hD1 hS1 => y _ H1 locs1 ls (hp h h1) (gq_HP.set hw hD hq0 hP1 hD1) hS1 h4)
  · exact va_putN hx hb hts hin ty0 hty hnm hown hTB.1 hP hD h3 q0 hq0 hc kf hk (va_Nw.use rfl (hTB.2.1 _ hl)) (gq_same hts hsame) hfin hpd hn hf hlen d (fun H1 locs1 hP1 hD1 hS1 => y _ H1 locs1 ls (hp h h1) (gq_HP.set hw hD hq0 hP1 hD1) hS1 h4)
set_option maxHeartbeats 1000000 in
theorem y_putF (o : gq_Ok κ M f) {idx ci kf a : Nat} {ty : FieldType} {fs : List Value} {v : Value} (fl : gq_FF M.1.cls idx ci kf ty) (hi : M.1.name = "<init>") (d : decode M.2.1 pc = .ok (.putfield idx, 3)) (ha : ∀ h, P h → h a = some (.inr (ci, fs))) (hlen : kf < fs.length) (hn : narrow ty v = v) (hf : fits ty v = true) (hp : ∀ h, P h → P' (gq_hs h a (.inr (ci, fs.set kf v)))) (y : gq_Y κ M Q E f P' lv (pc + 3) st k n) : gq_Y κ M Q E f P lv pc (v :: .ref a :: st) k n := by
  obtain ⟨p, l, e, s, m, args, below, meth, c, A⟩ := f
  intro h H locs ls h1 h2 h3 h4
  obtain ⟨ws, hP, hD, hw⟩ := h2.place
  obtain ⟨q0, hq0⟩ := hw a _ (ha h h1)
  obtain ⟨C, T, N, ref, ty0, hc, hin, hk, hl, hsame, hty, hnm, hfin, hdecl, hpd⟩ := fl
  obtain ⟨hx, hb, hml, hown, hts, hTB, -, -, -, -, -, hnam, -⟩ := id o
  exact va_putF hx hb hts hin ty0 hty hnm hown hTB.1 hP hD h3 q0 hq0 hc kf hk (hts _ hl) (fun x hx' => by rw [← hsame]; exact hx') hfin (hnam.trans hi) hdecl hpd hn hf hlen d (fun H1 locs1 hP1 hD1 hS1 => y _ H1 locs1 ls (hp h h1) (gq_HP.set hw hD hq0 hP1 hD1) hS1 h4)
-- ===== new objects =====
def gq_NW (own : String) (idx ci N : Nat) (fs : List Value) : Prop := ∃ (C : String) (T : u_T) (ty : Nat → FieldType), vwCl[ci]? = some (C, T, N) ∧ (∀ w ∈ u_ws C T N, w ∈ gq_ws) ∧ (∀ j, j < N → parseFieldDescriptor (T j).2.2.1 = some (ty j)) ∧ Cond.classLink own idx C ∈ gq_ws ∧ Cond.instantiable C N ∈ gq_ws ∧ Cond.initialized C ∈ gq_ws ∧ ∀ j, j < N → defaultValue (ty j) = vp_V fs j
set_option maxHeartbeats 1000000 in
theorem y_new (o : gq_Ok κ M f) {idx ci N : Nat} {fs : List Value} {P' : Nat → gq_H → Prop} (nw : gq_NW M.1.cls idx ci N fs) (d : decode M.2.1 pc = .ok (.new idx, 3)) (hk : k + 1 ≤ M.2.2.2.2.1.cells) (hn : n + N ≤ M.2.2.2.2.1.slots) (hp : ∀ h q, P h → h q = none → P' q (gq_hs h q (.inr (ci, fs)))) (y : ∀ q, gq_Y κ M Q E f (P' q) lv (pc + 3) (.ref q :: st) (k + 1) (n + N)) : gq_Y κ M Q E f P lv pc st k n := by
  obtain ⟨p, l, e, s, m, args, below, meth, c, A⟩ := f
  intro h H locs ls h1 h2 h3 h4
  obtain ⟨ws, hP, hD, hw⟩ := h2.place
  obtain ⟨C, T, ty, hc, hin, hty, hcl, hins, hini, hfs⟩ := nw
  obtain ⟨hx, hb, hml, hown, hts, hTB, hZ, hA, -⟩ := id o
  exact va_new hx hb hts hin ty hty hown (hts _ hcl) (hts _ hins) (hts _ hini) hTB.1 hP hD h3 hA hc hfs hk hn d (fun q H1 hP1 hD1 hS1 => by
    obtain ⟨g1, g2⟩ := gq_HP.push hw hP1 hD1
    exact y q _ H1 locs ls (hp h q h1 g1) g2 hS1 h4)
theorem y_objInit (o : gq_Ok κ M f) {idx a : Nat} (hl : Cond.methodLink M.1.cls idx objectInit ∈ gq_ws) (d : decode M.2.1 pc = .ok (.invokespecial idx, 3)) (hr : 1 ≤ M.2.2.2.2.1.frames ∧ (st.map fun v => v.category).sum + 12 ≤ M.2.2.2.2.1.locals) (hi : Cond.instanceMethod objectInit ∈ gq_ws) (hc : Cond.code objectInit ⟨#[0xb1]⟩ 1 none ∈ gq_ws) (y : gq_Y κ M Q E f P lv (pc + 3) st k n) : gq_Y κ M Q E f P lv pc (.ref a :: st) k n := by
  obtain ⟨p, l, e, s, m, args, below, meth, c, A⟩ := f
  intro h H locs ls h1 h2 h3 h4
  obtain ⟨hx, hb, hml, hown, hts, hTB, hZ, hA, -⟩ := id o
  exact W.objInit hx hb hown (hts _ hl) (hts _ hi) (hts _ hc) rfl (h4.1.trans hml.symm) rfl d hr.1 (by show 2 * 0 + _ + 12 ≤ _; have := hr.2; omega) (y h H locs ls h1 h2 h3 h4)
-- ===== arrays =====
set_option maxHeartbeats 1000000 in
theorem y_iald (o : gq_Ok κ M f) {a N : Nat} {g : Nat → Int32} {i v : Int32} (d : decode M.2.1 pc = .ok (.iaload, 1)) (ha : ∀ h, P h → h a = some (.inl (κ.2.1 0, N, .inl g))) (hin : vp_in i N) (hv : g i.toNatClampNeg = v) (y : gq_Y κ M Q E f P lv (pc + 1) (.int v :: st) k n) : gq_Y κ M Q E f P lv pc (.int i :: .ref a :: st) k n := by
  subst hv
  obtain ⟨p, l, e, s, m, args, below, meth, c, A⟩ := f
  intro h H locs ls h1 h2 h3 h4
  obtain ⟨ws, hP, hD, hw⟩ := h2.place
  obtain ⟨q0, hq0⟩ := hw a _ (ha h h1)
  exact va_iald o.1 o.2.1 o.2.2.2.2.2.1.1 hP q0 0 hq0 rfl hin d (y h H locs ls h1 h2 h3 h4)
set_option maxHeartbeats 1000000 in
theorem y_zald (o : gq_Ok κ M f) {a N : Nat} {g : Nat → Int32} {i v : Int32} (d : decode M.2.1 pc = .ok (.baload, 1)) (ha : ∀ h, P h → h a = some (.inl (κ.2.1 3, N, .inl g))) (hin : vp_in i N) (hv : g i.toNatClampNeg = v) (y : gq_Y κ M Q E f P lv (pc + 1) (.int v :: st) k n) : gq_Y κ M Q E f P lv pc (.int i :: .ref a :: st) k n := by
  subst hv
  obtain ⟨p, l, e, s, m, args, below, meth, c, A⟩ := f
  intro h H locs ls h1 h2 h3 h4
  obtain ⟨ws, hP, hD, hw⟩ := h2.place
  obtain ⟨q0, hq0⟩ := hw a _ (ha h h1)
  exact va_zald o.1 o.2.1 o.2.2.2.2.2.1.1 hP q0 3 hq0 rfl hin d (y h H locs ls h1 h2 h3 h4)
set_option maxHeartbeats 1000000 in
theorem y_lald (o : gq_Ok κ M f) {a N : Nat} {g : Nat → Int64} {i : Int32} {v : Int64} (d : decode M.2.1 pc = .ok (.laload, 1)) (ha : ∀ h, P h → h a = some (.inl (κ.2.1 1, N, .inr (.inl g)))) (hin : vp_in i N) (hv : g i.toNatClampNeg = v) (y : gq_Y κ M Q E f P lv (pc + 1) (.long v :: st) k n) : gq_Y κ M Q E f P lv pc (.int i :: .ref a :: st) k n := by
  subst hv
  obtain ⟨p, l, e, s, m, args, below, meth, c, A⟩ := f
  intro h H locs ls h1 h2 h3 h4
  obtain ⟨ws, hP, hD, hw⟩ := h2.place
  obtain ⟨q0, hq0⟩ := hw a _ (ha h h1)
  exact va_lald o.1 o.2.1 o.2.2.2.2.2.1.1 hP q0 1 hq0 rfl hin d (y h H locs ls h1 h2 h3 h4)
set_option maxHeartbeats 1000000 in
theorem y_dald (o : gq_Ok κ M f) {a N : Nat} {g : Nat → UInt64} {i : Int32} {v : UInt64} (d : decode M.2.1 pc = .ok (.daload, 1)) (ha : ∀ h, P h → h a = some (.inl (κ.2.1 2, N, .inr (.inr (.inr (.inl g)))))) (hin : vp_in i N) (hv : g i.toNatClampNeg = v) (y : gq_Y κ M Q E f P lv (pc + 1) (.double v :: st) k n) : gq_Y κ M Q E f P lv pc (.int i :: .ref a :: st) k n := by
  subst hv
  obtain ⟨p, l, e, s, m, args, below, meth, c, A⟩ := f
  intro h H locs ls h1 h2 h3 h4
  obtain ⟨ws, hP, hD, hw⟩ := h2.place
  obtain ⟨q0, hq0⟩ := hw a _ (ha h h1)
  exact va_dald o.1 o.2.1 o.2.2.2.2.2.1.1 hP q0 2 hq0 rfl hin d (y h H locs ls h1 h2 h3 h4)
set_option maxHeartbeats 1000000 in
theorem y_aald (o : gq_Ok κ M f) {a N : Nat} {g : Nat → Option Nat} {i : Int32} {v : Value} (d : decode M.2.1 pc = .ok (.aaload, 1)) (ha : ∀ h, P h → h a = some (.inl (κ.2.1 4, N, .inr (.inr (.inr (.inr g)))))) (hin : vp_in i N) (hv : va_rf (g i.toNatClampNeg) = v) (y : gq_Y κ M Q E f P lv (pc + 1) (v :: st) k n) : gq_Y κ M Q E f P lv pc (.int i :: .ref a :: st) k n := by
  subst hv
  obtain ⟨p, l, e, s, m, args, below, meth, c, A⟩ := f
  intro h H locs ls h1 h2 h3 h4
  obtain ⟨ws, hP, hD, hw⟩ := h2.place
  obtain ⟨q0, hq0⟩ := hw a _ (ha h h1)
  exact va_aldq o.1 o.2.1 o.2.2.2.2.2.1.1 hP q0 4 hq0 rfl hin d (y h H locs ls h1 h2 h3 h4)
set_option maxHeartbeats 1000000 in
theorem y_iast (o : gq_Ok κ M f) {a N : Nat} {g : Nat → Int32} {i x : Int32} (d : decode M.2.1 pc = .ok (.iastore, 1)) (ha : ∀ h, P h → h a = some (.inl (κ.2.1 0, N, .inl g))) (hin : vp_in i N) (hp : ∀ h, P h → P' (gq_hs h a (.inl (κ.2.1 0, N, .inl (upd g i.toNatClampNeg x))))) (y : gq_Y κ M Q E f P' lv (pc + 1) st k n) : gq_Y κ M Q E f P lv pc (.int x :: .int i :: .ref a :: st) k n := by
  obtain ⟨p, l, e, s, m, args, below, meth, c, A⟩ := f
  intro h H locs ls h1 h2 h3 h4
  obtain ⟨ws, hP, hD, hw⟩ := h2.place
  obtain ⟨q0, hq0⟩ := hw a _ (ha h h1)
  exact va_iast o.1 o.2.1 o.2.2.2.2.2.1.1 hP hD h3 q0 0 hq0 rfl hin d (fun H1 locs1 hP1 hD1 hS1 => y _ H1 locs1 ls (hp h h1) (gq_HP.set hw hD hq0 hP1 hD1) hS1 h4)
set_option maxHeartbeats 1000000 in
theorem y_zast (o : gq_Ok κ M f) {a N : Nat} {g : Nat → Int32} {i x : Int32} (d : decode M.2.1 pc = .ok (.bastore, 1)) (ha : ∀ h, P h → h a = some (.inl (κ.2.1 3, N, .inl g))) (hin : vp_in i N) (hp : ∀ h, P h → P' (gq_hs h a (.inl (κ.2.1 3, N, .inl (upd g i.toNatClampNeg (vp_nar .boolean x)))))) (y : gq_Y κ M Q E f P' lv (pc + 1) st k n) : gq_Y κ M Q E f P lv pc (.int x :: .int i :: .ref a :: st) k n := by
  obtain ⟨p, l, e, s, m, args, below, meth, c, A⟩ := f
  intro h H locs ls h1 h2 h3 h4
  obtain ⟨ws, hP, hD, hw⟩ := h2.place
  obtain ⟨q0, hq0⟩ := hw a _ (ha h h1)
  exact va_zast o.1 o.2.1 o.2.2.2.2.2.1.1 hP hD h3 q0 3 hq0 rfl hin d (fun H1 locs1 hP1 hD1 hS1 => y _ H1 locs1 ls (hp h h1) (gq_HP.set hw hD hq0 hP1 hD1) hS1 h4)
set_option maxHeartbeats 1000000 in
theorem y_last (o : gq_Ok κ M f) {a N : Nat} {g : Nat → Int64} {i : Int32} {x : Int64} (d : decode M.2.1 pc = .ok (.lastore, 1)) (ha : ∀ h, P h → h a = some (.inl (κ.2.1 1, N, .inr (.inl g)))) (hin : vp_in i N) (hp : ∀ h, P h → P' (gq_hs h a (.inl (κ.2.1 1, N, .inr (.inl (vp_updL g i.toNatClampNeg x)))))) (y : gq_Y κ M Q E f P' lv (pc + 1) st k n) : gq_Y κ M Q E f P lv pc (.long x :: .int i :: .ref a :: st) k n := by
  obtain ⟨p, l, e, s, m, args, below, meth, c, A⟩ := f
  intro h H locs ls h1 h2 h3 h4
  obtain ⟨ws, hP, hD, hw⟩ := h2.place
  obtain ⟨q0, hq0⟩ := hw a _ (ha h h1)
  exact va_last o.1 o.2.1 o.2.2.2.2.2.1.1 hP hD h3 q0 1 hq0 rfl hin d (fun H1 locs1 hP1 hD1 hS1 => y _ H1 locs1 ls (hp h h1) (gq_HP.set hw hD hq0 hP1 hD1) hS1 h4)
set_option maxHeartbeats 1000000 in
theorem y_dast (o : gq_Ok κ M f) {a N : Nat} {g : Nat → UInt64} {i : Int32} {x : UInt64} (d : decode M.2.1 pc = .ok (.dastore, 1)) (ha : ∀ h, P h → h a = some (.inl (κ.2.1 2, N, .inr (.inr (.inr (.inl g)))))) (hin : vp_in i N) (hp : ∀ h, P h → P' (gq_hs h a (.inl (κ.2.1 2, N, .inr (.inr (.inr (.inl (vf_upd g i.toNatClampNeg x)))))))) (y : gq_Y κ M Q E f P' lv (pc + 1) st k n) : gq_Y κ M Q E f P lv pc (.double x :: .int i :: .ref a :: st) k n := by
  obtain ⟨p, l, e, s, m, args, below, meth, c, A⟩ := f
  intro h H locs ls h1 h2 h3 h4
  obtain ⟨ws, hP, hD, hw⟩ := h2.place
  obtain ⟨q0, hq0⟩ := hw a _ (ha h h1)
  exact va_dast o.1 o.2.1 o.2.2.2.2.2.1.1 hP hD h3 q0 2 hq0 rfl hin d (fun H1 locs1 hP1 hD1 hS1 => y _ H1 locs1 ls (hp h h1) (gq_HP.set hw hD hq0 hP1 hD1) hS1 h4)
set_option maxHeartbeats 1000000 in
/-- a row of Objects takes an object whose class the tables say castable to Object -/
theorem y_aast (o : gq_Ok κ M f) {a N b : Nat} {e0 : va_E} {g : Nat → Option Nat} {i : Int32} (d : decode M.2.1 pc = .ok (.aastore, 1)) (ha : ∀ h, P h → h a = some (.inl (κ.2.1 4, N, .inr (.inr (.inr (.inr g)))))) (hin : vp_in i N) (hb : ∀ h, P h → h b = some e0) (hany : ∀ (s : State) (H : Heap), gq_TB κ s → va_at κ.1 vwCl (b, e0) H → va_Any "java/lang/Object" s H b) (hp : ∀ h, P h → P' (gq_hs h a (.inl (κ.2.1 4, N, .inr (.inr (.inr (.inr (va_up g i.toNatClampNeg (some b))))))))) (y : gq_Y κ M Q E f P' lv (pc + 1) st k n) : gq_Y κ M Q E f P lv pc (.ref b :: .int i :: .ref a :: st) k n := by
  obtain ⟨p, l, e, s, m, args, below, meth, c, A⟩ := f
  intro h H locs ls h1 h2 h3 h4
  obtain ⟨ws, hP, hD, hw⟩ := h2.place
  obtain ⟨q0, hq0⟩ := hw a _ (ha h h1)
  obtain ⟨q1, hq1⟩ := hw b _ (hb h h1)
  exact va_astqM o.1 o.2.1 o.2.2.2.2.2.1.1 hP hD h3 q0 4 hq0 rfl (hany s H o.2.2.2.2.2.1 (hP q1 _ hq1)) hin d (fun H1 locs1 hP1 hD1 hS1 => y _ H1 locs1 ls (hp h h1) (gq_HP.set hw hD hq0 hP1 hD1) hS1 h4)
set_option maxHeartbeats 1000000 in
theorem y_alen (o : gq_Ok κ M f) {a t : Nat} {x : vp_A} {ty : FieldType} {v : Int32} (d : decode M.2.1 pc = .ok (.arraylength, 1)) (ha : ∀ h, P h → h a = some (.inl (κ.2.1 t, x))) (ht : (gq_tys κ)[t]? = some (κ.2.1 t, ty)) (hv : Int32.ofNat x.1 = v) (y : gq_Y κ M Q E f P lv (pc + 1) (.int v :: st) k n) : gq_Y κ M Q E f P lv pc (.ref a :: st) k n := by
  obtain ⟨p, l, e, s, m, args, below, meth, c, A⟩ := f
  intro h H locs ls h1 h2 h3 h4
  obtain ⟨ws, hP, hD, hw⟩ := h2.place
  obtain ⟨q0, hq0⟩ := hw a _ (ha h h1)
  exact va_alen o.1 o.2.1 o.2.2.2.2.2.1.1 hP q0 t hq0 ht hv d (y h H locs ls h1 h2 h3 h4)
theorem gq_cls {κ : gq_K} {s : State} (h : gq_TB κ s) {t : Nat} {ty : FieldType} (ht : (gq_tys κ)[t]? = some (κ.2.1 t, ty)) (hty : ∀ C, ty ≠ .object C) {cA : ClassId} {D : va_G} {cl : List vw_C} {tys : List (ClassId × FieldType)} (hK : va_K D cl (tys ++ [(cA, ty)]) s) : cA = κ.2.1 t := by
  have h1 := (h.1.2 t _ ht).2
  have h2 := (hK.2 tys.length (cA, ty) (by simp)).2
  have e1 : s.vm.findClass ("[" ++ ty.toString) = some (κ.2.1 t) := by
    cases ty with
    | object C => exact absurd rfl (hty C)
    | _ => exact h1
  have e2 : s.vm.findClass ("[" ++ ty.toString) = some cA := by
    cases ty with
    | object C => exact absurd rfl (hty C)
    | _ => exact h2
  exact Option.some.inj (e2.symm.trans e1)
theorem gq_clsO {κ : gq_K} {s : State} (h : gq_TB κ s) {t : Nat} {C : String} (ht : (gq_tys κ)[t]? = some (κ.2.1 t, .object C)) {cA : ClassId} {D : va_G} {cl : List vw_C} {tys : List (ClassId × FieldType)} (hK : va_K D cl (tys ++ [(cA, .object C)]) s) : cA = κ.2.1 t := by
  obtain ⟨k1, c1, a1, a2, a3, e1⟩ := (h.1.2 t _ ht).2
  obtain ⟨k2, c2, b1, b2, b3, e2⟩ := (hK.2 tys.length (cA, .object C) (by simp)).2
  exact Option.some.inj (e2.symm.trans e1)
set_option maxHeartbeats 1000000 in
theorem y_newarr (o : gq_Ok κ M f) {at' : ArrayType} {t N : Nat} {ty : FieldType} {i : Int32} {a0 : vp_A} {P' : Nat → gq_H → Prop} (hw9 : Cond.arrayClass ty ∈ gq_ws) (hty : newarray.typeOf at' = ty) (ht : (gq_tys κ)[t]? = some (κ.2.1 t, ty)) (hob : ∀ C, ty ≠ .object C) (d : decode M.2.1 pc = .ok (.newarray at', 2)) (ha : ∀ cA : ClassId, vp_cell cA a0 = arrV cA N (fun _ => defaultValue ty)) (hi : ¬ i < 0) (hN : i.toNatClampNeg = N) (hby : N * componentBytes ty ≤ 536870912) (hk : k + 1 ≤ M.2.2.2.2.1.cells) (hn : n + N ≤ M.2.2.2.2.1.slots) (hp : ∀ h q, P h → h q = none → P' q (gq_hs h q (.inl (κ.2.1 t, a0)))) (y : ∀ q, gq_Y κ M Q E f (P' q) lv (pc + 2) (.ref q :: st) (k + 1) (n + N)) : gq_Y κ M Q E f P lv pc (.int i :: st) k n := by
  obtain ⟨p, l, e, s, m, args, below, meth, c, A⟩ := f
  intro h H locs ls h1 h2 h3 h4
  obtain ⟨ws, hP, hD, hw⟩ := h2.place
  obtain ⟨hx, hb, hml, hown, hts, hTB, hZ, hA, -⟩ := id o
  exact va_newa hx hb (by rw [hty]; exact hts _ hw9) hty hTB.1 hP hD h3 hA ha hi hN hby hk hn d (fun q cA H1 hK1 hP1 hD1 hS1 => by
    have e1 := gq_cls hTB ht hob hK1
    subst e1
    obtain ⟨g1, g2⟩ := gq_HP.push hw hP1 hD1
    exact y q _ H1 locs ls (hp h q h1 g1) g2 hS1 h4)
set_option maxHeartbeats 1000000 in
theorem y_anew (o : gq_Ok κ M f) {idx N : Nat} {i : Int32} {P' : Nat → gq_H → Prop} (hcl : Cond.classLink M.1.cls idx "java/lang/Object" ∈ gq_ws) (d : decode M.2.1 pc = .ok (.anewarray idx, 3)) (hi : ¬ i < 0) (hN : i.toNatClampNeg = N) (hby : N * 4 ≤ 536870912) (hk : k + 1 ≤ M.2.2.2.2.1.cells) (hn : n + N ≤ M.2.2.2.2.1.slots) (hp : ∀ h q, P h → h q = none → P' q (gq_hs h q (.inl (κ.2.1 4, N, .inr (.inr (.inr (.inr (fun _ => none)))))))) (y : ∀ q, gq_Y κ M Q E f (P' q) lv (pc + 3) (.ref q :: st) (k + 1) (n + N)) : gq_Y κ M Q E f P lv pc (.int i :: st) k n := by
  obtain ⟨p, l, e, s, m, args, below, meth, c, A⟩ := f
  intro h H locs ls h1 h2 h3 h4
  obtain ⟨ws, hP, hD, hw⟩ := h2.place
  obtain ⟨hx, hb, hml, hown, hts, hTB, hZ, hA, -⟩ := id o
  exact va_newq hx hb hown (hts _ hcl) hTB.2.2.2.2.2.2.1 hTB.1 hP hD h3 hA hi hN hby hk hn d (fun q cA H1 hK1 hP1 hD1 hS1 => by
    have e1 := gq_clsO (t := 4) hTB rfl hK1
    subst e1
    obtain ⟨g1, g2⟩ := gq_HP.push hw hP1 hD1
    exact y q _ H1 locs ls (hp h q h1 g1) g2 hS1 h4)
-- ===== casts =====
set_option maxHeartbeats 1000000 in
theorem y_cast (o : gq_Ok κ M f) {idx ci a : Nat} {fs : List Value} {q : vw_C} (hc : vwCl[ci]? = some q) (hl : Cond.classLink M.1.cls idx q.1 ∈ gq_ws) (d : decode M.2.1 pc = .ok (.checkcast idx, 3)) (ha : ∀ h, P h → h a = some (.inr (ci, fs))) (y : gq_Y κ M Q E f P lv (pc + 3) (.ref a :: st) k n) : gq_Y κ M Q E f P lv pc (.ref a :: st) k n := by
  obtain ⟨p, l, e, s, m, args, below, meth, c, A⟩ := f
  intro h H locs ls h1 h2 h3 h4
  obtain ⟨ws, hP, hD, hw⟩ := h2.place
  obtain ⟨q0, hq0⟩ := hw a _ (ha h h1)
  obtain ⟨hx, hb, hml, hown, hts, hTB, hZ, hA, -⟩ := id o
  exact va_castE hx hb hown (hts _ hl) (va_recv hTB.1 hP hc hq0) d (y h H locs ls h1 h2 h3 h4)
-- ===== ends =====
theorem gq_Qc.mk {A : Nat → Prop} {s t : State} {H : Heap} {locs : List Loc} {a : Array Value} {v : Option Value} {h : gq_H} (hq : Q v h) (hh : gq_HP κ A h H) (hS : va_S A s.heap H locs) (ht : t.heap = H) : gq_Qc κ A Q a s (.returned v) t := ⟨⟨v, h, rfl, hq, by rw [ht]; exact hh⟩, hS.F ht⟩
set_option maxHeartbeats 1000000 in
theorem y_iret (o : gq_Ok κ M f) {v : Int32} {ty : FieldType} (d : decode M.2.1 pc = .ok (.ireturn, 1)) (hr : M.2.2.2.1 = some ty) (hnw : narrow ty (.int v) = .int v) (hk : k ≤ M.2.2.2.2.1.cells) (hn : n ≤ M.2.2.2.2.1.slots) (hq : ∀ h, P h → Q (some (.int v)) h) : gq_Y κ M Q E f P lv pc [.int v] k n := by
  obtain ⟨p, l, e, s, m, args, below, meth, c, A⟩ := f
  intro h H locs ls h1 h2 h3 h4
  obtain ⟨hx, hb, hml, hown, hts, hTB, hZ, hA, hret, hlk, -⟩ := id o
  exact W.widen hk hn (vx_ret (W.zret hx hb (hret.trans hr) hnw (fun t ht _ => gq_Qc.mk (hq h h1) h2 h3 ht) h3.2.2 d hlk))
set_option maxHeartbeats 1000000 in
theorem y_lret (o : gq_Ok κ M f) {v : Int64} (d : decode M.2.1 pc = .ok (.lreturn, 1)) (hr : M.2.2.2.1 = some .long) (hk : k ≤ M.2.2.2.2.1.cells) (hn : n ≤ M.2.2.2.2.1.slots) (hq : ∀ h, P h → Q (some (.long v)) h) : gq_Y κ M Q E f P lv pc [.long v] k n := by
  obtain ⟨p, l, e, s, m, args, below, meth, c, A⟩ := f
  intro h H locs ls h1 h2 h3 h4
  obtain ⟨hx, hb, hml, hown, hts, hTB, hZ, hA, hret, hlk, -⟩ := id o
  exact W.widen hk hn (vx_ret (W.lret hx hb (hret.trans hr) (fun t ht _ => gq_Qc.mk (hq h h1) h2 h3 ht) h3.2.2 d hlk))
set_option maxHeartbeats 1000000 in
theorem y_fret (o : gq_Ok κ M f) {v : UInt32} (d : decode M.2.1 pc = .ok (.freturn, 1)) (hr : M.2.2.2.1 = some .float) (hk : k ≤ M.2.2.2.2.1.cells) (hn : n ≤ M.2.2.2.2.1.slots) (hq : ∀ h, P h → Q (some (.float v)) h) : gq_Y κ M Q E f P lv pc [.float v] k n := by
  obtain ⟨p, l, e, s, m, args, below, meth, c, A⟩ := f
  intro h H locs ls h1 h2 h3 h4
  obtain ⟨hx, hb, hml, hown, hts, hTB, hZ, hA, hret, hlk, -⟩ := id o
  exact W.widen hk hn (vx_ret (W.fret hx hb (hret.trans hr) (fun t ht _ => gq_Qc.mk (hq h h1) h2 h3 ht) h3.2.2 d hlk))
set_option maxHeartbeats 1000000 in
theorem y_dret (o : gq_Ok κ M f) {v : UInt64} (d : decode M.2.1 pc = .ok (.dreturn, 1)) (hr : M.2.2.2.1 = some .double) (hk : k ≤ M.2.2.2.2.1.cells) (hn : n ≤ M.2.2.2.2.1.slots) (hq : ∀ h, P h → Q (some (.double v)) h) : gq_Y κ M Q E f P lv pc [.double v] k n := by
  obtain ⟨p, l, e, s, m, args, below, meth, c, A⟩ := f
  intro h H locs ls h1 h2 h3 h4
  obtain ⟨hx, hb, hml, hown, hts, hTB, hZ, hA, hret, hlk, -⟩ := id o
  exact W.widen hk hn (vx_ret (W.dret hx hb (hret.trans hr) (fun t ht _ => gq_Qc.mk (hq h h1) h2 h3 ht) h3.2.2 d hlk))
set_option maxHeartbeats 1000000 in
theorem y_vret (o : gq_Ok κ M f) (d : decode M.2.1 pc = .ok (.return_, 1)) (hr : M.2.2.2.1 = none) (hk : k ≤ M.2.2.2.2.1.cells) (hn : n ≤ M.2.2.2.2.1.slots) (hq : ∀ h, P h → Q none h) : gq_Y κ M Q E f P lv pc [] k n := by
  obtain ⟨p, l, e, s, m, args, below, meth, c, A⟩ := f
  intro h H locs ls h1 h2 h3 h4
  obtain ⟨hx, hb, hml, hown, hts, hTB, hZ, hA, hret, hlk, -⟩ := id o
  exact W.widen hk hn (vx_ret (W.vret hx hb (hret.trans hr) (fun t ht _ => gq_Qc.mk (hq h h1) h2 h3 ht) h3.2.2 d hlk))
set_option maxHeartbeats 1000000 in
theorem y_aret (o : gq_Ok κ M f) {v : Value} {rt : FieldType} (d : decode M.2.1 pc = .ok (.areturn, 1)) (hr : M.2.2.2.1 = some rt) (hrt : (∃ n, rt = .object n) ∨ ∃ t, rt = .array t) (hv : v = .null ∨ ∃ a, v = .ref a) (hk : k ≤ M.2.2.2.2.1.cells) (hn : n ≤ M.2.2.2.2.1.slots) (hq : ∀ h, P h → Q (some v) h) : gq_Y κ M Q E f P lv pc [v] k n := by
  obtain ⟨p, l, e, s, m, args, below, meth, c, A⟩ := f
  intro h H locs ls h1 h2 h3 h4
  obtain ⟨hx, hb, hml, hown, hts, hTB, hZ, hA, hret, hlk, -⟩ := id o
  exact W.widen hk hn (vx_ret (W.aret hx hb (hret.trans hr) hrt hv (fun t ht _ => gq_Qc.mk (hq h h1) h2 h3 ht) h3.2.2 d hlk))
-- ===== classes as objects =====
theorem y_ldcM (o : gq_Ok κ M f) {ix : Nat} (hl : Cond.classLink M.1.cls ix "[Ljava/lang/Object;" ∈ gq_ws) (d : decode M.2.1 pc = .ok (.ldc ix, 2)) (y : gq_Y κ M Q E f P lv (pc + 2) (.ref (κ.2.2 101) :: st) k n) : gq_Y κ M Q E f P lv pc st k n := by
  obtain ⟨p, l, e, s, m, args, below, meth, c, A⟩ := f
  exact fun h H locs ls h1 h2 h3 h4 => va_ldcM o.1 o.2.1 o.2.2.2.1 (o.2.2.2.2.1 _ hl) o.2.2.2.2.2.1.2.2.2.2.2.2.2.2.2 d (y h H locs ls h1 h2 h3 h4)
set_option maxHeartbeats 1000000 in
/-- getClass of a row of Objects -/
theorem y_getC (o : gq_Ok κ M f) {ix a N : Nat} {g : Nat → Option Nat} (hl : Cond.methodLink M.1.cls ix ⟨"java/lang/Object", "getClass", "()Ljava/lang/Class;"⟩ ∈ gq_ws) (hs : Cond.selects "[Ljava/lang/Object;" ⟨"java/lang/Object", "getClass", "()Ljava/lang/Class;"⟩ ⟨"java/lang/Object", "getClass", "()Ljava/lang/Class;"⟩ ∈ gq_ws) (hi : Cond.instanceMethod ⟨"java/lang/Object", "getClass", "()Ljava/lang/Class;"⟩ ∈ gq_ws) (hn9 : Cond.native ⟨"java/lang/Object", "getClass", "()Ljava/lang/Class;"⟩ ∈ gq_ws) (hd9 : (⟨"java/lang/Object", "getClass", "()Ljava/lang/Class;"⟩ : MethodName) ∈ gq_de) (d : decode M.2.1 pc = .ok (.invokevirtual ix, 3)) (ha : ∀ h, P h → h a = some (.inl (κ.2.1 4, N, .inr (.inr (.inr (.inr g)))))) (hr : 1 ≤ M.2.2.2.2.1.frames ∧ (st.map fun v => v.category).sum + 14 ≤ M.2.2.2.2.1.locals) (y : gq_Y κ M Q E f P lv (pc + 3) (.ref (κ.2.2 101) :: st) k n) : gq_Y κ M Q E f P lv pc (.ref a :: st) k n := by
  obtain ⟨p, l, e, s, m, args, below, meth, c, A⟩ := f
  intro h H locs ls h1 h2 h3 h4
  obtain ⟨hx, hb, hml, hown, hts, hTB, hZs, hA, -⟩ := id o
  obtain ⟨ws, hP, hD, hw⟩ := h2.place
  obtain ⟨q0, hq0⟩ := hw a _ (ha h h1)
  have hcell : H[a]? = some (vp_cell (κ.2.1 4) (N, .inr (.inr (.inr (.inr g))))) := hP q0 _ hq0
  exact va_getC hx hb (hml.trans h4.1.symm) hown (hts _ hl) (va_Nw.use rfl (hTB.2.2.2.2.1 _ hd9)) (hts _ hs) (hts _ hi) (hts _ hn9) hTB.2.2.2.2.2.2.2.2.2 ⟨_, hcell, rfl, va_nmO (hTB.1.2 4 _ rfl).2 (by decide +kernel)⟩ hr.1 hr.2 d (y h H locs ls h1 h2 h3 h4)
set_option maxHeartbeats 1000000 in
/-- System.arraycopy from one row of Objects to another, both from the start -/
theorem y_copy (o : gq_Ok κ M f) {ix a b N N1 : Nat} {g g1 : Nat → Option Nat} {cnt : Int32} (hw9 : Cond.methodLink M.1.cls ix arraycopyName ∈ gq_ws ∧ Cond.native arraycopyName ∈ gq_ws ∧ Cond.static arraycopyName ∈ gq_ws ∧ Cond.initialized "java/lang/System" ∈ gq_ws) (d : decode M.2.1 pc = .ok (.invokestatic ix, 3)) (ha : ∀ h, P h → h a = some (.inl (κ.2.1 4, N, .inr (.inr (.inr (.inr g)))))) (hb : ∀ h, P h → h b = some (.inl (κ.2.1 4, N1, .inr (.inr (.inr (.inr g1)))))) (hc0 : ¬ cnt < 0) (hc1 : cnt.toNatClampNeg ≤ N) (hc2 : cnt.toNatClampNeg ≤ N1) (hel : ∀ h, P h → ∀ i : Nat, i < cnt.toNatClampNeg → ∀ y : Nat, g i = some y → ∃ e0 : va_E, h y = some e0 ∧ ∀ (s : State) (H : Heap), gq_TB κ s → va_at κ.1 vwCl (y, e0) H → va_Any "java/lang/Object" s H y) (hr : 1 ≤ M.2.2.2.2.1.frames ∧ (st.map fun v => v.category).sum + (nativeFrameWords "java/lang/System" "arraycopy" 5 + 11) ≤ M.2.2.2.2.1.locals) (hp : ∀ h, P h → P' (gq_hs h b (.inl (κ.2.1 4, N1, .inr (.inr (.inr (.inr (va_cpy g g1 0 0 cnt.toNatClampNeg)))))))) (y : gq_Y κ M Q E f P' lv (pc + 3) st k n) : gq_Y κ M Q E f P lv pc (.int cnt :: .int 0 :: .ref b :: .int 0 :: .ref a :: st) k n := by
  obtain ⟨p, l, e, s, m, args, below, meth, c, A⟩ := f
  intro h H locs ls h1 h2 h3 h4
  obtain ⟨hx, hbb, hml, hown, hts, hTB, hZs, hA, -⟩ := id o
  obtain ⟨ws, hP, hD, hw⟩ := h2.place
  obtain ⟨q0, hq0⟩ := hw a _ (ha h h1)
  obtain ⟨q1, hq1⟩ := hw b _ (hb h h1)
  refine va_copyM hx hbb (hml.trans h4.1.symm) hown (hts _ hw9.1) (hts _ hw9.2.1) (hts _ hw9.2.2.1) (hts _ hw9.2.2.2) hTB.1 hP hD h3 q0 q1 4 4 hq0 hq1 rfl rfl (sp := 0) (dp := 0) (by decide) (by decide) hc0 (by rw [sb_cl0, Nat.zero_add]; exact hc1) (by rw [sb_cl0, Nat.zero_add]; exact hc2) (fun i hi y9 hy => ?_) hr.1 hr.2 d (fun H1 locs1 hP1 hD1 hS1 => y _ H1 locs1 ls (hp h h1) (gq_HP.set hw hD hq1 hP1 hD1) hS1 h4)
  rw [sb_cl0, Nat.zero_add] at hy
  obtain ⟨e0, g2, g3⟩ := hel h h1 i hi y9 hy
  obtain ⟨q2, hq2⟩ := hw y9 _ g2
  exact g3 s H hTB (hP q2 _ hq2)
-- ===== statics =====
set_option maxHeartbeats 1000000 in
theorem y_gets (o : gq_Ok κ M f) {idx : Nat} {C nm ds ref : String} {v : Value} (hl : Cond.fieldLink M.1.cls idx ref nm ds ∈ gq_ws) (hs : C = ref) (d : decode M.2.1 pc = .ok (.getstatic idx, 3)) (hZ : ∀ (A : Nat → Prop) (s : State), gq_Zs κ A s s.heap → va_Z C nm ds v A s s.heap) (y : gq_Y κ M Q E f P lv (pc + 3) (v :: st) k n) : gq_Y κ M Q E f P lv pc st k n := by
  subst hs
  obtain ⟨p, l, e, s, m, args, below, meth, c, A⟩ := f
  intro h H locs ls h1 h2 h3 h4
  obtain ⟨hx, hb, hml, hown, hts, hTB, hZs, hA, -⟩ := id o
  exact va_gets hx hb (hZ A s hZs) h3 hown (hts _ hl) (fun _ hx' => hx') d (y h H locs ls h1 h2 h3 h4)
/-- .. of which only 'null or some reference' is known -/
theorem y_getq (o : gq_Ok κ M f) {idx : Nat} {C nm ds ref : String} (hl : Cond.fieldLink M.1.cls idx ref nm ds ∈ gq_ws) (hs : C = ref) (d : decode M.2.1 pc = .ok (.getstatic idx, 3)) (hZ : ∀ (A : Nat → Prop) (s : State), gq_Zs κ A s s.heap → va_Zq C nm ds A s s.heap) (y : ∀ r : Option Nat, gq_Y κ M Q E f P lv (pc + 3) (va_rf r :: st) k n) : gq_Y κ M Q E f P lv pc st k n := by
  subst hs
  obtain ⟨p, l, e, s, m, args, below, meth, c, A⟩ := f
  intro h H locs ls h1 h2 h3 h4
  obtain ⟨hx, hb, hml, hown, hts, hTB, hZs, hA, -⟩ := id o
  rcases hZ A s hZs with h9 | ⟨t, h9⟩
  · exact va_gets hx hb h9 h3 hown (hts _ hl) (fun _ hx' => hx') d (y none h H locs ls h1 h2 h3 h4)
  · exact va_gets hx hb h9 h3 hown (hts _ hl) (fun _ hx' => hx') d (y (some t) h H locs ls h1 h2 h3 h4)
/-- the length of the empty row of a new list -/
theorem y_alen0 (o : gq_Ok κ M f) (d : decode M.2.1 pc = .ok (.arraylength, 1)) (y : gq_Y κ M Q E f P lv (pc + 1) (.int 0 :: st) k n) : gq_Y κ M Q E f P lv pc (.ref (κ.2.2 100) :: st) k n := by
  obtain ⟨p, l, e, s, m, args, below, meth, c, A⟩ := f
  intro h H locs ls h1 h2 h3 h4
  obtain ⟨hx, hb, hml, hown, hts, hTB, hZs, hA, -⟩ := id o
  exact va_tlen hx hb hZs.2.2.2.2.1 h3 rfl d (y h H locs ls h1 h2 h3 h4)
/-- the fields of a string constant, and its bytes -/
theorem y_strf (o : gq_Ok κ M f) {idx : Nat} {nm ds : String} {v : Value} (i : Nat) (hi : i < 7) (hl : Cond.fieldLink M.1.cls idx "java/lang/String" nm ds ∈ gq_ws) (d : decode M.2.1 pc = .ok (.getfield idx, 3)) (hv : (nm = "coder" ∧ ds = "B" ∧ v = .int 0) ∨ (nm = "value" ∧ ds = "[B" ∧ v = .ref (κ.2.2 (110 + i)))) (y : gq_Y κ M Q E f P lv (pc + 3) (v :: st) k n) : gq_Y κ M Q E f P lv pc (.ref (κ.2.2 i) :: st) k n := by
  obtain ⟨p, l, e, s, m, args, below, meth, c, A⟩ := f
  intro h H locs ls h1 h2 h3 h4
  obtain ⟨hx, hb, hml, hown, hts, hTB, hZs, hA, -⟩ := id o
  obtain ⟨g1, g2, g3, g4⟩ := hZs.2.2.2.2.2.2.1 i hi
  rcases hv with ⟨rfl, rfl, rfl⟩ | ⟨rfl, rfl, rfl⟩
  · exact vk_getf hx hb g2 h3 hown (hts _ hl) (fun _ hx' => hx') d (y h H locs ls h1 h2 h3 h4)
  · exact vk_getf hx hb g3 h3 hown (hts _ hl) (fun _ hx' => hx') d (y h H locs ls h1 h2 h3 h4)
theorem y_strlen (o : gq_Ok κ M f) (i : Nat) (hi : i < 7) {v : Int32} (hv : Int32.ofNat (gq_slen.getD i 0) = v) (d : decode M.2.1 pc = .ok (.arraylength, 1)) (y : gq_Y κ M Q E f P lv (pc + 1) (.int v :: st) k n) : gq_Y κ M Q E f P lv pc (.ref (κ.2.2 (110 + i)) :: st) k n := by
  subst hv
  obtain ⟨p, l, e, s, m, args, below, meth, c, A⟩ := f
  intro h H locs ls h1 h2 h3 h4
  obtain ⟨hx, hb, hml, hown, hts, hTB, hZs, hA, -⟩ := id o
  obtain ⟨g1, g2, g3, g4⟩ := hZs.2.2.2.2.2.2.1 i hi
  exact va_tlen hx hb g4 h3 rfl d (y h H locs ls h1 h2 h3 h4)
theorem y_strb (o : gq_Ok κ M f) (i : Nat) (hi : i < 7) {j v : Int32} (hj : vp_in j (gq_slen.getD i 0)) (hv : (gq_sbyt.getD i []).getD j.toNatClampNeg 0 = v) (d : decode M.2.1 pc = .ok (.baload, 1)) (y : gq_Y κ M Q E f P lv (pc + 1) (.int v :: st) k n) : gq_Y κ M Q E f P lv pc (.int j :: .ref (κ.2.2 (110 + i)) :: st) k n := by
  subst hv
  obtain ⟨p, l, e, s, m, args, below, meth, c, A⟩ := f
  intro h H locs ls h1 h2 h3 h4
  obtain ⟨hx, hb, hml, hown, hts, hTB, hZs, hA, -⟩ := id o
  obtain ⟨g1, g2, g3, g4⟩ := hZs.2.2.2.2.2.2.1 i hi
  exact va_tb hx hb g4 h3 hj rfl d (y h H locs ls h1 h2 h3 h4)
end YR
-- ===== calls =====
section YC
variable {κ : gq_K} {M : gq_M} {Q : Option Value → gq_H → Prop} {E : String → gq_H → Prop} {f : gq_F} {P P' : gq_H → Prop} {lv lv' : List (Nat × Value)} {pc : Nat} {st : List Value} {k n : Nat}
variable {p : Program} {l : Launch} {e : Env} {R : Room} {s : State} {m : MethodId} {args : Array Value} {below : List Frame} {meth : Method} {c : Code} {H : Heap} {locs : List Loc} {QQ : State → Prop} {A : Nat → Prop} {ls : Array Slot} {st0 rest : List Value} {mc ms : Nat} {a : Array Value}
theorem gq_ofRunX {Q1 : Option Value → gq_H → Prop} {E1 : String → gq_H → Prop} (hr : vx_Run p l e R s m args below meth c H locs k n mc ms (F0 m pc ls st0) rest (gq_Qc κ A Q1 a) (gq_Xc κ A E1) A) (hS : va_S A s.heap H locs)
    (kk : ∀ (v : Option Value) (h : gq_H) (H1 : Heap) (locs1 : List Loc), Q1 v h → gq_HP κ A h H1 → va_S A s.heap H1 locs1 → W p l e R s m args below meth c H1 locs1 (k + mc) (n + ms) QQ (F0 m (pc + 3) ls (v.toList ++ rest)))
    (kx : ∀ (x : String) (h : gq_H) (H1 : Heap) (locs1 : List Loc) (q : Addr) (ce : Cell), E1 x h → gq_HP κ A h H1 → va_S A s.heap H1 locs1 → H1[q]? = some ce → ce.vm = .none → s.vm.findClass x = some ce.cls → vx_W p l e R s m args below meth c H1 locs1 (k + mc) (n + ms) QQ (F0 m pc ls rest) q) : W p l e R s m args below meth c H locs k n QQ (F0 m pc ls st0) := by
  intro T hT X
  rcases hr T hT X with ⟨v, st₀, t, T', L, h0, X', hL, e1, e2, ⟨⟨v', h, hv, hq, hh⟩, hF⟩, st⟩ | ⟨q, st₀, t, T', L, x, ce, h0, X', hL, e1, e2, ⟨⟨h, hE, hh⟩, hF⟩, hce, hcv, hcl, st⟩
  · cases hv
    obtain ⟨k1, k2, k3⟩ := vx_keep h0 e1 hS (fun _ _ h => h) (fun _ h => h) hL hF
    obtain ⟨t2, a1, b1⟩ := kk v h T'.heap (locs ++ L) hq (by rw [e1]; exact hh) k3 T' rfl X'
    exact ⟨t2, st t2 a1, b1⟩
  · obtain ⟨k1, k2, k3⟩ := vx_keep h0 e1 hS (fun _ _ h => h) (fun _ h => h) hL hF
    obtain ⟨t2, a1, b1⟩ := kx x h T'.heap (locs ++ L) q ce hE (by rw [e1]; exact hh) k3 (by rw [e1]; exact hce) hcv hcl T' rfl X'
    exact ⟨t2, st.trans a1, b1⟩
theorem gq_ofRun {Q1 : Option Value → gq_H → Prop} (hr : va_Run p l e R s m args below meth c H locs k n mc ms (F0 m pc ls st0) rest (gq_Qc κ A Q1 a) A) (hS : va_S A s.heap H locs)
    (kk : ∀ (v : Option Value) (h : gq_H) (H1 : Heap) (locs1 : List Loc), Q1 v h → gq_HP κ A h H1 → va_S A s.heap H1 locs1 → W p l e R s m args below meth c H1 locs1 (k + mc) (n + ms) QQ (F0 m (pc + 3) ls (v.toList ++ rest))) : W p l e R s m args below meth c H locs k n QQ (F0 m pc ls st0) := by
  intro T hT X
  obtain ⟨v, st₀, t, T', L, h0, X', hL, e1, e2, ⟨⟨v', h, hv, hq, hh⟩, hF⟩, st⟩ := hr T hT X
  cases hv
  obtain ⟨k1, k2, k3⟩ := vx_keep h0 e1 hS (fun _ _ h => h) (fun _ h => h) hL hF
  obtain ⟨t2, a1, b1⟩ := kk v h T'.heap (locs ++ L) hq (by rw [e1]; exact hh) k3 T' rfl X'
  exact ⟨t2, st t2 a1, b1⟩
theorem gq_ofRun5 {Q1 : Option Value → gq_H → Prop} (hr : va_Run5 p l e R s m args below meth c H locs k n mc ms (F0 m pc ls st0) rest (gq_Qc κ A Q1 a) A) (hS : va_S A s.heap H locs)
    (kk : ∀ (v : Option Value) (h : gq_H) (H1 : Heap) (locs1 : List Loc), Q1 v h → gq_HP κ A h H1 → va_S A s.heap H1 locs1 → W p l e R s m args below meth c H1 locs1 (k + mc) (n + ms) QQ (F0 m (pc + 5) ls (v.toList ++ rest))) : W p l e R s m args below meth c H locs k n QQ (F0 m pc ls st0) := by
  intro T hT X
  obtain ⟨v, st₀, t, T', L, h0, X', hL, e1, e2, ⟨⟨v', h, hv, hq, hh⟩, hF⟩, st⟩ := hr T hT X
  cases hv
  obtain ⟨k1, k2, k3⟩ := vx_keep h0 e1 hS (fun _ _ h => h) (fun _ h => h) hL hF
  obtain ⟨t2, a1, b1⟩ := kk v h T'.heap (locs ++ L) hq (by rw [e1]; exact hh) k3 T' rfl X'
  exact ⟨t2, st t2 a1, b1⟩
/-- a method that never throws -/
theorem gq_met {M' : gq_M} {As : List Value} {P1 : gq_H → Prop} {Q1 : Option Value → gq_H → Prop} {E1 : String → gq_H → Prop} (hC : gq_C κ M' As P1 Q1 E1) (hE : ∀ x h, ¬ E1 x h) (hfl : l.flags = flags0) : Met l M'.1 (gq_hd M' :: gq_ws) M'.2.2.2.2.1 (gq_Pc κ A As P1) (gq_Qc κ A Q1) M'.2.2.2.2.1.cells M'.2.2.2.2.1.slots A :=
  (hC l A hfl).mono (fun _ _ h => h) (fun _ _ _ _ _ h => h) (fun a st o t _ h => by
    rcases h with h | ⟨q, ho, x, ce, L, ⟨⟨h', hx, -⟩, -⟩, -⟩
    · exact h
    · exact (hE x h' hx).elim)
theorem gq_pc {As : List Value} {P1 : gq_H → Prop} {h : gq_H} (hTB : gq_TB κ s) (hZ : gq_Zs κ A s s.heap) (hA : ∀ q : Nat, s.heap.size ≤ q → A q) (hS : va_S A s.heap H locs) (hh : gq_HP κ A h H) (hp : P1 h) : ∀ U : State, U.heap = H → s.WarmedH U.vm → gq_Pc κ A As P1 As.toArray U := by
  intro U hU hW
  subst hU
  exact ⟨rfl, hTB.warm hW, gq_Zs.moved hW.alike (hZ.kept hS.2.1), fun q h9 => hA q (Nat.le_trans hS.1 h9), h, hp, hh⟩
def gq_rm (M M' : gq_M) (k n : Nat) : Bool := decide (M'.2.2.2.2.1.frames + 1 ≤ M.2.2.2.2.1.frames) && decide (8 + (M'.2.2.1 + 11) + M'.2.2.2.2.1.locals ≤ M.2.2.2.2.1.locals) 
def gq_LV (own : String) (idx : Nat) (C : String) (M' : gq_M) (n0 : Nat) : Prop := Cond.methodLink own idx M'.1 ∈ gq_ws ∧ Cond.instanceMethod M'.1 ∈ gq_ws ∧ Cond.selects C M'.1 M'.1 ∈ gq_ws ∧ Cond.initialized C ∈ gq_ws ∧ gq_hd M' ∈ gq_ws ∧ M'.2.2.2.2.2 = [] ∧ (M'.1.cls = C ∧ M'.1.cls ≠ "java/lang/invoke/MethodHandle" ∧ M'.1.cls ≠ "java/lang/invoke/VarHandle" ∧ (parseMethodDescriptor M'.1.desc).map (fun d => d.parameters.length) = some n0)
def gq_LS (own : String) (idx : Nat) (M' : gq_M) (n0 : Nat) : Prop := Cond.methodLink own idx M'.1 ∈ gq_ws ∧ Cond.static M'.1 ∈ gq_ws ∧ Cond.initialized M'.1.cls ∈ gq_ws ∧ gq_hd M' ∈ gq_ws ∧ M'.2.2.2.2.2 = [] ∧ (M'.1.cls ≠ "java/lang/invoke/MethodHandle" ∧ M'.1.cls ≠ "java/lang/invoke/VarHandle" ∧ (parseMethodDescriptor M'.1.desc).map (fun d => d.parameters.length) = some n0)
def gq_LI (own : String) (idx : Nat) (M' : gq_M) (n0 : Nat) : Prop := (Cond.methodLink own idx M'.1 ∈ gq_ws ∨ ∃ host, (own, idx, M'.1, host) ∈ gq_nm) ∧ Cond.instanceMethod M'.1 ∈ gq_ws ∧ Cond.initialized M'.1.cls ∈ gq_ws ∧ gq_hd M' ∈ gq_ws ∧ M'.2.2.2.2.2 = [] ∧ M'.1.name = "<init>" ∧ M'.2.2.2.1 = none ∧ (M'.1.cls ≠ "java/lang/invoke/MethodHandle" ∧ M'.1.cls ≠ "java/lang/invoke/VarHandle" ∧ (parseMethodDescriptor M'.1.desc).map (fun d => d.parameters.length) = some n0)
def gq_LF (own : String) (idx : Nat) (C : String) (x : MethodName) (M' : gq_M) (n0 : Nat) : Prop := Cond.methodLink own idx x ∈ gq_ws ∧ Cond.selects C x M'.1 ∈ gq_ws ∧ Cond.instanceMethod M'.1 ∈ gq_ws ∧ Cond.initialized M'.1.cls ∈ gq_ws ∧ gq_hd M' ∈ gq_ws ∧ M'.2.2.2.2.2 = [] ∧ (C, x, M'.1) ∈ gq_fw ∧ (x.cls ≠ "java/lang/invoke/MethodHandle" ∧ x.cls ≠ "java/lang/invoke/VarHandle" ∧ (parseMethodDescriptor x.desc).map (fun d => d.parameters.length) = some n0)
theorem gq_hd0 {M' : gq_M} (h : M'.2.2.2.2.2 = []) : gq_hd M' = Cond.code M'.1 M'.2.1 M'.2.2.1 M'.2.2.2.1 := by unfold gq_hd; rw [h]
theorem gq_gi {xs : List Cond} (h : ∀ w ∈ xs, w ∈ gq_ws) : GoodIn gq_ws (xs ++ gq_ws) := fun w hw => gq_good w ((List.mem_append.mp hw).elim (h w) id)
theorem gq_cwV {own C : String} {idx n0 : Nat} {M' : gq_M} (hts : ∀ w ∈ gq_ws, w.before args s = true) (lk : gq_LV own idx C M' n0) (hR : M'.2.2.2.2.1.frames + 1 ≤ R.frames ∧ 8 + (M'.2.2.1 + 11) + M'.2.2.2.2.1.locals ≤ R.locals) : CallW R s args own C idx M'.1 M'.2.1 M'.2.2.1 M'.2.2.2.1 (gq_hd M' :: gq_ws) M'.2.2.2.2.1 M'.2.2.2.2.1.cells M'.2.2.2.2.1.slots n0 := by
  obtain ⟨h1, h2, h3, h4, h5, h6, h7⟩ := lk
  refine cwV (ws' := gq_ws) n0 hts ?_ (by rw [gq_hd0 h6]) rfl rfl h7 hR
  intro w hw
  refine gq_good w ?_
  rcases List.mem_append.mp hw with hw | hw
  · simp only [List.mem_cons, List.not_mem_nil, or_false] at hw
    rcases hw with rfl | rfl | rfl | rfl
    · exact h1
    · exact h2
    · exact h3
    · exact h4
  · rcases List.mem_cons.mp hw with rfl | hw
    · exact h5
    · exact hw
theorem gq_cwS {own : String} {idx n0 : Nat} {M' : gq_M} (hts : ∀ w ∈ gq_ws, w.before args s = true) (lk : gq_LS own idx M' n0) (hR : M'.2.2.2.2.1.frames + 1 ≤ R.frames ∧ 8 + (M'.2.2.1 + 11) + M'.2.2.2.2.1.locals ≤ R.locals) : CallB R s args own idx M'.1 M'.2.1 M'.2.2.1 M'.2.2.2.1 (gq_hd M' :: gq_ws) M'.2.2.2.2.1 M'.2.2.2.2.1.cells M'.2.2.2.2.1.slots n0 ∧ (Cond.static M'.1).before args s = true := by
  obtain ⟨h1, h2, h3, h5, h6, h7⟩ := lk
  refine va_cwS (ws' := gq_ws) n0 hts ?_ (by rw [gq_hd0 h6]) rfl rfl h7 hR
  intro w hw
  refine gq_good w ?_
  rcases List.mem_append.mp hw with hw | hw
  · simp only [List.mem_cons, List.not_mem_nil, or_false] at hw
    rcases hw with rfl | rfl | rfl
    · exact h1
    · exact h2
    · exact h3
  · rcases List.mem_cons.mp hw with rfl | hw
    · exact h5
    · exact hw
/-- where the receiver lies -/
def gq_rv (κ : gq_K) (P : gq_H → Prop) (b : Nat) (C : String) : Prop := ∀ (h : gq_H) (H : Heap) (s : State) (A : Nat → Prop) (locs : List Loc), P h → gq_HP κ A h H → gq_TB κ s → gq_Zs κ A s s.heap → va_S A s.heap H locs → ∃ cell : Cell, H[b]? = some cell ∧ cell.vm.isStatics = false ∧ s.vm.findClass C = some cell.cls
theorem gq_rc {b ci : Nat} {q : vw_C} (hc : vwCl[ci]? = some q) (hb : ∀ h, P h → ∃ fs, h b = some (.inr (ci, fs))) : gq_rv κ P b q.1 := by
  intro h H s A locs h1 h2 hTB hZ hS
  obtain ⟨ws, hP, hD, hw⟩ := h2.place
  obtain ⟨fs, hfs⟩ := hb h h1
  obtain ⟨q0, hq0⟩ := hw b _ hfs
  exact va_recv hTB.1 hP hc hq0
theorem gq_rs (i : Nat) (hi : i < 7) : gq_rv κ P (κ.2.2 i) "java/lang/String" := fun _ _ _ _ _ _ _ _ hZ hS => vk_recv hZ.2.2.2.2.2.2 hi hS
set_option maxHeartbeats 4000000 in
theorem y_callV (o : gq_Ok κ M f) {M' : gq_M} {b idx n0 : Nat} {C : String} {As rest stk : List Value} {P1 : gq_H → Prop} {Q1 : Option Value → gq_H → Prop} {E1 : String → gq_H → Prop} (hC : gq_C κ M' (.ref b :: As) P1 Q1 E1) (lk : gq_LV M.1.cls idx C M' n0) (d : decode M.2.1 pc = .ok (.invokevirtual idx, 3)) (hb : gq_rv κ P b C) (hst : stk = As.reverse ++ .ref b :: rest) (hn0 : As.length = n0) (hw : (rest.map fun v => v.category).sum ≤ 8) (hR : M'.2.2.2.2.1.frames + 1 ≤ M.2.2.2.2.1.frames ∧ 8 + (M'.2.2.1 + 11) + M'.2.2.2.2.1.locals ≤ M.2.2.2.2.1.locals) (hf : k + M'.2.2.2.2.1.cells ≤ M.2.2.2.2.1.cells ∧ n + M'.2.2.2.2.1.slots ≤ M.2.2.2.2.1.slots) (hp : ∀ h, P h → P1 h) (ht : M.2.2.2.2.2 = []) (kx : ∀ x h, E1 x h → E x h)
    (kk : ∀ v, gq_Y κ M Q E f (Q1 v) lv (pc + 3) (v.toList ++ rest) (k + M'.2.2.2.2.1.cells) (n + M'.2.2.2.2.1.slots)) : gq_Y κ M Q E f P lv pc stk k n := by
  subst hst
  obtain ⟨p, l, e, s, m, args, below, meth, c, A⟩ := f
  intro h H locs ls h1 h2 h3 h4
  obtain ⟨hx, hbb, hml, hown, hts, hTB, hZs, hA, hret, hlk, hfl, hnm, htb⟩ := id o
  refine gq_ofRunX (vx_runV (As := As) (b := b) (rest := rest) ⟨hx, hbb, hml, hown, hts⟩ (hC l A hfl) (gq_cwV hts lk hR) ⟨gq_Pc.blind, hb h H s A locs h1 h2 hTB hZs h3, gq_pc (As := .ref b :: As) hTB hZs hA h3 h2 (hp h h1)⟩ rfl hn0 h4.1 rfl (lv_room hw) d hf) h3 (fun v h' H1 locs1 hq hh hS => kk v h' H1 locs1 ls hq hh hS h4) (fun x h' H1 locs1 q ce hE hh hS hce hcv hcl => ?_)
  exact vx_out (by rw [htb, ht]; intro z hz; cases hz) hlk hce hcv hcl (fun t ht' _ => ⟨⟨h', kx x h' hE, by rw [ht']; exact hh⟩, hS.F ht'⟩) hS.2.2 hf.1 hf.2
set_option maxHeartbeats 4000000 in
theorem y_callS (o : gq_Ok κ M f) {M' : gq_M} {idx n0 : Nat} {As rest stk : List Value} {P1 : gq_H → Prop} {Q1 : Option Value → gq_H → Prop} {E1 : String → gq_H → Prop} (hC : gq_C κ M' As P1 Q1 E1) (lk : gq_LS M.1.cls idx M' n0) (d : decode M.2.1 pc = .ok (.invokestatic idx, 3)) (hst : stk = As.reverse ++ rest) (hn0 : As.length = n0) (hw : (rest.map fun v => v.category).sum ≤ 8) (hR : M'.2.2.2.2.1.frames + 1 ≤ M.2.2.2.2.1.frames ∧ 8 + (M'.2.2.1 + 11) + M'.2.2.2.2.1.locals ≤ M.2.2.2.2.1.locals) (hf : k + M'.2.2.2.2.1.cells ≤ M.2.2.2.2.1.cells ∧ n + M'.2.2.2.2.1.slots ≤ M.2.2.2.2.1.slots) (hp : ∀ h, P h → P1 h) (ht : M.2.2.2.2.2 = []) (kx : ∀ x h, E1 x h → E x h)
    (kk : ∀ v, gq_Y κ M Q E f (Q1 v) lv (pc + 3) (v.toList ++ rest) (k + M'.2.2.2.2.1.cells) (n + M'.2.2.2.2.1.slots)) : gq_Y κ M Q E f P lv pc stk k n := by
  subst hst
  obtain ⟨p, l, e, s, m, args, below, meth, c, A⟩ := f
  intro h H locs ls h1 h2 h3 h4
  obtain ⟨hx, hbb, hml, hown, hts, hTB, hZs, hA, hret, hlk, hfl, hnm, htb⟩ := id o
  refine gq_ofRunX (vx_runS (As := As) (rest := rest) ⟨hx, hbb, hml, hown, hts⟩ (hC l A hfl) (gq_cwS hts lk hR) ⟨gq_Pc.blind, gq_pc hTB hZs hA h3 h2 (hp h h1)⟩ rfl hn0 h4.1 rfl (lv_room hw) d hf) h3 (fun v h' H1 locs1 hq hh hS => kk v h' H1 locs1 ls hq hh hS h4) (fun x h' H1 locs1 q ce hE hh hS hce hcv hcl => ?_)
  exact vx_out (by rw [htb, ht]; intro z hz; cases hz) hlk hce hcv hcl (fun t ht' _ => ⟨⟨h', kx x h' hE, by rw [ht']; exact hh⟩, hS.F ht'⟩) hS.2.2 hf.1 hf.2
set_option maxHeartbeats 4000000 in
/-- a constructor, of a mate too; it doesn't throw -/
theorem y_callI (o : gq_Ok κ M f) {M' : gq_M} {b idx n0 : Nat} {As rest stk : List Value} {P1 : gq_H → Prop} {Q1 : Option Value → gq_H → Prop} {E1 : String → gq_H → Prop} (hC : gq_C κ M' (.ref b :: As) P1 Q1 E1) (lk : gq_LI M.1.cls idx M' n0) (d : decode M.2.1 pc = .ok (.invokespecial idx, 3)) (hst : stk = As.reverse ++ .ref b :: rest) (hn0 : As.length = n0) (hw : (rest.map fun v => v.category).sum ≤ 8) (hR : M'.2.2.2.2.1.frames + 1 ≤ M.2.2.2.2.1.frames ∧ 8 + (M'.2.2.1 + 11) + M'.2.2.2.2.1.locals ≤ M.2.2.2.2.1.locals) (hf : k + M'.2.2.2.2.1.cells ≤ M.2.2.2.2.1.cells ∧ n + M'.2.2.2.2.1.slots ≤ M.2.2.2.2.1.slots) (hp : ∀ h, P h → P1 h) (hE : ∀ x h, ¬ E1 x h)
    (kk : ∀ v, gq_Y κ M Q E f (Q1 v) lv (pc + 3) (v.toList ++ rest) (k + M'.2.2.2.2.1.cells) (n + M'.2.2.2.2.1.slots)) : gq_Y κ M Q E f P lv pc stk k n := by
  subst hst
  obtain ⟨p, l, e, s, m, args, below, meth, c, A⟩ := f
  intro h H locs ls h1 h2 h3 h4
  obtain ⟨hx, hbb, hml, hown, hts, hTB, hZs, hA, hret, hlk, hfl, hnm, htb⟩ := id o
  obtain ⟨g1, g2, g3, g5, g6, g7, g8, g9⟩ := lk
  have hgi : GoodIn gq_ws (gq_hd M' :: gq_ws) := fun w hw => gq_good w ((List.mem_cons.mp hw).elim (fun e => e ▸ g5) id)
  have hhd : gq_hd M' :: gq_ws = Cond.code M'.1 M'.2.1 M'.2.2.1 none :: gq_ws := by rw [gq_hd0 g6, g8]
  rcases g1 with g1 | ⟨host, g1⟩
  · exact gq_ofRun (va_runI (As := As) (b := b) (rest := rest) ⟨hx, hbb, hml, hown, hts⟩ (gq_met (A := A) hC hE hfl) (cwI n0 hts hgi hhd rfl rfl (hts _ g3) (hts _ g1) (hts _ g2) g7 g9 hR) ⟨gq_Pc.blind, gq_pc (As := .ref b :: As) hTB hZs hA h3 h2 (hp h h1)⟩ rfl hn0 h4.1 rfl (lv_room hw) d hf) h3 (fun v h' H1 locs1 hq hh hS => kk v h' H1 locs1 ls hq hh hS h4)
  · exact gq_ofRun (va_runIN (As := As) (b := b) (rest := rest) ⟨hx, hbb, hml, hown, hts⟩ (gq_met (A := A) hC hE hfl) ⟨va_cnB n0 hts hgi hhd rfl rfl (hTB.2.2.1 _ g1) (hts _ g3) g9 hR, g7, hts _ g2⟩ ⟨gq_Pc.blind, gq_pc (As := .ref b :: As) hTB hZs hA h3 h2 (hp h h1)⟩ rfl hn0 h4.1 rfl (lv_room hw) d hf) h3 (fun v h' H1 locs1 hq hh hS => kk v h' H1 locs1 ls hq hh hS h4)
set_option maxHeartbeats 4000000 in
/-- a private static method of a mate; it doesn't throw -/
theorem y_callSN (o : gq_Ok κ M f) {M' : gq_M} {idx n0 : Nat} {host : String} {As rest stk : List Value} {P1 : gq_H → Prop} {Q1 : Option Value → gq_H → Prop} {E1 : String → gq_H → Prop} (hC : gq_C κ M' As P1 Q1 E1) (g1 : (M.1.cls, idx, M'.1, host) ∈ gq_nm) (lk : Cond.static M'.1 ∈ gq_ws ∧ Cond.initialized M'.1.cls ∈ gq_ws ∧ gq_hd M' ∈ gq_ws ∧ M'.2.2.2.2.2 = [] ∧ (M'.1.cls ≠ "java/lang/invoke/MethodHandle" ∧ M'.1.cls ≠ "java/lang/invoke/VarHandle" ∧ (parseMethodDescriptor M'.1.desc).map (fun d => d.parameters.length) = some n0)) (d : decode M.2.1 pc = .ok (.invokestatic idx, 3)) (hst : stk = As.reverse ++ rest) (hn0 : As.length = n0) (hw : (rest.map fun v => v.category).sum ≤ 8) (hR : M'.2.2.2.2.1.frames + 1 ≤ M.2.2.2.2.1.frames ∧ 8 + (M'.2.2.1 + 11) + M'.2.2.2.2.1.locals ≤ M.2.2.2.2.1.locals) (hf : k + M'.2.2.2.2.1.cells ≤ M.2.2.2.2.1.cells ∧ n + M'.2.2.2.2.1.slots ≤ M.2.2.2.2.1.slots) (hp : ∀ h, P h → P1 h) (hE : ∀ x h, ¬ E1 x h)
    (kk : ∀ v, gq_Y κ M Q E f (Q1 v) lv (pc + 3) (v.toList ++ rest) (k + M'.2.2.2.2.1.cells) (n + M'.2.2.2.2.1.slots)) : gq_Y κ M Q E f P lv pc stk k n := by
  subst hst
  obtain ⟨p, l, e, s, m, args, below, meth, c, A⟩ := f
  intro h H locs ls h1 h2 h3 h4
  obtain ⟨hx, hbb, hml, hown, hts, hTB, hZs, hA, hret, hlk, hfl, hnm, htb⟩ := id o
  obtain ⟨g2, g3, g5, g6, g9⟩ := lk
  have hgi : GoodIn gq_ws (gq_hd M' :: gq_ws) := fun w hw => gq_good w ((List.mem_cons.mp hw).elim (fun e => e ▸ g5) id)
  exact gq_ofRun (va_runSN (As := As) (rest := rest) ⟨hx, hbb, hml, hown, hts⟩ (gq_met (A := A) hC hE hfl) ⟨va_cnB (ws' := gq_ws) n0 hts hgi (by rw [gq_hd0 g6]) rfl rfl (hTB.2.2.1 _ g1) (hts _ g3) g9 hR, hts _ g2, trivial⟩ ⟨gq_Pc.blind, gq_pc hTB hZs hA h3 h2 (hp h h1)⟩ rfl hn0 h4.1 rfl (lv_room hw) d hf) h3 (fun v h' H1 locs1 hq hh hS => kk v h' H1 locs1 ls hq hh hS h4)
set_option maxHeartbeats 4000000 in
/-- an interface's method; it doesn't throw -/
theorem y_callF (o : gq_Ok κ M f) {M' : gq_M} {b ci idx cnt n0 : Nat} {qc : vw_C} {x : MethodName} {As rest stk : List Value} {P1 : gq_H → Prop} {Q1 : Option Value → gq_H → Prop} {E1 : String → gq_H → Prop} (hC : gq_C κ M' (.ref b :: As) P1 Q1 E1) (hc : vwCl[ci]? = some qc) (lk : gq_LF M.1.cls idx qc.1 x M' n0) (d : decode M.2.1 pc = .ok (.invokeinterface idx cnt, 5)) (hb : ∀ h, P h → ∃ fs, h b = some (.inr (ci, fs))) (hst : stk = As.reverse ++ .ref b :: rest) (hn0 : As.length = n0) (hw : (rest.map fun v => v.category).sum ≤ 8) (hR : M'.2.2.2.2.1.frames + 1 ≤ M.2.2.2.2.1.frames ∧ 8 + (M'.2.2.1 + 11) + M'.2.2.2.2.1.locals ≤ M.2.2.2.2.1.locals) (hf : k + M'.2.2.2.2.1.cells ≤ M.2.2.2.2.1.cells ∧ n + M'.2.2.2.2.1.slots ≤ M.2.2.2.2.1.slots) (hp : ∀ h, P h → P1 h) (hE : ∀ x h, ¬ E1 x h)
    (kk : ∀ v, gq_Y κ M Q E f (Q1 v) lv (pc + 5) (v.toList ++ rest) (k + M'.2.2.2.2.1.cells) (n + M'.2.2.2.2.1.slots)) : gq_Y κ M Q E f P lv pc stk k n := by
  subst hst
  obtain ⟨p, l, e, s, m, args, below, meth, c, A⟩ := f
  intro h H locs ls h1 h2 h3 h4
  obtain ⟨hx, hbb, hml, hown, hts, hTB, hZs, hA, hret, hlk, hfl, hnm, htb⟩ := id o
  obtain ⟨g1, g2, g3, g4, g5, g6, g7, g9⟩ := lk
  refine gq_ofRun5 (va_runF (As := As) (b := b) (rest := rest) (hTB.1.1 ci qc hc).2 ⟨hx, hbb, hml, hown, hts⟩ (gq_met (A := A) hC hE hfl) (va_cwF (ws' := gq_ws) n0 hts (fun w hw => gq_good w ?_) (by rw [gq_hd0 g6]) rfl rfl (hTB.2.2.2.2.2.1 _ g7) g9 hR) ⟨gq_Pc.blind, gq_rc hc hb h H s A locs h1 h2 hTB hZs h3, gq_pc (As := .ref b :: As) hTB hZs hA h3 h2 (hp h h1)⟩ rfl hn0 h4.1 rfl (lv_room hw) d hf) h3 (fun v h' H1 locs1 hq hh hS => kk v h' H1 locs1 ls hq hh hS h4)
  rcases List.mem_append.mp hw with hw | hw
  · simp only [List.mem_cons, List.not_mem_nil, or_false] at hw
    rcases hw with rfl | rfl | rfl | rfl
    · exact g1
    · exact g2
    · exact g3
    · exact g4
  · rcases List.mem_cons.mp hw with rfl | hw
    · exact g5
    · exact hw
-- ===== throws =====
/-- the words of 'throw new E(text)' -/
def gq_TH (own : String) (ic : Nat) (cls : String) : Prop := Bundle.fit cls = true ∧ (∀ w ∈ vx_atS own ic cls ["java/lang/RuntimeException", "java/lang/Exception"], vx_ot w = true) ∧ ∀ w ∈ vx_atS own ic cls ["java/lang/RuntimeException", "java/lang/Exception"], (goodWord w = true ∧ w ∈ lw_tbl) ∨ (∃ t ∈ gq_ca, w = .castable t.1 t.2) ∨ ∃ t ∈ gq_de, w = .declares t
theorem gq_atw {own cls : String} {ic : Nat} (h : gq_TH own ic cls) (hts : ∀ w ∈ gq_ws, w.before args s = true) (hTB : gq_TB κ s) : ∀ w ∈ vx_atS own ic cls ["java/lang/RuntimeException", "java/lang/Exception"], w.before args s = true := by
  intro w hw
  rcases h.2.2 w hw with ⟨h1, h2⟩ | ⟨t, h1, rfl⟩ | ⟨t, h1, rfl⟩
  · exact hts w (gq_inM h2 h1)
  · exact va_Nw.use rfl (hTB.2.2.2.1 t h1)
  · exact va_Nw.use rfl (hTB.2.2.2.2.1 t h1)
set_option maxHeartbeats 4000000 in
theorem y_throwS (o : gq_Ok κ M f) {ik is ic : Nat} {cls text : String} (i : Nat) (hs : gq_strs[i]? = some (M.1.cls, is, text)) (hth : gq_TH M.1.cls ic cls) (hk : Cond.classLink M.1.cls ik cls ∈ gq_ws) (hi : Cond.initialized cls ∈ gq_ws)
    (d0 : decode M.2.1 pc = .ok (.new ik, 3)) (d3 : decode M.2.1 (pc + 3) = .ok (.dup, 1)) (d4 : decode M.2.1 (pc + 4) = .ok (.ldc is, 2)) (d6 : decode M.2.1 (pc + 6) = .ok (.invokespecial ic, 3)) (d9 : decode M.2.1 (pc + 9) = .ok (.athrow, 1)) (ht : M.2.2.2.2.2 = [])
    (hr : 5 < M.2.2.2.2.1.frames ∧ (st.map fun v => v.category).sum + 82 ≤ M.2.2.2.2.1.locals) (hc : k + 1 ≤ M.2.2.2.2.1.cells) (hn : n + 6 ≤ M.2.2.2.2.1.slots) (hE : ∀ h, P h → E cls h) : gq_Y κ M Q E f P lv pc st k n := by
  obtain ⟨p, l, e, s, m, args, below, meth, c, A⟩ := f
  intro h H locs ls h1 h2 h3 h4
  obtain ⟨hx, hbb, hml, hown, hts, hTB, hZs, hA, hret, hlk, hfl, hnm, htb⟩ := id o
  exact vx_throwS hx hbb (gq_nt hfl) hown hth.1 (by decide +kernel) (hts _ hk) (hts _ hi) (hTB.2.2.2.2.2.2.2.2.1 i _ hs) (gq_atw hth hts hTB) (fun w hw => by
      rcases List.mem_cons.mp hw with rfl | hw
      · rfl
      · rcases List.mem_cons.mp hw with rfl | hw
        · rfl
        · exact hth.2.1 w hw) hZs.1 hZs.2.1 h3 (h4.1.trans hml.symm) d0 d3 d4 d6 d9 (by rw [htb, ht]; intro z hz; cases hz) hr.1 hr.2 hc hn hlk (fun t _ hsz hq => ⟨⟨h, hE h h1, h2.kept hq⟩, ⟨Nat.le_trans h3.1 hsz, fun q g1 g2 => by rw [hq q (Nat.lt_of_lt_of_le g1 h3.1)]; exact h3.2.1 q g1 g2⟩⟩) h3.2.2 hc hn
set_option maxHeartbeats 4000000 in
theorem y_throwSW (o : gq_Ok κ M f) {ik is ic : Nat} {cls text : String} (i : Nat) (hs : gq_strs[i]? = some (M.1.cls, is, text)) (hth : gq_TH M.1.cls ic cls) (hk : Cond.classLink M.1.cls ik cls ∈ gq_ws) (hi : Cond.initialized cls ∈ gq_ws)
    (d0 : decode M.2.1 pc = .ok (.new ik, 3)) (d3 : decode M.2.1 (pc + 3) = .ok (.dup, 1)) (d4 : decode M.2.1 (pc + 4) = .ok (.ldc_w is, 3)) (d6 : decode M.2.1 (pc + 7) = .ok (.invokespecial ic, 3)) (d9 : decode M.2.1 (pc + 10) = .ok (.athrow, 1)) (ht : M.2.2.2.2.2 = [])
    (hr : 5 < M.2.2.2.2.1.frames ∧ (st.map fun v => v.category).sum + 82 ≤ M.2.2.2.2.1.locals) (hc : k + 1 ≤ M.2.2.2.2.1.cells) (hn : n + 6 ≤ M.2.2.2.2.1.slots) (hE : ∀ h, P h → E cls h) : gq_Y κ M Q E f P lv pc st k n := by
  obtain ⟨p, l, e, s, m, args, below, meth, c, A⟩ := f
  intro h H locs ls h1 h2 h3 h4
  obtain ⟨hx, hbb, hml, hown, hts, hTB, hZs, hA, hret, hlk, hfl, hnm, htb⟩ := id o
  exact vx_throwSW hx hbb (gq_nt hfl) hown hth.1 (by decide +kernel) (hts _ hk) (hts _ hi) (hTB.2.2.2.2.2.2.2.2.1 i _ hs) (gq_atw hth hts hTB) (fun w hw => by
      rcases List.mem_cons.mp hw with rfl | hw
      · rfl
      · rcases List.mem_cons.mp hw with rfl | hw
        · rfl
        · exact hth.2.1 w hw) hZs.1 hZs.2.1 h3 (h4.1.trans hml.symm) d0 d3 d4 d6 d9 (by rw [htb, ht]; intro z hz; cases hz) hr.1 hr.2 hc hn hlk (fun t _ hsz hq => ⟨⟨h, hE h h1, h2.kept hq⟩, ⟨Nat.le_trans h3.1 hsz, fun q g1 g2 => by rw [hq q (Nat.lt_of_lt_of_le g1 h3.1)]; exact h3.2.1 q g1 g2⟩⟩) h3.2.2 hc hn
-- ===== a table of one's own =====
def gq_CT (own : String) (hh : List (Nat × Nat × Nat × Nat)) (pc : Nat) (x : String) (hpc : Nat) : Prop := ∃ (pre : List ExceptionTableEntry) (xr : ExceptionTableEntry) (suf : List ExceptionTableEntry), tableOf hh = pre ++ xr :: suf ∧ (∀ z ∈ pre, z.catchType ≠ 0 ∧ ∃ nm : String, Cond.classLink own z.catchType nm ∈ gq_ws ∧ (x, nm) ∈ gq_nc) ∧ covers xr pc = true ∧ xr.catchType ≠ 0 ∧ Cond.classLink own xr.catchType x ∈ gq_ws ∧ (x, x) ∈ gq_ca ∧ xr.handlerPc = hpc
set_option maxHeartbeats 4000000 in
/-- a call inside a try: what is thrown is caught here -/
theorem y_callVH (o : gq_Ok κ M f) {M' : gq_M} {b idx n0 : Nat} {C : String} {As rest stk : List Value} {P1 : gq_H → Prop} {Q1 : Option Value → gq_H → Prop} {E1 : String → gq_H → Prop} (hC : gq_C κ M' (.ref b :: As) P1 Q1 E1) (lk : gq_LV M.1.cls idx C M' n0) (d : decode M.2.1 pc = .ok (.invokevirtual idx, 3)) (hb : gq_rv κ P b C) (hst : stk = As.reverse ++ .ref b :: rest) (hn0 : As.length = n0) (hw : (rest.map fun v => v.category).sum ≤ 8) (hR : M'.2.2.2.2.1.frames + 1 ≤ M.2.2.2.2.1.frames ∧ 8 + (M'.2.2.1 + 11) + M'.2.2.2.2.1.locals ≤ M.2.2.2.2.1.locals) (hf : k + M'.2.2.2.2.1.cells ≤ M.2.2.2.2.1.cells ∧ n + M'.2.2.2.2.1.slots ≤ M.2.2.2.2.1.slots) (hp : ∀ h, P h → P1 h)
    (kx : ∀ x h, E1 x h → ∃ hpc, gq_CT M.1.cls M.2.2.2.2.2 pc x hpc ∧ ∀ q, gq_Y κ M Q E f (fun g => g = h) lv hpc [.ref q] (k + M'.2.2.2.2.1.cells) (n + M'.2.2.2.2.1.slots))
    (kk : ∀ v, gq_Y κ M Q E f (Q1 v) lv (pc + 3) (v.toList ++ rest) (k + M'.2.2.2.2.1.cells) (n + M'.2.2.2.2.1.slots)) : gq_Y κ M Q E f P lv pc stk k n := by
  subst hst
  obtain ⟨p, l, e, s, m, args, below, meth, c, A⟩ := f
  intro h H locs ls h1 h2 h3 h4
  obtain ⟨hx, hbb, hml, hown, hts, hTB, hZs, hA, hret, hlk, hfl, hnm, htb⟩ := id o
  refine gq_ofRunX (vx_runV (As := As) (b := b) (rest := rest) ⟨hx, hbb, hml, hown, hts⟩ (hC l A hfl) (gq_cwV hts lk hR) ⟨gq_Pc.blind, hb h H s A locs h1 h2 hTB hZs h3, gq_pc (As := .ref b :: As) hTB hZs hA h3 h2 (hp h h1)⟩ rfl hn0 h4.1 rfl (lv_room hw) d hf) h3 (fun v h' H1 locs1 hq hh hS => kk v h' H1 locs1 ls hq hh hS h4) (fun x h' H1 locs1 q ce hE hh hS hce hcv hcl => ?_)
  obtain ⟨hpc, ⟨pre, xr, suf, t1, t2, t3, t4, t5, t6, t7⟩, yx⟩ := kx x h' hE
  refine vx_catch hown pre xr suf (by rw [htb, t1]) (fun z hz => ?_) t3 t4 (hts _ t5) (va_Nw.use rfl (hTB.2.2.2.1 _ t6)) hce hcv hcl ?_
  · obtain ⟨z1, nm, z2, z3⟩ := t2 z hz
    exact Or.inr ⟨z1, nm, hts _ z2, hTB.2.2.2.2.2.2.2.1 _ z3⟩
  · rw [t7]
    exact yx q h' H1 locs1 ls rfl hh hS h4
end YC
section YR

end YR
