theorem gq_tt {w : Cond} (h : w ∈ tables_1) : w ∈ lw_tbl := List.mem_append_right _ h
theorem gq_us {C : String} {T : u_T} {N : Nat} (h : ∀ k, k < N → u_lay C T k ∈ gq_ws) : ∀ w ∈ u_ws C T N, w ∈ gq_ws := by
  intro w hw
  obtain ⟨k, hk, rfl⟩ := List.mem_map.mp hw
  exact h k (List.mem_range.mp hk)
def gq_tch (is : List Nat) (l : List Cond) : Bool := (l.zip is).all fun q => (goodWord q.1 && decide (lw_tbl[q.2]? = some q.1)) || (!goodWord q.1 && (decide (q.1 ∈ gq_ca.map fun t => Cond.castable t.1 t.2) || decide (q.1 ∈ gq_de.map fun t => Cond.declares t)))
theorem gq_tck {l : List Cond} (is : List Nat) (hn : l.length = is.length) (h : gq_tch is l = true) : ∀ w ∈ l, (goodWord w = true ∧ w ∈ lw_tbl) ∨ (∃ t ∈ gq_ca, w = .castable t.1 t.2) ∨ ∃ t ∈ gq_de, w = .declares t := by
  intro w hw
  obtain ⟨j, hj⟩ := List.getElem?_of_mem hw
  have hjl := (List.getElem?_eq_some_iff.mp hj).1
  have hz : (l.zip is)[j]? = some (w, is[j]'(by omega)) := by
    rw [List.getElem?_zip_eq_some]
    exact ⟨hj, List.getElem?_eq_getElem (by omega)⟩
  unfold gq_tch at h
  have h1 := List.all_eq_true.mp h _ (List.mem_of_getElem? hz)
  simp only [Bool.and_eq_true, Bool.or_eq_true, decide_eq_true_eq, List.mem_map] at h1
  rcases h1 with ⟨h1, h2⟩ | ⟨-, ⟨t, h1, h2⟩ | ⟨t, h1, h2⟩⟩
  · exact Or.inl ⟨h1, List.mem_of_getElem? h2⟩
  · exact Or.inr (Or.inl ⟨t, h1, h2.symm⟩)
  · exact Or.inr (Or.inr ⟨t, h1, h2.symm⟩)
theorem gq_t1 {w : Cond} {i : Nat} (h : tables_1_1[i]? = some w) (g : goodWord w = true) : w ∈ gq_ws := gq_inM (gq_tt (List.mem_append_left _ (List.mem_of_getElem? h))) g
theorem gq_t2 {w : Cond} {i : Nat} (h : tables_1_2[i]? = some w) (g : goodWord w = true) : w ∈ gq_ws := gq_inM (gq_tt (List.mem_append_right _ (List.mem_append_left _ (List.mem_of_getElem? h)))) g
theorem gq_t3 {w : Cond} {i : Nat} (h : tables_1_3[i]? = some w) (g : goodWord w = true) : w ∈ gq_ws := gq_inM (gq_tt (List.mem_append_right _ (List.mem_append_right _ (List.mem_append_left _ (List.mem_of_getElem? h))))) g
theorem gq_t4 {w : Cond} {i : Nat} (h : tables_1_4[i]? = some w) (g : goodWord w = true) : w ∈ gq_ws := gq_inM (gq_tt (List.mem_append_right _ (List.mem_append_right _ (List.mem_append_right _ (List.mem_append_left _ (List.mem_of_getElem? h)))))) g
theorem gq_t5 {w : Cond} {i : Nat} (h : tables_1_5[i]? = some w) (g : goodWord w = true) : w ∈ gq_ws := gq_inM (gq_tt (List.mem_append_right _ (List.mem_append_right _ (List.mem_append_right _ (List.mem_append_right _ (List.mem_append_left _ (List.mem_of_getElem? h))))))) g
theorem gq_t6 {w : Cond} {i : Nat} (h : tables_1_6[i]? = some w) (g : goodWord w = true) : w ∈ gq_ws := gq_inM (gq_tt (List.mem_append_right _ (List.mem_append_right _ (List.mem_append_right _ (List.mem_append_right _ (List.mem_append_right _ (List.mem_append_left _ (List.mem_of_getElem? h)))))))) g
theorem gq_t7 {w : Cond} {i : Nat} (h : tables_1_7[i]? = some w) (g : goodWord w = true) : w ∈ gq_ws := gq_inM (gq_tt (List.mem_append_right _ (List.mem_append_right _ (List.mem_append_right _ (List.mem_append_right _ (List.mem_append_right _ (List.mem_append_right _ (List.mem_append_left _ (List.mem_of_getElem? h))))))))) g
theorem gq_t8 {w : Cond} {i : Nat} (h : tables_1_8[i]? = some w) (g : goodWord w = true) : w ∈ gq_ws := gq_inM (gq_tt (List.mem_append_right _ (List.mem_append_right _ (List.mem_append_right _ (List.mem_append_right _ (List.mem_append_right _ (List.mem_append_right _ (List.mem_append_right _ (List.mem_of_getElem? h))))))))) g
theorem qw_0 : Cond.selects "Graphline" yX11_pencilsInRuns yX11_pencilsInRuns ∈ gq_ws := gq_in 0 rfl rfl
theorem qw_1 : Cond.selects "Graphline" yX11_areGrossesOfOneGrade yX11_areGrossesOfOneGrade ∈ gq_ws := gq_in 1 rfl rfl
theorem qw_2 : Cond.selects "Graphline" yX11_areBrokenAmongPencils yX11_areBrokenAmongPencils ∈ gq_ws := gq_in 2 rfl rfl
theorem qw_4 : Cond.selects "Graphline" yX11_machineNamed yX11_machineNamed ∈ gq_ws := gq_in 4 rfl rfl
theorem qw_5 : Cond.selects "java/util/ArrayList" yJx4a65c_add_72be8 yJx4a65c_add_72be8 ∈ gq_ws := gq_in 5 rfl rfl
theorem qw_6 : Cond.selects "java/util/ArrayList" yJx4a65c_grow_d5877 yJx4a65c_grow_d5877 ∈ gq_ws := gq_in 6 rfl rfl
theorem qw_7 : Cond.selects "java/util/ArrayList" yJx4a65c_grow_92f84 yJx4a65c_grow_92f84 ∈ gq_ws := gq_in 7 rfl rfl
theorem qw_8 : Cond.selects "Graphline" yX11_lotNumbered yX11_lotNumbered ∈ gq_ws := gq_in 8 rfl rfl
theorem qw_9 : Cond.selects "Graphline" yX11_mixtureNumbered yX11_mixtureNumbered ∈ gq_ws := gq_in 9 rfl rfl
theorem qw_10 : Cond.selects "Graphline" yX11_batchNumbered yX11_batchNumbered ∈ gq_ws := gq_in 10 rfl rfl
theorem qw_11 : Cond.selects "Graphline" yX11_slatLotNumbered yX11_slatLotNumbered ∈ gq_ws := gq_in 11 rfl rfl
theorem qw_12 : Cond.selects "Graphline" yX11_runNumbered yX11_runNumbered ∈ gq_ws := gq_in 12 rfl rfl
theorem qw_13 : Cond.selects "Graphline" yX11_grossNumbered yX11_grossNumbered ∈ gq_ws := gq_in 13 rfl rfl
theorem qw_14 : Cond.selects "Graphline" yX11_orderNumbered yX11_orderNumbered ∈ gq_ws := gq_in 14 rfl rfl
theorem qw_15 : Cond.selects "GraphlineModel" yX16_begins yX16_begins ∈ gq_ws := gq_in 15 rfl rfl
theorem qw_16 : Cond.selects "GraphlineModel" yX16_fails yX16_fails ∈ gq_ws := gq_in 16 rfl rfl
theorem qw_17 : Cond.selects "GraphlineModel" yX16_going yX16_going ∈ gq_ws := gq_in 17 rfl rfl
theorem qw_18 : Cond.selects "GraphlineModel" yX16_noLot yX16_noLot ∈ gq_ws := gq_in 18 rfl rfl
theorem qw_19 : Cond.selects "GraphlineModel" yX16_noBatch yX16_noBatch ∈ gq_ws := gq_in 19 rfl rfl
theorem qw_20 : Cond.selects "GraphlineModel" yX16_fineness yX16_fineness ∈ gq_ws := gq_in 20 rfl rfl
theorem qw_21 : Cond.selects "GraphlineModel" yX16_isFired yX16_isFired ∈ gq_ws := gq_in 21 rfl rfl
theorem qw_22 : Cond.selects "GraphlineModel" yX16_tells yX16_tells ∈ gq_ws := gq_in 22 rfl rfl
theorem qw_23 : Cond.selects "GraphlineModel" yX16_noSlats yX16_noSlats ∈ gq_ws := gq_in 23 rfl rfl
theorem qw_24 : Cond.selects "GraphlineModel" yX16_noRun yX16_noRun ∈ gq_ws := gq_in 24 rfl rfl
theorem qw_25 : Cond.selects "GraphlineModel" yX16_noGross yX16_noGross ∈ gq_ws := gq_in 25 rfl rfl
theorem qw_26 : Cond.initialized "GraphlineLaw" ∈ gq_ws := gq_t1 (i := 0) rfl rfl
theorem qw_27 : Cond.initialized "Graphline" ∈ gq_ws := gq_t1 (i := 1) rfl rfl
theorem qw_28 : Cond.initialized "Graphline$Drive" ∈ gq_ws := gq_t1 (i := 2) rfl rfl
theorem qw_29 : Cond.initialized "Graphline$Machine" ∈ gq_ws := gq_t1 (i := 3) rfl rfl
theorem qw_30 : Cond.initialized "Graphline$Wheel" ∈ gq_ws := gq_t1 (i := 4) rfl rfl
theorem qw_31 : Cond.initialized "java/util/AbstractCollection" ∈ gq_ws := gq_t1 (i := 5) rfl rfl
theorem qw_32 : Cond.initialized "java/util/AbstractList" ∈ gq_ws := gq_t1 (i := 6) rfl rfl
theorem qw_33 : Cond.initialized "java/util/ArrayList" ∈ gq_ws := gq_t1 (i := 7) rfl rfl
theorem qw_34 : Cond.initialized "GraphlineModel" ∈ gq_ws := gq_t1 (i := 8) rfl rfl
theorem qw_38 : Cond.initialized "java/lang/IllegalArgumentException" ∈ gq_ws := gq_t1 (i := 12) rfl rfl
theorem qw_39 : Cond.initialized "java/lang/IllegalStateException" ∈ gq_ws := gq_t1 (i := 13) rfl rfl
theorem qw_40 : Cond.initialized "java/lang/UnsupportedOperationException" ∈ gq_ws := gq_t1 (i := 14) rfl rfl
theorem qw_41 : Cond.initialized "java/lang/String" ∈ gq_ws := gq_t1 (i := 15) rfl rfl
theorem qw_42 : Cond.initialized "java/lang/StringLatin1" ∈ gq_ws := gq_t1 (i := 16) rfl rfl
theorem qw_43 : Cond.initialized "java/lang/Math" ∈ gq_ws := gq_t1 (i := 17) rfl rfl
theorem qw_45 : Cond.initialized "jdk/internal/util/Preconditions" ∈ gq_ws := gq_t1 (i := 19) rfl rfl
theorem qw_47 : Cond.initialized "Graphline$Lot" ∈ gq_ws := gq_t1 (i := 21) rfl rfl
theorem qw_48 : Cond.initialized "jdk/internal/util/ArraysSupport" ∈ gq_ws := gq_t1 (i := 22) rfl rfl
theorem qw_49 : Cond.initialized "java/util/Arrays" ∈ gq_ws := gq_t1 (i := 23) rfl rfl
theorem qw_50 : Cond.initialized "java/lang/System" ∈ gq_ws := gq_t1 (i := 24) rfl rfl
theorem qw_51 : Cond.initialized "java/lang/IndexOutOfBoundsException" ∈ gq_ws := gq_t1 (i := 25) rfl rfl
theorem qw_53 : Cond.initialized "java/util/Objects" ∈ gq_ws := gq_t1 (i := 27) rfl rfl
theorem qw_54 : Cond.initialized "Graphline$Mixture" ∈ gq_ws := gq_t1 (i := 28) rfl rfl
theorem qw_55 : Cond.initialized "Graphline$Batch" ∈ gq_ws := gq_t1 (i := 29) rfl rfl
theorem qw_56 : Cond.initialized "GraphlineModel$Batch" ∈ gq_ws := gq_t1 (i := 30) rfl rfl
theorem qw_57 : Cond.initialized "Graphline$SlatLot" ∈ gq_ws := gq_t1 (i := 31) rfl rfl
theorem qw_58 : Cond.initialized "GraphlineModel$Slat" ∈ gq_ws := gq_t1 (i := 32) rfl rfl
theorem qw_59 : Cond.initialized "Graphline$Run" ∈ gq_ws := gq_t1 (i := 33) rfl rfl
theorem qw_60 : Cond.initialized "GraphlineModel$Run" ∈ gq_ws := gq_t1 (i := 34) rfl rfl
theorem qw_61 : Cond.initialized "Graphline$Gross" ∈ gq_ws := gq_t1 (i := 35) rfl rfl
theorem qw_62 : Cond.initialized "GraphlineModel$Gross" ∈ gq_ws := gq_t1 (i := 36) rfl rfl
theorem qw_63 : Cond.initialized "Graphline$Part" ∈ gq_ws := gq_t1 (i := 37) rfl rfl
theorem qw_64 : Cond.initialized "java/util/ArrayList$Itr" ∈ gq_ws := gq_t1 (i := 38) rfl rfl
theorem qw_65 : Cond.initialized "Graphline$Order" ∈ gq_ws := gq_t1 (i := 39) rfl rfl
theorem qw_66 : Cond.initialized "java/lang/ArithmeticException" ∈ gq_ws := gq_t1 (i := 40) rfl rfl
theorem qw_67 : Cond.classLink "GraphlineLaw" 8 "Graphline" ∈ gq_ws := gq_t1 (i := 41) rfl rfl
theorem qw_68 : Cond.instantiable "Graphline" 16 ∈ gq_ws := gq_t1 (i := 42) rfl rfl
theorem qw_69 : Cond.methodLink "GraphlineLaw" 148 yX11_init ∈ gq_ws := gq_t1 (i := 43) rfl rfl
theorem qw_70 : Cond.instanceMethod yX11_init ∈ gq_ws := gq_t1 (i := 44) rfl rfl
theorem qw_71 : Cond.code yX11_init cX11_init 1 none ∈ gq_ws := gq_t1 (i := 45) rfl rfl
theorem qw_72 : Cond.methodLink "Graphline" 1 objectInit ∈ gq_ws := gq_t1 (i := 46) rfl rfl
theorem qw_73 : Cond.instanceMethod objectInit ∈ gq_ws := gq_t1 (i := 47) rfl rfl
theorem qw_74 : Cond.code objectInit ⟨#[0xb1]⟩ 1 none ∈ gq_ws := gq_t1 (i := 48) rfl rfl
theorem qw_75 : Cond.classLink "Graphline" 7 "Graphline$Drive" ∈ gq_ws := gq_t1 (i := 49) rfl rfl
theorem qw_76 : Cond.instantiable "Graphline$Drive" 5 ∈ gq_ws := gq_t1 (i := 50) rfl rfl
theorem qw_78 : Cond.instanceMethod yX1_init ∈ gq_ws := gq_t1 (i := 52) rfl rfl
theorem qw_79 : Cond.code yX1_init cX1_init 1 none ∈ gq_ws := gq_t1 (i := 53) rfl rfl
theorem qw_80 : Cond.methodLink "Graphline$Drive" 1 objectInit ∈ gq_ws := gq_t1 (i := 54) rfl rfl
theorem qw_81 : Cond.classLink "Graphline$Drive" 7 "Graphline$Machine" ∈ gq_ws := gq_t1 (i := 55) rfl rfl
theorem qw_82 : Cond.instantiable "Graphline$Machine" 3 ∈ gq_ws := gq_t1 (i := 56) rfl rfl
theorem qw_83 : Cond.methodLink "Graphline$Drive" 9 yX4_init ∈ gq_ws := gq_t1 (i := 57) rfl rfl
theorem qw_84 : Cond.instanceMethod yX4_init ∈ gq_ws := gq_t1 (i := 58) rfl rfl
theorem qw_85 : Cond.code yX4_init cX4_init 2 none ∈ gq_ws := gq_t1 (i := 59) rfl rfl
theorem qw_86 : Cond.methodLink "Graphline$Machine" 1 objectInit ∈ gq_ws := gq_t1 (i := 60) rfl rfl
theorem qw_87 : Cond.fieldLink "Graphline$Machine" 17 "Graphline$Machine" "name" "C" ∈ gq_ws := gq_t1 (i := 61) rfl rfl
theorem qw_88 : Cond.fieldLink "Graphline" 112 "Graphline$Machine" "name" "C" ∈ gq_ws := gq_t1 (i := 62) rfl rfl
theorem qw_89 : Cond.fieldLink "Graphline$Machine" 7 "Graphline$Machine" "isOn" "Z" ∈ gq_ws := gq_t1 (i := 63) rfl rfl
theorem qw_90 : Cond.fieldLink "Graphline$Drive" 31 "Graphline$Machine" "isOn" "Z" ∈ gq_ws := gq_t1 (i := 64) rfl rfl
theorem qw_91 : Cond.fieldLink "Graphline" 116 "Graphline$Machine" "isOn" "Z" ∈ gq_ws := gq_t1 (i := 65) rfl rfl
theorem qw_92 : Cond.fieldLink "Graphline$Machine" 13 "Graphline$Machine" "driver" "LGraphline$Machine;" ∈ gq_ws := gq_t1 (i := 66) rfl rfl
theorem qw_93 : Cond.fieldLink "Graphline$Drive" 34 "Graphline$Machine" "driver" "LGraphline$Machine;" ∈ gq_ws := gq_t1 (i := 67) rfl rfl
theorem qw_94 : Cond.fieldLink "Graphline" 106 "Graphline$Machine" "driver" "LGraphline$Machine;" ∈ gq_ws := gq_t1 (i := 68) rfl rfl
theorem qw_95 : Cond.laysFinal "Graphline$Machine" "Graphline$Machine" "name" "C" ∈ gq_ws := gq_t1 (i := 69) rfl rfl
theorem qw_97 : Cond.lays "Graphline$Machine" "Graphline$Machine" "isOn" "Z" ∈ gq_ws := gq_t1 (i := 71) rfl rfl
theorem qw_99 : Cond.lays "Graphline$Machine" "Graphline$Machine" "driver" "LGraphline$Machine;" ∈ gq_ws := gq_t1 (i := 73) rfl rfl
theorem qw_102 : Cond.fieldLink "Graphline$Drive" 12 "Graphline$Drive" "mill" "LGraphline$Machine;" ∈ gq_ws := gq_t1 (i := 76) rfl rfl
theorem qw_103 : Cond.fieldLink "Graphline" 158 "Graphline$Drive" "mill" "LGraphline$Machine;" ∈ gq_ws := gq_t1 (i := 77) rfl rfl
theorem qw_104 : Cond.fieldLink "Graphline$Drive" 18 "Graphline$Drive" "press" "LGraphline$Machine;" ∈ gq_ws := gq_t1 (i := 78) rfl rfl
theorem qw_105 : Cond.fieldLink "Graphline" 198 "Graphline$Drive" "press" "LGraphline$Machine;" ∈ gq_ws := gq_t1 (i := 79) rfl rfl
theorem qw_106 : Cond.fieldLink "Graphline$Drive" 21 "Graphline$Drive" "groover" "LGraphline$Machine;" ∈ gq_ws := gq_t1 (i := 80) rfl rfl
theorem qw_107 : Cond.fieldLink "Graphline" 318 "Graphline$Drive" "groover" "LGraphline$Machine;" ∈ gq_ws := gq_t1 (i := 81) rfl rfl
theorem qw_108 : Cond.fieldLink "Graphline$Drive" 24 "Graphline$Drive" "coater" "LGraphline$Machine;" ∈ gq_ws := gq_t1 (i := 82) rfl rfl
theorem qw_109 : Cond.fieldLink "Graphline" 368 "Graphline$Drive" "coater" "LGraphline$Machine;" ∈ gq_ws := gq_t1 (i := 83) rfl rfl
theorem qw_110 : Cond.fieldLink "Graphline$Drive" 27 "Graphline$Drive" "shaftTurns" "Z" ∈ gq_ws := gq_t1 (i := 84) rfl rfl
theorem qw_111 : Cond.fieldLink "Graphline" 87 "Graphline$Drive" "shaftTurns" "Z" ∈ gq_ws := gq_t1 (i := 85) rfl rfl
theorem qw_112 : Cond.laysFinal "Graphline$Drive" "Graphline$Drive" "mill" "LGraphline$Machine;" ∈ gq_ws := gq_t1 (i := 86) rfl rfl
theorem qw_114 : Cond.laysFinal "Graphline$Drive" "Graphline$Drive" "press" "LGraphline$Machine;" ∈ gq_ws := gq_t1 (i := 88) rfl rfl
theorem qw_116 : Cond.laysFinal "Graphline$Drive" "Graphline$Drive" "groover" "LGraphline$Machine;" ∈ gq_ws := gq_t1 (i := 90) rfl rfl
theorem qw_118 : Cond.laysFinal "Graphline$Drive" "Graphline$Drive" "coater" "LGraphline$Machine;" ∈ gq_ws := gq_t1 (i := 92) rfl rfl
theorem qw_120 : Cond.lays "Graphline$Drive" "Graphline$Drive" "shaftTurns" "Z" ∈ gq_ws := gq_t1 (i := 94) rfl rfl
theorem qw_123 : Cond.classLink "Graphline" 16 "Graphline$Wheel" ∈ gq_ws := gq_t1 (i := 97) rfl rfl
theorem qw_124 : Cond.instantiable "Graphline$Wheel" 2 ∈ gq_ws := gq_t1 (i := 98) rfl rfl
theorem qw_126 : Cond.instanceMethod yX10_init ∈ gq_ws := gq_t1 (i := 100) rfl rfl
theorem qw_127 : Cond.code yX10_init cX10_init 1 none ∈ gq_ws := gq_t1 (i := 101) rfl rfl
theorem qw_128 : Cond.methodLink "Graphline$Wheel" 3 objectInit ∈ gq_ws := gq_t1 (i := 102) rfl rfl
theorem qw_129 : Cond.fieldLink "Graphline$Wheel" 9 "Graphline$Wheel" "bias" "I" ∈ gq_ws := gq_t1 (i := 103) rfl rfl
theorem qw_130 : Cond.fieldLink "Graphline$Wheel" 15 "Graphline$Wheel" "drawsSinceDrift" "I" ∈ gq_ws := gq_t1 (i := 104) rfl rfl
theorem qw_131 : Cond.lays "Graphline$Wheel" "Graphline$Wheel" "bias" "I" ∈ gq_ws := gq_t1 (i := 105) rfl rfl
theorem qw_133 : Cond.lays "Graphline$Wheel" "Graphline$Wheel" "drawsSinceDrift" "I" ∈ gq_ws := gq_t1 (i := 107) rfl rfl
theorem qw_136 : Cond.classLink "Graphline" 23 "java/util/ArrayList" ∈ gq_ws := gq_t1 (i := 110) rfl rfl
theorem qw_137 : Cond.instantiable "java/util/ArrayList" 3 ∈ gq_ws := gq_t1 (i := 111) rfl rfl
theorem qw_138 : Cond.methodLink "Graphline" 25 yJx4a65c_init_da8c8 ∈ gq_ws := gq_t1 (i := 112) rfl rfl
theorem qw_139 : Cond.instanceMethod yJx4a65c_init_da8c8 ∈ gq_ws := gq_t1 (i := 113) rfl rfl
theorem qw_140 : Cond.code yJx4a65c_init_da8c8 cJx4a65c_init_da8c8 1 none ∈ gq_ws := gq_t1 (i := 114) rfl rfl
theorem qw_141 : Cond.methodLink "java/util/ArrayList" 1 yJxc12de_init_da8c8 ∈ gq_ws := gq_t1 (i := 115) rfl rfl
theorem qw_142 : Cond.instanceMethod yJxc12de_init_da8c8 ∈ gq_ws := gq_t1 (i := 116) rfl rfl
theorem qw_143 : Cond.code yJxc12de_init_da8c8 cJxc12de_init_da8c8 1 none ∈ gq_ws := gq_t1 (i := 117) rfl rfl
theorem qw_144 : Cond.methodLink "java/util/AbstractList" 1 yJxa1e45_init_da8c8 ∈ gq_ws := gq_t1 (i := 118) rfl rfl
theorem qw_145 : Cond.instanceMethod yJxa1e45_init_da8c8 ∈ gq_ws := gq_t1 (i := 119) rfl rfl
theorem qw_146 : Cond.code yJxa1e45_init_da8c8 cJxa1e45_init_da8c8 1 none ∈ gq_ws := gq_t1 (i := 120) rfl rfl
theorem qw_147 : Cond.methodLink "java/util/AbstractCollection" 1 objectInit ∈ gq_ws := gq_t1 (i := 121) rfl rfl
theorem qw_148 : Cond.fieldLink "java/util/ArrayList" 39 "java/util/ArrayList" "DEFAULTCAPACITY_EMPTY_ELEMENTDATA" "[Ljava/lang/Object;" ∈ gq_ws := gq_t1 (i := 122) rfl rfl
theorem qw_150 : Cond.fieldLink "java/util/ArrayList" 9 "java/util/ArrayList" "elementData" "[Ljava/lang/Object;" ∈ gq_ws := gq_t1 (i := 124) rfl rfl
theorem qw_151 : Cond.fieldLink "java/util/ArrayList$Itr" 37 "java/util/ArrayList" "elementData" "[Ljava/lang/Object;" ∈ gq_ws := gq_t1 (i := 125) rfl rfl
theorem qw_153 : Cond.fieldLink "java/util/ArrayList" 48 "java/util/ArrayList" "size" "I" ∈ gq_ws := gq_t1 (i := 127) rfl rfl
theorem qw_154 : Cond.fieldLink "java/util/AbstractList" 7 "java/util/AbstractList" "modCount" "I" ∈ gq_ws := gq_t1 (i := 128) rfl rfl
theorem qw_155 : Cond.fieldLink "java/util/ArrayList$Itr" 17 "java/util/ArrayList" "modCount" "I" ∈ gq_ws := gq_t1 (i := 129) rfl rfl
theorem qw_156 : Cond.sameField "java/util/ArrayList" "java/util/AbstractList" "modCount" "I" ∈ gq_ws := gq_t1 (i := 130) rfl rfl
theorem qw_157 : Cond.fieldLink "java/util/ArrayList" 63 "java/util/ArrayList" "modCount" "I" ∈ gq_ws := gq_t1 (i := 131) rfl rfl
theorem qw_158 : Cond.lays "java/util/ArrayList" "java/util/ArrayList" "elementData" "[Ljava/lang/Object;" ∈ gq_ws := gq_t1 (i := 132) rfl rfl
theorem qw_160 : Cond.lays "java/util/ArrayList" "java/util/ArrayList" "size" "I" ∈ gq_ws := gq_t1 (i := 134) rfl rfl
theorem qw_162 : Cond.lays "java/util/ArrayList" "java/util/AbstractList" "modCount" "I" ∈ gq_ws := gq_t1 (i := 136) rfl rfl
theorem qw_165 : Cond.fieldLink "Graphline" 10 "Graphline" "drive" "LGraphline$Drive;" ∈ gq_ws := gq_t1 (i := 139) rfl rfl
theorem qw_166 : Cond.fieldLink "Graphline" 19 "Graphline" "wheel" "LGraphline$Wheel;" ∈ gq_ws := gq_t1 (i := 140) rfl rfl
theorem qw_167 : Cond.fieldLink "Graphline" 26 "Graphline" "lots" "Ljava/util/ArrayList;" ∈ gq_ws := gq_t1 (i := 141) rfl rfl
theorem qw_168 : Cond.fieldLink "Graphline" 30 "Graphline" "mixtures" "Ljava/util/ArrayList;" ∈ gq_ws := gq_t1 (i := 142) rfl rfl
theorem qw_169 : Cond.fieldLink "Graphline" 33 "Graphline" "batches" "Ljava/util/ArrayList;" ∈ gq_ws := gq_t1 (i := 143) rfl rfl
theorem qw_170 : Cond.fieldLink "Graphline" 36 "Graphline" "slatLots" "Ljava/util/ArrayList;" ∈ gq_ws := gq_t1 (i := 144) rfl rfl
theorem qw_171 : Cond.fieldLink "Graphline" 39 "Graphline" "runs" "Ljava/util/ArrayList;" ∈ gq_ws := gq_t1 (i := 145) rfl rfl
theorem qw_172 : Cond.fieldLink "Graphline" 42 "Graphline" "grosses" "Ljava/util/ArrayList;" ∈ gq_ws := gq_t1 (i := 146) rfl rfl
theorem qw_173 : Cond.fieldLink "Graphline" 45 "Graphline" "orders" "Ljava/util/ArrayList;" ∈ gq_ws := gq_t1 (i := 147) rfl rfl
theorem qw_174 : Cond.fieldLink "Graphline" 48 "Graphline" "dieWear" "[I" ∈ gq_ws := gq_t1 (i := 148) rfl rfl
theorem qw_175 : Cond.fieldLink "Graphline" 52 "Graphline" "kilnReady" "[I" ∈ gq_ws := gq_t1 (i := 149) rfl rfl
theorem qw_176 : Cond.fieldLink "Graphline" 55 "Graphline" "clock" "I" ∈ gq_ws := gq_t1 (i := 150) rfl rfl
theorem qw_177 : Cond.fieldLink "Graphline" 59 "Graphline" "firings" "I" ∈ gq_ws := gq_t1 (i := 151) rfl rfl
theorem qw_178 : Cond.fieldLink "Graphline" 62 "Graphline" "z" "I" ∈ gq_ws := gq_t1 (i := 152) rfl rfl
theorem qw_179 : Cond.fieldLink "Graphline" 65 "Graphline" "laid" "I" ∈ gq_ws := gq_t1 (i := 153) rfl rfl
theorem qw_180 : Cond.fieldLink "Graphline" 68 "Graphline" "sampled" "I" ∈ gq_ws := gq_t1 (i := 154) rfl rfl
theorem qw_181 : Cond.laysFinal "Graphline" "Graphline" "drive" "LGraphline$Drive;" ∈ gq_ws := gq_t1 (i := 155) rfl rfl
theorem qw_183 : Cond.laysFinal "Graphline" "Graphline" "wheel" "LGraphline$Wheel;" ∈ gq_ws := gq_t1 (i := 157) rfl rfl
theorem qw_185 : Cond.laysFinal "Graphline" "Graphline" "lots" "Ljava/util/ArrayList;" ∈ gq_ws := gq_t1 (i := 159) rfl rfl
theorem qw_187 : Cond.laysFinal "Graphline" "Graphline" "mixtures" "Ljava/util/ArrayList;" ∈ gq_ws := gq_t1 (i := 161) rfl rfl
theorem qw_189 : Cond.laysFinal "Graphline" "Graphline" "batches" "Ljava/util/ArrayList;" ∈ gq_ws := gq_t1 (i := 163) rfl rfl
theorem qw_191 : Cond.laysFinal "Graphline" "Graphline" "slatLots" "Ljava/util/ArrayList;" ∈ gq_ws := gq_t1 (i := 165) rfl rfl
theorem qw_193 : Cond.laysFinal "Graphline" "Graphline" "runs" "Ljava/util/ArrayList;" ∈ gq_ws := gq_t1 (i := 167) rfl rfl
theorem qw_195 : Cond.laysFinal "Graphline" "Graphline" "grosses" "Ljava/util/ArrayList;" ∈ gq_ws := gq_t1 (i := 169) rfl rfl
theorem qw_197 : Cond.laysFinal "Graphline" "Graphline" "orders" "Ljava/util/ArrayList;" ∈ gq_ws := gq_t1 (i := 171) rfl rfl
theorem qw_199 : Cond.laysFinal "Graphline" "Graphline" "dieWear" "[I" ∈ gq_ws := gq_t1 (i := 173) rfl rfl
theorem qw_201 : Cond.laysFinal "Graphline" "Graphline" "kilnReady" "[I" ∈ gq_ws := gq_t1 (i := 175) rfl rfl
theorem qw_203 : Cond.lays "Graphline" "Graphline" "clock" "I" ∈ gq_ws := gq_t1 (i := 177) rfl rfl
theorem qw_205 : Cond.lays "Graphline" "Graphline" "firings" "I" ∈ gq_ws := gq_t1 (i := 179) rfl rfl
theorem qw_207 : Cond.lays "Graphline" "Graphline" "z" "I" ∈ gq_ws := gq_t1 (i := 181) rfl rfl
theorem qw_209 : Cond.lays "Graphline" "Graphline" "laid" "I" ∈ gq_ws := gq_t1 (i := 183) rfl rfl
theorem qw_211 : Cond.lays "Graphline" "Graphline" "sampled" "I" ∈ gq_ws := gq_t1 (i := 185) rfl rfl
theorem qw_214 : Cond.arrayClass .int ∈ gq_ws := gq_t1 (i := 188) rfl rfl
theorem qw_215 : Cond.methodLink "GraphlineLaw" 162 yX11_shaft ∈ gq_ws := gq_t1 (i := 189) rfl rfl
theorem qw_216 : Cond.instanceMethod yX11_shaft ∈ gq_ws := gq_t1 (i := 190) rfl rfl
theorem qw_217 : Cond.selects "Graphline" yX11_shaft yX11_shaft ∈ gq_ws := gq_t1 (i := 191) rfl rfl
theorem qw_218 : Cond.code yX11_shaft cX11_shaft 3 (some .boolean) ∈ gq_ws := gq_t1 (i := 192) rfl rfl
theorem qw_219 : Cond.methodLink "GraphlineLaw" 221 yX11_check ∈ gq_ws := gq_t1 (i := 193) rfl rfl
theorem qw_220 : Cond.instanceMethod yX11_check ∈ gq_ws := gq_t1 (i := 194) rfl rfl
theorem qw_221 : Cond.selects "Graphline" yX11_check yX11_check ∈ gq_ws := gq_t1 (i := 195) rfl rfl
theorem qw_222 : Cond.code yX11_check cX11_check 1 (some .int) ∈ gq_ws := gq_t1 (i := 196) rfl rfl
theorem qw_223 : Cond.methodLink "Graphline" 276 yX10_takeBias ∈ gq_ws := gq_t1 (i := 197) rfl rfl
theorem qw_224 : Cond.instanceMethod yX10_takeBias ∈ gq_ws := gq_t1 (i := 198) rfl rfl
theorem qw_225 : Cond.selects "Graphline$Wheel" yX10_takeBias yX10_takeBias ∈ gq_ws := gq_t1 (i := 199) rfl rfl
theorem qw_226 : Cond.code yX10_takeBias cX10_takeBias 2 (some .int) ∈ gq_ws := gq_t1 (i := 200) rfl rfl
theorem qw_227 : Cond.methodLink "GraphlineLaw" 287 yX11_missing ∈ gq_ws := gq_t1 (i := 201) rfl rfl
theorem qw_228 : Cond.instanceMethod yX11_missing ∈ gq_ws := gq_t1 (i := 202) rfl rfl
theorem qw_229 : Cond.selects "Graphline" yX11_missing yX11_missing ∈ gq_ws := gq_t1 (i := 203) rfl rfl
theorem qw_230 : Cond.code yX11_missing cX11_missing 3 (some .int) ∈ gq_ws := gq_t1 (i := 204) rfl rfl
theorem qw_231 : Cond.methodLink "Graphline" 127 yJx4a65c_size_8abf5 ∈ gq_ws := gq_t1 (i := 205) rfl rfl
theorem qw_232 : Cond.instanceMethod yJx4a65c_size_8abf5 ∈ gq_ws := gq_t1 (i := 206) rfl rfl
theorem qw_233 : Cond.selects "java/util/ArrayList" yJx4a65c_size_8abf5 yJx4a65c_size_8abf5 ∈ gq_ws := gq_t1 (i := 207) rfl rfl
theorem qw_234 : Cond.code yJx4a65c_size_8abf5 cJx4a65c_size_8abf5 1 (some .int) ∈ gq_ws := gq_t1 (i := 208) rfl rfl
theorem qw_235 : Cond.methodLink "Graphline" 492 yJx4a65c_get_915e3 ∈ gq_ws := gq_t1 (i := 209) rfl rfl
theorem qw_236 : Cond.instanceMethod yJx4a65c_get_915e3 ∈ gq_ws := gq_t1 (i := 210) rfl rfl
theorem qw_237 : Cond.selects "java/util/ArrayList" yJx4a65c_get_915e3 yJx4a65c_get_915e3 ∈ gq_ws := gq_t1 (i := 211) rfl rfl
theorem qw_238 : Cond.code yJx4a65c_get_915e3 cJx4a65c_get_915e3 2 (some (.object "java/lang/Object")) ∈ gq_ws := gq_t1 (i := 212) rfl rfl
theorem qw_239 : Cond.methodLink "java/util/ArrayList" 118 yJ15_checkIndex_7cf53 ∈ gq_ws := gq_t1 (i := 213) rfl rfl
theorem qw_240 : Cond.static yJ15_checkIndex_7cf53 ∈ gq_ws := gq_t1 (i := 214) rfl rfl
theorem qw_241 : Cond.code yJ15_checkIndex_7cf53 cJ15_checkIndex_7cf53 2 (some .int) ∈ gq_ws := gq_t1 (i := 215) rfl rfl
theorem qw_242 : Cond.methodLink "java/util/Objects" 105 yJ3_checkIndex_8e157 ∈ gq_ws := gq_t1 (i := 216) rfl rfl
theorem qw_243 : Cond.static yJ3_checkIndex_8e157 ∈ gq_ws := gq_t1 (i := 217) rfl rfl
theorem qw_244 : Cond.code yJ3_checkIndex_8e157 cJ3_checkIndex_8e157 3 (some .int) ∈ gq_ws := gq_t1 (i := 218) rfl rfl
theorem qw_245 : Cond.methodLink "java/util/ArrayList" 123 yJx4a65c_elementData_915e3 ∈ gq_ws := gq_t1 (i := 219) rfl rfl
theorem qw_246 : Cond.instanceMethod yJx4a65c_elementData_915e3 ∈ gq_ws := gq_t1 (i := 220) rfl rfl
theorem qw_247 : Cond.selects "java/util/ArrayList" yJx4a65c_elementData_915e3 yJx4a65c_elementData_915e3 ∈ gq_ws := gq_t1 (i := 221) rfl rfl
theorem qw_248 : Cond.code yJx4a65c_elementData_915e3 cJx4a65c_elementData_915e3 2 (some (.object "java/lang/Object")) ∈ gq_ws := gq_t1 (i := 222) rfl rfl
theorem qw_249 : Cond.classLink "Graphline" 431 "Graphline$Gross" ∈ gq_ws := gq_t1 (i := 223) rfl rfl
theorem qw_250 : Cond.methodLink "Graphline" 524 yX11_pencilsInRuns ∈ gq_ws := gq_t1 (i := 224) rfl rfl
theorem qw_252 : Cond.instanceMethod yX11_pencilsInRuns ∈ gq_ws := gq_t1 (i := 226) rfl rfl
theorem qw_253 : Cond.code yX11_pencilsInRuns cX11_pencilsInRuns 3 (some .int) ∈ gq_ws := gq_t1 (i := 227) rfl rfl
theorem qw_254 : Cond.classLink "Graphline" 348 "Graphline$Run" ∈ gq_ws := gq_t1 (i := 228) rfl rfl
theorem qw_255 : Cond.methodLink "GraphlineLaw" 291 yX11_checksum ∈ gq_ws := gq_t1 (i := 229) rfl rfl
theorem qw_256 : Cond.instanceMethod yX11_checksum ∈ gq_ws := gq_t1 (i := 230) rfl rfl
theorem qw_257 : Cond.selects "Graphline" yX11_checksum yX11_checksum ∈ gq_ws := gq_t1 (i := 231) rfl rfl
theorem qw_258 : Cond.code yX11_checksum cX11_checksum 5 (some .long) ∈ gq_ws := gq_t1 (i := 232) rfl rfl
theorem qw_259 : Cond.constantLong "Graphline" 527 (7) ∈ gq_ws := gq_t1 (i := 233) rfl rfl
theorem qw_260 : Cond.classLink "Graphline" 205 "Graphline$Batch" ∈ gq_ws := gq_t1 (i := 234) rfl rfl
theorem qw_261 : Cond.constantLong "Graphline" 529 (31) ∈ gq_ws := gq_t1 (i := 235) rfl rfl
theorem qw_262 : Cond.methodLink "GraphlineLaw" 303 yX11_isSound ∈ gq_ws := gq_t1 (i := 236) rfl rfl
theorem qw_263 : Cond.instanceMethod yX11_isSound ∈ gq_ws := gq_t1 (i := 237) rfl rfl
theorem qw_264 : Cond.selects "Graphline" yX11_isSound yX11_isSound ∈ gq_ws := gq_t1 (i := 238) rfl rfl
theorem qw_265 : Cond.code yX11_isSound cX11_isSound 1 (some .boolean) ∈ gq_ws := gq_t1 (i := 239) rfl rfl
theorem qw_266 : Cond.methodLink "Graphline" 538 yX11_missing ∈ gq_ws := gq_t2 (i := 0) rfl rfl
theorem qw_267 : Cond.methodLink "Graphline" 541 yX11_areGrossesOfOneGrade ∈ gq_ws := gq_t2 (i := 1) rfl rfl
theorem qw_269 : Cond.instanceMethod yX11_areGrossesOfOneGrade ∈ gq_ws := gq_t2 (i := 3) rfl rfl
theorem qw_270 : Cond.code yX11_areGrossesOfOneGrade cX11_areGrossesOfOneGrade 4 (some .boolean) ∈ gq_ws := gq_t2 (i := 4) rfl rfl
theorem qw_271 : Cond.classLink "Graphline" 453 "Graphline$Part" ∈ gq_ws := gq_t2 (i := 5) rfl rfl
theorem qw_272 : Cond.methodLink "Graphline" 544 yX1_hasNoRing ∈ gq_ws := gq_t2 (i := 6) rfl rfl
theorem qw_273 : Cond.instanceMethod yX1_hasNoRing ∈ gq_ws := gq_t2 (i := 7) rfl rfl
theorem qw_274 : Cond.selects "Graphline$Drive" yX1_hasNoRing yX1_hasNoRing ∈ gq_ws := gq_t2 (i := 8) rfl rfl
theorem qw_275 : Cond.code yX1_hasNoRing cX1_hasNoRing 1 (some .boolean) ∈ gq_ws := gq_t2 (i := 9) rfl rfl
theorem qw_276 : Cond.methodLink "Graphline$Drive" 37 yX1_hangsOnShaft ∈ gq_ws := gq_t2 (i := 10) rfl rfl
theorem qw_277 : Cond.static yX1_hangsOnShaft ∈ gq_ws := gq_t2 (i := 11) rfl rfl
theorem qw_278 : Cond.code yX1_hangsOnShaft cX1_hangsOnShaft 3 (some .boolean) ∈ gq_ws := gq_t2 (i := 12) rfl rfl
theorem qw_279 : Cond.methodLink "Graphline" 547 yX11_areBrokenAmongPencils ∈ gq_ws := gq_t2 (i := 13) rfl rfl
theorem qw_281 : Cond.instanceMethod yX11_areBrokenAmongPencils ∈ gq_ws := gq_t2 (i := 15) rfl rfl
theorem qw_282 : Cond.code yX11_areBrokenAmongPencils cX11_areBrokenAmongPencils 3 (some .boolean) ∈ gq_ws := gq_t2 (i := 16) rfl rfl
theorem qw_283 : Cond.methodLink "GraphlineLaw" 152 yL_go ∈ gq_ws := gq_t2 (i := 17) rfl rfl
theorem qw_284 : Cond.static yL_go ∈ gq_ws := gq_t2 (i := 18) rfl rfl
theorem qw_285 : Cond.codeWith yL_go cL_go 4 (some .int) [(0, 9, 12, 13), (0, 9, 15, 15)] ∈ gq_ws := gq_t2 (i := 19) rfl rfl
theorem qw_288 : Cond.methodLink "GraphlineLaw" 7 yX11_go ∈ gq_ws := gq_t2 (i := 22) rfl rfl
theorem qw_289 : Cond.instanceMethod yX11_go ∈ gq_ws := gq_t2 (i := 23) rfl rfl
theorem qw_290 : Cond.selects "Graphline" yX11_go yX11_go ∈ gq_ws := gq_t2 (i := 24) rfl rfl
theorem qw_291 : Cond.code yX11_go cX11_go 2 (some .int) ∈ gq_ws := gq_t2 (i := 25) rfl rfl
theorem qw_292 : Cond.methodLink "Graphline" 71 yX11_isOutside ∈ gq_ws := gq_t2 (i := 26) rfl rfl
theorem qw_293 : Cond.static yX11_isOutside ∈ gq_ws := gq_t2 (i := 27) rfl rfl
theorem qw_294 : Cond.code yX11_isOutside cX11_isOutside 3 (some .boolean) ∈ gq_ws := gq_t2 (i := 28) rfl rfl
theorem qw_295 : Cond.classLink "Graphline" 75 "java/lang/IllegalArgumentException" ∈ gq_ws := gq_t2 (i := 29) rfl rfl
theorem qw_365 : Cond.arrayClass .byte ∈ gq_ws := gq_t2 (i := 99) rfl rfl
theorem qw_366 : Cond.classLink "Graphline" 82 "java/lang/IllegalStateException" ∈ gq_ws := gq_t2 (i := 100) rfl rfl
theorem qw_382 : Cond.methodLink "GraphlineLaw" 167 yL_belt ∈ gq_ws := gq_t2 (i := 116) rfl rfl
theorem qw_383 : Cond.static yL_belt ∈ gq_ws := gq_t2 (i := 117) rfl rfl
theorem qw_384 : Cond.codeWith yL_belt cL_belt 5 (some .int) [(0, 10, 13, 13), (0, 10, 17, 21)] ∈ gq_ws := gq_t2 (i := 118) rfl rfl
theorem qw_386 : Cond.methodLink "GraphlineLaw" 17 yX11_belt ∈ gq_ws := gq_t2 (i := 120) rfl rfl
theorem qw_387 : Cond.instanceMethod yX11_belt ∈ gq_ws := gq_t2 (i := 121) rfl rfl
theorem qw_388 : Cond.selects "Graphline" yX11_belt yX11_belt ∈ gq_ws := gq_t2 (i := 122) rfl rfl
theorem qw_389 : Cond.code yX11_belt cX11_belt 6 (some .char) ∈ gq_ws := gq_t2 (i := 123) rfl rfl
theorem qw_390 : Cond.methodLink "Graphline" 91 yX11_machineNamed ∈ gq_ws := gq_t2 (i := 124) rfl rfl
theorem qw_392 : Cond.instanceMethod yX11_machineNamed ∈ gq_ws := gq_t2 (i := 126) rfl rfl
theorem qw_393 : Cond.code yX11_machineNamed cX11_machineNamed 2 (some (.object "Graphline$Machine")) ∈ gq_ws := gq_t2 (i := 127) rfl rfl
theorem qw_396 : Cond.methodLink "Graphline" 97 yX1_hangsOn ∈ gq_ws := gq_t2 (i := 130) rfl rfl
theorem qw_397 : Cond.instanceMethod yX1_hangsOn ∈ gq_ws := gq_t2 (i := 131) rfl rfl
theorem qw_398 : Cond.selects "Graphline$Drive" yX1_hangsOn yX1_hangsOn ∈ gq_ws := gq_t2 (i := 132) rfl rfl
theorem qw_399 : Cond.code yX1_hangsOn cX1_hangsOn 5 (some .boolean) ∈ gq_ws := gq_t2 (i := 133) rfl rfl
theorem qw_400 : Cond.classLink "Graphline" 101 "java/lang/UnsupportedOperationException" ∈ gq_ws := gq_t2 (i := 134) rfl rfl
theorem qw_416 : Cond.methodLink "GraphlineLaw" 171 yL_on ∈ gq_ws := gq_t2 (i := 150) rfl rfl
theorem qw_417 : Cond.static yL_on ∈ gq_ws := gq_t2 (i := 151) rfl rfl
theorem qw_418 : Cond.codeWith yL_on cL_on 5 (some .int) [(0, 17, 20, 13)] ∈ gq_ws := gq_t2 (i := 152) rfl rfl
theorem qw_419 : Cond.methodLink "GraphlineLaw" 23 yX11_on ∈ gq_ws := gq_t2 (i := 153) rfl rfl
theorem qw_420 : Cond.instanceMethod yX11_on ∈ gq_ws := gq_t2 (i := 154) rfl rfl
theorem qw_421 : Cond.selects "Graphline" yX11_on yX11_on ∈ gq_ws := gq_t2 (i := 155) rfl rfl
theorem qw_422 : Cond.code yX11_on cX11_on 5 (some .boolean) ∈ gq_ws := gq_t2 (i := 156) rfl rfl
theorem qw_423 : Cond.methodLink "GraphlineLaw" 175 yL_runs ∈ gq_ws := gq_t2 (i := 157) rfl rfl
theorem qw_424 : Cond.static yL_runs ∈ gq_ws := gq_t2 (i := 158) rfl rfl
theorem qw_425 : Cond.codeWith yL_runs cL_runs 4 (some .int) [(0, 16, 19, 13)] ∈ gq_ws := gq_t2 (i := 159) rfl rfl
theorem qw_426 : Cond.methodLink "GraphlineLaw" 27 yX11_runs ∈ gq_ws := gq_t2 (i := 160) rfl rfl
theorem qw_427 : Cond.instanceMethod yX11_runs ∈ gq_ws := gq_t2 (i := 161) rfl rfl
theorem qw_428 : Cond.selects "Graphline" yX11_runs yX11_runs ∈ gq_ws := gq_t2 (i := 162) rfl rfl
theorem qw_429 : Cond.code yX11_runs cX11_runs 2 (some .boolean) ∈ gq_ws := gq_t2 (i := 163) rfl rfl
theorem qw_430 : Cond.methodLink "Graphline" 119 yX1_moves ∈ gq_ws := gq_t2 (i := 164) rfl rfl
theorem qw_431 : Cond.instanceMethod yX1_moves ∈ gq_ws := gq_t2 (i := 165) rfl rfl
theorem qw_432 : Cond.selects "Graphline$Drive" yX1_moves yX1_moves ∈ gq_ws := gq_t2 (i := 166) rfl rfl
theorem qw_433 : Cond.code yX1_moves cX1_moves 4 (some .boolean) ∈ gq_ws := gq_t2 (i := 167) rfl rfl
theorem qw_434 : Cond.methodLink "GraphlineLaw" 179 yL_lot ∈ gq_ws := gq_t2 (i := 168) rfl rfl
theorem qw_435 : Cond.static yL_lot ∈ gq_ws := gq_t2 (i := 169) rfl rfl
theorem qw_436 : Cond.codeWith yL_lot cL_lot 7 (some .int) [(0, 14, 17, 13), (0, 14, 21, 15)] ∈ gq_ws := gq_t2 (i := 170) rfl rfl
theorem qw_437 : Cond.methodLink "GraphlineLaw" 31 yX11_lot ∈ gq_ws := gq_t2 (i := 171) rfl rfl
theorem qw_438 : Cond.instanceMethod yX11_lot ∈ gq_ws := gq_t2 (i := 172) rfl rfl
theorem qw_439 : Cond.selects "Graphline" yX11_lot yX11_lot ∈ gq_ws := gq_t2 (i := 173) rfl rfl
theorem qw_440 : Cond.code yX11_lot cX11_lot 5 (some .int) ∈ gq_ws := gq_t2 (i := 174) rfl rfl
theorem qw_444 : Cond.classLink "Graphline" 133 "Graphline$Lot" ∈ gq_ws := gq_t2 (i := 178) rfl rfl
theorem qw_445 : Cond.instantiable "Graphline$Lot" 4 ∈ gq_ws := gq_t2 (i := 179) rfl rfl
theorem qw_446 : Cond.methodLink "Graphline" 135 yX3_init ∈ gq_ws := gq_t2 (i := 180) rfl rfl
theorem qw_447 : Cond.instanceMethod yX3_init ∈ gq_ws := gq_t2 (i := 181) rfl rfl
theorem qw_448 : Cond.code yX3_init cX3_init 5 none ∈ gq_ws := gq_t2 (i := 182) rfl rfl
theorem qw_449 : Cond.methodLink "Graphline$Lot" 1 objectInit ∈ gq_ws := gq_t2 (i := 183) rfl rfl
theorem qw_450 : Cond.fieldLink "Graphline$Lot" 7 "Graphline$Lot" "kind" "C" ∈ gq_ws := gq_t2 (i := 184) rfl rfl
theorem qw_451 : Cond.fieldLink "Graphline" 151 "Graphline$Lot" "kind" "C" ∈ gq_ws := gq_t2 (i := 185) rfl rfl
theorem qw_452 : Cond.fieldLink "Graphline$Lot" 13 "Graphline$Lot" "purity" "I" ∈ gq_ws := gq_t2 (i := 186) rfl rfl
theorem qw_453 : Cond.fieldLink "Graphline" 165 "Graphline$Lot" "purity" "I" ∈ gq_ws := gq_t2 (i := 187) rfl rfl
theorem qw_454 : Cond.fieldLink "Graphline$Lot" 17 "Graphline$Lot" "size" "I" ∈ gq_ws := gq_t2 (i := 188) rfl rfl
theorem qw_455 : Cond.fieldLink "Graphline" 168 "Graphline$Lot" "size" "I" ∈ gq_ws := gq_t2 (i := 189) rfl rfl
theorem qw_456 : Cond.fieldLink "Graphline$Lot" 20 "Graphline$Lot" "kilos" "I" ∈ gq_ws := gq_t2 (i := 190) rfl rfl
theorem qw_457 : Cond.fieldLink "Graphline" 146 "Graphline$Lot" "kilos" "I" ∈ gq_ws := gq_t2 (i := 191) rfl rfl
theorem qw_458 : Cond.laysFinal "Graphline$Lot" "Graphline$Lot" "kind" "C" ∈ gq_ws := gq_t2 (i := 192) rfl rfl
theorem qw_460 : Cond.laysFinal "Graphline$Lot" "Graphline$Lot" "purity" "I" ∈ gq_ws := gq_t2 (i := 194) rfl rfl
theorem qw_462 : Cond.laysFinal "Graphline$Lot" "Graphline$Lot" "size" "I" ∈ gq_ws := gq_t2 (i := 196) rfl rfl
theorem qw_464 : Cond.lays "Graphline$Lot" "Graphline$Lot" "kilos" "I" ∈ gq_ws := gq_t2 (i := 198) rfl rfl
theorem qw_467 : Cond.methodLink "Graphline" 138 yJx4a65c_add_9ea2d ∈ gq_ws := gq_t2 (i := 201) rfl rfl
theorem qw_468 : Cond.instanceMethod yJx4a65c_add_9ea2d ∈ gq_ws := gq_t2 (i := 202) rfl rfl
theorem qw_469 : Cond.selects "java/util/ArrayList" yJx4a65c_add_9ea2d yJx4a65c_add_9ea2d ∈ gq_ws := gq_t2 (i := 203) rfl rfl
theorem qw_470 : Cond.code yJx4a65c_add_9ea2d cJx4a65c_add_9ea2d 2 (some .boolean) ∈ gq_ws := gq_t2 (i := 204) rfl rfl
theorem qw_471 : Cond.methodLink "java/util/ArrayList" 131 yJx4a65c_add_72be8 ∈ gq_ws := gq_t2 (i := 205) rfl rfl
theorem qw_473 : Cond.instanceMethod yJx4a65c_add_72be8 ∈ gq_ws := gq_t2 (i := 207) rfl rfl
theorem qw_474 : Cond.code yJx4a65c_add_72be8 cJx4a65c_add_72be8 4 none ∈ gq_ws := gq_t2 (i := 208) rfl rfl
theorem qw_475 : Cond.methodLink "java/util/ArrayList" 129 yJx4a65c_grow_d5877 ∈ gq_ws := gq_t2 (i := 209) rfl rfl
theorem qw_477 : Cond.instanceMethod yJx4a65c_grow_d5877 ∈ gq_ws := gq_t2 (i := 211) rfl rfl
theorem qw_478 : Cond.code yJx4a65c_grow_d5877 cJx4a65c_grow_d5877 1 (some (.array (.object "java/lang/Object"))) ∈ gq_ws := gq_t2 (i := 212) rfl rfl
theorem qw_479 : Cond.methodLink "java/util/ArrayList" 69 yJx4a65c_grow_92f84 ∈ gq_ws := gq_t2 (i := 213) rfl rfl
theorem qw_481 : Cond.instanceMethod yJx4a65c_grow_92f84 ∈ gq_ws := gq_t2 (i := 215) rfl rfl
theorem qw_482 : Cond.code yJx4a65c_grow_92f84 cJx4a65c_grow_92f84 4 (some (.array (.object "java/lang/Object"))) ∈ gq_ws := gq_t2 (i := 216) rfl rfl
theorem qw_483 : Cond.methodLink "java/util/ArrayList" 73 yJ8_newLength_cabcc ∈ gq_ws := gq_t2 (i := 217) rfl rfl
theorem qw_484 : Cond.static yJ8_newLength_cabcc ∈ gq_ws := gq_t2 (i := 218) rfl rfl
theorem qw_485 : Cond.code yJ8_newLength_cabcc cJ8_newLength_cabcc 4 (some .int) ∈ gq_ws := gq_t2 (i := 219) rfl rfl
theorem qw_486 : Cond.methodLink "jdk/internal/util/ArraysSupport" 194 yJ9_max_7cf53 ∈ gq_ws := gq_t2 (i := 220) rfl rfl
theorem qw_487 : Cond.static Lib.Math.max.name ∈ gq_ws := gq_t2 (i := 221) rfl rfl
theorem qw_488 : Cond.code Lib.Math.max.name Lib.Math.max.code 2 (some .int) ∈ gq_ws := gq_t2 (i := 222) rfl rfl
theorem qw_489 : Cond.constant "jdk/internal/util/ArraysSupport" 200 (2147483639) ∈ gq_ws := gq_t2 (i := 223) rfl rfl
theorem qw_490 : Cond.methodLink "jdk/internal/util/ArraysSupport" 201 yJ8_hugeLength_7cf53 ∈ gq_ws := gq_t2 (i := 224) rfl rfl
theorem qw_491 : Cond.static yJ8_hugeLength_7cf53 ∈ gq_ws := gq_t2 (i := 225) rfl rfl
theorem qw_492 : Cond.code yJ8_hugeLength_7cf53 cJ8_hugeLength_7cf53 3 (some .int) ∈ gq_ws := gq_t2 (i := 226) rfl rfl
theorem qw_493 : Cond.methodLink "java/util/ArrayList" 66 yJ7_copyOf_1904c ∈ gq_ws := gq_t2 (i := 227) rfl rfl
theorem qw_494 : Cond.static yJ7_copyOf_1904c ∈ gq_ws := gq_t2 (i := 228) rfl rfl
theorem qw_495 : Cond.code yJ7_copyOf_1904c cJ7_copyOf_1904c 2 (some (.array (.object "java/lang/Object"))) ∈ gq_ws := gq_t2 (i := 229) rfl rfl
theorem qw_496 : Cond.methodLink "java/util/Arrays" 86 ⟨"java/lang/Object", "getClass", "()Ljava/lang/Class;"⟩ ∈ gq_ws := gq_t2 (i := 230) rfl rfl
theorem qw_497 : Cond.instanceMethod ⟨"java/lang/Object", "getClass", "()Ljava/lang/Class;"⟩ ∈ gq_ws := gq_t2 (i := 231) rfl rfl
theorem qw_524 : Cond.native ⟨"java/lang/Object", "getClass", "()Ljava/lang/Class;"⟩ ∈ gq_ws := gq_t3 (i := 18) rfl rfl
theorem qw_525 : Cond.methodLink "java/util/Arrays" 300 yJ7_copyOf_6403c ∈ gq_ws := gq_t3 (i := 19) rfl rfl
theorem qw_526 : Cond.static yJ7_copyOf_6403c ∈ gq_ws := gq_t3 (i := 20) rfl rfl
theorem qw_527 : Cond.code yJ7_copyOf_6403c cJ7_copyOf_6403c 4 (some (.array (.object "java/lang/Object"))) ∈ gq_ws := gq_t3 (i := 21) rfl rfl
theorem qw_528 : Cond.classLink "java/util/Arrays" 110 "[Ljava/lang/Object;" ∈ gq_ws := gq_t3 (i := 22) rfl rfl
theorem qw_530 : Cond.classLink "java/util/Arrays" 2 "java/lang/Object" ∈ gq_ws := gq_t3 (i := 24) rfl rfl
theorem qw_531 : Cond.methodLink "java/util/Arrays" 304 yJ9_min_7cf53 ∈ gq_ws := gq_t3 (i := 25) rfl rfl
theorem qw_532 : Cond.static Lib.Math.min.name ∈ gq_ws := gq_t3 (i := 26) rfl rfl
theorem qw_533 : Cond.code Lib.Math.min.name Lib.Math.min.code 2 (some .int) ∈ gq_ws := gq_t3 (i := 27) rfl rfl
theorem qw_534 : Cond.methodLink "java/util/Arrays" 150 arraycopyName ∈ gq_ws := gq_t3 (i := 28) rfl rfl
theorem qw_535 : Cond.static arraycopyName ∈ gq_ws := gq_t3 (i := 29) rfl rfl
theorem qw_536 : Cond.native arraycopyName ∈ gq_ws := gq_t3 (i := 30) rfl rfl
theorem qw_537 : Cond.methodLink "java/util/ArrayList" 79 yJ9_max_7cf53 ∈ gq_ws := gq_t3 (i := 31) rfl rfl
theorem qw_538 : Cond.classLink "java/util/ArrayList" 7 "java/lang/Object" ∈ gq_ws := gq_t3 (i := 32) rfl rfl
theorem qw_539 : Cond.methodLink "GraphlineLaw" 183 yL_kilos ∈ gq_ws := gq_t3 (i := 33) rfl rfl
theorem qw_540 : Cond.static yL_kilos ∈ gq_ws := gq_t3 (i := 34) rfl rfl
theorem qw_541 : Cond.codeWith yL_kilos cL_kilos 4 (some .int) [(0, 9, 12, 38)] ∈ gq_ws := gq_t3 (i := 35) rfl rfl
theorem qw_566 : Cond.methodLink "GraphlineLaw" 35 yX11_kilos ∈ gq_ws := gq_t3 (i := 60) rfl rfl
theorem qw_567 : Cond.instanceMethod yX11_kilos ∈ gq_ws := gq_t3 (i := 61) rfl rfl
theorem qw_568 : Cond.selects "Graphline" yX11_kilos yX11_kilos ∈ gq_ws := gq_t3 (i := 62) rfl rfl
theorem qw_569 : Cond.code yX11_kilos cX11_kilos 2 (some .int) ∈ gq_ws := gq_t3 (i := 63) rfl rfl
theorem qw_570 : Cond.methodLink "Graphline" 142 yX11_lotNumbered ∈ gq_ws := gq_t3 (i := 64) rfl rfl
theorem qw_572 : Cond.instanceMethod yX11_lotNumbered ∈ gq_ws := gq_t3 (i := 66) rfl rfl
theorem qw_573 : Cond.code yX11_lotNumbered cX11_lotNumbered 2 (some (.object "Graphline$Lot")) ∈ gq_ws := gq_t3 (i := 67) rfl rfl
theorem qw_574 : Cond.classLink "Graphline" 552 "java/lang/IndexOutOfBoundsException" ∈ gq_ws := gq_t3 (i := 68) rfl rfl
theorem qw_587 : Cond.methodLink "GraphlineLaw" 186 yL_mix ∈ gq_ws := gq_t3 (i := 81) rfl rfl
theorem qw_588 : Cond.static yL_mix ∈ gq_ws := gq_t3 (i := 82) rfl rfl
theorem qw_589 : Cond.codeWith yL_mix cL_mix 8 (some .int) [(0, 16, 19, 38), (0, 16, 23, 13), (0, 16, 27, 21), (0, 16, 31, 15)] ∈ gq_ws := gq_t3 (i := 83) rfl rfl
theorem qw_590 : Cond.methodLink "GraphlineLaw" 40 yX11_mix ∈ gq_ws := gq_t3 (i := 84) rfl rfl
theorem qw_591 : Cond.instanceMethod yX11_mix ∈ gq_ws := gq_t3 (i := 85) rfl rfl
theorem qw_592 : Cond.selects "Graphline" yX11_mix yX11_mix ∈ gq_ws := gq_t3 (i := 86) rfl rfl
theorem qw_593 : Cond.code yX11_mix cX11_mix 10 (some .int) ∈ gq_ws := gq_t3 (i := 87) rfl rfl
theorem qw_599 : Cond.methodLink "Graphline" 170 yX11_clamped ∈ gq_ws := gq_t3 (i := 93) rfl rfl
theorem qw_600 : Cond.static yX11_clamped ∈ gq_ws := gq_t3 (i := 94) rfl rfl
theorem qw_601 : Cond.code yX11_clamped cX11_clamped 3 (some .int) ∈ gq_ws := gq_t3 (i := 95) rfl rfl
theorem qw_602 : Cond.methodLink "Graphline" 413 yJ9_min_7cf53 ∈ gq_ws := gq_t3 (i := 96) rfl rfl
theorem qw_603 : Cond.methodLink "Graphline" 305 yJ9_max_7cf53 ∈ gq_ws := gq_t3 (i := 97) rfl rfl
theorem qw_604 : Cond.classLink "Graphline" 174 "Graphline$Mixture" ∈ gq_ws := gq_t3 (i := 98) rfl rfl
theorem qw_605 : Cond.instantiable "Graphline$Mixture" 5 ∈ gq_ws := gq_t3 (i := 99) rfl rfl
theorem qw_606 : Cond.methodLink "Graphline" 176 yX5_init ∈ gq_ws := gq_t3 (i := 100) rfl rfl
theorem qw_607 : Cond.instanceMethod yX5_init ∈ gq_ws := gq_t3 (i := 101) rfl rfl
theorem qw_608 : Cond.code yX5_init cX5_init 6 none ∈ gq_ws := gq_t3 (i := 102) rfl rfl
theorem qw_609 : Cond.methodLink "Graphline$Mixture" 1 objectInit ∈ gq_ws := gq_t3 (i := 103) rfl rfl
theorem qw_610 : Cond.fieldLink "Graphline$Mixture" 7 "Graphline$Mixture" "graphite" "I" ∈ gq_ws := gq_t3 (i := 104) rfl rfl
theorem qw_611 : Cond.fieldLink "Graphline" 516 "Graphline$Mixture" "graphite" "I" ∈ gq_ws := gq_t3 (i := 105) rfl rfl
theorem qw_612 : Cond.fieldLink "Graphline$Mixture" 13 "Graphline$Mixture" "clay" "I" ∈ gq_ws := gq_t3 (i := 106) rfl rfl
theorem qw_613 : Cond.fieldLink "Graphline" 519 "Graphline$Mixture" "clay" "I" ∈ gq_ws := gq_t3 (i := 107) rfl rfl
theorem qw_614 : Cond.fieldLink "Graphline$Mixture" 16 "Graphline$Mixture" "carbon" "I" ∈ gq_ws := gq_t3 (i := 108) rfl rfl
theorem qw_615 : Cond.fieldLink "Graphline" 183 "Graphline$Mixture" "carbon" "I" ∈ gq_ws := gq_t3 (i := 109) rfl rfl
theorem qw_616 : Cond.fieldLink "Graphline$Mixture" 19 "Graphline$Mixture" "fineness" "I" ∈ gq_ws := gq_t3 (i := 110) rfl rfl
theorem qw_617 : Cond.fieldLink "Graphline" 186 "Graphline$Mixture" "fineness" "I" ∈ gq_ws := gq_t3 (i := 111) rfl rfl
theorem qw_618 : Cond.fieldLink "Graphline$Mixture" 22 "Graphline$Mixture" "kilos" "I" ∈ gq_ws := gq_t3 (i := 112) rfl rfl
theorem qw_619 : Cond.fieldLink "Graphline" 189 "Graphline$Mixture" "kilos" "I" ∈ gq_ws := gq_t3 (i := 113) rfl rfl
theorem qw_620 : Cond.laysFinal "Graphline$Mixture" "Graphline$Mixture" "graphite" "I" ∈ gq_ws := gq_t3 (i := 114) rfl rfl
theorem qw_622 : Cond.laysFinal "Graphline$Mixture" "Graphline$Mixture" "clay" "I" ∈ gq_ws := gq_t3 (i := 116) rfl rfl
theorem qw_624 : Cond.laysFinal "Graphline$Mixture" "Graphline$Mixture" "carbon" "I" ∈ gq_ws := gq_t3 (i := 118) rfl rfl
theorem qw_626 : Cond.laysFinal "Graphline$Mixture" "Graphline$Mixture" "fineness" "I" ∈ gq_ws := gq_t3 (i := 120) rfl rfl
theorem qw_628 : Cond.lays "Graphline$Mixture" "Graphline$Mixture" "kilos" "I" ∈ gq_ws := gq_t3 (i := 122) rfl rfl
theorem qw_631 : Cond.methodLink "GraphlineLaw" 190 yL_mixture ∈ gq_ws := gq_t3 (i := 125) rfl rfl
theorem qw_632 : Cond.static yL_mixture ∈ gq_ws := gq_t3 (i := 126) rfl rfl
theorem qw_633 : Cond.codeWith yL_mixture cL_mixture 5 (some .int) [(0, 10, 13, 38), (0, 10, 17, 13)] ∈ gq_ws := gq_t3 (i := 127) rfl rfl
theorem qw_634 : Cond.methodLink "GraphlineLaw" 44 yX11_mixture ∈ gq_ws := gq_t3 (i := 128) rfl rfl
theorem qw_635 : Cond.instanceMethod yX11_mixture ∈ gq_ws := gq_t3 (i := 129) rfl rfl
theorem qw_636 : Cond.selects "Graphline" yX11_mixture yX11_mixture ∈ gq_ws := gq_t3 (i := 130) rfl rfl
theorem qw_637 : Cond.code yX11_mixture cX11_mixture 4 (some .int) ∈ gq_ws := gq_t3 (i := 131) rfl rfl
theorem qw_638 : Cond.methodLink "Graphline" 179 yX11_mixtureNumbered ∈ gq_ws := gq_t3 (i := 132) rfl rfl
theorem qw_640 : Cond.instanceMethod yX11_mixtureNumbered ∈ gq_ws := gq_t3 (i := 134) rfl rfl
theorem qw_641 : Cond.code yX11_mixtureNumbered cX11_mixtureNumbered 2 (some (.object "Graphline$Mixture")) ∈ gq_ws := gq_t3 (i := 135) rfl rfl
theorem qw_644 : Cond.methodLink "GraphlineLaw" 194 yL_press ∈ gq_ws := gq_t3 (i := 138) rfl rfl
theorem qw_645 : Cond.static yL_press ∈ gq_ws := gq_t3 (i := 139) rfl rfl
theorem qw_646 : Cond.codeWith yL_press cL_press 6 (some .int) [(0, 12, 15, 38), (0, 12, 19, 13), (0, 12, 23, 21), (0, 12, 27, 15)] ∈ gq_ws := gq_t3 (i := 140) rfl rfl
theorem qw_647 : Cond.methodLink "GraphlineLaw" 48 yX11_press ∈ gq_ws := gq_t3 (i := 141) rfl rfl
theorem qw_648 : Cond.instanceMethod yX11_press ∈ gq_ws := gq_t3 (i := 142) rfl rfl
theorem qw_649 : Cond.selects "Graphline" yX11_press yX11_press ∈ gq_ws := gq_t3 (i := 143) rfl rfl
theorem qw_650 : Cond.code yX11_press cX11_press 6 (some .int) ∈ gq_ws := gq_t3 (i := 144) rfl rfl
theorem qw_656 : Cond.instantiable "Graphline$Batch" 12 ∈ gq_ws := gq_t3 (i := 150) rfl rfl
theorem qw_657 : Cond.methodLink "Graphline" 207 yX0_init ∈ gq_ws := gq_t3 (i := 151) rfl rfl
theorem qw_658 : Cond.instanceMethod yX0_init ∈ gq_ws := gq_t3 (i := 152) rfl rfl
theorem qw_659 : Cond.code yX0_init cX0_init 5 none ∈ gq_ws := gq_t3 (i := 153) rfl rfl
theorem qw_660 : Cond.methodLink "Graphline$Batch" 1 objectInit ∈ gq_ws := gq_t3 (i := 154) rfl rfl
theorem qw_661 : Cond.fieldLink "Graphline$Batch" 35 "Graphline$Batch" "number" "I" ∈ gq_ws := gq_t3 (i := 155) rfl rfl
theorem qw_662 : Cond.fieldLink "Graphline" 507 "Graphline$Batch" "number" "I" ∈ gq_ws := gq_t3 (i := 156) rfl rfl
theorem qw_663 : Cond.fieldLink "Graphline$Batch" 38 "Graphline$Batch" "mixture" "LGraphline$Mixture;" ∈ gq_ws := gq_t3 (i := 157) rfl rfl
theorem qw_664 : Cond.fieldLink "Graphline" 229 "Graphline$Batch" "mixture" "LGraphline$Mixture;" ∈ gq_ws := gq_t3 (i := 158) rfl rfl
theorem qw_665 : Cond.fieldLink "Graphline$Batch" 45 "Graphline$Batch" "bore" "I" ∈ gq_ws := gq_t3 (i := 159) rfl rfl
theorem qw_666 : Cond.fieldLink "Graphline" 265 "Graphline$Batch" "bore" "I" ∈ gq_ws := gq_t3 (i := 160) rfl rfl
theorem qw_667 : Cond.fieldLink "Graphline$Batch" 42 "Graphline$Batch" "leads" "I" ∈ gq_ws := gq_t3 (i := 161) rfl rfl
theorem qw_668 : Cond.fieldLink "Graphline" 226 "Graphline$Batch" "leads" "I" ∈ gq_ws := gq_t3 (i := 162) rfl rfl
theorem qw_669 : Cond.fieldLink "Graphline$Batch" 7 "Graphline$Batch" "warped" "I" ∈ gq_ws := gq_t3 (i := 163) rfl rfl
theorem qw_670 : Cond.fieldLink "Graphline" 233 "Graphline$Batch" "warped" "I" ∈ gq_ws := gq_t3 (i := 164) rfl rfl
theorem qw_671 : Cond.fieldLink "Graphline$Batch" 13 "Graphline$Batch" "ready" "I" ∈ gq_ws := gq_t3 (i := 165) rfl rfl
theorem qw_672 : Cond.fieldLink "Graphline" 223 "Graphline$Batch" "ready" "I" ∈ gq_ws := gq_t3 (i := 166) rfl rfl
theorem qw_673 : Cond.fieldLink "Graphline$Batch" 16 "Graphline$Batch" "strength" "I" ∈ gq_ws := gq_t3 (i := 167) rfl rfl
theorem qw_674 : Cond.fieldLink "Graphline" 246 "Graphline$Batch" "strength" "I" ∈ gq_ws := gq_t3 (i := 168) rfl rfl
theorem qw_675 : Cond.fieldLink "Graphline$Batch" 19 "Graphline$Batch" "darkness" "I" ∈ gq_ws := gq_t3 (i := 169) rfl rfl
theorem qw_676 : Cond.fieldLink "Graphline" 249 "Graphline$Batch" "darkness" "I" ∈ gq_ws := gq_t3 (i := 170) rfl rfl
theorem qw_677 : Cond.fieldLink "Graphline$Batch" 22 "Graphline$Batch" "firing" "I" ∈ gq_ws := gq_t3 (i := 171) rfl rfl
theorem qw_678 : Cond.fieldLink "Graphline" 255 "Graphline$Batch" "firing" "I" ∈ gq_ws := gq_t3 (i := 172) rfl rfl
theorem qw_679 : Cond.fieldLink "Graphline$Batch" 25 "Graphline$Batch" "kiln" "I" ∈ gq_ws := gq_t3 (i := 173) rfl rfl
theorem qw_680 : Cond.fieldLink "Graphline" 252 "Graphline$Batch" "kiln" "I" ∈ gq_ws := gq_t3 (i := 174) rfl rfl
theorem qw_681 : Cond.fieldLink "Graphline$Batch" 28 "Graphline$Batch" "isDried" "Z" ∈ gq_ws := gq_t3 (i := 175) rfl rfl
theorem qw_682 : Cond.fieldLink "Graphline" 218 "Graphline$Batch" "isDried" "Z" ∈ gq_ws := gq_t3 (i := 176) rfl rfl
theorem qw_683 : Cond.fieldLink "Graphline$Batch" 32 "Graphline$Batch" "isSoaked" "Z" ∈ gq_ws := gq_t3 (i := 177) rfl rfl
theorem qw_684 : Cond.fieldLink "Graphline" 260 "Graphline$Batch" "isSoaked" "Z" ∈ gq_ws := gq_t3 (i := 178) rfl rfl
theorem qw_685 : Cond.laysFinal "Graphline$Batch" "Graphline$Batch" "number" "I" ∈ gq_ws := gq_t3 (i := 179) rfl rfl
theorem qw_687 : Cond.laysFinal "Graphline$Batch" "Graphline$Batch" "mixture" "LGraphline$Mixture;" ∈ gq_ws := gq_t3 (i := 181) rfl rfl
theorem qw_689 : Cond.laysFinal "Graphline$Batch" "Graphline$Batch" "bore" "I" ∈ gq_ws := gq_t3 (i := 183) rfl rfl
theorem qw_691 : Cond.lays "Graphline$Batch" "Graphline$Batch" "leads" "I" ∈ gq_ws := gq_t3 (i := 185) rfl rfl
theorem qw_693 : Cond.lays "Graphline$Batch" "Graphline$Batch" "warped" "I" ∈ gq_ws := gq_t3 (i := 187) rfl rfl
theorem qw_695 : Cond.lays "Graphline$Batch" "Graphline$Batch" "ready" "I" ∈ gq_ws := gq_t3 (i := 189) rfl rfl
theorem qw_697 : Cond.lays "Graphline$Batch" "Graphline$Batch" "strength" "I" ∈ gq_ws := gq_t3 (i := 191) rfl rfl
theorem qw_699 : Cond.lays "Graphline$Batch" "Graphline$Batch" "darkness" "I" ∈ gq_ws := gq_t3 (i := 193) rfl rfl
theorem qw_701 : Cond.lays "Graphline$Batch" "Graphline$Batch" "firing" "I" ∈ gq_ws := gq_t3 (i := 195) rfl rfl
theorem qw_703 : Cond.lays "Graphline$Batch" "Graphline$Batch" "kiln" "I" ∈ gq_ws := gq_t3 (i := 197) rfl rfl
theorem qw_705 : Cond.lays "Graphline$Batch" "Graphline$Batch" "isDried" "Z" ∈ gq_ws := gq_t3 (i := 199) rfl rfl
theorem qw_707 : Cond.lays "Graphline$Batch" "Graphline$Batch" "isSoaked" "Z" ∈ gq_ws := gq_t3 (i := 201) rfl rfl
theorem qw_710 : Cond.methodLink "GraphlineLaw" 198 yL_worn ∈ gq_ws := gq_t3 (i := 204) rfl rfl
theorem qw_711 : Cond.static yL_worn ∈ gq_ws := gq_t3 (i := 205) rfl rfl
theorem qw_712 : Cond.codeWith yL_worn cL_worn 4 (some .int) [(0, 9, 12, 13)] ∈ gq_ws := gq_t3 (i := 206) rfl rfl
theorem qw_713 : Cond.methodLink "GraphlineLaw" 52 yX11_worn ∈ gq_ws := gq_t3 (i := 207) rfl rfl
theorem qw_714 : Cond.instanceMethod yX11_worn ∈ gq_ws := gq_t3 (i := 208) rfl rfl
theorem qw_715 : Cond.selects "Graphline" yX11_worn yX11_worn ∈ gq_ws := gq_t3 (i := 209) rfl rfl
theorem qw_716 : Cond.code yX11_worn cX11_worn 2 (some .int) ∈ gq_ws := gq_t3 (i := 210) rfl rfl
theorem qw_718 : Cond.methodLink "GraphlineLaw" 201 yL_renew ∈ gq_ws := gq_t3 (i := 212) rfl rfl
theorem qw_719 : Cond.static yL_renew ∈ gq_ws := gq_t3 (i := 213) rfl rfl
theorem qw_720 : Cond.codeWith yL_renew cL_renew 4 (some .int) [(0, 9, 12, 13)] ∈ gq_ws := gq_t3 (i := 214) rfl rfl
theorem qw_721 : Cond.methodLink "GraphlineLaw" 55 yX11_renew ∈ gq_ws := gq_t3 (i := 215) rfl rfl
theorem qw_722 : Cond.instanceMethod yX11_renew ∈ gq_ws := gq_t3 (i := 216) rfl rfl
theorem qw_723 : Cond.selects "Graphline" yX11_renew yX11_renew ∈ gq_ws := gq_t3 (i := 217) rfl rfl
theorem qw_724 : Cond.code yX11_renew cX11_renew 3 (some .int) ∈ gq_ws := gq_t3 (i := 218) rfl rfl
theorem qw_725 : Cond.methodLink "GraphlineLaw" 204 yL_dry ∈ gq_ws := gq_t3 (i := 219) rfl rfl
theorem qw_726 : Cond.static yL_dry ∈ gq_ws := gq_t3 (i := 220) rfl rfl
theorem qw_727 : Cond.codeWith yL_dry cL_dry 5 (some .int) [(0, 10, 13, 38), (0, 10, 17, 13), (0, 10, 21, 21)] ∈ gq_ws := gq_t3 (i := 221) rfl rfl
theorem qw_728 : Cond.methodLink "GraphlineLaw" 58 yX11_dry ∈ gq_ws := gq_t3 (i := 222) rfl rfl
theorem qw_729 : Cond.instanceMethod yX11_dry ∈ gq_ws := gq_t3 (i := 223) rfl rfl
theorem qw_730 : Cond.selects "Graphline" yX11_dry yX11_dry ∈ gq_ws := gq_t3 (i := 224) rfl rfl
theorem qw_731 : Cond.code yX11_dry cX11_dry 4 (some .int) ∈ gq_ws := gq_t3 (i := 225) rfl rfl
theorem qw_732 : Cond.methodLink "Graphline" 212 yX11_batchNumbered ∈ gq_ws := gq_t3 (i := 226) rfl rfl
theorem qw_734 : Cond.instanceMethod yX11_batchNumbered ∈ gq_ws := gq_t3 (i := 228) rfl rfl
theorem qw_735 : Cond.code yX11_batchNumbered cX11_batchNumbered 2 (some (.object "Graphline$Batch")) ∈ gq_ws := gq_t3 (i := 229) rfl rfl
theorem qw_739 : Cond.methodLink "GraphlineLaw" 208 yL_fire ∈ gq_ws := gq_t3 (i := 233) rfl rfl
theorem qw_740 : Cond.static yL_fire ∈ gq_ws := gq_t3 (i := 234) rfl rfl
theorem qw_741 : Cond.codeWith yL_fire cL_fire 7 (some .int) [(0, 14, 17, 38), (0, 14, 21, 13), (0, 14, 25, 21)] ∈ gq_ws := gq_t3 (i := 235) rfl rfl
theorem qw_742 : Cond.methodLink "GraphlineLaw" 62 yX11_fire ∈ gq_ws := gq_t3 (i := 236) rfl rfl
theorem qw_743 : Cond.instanceMethod yX11_fire ∈ gq_ws := gq_t3 (i := 237) rfl rfl
theorem qw_744 : Cond.selects "Graphline" yX11_fire yX11_fire ∈ gq_ws := gq_t3 (i := 238) rfl rfl
theorem qw_745 : Cond.code yX11_fire cX11_fire 8 (some .int) ∈ gq_ws := gq_t3 (i := 239) rfl rfl
theorem qw_747 : Cond.methodLink "Graphline" 238 yX0_isFired ∈ gq_ws := gq_t4 (i := 1) rfl rfl
theorem qw_748 : Cond.instanceMethod yX0_isFired ∈ gq_ws := gq_t4 (i := 2) rfl rfl
theorem qw_749 : Cond.selects "Graphline$Batch" yX0_isFired yX0_isFired ∈ gq_ws := gq_t4 (i := 3) rfl rfl
theorem qw_750 : Cond.code yX0_isFired cX0_isFired 1 (some .boolean) ∈ gq_ws := gq_t4 (i := 4) rfl rfl
theorem qw_753 : Cond.methodLink "GraphlineLaw" 212 yL_soak ∈ gq_ws := gq_t4 (i := 7) rfl rfl
theorem qw_754 : Cond.static yL_soak ∈ gq_ws := gq_t4 (i := 8) rfl rfl
theorem qw_755 : Cond.codeWith yL_soak cL_soak 5 (some .int) [(0, 10, 13, 38), (0, 10, 17, 13), (0, 10, 21, 21)] ∈ gq_ws := gq_t4 (i := 9) rfl rfl
theorem qw_756 : Cond.methodLink "GraphlineLaw" 66 yX11_soak ∈ gq_ws := gq_t4 (i := 10) rfl rfl
theorem qw_757 : Cond.instanceMethod yX11_soak ∈ gq_ws := gq_t4 (i := 11) rfl rfl
theorem qw_758 : Cond.selects "Graphline" yX11_soak yX11_soak ∈ gq_ws := gq_t4 (i := 12) rfl rfl
theorem qw_759 : Cond.code yX11_soak cX11_soak 4 (some .int) ∈ gq_ws := gq_t4 (i := 13) rfl rfl
theorem qw_762 : Cond.methodLink "GraphlineLaw" 215 yL_batch ∈ gq_ws := gq_t4 (i := 16) rfl rfl
theorem qw_763 : Cond.static yL_batch ∈ gq_ws := gq_t4 (i := 17) rfl rfl
theorem qw_764 : Cond.codeWith yL_batch cL_batch 5 (some .int) [(0, 10, 13, 38), (0, 10, 17, 13)] ∈ gq_ws := gq_t4 (i := 18) rfl rfl
theorem qw_765 : Cond.methodLink "GraphlineLaw" 69 yX11_batch ∈ gq_ws := gq_t4 (i := 19) rfl rfl
theorem qw_766 : Cond.instanceMethod yX11_batch ∈ gq_ws := gq_t4 (i := 20) rfl rfl
theorem qw_767 : Cond.selects "Graphline" yX11_batch yX11_batch ∈ gq_ws := gq_t4 (i := 21) rfl rfl
theorem qw_768 : Cond.code yX11_batch cX11_batch 4 (some .int) ∈ gq_ws := gq_t4 (i := 22) rfl rfl
theorem qw_770 : Cond.methodLink "GraphlineLaw" 218 yL_draw ∈ gq_ws := gq_t4 (i := 24) rfl rfl
theorem qw_771 : Cond.static yL_draw ∈ gq_ws := gq_t4 (i := 25) rfl rfl
theorem qw_772 : Cond.codeWith yL_draw cL_draw 4 (some .int) [(0, 9, 12, 38), (0, 9, 15, 21)] ∈ gq_ws := gq_t4 (i := 26) rfl rfl
theorem qw_773 : Cond.methodLink "GraphlineLaw" 72 yX11_draw ∈ gq_ws := gq_t4 (i := 27) rfl rfl
theorem qw_774 : Cond.instanceMethod yX11_draw ∈ gq_ws := gq_t4 (i := 28) rfl rfl
theorem qw_775 : Cond.selects "Graphline" yX11_draw yX11_draw ∈ gq_ws := gq_t4 (i := 29) rfl rfl
theorem qw_776 : Cond.code yX11_draw cX11_draw 3 (some .int) ∈ gq_ws := gq_t4 (i := 30) rfl rfl
theorem qw_778 : Cond.methodLink "Graphline" 272 yX10_tell ∈ gq_ws := gq_t4 (i := 32) rfl rfl
theorem qw_779 : Cond.instanceMethod yX10_tell ∈ gq_ws := gq_t4 (i := 33) rfl rfl
theorem qw_780 : Cond.selects "Graphline$Wheel" yX10_tell yX10_tell ∈ gq_ws := gq_t4 (i := 34) rfl rfl
theorem qw_781 : Cond.code yX10_tell cX10_tell 3 (some .int) ∈ gq_ws := gq_t4 (i := 35) rfl rfl
theorem qw_783 : Cond.methodLink "GraphlineLaw" 225 yL_slats ∈ gq_ws := gq_t4 (i := 37) rfl rfl
theorem qw_784 : Cond.static yL_slats ∈ gq_ws := gq_t4 (i := 38) rfl rfl
theorem qw_785 : Cond.codeWith yL_slats cL_slats 7 (some .int) [(0, 14, 17, 13), (0, 14, 21, 15)] ∈ gq_ws := gq_t4 (i := 39) rfl rfl
theorem qw_786 : Cond.methodLink "GraphlineLaw" 75 yX11_slats ∈ gq_ws := gq_t4 (i := 40) rfl rfl
theorem qw_787 : Cond.instanceMethod yX11_slats ∈ gq_ws := gq_t4 (i := 41) rfl rfl
theorem qw_788 : Cond.selects "Graphline" yX11_slats yX11_slats ∈ gq_ws := gq_t4 (i := 42) rfl rfl
theorem qw_789 : Cond.code yX11_slats cX11_slats 5 (some .int) ∈ gq_ws := gq_t4 (i := 43) rfl rfl
theorem qw_793 : Cond.classLink "Graphline" 285 "Graphline$SlatLot" ∈ gq_ws := gq_t4 (i := 47) rfl rfl
theorem qw_794 : Cond.instantiable "Graphline$SlatLot" 7 ∈ gq_ws := gq_t4 (i := 48) rfl rfl
theorem qw_795 : Cond.methodLink "Graphline" 287 yX9_init ∈ gq_ws := gq_t4 (i := 49) rfl rfl
theorem qw_796 : Cond.instanceMethod yX9_init ∈ gq_ws := gq_t4 (i := 50) rfl rfl
theorem qw_797 : Cond.code yX9_init cX9_init 6 none ∈ gq_ws := gq_t4 (i := 51) rfl rfl
theorem qw_798 : Cond.methodLink "Graphline$SlatLot" 1 objectInit ∈ gq_ws := gq_t4 (i := 52) rfl rfl
theorem qw_799 : Cond.fieldLink "Graphline$SlatLot" 16 "Graphline$SlatLot" "number" "I" ∈ gq_ws := gq_t4 (i := 53) rfl rfl
theorem qw_800 : Cond.fieldLink "Graphline" 512 "Graphline$SlatLot" "number" "I" ∈ gq_ws := gq_t4 (i := 54) rfl rfl
theorem qw_801 : Cond.fieldLink "Graphline$SlatLot" 19 "Graphline$SlatLot" "wood" "C" ∈ gq_ws := gq_t4 (i := 55) rfl rfl
theorem qw_802 : Cond.fieldLink "Graphline" 299 "Graphline$SlatLot" "wood" "C" ∈ gq_ws := gq_t4 (i := 56) rfl rfl
theorem qw_803 : Cond.fieldLink "Graphline$SlatLot" 23 "Graphline$SlatLot" "grain" "I" ∈ gq_ws := gq_t4 (i := 57) rfl rfl
theorem qw_804 : Cond.fieldLink "Graphline" 350 "Graphline$SlatLot" "grain" "I" ∈ gq_ws := gq_t4 (i := 58) rfl rfl
theorem qw_805 : Cond.fieldLink "Graphline$SlatLot" 26 "Graphline$SlatLot" "wetness" "I" ∈ gq_ws := gq_t4 (i := 59) rfl rfl
theorem qw_806 : Cond.fieldLink "Graphline" 302 "Graphline$SlatLot" "wetness" "I" ∈ gq_ws := gq_t4 (i := 60) rfl rfl
theorem qw_807 : Cond.fieldLink "Graphline$SlatLot" 29 "Graphline$SlatLot" "many" "I" ∈ gq_ws := gq_t4 (i := 61) rfl rfl
theorem qw_808 : Cond.fieldLink "Graphline" 326 "Graphline$SlatLot" "many" "I" ∈ gq_ws := gq_t4 (i := 62) rfl rfl
theorem qw_809 : Cond.fieldLink "Graphline$SlatLot" 7 "Graphline$SlatLot" "width" "I" ∈ gq_ws := gq_t4 (i := 63) rfl rfl
theorem qw_810 : Cond.fieldLink "Graphline" 323 "Graphline$SlatLot" "width" "I" ∈ gq_ws := gq_t4 (i := 64) rfl rfl
theorem qw_811 : Cond.fieldLink "Graphline$SlatLot" 13 "Graphline$SlatLot" "ready" "I" ∈ gq_ws := gq_t4 (i := 65) rfl rfl
theorem qw_812 : Cond.fieldLink "Graphline" 296 "Graphline$SlatLot" "ready" "I" ∈ gq_ws := gq_t4 (i := 66) rfl rfl
theorem qw_813 : Cond.laysFinal "Graphline$SlatLot" "Graphline$SlatLot" "number" "I" ∈ gq_ws := gq_t4 (i := 67) rfl rfl
theorem qw_815 : Cond.laysFinal "Graphline$SlatLot" "Graphline$SlatLot" "wood" "C" ∈ gq_ws := gq_t4 (i := 69) rfl rfl
theorem qw_817 : Cond.laysFinal "Graphline$SlatLot" "Graphline$SlatLot" "grain" "I" ∈ gq_ws := gq_t4 (i := 71) rfl rfl
theorem qw_819 : Cond.lays "Graphline$SlatLot" "Graphline$SlatLot" "wetness" "I" ∈ gq_ws := gq_t4 (i := 73) rfl rfl
theorem qw_821 : Cond.lays "Graphline$SlatLot" "Graphline$SlatLot" "many" "I" ∈ gq_ws := gq_t4 (i := 75) rfl rfl
theorem qw_823 : Cond.lays "Graphline$SlatLot" "Graphline$SlatLot" "width" "I" ∈ gq_ws := gq_t4 (i := 77) rfl rfl
theorem qw_825 : Cond.lays "Graphline$SlatLot" "Graphline$SlatLot" "ready" "I" ∈ gq_ws := gq_t4 (i := 79) rfl rfl
theorem qw_828 : Cond.methodLink "GraphlineLaw" 228 yL_season ∈ gq_ws := gq_t4 (i := 82) rfl rfl
theorem qw_829 : Cond.static yL_season ∈ gq_ws := gq_t4 (i := 83) rfl rfl
theorem qw_830 : Cond.codeWith yL_season cL_season 5 (some .int) [(0, 10, 13, 38), (0, 10, 17, 13), (0, 10, 21, 21)] ∈ gq_ws := gq_t4 (i := 84) rfl rfl
theorem qw_831 : Cond.methodLink "GraphlineLaw" 78 yX11_season ∈ gq_ws := gq_t4 (i := 85) rfl rfl
theorem qw_832 : Cond.instanceMethod yX11_season ∈ gq_ws := gq_t4 (i := 86) rfl rfl
theorem qw_833 : Cond.selects "Graphline" yX11_season yX11_season ∈ gq_ws := gq_t4 (i := 87) rfl rfl
theorem qw_834 : Cond.code yX11_season cX11_season 5 (some .int) ∈ gq_ws := gq_t4 (i := 88) rfl rfl
theorem qw_835 : Cond.methodLink "Graphline" 290 yX11_slatLotNumbered ∈ gq_ws := gq_t4 (i := 89) rfl rfl
theorem qw_837 : Cond.instanceMethod yX11_slatLotNumbered ∈ gq_ws := gq_t4 (i := 91) rfl rfl
theorem qw_838 : Cond.code yX11_slatLotNumbered cX11_slatLotNumbered 2 (some (.object "Graphline$SlatLot")) ∈ gq_ws := gq_t4 (i := 92) rfl rfl
theorem qw_842 : Cond.methodLink "GraphlineLaw" 231 yL_groove ∈ gq_ws := gq_t4 (i := 96) rfl rfl
theorem qw_843 : Cond.static yL_groove ∈ gq_ws := gq_t4 (i := 97) rfl rfl
theorem qw_844 : Cond.codeWith yL_groove cL_groove 5 (some .int) [(0, 10, 13, 38), (0, 10, 17, 13), (0, 10, 21, 21)] ∈ gq_ws := gq_t4 (i := 98) rfl rfl
theorem qw_845 : Cond.methodLink "GraphlineLaw" 81 yX11_groove ∈ gq_ws := gq_t4 (i := 99) rfl rfl
theorem qw_846 : Cond.instanceMethod yX11_groove ∈ gq_ws := gq_t4 (i := 100) rfl rfl
theorem qw_847 : Cond.selects "Graphline" yX11_groove yX11_groove ∈ gq_ws := gq_t4 (i := 101) rfl rfl
theorem qw_848 : Cond.code yX11_groove cX11_groove 4 (some .int) ∈ gq_ws := gq_t4 (i := 102) rfl rfl
theorem qw_850 : Cond.methodLink "Graphline" 313 yX9_isGrooved ∈ gq_ws := gq_t4 (i := 104) rfl rfl
theorem qw_851 : Cond.instanceMethod yX9_isGrooved ∈ gq_ws := gq_t4 (i := 105) rfl rfl
theorem qw_852 : Cond.selects "Graphline$SlatLot" yX9_isGrooved yX9_isGrooved ∈ gq_ws := gq_t4 (i := 106) rfl rfl
theorem qw_853 : Cond.code yX9_isGrooved cX9_isGrooved 1 (some .boolean) ∈ gq_ws := gq_t4 (i := 107) rfl rfl
theorem qw_856 : Cond.methodLink "GraphlineLaw" 234 yL_slat ∈ gq_ws := gq_t4 (i := 110) rfl rfl
theorem qw_857 : Cond.static yL_slat ∈ gq_ws := gq_t4 (i := 111) rfl rfl
theorem qw_858 : Cond.codeWith yL_slat cL_slat 5 (some .int) [(0, 10, 13, 38), (0, 10, 17, 13)] ∈ gq_ws := gq_t4 (i := 112) rfl rfl
theorem qw_859 : Cond.methodLink "GraphlineLaw" 84 yX11_slat ∈ gq_ws := gq_t4 (i := 113) rfl rfl
theorem qw_860 : Cond.instanceMethod yX11_slat ∈ gq_ws := gq_t4 (i := 114) rfl rfl
theorem qw_861 : Cond.selects "Graphline" yX11_slat yX11_slat ∈ gq_ws := gq_t4 (i := 115) rfl rfl
theorem qw_862 : Cond.code yX11_slat cX11_slat 4 (some .int) ∈ gq_ws := gq_t4 (i := 116) rfl rfl
theorem qw_864 : Cond.methodLink "GraphlineLaw" 237 yL_lay ∈ gq_ws := gq_t4 (i := 118) rfl rfl
theorem qw_865 : Cond.static yL_lay ∈ gq_ws := gq_t4 (i := 119) rfl rfl
theorem qw_866 : Cond.codeWith yL_lay cL_lay 8 (some .int) [(0, 16, 19, 38), (0, 16, 23, 13), (0, 16, 27, 21), (0, 16, 31, 15)] ∈ gq_ws := gq_t4 (i := 120) rfl rfl
theorem qw_867 : Cond.methodLink "GraphlineLaw" 87 yX11_lay ∈ gq_ws := gq_t4 (i := 121) rfl rfl
theorem qw_868 : Cond.instanceMethod yX11_lay ∈ gq_ws := gq_t4 (i := 122) rfl rfl
theorem qw_869 : Cond.selects "Graphline" yX11_lay yX11_lay ∈ gq_ws := gq_t4 (i := 123) rfl rfl
theorem qw_870 : Cond.code yX11_lay cX11_lay 11 (some .int) ∈ gq_ws := gq_t4 (i := 124) rfl rfl
theorem qw_871 : Cond.methodLink "Graphline" 331 yX11_pencilsOfTwoSlats ∈ gq_ws := gq_t4 (i := 125) rfl rfl
theorem qw_872 : Cond.static yX11_pencilsOfTwoSlats ∈ gq_ws := gq_t4 (i := 126) rfl rfl
theorem qw_873 : Cond.code yX11_pencilsOfTwoSlats cX11_pencilsOfTwoSlats 1 (some .int) ∈ gq_ws := gq_t4 (i := 127) rfl rfl
theorem qw_876 : Cond.methodLink "Graphline" 339 yJ9_abs_0f7a4 ∈ gq_ws := gq_t4 (i := 130) rfl rfl
theorem qw_877 : Cond.static Lib.Math.abs.name ∈ gq_ws := gq_t4 (i := 131) rfl rfl
theorem qw_878 : Cond.code Lib.Math.abs.name Lib.Math.abs.code 1 (some .int) ∈ gq_ws := gq_t4 (i := 132) rfl rfl
theorem qw_882 : Cond.instantiable "Graphline$Run" 12 ∈ gq_ws := gq_t4 (i := 136) rfl rfl
theorem qw_883 : Cond.methodLink "Graphline" 353 yX8_init ∈ gq_ws := gq_t4 (i := 137) rfl rfl
theorem qw_884 : Cond.instanceMethod yX8_init ∈ gq_ws := gq_t4 (i := 138) rfl rfl
theorem qw_885 : Cond.code yX8_init cX8_init 8 none ∈ gq_ws := gq_t4 (i := 139) rfl rfl
theorem qw_886 : Cond.methodLink "Graphline$Run" 1 objectInit ∈ gq_ws := gq_t4 (i := 140) rfl rfl
theorem qw_887 : Cond.fieldLink "Graphline$Run" 26 "Graphline$Run" "number" "I" ∈ gq_ws := gq_t4 (i := 141) rfl rfl
theorem qw_888 : Cond.fieldLink "Graphline" 504 "Graphline$Run" "number" "I" ∈ gq_ws := gq_t4 (i := 142) rfl rfl
theorem qw_889 : Cond.fieldLink "Graphline$Run" 29 "Graphline$Run" "batch" "LGraphline$Batch;" ∈ gq_ws := gq_t4 (i := 143) rfl rfl
theorem qw_890 : Cond.fieldLink "Graphline" 381 "Graphline$Run" "batch" "LGraphline$Batch;" ∈ gq_ws := gq_t4 (i := 144) rfl rfl
theorem qw_891 : Cond.fieldLink "Graphline$Run" 33 "Graphline$Run" "slats" "LGraphline$SlatLot;" ∈ gq_ws := gq_t4 (i := 145) rfl rfl
theorem qw_892 : Cond.fieldLink "Graphline" 508 "Graphline$Run" "slats" "LGraphline$SlatLot;" ∈ gq_ws := gq_t4 (i := 146) rfl rfl
theorem qw_893 : Cond.fieldLink "Graphline$Run" 37 "Graphline$Run" "hand" "I" ∈ gq_ws := gq_t4 (i := 147) rfl rfl
theorem qw_894 : Cond.fieldLink "Graphline" 513 "Graphline$Run" "hand" "I" ∈ gq_ws := gq_t4 (i := 148) rfl rfl
theorem qw_895 : Cond.fieldLink "Graphline$Run" 43 "Graphline$Run" "offCentre" "I" ∈ gq_ws := gq_t4 (i := 149) rfl rfl
theorem qw_896 : Cond.fieldLink "Graphline" 406 "Graphline$Run" "offCentre" "I" ∈ gq_ws := gq_t4 (i := 150) rfl rfl
theorem qw_897 : Cond.fieldLink "Graphline$Run" 40 "Graphline$Run" "pencils" "I" ∈ gq_ws := gq_t4 (i := 151) rfl rfl
theorem qw_898 : Cond.fieldLink "Graphline" 400 "Graphline$Run" "pencils" "I" ∈ gq_ws := gq_t4 (i := 152) rfl rfl
theorem qw_899 : Cond.fieldLink "Graphline$Run" 7 "Graphline$Run" "broken" "I" ∈ gq_ws := gq_t4 (i := 153) rfl rfl
theorem qw_900 : Cond.fieldLink "Graphline" 403 "Graphline$Run" "broken" "I" ∈ gq_ws := gq_t4 (i := 154) rfl rfl
theorem qw_901 : Cond.fieldLink "Graphline$Run" 13 "Graphline$Run" "coats" "I" ∈ gq_ws := gq_t4 (i := 155) rfl rfl
theorem qw_902 : Cond.fieldLink "Graphline" 363 "Graphline$Run" "coats" "I" ∈ gq_ws := gq_t4 (i := 156) rfl rfl
theorem qw_903 : Cond.fieldLink "Graphline$Run" 16 "Graphline$Run" "colour" "I" ∈ gq_ws := gq_t4 (i := 157) rfl rfl
theorem qw_904 : Cond.fieldLink "Graphline" 373 "Graphline$Run" "colour" "I" ∈ gq_ws := gq_t4 (i := 158) rfl rfl
theorem qw_905 : Cond.fieldLink "Graphline$Run" 19 "Graphline$Run" "stamp" "I" ∈ gq_ws := gq_t4 (i := 159) rfl rfl
theorem qw_906 : Cond.fieldLink "Graphline" 390 "Graphline$Run" "stamp" "I" ∈ gq_ws := gq_t4 (i := 160) rfl rfl
theorem qw_907 : Cond.fieldLink "Graphline$Run" 46 "Graphline$Run" "ready" "I" ∈ gq_ws := gq_t4 (i := 161) rfl rfl
theorem qw_908 : Cond.fieldLink "Graphline" 362 "Graphline$Run" "ready" "I" ∈ gq_ws := gq_t4 (i := 162) rfl rfl
theorem qw_909 : Cond.fieldLink "Graphline$Run" 22 "Graphline$Run" "hasErasers" "Z" ∈ gq_ws := gq_t4 (i := 163) rfl rfl
theorem qw_910 : Cond.fieldLink "Graphline" 395 "Graphline$Run" "hasErasers" "Z" ∈ gq_ws := gq_t4 (i := 164) rfl rfl
theorem qw_911 : Cond.laysFinal "Graphline$Run" "Graphline$Run" "number" "I" ∈ gq_ws := gq_t4 (i := 165) rfl rfl
theorem qw_913 : Cond.laysFinal "Graphline$Run" "Graphline$Run" "batch" "LGraphline$Batch;" ∈ gq_ws := gq_t4 (i := 167) rfl rfl
theorem qw_915 : Cond.laysFinal "Graphline$Run" "Graphline$Run" "slats" "LGraphline$SlatLot;" ∈ gq_ws := gq_t4 (i := 169) rfl rfl
theorem qw_917 : Cond.laysFinal "Graphline$Run" "Graphline$Run" "hand" "I" ∈ gq_ws := gq_t4 (i := 171) rfl rfl
theorem qw_919 : Cond.laysFinal "Graphline$Run" "Graphline$Run" "offCentre" "I" ∈ gq_ws := gq_t4 (i := 173) rfl rfl
theorem qw_921 : Cond.lays "Graphline$Run" "Graphline$Run" "pencils" "I" ∈ gq_ws := gq_t4 (i := 175) rfl rfl
theorem qw_923 : Cond.lays "Graphline$Run" "Graphline$Run" "broken" "I" ∈ gq_ws := gq_t4 (i := 177) rfl rfl
theorem qw_925 : Cond.lays "Graphline$Run" "Graphline$Run" "coats" "I" ∈ gq_ws := gq_t4 (i := 179) rfl rfl
theorem qw_927 : Cond.lays "Graphline$Run" "Graphline$Run" "colour" "I" ∈ gq_ws := gq_t4 (i := 181) rfl rfl
theorem qw_929 : Cond.lays "Graphline$Run" "Graphline$Run" "stamp" "I" ∈ gq_ws := gq_t4 (i := 183) rfl rfl
theorem qw_931 : Cond.lays "Graphline$Run" "Graphline$Run" "ready" "I" ∈ gq_ws := gq_t4 (i := 185) rfl rfl
theorem qw_933 : Cond.lays "Graphline$Run" "Graphline$Run" "hasErasers" "Z" ∈ gq_ws := gq_t4 (i := 187) rfl rfl
theorem qw_936 : Cond.methodLink "GraphlineLaw" 241 yL_coat ∈ gq_ws := gq_t4 (i := 190) rfl rfl
theorem qw_937 : Cond.static yL_coat ∈ gq_ws := gq_t4 (i := 191) rfl rfl
theorem qw_938 : Cond.codeWith yL_coat cL_coat 5 (some .int) [(0, 10, 13, 38), (0, 10, 17, 13), (0, 10, 21, 21)] ∈ gq_ws := gq_t4 (i := 192) rfl rfl
theorem qw_939 : Cond.methodLink "GraphlineLaw" 91 yX11_coat ∈ gq_ws := gq_t4 (i := 193) rfl rfl
theorem qw_940 : Cond.instanceMethod yX11_coat ∈ gq_ws := gq_t4 (i := 194) rfl rfl
theorem qw_941 : Cond.selects "Graphline" yX11_coat yX11_coat ∈ gq_ws := gq_t4 (i := 195) rfl rfl
theorem qw_942 : Cond.code yX11_coat cX11_coat 4 (some .int) ∈ gq_ws := gq_t4 (i := 196) rfl rfl
theorem qw_943 : Cond.methodLink "Graphline" 356 yX11_runNumbered ∈ gq_ws := gq_t4 (i := 197) rfl rfl
theorem qw_945 : Cond.instanceMethod yX11_runNumbered ∈ gq_ws := gq_t4 (i := 199) rfl rfl
theorem qw_946 : Cond.code yX11_runNumbered cX11_runNumbered 2 (some (.object "Graphline$Run")) ∈ gq_ws := gq_t4 (i := 200) rfl rfl
theorem qw_951 : Cond.methodLink "GraphlineLaw" 244 yL_stamp ∈ gq_ws := gq_t4 (i := 205) rfl rfl
theorem qw_952 : Cond.static yL_stamp ∈ gq_ws := gq_t4 (i := 206) rfl rfl
theorem qw_953 : Cond.codeWith yL_stamp cL_stamp 4 (some .int) [(0, 9, 12, 38), (0, 9, 15, 21)] ∈ gq_ws := gq_t4 (i := 207) rfl rfl
theorem qw_954 : Cond.methodLink "GraphlineLaw" 94 yX11_stamp ∈ gq_ws := gq_t4 (i := 208) rfl rfl
theorem qw_955 : Cond.instanceMethod yX11_stamp ∈ gq_ws := gq_t4 (i := 209) rfl rfl
theorem qw_956 : Cond.selects "Graphline" yX11_stamp yX11_stamp ∈ gq_ws := gq_t4 (i := 210) rfl rfl
theorem qw_957 : Cond.code yX11_stamp cX11_stamp 3 (some .int) ∈ gq_ws := gq_t4 (i := 211) rfl rfl
theorem qw_958 : Cond.methodLink "Graphline" 376 yX8_isStamped ∈ gq_ws := gq_t4 (i := 212) rfl rfl
theorem qw_959 : Cond.instanceMethod yX8_isStamped ∈ gq_ws := gq_t4 (i := 213) rfl rfl
theorem qw_960 : Cond.selects "Graphline$Run" yX8_isStamped yX8_isStamped ∈ gq_ws := gq_t4 (i := 214) rfl rfl
theorem qw_961 : Cond.code yX8_isStamped cX8_isStamped 1 (some .boolean) ∈ gq_ws := gq_t4 (i := 215) rfl rfl
theorem qw_964 : Cond.methodLink "Graphline" 387 yX11_gradeOf ∈ gq_ws := gq_t4 (i := 218) rfl rfl
theorem qw_965 : Cond.static yX11_gradeOf ∈ gq_ws := gq_t4 (i := 219) rfl rfl
theorem qw_966 : Cond.code yX11_gradeOf cX11_gradeOf 1 (some .int) ∈ gq_ws := gq_t4 (i := 220) rfl rfl
theorem qw_967 : Cond.methodLink "GraphlineLaw" 247 yL_erase ∈ gq_ws := gq_t4 (i := 221) rfl rfl
theorem qw_968 : Cond.static yL_erase ∈ gq_ws := gq_t4 (i := 222) rfl rfl
theorem qw_969 : Cond.codeWith yL_erase cL_erase 5 (some .int) [(0, 10, 13, 38), (0, 10, 17, 13), (0, 10, 21, 21)] ∈ gq_ws := gq_t4 (i := 223) rfl rfl
theorem qw_970 : Cond.methodLink "GraphlineLaw" 97 yX11_erase ∈ gq_ws := gq_t4 (i := 224) rfl rfl
theorem qw_971 : Cond.instanceMethod yX11_erase ∈ gq_ws := gq_t4 (i := 225) rfl rfl
theorem qw_972 : Cond.selects "Graphline" yX11_erase yX11_erase ∈ gq_ws := gq_t4 (i := 226) rfl rfl
theorem qw_973 : Cond.code yX11_erase cX11_erase 4 (some .int) ∈ gq_ws := gq_t4 (i := 227) rfl rfl
theorem qw_976 : Cond.methodLink "GraphlineLaw" 250 yL_run ∈ gq_ws := gq_t4 (i := 230) rfl rfl
theorem qw_977 : Cond.static yL_run ∈ gq_ws := gq_t4 (i := 231) rfl rfl
theorem qw_978 : Cond.codeWith yL_run cL_run 5 (some .int) [(0, 10, 13, 38), (0, 10, 17, 13)] ∈ gq_ws := gq_t4 (i := 232) rfl rfl
theorem qw_979 : Cond.methodLink "GraphlineLaw" 100 yX11_run ∈ gq_ws := gq_t4 (i := 233) rfl rfl
theorem qw_980 : Cond.instanceMethod yX11_run ∈ gq_ws := gq_t4 (i := 234) rfl rfl
theorem qw_981 : Cond.selects "Graphline" yX11_run yX11_run ∈ gq_ws := gq_t4 (i := 235) rfl rfl
theorem qw_982 : Cond.code yX11_run cX11_run 4 (some .int) ∈ gq_ws := gq_t4 (i := 236) rfl rfl
theorem qw_984 : Cond.methodLink "GraphlineLaw" 253 yL_fall ∈ gq_ws := gq_t4 (i := 238) rfl rfl
theorem qw_985 : Cond.static yL_fall ∈ gq_ws := gq_t4 (i := 239) rfl rfl
theorem qw_986 : Cond.codeWith yL_fall cL_fall 5 (some .int) [(0, 10, 13, 38), (0, 10, 17, 13)] ∈ gq_ws := gq_t5 (i := 0) rfl rfl
theorem qw_987 : Cond.methodLink "GraphlineLaw" 103 yX11_fall ∈ gq_ws := gq_t5 (i := 1) rfl rfl
theorem qw_988 : Cond.instanceMethod yX11_fall ∈ gq_ws := gq_t5 (i := 2) rfl rfl
theorem qw_989 : Cond.selects "Graphline" yX11_fall yX11_fall ∈ gq_ws := gq_t5 (i := 3) rfl rfl
theorem qw_990 : Cond.code yX11_fall cX11_fall 6 (some .int) ∈ gq_ws := gq_t5 (i := 4) rfl rfl
theorem qw_992 : Cond.methodLink "GraphlineLaw" 256 yL_sample ∈ gq_ws := gq_t5 (i := 6) rfl rfl
theorem qw_993 : Cond.static yL_sample ∈ gq_ws := gq_t5 (i := 7) rfl rfl
theorem qw_994 : Cond.codeWith yL_sample cL_sample 5 (some .int) [(0, 10, 13, 38), (0, 10, 17, 13), (0, 10, 21, 21)] ∈ gq_ws := gq_t5 (i := 8) rfl rfl
theorem qw_995 : Cond.methodLink "GraphlineLaw" 106 yX11_sample ∈ gq_ws := gq_t5 (i := 9) rfl rfl
theorem qw_996 : Cond.instanceMethod yX11_sample ∈ gq_ws := gq_t5 (i := 10) rfl rfl
theorem qw_997 : Cond.selects "Graphline" yX11_sample yX11_sample ∈ gq_ws := gq_t5 (i := 11) rfl rfl
theorem qw_998 : Cond.code yX11_sample cX11_sample 6 (some .int) ∈ gq_ws := gq_t5 (i := 12) rfl rfl
theorem qw_1001 : Cond.constantLong "Graphline" 420 (48271) ∈ gq_ws := gq_t5 (i := 15) rfl rfl
theorem qw_1002 : Cond.constantLong "Graphline" 422 (2147483647) ∈ gq_ws := gq_t5 (i := 16) rfl rfl
theorem qw_1003 : Cond.methodLink "GraphlineLaw" 259 yL_seed ∈ gq_ws := gq_t5 (i := 17) rfl rfl
theorem qw_1004 : Cond.static yL_seed ∈ gq_ws := gq_t5 (i := 18) rfl rfl
theorem qw_1005 : Cond.codeWith yL_seed cL_seed 4 (some .int) [(0, 9, 12, 13)] ∈ gq_ws := gq_t5 (i := 19) rfl rfl
theorem qw_1006 : Cond.methodLink "GraphlineLaw" 109 yX11_seed ∈ gq_ws := gq_t5 (i := 20) rfl rfl
theorem qw_1007 : Cond.instanceMethod yX11_seed ∈ gq_ws := gq_t5 (i := 21) rfl rfl
theorem qw_1008 : Cond.selects "Graphline" yX11_seed yX11_seed ∈ gq_ws := gq_t5 (i := 22) rfl rfl
theorem qw_1009 : Cond.code yX11_seed cX11_seed 3 (some .int) ∈ gq_ws := gq_t5 (i := 23) rfl rfl
theorem qw_1010 : Cond.constant "Graphline" 424 (2147483646) ∈ gq_ws := gq_t5 (i := 24) rfl rfl
theorem qw_1012 : Cond.methodLink "GraphlineLaw" 262 yL_gross ∈ gq_ws := gq_t5 (i := 26) rfl rfl
theorem qw_1013 : Cond.static yL_gross ∈ gq_ws := gq_t5 (i := 27) rfl rfl
theorem qw_1014 : Cond.codeWith yL_gross cL_gross 4 (some .int) [(0, 9, 12, 13), (0, 9, 15, 15)] ∈ gq_ws := gq_t5 (i := 28) rfl rfl
theorem qw_1015 : Cond.methodLink "GraphlineLaw" 112 yX11_gross ∈ gq_ws := gq_t5 (i := 29) rfl rfl
theorem qw_1016 : Cond.instanceMethod yX11_gross ∈ gq_ws := gq_t5 (i := 30) rfl rfl
theorem qw_1017 : Cond.selects "Graphline" yX11_gross yX11_gross ∈ gq_ws := gq_t5 (i := 31) rfl rfl
theorem qw_1018 : Cond.code yX11_gross cX11_gross 2 (some .int) ∈ gq_ws := gq_t5 (i := 32) rfl rfl
theorem qw_1021 : Cond.instantiable "Graphline$Gross" 4 ∈ gq_ws := gq_t5 (i := 35) rfl rfl
theorem qw_1022 : Cond.methodLink "Graphline" 433 yX2_init ∈ gq_ws := gq_t5 (i := 36) rfl rfl
theorem qw_1023 : Cond.instanceMethod yX2_init ∈ gq_ws := gq_t5 (i := 37) rfl rfl
theorem qw_1024 : Cond.code yX2_init cX2_init 2 none ∈ gq_ws := gq_t5 (i := 38) rfl rfl
theorem qw_1025 : Cond.methodLink "Graphline$Gross" 1 objectInit ∈ gq_ws := gq_t5 (i := 39) rfl rfl
theorem qw_1026 : Cond.classLink "Graphline$Gross" 7 "java/util/ArrayList" ∈ gq_ws := gq_t5 (i := 40) rfl rfl
theorem qw_1027 : Cond.methodLink "Graphline$Gross" 9 yJx4a65c_init_da8c8 ∈ gq_ws := gq_t5 (i := 41) rfl rfl
theorem qw_1028 : Cond.fieldLink "Graphline$Gross" 24 "Graphline$Gross" "grade" "I" ∈ gq_ws := gq_t5 (i := 42) rfl rfl
theorem qw_1029 : Cond.fieldLink "Graphline" 442 "Graphline$Gross" "grade" "I" ∈ gq_ws := gq_t5 (i := 43) rfl rfl
theorem qw_1030 : Cond.fieldLink "Graphline$Gross" 10 "Graphline$Gross" "parts" "Ljava/util/ArrayList;" ∈ gq_ws := gq_t5 (i := 44) rfl rfl
theorem qw_1031 : Cond.fieldLink "Graphline" 460 "Graphline$Gross" "parts" "Ljava/util/ArrayList;" ∈ gq_ws := gq_t5 (i := 45) rfl rfl
theorem qw_1032 : Cond.fieldLink "Graphline$Gross" 16 "Graphline$Gross" "pencils" "I" ∈ gq_ws := gq_t5 (i := 46) rfl rfl
theorem qw_1033 : Cond.fieldLink "Graphline" 447 "Graphline$Gross" "pencils" "I" ∈ gq_ws := gq_t5 (i := 47) rfl rfl
theorem qw_1034 : Cond.fieldLink "Graphline$Gross" 20 "Graphline$Gross" "isShipped" "Z" ∈ gq_ws := gq_t5 (i := 48) rfl rfl
theorem qw_1035 : Cond.fieldLink "Graphline" 448 "Graphline$Gross" "isShipped" "Z" ∈ gq_ws := gq_t5 (i := 49) rfl rfl
theorem qw_1036 : Cond.laysFinal "Graphline$Gross" "Graphline$Gross" "grade" "I" ∈ gq_ws := gq_t5 (i := 50) rfl rfl
theorem qw_1038 : Cond.laysFinal "Graphline$Gross" "Graphline$Gross" "parts" "Ljava/util/ArrayList;" ∈ gq_ws := gq_t5 (i := 52) rfl rfl
theorem qw_1040 : Cond.lays "Graphline$Gross" "Graphline$Gross" "pencils" "I" ∈ gq_ws := gq_t5 (i := 54) rfl rfl
theorem qw_1042 : Cond.lays "Graphline$Gross" "Graphline$Gross" "isShipped" "Z" ∈ gq_ws := gq_t5 (i := 56) rfl rfl
theorem qw_1045 : Cond.methodLink "GraphlineLaw" 265 yL_pack ∈ gq_ws := gq_t5 (i := 59) rfl rfl
theorem qw_1046 : Cond.static yL_pack ∈ gq_ws := gq_t5 (i := 60) rfl rfl
theorem qw_1047 : Cond.codeWith yL_pack cL_pack 6 (some .int) [(0, 12, 15, 38), (0, 12, 19, 13), (0, 12, 23, 21)] ∈ gq_ws := gq_t5 (i := 61) rfl rfl
theorem qw_1048 : Cond.methodLink "GraphlineLaw" 115 yX11_pack ∈ gq_ws := gq_t5 (i := 62) rfl rfl
theorem qw_1049 : Cond.instanceMethod yX11_pack ∈ gq_ws := gq_t5 (i := 63) rfl rfl
theorem qw_1050 : Cond.selects "Graphline" yX11_pack yX11_pack ∈ gq_ws := gq_t5 (i := 64) rfl rfl
theorem qw_1051 : Cond.code yX11_pack cX11_pack 8 (some .int) ∈ gq_ws := gq_t5 (i := 65) rfl rfl
theorem qw_1052 : Cond.methodLink "Graphline" 436 yX11_grossNumbered ∈ gq_ws := gq_t5 (i := 66) rfl rfl
theorem qw_1054 : Cond.instanceMethod yX11_grossNumbered ∈ gq_ws := gq_t5 (i := 68) rfl rfl
theorem qw_1055 : Cond.code yX11_grossNumbered cX11_grossNumbered 2 (some (.object "Graphline$Gross")) ∈ gq_ws := gq_t5 (i := 69) rfl rfl
theorem qw_1060 : Cond.instantiable "Graphline$Part" 3 ∈ gq_ws := gq_t5 (i := 74) rfl rfl
theorem qw_1061 : Cond.methodLink "Graphline" 455 yX7_init ∈ gq_ws := gq_t5 (i := 75) rfl rfl
theorem qw_1062 : Cond.instanceMethod yX7_init ∈ gq_ws := gq_t5 (i := 76) rfl rfl
theorem qw_1063 : Cond.code yX7_init cX7_init 4 none ∈ gq_ws := gq_t5 (i := 77) rfl rfl
theorem qw_1064 : Cond.methodLink "Graphline$Part" 1 objectInit ∈ gq_ws := gq_t5 (i := 78) rfl rfl
theorem qw_1065 : Cond.fieldLink "Graphline$Part" 7 "Graphline$Part" "run" "LGraphline$Run;" ∈ gq_ws := gq_t5 (i := 79) rfl rfl
theorem qw_1066 : Cond.fieldLink "Graphline" 496 "Graphline$Part" "run" "LGraphline$Run;" ∈ gq_ws := gq_t5 (i := 80) rfl rfl
theorem qw_1067 : Cond.fieldLink "Graphline$Part" 13 "Graphline$Part" "pencils" "I" ∈ gq_ws := gq_t5 (i := 81) rfl rfl
theorem qw_1068 : Cond.fieldLink "Graphline" 458 "Graphline$Part" "pencils" "I" ∈ gq_ws := gq_t5 (i := 82) rfl rfl
theorem qw_1069 : Cond.fieldLink "Graphline$Part" 17 "Graphline$Part" "broken" "I" ∈ gq_ws := gq_t5 (i := 83) rfl rfl
theorem qw_1070 : Cond.fieldLink "Graphline" 459 "Graphline$Part" "broken" "I" ∈ gq_ws := gq_t5 (i := 84) rfl rfl
theorem qw_1071 : Cond.laysFinal "Graphline$Part" "Graphline$Part" "run" "LGraphline$Run;" ∈ gq_ws := gq_t5 (i := 85) rfl rfl
theorem qw_1073 : Cond.laysFinal "Graphline$Part" "Graphline$Part" "pencils" "I" ∈ gq_ws := gq_t5 (i := 87) rfl rfl
theorem qw_1075 : Cond.laysFinal "Graphline$Part" "Graphline$Part" "broken" "I" ∈ gq_ws := gq_t5 (i := 89) rfl rfl
theorem qw_1078 : Cond.methodLink "GraphlineLaw" 268 yL_order ∈ gq_ws := gq_t5 (i := 92) rfl rfl
theorem qw_1079 : Cond.static yL_order ∈ gq_ws := gq_t5 (i := 93) rfl rfl
theorem qw_1080 : Cond.codeWith yL_order cL_order 6 (some .int) [(0, 12, 15, 13), (0, 12, 19, 15)] ∈ gq_ws := gq_t5 (i := 94) rfl rfl
theorem qw_1081 : Cond.methodLink "GraphlineLaw" 118 yX11_order ∈ gq_ws := gq_t5 (i := 95) rfl rfl
theorem qw_1082 : Cond.instanceMethod yX11_order ∈ gq_ws := gq_t5 (i := 96) rfl rfl
theorem qw_1083 : Cond.selects "Graphline" yX11_order yX11_order ∈ gq_ws := gq_t5 (i := 97) rfl rfl
theorem qw_1084 : Cond.code yX11_order cX11_order 4 (some .int) ∈ gq_ws := gq_t5 (i := 98) rfl rfl
theorem qw_1088 : Cond.classLink "Graphline" 469 "Graphline$Order" ∈ gq_ws := gq_t5 (i := 102) rfl rfl
theorem qw_1089 : Cond.instantiable "Graphline$Order" 4 ∈ gq_ws := gq_t5 (i := 103) rfl rfl
theorem qw_1090 : Cond.methodLink "Graphline" 471 yX6_init ∈ gq_ws := gq_t5 (i := 104) rfl rfl
theorem qw_1091 : Cond.instanceMethod yX6_init ∈ gq_ws := gq_t5 (i := 105) rfl rfl
theorem qw_1092 : Cond.code yX6_init cX6_init 4 none ∈ gq_ws := gq_t5 (i := 106) rfl rfl
theorem qw_1093 : Cond.methodLink "Graphline$Order" 1 objectInit ∈ gq_ws := gq_t5 (i := 107) rfl rfl
theorem qw_1094 : Cond.fieldLink "Graphline$Order" 13 "Graphline$Order" "grade" "I" ∈ gq_ws := gq_t5 (i := 108) rfl rfl
theorem qw_1095 : Cond.fieldLink "Graphline" 478 "Graphline$Order" "grade" "I" ∈ gq_ws := gq_t5 (i := 109) rfl rfl
theorem qw_1096 : Cond.fieldLink "Graphline$Order" 20 "Graphline$Order" "until" "I" ∈ gq_ws := gq_t5 (i := 110) rfl rfl
theorem qw_1097 : Cond.fieldLink "Graphline" 486 "Graphline$Order" "until" "I" ∈ gq_ws := gq_t5 (i := 111) rfl rfl
theorem qw_1098 : Cond.fieldLink "Graphline$Order" 17 "Graphline$Order" "lacks" "I" ∈ gq_ws := gq_t5 (i := 112) rfl rfl
theorem qw_1099 : Cond.fieldLink "Graphline" 481 "Graphline$Order" "lacks" "I" ∈ gq_ws := gq_t5 (i := 113) rfl rfl
theorem qw_1100 : Cond.fieldLink "Graphline$Order" 7 "Graphline$Order" "wasShippedLate" "Z" ∈ gq_ws := gq_t5 (i := 114) rfl rfl
theorem qw_1101 : Cond.fieldLink "Graphline" 489 "Graphline$Order" "wasShippedLate" "Z" ∈ gq_ws := gq_t5 (i := 115) rfl rfl
theorem qw_1102 : Cond.laysFinal "Graphline$Order" "Graphline$Order" "grade" "I" ∈ gq_ws := gq_t5 (i := 116) rfl rfl
theorem qw_1104 : Cond.laysFinal "Graphline$Order" "Graphline$Order" "until" "I" ∈ gq_ws := gq_t5 (i := 118) rfl rfl
theorem qw_1106 : Cond.lays "Graphline$Order" "Graphline$Order" "lacks" "I" ∈ gq_ws := gq_t5 (i := 120) rfl rfl
theorem qw_1108 : Cond.lays "Graphline$Order" "Graphline$Order" "wasShippedLate" "Z" ∈ gq_ws := gq_t5 (i := 122) rfl rfl
theorem qw_1111 : Cond.methodLink "GraphlineLaw" 271 yL_ship ∈ gq_ws := gq_t5 (i := 125) rfl rfl
theorem qw_1112 : Cond.static yL_ship ∈ gq_ws := gq_t5 (i := 126) rfl rfl
theorem qw_1113 : Cond.codeWith yL_ship cL_ship 5 (some .int) [(0, 10, 13, 38), (0, 10, 17, 21)] ∈ gq_ws := gq_t5 (i := 127) rfl rfl
theorem qw_1114 : Cond.methodLink "GraphlineLaw" 121 yX11_ship ∈ gq_ws := gq_t5 (i := 128) rfl rfl
theorem qw_1115 : Cond.instanceMethod yX11_ship ∈ gq_ws := gq_t5 (i := 129) rfl rfl
theorem qw_1116 : Cond.selects "Graphline" yX11_ship yX11_ship ∈ gq_ws := gq_t5 (i := 130) rfl rfl
theorem qw_1117 : Cond.code yX11_ship cX11_ship 5 (some .int) ∈ gq_ws := gq_t5 (i := 131) rfl rfl
theorem qw_1118 : Cond.methodLink "Graphline" 474 yX11_orderNumbered ∈ gq_ws := gq_t5 (i := 132) rfl rfl
theorem qw_1120 : Cond.instanceMethod yX11_orderNumbered ∈ gq_ws := gq_t5 (i := 134) rfl rfl
theorem qw_1121 : Cond.code yX11_orderNumbered cX11_orderNumbered 2 (some (.object "Graphline$Order")) ∈ gq_ws := gq_t5 (i := 135) rfl rfl
theorem qw_1125 : Cond.methodLink "GraphlineLaw" 274 yL_isLate ∈ gq_ws := gq_t5 (i := 139) rfl rfl
theorem qw_1126 : Cond.static yL_isLate ∈ gq_ws := gq_t5 (i := 140) rfl rfl
theorem qw_1127 : Cond.codeWith yL_isLate cL_isLate 4 (some .int) [(0, 16, 19, 38)] ∈ gq_ws := gq_t5 (i := 141) rfl rfl
theorem qw_1128 : Cond.methodLink "GraphlineLaw" 124 yX11_isLate ∈ gq_ws := gq_t5 (i := 142) rfl rfl
theorem qw_1129 : Cond.instanceMethod yX11_isLate ∈ gq_ws := gq_t5 (i := 143) rfl rfl
theorem qw_1130 : Cond.selects "Graphline" yX11_isLate yX11_isLate ∈ gq_ws := gq_t5 (i := 144) rfl rfl
theorem qw_1131 : Cond.code yX11_isLate cX11_isLate 3 (some .boolean) ∈ gq_ws := gq_t5 (i := 145) rfl rfl
theorem qw_1132 : Cond.methodLink "GraphlineLaw" 277 yL_claim ∈ gq_ws := gq_t5 (i := 146) rfl rfl
theorem qw_1133 : Cond.static yL_claim ∈ gq_ws := gq_t5 (i := 147) rfl rfl
theorem qw_1134 : Cond.codeWith yL_claim cL_claim 4 (some .int) [(0, 16, 19, 38)] ∈ gq_ws := gq_t5 (i := 148) rfl rfl
theorem qw_1135 : Cond.methodLink "GraphlineLaw" 128 yX11_claim ∈ gq_ws := gq_t5 (i := 149) rfl rfl
theorem qw_1136 : Cond.instanceMethod yX11_claim ∈ gq_ws := gq_t5 (i := 150) rfl rfl
theorem qw_1137 : Cond.selects "Graphline" yX11_claim yX11_claim ∈ gq_ws := gq_t5 (i := 151) rfl rfl
theorem qw_1138 : Cond.code yX11_claim cX11_claim 6 (some .boolean) ∈ gq_ws := gq_t5 (i := 152) rfl rfl
theorem qw_1139 : Cond.methodLink "GraphlineLaw" 280 yL_parts ∈ gq_ws := gq_t5 (i := 153) rfl rfl
theorem qw_1140 : Cond.static yL_parts ∈ gq_ws := gq_t5 (i := 154) rfl rfl
theorem qw_1141 : Cond.codeWith yL_parts cL_parts 4 (some .int) [(0, 9, 12, 38)] ∈ gq_ws := gq_t5 (i := 155) rfl rfl
theorem qw_1142 : Cond.methodLink "GraphlineLaw" 131 yX11_parts ∈ gq_ws := gq_t5 (i := 156) rfl rfl
theorem qw_1143 : Cond.instanceMethod yX11_parts ∈ gq_ws := gq_t5 (i := 157) rfl rfl
theorem qw_1144 : Cond.selects "Graphline" yX11_parts yX11_parts ∈ gq_ws := gq_t5 (i := 158) rfl rfl
theorem qw_1145 : Cond.code yX11_parts cX11_parts 2 (some .int) ∈ gq_ws := gq_t5 (i := 159) rfl rfl
theorem qw_1146 : Cond.methodLink "GraphlineLaw" 283 yL_trace ∈ gq_ws := gq_t5 (i := 160) rfl rfl
theorem qw_1147 : Cond.static yL_trace ∈ gq_ws := gq_t5 (i := 161) rfl rfl
theorem qw_1148 : Cond.codeWith yL_trace cL_trace 6 (some .int) [(0, 12, 15, 38), (0, 12, 19, 13)] ∈ gq_ws := gq_t5 (i := 162) rfl rfl
theorem qw_1149 : Cond.methodLink "GraphlineLaw" 134 yX11_trace ∈ gq_ws := gq_t5 (i := 163) rfl rfl
theorem qw_1150 : Cond.instanceMethod yX11_trace ∈ gq_ws := gq_t5 (i := 164) rfl rfl
theorem qw_1151 : Cond.selects "Graphline" yX11_trace yX11_trace ∈ gq_ws := gq_t5 (i := 165) rfl rfl
theorem qw_1152 : Cond.code yX11_trace cX11_trace 5 (some .int) ∈ gq_ws := gq_t5 (i := 166) rfl rfl
theorem qw_1153 : Cond.methodLink "Graphline" 500 yX11_partNumbered ∈ gq_ws := gq_t5 (i := 167) rfl rfl
theorem qw_1154 : Cond.static yX11_partNumbered ∈ gq_ws := gq_t5 (i := 168) rfl rfl
theorem qw_1155 : Cond.code yX11_partNumbered cX11_partNumbered 2 (some (.object "Graphline$Part")) ∈ gq_ws := gq_t5 (i := 169) rfl rfl
theorem qw_1158 : Cond.methodLink "GraphlineLaw" 296 yL_brokenShare ∈ gq_ws := gq_t5 (i := 172) rfl rfl
theorem qw_1159 : Cond.static yL_brokenShare ∈ gq_ws := gq_t5 (i := 173) rfl rfl
theorem qw_1160 : Cond.codeWith yL_brokenShare cL_brokenShare 3 (some .int) [(0, 8, 11, 142)] ∈ gq_ws := gq_t5 (i := 174) rfl rfl
theorem qw_1175 : Cond.methodLink "GraphlineLaw" 138 yX11_brokenShare ∈ gq_ws := gq_t5 (i := 189) rfl rfl
theorem qw_1176 : Cond.instanceMethod yX11_brokenShare ∈ gq_ws := gq_t5 (i := 190) rfl rfl
theorem qw_1177 : Cond.selects "Graphline" yX11_brokenShare yX11_brokenShare ∈ gq_ws := gq_t5 (i := 191) rfl rfl
theorem qw_1178 : Cond.code yX11_brokenShare cX11_brokenShare 4 (some .float) ∈ gq_ws := gq_t5 (i := 192) rfl rfl
theorem qw_1179 : Cond.classLink "Graphline" 531 "java/lang/ArithmeticException" ∈ gq_ws := gq_t5 (i := 193) rfl rfl
theorem qw_1182 : Cond.methodLink "GraphlineLaw" 300 yL_meanDarkness ∈ gq_ws := gq_t5 (i := 196) rfl rfl
theorem qw_1183 : Cond.static yL_meanDarkness ∈ gq_ws := gq_t5 (i := 197) rfl rfl
theorem qw_1184 : Cond.codeWith yL_meanDarkness cL_meanDarkness 3 (some .int) [(0, 7, 10, 142)] ∈ gq_ws := gq_t5 (i := 198) rfl rfl
theorem qw_1185 : Cond.methodLink "GraphlineLaw" 144 yX11_meanDarkness ∈ gq_ws := gq_t5 (i := 199) rfl rfl
theorem qw_1186 : Cond.instanceMethod yX11_meanDarkness ∈ gq_ws := gq_t5 (i := 200) rfl rfl
theorem qw_1187 : Cond.selects "Graphline" yX11_meanDarkness yX11_meanDarkness ∈ gq_ws := gq_t5 (i := 201) rfl rfl
theorem qw_1188 : Cond.code yX11_meanDarkness cX11_meanDarkness 5 (some .double) ∈ gq_ws := gq_t5 (i := 202) rfl rfl
theorem qw_1190 : Cond.methodLink "GraphlineLaw" 158 yX16_thrown ∈ gq_ws := gq_t5 (i := 204) rfl rfl
theorem qw_1191 : Cond.instanceMethod yX16_thrown ∈ gq_ws := gq_t5 (i := 205) rfl rfl
theorem qw_1192 : Cond.selects "GraphlineModel" yX16_thrown yX16_thrown ∈ gq_ws := gq_t5 (i := 206) rfl rfl
theorem qw_1193 : Cond.code yX16_thrown cX16_thrown 1 (some .int) ∈ gq_ws := gq_t5 (i := 207) rfl rfl
theorem qw_1194 : Cond.classLink "GraphlineLaw" 149 "GraphlineModel" ∈ gq_ws := gq_t5 (i := 208) rfl rfl
theorem qw_1195 : Cond.instantiable "GraphlineModel" 18 ∈ gq_ws := gq_t5 (i := 209) rfl rfl
theorem qw_1196 : Cond.methodLink "GraphlineLaw" 151 yX16_init ∈ gq_ws := gq_t5 (i := 210) rfl rfl
theorem qw_1197 : Cond.instanceMethod yX16_init ∈ gq_ws := gq_t5 (i := 211) rfl rfl
theorem qw_1198 : Cond.code yX16_init cX16_init 1 none ∈ gq_ws := gq_t5 (i := 212) rfl rfl
theorem qw_1199 : Cond.methodLink "GraphlineModel" 17 objectInit ∈ gq_ws := gq_t5 (i := 213) rfl rfl
theorem qw_1200 : Cond.classLink "GraphlineModel" 35 "java/util/ArrayList" ∈ gq_ws := gq_t5 (i := 214) rfl rfl
theorem qw_1201 : Cond.methodLink "GraphlineModel" 37 yJx4a65c_init_da8c8 ∈ gq_ws := gq_t5 (i := 215) rfl rfl
theorem qw_1202 : Cond.fieldLink "GraphlineModel" 1 "GraphlineModel" "thrown" "I" ∈ gq_ws := gq_t5 (i := 216) rfl rfl
theorem qw_1203 : Cond.fieldLink "GraphlineModel" 78 "GraphlineModel" "clock" "I" ∈ gq_ws := gq_t5 (i := 217) rfl rfl
theorem qw_1204 : Cond.fieldLink "GraphlineModel" 23 "GraphlineModel" "shaft" "Z" ∈ gq_ws := gq_t5 (i := 218) rfl rfl
theorem qw_1205 : Cond.fieldLink "GraphlineModel" 27 "GraphlineModel" "isOn" "[Z" ∈ gq_ws := gq_t5 (i := 219) rfl rfl
theorem qw_1206 : Cond.fieldLink "GraphlineModel" 31 "GraphlineModel" "driven" "[I" ∈ gq_ws := gq_t5 (i := 220) rfl rfl
theorem qw_1207 : Cond.fieldLink "GraphlineModel" 38 "GraphlineModel" "lots" "Ljava/util/List;" ∈ gq_ws := gq_t5 (i := 221) rfl rfl
theorem qw_1208 : Cond.fieldLink "GraphlineModel" 42 "GraphlineModel" "mixtures" "Ljava/util/List;" ∈ gq_ws := gq_t5 (i := 222) rfl rfl
theorem qw_1209 : Cond.fieldLink "GraphlineModel" 45 "GraphlineModel" "dies" "[I" ∈ gq_ws := gq_t5 (i := 223) rfl rfl
theorem qw_1210 : Cond.fieldLink "GraphlineModel" 48 "GraphlineModel" "kilns" "[I" ∈ gq_ws := gq_t5 (i := 224) rfl rfl
theorem qw_1211 : Cond.fieldLink "GraphlineModel" 51 "GraphlineModel" "batches" "Ljava/util/List;" ∈ gq_ws := gq_t5 (i := 225) rfl rfl
theorem qw_1212 : Cond.fieldLink "GraphlineModel" 54 "GraphlineModel" "slats" "Ljava/util/List;" ∈ gq_ws := gq_t5 (i := 226) rfl rfl
theorem qw_1213 : Cond.fieldLink "GraphlineModel" 57 "GraphlineModel" "runs" "Ljava/util/List;" ∈ gq_ws := gq_t5 (i := 227) rfl rfl
theorem qw_1214 : Cond.fieldLink "GraphlineModel" 60 "GraphlineModel" "grosses" "Ljava/util/List;" ∈ gq_ws := gq_t5 (i := 228) rfl rfl
theorem qw_1215 : Cond.fieldLink "GraphlineModel" 63 "GraphlineModel" "orders" "Ljava/util/List;" ∈ gq_ws := gq_t5 (i := 229) rfl rfl
theorem qw_1216 : Cond.fieldLink "GraphlineModel" 171 "GraphlineModel" "firings" "I" ∈ gq_ws := gq_t5 (i := 230) rfl rfl
theorem qw_1217 : Cond.fieldLink "GraphlineModel" 195 "GraphlineModel" "draws" "I" ∈ gq_ws := gq_t5 (i := 231) rfl rfl
theorem qw_1218 : Cond.fieldLink "GraphlineModel" 192 "GraphlineModel" "bias" "I" ∈ gq_ws := gq_t5 (i := 232) rfl rfl
theorem qw_1219 : Cond.fieldLink "GraphlineModel" 66 "GraphlineModel" "z" "I" ∈ gq_ws := gq_t5 (i := 233) rfl rfl
theorem qw_1220 : Cond.lays "GraphlineModel" "GraphlineModel" "thrown" "I" ∈ gq_ws := gq_t5 (i := 234) rfl rfl
theorem qw_1222 : Cond.lays "GraphlineModel" "GraphlineModel" "clock" "I" ∈ gq_ws := gq_t5 (i := 236) rfl rfl
theorem qw_1224 : Cond.lays "GraphlineModel" "GraphlineModel" "shaft" "Z" ∈ gq_ws := gq_t5 (i := 238) rfl rfl
theorem qw_1226 : Cond.laysFinal "GraphlineModel" "GraphlineModel" "isOn" "[Z" ∈ gq_ws := gq_t6 (i := 0) rfl rfl
theorem qw_1228 : Cond.laysFinal "GraphlineModel" "GraphlineModel" "driven" "[I" ∈ gq_ws := gq_t6 (i := 2) rfl rfl
theorem qw_1230 : Cond.laysFinal "GraphlineModel" "GraphlineModel" "lots" "Ljava/util/List;" ∈ gq_ws := gq_t6 (i := 4) rfl rfl
theorem qw_1232 : Cond.laysFinal "GraphlineModel" "GraphlineModel" "mixtures" "Ljava/util/List;" ∈ gq_ws := gq_t6 (i := 6) rfl rfl
theorem qw_1234 : Cond.laysFinal "GraphlineModel" "GraphlineModel" "dies" "[I" ∈ gq_ws := gq_t6 (i := 8) rfl rfl
theorem qw_1236 : Cond.laysFinal "GraphlineModel" "GraphlineModel" "kilns" "[I" ∈ gq_ws := gq_t6 (i := 10) rfl rfl
theorem qw_1238 : Cond.laysFinal "GraphlineModel" "GraphlineModel" "batches" "Ljava/util/List;" ∈ gq_ws := gq_t6 (i := 12) rfl rfl
theorem qw_1240 : Cond.laysFinal "GraphlineModel" "GraphlineModel" "slats" "Ljava/util/List;" ∈ gq_ws := gq_t6 (i := 14) rfl rfl
theorem qw_1242 : Cond.laysFinal "GraphlineModel" "GraphlineModel" "runs" "Ljava/util/List;" ∈ gq_ws := gq_t6 (i := 16) rfl rfl
theorem qw_1244 : Cond.laysFinal "GraphlineModel" "GraphlineModel" "grosses" "Ljava/util/List;" ∈ gq_ws := gq_t6 (i := 18) rfl rfl
theorem qw_1246 : Cond.laysFinal "GraphlineModel" "GraphlineModel" "orders" "Ljava/util/List;" ∈ gq_ws := gq_t6 (i := 20) rfl rfl
theorem qw_1248 : Cond.lays "GraphlineModel" "GraphlineModel" "firings" "I" ∈ gq_ws := gq_t6 (i := 22) rfl rfl
theorem qw_1250 : Cond.lays "GraphlineModel" "GraphlineModel" "draws" "I" ∈ gq_ws := gq_t6 (i := 24) rfl rfl
theorem qw_1252 : Cond.lays "GraphlineModel" "GraphlineModel" "bias" "I" ∈ gq_ws := gq_t6 (i := 26) rfl rfl
theorem qw_1254 : Cond.lays "GraphlineModel" "GraphlineModel" "z" "I" ∈ gq_ws := gq_t6 (i := 28) rfl rfl
theorem qw_1257 : Cond.arrayClass .boolean ∈ gq_ws := gq_t6 (i := 31) rfl rfl
theorem qw_1258 : Cond.methodLink "GraphlineLaw" 157 yX16_go ∈ gq_ws := gq_t6 (i := 32) rfl rfl
theorem qw_1259 : Cond.instanceMethod yX16_go ∈ gq_ws := gq_t6 (i := 33) rfl rfl
theorem qw_1260 : Cond.selects "GraphlineModel" yX16_go yX16_go ∈ gq_ws := gq_t6 (i := 34) rfl rfl
theorem qw_1261 : Cond.code yX16_go cX16_go 2 (some .int) ∈ gq_ws := gq_t6 (i := 35) rfl rfl
theorem qw_1262 : Cond.methodLink "GraphlineModel" 69 yX16_begins ∈ gq_ws := gq_t6 (i := 36) rfl rfl
theorem qw_1264 : Cond.instanceMethod yX16_begins ∈ gq_ws := gq_t6 (i := 38) rfl rfl
theorem qw_1265 : Cond.code yX16_begins cX16_begins 1 none ∈ gq_ws := gq_t6 (i := 39) rfl rfl
theorem qw_1266 : Cond.constantLong "GraphlineModel" 72 (500) ∈ gq_ws := gq_t6 (i := 40) rfl rfl
theorem qw_1267 : Cond.methodLink "GraphlineModel" 13 yX16_in ∈ gq_ws := gq_t6 (i := 41) rfl rfl
theorem qw_1268 : Cond.static yX16_in ∈ gq_ws := gq_t6 (i := 42) rfl rfl
theorem qw_1269 : Cond.code yX16_in cX16_in 6 (some .boolean) ∈ gq_ws := gq_t6 (i := 43) rfl rfl
theorem qw_1270 : Cond.methodLink "GraphlineModel" 74 yX16_fails ∈ gq_ws := gq_t6 (i := 44) rfl rfl
theorem qw_1272 : Cond.instanceMethod yX16_fails ∈ gq_ws := gq_t6 (i := 46) rfl rfl
theorem qw_1273 : Cond.code yX16_fails cX16_fails 3 (some .boolean) ∈ gq_ws := gq_t6 (i := 47) rfl rfl
theorem qw_1274 : Cond.methodLink "GraphlineLaw" 166 yX16_shaft ∈ gq_ws := gq_t6 (i := 48) rfl rfl
theorem qw_1275 : Cond.instanceMethod yX16_shaft ∈ gq_ws := gq_t6 (i := 49) rfl rfl
theorem qw_1276 : Cond.selects "GraphlineModel" yX16_shaft yX16_shaft ∈ gq_ws := gq_t6 (i := 50) rfl rfl
theorem qw_1277 : Cond.code yX16_shaft cX16_shaft 3 (some .boolean) ∈ gq_ws := gq_t6 (i := 51) rfl rfl
theorem qw_1278 : Cond.methodLink "GraphlineLaw" 170 yX16_belt ∈ gq_ws := gq_t6 (i := 52) rfl rfl
theorem qw_1279 : Cond.instanceMethod yX16_belt ∈ gq_ws := gq_t6 (i := 53) rfl rfl
theorem qw_1280 : Cond.selects "GraphlineModel" yX16_belt yX16_belt ∈ gq_ws := gq_t6 (i := 54) rfl rfl
theorem qw_1281 : Cond.code yX16_belt cX16_belt 7 (some .char) ∈ gq_ws := gq_t6 (i := 55) rfl rfl
theorem qw_1283 : Cond.methodLink "GraphlineModel" 83 yJ0_indexOf_0f7a4 ∈ gq_ws := gq_t6 (i := 57) rfl rfl
theorem qw_1284 : Cond.instanceMethod yJ0_indexOf_0f7a4 ∈ gq_ws := gq_t6 (i := 58) rfl rfl
theorem qw_1285 : Cond.selects "java/lang/String" yJ0_indexOf_0f7a4 yJ0_indexOf_0f7a4 ∈ gq_ws := gq_t6 (i := 59) rfl rfl
theorem qw_1286 : Cond.code yJ0_indexOf_0f7a4 cJ0_indexOf_0f7a4 2 (some .int) ∈ gq_ws := gq_t6 (i := 60) rfl rfl
theorem qw_1287 : Cond.methodLink "java/lang/String" 633 yJ0_indexOf_7cf53 ∈ gq_ws := gq_t6 (i := 61) rfl rfl
theorem qw_1288 : Cond.instanceMethod yJ0_indexOf_7cf53 ∈ gq_ws := gq_t6 (i := 62) rfl rfl
theorem qw_1289 : Cond.selects "java/lang/String" yJ0_indexOf_7cf53 yJ0_indexOf_7cf53 ∈ gq_ws := gq_t6 (i := 63) rfl rfl
theorem qw_1290 : Cond.code yJ0_indexOf_7cf53 cJ0_indexOf_7cf53 3 (some .int) ∈ gq_ws := gq_t6 (i := 64) rfl rfl
theorem qw_1291 : Cond.methodLink "java/lang/String" 492 yJ0_isLatin1_aae02 ∈ gq_ws := gq_t6 (i := 65) rfl rfl
theorem qw_1292 : Cond.instanceMethod yJ0_isLatin1_aae02 ∈ gq_ws := gq_t6 (i := 66) rfl rfl
theorem qw_1293 : Cond.selects "java/lang/String" yJ0_isLatin1_aae02 yJ0_isLatin1_aae02 ∈ gq_ws := gq_t6 (i := 67) rfl rfl
theorem qw_1294 : Cond.code yJ0_isLatin1_aae02 cJ0_isLatin1_aae02 1 (some .boolean) ∈ gq_ws := gq_t6 (i := 68) rfl rfl
theorem qw_1295 : Cond.fieldLink "java/lang/String" 38 "java/lang/String" "COMPACT_STRINGS" "Z" ∈ gq_ws := gq_t6 (i := 69) rfl rfl
theorem qw_1297 : Cond.methodLink "java/lang/String" 505 yJ0_length_8abf5 ∈ gq_ws := gq_t6 (i := 71) rfl rfl
theorem qw_1298 : Cond.instanceMethod yJ0_length_8abf5 ∈ gq_ws := gq_t6 (i := 72) rfl rfl
theorem qw_1299 : Cond.selects "java/lang/String" yJ0_length_8abf5 yJ0_length_8abf5 ∈ gq_ws := gq_t6 (i := 73) rfl rfl
theorem qw_1300 : Cond.code yJ0_length_8abf5 cJ0_length_8abf5 1 (some .int) ∈ gq_ws := gq_t6 (i := 74) rfl rfl
theorem qw_1301 : Cond.methodLink "java/lang/String" 335 yJ0_coder_7d493 ∈ gq_ws := gq_t6 (i := 75) rfl rfl
theorem qw_1302 : Cond.instanceMethod yJ0_coder_7d493 ∈ gq_ws := gq_t6 (i := 76) rfl rfl
theorem qw_1303 : Cond.selects "java/lang/String" yJ0_coder_7d493 yJ0_coder_7d493 ∈ gq_ws := gq_t6 (i := 77) rfl rfl
theorem qw_1304 : Cond.code yJ0_coder_7d493 cJ0_coder_7d493 1 (some .byte) ∈ gq_ws := gq_t6 (i := 78) rfl rfl
theorem qw_1305 : Cond.methodLink "java/lang/String" 637 yJ1_indexOf_4cfef ∈ gq_ws := gq_t6 (i := 79) rfl rfl
theorem qw_1306 : Cond.static yJ1_indexOf_4cfef ∈ gq_ws := gq_t6 (i := 80) rfl rfl
theorem qw_1307 : Cond.code yJ1_indexOf_4cfef cJ1_indexOf_4cfef 4 (some .int) ∈ gq_ws := gq_t6 (i := 81) rfl rfl
theorem qw_1308 : Cond.methodLink "java/lang/StringLatin1" 88 yJ1_canEncode_9a6ad ∈ gq_ws := gq_t6 (i := 82) rfl rfl
theorem qw_1309 : Cond.static yJ1_canEncode_9a6ad ∈ gq_ws := gq_t6 (i := 83) rfl rfl
theorem qw_1310 : Cond.code yJ1_canEncode_9a6ad cJ1_canEncode_9a6ad 1 (some .boolean) ∈ gq_ws := gq_t6 (i := 84) rfl rfl
theorem qw_1311 : Cond.methodLink "java/lang/StringLatin1" 92 yJ9_max_7cf53 ∈ gq_ws := gq_t6 (i := 85) rfl rfl
theorem qw_1312 : Cond.methodLink "java/lang/StringLatin1" 38 yJ9_min_7cf53 ∈ gq_ws := gq_t6 (i := 86) rfl rfl
theorem qw_1313 : Cond.methodLink "java/lang/StringLatin1" 95 yJ1_indexOfChar_4cfef ∈ gq_ws := gq_t6 (i := 87) rfl rfl
theorem qw_1314 : Cond.static yJ1_indexOfChar_4cfef ∈ gq_ws := gq_t6 (i := 88) rfl rfl
theorem qw_1315 : Cond.code yJ1_indexOfChar_4cfef cJ1_indexOfChar_4cfef 6 (some .int) ∈ gq_ws := gq_t6 (i := 89) rfl rfl
theorem qw_1334 : Cond.fieldLink "java/lang/String" 1053 "jdk/internal/util/Preconditions" "SIOOBE_FORMATTER" "Ljava/util/function/BiFunction;" ∈ gq_ws := gq_t6 (i := 108) rfl rfl
theorem qw_1336 : Cond.methodLink "java/lang/String" 1062 yJ3_checkFromToIndex_8c36e ∈ gq_ws := gq_t6 (i := 110) rfl rfl
theorem qw_1337 : Cond.static yJ3_checkFromToIndex_8c36e ∈ gq_ws := gq_t6 (i := 111) rfl rfl
theorem qw_1338 : Cond.code yJ3_checkFromToIndex_8c36e cJ3_checkFromToIndex_8c36e 4 (some .int) ∈ gq_ws := gq_t6 (i := 112) rfl rfl
theorem qw_1365 : Cond.methodLink "GraphlineModel" 89 yJ0_charAt_5068e ∈ gq_ws := gq_t6 (i := 139) rfl rfl
theorem qw_1366 : Cond.instanceMethod yJ0_charAt_5068e ∈ gq_ws := gq_t6 (i := 140) rfl rfl
theorem qw_1367 : Cond.selects "java/lang/String" yJ0_charAt_5068e yJ0_charAt_5068e ∈ gq_ws := gq_t6 (i := 141) rfl rfl
theorem qw_1368 : Cond.code yJ0_charAt_5068e cJ0_charAt_5068e 2 (some .char) ∈ gq_ws := gq_t6 (i := 142) rfl rfl
theorem qw_1369 : Cond.methodLink "java/lang/String" 495 yJ1_charAt_3b067 ∈ gq_ws := gq_t6 (i := 143) rfl rfl
theorem qw_1370 : Cond.static yJ1_charAt_3b067 ∈ gq_ws := gq_t6 (i := 144) rfl rfl
theorem qw_1371 : Cond.code yJ1_charAt_3b067 cJ1_charAt_3b067 2 (some .char) ∈ gq_ws := gq_t6 (i := 145) rfl rfl
theorem qw_1372 : Cond.methodLink "java/lang/StringLatin1" 9 yJ0_checkIndex_df160 ∈ gq_ws := gq_t6 (i := 146) rfl rfl
theorem qw_1373 : Cond.static yJ0_checkIndex_df160 ∈ gq_ws := gq_t6 (i := 147) rfl rfl
theorem qw_1374 : Cond.code yJ0_checkIndex_df160 cJ0_checkIndex_df160 2 none ∈ gq_ws := gq_t6 (i := 148) rfl rfl
theorem qw_1375 : Cond.methodLink "java/lang/String" 1059 yJ3_checkIndex_8e157 ∈ gq_ws := gq_t6 (i := 149) rfl rfl
theorem qw_1383 : Cond.methodLink "GraphlineLaw" 174 yX16_on ∈ gq_ws := gq_t6 (i := 157) rfl rfl
theorem qw_1384 : Cond.instanceMethod yX16_on ∈ gq_ws := gq_t6 (i := 158) rfl rfl
theorem qw_1385 : Cond.selects "GraphlineModel" yX16_on yX16_on ∈ gq_ws := gq_t6 (i := 159) rfl rfl
theorem qw_1386 : Cond.code yX16_on cX16_on 5 (some .boolean) ∈ gq_ws := gq_t6 (i := 160) rfl rfl
theorem qw_1387 : Cond.methodLink "GraphlineLaw" 178 yX16_runs ∈ gq_ws := gq_t6 (i := 161) rfl rfl
theorem qw_1388 : Cond.instanceMethod yX16_runs ∈ gq_ws := gq_t6 (i := 162) rfl rfl
theorem qw_1389 : Cond.selects "GraphlineModel" yX16_runs yX16_runs ∈ gq_ws := gq_t6 (i := 163) rfl rfl
theorem qw_1390 : Cond.code yX16_runs cX16_runs 3 (some .boolean) ∈ gq_ws := gq_t6 (i := 164) rfl rfl
theorem qw_1391 : Cond.methodLink "GraphlineModel" 93 yX16_going ∈ gq_ws := gq_t6 (i := 165) rfl rfl
theorem qw_1393 : Cond.instanceMethod yX16_going ∈ gq_ws := gq_t6 (i := 167) rfl rfl
theorem qw_1394 : Cond.code yX16_going cX16_going 4 (some .boolean) ∈ gq_ws := gq_t6 (i := 168) rfl rfl
theorem qw_1395 : Cond.methodLink "GraphlineLaw" 182 yX16_lot ∈ gq_ws := gq_t6 (i := 169) rfl rfl
theorem qw_1396 : Cond.instanceMethod yX16_lot ∈ gq_ws := gq_t6 (i := 170) rfl rfl
theorem qw_1397 : Cond.selects "GraphlineModel" yX16_lot yX16_lot ∈ gq_ws := gq_t6 (i := 171) rfl rfl
theorem qw_1398 : Cond.code yX16_lot cX16_lot 6 (some .int) ∈ gq_ws := gq_t6 (i := 172) rfl rfl
theorem qw_1399 : Cond.constantLong "GraphlineModel" 101 (50) ∈ gq_ws := gq_t6 (i := 173) rfl rfl
theorem qw_1400 : Cond.constantLong "GraphlineModel" 103 (99) ∈ gq_ws := gq_t6 (i := 174) rfl rfl
theorem qw_1401 : Cond.constantLong "GraphlineModel" 105 (9) ∈ gq_ws := gq_t6 (i := 175) rfl rfl
theorem qw_1403 : Cond.methodLink "GraphlineModel" 7 ⟨"java/util/List", "size", "()I"⟩ ∈ gq_ws := gq_t6 (i := 177) rfl rfl
theorem qw_1407 : Cond.selects "java/util/ArrayList" ⟨"java/util/List", "size", "()I"⟩ yJx4a65c_size_8abf5 ∈ gq_ws := gq_t6 (i := 181) rfl rfl
theorem qw_1411 : Cond.methodLink "GraphlineModel" 107 ⟨"java/util/List", "add", "(Ljava/lang/Object;)Z"⟩ ∈ gq_ws := gq_t6 (i := 185) rfl rfl
theorem qw_1414 : Cond.selects "java/util/ArrayList" ⟨"java/util/List", "add", "(Ljava/lang/Object;)Z"⟩ yJx4a65c_add_9ea2d ∈ gq_ws := gq_t6 (i := 188) rfl rfl
theorem qw_1417 : Cond.methodLink "GraphlineLaw" 185 yX16_kilos ∈ gq_ws := gq_t6 (i := 191) rfl rfl
theorem qw_1418 : Cond.instanceMethod yX16_kilos ∈ gq_ws := gq_t6 (i := 192) rfl rfl
theorem qw_1419 : Cond.selects "GraphlineModel" yX16_kilos yX16_kilos ∈ gq_ws := gq_t6 (i := 193) rfl rfl
theorem qw_1420 : Cond.code yX16_kilos cX16_kilos 2 (some .int) ∈ gq_ws := gq_t6 (i := 194) rfl rfl
theorem qw_1421 : Cond.methodLink "GraphlineModel" 111 yX16_noLot ∈ gq_ws := gq_t6 (i := 195) rfl rfl
theorem qw_1423 : Cond.instanceMethod yX16_noLot ∈ gq_ws := gq_t6 (i := 197) rfl rfl
theorem qw_1424 : Cond.code yX16_noLot cX16_noLot 2 (some .boolean) ∈ gq_ws := gq_t6 (i := 198) rfl rfl
theorem qw_1425 : Cond.methodLink "GraphlineModel" 97 yX16_isOf ∈ gq_ws := gq_t6 (i := 199) rfl rfl
theorem qw_1426 : Cond.static yX16_isOf ∈ gq_ws := gq_t6 (i := 200) rfl rfl
theorem qw_1427 : Cond.code yX16_isOf cX16_isOf 2 (some .boolean) ∈ gq_ws := gq_t6 (i := 201) rfl rfl
theorem qw_1429 : Cond.methodLink "GraphlineModel" 114 ⟨"java/util/List", "get", "(I)Ljava/lang/Object;"⟩ ∈ gq_ws := gq_t6 (i := 203) rfl rfl
theorem qw_1432 : Cond.selects "java/util/ArrayList" ⟨"java/util/List", "get", "(I)Ljava/lang/Object;"⟩ yJx4a65c_get_915e3 ∈ gq_ws := gq_t6 (i := 206) rfl rfl
theorem qw_1435 : Cond.classLink "GraphlineModel" 118 "[I" ∈ gq_ws := gq_t6 (i := 209) rfl rfl
theorem qw_1436 : Cond.methodLink "GraphlineLaw" 189 yX16_mix ∈ gq_ws := gq_t6 (i := 210) rfl rfl
theorem qw_1437 : Cond.instanceMethod yX16_mix ∈ gq_ws := gq_t6 (i := 211) rfl rfl
theorem qw_1438 : Cond.selects "GraphlineModel" yX16_mix yX16_mix ∈ gq_ws := gq_t6 (i := 212) rfl rfl
theorem qw_1439 : Cond.code yX16_mix cX16_mix 10 (some .int) ∈ gq_ws := gq_t6 (i := 213) rfl rfl
theorem qw_1440 : Cond.methodLink "GraphlineModel" 119 yJ9_min_7cf53 ∈ gq_ws := gq_t6 (i := 214) rfl rfl
theorem qw_1441 : Cond.methodLink "GraphlineModel" 125 yJ9_max_7cf53 ∈ gq_ws := gq_t6 (i := 215) rfl rfl
theorem qw_1442 : Cond.methodLink "GraphlineLaw" 193 yX16_mixture ∈ gq_ws := gq_t6 (i := 216) rfl rfl
theorem qw_1443 : Cond.instanceMethod yX16_mixture ∈ gq_ws := gq_t6 (i := 217) rfl rfl
theorem qw_1444 : Cond.selects "GraphlineModel" yX16_mixture yX16_mixture ∈ gq_ws := gq_t6 (i := 218) rfl rfl
theorem qw_1445 : Cond.code yX16_mixture cX16_mixture 3 (some .int) ∈ gq_ws := gq_t6 (i := 219) rfl rfl
theorem qw_1447 : Cond.methodLink "GraphlineLaw" 197 yX16_press ∈ gq_ws := gq_t6 (i := 221) rfl rfl
theorem qw_1448 : Cond.instanceMethod yX16_press ∈ gq_ws := gq_t6 (i := 222) rfl rfl
theorem qw_1449 : Cond.selects "GraphlineModel" yX16_press yX16_press ∈ gq_ws := gq_t6 (i := 223) rfl rfl
theorem qw_1450 : Cond.code yX16_press cX16_press 6 (some .int) ∈ gq_ws := gq_t6 (i := 224) rfl rfl
theorem qw_1451 : Cond.constantLong "GraphlineModel" 130 (3) ∈ gq_ws := gq_t6 (i := 225) rfl rfl
theorem qw_1452 : Cond.classLink "GraphlineModel" 132 "GraphlineModel$Batch" ∈ gq_ws := gq_t6 (i := 226) rfl rfl
theorem qw_1453 : Cond.instantiable "GraphlineModel$Batch" 11 ∈ gq_ws := gq_t6 (i := 227) rfl rfl
theorem qw_1455 : Cond.instanceMethod yX12_init ∈ gq_ws := gq_t6 (i := 229) rfl rfl
theorem qw_1456 : Cond.code yX12_init cX12_init 1 none ∈ gq_ws := gq_t6 (i := 230) rfl rfl
theorem qw_1457 : Cond.methodLink "GraphlineModel$Batch" 3 objectInit ∈ gq_ws := gq_t6 (i := 231) rfl rfl
theorem qw_1464 : Cond.fieldLink "GraphlineModel$Batch" 9 "GraphlineModel$Batch" "firing" "I" ∈ gq_ws := gq_t6 (i := 238) rfl rfl
theorem qw_1470 : Cond.lays "GraphlineModel$Batch" "GraphlineModel$Batch" "mixture" "I" ∈ gq_ws := gq_t7 (i := 4) rfl rfl
theorem qw_1472 : Cond.lays "GraphlineModel$Batch" "GraphlineModel$Batch" "leads" "I" ∈ gq_ws := gq_t7 (i := 6) rfl rfl
theorem qw_1474 : Cond.lays "GraphlineModel$Batch" "GraphlineModel$Batch" "warped" "I" ∈ gq_ws := gq_t7 (i := 8) rfl rfl
theorem qw_1476 : Cond.lays "GraphlineModel$Batch" "GraphlineModel$Batch" "bore" "I" ∈ gq_ws := gq_t7 (i := 10) rfl rfl
theorem qw_1478 : Cond.lays "GraphlineModel$Batch" "GraphlineModel$Batch" "ready" "I" ∈ gq_ws := gq_t7 (i := 12) rfl rfl
theorem qw_1480 : Cond.lays "GraphlineModel$Batch" "GraphlineModel$Batch" "dried" "Z" ∈ gq_ws := gq_t7 (i := 14) rfl rfl
theorem qw_1482 : Cond.lays "GraphlineModel$Batch" "GraphlineModel$Batch" "firing" "I" ∈ gq_ws := gq_t7 (i := 16) rfl rfl
theorem qw_1484 : Cond.lays "GraphlineModel$Batch" "GraphlineModel$Batch" "kiln" "I" ∈ gq_ws := gq_t7 (i := 18) rfl rfl
theorem qw_1486 : Cond.lays "GraphlineModel$Batch" "GraphlineModel$Batch" "soaked" "Z" ∈ gq_ws := gq_t7 (i := 20) rfl rfl
theorem qw_1488 : Cond.lays "GraphlineModel$Batch" "GraphlineModel$Batch" "strength" "I" ∈ gq_ws := gq_t7 (i := 22) rfl rfl
theorem qw_1490 : Cond.lays "GraphlineModel$Batch" "GraphlineModel$Batch" "darkness" "I" ∈ gq_ws := gq_t7 (i := 24) rfl rfl
theorem qw_1493 : Cond.methodLink "GraphlineLaw" 200 yX16_worn ∈ gq_ws := gq_t7 (i := 27) rfl rfl
theorem qw_1494 : Cond.instanceMethod yX16_worn ∈ gq_ws := gq_t7 (i := 28) rfl rfl
theorem qw_1495 : Cond.selects "GraphlineModel" yX16_worn yX16_worn ∈ gq_ws := gq_t7 (i := 29) rfl rfl
theorem qw_1496 : Cond.code yX16_worn cX16_worn 2 (some .int) ∈ gq_ws := gq_t7 (i := 30) rfl rfl
theorem qw_1497 : Cond.methodLink "GraphlineLaw" 203 yX16_renew ∈ gq_ws := gq_t7 (i := 31) rfl rfl
theorem qw_1498 : Cond.instanceMethod yX16_renew ∈ gq_ws := gq_t7 (i := 32) rfl rfl
theorem qw_1499 : Cond.selects "GraphlineModel" yX16_renew yX16_renew ∈ gq_ws := gq_t7 (i := 33) rfl rfl
theorem qw_1500 : Cond.code yX16_renew cX16_renew 3 (some .int) ∈ gq_ws := gq_t7 (i := 34) rfl rfl
theorem qw_1501 : Cond.methodLink "GraphlineLaw" 207 yX16_dry ∈ gq_ws := gq_t7 (i := 35) rfl rfl
theorem qw_1502 : Cond.instanceMethod yX16_dry ∈ gq_ws := gq_t7 (i := 36) rfl rfl
theorem qw_1503 : Cond.selects "GraphlineModel" yX16_dry yX16_dry ∈ gq_ws := gq_t7 (i := 37) rfl rfl
theorem qw_1504 : Cond.code yX16_dry cX16_dry 4 (some .int) ∈ gq_ws := gq_t7 (i := 38) rfl rfl
theorem qw_1505 : Cond.methodLink "GraphlineModel" 144 yX16_noBatch ∈ gq_ws := gq_t7 (i := 39) rfl rfl
theorem qw_1507 : Cond.instanceMethod yX16_noBatch ∈ gq_ws := gq_t7 (i := 41) rfl rfl
theorem qw_1508 : Cond.code yX16_noBatch cX16_noBatch 2 (some .boolean) ∈ gq_ws := gq_t7 (i := 42) rfl rfl
theorem qw_1509 : Cond.constantLong "GraphlineModel" 147 (5) ∈ gq_ws := gq_t7 (i := 43) rfl rfl
theorem qw_1510 : Cond.methodLink "GraphlineModel" 155 yX16_fineness ∈ gq_ws := gq_t7 (i := 44) rfl rfl
theorem qw_1512 : Cond.instanceMethod yX16_fineness ∈ gq_ws := gq_t7 (i := 46) rfl rfl
theorem qw_1513 : Cond.code yX16_fineness cX16_fineness 2 (some .int) ∈ gq_ws := gq_t7 (i := 47) rfl rfl
theorem qw_1514 : Cond.methodLink "GraphlineLaw" 211 yX16_fire ∈ gq_ws := gq_t7 (i := 48) rfl rfl
theorem qw_1515 : Cond.instanceMethod yX16_fire ∈ gq_ws := gq_t7 (i := 49) rfl rfl
theorem qw_1516 : Cond.selects "GraphlineModel" yX16_fire yX16_fire ∈ gq_ws := gq_t7 (i := 50) rfl rfl
theorem qw_1517 : Cond.code yX16_fire cX16_fire 7 (some .int) ∈ gq_ws := gq_t7 (i := 51) rfl rfl
theorem qw_1518 : Cond.constantLong "GraphlineModel" 162 (700) ∈ gq_ws := gq_t7 (i := 52) rfl rfl
theorem qw_1519 : Cond.constantLong "GraphlineModel" 164 (1200) ∈ gq_ws := gq_t7 (i := 53) rfl rfl
theorem qw_1520 : Cond.constantLong "GraphlineModel" 166 (12) ∈ gq_ws := gq_t7 (i := 54) rfl rfl
theorem qw_1521 : Cond.methodLink "GraphlineLaw" 214 yX16_soak ∈ gq_ws := gq_t7 (i := 55) rfl rfl
theorem qw_1522 : Cond.instanceMethod yX16_soak ∈ gq_ws := gq_t7 (i := 56) rfl rfl
theorem qw_1523 : Cond.selects "GraphlineModel" yX16_soak yX16_soak ∈ gq_ws := gq_t7 (i := 57) rfl rfl
theorem qw_1524 : Cond.code yX16_soak cX16_soak 4 (some .int) ∈ gq_ws := gq_t7 (i := 58) rfl rfl
theorem qw_1525 : Cond.methodLink "GraphlineModel" 183 yX16_isFired ∈ gq_ws := gq_t7 (i := 59) rfl rfl
theorem qw_1527 : Cond.instanceMethod yX16_isFired ∈ gq_ws := gq_t7 (i := 61) rfl rfl
theorem qw_1528 : Cond.code yX16_isFired cX16_isFired 2 (some .boolean) ∈ gq_ws := gq_t7 (i := 62) rfl rfl
theorem qw_1529 : Cond.methodLink "GraphlineLaw" 217 yX16_batch ∈ gq_ws := gq_t7 (i := 63) rfl rfl
theorem qw_1530 : Cond.instanceMethod yX16_batch ∈ gq_ws := gq_t7 (i := 64) rfl rfl
theorem qw_1531 : Cond.selects "GraphlineModel" yX16_batch yX16_batch ∈ gq_ws := gq_t7 (i := 65) rfl rfl
theorem qw_1532 : Cond.code yX16_batch cX16_batch 4 (some .int) ∈ gq_ws := gq_t7 (i := 66) rfl rfl
theorem qw_1534 : Cond.methodLink "GraphlineLaw" 220 yX16_draw ∈ gq_ws := gq_t7 (i := 68) rfl rfl
theorem qw_1535 : Cond.instanceMethod yX16_draw ∈ gq_ws := gq_t7 (i := 69) rfl rfl
theorem qw_1536 : Cond.selects "GraphlineModel" yX16_draw yX16_draw ∈ gq_ws := gq_t7 (i := 70) rfl rfl
theorem qw_1537 : Cond.code yX16_draw cX16_draw 2 (some .int) ∈ gq_ws := gq_t7 (i := 71) rfl rfl
theorem qw_1538 : Cond.methodLink "GraphlineModel" 198 yX16_tells ∈ gq_ws := gq_t7 (i := 72) rfl rfl
theorem qw_1540 : Cond.instanceMethod yX16_tells ∈ gq_ws := gq_t7 (i := 74) rfl rfl
theorem qw_1541 : Cond.code yX16_tells cX16_tells 3 (some .int) ∈ gq_ws := gq_t7 (i := 75) rfl rfl
theorem qw_1542 : Cond.methodLink "GraphlineLaw" 224 yX16_check ∈ gq_ws := gq_t7 (i := 76) rfl rfl
theorem qw_1543 : Cond.instanceMethod yX16_check ∈ gq_ws := gq_t7 (i := 77) rfl rfl
theorem qw_1544 : Cond.selects "GraphlineModel" yX16_check yX16_check ∈ gq_ws := gq_t7 (i := 78) rfl rfl
theorem qw_1545 : Cond.code yX16_check cX16_check 2 (some .int) ∈ gq_ws := gq_t7 (i := 79) rfl rfl
theorem qw_1546 : Cond.methodLink "GraphlineLaw" 227 yX16_slats ∈ gq_ws := gq_t7 (i := 80) rfl rfl
theorem qw_1547 : Cond.instanceMethod yX16_slats ∈ gq_ws := gq_t7 (i := 81) rfl rfl
theorem qw_1548 : Cond.selects "GraphlineModel" yX16_slats yX16_slats ∈ gq_ws := gq_t7 (i := 82) rfl rfl
theorem qw_1549 : Cond.code yX16_slats cX16_slats 7 (some .int) ∈ gq_ws := gq_t7 (i := 83) rfl rfl
theorem qw_1550 : Cond.constantLong "GraphlineModel" 201 (40) ∈ gq_ws := gq_t7 (i := 84) rfl rfl
theorem qw_1551 : Cond.classLink "GraphlineModel" 203 "GraphlineModel$Slat" ∈ gq_ws := gq_t7 (i := 85) rfl rfl
theorem qw_1552 : Cond.instantiable "GraphlineModel$Slat" 6 ∈ gq_ws := gq_t7 (i := 86) rfl rfl
theorem qw_1554 : Cond.instanceMethod yX15_init ∈ gq_ws := gq_t7 (i := 88) rfl rfl
theorem qw_1555 : Cond.code yX15_init cX15_init 1 none ∈ gq_ws := gq_t7 (i := 89) rfl rfl
theorem qw_1556 : Cond.methodLink "GraphlineModel$Slat" 1 objectInit ∈ gq_ws := gq_t7 (i := 90) rfl rfl
theorem qw_1563 : Cond.lays "GraphlineModel$Slat" "GraphlineModel$Slat" "wood" "C" ∈ gq_ws := gq_t7 (i := 97) rfl rfl
theorem qw_1565 : Cond.lays "GraphlineModel$Slat" "GraphlineModel$Slat" "grain" "I" ∈ gq_ws := gq_t7 (i := 99) rfl rfl
theorem qw_1567 : Cond.lays "GraphlineModel$Slat" "GraphlineModel$Slat" "wet" "I" ∈ gq_ws := gq_t7 (i := 101) rfl rfl
theorem qw_1569 : Cond.lays "GraphlineModel$Slat" "GraphlineModel$Slat" "many" "I" ∈ gq_ws := gq_t7 (i := 103) rfl rfl
theorem qw_1571 : Cond.lays "GraphlineModel$Slat" "GraphlineModel$Slat" "width" "I" ∈ gq_ws := gq_t7 (i := 105) rfl rfl
theorem qw_1573 : Cond.lays "GraphlineModel$Slat" "GraphlineModel$Slat" "ready" "I" ∈ gq_ws := gq_t7 (i := 107) rfl rfl
theorem qw_1576 : Cond.methodLink "GraphlineLaw" 230 yX16_season ∈ gq_ws := gq_t7 (i := 110) rfl rfl
theorem qw_1577 : Cond.instanceMethod yX16_season ∈ gq_ws := gq_t7 (i := 111) rfl rfl
theorem qw_1578 : Cond.selects "GraphlineModel" yX16_season yX16_season ∈ gq_ws := gq_t7 (i := 112) rfl rfl
theorem qw_1579 : Cond.code yX16_season cX16_season 4 (some .int) ∈ gq_ws := gq_t7 (i := 113) rfl rfl
theorem qw_1580 : Cond.methodLink "GraphlineModel" 219 yX16_noSlats ∈ gq_ws := gq_t7 (i := 114) rfl rfl
theorem qw_1582 : Cond.instanceMethod yX16_noSlats ∈ gq_ws := gq_t7 (i := 116) rfl rfl
theorem qw_1583 : Cond.code yX16_noSlats cX16_noSlats 2 (some .boolean) ∈ gq_ws := gq_t7 (i := 117) rfl rfl
theorem qw_1584 : Cond.constantLong "GraphlineModel" 222 (200) ∈ gq_ws := gq_t7 (i := 118) rfl rfl
theorem qw_1585 : Cond.methodLink "GraphlineLaw" 233 yX16_groove ∈ gq_ws := gq_t7 (i := 119) rfl rfl
theorem qw_1586 : Cond.instanceMethod yX16_groove ∈ gq_ws := gq_t7 (i := 120) rfl rfl
theorem qw_1587 : Cond.selects "GraphlineModel" yX16_groove yX16_groove ∈ gq_ws := gq_t7 (i := 121) rfl rfl
theorem qw_1588 : Cond.code yX16_groove cX16_groove 4 (some .int) ∈ gq_ws := gq_t7 (i := 122) rfl rfl
theorem qw_1589 : Cond.constantLong "GraphlineModel" 225 (30) ∈ gq_ws := gq_t7 (i := 123) rfl rfl
theorem qw_1590 : Cond.methodLink "GraphlineLaw" 236 yX16_slat ∈ gq_ws := gq_t7 (i := 124) rfl rfl
theorem qw_1591 : Cond.instanceMethod yX16_slat ∈ gq_ws := gq_t7 (i := 125) rfl rfl
theorem qw_1592 : Cond.selects "GraphlineModel" yX16_slat yX16_slat ∈ gq_ws := gq_t7 (i := 126) rfl rfl
theorem qw_1593 : Cond.code yX16_slat cX16_slat 4 (some .int) ∈ gq_ws := gq_t7 (i := 127) rfl rfl
theorem qw_1595 : Cond.methodLink "GraphlineLaw" 240 yX16_lay ∈ gq_ws := gq_t7 (i := 129) rfl rfl
theorem qw_1596 : Cond.instanceMethod yX16_lay ∈ gq_ws := gq_t7 (i := 130) rfl rfl
theorem qw_1597 : Cond.selects "GraphlineModel" yX16_lay yX16_lay ∈ gq_ws := gq_t7 (i := 131) rfl rfl
theorem qw_1598 : Cond.code yX16_lay cX16_lay 13 (some .int) ∈ gq_ws := gq_t7 (i := 132) rfl rfl
theorem qw_1600 : Cond.methodLink "GraphlineModel" 234 yJ9_abs_0f7a4 ∈ gq_ws := gq_t7 (i := 134) rfl rfl
theorem qw_1601 : Cond.classLink "GraphlineModel" 237 "GraphlineModel$Run" ∈ gq_ws := gq_t7 (i := 135) rfl rfl
theorem qw_1602 : Cond.instantiable "GraphlineModel$Run" 11 ∈ gq_ws := gq_t7 (i := 136) rfl rfl
theorem qw_1604 : Cond.instanceMethod yX14_init ∈ gq_ws := gq_t7 (i := 138) rfl rfl
theorem qw_1605 : Cond.code yX14_init cX14_init 1 none ∈ gq_ws := gq_t7 (i := 139) rfl rfl
theorem qw_1606 : Cond.methodLink "GraphlineModel$Run" 3 objectInit ∈ gq_ws := gq_t7 (i := 140) rfl rfl
theorem qw_1615 : Cond.fieldLink "GraphlineModel$Run" 9 "GraphlineModel$Run" "colour" "I" ∈ gq_ws := gq_t7 (i := 149) rfl rfl
theorem qw_1617 : Cond.fieldLink "GraphlineModel$Run" 15 "GraphlineModel$Run" "stamp" "I" ∈ gq_ws := gq_t7 (i := 151) rfl rfl
theorem qw_1620 : Cond.lays "GraphlineModel$Run" "GraphlineModel$Run" "batch" "I" ∈ gq_ws := gq_t7 (i := 154) rfl rfl
theorem qw_1622 : Cond.lays "GraphlineModel$Run" "GraphlineModel$Run" "slats" "I" ∈ gq_ws := gq_t7 (i := 156) rfl rfl
theorem qw_1624 : Cond.lays "GraphlineModel$Run" "GraphlineModel$Run" "hand" "I" ∈ gq_ws := gq_t7 (i := 158) rfl rfl
theorem qw_1626 : Cond.lays "GraphlineModel$Run" "GraphlineModel$Run" "many" "I" ∈ gq_ws := gq_t7 (i := 160) rfl rfl
theorem qw_1628 : Cond.lays "GraphlineModel$Run" "GraphlineModel$Run" "broken" "I" ∈ gq_ws := gq_t7 (i := 162) rfl rfl
theorem qw_1630 : Cond.lays "GraphlineModel$Run" "GraphlineModel$Run" "off" "I" ∈ gq_ws := gq_t7 (i := 164) rfl rfl
theorem qw_1632 : Cond.lays "GraphlineModel$Run" "GraphlineModel$Run" "ready" "I" ∈ gq_ws := gq_t7 (i := 166) rfl rfl
theorem qw_1634 : Cond.lays "GraphlineModel$Run" "GraphlineModel$Run" "coats" "I" ∈ gq_ws := gq_t7 (i := 168) rfl rfl
theorem qw_1636 : Cond.lays "GraphlineModel$Run" "GraphlineModel$Run" "colour" "I" ∈ gq_ws := gq_t7 (i := 170) rfl rfl
theorem qw_1638 : Cond.lays "GraphlineModel$Run" "GraphlineModel$Run" "stamp" "I" ∈ gq_ws := gq_t7 (i := 172) rfl rfl
theorem qw_1640 : Cond.lays "GraphlineModel$Run" "GraphlineModel$Run" "erased" "Z" ∈ gq_ws := gq_t7 (i := 174) rfl rfl
theorem qw_1643 : Cond.methodLink "GraphlineLaw" 243 yX16_coat ∈ gq_ws := gq_t7 (i := 177) rfl rfl
theorem qw_1644 : Cond.instanceMethod yX16_coat ∈ gq_ws := gq_t7 (i := 178) rfl rfl
theorem qw_1645 : Cond.selects "GraphlineModel" yX16_coat yX16_coat ∈ gq_ws := gq_t7 (i := 179) rfl rfl
theorem qw_1646 : Cond.code yX16_coat cX16_coat 4 (some .int) ∈ gq_ws := gq_t7 (i := 180) rfl rfl
theorem qw_1647 : Cond.methodLink "GraphlineModel" 253 yX16_noRun ∈ gq_ws := gq_t7 (i := 181) rfl rfl
theorem qw_1649 : Cond.instanceMethod yX16_noRun ∈ gq_ws := gq_t7 (i := 183) rfl rfl
theorem qw_1650 : Cond.code yX16_noRun cX16_noRun 2 (some .boolean) ∈ gq_ws := gq_t7 (i := 184) rfl rfl
theorem qw_1651 : Cond.methodLink "GraphlineLaw" 246 yX16_stamp ∈ gq_ws := gq_t7 (i := 185) rfl rfl
theorem qw_1652 : Cond.instanceMethod yX16_stamp ∈ gq_ws := gq_t7 (i := 186) rfl rfl
theorem qw_1653 : Cond.selects "GraphlineModel" yX16_stamp yX16_stamp ∈ gq_ws := gq_t7 (i := 187) rfl rfl
theorem qw_1654 : Cond.code yX16_stamp cX16_stamp 3 (some .int) ∈ gq_ws := gq_t7 (i := 188) rfl rfl
theorem qw_1655 : Cond.methodLink "GraphlineLaw" 249 yX16_erase ∈ gq_ws := gq_t7 (i := 189) rfl rfl
theorem qw_1656 : Cond.instanceMethod yX16_erase ∈ gq_ws := gq_t7 (i := 190) rfl rfl
theorem qw_1657 : Cond.selects "GraphlineModel" yX16_erase yX16_erase ∈ gq_ws := gq_t7 (i := 191) rfl rfl
theorem qw_1658 : Cond.code yX16_erase cX16_erase 3 (some .int) ∈ gq_ws := gq_t7 (i := 192) rfl rfl
theorem qw_1659 : Cond.methodLink "GraphlineLaw" 252 yX16_run ∈ gq_ws := gq_t7 (i := 193) rfl rfl
theorem qw_1660 : Cond.instanceMethod yX16_run ∈ gq_ws := gq_t7 (i := 194) rfl rfl
theorem qw_1661 : Cond.selects "GraphlineModel" yX16_run yX16_run ∈ gq_ws := gq_t7 (i := 195) rfl rfl
theorem qw_1662 : Cond.code yX16_run cX16_run 4 (some .int) ∈ gq_ws := gq_t7 (i := 196) rfl rfl
theorem qw_1664 : Cond.methodLink "GraphlineLaw" 255 yX16_fall ∈ gq_ws := gq_t7 (i := 198) rfl rfl
theorem qw_1665 : Cond.instanceMethod yX16_fall ∈ gq_ws := gq_t7 (i := 199) rfl rfl
theorem qw_1666 : Cond.selects "GraphlineModel" yX16_fall yX16_fall ∈ gq_ws := gq_t7 (i := 200) rfl rfl
theorem qw_1667 : Cond.code yX16_fall cX16_fall 6 (some .int) ∈ gq_ws := gq_t7 (i := 201) rfl rfl
theorem qw_1668 : Cond.methodLink "GraphlineLaw" 258 yX16_sample ∈ gq_ws := gq_t7 (i := 202) rfl rfl
theorem qw_1669 : Cond.instanceMethod yX16_sample ∈ gq_ws := gq_t7 (i := 203) rfl rfl
theorem qw_1670 : Cond.selects "GraphlineModel" yX16_sample yX16_sample ∈ gq_ws := gq_t7 (i := 204) rfl rfl
theorem qw_1671 : Cond.code yX16_sample cX16_sample 6 (some .int) ∈ gq_ws := gq_t7 (i := 205) rfl rfl
theorem qw_1672 : Cond.constantLong "GraphlineModel" 273 (48271) ∈ gq_ws := gq_t7 (i := 206) rfl rfl
theorem qw_1673 : Cond.constantLong "GraphlineModel" 275 (2147483647) ∈ gq_ws := gq_t7 (i := 207) rfl rfl
theorem qw_1674 : Cond.methodLink "GraphlineLaw" 261 yX16_seed ∈ gq_ws := gq_t7 (i := 208) rfl rfl
theorem qw_1675 : Cond.instanceMethod yX16_seed ∈ gq_ws := gq_t7 (i := 209) rfl rfl
theorem qw_1676 : Cond.selects "GraphlineModel" yX16_seed yX16_seed ∈ gq_ws := gq_t7 (i := 210) rfl rfl
theorem qw_1677 : Cond.code yX16_seed cX16_seed 3 (some .int) ∈ gq_ws := gq_t7 (i := 211) rfl rfl
theorem qw_1678 : Cond.constantLong "GraphlineModel" 277 (2147483646) ∈ gq_ws := gq_t7 (i := 212) rfl rfl
theorem qw_1679 : Cond.methodLink "GraphlineLaw" 264 yX16_gross ∈ gq_ws := gq_t7 (i := 213) rfl rfl
theorem qw_1680 : Cond.instanceMethod yX16_gross ∈ gq_ws := gq_t7 (i := 214) rfl rfl
theorem qw_1681 : Cond.selects "GraphlineModel" yX16_gross yX16_gross ∈ gq_ws := gq_t7 (i := 215) rfl rfl
theorem qw_1682 : Cond.code yX16_gross cX16_gross 3 (some .int) ∈ gq_ws := gq_t7 (i := 216) rfl rfl
theorem qw_1683 : Cond.constantLong "GraphlineModel" 279 (19) ∈ gq_ws := gq_t7 (i := 217) rfl rfl
theorem qw_1684 : Cond.classLink "GraphlineModel" 281 "GraphlineModel$Gross" ∈ gq_ws := gq_t7 (i := 218) rfl rfl
theorem qw_1685 : Cond.instantiable "GraphlineModel$Gross" 3 ∈ gq_ws := gq_t7 (i := 219) rfl rfl
theorem qw_1687 : Cond.instanceMethod yX13_init ∈ gq_ws := gq_t7 (i := 221) rfl rfl
theorem qw_1688 : Cond.code yX13_init cX13_init 1 none ∈ gq_ws := gq_t7 (i := 222) rfl rfl
theorem qw_1689 : Cond.methodLink "GraphlineModel$Gross" 1 objectInit ∈ gq_ws := gq_t7 (i := 223) rfl rfl
theorem qw_1690 : Cond.classLink "GraphlineModel$Gross" 7 "java/util/ArrayList" ∈ gq_ws := gq_t7 (i := 224) rfl rfl
theorem qw_1691 : Cond.methodLink "GraphlineModel$Gross" 9 yJx4a65c_init_da8c8 ∈ gq_ws := gq_t7 (i := 225) rfl rfl
theorem qw_1693 : Cond.fieldLink "GraphlineModel$Gross" 10 "GraphlineModel$Gross" "parts" "Ljava/util/List;" ∈ gq_ws := gq_t7 (i := 227) rfl rfl
theorem qw_1696 : Cond.lays "GraphlineModel$Gross" "GraphlineModel$Gross" "grade" "I" ∈ gq_ws := gq_t7 (i := 230) rfl rfl
theorem qw_1698 : Cond.laysFinal "GraphlineModel$Gross" "GraphlineModel$Gross" "parts" "Ljava/util/List;" ∈ gq_ws := gq_t7 (i := 232) rfl rfl
theorem qw_1700 : Cond.lays "GraphlineModel$Gross" "GraphlineModel$Gross" "shipped" "Z" ∈ gq_ws := gq_t7 (i := 234) rfl rfl
theorem qw_1703 : Cond.methodLink "GraphlineLaw" 267 yX16_pack ∈ gq_ws := gq_t7 (i := 237) rfl rfl
theorem qw_1704 : Cond.instanceMethod yX16_pack ∈ gq_ws := gq_t7 (i := 238) rfl rfl
theorem qw_1705 : Cond.selects "GraphlineModel" yX16_pack yX16_pack ∈ gq_ws := gq_t7 (i := 239) rfl rfl
theorem qw_1706 : Cond.code yX16_pack cX16_pack 7 (some .int) ∈ gq_ws := gq_t8 (i := 0) rfl rfl
theorem qw_1707 : Cond.constantLong "GraphlineModel" 287 (144) ∈ gq_ws := gq_t8 (i := 1) rfl rfl
theorem qw_1708 : Cond.methodLink "GraphlineModel" 289 yX13_many ∈ gq_ws := gq_t8 (i := 2) rfl rfl
theorem qw_1709 : Cond.instanceMethod yX13_many ∈ gq_ws := gq_t8 (i := 3) rfl rfl
theorem qw_1710 : Cond.selects "GraphlineModel$Gross" yX13_many yX13_many ∈ gq_ws := gq_t8 (i := 4) rfl rfl
theorem qw_1711 : Cond.code yX13_many cX13_many 4 (some .int) ∈ gq_ws := gq_t8 (i := 5) rfl rfl
theorem qw_1713 : Cond.methodLink "GraphlineModel$Gross" 16 ⟨"java/util/List", "iterator", "()Ljava/util/Iterator;"⟩ ∈ gq_ws := gq_t8 (i := 7) rfl rfl
theorem qw_1716 : Cond.selects "java/util/ArrayList" ⟨"java/util/List", "iterator", "()Ljava/util/Iterator;"⟩ yJx4a65c_iterator_32c93 ∈ gq_ws := gq_t8 (i := 10) rfl rfl
theorem qw_1718 : Cond.instanceMethod yJx4a65c_iterator_32c93 ∈ gq_ws := gq_t8 (i := 12) rfl rfl
theorem qw_1720 : Cond.code yJx4a65c_iterator_32c93 cJx4a65c_iterator_32c93 1 (some (.object "java/util/Iterator")) ∈ gq_ws := gq_t8 (i := 14) rfl rfl
theorem qw_1721 : Cond.classLink "java/util/ArrayList" 267 "java/util/ArrayList$Itr" ∈ gq_ws := gq_t8 (i := 15) rfl rfl
theorem qw_1722 : Cond.instantiable "java/util/ArrayList$Itr" 4 ∈ gq_ws := gq_t8 (i := 16) rfl rfl
theorem qw_1723 : Cond.methodLink "java/util/ArrayList" 269 yJx35411_init_45d68 ∈ gq_ws := gq_t8 (i := 17) rfl rfl
theorem qw_1724 : Cond.instanceMethod yJx35411_init_45d68 ∈ gq_ws := gq_t8 (i := 18) rfl rfl
theorem qw_1725 : Cond.code yJx35411_init_45d68 cJx35411_init_45d68 2 none ∈ gq_ws := gq_t8 (i := 19) rfl rfl
theorem qw_1726 : Cond.methodLink "java/util/ArrayList$Itr" 7 objectInit ∈ gq_ws := gq_t8 (i := 20) rfl rfl
theorem qw_1727 : Cond.fieldLink "java/util/ArrayList$Itr" 25 "java/util/ArrayList$Itr" "cursor" "I" ∈ gq_ws := gq_t8 (i := 21) rfl rfl
theorem qw_1728 : Cond.fieldLink "java/util/ArrayList$Itr" 13 "java/util/ArrayList$Itr" "lastRet" "I" ∈ gq_ws := gq_t8 (i := 22) rfl rfl
theorem qw_1729 : Cond.fieldLink "java/util/ArrayList$Itr" 22 "java/util/ArrayList$Itr" "expectedModCount" "I" ∈ gq_ws := gq_t8 (i := 23) rfl rfl
theorem qw_1730 : Cond.fieldLink "java/util/ArrayList$Itr" 1 "java/util/ArrayList$Itr" "this$0" "Ljava/util/ArrayList;" ∈ gq_ws := gq_t8 (i := 24) rfl rfl
theorem qw_1731 : Cond.lays "java/util/ArrayList$Itr" "java/util/ArrayList$Itr" "cursor" "I" ∈ gq_ws := gq_t8 (i := 25) rfl rfl
theorem qw_1733 : Cond.lays "java/util/ArrayList$Itr" "java/util/ArrayList$Itr" "lastRet" "I" ∈ gq_ws := gq_t8 (i := 27) rfl rfl
theorem qw_1735 : Cond.lays "java/util/ArrayList$Itr" "java/util/ArrayList$Itr" "expectedModCount" "I" ∈ gq_ws := gq_t8 (i := 29) rfl rfl
theorem qw_1737 : Cond.laysFinal "java/util/ArrayList$Itr" "java/util/ArrayList$Itr" "this$0" "Ljava/util/ArrayList;" ∈ gq_ws := gq_t8 (i := 31) rfl rfl
theorem qw_1741 : Cond.methodLink "GraphlineModel$Gross" 22 ⟨"java/util/Iterator", "hasNext", "()Z"⟩ ∈ gq_ws := gq_t8 (i := 35) rfl rfl
theorem qw_1745 : Cond.selects "java/util/ArrayList$Itr" ⟨"java/util/Iterator", "hasNext", "()Z"⟩ yJx35411_hasNext_aae02 ∈ gq_ws := gq_t8 (i := 39) rfl rfl
theorem qw_1747 : Cond.instanceMethod yJx35411_hasNext_aae02 ∈ gq_ws := gq_t8 (i := 41) rfl rfl
theorem qw_1749 : Cond.code yJx35411_hasNext_aae02 cJx35411_hasNext_aae02 1 (some .boolean) ∈ gq_ws := gq_t8 (i := 43) rfl rfl
theorem qw_1751 : Cond.methodLink "GraphlineModel$Gross" 28 ⟨"java/util/Iterator", "next", "()Ljava/lang/Object;"⟩ ∈ gq_ws := gq_t8 (i := 45) rfl rfl
theorem qw_1754 : Cond.selects "java/util/ArrayList$Itr" ⟨"java/util/Iterator", "next", "()Ljava/lang/Object;"⟩ yJx35411_next_0502b ∈ gq_ws := gq_t8 (i := 48) rfl rfl
theorem qw_1756 : Cond.instanceMethod yJx35411_next_0502b ∈ gq_ws := gq_t8 (i := 50) rfl rfl
theorem qw_1758 : Cond.code yJx35411_next_0502b cJx35411_next_0502b 3 (some (.object "java/lang/Object")) ∈ gq_ws := gq_t8 (i := 52) rfl rfl
theorem qw_1759 : Cond.methodLink "java/util/ArrayList$Itr" 31 yJx35411_checkForComodification_da8c8 ∈ gq_ws := gq_t8 (i := 53) rfl rfl
theorem qw_1760 : Cond.instanceMethod yJx35411_checkForComodification_da8c8 ∈ gq_ws := gq_t8 (i := 54) rfl rfl
theorem qw_1761 : Cond.selects "java/util/ArrayList$Itr" yJx35411_checkForComodification_da8c8 yJx35411_checkForComodification_da8c8 ∈ gq_ws := gq_t8 (i := 55) rfl rfl
theorem qw_1762 : Cond.code yJx35411_checkForComodification_da8c8 cJx35411_checkForComodification_da8c8 1 none ∈ gq_ws := gq_t8 (i := 56) rfl rfl
theorem qw_1763 : Cond.classLink "GraphlineModel$Gross" 32 "[I" ∈ gq_ws := gq_t8 (i := 57) rfl rfl
theorem qw_1764 : Cond.methodLink "GraphlineLaw" 270 yX16_order ∈ gq_ws := gq_t8 (i := 58) rfl rfl
theorem qw_1765 : Cond.instanceMethod yX16_order ∈ gq_ws := gq_t8 (i := 59) rfl rfl
theorem qw_1766 : Cond.selects "GraphlineModel" yX16_order yX16_order ∈ gq_ws := gq_t8 (i := 60) rfl rfl
theorem qw_1767 : Cond.code yX16_order cX16_order 4 (some .int) ∈ gq_ws := gq_t8 (i := 61) rfl rfl
theorem qw_1768 : Cond.constantLong "GraphlineModel" 297 (9999) ∈ gq_ws := gq_t8 (i := 62) rfl rfl
theorem qw_1769 : Cond.methodLink "GraphlineLaw" 273 yX16_ship ∈ gq_ws := gq_t8 (i := 63) rfl rfl
theorem qw_1770 : Cond.instanceMethod yX16_ship ∈ gq_ws := gq_t8 (i := 64) rfl rfl
theorem qw_1771 : Cond.selects "GraphlineModel" yX16_ship yX16_ship ∈ gq_ws := gq_t8 (i := 65) rfl rfl
theorem qw_1772 : Cond.code yX16_ship cX16_ship 5 (some .int) ∈ gq_ws := gq_t8 (i := 66) rfl rfl
theorem qw_1773 : Cond.methodLink "GraphlineLaw" 276 yX16_isLate ∈ gq_ws := gq_t8 (i := 67) rfl rfl
theorem qw_1774 : Cond.instanceMethod yX16_isLate ∈ gq_ws := gq_t8 (i := 68) rfl rfl
theorem qw_1775 : Cond.selects "GraphlineModel" yX16_isLate yX16_isLate ∈ gq_ws := gq_t8 (i := 69) rfl rfl
theorem qw_1776 : Cond.code yX16_isLate cX16_isLate 2 (some .boolean) ∈ gq_ws := gq_t8 (i := 70) rfl rfl
theorem qw_1777 : Cond.methodLink "GraphlineLaw" 279 yX16_claim ∈ gq_ws := gq_t8 (i := 71) rfl rfl
theorem qw_1778 : Cond.instanceMethod yX16_claim ∈ gq_ws := gq_t8 (i := 72) rfl rfl
theorem qw_1779 : Cond.selects "GraphlineModel" yX16_claim yX16_claim ∈ gq_ws := gq_t8 (i := 73) rfl rfl
theorem qw_1780 : Cond.code yX16_claim cX16_claim 6 (some .boolean) ∈ gq_ws := gq_t8 (i := 74) rfl rfl
theorem qw_1781 : Cond.methodLink "GraphlineModel" 299 yX16_noGross ∈ gq_ws := gq_t8 (i := 75) rfl rfl
theorem qw_1783 : Cond.instanceMethod yX16_noGross ∈ gq_ws := gq_t8 (i := 77) rfl rfl
theorem qw_1784 : Cond.code yX16_noGross cX16_noGross 2 (some .boolean) ∈ gq_ws := gq_t8 (i := 78) rfl rfl
theorem qw_1786 : Cond.methodLink "GraphlineModel" 302 ⟨"java/util/List", "iterator", "()Ljava/util/Iterator;"⟩ ∈ gq_ws := gq_t8 (i := 80) rfl rfl
theorem qw_1788 : Cond.methodLink "GraphlineModel" 306 ⟨"java/util/Iterator", "hasNext", "()Z"⟩ ∈ gq_ws := gq_t8 (i := 82) rfl rfl
theorem qw_1790 : Cond.methodLink "GraphlineModel" 312 ⟨"java/util/Iterator", "next", "()Ljava/lang/Object;"⟩ ∈ gq_ws := gq_t8 (i := 84) rfl rfl
theorem qw_1791 : Cond.methodLink "GraphlineLaw" 282 yX16_parts ∈ gq_ws := gq_t8 (i := 85) rfl rfl
theorem qw_1792 : Cond.instanceMethod yX16_parts ∈ gq_ws := gq_t8 (i := 86) rfl rfl
theorem qw_1793 : Cond.selects "GraphlineModel" yX16_parts yX16_parts ∈ gq_ws := gq_t8 (i := 87) rfl rfl
theorem qw_1794 : Cond.code yX16_parts cX16_parts 2 (some .int) ∈ gq_ws := gq_t8 (i := 88) rfl rfl
theorem qw_1795 : Cond.methodLink "GraphlineLaw" 286 yX16_trace ∈ gq_ws := gq_t8 (i := 89) rfl rfl
theorem qw_1796 : Cond.instanceMethod yX16_trace ∈ gq_ws := gq_t8 (i := 90) rfl rfl
theorem qw_1797 : Cond.selects "GraphlineModel" yX16_trace yX16_trace ∈ gq_ws := gq_t8 (i := 91) rfl rfl
theorem qw_1798 : Cond.code yX16_trace cX16_trace 8 (some .int) ∈ gq_ws := gq_t8 (i := 92) rfl rfl
theorem qw_1800 : Cond.methodLink "GraphlineLaw" 290 yX16_missing ∈ gq_ws := gq_t8 (i := 94) rfl rfl
theorem qw_1801 : Cond.instanceMethod yX16_missing ∈ gq_ws := gq_t8 (i := 95) rfl rfl
theorem qw_1802 : Cond.selects "GraphlineModel" yX16_missing yX16_missing ∈ gq_ws := gq_t8 (i := 96) rfl rfl
theorem qw_1803 : Cond.code yX16_missing cX16_missing 1 (some .int) ∈ gq_ws := gq_t8 (i := 97) rfl rfl
theorem qw_1804 : Cond.methodLink "GraphlineLaw" 295 yX16_checksum ∈ gq_ws := gq_t8 (i := 98) rfl rfl
theorem qw_1805 : Cond.instanceMethod yX16_checksum ∈ gq_ws := gq_t8 (i := 99) rfl rfl
theorem qw_1806 : Cond.selects "GraphlineModel" yX16_checksum yX16_checksum ∈ gq_ws := gq_t8 (i := 100) rfl rfl
theorem qw_1807 : Cond.code yX16_checksum cX16_checksum 5 (some .long) ∈ gq_ws := gq_t8 (i := 101) rfl rfl
theorem qw_1808 : Cond.constantLong "GraphlineModel" 318 (7) ∈ gq_ws := gq_t8 (i := 102) rfl rfl
theorem qw_1809 : Cond.constantLong "GraphlineModel" 320 (31) ∈ gq_ws := gq_t8 (i := 103) rfl rfl
theorem qw_1810 : Cond.methodLink "GraphlineLaw" 299 yX16_brokenShare ∈ gq_ws := gq_t8 (i := 104) rfl rfl
theorem qw_1811 : Cond.instanceMethod yX16_brokenShare ∈ gq_ws := gq_t8 (i := 105) rfl rfl
theorem qw_1812 : Cond.selects "GraphlineModel" yX16_brokenShare yX16_brokenShare ∈ gq_ws := gq_t8 (i := 106) rfl rfl
theorem qw_1813 : Cond.code yX16_brokenShare cX16_brokenShare 5 (some .float) ∈ gq_ws := gq_t8 (i := 107) rfl rfl
theorem qw_1814 : Cond.methodLink "GraphlineLaw" 302 yX16_meanDarkness ∈ gq_ws := gq_t8 (i := 108) rfl rfl
theorem qw_1815 : Cond.instanceMethod yX16_meanDarkness ∈ gq_ws := gq_t8 (i := 109) rfl rfl
theorem qw_1816 : Cond.selects "GraphlineModel" yX16_meanDarkness yX16_meanDarkness ∈ gq_ws := gq_t8 (i := 110) rfl rfl
theorem qw_1817 : Cond.code yX16_meanDarkness cX16_meanDarkness 5 (some .double) ∈ gq_ws := gq_t8 (i := 111) rfl rfl
theorem qw_1818 : Cond.methodLink "GraphlineLaw" 307 yX16_isSound ∈ gq_ws := gq_t8 (i := 112) rfl rfl
theorem qw_1819 : Cond.instanceMethod yX16_isSound ∈ gq_ws := gq_t8 (i := 113) rfl rfl
theorem qw_1820 : Cond.selects "GraphlineModel" yX16_isSound yX16_isSound ∈ gq_ws := gq_t8 (i := 114) rfl rfl
theorem qw_1821 : Cond.code yX16_isSound cX16_isSound 1 (some .boolean) ∈ gq_ws := gq_t8 (i := 115) rfl rfl
theorem qw_1822 : Cond.arrayClass .long ∈ gq_ws := gq_t8 (i := 116) rfl rfl
theorem qw_1823 : Cond.arrayClass .double ∈ gq_ws := gq_t8 (i := 117) rfl rfl
theorem qw_1854 : Cond.selects "[Ljava/lang/Object;" ⟨"java/lang/Object", "getClass", "()Ljava/lang/Class;"⟩ ⟨"java/lang/Object", "getClass", "()Ljava/lang/Class;"⟩ ∈ gq_ws := gq_t8 (i := 148) rfl rfl
theorem qw_1862 : Cond.fieldLink "java/lang/String" 15 "java/lang/String" "coder" "B" ∈ gq_ws := gq_t8 (i := 156) rfl rfl
theorem qw_1863 : Cond.fieldLink "java/lang/String" 9 "java/lang/String" "value" "[B" ∈ gq_ws := gq_t8 (i := 157) rfl rfl
theorem usJx35411 : ∀ w ∈ u_ws RJx35411 TJx35411 4, w ∈ gq_ws := gq_us (fun k hk => by
  rcases (show k = 0 ∨ k = 1 ∨ k = 2 ∨ k = 3 by omega) with rfl | rfl | rfl | rfl
  · exact qw_1731
  · exact qw_1733
  · exact qw_1735
  · exact qw_1737)
theorem usJx4a65c : ∀ w ∈ u_ws RJx4a65c TJx4a65c 3, w ∈ gq_ws := gq_us (fun k hk => by
  rcases (show k = 0 ∨ k = 1 ∨ k = 2 by omega) with rfl | rfl | rfl
  · exact qw_162
  · exact qw_158
  · exact qw_160)
theorem usX0 : ∀ w ∈ u_ws RX0 TX0 12, w ∈ gq_ws := gq_us (fun k hk => by
  rcases (show k = 0 ∨ k = 1 ∨ k = 2 ∨ k = 3 ∨ k = 4 ∨ k = 5 ∨ k = 6 ∨ k = 7 ∨ k = 8 ∨ k = 9 ∨ k = 10 ∨ k = 11 by omega) with rfl | rfl | rfl | rfl | rfl | rfl | rfl | rfl | rfl | rfl | rfl | rfl
  · exact qw_685
  · exact qw_687
  · exact qw_689
  · exact qw_691
  · exact qw_693
  · exact qw_695
  · exact qw_697
  · exact qw_699
  · exact qw_701
  · exact qw_703
  · exact qw_705
  · exact qw_707)
theorem usX1 : ∀ w ∈ u_ws RX1 TX1 5, w ∈ gq_ws := gq_us (fun k hk => by
  rcases (show k = 0 ∨ k = 1 ∨ k = 2 ∨ k = 3 ∨ k = 4 by omega) with rfl | rfl | rfl | rfl | rfl
  · exact qw_112
  · exact qw_114
  · exact qw_116
  · exact qw_118
  · exact qw_120)
theorem usX10 : ∀ w ∈ u_ws RX10 TX10 2, w ∈ gq_ws := gq_us (fun k hk => by
  rcases (show k = 0 ∨ k = 1 by omega) with rfl | rfl
  · exact qw_131
  · exact qw_133)
theorem usX11 : ∀ w ∈ u_ws RX11 TX11 16, w ∈ gq_ws := gq_us (fun k hk => by
  rcases (show k = 0 ∨ k = 1 ∨ k = 2 ∨ k = 3 ∨ k = 4 ∨ k = 5 ∨ k = 6 ∨ k = 7 ∨ k = 8 ∨ k = 9 ∨ k = 10 ∨ k = 11 ∨ k = 12 ∨ k = 13 ∨ k = 14 ∨ k = 15 by omega) with rfl | rfl | rfl | rfl | rfl | rfl | rfl | rfl | rfl | rfl | rfl | rfl | rfl | rfl | rfl | rfl
  · exact qw_181
  · exact qw_183
  · exact qw_185
  · exact qw_187
  · exact qw_189
  · exact qw_191
  · exact qw_193
  · exact qw_195
  · exact qw_197
  · exact qw_199
  · exact qw_201
  · exact qw_203
  · exact qw_205
  · exact qw_207
  · exact qw_209
  · exact qw_211)
theorem usX12 : ∀ w ∈ u_ws RX12 TX12 11, w ∈ gq_ws := gq_us (fun k hk => by
  rcases (show k = 0 ∨ k = 1 ∨ k = 2 ∨ k = 3 ∨ k = 4 ∨ k = 5 ∨ k = 6 ∨ k = 7 ∨ k = 8 ∨ k = 9 ∨ k = 10 by omega) with rfl | rfl | rfl | rfl | rfl | rfl | rfl | rfl | rfl | rfl | rfl
  · exact qw_1470
  · exact qw_1472
  · exact qw_1474
  · exact qw_1476
  · exact qw_1478
  · exact qw_1480
  · exact qw_1482
  · exact qw_1484
  · exact qw_1486
  · exact qw_1488
  · exact qw_1490)
theorem usX13 : ∀ w ∈ u_ws RX13 TX13 3, w ∈ gq_ws := gq_us (fun k hk => by
  rcases (show k = 0 ∨ k = 1 ∨ k = 2 by omega) with rfl | rfl | rfl
  · exact qw_1696
  · exact qw_1698
  · exact qw_1700)
theorem usX14 : ∀ w ∈ u_ws RX14 TX14 11, w ∈ gq_ws := gq_us (fun k hk => by
  rcases (show k = 0 ∨ k = 1 ∨ k = 2 ∨ k = 3 ∨ k = 4 ∨ k = 5 ∨ k = 6 ∨ k = 7 ∨ k = 8 ∨ k = 9 ∨ k = 10 by omega) with rfl | rfl | rfl | rfl | rfl | rfl | rfl | rfl | rfl | rfl | rfl
  · exact qw_1620
  · exact qw_1622
  · exact qw_1624
  · exact qw_1626
  · exact qw_1628
  · exact qw_1630
  · exact qw_1632
  · exact qw_1634
  · exact qw_1636
  · exact qw_1638
  · exact qw_1640)
theorem usX15 : ∀ w ∈ u_ws RX15 TX15 6, w ∈ gq_ws := gq_us (fun k hk => by
  rcases (show k = 0 ∨ k = 1 ∨ k = 2 ∨ k = 3 ∨ k = 4 ∨ k = 5 by omega) with rfl | rfl | rfl | rfl | rfl | rfl
  · exact qw_1563
  · exact qw_1565
  · exact qw_1567
  · exact qw_1569
  · exact qw_1571
  · exact qw_1573)
theorem usX16 : ∀ w ∈ u_ws RX16 TX16 18, w ∈ gq_ws := gq_us (fun k hk => by
  rcases (show k = 0 ∨ k = 1 ∨ k = 2 ∨ k = 3 ∨ k = 4 ∨ k = 5 ∨ k = 6 ∨ k = 7 ∨ k = 8 ∨ k = 9 ∨ k = 10 ∨ k = 11 ∨ k = 12 ∨ k = 13 ∨ k = 14 ∨ k = 15 ∨ k = 16 ∨ k = 17 by omega) with rfl | rfl | rfl | rfl | rfl | rfl | rfl | rfl | rfl | rfl | rfl | rfl | rfl | rfl | rfl | rfl | rfl | rfl
  · exact qw_1220
  · exact qw_1222
  · exact qw_1224
  · exact qw_1226
  · exact qw_1228
  · exact qw_1230
  · exact qw_1232
  · exact qw_1234
  · exact qw_1236
  · exact qw_1238
  · exact qw_1240
  · exact qw_1242
  · exact qw_1244
  · exact qw_1246
  · exact qw_1248
  · exact qw_1250
  · exact qw_1252
  · exact qw_1254)
theorem usX2 : ∀ w ∈ u_ws RX2 TX2 4, w ∈ gq_ws := gq_us (fun k hk => by
  rcases (show k = 0 ∨ k = 1 ∨ k = 2 ∨ k = 3 by omega) with rfl | rfl | rfl | rfl
  · exact qw_1036
  · exact qw_1038
  · exact qw_1040
  · exact qw_1042)
theorem usX3 : ∀ w ∈ u_ws RX3 TX3 4, w ∈ gq_ws := gq_us (fun k hk => by
  rcases (show k = 0 ∨ k = 1 ∨ k = 2 ∨ k = 3 by omega) with rfl | rfl | rfl | rfl
  · exact qw_458
  · exact qw_460
  · exact qw_462
  · exact qw_464)
theorem usX4 : ∀ w ∈ u_ws RX4 TX4 3, w ∈ gq_ws := gq_us (fun k hk => by
  rcases (show k = 0 ∨ k = 1 ∨ k = 2 by omega) with rfl | rfl | rfl
  · exact qw_95
  · exact qw_97
  · exact qw_99)
theorem usX5 : ∀ w ∈ u_ws RX5 TX5 5, w ∈ gq_ws := gq_us (fun k hk => by
  rcases (show k = 0 ∨ k = 1 ∨ k = 2 ∨ k = 3 ∨ k = 4 by omega) with rfl | rfl | rfl | rfl | rfl
  · exact qw_620
  · exact qw_622
  · exact qw_624
  · exact qw_626
  · exact qw_628)
theorem usX6 : ∀ w ∈ u_ws RX6 TX6 4, w ∈ gq_ws := gq_us (fun k hk => by
  rcases (show k = 0 ∨ k = 1 ∨ k = 2 ∨ k = 3 by omega) with rfl | rfl | rfl | rfl
  · exact qw_1102
  · exact qw_1104
  · exact qw_1106
  · exact qw_1108)
theorem usX7 : ∀ w ∈ u_ws RX7 TX7 3, w ∈ gq_ws := gq_us (fun k hk => by
  rcases (show k = 0 ∨ k = 1 ∨ k = 2 by omega) with rfl | rfl | rfl
  · exact qw_1071
  · exact qw_1073
  · exact qw_1075)
theorem usX8 : ∀ w ∈ u_ws RX8 TX8 12, w ∈ gq_ws := gq_us (fun k hk => by
  rcases (show k = 0 ∨ k = 1 ∨ k = 2 ∨ k = 3 ∨ k = 4 ∨ k = 5 ∨ k = 6 ∨ k = 7 ∨ k = 8 ∨ k = 9 ∨ k = 10 ∨ k = 11 by omega) with rfl | rfl | rfl | rfl | rfl | rfl | rfl | rfl | rfl | rfl | rfl | rfl
  · exact qw_911
  · exact qw_913
  · exact qw_915
  · exact qw_917
  · exact qw_919
  · exact qw_921
  · exact qw_923
  · exact qw_925
  · exact qw_927
  · exact qw_929
  · exact qw_931
  · exact qw_933)
theorem usX9 : ∀ w ∈ u_ws RX9 TX9 7, w ∈ gq_ws := gq_us (fun k hk => by
  rcases (show k = 0 ∨ k = 1 ∨ k = 2 ∨ k = 3 ∨ k = 4 ∨ k = 5 ∨ k = 6 by omega) with rfl | rfl | rfl | rfl | rfl | rfl | rfl
  · exact qw_813
  · exact qw_815
  · exact qw_817
  · exact qw_819
  · exact qw_821
  · exact qw_823
  · exact qw_825)
abbrev mX0_init : gq_M := (yX0_init, cX0_init, 5, none, { frames := 1, cells := 0, slots := 0, locals := 24 }, [])
abbrev mX0_isFired : gq_M := (yX0_isFired, cX0_isFired, 1, (some .boolean), { frames := 0, cells := 0, slots := 0, locals := 0 }, [])
abbrev mX4_init : gq_M := (yX4_init, cX4_init, 2, none, { frames := 1, cells := 0, slots := 0, locals := 24 }, [])
abbrev mX1_init : gq_M := (yX1_init, cX1_init, 1, none, { frames := 2, cells := 4, slots := 12, locals := 45 }, [])
abbrev mX1_moves : gq_M := (yX1_moves, cX1_moves, 4, (some .boolean), { frames := 0, cells := 0, slots := 0, locals := 0 }, [])
abbrev mX1_hangsOn : gq_M := (yX1_hangsOn, cX1_hangsOn, 5, (some .boolean), { frames := 0, cells := 0, slots := 0, locals := 0 }, [])
abbrev mX1_hangsOnShaft : gq_M := (yX1_hangsOnShaft, cX1_hangsOnShaft, 3, (some .boolean), { frames := 0, cells := 0, slots := 0, locals := 0 }, [])
abbrev mX1_hasNoRing : gq_M := (yX1_hasNoRing, cX1_hasNoRing, 1, (some .boolean), { frames := 1, cells := 0, slots := 0, locals := 22 }, [])
abbrev mJxa1e45_init_da8c8 : gq_M := (yJxa1e45_init_da8c8, cJxa1e45_init_da8c8, 1, none, { frames := 1, cells := 0, slots := 0, locals := 24 }, [])
abbrev mJxc12de_init_da8c8 : gq_M := (yJxc12de_init_da8c8, cJxc12de_init_da8c8, 1, none, { frames := 2, cells := 0, slots := 0, locals := 44 }, [])
abbrev mJx4a65c_init_da8c8 : gq_M := (yJx4a65c_init_da8c8, cJx4a65c_init_da8c8, 1, none, { frames := 3, cells := 0, slots := 0, locals := 64 }, [])
abbrev mX2_init : gq_M := (yX2_init, cX2_init, 2, none, { frames := 4, cells := 1, slots := 3, locals := 84 }, [])
abbrev mX3_init : gq_M := (yX3_init, cX3_init, 5, none, { frames := 1, cells := 0, slots := 0, locals := 24 }, [])
abbrev mX5_init : gq_M := (yX5_init, cX5_init, 6, none, { frames := 1, cells := 0, slots := 0, locals := 24 }, [])
abbrev mX6_init : gq_M := (yX6_init, cX6_init, 4, none, { frames := 1, cells := 0, slots := 0, locals := 24 }, [])
abbrev mX7_init : gq_M := (yX7_init, cX7_init, 4, none, { frames := 1, cells := 0, slots := 0, locals := 24 }, [])
abbrev mX8_init : gq_M := (yX8_init, cX8_init, 8, none, { frames := 1, cells := 0, slots := 0, locals := 24 }, [])
abbrev mX8_isStamped : gq_M := (yX8_isStamped, cX8_isStamped, 1, (some .boolean), { frames := 0, cells := 0, slots := 0, locals := 0 }, [])
abbrev mX9_init : gq_M := (yX9_init, cX9_init, 6, none, { frames := 1, cells := 0, slots := 0, locals := 24 }, [])
abbrev mX9_isGrooved : gq_M := (yX9_isGrooved, cX9_isGrooved, 1, (some .boolean), { frames := 0, cells := 0, slots := 0, locals := 0 }, [])
abbrev mX10_init : gq_M := (yX10_init, cX10_init, 1, none, { frames := 1, cells := 0, slots := 0, locals := 24 }, [])
abbrev mX11_clamped : gq_M := (yX11_clamped, cX11_clamped, 3, (some .int), { frames := 1, cells := 0, slots := 0, locals := 29 }, [])
abbrev mX10_tell : gq_M := (yX10_tell, cX10_tell, 3, (some .int), { frames := 2, cells := 0, slots := 0, locals := 51 }, [])
abbrev mX10_takeBias : gq_M := (yX10_takeBias, cX10_takeBias, 2, (some .int), { frames := 0, cells := 0, slots := 0, locals := 0 }, [])
abbrev mX11_init : gq_M := (yX11_init, cX11_init, 1, none, { frames := 4, cells := 15, slots := 72, locals := 84 }, [])
abbrev mX11_isOutside : gq_M := (yX11_isOutside, cX11_isOutside, 3, (some .boolean), { frames := 0, cells := 0, slots := 0, locals := 0 }, [])
abbrev mX11_go : gq_M := (yX11_go, cX11_go, 2, (some .int), { frames := 6, cells := 1, slots := 6, locals := 92 }, [])
abbrev mX11_shaft : gq_M := (yX11_shaft, cX11_shaft, 3, (some .boolean), { frames := 0, cells := 0, slots := 0, locals := 0 }, [])
abbrev mX11_machineNamed : gq_M := (yX11_machineNamed, cX11_machineNamed, 2, (some (.object "Graphline$Machine")), { frames := 6, cells := 1, slots := 6, locals := 92 }, [])
abbrev mX11_belt : gq_M := (yX11_belt, cX11_belt, 6, (some .char), { frames := 7, cells := 3, slots := 18, locals := 113 }, [])
abbrev mX11_on : gq_M := (yX11_on, cX11_on, 5, (some .boolean), { frames := 7, cells := 1, slots := 6, locals := 113 }, [])
abbrev mX11_runs : gq_M := (yX11_runs, cX11_runs, 2, (some .boolean), { frames := 7, cells := 1, slots := 6, locals := 113 }, [])
abbrev mJx4a65c_size_8abf5 : gq_M := (yJx4a65c_size_8abf5, cJx4a65c_size_8abf5, 1, (some .int), { frames := 0, cells := 0, slots := 0, locals := 0 }, [])
abbrev mJ8_hugeLength_7cf53 : gq_M := (yJ8_hugeLength_7cf53, cJ8_hugeLength_7cf53, 3, (some .int), { frames := 0, cells := 0, slots := 0, locals := 0 }, [])
abbrev mJ8_newLength_cabcc : gq_M := (yJ8_newLength_cabcc, cJ8_newLength_cabcc, 4, (some .int), { frames := 1, cells := 0, slots := 0, locals := 29 }, [])
abbrev mJ7_copyOf_6403c : gq_M := (yJ7_copyOf_6403c, cJ7_copyOf_6403c, 4, (some (.array (.object "java/lang/Object"))), { frames := 1, cells := 1, slots := 256, locals := 40 }, [])
abbrev mJ7_copyOf_1904c : gq_M := (yJ7_copyOf_1904c, cJ7_copyOf_1904c, 2, (some (.array (.object "java/lang/Object"))), { frames := 2, cells := 1, slots := 256, locals := 63 }, [])
abbrev mJx4a65c_grow_92f84 : gq_M := (yJx4a65c_grow_92f84, cJx4a65c_grow_92f84, 4, (some (.array (.object "java/lang/Object"))), { frames := 3, cells := 1, slots := 256, locals := 84 }, [])
abbrev mJx4a65c_grow_d5877 : gq_M := (yJx4a65c_grow_d5877, cJx4a65c_grow_d5877, 1, (some (.array (.object "java/lang/Object"))), { frames := 4, cells := 1, slots := 256, locals := 107 }, [])
abbrev mJx4a65c_add_72be8 : gq_M := (yJx4a65c_add_72be8, cJx4a65c_add_72be8, 4, none, { frames := 5, cells := 1, slots := 256, locals := 127 }, [])
abbrev mJx4a65c_add_9ea2d : gq_M := (yJx4a65c_add_9ea2d, cJx4a65c_add_9ea2d, 2, (some .boolean), { frames := 6, cells := 1, slots := 256, locals := 150 }, [])
abbrev mX11_lot : gq_M := (yX11_lot, cX11_lot, 5, (some .int), { frames := 7, cells := 3, slots := 266, locals := 171 }, [])
abbrev mJ3_checkIndex_8e157 : gq_M := (yJ3_checkIndex_8e157, cJ3_checkIndex_8e157, 3, (some .int), { frames := 0, cells := 0, slots := 0, locals := 0 }, [])
abbrev mJ15_checkIndex_7cf53 : gq_M := (yJ15_checkIndex_7cf53, cJ15_checkIndex_7cf53, 2, (some .int), { frames := 1, cells := 0, slots := 0, locals := 22 }, [])
abbrev mJx4a65c_elementData_915e3 : gq_M := (yJx4a65c_elementData_915e3, cJx4a65c_elementData_915e3, 2, (some (.object "java/lang/Object")), { frames := 0, cells := 0, slots := 0, locals := 0 }, [])
abbrev mJx4a65c_get_915e3 : gq_M := (yJx4a65c_get_915e3, cJx4a65c_get_915e3, 2, (some (.object "java/lang/Object")), { frames := 2, cells := 0, slots := 0, locals := 43 }, [])
abbrev mX11_lotNumbered : gq_M := (yX11_lotNumbered, cX11_lotNumbered, 2, (some (.object "Graphline$Lot")), { frames := 6, cells := 1, slots := 6, locals := 92 }, [])
abbrev mX11_kilos : gq_M := (yX11_kilos, cX11_kilos, 2, (some .int), { frames := 7, cells := 1, slots := 6, locals := 113 }, [])
abbrev mX11_mix : gq_M := (yX11_mix, cX11_mix, 10, (some .int), { frames := 7, cells := 5, slots := 279, locals := 171 }, [])
abbrev mX11_mixtureNumbered : gq_M := (yX11_mixtureNumbered, cX11_mixtureNumbered, 2, (some (.object "Graphline$Mixture")), { frames := 6, cells := 1, slots := 6, locals := 92 }, [])
abbrev mX11_mixture : gq_M := (yX11_mixture, cX11_mixture, 4, (some .int), { frames := 7, cells := 2, slots := 12, locals := 113 }, [])
abbrev mX11_press : gq_M := (yX11_press, cX11_press, 6, (some .int), { frames := 7, cells := 4, slots := 280, locals := 171 }, [])
abbrev mX11_worn : gq_M := (yX11_worn, cX11_worn, 2, (some .int), { frames := 6, cells := 1, slots := 6, locals := 92 }, [])
abbrev mX11_renew : gq_M := (yX11_renew, cX11_renew, 3, (some .int), { frames := 6, cells := 1, slots := 6, locals := 92 }, [])
abbrev mX11_batchNumbered : gq_M := (yX11_batchNumbered, cX11_batchNumbered, 2, (some (.object "Graphline$Batch")), { frames := 6, cells := 1, slots := 6, locals := 92 }, [])
abbrev mX11_dry : gq_M := (yX11_dry, cX11_dry, 4, (some .int), { frames := 7, cells := 2, slots := 12, locals := 113 }, [])
abbrev mX11_fire : gq_M := (yX11_fire, cX11_fire, 8, (some .int), { frames := 7, cells := 2, slots := 12, locals := 113 }, [])
abbrev mX11_soak : gq_M := (yX11_soak, cX11_soak, 4, (some .int), { frames := 7, cells := 2, slots := 12, locals := 113 }, [])
abbrev mX11_batch : gq_M := (yX11_batch, cX11_batch, 4, (some .int), { frames := 7, cells := 2, slots := 12, locals := 113 }, [])
abbrev mX11_draw : gq_M := (yX11_draw, cX11_draw, 3, (some .int), { frames := 7, cells := 2, slots := 12, locals := 113 }, [])
abbrev mX11_check : gq_M := (yX11_check, cX11_check, 1, (some .int), { frames := 1, cells := 0, slots := 0, locals := 21 }, [])
abbrev mX11_slats : gq_M := (yX11_slats, cX11_slats, 5, (some .int), { frames := 7, cells := 3, slots := 269, locals := 171 }, [])
abbrev mX11_slatLotNumbered : gq_M := (yX11_slatLotNumbered, cX11_slatLotNumbered, 2, (some (.object "Graphline$SlatLot")), { frames := 6, cells := 1, slots := 6, locals := 92 }, [])
abbrev mX11_season : gq_M := (yX11_season, cX11_season, 5, (some .int), { frames := 7, cells := 2, slots := 12, locals := 113 }, [])
abbrev mX11_groove : gq_M := (yX11_groove, cX11_groove, 4, (some .int), { frames := 7, cells := 2, slots := 12, locals := 113 }, [])
abbrev mX11_slat : gq_M := (yX11_slat, cX11_slat, 4, (some .int), { frames := 7, cells := 2, slots := 12, locals := 113 }, [])
abbrev mX11_pencilsOfTwoSlats : gq_M := (yX11_pencilsOfTwoSlats, cX11_pencilsOfTwoSlats, 1, (some .int), { frames := 0, cells := 0, slots := 0, locals := 0 }, [])
abbrev mX11_lay : gq_M := (yX11_lay, cX11_lay, 11, (some .int), { frames := 7, cells := 5, slots := 286, locals := 171 }, [])
abbrev mX11_runNumbered : gq_M := (yX11_runNumbered, cX11_runNumbered, 2, (some (.object "Graphline$Run")), { frames := 6, cells := 1, slots := 6, locals := 92 }, [])
abbrev mX11_coat : gq_M := (yX11_coat, cX11_coat, 4, (some .int), { frames := 7, cells := 2, slots := 12, locals := 113 }, [])
abbrev mX11_gradeOf : gq_M := (yX11_gradeOf, cX11_gradeOf, 1, (some .int), { frames := 0, cells := 0, slots := 0, locals := 0 }, [])
abbrev mX11_stamp : gq_M := (yX11_stamp, cX11_stamp, 3, (some .int), { frames := 7, cells := 2, slots := 12, locals := 113 }, [])
abbrev mX11_erase : gq_M := (yX11_erase, cX11_erase, 4, (some .int), { frames := 7, cells := 2, slots := 12, locals := 113 }, [])
abbrev mX11_run : gq_M := (yX11_run, cX11_run, 4, (some .int), { frames := 7, cells := 2, slots := 12, locals := 113 }, [])
abbrev mX11_fall : gq_M := (yX11_fall, cX11_fall, 6, (some .int), { frames := 7, cells := 2, slots := 12, locals := 113 }, [])
abbrev mX11_sample : gq_M := (yX11_sample, cX11_sample, 6, (some .int), { frames := 7, cells := 2, slots := 12, locals := 113 }, [])
abbrev mX11_seed : gq_M := (yX11_seed, cX11_seed, 3, (some .int), { frames := 6, cells := 1, slots := 6, locals := 92 }, [])
abbrev mX11_gross : gq_M := (yX11_gross, cX11_gross, 2, (some .int), { frames := 7, cells := 4, slots := 269, locals := 171 }, [])
abbrev mX11_grossNumbered : gq_M := (yX11_grossNumbered, cX11_grossNumbered, 2, (some (.object "Graphline$Gross")), { frames := 6, cells := 1, slots := 6, locals := 92 }, [])
abbrev mX11_pack : gq_M := (yX11_pack, cX11_pack, 8, (some .int), { frames := 7, cells := 5, slots := 277, locals := 171 }, [])
abbrev mX11_order : gq_M := (yX11_order, cX11_order, 4, (some .int), { frames := 7, cells := 3, slots := 266, locals := 171 }, [])
abbrev mX11_orderNumbered : gq_M := (yX11_orderNumbered, cX11_orderNumbered, 2, (some (.object "Graphline$Order")), { frames := 6, cells := 1, slots := 6, locals := 92 }, [])
abbrev mX11_ship : gq_M := (yX11_ship, cX11_ship, 5, (some .int), { frames := 7, cells := 3, slots := 18, locals := 113 }, [])
abbrev mX11_isLate : gq_M := (yX11_isLate, cX11_isLate, 3, (some .boolean), { frames := 7, cells := 1, slots := 6, locals := 113 }, [])
abbrev mX11_claim : gq_M := (yX11_claim, cX11_claim, 6, (some .boolean), { frames := 7, cells := 1, slots := 6, locals := 113 }, [])
abbrev mX11_parts : gq_M := (yX11_parts, cX11_parts, 2, (some .int), { frames := 7, cells := 1, slots := 6, locals := 113 }, [])
abbrev mX11_partNumbered : gq_M := (yX11_partNumbered, cX11_partNumbered, 2, (some (.object "Graphline$Part")), { frames := 6, cells := 1, slots := 6, locals := 92 }, [])
abbrev mX11_trace : gq_M := (yX11_trace, cX11_trace, 5, (some .int), { frames := 7, cells := 3, slots := 18, locals := 113 }, [])
abbrev mX11_pencilsInRuns : gq_M := (yX11_pencilsInRuns, cX11_pencilsInRuns, 3, (some .int), { frames := 3, cells := 0, slots := 0, locals := 64 }, [])
abbrev mX11_missing : gq_M := (yX11_missing, cX11_missing, 3, (some .int), { frames := 4, cells := 0, slots := 0, locals := 86 }, [])
abbrev mX11_checksum : gq_M := (yX11_checksum, cX11_checksum, 5, (some .long), { frames := 3, cells := 0, slots := 0, locals := 64 }, [])
abbrev mX11_brokenShare : gq_M := (yX11_brokenShare, cX11_brokenShare, 4, (some .float), { frames := 6, cells := 1, slots := 6, locals := 92 }, [])
abbrev mX11_meanDarkness : gq_M := (yX11_meanDarkness, cX11_meanDarkness, 5, (some .double), { frames := 6, cells := 1, slots := 6, locals := 92 }, [])
abbrev mX11_areGrossesOfOneGrade : gq_M := (yX11_areGrossesOfOneGrade, cX11_areGrossesOfOneGrade, 4, (some .boolean), { frames := 3, cells := 0, slots := 0, locals := 64 }, [])
abbrev mX11_areBrokenAmongPencils : gq_M := (yX11_areBrokenAmongPencils, cX11_areBrokenAmongPencils, 3, (some .boolean), { frames := 3, cells := 0, slots := 0, locals := 64 }, [])
abbrev mX11_isSound : gq_M := (yX11_isSound, cX11_isSound, 1, (some .boolean), { frames := 5, cells := 0, slots := 0, locals := 108 }, [])
abbrev mX12_init : gq_M := (yX12_init, cX12_init, 1, none, { frames := 1, cells := 0, slots := 0, locals := 24 }, [])
abbrev mX13_init : gq_M := (yX13_init, cX13_init, 1, none, { frames := 4, cells := 1, slots := 3, locals := 84 }, [])
abbrev mJx35411_init_45d68 : gq_M := (yJx35411_init_45d68, cJx35411_init_45d68, 2, none, { frames := 1, cells := 0, slots := 0, locals := 24 }, [])
abbrev mJx4a65c_iterator_32c93 : gq_M := (yJx4a65c_iterator_32c93, cJx4a65c_iterator_32c93, 1, (some (.object "java/util/Iterator")), { frames := 2, cells := 1, slots := 4, locals := 45 }, [])
abbrev mJx35411_hasNext_aae02 : gq_M := (yJx35411_hasNext_aae02, cJx35411_hasNext_aae02, 1, (some .boolean), { frames := 0, cells := 0, slots := 0, locals := 0 }, [])
abbrev mJx35411_checkForComodification_da8c8 : gq_M := (yJx35411_checkForComodification_da8c8, cJx35411_checkForComodification_da8c8, 1, none, { frames := 0, cells := 0, slots := 0, locals := 0 }, [])
abbrev mJx35411_next_0502b : gq_M := (yJx35411_next_0502b, cJx35411_next_0502b, 3, (some (.object "java/lang/Object")), { frames := 1, cells := 0, slots := 0, locals := 20 }, [])
abbrev mX13_many : gq_M := (yX13_many, cX13_many, 4, (some .int), { frames := 3, cells := 1, slots := 4, locals := 65 }, [])
abbrev mX14_init : gq_M := (yX14_init, cX14_init, 1, none, { frames := 1, cells := 0, slots := 0, locals := 24 }, [])
abbrev mX15_init : gq_M := (yX15_init, cX15_init, 1, none, { frames := 1, cells := 0, slots := 0, locals := 24 }, [])
abbrev mX16_thrown : gq_M := (yX16_thrown, cX16_thrown, 1, (some .int), { frames := 0, cells := 0, slots := 0, locals := 0 }, [])
abbrev mX16_in : gq_M := (yX16_in, cX16_in, 6, (some .boolean), { frames := 0, cells := 0, slots := 0, locals := 0 }, [])
abbrev mX16_isOf : gq_M := (yX16_isOf, cX16_isOf, 2, (some .boolean), { frames := 1, cells := 0, slots := 0, locals := 25 }, [])
abbrev mX16_fails : gq_M := (yX16_fails, cX16_fails, 3, (some .boolean), { frames := 0, cells := 0, slots := 0, locals := 0 }, [])
abbrev mX16_begins : gq_M := (yX16_begins, cX16_begins, 1, none, { frames := 0, cells := 0, slots := 0, locals := 0 }, [])
abbrev mX16_init : gq_M := (yX16_init, cX16_init, 1, none, { frames := 4, cells := 11, slots := 85, locals := 84 }, [])
abbrev mX16_go : gq_M := (yX16_go, cX16_go, 2, (some .int), { frames := 1, cells := 0, slots := 0, locals := 25 }, [])
abbrev mX16_shaft : gq_M := (yX16_shaft, cX16_shaft, 3, (some .boolean), { frames := 1, cells := 0, slots := 0, locals := 20 }, [])
abbrev mJ0_isLatin1_aae02 : gq_M := (yJ0_isLatin1_aae02, cJ0_isLatin1_aae02, 1, (some .boolean), { frames := 0, cells := 0, slots := 0, locals := 0 }, [])
abbrev mJ0_coder_7d493 : gq_M := (yJ0_coder_7d493, cJ0_coder_7d493, 1, (some .byte), { frames := 0, cells := 0, slots := 0, locals := 0 }, [])
abbrev mJ0_length_8abf5 : gq_M := (yJ0_length_8abf5, cJ0_length_8abf5, 1, (some .int), { frames := 1, cells := 0, slots := 0, locals := 20 }, [])
abbrev mJ1_canEncode_9a6ad : gq_M := (yJ1_canEncode_9a6ad, cJ1_canEncode_9a6ad, 1, (some .boolean), { frames := 0, cells := 0, slots := 0, locals := 0 }, [])
abbrev mJ1_indexOfChar_4cfef : gq_M := (yJ1_indexOfChar_4cfef, cJ1_indexOfChar_4cfef, 6, (some .int), { frames := 0, cells := 0, slots := 0, locals := 0 }, [])
abbrev mJ1_indexOf_4cfef : gq_M := (yJ1_indexOf_4cfef, cJ1_indexOf_4cfef, 4, (some .int), { frames := 1, cells := 0, slots := 0, locals := 29 }, [])
abbrev mJ0_indexOf_7cf53 : gq_M := (yJ0_indexOf_7cf53, cJ0_indexOf_7cf53, 3, (some .int), { frames := 2, cells := 0, slots := 0, locals := 52 }, [])
abbrev mJ0_indexOf_0f7a4 : gq_M := (yJ0_indexOf_0f7a4, cJ0_indexOf_0f7a4, 2, (some .int), { frames := 3, cells := 0, slots := 0, locals := 74 }, [])
abbrev mJ0_checkIndex_df160 : gq_M := (yJ0_checkIndex_df160, cJ0_checkIndex_df160, 2, none, { frames := 1, cells := 0, slots := 0, locals := 22 }, [])
abbrev mJ1_charAt_3b067 : gq_M := (yJ1_charAt_3b067, cJ1_charAt_3b067, 2, (some .char), { frames := 2, cells := 0, slots := 0, locals := 43 }, [])
abbrev mJ0_charAt_5068e : gq_M := (yJ0_charAt_5068e, cJ0_charAt_5068e, 2, (some .char), { frames := 3, cells := 0, slots := 0, locals := 64 }, [])
abbrev mX16_belt : gq_M := (yX16_belt, cX16_belt, 7, (some .char), { frames := 4, cells := 0, slots := 0, locals := 95 }, [])
abbrev mX16_on : gq_M := (yX16_on, cX16_on, 5, (some .boolean), { frames := 4, cells := 0, slots := 0, locals := 95 }, [])
abbrev mX16_going : gq_M := (yX16_going, cX16_going, 4, (some .boolean), { frames := 0, cells := 0, slots := 0, locals := 0 }, [])
abbrev mX16_runs : gq_M := (yX16_runs, cX16_runs, 3, (some .boolean), { frames := 4, cells := 0, slots := 0, locals := 95 }, [])
abbrev mX16_noLot : gq_M := (yX16_noLot, cX16_noLot, 2, (some .boolean), { frames := 2, cells := 0, slots := 0, locals := 46 }, [])
abbrev mX16_lot : gq_M := (yX16_lot, cX16_lot, 6, (some .int), { frames := 7, cells := 2, slots := 272, locals := 171 }, [])
abbrev mX16_kilos : gq_M := (yX16_kilos, cX16_kilos, 2, (some .int), { frames := 3, cells := 0, slots := 0, locals := 67 }, [])
abbrev mX16_mix : gq_M := (yX16_mix, cX16_mix, 10, (some .int), { frames := 7, cells := 2, slots := 272, locals := 171 }, [])
abbrev mX16_mixture : gq_M := (yX16_mixture, cX16_mixture, 3, (some .int), { frames := 4, cells := 0, slots := 0, locals := 95 }, [])
abbrev mX16_press : gq_M := (yX16_press, cX16_press, 6, (some .int), { frames := 7, cells := 2, slots := 267, locals := 171 }, [])
abbrev mX16_worn : gq_M := (yX16_worn, cX16_worn, 2, (some .int), { frames := 1, cells := 0, slots := 0, locals := 25 }, [])
abbrev mX16_renew : gq_M := (yX16_renew, cX16_renew, 3, (some .int), { frames := 1, cells := 0, slots := 0, locals := 25 }, [])
abbrev mX16_noBatch : gq_M := (yX16_noBatch, cX16_noBatch, 2, (some .boolean), { frames := 2, cells := 0, slots := 0, locals := 46 }, [])
abbrev mX16_fineness : gq_M := (yX16_fineness, cX16_fineness, 2, (some .int), { frames := 3, cells := 0, slots := 0, locals := 64 }, [])
abbrev mX16_dry : gq_M := (yX16_dry, cX16_dry, 4, (some .int), { frames := 4, cells := 0, slots := 0, locals := 85 }, [])
abbrev mX16_fire : gq_M := (yX16_fire, cX16_fire, 7, (some .int), { frames := 4, cells := 0, slots := 0, locals := 85 }, [])
abbrev mX16_isFired : gq_M := (yX16_isFired, cX16_isFired, 2, (some .boolean), { frames := 0, cells := 0, slots := 0, locals := 0 }, [])
abbrev mX16_soak : gq_M := (yX16_soak, cX16_soak, 4, (some .int), { frames := 3, cells := 0, slots := 0, locals := 67 }, [])
abbrev mX16_batch : gq_M := (yX16_batch, cX16_batch, 4, (some .int), { frames := 4, cells := 0, slots := 0, locals := 95 }, [])
abbrev mX16_tells : gq_M := (yX16_tells, cX16_tells, 3, (some .int), { frames := 1, cells := 0, slots := 0, locals := 29 }, [])
abbrev mX16_draw : gq_M := (yX16_draw, cX16_draw, 2, (some .int), { frames := 3, cells := 0, slots := 0, locals := 67 }, [])
abbrev mX16_check : gq_M := (yX16_check, cX16_check, 2, (some .int), { frames := 1, cells := 0, slots := 0, locals := 20 }, [])
abbrev mX16_noSlats : gq_M := (yX16_noSlats, cX16_noSlats, 2, (some .boolean), { frames := 2, cells := 0, slots := 0, locals := 46 }, [])
abbrev mX16_slats : gq_M := (yX16_slats, cX16_slats, 7, (some .int), { frames := 7, cells := 2, slots := 262, locals := 171 }, [])
abbrev mX16_season : gq_M := (yX16_season, cX16_season, 4, (some .int), { frames := 3, cells := 0, slots := 0, locals := 67 }, [])
abbrev mX16_groove : gq_M := (yX16_groove, cX16_groove, 4, (some .int), { frames := 3, cells := 0, slots := 0, locals := 67 }, [])
abbrev mX16_slat : gq_M := (yX16_slat, cX16_slat, 4, (some .int), { frames := 4, cells := 0, slots := 0, locals := 95 }, [])
abbrev mX16_lay : gq_M := (yX16_lay, cX16_lay, 13, (some .int), { frames := 7, cells := 2, slots := 267, locals := 171 }, [])
abbrev mX16_noRun : gq_M := (yX16_noRun, cX16_noRun, 2, (some .boolean), { frames := 2, cells := 0, slots := 0, locals := 46 }, [])
abbrev mX16_coat : gq_M := (yX16_coat, cX16_coat, 4, (some .int), { frames := 3, cells := 0, slots := 0, locals := 67 }, [])
abbrev mX16_stamp : gq_M := (yX16_stamp, cX16_stamp, 3, (some .int), { frames := 3, cells := 0, slots := 0, locals := 67 }, [])
abbrev mX16_erase : gq_M := (yX16_erase, cX16_erase, 3, (some .int), { frames := 3, cells := 0, slots := 0, locals := 67 }, [])
abbrev mX16_run : gq_M := (yX16_run, cX16_run, 4, (some .int), { frames := 4, cells := 0, slots := 0, locals := 95 }, [])
abbrev mX16_fall : gq_M := (yX16_fall, cX16_fall, 6, (some .int), { frames := 3, cells := 0, slots := 0, locals := 67 }, [])
abbrev mX16_sample : gq_M := (yX16_sample, cX16_sample, 6, (some .int), { frames := 3, cells := 0, slots := 0, locals := 67 }, [])
abbrev mX16_seed : gq_M := (yX16_seed, cX16_seed, 3, (some .int), { frames := 1, cells := 0, slots := 0, locals := 25 }, [])
abbrev mX16_gross : gq_M := (yX16_gross, cX16_gross, 3, (some .int), { frames := 7, cells := 3, slots := 262, locals := 171 }, [])
abbrev mX16_pack : gq_M := (yX16_pack, cX16_pack, 7, (some .int), { frames := 7, cells := 4, slots := 280, locals := 171 }, [])
abbrev mX16_order : gq_M := (yX16_order, cX16_order, 4, (some .int), { frames := 7, cells := 2, slots := 272, locals := 171 }, [])
abbrev mX16_ship : gq_M := (yX16_ship, cX16_ship, 5, (some .int), { frames := 4, cells := 1, slots := 4, locals := 88 }, [])
abbrev mX16_isLate : gq_M := (yX16_isLate, cX16_isLate, 2, (some .boolean), { frames := 3, cells := 0, slots := 0, locals := 64 }, [])
abbrev mX16_noGross : gq_M := (yX16_noGross, cX16_noGross, 2, (some .boolean), { frames := 2, cells := 0, slots := 0, locals := 46 }, [])
abbrev mX16_claim : gq_M := (yX16_claim, cX16_claim, 6, (some .boolean), { frames := 3, cells := 1, slots := 4, locals := 67 }, [])
abbrev mX16_parts : gq_M := (yX16_parts, cX16_parts, 2, (some .int), { frames := 3, cells := 0, slots := 0, locals := 67 }, [])
abbrev mX16_trace : gq_M := (yX16_trace, cX16_trace, 8, (some .int), { frames := 4, cells := 0, slots := 0, locals := 95 }, [])
abbrev mX16_missing : gq_M := (yX16_missing, cX16_missing, 1, (some .int), { frames := 1, cells := 0, slots := 0, locals := 20 }, [])
abbrev mX16_checksum : gq_M := (yX16_checksum, cX16_checksum, 5, (some .long), { frames := 4, cells := 34, slots := 136, locals := 88 }, [])
abbrev mX16_brokenShare : gq_M := (yX16_brokenShare, cX16_brokenShare, 5, (some .float), { frames := 3, cells := 1, slots := 4, locals := 65 }, [])
abbrev mX16_meanDarkness : gq_M := (yX16_meanDarkness, cX16_meanDarkness, 5, (some .double), { frames := 3, cells := 1, slots := 4, locals := 65 }, [])
abbrev mX16_isSound : gq_M := (yX16_isSound, cX16_isSound, 1, (some .boolean), { frames := 1, cells := 0, slots := 0, locals := 20 }, [])
abbrev mJ9_abs_0f7a4 : gq_M := (yJ9_abs_0f7a4, cJ9_abs_0f7a4, 1, (some .int), { frames := 0, cells := 0, slots := 0, locals := 0 }, [])
abbrev mJ9_max_7cf53 : gq_M := (yJ9_max_7cf53, cJ9_max_7cf53, 2, (some .int), { frames := 0, cells := 0, slots := 0, locals := 0 }, [])
abbrev mJ9_min_7cf53 : gq_M := (yJ9_min_7cf53, cJ9_min_7cf53, 2, (some .int), { frames := 0, cells := 0, slots := 0, locals := 0 }, [])
abbrev mJ3_checkFromToIndex_8c36e : gq_M := (yJ3_checkFromToIndex_8c36e, cJ3_checkFromToIndex_8c36e, 4, (some .int), { frames := 0, cells := 0, slots := 0, locals := 0 }, [])
abbrev mJ0_checkBoundsBeginEnd_23922 : gq_M := (yJ0_checkBoundsBeginEnd_23922, cJ0_checkBoundsBeginEnd_23922, 3, none, { frames := 1, cells := 0, slots := 0, locals := 23 }, [])
abbrev mL_go : gq_M := (yL_go, cL_go, 4, (some .int), { frames := 7, cells := 1, slots := 6, locals := 113 }, [(0, 9, 12, 13), (0, 9, 15, 15)])
abbrev mL_belt : gq_M := (yL_belt, cL_belt, 5, (some .int), { frames := 8, cells := 3, slots := 18, locals := 138 }, [(0, 10, 13, 13), (0, 10, 17, 21)])
abbrev mL_on : gq_M := (yL_on, cL_on, 5, (some .int), { frames := 8, cells := 1, slots := 6, locals := 137 }, [(0, 17, 20, 13)])
abbrev mL_runs : gq_M := (yL_runs, cL_runs, 4, (some .int), { frames := 8, cells := 1, slots := 6, locals := 134 }, [(0, 16, 19, 13)])
abbrev mL_lot : gq_M := (yL_lot, cL_lot, 7, (some .int), { frames := 8, cells := 3, slots := 266, locals := 195 }, [(0, 14, 17, 13), (0, 14, 21, 15)])
abbrev mL_kilos : gq_M := (yL_kilos, cL_kilos, 4, (some .int), { frames := 8, cells := 1, slots := 6, locals := 134 }, [(0, 9, 12, 38)])
abbrev mL_mix : gq_M := (yL_mix, cL_mix, 8, (some .int), { frames := 8, cells := 5, slots := 279, locals := 200 }, [(0, 16, 19, 38), (0, 16, 23, 13), (0, 16, 27, 21), (0, 16, 31, 15)])
abbrev mL_mixture : gq_M := (yL_mixture, cL_mixture, 5, (some .int), { frames := 8, cells := 2, slots := 12, locals := 136 }, [(0, 10, 13, 38), (0, 10, 17, 13)])
abbrev mL_press : gq_M := (yL_press, cL_press, 6, (some .int), { frames := 8, cells := 4, slots := 280, locals := 196 }, [(0, 12, 15, 38), (0, 12, 19, 13), (0, 12, 23, 21), (0, 12, 27, 15)])
abbrev mL_worn : gq_M := (yL_worn, cL_worn, 4, (some .int), { frames := 7, cells := 1, slots := 6, locals := 113 }, [(0, 9, 12, 13)])
abbrev mL_renew : gq_M := (yL_renew, cL_renew, 4, (some .int), { frames := 7, cells := 1, slots := 6, locals := 114 }, [(0, 9, 12, 13)])
abbrev mL_dry : gq_M := (yL_dry, cL_dry, 5, (some .int), { frames := 8, cells := 2, slots := 12, locals := 136 }, [(0, 10, 13, 38), (0, 10, 17, 13), (0, 10, 21, 21)])
abbrev mL_fire : gq_M := (yL_fire, cL_fire, 7, (some .int), { frames := 8, cells := 2, slots := 12, locals := 140 }, [(0, 14, 17, 38), (0, 14, 21, 13), (0, 14, 25, 21)])
abbrev mL_soak : gq_M := (yL_soak, cL_soak, 5, (some .int), { frames := 8, cells := 2, slots := 12, locals := 136 }, [(0, 10, 13, 38), (0, 10, 17, 13), (0, 10, 21, 21)])
abbrev mL_batch : gq_M := (yL_batch, cL_batch, 5, (some .int), { frames := 8, cells := 2, slots := 12, locals := 136 }, [(0, 10, 13, 38), (0, 10, 17, 13)])
abbrev mL_draw : gq_M := (yL_draw, cL_draw, 4, (some .int), { frames := 8, cells := 2, slots := 12, locals := 135 }, [(0, 9, 12, 38), (0, 9, 15, 21)])
abbrev mL_slats : gq_M := (yL_slats, cL_slats, 7, (some .int), { frames := 8, cells := 3, slots := 269, locals := 195 }, [(0, 14, 17, 13), (0, 14, 21, 15)])
abbrev mL_season : gq_M := (yL_season, cL_season, 5, (some .int), { frames := 8, cells := 2, slots := 12, locals := 137 }, [(0, 10, 13, 38), (0, 10, 17, 13), (0, 10, 21, 21)])
abbrev mL_groove : gq_M := (yL_groove, cL_groove, 5, (some .int), { frames := 8, cells := 2, slots := 12, locals := 136 }, [(0, 10, 13, 38), (0, 10, 17, 13), (0, 10, 21, 21)])
abbrev mL_slat : gq_M := (yL_slat, cL_slat, 5, (some .int), { frames := 8, cells := 2, slots := 12, locals := 136 }, [(0, 10, 13, 38), (0, 10, 17, 13)])
abbrev mL_lay : gq_M := (yL_lay, cL_lay, 8, (some .int), { frames := 8, cells := 5, slots := 286, locals := 201 }, [(0, 16, 19, 38), (0, 16, 23, 13), (0, 16, 27, 21), (0, 16, 31, 15)])
abbrev mL_coat : gq_M := (yL_coat, cL_coat, 5, (some .int), { frames := 8, cells := 2, slots := 12, locals := 136 }, [(0, 10, 13, 38), (0, 10, 17, 13), (0, 10, 21, 21)])
abbrev mL_stamp : gq_M := (yL_stamp, cL_stamp, 4, (some .int), { frames := 8, cells := 2, slots := 12, locals := 135 }, [(0, 9, 12, 38), (0, 9, 15, 21)])
abbrev mL_erase : gq_M := (yL_erase, cL_erase, 5, (some .int), { frames := 8, cells := 2, slots := 12, locals := 136 }, [(0, 10, 13, 38), (0, 10, 17, 13), (0, 10, 21, 21)])
abbrev mL_run : gq_M := (yL_run, cL_run, 5, (some .int), { frames := 8, cells := 2, slots := 12, locals := 136 }, [(0, 10, 13, 38), (0, 10, 17, 13)])
abbrev mL_fall : gq_M := (yL_fall, cL_fall, 5, (some .int), { frames := 8, cells := 2, slots := 12, locals := 138 }, [(0, 10, 13, 38), (0, 10, 17, 13)])
abbrev mL_sample : gq_M := (yL_sample, cL_sample, 5, (some .int), { frames := 8, cells := 2, slots := 12, locals := 138 }, [(0, 10, 13, 38), (0, 10, 17, 13), (0, 10, 21, 21)])
abbrev mL_seed : gq_M := (yL_seed, cL_seed, 4, (some .int), { frames := 7, cells := 1, slots := 6, locals := 114 }, [(0, 9, 12, 13)])
abbrev mL_gross : gq_M := (yL_gross, cL_gross, 4, (some .int), { frames := 8, cells := 4, slots := 269, locals := 192 }, [(0, 9, 12, 13), (0, 9, 15, 15)])
abbrev mL_pack : gq_M := (yL_pack, cL_pack, 6, (some .int), { frames := 8, cells := 5, slots := 277, locals := 198 }, [(0, 12, 15, 38), (0, 12, 19, 13), (0, 12, 23, 21)])
abbrev mL_order : gq_M := (yL_order, cL_order, 6, (some .int), { frames := 8, cells := 3, slots := 266, locals := 194 }, [(0, 12, 15, 13), (0, 12, 19, 15)])
abbrev mL_ship : gq_M := (yL_ship, cL_ship, 5, (some .int), { frames := 8, cells := 3, slots := 18, locals := 137 }, [(0, 10, 13, 38), (0, 10, 17, 21)])
abbrev mL_isLate : gq_M := (yL_isLate, cL_isLate, 4, (some .int), { frames := 8, cells := 1, slots := 6, locals := 135 }, [(0, 16, 19, 38)])
abbrev mL_claim : gq_M := (yL_claim, cL_claim, 4, (some .int), { frames := 8, cells := 1, slots := 6, locals := 138 }, [(0, 16, 19, 38)])
abbrev mL_parts : gq_M := (yL_parts, cL_parts, 4, (some .int), { frames := 8, cells := 1, slots := 6, locals := 134 }, [(0, 9, 12, 38)])
abbrev mL_trace : gq_M := (yL_trace, cL_trace, 6, (some .int), { frames := 8, cells := 3, slots := 18, locals := 137 }, [(0, 12, 15, 38), (0, 12, 19, 13)])
abbrev mL_brokenShare : gq_M := (yL_brokenShare, cL_brokenShare, 3, (some .int), { frames := 7, cells := 1, slots := 6, locals := 115 }, [(0, 8, 11, 142)])
abbrev mL_meanDarkness : gq_M := (yL_meanDarkness, cL_meanDarkness, 3, (some .int), { frames := 7, cells := 1, slots := 6, locals := 116 }, [(0, 7, 10, 142)])
theorem ne_0 : ("Graphline$Machine" : String) ≠ "java/lang/invoke/MethodHandle" ∧ ("Graphline$Machine" : String) ≠ "java/lang/invoke/VarHandle" := by decide +kernel
theorem ne_1 : ("Graphline$Drive" : String) ≠ "java/lang/invoke/MethodHandle" ∧ ("Graphline$Drive" : String) ≠ "java/lang/invoke/VarHandle" := by decide +kernel
theorem ne_2 : ("java/util/ArrayList" : String) ≠ "java/lang/invoke/MethodHandle" ∧ ("java/util/ArrayList" : String) ≠ "java/lang/invoke/VarHandle" := by decide +kernel
theorem ne_3 : ("Graphline" : String) ≠ "java/lang/invoke/MethodHandle" ∧ ("Graphline" : String) ≠ "java/lang/invoke/VarHandle" := by decide +kernel
theorem ne_4 : ("Graphline$Wheel" : String) ≠ "java/lang/invoke/MethodHandle" ∧ ("Graphline$Wheel" : String) ≠ "java/lang/invoke/VarHandle" := by decide +kernel
theorem ne_5 : ("Graphline$Lot" : String) ≠ "java/lang/invoke/MethodHandle" ∧ ("Graphline$Lot" : String) ≠ "java/lang/invoke/VarHandle" := by decide +kernel
theorem ne_6 : ("Graphline$Mixture" : String) ≠ "java/lang/invoke/MethodHandle" ∧ ("Graphline$Mixture" : String) ≠ "java/lang/invoke/VarHandle" := by decide +kernel
theorem ne_7 : ("Graphline$Batch" : String) ≠ "java/lang/invoke/MethodHandle" ∧ ("Graphline$Batch" : String) ≠ "java/lang/invoke/VarHandle" := by decide +kernel
theorem ne_8 : ("Graphline$SlatLot" : String) ≠ "java/lang/invoke/MethodHandle" ∧ ("Graphline$SlatLot" : String) ≠ "java/lang/invoke/VarHandle" := by decide +kernel
theorem ne_9 : ("Graphline$Run" : String) ≠ "java/lang/invoke/MethodHandle" ∧ ("Graphline$Run" : String) ≠ "java/lang/invoke/VarHandle" := by decide +kernel
theorem ne_10 : ("Graphline$Gross" : String) ≠ "java/lang/invoke/MethodHandle" ∧ ("Graphline$Gross" : String) ≠ "java/lang/invoke/VarHandle" := by decide +kernel
theorem ne_11 : ("Graphline$Part" : String) ≠ "java/lang/invoke/MethodHandle" ∧ ("Graphline$Part" : String) ≠ "java/lang/invoke/VarHandle" := by decide +kernel
theorem ne_12 : ("Graphline$Order" : String) ≠ "java/lang/invoke/MethodHandle" ∧ ("Graphline$Order" : String) ≠ "java/lang/invoke/VarHandle" := by decide +kernel
theorem ne_13 : ("java/util/List" : String) ≠ "java/lang/invoke/MethodHandle" ∧ ("java/util/List" : String) ≠ "java/lang/invoke/VarHandle" := by decide +kernel
theorem ne_14 : ("java/util/Iterator" : String) ≠ "java/lang/invoke/MethodHandle" ∧ ("java/util/Iterator" : String) ≠ "java/lang/invoke/VarHandle" := by decide +kernel
theorem ne_15 : ("GraphlineModel" : String) ≠ "java/lang/invoke/MethodHandle" ∧ ("GraphlineModel" : String) ≠ "java/lang/invoke/VarHandle" := by decide +kernel
theorem ne_16 : ("java/lang/String" : String) ≠ "java/lang/invoke/MethodHandle" ∧ ("java/lang/String" : String) ≠ "java/lang/invoke/VarHandle" := by decide +kernel
theorem ne_17 : ("GraphlineModel$Batch" : String) ≠ "java/lang/invoke/MethodHandle" ∧ ("GraphlineModel$Batch" : String) ≠ "java/lang/invoke/VarHandle" := by decide +kernel
theorem ne_18 : ("GraphlineModel$Slat" : String) ≠ "java/lang/invoke/MethodHandle" ∧ ("GraphlineModel$Slat" : String) ≠ "java/lang/invoke/VarHandle" := by decide +kernel
theorem ne_19 : ("GraphlineModel$Run" : String) ≠ "java/lang/invoke/MethodHandle" ∧ ("GraphlineModel$Run" : String) ≠ "java/lang/invoke/VarHandle" := by decide +kernel
theorem ne_20 : ("GraphlineModel$Gross" : String) ≠ "java/lang/invoke/MethodHandle" ∧ ("GraphlineModel$Gross" : String) ≠ "java/lang/invoke/VarHandle" := by decide +kernel
theorem ne_21 : ("java/lang/StringLatin1" : String) ≠ "java/lang/invoke/MethodHandle" ∧ ("java/lang/StringLatin1" : String) ≠ "java/lang/invoke/VarHandle" := by decide +kernel
theorem ne_22 : ("jdk/internal/util/Preconditions" : String) ≠ "java/lang/invoke/MethodHandle" ∧ ("jdk/internal/util/Preconditions" : String) ≠ "java/lang/invoke/VarHandle" := by decide +kernel
theorem ne_23 : ("java/util/AbstractCollection" : String) ≠ "java/lang/invoke/MethodHandle" ∧ ("java/util/AbstractCollection" : String) ≠ "java/lang/invoke/VarHandle" := by decide +kernel
theorem ne_24 : ("java/util/ArrayList$Itr" : String) ≠ "java/lang/invoke/MethodHandle" ∧ ("java/util/ArrayList$Itr" : String) ≠ "java/lang/invoke/VarHandle" := by decide +kernel
theorem ne_25 : ("java/util/AbstractList" : String) ≠ "java/lang/invoke/MethodHandle" ∧ ("java/util/AbstractList" : String) ≠ "java/lang/invoke/VarHandle" := by decide +kernel
theorem ne_26 : ("jdk/internal/util/ArraysSupport" : String) ≠ "java/lang/invoke/MethodHandle" ∧ ("jdk/internal/util/ArraysSupport" : String) ≠ "java/lang/invoke/VarHandle" := by decide +kernel
theorem ne_27 : ("java/util/Arrays" : String) ≠ "java/lang/invoke/MethodHandle" ∧ ("java/util/Arrays" : String) ≠ "java/lang/invoke/VarHandle" := by decide +kernel
theorem ne_28 : ("java/util/Objects" : String) ≠ "java/lang/invoke/MethodHandle" ∧ ("java/util/Objects" : String) ≠ "java/lang/invoke/VarHandle" := by decide +kernel
theorem pm_0 : (parseMethodDescriptor "(C)V").map (fun d => d.parameters.length) = some 1 := by decide +kernel
theorem pm_1 : (parseMethodDescriptor "(LGraphline$Machine;)Z").map (fun d => d.parameters.length) = some 1 := by decide +kernel
theorem pm_2 : (parseMethodDescriptor "()V").map (fun d => d.parameters.length) = some 0 := by decide +kernel
theorem pm_3 : (parseMethodDescriptor "(III)I").map (fun d => d.parameters.length) = some 3 := by decide +kernel
theorem pm_4 : (parseMethodDescriptor "(III)Z").map (fun d => d.parameters.length) = some 3 := by decide +kernel
theorem pm_5 : (parseMethodDescriptor "(C)LGraphline$Machine;").map (fun d => d.parameters.length) = some 1 := by decide +kernel
theorem pm_6 : (parseMethodDescriptor "(LGraphline$Machine;LGraphline$Machine;)Z").map (fun d => d.parameters.length) = some 2 := by decide +kernel
theorem pm_7 : (parseMethodDescriptor "()I").map (fun d => d.parameters.length) = some 0 := by decide +kernel
theorem pm_8 : (parseMethodDescriptor "(CIII)V").map (fun d => d.parameters.length) = some 4 := by decide +kernel
theorem pm_9 : (parseMethodDescriptor "(Ljava/lang/Object;)Z").map (fun d => d.parameters.length) = some 1 := by decide +kernel
theorem pm_10 : (parseMethodDescriptor "(I)LGraphline$Lot;").map (fun d => d.parameters.length) = some 1 := by decide +kernel
theorem pm_11 : (parseMethodDescriptor "(IIIII)V").map (fun d => d.parameters.length) = some 5 := by decide +kernel
theorem pm_12 : (parseMethodDescriptor "(I)LGraphline$Mixture;").map (fun d => d.parameters.length) = some 1 := by decide +kernel
theorem pm_13 : (parseMethodDescriptor "(ILGraphline$Mixture;II)V").map (fun d => d.parameters.length) = some 4 := by decide +kernel
theorem pm_14 : (parseMethodDescriptor "(I)LGraphline$Batch;").map (fun d => d.parameters.length) = some 1 := by decide +kernel
theorem pm_15 : (parseMethodDescriptor "()Z").map (fun d => d.parameters.length) = some 0 := by decide +kernel
theorem pm_16 : (parseMethodDescriptor "(I)I").map (fun d => d.parameters.length) = some 1 := by decide +kernel
theorem pm_17 : (parseMethodDescriptor "(ICIII)V").map (fun d => d.parameters.length) = some 5 := by decide +kernel
theorem pm_18 : (parseMethodDescriptor "(I)LGraphline$SlatLot;").map (fun d => d.parameters.length) = some 1 := by decide +kernel
theorem pm_19 : (parseMethodDescriptor "(C)I").map (fun d => d.parameters.length) = some 1 := by decide +kernel
theorem pm_20 : (parseMethodDescriptor "(ILGraphline$Batch;LGraphline$SlatLot;IIII)V").map (fun d => d.parameters.length) = some 7 := by decide +kernel
theorem pm_21 : (parseMethodDescriptor "(I)LGraphline$Run;").map (fun d => d.parameters.length) = some 1 := by decide +kernel
theorem pm_22 : (parseMethodDescriptor "(I)V").map (fun d => d.parameters.length) = some 1 := by decide +kernel
theorem pm_23 : (parseMethodDescriptor "(I)LGraphline$Gross;").map (fun d => d.parameters.length) = some 1 := by decide +kernel
theorem pm_24 : (parseMethodDescriptor "(LGraphline$Run;II)V").map (fun d => d.parameters.length) = some 3 := by decide +kernel
theorem pm_25 : (parseMethodDescriptor "(III)V").map (fun d => d.parameters.length) = some 3 := by decide +kernel
theorem pm_26 : (parseMethodDescriptor "(I)LGraphline$Order;").map (fun d => d.parameters.length) = some 1 := by decide +kernel
theorem pm_27 : (parseMethodDescriptor "(I)Ljava/lang/Object;").map (fun d => d.parameters.length) = some 1 := by decide +kernel
theorem pm_28 : (parseMethodDescriptor "(LGraphline$Gross;I)LGraphline$Part;").map (fun d => d.parameters.length) = some 2 := by decide +kernel
theorem pm_29 : (parseMethodDescriptor "()Ljava/util/Iterator;").map (fun d => d.parameters.length) = some 0 := by decide +kernel
theorem pm_30 : (parseMethodDescriptor "()Ljava/lang/Object;").map (fun d => d.parameters.length) = some 0 := by decide +kernel
theorem pm_31 : (parseMethodDescriptor "(JJJ)Z").map (fun d => d.parameters.length) = some 3 := by decide +kernel
theorem pm_32 : (parseMethodDescriptor "(ZI)Z").map (fun d => d.parameters.length) = some 2 := by decide +kernel
theorem pm_33 : (parseMethodDescriptor "(I)C").map (fun d => d.parameters.length) = some 1 := by decide +kernel
theorem pm_34 : (parseMethodDescriptor "(I)Z").map (fun d => d.parameters.length) = some 1 := by decide +kernel
theorem pm_35 : (parseMethodDescriptor "(Ljava/util/List;I)Z").map (fun d => d.parameters.length) = some 2 := by decide +kernel
theorem pm_36 : (parseMethodDescriptor "(LGraphlineModel$Batch;)I").map (fun d => d.parameters.length) = some 1 := by decide +kernel
theorem pm_37 : (parseMethodDescriptor "(LGraphlineModel$Batch;)Z").map (fun d => d.parameters.length) = some 1 := by decide +kernel
theorem pm_38 : (parseMethodDescriptor "()B").map (fun d => d.parameters.length) = some 0 := by decide +kernel
theorem pm_39 : (parseMethodDescriptor "([BI)C").map (fun d => d.parameters.length) = some 2 := by decide +kernel
theorem pm_40 : (parseMethodDescriptor "(II)I").map (fun d => d.parameters.length) = some 2 := by decide +kernel
theorem pm_41 : (parseMethodDescriptor "([BIII)I").map (fun d => d.parameters.length) = some 4 := by decide +kernel
theorem pm_42 : (parseMethodDescriptor "(IILjava/util/function/BiFunction;)I").map (fun d => d.parameters.length) = some 3 := by decide +kernel
theorem pm_43 : (parseMethodDescriptor "(IIILjava/util/function/BiFunction;)I").map (fun d => d.parameters.length) = some 4 := by decide +kernel
theorem pm_44 : (parseMethodDescriptor "(II)V").map (fun d => d.parameters.length) = some 2 := by decide +kernel
theorem pm_45 : (parseMethodDescriptor "([Ljava/lang/Object;I)[Ljava/lang/Object;").map (fun d => d.parameters.length) = some 2 := by decide +kernel
theorem pm_46 : (parseMethodDescriptor "(I)[Ljava/lang/Object;").map (fun d => d.parameters.length) = some 1 := by decide +kernel
theorem pm_47 : (parseMethodDescriptor "()[Ljava/lang/Object;").map (fun d => d.parameters.length) = some 0 := by decide +kernel
theorem pm_48 : (parseMethodDescriptor "(Ljava/lang/Object;[Ljava/lang/Object;I)V").map (fun d => d.parameters.length) = some 3 := by decide +kernel
theorem pm_49 : (parseMethodDescriptor "(Ljava/util/ArrayList;)V").map (fun d => d.parameters.length) = some 1 := by decide +kernel
theorem pm_50 : (parseMethodDescriptor "([Ljava/lang/Object;ILjava/lang/Class;)[Ljava/lang/Object;").map (fun d => d.parameters.length) = some 3 := by decide +kernel
theorem pm_51 : (parseMethodDescriptor "(CC)C").map (fun d => d.parameters.length) = some 2 := by decide +kernel
theorem pm_52 : (parseMethodDescriptor "(CZ)Z").map (fun d => d.parameters.length) = some 2 := by decide +kernel
theorem pm_53 : (parseMethodDescriptor "(C)Z").map (fun d => d.parameters.length) = some 1 := by decide +kernel
theorem pm_54 : (parseMethodDescriptor "(CIII)I").map (fun d => d.parameters.length) = some 4 := by decide +kernel
theorem pm_55 : (parseMethodDescriptor "(IIIII)I").map (fun d => d.parameters.length) = some 5 := by decide +kernel
theorem pm_56 : (parseMethodDescriptor "(IC)I").map (fun d => d.parameters.length) = some 2 := by decide +kernel
theorem pm_57 : (parseMethodDescriptor "(IIII)I").map (fun d => d.parameters.length) = some 4 := by decide +kernel
theorem pm_58 : (parseMethodDescriptor "(IICII)I").map (fun d => d.parameters.length) = some 5 := by decide +kernel
theorem pm_59 : (parseMethodDescriptor "(IIC)I").map (fun d => d.parameters.length) = some 3 := by decide +kernel
theorem pm_60 : (parseMethodDescriptor "()F").map (fun d => d.parameters.length) = some 0 := by decide +kernel
theorem pm_61 : (parseMethodDescriptor "()D").map (fun d => d.parameters.length) = some 0 := by decide +kernel
theorem pm_62 : (parseMethodDescriptor "(Z)Z").map (fun d => d.parameters.length) = some 1 := by decide +kernel
theorem pm_63 : (parseMethodDescriptor "()J").map (fun d => d.parameters.length) = some 0 := by decide +kernel
theorem fl_X0_7 : gq_FL "Graphline$Batch" 7 4 4 := ⟨_, _, _, "Graphline$Batch", rfl, usX0, by decide, Or.inl qw_669, Or.inl rfl⟩
theorem fw_X0_7 : gq_FW "Graphline$Batch" 7 4 4 (.int) := ⟨_, _, _, "Graphline$Batch", tyX0, rfl, usX0, by decide, Or.inl qw_669, Or.inl rfl, tyX0_ok, nmX0, rfl, tyX0_ok 4 (by decide)⟩
theorem fl_X0_13 : gq_FL "Graphline$Batch" 13 4 5 := ⟨_, _, _, "Graphline$Batch", rfl, usX0, by decide, Or.inl qw_671, Or.inl rfl⟩
theorem fw_X0_13 : gq_FW "Graphline$Batch" 13 4 5 (.int) := ⟨_, _, _, "Graphline$Batch", tyX0, rfl, usX0, by decide, Or.inl qw_671, Or.inl rfl, tyX0_ok, nmX0, rfl, tyX0_ok 5 (by decide)⟩
theorem fl_X0_16 : gq_FL "Graphline$Batch" 16 4 6 := ⟨_, _, _, "Graphline$Batch", rfl, usX0, by decide, Or.inl qw_673, Or.inl rfl⟩
theorem fw_X0_16 : gq_FW "Graphline$Batch" 16 4 6 (.int) := ⟨_, _, _, "Graphline$Batch", tyX0, rfl, usX0, by decide, Or.inl qw_673, Or.inl rfl, tyX0_ok, nmX0, rfl, tyX0_ok 6 (by decide)⟩
theorem fl_X0_19 : gq_FL "Graphline$Batch" 19 4 7 := ⟨_, _, _, "Graphline$Batch", rfl, usX0, by decide, Or.inl qw_675, Or.inl rfl⟩
theorem fw_X0_19 : gq_FW "Graphline$Batch" 19 4 7 (.int) := ⟨_, _, _, "Graphline$Batch", tyX0, rfl, usX0, by decide, Or.inl qw_675, Or.inl rfl, tyX0_ok, nmX0, rfl, tyX0_ok 7 (by decide)⟩
theorem fl_X0_22 : gq_FL "Graphline$Batch" 22 4 8 := ⟨_, _, _, "Graphline$Batch", rfl, usX0, by decide, Or.inl qw_677, Or.inl rfl⟩
theorem fw_X0_22 : gq_FW "Graphline$Batch" 22 4 8 (.int) := ⟨_, _, _, "Graphline$Batch", tyX0, rfl, usX0, by decide, Or.inl qw_677, Or.inl rfl, tyX0_ok, nmX0, rfl, tyX0_ok 8 (by decide)⟩
theorem fl_X0_25 : gq_FL "Graphline$Batch" 25 4 9 := ⟨_, _, _, "Graphline$Batch", rfl, usX0, by decide, Or.inl qw_679, Or.inl rfl⟩
theorem fw_X0_25 : gq_FW "Graphline$Batch" 25 4 9 (.int) := ⟨_, _, _, "Graphline$Batch", tyX0, rfl, usX0, by decide, Or.inl qw_679, Or.inl rfl, tyX0_ok, nmX0, rfl, tyX0_ok 9 (by decide)⟩
theorem fl_X0_28 : gq_FL "Graphline$Batch" 28 4 10 := ⟨_, _, _, "Graphline$Batch", rfl, usX0, by decide, Or.inl qw_681, Or.inl rfl⟩
theorem fw_X0_28 : gq_FW "Graphline$Batch" 28 4 10 (.boolean) := ⟨_, _, _, "Graphline$Batch", tyX0, rfl, usX0, by decide, Or.inl qw_681, Or.inl rfl, tyX0_ok, nmX0, rfl, tyX0_ok 10 (by decide)⟩
theorem fl_X0_32 : gq_FL "Graphline$Batch" 32 4 11 := ⟨_, _, _, "Graphline$Batch", rfl, usX0, by decide, Or.inl qw_683, Or.inl rfl⟩
theorem fw_X0_32 : gq_FW "Graphline$Batch" 32 4 11 (.boolean) := ⟨_, _, _, "Graphline$Batch", tyX0, rfl, usX0, by decide, Or.inl qw_683, Or.inl rfl, tyX0_ok, nmX0, rfl, tyX0_ok 11 (by decide)⟩
theorem fl_X0_35 : gq_FL "Graphline$Batch" 35 4 0 := ⟨_, _, _, "Graphline$Batch", rfl, usX0, by decide, Or.inl qw_661, Or.inl rfl⟩
theorem ff_X0_35 : gq_FF "Graphline$Batch" 35 4 0 (.int) := ⟨_, _, _, "Graphline$Batch", tyX0, rfl, usX0, by decide, qw_661, rfl, tyX0_ok, nmX0, rfl, rfl, tyX0_ok 0 (by decide)⟩
theorem fl_X0_38 : gq_FL "Graphline$Batch" 38 4 1 := ⟨_, _, _, "Graphline$Batch", rfl, usX0, by decide, Or.inl qw_663, Or.inl rfl⟩
theorem ff_X0_38 : gq_FF "Graphline$Batch" 38 4 1 (.object "Graphline$Mixture") := ⟨_, _, _, "Graphline$Batch", tyX0, rfl, usX0, by decide, qw_663, rfl, tyX0_ok, nmX0, rfl, rfl, tyX0_ok 1 (by decide)⟩
theorem fl_X0_42 : gq_FL "Graphline$Batch" 42 4 3 := ⟨_, _, _, "Graphline$Batch", rfl, usX0, by decide, Or.inl qw_667, Or.inl rfl⟩
theorem fw_X0_42 : gq_FW "Graphline$Batch" 42 4 3 (.int) := ⟨_, _, _, "Graphline$Batch", tyX0, rfl, usX0, by decide, Or.inl qw_667, Or.inl rfl, tyX0_ok, nmX0, rfl, tyX0_ok 3 (by decide)⟩
theorem fl_X0_45 : gq_FL "Graphline$Batch" 45 4 2 := ⟨_, _, _, "Graphline$Batch", rfl, usX0, by decide, Or.inl qw_665, Or.inl rfl⟩
theorem ff_X0_45 : gq_FF "Graphline$Batch" 45 4 2 (.int) := ⟨_, _, _, "Graphline$Batch", tyX0, rfl, usX0, by decide, qw_665, rfl, tyX0_ok, nmX0, rfl, rfl, tyX0_ok 2 (by decide)⟩
theorem nw_X1_7 : gq_NW "Graphline$Drive" 7 8 3 [.int 0, .int 0, .null] := ⟨_, _, tyX4, rfl, usX4, tyX4_ok, qw_81, qw_82, qw_29, fun j hj => by rcases (show j = 0 ∨ j = 1 ∨ j = 2 by omega) with rfl | rfl | rfl <;> rfl⟩
theorem ln_X1_9 : gq_LI "Graphline$Drive" 9 mX4_init 1 := ⟨Or.inl qw_83, qw_84, qw_29, qw_85, rfl, rfl, rfl, ⟨ne_0.1, ne_0.2, pm_0⟩⟩
theorem fl_X1_12 : gq_FL "Graphline$Drive" 12 5 0 := ⟨_, _, _, "Graphline$Drive", rfl, usX1, by decide, Or.inl qw_102, Or.inl rfl⟩
theorem ff_X1_12 : gq_FF "Graphline$Drive" 12 5 0 (.object "Graphline$Machine") := ⟨_, _, _, "Graphline$Drive", tyX1, rfl, usX1, by decide, qw_102, rfl, tyX1_ok, nmX1, rfl, rfl, tyX1_ok 0 (by decide)⟩
theorem fl_X1_18 : gq_FL "Graphline$Drive" 18 5 1 := ⟨_, _, _, "Graphline$Drive", rfl, usX1, by decide, Or.inl qw_104, Or.inl rfl⟩
theorem ff_X1_18 : gq_FF "Graphline$Drive" 18 5 1 (.object "Graphline$Machine") := ⟨_, _, _, "Graphline$Drive", tyX1, rfl, usX1, by decide, qw_104, rfl, tyX1_ok, nmX1, rfl, rfl, tyX1_ok 1 (by decide)⟩
theorem fl_X1_21 : gq_FL "Graphline$Drive" 21 5 2 := ⟨_, _, _, "Graphline$Drive", rfl, usX1, by decide, Or.inl qw_106, Or.inl rfl⟩
theorem ff_X1_21 : gq_FF "Graphline$Drive" 21 5 2 (.object "Graphline$Machine") := ⟨_, _, _, "Graphline$Drive", tyX1, rfl, usX1, by decide, qw_106, rfl, tyX1_ok, nmX1, rfl, rfl, tyX1_ok 2 (by decide)⟩
theorem fl_X1_24 : gq_FL "Graphline$Drive" 24 5 3 := ⟨_, _, _, "Graphline$Drive", rfl, usX1, by decide, Or.inl qw_108, Or.inl rfl⟩
theorem ff_X1_24 : gq_FF "Graphline$Drive" 24 5 3 (.object "Graphline$Machine") := ⟨_, _, _, "Graphline$Drive", tyX1, rfl, usX1, by decide, qw_108, rfl, tyX1_ok, nmX1, rfl, rfl, tyX1_ok 3 (by decide)⟩
theorem fl_X1_27 : gq_FL "Graphline$Drive" 27 5 4 := ⟨_, _, _, "Graphline$Drive", rfl, usX1, by decide, Or.inl qw_110, Or.inl rfl⟩
theorem fw_X1_27 : gq_FW "Graphline$Drive" 27 5 4 (.boolean) := ⟨_, _, _, "Graphline$Drive", tyX1, rfl, usX1, by decide, Or.inl qw_110, Or.inl rfl, tyX1_ok, nmX1, rfl, tyX1_ok 4 (by decide)⟩
theorem fl_X1_31 : gq_FL "Graphline$Drive" 31 8 1 := ⟨_, _, _, "Graphline$Machine", rfl, usX4, by decide, Or.inl qw_90, Or.inl rfl⟩
theorem fl_X1_34 : gq_FL "Graphline$Drive" 34 8 2 := ⟨_, _, _, "Graphline$Machine", rfl, usX4, by decide, Or.inl qw_93, Or.inl rfl⟩
theorem ln_X1_37 : gq_LS "Graphline$Drive" 37 mX1_hangsOnShaft 1 := ⟨qw_276, qw_277, qw_28, qw_278, rfl, ⟨ne_1.1, ne_1.2, pm_1⟩⟩
theorem nw_X2_7 : gq_NW "Graphline$Gross" 7 3 3 [.int 0, .null, .int 0] := ⟨_, _, tyJx4a65c, rfl, usJx4a65c, tyJx4a65c_ok, qw_1026, qw_137, qw_33, fun j hj => by rcases (show j = 0 ∨ j = 1 ∨ j = 2 by omega) with rfl | rfl | rfl <;> rfl⟩
theorem ln_X2_9 : gq_LI "Graphline$Gross" 9 mJx4a65c_init_da8c8 0 := ⟨Or.inl qw_1027, qw_139, qw_33, qw_140, rfl, rfl, rfl, ⟨ne_2.1, ne_2.2, pm_2⟩⟩
theorem fl_X2_10 : gq_FL "Graphline$Gross" 10 6 1 := ⟨_, _, _, "Graphline$Gross", rfl, usX2, by decide, Or.inl qw_1030, Or.inl rfl⟩
theorem ff_X2_10 : gq_FF "Graphline$Gross" 10 6 1 (.object "java/util/ArrayList") := ⟨_, _, _, "Graphline$Gross", tyX2, rfl, usX2, by decide, qw_1030, rfl, tyX2_ok, nmX2, rfl, rfl, tyX2_ok 1 (by decide)⟩
theorem fl_X2_16 : gq_FL "Graphline$Gross" 16 6 2 := ⟨_, _, _, "Graphline$Gross", rfl, usX2, by decide, Or.inl qw_1032, Or.inl rfl⟩
theorem fw_X2_16 : gq_FW "Graphline$Gross" 16 6 2 (.int) := ⟨_, _, _, "Graphline$Gross", tyX2, rfl, usX2, by decide, Or.inl qw_1032, Or.inl rfl, tyX2_ok, nmX2, rfl, tyX2_ok 2 (by decide)⟩
theorem fl_X2_20 : gq_FL "Graphline$Gross" 20 6 3 := ⟨_, _, _, "Graphline$Gross", rfl, usX2, by decide, Or.inl qw_1034, Or.inl rfl⟩
theorem fw_X2_20 : gq_FW "Graphline$Gross" 20 6 3 (.boolean) := ⟨_, _, _, "Graphline$Gross", tyX2, rfl, usX2, by decide, Or.inl qw_1034, Or.inl rfl, tyX2_ok, nmX2, rfl, tyX2_ok 3 (by decide)⟩
theorem fl_X2_24 : gq_FL "Graphline$Gross" 24 6 0 := ⟨_, _, _, "Graphline$Gross", rfl, usX2, by decide, Or.inl qw_1028, Or.inl rfl⟩
theorem ff_X2_24 : gq_FF "Graphline$Gross" 24 6 0 (.int) := ⟨_, _, _, "Graphline$Gross", tyX2, rfl, usX2, by decide, qw_1028, rfl, tyX2_ok, nmX2, rfl, rfl, tyX2_ok 0 (by decide)⟩
theorem fl_X3_7 : gq_FL "Graphline$Lot" 7 7 0 := ⟨_, _, _, "Graphline$Lot", rfl, usX3, by decide, Or.inl qw_450, Or.inl rfl⟩
theorem ff_X3_7 : gq_FF "Graphline$Lot" 7 7 0 (.char) := ⟨_, _, _, "Graphline$Lot", tyX3, rfl, usX3, by decide, qw_450, rfl, tyX3_ok, nmX3, rfl, rfl, tyX3_ok 0 (by decide)⟩
theorem fl_X3_13 : gq_FL "Graphline$Lot" 13 7 1 := ⟨_, _, _, "Graphline$Lot", rfl, usX3, by decide, Or.inl qw_452, Or.inl rfl⟩
theorem ff_X3_13 : gq_FF "Graphline$Lot" 13 7 1 (.int) := ⟨_, _, _, "Graphline$Lot", tyX3, rfl, usX3, by decide, qw_452, rfl, tyX3_ok, nmX3, rfl, rfl, tyX3_ok 1 (by decide)⟩
theorem fl_X3_17 : gq_FL "Graphline$Lot" 17 7 2 := ⟨_, _, _, "Graphline$Lot", rfl, usX3, by decide, Or.inl qw_454, Or.inl rfl⟩
theorem ff_X3_17 : gq_FF "Graphline$Lot" 17 7 2 (.int) := ⟨_, _, _, "Graphline$Lot", tyX3, rfl, usX3, by decide, qw_454, rfl, tyX3_ok, nmX3, rfl, rfl, tyX3_ok 2 (by decide)⟩
theorem fl_X3_20 : gq_FL "Graphline$Lot" 20 7 3 := ⟨_, _, _, "Graphline$Lot", rfl, usX3, by decide, Or.inl qw_456, Or.inl rfl⟩
theorem fw_X3_20 : gq_FW "Graphline$Lot" 20 7 3 (.int) := ⟨_, _, _, "Graphline$Lot", tyX3, rfl, usX3, by decide, Or.inl qw_456, Or.inl rfl, tyX3_ok, nmX3, rfl, tyX3_ok 3 (by decide)⟩
theorem fl_X4_7 : gq_FL "Graphline$Machine" 7 8 1 := ⟨_, _, _, "Graphline$Machine", rfl, usX4, by decide, Or.inl qw_89, Or.inl rfl⟩
theorem fw_X4_7 : gq_FW "Graphline$Machine" 7 8 1 (.boolean) := ⟨_, _, _, "Graphline$Machine", tyX4, rfl, usX4, by decide, Or.inl qw_89, Or.inl rfl, tyX4_ok, nmX4, rfl, tyX4_ok 1 (by decide)⟩
theorem fl_X4_13 : gq_FL "Graphline$Machine" 13 8 2 := ⟨_, _, _, "Graphline$Machine", rfl, usX4, by decide, Or.inl qw_92, Or.inl rfl⟩
theorem fw_X4_13 : gq_FW "Graphline$Machine" 13 8 2 (.object "Graphline$Machine") := ⟨_, _, _, "Graphline$Machine", tyX4, rfl, usX4, by decide, Or.inl qw_92, Or.inl rfl, tyX4_ok, nmX4, rfl, tyX4_ok 2 (by decide)⟩
theorem fl_X4_17 : gq_FL "Graphline$Machine" 17 8 0 := ⟨_, _, _, "Graphline$Machine", rfl, usX4, by decide, Or.inl qw_87, Or.inl rfl⟩
theorem ff_X4_17 : gq_FF "Graphline$Machine" 17 8 0 (.char) := ⟨_, _, _, "Graphline$Machine", tyX4, rfl, usX4, by decide, qw_87, rfl, tyX4_ok, nmX4, rfl, rfl, tyX4_ok 0 (by decide)⟩
theorem fl_X5_7 : gq_FL "Graphline$Mixture" 7 9 0 := ⟨_, _, _, "Graphline$Mixture", rfl, usX5, by decide, Or.inl qw_610, Or.inl rfl⟩
theorem ff_X5_7 : gq_FF "Graphline$Mixture" 7 9 0 (.int) := ⟨_, _, _, "Graphline$Mixture", tyX5, rfl, usX5, by decide, qw_610, rfl, tyX5_ok, nmX5, rfl, rfl, tyX5_ok 0 (by decide)⟩
theorem fl_X5_13 : gq_FL "Graphline$Mixture" 13 9 1 := ⟨_, _, _, "Graphline$Mixture", rfl, usX5, by decide, Or.inl qw_612, Or.inl rfl⟩
theorem ff_X5_13 : gq_FF "Graphline$Mixture" 13 9 1 (.int) := ⟨_, _, _, "Graphline$Mixture", tyX5, rfl, usX5, by decide, qw_612, rfl, tyX5_ok, nmX5, rfl, rfl, tyX5_ok 1 (by decide)⟩
theorem fl_X5_16 : gq_FL "Graphline$Mixture" 16 9 2 := ⟨_, _, _, "Graphline$Mixture", rfl, usX5, by decide, Or.inl qw_614, Or.inl rfl⟩
theorem ff_X5_16 : gq_FF "Graphline$Mixture" 16 9 2 (.int) := ⟨_, _, _, "Graphline$Mixture", tyX5, rfl, usX5, by decide, qw_614, rfl, tyX5_ok, nmX5, rfl, rfl, tyX5_ok 2 (by decide)⟩
theorem fl_X5_19 : gq_FL "Graphline$Mixture" 19 9 3 := ⟨_, _, _, "Graphline$Mixture", rfl, usX5, by decide, Or.inl qw_616, Or.inl rfl⟩
theorem ff_X5_19 : gq_FF "Graphline$Mixture" 19 9 3 (.int) := ⟨_, _, _, "Graphline$Mixture", tyX5, rfl, usX5, by decide, qw_616, rfl, tyX5_ok, nmX5, rfl, rfl, tyX5_ok 3 (by decide)⟩
theorem fl_X5_22 : gq_FL "Graphline$Mixture" 22 9 4 := ⟨_, _, _, "Graphline$Mixture", rfl, usX5, by decide, Or.inl qw_618, Or.inl rfl⟩
theorem fw_X5_22 : gq_FW "Graphline$Mixture" 22 9 4 (.int) := ⟨_, _, _, "Graphline$Mixture", tyX5, rfl, usX5, by decide, Or.inl qw_618, Or.inl rfl, tyX5_ok, nmX5, rfl, tyX5_ok 4 (by decide)⟩
theorem fl_X6_7 : gq_FL "Graphline$Order" 7 10 3 := ⟨_, _, _, "Graphline$Order", rfl, usX6, by decide, Or.inl qw_1100, Or.inl rfl⟩
theorem fw_X6_7 : gq_FW "Graphline$Order" 7 10 3 (.boolean) := ⟨_, _, _, "Graphline$Order", tyX6, rfl, usX6, by decide, Or.inl qw_1100, Or.inl rfl, tyX6_ok, nmX6, rfl, tyX6_ok 3 (by decide)⟩
theorem fl_X6_13 : gq_FL "Graphline$Order" 13 10 0 := ⟨_, _, _, "Graphline$Order", rfl, usX6, by decide, Or.inl qw_1094, Or.inl rfl⟩
theorem ff_X6_13 : gq_FF "Graphline$Order" 13 10 0 (.int) := ⟨_, _, _, "Graphline$Order", tyX6, rfl, usX6, by decide, qw_1094, rfl, tyX6_ok, nmX6, rfl, rfl, tyX6_ok 0 (by decide)⟩
theorem fl_X6_17 : gq_FL "Graphline$Order" 17 10 2 := ⟨_, _, _, "Graphline$Order", rfl, usX6, by decide, Or.inl qw_1098, Or.inl rfl⟩
theorem fw_X6_17 : gq_FW "Graphline$Order" 17 10 2 (.int) := ⟨_, _, _, "Graphline$Order", tyX6, rfl, usX6, by decide, Or.inl qw_1098, Or.inl rfl, tyX6_ok, nmX6, rfl, tyX6_ok 2 (by decide)⟩
theorem fl_X6_20 : gq_FL "Graphline$Order" 20 10 1 := ⟨_, _, _, "Graphline$Order", rfl, usX6, by decide, Or.inl qw_1096, Or.inl rfl⟩
theorem ff_X6_20 : gq_FF "Graphline$Order" 20 10 1 (.int) := ⟨_, _, _, "Graphline$Order", tyX6, rfl, usX6, by decide, qw_1096, rfl, tyX6_ok, nmX6, rfl, rfl, tyX6_ok 1 (by decide)⟩
theorem fl_X7_7 : gq_FL "Graphline$Part" 7 11 0 := ⟨_, _, _, "Graphline$Part", rfl, usX7, by decide, Or.inl qw_1065, Or.inl rfl⟩
theorem ff_X7_7 : gq_FF "Graphline$Part" 7 11 0 (.object "Graphline$Run") := ⟨_, _, _, "Graphline$Part", tyX7, rfl, usX7, by decide, qw_1065, rfl, tyX7_ok, nmX7, rfl, rfl, tyX7_ok 0 (by decide)⟩
theorem fl_X7_13 : gq_FL "Graphline$Part" 13 11 1 := ⟨_, _, _, "Graphline$Part", rfl, usX7, by decide, Or.inl qw_1067, Or.inl rfl⟩
theorem ff_X7_13 : gq_FF "Graphline$Part" 13 11 1 (.int) := ⟨_, _, _, "Graphline$Part", tyX7, rfl, usX7, by decide, qw_1067, rfl, tyX7_ok, nmX7, rfl, rfl, tyX7_ok 1 (by decide)⟩
theorem fl_X7_17 : gq_FL "Graphline$Part" 17 11 2 := ⟨_, _, _, "Graphline$Part", rfl, usX7, by decide, Or.inl qw_1069, Or.inl rfl⟩
theorem ff_X7_17 : gq_FF "Graphline$Part" 17 11 2 (.int) := ⟨_, _, _, "Graphline$Part", tyX7, rfl, usX7, by decide, qw_1069, rfl, tyX7_ok, nmX7, rfl, rfl, tyX7_ok 2 (by decide)⟩
theorem fl_X8_7 : gq_FL "Graphline$Run" 7 12 6 := ⟨_, _, _, "Graphline$Run", rfl, usX8, by decide, Or.inl qw_899, Or.inl rfl⟩
theorem fw_X8_7 : gq_FW "Graphline$Run" 7 12 6 (.int) := ⟨_, _, _, "Graphline$Run", tyX8, rfl, usX8, by decide, Or.inl qw_899, Or.inl rfl, tyX8_ok, nmX8, rfl, tyX8_ok 6 (by decide)⟩
theorem fl_X8_13 : gq_FL "Graphline$Run" 13 12 7 := ⟨_, _, _, "Graphline$Run", rfl, usX8, by decide, Or.inl qw_901, Or.inl rfl⟩
theorem fw_X8_13 : gq_FW "Graphline$Run" 13 12 7 (.int) := ⟨_, _, _, "Graphline$Run", tyX8, rfl, usX8, by decide, Or.inl qw_901, Or.inl rfl, tyX8_ok, nmX8, rfl, tyX8_ok 7 (by decide)⟩
theorem fl_X8_16 : gq_FL "Graphline$Run" 16 12 8 := ⟨_, _, _, "Graphline$Run", rfl, usX8, by decide, Or.inl qw_903, Or.inl rfl⟩
theorem fw_X8_16 : gq_FW "Graphline$Run" 16 12 8 (.int) := ⟨_, _, _, "Graphline$Run", tyX8, rfl, usX8, by decide, Or.inl qw_903, Or.inl rfl, tyX8_ok, nmX8, rfl, tyX8_ok 8 (by decide)⟩
theorem fl_X8_19 : gq_FL "Graphline$Run" 19 12 9 := ⟨_, _, _, "Graphline$Run", rfl, usX8, by decide, Or.inl qw_905, Or.inl rfl⟩
theorem fw_X8_19 : gq_FW "Graphline$Run" 19 12 9 (.int) := ⟨_, _, _, "Graphline$Run", tyX8, rfl, usX8, by decide, Or.inl qw_905, Or.inl rfl, tyX8_ok, nmX8, rfl, tyX8_ok 9 (by decide)⟩
theorem fl_X8_22 : gq_FL "Graphline$Run" 22 12 11 := ⟨_, _, _, "Graphline$Run", rfl, usX8, by decide, Or.inl qw_909, Or.inl rfl⟩
theorem fw_X8_22 : gq_FW "Graphline$Run" 22 12 11 (.boolean) := ⟨_, _, _, "Graphline$Run", tyX8, rfl, usX8, by decide, Or.inl qw_909, Or.inl rfl, tyX8_ok, nmX8, rfl, tyX8_ok 11 (by decide)⟩
theorem fl_X8_26 : gq_FL "Graphline$Run" 26 12 0 := ⟨_, _, _, "Graphline$Run", rfl, usX8, by decide, Or.inl qw_887, Or.inl rfl⟩
theorem ff_X8_26 : gq_FF "Graphline$Run" 26 12 0 (.int) := ⟨_, _, _, "Graphline$Run", tyX8, rfl, usX8, by decide, qw_887, rfl, tyX8_ok, nmX8, rfl, rfl, tyX8_ok 0 (by decide)⟩
theorem fl_X8_29 : gq_FL "Graphline$Run" 29 12 1 := ⟨_, _, _, "Graphline$Run", rfl, usX8, by decide, Or.inl qw_889, Or.inl rfl⟩
theorem ff_X8_29 : gq_FF "Graphline$Run" 29 12 1 (.object "Graphline$Batch") := ⟨_, _, _, "Graphline$Run", tyX8, rfl, usX8, by decide, qw_889, rfl, tyX8_ok, nmX8, rfl, rfl, tyX8_ok 1 (by decide)⟩
theorem fl_X8_33 : gq_FL "Graphline$Run" 33 12 2 := ⟨_, _, _, "Graphline$Run", rfl, usX8, by decide, Or.inl qw_891, Or.inl rfl⟩
theorem ff_X8_33 : gq_FF "Graphline$Run" 33 12 2 (.object "Graphline$SlatLot") := ⟨_, _, _, "Graphline$Run", tyX8, rfl, usX8, by decide, qw_891, rfl, tyX8_ok, nmX8, rfl, rfl, tyX8_ok 2 (by decide)⟩
theorem fl_X8_37 : gq_FL "Graphline$Run" 37 12 3 := ⟨_, _, _, "Graphline$Run", rfl, usX8, by decide, Or.inl qw_893, Or.inl rfl⟩
theorem ff_X8_37 : gq_FF "Graphline$Run" 37 12 3 (.int) := ⟨_, _, _, "Graphline$Run", tyX8, rfl, usX8, by decide, qw_893, rfl, tyX8_ok, nmX8, rfl, rfl, tyX8_ok 3 (by decide)⟩
theorem fl_X8_40 : gq_FL "Graphline$Run" 40 12 5 := ⟨_, _, _, "Graphline$Run", rfl, usX8, by decide, Or.inl qw_897, Or.inl rfl⟩
theorem fw_X8_40 : gq_FW "Graphline$Run" 40 12 5 (.int) := ⟨_, _, _, "Graphline$Run", tyX8, rfl, usX8, by decide, Or.inl qw_897, Or.inl rfl, tyX8_ok, nmX8, rfl, tyX8_ok 5 (by decide)⟩
theorem fl_X8_43 : gq_FL "Graphline$Run" 43 12 4 := ⟨_, _, _, "Graphline$Run", rfl, usX8, by decide, Or.inl qw_895, Or.inl rfl⟩
theorem ff_X8_43 : gq_FF "Graphline$Run" 43 12 4 (.int) := ⟨_, _, _, "Graphline$Run", tyX8, rfl, usX8, by decide, qw_895, rfl, tyX8_ok, nmX8, rfl, rfl, tyX8_ok 4 (by decide)⟩
theorem fl_X8_46 : gq_FL "Graphline$Run" 46 12 10 := ⟨_, _, _, "Graphline$Run", rfl, usX8, by decide, Or.inl qw_907, Or.inl rfl⟩
theorem fw_X8_46 : gq_FW "Graphline$Run" 46 12 10 (.int) := ⟨_, _, _, "Graphline$Run", tyX8, rfl, usX8, by decide, Or.inl qw_907, Or.inl rfl, tyX8_ok, nmX8, rfl, tyX8_ok 10 (by decide)⟩
theorem fl_X9_7 : gq_FL "Graphline$SlatLot" 7 13 5 := ⟨_, _, _, "Graphline$SlatLot", rfl, usX9, by decide, Or.inl qw_809, Or.inl rfl⟩
theorem fw_X9_7 : gq_FW "Graphline$SlatLot" 7 13 5 (.int) := ⟨_, _, _, "Graphline$SlatLot", tyX9, rfl, usX9, by decide, Or.inl qw_809, Or.inl rfl, tyX9_ok, nmX9, rfl, tyX9_ok 5 (by decide)⟩
theorem fl_X9_13 : gq_FL "Graphline$SlatLot" 13 13 6 := ⟨_, _, _, "Graphline$SlatLot", rfl, usX9, by decide, Or.inl qw_811, Or.inl rfl⟩
theorem fw_X9_13 : gq_FW "Graphline$SlatLot" 13 13 6 (.int) := ⟨_, _, _, "Graphline$SlatLot", tyX9, rfl, usX9, by decide, Or.inl qw_811, Or.inl rfl, tyX9_ok, nmX9, rfl, tyX9_ok 6 (by decide)⟩
theorem fl_X9_16 : gq_FL "Graphline$SlatLot" 16 13 0 := ⟨_, _, _, "Graphline$SlatLot", rfl, usX9, by decide, Or.inl qw_799, Or.inl rfl⟩
theorem ff_X9_16 : gq_FF "Graphline$SlatLot" 16 13 0 (.int) := ⟨_, _, _, "Graphline$SlatLot", tyX9, rfl, usX9, by decide, qw_799, rfl, tyX9_ok, nmX9, rfl, rfl, tyX9_ok 0 (by decide)⟩
theorem fl_X9_19 : gq_FL "Graphline$SlatLot" 19 13 1 := ⟨_, _, _, "Graphline$SlatLot", rfl, usX9, by decide, Or.inl qw_801, Or.inl rfl⟩
theorem ff_X9_19 : gq_FF "Graphline$SlatLot" 19 13 1 (.char) := ⟨_, _, _, "Graphline$SlatLot", tyX9, rfl, usX9, by decide, qw_801, rfl, tyX9_ok, nmX9, rfl, rfl, tyX9_ok 1 (by decide)⟩
theorem fl_X9_23 : gq_FL "Graphline$SlatLot" 23 13 2 := ⟨_, _, _, "Graphline$SlatLot", rfl, usX9, by decide, Or.inl qw_803, Or.inl rfl⟩
theorem ff_X9_23 : gq_FF "Graphline$SlatLot" 23 13 2 (.int) := ⟨_, _, _, "Graphline$SlatLot", tyX9, rfl, usX9, by decide, qw_803, rfl, tyX9_ok, nmX9, rfl, rfl, tyX9_ok 2 (by decide)⟩
theorem fl_X9_26 : gq_FL "Graphline$SlatLot" 26 13 3 := ⟨_, _, _, "Graphline$SlatLot", rfl, usX9, by decide, Or.inl qw_805, Or.inl rfl⟩
theorem fw_X9_26 : gq_FW "Graphline$SlatLot" 26 13 3 (.int) := ⟨_, _, _, "Graphline$SlatLot", tyX9, rfl, usX9, by decide, Or.inl qw_805, Or.inl rfl, tyX9_ok, nmX9, rfl, tyX9_ok 3 (by decide)⟩
theorem fl_X9_29 : gq_FL "Graphline$SlatLot" 29 13 4 := ⟨_, _, _, "Graphline$SlatLot", rfl, usX9, by decide, Or.inl qw_807, Or.inl rfl⟩
theorem fw_X9_29 : gq_FW "Graphline$SlatLot" 29 13 4 (.int) := ⟨_, _, _, "Graphline$SlatLot", tyX9, rfl, usX9, by decide, Or.inl qw_807, Or.inl rfl, tyX9_ok, nmX9, rfl, tyX9_ok 4 (by decide)⟩
theorem fl_X10_9 : gq_FL "Graphline$Wheel" 9 14 0 := ⟨_, _, _, "Graphline$Wheel", rfl, usX10, by decide, Or.inl qw_129, Or.inl rfl⟩
theorem fw_X10_9 : gq_FW "Graphline$Wheel" 9 14 0 (.int) := ⟨_, _, _, "Graphline$Wheel", tyX10, rfl, usX10, by decide, Or.inl qw_129, Or.inl rfl, tyX10_ok, nmX10, rfl, tyX10_ok 0 (by decide)⟩
theorem fl_X10_15 : gq_FL "Graphline$Wheel" 15 14 1 := ⟨_, _, _, "Graphline$Wheel", rfl, usX10, by decide, Or.inl qw_130, Or.inl rfl⟩
theorem fw_X10_15 : gq_FW "Graphline$Wheel" 15 14 1 (.int) := ⟨_, _, _, "Graphline$Wheel", tyX10, rfl, usX10, by decide, Or.inl qw_130, Or.inl rfl, tyX10_ok, nmX10, rfl, tyX10_ok 1 (by decide)⟩
theorem ln_X10_18 : (("Graphline$Wheel", 18, mX11_clamped.1, "Graphline") ∈ gq_nm) ∧ (Cond.static mX11_clamped.1 ∈ gq_ws ∧ Cond.initialized mX11_clamped.1.cls ∈ gq_ws ∧ gq_hd mX11_clamped ∈ gq_ws ∧ mX11_clamped.2.2.2.2.2 = [] ∧ (mX11_clamped.1.cls ≠ "java/lang/invoke/MethodHandle" ∧ mX11_clamped.1.cls ≠ "java/lang/invoke/VarHandle" ∧ (parseMethodDescriptor mX11_clamped.1.desc).map (fun d => d.parameters.length) = some 3)) := ⟨by decide +kernel, qw_600, qw_27, qw_601, rfl, ⟨ne_3.1, ne_3.2, pm_3⟩⟩
theorem nw_X11_7 : gq_NW "Graphline" 7 5 5 [.null, .null, .null, .null, .int 0] := ⟨_, _, tyX1, rfl, usX1, tyX1_ok, qw_75, qw_76, qw_28, fun j hj => by rcases (show j = 0 ∨ j = 1 ∨ j = 2 ∨ j = 3 ∨ j = 4 by omega) with rfl | rfl | rfl | rfl | rfl <;> rfl⟩
theorem ln_X11_9 : gq_LI "Graphline" 9 mX1_init 0 := ⟨Or.inr ⟨_, (by decide +kernel : ("Graphline", 9, yX1_init, "Graphline") ∈ gq_nm)⟩, qw_78, qw_28, qw_79, rfl, rfl, rfl, ⟨ne_1.1, ne_1.2, pm_2⟩⟩
theorem fl_X11_10 : gq_FL "Graphline" 10 15 0 := ⟨_, _, _, "Graphline", rfl, usX11, by decide, Or.inl qw_165, Or.inl rfl⟩
theorem ff_X11_10 : gq_FF "Graphline" 10 15 0 (.object "Graphline$Drive") := ⟨_, _, _, "Graphline", tyX11, rfl, usX11, by decide, qw_165, rfl, tyX11_ok, nmX11, rfl, rfl, tyX11_ok 0 (by decide)⟩
theorem nw_X11_16 : gq_NW "Graphline" 16 14 2 [.int 0, .int 0] := ⟨_, _, tyX10, rfl, usX10, tyX10_ok, qw_123, qw_124, qw_30, fun j hj => by rcases (show j = 0 ∨ j = 1 by omega) with rfl | rfl <;> rfl⟩
theorem ln_X11_18 : gq_LI "Graphline" 18 mX10_init 0 := ⟨Or.inr ⟨_, (by decide +kernel : ("Graphline", 18, yX10_init, "Graphline") ∈ gq_nm)⟩, qw_126, qw_30, qw_127, rfl, rfl, rfl, ⟨ne_4.1, ne_4.2, pm_2⟩⟩
theorem fl_X11_19 : gq_FL "Graphline" 19 15 1 := ⟨_, _, _, "Graphline", rfl, usX11, by decide, Or.inl qw_166, Or.inl rfl⟩
theorem ff_X11_19 : gq_FF "Graphline" 19 15 1 (.object "Graphline$Wheel") := ⟨_, _, _, "Graphline", tyX11, rfl, usX11, by decide, qw_166, rfl, tyX11_ok, nmX11, rfl, rfl, tyX11_ok 1 (by decide)⟩
theorem nw_X11_23 : gq_NW "Graphline" 23 3 3 [.int 0, .null, .int 0] := ⟨_, _, tyJx4a65c, rfl, usJx4a65c, tyJx4a65c_ok, qw_136, qw_137, qw_33, fun j hj => by rcases (show j = 0 ∨ j = 1 ∨ j = 2 by omega) with rfl | rfl | rfl <;> rfl⟩
theorem ln_X11_25 : gq_LI "Graphline" 25 mJx4a65c_init_da8c8 0 := ⟨Or.inl qw_138, qw_139, qw_33, qw_140, rfl, rfl, rfl, ⟨ne_2.1, ne_2.2, pm_2⟩⟩
theorem fl_X11_26 : gq_FL "Graphline" 26 15 2 := ⟨_, _, _, "Graphline", rfl, usX11, by decide, Or.inl qw_167, Or.inl rfl⟩
theorem ff_X11_26 : gq_FF "Graphline" 26 15 2 (.object "java/util/ArrayList") := ⟨_, _, _, "Graphline", tyX11, rfl, usX11, by decide, qw_167, rfl, tyX11_ok, nmX11, rfl, rfl, tyX11_ok 2 (by decide)⟩
theorem fl_X11_30 : gq_FL "Graphline" 30 15 3 := ⟨_, _, _, "Graphline", rfl, usX11, by decide, Or.inl qw_168, Or.inl rfl⟩
theorem ff_X11_30 : gq_FF "Graphline" 30 15 3 (.object "java/util/ArrayList") := ⟨_, _, _, "Graphline", tyX11, rfl, usX11, by decide, qw_168, rfl, tyX11_ok, nmX11, rfl, rfl, tyX11_ok 3 (by decide)⟩
theorem fl_X11_33 : gq_FL "Graphline" 33 15 4 := ⟨_, _, _, "Graphline", rfl, usX11, by decide, Or.inl qw_169, Or.inl rfl⟩
theorem ff_X11_33 : gq_FF "Graphline" 33 15 4 (.object "java/util/ArrayList") := ⟨_, _, _, "Graphline", tyX11, rfl, usX11, by decide, qw_169, rfl, tyX11_ok, nmX11, rfl, rfl, tyX11_ok 4 (by decide)⟩
theorem fl_X11_36 : gq_FL "Graphline" 36 15 5 := ⟨_, _, _, "Graphline", rfl, usX11, by decide, Or.inl qw_170, Or.inl rfl⟩
theorem ff_X11_36 : gq_FF "Graphline" 36 15 5 (.object "java/util/ArrayList") := ⟨_, _, _, "Graphline", tyX11, rfl, usX11, by decide, qw_170, rfl, tyX11_ok, nmX11, rfl, rfl, tyX11_ok 5 (by decide)⟩
theorem fl_X11_39 : gq_FL "Graphline" 39 15 6 := ⟨_, _, _, "Graphline", rfl, usX11, by decide, Or.inl qw_171, Or.inl rfl⟩
theorem ff_X11_39 : gq_FF "Graphline" 39 15 6 (.object "java/util/ArrayList") := ⟨_, _, _, "Graphline", tyX11, rfl, usX11, by decide, qw_171, rfl, tyX11_ok, nmX11, rfl, rfl, tyX11_ok 6 (by decide)⟩
theorem fl_X11_42 : gq_FL "Graphline" 42 15 7 := ⟨_, _, _, "Graphline", rfl, usX11, by decide, Or.inl qw_172, Or.inl rfl⟩
theorem ff_X11_42 : gq_FF "Graphline" 42 15 7 (.object "java/util/ArrayList") := ⟨_, _, _, "Graphline", tyX11, rfl, usX11, by decide, qw_172, rfl, tyX11_ok, nmX11, rfl, rfl, tyX11_ok 7 (by decide)⟩
theorem fl_X11_45 : gq_FL "Graphline" 45 15 8 := ⟨_, _, _, "Graphline", rfl, usX11, by decide, Or.inl qw_173, Or.inl rfl⟩
theorem ff_X11_45 : gq_FF "Graphline" 45 15 8 (.object "java/util/ArrayList") := ⟨_, _, _, "Graphline", tyX11, rfl, usX11, by decide, qw_173, rfl, tyX11_ok, nmX11, rfl, rfl, tyX11_ok 8 (by decide)⟩
theorem fl_X11_48 : gq_FL "Graphline" 48 15 9 := ⟨_, _, _, "Graphline", rfl, usX11, by decide, Or.inl qw_174, Or.inl rfl⟩
theorem ff_X11_48 : gq_FF "Graphline" 48 15 9 (.array .int) := ⟨_, _, _, "Graphline", tyX11, rfl, usX11, by decide, qw_174, rfl, tyX11_ok, nmX11, rfl, rfl, tyX11_ok 9 (by decide)⟩
theorem fl_X11_52 : gq_FL "Graphline" 52 15 10 := ⟨_, _, _, "Graphline", rfl, usX11, by decide, Or.inl qw_175, Or.inl rfl⟩
theorem ff_X11_52 : gq_FF "Graphline" 52 15 10 (.array .int) := ⟨_, _, _, "Graphline", tyX11, rfl, usX11, by decide, qw_175, rfl, tyX11_ok, nmX11, rfl, rfl, tyX11_ok 10 (by decide)⟩
theorem fl_X11_55 : gq_FL "Graphline" 55 15 11 := ⟨_, _, _, "Graphline", rfl, usX11, by decide, Or.inl qw_176, Or.inl rfl⟩
theorem fw_X11_55 : gq_FW "Graphline" 55 15 11 (.int) := ⟨_, _, _, "Graphline", tyX11, rfl, usX11, by decide, Or.inl qw_176, Or.inl rfl, tyX11_ok, nmX11, rfl, tyX11_ok 11 (by decide)⟩
theorem fl_X11_59 : gq_FL "Graphline" 59 15 12 := ⟨_, _, _, "Graphline", rfl, usX11, by decide, Or.inl qw_177, Or.inl rfl⟩
theorem fw_X11_59 : gq_FW "Graphline" 59 15 12 (.int) := ⟨_, _, _, "Graphline", tyX11, rfl, usX11, by decide, Or.inl qw_177, Or.inl rfl, tyX11_ok, nmX11, rfl, tyX11_ok 12 (by decide)⟩
theorem fl_X11_62 : gq_FL "Graphline" 62 15 13 := ⟨_, _, _, "Graphline", rfl, usX11, by decide, Or.inl qw_178, Or.inl rfl⟩
theorem fw_X11_62 : gq_FW "Graphline" 62 15 13 (.int) := ⟨_, _, _, "Graphline", tyX11, rfl, usX11, by decide, Or.inl qw_178, Or.inl rfl, tyX11_ok, nmX11, rfl, tyX11_ok 13 (by decide)⟩
theorem fl_X11_65 : gq_FL "Graphline" 65 15 14 := ⟨_, _, _, "Graphline", rfl, usX11, by decide, Or.inl qw_179, Or.inl rfl⟩
theorem fw_X11_65 : gq_FW "Graphline" 65 15 14 (.int) := ⟨_, _, _, "Graphline", tyX11, rfl, usX11, by decide, Or.inl qw_179, Or.inl rfl, tyX11_ok, nmX11, rfl, tyX11_ok 14 (by decide)⟩
theorem fl_X11_68 : gq_FL "Graphline" 68 15 15 := ⟨_, _, _, "Graphline", rfl, usX11, by decide, Or.inl qw_180, Or.inl rfl⟩
theorem fw_X11_68 : gq_FW "Graphline" 68 15 15 (.int) := ⟨_, _, _, "Graphline", tyX11, rfl, usX11, by decide, Or.inl qw_180, Or.inl rfl, tyX11_ok, nmX11, rfl, tyX11_ok 15 (by decide)⟩
theorem ln_X11_71 : gq_LS "Graphline" 71 mX11_isOutside 3 := ⟨qw_292, qw_293, qw_27, qw_294, rfl, ⟨ne_3.1, ne_3.2, pm_4⟩⟩
theorem fl_X11_87 : gq_FL "Graphline" 87 5 4 := ⟨_, _, _, "Graphline$Drive", rfl, usX1, by decide, Or.inl qw_111, Or.inl rfl⟩
theorem fw_X11_87 : gq_FW "Graphline" 87 5 4 (.boolean) := ⟨_, _, _, "Graphline$Drive", tyX1, rfl, usX1, by decide, Or.inl qw_111, Or.inl rfl, tyX1_ok, nmX1, rfl, tyX1_ok 4 (by decide)⟩
theorem ln_X11_91 : gq_LV "Graphline" 91 "Graphline" mX11_machineNamed 1 := ⟨qw_390, qw_392, qw_4, qw_27, qw_393, rfl, ⟨rfl, ne_3.1, ne_3.2, pm_5⟩⟩
theorem ln_X11_97 : gq_LV "Graphline" 97 "Graphline$Drive" mX1_hangsOn 2 := ⟨qw_396, qw_397, qw_398, qw_28, qw_399, rfl, ⟨rfl, ne_1.1, ne_1.2, pm_6⟩⟩
theorem fl_X11_106 : gq_FL "Graphline" 106 8 2 := ⟨_, _, _, "Graphline$Machine", rfl, usX4, by decide, Or.inl qw_94, Or.inl rfl⟩
theorem fl_X11_112 : gq_FL "Graphline" 112 8 0 := ⟨_, _, _, "Graphline$Machine", rfl, usX4, by decide, Or.inl qw_88, Or.inl rfl⟩
theorem fw_X11_106 : gq_FW "Graphline" 106 8 2 (.object "Graphline$Machine") := ⟨_, _, _, "Graphline$Machine", tyX4, rfl, usX4, by decide, Or.inl qw_94, Or.inl rfl, tyX4_ok, nmX4, rfl, tyX4_ok 2 (by decide)⟩
theorem fl_X11_116 : gq_FL "Graphline" 116 8 1 := ⟨_, _, _, "Graphline$Machine", rfl, usX4, by decide, Or.inl qw_91, Or.inl rfl⟩
theorem fw_X11_116 : gq_FW "Graphline" 116 8 1 (.boolean) := ⟨_, _, _, "Graphline$Machine", tyX4, rfl, usX4, by decide, Or.inl qw_91, Or.inl rfl, tyX4_ok, nmX4, rfl, tyX4_ok 1 (by decide)⟩
theorem ln_X11_119 : gq_LV "Graphline" 119 "Graphline$Drive" mX1_moves 1 := ⟨qw_430, qw_431, qw_432, qw_28, qw_433, rfl, ⟨rfl, ne_1.1, ne_1.2, pm_1⟩⟩
theorem ln_X11_127 : gq_LV "Graphline" 127 "java/util/ArrayList" mJx4a65c_size_8abf5 0 := ⟨qw_231, qw_232, qw_233, qw_33, qw_234, rfl, ⟨rfl, ne_2.1, ne_2.2, pm_7⟩⟩
theorem nw_X11_133 : gq_NW "Graphline" 133 7 4 [.int 0, .int 0, .int 0, .int 0] := ⟨_, _, tyX3, rfl, usX3, tyX3_ok, qw_444, qw_445, qw_47, fun j hj => by rcases (show j = 0 ∨ j = 1 ∨ j = 2 ∨ j = 3 by omega) with rfl | rfl | rfl | rfl <;> rfl⟩
theorem ln_X11_135 : gq_LI "Graphline" 135 mX3_init 4 := ⟨Or.inl qw_446, qw_447, qw_47, qw_448, rfl, rfl, rfl, ⟨ne_5.1, ne_5.2, pm_8⟩⟩
theorem ln_X11_138 : gq_LV "Graphline" 138 "java/util/ArrayList" mJx4a65c_add_9ea2d 1 := ⟨qw_467, qw_468, qw_469, qw_33, qw_470, rfl, ⟨rfl, ne_2.1, ne_2.2, pm_9⟩⟩
theorem ln_X11_142 : gq_LV "Graphline" 142 "Graphline" mX11_lotNumbered 1 := ⟨qw_570, qw_572, qw_8, qw_27, qw_573, rfl, ⟨rfl, ne_3.1, ne_3.2, pm_10⟩⟩
theorem fl_X11_146 : gq_FL "Graphline" 146 7 3 := ⟨_, _, _, "Graphline$Lot", rfl, usX3, by decide, Or.inl qw_457, Or.inl rfl⟩
theorem fl_X11_151 : gq_FL "Graphline" 151 7 0 := ⟨_, _, _, "Graphline$Lot", rfl, usX3, by decide, Or.inl qw_451, Or.inl rfl⟩
theorem fl_X11_158 : gq_FL "Graphline" 158 5 0 := ⟨_, _, _, "Graphline$Drive", rfl, usX1, by decide, Or.inl qw_103, Or.inl rfl⟩
theorem fl_X11_165 : gq_FL "Graphline" 165 7 1 := ⟨_, _, _, "Graphline$Lot", rfl, usX3, by decide, Or.inl qw_453, Or.inl rfl⟩
theorem fl_X11_168 : gq_FL "Graphline" 168 7 2 := ⟨_, _, _, "Graphline$Lot", rfl, usX3, by decide, Or.inl qw_455, Or.inl rfl⟩
theorem ln_X11_170 : gq_LS "Graphline" 170 mX11_clamped 3 := ⟨qw_599, qw_600, qw_27, qw_601, rfl, ⟨ne_3.1, ne_3.2, pm_3⟩⟩
theorem fw_X11_146 : gq_FW "Graphline" 146 7 3 (.int) := ⟨_, _, _, "Graphline$Lot", tyX3, rfl, usX3, by decide, Or.inl qw_457, Or.inl rfl, tyX3_ok, nmX3, rfl, tyX3_ok 3 (by decide)⟩
theorem nw_X11_174 : gq_NW "Graphline" 174 9 5 [.int 0, .int 0, .int 0, .int 0, .int 0] := ⟨_, _, tyX5, rfl, usX5, tyX5_ok, qw_604, qw_605, qw_54, fun j hj => by rcases (show j = 0 ∨ j = 1 ∨ j = 2 ∨ j = 3 ∨ j = 4 by omega) with rfl | rfl | rfl | rfl | rfl <;> rfl⟩
theorem ln_X11_176 : gq_LI "Graphline" 176 mX5_init 5 := ⟨Or.inl qw_606, qw_607, qw_54, qw_608, rfl, rfl, rfl, ⟨ne_6.1, ne_6.2, pm_11⟩⟩
theorem ln_X11_179 : gq_LV "Graphline" 179 "Graphline" mX11_mixtureNumbered 1 := ⟨qw_638, qw_640, qw_9, qw_27, qw_641, rfl, ⟨rfl, ne_3.1, ne_3.2, pm_12⟩⟩
theorem fl_X11_183 : gq_FL "Graphline" 183 9 2 := ⟨_, _, _, "Graphline$Mixture", rfl, usX5, by decide, Or.inl qw_615, Or.inl rfl⟩
theorem fl_X11_186 : gq_FL "Graphline" 186 9 3 := ⟨_, _, _, "Graphline$Mixture", rfl, usX5, by decide, Or.inl qw_617, Or.inl rfl⟩
theorem fl_X11_189 : gq_FL "Graphline" 189 9 4 := ⟨_, _, _, "Graphline$Mixture", rfl, usX5, by decide, Or.inl qw_619, Or.inl rfl⟩
theorem fl_X11_198 : gq_FL "Graphline" 198 5 1 := ⟨_, _, _, "Graphline$Drive", rfl, usX1, by decide, Or.inl qw_105, Or.inl rfl⟩
theorem fw_X11_189 : gq_FW "Graphline" 189 9 4 (.int) := ⟨_, _, _, "Graphline$Mixture", tyX5, rfl, usX5, by decide, Or.inl qw_619, Or.inl rfl, tyX5_ok, nmX5, rfl, tyX5_ok 4 (by decide)⟩
theorem nw_X11_205 : gq_NW "Graphline" 205 4 12 [.int 0, .null, .int 0, .int 0, .int 0, .int 0, .int 0, .int 0, .int 0, .int 0, .int 0, .int 0] := ⟨_, _, tyX0, rfl, usX0, tyX0_ok, qw_260, qw_656, qw_55, fun j hj => by rcases (show j = 0 ∨ j = 1 ∨ j = 2 ∨ j = 3 ∨ j = 4 ∨ j = 5 ∨ j = 6 ∨ j = 7 ∨ j = 8 ∨ j = 9 ∨ j = 10 ∨ j = 11 by omega) with rfl | rfl | rfl | rfl | rfl | rfl | rfl | rfl | rfl | rfl | rfl | rfl <;> rfl⟩
theorem ln_X11_207 : gq_LI "Graphline" 207 mX0_init 4 := ⟨Or.inl qw_657, qw_658, qw_55, qw_659, rfl, rfl, rfl, ⟨ne_7.1, ne_7.2, pm_13⟩⟩
theorem ln_X11_212 : gq_LV "Graphline" 212 "Graphline" mX11_batchNumbered 1 := ⟨qw_732, qw_734, qw_10, qw_27, qw_735, rfl, ⟨rfl, ne_3.1, ne_3.2, pm_14⟩⟩
theorem fl_X11_218 : gq_FL "Graphline" 218 4 10 := ⟨_, _, _, "Graphline$Batch", rfl, usX0, by decide, Or.inl qw_682, Or.inl rfl⟩
theorem fw_X11_218 : gq_FW "Graphline" 218 4 10 (.boolean) := ⟨_, _, _, "Graphline$Batch", tyX0, rfl, usX0, by decide, Or.inl qw_682, Or.inl rfl, tyX0_ok, nmX0, rfl, tyX0_ok 10 (by decide)⟩
theorem fl_X11_223 : gq_FL "Graphline" 223 4 5 := ⟨_, _, _, "Graphline$Batch", rfl, usX0, by decide, Or.inl qw_672, Or.inl rfl⟩
theorem fw_X11_223 : gq_FW "Graphline" 223 4 5 (.int) := ⟨_, _, _, "Graphline$Batch", tyX0, rfl, usX0, by decide, Or.inl qw_672, Or.inl rfl, tyX0_ok, nmX0, rfl, tyX0_ok 5 (by decide)⟩
theorem fl_X11_226 : gq_FL "Graphline" 226 4 3 := ⟨_, _, _, "Graphline$Batch", rfl, usX0, by decide, Or.inl qw_668, Or.inl rfl⟩
theorem fl_X11_229 : gq_FL "Graphline" 229 4 1 := ⟨_, _, _, "Graphline$Batch", rfl, usX0, by decide, Or.inl qw_664, Or.inl rfl⟩
theorem fl_X11_233 : gq_FL "Graphline" 233 4 4 := ⟨_, _, _, "Graphline$Batch", rfl, usX0, by decide, Or.inl qw_670, Or.inl rfl⟩
theorem fw_X11_233 : gq_FW "Graphline" 233 4 4 (.int) := ⟨_, _, _, "Graphline$Batch", tyX0, rfl, usX0, by decide, Or.inl qw_670, Or.inl rfl, tyX0_ok, nmX0, rfl, tyX0_ok 4 (by decide)⟩
theorem fw_X11_226 : gq_FW "Graphline" 226 4 3 (.int) := ⟨_, _, _, "Graphline$Batch", tyX0, rfl, usX0, by decide, Or.inl qw_668, Or.inl rfl, tyX0_ok, nmX0, rfl, tyX0_ok 3 (by decide)⟩
theorem ln_X11_238 : gq_LV "Graphline" 238 "Graphline$Batch" mX0_isFired 0 := ⟨qw_747, qw_748, qw_749, qw_55, qw_750, rfl, ⟨rfl, ne_7.1, ne_7.2, pm_15⟩⟩
theorem fl_X11_246 : gq_FL "Graphline" 246 4 6 := ⟨_, _, _, "Graphline$Batch", rfl, usX0, by decide, Or.inl qw_674, Or.inl rfl⟩
theorem fw_X11_246 : gq_FW "Graphline" 246 4 6 (.int) := ⟨_, _, _, "Graphline$Batch", tyX0, rfl, usX0, by decide, Or.inl qw_674, Or.inl rfl, tyX0_ok, nmX0, rfl, tyX0_ok 6 (by decide)⟩
theorem fl_X11_249 : gq_FL "Graphline" 249 4 7 := ⟨_, _, _, "Graphline$Batch", rfl, usX0, by decide, Or.inl qw_676, Or.inl rfl⟩
theorem fw_X11_249 : gq_FW "Graphline" 249 4 7 (.int) := ⟨_, _, _, "Graphline$Batch", tyX0, rfl, usX0, by decide, Or.inl qw_676, Or.inl rfl, tyX0_ok, nmX0, rfl, tyX0_ok 7 (by decide)⟩
theorem fl_X11_252 : gq_FL "Graphline" 252 4 9 := ⟨_, _, _, "Graphline$Batch", rfl, usX0, by decide, Or.inl qw_680, Or.inl rfl⟩
theorem fw_X11_252 : gq_FW "Graphline" 252 4 9 (.int) := ⟨_, _, _, "Graphline$Batch", tyX0, rfl, usX0, by decide, Or.inl qw_680, Or.inl rfl, tyX0_ok, nmX0, rfl, tyX0_ok 9 (by decide)⟩
theorem fl_X11_255 : gq_FL "Graphline" 255 4 8 := ⟨_, _, _, "Graphline$Batch", rfl, usX0, by decide, Or.inl qw_678, Or.inl rfl⟩
theorem fw_X11_255 : gq_FW "Graphline" 255 4 8 (.int) := ⟨_, _, _, "Graphline$Batch", tyX0, rfl, usX0, by decide, Or.inl qw_678, Or.inl rfl, tyX0_ok, nmX0, rfl, tyX0_ok 8 (by decide)⟩
theorem fl_X11_260 : gq_FL "Graphline" 260 4 11 := ⟨_, _, _, "Graphline$Batch", rfl, usX0, by decide, Or.inl qw_684, Or.inl rfl⟩
theorem fw_X11_260 : gq_FW "Graphline" 260 4 11 (.boolean) := ⟨_, _, _, "Graphline$Batch", tyX0, rfl, usX0, by decide, Or.inl qw_684, Or.inl rfl, tyX0_ok, nmX0, rfl, tyX0_ok 11 (by decide)⟩
theorem fl_X11_265 : gq_FL "Graphline" 265 4 2 := ⟨_, _, _, "Graphline$Batch", rfl, usX0, by decide, Or.inl qw_666, Or.inl rfl⟩
theorem ln_X11_272 : gq_LV "Graphline" 272 "Graphline$Wheel" mX10_tell 1 := ⟨qw_778, qw_779, qw_780, qw_30, qw_781, rfl, ⟨rfl, ne_4.1, ne_4.2, pm_16⟩⟩
theorem ln_X11_276 : gq_LV "Graphline" 276 "Graphline$Wheel" mX10_takeBias 0 := ⟨qw_223, qw_224, qw_225, qw_30, qw_226, rfl, ⟨rfl, ne_4.1, ne_4.2, pm_7⟩⟩
theorem nw_X11_285 : gq_NW "Graphline" 285 13 7 [.int 0, .int 0, .int 0, .int 0, .int 0, .int 0, .int 0] := ⟨_, _, tyX9, rfl, usX9, tyX9_ok, qw_793, qw_794, qw_57, fun j hj => by rcases (show j = 0 ∨ j = 1 ∨ j = 2 ∨ j = 3 ∨ j = 4 ∨ j = 5 ∨ j = 6 by omega) with rfl | rfl | rfl | rfl | rfl | rfl | rfl <;> rfl⟩
theorem ln_X11_287 : gq_LI "Graphline" 287 mX9_init 5 := ⟨Or.inl qw_795, qw_796, qw_57, qw_797, rfl, rfl, rfl, ⟨ne_8.1, ne_8.2, pm_17⟩⟩
theorem ln_X11_290 : gq_LV "Graphline" 290 "Graphline" mX11_slatLotNumbered 1 := ⟨qw_835, qw_837, qw_11, qw_27, qw_838, rfl, ⟨rfl, ne_3.1, ne_3.2, pm_18⟩⟩
theorem fl_X11_296 : gq_FL "Graphline" 296 13 6 := ⟨_, _, _, "Graphline$SlatLot", rfl, usX9, by decide, Or.inl qw_812, Or.inl rfl⟩
theorem fl_X11_299 : gq_FL "Graphline" 299 13 1 := ⟨_, _, _, "Graphline$SlatLot", rfl, usX9, by decide, Or.inl qw_802, Or.inl rfl⟩
theorem fl_X11_302 : gq_FL "Graphline" 302 13 3 := ⟨_, _, _, "Graphline$SlatLot", rfl, usX9, by decide, Or.inl qw_806, Or.inl rfl⟩
theorem fw_X11_302 : gq_FW "Graphline" 302 13 3 (.int) := ⟨_, _, _, "Graphline$SlatLot", tyX9, rfl, usX9, by decide, Or.inl qw_806, Or.inl rfl, tyX9_ok, nmX9, rfl, tyX9_ok 3 (by decide)⟩
theorem fw_X11_296 : gq_FW "Graphline" 296 13 6 (.int) := ⟨_, _, _, "Graphline$SlatLot", tyX9, rfl, usX9, by decide, Or.inl qw_812, Or.inl rfl, tyX9_ok, nmX9, rfl, tyX9_ok 6 (by decide)⟩
theorem ln_X11_313 : gq_LV "Graphline" 313 "Graphline$SlatLot" mX9_isGrooved 0 := ⟨qw_850, qw_851, qw_852, qw_57, qw_853, rfl, ⟨rfl, ne_8.1, ne_8.2, pm_15⟩⟩
theorem fl_X11_318 : gq_FL "Graphline" 318 5 2 := ⟨_, _, _, "Graphline$Drive", rfl, usX1, by decide, Or.inl qw_107, Or.inl rfl⟩
theorem fl_X11_323 : gq_FL "Graphline" 323 13 5 := ⟨_, _, _, "Graphline$SlatLot", rfl, usX9, by decide, Or.inl qw_810, Or.inl rfl⟩
theorem fw_X11_323 : gq_FW "Graphline" 323 13 5 (.int) := ⟨_, _, _, "Graphline$SlatLot", tyX9, rfl, usX9, by decide, Or.inl qw_810, Or.inl rfl, tyX9_ok, nmX9, rfl, tyX9_ok 5 (by decide)⟩
theorem fl_X11_326 : gq_FL "Graphline" 326 13 4 := ⟨_, _, _, "Graphline$SlatLot", rfl, usX9, by decide, Or.inl qw_808, Or.inl rfl⟩
theorem ln_X11_331 : gq_LS "Graphline" 331 mX11_pencilsOfTwoSlats 1 := ⟨qw_871, qw_872, qw_27, qw_873, rfl, ⟨ne_3.1, ne_3.2, pm_19⟩⟩
theorem fw_X11_326 : gq_FW "Graphline" 326 13 4 (.int) := ⟨_, _, _, "Graphline$SlatLot", tyX9, rfl, usX9, by decide, Or.inl qw_808, Or.inl rfl, tyX9_ok, nmX9, rfl, tyX9_ok 4 (by decide)⟩
theorem nw_X11_348 : gq_NW "Graphline" 348 12 12 [.int 0, .null, .null, .int 0, .int 0, .int 0, .int 0, .int 0, .int 0, .int 0, .int 0, .int 0] := ⟨_, _, tyX8, rfl, usX8, tyX8_ok, qw_254, qw_882, qw_59, fun j hj => by rcases (show j = 0 ∨ j = 1 ∨ j = 2 ∨ j = 3 ∨ j = 4 ∨ j = 5 ∨ j = 6 ∨ j = 7 ∨ j = 8 ∨ j = 9 ∨ j = 10 ∨ j = 11 by omega) with rfl | rfl | rfl | rfl | rfl | rfl | rfl | rfl | rfl | rfl | rfl | rfl <;> rfl⟩
theorem fl_X11_350 : gq_FL "Graphline" 350 13 2 := ⟨_, _, _, "Graphline$SlatLot", rfl, usX9, by decide, Or.inl qw_804, Or.inl rfl⟩
theorem ln_X11_353 : gq_LI "Graphline" 353 mX8_init 7 := ⟨Or.inl qw_883, qw_884, qw_59, qw_885, rfl, rfl, rfl, ⟨ne_9.1, ne_9.2, pm_20⟩⟩
theorem ln_X11_356 : gq_LV "Graphline" 356 "Graphline" mX11_runNumbered 1 := ⟨qw_943, qw_945, qw_12, qw_27, qw_946, rfl, ⟨rfl, ne_3.1, ne_3.2, pm_21⟩⟩
theorem fl_X11_362 : gq_FL "Graphline" 362 12 10 := ⟨_, _, _, "Graphline$Run", rfl, usX8, by decide, Or.inl qw_908, Or.inl rfl⟩
theorem fl_X11_363 : gq_FL "Graphline" 363 12 7 := ⟨_, _, _, "Graphline$Run", rfl, usX8, by decide, Or.inl qw_902, Or.inl rfl⟩
theorem fl_X11_368 : gq_FL "Graphline" 368 5 3 := ⟨_, _, _, "Graphline$Drive", rfl, usX1, by decide, Or.inl qw_109, Or.inl rfl⟩
theorem fw_X11_363 : gq_FW "Graphline" 363 12 7 (.int) := ⟨_, _, _, "Graphline$Run", tyX8, rfl, usX8, by decide, Or.inl qw_902, Or.inl rfl, tyX8_ok, nmX8, rfl, tyX8_ok 7 (by decide)⟩
theorem fl_X11_373 : gq_FL "Graphline" 373 12 8 := ⟨_, _, _, "Graphline$Run", rfl, usX8, by decide, Or.inl qw_904, Or.inl rfl⟩
theorem fw_X11_373 : gq_FW "Graphline" 373 12 8 (.int) := ⟨_, _, _, "Graphline$Run", tyX8, rfl, usX8, by decide, Or.inl qw_904, Or.inl rfl, tyX8_ok, nmX8, rfl, tyX8_ok 8 (by decide)⟩
theorem fw_X11_362 : gq_FW "Graphline" 362 12 10 (.int) := ⟨_, _, _, "Graphline$Run", tyX8, rfl, usX8, by decide, Or.inl qw_908, Or.inl rfl, tyX8_ok, nmX8, rfl, tyX8_ok 10 (by decide)⟩
theorem ln_X11_376 : gq_LV "Graphline" 376 "Graphline$Run" mX8_isStamped 0 := ⟨qw_958, qw_959, qw_960, qw_59, qw_961, rfl, ⟨rfl, ne_9.1, ne_9.2, pm_15⟩⟩
theorem fl_X11_381 : gq_FL "Graphline" 381 12 1 := ⟨_, _, _, "Graphline$Run", rfl, usX8, by decide, Or.inl qw_890, Or.inl rfl⟩
theorem ln_X11_387 : gq_LS "Graphline" 387 mX11_gradeOf 1 := ⟨qw_964, qw_965, qw_27, qw_966, rfl, ⟨ne_3.1, ne_3.2, pm_16⟩⟩
theorem fl_X11_390 : gq_FL "Graphline" 390 12 9 := ⟨_, _, _, "Graphline$Run", rfl, usX8, by decide, Or.inl qw_906, Or.inl rfl⟩
theorem fw_X11_390 : gq_FW "Graphline" 390 12 9 (.int) := ⟨_, _, _, "Graphline$Run", tyX8, rfl, usX8, by decide, Or.inl qw_906, Or.inl rfl, tyX8_ok, nmX8, rfl, tyX8_ok 9 (by decide)⟩
theorem fl_X11_395 : gq_FL "Graphline" 395 12 11 := ⟨_, _, _, "Graphline$Run", rfl, usX8, by decide, Or.inl qw_910, Or.inl rfl⟩
theorem fw_X11_395 : gq_FW "Graphline" 395 12 11 (.boolean) := ⟨_, _, _, "Graphline$Run", tyX8, rfl, usX8, by decide, Or.inl qw_910, Or.inl rfl, tyX8_ok, nmX8, rfl, tyX8_ok 11 (by decide)⟩
theorem fl_X11_400 : gq_FL "Graphline" 400 12 5 := ⟨_, _, _, "Graphline$Run", rfl, usX8, by decide, Or.inl qw_898, Or.inl rfl⟩
theorem fl_X11_403 : gq_FL "Graphline" 403 12 6 := ⟨_, _, _, "Graphline$Run", rfl, usX8, by decide, Or.inl qw_900, Or.inl rfl⟩
theorem fl_X11_406 : gq_FL "Graphline" 406 12 4 := ⟨_, _, _, "Graphline$Run", rfl, usX8, by decide, Or.inl qw_896, Or.inl rfl⟩
theorem fw_X11_403 : gq_FW "Graphline" 403 12 6 (.int) := ⟨_, _, _, "Graphline$Run", tyX8, rfl, usX8, by decide, Or.inl qw_900, Or.inl rfl, tyX8_ok, nmX8, rfl, tyX8_ok 6 (by decide)⟩
theorem fw_X11_400 : gq_FW "Graphline" 400 12 5 (.int) := ⟨_, _, _, "Graphline$Run", tyX8, rfl, usX8, by decide, Or.inl qw_898, Or.inl rfl, tyX8_ok, nmX8, rfl, tyX8_ok 5 (by decide)⟩
theorem nw_X11_431 : gq_NW "Graphline" 431 6 4 [.int 0, .null, .int 0, .int 0] := ⟨_, _, tyX2, rfl, usX2, tyX2_ok, qw_249, qw_1021, qw_61, fun j hj => by rcases (show j = 0 ∨ j = 1 ∨ j = 2 ∨ j = 3 by omega) with rfl | rfl | rfl | rfl <;> rfl⟩
theorem ln_X11_433 : gq_LI "Graphline" 433 mX2_init 1 := ⟨Or.inl qw_1022, qw_1023, qw_61, qw_1024, rfl, rfl, rfl, ⟨ne_10.1, ne_10.2, pm_22⟩⟩
theorem ln_X11_436 : gq_LV "Graphline" 436 "Graphline" mX11_grossNumbered 1 := ⟨qw_1052, qw_1054, qw_13, qw_27, qw_1055, rfl, ⟨rfl, ne_3.1, ne_3.2, pm_23⟩⟩
theorem fl_X11_442 : gq_FL "Graphline" 442 6 0 := ⟨_, _, _, "Graphline$Gross", rfl, usX2, by decide, Or.inl qw_1029, Or.inl rfl⟩
theorem fl_X11_447 : gq_FL "Graphline" 447 6 2 := ⟨_, _, _, "Graphline$Gross", rfl, usX2, by decide, Or.inl qw_1033, Or.inl rfl⟩
theorem fl_X11_448 : gq_FL "Graphline" 448 6 3 := ⟨_, _, _, "Graphline$Gross", rfl, usX2, by decide, Or.inl qw_1035, Or.inl rfl⟩
theorem nw_X11_453 : gq_NW "Graphline" 453 11 3 [.null, .int 0, .int 0] := ⟨_, _, tyX7, rfl, usX7, tyX7_ok, qw_271, qw_1060, qw_63, fun j hj => by rcases (show j = 0 ∨ j = 1 ∨ j = 2 by omega) with rfl | rfl | rfl <;> rfl⟩
theorem ln_X11_455 : gq_LI "Graphline" 455 mX7_init 3 := ⟨Or.inl qw_1061, qw_1062, qw_63, qw_1063, rfl, rfl, rfl, ⟨ne_11.1, ne_11.2, pm_24⟩⟩
theorem fl_X11_458 : gq_FL "Graphline" 458 11 1 := ⟨_, _, _, "Graphline$Part", rfl, usX7, by decide, Or.inl qw_1068, Or.inl rfl⟩
theorem fl_X11_459 : gq_FL "Graphline" 459 11 2 := ⟨_, _, _, "Graphline$Part", rfl, usX7, by decide, Or.inl qw_1070, Or.inl rfl⟩
theorem fl_X11_460 : gq_FL "Graphline" 460 6 1 := ⟨_, _, _, "Graphline$Gross", rfl, usX2, by decide, Or.inl qw_1031, Or.inl rfl⟩
theorem fw_X11_447 : gq_FW "Graphline" 447 6 2 (.int) := ⟨_, _, _, "Graphline$Gross", tyX2, rfl, usX2, by decide, Or.inl qw_1033, Or.inl rfl, tyX2_ok, nmX2, rfl, tyX2_ok 2 (by decide)⟩
theorem nw_X11_469 : gq_NW "Graphline" 469 10 4 [.int 0, .int 0, .int 0, .int 0] := ⟨_, _, tyX6, rfl, usX6, tyX6_ok, qw_1088, qw_1089, qw_65, fun j hj => by rcases (show j = 0 ∨ j = 1 ∨ j = 2 ∨ j = 3 by omega) with rfl | rfl | rfl | rfl <;> rfl⟩
theorem ln_X11_471 : gq_LI "Graphline" 471 mX6_init 3 := ⟨Or.inl qw_1090, qw_1091, qw_65, qw_1092, rfl, rfl, rfl, ⟨ne_12.1, ne_12.2, pm_25⟩⟩
theorem ln_X11_474 : gq_LV "Graphline" 474 "Graphline" mX11_orderNumbered 1 := ⟨qw_1118, qw_1120, qw_14, qw_27, qw_1121, rfl, ⟨rfl, ne_3.1, ne_3.2, pm_26⟩⟩
theorem fl_X11_478 : gq_FL "Graphline" 478 10 0 := ⟨_, _, _, "Graphline$Order", rfl, usX6, by decide, Or.inl qw_1095, Or.inl rfl⟩
theorem fl_X11_481 : gq_FL "Graphline" 481 10 2 := ⟨_, _, _, "Graphline$Order", rfl, usX6, by decide, Or.inl qw_1099, Or.inl rfl⟩
theorem fw_X11_448 : gq_FW "Graphline" 448 6 3 (.boolean) := ⟨_, _, _, "Graphline$Gross", tyX2, rfl, usX2, by decide, Or.inl qw_1035, Or.inl rfl, tyX2_ok, nmX2, rfl, tyX2_ok 3 (by decide)⟩
theorem fw_X11_481 : gq_FW "Graphline" 481 10 2 (.int) := ⟨_, _, _, "Graphline$Order", tyX6, rfl, usX6, by decide, Or.inl qw_1099, Or.inl rfl, tyX6_ok, nmX6, rfl, tyX6_ok 2 (by decide)⟩
theorem fl_X11_486 : gq_FL "Graphline" 486 10 1 := ⟨_, _, _, "Graphline$Order", rfl, usX6, by decide, Or.inl qw_1097, Or.inl rfl⟩
theorem fl_X11_489 : gq_FL "Graphline" 489 10 3 := ⟨_, _, _, "Graphline$Order", rfl, usX6, by decide, Or.inl qw_1101, Or.inl rfl⟩
theorem fw_X11_489 : gq_FW "Graphline" 489 10 3 (.boolean) := ⟨_, _, _, "Graphline$Order", tyX6, rfl, usX6, by decide, Or.inl qw_1101, Or.inl rfl, tyX6_ok, nmX6, rfl, tyX6_ok 3 (by decide)⟩
theorem ln_X11_492 : gq_LV "Graphline" 492 "java/util/ArrayList" mJx4a65c_get_915e3 1 := ⟨qw_235, qw_236, qw_237, qw_33, qw_238, rfl, ⟨rfl, ne_2.1, ne_2.2, pm_27⟩⟩
theorem fl_X11_496 : gq_FL "Graphline" 496 11 0 := ⟨_, _, _, "Graphline$Part", rfl, usX7, by decide, Or.inl qw_1066, Or.inl rfl⟩
theorem ln_X11_500 : gq_LS "Graphline" 500 mX11_partNumbered 2 := ⟨qw_1153, qw_1154, qw_27, qw_1155, rfl, ⟨ne_3.1, ne_3.2, pm_28⟩⟩
theorem fl_X11_504 : gq_FL "Graphline" 504 12 0 := ⟨_, _, _, "Graphline$Run", rfl, usX8, by decide, Or.inl qw_888, Or.inl rfl⟩
theorem fl_X11_507 : gq_FL "Graphline" 507 4 0 := ⟨_, _, _, "Graphline$Batch", rfl, usX0, by decide, Or.inl qw_662, Or.inl rfl⟩
theorem fl_X11_508 : gq_FL "Graphline" 508 12 2 := ⟨_, _, _, "Graphline$Run", rfl, usX8, by decide, Or.inl qw_892, Or.inl rfl⟩
theorem fl_X11_512 : gq_FL "Graphline" 512 13 0 := ⟨_, _, _, "Graphline$SlatLot", rfl, usX9, by decide, Or.inl qw_800, Or.inl rfl⟩
theorem fl_X11_513 : gq_FL "Graphline" 513 12 3 := ⟨_, _, _, "Graphline$Run", rfl, usX8, by decide, Or.inl qw_894, Or.inl rfl⟩
theorem fl_X11_516 : gq_FL "Graphline" 516 9 0 := ⟨_, _, _, "Graphline$Mixture", rfl, usX5, by decide, Or.inl qw_611, Or.inl rfl⟩
theorem fl_X11_519 : gq_FL "Graphline" 519 9 1 := ⟨_, _, _, "Graphline$Mixture", rfl, usX5, by decide, Or.inl qw_613, Or.inl rfl⟩
theorem ln_X11_524 : gq_LV "Graphline" 524 "Graphline" mX11_pencilsInRuns 0 := ⟨qw_250, qw_252, qw_0, qw_27, qw_253, rfl, ⟨rfl, ne_3.1, ne_3.2, pm_7⟩⟩
theorem ln_X11_538 : gq_LV "Graphline" 538 "Graphline" mX11_missing 0 := ⟨qw_266, qw_228, qw_229, qw_27, qw_230, rfl, ⟨rfl, ne_3.1, ne_3.2, pm_7⟩⟩
theorem ln_X11_541 : gq_LV "Graphline" 541 "Graphline" mX11_areGrossesOfOneGrade 0 := ⟨qw_267, qw_269, qw_1, qw_27, qw_270, rfl, ⟨rfl, ne_3.1, ne_3.2, pm_15⟩⟩
theorem ln_X11_544 : gq_LV "Graphline" 544 "Graphline$Drive" mX1_hasNoRing 0 := ⟨qw_272, qw_273, qw_274, qw_28, qw_275, rfl, ⟨rfl, ne_1.1, ne_1.2, pm_15⟩⟩
theorem ln_X11_547 : gq_LV "Graphline" 547 "Graphline" mX11_areBrokenAmongPencils 0 := ⟨qw_279, qw_281, qw_2, qw_27, qw_282, rfl, ⟨rfl, ne_3.1, ne_3.2, pm_15⟩⟩
theorem fl_X12_9 : gq_FL "GraphlineModel$Batch" 9 16 6 := ⟨_, _, _, "GraphlineModel$Batch", rfl, usX12, by decide, Or.inl qw_1464, Or.inl rfl⟩
theorem fw_X12_9 : gq_FW "GraphlineModel$Batch" 9 16 6 (.int) := ⟨_, _, _, "GraphlineModel$Batch", tyX12, rfl, usX12, by decide, Or.inl qw_1464, Or.inl rfl, tyX12_ok, nmX12, rfl, tyX12_ok 6 (by decide)⟩
theorem nw_X13_7 : gq_NW "GraphlineModel$Gross" 7 3 3 [.int 0, .null, .int 0] := ⟨_, _, tyJx4a65c, rfl, usJx4a65c, tyJx4a65c_ok, qw_1690, qw_137, qw_33, fun j hj => by rcases (show j = 0 ∨ j = 1 ∨ j = 2 by omega) with rfl | rfl | rfl <;> rfl⟩
theorem ln_X13_9 : gq_LI "GraphlineModel$Gross" 9 mJx4a65c_init_da8c8 0 := ⟨Or.inl qw_1691, qw_139, qw_33, qw_140, rfl, rfl, rfl, ⟨ne_2.1, ne_2.2, pm_2⟩⟩
theorem fl_X13_10 : gq_FL "GraphlineModel$Gross" 10 17 1 := ⟨_, _, _, "GraphlineModel$Gross", rfl, usX13, by decide, Or.inl qw_1693, Or.inl rfl⟩
theorem ff_X13_10 : gq_FF "GraphlineModel$Gross" 10 17 1 (.object "java/util/List") := ⟨_, _, _, "GraphlineModel$Gross", tyX13, rfl, usX13, by decide, qw_1693, rfl, tyX13_ok, nmX13, rfl, rfl, tyX13_ok 1 (by decide)⟩
theorem lf_X13_16 : gq_LF "GraphlineModel$Gross" 16 "java/util/ArrayList" ⟨"java/util/List", "iterator", "()Ljava/util/Iterator;"⟩ mJx4a65c_iterator_32c93 0 := ⟨qw_1713, qw_1716, qw_1718, qw_33, qw_1720, rfl, by decide +kernel, ⟨ne_13.1, ne_13.2, pm_29⟩⟩
theorem lf_X13_22 : gq_LF "GraphlineModel$Gross" 22 "java/util/ArrayList$Itr" ⟨"java/util/Iterator", "hasNext", "()Z"⟩ mJx35411_hasNext_aae02 0 := ⟨qw_1741, qw_1745, qw_1747, qw_64, qw_1749, rfl, by decide +kernel, ⟨ne_14.1, ne_14.2, pm_15⟩⟩
theorem lf_X13_28 : gq_LF "GraphlineModel$Gross" 28 "java/util/ArrayList$Itr" ⟨"java/util/Iterator", "next", "()Ljava/lang/Object;"⟩ mJx35411_next_0502b 0 := ⟨qw_1751, qw_1754, qw_1756, qw_64, qw_1758, rfl, by decide +kernel, ⟨ne_14.1, ne_14.2, pm_30⟩⟩
theorem fl_X14_9 : gq_FL "GraphlineModel$Run" 9 18 8 := ⟨_, _, _, "GraphlineModel$Run", rfl, usX14, by decide, Or.inl qw_1615, Or.inl rfl⟩
theorem fw_X14_9 : gq_FW "GraphlineModel$Run" 9 18 8 (.int) := ⟨_, _, _, "GraphlineModel$Run", tyX14, rfl, usX14, by decide, Or.inl qw_1615, Or.inl rfl, tyX14_ok, nmX14, rfl, tyX14_ok 8 (by decide)⟩
theorem fl_X14_15 : gq_FL "GraphlineModel$Run" 15 18 9 := ⟨_, _, _, "GraphlineModel$Run", rfl, usX14, by decide, Or.inl qw_1617, Or.inl rfl⟩
theorem fw_X14_15 : gq_FW "GraphlineModel$Run" 15 18 9 (.int) := ⟨_, _, _, "GraphlineModel$Run", tyX14, rfl, usX14, by decide, Or.inl qw_1617, Or.inl rfl, tyX14_ok, nmX14, rfl, tyX14_ok 9 (by decide)⟩
theorem fl_X16_1 : gq_FL "GraphlineModel" 1 20 0 := ⟨_, _, _, "GraphlineModel", rfl, usX16, by decide, Or.inl qw_1202, Or.inl rfl⟩
theorem lf_X16_7 : gq_LF "GraphlineModel" 7 "java/util/ArrayList" ⟨"java/util/List", "size", "()I"⟩ mJx4a65c_size_8abf5 0 := ⟨qw_1403, qw_1407, qw_232, qw_33, qw_234, rfl, by decide +kernel, ⟨ne_13.1, ne_13.2, pm_7⟩⟩
theorem ln_X16_13 : gq_LS "GraphlineModel" 13 mX16_in 3 := ⟨qw_1267, qw_1268, qw_34, qw_1269, rfl, ⟨ne_15.1, ne_15.2, pm_31⟩⟩
theorem fw_X16_1 : gq_FW "GraphlineModel" 1 20 0 (.int) := ⟨_, _, _, "GraphlineModel", tyX16, rfl, usX16, by decide, Or.inl qw_1202, Or.inl rfl, tyX16_ok, nmX16, rfl, tyX16_ok 0 (by decide)⟩
theorem fl_X16_23 : gq_FL "GraphlineModel" 23 20 2 := ⟨_, _, _, "GraphlineModel", rfl, usX16, by decide, Or.inl qw_1204, Or.inl rfl⟩
theorem fw_X16_23 : gq_FW "GraphlineModel" 23 20 2 (.boolean) := ⟨_, _, _, "GraphlineModel", tyX16, rfl, usX16, by decide, Or.inl qw_1204, Or.inl rfl, tyX16_ok, nmX16, rfl, tyX16_ok 2 (by decide)⟩
theorem fl_X16_27 : gq_FL "GraphlineModel" 27 20 3 := ⟨_, _, _, "GraphlineModel", rfl, usX16, by decide, Or.inl qw_1205, Or.inl rfl⟩
theorem ff_X16_27 : gq_FF "GraphlineModel" 27 20 3 (.array .boolean) := ⟨_, _, _, "GraphlineModel", tyX16, rfl, usX16, by decide, qw_1205, rfl, tyX16_ok, nmX16, rfl, rfl, tyX16_ok 3 (by decide)⟩
theorem fl_X16_31 : gq_FL "GraphlineModel" 31 20 4 := ⟨_, _, _, "GraphlineModel", rfl, usX16, by decide, Or.inl qw_1206, Or.inl rfl⟩
theorem ff_X16_31 : gq_FF "GraphlineModel" 31 20 4 (.array .int) := ⟨_, _, _, "GraphlineModel", tyX16, rfl, usX16, by decide, qw_1206, rfl, tyX16_ok, nmX16, rfl, rfl, tyX16_ok 4 (by decide)⟩
theorem nw_X16_35 : gq_NW "GraphlineModel" 35 3 3 [.int 0, .null, .int 0] := ⟨_, _, tyJx4a65c, rfl, usJx4a65c, tyJx4a65c_ok, qw_1200, qw_137, qw_33, fun j hj => by rcases (show j = 0 ∨ j = 1 ∨ j = 2 by omega) with rfl | rfl | rfl <;> rfl⟩
theorem ln_X16_37 : gq_LI "GraphlineModel" 37 mJx4a65c_init_da8c8 0 := ⟨Or.inl qw_1201, qw_139, qw_33, qw_140, rfl, rfl, rfl, ⟨ne_2.1, ne_2.2, pm_2⟩⟩
theorem fl_X16_38 : gq_FL "GraphlineModel" 38 20 5 := ⟨_, _, _, "GraphlineModel", rfl, usX16, by decide, Or.inl qw_1207, Or.inl rfl⟩
theorem ff_X16_38 : gq_FF "GraphlineModel" 38 20 5 (.object "java/util/List") := ⟨_, _, _, "GraphlineModel", tyX16, rfl, usX16, by decide, qw_1207, rfl, tyX16_ok, nmX16, rfl, rfl, tyX16_ok 5 (by decide)⟩
theorem fl_X16_42 : gq_FL "GraphlineModel" 42 20 6 := ⟨_, _, _, "GraphlineModel", rfl, usX16, by decide, Or.inl qw_1208, Or.inl rfl⟩
theorem ff_X16_42 : gq_FF "GraphlineModel" 42 20 6 (.object "java/util/List") := ⟨_, _, _, "GraphlineModel", tyX16, rfl, usX16, by decide, qw_1208, rfl, tyX16_ok, nmX16, rfl, rfl, tyX16_ok 6 (by decide)⟩
theorem fl_X16_45 : gq_FL "GraphlineModel" 45 20 7 := ⟨_, _, _, "GraphlineModel", rfl, usX16, by decide, Or.inl qw_1209, Or.inl rfl⟩
theorem ff_X16_45 : gq_FF "GraphlineModel" 45 20 7 (.array .int) := ⟨_, _, _, "GraphlineModel", tyX16, rfl, usX16, by decide, qw_1209, rfl, tyX16_ok, nmX16, rfl, rfl, tyX16_ok 7 (by decide)⟩
theorem fl_X16_48 : gq_FL "GraphlineModel" 48 20 8 := ⟨_, _, _, "GraphlineModel", rfl, usX16, by decide, Or.inl qw_1210, Or.inl rfl⟩
theorem ff_X16_48 : gq_FF "GraphlineModel" 48 20 8 (.array .int) := ⟨_, _, _, "GraphlineModel", tyX16, rfl, usX16, by decide, qw_1210, rfl, tyX16_ok, nmX16, rfl, rfl, tyX16_ok 8 (by decide)⟩
theorem fl_X16_51 : gq_FL "GraphlineModel" 51 20 9 := ⟨_, _, _, "GraphlineModel", rfl, usX16, by decide, Or.inl qw_1211, Or.inl rfl⟩
theorem ff_X16_51 : gq_FF "GraphlineModel" 51 20 9 (.object "java/util/List") := ⟨_, _, _, "GraphlineModel", tyX16, rfl, usX16, by decide, qw_1211, rfl, tyX16_ok, nmX16, rfl, rfl, tyX16_ok 9 (by decide)⟩
theorem fl_X16_54 : gq_FL "GraphlineModel" 54 20 10 := ⟨_, _, _, "GraphlineModel", rfl, usX16, by decide, Or.inl qw_1212, Or.inl rfl⟩
theorem ff_X16_54 : gq_FF "GraphlineModel" 54 20 10 (.object "java/util/List") := ⟨_, _, _, "GraphlineModel", tyX16, rfl, usX16, by decide, qw_1212, rfl, tyX16_ok, nmX16, rfl, rfl, tyX16_ok 10 (by decide)⟩
theorem fl_X16_57 : gq_FL "GraphlineModel" 57 20 11 := ⟨_, _, _, "GraphlineModel", rfl, usX16, by decide, Or.inl qw_1213, Or.inl rfl⟩
theorem ff_X16_57 : gq_FF "GraphlineModel" 57 20 11 (.object "java/util/List") := ⟨_, _, _, "GraphlineModel", tyX16, rfl, usX16, by decide, qw_1213, rfl, tyX16_ok, nmX16, rfl, rfl, tyX16_ok 11 (by decide)⟩
theorem fl_X16_60 : gq_FL "GraphlineModel" 60 20 12 := ⟨_, _, _, "GraphlineModel", rfl, usX16, by decide, Or.inl qw_1214, Or.inl rfl⟩
theorem ff_X16_60 : gq_FF "GraphlineModel" 60 20 12 (.object "java/util/List") := ⟨_, _, _, "GraphlineModel", tyX16, rfl, usX16, by decide, qw_1214, rfl, tyX16_ok, nmX16, rfl, rfl, tyX16_ok 12 (by decide)⟩
theorem fl_X16_63 : gq_FL "GraphlineModel" 63 20 13 := ⟨_, _, _, "GraphlineModel", rfl, usX16, by decide, Or.inl qw_1215, Or.inl rfl⟩
theorem ff_X16_63 : gq_FF "GraphlineModel" 63 20 13 (.object "java/util/List") := ⟨_, _, _, "GraphlineModel", tyX16, rfl, usX16, by decide, qw_1215, rfl, tyX16_ok, nmX16, rfl, rfl, tyX16_ok 13 (by decide)⟩
theorem fl_X16_66 : gq_FL "GraphlineModel" 66 20 17 := ⟨_, _, _, "GraphlineModel", rfl, usX16, by decide, Or.inl qw_1219, Or.inl rfl⟩
theorem fw_X16_66 : gq_FW "GraphlineModel" 66 20 17 (.int) := ⟨_, _, _, "GraphlineModel", tyX16, rfl, usX16, by decide, Or.inl qw_1219, Or.inl rfl, tyX16_ok, nmX16, rfl, tyX16_ok 17 (by decide)⟩
theorem ln_X16_69 : gq_LV "GraphlineModel" 69 "GraphlineModel" mX16_begins 0 := ⟨qw_1262, qw_1264, qw_15, qw_34, qw_1265, rfl, ⟨rfl, ne_15.1, ne_15.2, pm_2⟩⟩
theorem ln_X16_74 : gq_LV "GraphlineModel" 74 "GraphlineModel" mX16_fails 2 := ⟨qw_1270, qw_1272, qw_16, qw_34, qw_1273, rfl, ⟨rfl, ne_15.1, ne_15.2, pm_32⟩⟩
theorem fl_X16_78 : gq_FL "GraphlineModel" 78 20 1 := ⟨_, _, _, "GraphlineModel", rfl, usX16, by decide, Or.inl qw_1203, Or.inl rfl⟩
theorem fw_X16_78 : gq_FW "GraphlineModel" 78 20 1 (.int) := ⟨_, _, _, "GraphlineModel", tyX16, rfl, usX16, by decide, Or.inl qw_1203, Or.inl rfl, tyX16_ok, nmX16, rfl, tyX16_ok 1 (by decide)⟩
theorem ln_X16_83 : gq_LV "GraphlineModel" 83 "java/lang/String" mJ0_indexOf_0f7a4 1 := ⟨qw_1283, qw_1284, qw_1285, qw_41, qw_1286, rfl, ⟨rfl, ne_16.1, ne_16.2, pm_16⟩⟩
theorem ln_X16_89 : gq_LV "GraphlineModel" 89 "java/lang/String" mJ0_charAt_5068e 1 := ⟨qw_1365, qw_1366, qw_1367, qw_41, qw_1368, rfl, ⟨rfl, ne_16.1, ne_16.2, pm_33⟩⟩
theorem ln_X16_93 : gq_LV "GraphlineModel" 93 "GraphlineModel" mX16_going 1 := ⟨qw_1391, qw_1393, qw_17, qw_34, qw_1394, rfl, ⟨rfl, ne_15.1, ne_15.2, pm_34⟩⟩
theorem ln_X16_97 : gq_LS "GraphlineModel" 97 mX16_isOf 2 := ⟨qw_1425, qw_1426, qw_34, qw_1427, rfl, ⟨ne_15.1, ne_15.2, pm_35⟩⟩
theorem lf_X16_107 : gq_LF "GraphlineModel" 107 "java/util/ArrayList" ⟨"java/util/List", "add", "(Ljava/lang/Object;)Z"⟩ mJx4a65c_add_9ea2d 1 := ⟨qw_1411, qw_1414, qw_468, qw_33, qw_470, rfl, by decide +kernel, ⟨ne_13.1, ne_13.2, pm_9⟩⟩
theorem ln_X16_111 : gq_LV "GraphlineModel" 111 "GraphlineModel" mX16_noLot 1 := ⟨qw_1421, qw_1423, qw_18, qw_34, qw_1424, rfl, ⟨rfl, ne_15.1, ne_15.2, pm_34⟩⟩
theorem lf_X16_114 : gq_LF "GraphlineModel" 114 "java/util/ArrayList" ⟨"java/util/List", "get", "(I)Ljava/lang/Object;"⟩ mJx4a65c_get_915e3 1 := ⟨qw_1429, qw_1432, qw_236, qw_33, qw_238, rfl, by decide +kernel, ⟨ne_13.1, ne_13.2, pm_27⟩⟩
theorem nw_X16_132 : gq_NW "GraphlineModel" 132 16 11 [.int 0, .int 0, .int 0, .int 0, .int 0, .int 0, .int 0, .int 0, .int 0, .int 0, .int 0] := ⟨_, _, tyX12, rfl, usX12, tyX12_ok, qw_1452, qw_1453, qw_56, fun j hj => by rcases (show j = 0 ∨ j = 1 ∨ j = 2 ∨ j = 3 ∨ j = 4 ∨ j = 5 ∨ j = 6 ∨ j = 7 ∨ j = 8 ∨ j = 9 ∨ j = 10 by omega) with rfl | rfl | rfl | rfl | rfl | rfl | rfl | rfl | rfl | rfl | rfl <;> rfl⟩
theorem ln_X16_134 : gq_LI "GraphlineModel" 134 mX12_init 0 := ⟨Or.inr ⟨_, (by decide +kernel : ("GraphlineModel", 134, yX12_init, "GraphlineModel") ∈ gq_nm)⟩, qw_1455, qw_56, qw_1456, rfl, rfl, rfl, ⟨ne_17.1, ne_17.2, pm_2⟩⟩
theorem fl_X16_135 : gq_FL "GraphlineModel" 135 16 0 := ⟨_, _, _, "GraphlineModel$Batch", rfl, usX12, by decide, Or.inr ⟨_, (by decide +kernel : ("GraphlineModel", 135, "GraphlineModel$Batch", "mixture", "I", "GraphlineModel") ∈ gq_nf)⟩, Or.inl rfl⟩
theorem fw_X16_135 : gq_FW "GraphlineModel" 135 16 0 (.int) := ⟨_, _, _, "GraphlineModel$Batch", tyX12, rfl, usX12, by decide, Or.inr ⟨_, (by decide +kernel : ("GraphlineModel", 135, "GraphlineModel$Batch", "mixture", "I", "GraphlineModel") ∈ gq_nf)⟩, Or.inl rfl, tyX12_ok, nmX12, rfl, tyX12_ok 0 (by decide)⟩
theorem fl_X16_138 : gq_FL "GraphlineModel" 138 16 1 := ⟨_, _, _, "GraphlineModel$Batch", rfl, usX12, by decide, Or.inr ⟨_, (by decide +kernel : ("GraphlineModel", 138, "GraphlineModel$Batch", "leads", "I", "GraphlineModel") ∈ gq_nf)⟩, Or.inl rfl⟩
theorem fw_X16_138 : gq_FW "GraphlineModel" 138 16 1 (.int) := ⟨_, _, _, "GraphlineModel$Batch", tyX12, rfl, usX12, by decide, Or.inr ⟨_, (by decide +kernel : ("GraphlineModel", 138, "GraphlineModel$Batch", "leads", "I", "GraphlineModel") ∈ gq_nf)⟩, Or.inl rfl, tyX12_ok, nmX12, rfl, tyX12_ok 1 (by decide)⟩
theorem fl_X16_141 : gq_FL "GraphlineModel" 141 16 3 := ⟨_, _, _, "GraphlineModel$Batch", rfl, usX12, by decide, Or.inr ⟨_, (by decide +kernel : ("GraphlineModel", 141, "GraphlineModel$Batch", "bore", "I", "GraphlineModel") ∈ gq_nf)⟩, Or.inl rfl⟩
theorem fw_X16_141 : gq_FW "GraphlineModel" 141 16 3 (.int) := ⟨_, _, _, "GraphlineModel$Batch", tyX12, rfl, usX12, by decide, Or.inr ⟨_, (by decide +kernel : ("GraphlineModel", 141, "GraphlineModel$Batch", "bore", "I", "GraphlineModel") ∈ gq_nf)⟩, Or.inl rfl, tyX12_ok, nmX12, rfl, tyX12_ok 3 (by decide)⟩
theorem ln_X16_144 : gq_LV "GraphlineModel" 144 "GraphlineModel" mX16_noBatch 1 := ⟨qw_1505, qw_1507, qw_19, qw_34, qw_1508, rfl, ⟨rfl, ne_15.1, ne_15.2, pm_34⟩⟩
theorem fl_X16_149 : gq_FL "GraphlineModel" 149 16 5 := ⟨_, _, _, "GraphlineModel$Batch", rfl, usX12, by decide, Or.inr ⟨_, (by decide +kernel : ("GraphlineModel", 149, "GraphlineModel$Batch", "dried", "Z", "GraphlineModel") ∈ gq_nf)⟩, Or.inl rfl⟩
theorem fw_X16_149 : gq_FW "GraphlineModel" 149 16 5 (.boolean) := ⟨_, _, _, "GraphlineModel$Batch", tyX12, rfl, usX12, by decide, Or.inr ⟨_, (by decide +kernel : ("GraphlineModel", 149, "GraphlineModel$Batch", "dried", "Z", "GraphlineModel") ∈ gq_nf)⟩, Or.inl rfl, tyX12_ok, nmX12, rfl, tyX12_ok 5 (by decide)⟩
theorem fl_X16_152 : gq_FL "GraphlineModel" 152 16 4 := ⟨_, _, _, "GraphlineModel$Batch", rfl, usX12, by decide, Or.inr ⟨_, (by decide +kernel : ("GraphlineModel", 152, "GraphlineModel$Batch", "ready", "I", "GraphlineModel") ∈ gq_nf)⟩, Or.inl rfl⟩
theorem fw_X16_152 : gq_FW "GraphlineModel" 152 16 4 (.int) := ⟨_, _, _, "GraphlineModel$Batch", tyX12, rfl, usX12, by decide, Or.inr ⟨_, (by decide +kernel : ("GraphlineModel", 152, "GraphlineModel$Batch", "ready", "I", "GraphlineModel") ∈ gq_nf)⟩, Or.inl rfl, tyX12_ok, nmX12, rfl, tyX12_ok 4 (by decide)⟩
theorem ln_X16_155 : gq_LV "GraphlineModel" 155 "GraphlineModel" mX16_fineness 1 := ⟨qw_1510, qw_1512, qw_20, qw_34, qw_1513, rfl, ⟨rfl, ne_15.1, ne_15.2, pm_36⟩⟩
theorem fl_X16_159 : gq_FL "GraphlineModel" 159 16 2 := ⟨_, _, _, "GraphlineModel$Batch", rfl, usX12, by decide, Or.inr ⟨_, (by decide +kernel : ("GraphlineModel", 159, "GraphlineModel$Batch", "warped", "I", "GraphlineModel") ∈ gq_nf)⟩, Or.inl rfl⟩
theorem fw_X16_159 : gq_FW "GraphlineModel" 159 16 2 (.int) := ⟨_, _, _, "GraphlineModel$Batch", tyX12, rfl, usX12, by decide, Or.inr ⟨_, (by decide +kernel : ("GraphlineModel", 159, "GraphlineModel$Batch", "warped", "I", "GraphlineModel") ∈ gq_nf)⟩, Or.inl rfl, tyX12_ok, nmX12, rfl, tyX12_ok 2 (by decide)⟩
theorem fl_X16_168 : gq_FL "GraphlineModel" 168 16 6 := ⟨_, _, _, "GraphlineModel$Batch", rfl, usX12, by decide, Or.inr ⟨_, (by decide +kernel : ("GraphlineModel", 168, "GraphlineModel$Batch", "firing", "I", "GraphlineModel") ∈ gq_nf)⟩, Or.inl rfl⟩
theorem fl_X16_171 : gq_FL "GraphlineModel" 171 20 14 := ⟨_, _, _, "GraphlineModel", rfl, usX16, by decide, Or.inl qw_1216, Or.inl rfl⟩
theorem fw_X16_168 : gq_FW "GraphlineModel" 168 16 6 (.int) := ⟨_, _, _, "GraphlineModel$Batch", tyX12, rfl, usX12, by decide, Or.inr ⟨_, (by decide +kernel : ("GraphlineModel", 168, "GraphlineModel$Batch", "firing", "I", "GraphlineModel") ∈ gq_nf)⟩, Or.inl rfl, tyX12_ok, nmX12, rfl, tyX12_ok 6 (by decide)⟩
theorem fw_X16_171 : gq_FW "GraphlineModel" 171 20 14 (.int) := ⟨_, _, _, "GraphlineModel", tyX16, rfl, usX16, by decide, Or.inl qw_1216, Or.inl rfl, tyX16_ok, nmX16, rfl, tyX16_ok 14 (by decide)⟩
theorem fl_X16_174 : gq_FL "GraphlineModel" 174 16 7 := ⟨_, _, _, "GraphlineModel$Batch", rfl, usX12, by decide, Or.inr ⟨_, (by decide +kernel : ("GraphlineModel", 174, "GraphlineModel$Batch", "kiln", "I", "GraphlineModel") ∈ gq_nf)⟩, Or.inl rfl⟩
theorem fw_X16_174 : gq_FW "GraphlineModel" 174 16 7 (.int) := ⟨_, _, _, "GraphlineModel$Batch", tyX12, rfl, usX12, by decide, Or.inr ⟨_, (by decide +kernel : ("GraphlineModel", 174, "GraphlineModel$Batch", "kiln", "I", "GraphlineModel") ∈ gq_nf)⟩, Or.inl rfl, tyX12_ok, nmX12, rfl, tyX12_ok 7 (by decide)⟩
theorem fl_X16_177 : gq_FL "GraphlineModel" 177 16 9 := ⟨_, _, _, "GraphlineModel$Batch", rfl, usX12, by decide, Or.inr ⟨_, (by decide +kernel : ("GraphlineModel", 177, "GraphlineModel$Batch", "strength", "I", "GraphlineModel") ∈ gq_nf)⟩, Or.inl rfl⟩
theorem fw_X16_177 : gq_FW "GraphlineModel" 177 16 9 (.int) := ⟨_, _, _, "GraphlineModel$Batch", tyX12, rfl, usX12, by decide, Or.inr ⟨_, (by decide +kernel : ("GraphlineModel", 177, "GraphlineModel$Batch", "strength", "I", "GraphlineModel") ∈ gq_nf)⟩, Or.inl rfl, tyX12_ok, nmX12, rfl, tyX12_ok 9 (by decide)⟩
theorem fl_X16_180 : gq_FL "GraphlineModel" 180 16 10 := ⟨_, _, _, "GraphlineModel$Batch", rfl, usX12, by decide, Or.inr ⟨_, (by decide +kernel : ("GraphlineModel", 180, "GraphlineModel$Batch", "darkness", "I", "GraphlineModel") ∈ gq_nf)⟩, Or.inl rfl⟩
theorem fw_X16_180 : gq_FW "GraphlineModel" 180 16 10 (.int) := ⟨_, _, _, "GraphlineModel$Batch", tyX12, rfl, usX12, by decide, Or.inr ⟨_, (by decide +kernel : ("GraphlineModel", 180, "GraphlineModel$Batch", "darkness", "I", "GraphlineModel") ∈ gq_nf)⟩, Or.inl rfl, tyX12_ok, nmX12, rfl, tyX12_ok 10 (by decide)⟩
theorem ln_X16_183 : gq_LV "GraphlineModel" 183 "GraphlineModel" mX16_isFired 1 := ⟨qw_1525, qw_1527, qw_21, qw_34, qw_1528, rfl, ⟨rfl, ne_15.1, ne_15.2, pm_37⟩⟩
theorem fl_X16_187 : gq_FL "GraphlineModel" 187 16 8 := ⟨_, _, _, "GraphlineModel$Batch", rfl, usX12, by decide, Or.inr ⟨_, (by decide +kernel : ("GraphlineModel", 187, "GraphlineModel$Batch", "soaked", "Z", "GraphlineModel") ∈ gq_nf)⟩, Or.inl rfl⟩
theorem fw_X16_187 : gq_FW "GraphlineModel" 187 16 8 (.boolean) := ⟨_, _, _, "GraphlineModel$Batch", tyX12, rfl, usX12, by decide, Or.inr ⟨_, (by decide +kernel : ("GraphlineModel", 187, "GraphlineModel$Batch", "soaked", "Z", "GraphlineModel") ∈ gq_nf)⟩, Or.inl rfl, tyX12_ok, nmX12, rfl, tyX12_ok 8 (by decide)⟩
theorem fl_X16_192 : gq_FL "GraphlineModel" 192 20 16 := ⟨_, _, _, "GraphlineModel", rfl, usX16, by decide, Or.inl qw_1218, Or.inl rfl⟩
theorem fl_X16_195 : gq_FL "GraphlineModel" 195 20 15 := ⟨_, _, _, "GraphlineModel", rfl, usX16, by decide, Or.inl qw_1217, Or.inl rfl⟩
theorem fw_X16_195 : gq_FW "GraphlineModel" 195 20 15 (.int) := ⟨_, _, _, "GraphlineModel", tyX16, rfl, usX16, by decide, Or.inl qw_1217, Or.inl rfl, tyX16_ok, nmX16, rfl, tyX16_ok 15 (by decide)⟩
theorem fw_X16_192 : gq_FW "GraphlineModel" 192 20 16 (.int) := ⟨_, _, _, "GraphlineModel", tyX16, rfl, usX16, by decide, Or.inl qw_1218, Or.inl rfl, tyX16_ok, nmX16, rfl, tyX16_ok 16 (by decide)⟩
theorem ln_X16_198 : gq_LV "GraphlineModel" 198 "GraphlineModel" mX16_tells 1 := ⟨qw_1538, qw_1540, qw_22, qw_34, qw_1541, rfl, ⟨rfl, ne_15.1, ne_15.2, pm_36⟩⟩
theorem nw_X16_203 : gq_NW "GraphlineModel" 203 19 6 [.int 0, .int 0, .int 0, .int 0, .int 0, .int 0] := ⟨_, _, tyX15, rfl, usX15, tyX15_ok, qw_1551, qw_1552, qw_58, fun j hj => by rcases (show j = 0 ∨ j = 1 ∨ j = 2 ∨ j = 3 ∨ j = 4 ∨ j = 5 by omega) with rfl | rfl | rfl | rfl | rfl | rfl <;> rfl⟩
theorem ln_X16_205 : gq_LI "GraphlineModel" 205 mX15_init 0 := ⟨Or.inr ⟨_, (by decide +kernel : ("GraphlineModel", 205, yX15_init, "GraphlineModel") ∈ gq_nm)⟩, qw_1554, qw_58, qw_1555, rfl, rfl, rfl, ⟨ne_18.1, ne_18.2, pm_2⟩⟩
theorem fl_X16_206 : gq_FL "GraphlineModel" 206 19 0 := ⟨_, _, _, "GraphlineModel$Slat", rfl, usX15, by decide, Or.inr ⟨_, (by decide +kernel : ("GraphlineModel", 206, "GraphlineModel$Slat", "wood", "C", "GraphlineModel") ∈ gq_nf)⟩, Or.inl rfl⟩
theorem fw_X16_206 : gq_FW "GraphlineModel" 206 19 0 (.char) := ⟨_, _, _, "GraphlineModel$Slat", tyX15, rfl, usX15, by decide, Or.inr ⟨_, (by decide +kernel : ("GraphlineModel", 206, "GraphlineModel$Slat", "wood", "C", "GraphlineModel") ∈ gq_nf)⟩, Or.inl rfl, tyX15_ok, nmX15, rfl, tyX15_ok 0 (by decide)⟩
theorem fl_X16_210 : gq_FL "GraphlineModel" 210 19 1 := ⟨_, _, _, "GraphlineModel$Slat", rfl, usX15, by decide, Or.inr ⟨_, (by decide +kernel : ("GraphlineModel", 210, "GraphlineModel$Slat", "grain", "I", "GraphlineModel") ∈ gq_nf)⟩, Or.inl rfl⟩
theorem fw_X16_210 : gq_FW "GraphlineModel" 210 19 1 (.int) := ⟨_, _, _, "GraphlineModel$Slat", tyX15, rfl, usX15, by decide, Or.inr ⟨_, (by decide +kernel : ("GraphlineModel", 210, "GraphlineModel$Slat", "grain", "I", "GraphlineModel") ∈ gq_nf)⟩, Or.inl rfl, tyX15_ok, nmX15, rfl, tyX15_ok 1 (by decide)⟩
theorem fl_X16_213 : gq_FL "GraphlineModel" 213 19 2 := ⟨_, _, _, "GraphlineModel$Slat", rfl, usX15, by decide, Or.inr ⟨_, (by decide +kernel : ("GraphlineModel", 213, "GraphlineModel$Slat", "wet", "I", "GraphlineModel") ∈ gq_nf)⟩, Or.inl rfl⟩
theorem fw_X16_213 : gq_FW "GraphlineModel" 213 19 2 (.int) := ⟨_, _, _, "GraphlineModel$Slat", tyX15, rfl, usX15, by decide, Or.inr ⟨_, (by decide +kernel : ("GraphlineModel", 213, "GraphlineModel$Slat", "wet", "I", "GraphlineModel") ∈ gq_nf)⟩, Or.inl rfl, tyX15_ok, nmX15, rfl, tyX15_ok 2 (by decide)⟩
theorem fl_X16_216 : gq_FL "GraphlineModel" 216 19 3 := ⟨_, _, _, "GraphlineModel$Slat", rfl, usX15, by decide, Or.inr ⟨_, (by decide +kernel : ("GraphlineModel", 216, "GraphlineModel$Slat", "many", "I", "GraphlineModel") ∈ gq_nf)⟩, Or.inl rfl⟩
theorem fw_X16_216 : gq_FW "GraphlineModel" 216 19 3 (.int) := ⟨_, _, _, "GraphlineModel$Slat", tyX15, rfl, usX15, by decide, Or.inr ⟨_, (by decide +kernel : ("GraphlineModel", 216, "GraphlineModel$Slat", "many", "I", "GraphlineModel") ∈ gq_nf)⟩, Or.inl rfl, tyX15_ok, nmX15, rfl, tyX15_ok 3 (by decide)⟩
theorem ln_X16_219 : gq_LV "GraphlineModel" 219 "GraphlineModel" mX16_noSlats 1 := ⟨qw_1580, qw_1582, qw_23, qw_34, qw_1583, rfl, ⟨rfl, ne_15.1, ne_15.2, pm_34⟩⟩
theorem fl_X16_224 : gq_FL "GraphlineModel" 224 19 5 := ⟨_, _, _, "GraphlineModel$Slat", rfl, usX15, by decide, Or.inr ⟨_, (by decide +kernel : ("GraphlineModel", 224, "GraphlineModel$Slat", "ready", "I", "GraphlineModel") ∈ gq_nf)⟩, Or.inl rfl⟩
theorem fw_X16_224 : gq_FW "GraphlineModel" 224 19 5 (.int) := ⟨_, _, _, "GraphlineModel$Slat", tyX15, rfl, usX15, by decide, Or.inr ⟨_, (by decide +kernel : ("GraphlineModel", 224, "GraphlineModel$Slat", "ready", "I", "GraphlineModel") ∈ gq_nf)⟩, Or.inl rfl, tyX15_ok, nmX15, rfl, tyX15_ok 5 (by decide)⟩
theorem fl_X16_227 : gq_FL "GraphlineModel" 227 19 4 := ⟨_, _, _, "GraphlineModel$Slat", rfl, usX15, by decide, Or.inr ⟨_, (by decide +kernel : ("GraphlineModel", 227, "GraphlineModel$Slat", "width", "I", "GraphlineModel") ∈ gq_nf)⟩, Or.inl rfl⟩
theorem fw_X16_227 : gq_FW "GraphlineModel" 227 19 4 (.int) := ⟨_, _, _, "GraphlineModel$Slat", tyX15, rfl, usX15, by decide, Or.inr ⟨_, (by decide +kernel : ("GraphlineModel", 227, "GraphlineModel$Slat", "width", "I", "GraphlineModel") ∈ gq_nf)⟩, Or.inl rfl, tyX15_ok, nmX15, rfl, tyX15_ok 4 (by decide)⟩
theorem nw_X16_237 : gq_NW "GraphlineModel" 237 18 11 [.int 0, .int 0, .int 0, .int 0, .int 0, .int 0, .int 0, .int 0, .int 0, .int 0, .int 0] := ⟨_, _, tyX14, rfl, usX14, tyX14_ok, qw_1601, qw_1602, qw_60, fun j hj => by rcases (show j = 0 ∨ j = 1 ∨ j = 2 ∨ j = 3 ∨ j = 4 ∨ j = 5 ∨ j = 6 ∨ j = 7 ∨ j = 8 ∨ j = 9 ∨ j = 10 by omega) with rfl | rfl | rfl | rfl | rfl | rfl | rfl | rfl | rfl | rfl | rfl <;> rfl⟩
theorem ln_X16_239 : gq_LI "GraphlineModel" 239 mX14_init 0 := ⟨Or.inr ⟨_, (by decide +kernel : ("GraphlineModel", 239, yX14_init, "GraphlineModel") ∈ gq_nm)⟩, qw_1604, qw_60, qw_1605, rfl, rfl, rfl, ⟨ne_19.1, ne_19.2, pm_2⟩⟩
theorem fl_X16_240 : gq_FL "GraphlineModel" 240 18 0 := ⟨_, _, _, "GraphlineModel$Run", rfl, usX14, by decide, Or.inr ⟨_, (by decide +kernel : ("GraphlineModel", 240, "GraphlineModel$Run", "batch", "I", "GraphlineModel") ∈ gq_nf)⟩, Or.inl rfl⟩
theorem fw_X16_240 : gq_FW "GraphlineModel" 240 18 0 (.int) := ⟨_, _, _, "GraphlineModel$Run", tyX14, rfl, usX14, by decide, Or.inr ⟨_, (by decide +kernel : ("GraphlineModel", 240, "GraphlineModel$Run", "batch", "I", "GraphlineModel") ∈ gq_nf)⟩, Or.inl rfl, tyX14_ok, nmX14, rfl, tyX14_ok 0 (by decide)⟩
theorem fl_X16_243 : gq_FL "GraphlineModel" 243 18 1 := ⟨_, _, _, "GraphlineModel$Run", rfl, usX14, by decide, Or.inr ⟨_, (by decide +kernel : ("GraphlineModel", 243, "GraphlineModel$Run", "slats", "I", "GraphlineModel") ∈ gq_nf)⟩, Or.inl rfl⟩
theorem fw_X16_243 : gq_FW "GraphlineModel" 243 18 1 (.int) := ⟨_, _, _, "GraphlineModel$Run", tyX14, rfl, usX14, by decide, Or.inr ⟨_, (by decide +kernel : ("GraphlineModel", 243, "GraphlineModel$Run", "slats", "I", "GraphlineModel") ∈ gq_nf)⟩, Or.inl rfl, tyX14_ok, nmX14, rfl, tyX14_ok 1 (by decide)⟩
theorem fl_X16_245 : gq_FL "GraphlineModel" 245 18 2 := ⟨_, _, _, "GraphlineModel$Run", rfl, usX14, by decide, Or.inr ⟨_, (by decide +kernel : ("GraphlineModel", 245, "GraphlineModel$Run", "hand", "I", "GraphlineModel") ∈ gq_nf)⟩, Or.inl rfl⟩
theorem fw_X16_245 : gq_FW "GraphlineModel" 245 18 2 (.int) := ⟨_, _, _, "GraphlineModel$Run", tyX14, rfl, usX14, by decide, Or.inr ⟨_, (by decide +kernel : ("GraphlineModel", 245, "GraphlineModel$Run", "hand", "I", "GraphlineModel") ∈ gq_nf)⟩, Or.inl rfl, tyX14_ok, nmX14, rfl, tyX14_ok 2 (by decide)⟩
theorem fl_X16_248 : gq_FL "GraphlineModel" 248 18 3 := ⟨_, _, _, "GraphlineModel$Run", rfl, usX14, by decide, Or.inr ⟨_, (by decide +kernel : ("GraphlineModel", 248, "GraphlineModel$Run", "many", "I", "GraphlineModel") ∈ gq_nf)⟩, Or.inl rfl⟩
theorem fw_X16_248 : gq_FW "GraphlineModel" 248 18 3 (.int) := ⟨_, _, _, "GraphlineModel$Run", tyX14, rfl, usX14, by decide, Or.inr ⟨_, (by decide +kernel : ("GraphlineModel", 248, "GraphlineModel$Run", "many", "I", "GraphlineModel") ∈ gq_nf)⟩, Or.inl rfl, tyX14_ok, nmX14, rfl, tyX14_ok 3 (by decide)⟩
theorem fl_X16_249 : gq_FL "GraphlineModel" 249 18 5 := ⟨_, _, _, "GraphlineModel$Run", rfl, usX14, by decide, Or.inr ⟨_, (by decide +kernel : ("GraphlineModel", 249, "GraphlineModel$Run", "off", "I", "GraphlineModel") ∈ gq_nf)⟩, Or.inl rfl⟩
theorem fw_X16_249 : gq_FW "GraphlineModel" 249 18 5 (.int) := ⟨_, _, _, "GraphlineModel$Run", tyX14, rfl, usX14, by decide, Or.inr ⟨_, (by decide +kernel : ("GraphlineModel", 249, "GraphlineModel$Run", "off", "I", "GraphlineModel") ∈ gq_nf)⟩, Or.inl rfl, tyX14_ok, nmX14, rfl, tyX14_ok 5 (by decide)⟩
theorem fl_X16_252 : gq_FL "GraphlineModel" 252 18 6 := ⟨_, _, _, "GraphlineModel$Run", rfl, usX14, by decide, Or.inr ⟨_, (by decide +kernel : ("GraphlineModel", 252, "GraphlineModel$Run", "ready", "I", "GraphlineModel") ∈ gq_nf)⟩, Or.inl rfl⟩
theorem fw_X16_252 : gq_FW "GraphlineModel" 252 18 6 (.int) := ⟨_, _, _, "GraphlineModel$Run", tyX14, rfl, usX14, by decide, Or.inr ⟨_, (by decide +kernel : ("GraphlineModel", 252, "GraphlineModel$Run", "ready", "I", "GraphlineModel") ∈ gq_nf)⟩, Or.inl rfl, tyX14_ok, nmX14, rfl, tyX14_ok 6 (by decide)⟩
theorem ln_X16_253 : gq_LV "GraphlineModel" 253 "GraphlineModel" mX16_noRun 1 := ⟨qw_1647, qw_1649, qw_24, qw_34, qw_1650, rfl, ⟨rfl, ne_15.1, ne_15.2, pm_34⟩⟩
theorem fl_X16_256 : gq_FL "GraphlineModel" 256 18 7 := ⟨_, _, _, "GraphlineModel$Run", rfl, usX14, by decide, Or.inr ⟨_, (by decide +kernel : ("GraphlineModel", 256, "GraphlineModel$Run", "coats", "I", "GraphlineModel") ∈ gq_nf)⟩, Or.inl rfl⟩
theorem fw_X16_256 : gq_FW "GraphlineModel" 256 18 7 (.int) := ⟨_, _, _, "GraphlineModel$Run", tyX14, rfl, usX14, by decide, Or.inr ⟨_, (by decide +kernel : ("GraphlineModel", 256, "GraphlineModel$Run", "coats", "I", "GraphlineModel") ∈ gq_nf)⟩, Or.inl rfl, tyX14_ok, nmX14, rfl, tyX14_ok 7 (by decide)⟩
theorem fl_X16_259 : gq_FL "GraphlineModel" 259 18 8 := ⟨_, _, _, "GraphlineModel$Run", rfl, usX14, by decide, Or.inr ⟨_, (by decide +kernel : ("GraphlineModel", 259, "GraphlineModel$Run", "colour", "I", "GraphlineModel") ∈ gq_nf)⟩, Or.inl rfl⟩
theorem fw_X16_259 : gq_FW "GraphlineModel" 259 18 8 (.int) := ⟨_, _, _, "GraphlineModel$Run", tyX14, rfl, usX14, by decide, Or.inr ⟨_, (by decide +kernel : ("GraphlineModel", 259, "GraphlineModel$Run", "colour", "I", "GraphlineModel") ∈ gq_nf)⟩, Or.inl rfl, tyX14_ok, nmX14, rfl, tyX14_ok 8 (by decide)⟩
theorem fl_X16_262 : gq_FL "GraphlineModel" 262 18 9 := ⟨_, _, _, "GraphlineModel$Run", rfl, usX14, by decide, Or.inr ⟨_, (by decide +kernel : ("GraphlineModel", 262, "GraphlineModel$Run", "stamp", "I", "GraphlineModel") ∈ gq_nf)⟩, Or.inl rfl⟩
theorem fw_X16_262 : gq_FW "GraphlineModel" 262 18 9 (.int) := ⟨_, _, _, "GraphlineModel$Run", tyX14, rfl, usX14, by decide, Or.inr ⟨_, (by decide +kernel : ("GraphlineModel", 262, "GraphlineModel$Run", "stamp", "I", "GraphlineModel") ∈ gq_nf)⟩, Or.inl rfl, tyX14_ok, nmX14, rfl, tyX14_ok 9 (by decide)⟩
theorem fl_X16_265 : gq_FL "GraphlineModel" 265 18 10 := ⟨_, _, _, "GraphlineModel$Run", rfl, usX14, by decide, Or.inr ⟨_, (by decide +kernel : ("GraphlineModel", 265, "GraphlineModel$Run", "erased", "Z", "GraphlineModel") ∈ gq_nf)⟩, Or.inl rfl⟩
theorem fw_X16_265 : gq_FW "GraphlineModel" 265 18 10 (.boolean) := ⟨_, _, _, "GraphlineModel$Run", tyX14, rfl, usX14, by decide, Or.inr ⟨_, (by decide +kernel : ("GraphlineModel", 265, "GraphlineModel$Run", "erased", "Z", "GraphlineModel") ∈ gq_nf)⟩, Or.inl rfl, tyX14_ok, nmX14, rfl, tyX14_ok 10 (by decide)⟩
theorem fl_X16_270 : gq_FL "GraphlineModel" 270 18 4 := ⟨_, _, _, "GraphlineModel$Run", rfl, usX14, by decide, Or.inr ⟨_, (by decide +kernel : ("GraphlineModel", 270, "GraphlineModel$Run", "broken", "I", "GraphlineModel") ∈ gq_nf)⟩, Or.inl rfl⟩
theorem fw_X16_270 : gq_FW "GraphlineModel" 270 18 4 (.int) := ⟨_, _, _, "GraphlineModel$Run", tyX14, rfl, usX14, by decide, Or.inr ⟨_, (by decide +kernel : ("GraphlineModel", 270, "GraphlineModel$Run", "broken", "I", "GraphlineModel") ∈ gq_nf)⟩, Or.inl rfl, tyX14_ok, nmX14, rfl, tyX14_ok 4 (by decide)⟩
theorem nw_X16_281 : gq_NW "GraphlineModel" 281 17 3 [.int 0, .null, .int 0] := ⟨_, _, tyX13, rfl, usX13, tyX13_ok, qw_1684, qw_1685, qw_62, fun j hj => by rcases (show j = 0 ∨ j = 1 ∨ j = 2 by omega) with rfl | rfl | rfl <;> rfl⟩
theorem ln_X16_283 : gq_LI "GraphlineModel" 283 mX13_init 0 := ⟨Or.inr ⟨_, (by decide +kernel : ("GraphlineModel", 283, yX13_init, "GraphlineModel") ∈ gq_nm)⟩, qw_1687, qw_62, qw_1688, rfl, rfl, rfl, ⟨ne_20.1, ne_20.2, pm_2⟩⟩
theorem fl_X16_284 : gq_FL "GraphlineModel" 284 17 0 := ⟨_, _, _, "GraphlineModel$Gross", rfl, usX13, by decide, Or.inr ⟨_, (by decide +kernel : ("GraphlineModel", 284, "GraphlineModel$Gross", "grade", "I", "GraphlineModel") ∈ gq_nf)⟩, Or.inl rfl⟩
theorem fw_X16_284 : gq_FW "GraphlineModel" 284 17 0 (.int) := ⟨_, _, _, "GraphlineModel$Gross", tyX13, rfl, usX13, by decide, Or.inr ⟨_, (by decide +kernel : ("GraphlineModel", 284, "GraphlineModel$Gross", "grade", "I", "GraphlineModel") ∈ gq_nf)⟩, Or.inl rfl, tyX13_ok, nmX13, rfl, tyX13_ok 0 (by decide)⟩
theorem ln_X16_289 : gq_LV "GraphlineModel" 289 "GraphlineModel$Gross" mX13_many 0 := ⟨qw_1708, qw_1709, qw_1710, qw_62, qw_1711, rfl, ⟨rfl, ne_20.1, ne_20.2, pm_7⟩⟩
theorem fl_X16_291 : gq_FL "GraphlineModel" 291 17 2 := ⟨_, _, _, "GraphlineModel$Gross", rfl, usX13, by decide, Or.inr ⟨_, (by decide +kernel : ("GraphlineModel", 291, "GraphlineModel$Gross", "shipped", "Z", "GraphlineModel") ∈ gq_nf)⟩, Or.inl rfl⟩
theorem fl_X16_294 : gq_FL "GraphlineModel" 294 17 1 := ⟨_, _, _, "GraphlineModel$Gross", rfl, usX13, by decide, Or.inr ⟨_, (by decide +kernel : ("GraphlineModel", 294, "GraphlineModel$Gross", "parts", "Ljava/util/List;", "GraphlineModel") ∈ gq_nf)⟩, Or.inl rfl⟩
theorem fw_X16_291 : gq_FW "GraphlineModel" 291 17 2 (.boolean) := ⟨_, _, _, "GraphlineModel$Gross", tyX13, rfl, usX13, by decide, Or.inr ⟨_, (by decide +kernel : ("GraphlineModel", 291, "GraphlineModel$Gross", "shipped", "Z", "GraphlineModel") ∈ gq_nf)⟩, Or.inl rfl, tyX13_ok, nmX13, rfl, tyX13_ok 2 (by decide)⟩
theorem ln_X16_299 : gq_LV "GraphlineModel" 299 "GraphlineModel" mX16_noGross 1 := ⟨qw_1781, qw_1783, qw_25, qw_34, qw_1784, rfl, ⟨rfl, ne_15.1, ne_15.2, pm_34⟩⟩
theorem lf_X16_302 : gq_LF "GraphlineModel" 302 "java/util/ArrayList" ⟨"java/util/List", "iterator", "()Ljava/util/Iterator;"⟩ mJx4a65c_iterator_32c93 0 := ⟨qw_1786, qw_1716, qw_1718, qw_33, qw_1720, rfl, by decide +kernel, ⟨ne_13.1, ne_13.2, pm_29⟩⟩
theorem lf_X16_306 : gq_LF "GraphlineModel" 306 "java/util/ArrayList$Itr" ⟨"java/util/Iterator", "hasNext", "()Z"⟩ mJx35411_hasNext_aae02 0 := ⟨qw_1788, qw_1745, qw_1747, qw_64, qw_1749, rfl, by decide +kernel, ⟨ne_14.1, ne_14.2, pm_15⟩⟩
theorem lf_X16_312 : gq_LF "GraphlineModel" 312 "java/util/ArrayList$Itr" ⟨"java/util/Iterator", "next", "()Ljava/lang/Object;"⟩ mJx35411_next_0502b 0 := ⟨qw_1790, qw_1754, qw_1756, qw_64, qw_1758, rfl, by decide +kernel, ⟨ne_14.1, ne_14.2, pm_30⟩⟩
theorem ln_J0_335 : gq_LV "java/lang/String" 335 "java/lang/String" mJ0_coder_7d493 0 := ⟨qw_1301, qw_1302, qw_1303, qw_41, qw_1304, rfl, ⟨rfl, ne_16.1, ne_16.2, pm_38⟩⟩
theorem ln_J0_492 : gq_LV "java/lang/String" 492 "java/lang/String" mJ0_isLatin1_aae02 0 := ⟨qw_1291, qw_1292, qw_1293, qw_41, qw_1294, rfl, ⟨rfl, ne_16.1, ne_16.2, pm_15⟩⟩
theorem ln_J0_495 : gq_LS "java/lang/String" 495 mJ1_charAt_3b067 2 := ⟨qw_1369, qw_1370, qw_42, qw_1371, rfl, ⟨ne_21.1, ne_21.2, pm_39⟩⟩
theorem ln_J0_633 : gq_LV "java/lang/String" 633 "java/lang/String" mJ0_indexOf_7cf53 2 := ⟨qw_1287, qw_1288, qw_1289, qw_41, qw_1290, rfl, ⟨rfl, ne_16.1, ne_16.2, pm_40⟩⟩
theorem ln_J0_505 : gq_LV "java/lang/String" 505 "java/lang/String" mJ0_length_8abf5 0 := ⟨qw_1297, qw_1298, qw_1299, qw_41, qw_1300, rfl, ⟨rfl, ne_16.1, ne_16.2, pm_7⟩⟩
theorem ln_J0_637 : gq_LS "java/lang/String" 637 mJ1_indexOf_4cfef 4 := ⟨qw_1305, qw_1306, qw_42, qw_1307, rfl, ⟨ne_21.1, ne_21.2, pm_41⟩⟩
theorem ln_J0_1059 : gq_LS "java/lang/String" 1059 mJ3_checkIndex_8e157 3 := ⟨qw_1375, qw_243, qw_45, qw_244, rfl, ⟨ne_22.1, ne_22.2, pm_42⟩⟩
theorem ln_J0_1062 : gq_LS "java/lang/String" 1062 mJ3_checkFromToIndex_8c36e 4 := ⟨qw_1336, qw_1337, qw_45, qw_1338, rfl, ⟨ne_22.1, ne_22.2, pm_43⟩⟩
theorem ln_J1_9 : gq_LS "java/lang/StringLatin1" 9 mJ0_checkIndex_df160 2 := ⟨qw_1372, qw_1373, qw_41, qw_1374, rfl, ⟨ne_16.1, ne_16.2, pm_44⟩⟩
theorem ln_J1_88 : gq_LS "java/lang/StringLatin1" 88 mJ1_canEncode_9a6ad 1 := ⟨qw_1308, qw_1309, qw_42, qw_1310, rfl, ⟨ne_21.1, ne_21.2, pm_34⟩⟩
theorem ln_J1_95 : gq_LS "java/lang/StringLatin1" 95 mJ1_indexOfChar_4cfef 4 := ⟨qw_1313, qw_1314, qw_42, qw_1315, rfl, ⟨ne_21.1, ne_21.2, pm_41⟩⟩
theorem ln_Jxc12de_1 : gq_LI "java/util/AbstractList" 1 mJxa1e45_init_da8c8 0 := ⟨Or.inl qw_144, qw_145, qw_31, qw_146, rfl, rfl, rfl, ⟨ne_23.1, ne_23.2, pm_2⟩⟩
theorem fl_Jxc12de_7 : gq_FL "java/util/AbstractList" 7 3 0 := ⟨_, _, _, "java/util/AbstractList", rfl, usJx4a65c, by decide, Or.inl qw_154, Or.inl rfl⟩
theorem fw_Jxc12de_7 : gq_FW "java/util/AbstractList" 7 3 0 (.int) := ⟨_, _, _, "java/util/AbstractList", tyJx4a65c, rfl, usJx4a65c, by decide, Or.inl qw_154, Or.inl rfl, tyJx4a65c_ok, nmJx4a65c, rfl, tyJx4a65c_ok 0 (by decide)⟩
theorem fl_Jx35411_1 : gq_FL "java/util/ArrayList$Itr" 1 2 3 := ⟨_, _, _, "java/util/ArrayList$Itr", rfl, usJx35411, by decide, Or.inl qw_1730, Or.inl rfl⟩
theorem ff_Jx35411_1 : gq_FF "java/util/ArrayList$Itr" 1 2 3 (.object "java/util/ArrayList") := ⟨_, _, _, "java/util/ArrayList$Itr", tyJx35411, rfl, usJx35411, by decide, qw_1730, rfl, tyJx35411_ok, nmJx35411, rfl, rfl, tyJx35411_ok 3 (by decide)⟩
theorem fl_Jx35411_13 : gq_FL "java/util/ArrayList$Itr" 13 2 1 := ⟨_, _, _, "java/util/ArrayList$Itr", rfl, usJx35411, by decide, Or.inl qw_1728, Or.inl rfl⟩
theorem fw_Jx35411_13 : gq_FW "java/util/ArrayList$Itr" 13 2 1 (.int) := ⟨_, _, _, "java/util/ArrayList$Itr", tyJx35411, rfl, usJx35411, by decide, Or.inl qw_1728, Or.inl rfl, tyJx35411_ok, nmJx35411, rfl, tyJx35411_ok 1 (by decide)⟩
theorem fl_Jx35411_17 : gq_FL "java/util/ArrayList$Itr" 17 3 0 := ⟨_, _, _, "java/util/ArrayList", rfl, usJx4a65c, by decide, Or.inl qw_155, Or.inr qw_156⟩
theorem fl_Jx35411_22 : gq_FL "java/util/ArrayList$Itr" 22 2 2 := ⟨_, _, _, "java/util/ArrayList$Itr", rfl, usJx35411, by decide, Or.inl qw_1729, Or.inl rfl⟩
theorem fw_Jx35411_22 : gq_FW "java/util/ArrayList$Itr" 22 2 2 (.int) := ⟨_, _, _, "java/util/ArrayList$Itr", tyJx35411, rfl, usJx35411, by decide, Or.inl qw_1729, Or.inl rfl, tyJx35411_ok, nmJx35411, rfl, tyJx35411_ok 2 (by decide)⟩
theorem fl_Jx35411_25 : gq_FL "java/util/ArrayList$Itr" 25 2 0 := ⟨_, _, _, "java/util/ArrayList$Itr", rfl, usJx35411, by decide, Or.inl qw_1727, Or.inl rfl⟩
theorem fl_Jx35411_28 : gq_FL "java/util/ArrayList$Itr" 28 3 2 := ⟨_, _, _, "java/util/ArrayList", rfl, usJx4a65c, by decide, Or.inr ⟨_, (by decide +kernel : ("java/util/ArrayList$Itr", 28, "java/util/ArrayList", "size", "I", "java/util/ArrayList") ∈ gq_nf)⟩, Or.inl rfl⟩
theorem ln_Jx35411_31 : gq_LV "java/util/ArrayList$Itr" 31 "java/util/ArrayList$Itr" mJx35411_checkForComodification_da8c8 0 := ⟨qw_1759, qw_1760, qw_1761, qw_64, qw_1762, rfl, ⟨rfl, ne_24.1, ne_24.2, pm_2⟩⟩
theorem fl_Jx35411_37 : gq_FL "java/util/ArrayList$Itr" 37 3 1 := ⟨_, _, _, "java/util/ArrayList", rfl, usJx4a65c, by decide, Or.inl qw_151, Or.inl rfl⟩
theorem fw_Jx35411_25 : gq_FW "java/util/ArrayList$Itr" 25 2 0 (.int) := ⟨_, _, _, "java/util/ArrayList$Itr", tyJx35411, rfl, usJx35411, by decide, Or.inl qw_1727, Or.inl rfl, tyJx35411_ok, nmJx35411, rfl, tyJx35411_ok 0 (by decide)⟩
theorem ln_Jx4a65c_1 : gq_LI "java/util/ArrayList" 1 mJxc12de_init_da8c8 0 := ⟨Or.inl qw_141, qw_142, qw_32, qw_143, rfl, rfl, rfl, ⟨ne_25.1, ne_25.2, pm_2⟩⟩
theorem fl_Jx4a65c_9 : gq_FL "java/util/ArrayList" 9 3 1 := ⟨_, _, _, "java/util/ArrayList", rfl, usJx4a65c, by decide, Or.inl qw_150, Or.inl rfl⟩
theorem fw_Jx4a65c_9 : gq_FW "java/util/ArrayList" 9 3 1 (.array (.object "java/lang/Object")) := ⟨_, _, _, "java/util/ArrayList", tyJx4a65c, rfl, usJx4a65c, by decide, Or.inl qw_150, Or.inl rfl, tyJx4a65c_ok, nmJx4a65c, rfl, tyJx4a65c_ok 1 (by decide)⟩
theorem ln_Jx4a65c_73 : gq_LS "java/util/ArrayList" 73 mJ8_newLength_cabcc 3 := ⟨qw_483, qw_484, qw_48, qw_485, rfl, ⟨ne_26.1, ne_26.2, pm_3⟩⟩
theorem ln_Jx4a65c_66 : gq_LS "java/util/ArrayList" 66 mJ7_copyOf_1904c 2 := ⟨qw_493, qw_494, qw_49, qw_495, rfl, ⟨ne_27.1, ne_27.2, pm_45⟩⟩
theorem fl_Jx4a65c_48 : gq_FL "java/util/ArrayList" 48 3 2 := ⟨_, _, _, "java/util/ArrayList", rfl, usJx4a65c, by decide, Or.inl qw_153, Or.inl rfl⟩
theorem ln_Jx4a65c_69 : gq_LV "java/util/ArrayList" 69 "java/util/ArrayList" mJx4a65c_grow_92f84 1 := ⟨qw_479, qw_481, qw_7, qw_33, qw_482, rfl, ⟨rfl, ne_2.1, ne_2.2, pm_46⟩⟩
theorem ln_Jx4a65c_118 : gq_LS "java/util/ArrayList" 118 mJ15_checkIndex_7cf53 2 := ⟨qw_239, qw_240, qw_53, qw_241, rfl, ⟨ne_28.1, ne_28.2, pm_40⟩⟩
theorem ln_Jx4a65c_123 : gq_LV "java/util/ArrayList" 123 "java/util/ArrayList" mJx4a65c_elementData_915e3 1 := ⟨qw_245, qw_246, qw_247, qw_33, qw_248, rfl, ⟨rfl, ne_2.1, ne_2.2, pm_27⟩⟩
theorem ln_Jx4a65c_129 : gq_LV "java/util/ArrayList" 129 "java/util/ArrayList" mJx4a65c_grow_d5877 0 := ⟨qw_475, qw_477, qw_6, qw_33, qw_478, rfl, ⟨rfl, ne_2.1, ne_2.2, pm_47⟩⟩
theorem fw_Jx4a65c_48 : gq_FW "java/util/ArrayList" 48 3 2 (.int) := ⟨_, _, _, "java/util/ArrayList", tyJx4a65c, rfl, usJx4a65c, by decide, Or.inl qw_153, Or.inl rfl, tyJx4a65c_ok, nmJx4a65c, rfl, tyJx4a65c_ok 2 (by decide)⟩
theorem fl_Jx4a65c_63 : gq_FL "java/util/ArrayList" 63 3 0 := ⟨_, _, _, "java/util/ArrayList", rfl, usJx4a65c, by decide, Or.inl qw_157, Or.inr qw_156⟩
theorem fw_Jx4a65c_63 : gq_FW "java/util/ArrayList" 63 3 0 (.int) := ⟨_, _, _, "java/util/ArrayList", tyJx4a65c, rfl, usJx4a65c, by decide, Or.inl qw_157, Or.inr qw_156, tyJx4a65c_ok, nmJx4a65c, rfl, tyJx4a65c_ok 0 (by decide)⟩
theorem ln_Jx4a65c_131 : gq_LV "java/util/ArrayList" 131 "java/util/ArrayList" mJx4a65c_add_72be8 3 := ⟨qw_471, qw_473, qw_5, qw_33, qw_474, rfl, ⟨rfl, ne_2.1, ne_2.2, pm_48⟩⟩
theorem nw_Jx4a65c_267 : gq_NW "java/util/ArrayList" 267 2 4 [.int 0, .int 0, .int 0, .null] := ⟨_, _, tyJx35411, rfl, usJx35411, tyJx35411_ok, qw_1721, qw_1722, qw_64, fun j hj => by rcases (show j = 0 ∨ j = 1 ∨ j = 2 ∨ j = 3 by omega) with rfl | rfl | rfl | rfl <;> rfl⟩
theorem ln_Jx4a65c_269 : gq_LI "java/util/ArrayList" 269 mJx35411_init_45d68 1 := ⟨Or.inl qw_1723, qw_1724, qw_64, qw_1725, rfl, rfl, rfl, ⟨ne_24.1, ne_24.2, pm_49⟩⟩
theorem ln_J7_300 : gq_LS "java/util/Arrays" 300 mJ7_copyOf_6403c 3 := ⟨qw_525, qw_526, qw_49, qw_527, rfl, ⟨ne_27.1, ne_27.2, pm_50⟩⟩
theorem ln_J15_105 : gq_LS "java/util/Objects" 105 mJ3_checkIndex_8e157 3 := ⟨qw_242, qw_243, qw_45, qw_244, rfl, ⟨ne_22.1, ne_22.2, pm_42⟩⟩
theorem ln_J8_201 : gq_LS "jdk/internal/util/ArraysSupport" 201 mJ8_hugeLength_7cf53 2 := ⟨qw_490, qw_491, qw_48, qw_492, rfl, ⟨ne_26.1, ne_26.2, pm_40⟩⟩
theorem ln_L_7 : gq_LV "GraphlineLaw" 7 "Graphline" mX11_go 1 := ⟨qw_288, qw_289, qw_290, qw_27, qw_291, rfl, ⟨rfl, ne_3.1, ne_3.2, pm_16⟩⟩
theorem ln_L_17 : gq_LV "GraphlineLaw" 17 "Graphline" mX11_belt 2 := ⟨qw_386, qw_387, qw_388, qw_27, qw_389, rfl, ⟨rfl, ne_3.1, ne_3.2, pm_51⟩⟩
theorem ln_L_23 : gq_LV "GraphlineLaw" 23 "Graphline" mX11_on 2 := ⟨qw_419, qw_420, qw_421, qw_27, qw_422, rfl, ⟨rfl, ne_3.1, ne_3.2, pm_52⟩⟩
theorem ln_L_27 : gq_LV "GraphlineLaw" 27 "Graphline" mX11_runs 1 := ⟨qw_426, qw_427, qw_428, qw_27, qw_429, rfl, ⟨rfl, ne_3.1, ne_3.2, pm_53⟩⟩
theorem ln_L_31 : gq_LV "GraphlineLaw" 31 "Graphline" mX11_lot 4 := ⟨qw_437, qw_438, qw_439, qw_27, qw_440, rfl, ⟨rfl, ne_3.1, ne_3.2, pm_54⟩⟩
theorem ln_L_35 : gq_LV "GraphlineLaw" 35 "Graphline" mX11_kilos 1 := ⟨qw_566, qw_567, qw_568, qw_27, qw_569, rfl, ⟨rfl, ne_3.1, ne_3.2, pm_16⟩⟩
theorem ln_L_40 : gq_LV "GraphlineLaw" 40 "Graphline" mX11_mix 5 := ⟨qw_590, qw_591, qw_592, qw_27, qw_593, rfl, ⟨rfl, ne_3.1, ne_3.2, pm_55⟩⟩
theorem ln_L_44 : gq_LV "GraphlineLaw" 44 "Graphline" mX11_mixture 2 := ⟨qw_634, qw_635, qw_636, qw_27, qw_637, rfl, ⟨rfl, ne_3.1, ne_3.2, pm_56⟩⟩
theorem ln_L_48 : gq_LV "GraphlineLaw" 48 "Graphline" mX11_press 3 := ⟨qw_647, qw_648, qw_649, qw_27, qw_650, rfl, ⟨rfl, ne_3.1, ne_3.2, pm_3⟩⟩
theorem ln_L_52 : gq_LV "GraphlineLaw" 52 "Graphline" mX11_worn 1 := ⟨qw_713, qw_714, qw_715, qw_27, qw_716, rfl, ⟨rfl, ne_3.1, ne_3.2, pm_16⟩⟩
theorem ln_L_55 : gq_LV "GraphlineLaw" 55 "Graphline" mX11_renew 1 := ⟨qw_721, qw_722, qw_723, qw_27, qw_724, rfl, ⟨rfl, ne_3.1, ne_3.2, pm_16⟩⟩
theorem ln_L_58 : gq_LV "GraphlineLaw" 58 "Graphline" mX11_dry 2 := ⟨qw_728, qw_729, qw_730, qw_27, qw_731, rfl, ⟨rfl, ne_3.1, ne_3.2, pm_40⟩⟩
theorem ln_L_62 : gq_LV "GraphlineLaw" 62 "Graphline" mX11_fire 4 := ⟨qw_742, qw_743, qw_744, qw_27, qw_745, rfl, ⟨rfl, ne_3.1, ne_3.2, pm_57⟩⟩
theorem ln_L_66 : gq_LV "GraphlineLaw" 66 "Graphline" mX11_soak 2 := ⟨qw_756, qw_757, qw_758, qw_27, qw_759, rfl, ⟨rfl, ne_3.1, ne_3.2, pm_40⟩⟩
theorem ln_L_69 : gq_LV "GraphlineLaw" 69 "Graphline" mX11_batch 2 := ⟨qw_765, qw_766, qw_767, qw_27, qw_768, rfl, ⟨rfl, ne_3.1, ne_3.2, pm_56⟩⟩
theorem ln_L_72 : gq_LV "GraphlineLaw" 72 "Graphline" mX11_draw 1 := ⟨qw_773, qw_774, qw_775, qw_27, qw_776, rfl, ⟨rfl, ne_3.1, ne_3.2, pm_16⟩⟩
theorem ln_L_75 : gq_LV "GraphlineLaw" 75 "Graphline" mX11_slats 4 := ⟨qw_786, qw_787, qw_788, qw_27, qw_789, rfl, ⟨rfl, ne_3.1, ne_3.2, pm_54⟩⟩
theorem ln_L_78 : gq_LV "GraphlineLaw" 78 "Graphline" mX11_season 2 := ⟨qw_831, qw_832, qw_833, qw_27, qw_834, rfl, ⟨rfl, ne_3.1, ne_3.2, pm_40⟩⟩
theorem ln_L_81 : gq_LV "GraphlineLaw" 81 "Graphline" mX11_groove 2 := ⟨qw_845, qw_846, qw_847, qw_27, qw_848, rfl, ⟨rfl, ne_3.1, ne_3.2, pm_40⟩⟩
theorem ln_L_84 : gq_LV "GraphlineLaw" 84 "Graphline" mX11_slat 2 := ⟨qw_859, qw_860, qw_861, qw_27, qw_862, rfl, ⟨rfl, ne_3.1, ne_3.2, pm_56⟩⟩
theorem ln_L_87 : gq_LV "GraphlineLaw" 87 "Graphline" mX11_lay 5 := ⟨qw_867, qw_868, qw_869, qw_27, qw_870, rfl, ⟨rfl, ne_3.1, ne_3.2, pm_58⟩⟩
theorem ln_L_91 : gq_LV "GraphlineLaw" 91 "Graphline" mX11_coat 2 := ⟨qw_939, qw_940, qw_941, qw_27, qw_942, rfl, ⟨rfl, ne_3.1, ne_3.2, pm_40⟩⟩
theorem ln_L_94 : gq_LV "GraphlineLaw" 94 "Graphline" mX11_stamp 1 := ⟨qw_954, qw_955, qw_956, qw_27, qw_957, rfl, ⟨rfl, ne_3.1, ne_3.2, pm_16⟩⟩
theorem ln_L_97 : gq_LV "GraphlineLaw" 97 "Graphline" mX11_erase 2 := ⟨qw_970, qw_971, qw_972, qw_27, qw_973, rfl, ⟨rfl, ne_3.1, ne_3.2, pm_40⟩⟩
theorem ln_L_100 : gq_LV "GraphlineLaw" 100 "Graphline" mX11_run 2 := ⟨qw_979, qw_980, qw_981, qw_27, qw_982, rfl, ⟨rfl, ne_3.1, ne_3.2, pm_56⟩⟩
theorem ln_L_103 : gq_LV "GraphlineLaw" 103 "Graphline" mX11_fall 2 := ⟨qw_987, qw_988, qw_989, qw_27, qw_990, rfl, ⟨rfl, ne_3.1, ne_3.2, pm_40⟩⟩
theorem ln_L_106 : gq_LV "GraphlineLaw" 106 "Graphline" mX11_sample 2 := ⟨qw_995, qw_996, qw_997, qw_27, qw_998, rfl, ⟨rfl, ne_3.1, ne_3.2, pm_40⟩⟩
theorem ln_L_109 : gq_LV "GraphlineLaw" 109 "Graphline" mX11_seed 1 := ⟨qw_1006, qw_1007, qw_1008, qw_27, qw_1009, rfl, ⟨rfl, ne_3.1, ne_3.2, pm_16⟩⟩
theorem ln_L_112 : gq_LV "GraphlineLaw" 112 "Graphline" mX11_gross 1 := ⟨qw_1015, qw_1016, qw_1017, qw_27, qw_1018, rfl, ⟨rfl, ne_3.1, ne_3.2, pm_16⟩⟩
theorem ln_L_115 : gq_LV "GraphlineLaw" 115 "Graphline" mX11_pack 3 := ⟨qw_1048, qw_1049, qw_1050, qw_27, qw_1051, rfl, ⟨rfl, ne_3.1, ne_3.2, pm_3⟩⟩
theorem ln_L_118 : gq_LV "GraphlineLaw" 118 "Graphline" mX11_order 3 := ⟨qw_1081, qw_1082, qw_1083, qw_27, qw_1084, rfl, ⟨rfl, ne_3.1, ne_3.2, pm_3⟩⟩
theorem ln_L_121 : gq_LV "GraphlineLaw" 121 "Graphline" mX11_ship 2 := ⟨qw_1114, qw_1115, qw_1116, qw_27, qw_1117, rfl, ⟨rfl, ne_3.1, ne_3.2, pm_40⟩⟩
theorem ln_L_124 : gq_LV "GraphlineLaw" 124 "Graphline" mX11_isLate 1 := ⟨qw_1128, qw_1129, qw_1130, qw_27, qw_1131, rfl, ⟨rfl, ne_3.1, ne_3.2, pm_34⟩⟩
theorem ln_L_128 : gq_LV "GraphlineLaw" 128 "Graphline" mX11_claim 1 := ⟨qw_1135, qw_1136, qw_1137, qw_27, qw_1138, rfl, ⟨rfl, ne_3.1, ne_3.2, pm_34⟩⟩
theorem ln_L_131 : gq_LV "GraphlineLaw" 131 "Graphline" mX11_parts 1 := ⟨qw_1142, qw_1143, qw_1144, qw_27, qw_1145, rfl, ⟨rfl, ne_3.1, ne_3.2, pm_16⟩⟩
theorem ln_L_134 : gq_LV "GraphlineLaw" 134 "Graphline" mX11_trace 3 := ⟨qw_1149, qw_1150, qw_1151, qw_27, qw_1152, rfl, ⟨rfl, ne_3.1, ne_3.2, pm_59⟩⟩
theorem ln_L_138 : gq_LV "GraphlineLaw" 138 "Graphline" mX11_brokenShare 0 := ⟨qw_1175, qw_1176, qw_1177, qw_27, qw_1178, rfl, ⟨rfl, ne_3.1, ne_3.2, pm_60⟩⟩
theorem ln_L_144 : gq_LV "GraphlineLaw" 144 "Graphline" mX11_meanDarkness 0 := ⟨qw_1185, qw_1186, qw_1187, qw_27, qw_1188, rfl, ⟨rfl, ne_3.1, ne_3.2, pm_61⟩⟩
theorem nw_L_8 : gq_NW "GraphlineLaw" 8 15 16 [.null, .null, .null, .null, .null, .null, .null, .null, .null, .null, .null, .int 0, .int 0, .int 0, .int 0, .int 0] := ⟨_, _, tyX11, rfl, usX11, tyX11_ok, qw_67, qw_68, qw_27, fun j hj => by rcases (show j = 0 ∨ j = 1 ∨ j = 2 ∨ j = 3 ∨ j = 4 ∨ j = 5 ∨ j = 6 ∨ j = 7 ∨ j = 8 ∨ j = 9 ∨ j = 10 ∨ j = 11 ∨ j = 12 ∨ j = 13 ∨ j = 14 ∨ j = 15 by omega) with rfl | rfl | rfl | rfl | rfl | rfl | rfl | rfl | rfl | rfl | rfl | rfl | rfl | rfl | rfl | rfl <;> rfl⟩
theorem ln_L_148 : gq_LI "GraphlineLaw" 148 mX11_init 0 := ⟨Or.inl qw_69, qw_70, qw_27, qw_71, rfl, rfl, rfl, ⟨ne_3.1, ne_3.2, pm_2⟩⟩
theorem nw_L_149 : gq_NW "GraphlineLaw" 149 20 18 [.int 0, .int 0, .int 0, .null, .null, .null, .null, .null, .null, .null, .null, .null, .null, .null, .int 0, .int 0, .int 0, .int 0] := ⟨_, _, tyX16, rfl, usX16, tyX16_ok, qw_1194, qw_1195, qw_34, fun j hj => by rcases (show j = 0 ∨ j = 1 ∨ j = 2 ∨ j = 3 ∨ j = 4 ∨ j = 5 ∨ j = 6 ∨ j = 7 ∨ j = 8 ∨ j = 9 ∨ j = 10 ∨ j = 11 ∨ j = 12 ∨ j = 13 ∨ j = 14 ∨ j = 15 ∨ j = 16 ∨ j = 17 by omega) with rfl | rfl | rfl | rfl | rfl | rfl | rfl | rfl | rfl | rfl | rfl | rfl | rfl | rfl | rfl | rfl | rfl | rfl <;> rfl⟩
theorem ln_L_151 : gq_LI "GraphlineLaw" 151 mX16_init 0 := ⟨Or.inl qw_1196, qw_1197, qw_34, qw_1198, rfl, rfl, rfl, ⟨ne_15.1, ne_15.2, pm_2⟩⟩
theorem ln_L_157 : gq_LV "GraphlineLaw" 157 "GraphlineModel" mX16_go 1 := ⟨qw_1258, qw_1259, qw_1260, qw_34, qw_1261, rfl, ⟨rfl, ne_15.1, ne_15.2, pm_16⟩⟩
theorem ln_L_158 : gq_LV "GraphlineLaw" 158 "GraphlineModel" mX16_thrown 0 := ⟨qw_1190, qw_1191, qw_1192, qw_34, qw_1193, rfl, ⟨rfl, ne_15.1, ne_15.2, pm_7⟩⟩
theorem ln_L_162 : gq_LV "GraphlineLaw" 162 "Graphline" mX11_shaft 1 := ⟨qw_215, qw_216, qw_217, qw_27, qw_218, rfl, ⟨rfl, ne_3.1, ne_3.2, pm_62⟩⟩
theorem ln_L_166 : gq_LV "GraphlineLaw" 166 "GraphlineModel" mX16_shaft 1 := ⟨qw_1274, qw_1275, qw_1276, qw_34, qw_1277, rfl, ⟨rfl, ne_15.1, ne_15.2, pm_62⟩⟩
theorem ln_L_170 : gq_LV "GraphlineLaw" 170 "GraphlineModel" mX16_belt 2 := ⟨qw_1278, qw_1279, qw_1280, qw_34, qw_1281, rfl, ⟨rfl, ne_15.1, ne_15.2, pm_51⟩⟩
theorem ln_L_174 : gq_LV "GraphlineLaw" 174 "GraphlineModel" mX16_on 2 := ⟨qw_1383, qw_1384, qw_1385, qw_34, qw_1386, rfl, ⟨rfl, ne_15.1, ne_15.2, pm_52⟩⟩
theorem ln_L_178 : gq_LV "GraphlineLaw" 178 "GraphlineModel" mX16_runs 1 := ⟨qw_1387, qw_1388, qw_1389, qw_34, qw_1390, rfl, ⟨rfl, ne_15.1, ne_15.2, pm_53⟩⟩
theorem ln_L_182 : gq_LV "GraphlineLaw" 182 "GraphlineModel" mX16_lot 4 := ⟨qw_1395, qw_1396, qw_1397, qw_34, qw_1398, rfl, ⟨rfl, ne_15.1, ne_15.2, pm_54⟩⟩
theorem ln_L_185 : gq_LV "GraphlineLaw" 185 "GraphlineModel" mX16_kilos 1 := ⟨qw_1417, qw_1418, qw_1419, qw_34, qw_1420, rfl, ⟨rfl, ne_15.1, ne_15.2, pm_16⟩⟩
theorem ln_L_189 : gq_LV "GraphlineLaw" 189 "GraphlineModel" mX16_mix 5 := ⟨qw_1436, qw_1437, qw_1438, qw_34, qw_1439, rfl, ⟨rfl, ne_15.1, ne_15.2, pm_55⟩⟩
theorem ln_L_193 : gq_LV "GraphlineLaw" 193 "GraphlineModel" mX16_mixture 2 := ⟨qw_1442, qw_1443, qw_1444, qw_34, qw_1445, rfl, ⟨rfl, ne_15.1, ne_15.2, pm_56⟩⟩
theorem ln_L_197 : gq_LV "GraphlineLaw" 197 "GraphlineModel" mX16_press 3 := ⟨qw_1447, qw_1448, qw_1449, qw_34, qw_1450, rfl, ⟨rfl, ne_15.1, ne_15.2, pm_3⟩⟩
theorem ln_L_200 : gq_LV "GraphlineLaw" 200 "GraphlineModel" mX16_worn 1 := ⟨qw_1493, qw_1494, qw_1495, qw_34, qw_1496, rfl, ⟨rfl, ne_15.1, ne_15.2, pm_16⟩⟩
theorem ln_L_203 : gq_LV "GraphlineLaw" 203 "GraphlineModel" mX16_renew 1 := ⟨qw_1497, qw_1498, qw_1499, qw_34, qw_1500, rfl, ⟨rfl, ne_15.1, ne_15.2, pm_16⟩⟩
theorem ln_L_207 : gq_LV "GraphlineLaw" 207 "GraphlineModel" mX16_dry 2 := ⟨qw_1501, qw_1502, qw_1503, qw_34, qw_1504, rfl, ⟨rfl, ne_15.1, ne_15.2, pm_40⟩⟩
theorem ln_L_211 : gq_LV "GraphlineLaw" 211 "GraphlineModel" mX16_fire 4 := ⟨qw_1514, qw_1515, qw_1516, qw_34, qw_1517, rfl, ⟨rfl, ne_15.1, ne_15.2, pm_57⟩⟩
theorem ln_L_214 : gq_LV "GraphlineLaw" 214 "GraphlineModel" mX16_soak 2 := ⟨qw_1521, qw_1522, qw_1523, qw_34, qw_1524, rfl, ⟨rfl, ne_15.1, ne_15.2, pm_40⟩⟩
theorem ln_L_217 : gq_LV "GraphlineLaw" 217 "GraphlineModel" mX16_batch 2 := ⟨qw_1529, qw_1530, qw_1531, qw_34, qw_1532, rfl, ⟨rfl, ne_15.1, ne_15.2, pm_56⟩⟩
theorem ln_L_220 : gq_LV "GraphlineLaw" 220 "GraphlineModel" mX16_draw 1 := ⟨qw_1534, qw_1535, qw_1536, qw_34, qw_1537, rfl, ⟨rfl, ne_15.1, ne_15.2, pm_16⟩⟩
theorem ln_L_221 : gq_LV "GraphlineLaw" 221 "Graphline" mX11_check 0 := ⟨qw_219, qw_220, qw_221, qw_27, qw_222, rfl, ⟨rfl, ne_3.1, ne_3.2, pm_7⟩⟩
theorem ln_L_224 : gq_LV "GraphlineLaw" 224 "GraphlineModel" mX16_check 0 := ⟨qw_1542, qw_1543, qw_1544, qw_34, qw_1545, rfl, ⟨rfl, ne_15.1, ne_15.2, pm_7⟩⟩
theorem ln_L_227 : gq_LV "GraphlineLaw" 227 "GraphlineModel" mX16_slats 4 := ⟨qw_1546, qw_1547, qw_1548, qw_34, qw_1549, rfl, ⟨rfl, ne_15.1, ne_15.2, pm_54⟩⟩
theorem ln_L_230 : gq_LV "GraphlineLaw" 230 "GraphlineModel" mX16_season 2 := ⟨qw_1576, qw_1577, qw_1578, qw_34, qw_1579, rfl, ⟨rfl, ne_15.1, ne_15.2, pm_40⟩⟩
theorem ln_L_233 : gq_LV "GraphlineLaw" 233 "GraphlineModel" mX16_groove 2 := ⟨qw_1585, qw_1586, qw_1587, qw_34, qw_1588, rfl, ⟨rfl, ne_15.1, ne_15.2, pm_40⟩⟩
theorem ln_L_236 : gq_LV "GraphlineLaw" 236 "GraphlineModel" mX16_slat 2 := ⟨qw_1590, qw_1591, qw_1592, qw_34, qw_1593, rfl, ⟨rfl, ne_15.1, ne_15.2, pm_56⟩⟩
theorem ln_L_240 : gq_LV "GraphlineLaw" 240 "GraphlineModel" mX16_lay 5 := ⟨qw_1595, qw_1596, qw_1597, qw_34, qw_1598, rfl, ⟨rfl, ne_15.1, ne_15.2, pm_58⟩⟩
theorem ln_L_243 : gq_LV "GraphlineLaw" 243 "GraphlineModel" mX16_coat 2 := ⟨qw_1643, qw_1644, qw_1645, qw_34, qw_1646, rfl, ⟨rfl, ne_15.1, ne_15.2, pm_40⟩⟩
theorem ln_L_246 : gq_LV "GraphlineLaw" 246 "GraphlineModel" mX16_stamp 1 := ⟨qw_1651, qw_1652, qw_1653, qw_34, qw_1654, rfl, ⟨rfl, ne_15.1, ne_15.2, pm_16⟩⟩
theorem ln_L_249 : gq_LV "GraphlineLaw" 249 "GraphlineModel" mX16_erase 2 := ⟨qw_1655, qw_1656, qw_1657, qw_34, qw_1658, rfl, ⟨rfl, ne_15.1, ne_15.2, pm_40⟩⟩
theorem ln_L_252 : gq_LV "GraphlineLaw" 252 "GraphlineModel" mX16_run 2 := ⟨qw_1659, qw_1660, qw_1661, qw_34, qw_1662, rfl, ⟨rfl, ne_15.1, ne_15.2, pm_56⟩⟩
theorem ln_L_255 : gq_LV "GraphlineLaw" 255 "GraphlineModel" mX16_fall 2 := ⟨qw_1664, qw_1665, qw_1666, qw_34, qw_1667, rfl, ⟨rfl, ne_15.1, ne_15.2, pm_40⟩⟩
theorem ln_L_258 : gq_LV "GraphlineLaw" 258 "GraphlineModel" mX16_sample 2 := ⟨qw_1668, qw_1669, qw_1670, qw_34, qw_1671, rfl, ⟨rfl, ne_15.1, ne_15.2, pm_40⟩⟩
theorem ln_L_261 : gq_LV "GraphlineLaw" 261 "GraphlineModel" mX16_seed 1 := ⟨qw_1674, qw_1675, qw_1676, qw_34, qw_1677, rfl, ⟨rfl, ne_15.1, ne_15.2, pm_16⟩⟩
theorem ln_L_264 : gq_LV "GraphlineLaw" 264 "GraphlineModel" mX16_gross 1 := ⟨qw_1679, qw_1680, qw_1681, qw_34, qw_1682, rfl, ⟨rfl, ne_15.1, ne_15.2, pm_16⟩⟩
theorem ln_L_267 : gq_LV "GraphlineLaw" 267 "GraphlineModel" mX16_pack 3 := ⟨qw_1703, qw_1704, qw_1705, qw_34, qw_1706, rfl, ⟨rfl, ne_15.1, ne_15.2, pm_3⟩⟩
theorem ln_L_270 : gq_LV "GraphlineLaw" 270 "GraphlineModel" mX16_order 3 := ⟨qw_1764, qw_1765, qw_1766, qw_34, qw_1767, rfl, ⟨rfl, ne_15.1, ne_15.2, pm_3⟩⟩
theorem ln_L_273 : gq_LV "GraphlineLaw" 273 "GraphlineModel" mX16_ship 2 := ⟨qw_1769, qw_1770, qw_1771, qw_34, qw_1772, rfl, ⟨rfl, ne_15.1, ne_15.2, pm_40⟩⟩
theorem ln_L_276 : gq_LV "GraphlineLaw" 276 "GraphlineModel" mX16_isLate 1 := ⟨qw_1773, qw_1774, qw_1775, qw_34, qw_1776, rfl, ⟨rfl, ne_15.1, ne_15.2, pm_34⟩⟩
theorem ln_L_279 : gq_LV "GraphlineLaw" 279 "GraphlineModel" mX16_claim 1 := ⟨qw_1777, qw_1778, qw_1779, qw_34, qw_1780, rfl, ⟨rfl, ne_15.1, ne_15.2, pm_34⟩⟩
theorem ln_L_282 : gq_LV "GraphlineLaw" 282 "GraphlineModel" mX16_parts 1 := ⟨qw_1791, qw_1792, qw_1793, qw_34, qw_1794, rfl, ⟨rfl, ne_15.1, ne_15.2, pm_16⟩⟩
theorem ln_L_286 : gq_LV "GraphlineLaw" 286 "GraphlineModel" mX16_trace 3 := ⟨qw_1795, qw_1796, qw_1797, qw_34, qw_1798, rfl, ⟨rfl, ne_15.1, ne_15.2, pm_59⟩⟩
theorem ln_L_287 : gq_LV "GraphlineLaw" 287 "Graphline" mX11_missing 0 := ⟨qw_227, qw_228, qw_229, qw_27, qw_230, rfl, ⟨rfl, ne_3.1, ne_3.2, pm_7⟩⟩
theorem ln_L_290 : gq_LV "GraphlineLaw" 290 "GraphlineModel" mX16_missing 0 := ⟨qw_1800, qw_1801, qw_1802, qw_34, qw_1803, rfl, ⟨rfl, ne_15.1, ne_15.2, pm_7⟩⟩
theorem ln_L_291 : gq_LV "GraphlineLaw" 291 "Graphline" mX11_checksum 0 := ⟨qw_255, qw_256, qw_257, qw_27, qw_258, rfl, ⟨rfl, ne_3.1, ne_3.2, pm_63⟩⟩
theorem ln_L_295 : gq_LV "GraphlineLaw" 295 "GraphlineModel" mX16_checksum 0 := ⟨qw_1804, qw_1805, qw_1806, qw_34, qw_1807, rfl, ⟨rfl, ne_15.1, ne_15.2, pm_63⟩⟩
theorem ln_L_299 : gq_LV "GraphlineLaw" 299 "GraphlineModel" mX16_brokenShare 0 := ⟨qw_1810, qw_1811, qw_1812, qw_34, qw_1813, rfl, ⟨rfl, ne_15.1, ne_15.2, pm_60⟩⟩
theorem ln_L_302 : gq_LV "GraphlineLaw" 302 "GraphlineModel" mX16_meanDarkness 0 := ⟨qw_1814, qw_1815, qw_1816, qw_34, qw_1817, rfl, ⟨rfl, ne_15.1, ne_15.2, pm_61⟩⟩
theorem ln_L_303 : gq_LV "GraphlineLaw" 303 "Graphline" mX11_isSound 0 := ⟨qw_262, qw_263, qw_264, qw_27, qw_265, rfl, ⟨rfl, ne_3.1, ne_3.2, pm_15⟩⟩
theorem ln_L_307 : gq_LV "GraphlineLaw" 307 "GraphlineModel" mX16_isSound 0 := ⟨qw_1818, qw_1819, qw_1820, qw_34, qw_1821, rfl, ⟨rfl, ne_15.1, ne_15.2, pm_15⟩⟩
theorem th_79 : gq_TH "Graphline" 79 "java/lang/IllegalArgumentException" := ⟨by decide +kernel, by decide +kernel, gq_tck [35, 317, 326, 333, 336, 338, 318, 319, 73, 74, 320, 325, 334, 354, 307, 355, 309, 356, 311, 321, 323, 313, 350, 351, 353, 313, 341, 342, 343, 344, 0, 344, 345, 346, 347, 0, 347, 348, 349, 350, 0, 340, 296, 0, 304, 305, 306, 308, 310, 312, 352, 315, 314] (by decide +kernel) (by decide +kernel)⟩
theorem th_86 : gq_TH "Graphline" 86 "java/lang/IllegalStateException" := ⟨by decide +kernel, by decide +kernel, gq_tck [35, 317, 326, 333, 336, 338, 318, 319, 73, 74, 320, 325, 334, 354, 307, 355, 309, 356, 311, 321, 323, 313, 350, 351, 353, 313, 377, 378, 379, 344, 0, 344, 345, 346, 347, 0, 347, 348, 349, 350, 0, 376, 367, 0, 369, 330, 370, 371, 372, 373, 352, 315, 374] (by decide +kernel) (by decide +kernel)⟩
theorem th_105 : gq_TH "Graphline" 105 "java/lang/UnsupportedOperationException" := ⟨by decide +kernel, by decide +kernel, gq_tck [35, 317, 326, 333, 336, 338, 318, 319, 73, 74, 320, 325, 334, 354, 307, 355, 309, 356, 311, 321, 323, 313, 350, 351, 353, 313, 411, 412, 413, 344, 0, 344, 345, 346, 347, 0, 347, 348, 349, 350, 0, 410, 401, 0, 403, 332, 404, 405, 406, 407, 352, 315, 408] (by decide +kernel) (by decide +kernel)⟩
theorem th_556 : gq_TH "Graphline" 556 "java/lang/IndexOutOfBoundsException" := ⟨by decide +kernel, by decide +kernel, gq_tck [35, 317, 326, 333, 336, 338, 318, 319, 73, 74, 320, 325, 334, 354, 307, 355, 309, 356, 311, 321, 323, 313, 350, 351, 353, 313, 547, 548, 549, 344, 0, 344, 345, 346, 347, 0, 347, 348, 349, 350, 0, 584, 575, 0, 577, 331, 578, 579, 580, 581, 352, 315, 582] (by decide +kernel) (by decide +kernel)⟩
theorem th_535 : gq_TH "Graphline" 535 "java/lang/ArithmeticException" := ⟨by decide +kernel, by decide +kernel, gq_tck [35, 317, 326, 333, 336, 338, 318, 319, 73, 74, 320, 325, 334, 354, 307, 355, 309, 356, 311, 321, 323, 313, 350, 351, 353, 313, 1163, 1164, 1165, 344, 0, 344, 345, 346, 347, 0, 347, 348, 349, 350, 0, 1181, 1162, 0, 1174, 328, 1168, 1169, 1171, 1167, 352, 315, 1166] (by decide +kernel) (by decide +kernel)⟩
