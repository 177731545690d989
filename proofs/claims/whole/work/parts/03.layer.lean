/-! THE LAYER: a heap of static shape. Cells 0..75 are the class's, 76..90 the reference's; what changes is I (ints) and J (longs), by cell and place. -/
def h_nF : List (String × Nat × String × String × String × String) := [("OldMap", 102, "OldMap$Bend", "toX", "LOldMap$Way;", "OldMap"), ("OldMap", 106, "OldMap$Bend", "toY", "LOldMap$Way;", "OldMap"), ("OldMap", 109, "OldMap$Way", "plus", "J", "OldMap"), ("OldMap", 115, "OldMap$Way", "below", "J", "OldMap"), ("OldMap", 122, "OldMap$Way", "byX", "J", "OldMap"), ("OldMap", 163, "OldMap$Table", "triangles", "LOldMap$Triangles;", "OldMap"), ("OldMap", 205, "OldMap$Things", "count", "I", "OldMap"), ("OldMap", 21, "OldMap$Table", "points", "LOldMap$Points;", "OldMap"), ("OldMap", 213, "OldMap$Match", "given", "[I", "OldMap"), ("OldMap", 224, "OldMap$Points", "count", "I", "OldMap"), ("OldMap", 228, "OldMap$Triangles", "count", "I", "OldMap"), ("OldMap", 34, "OldMap$Table", "oldThings", "LOldMap$Things;", "OldMap"), ("OldMap", 38, "OldMap$Table", "newThings", "LOldMap$Things;", "OldMap"), ("OldMap", 80, "OldMap$Points", "sureBits", "I", "OldMap"), ("OldMap", 87, "OldMap$Points", "inBits", "I", "OldMap"), ("OldMap", 90, "OldMap$Points", "at", "[[I", "OldMap"), ("OldMap$Bend", 71, "OldMap$Points", "at", "[[I", "OldMap"), ("OldMap$Bend", 75, "OldMap$Way", "byX", "J", "OldMap"), ("OldMap$Bend", 78, "OldMap$Way", "byY", "J", "OldMap"), ("OldMap$Bend", 85, "OldMap$Way", "below", "J", "OldMap"), ("OldMap$Match", 38, "OldMap$Things", "count", "I", "OldMap"), ("OldMap$Match", 53, "OldMap$Bend", "toX", "LOldMap$Way;", "OldMap"), ("OldMap$Match", 59, "OldMap$Things", "x", "[I", "OldMap"), ("OldMap$Match", 62, "OldMap$Things", "y", "[I", "OldMap"), ("OldMap$Match", 71, "OldMap$Bend", "toY", "LOldMap$Way;", "OldMap"), ("OldMap$Match", 80, "OldMap$Things", "kind", "[I", "OldMap"), ("OldMap$Triangles", 49, "OldMap$Points", "at", "[[I", "OldMap")]
def h_nM : List (String × Nat × MethodName × String) := [("OldMap", 125, ⟨"OldMap$Bend", "aboveOfQ", "()J"⟩, "OldMap"), ("OldMap", 132, ⟨"OldMap$Bend", "along", "(I)LOldMap$Way;"⟩, "OldMap"), ("OldMap", 136, ⟨"OldMap$Way", "above", "(JJ)J"⟩, "OldMap"), ("OldMap", 140, ⟨"OldMap$Bend", "offAbove", "(II)J"⟩, "OldMap"), ("OldMap", 144, ⟨"OldMap$Bend", "missAbove", "(I)J"⟩, "OldMap"), ("OldMap", 148, ⟨"OldMap$Bend", "firstBeyond", "(I)I"⟩, "OldMap"), ("OldMap", 160, ⟨"OldMap$Points", "turn", "(IIII)I"⟩, "OldMap"), ("OldMap", 167, ⟨"OldMap$Triangles", "add", "(III)I"⟩, "OldMap"), ("OldMap", 172, ⟨"OldMap$Triangles", "has", "(I)Z"⟩, "OldMap"), ("OldMap", 173, ⟨"OldMap$Triangles", "isFlat", "(I)Z"⟩, "OldMap"), ("OldMap", 176, ⟨"OldMap$Triangles", "isOver", "(I)Z"⟩, "OldMap"), ("OldMap", 179, ⟨"OldMap$Triangles", "firstAround", "(III)I"⟩, "OldMap"), ("OldMap", 182, ⟨"OldMap$Triangles", "bentAbove", "(IIIII)J"⟩, "OldMap"), ("OldMap", 186, ⟨"OldMap$Triangles", "turn", "(II)I"⟩, "OldMap"), ("OldMap", 189, ⟨"OldMap$Triangles", "overlap", "(III)Z"⟩, "OldMap"), ("OldMap", 198, ⟨"OldMap$Table", "thingsOf", "(I)LOldMap$Things;"⟩, "OldMap"), ("OldMap", 202, ⟨"OldMap$Things", "add", "(III)I"⟩, "OldMap"), ("OldMap", 208, ⟨"OldMap$Things", "has", "(I)Z"⟩, "OldMap"), ("OldMap", 209, ⟨"OldMap$Match", "find", "(I)V"⟩, "OldMap"), ("OldMap", 217, ⟨"OldMap$Match", "leastCost", "()I"⟩, "OldMap"), ("OldMap", 221, ⟨"OldMap$Match", "firstUnused", "()I"⟩, "OldMap"), ("OldMap", 225, ⟨"OldMap$Points", "counting", "()I"⟩, "OldMap"), ("OldMap", 229, ⟨"OldMap$Triangles", "manyOver", "()I"⟩, "OldMap"), ("OldMap", 232, ⟨"OldMap$Triangles", "manyFlat", "()I"⟩, "OldMap"), ("OldMap", 235, ⟨"OldMap$Triangles", "manyOverlaps", "(I)I"⟩, "OldMap"), ("OldMap", 238, ⟨"OldMap$Table", "copyFrom", "(LOldMap$Table;)V"⟩, "OldMap"), ("OldMap", 248, ⟨"OldMap$Bend", "fit", "(II)Z"⟩, "OldMap"), ("OldMap", 25, ⟨"OldMap$Bend", "<init>", "(LOldMap$Points;)V"⟩, "OldMap"), ("OldMap", 41, ⟨"OldMap$Match", "<init>", "(LOldMap$Things;LOldMap$Things;LOldMap$Bend;)V"⟩, "OldMap"), ("OldMap", 63, ⟨"OldMap$Points", "add", "(IIII)I"⟩, "OldMap"), ("OldMap", 69, ⟨"OldMap$Points", "has", "(I)Z"⟩, "OldMap"), ("OldMap", 76, ⟨"OldMap$Points", "place", "(IIII)V"⟩, "OldMap"), ("OldMap", 9, ⟨"OldMap$Table", "<init>", "()V"⟩, "OldMap"), ("OldMap$Bend", 11, ⟨"OldMap$Way", "<init>", "()V"⟩, "OldMap"), ("OldMap$Bend", 63, ⟨"OldMap$Way", "set", "(JJJJ)V"⟩, "OldMap"), ("OldMap$Bend", 88, ⟨"OldMap$Way", "above", "(JJ)J"⟩, "OldMap"), ("OldMap$Match", 65, ⟨"OldMap$Way", "rounded", "(JJ)J"⟩, "OldMap"), ("OldMap$Points", 30, ⟨"OldMap", "withBit", "(IIZ)I"⟩, "OldMap"), ("OldMap$Table", 18, ⟨"OldMap$Triangles", "<init>", "(LOldMap$Points;)V"⟩, "OldMap"), ("OldMap$Table", 27, ⟨"OldMap$Things", "<init>", "()V"⟩, "OldMap"), ("OldMap$Table", 35, ⟨"OldMap$Points", "copyFrom", "(LOldMap$Points;)V"⟩, "OldMap"), ("OldMap$Table", 38, ⟨"OldMap$Triangles", "copyFrom", "(LOldMap$Triangles;)V"⟩, "OldMap"), ("OldMap$Table", 41, ⟨"OldMap$Things", "copyFrom", "(LOldMap$Things;)V"⟩, "OldMap"), ("OldMap$Table", 9, ⟨"OldMap$Points", "<init>", "()V"⟩, "OldMap"), ("OldMap$Triangles", 24, ⟨"OldMap$Points", "turn", "(IIII)I"⟩, "OldMap"), ("OldMap$Triangles", 33, ⟨"OldMap$Points", "side", "(IIIII)I"⟩, "OldMap")]
/-- the links between nest mates, which no word list carries -/
def h_N (U : State) : Prop := (∀ q ∈ h_nF, va_Nw (.fieldLinkNest q.1 q.2.1 q.2.2.1 q.2.2.2.1 q.2.2.2.2.1 q.2.2.2.2.2) U) ∧ ∀ q ∈ h_nM, va_Nw (.methodLinkNest q.1 q.2.1 q.2.2.1 q.2.2.2) U
theorem h_N.warm {s U : State} (hW : s.WarmedH U.vm) (h : h_N s) : h_N U := ⟨fun q hq => va_Nw.warmF hW (h.1 q hq), fun q hq => va_Nw.warmM hW (h.2 q hq)⟩
theorem h_N.same {s U : State} (hv : s.vm = U.vm) (h : h_N s) : h_N U := ⟨fun q hq => va_Nw.same rfl hv (h.1 q hq), fun q hq => va_Nw.same rfl hv (h.2 q hq)⟩
abbrev hI : Type := Nat → Nat → Int32
abbrev hJ : Type := Nat → Nat → Int64
abbrev h_Sh : Type := (Nat × List Nat) ⊕ (Nat × Nat)
def h_shL : List h_Sh := [.inl (7, [2, 2, 2, 2, 0, 0, 0]), .inl (3, [2, 2, 2, 2]), .inl (2, [0, 2, 0, 0]), .inr (2, 4), .inr (0, 12), .inr (0, 12), .inr (0, 12), .inr (0, 12), .inl (5, [2, 0, 2]), .inr (2, 10), .inr (0, 3), .inr (0, 3), .inr (0, 3), .inr (0, 3), .inr (0, 3), .inr (0, 3), .inr (0, 3), .inr (0, 3), .inr (0, 3), .inr (0, 3), .inl (4, [0, 2, 2, 2]), .inr (0, 6), .inr (0, 6), .inr (0, 6), .inl (4, [0, 2, 2, 2]), .inr (0, 6), .inr (0, 6), .inr (0, 6), .inl (3, [2, 2, 2, 2]), .inl (2, [0, 2, 0, 0]), .inr (2, 4), .inr (0, 12), .inr (0, 12), .inr (0, 12), .inr (0, 12), .inl (5, [2, 0, 2]), .inr (2, 10), .inr (0, 3), .inr (0, 3), .inr (0, 3), .inr (0, 3), .inr (0, 3), .inr (0, 3), .inr (0, 3), .inr (0, 3), .inr (0, 3), .inr (0, 3), .inl (4, [0, 2, 2, 2]), .inr (0, 6), .inr (0, 6), .inr (0, 6), .inl (4, [0, 2, 2, 2]), .inr (0, 6), .inr (0, 6), .inr (0, 6), .inl (0, [2, 2, 2, 2, 0, 0, 1]), .inl (6, [1, 1, 1, 1]), .inl (6, [1, 1, 1, 1]), .inr (1, 4), .inl (1, [2, 2, 2, 2, 2, 2, 0]), .inr (2, 6), .inr (0, 6), .inr (0, 6), .inr (0, 6), .inr (0, 6), .inr (0, 6), .inr (0, 6), .inr (2, 7), .inr (0, 64), .inr (0, 64), .inr (0, 64), .inr (0, 64), .inr (0, 64), .inr (0, 64), .inr (0, 64), .inr (0, 6), .inl (8, [0, 2, 2, 2, 0, 2, 2, 2, 0, 0, 0, 2, 2, 2, 2, 2, 1, 1, 1, 1, 1, 1, 1, 1, 1, 1, 1, 1, 1, 1, 1, 1, 2, 2, 2, 1]), .inr (0, 48), .inr (3, 12), .inr (3, 12), .inr (0, 30), .inr (0, 2), .inr (0, 36), .inr (0, 4), .inr (0, 48), .inr (0, 12), .inr (0, 30), .inr (0, 36), .inr (1, 36), .inr (0, 6), .inr (0, 6)]
def h_sh (k : Nat) : h_Sh := h_shL.getD k (.inr (0, 0))
def h_rfL : List (List Nat) := [[1, 28, 55, 59, 0, 0, 0], [2, 8, 20, 24], [0, 3, 0, 0], [], [], [], [], [], [2, 0, 9], [], [], [], [], [], [], [], [], [], [], [], [0, 21, 22, 23], [], [], [], [0, 25, 26, 27], [], [], [], [29, 35, 47, 51], [0, 30, 0, 0], [], [], [], [], [], [29, 0, 36], [], [], [], [], [], [], [], [], [], [], [], [0, 48, 49, 50], [], [], [], [0, 52, 53, 54], [], [], [], [2, 56, 57, 58, 0, 0, 0], [0, 0, 0, 0], [0, 0, 0, 0], [], [20, 24, 55, 60, 67, 75, 0], [], [], [], [], [], [], [], [], [], [], [], [], [], [], [], [], [0, 77, 78, 79, 0, 80, 81, 82, 0, 0, 0, 83, 84, 85, 86, 87, 0, 0, 0, 0, 0, 0, 0, 0, 0, 0, 0, 0, 0, 0, 0, 0, 88, 89, 90, 0], [], [], [], [], [], [], [], [], [], [], [], [], [], []]
def h_rf (k j : Nat) : Nat := if k = 3 then 4 + j else if k = 9 then 10 + j else if k = 30 then 31 + j else if k = 36 then 37 + j else if k = 60 then 61 + j else if k = 67 then 68 + j else (h_rfL.getD k []).getD j 0
theorem sh_0 : h_sh 0 = .inl (7, [2, 2, 2, 2, 0, 0, 0]) := by decide +kernel
theorem sh_1 : h_sh 1 = .inl (3, [2, 2, 2, 2]) := by decide +kernel
theorem sh_2 : h_sh 2 = .inl (2, [0, 2, 0, 0]) := by decide +kernel
theorem sh_3 : h_sh 3 = .inr (2, 4) := by decide +kernel
theorem sh_4 : h_sh 4 = .inr (0, 12) := by decide +kernel
theorem sh_5 : h_sh 5 = .inr (0, 12) := by decide +kernel
theorem sh_6 : h_sh 6 = .inr (0, 12) := by decide +kernel
theorem sh_7 : h_sh 7 = .inr (0, 12) := by decide +kernel
theorem sh_8 : h_sh 8 = .inl (5, [2, 0, 2]) := by decide +kernel
theorem sh_9 : h_sh 9 = .inr (2, 10) := by decide +kernel
theorem sh_10 : h_sh 10 = .inr (0, 3) := by decide +kernel
theorem sh_11 : h_sh 11 = .inr (0, 3) := by decide +kernel
theorem sh_12 : h_sh 12 = .inr (0, 3) := by decide +kernel
theorem sh_13 : h_sh 13 = .inr (0, 3) := by decide +kernel
theorem sh_14 : h_sh 14 = .inr (0, 3) := by decide +kernel
theorem sh_15 : h_sh 15 = .inr (0, 3) := by decide +kernel
theorem sh_16 : h_sh 16 = .inr (0, 3) := by decide +kernel
theorem sh_17 : h_sh 17 = .inr (0, 3) := by decide +kernel
theorem sh_18 : h_sh 18 = .inr (0, 3) := by decide +kernel
theorem sh_19 : h_sh 19 = .inr (0, 3) := by decide +kernel
theorem sh_20 : h_sh 20 = .inl (4, [0, 2, 2, 2]) := by decide +kernel
theorem sh_21 : h_sh 21 = .inr (0, 6) := by decide +kernel
theorem sh_22 : h_sh 22 = .inr (0, 6) := by decide +kernel
theorem sh_23 : h_sh 23 = .inr (0, 6) := by decide +kernel
theorem sh_24 : h_sh 24 = .inl (4, [0, 2, 2, 2]) := by decide +kernel
theorem sh_25 : h_sh 25 = .inr (0, 6) := by decide +kernel
theorem sh_26 : h_sh 26 = .inr (0, 6) := by decide +kernel
theorem sh_27 : h_sh 27 = .inr (0, 6) := by decide +kernel
theorem sh_28 : h_sh 28 = .inl (3, [2, 2, 2, 2]) := by decide +kernel
theorem sh_29 : h_sh 29 = .inl (2, [0, 2, 0, 0]) := by decide +kernel
theorem sh_30 : h_sh 30 = .inr (2, 4) := by decide +kernel
theorem sh_31 : h_sh 31 = .inr (0, 12) := by decide +kernel
theorem sh_32 : h_sh 32 = .inr (0, 12) := by decide +kernel
theorem sh_33 : h_sh 33 = .inr (0, 12) := by decide +kernel
theorem sh_34 : h_sh 34 = .inr (0, 12) := by decide +kernel
theorem sh_35 : h_sh 35 = .inl (5, [2, 0, 2]) := by decide +kernel
theorem sh_36 : h_sh 36 = .inr (2, 10) := by decide +kernel
theorem sh_37 : h_sh 37 = .inr (0, 3) := by decide +kernel
theorem sh_38 : h_sh 38 = .inr (0, 3) := by decide +kernel
theorem sh_39 : h_sh 39 = .inr (0, 3) := by decide +kernel
theorem sh_40 : h_sh 40 = .inr (0, 3) := by decide +kernel
theorem sh_41 : h_sh 41 = .inr (0, 3) := by decide +kernel
theorem sh_42 : h_sh 42 = .inr (0, 3) := by decide +kernel
theorem sh_43 : h_sh 43 = .inr (0, 3) := by decide +kernel
theorem sh_44 : h_sh 44 = .inr (0, 3) := by decide +kernel
theorem sh_45 : h_sh 45 = .inr (0, 3) := by decide +kernel
theorem sh_46 : h_sh 46 = .inr (0, 3) := by decide +kernel
theorem sh_47 : h_sh 47 = .inl (4, [0, 2, 2, 2]) := by decide +kernel
theorem sh_48 : h_sh 48 = .inr (0, 6) := by decide +kernel
theorem sh_49 : h_sh 49 = .inr (0, 6) := by decide +kernel
theorem sh_50 : h_sh 50 = .inr (0, 6) := by decide +kernel
theorem sh_51 : h_sh 51 = .inl (4, [0, 2, 2, 2]) := by decide +kernel
theorem sh_52 : h_sh 52 = .inr (0, 6) := by decide +kernel
theorem sh_53 : h_sh 53 = .inr (0, 6) := by decide +kernel
theorem sh_54 : h_sh 54 = .inr (0, 6) := by decide +kernel
theorem sh_55 : h_sh 55 = .inl (0, [2, 2, 2, 2, 0, 0, 1]) := by decide +kernel
theorem sh_56 : h_sh 56 = .inl (6, [1, 1, 1, 1]) := by decide +kernel
theorem sh_57 : h_sh 57 = .inl (6, [1, 1, 1, 1]) := by decide +kernel
theorem sh_58 : h_sh 58 = .inr (1, 4) := by decide +kernel
theorem sh_59 : h_sh 59 = .inl (1, [2, 2, 2, 2, 2, 2, 0]) := by decide +kernel
theorem sh_60 : h_sh 60 = .inr (2, 6) := by decide +kernel
theorem sh_61 : h_sh 61 = .inr (0, 6) := by decide +kernel
theorem sh_62 : h_sh 62 = .inr (0, 6) := by decide +kernel
theorem sh_63 : h_sh 63 = .inr (0, 6) := by decide +kernel
theorem sh_64 : h_sh 64 = .inr (0, 6) := by decide +kernel
theorem sh_65 : h_sh 65 = .inr (0, 6) := by decide +kernel
theorem sh_66 : h_sh 66 = .inr (0, 6) := by decide +kernel
theorem sh_67 : h_sh 67 = .inr (2, 7) := by decide +kernel
theorem sh_68 : h_sh 68 = .inr (0, 64) := by decide +kernel
theorem sh_69 : h_sh 69 = .inr (0, 64) := by decide +kernel
theorem sh_70 : h_sh 70 = .inr (0, 64) := by decide +kernel
theorem sh_71 : h_sh 71 = .inr (0, 64) := by decide +kernel
theorem sh_72 : h_sh 72 = .inr (0, 64) := by decide +kernel
theorem sh_73 : h_sh 73 = .inr (0, 64) := by decide +kernel
theorem sh_74 : h_sh 74 = .inr (0, 64) := by decide +kernel
theorem sh_75 : h_sh 75 = .inr (0, 6) := by decide +kernel
theorem sh_76 : h_sh 76 = .inl (8, [0, 2, 2, 2, 0, 2, 2, 2, 0, 0, 0, 2, 2, 2, 2, 2, 1, 1, 1, 1, 1, 1, 1, 1, 1, 1, 1, 1, 1, 1, 1, 1, 2, 2, 2, 1]) := by decide +kernel
theorem sh_77 : h_sh 77 = .inr (0, 48) := by decide +kernel
theorem sh_78 : h_sh 78 = .inr (3, 12) := by decide +kernel
theorem sh_79 : h_sh 79 = .inr (3, 12) := by decide +kernel
theorem sh_80 : h_sh 80 = .inr (0, 30) := by decide +kernel
theorem sh_81 : h_sh 81 = .inr (0, 2) := by decide +kernel
theorem sh_82 : h_sh 82 = .inr (0, 36) := by decide +kernel
theorem sh_83 : h_sh 83 = .inr (0, 4) := by decide +kernel
theorem sh_84 : h_sh 84 = .inr (0, 48) := by decide +kernel
theorem sh_85 : h_sh 85 = .inr (0, 12) := by decide +kernel
theorem sh_86 : h_sh 86 = .inr (0, 30) := by decide +kernel
theorem sh_87 : h_sh 87 = .inr (0, 36) := by decide +kernel
theorem sh_88 : h_sh 88 = .inr (1, 36) := by decide +kernel
theorem sh_89 : h_sh 89 = .inr (0, 6) := by decide +kernel
theorem sh_90 : h_sh 90 = .inr (0, 6) := by decide +kernel
theorem rf_3 (j : Nat) : h_rf 3 j = 4 + j := by simp [h_rf]
theorem rf_9 (j : Nat) : h_rf 9 j = 10 + j := by simp [h_rf]
theorem rf_30 (j : Nat) : h_rf 30 j = 31 + j := by simp [h_rf]
theorem rf_36 (j : Nat) : h_rf 36 j = 37 + j := by simp [h_rf]
theorem rf_60 (j : Nat) : h_rf 60 j = 61 + j := by simp [h_rf]
theorem rf_67 (j : Nat) : h_rf 67 j = 68 + j := by simp [h_rf]
theorem rf_0_0 : h_rf 0 0 = 1 := by decide +kernel
theorem rf_0_1 : h_rf 0 1 = 28 := by decide +kernel
theorem rf_0_2 : h_rf 0 2 = 55 := by decide +kernel
theorem rf_0_3 : h_rf 0 3 = 59 := by decide +kernel
theorem rf_1_0 : h_rf 1 0 = 2 := by decide +kernel
theorem rf_1_1 : h_rf 1 1 = 8 := by decide +kernel
theorem rf_1_2 : h_rf 1 2 = 20 := by decide +kernel
theorem rf_1_3 : h_rf 1 3 = 24 := by decide +kernel
theorem rf_2_1 : h_rf 2 1 = 3 := by decide +kernel
theorem rf_8_0 : h_rf 8 0 = 2 := by decide +kernel
theorem rf_8_2 : h_rf 8 2 = 9 := by decide +kernel
theorem rf_20_1 : h_rf 20 1 = 21 := by decide +kernel
theorem rf_20_2 : h_rf 20 2 = 22 := by decide +kernel
theorem rf_20_3 : h_rf 20 3 = 23 := by decide +kernel
theorem rf_24_1 : h_rf 24 1 = 25 := by decide +kernel
theorem rf_24_2 : h_rf 24 2 = 26 := by decide +kernel
theorem rf_24_3 : h_rf 24 3 = 27 := by decide +kernel
theorem rf_28_0 : h_rf 28 0 = 29 := by decide +kernel
theorem rf_28_1 : h_rf 28 1 = 35 := by decide +kernel
theorem rf_28_2 : h_rf 28 2 = 47 := by decide +kernel
theorem rf_28_3 : h_rf 28 3 = 51 := by decide +kernel
theorem rf_29_1 : h_rf 29 1 = 30 := by decide +kernel
theorem rf_35_0 : h_rf 35 0 = 29 := by decide +kernel
theorem rf_35_2 : h_rf 35 2 = 36 := by decide +kernel
theorem rf_47_1 : h_rf 47 1 = 48 := by decide +kernel
theorem rf_47_2 : h_rf 47 2 = 49 := by decide +kernel
theorem rf_47_3 : h_rf 47 3 = 50 := by decide +kernel
theorem rf_51_1 : h_rf 51 1 = 52 := by decide +kernel
theorem rf_51_2 : h_rf 51 2 = 53 := by decide +kernel
theorem rf_51_3 : h_rf 51 3 = 54 := by decide +kernel
theorem rf_55_0 : h_rf 55 0 = 2 := by decide +kernel
theorem rf_55_1 : h_rf 55 1 = 56 := by decide +kernel
theorem rf_55_2 : h_rf 55 2 = 57 := by decide +kernel
theorem rf_55_3 : h_rf 55 3 = 58 := by decide +kernel
theorem rf_59_0 : h_rf 59 0 = 20 := by decide +kernel
theorem rf_59_1 : h_rf 59 1 = 24 := by decide +kernel
theorem rf_59_2 : h_rf 59 2 = 55 := by decide +kernel
theorem rf_59_3 : h_rf 59 3 = 60 := by decide +kernel
theorem rf_59_4 : h_rf 59 4 = 67 := by decide +kernel
theorem rf_59_5 : h_rf 59 5 = 75 := by decide +kernel
theorem rf_76_1 : h_rf 76 1 = 77 := by decide +kernel
theorem rf_76_2 : h_rf 76 2 = 78 := by decide +kernel
theorem rf_76_3 : h_rf 76 3 = 79 := by decide +kernel
theorem rf_76_5 : h_rf 76 5 = 80 := by decide +kernel
theorem rf_76_6 : h_rf 76 6 = 81 := by decide +kernel
theorem rf_76_7 : h_rf 76 7 = 82 := by decide +kernel
theorem rf_76_11 : h_rf 76 11 = 83 := by decide +kernel
theorem rf_76_12 : h_rf 76 12 = 84 := by decide +kernel
theorem rf_76_13 : h_rf 76 13 = 85 := by decide +kernel
theorem rf_76_14 : h_rf 76 14 = 86 := by decide +kernel
theorem rf_76_15 : h_rf 76 15 = 87 := by decide +kernel
theorem rf_76_32 : h_rf 76 32 = 88 := by decide +kernel
theorem rf_76_33 : h_rf 76 33 = 89 := by decide +kernel
theorem rf_76_34 : h_rf 76 34 = 90 := by decide +kernel
theorem shr_at : ∀ r, r < 4 → h_sh (4 + r) = .inr (0, 12) := by decide +kernel
theorem shk_at {r : Nat} (h : r < 4) : 4 + r < 91 := by omega
theorem shr_cor : ∀ r, r < 10 → h_sh (10 + r) = .inr (0, 3) := by decide +kernel
theorem shk_cor {r : Nat} (h : r < 10) : 10 + r < 91 := by omega
theorem shr_atk : ∀ r, r < 4 → h_sh (31 + r) = .inr (0, 12) := by decide +kernel
theorem shk_atk {r : Nat} (h : r < 4) : 31 + r < 91 := by omega
theorem shr_cork : ∀ r, r < 10 → h_sh (37 + r) = .inr (0, 3) := by decide +kernel
theorem shk_cork {r : Nat} (h : r < 10) : 37 + r < 91 := by omega
theorem shr_apart : ∀ r, r < 6 → h_sh (61 + r) = .inr (0, 6) := by decide +kernel
theorem shk_apart {r : Nat} (h : r < 6) : 61 + r < 91 := by omega
theorem shr_least : ∀ r, r < 7 → h_sh (68 + r) = .inr (0, 64) := by decide +kernel
theorem shk_least {r : Nat} (h : r < 7) : 68 + r < 91 := by omega

abbrev hQ : Type := va_G × (Nat → ClassId) × (Nat → Nat)
abbrev rr (G : hQ) (k : Nat) : Value := Value.ref (G.2.2 k)
def h_val (G : hQ) (I : hI) (J : hJ) (k j κ : Nat) : Value := if κ = 0 then .int (I k j) else if κ = 1 then .long (J k j) else rr G (h_rf k j)
def h_flds (G : hQ) (I : hI) (J : hJ) (k : Nat) (ks : List Nat) : List Value := ks.zipIdx.map (fun q => h_val G I J k q.2 q.1)
def h_arr (G : hQ) (I : hI) (J : hJ) (k κ n : Nat) : vp_A := if κ = 1 then (n, .inr (.inl (J k))) else if κ = 2 then (n, .inr (.inr (.inr (.inr (fun j => some (G.2.2 (h_rf k j))))))) else (n, .inl (I k))
def h_cell (G : hQ) (I : hI) (J : hJ) (k : Nat) : va_E := match h_sh k with
  | .inl q => .inr (q.1, h_flds G I J k q.2)
  | .inr q => .inl (G.2.1 q.1, h_arr G I J k q.1 q.2)
def h_W (G : hQ) (I : hI) (J : hJ) : va_W := (List.range 91).map (fun k => (G.2.2 k, h_cell G I J k))
def h_ty (G : hQ) : List (ClassId × FieldType) := [(G.2.1 0, .int), (G.2.1 1, .long), (G.2.1 2, .array .int), (G.2.1 3, .boolean)]
def h_up (I : hI) (k j : Nat) (v : Int32) : hI := fun a b => if a = k ∧ b = j then v else I a b
def h_upL (J : hJ) (k j : Nat) (v : Int64) : hJ := fun a b => if a = k ∧ b = j then v else J a b
def h_cp (I : hI) (k0 k n : Nat) : hI := fun a b => if a = k ∧ b < n then I k0 b else I a b
theorem h_cell_o {G : hQ} {I : hI} {J : hJ} {k ci : Nat} {ks : List Nat} (hs : h_sh k = .inl (ci, ks)) : h_cell G I J k = .inr (ci, h_flds G I J k ks) := by unfold h_cell; rw [hs]
theorem h_cell_a {G : hQ} {I : hI} {J : hJ} {k κ n : Nat} (hs : h_sh k = .inr (κ, n)) : h_cell G I J k = .inl (G.2.1 κ, h_arr G I J k κ n) := by unfold h_cell; rw [hs]
theorem h_W_at {G : hQ} {I : hI} {J : hJ} {k : Nat} (hk : k < 91) : (h_W G I J)[k]? = some (G.2.2 k, h_cell G I J k) := by
  unfold h_W
  rw [List.getElem?_map, List.getElem?_range hk]
  rfl
theorem h_W_o {G : hQ} {I : hI} {J : hJ} {k ci : Nat} {ks : List Nat} (hk : k < 91) (hs : h_sh k = .inl (ci, ks)) : (h_W G I J)[k]? = some (G.2.2 k, .inr (ci, h_flds G I J k ks)) := by rw [h_W_at hk, h_cell_o hs]
theorem h_W_a {G : hQ} {I : hI} {J : hJ} {k κ n : Nat} (hk : k < 91) (hs : h_sh k = .inr (κ, n)) : (h_W G I J)[k]? = some (G.2.2 k, .inl (G.2.1 κ, h_arr G I J k κ n)) := by rw [h_W_at hk, h_cell_a hs]
theorem h_flds_at {G : hQ} {I : hI} {J : hJ} {k j κ : Nat} {ks : List Nat} (hj : ks[j]? = some κ) : (h_flds G I J k ks)[j]? = some (h_val G I J k j κ) := by
  unfold h_flds
  rw [List.getElem?_map, List.getElem?_zipIdx, hj]
  simp
theorem h_flds_len {G : hQ} {I : hI} {J : hJ} {k : Nat} {ks : List Nat} : (h_flds G I J k ks).length = ks.length := by simp [h_flds]
theorem h_W_set {G : hQ} {I I' : hI} {J J' : hJ} {k : Nat} {e : va_E} (hk : k < 91) (he : h_cell G I' J' k = e) (ho : ∀ a, a ≠ k → h_cell G I' J' a = h_cell G I J a) : (h_W G I J).set k (G.2.2 k, e) = h_W G I' J' := by
  apply List.ext_getElem?
  intro i
  by_cases hi : i < 91
  · rw [h_W_at hi, List.getElem?_set]
    by_cases h : k = i
    · subst h
      rw [if_pos rfl, if_pos (by simpa [h_W] using hk), he]
    · rw [if_neg h, h_W_at hi, ho i (fun q => h q.symm)]
  · have h1 : (h_W G I' J')[i]? = none := List.getElem?_eq_none (by simp [h_W]; omega)
    have h2 : ((h_W G I J).set k (G.2.2 k, e))[i]? = none := List.getElem?_eq_none (by simp [h_W]; omega)
    rw [h1, h2]
theorem h_cell_ne {G : hQ} {I I' : hI} {J J' : hJ} {a : Nat} (hI : I' a = I a) (hJ : J' a = J a) : h_cell G I' J' a = h_cell G I J a := by
  unfold h_cell h_flds h_arr h_val
  rw [hI, hJ]
theorem h_up_ne {I : hI} {k j a : Nat} {v : Int32} (h : a ≠ k) : h_up I k j v a = I a := by funext b; simp [h_up, h]
theorem h_upL_ne {J : hJ} {k j a : Nat} {v : Int64} (h : a ≠ k) : h_upL J k j v a = J a := by funext b; simp [h_upL, h]
theorem h_cp_ne {I : hI} {k0 k n a : Nat} (h : a ≠ k) : h_cp I k0 k n a = I a := by funext b; simp [h_cp, h]
theorem h_up_eq {I : hI} {k j : Nat} {v : Int32} : h_up I k j v k = upd (I k) j v := by funext b; simp [h_up, upd]
theorem h_upL_eq {J : hJ} {k j : Nat} {v : Int64} : h_upL J k j v k = vp_updL (J k) j v := by funext b; simp [h_upL, vp_updL]
theorem h_cp_eq {I : hI} {k0 k n : Nat} : h_cp I k0 k n k = va_cpy (I k0) (I k) 0 0 n := by
  funext b
  simp [h_cp, va_cpy]
theorem h_flds_up {G : hQ} {I : hI} {J : hJ} {k j : Nat} {ks : List Nat} {v : Int32} (hj : ks[j]? = some 0) : h_flds G (h_up I k j v) J k ks = (h_flds G I J k ks).set j (.int v) := by
  apply List.ext_getElem?
  intro i
  rw [List.getElem?_set, h_flds_len]
  have hl : j < ks.length := (List.getElem?_eq_some_iff.mp hj).1
  by_cases h : j = i
  · subst h
    rw [if_pos rfl, if_pos hl, h_flds_at hj]
    simp [h_val, h_up]
  · rw [if_neg h]
    cases hi : ks[i]? with
    | none => rw [List.getElem?_eq_none (by rw [h_flds_len]; exact List.getElem?_eq_none_iff.mp hi), List.getElem?_eq_none (by rw [h_flds_len]; exact List.getElem?_eq_none_iff.mp hi)]
    | some κ => rw [h_flds_at hi, h_flds_at hi]; have h2 : ¬ i = j := fun q => h q.symm; simp [h_val, h_up, h2]
theorem h_flds_upL {G : hQ} {I : hI} {J : hJ} {k j : Nat} {ks : List Nat} {v : Int64} (hj : ks[j]? = some 1) : h_flds G I (h_upL J k j v) k ks = (h_flds G I J k ks).set j (.long v) := by
  apply List.ext_getElem?
  intro i
  rw [List.getElem?_set, h_flds_len]
  have hl : j < ks.length := (List.getElem?_eq_some_iff.mp hj).1
  by_cases h : j = i
  · subst h
    rw [if_pos rfl, if_pos hl, h_flds_at hj]
    simp [h_val, h_upL]
  · rw [if_neg h]
    cases hi : ks[i]? with
    | none => rw [List.getElem?_eq_none (by rw [h_flds_len]; exact List.getElem?_eq_none_iff.mp hi), List.getElem?_eq_none (by rw [h_flds_len]; exact List.getElem?_eq_none_iff.mp hi)]
    | some κ => rw [h_flds_at hi, h_flds_at hi]; have h2 : ¬ i = j := fun q => h q.symm; simp [h_val, h_upL, h2]
theorem h_W_up_o {G : hQ} {I : hI} {J : hJ} {k ci j : Nat} {ks : List Nat} {v : Int32} (hk : k < 91) (hs : h_sh k = .inl (ci, ks)) (hj : ks[j]? = some 0) : (h_W G I J).set k (G.2.2 k, .inr (ci, (h_flds G I J k ks).set j (.int v))) = h_W G (h_up I k j v) J :=
  h_W_set hk (by rw [h_cell_o hs, h_flds_up hj]) (fun a h => h_cell_ne (h_up_ne h) rfl)
theorem h_W_upL_o {G : hQ} {I : hI} {J : hJ} {k ci j : Nat} {ks : List Nat} {v : Int64} (hk : k < 91) (hs : h_sh k = .inl (ci, ks)) (hj : ks[j]? = some 1) : (h_W G I J).set k (G.2.2 k, .inr (ci, (h_flds G I J k ks).set j (.long v))) = h_W G I (h_upL J k j v) :=
  h_W_set hk (by rw [h_cell_o hs, h_flds_upL hj]) (fun a h => h_cell_ne rfl (h_upL_ne h))
theorem h_W_i {G : hQ} {I : hI} {J : hJ} {k n : Nat} (hk : k < 91) (hs : h_sh k = .inr (0, n)) : (h_W G I J)[k]? = some (G.2.2 k, .inl (G.2.1 0, n, .inl (I k))) := h_W_a hk hs
theorem h_W_z {G : hQ} {I : hI} {J : hJ} {k n : Nat} (hk : k < 91) (hs : h_sh k = .inr (3, n)) : (h_W G I J)[k]? = some (G.2.2 k, .inl (G.2.1 3, n, .inl (I k))) := h_W_a hk hs
theorem h_W_l {G : hQ} {I : hI} {J : hJ} {k n : Nat} (hk : k < 91) (hs : h_sh k = .inr (1, n)) : (h_W G I J)[k]? = some (G.2.2 k, .inl (G.2.1 1, n, .inr (.inl (J k)))) := h_W_a hk hs
theorem h_W_q {G : hQ} {I : hI} {J : hJ} {k n : Nat} (hk : k < 91) (hs : h_sh k = .inr (2, n)) : (h_W G I J)[k]? = some (G.2.2 k, .inl (G.2.1 2, n, .inr (.inr (.inr (.inr (fun j => some (G.2.2 (h_rf k j)))))))) := h_W_a hk hs
theorem h_W_up_i {G : hQ} {I : hI} {J : hJ} {k n j : Nat} {v : Int32} (hk : k < 91) (hs : h_sh k = .inr (0, n)) : (h_W G I J).set k (G.2.2 k, .inl (G.2.1 0, n, .inl (upd (I k) j v))) = h_W G (h_up I k j v) J :=
  h_W_set hk (by rw [h_cell_a hs]; simp [h_arr, h_up_eq]) (fun a h => h_cell_ne (h_up_ne h) rfl)
theorem h_W_up_z {G : hQ} {I : hI} {J : hJ} {k n j : Nat} {v : Int32} (hk : k < 91) (hs : h_sh k = .inr (3, n)) : (h_W G I J).set k (G.2.2 k, .inl (G.2.1 3, n, .inl (upd (I k) j v))) = h_W G (h_up I k j v) J :=
  h_W_set hk (by rw [h_cell_a hs]; simp [h_arr, h_up_eq]) (fun a h => h_cell_ne (h_up_ne h) rfl)
theorem h_W_up_l {G : hQ} {I : hI} {J : hJ} {k n j : Nat} {v : Int64} (hk : k < 91) (hs : h_sh k = .inr (1, n)) : (h_W G I J).set k (G.2.2 k, .inl (G.2.1 1, n, .inr (.inl (vp_updL (J k) j v)))) = h_W G I (h_upL J k j v) :=
  h_W_set hk (by rw [h_cell_a hs]; simp [h_arr, h_upL_eq]) (fun a h => h_cell_ne rfl (h_upL_ne h))
theorem h_W_cp {G : hQ} {I : hI} {J : hJ} {k0 k n m : Nat} (hk : k < 91) (hs : h_sh k = .inr (0, n)) : (h_W G I J).set k (G.2.2 k, .inl (G.2.1 0, n, .inl (va_cpy (I k0) (I k) 0 0 m))) = h_W G (h_cp I k0 k m) J :=
  h_W_set hk (by rw [h_cell_a hs]; simp [h_arr, h_cp_eq]) (fun a h => h_cell_ne (h_cp_ne h) rfl)
/-- the constant things of a walk: p l e R s m args below meth c Q A nL cells slots -/
abbrev hG : Type := Program × Launch × Env × Room × State × MethodId × Array Value × List Frame × Method × Code × (State → Prop) × (Nat → Prop) × Nat × Nat × Nat
abbrev g_p (Γ : hG) := Γ.1
abbrev g_l (Γ : hG) := Γ.2.1
abbrev g_e (Γ : hG) := Γ.2.2.1
abbrev g_R (Γ : hG) := Γ.2.2.2.1
abbrev g_s (Γ : hG) := Γ.2.2.2.2.1
abbrev g_m (Γ : hG) := Γ.2.2.2.2.2.1
abbrev g_a (Γ : hG) := Γ.2.2.2.2.2.2.1
abbrev g_b (Γ : hG) := Γ.2.2.2.2.2.2.2.1
abbrev g_t (Γ : hG) := Γ.2.2.2.2.2.2.2.2.1
abbrev g_c (Γ : hG) := Γ.2.2.2.2.2.2.2.2.2.1
abbrev g_Q (Γ : hG) := Γ.2.2.2.2.2.2.2.2.2.2.1
abbrev g_A (Γ : hG) := Γ.2.2.2.2.2.2.2.2.2.2.2.1
abbrev g_n (Γ : hG) := Γ.2.2.2.2.2.2.2.2.2.2.2.2.1
abbrev g_k (Γ : hG) := Γ.2.2.2.2.2.2.2.2.2.2.2.2.2.1
abbrev g_j (Γ : hG) := Γ.2.2.2.2.2.2.2.2.2.2.2.2.2.2
/-- at pc, with locals lo, stack st and the heap (I, J), the machine comes to its goal -/
def h_WW (Γ : hG) (G : hQ) (pc : Nat) (lo : List (Nat × Value)) (st : List Value) (I : hI) (J : hJ) : Prop :=
  ∀ (H : Heap) (locs : List Loc) (ls : Array Slot), va_P G.1 vwCl (h_W G I J) H → va_D (g_A Γ) (h_W G I J) → va_S (g_A Γ) (g_s Γ).heap H locs → lv_has ls (g_n Γ) lo →
    W (g_p Γ) (g_l Γ) (g_e Γ) (g_R Γ) (g_s Γ) (g_m Γ) (g_a Γ) (g_b Γ) (g_t Γ) (g_c Γ) H locs (g_k Γ) (g_j Γ) (g_Q Γ) (F0 (g_m Γ) pc ls st)
/-- what is known of them: exec, bytes, locals' number, own class, words, classes; the room: frames fr, locals lc -/
abbrev h_C (Γ : hG) (G : hQ) (l : Launch) (nL : Nat) (cc : ByteArray) (Ts : List Cond) (own : String) (fr lc : Nat) : Prop :=
  (g_p Γ).tables.exec = Jvm.exec ∧ (g_c Γ).code = cc ∧ (g_c Γ).maxLocals = g_n Γ ∧ (g_s Γ).vm.findClass own = some (g_m Γ).cls ∧ (∀ w ∈ Ts, w.before (g_a Γ) (g_s Γ) = true) ∧ va_K G.1 vwCl (h_ty G) (g_s Γ) ∧ (∀ q : Nat, (g_s Γ).heap.size ≤ q → g_A Γ q) ∧ fr ≤ (g_R Γ).frames ∧ lc ≤ (g_R Γ).locals ∧ g_k Γ ≤ (g_R Γ).cells ∧ g_j Γ ≤ (g_R Γ).slots ∧ g_l Γ = l ∧ g_n Γ = nL ∧ h_N (g_s Γ)
section HL
variable {Γ : hG} {G : hQ} {l : Launch} {nL : Nat} {cc : ByteArray} {Ts : List Cond} {own : String} {fr lc pc : Nat} {lo lo' : List (Nat × Value)} {st : List Value} {I : hI} {J : hJ}
theorem x_lo (ks : List Nat) (hl : lv_pick lo ks = lo') (k : h_WW Γ G pc lo' st I J) : h_WW Γ G pc lo st I J := fun H locs ls a b c d => k H locs ls a b c (lv_sub d ks hl)
theorem x_topi {x : Int32} (k : ∀ y : Int32, y = x → h_WW Γ G pc lo (.int y :: st) I J) : h_WW Γ G pc lo (.int x :: st) I J := k x rfl
theorem x_topl {x : Int64} (k : ∀ y : Int64, y = x → h_WW Γ G pc lo (.long y :: st) I J) : h_WW Γ G pc lo (.long x :: st) I J := k x rfl
theorem x_topie {x : Int32} (y : Int32) (h : x = y) (k : h_WW Γ G pc lo (.int y :: st) I J) : h_WW Γ G pc lo (.int x :: st) I J := h ▸ k
theorem x_tople {x : Int64} (y : Int64) (h : x = y) (k : h_WW Γ G pc lo (.long y :: st) I J) : h_WW Γ G pc lo (.long x :: st) I J := h ▸ k
theorem x_eqI {I' : hI} {J' : hJ} (h : I = I') (h2 : J = J') (k : h_WW Γ G pc lo st I' J') : h_WW Γ G pc lo st I J := by subst h; subst h2; exact k

theorem x_iload_n (K : h_C Γ G l nL cc Ts own fr lc) {k : Fin 4} {i : Nat} {x : Int32} (q : Nat) (hdg : decode cc pc = .ok (.iload_n k, 1)) (hi : (k : Nat) = i) (hl : lo[q]? = some (i, .int x)) (k : h_WW Γ G (pc + 1) lo (.int x :: st) I J) : h_WW Γ G pc lo st I J := fun H locs ls a b c d => lv_iload_n K.1 K.2.1 hdg hi (lv_at d q hl) (k H locs ls a b c d)
theorem x_iload (K : h_C Γ G l nL cc Ts own fr lc) {i : Nat} {x : Int32} (q : Nat) (hdg : decode cc pc = .ok (.iload i, 2)) (hl : lo[q]? = some (i, .int x)) (k : h_WW Γ G (pc + 2) lo (.int x :: st) I J) : h_WW Γ G pc lo st I J := fun H locs ls a b c d => lv_iload K.1 K.2.1 hdg (lv_at d q hl) (k H locs ls a b c d)
theorem x_istore_n (K : h_C Γ G l nL cc Ts own fr lc) {k : Fin 4} {i : Nat} {x : Int32} (hdg : decode cc pc = .ok (.istore_n k, 1)) (hi : (k : Nat) = i) (hn : i < nL) (hl : (i, Value.int x) :: lo.filter (fun q => !(q.1 == i) && !(q.1 + 1 == i && q.2.category == 2)) = lo') (kk : h_WW Γ G (pc + 1) lo' st I J) : h_WW Γ G pc lo (.int x :: st) I J := fun H locs ls a b c d => lv_istore_n K.1 K.2.1 hdg hi d (by rw [K.2.2.2.2.2.2.2.2.2.2.2.2.1]; exact hn) hl (fun ls2 d2 => kk H locs ls2 a b c d2)
theorem x_istore (K : h_C Γ G l nL cc Ts own fr lc) {i : Nat} {x : Int32} (hdg : decode cc pc = .ok (.istore i, 2)) (hn : i < nL) (hl : (i, Value.int x) :: lo.filter (fun q => !(q.1 == i) && !(q.1 + 1 == i && q.2.category == 2)) = lo') (kk : h_WW Γ G (pc + 2) lo' st I J) : h_WW Γ G pc lo (.int x :: st) I J := fun H locs ls a b c d => lv_istore K.1 K.2.1 hdg d (by rw [K.2.2.2.2.2.2.2.2.2.2.2.2.1]; exact hn) hl (fun ls2 d2 => kk H locs ls2 a b c d2)
theorem x_lload_n (K : h_C Γ G l nL cc Ts own fr lc) {k : Fin 4} {i : Nat} {x : Int64} (q : Nat) (hdg : decode cc pc = .ok (.lload_n k, 1)) (hi : (k : Nat) = i) (hl : lo[q]? = some (i, .long x)) (k : h_WW Γ G (pc + 1) lo (.long x :: st) I J) : h_WW Γ G pc lo st I J := fun H locs ls a b c d => lv_lload_n K.1 K.2.1 hdg hi (lv_at d q hl) (k H locs ls a b c d)
theorem x_lload (K : h_C Γ G l nL cc Ts own fr lc) {i : Nat} {x : Int64} (q : Nat) (hdg : decode cc pc = .ok (.lload i, 2)) (hl : lo[q]? = some (i, .long x)) (k : h_WW Γ G (pc + 2) lo (.long x :: st) I J) : h_WW Γ G pc lo st I J := fun H locs ls a b c d => lv_lload K.1 K.2.1 hdg (lv_at d q hl) (k H locs ls a b c d)
theorem x_lstore_n (K : h_C Γ G l nL cc Ts own fr lc) {k : Fin 4} {i : Nat} {x : Int64} (hdg : decode cc pc = .ok (.lstore_n k, 1)) (hi : (k : Nat) = i) (hn : i + 1 < nL) (hl : (i, Value.long x) :: lo.filter (fun q => !(q.1 == i) && (!(q.1 == i + 1) && !(q.1 + 1 == i && q.2.category == 2))) = lo') (kk : h_WW Γ G (pc + 1) lo' st I J) : h_WW Γ G pc lo (.long x :: st) I J := fun H locs ls a b c d => lv_lstore_n K.1 K.2.1 hdg hi d (by rw [K.2.2.2.2.2.2.2.2.2.2.2.2.1]; exact hn) hl (fun ls2 d2 => kk H locs ls2 a b c d2)
theorem x_lstore (K : h_C Γ G l nL cc Ts own fr lc) {i : Nat} {x : Int64} (hdg : decode cc pc = .ok (.lstore i, 2)) (hn : i + 1 < nL) (hl : (i, Value.long x) :: lo.filter (fun q => !(q.1 == i) && (!(q.1 == i + 1) && !(q.1 + 1 == i && q.2.category == 2))) = lo') (kk : h_WW Γ G (pc + 2) lo' st I J) : h_WW Γ G pc lo (.long x :: st) I J := fun H locs ls a b c d => lv_lstore K.1 K.2.1 hdg d (by rw [K.2.2.2.2.2.2.2.2.2.2.2.2.1]; exact hn) hl (fun ls2 d2 => kk H locs ls2 a b c d2)
theorem x_aload_n (K : h_C Γ G l nL cc Ts own fr lc) {k : Fin 4} {i : Nat} {x : Nat} (q : Nat) (hdg : decode cc pc = .ok (.aload_n k, 1)) (hi : (k : Nat) = i) (hl : lo[q]? = some (i, .ref x)) (k : h_WW Γ G (pc + 1) lo (.ref x :: st) I J) : h_WW Γ G pc lo st I J := fun H locs ls a b c d => lv_aload_n K.1 K.2.1 hdg hi (lv_at d q hl) (k H locs ls a b c d)
theorem x_aload (K : h_C Γ G l nL cc Ts own fr lc) {i : Nat} {x : Nat} (q : Nat) (hdg : decode cc pc = .ok (.aload i, 2)) (hl : lo[q]? = some (i, .ref x)) (k : h_WW Γ G (pc + 2) lo (.ref x :: st) I J) : h_WW Γ G pc lo st I J := fun H locs ls a b c d => lv_aload K.1 K.2.1 hdg (lv_at d q hl) (k H locs ls a b c d)
theorem x_astore_n (K : h_C Γ G l nL cc Ts own fr lc) {k : Fin 4} {i : Nat} {x : Nat} (hdg : decode cc pc = .ok (.astore_n k, 1)) (hi : (k : Nat) = i) (hn : i < nL) (hl : (i, Value.ref x) :: lo.filter (fun q => !(q.1 == i) && !(q.1 + 1 == i && q.2.category == 2)) = lo') (kk : h_WW Γ G (pc + 1) lo' st I J) : h_WW Γ G pc lo (.ref x :: st) I J := fun H locs ls a b c d => lv_astore_n K.1 K.2.1 hdg hi d (by rw [K.2.2.2.2.2.2.2.2.2.2.2.2.1]; exact hn) hl (fun ls2 d2 => kk H locs ls2 a b c d2)
theorem x_astore (K : h_C Γ G l nL cc Ts own fr lc) {i : Nat} {x : Nat} (hdg : decode cc pc = .ok (.astore i, 2)) (hn : i < nL) (hl : (i, Value.ref x) :: lo.filter (fun q => !(q.1 == i) && !(q.1 + 1 == i && q.2.category == 2)) = lo') (kk : h_WW Γ G (pc + 2) lo' st I J) : h_WW Γ G pc lo (.ref x :: st) I J := fun H locs ls a b c d => lv_astore K.1 K.2.1 hdg d (by rw [K.2.2.2.2.2.2.2.2.2.2.2.2.1]; exact hn) hl (fun ls2 d2 => kk H locs ls2 a b c d2)
theorem x_iinc (K : h_C Γ G l nL cc Ts own fr lc) {i q0 : Nat} {n : Int} {x v : Int32} (hdg : decode cc pc = .ok (.iinc i n, 3)) (hk : lo[q0]? = some (i, .int x)) (hv : x + Int32.ofInt n = v) (hn : i < nL) (hl : (i, Value.int v) :: lo.filter (fun q => !(q.1 == i) && !(q.1 + 1 == i && q.2.category == 2)) = lo') (kk : h_WW Γ G (pc + 3) lo' st I J) : h_WW Γ G pc lo st I J := fun H locs ls a b c d => lv_iinc K.1 K.2.1 hdg d hk hv (by rw [K.2.2.2.2.2.2.2.2.2.2.2.2.1]; exact hn) hl (fun ls2 d2 => kk H locs ls2 a b c d2)
theorem x_iconst (K : h_C Γ G l nL cc Ts own fr lc) {n : Int} {v : Int32} (hdg : decode cc pc = .ok (.iconst n, 1)) (hv : Int32.ofInt n = v) (k : h_WW Γ G (pc + 1) lo (.int v :: st) I J) : h_WW Γ G pc lo st I J := fun H locs ls a b c d => lv_iconst K.1 K.2.1 hdg hv (k H locs ls a b c d)
theorem x_bipush (K : h_C Γ G l nL cc Ts own fr lc) {n : Int} {v : Int32} (hdg : decode cc pc = .ok (.bipush n, 2)) (hv : (Int8.ofInt n).toInt32 = v) (k : h_WW Γ G (pc + 2) lo (.int v :: st) I J) : h_WW Γ G pc lo st I J := fun H locs ls a b c d => lv_bipush K.1 K.2.1 hdg hv (k H locs ls a b c d)
theorem x_sipush (K : h_C Γ G l nL cc Ts own fr lc) {n : Int} {v : Int32} (hdg : decode cc pc = .ok (.sipush n, 3)) (hv : (Int16.ofInt n).toInt32 = v) (k : h_WW Γ G (pc + 3) lo (.int v :: st) I J) : h_WW Γ G pc lo st I J := fun H locs ls a b c d => lv_sipush K.1 K.2.1 hdg hv (k H locs ls a b c d)
theorem x_lconst (K : h_C Γ G l nL cc Ts own fr lc) {n : Fin 2} {v : Int64} (hdg : decode cc pc = .ok (.lconst n, 1)) (hv : Int64.ofNat (n : Nat) = v) (k : h_WW Γ G (pc + 1) lo (.long v :: st) I J) : h_WW Γ G pc lo st I J := fun H locs ls a b c d => lv_lconst K.1 K.2.1 hdg hv (k H locs ls a b c d)
theorem x_ldc_w (K : h_C Γ G l nL cc Ts own fr lc) {index : Nat} {v : Int32} (hc : Jvm.Cond.constant own index v ∈ Ts) (hdg : decode cc pc = .ok (.ldc_w index, 3)) (k : h_WW Γ G (pc + 3) lo (.int v :: st) I J) : h_WW Γ G pc lo st I J := fun H locs ls a b c d => lv_ldcw K.1 K.2.1 K.2.2.2.1 (K.2.2.2.2.1 _ hc) hdg (k H locs ls a b c d)
theorem x_ldc2_w (K : h_C Γ G l nL cc Ts own fr lc) {index : Nat} {v : Int64} (hc : Jvm.Cond.constantLong own index v ∈ Ts) (hdg : decode cc pc = .ok (.ldc2_w index, 3)) (k : h_WW Γ G (pc + 3) lo (.long v :: st) I J) : h_WW Γ G pc lo st I J := fun H locs ls a b c d => lv_ldc2 K.1 K.2.1 K.2.2.2.1 (K.2.2.2.2.1 _ hc) hdg (k H locs ls a b c d)
theorem x_iadd (K : h_C Γ G l nL cc Ts own fr lc) {x y : Int32} (hdg : decode cc pc = .ok (.iadd, 1)) (k : h_WW Γ G (pc + 1) lo (.int (x + y) :: st) I J) : h_WW Γ G pc lo (.int y :: .int x :: st) I J := fun H locs ls a b c d => lv_iadd K.1 K.2.1 hdg (k H locs ls a b c d)
theorem x_isub (K : h_C Γ G l nL cc Ts own fr lc) {x y : Int32} (hdg : decode cc pc = .ok (.isub, 1)) (k : h_WW Γ G (pc + 1) lo (.int (x - y) :: st) I J) : h_WW Γ G pc lo (.int y :: .int x :: st) I J := fun H locs ls a b c d => lv_isub K.1 K.2.1 hdg (k H locs ls a b c d)
theorem x_imul (K : h_C Γ G l nL cc Ts own fr lc) {x y : Int32} (hdg : decode cc pc = .ok (.imul, 1)) (k : h_WW Γ G (pc + 1) lo (.int (x * y) :: st) I J) : h_WW Γ G pc lo (.int y :: .int x :: st) I J := fun H locs ls a b c d => lv_imul K.1 K.2.1 hdg (k H locs ls a b c d)
theorem x_iand (K : h_C Γ G l nL cc Ts own fr lc) {x y : Int32} (hdg : decode cc pc = .ok (.iand, 1)) (k : h_WW Γ G (pc + 1) lo (.int (x &&& y) :: st) I J) : h_WW Γ G pc lo (.int y :: .int x :: st) I J := fun H locs ls a b c d => lv_iand K.1 K.2.1 hdg (k H locs ls a b c d)
theorem x_ior (K : h_C Γ G l nL cc Ts own fr lc) {x y : Int32} (hdg : decode cc pc = .ok (.ior, 1)) (k : h_WW Γ G (pc + 1) lo (.int (x ||| y) :: st) I J) : h_WW Γ G pc lo (.int y :: .int x :: st) I J := fun H locs ls a b c d => lv_ior K.1 K.2.1 hdg (k H locs ls a b c d)
theorem x_ixor (K : h_C Γ G l nL cc Ts own fr lc) {x y : Int32} (hdg : decode cc pc = .ok (.ixor, 1)) (k : h_WW Γ G (pc + 1) lo (.int (x ^^^ y) :: st) I J) : h_WW Γ G pc lo (.int y :: .int x :: st) I J := fun H locs ls a b c d => lv_ixor K.1 K.2.1 hdg (k H locs ls a b c d)
theorem x_ishl (K : h_C Γ G l nL cc Ts own fr lc) {x y : Int32} (hdg : decode cc pc = .ok (.ishl, 1)) (k : h_WW Γ G (pc + 1) lo (.int (x <<< (y &&& 31)) :: st) I J) : h_WW Γ G pc lo (.int y :: .int x :: st) I J := fun H locs ls a b c d => lv_ishl K.1 K.2.1 hdg (k H locs ls a b c d)
theorem x_ishr (K : h_C Γ G l nL cc Ts own fr lc) {x y : Int32} (hdg : decode cc pc = .ok (.ishr, 1)) (k : h_WW Γ G (pc + 1) lo (.int (x >>> (y &&& 31)) :: st) I J) : h_WW Γ G pc lo (.int y :: .int x :: st) I J := fun H locs ls a b c d => lv_ishr K.1 K.2.1 hdg (k H locs ls a b c d)
theorem x_ladd (K : h_C Γ G l nL cc Ts own fr lc) {x y : Int64} (hdg : decode cc pc = .ok (.ladd, 1)) (k : h_WW Γ G (pc + 1) lo (.long (x + y) :: st) I J) : h_WW Γ G pc lo (.long y :: .long x :: st) I J := fun H locs ls a b c d => lv_ladd K.1 K.2.1 hdg (k H locs ls a b c d)
theorem x_lsub (K : h_C Γ G l nL cc Ts own fr lc) {x y : Int64} (hdg : decode cc pc = .ok (.lsub, 1)) (k : h_WW Γ G (pc + 1) lo (.long (x - y) :: st) I J) : h_WW Γ G pc lo (.long y :: .long x :: st) I J := fun H locs ls a b c d => lv_lsub K.1 K.2.1 hdg (k H locs ls a b c d)
theorem x_lmul (K : h_C Γ G l nL cc Ts own fr lc) {x y : Int64} (hdg : decode cc pc = .ok (.lmul, 1)) (k : h_WW Γ G (pc + 1) lo (.long (x * y) :: st) I J) : h_WW Γ G pc lo (.long y :: .long x :: st) I J := fun H locs ls a b c d => lv_lmul K.1 K.2.1 hdg (k H locs ls a b c d)
theorem x_lxor (K : h_C Γ G l nL cc Ts own fr lc) {x y : Int64} (hdg : decode cc pc = .ok (.lxor, 1)) (k : h_WW Γ G (pc + 1) lo (.long (x ^^^ y) :: st) I J) : h_WW Γ G pc lo (.long y :: .long x :: st) I J := fun H locs ls a b c d => lv_lxor K.1 K.2.1 hdg (k H locs ls a b c d)
theorem x_idiv (K : h_C Γ G l nL cc Ts own fr lc) {x y : Int32} (hdg : decode cc pc = .ok (.idiv, 1)) (hne : ¬ y = 0) (k : h_WW Γ G (pc + 1) lo (.int (x / y) :: st) I J) : h_WW Γ G pc lo (.int y :: .int x :: st) I J := fun H locs ls a b c d => lv_idiv K.1 K.2.1 hdg hne (k H locs ls a b c d)
theorem x_irem (K : h_C Γ G l nL cc Ts own fr lc) {x y : Int32} (hdg : decode cc pc = .ok (.irem, 1)) (hne : ¬ y = 0) (k : h_WW Γ G (pc + 1) lo (.int (x - x / y * y) :: st) I J) : h_WW Γ G pc lo (.int y :: .int x :: st) I J := fun H locs ls a b c d => lv_irem K.1 K.2.1 hdg hne (k H locs ls a b c d)
theorem x_ldiv (K : h_C Γ G l nL cc Ts own fr lc) {x y : Int64} (hdg : decode cc pc = .ok (.ldiv, 1)) (hne : ¬ y = 0) (k : h_WW Γ G (pc + 1) lo (.long (x / y) :: st) I J) : h_WW Γ G pc lo (.long y :: .long x :: st) I J := fun H locs ls a b c d => lv_ldiv K.1 K.2.1 hdg hne (k H locs ls a b c d)
theorem x_lrem (K : h_C Γ G l nL cc Ts own fr lc) {x y : Int64} (hdg : decode cc pc = .ok (.lrem, 1)) (hne : ¬ y = 0) (k : h_WW Γ G (pc + 1) lo (.long (x - x / y * y) :: st) I J) : h_WW Γ G pc lo (.long y :: .long x :: st) I J := fun H locs ls a b c d => lv_lrem K.1 K.2.1 hdg hne (k H locs ls a b c d)
theorem x_ineg (K : h_C Γ G l nL cc Ts own fr lc) {x : Int32} (hdg : decode cc pc = .ok (.ineg, 1)) (k : h_WW Γ G (pc + 1) lo (.int (-x) :: st) I J) : h_WW Γ G pc lo (.int x :: st) I J := fun H locs ls a b c d => lv_ineg K.1 K.2.1 hdg (k H locs ls a b c d)
theorem x_lneg (K : h_C Γ G l nL cc Ts own fr lc) {x : Int64} (hdg : decode cc pc = .ok (.lneg, 1)) (k : h_WW Γ G (pc + 1) lo (.long (-x) :: st) I J) : h_WW Γ G pc lo (.long x :: st) I J := fun H locs ls a b c d => lv_lneg K.1 K.2.1 hdg (k H locs ls a b c d)
theorem x_iushr (K : h_C Γ G l nL cc Ts own fr lc) {x y v : Int32} (hdg : decode cc pc = .ok (.iushr, 1)) (hv : (x.toUInt32 >>> (y.toUInt32 &&& Int32.toUInt32 31)).toInt32 = v) (k : h_WW Γ G (pc + 1) lo (.int v :: st) I J) : h_WW Γ G pc lo (.int y :: .int x :: st) I J := fun H locs ls a b c d => lv_iushr K.1 K.2.1 hdg hv (k H locs ls a b c d)
theorem x_lcmp (K : h_C Γ G l nL cc Ts own fr lc) {x y : Int64} (hdg : decode cc pc = .ok (.lcmp, 1)) (k : h_WW Γ G (pc + 1) lo (.int (lg_cmp x y) :: st) I J) : h_WW Γ G pc lo (.long y :: .long x :: st) I J := fun H locs ls a b c d => W.lcmp K.1 K.2.1 hdg (k H locs ls a b c d)
theorem x_i2l (K : h_C Γ G l nL cc Ts own fr lc) {x : Int32} (hdg : decode cc pc = .ok (.i2l, 1)) (k : h_WW Γ G (pc + 1) lo (.long x.toInt64 :: st) I J) : h_WW Γ G pc lo (.int x :: st) I J := fun H locs ls a b c d => lv_i2l K.1 K.2.1 hdg rfl (k H locs ls a b c d)
theorem x_l2i (K : h_C Γ G l nL cc Ts own fr lc) {x : Int64} (hdg : decode cc pc = .ok (.l2i, 1)) (k : h_WW Γ G (pc + 1) lo (.int x.toInt32 :: st) I J) : h_WW Γ G pc lo (.long x :: st) I J := fun H locs ls a b c d => lv_l2i K.1 K.2.1 hdg rfl (k H locs ls a b c d)
theorem x_if_eq (K : h_C Γ G l nL cc Ts own fr lc) {x : Int32} {off : Int} {tgt : Nat} (hdg : decode cc pc = .ok (.ifCond .eq off, 3)) (ht : (pc : Int) + off = (tgt : Int)) (kt : x = 0 → h_WW Γ G tgt lo st I J) (kf : ¬ x = 0 → h_WW Γ G (pc + 3) lo st I J) : h_WW Γ G pc lo (.int x :: st) I J := fun H locs ls a b c d => lv_if_eq K.1 K.2.1 hdg ht (fun q => kt q H locs ls a b c d) (fun q => kf q H locs ls a b c d)
theorem x_icmp_eq (K : h_C Γ G l nL cc Ts own fr lc) {x y : Int32} {off : Int} {tgt : Nat} (hdg : decode cc pc = .ok (.if_icmp .eq off, 3)) (ht : (pc : Int) + off = (tgt : Int)) (kt : x = y → h_WW Γ G tgt lo st I J) (kf : ¬ x = y → h_WW Γ G (pc + 3) lo st I J) : h_WW Γ G pc lo (.int y :: .int x :: st) I J := fun H locs ls a b c d => lv_icmp_eq K.1 K.2.1 hdg ht (fun q => kt q H locs ls a b c d) (fun q => kf q H locs ls a b c d)
theorem x_if_ne (K : h_C Γ G l nL cc Ts own fr lc) {x : Int32} {off : Int} {tgt : Nat} (hdg : decode cc pc = .ok (.ifCond .ne off, 3)) (ht : (pc : Int) + off = (tgt : Int)) (kt : ¬ x = 0 → h_WW Γ G tgt lo st I J) (kf : x = 0 → h_WW Γ G (pc + 3) lo st I J) : h_WW Γ G pc lo (.int x :: st) I J := fun H locs ls a b c d => lv_if_ne K.1 K.2.1 hdg ht (fun q => kt q H locs ls a b c d) (fun q => kf q H locs ls a b c d)
theorem x_icmp_ne (K : h_C Γ G l nL cc Ts own fr lc) {x y : Int32} {off : Int} {tgt : Nat} (hdg : decode cc pc = .ok (.if_icmp .ne off, 3)) (ht : (pc : Int) + off = (tgt : Int)) (kt : ¬ x = y → h_WW Γ G tgt lo st I J) (kf : x = y → h_WW Γ G (pc + 3) lo st I J) : h_WW Γ G pc lo (.int y :: .int x :: st) I J := fun H locs ls a b c d => lv_icmp_ne K.1 K.2.1 hdg ht (fun q => kt q H locs ls a b c d) (fun q => kf q H locs ls a b c d)
theorem x_if_lt (K : h_C Γ G l nL cc Ts own fr lc) {x : Int32} {off : Int} {tgt : Nat} (hdg : decode cc pc = .ok (.ifCond .lt off, 3)) (ht : (pc : Int) + off = (tgt : Int)) (kt : x < 0 → h_WW Γ G tgt lo st I J) (kf : ¬ x < 0 → h_WW Γ G (pc + 3) lo st I J) : h_WW Γ G pc lo (.int x :: st) I J := fun H locs ls a b c d => lv_if_lt K.1 K.2.1 hdg ht (fun q => kt q H locs ls a b c d) (fun q => kf q H locs ls a b c d)
theorem x_icmp_lt (K : h_C Γ G l nL cc Ts own fr lc) {x y : Int32} {off : Int} {tgt : Nat} (hdg : decode cc pc = .ok (.if_icmp .lt off, 3)) (ht : (pc : Int) + off = (tgt : Int)) (kt : x < y → h_WW Γ G tgt lo st I J) (kf : ¬ x < y → h_WW Γ G (pc + 3) lo st I J) : h_WW Γ G pc lo (.int y :: .int x :: st) I J := fun H locs ls a b c d => lv_icmp_lt K.1 K.2.1 hdg ht (fun q => kt q H locs ls a b c d) (fun q => kf q H locs ls a b c d)
theorem x_if_ge (K : h_C Γ G l nL cc Ts own fr lc) {x : Int32} {off : Int} {tgt : Nat} (hdg : decode cc pc = .ok (.ifCond .ge off, 3)) (ht : (pc : Int) + off = (tgt : Int)) (kt : 0 ≤ x → h_WW Γ G tgt lo st I J) (kf : ¬ 0 ≤ x → h_WW Γ G (pc + 3) lo st I J) : h_WW Γ G pc lo (.int x :: st) I J := fun H locs ls a b c d => lv_if_ge K.1 K.2.1 hdg ht (fun q => kt q H locs ls a b c d) (fun q => kf q H locs ls a b c d)
theorem x_icmp_ge (K : h_C Γ G l nL cc Ts own fr lc) {x y : Int32} {off : Int} {tgt : Nat} (hdg : decode cc pc = .ok (.if_icmp .ge off, 3)) (ht : (pc : Int) + off = (tgt : Int)) (kt : y ≤ x → h_WW Γ G tgt lo st I J) (kf : ¬ y ≤ x → h_WW Γ G (pc + 3) lo st I J) : h_WW Γ G pc lo (.int y :: .int x :: st) I J := fun H locs ls a b c d => lv_icmp_ge K.1 K.2.1 hdg ht (fun q => kt q H locs ls a b c d) (fun q => kf q H locs ls a b c d)
theorem x_if_gt (K : h_C Γ G l nL cc Ts own fr lc) {x : Int32} {off : Int} {tgt : Nat} (hdg : decode cc pc = .ok (.ifCond .gt off, 3)) (ht : (pc : Int) + off = (tgt : Int)) (kt : 0 < x → h_WW Γ G tgt lo st I J) (kf : ¬ 0 < x → h_WW Γ G (pc + 3) lo st I J) : h_WW Γ G pc lo (.int x :: st) I J := fun H locs ls a b c d => lv_if_gt K.1 K.2.1 hdg ht (fun q => kt q H locs ls a b c d) (fun q => kf q H locs ls a b c d)
theorem x_icmp_gt (K : h_C Γ G l nL cc Ts own fr lc) {x y : Int32} {off : Int} {tgt : Nat} (hdg : decode cc pc = .ok (.if_icmp .gt off, 3)) (ht : (pc : Int) + off = (tgt : Int)) (kt : y < x → h_WW Γ G tgt lo st I J) (kf : ¬ y < x → h_WW Γ G (pc + 3) lo st I J) : h_WW Γ G pc lo (.int y :: .int x :: st) I J := fun H locs ls a b c d => lv_icmp_gt K.1 K.2.1 hdg ht (fun q => kt q H locs ls a b c d) (fun q => kf q H locs ls a b c d)
theorem x_if_le (K : h_C Γ G l nL cc Ts own fr lc) {x : Int32} {off : Int} {tgt : Nat} (hdg : decode cc pc = .ok (.ifCond .le off, 3)) (ht : (pc : Int) + off = (tgt : Int)) (kt : x ≤ 0 → h_WW Γ G tgt lo st I J) (kf : ¬ x ≤ 0 → h_WW Γ G (pc + 3) lo st I J) : h_WW Γ G pc lo (.int x :: st) I J := fun H locs ls a b c d => lv_if_le K.1 K.2.1 hdg ht (fun q => kt q H locs ls a b c d) (fun q => kf q H locs ls a b c d)
theorem x_icmp_le (K : h_C Γ G l nL cc Ts own fr lc) {x y : Int32} {off : Int} {tgt : Nat} (hdg : decode cc pc = .ok (.if_icmp .le off, 3)) (ht : (pc : Int) + off = (tgt : Int)) (kt : x ≤ y → h_WW Γ G tgt lo st I J) (kf : ¬ x ≤ y → h_WW Γ G (pc + 3) lo st I J) : h_WW Γ G pc lo (.int y :: .int x :: st) I J := fun H locs ls a b c d => lv_icmp_le K.1 K.2.1 hdg ht (fun q => kt q H locs ls a b c d) (fun q => kf q H locs ls a b c d)
theorem x_goto (K : h_C Γ G l nL cc Ts own fr lc) {off : Int} {tgt : Nat} (hdg : decode cc pc = .ok (.goto off, 3)) (ht : (pc : Int) + off = (tgt : Int)) (k : h_WW Γ G tgt lo st I J) : h_WW Γ G pc lo st I J := fun H locs ls a b c d => lv_goto K.1 K.2.1 hdg ht (k H locs ls a b c d)
theorem x_tableIn (K : h_C Γ G l nL cc Ts own fr lc) {dflt lo1 hi : Int} {offs : Array Int} {len : Nat} {x : Int32} {off : Int} {tgt : Nat} (hdg : decode cc pc = .ok (.tableswitch dflt lo1 hi offs, len)) (h1 : ¬ x.toInt < lo1) (h2 : ¬ hi < x.toInt) (ho : offs[(x.toInt - lo1).toNat]? = some off) (ht : (pc : Int) + off = (tgt : Int)) (k : h_WW Γ G tgt lo st I J) : h_WW Γ G pc lo (.int x :: st) I J := fun H locs ls a b c d => lv_tableIn K.1 K.2.1 hdg h1 h2 ho ht (k H locs ls a b c d)
theorem x_tableOut (K : h_C Γ G l nL cc Ts own fr lc) {dflt lo1 hi : Int} {offs : Array Int} {len : Nat} {x : Int32} {tgt : Nat} (hdg : decode cc pc = .ok (.tableswitch dflt lo1 hi offs, len)) (h : x.toInt < lo1 ∨ hi < x.toInt) (ht : (pc : Int) + dflt = (tgt : Int)) (k : h_WW Γ G tgt lo st I J) : h_WW Γ G pc lo (.int x :: st) I J := fun H locs ls a b c d => lv_tableOut K.1 K.2.1 hdg h ht (k H locs ls a b c d)
theorem x_lookup (K : h_C Γ G l nL cc Ts own fr lc) {dflt : Int} {ps : Array (Int × Int)} {len : Nat} {x : Int32} {off : Int} {tgt : Nat} (hdg : decode cc pc = .ok (.lookupswitch dflt ps, len)) (hp : (ps.toList.zip (ps.toList.drop 1)).all (fun (a, next) => a.1 < next.1) = true) (ho : Op.lookupswitch.offset ps.toList dflt x.toInt = off) (ht : (pc : Int) + off = (tgt : Int)) (k : h_WW Γ G tgt lo st I J) : h_WW Γ G pc lo (.int x :: st) I J := fun H locs ls a b c d => lv_lookup K.1 K.2.1 hdg hp ho ht (k H locs ls a b c d)
theorem x_dup (K : h_C Γ G l nL cc Ts own fr lc) {v : Value} (hdg : decode cc pc = .ok (.dup, 1)) (hv : v.category = 1) (k : h_WW Γ G (pc + 1) lo (v :: v :: st) I J) : h_WW Γ G pc lo (v :: st) I J := fun H locs ls a b c d => lv_dup K.1 K.2.1 hdg hv (k H locs ls a b c d)
theorem x_dup2 (K : h_C Γ G l nL cc Ts own fr lc) {va vb : Value} (hdg : decode cc pc = .ok (.dup2, 1)) (ha : va.category = 1) (hb : vb.category = 1) (k : h_WW Γ G (pc + 1) lo (va :: vb :: va :: vb :: st) I J) : h_WW Γ G pc lo (va :: vb :: st) I J := fun H locs ls a b c d => lv_dup2_11 K.1 K.2.1 hdg ha hb (k H locs ls a b c d)
theorem x_geti (K : h_C Γ G l nL cc Ts own fr lc) {k0 j0 ci : Nat} {ks : List Nat} {C ref : String} {T : u_T} {N index : Nat} (hk : k0 < 91) (hs : h_sh k0 = .inl (ci, ks)) (hc : vwCl[ci]? = some (C, T, N)) (hin : ∀ w ∈ u_ws C T N, w ∈ Ts) (hjN : j0 < N) (hlink : Cond.fieldLink own index ref (T j0).2.1 (T j0).2.2.1 ∈ Ts) (href : (T j0).1 = ref) (hj : ks[j0]? = some 0) (hdg : decode cc pc = .ok (.getfield index, 3)) (kk : h_WW Γ G (pc + 3) lo (.int (I k0 j0) :: st) I J) : h_WW Γ G pc lo (rr G k0 :: st) I J := fun H locs ls a b c d => va_get (v := .int (I k0 j0)) K.1 K.2.1 K.2.2.2.2.1 hin K.2.2.2.1 K.2.2.2.2.2.1 a k0 (h_W_o hk hs) hc j0 hjN (K.2.2.2.2.1 _ hlink) (fun _ h9 => by rw [← href]; exact h9) (by rw [h_flds_at hj]; rfl) hdg (kk H locs ls a b c d)
theorem x_getl (K : h_C Γ G l nL cc Ts own fr lc) {k0 j0 ci : Nat} {ks : List Nat} {C ref : String} {T : u_T} {N index : Nat} (hk : k0 < 91) (hs : h_sh k0 = .inl (ci, ks)) (hc : vwCl[ci]? = some (C, T, N)) (hin : ∀ w ∈ u_ws C T N, w ∈ Ts) (hjN : j0 < N) (hlink : Cond.fieldLink own index ref (T j0).2.1 (T j0).2.2.1 ∈ Ts) (href : (T j0).1 = ref) (hj : ks[j0]? = some 1) (hdg : decode cc pc = .ok (.getfield index, 3)) (kk : h_WW Γ G (pc + 3) lo (.long (J k0 j0) :: st) I J) : h_WW Γ G pc lo (rr G k0 :: st) I J := fun H locs ls a b c d => va_get (v := .long (J k0 j0)) K.1 K.2.1 K.2.2.2.2.1 hin K.2.2.2.1 K.2.2.2.2.2.1 a k0 (h_W_o hk hs) hc j0 hjN (K.2.2.2.2.1 _ hlink) (fun _ h9 => by rw [← href]; exact h9) (by rw [h_flds_at hj]; rfl) hdg (kk H locs ls a b c d)
theorem x_getr (K : h_C Γ G l nL cc Ts own fr lc) {k0 j0 ci : Nat} {ks : List Nat} {C ref : String} {T : u_T} {N index : Nat} (hk : k0 < 91) (hs : h_sh k0 = .inl (ci, ks)) (hc : vwCl[ci]? = some (C, T, N)) (hin : ∀ w ∈ u_ws C T N, w ∈ Ts) (hjN : j0 < N) (hlink : Cond.fieldLink own index ref (T j0).2.1 (T j0).2.2.1 ∈ Ts) (href : (T j0).1 = ref) {r0 : Nat} (hj : ks[j0]? = some 2) (hr : h_rf k0 j0 = r0) (hdg : decode cc pc = .ok (.getfield index, 3)) (kk : h_WW Γ G (pc + 3) lo (rr G r0 :: st) I J) : h_WW Γ G pc lo (rr G k0 :: st) I J := fun H locs ls a b c d => va_get (v := rr G r0) K.1 K.2.1 K.2.2.2.2.1 hin K.2.2.2.1 K.2.2.2.2.2.1 a k0 (h_W_o hk hs) hc j0 hjN (K.2.2.2.2.1 _ hlink) (fun _ h9 => by rw [← href]; exact h9) (by rw [h_flds_at hj, ← hr]; rfl) hdg (kk H locs ls a b c d)
theorem x_puti (K : h_C Γ G l nL cc Ts own fr lc) {k0 j0 ci : Nat} {ks : List Nat} {C ref : String} {T : u_T} {N index : Nat} (hk : k0 < 91) (hs : h_sh k0 = .inl (ci, ks)) (hc : vwCl[ci]? = some (C, T, N)) (hin : ∀ w ∈ u_ws C T N, w ∈ Ts) (hjN : j0 < N) (hlink : Cond.fieldLink own index ref (T j0).2.1 (T j0).2.2.1 ∈ Ts) (href : (T j0).1 = ref) {v : Int32} {ty : FieldType} (ty0 : Nat → FieldType) (hty : ∀ k, k < N → parseFieldDescriptor (T k).2.2.1 = some (ty0 k)) (hnm : ∀ a, a < N → ∀ b, b < N → a ≠ b → (T a).2.1 ≠ (T b).2.1) (hfin : (T j0).2.2.2 = false) (hd : parseFieldDescriptor (T j0).2.2.1 = some ty) (hn : narrow ty (.int v) = .int v) (hfit : fits ty (.int v) = true) (hj : ks[j0]? = some 0) (hdg : decode cc pc = .ok (.putfield index, 3)) (kk : h_WW Γ G (pc + 3) lo st (h_up I k0 j0 v) J) : h_WW Γ G pc lo (.int v :: rr G k0 :: st) I J := fun H locs ls a b c d => va_put (v := .int v) (ty := ty) K.1 K.2.1 K.2.2.2.2.1 hin ty0 hty hnm K.2.2.2.1 K.2.2.2.2.2.1 a b c k0 (h_W_o hk hs) hc j0 hjN (K.2.2.2.2.1 _ hlink) (fun _ h9 => by rw [← href]; exact h9) hfin hd hn hfit (by rw [h_flds_len]; exact (List.getElem?_eq_some_iff.mp hj).1) hdg (fun H1 locs1 a1 b1 c1 => kk H1 locs1 ls (h_W_up_o hk hs hj ▸ a1) (h_W_up_o hk hs hj ▸ b1) c1 d)
theorem x_putl (K : h_C Γ G l nL cc Ts own fr lc) {k0 j0 ci : Nat} {ks : List Nat} {C ref : String} {T : u_T} {N index : Nat} (hk : k0 < 91) (hs : h_sh k0 = .inl (ci, ks)) (hc : vwCl[ci]? = some (C, T, N)) (hin : ∀ w ∈ u_ws C T N, w ∈ Ts) (hjN : j0 < N) (hlink : Cond.fieldLink own index ref (T j0).2.1 (T j0).2.2.1 ∈ Ts) (href : (T j0).1 = ref) {v : Int64} {ty : FieldType} (ty0 : Nat → FieldType) (hty : ∀ k, k < N → parseFieldDescriptor (T k).2.2.1 = some (ty0 k)) (hnm : ∀ a, a < N → ∀ b, b < N → a ≠ b → (T a).2.1 ≠ (T b).2.1) (hfin : (T j0).2.2.2 = false) (hd : parseFieldDescriptor (T j0).2.2.1 = some ty) (hn : narrow ty (.long v) = .long v) (hfit : fits ty (.long v) = true) (hj : ks[j0]? = some 1) (hdg : decode cc pc = .ok (.putfield index, 3)) (kk : h_WW Γ G (pc + 3) lo st I (h_upL J k0 j0 v)) : h_WW Γ G pc lo (.long v :: rr G k0 :: st) I J := fun H locs ls a b c d => va_put (v := .long v) (ty := ty) K.1 K.2.1 K.2.2.2.2.1 hin ty0 hty hnm K.2.2.2.1 K.2.2.2.2.2.1 a b c k0 (h_W_o hk hs) hc j0 hjN (K.2.2.2.2.1 _ hlink) (fun _ h9 => by rw [← href]; exact h9) hfin hd hn hfit (by rw [h_flds_len]; exact (List.getElem?_eq_some_iff.mp hj).1) hdg (fun H1 locs1 a1 b1 c1 => kk H1 locs1 ls (h_W_upL_o hk hs hj ▸ a1) (h_W_upL_o hk hs hj ▸ b1) c1 d)
theorem x_getiN (K : h_C Γ G l nL cc Ts own fr lc) {host : String} {k0 j0 ci : Nat} {ks : List Nat} {C ref : String} {T : u_T} {N index : Nat} (hk : k0 < 91) (hs : h_sh k0 = .inl (ci, ks)) (hc : vwCl[ci]? = some (C, T, N)) (hin : ∀ w ∈ u_ws C T N, w ∈ Ts) (hjN : j0 < N) (hlink : (own, index, ref, (T j0).2.1, (T j0).2.2.1, host) ∈ h_nF) (href : (T j0).1 = ref) (hj : ks[j0]? = some 0) (hdg : decode cc pc = .ok (.getfield index, 3)) (kk : h_WW Γ G (pc + 3) lo (.int (I k0 j0) :: st) I J) : h_WW Γ G pc lo (rr G k0 :: st) I J := fun H locs ls a b c d => va_getN (v := .int (I k0 j0)) K.1 K.2.1 K.2.2.2.2.1 hin K.2.2.2.1 K.2.2.2.2.2.1 a k0 (h_W_o hk hs) hc j0 hjN (va_Nw.use rfl (K.2.2.2.2.2.2.2.2.2.2.2.2.2.1 _ hlink)) (fun _ h9 => by rw [← href]; exact h9) (by rw [h_flds_at hj]; rfl) hdg (kk H locs ls a b c d)
theorem x_getlN (K : h_C Γ G l nL cc Ts own fr lc) {host : String} {k0 j0 ci : Nat} {ks : List Nat} {C ref : String} {T : u_T} {N index : Nat} (hk : k0 < 91) (hs : h_sh k0 = .inl (ci, ks)) (hc : vwCl[ci]? = some (C, T, N)) (hin : ∀ w ∈ u_ws C T N, w ∈ Ts) (hjN : j0 < N) (hlink : (own, index, ref, (T j0).2.1, (T j0).2.2.1, host) ∈ h_nF) (href : (T j0).1 = ref) (hj : ks[j0]? = some 1) (hdg : decode cc pc = .ok (.getfield index, 3)) (kk : h_WW Γ G (pc + 3) lo (.long (J k0 j0) :: st) I J) : h_WW Γ G pc lo (rr G k0 :: st) I J := fun H locs ls a b c d => va_getN (v := .long (J k0 j0)) K.1 K.2.1 K.2.2.2.2.1 hin K.2.2.2.1 K.2.2.2.2.2.1 a k0 (h_W_o hk hs) hc j0 hjN (va_Nw.use rfl (K.2.2.2.2.2.2.2.2.2.2.2.2.2.1 _ hlink)) (fun _ h9 => by rw [← href]; exact h9) (by rw [h_flds_at hj]; rfl) hdg (kk H locs ls a b c d)
theorem x_getrN (K : h_C Γ G l nL cc Ts own fr lc) {host : String} {k0 j0 ci : Nat} {ks : List Nat} {C ref : String} {T : u_T} {N index : Nat} (hk : k0 < 91) (hs : h_sh k0 = .inl (ci, ks)) (hc : vwCl[ci]? = some (C, T, N)) (hin : ∀ w ∈ u_ws C T N, w ∈ Ts) (hjN : j0 < N) (hlink : (own, index, ref, (T j0).2.1, (T j0).2.2.1, host) ∈ h_nF) (href : (T j0).1 = ref) {r0 : Nat} (hj : ks[j0]? = some 2) (hr : h_rf k0 j0 = r0) (hdg : decode cc pc = .ok (.getfield index, 3)) (kk : h_WW Γ G (pc + 3) lo (rr G r0 :: st) I J) : h_WW Γ G pc lo (rr G k0 :: st) I J := fun H locs ls a b c d => va_getN (v := rr G r0) K.1 K.2.1 K.2.2.2.2.1 hin K.2.2.2.1 K.2.2.2.2.2.1 a k0 (h_W_o hk hs) hc j0 hjN (va_Nw.use rfl (K.2.2.2.2.2.2.2.2.2.2.2.2.2.1 _ hlink)) (fun _ h9 => by rw [← href]; exact h9) (by rw [h_flds_at hj, ← hr]; rfl) hdg (kk H locs ls a b c d)
theorem x_putiN (K : h_C Γ G l nL cc Ts own fr lc) {host : String} {k0 j0 ci : Nat} {ks : List Nat} {C ref : String} {T : u_T} {N index : Nat} (hk : k0 < 91) (hs : h_sh k0 = .inl (ci, ks)) (hc : vwCl[ci]? = some (C, T, N)) (hin : ∀ w ∈ u_ws C T N, w ∈ Ts) (hjN : j0 < N) (hlink : (own, index, ref, (T j0).2.1, (T j0).2.2.1, host) ∈ h_nF) (href : (T j0).1 = ref) {v : Int32} {ty : FieldType} (ty0 : Nat → FieldType) (hty : ∀ k, k < N → parseFieldDescriptor (T k).2.2.1 = some (ty0 k)) (hnm : ∀ a, a < N → ∀ b, b < N → a ≠ b → (T a).2.1 ≠ (T b).2.1) (hfin : (T j0).2.2.2 = false) (hd : parseFieldDescriptor (T j0).2.2.1 = some ty) (hn : narrow ty (.int v) = .int v) (hfit : fits ty (.int v) = true) (hj : ks[j0]? = some 0) (hdg : decode cc pc = .ok (.putfield index, 3)) (kk : h_WW Γ G (pc + 3) lo st (h_up I k0 j0 v) J) : h_WW Γ G pc lo (.int v :: rr G k0 :: st) I J := fun H locs ls a b c d => va_putN (v := .int v) (ty := ty) K.1 K.2.1 K.2.2.2.2.1 hin ty0 hty hnm K.2.2.2.1 K.2.2.2.2.2.1 a b c k0 (h_W_o hk hs) hc j0 hjN (va_Nw.use rfl (K.2.2.2.2.2.2.2.2.2.2.2.2.2.1 _ hlink)) (fun _ h9 => by rw [← href]; exact h9) hfin hd hn hfit (by rw [h_flds_len]; exact (List.getElem?_eq_some_iff.mp hj).1) hdg (fun H1 locs1 a1 b1 c1 => kk H1 locs1 ls (h_W_up_o hk hs hj ▸ a1) (h_W_up_o hk hs hj ▸ b1) c1 d)
theorem x_putlN (K : h_C Γ G l nL cc Ts own fr lc) {host : String} {k0 j0 ci : Nat} {ks : List Nat} {C ref : String} {T : u_T} {N index : Nat} (hk : k0 < 91) (hs : h_sh k0 = .inl (ci, ks)) (hc : vwCl[ci]? = some (C, T, N)) (hin : ∀ w ∈ u_ws C T N, w ∈ Ts) (hjN : j0 < N) (hlink : (own, index, ref, (T j0).2.1, (T j0).2.2.1, host) ∈ h_nF) (href : (T j0).1 = ref) {v : Int64} {ty : FieldType} (ty0 : Nat → FieldType) (hty : ∀ k, k < N → parseFieldDescriptor (T k).2.2.1 = some (ty0 k)) (hnm : ∀ a, a < N → ∀ b, b < N → a ≠ b → (T a).2.1 ≠ (T b).2.1) (hfin : (T j0).2.2.2 = false) (hd : parseFieldDescriptor (T j0).2.2.1 = some ty) (hn : narrow ty (.long v) = .long v) (hfit : fits ty (.long v) = true) (hj : ks[j0]? = some 1) (hdg : decode cc pc = .ok (.putfield index, 3)) (kk : h_WW Γ G (pc + 3) lo st I (h_upL J k0 j0 v)) : h_WW Γ G pc lo (.long v :: rr G k0 :: st) I J := fun H locs ls a b c d => va_putN (v := .long v) (ty := ty) K.1 K.2.1 K.2.2.2.2.1 hin ty0 hty hnm K.2.2.2.1 K.2.2.2.2.2.1 a b c k0 (h_W_o hk hs) hc j0 hjN (va_Nw.use rfl (K.2.2.2.2.2.2.2.2.2.2.2.2.2.1 _ hlink)) (fun _ h9 => by rw [← href]; exact h9) hfin hd hn hfit (by rw [h_flds_len]; exact (List.getElem?_eq_some_iff.mp hj).1) hdg (fun H1 locs1 a1 b1 c1 => kk H1 locs1 ls (h_W_upL_o hk hs hj ▸ a1) (h_W_upL_o hk hs hj ▸ b1) c1 d)
theorem x_iald (K : h_C Γ G l nL cc Ts own fr lc) {k0 n : Nat} {i : Int32} (hk : k0 < 91) (hs : h_sh k0 = .inr (0, n)) (hin : vp_in i n) (hdg : decode cc pc = .ok (.iaload, 1)) (kk : h_WW Γ G (pc + 1) lo (.int (I k0 i.toNatClampNeg) :: st) I J) : h_WW Γ G pc lo (.int i :: rr G k0 :: st) I J := fun H locs ls a b c d => va_iald K.1 K.2.1 K.2.2.2.2.2.1 a k0 0 (h_W_i hk hs) rfl hin hdg (kk H locs ls a b c d)
theorem x_zald (K : h_C Γ G l nL cc Ts own fr lc) {k0 n : Nat} {i : Int32} (hk : k0 < 91) (hs : h_sh k0 = .inr (3, n)) (hin : vp_in i n) (hdg : decode cc pc = .ok (.baload, 1)) (kk : h_WW Γ G (pc + 1) lo (.int (I k0 i.toNatClampNeg) :: st) I J) : h_WW Γ G pc lo (.int i :: rr G k0 :: st) I J := fun H locs ls a b c d => va_zald K.1 K.2.1 K.2.2.2.2.2.1 a k0 3 (h_W_z hk hs) rfl hin hdg (kk H locs ls a b c d)
theorem x_lald (K : h_C Γ G l nL cc Ts own fr lc) {k0 n : Nat} {i : Int32} (hk : k0 < 91) (hs : h_sh k0 = .inr (1, n)) (hin : vp_in i n) (hdg : decode cc pc = .ok (.laload, 1)) (kk : h_WW Γ G (pc + 1) lo (.long (J k0 i.toNatClampNeg) :: st) I J) : h_WW Γ G pc lo (.int i :: rr G k0 :: st) I J := fun H locs ls a b c d => va_lald K.1 K.2.1 K.2.2.2.2.2.1 a k0 1 (h_W_l hk hs) rfl hin hdg (kk H locs ls a b c d)
theorem x_aald (K : h_C Γ G l nL cc Ts own fr lc) {k0 n r0 : Nat} {i : Int32} (hk : k0 < 91) (hs : h_sh k0 = .inr (2, n)) (hin : vp_in i n) (hr : h_rf k0 i.toNatClampNeg = r0) (hdg : decode cc pc = .ok (.aaload, 1)) (kk : h_WW Γ G (pc + 1) lo (rr G r0 :: st) I J) : h_WW Γ G pc lo (.int i :: rr G k0 :: st) I J := fun H locs ls a b c d => by
  have hlt : i.toNatClampNeg < n := Nat.not_le.mp fun q => hin (Or.inr q)
  exact W.aald (v := rr G r0) (ty := .array .int) K.1 K.2.1 (a k0 _ (h_W_q hk hs)) ((K.2.2.2.2.2.1.2 2 _ rfl).1 n (fun j => va_rf (some (G.2.2 (h_rf k0 j))))) rfl (fun q => by cases q) (by show ¬ (i < 0 ∨ (arrV _ _ _).slots.size ≤ _); rw [arrV_size]; exact hin) (by show (arrV _ _ _).slots[_]? = _; rw [arrV_read _ _ hlt, ← hr]; rfl) rfl rfl hdg (kk H locs ls a b c d)
theorem x_iast (K : h_C Γ G l nL cc Ts own fr lc) {k0 n : Nat} {i x : Int32} (hk : k0 < 91) (hs : h_sh k0 = .inr (0, n)) (hin : vp_in i n) (hdg : decode cc pc = .ok (.iastore, 1)) (kk : h_WW Γ G (pc + 1) lo st (h_up I k0 i.toNatClampNeg x) J) : h_WW Γ G pc lo (.int x :: .int i :: rr G k0 :: st) I J := fun H locs ls a b c d => va_iast K.1 K.2.1 K.2.2.2.2.2.1 a b c k0 0 (h_W_i hk hs) rfl hin hdg (fun H1 locs1 a1 b1 c1 => kk H1 locs1 ls (h_W_up_i hk hs ▸ a1) (h_W_up_i hk hs ▸ b1) c1 d)
theorem x_last (K : h_C Γ G l nL cc Ts own fr lc) {k0 n : Nat} {i : Int32} {x : Int64} (hk : k0 < 91) (hs : h_sh k0 = .inr (1, n)) (hin : vp_in i n) (hdg : decode cc pc = .ok (.lastore, 1)) (kk : h_WW Γ G (pc + 1) lo st I (h_upL J k0 i.toNatClampNeg x)) : h_WW Γ G pc lo (.long x :: .int i :: rr G k0 :: st) I J := fun H locs ls a b c d => va_last K.1 K.2.1 K.2.2.2.2.2.1 a b c k0 1 (h_W_l hk hs) rfl hin hdg (fun H1 locs1 a1 b1 c1 => kk H1 locs1 ls (h_W_up_l hk hs ▸ a1) (h_W_up_l hk hs ▸ b1) c1 d)
theorem x_alen (K : h_C Γ G l nL cc Ts own fr lc) {k0 κ n : Nat} {v : Int32} {ty : FieldType} (hk : k0 < 91) (hs : h_sh k0 = .inr (κ, n)) (hn : (h_arr G I J k0 κ n).1 = n) (hv : Int32.ofNat n = v) (ht : (h_ty G)[κ]? = some (G.2.1 κ, ty)) (hdg : decode cc pc = .ok (.arraylength, 1)) (kk : h_WW Γ G (pc + 1) lo (.int v :: st) I J) : h_WW Γ G pc lo (rr G k0 :: st) I J := fun H locs ls a b c d => va_alen K.1 K.2.1 K.2.2.2.2.2.1 a k0 κ (h_W_a hk hs) ht (by rw [hn]; exact hv) hdg (kk H locs ls a b c d)
end HL
