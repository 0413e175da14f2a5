/-! what holds at the law's start -/
theorem a2 {P : Nat → Prop} (h0 : P 0) (h1 : P 1) : ∀ i, i < 2 → P i := by
  intro i hi
  rcases (show i = 0 ∨ i = 1 by omega) with rfl | rfl <;> assumption
theorem a4 {P : Nat → Prop} (h0 : P 0) (h1 : P 1) (h2 : P 2) (h3 : P 3) : ∀ i, i < 4 → P i := by
  intro i hi
  rcases (show i = 0 ∨ i = 1 ∨ i = 2 ∨ i = 3 by omega) with rfl | rfl | rfl | rfl <;> assumption
theorem a5 {P : Nat → Prop} (h0 : P 0) (h1 : P 1) (h2 : P 2) (h3 : P 3) (h4 : P 4) : ∀ i, i < 5 → P i := by
  intro i hi
  rcases (show i = 0 ∨ i = 1 ∨ i = 2 ∨ i = 3 ∨ i = 4 by omega) with rfl | rfl | rfl | rfl | rfl <;> assumption
theorem a7 {P : Nat → Prop} (h0 : P 0) (h1 : P 1) (h2 : P 2) (h3 : P 3) (h4 : P 4) (h5 : P 5) (h6 : P 6) : ∀ i, i < 7 → P i := by
  intro i hi
  rcases (show i = 0 ∨ i = 1 ∨ i = 2 ∨ i = 3 ∨ i = 4 ∨ i = 5 ∨ i = 6 by omega) with rfl | rfl | rfl | rfl | rfl | rfl | rfl <;> assumption
def tmS (i : Nat) : Term := .string RX3 ([68, 74, 76, 78, 80, 82, 84].getD i 0)
theorem ar_of {ty : FieldType} {args : Array Value} {s : State} (h : (Cond.arrayClass ty).before args s = true) : ∃ cA : ClassId, ArrOfT s cA ty ∧ s.vm.findClass ("[" ++ ty.toString) = some cA := by
  obtain ⟨cA, kA, comp, hfind, hk, hkind⟩ := Cond.arrayClass_spec h
  exact ⟨cA, fun n z => ⟨fun k h => (by cases h), kA, hk, comp, hkind⟩, hfind⟩
theorem ff_5 : (Jvm.Cond.arrayOf (Jvm.Term.static "DredgePond$LawBook" "USUAL" "[I") Jvm.ClassFile.FieldType.int) ∈ flatC (Jvm.Cond.and given_1 narrow_1) := List.mem_of_getElem? (i := 5) rfl
theorem ff_6 : (Jvm.Cond.eq (Jvm.Term.length (Jvm.Term.static "DredgePond$LawBook" "USUAL" "[I")) (Jvm.Term.int (7 : Int32))) ∈ flatC (Jvm.Cond.and given_1 narrow_1) := List.mem_of_getElem? (i := 6) rfl
theorem ff_7 : (Jvm.Cond.eq (Jvm.Term.elem (Jvm.Term.static "DredgePond$LawBook" "USUAL" "[I") (Jvm.Term.int (0 : Int32))) (Jvm.Term.int (50 : Int32))) ∈ flatC (Jvm.Cond.and given_1 narrow_1) := List.mem_of_getElem? (i := 7) rfl
theorem ff_8 : (Jvm.Cond.eq (Jvm.Term.elem (Jvm.Term.static "DredgePond$LawBook" "USUAL" "[I") (Jvm.Term.int (1 : Int32))) (Jvm.Term.int (200 : Int32))) ∈ flatC (Jvm.Cond.and given_1 narrow_1) := List.mem_of_getElem? (i := 8) rfl
theorem ff_9 : (Jvm.Cond.eq (Jvm.Term.elem (Jvm.Term.static "DredgePond$LawBook" "USUAL" "[I") (Jvm.Term.int (2 : Int32))) (Jvm.Term.int (9 : Int32))) ∈ flatC (Jvm.Cond.and given_1 narrow_1) := List.mem_of_getElem? (i := 9) rfl
theorem ff_10 : (Jvm.Cond.eq (Jvm.Term.elem (Jvm.Term.static "DredgePond$LawBook" "USUAL" "[I") (Jvm.Term.int (3 : Int32))) (Jvm.Term.int (100 : Int32))) ∈ flatC (Jvm.Cond.and given_1 narrow_1) := List.mem_of_getElem? (i := 10) rfl
theorem ff_11 : (Jvm.Cond.eq (Jvm.Term.elem (Jvm.Term.static "DredgePond$LawBook" "USUAL" "[I") (Jvm.Term.int (4 : Int32))) (Jvm.Term.int (30 : Int32))) ∈ flatC (Jvm.Cond.and given_1 narrow_1) := List.mem_of_getElem? (i := 11) rfl
theorem ff_12 : (Jvm.Cond.eq (Jvm.Term.elem (Jvm.Term.static "DredgePond$LawBook" "USUAL" "[I") (Jvm.Term.int (5 : Int32))) (Jvm.Term.int (50 : Int32))) ∈ flatC (Jvm.Cond.and given_1 narrow_1) := List.mem_of_getElem? (i := 12) rfl
theorem ff_13 : (Jvm.Cond.eq (Jvm.Term.elem (Jvm.Term.static "DredgePond$LawBook" "USUAL" "[I") (Jvm.Term.int (6 : Int32))) (Jvm.Term.int (10 : Int32))) ∈ flatC (Jvm.Cond.and given_1 narrow_1) := List.mem_of_getElem? (i := 13) rfl
theorem ff_14 : (Jvm.Cond.eq (Jvm.Term.static "java/lang/String" "COMPACT_STRINGS" "Z") (Jvm.Term.int (1 : Int32))) ∈ flatC (Jvm.Cond.and given_1 narrow_1) := List.mem_of_getElem? (i := 14) rfl
theorem ff_15 : (Jvm.Cond.isRef (Jvm.Term.static "jdk/internal/util/Preconditions" "SIOOBE_FORMATTER" "Ljava/util/function/BiFunction;")) ∈ flatC (Jvm.Cond.and given_1 narrow_1) := List.mem_of_getElem? (i := 15) rfl
theorem ff_16 : (Jvm.Cond.eq (Jvm.Term.static "java/lang/StringUTF16" "$assertionsDisabled" "Z") (Jvm.Term.int (1 : Int32))) ∈ flatC (Jvm.Cond.and given_1 narrow_1) := List.mem_of_getElem? (i := 16) rfl
theorem ff_17 : (Jvm.Cond.eq (Jvm.Term.static "java/lang/StringUTF16" "HI_BYTE_SHIFT" "I") (Jvm.Term.int (0 : Int32))) ∈ flatC (Jvm.Cond.and given_1 narrow_1) := List.mem_of_getElem? (i := 17) rfl
theorem ff_18 : (Jvm.Cond.eq (Jvm.Term.static "java/lang/StringUTF16" "LO_BYTE_SHIFT" "I") (Jvm.Term.int (8 : Int32))) ∈ flatC (Jvm.Cond.and given_1 narrow_1) := List.mem_of_getElem? (i := 18) rfl
theorem ff_19 : (Jvm.Cond.exactly (Jvm.Term.string "DredgePond$LawReader" (74 : Nat)) "java/lang/String") ∈ flatC (Jvm.Cond.and given_1 narrow_1) := List.mem_of_getElem? (i := 19) rfl
theorem ff_20 : (Jvm.Cond.eq (Jvm.Term.field (Jvm.Term.string "DredgePond$LawReader" (74 : Nat)) "java/lang/String" "coder" "B") (Jvm.Term.int (0 : Int32))) ∈ flatC (Jvm.Cond.and given_1 narrow_1) := List.mem_of_getElem? (i := 20) rfl
theorem ff_21 : (Jvm.Cond.arrayOf (Jvm.Term.field (Jvm.Term.string "DredgePond$LawReader" (74 : Nat)) "java/lang/String" "value" "[B") Jvm.ClassFile.FieldType.byte) ∈ flatC (Jvm.Cond.and given_1 narrow_1) := List.mem_of_getElem? (i := 21) rfl
theorem ff_22 : (Jvm.Cond.eq (Jvm.Term.length (Jvm.Term.field (Jvm.Term.string "DredgePond$LawReader" (74 : Nat)) "java/lang/String" "value" "[B")) (Jvm.Term.int (5 : Int32))) ∈ flatC (Jvm.Cond.and given_1 narrow_1) := List.mem_of_getElem? (i := 22) rfl
theorem ff_23 : (Jvm.Cond.eq (Jvm.Term.elem (Jvm.Term.field (Jvm.Term.string "DredgePond$LawReader" (74 : Nat)) "java/lang/String" "value" "[B") (Jvm.Term.int (0 : Int32))) (Jvm.Term.int (108 : Int32))) ∈ flatC (Jvm.Cond.and given_1 narrow_1) := List.mem_of_getElem? (i := 23) rfl
theorem ff_24 : (Jvm.Cond.eq (Jvm.Term.elem (Jvm.Term.field (Jvm.Term.string "DredgePond$LawReader" (74 : Nat)) "java/lang/String" "value" "[B") (Jvm.Term.int (1 : Int32))) (Jvm.Term.int (101 : Int32))) ∈ flatC (Jvm.Cond.and given_1 narrow_1) := List.mem_of_getElem? (i := 24) rfl
theorem ff_25 : (Jvm.Cond.eq (Jvm.Term.elem (Jvm.Term.field (Jvm.Term.string "DredgePond$LawReader" (74 : Nat)) "java/lang/String" "value" "[B") (Jvm.Term.int (2 : Int32))) (Jvm.Term.int (118 : Int32))) ∈ flatC (Jvm.Cond.and given_1 narrow_1) := List.mem_of_getElem? (i := 25) rfl
theorem ff_26 : (Jvm.Cond.eq (Jvm.Term.elem (Jvm.Term.field (Jvm.Term.string "DredgePond$LawReader" (74 : Nat)) "java/lang/String" "value" "[B") (Jvm.Term.int (3 : Int32))) (Jvm.Term.int (101 : Int32))) ∈ flatC (Jvm.Cond.and given_1 narrow_1) := List.mem_of_getElem? (i := 26) rfl
theorem ff_27 : (Jvm.Cond.eq (Jvm.Term.elem (Jvm.Term.field (Jvm.Term.string "DredgePond$LawReader" (74 : Nat)) "java/lang/String" "value" "[B") (Jvm.Term.int (4 : Int32))) (Jvm.Term.int (108 : Int32))) ∈ flatC (Jvm.Cond.and given_1 narrow_1) := List.mem_of_getElem? (i := 27) rfl
theorem ff_28 : (Jvm.Cond.exactly (Jvm.Term.string "DredgePond$LawReader" (76 : Nat)) "java/lang/String") ∈ flatC (Jvm.Cond.and given_1 narrow_1) := List.mem_of_getElem? (i := 28) rfl
theorem ff_29 : (Jvm.Cond.eq (Jvm.Term.field (Jvm.Term.string "DredgePond$LawReader" (76 : Nat)) "java/lang/String" "coder" "B") (Jvm.Term.int (0 : Int32))) ∈ flatC (Jvm.Cond.and given_1 narrow_1) := List.mem_of_getElem? (i := 29) rfl
theorem ff_30 : (Jvm.Cond.arrayOf (Jvm.Term.field (Jvm.Term.string "DredgePond$LawReader" (76 : Nat)) "java/lang/String" "value" "[B") Jvm.ClassFile.FieldType.byte) ∈ flatC (Jvm.Cond.and given_1 narrow_1) := List.mem_of_getElem? (i := 30) rfl
theorem ff_31 : (Jvm.Cond.eq (Jvm.Term.length (Jvm.Term.field (Jvm.Term.string "DredgePond$LawReader" (76 : Nat)) "java/lang/String" "value" "[B")) (Jvm.Term.int (4 : Int32))) ∈ flatC (Jvm.Cond.and given_1 narrow_1) := List.mem_of_getElem? (i := 31) rfl
theorem ff_32 : (Jvm.Cond.eq (Jvm.Term.elem (Jvm.Term.field (Jvm.Term.string "DredgePond$LawReader" (76 : Nat)) "java/lang/String" "value" "[B") (Jvm.Term.int (0 : Int32))) (Jvm.Term.int (98 : Int32))) ∈ flatC (Jvm.Cond.and given_1 narrow_1) := List.mem_of_getElem? (i := 32) rfl
theorem ff_33 : (Jvm.Cond.eq (Jvm.Term.elem (Jvm.Term.field (Jvm.Term.string "DredgePond$LawReader" (76 : Nat)) "java/lang/String" "value" "[B") (Jvm.Term.int (1 : Int32))) (Jvm.Term.int (97 : Int32))) ∈ flatC (Jvm.Cond.and given_1 narrow_1) := List.mem_of_getElem? (i := 33) rfl
theorem ff_34 : (Jvm.Cond.eq (Jvm.Term.elem (Jvm.Term.field (Jvm.Term.string "DredgePond$LawReader" (76 : Nat)) "java/lang/String" "value" "[B") (Jvm.Term.int (2 : Int32))) (Jvm.Term.int (110 : Int32))) ∈ flatC (Jvm.Cond.and given_1 narrow_1) := List.mem_of_getElem? (i := 34) rfl
theorem ff_35 : (Jvm.Cond.eq (Jvm.Term.elem (Jvm.Term.field (Jvm.Term.string "DredgePond$LawReader" (76 : Nat)) "java/lang/String" "value" "[B") (Jvm.Term.int (3 : Int32))) (Jvm.Term.int (107 : Int32))) ∈ flatC (Jvm.Cond.and given_1 narrow_1) := List.mem_of_getElem? (i := 35) rfl
theorem ff_36 : (Jvm.Cond.not (Jvm.Cond.eq (Jvm.Term.string "DredgePond$LawReader" (74 : Nat)) (Jvm.Term.string "DredgePond$LawReader" (76 : Nat)))) ∈ flatC (Jvm.Cond.and given_1 narrow_1) := List.mem_of_getElem? (i := 36) rfl
theorem ff_37 : (Jvm.Cond.exactly (Jvm.Term.string "DredgePond$LawReader" (78 : Nat)) "java/lang/String") ∈ flatC (Jvm.Cond.and given_1 narrow_1) := List.mem_of_getElem? (i := 37) rfl
theorem ff_38 : (Jvm.Cond.eq (Jvm.Term.field (Jvm.Term.string "DredgePond$LawReader" (78 : Nat)) "java/lang/String" "coder" "B") (Jvm.Term.int (0 : Int32))) ∈ flatC (Jvm.Cond.and given_1 narrow_1) := List.mem_of_getElem? (i := 38) rfl
theorem ff_39 : (Jvm.Cond.arrayOf (Jvm.Term.field (Jvm.Term.string "DredgePond$LawReader" (78 : Nat)) "java/lang/String" "value" "[B") Jvm.ClassFile.FieldType.byte) ∈ flatC (Jvm.Cond.and given_1 narrow_1) := List.mem_of_getElem? (i := 39) rfl
theorem ff_40 : (Jvm.Cond.eq (Jvm.Term.length (Jvm.Term.field (Jvm.Term.string "DredgePond$LawReader" (78 : Nat)) "java/lang/String" "value" "[B")) (Jvm.Term.int (5 : Int32))) ∈ flatC (Jvm.Cond.and given_1 narrow_1) := List.mem_of_getElem? (i := 40) rfl
theorem ff_41 : (Jvm.Cond.eq (Jvm.Term.elem (Jvm.Term.field (Jvm.Term.string "DredgePond$LawReader" (78 : Nat)) "java/lang/String" "value" "[B") (Jvm.Term.int (0 : Int32))) (Jvm.Term.int (99 : Int32))) ∈ flatC (Jvm.Cond.and given_1 narrow_1) := List.mem_of_getElem? (i := 41) rfl
theorem ff_42 : (Jvm.Cond.eq (Jvm.Term.elem (Jvm.Term.field (Jvm.Term.string "DredgePond$LawReader" (78 : Nat)) "java/lang/String" "value" "[B") (Jvm.Term.int (1 : Int32))) (Jvm.Term.int (108 : Int32))) ∈ flatC (Jvm.Cond.and given_1 narrow_1) := List.mem_of_getElem? (i := 42) rfl
theorem ff_43 : (Jvm.Cond.eq (Jvm.Term.elem (Jvm.Term.field (Jvm.Term.string "DredgePond$LawReader" (78 : Nat)) "java/lang/String" "value" "[B") (Jvm.Term.int (2 : Int32))) (Jvm.Term.int (101 : Int32))) ∈ flatC (Jvm.Cond.and given_1 narrow_1) := List.mem_of_getElem? (i := 43) rfl
theorem ff_44 : (Jvm.Cond.eq (Jvm.Term.elem (Jvm.Term.field (Jvm.Term.string "DredgePond$LawReader" (78 : Nat)) "java/lang/String" "value" "[B") (Jvm.Term.int (3 : Int32))) (Jvm.Term.int (97 : Int32))) ∈ flatC (Jvm.Cond.and given_1 narrow_1) := List.mem_of_getElem? (i := 44) rfl
theorem ff_45 : (Jvm.Cond.eq (Jvm.Term.elem (Jvm.Term.field (Jvm.Term.string "DredgePond$LawReader" (78 : Nat)) "java/lang/String" "value" "[B") (Jvm.Term.int (4 : Int32))) (Jvm.Term.int (114 : Int32))) ∈ flatC (Jvm.Cond.and given_1 narrow_1) := List.mem_of_getElem? (i := 45) rfl
theorem ff_46 : (Jvm.Cond.not (Jvm.Cond.eq (Jvm.Term.string "DredgePond$LawReader" (74 : Nat)) (Jvm.Term.string "DredgePond$LawReader" (78 : Nat)))) ∈ flatC (Jvm.Cond.and given_1 narrow_1) := List.mem_of_getElem? (i := 46) rfl
theorem ff_47 : (Jvm.Cond.not (Jvm.Cond.eq (Jvm.Term.string "DredgePond$LawReader" (76 : Nat)) (Jvm.Term.string "DredgePond$LawReader" (78 : Nat)))) ∈ flatC (Jvm.Cond.and given_1 narrow_1) := List.mem_of_getElem? (i := 47) rfl
theorem ff_48 : (Jvm.Cond.exactly (Jvm.Term.string "DredgePond$LawReader" (80 : Nat)) "java/lang/String") ∈ flatC (Jvm.Cond.and given_1 narrow_1) := List.mem_of_getElem? (i := 48) rfl
theorem ff_49 : (Jvm.Cond.eq (Jvm.Term.field (Jvm.Term.string "DredgePond$LawReader" (80 : Nat)) "java/lang/String" "coder" "B") (Jvm.Term.int (0 : Int32))) ∈ flatC (Jvm.Cond.and given_1 narrow_1) := List.mem_of_getElem? (i := 49) rfl
theorem ff_50 : (Jvm.Cond.arrayOf (Jvm.Term.field (Jvm.Term.string "DredgePond$LawReader" (80 : Nat)) "java/lang/String" "value" "[B") Jvm.ClassFile.FieldType.byte) ∈ flatC (Jvm.Cond.and given_1 narrow_1) := List.mem_of_getElem? (i := 50) rfl
theorem ff_51 : (Jvm.Cond.eq (Jvm.Term.length (Jvm.Term.field (Jvm.Term.string "DredgePond$LawReader" (80 : Nat)) "java/lang/String" "value" "[B")) (Jvm.Term.int (4 : Int32))) ∈ flatC (Jvm.Cond.and given_1 narrow_1) := List.mem_of_getElem? (i := 51) rfl
theorem ff_52 : (Jvm.Cond.eq (Jvm.Term.elem (Jvm.Term.field (Jvm.Term.string "DredgePond$LawReader" (80 : Nat)) "java/lang/String" "value" "[B") (Jvm.Term.int (0 : Int32))) (Jvm.Term.int (98 : Int32))) ∈ flatC (Jvm.Cond.and given_1 narrow_1) := List.mem_of_getElem? (i := 52) rfl
theorem ff_53 : (Jvm.Cond.eq (Jvm.Term.elem (Jvm.Term.field (Jvm.Term.string "DredgePond$LawReader" (80 : Nat)) "java/lang/String" "value" "[B") (Jvm.Term.int (1 : Int32))) (Jvm.Term.int (97 : Int32))) ∈ flatC (Jvm.Cond.and given_1 narrow_1) := List.mem_of_getElem? (i := 53) rfl
theorem ff_54 : (Jvm.Cond.eq (Jvm.Term.elem (Jvm.Term.field (Jvm.Term.string "DredgePond$LawReader" (80 : Nat)) "java/lang/String" "value" "[B") (Jvm.Term.int (2 : Int32))) (Jvm.Term.int (99 : Int32))) ∈ flatC (Jvm.Cond.and given_1 narrow_1) := List.mem_of_getElem? (i := 54) rfl
theorem ff_55 : (Jvm.Cond.eq (Jvm.Term.elem (Jvm.Term.field (Jvm.Term.string "DredgePond$LawReader" (80 : Nat)) "java/lang/String" "value" "[B") (Jvm.Term.int (3 : Int32))) (Jvm.Term.int (107 : Int32))) ∈ flatC (Jvm.Cond.and given_1 narrow_1) := List.mem_of_getElem? (i := 55) rfl
theorem ff_56 : (Jvm.Cond.not (Jvm.Cond.eq (Jvm.Term.string "DredgePond$LawReader" (74 : Nat)) (Jvm.Term.string "DredgePond$LawReader" (80 : Nat)))) ∈ flatC (Jvm.Cond.and given_1 narrow_1) := List.mem_of_getElem? (i := 56) rfl
theorem ff_57 : (Jvm.Cond.not (Jvm.Cond.eq (Jvm.Term.string "DredgePond$LawReader" (76 : Nat)) (Jvm.Term.string "DredgePond$LawReader" (80 : Nat)))) ∈ flatC (Jvm.Cond.and given_1 narrow_1) := List.mem_of_getElem? (i := 57) rfl
theorem ff_58 : (Jvm.Cond.not (Jvm.Cond.eq (Jvm.Term.string "DredgePond$LawReader" (78 : Nat)) (Jvm.Term.string "DredgePond$LawReader" (80 : Nat)))) ∈ flatC (Jvm.Cond.and given_1 narrow_1) := List.mem_of_getElem? (i := 58) rfl
theorem ff_59 : (Jvm.Cond.exactly (Jvm.Term.string "DredgePond$LawReader" (82 : Nat)) "java/lang/String") ∈ flatC (Jvm.Cond.and given_1 narrow_1) := List.mem_of_getElem? (i := 59) rfl
theorem ff_60 : (Jvm.Cond.eq (Jvm.Term.field (Jvm.Term.string "DredgePond$LawReader" (82 : Nat)) "java/lang/String" "coder" "B") (Jvm.Term.int (0 : Int32))) ∈ flatC (Jvm.Cond.and given_1 narrow_1) := List.mem_of_getElem? (i := 60) rfl
theorem ff_61 : (Jvm.Cond.arrayOf (Jvm.Term.field (Jvm.Term.string "DredgePond$LawReader" (82 : Nat)) "java/lang/String" "value" "[B") Jvm.ClassFile.FieldType.byte) ∈ flatC (Jvm.Cond.and given_1 narrow_1) := List.mem_of_getElem? (i := 61) rfl
theorem ff_62 : (Jvm.Cond.eq (Jvm.Term.length (Jvm.Term.field (Jvm.Term.string "DredgePond$LawReader" (82 : Nat)) "java/lang/String" "value" "[B")) (Jvm.Term.int (7 : Int32))) ∈ flatC (Jvm.Cond.and given_1 narrow_1) := List.mem_of_getElem? (i := 62) rfl
theorem ff_63 : (Jvm.Cond.eq (Jvm.Term.elem (Jvm.Term.field (Jvm.Term.string "DredgePond$LawReader" (82 : Nat)) "java/lang/String" "value" "[B") (Jvm.Term.int (0 : Int32))) (Jvm.Term.int (114 : Int32))) ∈ flatC (Jvm.Cond.and given_1 narrow_1) := List.mem_of_getElem? (i := 63) rfl
theorem ff_64 : (Jvm.Cond.eq (Jvm.Term.elem (Jvm.Term.field (Jvm.Term.string "DredgePond$LawReader" (82 : Nat)) "java/lang/String" "value" "[B") (Jvm.Term.int (1 : Int32))) (Jvm.Term.int (111 : Int32))) ∈ flatC (Jvm.Cond.and given_1 narrow_1) := List.mem_of_getElem? (i := 64) rfl
theorem ff_65 : (Jvm.Cond.eq (Jvm.Term.elem (Jvm.Term.field (Jvm.Term.string "DredgePond$LawReader" (82 : Nat)) "java/lang/String" "value" "[B") (Jvm.Term.int (2 : Int32))) (Jvm.Term.int (121 : Int32))) ∈ flatC (Jvm.Cond.and given_1 narrow_1) := List.mem_of_getElem? (i := 65) rfl
theorem ff_66 : (Jvm.Cond.eq (Jvm.Term.elem (Jvm.Term.field (Jvm.Term.string "DredgePond$LawReader" (82 : Nat)) "java/lang/String" "value" "[B") (Jvm.Term.int (3 : Int32))) (Jvm.Term.int (97 : Int32))) ∈ flatC (Jvm.Cond.and given_1 narrow_1) := List.mem_of_getElem? (i := 66) rfl
theorem ff_67 : (Jvm.Cond.eq (Jvm.Term.elem (Jvm.Term.field (Jvm.Term.string "DredgePond$LawReader" (82 : Nat)) "java/lang/String" "value" "[B") (Jvm.Term.int (4 : Int32))) (Jvm.Term.int (108 : Int32))) ∈ flatC (Jvm.Cond.and given_1 narrow_1) := List.mem_of_getElem? (i := 67) rfl
theorem ff_68 : (Jvm.Cond.eq (Jvm.Term.elem (Jvm.Term.field (Jvm.Term.string "DredgePond$LawReader" (82 : Nat)) "java/lang/String" "value" "[B") (Jvm.Term.int (5 : Int32))) (Jvm.Term.int (116 : Int32))) ∈ flatC (Jvm.Cond.and given_1 narrow_1) := List.mem_of_getElem? (i := 68) rfl
theorem ff_69 : (Jvm.Cond.eq (Jvm.Term.elem (Jvm.Term.field (Jvm.Term.string "DredgePond$LawReader" (82 : Nat)) "java/lang/String" "value" "[B") (Jvm.Term.int (6 : Int32))) (Jvm.Term.int (121 : Int32))) ∈ flatC (Jvm.Cond.and given_1 narrow_1) := List.mem_of_getElem? (i := 69) rfl
theorem ff_70 : (Jvm.Cond.not (Jvm.Cond.eq (Jvm.Term.string "DredgePond$LawReader" (74 : Nat)) (Jvm.Term.string "DredgePond$LawReader" (82 : Nat)))) ∈ flatC (Jvm.Cond.and given_1 narrow_1) := List.mem_of_getElem? (i := 70) rfl
theorem ff_71 : (Jvm.Cond.not (Jvm.Cond.eq (Jvm.Term.string "DredgePond$LawReader" (76 : Nat)) (Jvm.Term.string "DredgePond$LawReader" (82 : Nat)))) ∈ flatC (Jvm.Cond.and given_1 narrow_1) := List.mem_of_getElem? (i := 71) rfl
theorem ff_72 : (Jvm.Cond.not (Jvm.Cond.eq (Jvm.Term.string "DredgePond$LawReader" (78 : Nat)) (Jvm.Term.string "DredgePond$LawReader" (82 : Nat)))) ∈ flatC (Jvm.Cond.and given_1 narrow_1) := List.mem_of_getElem? (i := 72) rfl
theorem ff_73 : (Jvm.Cond.not (Jvm.Cond.eq (Jvm.Term.string "DredgePond$LawReader" (80 : Nat)) (Jvm.Term.string "DredgePond$LawReader" (82 : Nat)))) ∈ flatC (Jvm.Cond.and given_1 narrow_1) := List.mem_of_getElem? (i := 73) rfl
theorem ff_74 : (Jvm.Cond.exactly (Jvm.Term.string "DredgePond$LawReader" (84 : Nat)) "java/lang/String") ∈ flatC (Jvm.Cond.and given_1 narrow_1) := List.mem_of_getElem? (i := 74) rfl
theorem ff_75 : (Jvm.Cond.eq (Jvm.Term.field (Jvm.Term.string "DredgePond$LawReader" (84 : Nat)) "java/lang/String" "coder" "B") (Jvm.Term.int (0 : Int32))) ∈ flatC (Jvm.Cond.and given_1 narrow_1) := List.mem_of_getElem? (i := 75) rfl
theorem ff_76 : (Jvm.Cond.arrayOf (Jvm.Term.field (Jvm.Term.string "DredgePond$LawReader" (84 : Nat)) "java/lang/String" "value" "[B") Jvm.ClassFile.FieldType.byte) ∈ flatC (Jvm.Cond.and given_1 narrow_1) := List.mem_of_getElem? (i := 76) rfl
theorem ff_77 : (Jvm.Cond.eq (Jvm.Term.length (Jvm.Term.field (Jvm.Term.string "DredgePond$LawReader" (84 : Nat)) "java/lang/String" "value" "[B")) (Jvm.Term.int (4 : Int32))) ∈ flatC (Jvm.Cond.and given_1 narrow_1) := List.mem_of_getElem? (i := 77) rfl
theorem ff_78 : (Jvm.Cond.eq (Jvm.Term.elem (Jvm.Term.field (Jvm.Term.string "DredgePond$LawReader" (84 : Nat)) "java/lang/String" "value" "[B") (Jvm.Term.int (0 : Int32))) (Jvm.Term.int (102 : Int32))) ∈ flatC (Jvm.Cond.and given_1 narrow_1) := List.mem_of_getElem? (i := 78) rfl
theorem ff_79 : (Jvm.Cond.eq (Jvm.Term.elem (Jvm.Term.field (Jvm.Term.string "DredgePond$LawReader" (84 : Nat)) "java/lang/String" "value" "[B") (Jvm.Term.int (1 : Int32))) (Jvm.Term.int (105 : Int32))) ∈ flatC (Jvm.Cond.and given_1 narrow_1) := List.mem_of_getElem? (i := 79) rfl
theorem ff_80 : (Jvm.Cond.eq (Jvm.Term.elem (Jvm.Term.field (Jvm.Term.string "DredgePond$LawReader" (84 : Nat)) "java/lang/String" "value" "[B") (Jvm.Term.int (2 : Int32))) (Jvm.Term.int (110 : Int32))) ∈ flatC (Jvm.Cond.and given_1 narrow_1) := List.mem_of_getElem? (i := 80) rfl
theorem ff_81 : (Jvm.Cond.eq (Jvm.Term.elem (Jvm.Term.field (Jvm.Term.string "DredgePond$LawReader" (84 : Nat)) "java/lang/String" "value" "[B") (Jvm.Term.int (3 : Int32))) (Jvm.Term.int (101 : Int32))) ∈ flatC (Jvm.Cond.and given_1 narrow_1) := List.mem_of_getElem? (i := 81) rfl
theorem ff_82 : (Jvm.Cond.not (Jvm.Cond.eq (Jvm.Term.string "DredgePond$LawReader" (74 : Nat)) (Jvm.Term.string "DredgePond$LawReader" (84 : Nat)))) ∈ flatC (Jvm.Cond.and given_1 narrow_1) := List.mem_of_getElem? (i := 82) rfl
theorem ff_83 : (Jvm.Cond.not (Jvm.Cond.eq (Jvm.Term.string "DredgePond$LawReader" (76 : Nat)) (Jvm.Term.string "DredgePond$LawReader" (84 : Nat)))) ∈ flatC (Jvm.Cond.and given_1 narrow_1) := List.mem_of_getElem? (i := 83) rfl
theorem ff_84 : (Jvm.Cond.not (Jvm.Cond.eq (Jvm.Term.string "DredgePond$LawReader" (78 : Nat)) (Jvm.Term.string "DredgePond$LawReader" (84 : Nat)))) ∈ flatC (Jvm.Cond.and given_1 narrow_1) := List.mem_of_getElem? (i := 84) rfl
theorem ff_85 : (Jvm.Cond.not (Jvm.Cond.eq (Jvm.Term.string "DredgePond$LawReader" (80 : Nat)) (Jvm.Term.string "DredgePond$LawReader" (84 : Nat)))) ∈ flatC (Jvm.Cond.and given_1 narrow_1) := List.mem_of_getElem? (i := 85) rfl
theorem ff_86 : (Jvm.Cond.not (Jvm.Cond.eq (Jvm.Term.string "DredgePond$LawReader" (82 : Nat)) (Jvm.Term.string "DredgePond$LawReader" (84 : Nat)))) ∈ flatC (Jvm.Cond.and given_1 narrow_1) := List.mem_of_getElem? (i := 86) rfl
theorem ff_87 : (Jvm.Cond.exactly (Jvm.Term.string "DredgePond$LawReader" (68 : Nat)) "java/lang/String") ∈ flatC (Jvm.Cond.and given_1 narrow_1) := List.mem_of_getElem? (i := 87) rfl
theorem ff_88 : (Jvm.Cond.eq (Jvm.Term.field (Jvm.Term.string "DredgePond$LawReader" (68 : Nat)) "java/lang/String" "coder" "B") (Jvm.Term.int (0 : Int32))) ∈ flatC (Jvm.Cond.and given_1 narrow_1) := List.mem_of_getElem? (i := 88) rfl
theorem ff_89 : (Jvm.Cond.arrayOf (Jvm.Term.field (Jvm.Term.string "DredgePond$LawReader" (68 : Nat)) "java/lang/String" "value" "[B") Jvm.ClassFile.FieldType.byte) ∈ flatC (Jvm.Cond.and given_1 narrow_1) := List.mem_of_getElem? (i := 89) rfl
theorem ff_90 : (Jvm.Cond.eq (Jvm.Term.length (Jvm.Term.field (Jvm.Term.string "DredgePond$LawReader" (68 : Nat)) "java/lang/String" "value" "[B")) (Jvm.Term.int (2 : Int32))) ∈ flatC (Jvm.Cond.and given_1 narrow_1) := List.mem_of_getElem? (i := 90) rfl
theorem ff_91 : (Jvm.Cond.eq (Jvm.Term.elem (Jvm.Term.field (Jvm.Term.string "DredgePond$LawReader" (68 : Nat)) "java/lang/String" "value" "[B") (Jvm.Term.int (0 : Int32))) (Jvm.Term.int (116 : Int32))) ∈ flatC (Jvm.Cond.and given_1 narrow_1) := List.mem_of_getElem? (i := 91) rfl
theorem ff_92 : (Jvm.Cond.eq (Jvm.Term.elem (Jvm.Term.field (Jvm.Term.string "DredgePond$LawReader" (68 : Nat)) "java/lang/String" "value" "[B") (Jvm.Term.int (1 : Int32))) (Jvm.Term.int (111 : Int32))) ∈ flatC (Jvm.Cond.and given_1 narrow_1) := List.mem_of_getElem? (i := 92) rfl
theorem ff_93 : (Jvm.Cond.not (Jvm.Cond.eq (Jvm.Term.string "DredgePond$LawReader" (74 : Nat)) (Jvm.Term.string "DredgePond$LawReader" (68 : Nat)))) ∈ flatC (Jvm.Cond.and given_1 narrow_1) := List.mem_of_getElem? (i := 93) rfl
theorem ff_94 : (Jvm.Cond.not (Jvm.Cond.eq (Jvm.Term.string "DredgePond$LawReader" (76 : Nat)) (Jvm.Term.string "DredgePond$LawReader" (68 : Nat)))) ∈ flatC (Jvm.Cond.and given_1 narrow_1) := List.mem_of_getElem? (i := 94) rfl
theorem ff_95 : (Jvm.Cond.not (Jvm.Cond.eq (Jvm.Term.string "DredgePond$LawReader" (78 : Nat)) (Jvm.Term.string "DredgePond$LawReader" (68 : Nat)))) ∈ flatC (Jvm.Cond.and given_1 narrow_1) := List.mem_of_getElem? (i := 95) rfl
theorem ff_96 : (Jvm.Cond.not (Jvm.Cond.eq (Jvm.Term.string "DredgePond$LawReader" (80 : Nat)) (Jvm.Term.string "DredgePond$LawReader" (68 : Nat)))) ∈ flatC (Jvm.Cond.and given_1 narrow_1) := List.mem_of_getElem? (i := 96) rfl
theorem ff_97 : (Jvm.Cond.not (Jvm.Cond.eq (Jvm.Term.string "DredgePond$LawReader" (82 : Nat)) (Jvm.Term.string "DredgePond$LawReader" (68 : Nat)))) ∈ flatC (Jvm.Cond.and given_1 narrow_1) := List.mem_of_getElem? (i := 97) rfl
theorem ff_98 : (Jvm.Cond.not (Jvm.Cond.eq (Jvm.Term.string "DredgePond$LawReader" (84 : Nat)) (Jvm.Term.string "DredgePond$LawReader" (68 : Nat)))) ∈ flatC (Jvm.Cond.and given_1 narrow_1) := List.mem_of_getElem? (i := 98) rfl
theorem mw_56 : Cond.methodLinkNest RX7 9 yX4_init RX7 ∈ lw_tbl := tb_1 (List.mem_of_getElem? (i := 25) rfl)
theorem mw_72 : Cond.methodLinkNest RX7 18 yX0_init RX7 ∈ lw_tbl := tb_1 (List.mem_of_getElem? (i := 41) rfl)
theorem mw_92 : Cond.methodLinkNest RX7 25 yX2_init RX7 ∈ lw_tbl := tb_1 (List.mem_of_getElem? (i := 61) rfl)
theorem mw_108 : Cond.methodLinkNest RX7 32 yX3_init RX7 ∈ lw_tbl := tb_1 (List.mem_of_getElem? (i := 77) rfl)
theorem mw_256 : Cond.methodLinkNest RX1 34 yX7_within RX7 ∈ lw_tbl := tb_1 (List.mem_of_getElem? (i := 225) rfl)
theorem mw_263 : Cond.methodLinkNest RX6 42 yX7_within RX7 ∈ lw_tbl := tb_1 (List.mem_of_getElem? (i := 232) rfl)
theorem mw_437 : Cond.methodLinkNest RX2 22 yX7_within RX7 ∈ lw_tbl := tb_2 (List.mem_of_getElem? (i := 166) rfl)
theorem mw_485 : Cond.methodLinkNest RX0 25 yX7_within RX7 ∈ lw_tbl := tb_2 (List.mem_of_getElem? (i := 214) rfl)
theorem mw_566 : Cond.methodLinkNest RX3 36 yX7_within RX7 ∈ lw_tbl := tb_3 (List.mem_of_getElem? (i := 55) rfl)
theorem mw_637 : Cond.stringRef RX3 68 "to" ∈ lw_tbl := tb_3 (List.mem_of_getElem? (i := 126) rfl)
theorem mw_575 : Cond.stringRef RX3 74 "level" ∈ lw_tbl := tb_3 (List.mem_of_getElem? (i := 64) rfl)
theorem mw_628 : Cond.stringRef RX3 76 "bank" ∈ lw_tbl := tb_3 (List.mem_of_getElem? (i := 117) rfl)
theorem mw_629 : Cond.stringRef RX3 78 "clear" ∈ lw_tbl := tb_3 (List.mem_of_getElem? (i := 118) rfl)
theorem mw_630 : Cond.stringRef RX3 80 "back" ∈ lw_tbl := tb_3 (List.mem_of_getElem? (i := 119) rfl)
theorem mw_631 : Cond.stringRef RX3 82 "royalty" ∈ lw_tbl := tb_3 (List.mem_of_getElem? (i := 120) rfl)
theorem mw_632 : Cond.stringRef RX3 84 "fine" ∈ lw_tbl := tb_3 (List.mem_of_getElem? (i := 121) rfl)
theorem mw_442 : Cond.laysStatic RX2 "USUAL" "[I" ∈ lw_tbl := tb_2 (List.mem_of_getElem? (i := 171) rfl)
theorem mw_589 : Cond.laysStatic RJ0 "COMPACT_STRINGS" "Z" ∈ lw_tbl := tb_3 (List.mem_of_getElem? (i := 78) rfl)
theorem mw_605 : Cond.laysStatic RJ3 "SIOOBE_FORMATTER" "Ljava/util/function/BiFunction;" ∈ lw_tbl := tb_3 (List.mem_of_getElem? (i := 94) rfl)
set_option maxHeartbeats 4000000 in
set_option maxRecDepth 100000 in
theorem bs_start {s : State} {b : Nat} (hts : ∀ w ∈ lw_tbl, w.before #[Value.ref b] s = true) (hgv : (Jvm.Cond.and given_1 narrow_1).before #[Value.ref b] s = true) : ∃ (D : va_G) (cI cZ cB : ClassId) (au : Nat) (kA kV : Nat → Nat), BS D cI cZ cB au kA kV s.heap.size s := by
  have hf := flat_of_before _ hgv
  have hA : ∀ a : Nat, a < s.heap.size → ¬ (fun q : Nat => s.heap.size ≤ q) a := fun a ha h => absurd h (Nat.not_le.mpr ha)
  obtain ⟨c0, iS0, hKn0⟩ := u_known (C := RX0) (T := TX0) (N := 4) (n := 4) hts in_wsX00 (hts _ mw_71)
  obtain ⟨c1, iS1, hKn1⟩ := u_known (C := RX1) (T := TX1) (N := 7) (n := 7) hts in_wsX10 (hts _ mw_141)
  obtain ⟨c2, iS2, hKn2⟩ := u_known (C := RX2) (T := TX2) (N := 3) (n := 3) hts in_wsX20 (hts _ mw_91)
  obtain ⟨c3, iS3, hKn3⟩ := u_known (C := RX3) (T := TX3) (N := 7) (n := 7) hts in_wsX30 (hts _ mw_107)
  obtain ⟨c4, iS4, hKn4⟩ := u_known (C := RX4) (T := TX4) (N := 3) (n := 3) hts in_wsX40 (hts _ mw_55)
  obtain ⟨c5, iS5, hKn5⟩ := u_known (C := RX5) (T := TX5) (N := 4) (n := 4) hts in_wsX50 (hts _ mw_195)
  obtain ⟨c6, iS6, hKn6⟩ := u_known (C := RX6) (T := TX6) (N := 6) (n := 6) hts in_wsX60 (hts _ mw_169)
  obtain ⟨c7, iS7, hKn7⟩ := u_known (C := RX7) (T := TX7) (N := 10) (n := 10) hts in_wsX70 (hts _ mw_47)
  obtain ⟨c8, iS8, hKn8⟩ := u_known (C := RX8) (T := TX8) (N := 34) (n := 34) hts in_wsX80 (hts _ mw_693)
  obtain ⟨dC, dI, hKc⟩ : ∃ (dC : Nat → ClassId) (dI : Nat → Nat → Nat), ∀ (k : Nat) (q : vw_C), vwCl[k]? = some q → u_Kn s q.1 q.2.1 q.2.2 (dC k) (dI k) := by
    refine ⟨fun k => if k = 0 then c0 else if k = 1 then c1 else if k = 2 then c2 else if k = 3 then c3 else if k = 4 then c4 else if k = 5 then c5 else if k = 6 then c6 else if k = 7 then c7 else c8, fun k => if k = 0 then iS0 else if k = 1 then iS1 else if k = 2 then iS2 else if k = 3 then iS3 else if k = 4 then iS4 else if k = 5 then iS5 else if k = 6 then iS6 else if k = 7 then iS7 else iS8, ?_⟩
    intro k q hq
    match k, hq with
    | 0, hq => cases hq; exact hKn0
    | 1, hq => cases hq; exact hKn1
    | 2, hq => cases hq; exact hKn2
    | 3, hq => cases hq; exact hKn3
    | 4, hq => cases hq; exact hKn4
    | 5, hq => cases hq; exact hKn5
    | 6, hq => cases hq; exact hKn6
    | 7, hq => cases hq; exact hKn7
    | 8, hq => cases hq; exact hKn8
    | k + 9, hq => simp [vwCl] at hq
  obtain ⟨cI, hrI, hnI⟩ := ar_of (hts _ mw_89)
  obtain ⟨cZ, hrZ, hnZ⟩ := ar_of (hts _ mw_193)
  obtain ⟨cB, hrB, hnB⟩ := ar_of (hts _ mw_647)
  have hK : va_K (dC, dI) vwCl (tyL cI cZ cB) s := by
    refine ⟨hKc, fun k q h => ?_⟩
    match k, h with
    | 0, h => cases h; exact ⟨hrI, hnI⟩
    | 1, h => cases h; exact ⟨hrZ, hnZ⟩
    | 2, h => cases h; exact ⟨hrB, hnB⟩
    | k + 3, h => simp at h
  have hNW : NW s := ⟨va_Nw.of rfl (hts _ mw_56), va_Nw.of rfl (hts _ mw_72), va_Nw.of rfl (hts _ mw_92), va_Nw.of rfl (hts _ mw_108), va_Nw.of rfl (hts _ mw_256), va_Nw.of rfl (hts _ mw_263), va_Nw.of rfl (hts _ mw_437), va_Nw.of rfl (hts _ mw_485), va_Nw.of rfl (hts _ mw_566)⟩
  obtain ⟨au, hau, hT⟩ := va_Tof (args := #[Value.ref b]) (s := s) (tm := .static RX2 "USUAL" "[I") (ty := .int) (N := 7) (f := us_V) (A := fun q : Nat => s.heap.size ≤ q) (by decide) (hf _ ff_5) (va_eqt (hf _ ff_6)) (a7 (va_eqt (hf _ ff_7)) (va_eqt (hf _ ff_8)) (va_eqt (hf _ ff_9)) (va_eqt (hf _ ff_10)) (va_eqt (hf _ ff_11)) (va_eqt (hf _ ff_12)) (va_eqt (hf _ ff_13))) hA
  have hZ := va_Zof (hts _ mw_442) (hts _ mw_35) hau hA
  obtain ⟨kA, kV, hvk, hev⟩ := vk_Sof (args := #[Value.ref b]) (s := s) (N := 7) (tm := tmS) (len := tx_len) (byt := tx_byt) (A := fun q : Nat => s.heap.size ≤ q) (fun i hi => tx_lt hi) (a7 (hf _ ff_87) (hf _ ff_19) (hf _ ff_28) (hf _ ff_37) (hf _ ff_48) (hf _ ff_59) (hf _ ff_74)) (a7 (hf _ ff_88) (hf _ ff_20) (hf _ ff_29) (hf _ ff_38) (hf _ ff_49) (hf _ ff_60) (hf _ ff_75)) (a7 (hf _ ff_89) (hf _ ff_21) (hf _ ff_30) (hf _ ff_39) (hf _ ff_50) (hf _ ff_61) (hf _ ff_76)) (a7 (hf _ ff_90) (hf _ ff_22) (hf _ ff_31) (hf _ ff_40) (hf _ ff_51) (hf _ ff_62) (hf _ ff_77)) (a7 (a2 (hf _ ff_91) (hf _ ff_92)) (a5 (hf _ ff_23) (hf _ ff_24) (hf _ ff_25) (hf _ ff_26) (hf _ ff_27)) (a4 (hf _ ff_32) (hf _ ff_33) (hf _ ff_34) (hf _ ff_35)) (a5 (hf _ ff_41) (hf _ ff_42) (hf _ ff_43) (hf _ ff_44) (hf _ ff_45)) (a4 (hf _ ff_52) (hf _ ff_53) (hf _ ff_54) (hf _ ff_55)) (a7 (hf _ ff_63) (hf _ ff_64) (hf _ ff_65) (hf _ ff_66) (hf _ ff_67) (hf _ ff_68) (hf _ ff_69)) (a4 (hf _ ff_78) (hf _ ff_79) (hf _ ff_80) (hf _ ff_81))) (fun i j hi hj => a7 (P := fun i => ∀ j : Nat, j < 7 → i ≠ j → (Cond.not (Cond.eq (tmS i) (tmS j))).before #[Value.ref b] s = true ∨ (Cond.not (Cond.eq (tmS j) (tmS i))).before #[Value.ref b] s = true) (a7 (fun h => absurd rfl h) (fun _ => Or.inr (hf _ ff_93)) (fun _ => Or.inr (hf _ ff_94)) (fun _ => Or.inr (hf _ ff_95)) (fun _ => Or.inr (hf _ ff_96)) (fun _ => Or.inr (hf _ ff_97)) (fun _ => Or.inr (hf _ ff_98))) (a7 (fun _ => Or.inl (hf _ ff_93)) (fun h => absurd rfl h) (fun _ => Or.inl (hf _ ff_36)) (fun _ => Or.inl (hf _ ff_46)) (fun _ => Or.inl (hf _ ff_56)) (fun _ => Or.inl (hf _ ff_70)) (fun _ => Or.inl (hf _ ff_82))) (a7 (fun _ => Or.inl (hf _ ff_94)) (fun _ => Or.inr (hf _ ff_36)) (fun h => absurd rfl h) (fun _ => Or.inl (hf _ ff_47)) (fun _ => Or.inl (hf _ ff_57)) (fun _ => Or.inl (hf _ ff_71)) (fun _ => Or.inl (hf _ ff_83))) (a7 (fun _ => Or.inl (hf _ ff_95)) (fun _ => Or.inr (hf _ ff_46)) (fun _ => Or.inr (hf _ ff_47)) (fun h => absurd rfl h) (fun _ => Or.inl (hf _ ff_58)) (fun _ => Or.inl (hf _ ff_72)) (fun _ => Or.inl (hf _ ff_84))) (a7 (fun _ => Or.inl (hf _ ff_96)) (fun _ => Or.inr (hf _ ff_56)) (fun _ => Or.inr (hf _ ff_57)) (fun _ => Or.inr (hf _ ff_58)) (fun h => absurd rfl h) (fun _ => Or.inl (hf _ ff_73)) (fun _ => Or.inl (hf _ ff_85))) (a7 (fun _ => Or.inl (hf _ ff_97)) (fun _ => Or.inr (hf _ ff_70)) (fun _ => Or.inr (hf _ ff_71)) (fun _ => Or.inr (hf _ ff_72)) (fun _ => Or.inr (hf _ ff_73)) (fun h => absurd rfl h) (fun _ => Or.inl (hf _ ff_86))) (a7 (fun _ => Or.inl (hf _ ff_98)) (fun _ => Or.inr (hf _ ff_82)) (fun _ => Or.inr (hf _ ff_83)) (fun _ => Or.inr (hf _ ff_84)) (fun _ => Or.inr (hf _ ff_85)) (fun _ => Or.inr (hf _ ff_86)) (fun h => absurd rfl h)) i hi j hj) hA
  have hTX : TX kA s := ⟨vk_R.of (hts _ mw_637) (hev 0 (by decide)), vk_R.of (hts _ mw_575) (hev 1 (by decide)), vk_R.of (hts _ mw_628) (hev 2 (by decide)), vk_R.of (hts _ mw_629) (hev 3 (by decide)), vk_R.of (hts _ mw_630) (hev 4 (by decide)), vk_R.of (hts _ mw_631) (hev 5 (by decide)), vk_R.of (hts _ mw_632) (hev 6 (by decide))⟩
  have hZ2 := va_Zof (A := fun q : Nat => s.heap.size ≤ q) (hts _ mw_589) (hts _ mw_42) (va_eqt (hf _ ff_14)) hA
  have hZ3 := va_Zqof (A := fun q : Nat => s.heap.size ≤ q) (hts _ mw_605) (hts _ mw_44) (hf _ ff_15) hA
  exact ⟨(dC, dI), cI, cZ, cB, au, kA, kV, hK, hNW, hTX, hZ, hT, hvk, hZ2, hZ3⟩
