section
-- ===== PART A: goes FIRST, ahead of the names: the tables' words, and 'selects' of the private methods out of them =====
/-- a private method of a class that the tables say can be made, by its rows of tables_1 -/
def lw_okq (q : MethodName × Nat) : Prop := (q.1.cls ≠ "java/lang/invoke/MethodHandle" ∧ q.1.cls ≠ "java/lang/invoke/VarHandle") ∧ Cond.instantiable q.1.cls q.2 ∈ tables_1 ∧ Cond.privateMethod q.1 ∈ tables_1 ∧ Cond.instanceMethod q.1 ∈ tables_1
theorem lw_p0 : lw_okq (⟨"DredgePond", "isUndug", "(II)Z"⟩, 10) := ⟨⟨by decide +kernel, by decide +kernel⟩, List.mem_of_getElem? (i := 16) (by decide +kernel), List.mem_of_getElem? (i := 218) (by decide +kernel), List.mem_of_getElem? (i := 219) (by decide +kernel)⟩
theorem lw_p1 : lw_okq (⟨"DredgePond$Ground", "narrowAll", "()V"⟩, 7) := ⟨⟨by decide +kernel, by decide +kernel⟩, List.mem_of_getElem? (i := 110) (by decide +kernel), List.mem_of_getElem? (i := 247) (by decide +kernel), List.mem_of_getElem? (i := 248) (by decide +kernel)⟩
theorem lw_p2 : lw_okq (⟨"DredgePond$Ground", "openSpans", "()V"⟩, 7) := ⟨⟨by decide +kernel, by decide +kernel⟩, List.mem_of_getElem? (i := 110) (by decide +kernel), List.mem_of_getElem? (i := 251) (by decide +kernel), List.mem_of_getElem? (i := 252) (by decide +kernel)⟩
theorem lw_p3 : lw_okq (⟨"DredgePond$Ground", "sweepDown", "()V"⟩, 7) := ⟨⟨by decide +kernel, by decide +kernel⟩, List.mem_of_getElem? (i := 110) (by decide +kernel), List.mem_of_getElem? (i := 255) (by decide +kernel), List.mem_of_getElem? (i := 256) (by decide +kernel)⟩
theorem lw_p4 : lw_okq (⟨"DredgePond$Ground", "narrow", "(II)V"⟩, 7) := ⟨⟨by decide +kernel, by decide +kernel⟩, List.mem_of_getElem? (i := 110) (by decide +kernel), List.mem_of_getElem? (i := 259) (by decide +kernel), List.mem_of_getElem? (i := 260) (by decide +kernel)⟩
theorem lw_p5 : lw_okq (⟨"DredgePond$Ground", "sweepUp", "()V"⟩, 7) := ⟨⟨by decide +kernel, by decide +kernel⟩, List.mem_of_getElem? (i := 110) (by decide +kernel), List.mem_of_getElem? (i := 265) (by decide +kernel), List.mem_of_getElem? (i := 266) (by decide +kernel)⟩
theorem lw_p6 : lw_okq (⟨"DredgePond$Ground", "closeToldSpans", "()V"⟩, 7) := ⟨⟨by decide +kernel, by decide +kernel⟩, List.mem_of_getElem? (i := 110) (by decide +kernel), List.mem_of_getElem? (i := 269) (by decide +kernel), List.mem_of_getElem? (i := 270) (by decide +kernel)⟩
theorem lw_p7 : lw_okq (⟨"DredgePond$Route", "bestOf", "(III)I"⟩, 4) := ⟨⟨by decide +kernel, by decide +kernel⟩, List.mem_of_getElem? (i := 164) (by decide +kernel), List.mem_of_getElem? (i := 352) (by decide +kernel), List.mem_of_getElem? (i := 353) (by decide +kernel)⟩
theorem lw_p8 : lw_okq (⟨"DredgePond", "lawToday", "(I)I"⟩, 10) := ⟨⟨by decide +kernel, by decide +kernel⟩, List.mem_of_getElem? (i := 16) (by decide +kernel), List.mem_of_getElem? (i := 395) (by decide +kernel), List.mem_of_getElem? (i := 396) (by decide +kernel)⟩
theorem lw_p9 : lw_okq (⟨"DredgePond", "bankAhead", "(I)I"⟩, 10) := ⟨⟨by decide +kernel, by decide +kernel⟩, List.mem_of_getElem? (i := 16) (by decide +kernel), List.mem_of_getElem? (i := 413) (by decide +kernel), List.mem_of_getElem? (i := 414) (by decide +kernel)⟩
theorem lw_p10 : lw_okq (⟨"DredgePond", "isMuddy", "()Z"⟩, 10) := ⟨⟨by decide +kernel, by decide +kernel⟩, List.mem_of_getElem? (i := 16) (by decide +kernel), List.mem_of_getElem? (i := 429) (by decide +kernel), List.mem_of_getElem? (i := 430) (by decide +kernel)⟩
theorem lw_p11 : lw_okq (⟨"DredgePond$LawReader", "scan", "()V"⟩, 7) := ⟨⟨by decide +kernel, by decide +kernel⟩, List.mem_of_getElem? (i := 76) (by decide +kernel), List.mem_of_getElem? (i := 526) (by decide +kernel), List.mem_of_getElem? (i := 527) (by decide +kernel)⟩
theorem lw_p12 : lw_okq (⟨"DredgePond$LawReader", "readStatement", "()Z"⟩, 7) := ⟨⟨by decide +kernel, by decide +kernel⟩, List.mem_of_getElem? (i := 76) (by decide +kernel), List.mem_of_getElem? (i := 537) (by decide +kernel), List.mem_of_getElem? (i := 538) (by decide +kernel)⟩
theorem lw_p13 : lw_okq (⟨"DredgePond$LawReader", "keyword", "()I"⟩, 7) := ⟨⟨by decide +kernel, by decide +kernel⟩, List.mem_of_getElem? (i := 76) (by decide +kernel), List.mem_of_getElem? (i := 541) (by decide +kernel), List.mem_of_getElem? (i := 542) (by decide +kernel)⟩
theorem lw_p14 : lw_okq (⟨"DredgePond$LawReader", "isWord", "(Ljava/lang/String;)Z"⟩, 7) := ⟨⟨by decide +kernel, by decide +kernel⟩, List.mem_of_getElem? (i := 76) (by decide +kernel), List.mem_of_getElem? (i := 546) (by decide +kernel), List.mem_of_getElem? (i := 547) (by decide +kernel)⟩
theorem lw_p15 : lw_okq (⟨"DredgePond$LawReader", "readNumber", "(I)Z"⟩, 7) := ⟨⟨by decide +kernel, by decide +kernel⟩, List.mem_of_getElem? (i := 76) (by decide +kernel), List.mem_of_getElem? (i := 603) (by decide +kernel), List.mem_of_getElem? (i := 604) (by decide +kernel)⟩
def lw_privs_1 : List (MethodName × Nat) := [(⟨"DredgePond", "isUndug", "(II)Z"⟩, 10), (⟨"DredgePond$Ground", "narrowAll", "()V"⟩, 7), (⟨"DredgePond$Ground", "openSpans", "()V"⟩, 7), (⟨"DredgePond$Ground", "sweepDown", "()V"⟩, 7), (⟨"DredgePond$Ground", "narrow", "(II)V"⟩, 7), (⟨"DredgePond$Ground", "sweepUp", "()V"⟩, 7), (⟨"DredgePond$Ground", "closeToldSpans", "()V"⟩, 7), (⟨"DredgePond$Route", "bestOf", "(III)I"⟩, 4), (⟨"DredgePond", "lawToday", "(I)I"⟩, 10), (⟨"DredgePond", "bankAhead", "(I)I"⟩, 10), (⟨"DredgePond", "isMuddy", "()Z"⟩, 10), (⟨"DredgePond$LawReader", "scan", "()V"⟩, 7), (⟨"DredgePond$LawReader", "readStatement", "()Z"⟩, 7), (⟨"DredgePond$LawReader", "keyword", "()I"⟩, 7), (⟨"DredgePond$LawReader", "isWord", "(Ljava/lang/String;)Z"⟩, 7), (⟨"DredgePond$LawReader", "readNumber", "(I)Z"⟩, 7)]
theorem lw_r1 : ∀ q ∈ lw_privs_1, lw_okq q := List.forall_mem_cons.mpr ⟨lw_p0, List.forall_mem_cons.mpr ⟨lw_p1, List.forall_mem_cons.mpr ⟨lw_p2, List.forall_mem_cons.mpr ⟨lw_p3, List.forall_mem_cons.mpr ⟨lw_p4, List.forall_mem_cons.mpr ⟨lw_p5, List.forall_mem_cons.mpr ⟨lw_p6, List.forall_mem_cons.mpr ⟨lw_p7, List.forall_mem_cons.mpr ⟨lw_p8, List.forall_mem_cons.mpr ⟨lw_p9, List.forall_mem_cons.mpr ⟨lw_p10, List.forall_mem_cons.mpr ⟨lw_p11, List.forall_mem_cons.mpr ⟨lw_p12, List.forall_mem_cons.mpr ⟨lw_p13, List.forall_mem_cons.mpr ⟨lw_p14, List.forall_mem_cons.mpr ⟨lw_p15, fun _ h => absurd h List.not_mem_nil⟩⟩⟩⟩⟩⟩⟩⟩⟩⟩⟩⟩⟩⟩⟩⟩
theorem lw_p16 : lw_okq (⟨"DredgePond$LawReader", "readGreatest", "()Z"⟩, 7) := ⟨⟨by decide +kernel, by decide +kernel⟩, List.mem_of_getElem? (i := 76) (by decide +kernel), List.mem_of_getElem? (i := 607) (by decide +kernel), List.mem_of_getElem? (i := 608) (by decide +kernel)⟩
theorem lw_p17 : lw_okq (⟨"DredgePondModel", "isSquare", "(II)Z"⟩, 34) := ⟨⟨by decide +kernel, by decide +kernel⟩, List.mem_of_getElem? (i := 666) (by decide +kernel), List.mem_of_getElem? (i := 781) (by decide +kernel), List.mem_of_getElem? (i := 782) (by decide +kernel)⟩
theorem lw_p18 : lw_okq (⟨"DredgePondModel", "learns", "(II)V"⟩, 34) := ⟨⟨by decide +kernel, by decide +kernel⟩, List.mem_of_getElem? (i := 666) (by decide +kernel), List.mem_of_getElem? (i := 796) (by decide +kernel), List.mem_of_getElem? (i := 797) (by decide +kernel)⟩
theorem lw_p19 : lw_okq (⟨"DredgePondModel", "end", "(IIZ)I"⟩, 34) := ⟨⟨by decide +kernel, by decide +kernel⟩, List.mem_of_getElem? (i := 666) (by decide +kernel), List.mem_of_getElem? (i := 808) (by decide +kernel), List.mem_of_getElem? (i := 809) (by decide +kernel)⟩
theorem lw_p20 : lw_okq (⟨"DredgePondModel", "quarrels", "(II)Z"⟩, 34) := ⟨⟨by decide +kernel, by decide +kernel⟩, List.mem_of_getElem? (i := 666) (by decide +kernel), List.mem_of_getElem? (i := 813) (by decide +kernel), List.mem_of_getElem? (i := 814) (by decide +kernel)⟩
theorem lw_p21 : lw_okq (⟨"DredgePondModel", "tinBy", "(III)I"⟩, 34) := ⟨⟨by decide +kernel, by decide +kernel⟩, List.mem_of_getElem? (i := 666) (by decide +kernel), List.mem_of_getElem? (i := 825) (by decide +kernel), List.mem_of_getElem? (i := 826) (by decide +kernel)⟩
theorem lw_p22 : lw_okq (⟨"DredgePondModel", "best", "(II)I"⟩, 34) := ⟨⟨by decide +kernel, by decide +kernel⟩, List.mem_of_getElem? (i := 666) (by decide +kernel), List.mem_of_getElem? (i := 829) (by decide +kernel), List.mem_of_getElem? (i := 830) (by decide +kernel)⟩
theorem lw_p23 : lw_okq (⟨"DredgePondModel", "now", "(I)I"⟩, 34) := ⟨⟨by decide +kernel, by decide +kernel⟩, List.mem_of_getElem? (i := 666) (by decide +kernel), List.mem_of_getElem? (i := 841) (by decide +kernel), List.mem_of_getElem? (i := 842) (by decide +kernel)⟩
theorem lw_p24 : lw_okq (⟨"DredgePondModel", "tellsOn", "(II)I"⟩, 34) := ⟨⟨by decide +kernel, by decide +kernel⟩, List.mem_of_getElem? (i := 666) (by decide +kernel), List.mem_of_getElem? (i := 845) (by decide +kernel), List.mem_of_getElem? (i := 846) (by decide +kernel)⟩
theorem lw_p25 : lw_okq (⟨"DredgePondModel", "inForce", "(I)I"⟩, 34) := ⟨⟨by decide +kernel, by decide +kernel⟩, List.mem_of_getElem? (i := 666) (by decide +kernel), List.mem_of_getElem? (i := 849) (by decide +kernel), List.mem_of_getElem? (i := 850) (by decide +kernel)⟩
theorem lw_p26 : lw_okq (⟨"DredgePondModel", "four", "(I)V"⟩, 34) := ⟨⟨by decide +kernel, by decide +kernel⟩, List.mem_of_getElem? (i := 666) (by decide +kernel), List.mem_of_getElem? (i := 881) (by decide +kernel), List.mem_of_getElem? (i := 882) (by decide +kernel)⟩
theorem lw_p27 : lw_okq (⟨"DredgePondModel", "blanks", "()V"⟩, 34) := ⟨⟨by decide +kernel, by decide +kernel⟩, List.mem_of_getElem? (i := 666) (by decide +kernel), List.mem_of_getElem? (i := 889) (by decide +kernel), List.mem_of_getElem? (i := 890) (by decide +kernel)⟩
theorem lw_p28 : lw_okq (⟨"DredgePondModel", "statement", "(I)Z"⟩, 34) := ⟨⟨by decide +kernel, by decide +kernel⟩, List.mem_of_getElem? (i := 666) (by decide +kernel), List.mem_of_getElem? (i := 893) (by decide +kernel), List.mem_of_getElem? (i := 894) (by decide +kernel)⟩
theorem lw_p29 : lw_okq (⟨"DredgePondModel", "takes", "(J)Z"⟩, 34) := ⟨⟨by decide +kernel, by decide +kernel⟩, List.mem_of_getElem? (i := 666) (by decide +kernel), List.mem_of_getElem? (i := 898) (by decide +kernel), List.mem_of_getElem? (i := 899) (by decide +kernel)⟩
theorem lw_p30 : lw_okq (⟨"DredgePondModel", "word", "()J"⟩, 34) := ⟨⟨by decide +kernel, by decide +kernel⟩, List.mem_of_getElem? (i := 666) (by decide +kernel), List.mem_of_getElem? (i := 902) (by decide +kernel), List.mem_of_getElem? (i := 903) (by decide +kernel)⟩
theorem lw_p31 : lw_okq (⟨"DredgePondModel", "takesNumber", "()Z"⟩, 34) := ⟨⟨by decide +kernel, by decide +kernel⟩, List.mem_of_getElem? (i := 666) (by decide +kernel), List.mem_of_getElem? (i := 911) (by decide +kernel), List.mem_of_getElem? (i := 912) (by decide +kernel)⟩
def lw_privs_2 : List (MethodName × Nat) := [(⟨"DredgePond$LawReader", "readGreatest", "()Z"⟩, 7), (⟨"DredgePondModel", "isSquare", "(II)Z"⟩, 34), (⟨"DredgePondModel", "learns", "(II)V"⟩, 34), (⟨"DredgePondModel", "end", "(IIZ)I"⟩, 34), (⟨"DredgePondModel", "quarrels", "(II)Z"⟩, 34), (⟨"DredgePondModel", "tinBy", "(III)I"⟩, 34), (⟨"DredgePondModel", "best", "(II)I"⟩, 34), (⟨"DredgePondModel", "now", "(I)I"⟩, 34), (⟨"DredgePondModel", "tellsOn", "(II)I"⟩, 34), (⟨"DredgePondModel", "inForce", "(I)I"⟩, 34), (⟨"DredgePondModel", "four", "(I)V"⟩, 34), (⟨"DredgePondModel", "blanks", "()V"⟩, 34), (⟨"DredgePondModel", "statement", "(I)Z"⟩, 34), (⟨"DredgePondModel", "takes", "(J)Z"⟩, 34), (⟨"DredgePondModel", "word", "()J"⟩, 34), (⟨"DredgePondModel", "takesNumber", "()Z"⟩, 34)]
theorem lw_r2 : ∀ q ∈ lw_privs_2, lw_okq q := List.forall_mem_cons.mpr ⟨lw_p16, List.forall_mem_cons.mpr ⟨lw_p17, List.forall_mem_cons.mpr ⟨lw_p18, List.forall_mem_cons.mpr ⟨lw_p19, List.forall_mem_cons.mpr ⟨lw_p20, List.forall_mem_cons.mpr ⟨lw_p21, List.forall_mem_cons.mpr ⟨lw_p22, List.forall_mem_cons.mpr ⟨lw_p23, List.forall_mem_cons.mpr ⟨lw_p24, List.forall_mem_cons.mpr ⟨lw_p25, List.forall_mem_cons.mpr ⟨lw_p26, List.forall_mem_cons.mpr ⟨lw_p27, List.forall_mem_cons.mpr ⟨lw_p28, List.forall_mem_cons.mpr ⟨lw_p29, List.forall_mem_cons.mpr ⟨lw_p30, List.forall_mem_cons.mpr ⟨lw_p31, fun _ h => absurd h List.not_mem_nil⟩⟩⟩⟩⟩⟩⟩⟩⟩⟩⟩⟩⟩⟩⟩⟩
def lw_privs : List (MethodName × Nat) := lw_privs_1 ++ (lw_privs_2)
def lw_tbl : List Cond := k2_sels lw_privs ++ tables_1
theorem lw_privs_ok : ∀ q ∈ lw_privs, lw_okq q := by
  show ∀ q ∈ lw_privs_1 ++ (lw_privs_2), lw_okq q
  exact List.forall_mem_append.mpr ⟨lw_r1, lw_r2⟩
end
section
/-! ===== BEGIN words of one list among another's, by their places ===== -/
theorem goodIn_r {big : List Cond} (ws : List Cond) (ps : List Nat) (hp : ws = ps.filterMap (fun i => big[i]?)) (h : ws.all goodWord = true) : GoodIn big ws := by
  intro w hw
  have h1 := List.all_eq_true.mp h w hw
  rw [hp] at hw
  obtain ⟨i, -, hi⟩ := List.mem_filterMap.mp hw
  have hm : w ∈ big := by first | exact List.mem_of_getElem? hi | exact List.getElem?_mem hi
  exact ⟨hm, good_of_word h1⟩
theorem goodIn_app {big a b : List Cond} (ha : GoodIn big a) (hb : GoodIn big b) : GoodIn big (a ++ b) := fun w h => (List.mem_append.mp h).elim (ha w) (hb w)
theorem goodIn_ca {big a b : List Cond} {c : Cond} (ha : GoodIn big (c :: a)) (hb : GoodIn big b) : GoodIn big (c :: (a ++ b)) := fun w h => (List.mem_cons.mp h).elim (fun e => ha w (List.mem_cons.mpr (Or.inl e))) (fun h => (List.mem_append.mp h).elim (fun h => ha w (List.mem_cons.mpr (Or.inr h))) (hb w))
theorem goodIn_sub {big ws : List Cond} (hm : ∀ w ∈ ws, w ∈ big) (h : ws.all goodWord = true) : GoodIn big ws := fun w hw => ⟨hm w hw, good_of_word (List.all_eq_true.mp h w hw)⟩
/-! ===== END ===== -/

/-! ===== BEGIN printed: names, fields, word lists, decode rows ===== -/
def RX0 : String := "DredgePond$Bag"
def TX0 : u_T := fun k => match k with
  | 0 => ("DredgePond$Bag", "months", "[I", true)
  | 1 => ("DredgePond$Bag", "whole", "I", false)
  | 2 => ("DredgePond$Bag", "gone", "I", false)
  | _ => ("DredgePond$Bag", "pace", "I", false)
def tyX0 : Nat → FieldType := fun k => match k with
  | 0 => .array .int
  | 1 => .int
  | 2 => .int
  | _ => .int
abbrev wsX00 : List Cond := u_ws RX0 TX0 4
theorem nmX0 : ∀ a, a < 4 → ∀ b, b < 4 → a ≠ b → (TX0 a).2.1 ≠ (TX0 b).2.1 := by decide +kernel
theorem tyX0_ok : ∀ k, k < 4 → parseFieldDescriptor (TX0 k).2.2.1 = some (tyX0 k) := by decide +kernel
abbrev cX0_init : ByteArray := prog_2_method_1_code
def yX0_init : MethodName := ⟨RX0, "<init>", "()V"⟩
abbrev cX0_run : ByteArray := prog_2_method_2_code
def yX0_run : MethodName := ⟨RX0, "run", "(I)V"⟩
abbrev cX0_fill : ByteArray := prog_2_method_3_code
def yX0_fill : MethodName := ⟨RX0, "fill", "(II)I"⟩
abbrev cX0_inMonth : ByteArray := prog_2_method_4_code
def yX0_inMonth : MethodName := ⟨RX0, "inMonth", "(I)I"⟩
abbrev cX0_inAll : ByteArray := prog_2_method_5_code
def yX0_inAll : MethodName := ⟨RX0, "inAll", "()I"⟩
abbrev cX0_lost : ByteArray := prog_2_method_6_code
def yX0_lost : MethodName := ⟨RX0, "lost", "()I"⟩
def RX1 : String := "DredgePond$Ground"
def TX1 : u_T := fun k => match k with
  | 0 => ("DredgePond$Ground", "rows", "I", true)
  | 1 => ("DredgePond$Ground", "places", "I", true)
  | 2 => ("DredgePond$Ground", "depths", "[I", true)
  | 3 => ("DredgePond$Ground", "tins", "[I", true)
  | 4 => ("DredgePond$Ground", "least", "[I", true)
  | 5 => ("DredgePond$Ground", "greatest", "[I", true)
  | _ => ("DredgePond$Ground", "gradient", "I", false)
def tyX1 : Nat → FieldType := fun k => match k with
  | 0 => .int
  | 1 => .int
  | 2 => .array .int
  | 3 => .array .int
  | 4 => .array .int
  | 5 => .array .int
  | _ => .int
abbrev wsX10 : List Cond := u_ws RX1 TX1 7
theorem nmX1 : ∀ a, a < 7 → ∀ b, b < 7 → a ≠ b → (TX1 a).2.1 ≠ (TX1 b).2.1 := by decide +kernel
theorem tyX1_ok : ∀ k, k < 7 → parseFieldDescriptor (TX1 k).2.2.1 = some (tyX1 k) := by decide +kernel
abbrev cX1_init : ByteArray := prog_3_method_1_code
def yX1_init : MethodName := ⟨RX1, "<init>", "(II)V"⟩
abbrev cX1_rowCount : ByteArray := prog_3_method_2_code
def yX1_rowCount : MethodName := ⟨RX1, "rowCount", "()I"⟩
abbrev cX1_has : ByteArray := prog_3_method_3_code
def yX1_has : MethodName := ⟨RX1, "has", "(II)Z"⟩
abbrev cX1_depthAt : ByteArray := prog_3_method_4_code
def yX1_depthAt : MethodName := ⟨RX1, "depthAt", "(II)I"⟩
abbrev cX1_deepen : ByteArray := prog_3_method_5_code
def yX1_deepen : MethodName := ⟨RX1, "deepen", "(III)V"⟩
abbrev cX1_isTold : ByteArray := prog_3_method_6_code
def yX1_isTold : MethodName := ⟨RX1, "isTold", "(II)Z"⟩
abbrev cX1_tell : ByteArray := prog_3_method_7_code
def yX1_tell : MethodName := ⟨RX1, "tell", "(III)V"⟩
abbrev cX1_slope : ByteArray := prog_3_method_8_code
def yX1_slope : MethodName := ⟨RX1, "slope", "(I)V"⟩
abbrev cX1_leastAt : ByteArray := prog_3_method_9_code
def yX1_leastAt : MethodName := ⟨RX1, "leastAt", "(II)I"⟩
abbrev cX1_greatestAt : ByteArray := prog_3_method_10_code
def yX1_greatestAt : MethodName := ⟨RX1, "greatestAt", "(II)I"⟩
abbrev cX1_quarrelsAt : ByteArray := prog_3_method_11_code
def yX1_quarrelsAt : MethodName := ⟨RX1, "quarrelsAt", "(II)Z"⟩
abbrev cX1_quarrels : ByteArray := prog_3_method_12_code
def yX1_quarrels : MethodName := ⟨RX1, "quarrels", "()I"⟩
abbrev cX1_widestFrom : ByteArray := prog_3_method_13_code
def yX1_widestFrom : MethodName := ⟨RX1, "widestFrom", "(I)I"⟩
abbrev cX1_narrowAll : ByteArray := prog_3_method_14_code
def yX1_narrowAll : MethodName := ⟨RX1, "narrowAll", "()V"⟩
abbrev cX1_openSpans : ByteArray := prog_3_method_15_code
def yX1_openSpans : MethodName := ⟨RX1, "openSpans", "()V"⟩
abbrev cX1_sweepDown : ByteArray := prog_3_method_16_code
def yX1_sweepDown : MethodName := ⟨RX1, "sweepDown", "()V"⟩
abbrev cX1_sweepUp : ByteArray := prog_3_method_17_code
def yX1_sweepUp : MethodName := ⟨RX1, "sweepUp", "()V"⟩
abbrev cX1_narrow : ByteArray := prog_3_method_18_code
def yX1_narrow : MethodName := ⟨RX1, "narrow", "(II)V"⟩
abbrev cX1_closeToldSpans : ByteArray := prog_3_method_19_code
def yX1_closeToldSpans : MethodName := ⟨RX1, "closeToldSpans", "()V"⟩
def RX2 : String := "DredgePond$LawBook"
def TX2 : u_T := fun k => match k with
  | 0 => ("DredgePond$LawBook", "terms", "[I", true)
  | 1 => ("DredgePond$LawBook", "since", "[I", true)
  | _ => ("DredgePond$LawBook", "taken", "I", false)
def tyX2 : Nat → FieldType := fun k => match k with
  | 0 => .array .int
  | 1 => .array .int
  | _ => .int
abbrev wsX20 : List Cond := u_ws RX2 TX2 3
theorem nmX2 : ∀ a, a < 3 → ∀ b, b < 3 → a ≠ b → (TX2 a).2.1 ≠ (TX2 b).2.1 := by decide +kernel
theorem tyX2_ok : ∀ k, k < 3 → parseFieldDescriptor (TX2 k).2.2.1 = some (tyX2 k) := by decide +kernel
abbrev cX2_init : ByteArray := prog_4_method_1_code
def yX2_init : MethodName := ⟨RX2, "<init>", "()V"⟩
abbrev cX2_usual : ByteArray := prog_4_method_2_code
def yX2_usual : MethodName := ⟨RX2, "usual", "(I)I"⟩
abbrev cX2_size : ByteArray := prog_4_method_3_code
def yX2_size : MethodName := ⟨RX2, "size", "()I"⟩
abbrev cX2_isFull : ByteArray := prog_4_method_4_code
def yX2_isFull : MethodName := ⟨RX2, "isFull", "()Z"⟩
abbrev cX2_take : ByteArray := prog_4_method_5_code
def yX2_take : MethodName := ⟨RX2, "take", "(LDredgePond$LawReader;I)I"⟩
abbrev cX2_inForce : ByteArray := prog_4_method_6_code
def yX2_inForce : MethodName := ⟨RX2, "inForce", "(I)I"⟩
abbrev cX2_term : ByteArray := prog_4_method_7_code
def yX2_term : MethodName := ⟨RX2, "term", "(II)I"⟩
def RX3 : String := "DredgePond$LawReader"
def TX3 : u_T := fun k => match k with
  | 0 => ("DredgePond$LawReader", "tape", "[I", true)
  | 1 => ("DredgePond$LawReader", "terms", "[I", true)
  | 2 => ("DredgePond$LawReader", "bytes", "I", false)
  | 3 => ("DredgePond$LawReader", "length", "I", false)
  | 4 => ("DredgePond$LawReader", "kind", "I", false)
  | 5 => ("DredgePond$LawReader", "start", "I", false)
  | _ => ("DredgePond$LawReader", "stop", "I", false)
def tyX3 : Nat → FieldType := fun k => match k with
  | 0 => .array .int
  | 1 => .array .int
  | 2 => .int
  | 3 => .int
  | 4 => .int
  | 5 => .int
  | _ => .int
abbrev wsX30 : List Cond := u_ws RX3 TX3 7
theorem nmX3 : ∀ a, a < 7 → ∀ b, b < 7 → a ≠ b → (TX3 a).2.1 ≠ (TX3 b).2.1 := by decide +kernel
theorem tyX3_ok : ∀ k, k < 7 → parseFieldDescriptor (TX3 k).2.2.1 = some (tyX3 k) := by decide +kernel
abbrev cX3_init : ByteArray := prog_5_method_1_code
def yX3_init : MethodName := ⟨RX3, "<init>", "()V"⟩
abbrev cX3_size : ByteArray := prog_5_method_2_code
def yX3_size : MethodName := ⟨RX3, "size", "()I"⟩
abbrev cX3_hasRoom : ByteArray := prog_5_method_3_code
def yX3_hasRoom : MethodName := ⟨RX3, "hasRoom", "()Z"⟩
abbrev cX3_append : ByteArray := prog_5_method_4_code
def yX3_append : MethodName := ⟨RX3, "append", "(I)V"⟩
abbrev cX3_termRead : ByteArray := prog_5_method_5_code
def yX3_termRead : MethodName := ⟨RX3, "termRead", "(I)I"⟩
abbrev cX3_read : ByteArray := prog_5_method_6_code
def yX3_read : MethodName := ⟨RX3, "read", "(I)I"⟩
abbrev cX3_readStatement : ByteArray := prog_5_method_7_code
def yX3_readStatement : MethodName := ⟨RX3, "readStatement", "()Z"⟩
abbrev cX3_readGreatest : ByteArray := prog_5_method_8_code
def yX3_readGreatest : MethodName := ⟨RX3, "readGreatest", "()Z"⟩
abbrev cX3_readNumber : ByteArray := prog_5_method_9_code
def yX3_readNumber : MethodName := ⟨RX3, "readNumber", "(I)Z"⟩
abbrev cX3_keyword : ByteArray := prog_5_method_10_code
def yX3_keyword : MethodName := ⟨RX3, "keyword", "()I"⟩
abbrev cX3_isWord : ByteArray := prog_5_method_11_code
def yX3_isWord : MethodName := ⟨RX3, "isWord", "(Ljava/lang/String;)Z"⟩
abbrev cX3_scan : ByteArray := prog_5_method_12_code
def yX3_scan : MethodName := ⟨RX3, "scan", "()V"⟩
abbrev cX3_isBlank : ByteArray := prog_5_method_13_code
def yX3_isBlank : MethodName := ⟨RX3, "isBlank", "(I)Z"⟩
abbrev cX3_kindOf : ByteArray := prog_5_method_14_code
def yX3_kindOf : MethodName := ⟨RX3, "kindOf", "(I)I"⟩
def RX4 : String := "DredgePond$Pond"
def TX4 : u_T := fun k => match k with
  | 0 => ("DredgePond$Pond", "height", "I", false)
  | 1 => ("DredgePond$Pond", "dirt", "I", false)
  | _ => ("DredgePond$Pond", "hours", "I", false)
def tyX4 : Nat → FieldType := fun k => match k with
  | 0 => .int
  | 1 => .int
  | _ => .int
abbrev wsX40 : List Cond := u_ws RX4 TX4 3
theorem nmX4 : ∀ a, a < 3 → ∀ b, b < 3 → a ≠ b → (TX4 a).2.1 ≠ (TX4 b).2.1 := by decide +kernel
theorem tyX4_ok : ∀ k, k < 3 → parseFieldDescriptor (TX4 k).2.2.1 = some (tyX4 k) := by decide +kernel
abbrev cX4_init : ByteArray := prog_6_method_1_code
def yX4_init : MethodName := ⟨RX4, "<init>", "()V"⟩
abbrev cX4_hoursFor : ByteArray := prog_6_method_2_code
def yX4_hoursFor : MethodName := ⟨RX4, "hoursFor", "(I)I"⟩
abbrev cX4_level : ByteArray := prog_6_method_3_code
def yX4_level : MethodName := ⟨RX4, "level", "()I"⟩
abbrev cX4_mud : ByteArray := prog_6_method_4_code
def yX4_mud : MethodName := ⟨RX4, "mud", "()I"⟩
abbrev cX4_hoursLeft : ByteArray := prog_6_method_5_code
def yX4_hoursLeft : MethodName := ⟨RX4, "hoursLeft", "()I"⟩
abbrev cX4_stir : ByteArray := prog_6_method_6_code
def yX4_stir : MethodName := ⟨RX4, "stir", "(I)V"⟩
abbrev cX4_drain : ByteArray := prog_6_method_7_code
def yX4_drain : MethodName := ⟨RX4, "drain", "(I)V"⟩
abbrev cX4_passNight : ByteArray := prog_6_method_8_code
def yX4_passNight : MethodName := ⟨RX4, "passNight", "(I)V"⟩
def RX5 : String := "DredgePond$Route"
def TX5 : u_T := fun k => match k with
  | 0 => ("DredgePond$Route", "rows", "I", true)
  | 1 => ("DredgePond$Route", "places", "I", true)
  | 2 => ("DredgePond$Route", "sums", "[I", true)
  | _ => ("DredgePond$Route", "price", "I", false)
def tyX5 : Nat → FieldType := fun k => match k with
  | 0 => .int
  | 1 => .int
  | 2 => .array .int
  | _ => .int
abbrev wsX50 : List Cond := u_ws RX5 TX5 4
theorem nmX5 : ∀ a, a < 4 → ∀ b, b < 4 → a ≠ b → (TX5 a).2.1 ≠ (TX5 b).2.1 := by decide +kernel
theorem tyX5_ok : ∀ k, k < 4 → parseFieldDescriptor (TX5 k).2.2.1 = some (tyX5 k) := by decide +kernel
abbrev cX5_init : ByteArray := prog_7_method_1_code
def yX5_init : MethodName := ⟨RX5, "<init>", "(II)V"⟩
abbrev cX5_charge : ByteArray := prog_7_method_2_code
def yX5_charge : MethodName := ⟨RX5, "charge", "(I)V"⟩
abbrev cX5_weigh : ByteArray := prog_7_method_3_code
def yX5_weigh : MethodName := ⟨RX5, "weigh", "(LDredgePond$Ground;II)V"⟩
abbrev cX5_sumFrom : ByteArray := prog_7_method_4_code
def yX5_sumFrom : MethodName := ⟨RX5, "sumFrom", "(II)I"⟩
abbrev cX5_startPlace : ByteArray := prog_7_method_5_code
def yX5_startPlace : MethodName := ⟨RX5, "startPlace", "(II)I"⟩
abbrev cX5_bestBeside : ByteArray := prog_7_method_6_code
def yX5_bestBeside : MethodName := ⟨RX5, "bestBeside", "(II)I"⟩
abbrev cX5_bestOf : ByteArray := prog_7_method_7_code
def yX5_bestOf : MethodName := ⟨RX5, "bestOf", "(III)I"⟩
abbrev cX5_tinBy : ByteArray := prog_7_method_8_code
def yX5_tinBy : MethodName := ⟨RX5, "tinBy", "(LDredgePond$Ground;III)I"⟩
def RX6 : String := "DredgePond$Trail"
def TX6 : u_T := fun k => match k with
  | 0 => ("DredgePond$Trail", "placeOf", "[I", true)
  | 1 => ("DredgePond$Trail", "dayOf", "[I", true)
  | 2 => ("DredgePond$Trail", "laidBack", "[Z", true)
  | 3 => ("DredgePond$Trail", "fined", "[Z", true)
  | 4 => ("DredgePond$Trail", "dug", "I", false)
  | _ => ("DredgePond$Trail", "laidBacks", "I", false)
def tyX6 : Nat → FieldType := fun k => match k with
  | 0 => .array .int
  | 1 => .array .int
  | 2 => .array .boolean
  | 3 => .array .boolean
  | 4 => .int
  | _ => .int
abbrev wsX60 : List Cond := u_ws RX6 TX6 6
theorem nmX6 : ∀ a, a < 6 → ∀ b, b < 6 → a ≠ b → (TX6 a).2.1 ≠ (TX6 b).2.1 := by decide +kernel
theorem tyX6_ok : ∀ k, k < 6 → parseFieldDescriptor (TX6 k).2.2.1 = some (tyX6 k) := by decide +kernel
abbrev cX6_init : ByteArray := prog_8_method_1_code
def yX6_init : MethodName := ⟨RX6, "<init>", "(I)V"⟩
abbrev cX6_nextRow : ByteArray := prog_8_method_2_code
def yX6_nextRow : MethodName := ⟨RX6, "nextRow", "()I"⟩
abbrev cX6_dredgeRow : ByteArray := prog_8_method_3_code
def yX6_dredgeRow : MethodName := ⟨RX6, "dredgeRow", "()I"⟩
abbrev cX6_dredgePlace : ByteArray := prog_8_method_4_code
def yX6_dredgePlace : MethodName := ⟨RX6, "dredgePlace", "()I"⟩
abbrev cX6_reaches : ByteArray := prog_8_method_5_code
def yX6_reaches : MethodName := ⟨RX6, "reaches", "(I)Z"⟩
abbrev cX6_isDug : ByteArray := prog_8_method_6_code
def yX6_isDug : MethodName := ⟨RX6, "isDug", "(II)Z"⟩
abbrev cX6_isLaidBack : ByteArray := prog_8_method_7_code
def yX6_isLaidBack : MethodName := ⟨RX6, "isLaidBack", "(II)Z"⟩
abbrev cX6_laidBackCount : ByteArray := prog_8_method_8_code
def yX6_laidBackCount : MethodName := ⟨RX6, "laidBackCount", "()I"⟩
abbrev cX6_goTo : ByteArray := prog_8_method_9_code
def yX6_goTo : MethodName := ⟨RX6, "goTo", "(II)V"⟩
abbrev cX6_layBack : ByteArray := prog_8_method_10_code
def yX6_layBack : MethodName := ⟨RX6, "layBack", "(II)Z"⟩
abbrev cX6_fineAll : ByteArray := prog_8_method_11_code
def yX6_fineAll : MethodName := ⟨RX6, "fineAll", "(I)I"⟩
def RX7 : String := "DredgePond"
def TX7 : u_T := fun k => match k with
  | 0 => ("DredgePond", "ground", "LDredgePond$Ground;", true)
  | 1 => ("DredgePond", "trail", "LDredgePond$Trail;", true)
  | 2 => ("DredgePond", "route", "LDredgePond$Route;", true)
  | 3 => ("DredgePond", "pond", "LDredgePond$Pond;", true)
  | 4 => ("DredgePond", "bag", "LDredgePond$Bag;", true)
  | 5 => ("DredgePond", "laws", "LDredgePond$LawBook;", true)
  | 6 => ("DredgePond", "reader", "LDredgePond$LawReader;", true)
  | 7 => ("DredgePond", "today", "I", false)
  | 8 => ("DredgePond", "fines", "I", false)
  | _ => ("DredgePond", "latestFault", "I", false)
def tyX7 : Nat → FieldType := fun k => match k with
  | 0 => .object "DredgePond$Ground"
  | 1 => .object "DredgePond$Trail"
  | 2 => .object "DredgePond$Route"
  | 3 => .object "DredgePond$Pond"
  | 4 => .object "DredgePond$Bag"
  | 5 => .object "DredgePond$LawBook"
  | 6 => .object "DredgePond$LawReader"
  | 7 => .int
  | 8 => .int
  | _ => .int
abbrev wsX70 : List Cond := u_ws RX7 TX7 10
theorem nmX7 : ∀ a, a < 10 → ∀ b, b < 10 → a ≠ b → (TX7 a).2.1 ≠ (TX7 b).2.1 := by decide +kernel
theorem tyX7_ok : ∀ k, k < 10 → parseFieldDescriptor (TX7 k).2.2.1 = some (tyX7 k) := by decide +kernel
abbrev cX7_init : ByteArray := prog_1_method_1_code
def yX7_init : MethodName := ⟨RX7, "<init>", "(II)V"⟩
abbrev cX7_depth : ByteArray := prog_1_method_2_code
def yX7_depth : MethodName := ⟨RX7, "depth", "(III)Z"⟩
abbrev cX7_grade : ByteArray := prog_1_method_3_code
def yX7_grade : MethodName := ⟨RX7, "grade", "(I)Z"⟩
abbrev cX7_bore : ByteArray := prog_1_method_4_code
def yX7_bore : MethodName := ⟨RX7, "bore", "(III)Z"⟩
abbrev cX7_square : ByteArray := prog_1_method_5_code
def yX7_square : MethodName := ⟨RX7, "square", "(III)I"⟩
abbrev cX7_cost : ByteArray := prog_1_method_6_code
def yX7_cost : MethodName := ⟨RX7, "cost", "(I)Z"⟩
abbrev cX7_path : ByteArray := prog_1_method_7_code
def yX7_path : MethodName := ⟨RX7, "path", "(II)I"⟩
abbrev cX7_next : ByteArray := prog_1_method_8_code
def yX7_next : MethodName := ⟨RX7, "next", "()I"⟩
abbrev cX7_bars : ByteArray := prog_1_method_9_code
def yX7_bars : MethodName := ⟨RX7, "bars", "(I)I"⟩
abbrev cX7_dig : ByteArray := prog_1_method_10_code
def yX7_dig : MethodName := ⟨RX7, "dig", "(II)I"⟩
abbrev cX7_jig : ByteArray := prog_1_method_11_code
def yX7_jig : MethodName := ⟨RX7, "jig", "(I)Z"⟩
abbrev cX7_let : ByteArray := prog_1_method_12_code
def yX7_let : MethodName := ⟨RX7, "let", "(I)I"⟩
abbrev cX7_day : ByteArray := prog_1_method_13_code
def yX7_day : MethodName := ⟨RX7, "day", "(I)I"⟩
abbrev cX7_back : ByteArray := prog_1_method_14_code
def yX7_back : MethodName := ⟨RX7, "back", "(II)Z"⟩
abbrev cX7_feed : ByteArray := prog_1_method_15_code
def yX7_feed : MethodName := ⟨RX7, "feed", "(IIIII)I"⟩
abbrev cX7_law : ByteArray := prog_1_method_16_code
def yX7_law : MethodName := ⟨RX7, "law", "(I)I"⟩
abbrev cX7_fault : ByteArray := prog_1_method_17_code
def yX7_fault : MethodName := ⟨RX7, "fault", "()I"⟩
abbrev cX7_tells : ByteArray := prog_1_method_18_code
def yX7_tells : MethodName := ⟨RX7, "tells", "(II)I"⟩
abbrev cX7_month : ByteArray := prog_1_method_19_code
def yX7_month : MethodName := ⟨RX7, "month", "(II)I"⟩
abbrev cX7_count : ByteArray := prog_1_method_20_code
def yX7_count : MethodName := ⟨RX7, "count", "(I)I"⟩
abbrev cX7_within : ByteArray := prog_1_method_21_code
def yX7_within : MethodName := ⟨RX7, "within", "(III)Z"⟩
abbrev cX7_oneIf : ByteArray := prog_1_method_22_code
def yX7_oneIf : MethodName := ⟨RX7, "oneIf", "(Z)I"⟩
abbrev cX7_isUndug : ByteArray := prog_1_method_23_code
def yX7_isUndug : MethodName := ⟨RX7, "isUndug", "(II)Z"⟩
abbrev cX7_lawToday : ByteArray := prog_1_method_24_code
def yX7_lawToday : MethodName := ⟨RX7, "lawToday", "(I)I"⟩
abbrev cX7_isMuddy : ByteArray := prog_1_method_25_code
def yX7_isMuddy : MethodName := ⟨RX7, "isMuddy", "()Z"⟩
abbrev cX7_bankAhead : ByteArray := prog_1_method_26_code
def yX7_bankAhead : MethodName := ⟨RX7, "bankAhead", "(I)I"⟩
def RX8 : String := "DredgePondModel"
def TX8 : u_T := fun k => match k with
  | 0 => ("DredgePondModel", "rows", "I", true)
  | 1 => ("DredgePondModel", "places", "I", true)
  | 2 => ("DredgePondModel", "depth", "[I", true)
  | 3 => ("DredgePondModel", "tin", "[I", true)
  | 4 => ("DredgePondModel", "dugOn", "[I", true)
  | 5 => ("DredgePondModel", "isTold", "[Z", true)
  | 6 => ("DredgePondModel", "isDug", "[Z", true)
  | 7 => ("DredgePondModel", "isBack", "[Z", true)
  | 8 => ("DredgePondModel", "isFined", "[Z", true)
  | 9 => ("DredgePondModel", "grade", "I", false)
  | 10 => ("DredgePondModel", "cost", "I", false)
  | 11 => ("DredgePondModel", "today", "I", false)
  | 12 => ("DredgePondModel", "row", "I", false)
  | 13 => ("DredgePondModel", "place", "I", false)
  | 14 => ("DredgePondModel", "hours", "I", false)
  | 15 => ("DredgePondModel", "level", "I", false)
  | 16 => ("DredgePondModel", "mud", "I", false)
  | 17 => ("DredgePondModel", "speed", "I", false)
  | 18 => ("DredgePondModel", "bagged", "I", false)
  | 19 => ("DredgePondModel", "lost", "I", false)
  | 20 => ("DredgePondModel", "fines", "I", false)
  | 21 => ("DredgePondModel", "months", "[I", true)
  | 22 => ("DredgePondModel", "sums", "[I", true)
  | 23 => ("DredgePondModel", "tape", "[B", true)
  | 24 => ("DredgePondModel", "text", "[B", true)
  | 25 => ("DredgePondModel", "taped", "I", false)
  | 26 => ("DredgePondModel", "size", "I", false)
  | 27 => ("DredgePondModel", "at", "I", false)
  | 28 => ("DredgePondModel", "fault", "I", false)
  | 29 => ("DredgePondModel", "laws", "I", false)
  | 30 => ("DredgePondModel", "told", "[I", true)
  | 31 => ("DredgePondModel", "taken", "[I", true)
  | 32 => ("DredgePondModel", "wordEnd", "I", false)
  | _ => ("DredgePondModel", "number", "I", false)
def tyX8 : Nat → FieldType := fun k => match k with
  | 0 => .int
  | 1 => .int
  | 2 => .array .int
  | 3 => .array .int
  | 4 => .array .int
  | 5 => .array .boolean
  | 6 => .array .boolean
  | 7 => .array .boolean
  | 8 => .array .boolean
  | 9 => .int
  | 10 => .int
  | 11 => .int
  | 12 => .int
  | 13 => .int
  | 14 => .int
  | 15 => .int
  | 16 => .int
  | 17 => .int
  | 18 => .int
  | 19 => .int
  | 20 => .int
  | 21 => .array .int
  | 22 => .array .int
  | 23 => .array .byte
  | 24 => .array .byte
  | 25 => .int
  | 26 => .int
  | 27 => .int
  | 28 => .int
  | 29 => .int
  | 30 => .array .int
  | 31 => .array .int
  | 32 => .int
  | _ => .int
abbrev wsX80 : List Cond := u_ws RX8 TX8 34
theorem nmX8 : ∀ a, a < 34 → ∀ b, b < 34 → a ≠ b → (TX8 a).2.1 ≠ (TX8 b).2.1 := by decide +kernel
theorem tyX8_ok : ∀ k, k < 34 → parseFieldDescriptor (TX8 k).2.2.1 = some (tyX8 k) := by decide +kernel
abbrev cX8_init : ByteArray := prog_10_method_1_code
def yX8_init : MethodName := ⟨RX8, "<init>", "(II)V"⟩
abbrev cX8_isIn : ByteArray := prog_10_method_2_code
def yX8_isIn : MethodName := ⟨RX8, "isIn", "(III)Z"⟩
abbrev cX8_one : ByteArray := prog_10_method_3_code
def yX8_one : MethodName := ⟨RX8, "one", "(Z)I"⟩
abbrev cX8_isSquare : ByteArray := prog_10_method_4_code
def yX8_isSquare : MethodName := ⟨RX8, "isSquare", "(II)Z"⟩
abbrev cX8_depth : ByteArray := prog_10_method_5_code
def yX8_depth : MethodName := ⟨RX8, "depth", "(III)Z"⟩
abbrev cX8_grade : ByteArray := prog_10_method_6_code
def yX8_grade : MethodName := ⟨RX8, "grade", "(I)Z"⟩
abbrev cX8_learns : ByteArray := prog_10_method_7_code
def yX8_learns : MethodName := ⟨RX8, "learns", "(II)V"⟩
abbrev cX8_bore : ByteArray := prog_10_method_8_code
def yX8_bore : MethodName := ⟨RX8, "bore", "(III)Z"⟩
abbrev cX8_cost : ByteArray := prog_10_method_9_code
def yX8_cost : MethodName := ⟨RX8, "cost", "(I)Z"⟩
abbrev cX8_end : ByteArray := prog_10_method_10_code
def yX8_end : MethodName := ⟨RX8, "end", "(IIZ)I"⟩
abbrev cX8_quarrels : ByteArray := prog_10_method_11_code
def yX8_quarrels : MethodName := ⟨RX8, "quarrels", "(II)Z"⟩
abbrev cX8_square : ByteArray := prog_10_method_12_code
def yX8_square : MethodName := ⟨RX8, "square", "(III)I"⟩
abbrev cX8_tinBy : ByteArray := prog_10_method_13_code
def yX8_tinBy : MethodName := ⟨RX8, "tinBy", "(III)I"⟩
abbrev cX8_best : ByteArray := prog_10_method_14_code
def yX8_best : MethodName := ⟨RX8, "best", "(II)I"⟩
abbrev cX8_path : ByteArray := prog_10_method_15_code
def yX8_path : MethodName := ⟨RX8, "path", "(II)I"⟩
abbrev cX8_next : ByteArray := prog_10_method_16_code
def yX8_next : MethodName := ⟨RX8, "next", "()I"⟩
abbrev cX8_bars : ByteArray := prog_10_method_17_code
def yX8_bars : MethodName := ⟨RX8, "bars", "(I)I"⟩
abbrev cX8_dig : ByteArray := prog_10_method_18_code
def yX8_dig : MethodName := ⟨RX8, "dig", "(II)I"⟩
abbrev cX8_jig : ByteArray := prog_10_method_19_code
def yX8_jig : MethodName := ⟨RX8, "jig", "(I)Z"⟩
abbrev cX8_let : ByteArray := prog_10_method_20_code
def yX8_let : MethodName := ⟨RX8, "let", "(I)I"⟩
abbrev cX8_day : ByteArray := prog_10_method_21_code
def yX8_day : MethodName := ⟨RX8, "day", "(I)I"⟩
abbrev cX8_back : ByteArray := prog_10_method_22_code
def yX8_back : MethodName := ⟨RX8, "back", "(II)Z"⟩
abbrev cX8_feed : ByteArray := prog_10_method_23_code
def yX8_feed : MethodName := ⟨RX8, "feed", "(IIIII)I"⟩
abbrev cX8_four : ByteArray := prog_10_method_24_code
def yX8_four : MethodName := ⟨RX8, "four", "(I)V"⟩
abbrev cX8_blanks : ByteArray := prog_10_method_25_code
def yX8_blanks : MethodName := ⟨RX8, "blanks", "()V"⟩
abbrev cX8_word : ByteArray := prog_10_method_26_code
def yX8_word : MethodName := ⟨RX8, "word", "()J"⟩
abbrev cX8_takes : ByteArray := prog_10_method_27_code
def yX8_takes : MethodName := ⟨RX8, "takes", "(J)Z"⟩
abbrev cX8_takesNumber : ByteArray := prog_10_method_28_code
def yX8_takesNumber : MethodName := ⟨RX8, "takesNumber", "()Z"⟩
abbrev cX8_plain : ByteArray := prog_10_method_29_code
def yX8_plain : MethodName := ⟨RX8, "plain", "(I)I"⟩
abbrev cX8_statement : ByteArray := prog_10_method_30_code
def yX8_statement : MethodName := ⟨RX8, "statement", "(I)Z"⟩
abbrev cX8_law : ByteArray := prog_10_method_31_code
def yX8_law : MethodName := ⟨RX8, "law", "(I)I"⟩
abbrev cX8_fault : ByteArray := prog_10_method_32_code
def yX8_fault : MethodName := ⟨RX8, "fault", "()I"⟩
abbrev cX8_inForce : ByteArray := prog_10_method_33_code
def yX8_inForce : MethodName := ⟨RX8, "inForce", "(I)I"⟩
abbrev cX8_tellsOn : ByteArray := prog_10_method_34_code
def yX8_tellsOn : MethodName := ⟨RX8, "tellsOn", "(II)I"⟩
abbrev cX8_now : ByteArray := prog_10_method_35_code
def yX8_now : MethodName := ⟨RX8, "now", "(I)I"⟩
abbrev cX8_tells : ByteArray := prog_10_method_36_code
def yX8_tells : MethodName := ⟨RX8, "tells", "(II)I"⟩
abbrev cX8_month : ByteArray := prog_10_method_37_code
def yX8_month : MethodName := ⟨RX8, "month", "(II)I"⟩
abbrev cX8_count : ByteArray := prog_10_method_38_code
def yX8_count : MethodName := ⟨RX8, "count", "(I)I"⟩
def RJ9 : String := "java/lang/Math"
def TJ9 : u_T := fun k => match k with
  | _ => ("", "", "", false)
def tyJ9 : Nat → FieldType := fun k => match k with
  | _ => .int
abbrev wsJ90 : List Cond := u_ws RJ9 TJ9 0
theorem nmJ9 : ∀ a, a < 0 → ∀ b, b < 0 → a ≠ b → (TJ9 a).2.1 ≠ (TJ9 b).2.1 := by decide +kernel
theorem tyJ9_ok : ∀ k, k < 0 → parseFieldDescriptor (TJ9 k).2.2.1 = some (tyJ9 k) := by decide +kernel
abbrev cJ9_abs_0f7a4 : ByteArray := prog_11_method_59_code
def yJ9_abs_0f7a4 : MethodName := ⟨RJ9, "abs", "(I)I"⟩
abbrev cJ9_max_7cf53 : ByteArray := prog_11_method_65_code
def yJ9_max_7cf53 : MethodName := ⟨RJ9, "max", "(II)I"⟩
abbrev cJ9_min_7cf53 : ByteArray := prog_11_method_69_code
def yJ9_min_7cf53 : MethodName := ⟨RJ9, "min", "(II)I"⟩
def RJ0 : String := "java/lang/String"
def TJ0 : u_T := fun k => match k with
  | _ => ("", "", "", false)
def tyJ0 : Nat → FieldType := fun k => match k with
  | _ => .int
abbrev wsJ00 : List Cond := u_ws RJ0 TJ0 0
theorem nmJ0 : ∀ a, a < 0 → ∀ b, b < 0 → a ≠ b → (TJ0 a).2.1 ≠ (TJ0 b).2.1 := by decide +kernel
theorem tyJ0_ok : ∀ k, k < 0 → parseFieldDescriptor (TJ0 k).2.2.1 = some (tyJ0 k) := by decide +kernel
abbrev cJ0_length_8abf5 : ByteArray := prog_12_method_54_code
def yJ0_length_8abf5 : MethodName := ⟨RJ0, "length", "()I"⟩
abbrev cJ0_charAt_5068e : ByteArray := prog_12_method_56_code
def yJ0_charAt_5068e : MethodName := ⟨RJ0, "charAt", "(I)C"⟩
abbrev cJ0_coder_7d493 : ByteArray := prog_12_method_152_code
def yJ0_coder_7d493 : MethodName := ⟨RJ0, "coder", "()B"⟩
abbrev cJ0_isLatin1_aae02 : ByteArray := prog_12_method_154_code
def yJ0_isLatin1_aae02 : MethodName := ⟨RJ0, "isLatin1", "()Z"⟩
abbrev cJ0_checkIndex_df160 : ByteArray := prog_12_method_155_code
def yJ0_checkIndex_df160 : MethodName := ⟨RJ0, "checkIndex", "(II)V"⟩
def RJ1 : String := "java/lang/StringLatin1"
def TJ1 : u_T := fun k => match k with
  | _ => ("", "", "", false)
def tyJ1 : Nat → FieldType := fun k => match k with
  | _ => .int
abbrev wsJ10 : List Cond := u_ws RJ1 TJ1 0
theorem nmJ1 : ∀ a, a < 0 → ∀ b, b < 0 → a ≠ b → (TJ1 a).2.1 ≠ (TJ1 b).2.1 := by decide +kernel
theorem tyJ1_ok : ∀ k, k < 0 → parseFieldDescriptor (TJ1 k).2.2.1 = some (tyJ1 k) := by decide +kernel
abbrev cJ1_charAt_3b067 : ByteArray := prog_13_method_2_code
def yJ1_charAt_3b067 : MethodName := ⟨RJ1, "charAt", "([BI)C"⟩
def RJ2 : String := "java/lang/StringUTF16"
def TJ2 : u_T := fun k => match k with
  | _ => ("", "", "", false)
def tyJ2 : Nat → FieldType := fun k => match k with
  | _ => .int
abbrev wsJ20 : List Cond := u_ws RJ2 TJ2 0
theorem nmJ2 : ∀ a, a < 0 → ∀ b, b < 0 → a ≠ b → (TJ2 a).2.1 ≠ (TJ2 b).2.1 := by decide +kernel
theorem tyJ2_ok : ∀ k, k < 0 → parseFieldDescriptor (TJ2 k).2.2.1 = some (tyJ2 k) := by decide +kernel
abbrev cJ2_getChar_3b067 : ByteArray := prog_14_method_5_code
def yJ2_getChar_3b067 : MethodName := ⟨RJ2, "getChar", "([BI)C"⟩
abbrev cJ2_length_9d52b : ByteArray := prog_14_method_6_code
def yJ2_length_9d52b : MethodName := ⟨RJ2, "length", "([B)I"⟩
abbrev cJ2_charAt_3b067 : ByteArray := prog_14_method_83_code
def yJ2_charAt_3b067 : MethodName := ⟨RJ2, "charAt", "([BI)C"⟩
abbrev cJ2_checkIndex_2214a : ByteArray := prog_14_method_91_code
def yJ2_checkIndex_2214a : MethodName := ⟨RJ2, "checkIndex", "(I[B)V"⟩
def RJ3 : String := "jdk/internal/util/Preconditions"
def TJ3 : u_T := fun k => match k with
  | _ => ("", "", "", false)
def tyJ3 : Nat → FieldType := fun k => match k with
  | _ => .int
abbrev wsJ30 : List Cond := u_ws RJ3 TJ3 0
theorem nmJ3 : ∀ a, a < 0 → ∀ b, b < 0 → a ≠ b → (TJ3 a).2.1 ≠ (TJ3 b).2.1 := by decide +kernel
theorem tyJ3_ok : ∀ k, k < 0 → parseFieldDescriptor (TJ3 k).2.2.1 = some (tyJ3 k) := by decide +kernel
abbrev cJ3_checkIndex_8e157 : ByteArray := prog_15_method_11_code
def yJ3_checkIndex_8e157 : MethodName := ⟨RJ3, "checkIndex", "(IILjava/util/function/BiFunction;)I"⟩
def RL : String := "DredgePondLaw"
abbrev cL_cell : ByteArray := method_2_code
def yL_cell : MethodName := ⟨RL, "cell", "([II)I"⟩
abbrev cL_law : ByteArray := code
def yL_law : MethodName := ⟨RL, "law", "([I)Z"⟩
def wsX0_init : List Cond := .code yX0_init cX0_init 1 none :: ([.methodLink RX0 3 objectInit, .instanceMethod objectInit, .code objectInit ⟨#[0xb1]⟩ 1 none, .arrayClass .int, .fieldLink RX0 9 "DredgePond$Bag" "months" "[I", .fieldLink RX0 15 "DredgePond$Bag" "whole" "I", .fieldLink RX0 19 "DredgePond$Bag" "gone" "I", .fieldLink RX0 22 "DredgePond$Bag" "pace" "I"] ++ wsX00)
def wsX0_run : List Cond := .code yX0_run cX0_run 2 none :: ([.fieldLink RX0 22 "DredgePond$Bag" "pace" "I"] ++ wsX00)
def wsX7_within : List Cond := .code yX7_within cX7_within 3 (some .boolean) :: ([])
def wsX0_fill : List Cond := .code yX0_fill cX0_fill 5 (some .int) :: ([.fieldLink RX0 22 "DredgePond$Bag" "pace" "I", .fieldLink RX0 19 "DredgePond$Bag" "gone" "I", .fieldLink RX0 15 "DredgePond$Bag" "whole" "I", .fieldLink RX0 9 "DredgePond$Bag" "months" "[I", .static yX7_within, .initialized RX7, .code yX7_within cX7_within 3 (some .boolean)] ++ wsX00)
def wsX0_inMonth : List Cond := .code yX0_inMonth cX0_inMonth 2 (some .int) :: ([.fieldLink RX0 9 "DredgePond$Bag" "months" "[I", .static yX7_within, .initialized RX7, .code yX7_within cX7_within 3 (some .boolean)] ++ wsX00)
def wsX0_inAll : List Cond := .code yX0_inAll cX0_inAll 1 (some .int) :: ([.fieldLink RX0 15 "DredgePond$Bag" "whole" "I"] ++ wsX00)
def wsX0_lost : List Cond := .code yX0_lost cX0_lost 1 (some .int) :: ([.fieldLink RX0 19 "DredgePond$Bag" "gone" "I"] ++ wsX00)
def wsX1_init : List Cond := .code yX1_init cX1_init 5 none :: ([.methodLink RX1 3 objectInit, .instanceMethod objectInit, .code objectInit ⟨#[0xb1]⟩ 1 none, .fieldLink RX1 11 "DredgePond$Ground" "gradient" "I", .fieldLink RX1 15 "DredgePond$Ground" "rows" "I", .fieldLink RX1 18 "DredgePond$Ground" "places" "I", .arrayClass .int, .fieldLink RX1 21 "DredgePond$Ground" "depths" "[I", .fieldLink RX1 25 "DredgePond$Ground" "tins" "[I", .fieldLink RX1 28 "DredgePond$Ground" "least" "[I", .fieldLink RX1 31 "DredgePond$Ground" "greatest" "[I"] ++ wsX10)
def wsX1_rowCount : List Cond := .code yX1_rowCount cX1_rowCount 1 (some .int) :: ([.fieldLink RX1 15 "DredgePond$Ground" "rows" "I"] ++ wsX10)
def wsX1_has : List Cond := .code yX1_has cX1_has 3 (some .boolean) :: ([.fieldLink RX1 15 "DredgePond$Ground" "rows" "I", .fieldLink RX1 18 "DredgePond$Ground" "places" "I", .static yX7_within, .initialized RX7, .code yX7_within cX7_within 3 (some .boolean)] ++ wsX10)
def wsX1_depthAt : List Cond := .code yX1_depthAt cX1_depthAt 3 (some .int) :: ([.fieldLink RX1 21 "DredgePond$Ground" "depths" "[I", .fieldLink RX1 18 "DredgePond$Ground" "places" "I"] ++ wsX10)
def wsX1_deepen : List Cond := .code yX1_deepen cX1_deepen 4 none :: ([.fieldLink RX1 21 "DredgePond$Ground" "depths" "[I", .fieldLink RX1 18 "DredgePond$Ground" "places" "I"] ++ wsX10)
def wsX1_isTold : List Cond := .code yX1_isTold cX1_isTold 3 (some .boolean) :: ([.fieldLink RX1 25 "DredgePond$Ground" "tins" "[I", .fieldLink RX1 18 "DredgePond$Ground" "places" "I"] ++ wsX10)
def wsX1_openSpans : List Cond := .code yX1_openSpans cX1_openSpans 3 none :: ([.fieldLink RX1 25 "DredgePond$Ground" "tins" "[I", .fieldLink RX1 28 "DredgePond$Ground" "least" "[I", .fieldLink RX1 31 "DredgePond$Ground" "greatest" "[I"] ++ wsX10)
def wsX1_narrow : List Cond := .code yX1_narrow cX1_narrow 3 none :: ([.fieldLink RX1 28 "DredgePond$Ground" "least" "[I", .fieldLink RX1 11 "DredgePond$Ground" "gradient" "I", .methodLink RX1 68 Lib.Math.max.name, .static Lib.Math.max.name, .initialized "java/lang/Math", .code Lib.Math.max.name Lib.Math.max.code 2 (some .int), .fieldLink RX1 31 "DredgePond$Ground" "greatest" "[I", .methodLink RX1 73 Lib.Math.min.name, .static Lib.Math.min.name, .code Lib.Math.min.name Lib.Math.min.code 2 (some .int)] ++ wsX10)
def wsX1_sweepDown : List Cond := .code yX1_sweepDown cX1_sweepDown 4 none :: ([.fieldLink RX1 15 "DredgePond$Ground" "rows" "I", .fieldLink RX1 18 "DredgePond$Ground" "places" "I", .methodLink RX1 64 yX1_narrow, .instanceMethod yX1_narrow, .selects RX1 yX1_narrow yX1_narrow, .initialized RX1, .code yX1_narrow cX1_narrow 3 none, .fieldLink RX1 28 "DredgePond$Ground" "least" "[I", .fieldLink RX1 11 "DredgePond$Ground" "gradient" "I", .methodLink RX1 68 Lib.Math.max.name, .static Lib.Math.max.name, .initialized "java/lang/Math", .code Lib.Math.max.name Lib.Math.max.code 2 (some .int), .fieldLink RX1 31 "DredgePond$Ground" "greatest" "[I", .methodLink RX1 73 Lib.Math.min.name, .static Lib.Math.min.name, .code Lib.Math.min.name Lib.Math.min.code 2 (some .int)] ++ wsX10)
def wsX1_sweepUp : List Cond := .code yX1_sweepUp cX1_sweepUp 4 none :: ([.fieldLink RX1 15 "DredgePond$Ground" "rows" "I", .fieldLink RX1 18 "DredgePond$Ground" "places" "I", .methodLink RX1 64 yX1_narrow, .instanceMethod yX1_narrow, .selects RX1 yX1_narrow yX1_narrow, .initialized RX1, .code yX1_narrow cX1_narrow 3 none, .fieldLink RX1 28 "DredgePond$Ground" "least" "[I", .fieldLink RX1 11 "DredgePond$Ground" "gradient" "I", .methodLink RX1 68 Lib.Math.max.name, .static Lib.Math.max.name, .initialized "java/lang/Math", .code Lib.Math.max.name Lib.Math.max.code 2 (some .int), .fieldLink RX1 31 "DredgePond$Ground" "greatest" "[I", .methodLink RX1 73 Lib.Math.min.name, .static Lib.Math.min.name, .code Lib.Math.min.name Lib.Math.min.code 2 (some .int)] ++ wsX10)
def wsX1_closeToldSpans : List Cond := .code yX1_closeToldSpans cX1_closeToldSpans 2 none :: ([.fieldLink RX1 25 "DredgePond$Ground" "tins" "[I", .fieldLink RX1 28 "DredgePond$Ground" "least" "[I", .fieldLink RX1 31 "DredgePond$Ground" "greatest" "[I"] ++ wsX10)
def wsX1_narrowAll_r1 : List Cond := [Cond.methodLink RX1 52 yX1_openSpans, Cond.instanceMethod yX1_openSpans, Cond.selects RX1 yX1_openSpans yX1_openSpans, Cond.initialized RX1, Cond.code yX1_openSpans cX1_openSpans 3 none, Cond.fieldLink RX1 25 "DredgePond$Ground" "tins" "[I", Cond.fieldLink RX1 28 "DredgePond$Ground" "least" "[I", Cond.fieldLink RX1 31 "DredgePond$Ground" "greatest" "[I", Cond.methodLink RX1 55 yX1_sweepDown, Cond.instanceMethod yX1_sweepDown, Cond.selects RX1 yX1_sweepDown yX1_sweepDown, Cond.code yX1_sweepDown cX1_sweepDown 4 none, Cond.fieldLink RX1 15 "DredgePond$Ground" "rows" "I", Cond.fieldLink RX1 18 "DredgePond$Ground" "places" "I", Cond.methodLink RX1 64 yX1_narrow, Cond.instanceMethod yX1_narrow, Cond.selects RX1 yX1_narrow yX1_narrow, Cond.code yX1_narrow cX1_narrow 3 none, Cond.fieldLink RX1 11 "DredgePond$Ground" "gradient" "I", Cond.methodLink RX1 68 Lib.Math.max.name, Cond.static Lib.Math.max.name, Cond.initialized "java/lang/Math", Cond.code Lib.Math.max.name Lib.Math.max.code 2 (some .int), Cond.methodLink RX1 73 Lib.Math.min.name]
def wsX1_narrowAll_r2 : List Cond := [Cond.static Lib.Math.min.name, Cond.code Lib.Math.min.name Lib.Math.min.code 2 (some .int), Cond.methodLink RX1 58 yX1_sweepUp, Cond.instanceMethod yX1_sweepUp, Cond.selects RX1 yX1_sweepUp yX1_sweepUp, Cond.code yX1_sweepUp cX1_sweepUp 4 none, Cond.methodLink RX1 61 yX1_closeToldSpans, Cond.instanceMethod yX1_closeToldSpans, Cond.selects RX1 yX1_closeToldSpans yX1_closeToldSpans, Cond.code yX1_closeToldSpans cX1_closeToldSpans 2 none]
def wsX1_narrowAll : List Cond := .code yX1_narrowAll cX1_narrowAll 1 none :: ((wsX1_narrowAll_r1 ++ wsX1_narrowAll_r2) ++ wsX10)
def wsX1_tell_r1 : List Cond := [Cond.fieldLink RX1 25 "DredgePond$Ground" "tins" "[I", Cond.fieldLink RX1 18 "DredgePond$Ground" "places" "I", Cond.methodLink RX1 38 yX1_narrowAll, Cond.instanceMethod yX1_narrowAll, Cond.selects RX1 yX1_narrowAll yX1_narrowAll, Cond.initialized RX1, Cond.code yX1_narrowAll cX1_narrowAll 1 none, Cond.methodLink RX1 52 yX1_openSpans, Cond.instanceMethod yX1_openSpans, Cond.selects RX1 yX1_openSpans yX1_openSpans, Cond.code yX1_openSpans cX1_openSpans 3 none, Cond.fieldLink RX1 28 "DredgePond$Ground" "least" "[I", Cond.fieldLink RX1 31 "DredgePond$Ground" "greatest" "[I", Cond.methodLink RX1 55 yX1_sweepDown, Cond.instanceMethod yX1_sweepDown, Cond.selects RX1 yX1_sweepDown yX1_sweepDown, Cond.code yX1_sweepDown cX1_sweepDown 4 none, Cond.fieldLink RX1 15 "DredgePond$Ground" "rows" "I", Cond.methodLink RX1 64 yX1_narrow, Cond.instanceMethod yX1_narrow, Cond.selects RX1 yX1_narrow yX1_narrow, Cond.code yX1_narrow cX1_narrow 3 none, Cond.fieldLink RX1 11 "DredgePond$Ground" "gradient" "I", Cond.methodLink RX1 68 Lib.Math.max.name]
def wsX1_tell_r2 : List Cond := [Cond.static Lib.Math.max.name, Cond.initialized "java/lang/Math", Cond.code Lib.Math.max.name Lib.Math.max.code 2 (some .int), Cond.methodLink RX1 73 Lib.Math.min.name, Cond.static Lib.Math.min.name, Cond.code Lib.Math.min.name Lib.Math.min.code 2 (some .int), Cond.methodLink RX1 58 yX1_sweepUp, Cond.instanceMethod yX1_sweepUp, Cond.selects RX1 yX1_sweepUp yX1_sweepUp, Cond.code yX1_sweepUp cX1_sweepUp 4 none, Cond.methodLink RX1 61 yX1_closeToldSpans, Cond.instanceMethod yX1_closeToldSpans, Cond.selects RX1 yX1_closeToldSpans yX1_closeToldSpans, Cond.code yX1_closeToldSpans cX1_closeToldSpans 2 none]
def wsX1_tell : List Cond := .code yX1_tell cX1_tell 4 none :: ((wsX1_tell_r1 ++ wsX1_tell_r2) ++ wsX10)
def wsX1_slope_r1 : List Cond := [Cond.fieldLink RX1 11 "DredgePond$Ground" "gradient" "I", Cond.methodLink RX1 38 yX1_narrowAll, Cond.instanceMethod yX1_narrowAll, Cond.selects RX1 yX1_narrowAll yX1_narrowAll, Cond.initialized RX1, Cond.code yX1_narrowAll cX1_narrowAll 1 none, Cond.methodLink RX1 52 yX1_openSpans, Cond.instanceMethod yX1_openSpans, Cond.selects RX1 yX1_openSpans yX1_openSpans, Cond.code yX1_openSpans cX1_openSpans 3 none, Cond.fieldLink RX1 25 "DredgePond$Ground" "tins" "[I", Cond.fieldLink RX1 28 "DredgePond$Ground" "least" "[I", Cond.fieldLink RX1 31 "DredgePond$Ground" "greatest" "[I", Cond.methodLink RX1 55 yX1_sweepDown, Cond.instanceMethod yX1_sweepDown, Cond.selects RX1 yX1_sweepDown yX1_sweepDown, Cond.code yX1_sweepDown cX1_sweepDown 4 none, Cond.fieldLink RX1 15 "DredgePond$Ground" "rows" "I", Cond.fieldLink RX1 18 "DredgePond$Ground" "places" "I", Cond.methodLink RX1 64 yX1_narrow, Cond.instanceMethod yX1_narrow, Cond.selects RX1 yX1_narrow yX1_narrow, Cond.code yX1_narrow cX1_narrow 3 none, Cond.methodLink RX1 68 Lib.Math.max.name]
def wsX1_slope_r2 : List Cond := [Cond.static Lib.Math.max.name, Cond.initialized "java/lang/Math", Cond.code Lib.Math.max.name Lib.Math.max.code 2 (some .int), Cond.methodLink RX1 73 Lib.Math.min.name, Cond.static Lib.Math.min.name, Cond.code Lib.Math.min.name Lib.Math.min.code 2 (some .int), Cond.methodLink RX1 58 yX1_sweepUp, Cond.instanceMethod yX1_sweepUp, Cond.selects RX1 yX1_sweepUp yX1_sweepUp, Cond.code yX1_sweepUp cX1_sweepUp 4 none, Cond.methodLink RX1 61 yX1_closeToldSpans, Cond.instanceMethod yX1_closeToldSpans, Cond.selects RX1 yX1_closeToldSpans yX1_closeToldSpans, Cond.code yX1_closeToldSpans cX1_closeToldSpans 2 none]
def wsX1_slope : List Cond := .code yX1_slope cX1_slope 2 none :: ((wsX1_slope_r1 ++ wsX1_slope_r2) ++ wsX10)
def wsX1_leastAt : List Cond := .code yX1_leastAt cX1_leastAt 3 (some .int) :: ([.fieldLink RX1 28 "DredgePond$Ground" "least" "[I", .fieldLink RX1 18 "DredgePond$Ground" "places" "I"] ++ wsX10)
def wsX1_greatestAt : List Cond := .code yX1_greatestAt cX1_greatestAt 3 (some .int) :: ([.fieldLink RX1 31 "DredgePond$Ground" "greatest" "[I", .fieldLink RX1 18 "DredgePond$Ground" "places" "I"] ++ wsX10)
def wsX1_quarrelsAt : List Cond := .code yX1_quarrelsAt cX1_quarrelsAt 3 (some .boolean) :: ([.methodLink RX1 41 yX1_leastAt, .instanceMethod yX1_leastAt, .selects RX1 yX1_leastAt yX1_leastAt, .initialized RX1, .code yX1_leastAt cX1_leastAt 3 (some .int), .fieldLink RX1 28 "DredgePond$Ground" "least" "[I", .fieldLink RX1 18 "DredgePond$Ground" "places" "I", .methodLink RX1 45 yX1_greatestAt, .instanceMethod yX1_greatestAt, .selects RX1 yX1_greatestAt yX1_greatestAt, .code yX1_greatestAt cX1_greatestAt 3 (some .int), .fieldLink RX1 31 "DredgePond$Ground" "greatest" "[I"] ++ wsX10)
def wsX1_quarrels : List Cond := .code yX1_quarrels cX1_quarrels 3 (some .int) :: ([.fieldLink RX1 28 "DredgePond$Ground" "least" "[I", .fieldLink RX1 31 "DredgePond$Ground" "greatest" "[I"] ++ wsX10)
def wsX1_widestFrom : List Cond := .code yX1_widestFrom cX1_widestFrom 7 (some .int) :: ([.fieldLink RX1 15 "DredgePond$Ground" "rows" "I", .fieldLink RX1 18 "DredgePond$Ground" "places" "I", .methodLink RX1 48 yX1_isTold, .instanceMethod yX1_isTold, .selects RX1 yX1_isTold yX1_isTold, .initialized RX1, .code yX1_isTold cX1_isTold 3 (some .boolean), .fieldLink RX1 25 "DredgePond$Ground" "tins" "[I", .methodLink RX1 45 yX1_greatestAt, .instanceMethod yX1_greatestAt, .selects RX1 yX1_greatestAt yX1_greatestAt, .code yX1_greatestAt cX1_greatestAt 3 (some .int), .fieldLink RX1 31 "DredgePond$Ground" "greatest" "[I", .methodLink RX1 41 yX1_leastAt, .instanceMethod yX1_leastAt, .selects RX1 yX1_leastAt yX1_leastAt, .code yX1_leastAt cX1_leastAt 3 (some .int), .fieldLink RX1 28 "DredgePond$Ground" "least" "[I"] ++ wsX10)
def wsX2_init : List Cond := .code yX2_init cX2_init 1 none :: ([.methodLink RX2 3 objectInit, .instanceMethod objectInit, .code objectInit ⟨#[0xb1]⟩ 1 none, .arrayClass .int, .fieldLink RX2 11 "DredgePond$LawBook" "terms" "[I", .fieldLink RX2 15 "DredgePond$LawBook" "since" "[I", .fieldLink RX2 18 "DredgePond$LawBook" "taken" "I"] ++ wsX20)
def wsX2_usual : List Cond := .code yX2_usual cX2_usual 1 (some .int) :: ([.fieldLink RX2 26 "DredgePond$LawBook" "USUAL" "[I", .static yX7_within, .initialized RX7, .code yX7_within cX7_within 3 (some .boolean)])
def wsX2_size : List Cond := .code yX2_size cX2_size 1 (some .int) :: ([.fieldLink RX2 18 "DredgePond$LawBook" "taken" "I"] ++ wsX20)
def wsX2_isFull : List Cond := .code yX2_isFull cX2_isFull 1 (some .boolean) :: ([.fieldLink RX2 18 "DredgePond$LawBook" "taken" "I"] ++ wsX20)
def wsX3_termRead : List Cond := .code yX3_termRead cX3_termRead 2 (some .int) :: ([.fieldLink RX3 17 "DredgePond$LawReader" "terms" "[I", .static yX7_within, .initialized RX7, .code yX7_within cX7_within 3 (some .boolean)] ++ wsX30)
def wsX2_take : List Cond := .code yX2_take cX2_take 5 (some .int) :: ([.fieldLink RX2 18 "DredgePond$LawBook" "taken" "I", .fieldLink RX2 11 "DredgePond$LawBook" "terms" "[I", .fieldLink RX2 15 "DredgePond$LawBook" "since" "[I", .methodLink RX2 29 yX2_isFull, .instanceMethod yX2_isFull, .selects RX2 yX2_isFull yX2_isFull, .initialized RX2, .code yX2_isFull cX2_isFull 1 (some .boolean), .methodLink RX2 33 yX3_termRead, .instanceMethod yX3_termRead, .selects RX3 yX3_termRead yX3_termRead, .initialized RX3, .code yX3_termRead cX3_termRead 2 (some .int), .fieldLink RX3 17 "DredgePond$LawReader" "terms" "[I", .static yX7_within, .initialized RX7, .code yX7_within cX7_within 3 (some .boolean)] ++ wsX20 ++ wsX30)
def wsX2_inForce : List Cond := .code yX2_inForce cX2_inForce 3 (some .int) :: ([.fieldLink RX2 18 "DredgePond$LawBook" "taken" "I", .fieldLink RX2 15 "DredgePond$LawBook" "since" "[I"] ++ wsX20)
def wsX2_term : List Cond := .code yX2_term cX2_term 4 (some .int) :: ([.fieldLink RX2 11 "DredgePond$LawBook" "terms" "[I", .methodLink RX2 39 yX2_inForce, .instanceMethod yX2_inForce, .selects RX2 yX2_inForce yX2_inForce, .initialized RX2, .code yX2_inForce cX2_inForce 3 (some .int), .fieldLink RX2 18 "DredgePond$LawBook" "taken" "I", .fieldLink RX2 15 "DredgePond$LawBook" "since" "[I", .static yX7_within, .initialized RX7, .code yX7_within cX7_within 3 (some .boolean), .methodLink RX2 42 yX2_usual, .static yX2_usual, .code yX2_usual cX2_usual 1 (some .int), .fieldLink RX2 26 "DredgePond$LawBook" "USUAL" "[I"] ++ wsX20)
def wsX3_init : List Cond := .code yX3_init cX3_init 1 none :: ([.methodLink RX3 3 objectInit, .instanceMethod objectInit, .code objectInit ⟨#[0xb1]⟩ 1 none, .arrayClass .int, .fieldLink RX3 11 "DredgePond$LawReader" "tape" "[I", .fieldLink RX3 17 "DredgePond$LawReader" "terms" "[I", .fieldLink RX3 20 "DredgePond$LawReader" "bytes" "I", .fieldLink RX3 24 "DredgePond$LawReader" "length" "I", .fieldLink RX3 27 "DredgePond$LawReader" "kind" "I", .fieldLink RX3 30 "DredgePond$LawReader" "start" "I", .fieldLink RX3 33 "DredgePond$LawReader" "stop" "I"] ++ wsX30)
def wsX3_size : List Cond := .code yX3_size cX3_size 1 (some .int) :: ([.fieldLink RX3 20 "DredgePond$LawReader" "bytes" "I"] ++ wsX30)
def wsX3_hasRoom : List Cond := .code yX3_hasRoom cX3_hasRoom 1 (some .boolean) :: ([.fieldLink RX3 20 "DredgePond$LawReader" "bytes" "I"] ++ wsX30)
def wsX3_append : List Cond := .code yX3_append cX3_append 3 none :: ([.fieldLink RX3 20 "DredgePond$LawReader" "bytes" "I", .fieldLink RX3 11 "DredgePond$LawReader" "tape" "[I"] ++ wsX30)
def wsX3_isBlank : List Cond := .code yX3_isBlank cX3_isBlank 1 (some .boolean) :: ([])
def wsX3_kindOf : List Cond := .code yX3_kindOf cX3_kindOf 1 (some .int) :: ([.static yX7_within, .initialized RX7, .code yX7_within cX7_within 3 (some .boolean)])
def wsX3_scan : List Cond := .code yX3_scan cX3_scan 1 none :: ([.fieldLink RX3 33 "DredgePond$LawReader" "stop" "I", .fieldLink RX3 30 "DredgePond$LawReader" "start" "I", .fieldLink RX3 24 "DredgePond$LawReader" "length" "I", .fieldLink RX3 11 "DredgePond$LawReader" "tape" "[I", .fieldLink RX3 27 "DredgePond$LawReader" "kind" "I", .methodLink RX3 97 yX3_isBlank, .static yX3_isBlank, .initialized RX3, .code yX3_isBlank cX3_isBlank 1 (some .boolean), .methodLink RX3 100 yX3_kindOf, .static yX3_kindOf, .code yX3_kindOf cX3_kindOf 1 (some .int), .static yX7_within, .initialized RX7, .code yX7_within cX7_within 3 (some .boolean)] ++ wsX30)
def wsJ0_coder_7d493 : List Cond := .code yJ0_coder_7d493 cJ0_coder_7d493 1 (some .byte) :: ([.fieldLink RJ0 38 "java/lang/String" "COMPACT_STRINGS" "Z", .fieldLink RJ0 15 "java/lang/String" "coder" "B"])
def wsJ0_length_8abf5 : List Cond := .code yJ0_length_8abf5 cJ0_length_8abf5 1 (some .int) :: ([.fieldLink RJ0 9 "java/lang/String" "value" "[B", .methodLink RJ0 335 yJ0_coder_7d493, .instanceMethod yJ0_coder_7d493, .selects RJ0 yJ0_coder_7d493 yJ0_coder_7d493, .initialized RJ0, .code yJ0_coder_7d493 cJ0_coder_7d493 1 (some .byte), .fieldLink RJ0 38 "java/lang/String" "COMPACT_STRINGS" "Z", .fieldLink RJ0 15 "java/lang/String" "coder" "B"])
def wsJ0_isLatin1_aae02 : List Cond := .code yJ0_isLatin1_aae02 cJ0_isLatin1_aae02 1 (some .boolean) :: ([.fieldLink RJ0 38 "java/lang/String" "COMPACT_STRINGS" "Z", .fieldLink RJ0 15 "java/lang/String" "coder" "B"])
def wsJ3_checkIndex_8e157 : List Cond := .code yJ3_checkIndex_8e157 cJ3_checkIndex_8e157 3 (some .int) :: ([])
def wsJ0_checkIndex_df160 : List Cond := .code yJ0_checkIndex_df160 cJ0_checkIndex_df160 2 none :: ([.fieldLink RJ0 1053 "jdk/internal/util/Preconditions" "SIOOBE_FORMATTER" "Ljava/util/function/BiFunction;", .methodLink RJ0 1059 yJ3_checkIndex_8e157, .static yJ3_checkIndex_8e157, .initialized RJ3, .code yJ3_checkIndex_8e157 cJ3_checkIndex_8e157 3 (some .int)])
def wsJ1_charAt_3b067 : List Cond := .code yJ1_charAt_3b067 cJ1_charAt_3b067 2 (some .char) :: ([.methodLink RJ1 9 yJ0_checkIndex_df160, .static yJ0_checkIndex_df160, .initialized RJ0, .code yJ0_checkIndex_df160 cJ0_checkIndex_df160 2 none, .fieldLink RJ0 1053 "jdk/internal/util/Preconditions" "SIOOBE_FORMATTER" "Ljava/util/function/BiFunction;", .methodLink RJ0 1059 yJ3_checkIndex_8e157, .static yJ3_checkIndex_8e157, .initialized RJ3, .code yJ3_checkIndex_8e157 cJ3_checkIndex_8e157 3 (some .int)])
def wsJ2_length_9d52b : List Cond := .code yJ2_length_9d52b cJ2_length_9d52b 1 (some .int) :: ([])
def wsJ2_checkIndex_2214a : List Cond := .code yJ2_checkIndex_2214a cJ2_checkIndex_2214a 2 none :: ([.methodLink RJ2 48 yJ2_length_9d52b, .static yJ2_length_9d52b, .initialized RJ2, .code yJ2_length_9d52b cJ2_length_9d52b 1 (some .int), .methodLink RJ2 414 yJ0_checkIndex_df160, .static yJ0_checkIndex_df160, .initialized RJ0, .code yJ0_checkIndex_df160 cJ0_checkIndex_df160 2 none, .fieldLink RJ0 1053 "jdk/internal/util/Preconditions" "SIOOBE_FORMATTER" "Ljava/util/function/BiFunction;", .methodLink RJ0 1059 yJ3_checkIndex_8e157, .static yJ3_checkIndex_8e157, .initialized RJ3, .code yJ3_checkIndex_8e157 cJ3_checkIndex_8e157 3 (some .int)])
def wsJ2_getChar_3b067 : List Cond := .code yJ2_getChar_3b067 cJ2_getChar_3b067 2 (some .char) :: ([.fieldLink RJ2 44 "java/lang/StringUTF16" "$assertionsDisabled" "Z", .fieldLink RJ2 59 "java/lang/StringUTF16" "HI_BYTE_SHIFT" "I", .fieldLink RJ2 63 "java/lang/StringUTF16" "LO_BYTE_SHIFT" "I", .methodLink RJ2 48 yJ2_length_9d52b, .static yJ2_length_9d52b, .initialized RJ2, .code yJ2_length_9d52b cJ2_length_9d52b 1 (some .int)])
def wsJ2_charAt_3b067 : List Cond := .code yJ2_charAt_3b067 cJ2_charAt_3b067 2 (some .char) :: ([.methodLink RJ2 67 yJ2_checkIndex_2214a, .static yJ2_checkIndex_2214a, .initialized RJ2, .code yJ2_checkIndex_2214a cJ2_checkIndex_2214a 2 none, .methodLink RJ2 48 yJ2_length_9d52b, .static yJ2_length_9d52b, .code yJ2_length_9d52b cJ2_length_9d52b 1 (some .int), .methodLink RJ2 414 yJ0_checkIndex_df160, .static yJ0_checkIndex_df160, .initialized RJ0, .code yJ0_checkIndex_df160 cJ0_checkIndex_df160 2 none, .fieldLink RJ0 1053 "jdk/internal/util/Preconditions" "SIOOBE_FORMATTER" "Ljava/util/function/BiFunction;", .methodLink RJ0 1059 yJ3_checkIndex_8e157, .static yJ3_checkIndex_8e157, .initialized RJ3, .code yJ3_checkIndex_8e157 cJ3_checkIndex_8e157 3 (some .int), .methodLink RJ2 71 yJ2_getChar_3b067, .static yJ2_getChar_3b067, .code yJ2_getChar_3b067 cJ2_getChar_3b067 2 (some .char), .fieldLink RJ2 44 "java/lang/StringUTF16" "$assertionsDisabled" "Z", .fieldLink RJ2 59 "java/lang/StringUTF16" "HI_BYTE_SHIFT" "I", .fieldLink RJ2 63 "java/lang/StringUTF16" "LO_BYTE_SHIFT" "I"])
def wsJ0_charAt_5068e_r1 : List Cond := [Cond.fieldLink RJ0 9 "java/lang/String" "value" "[B", Cond.methodLink RJ0 492 yJ0_isLatin1_aae02, Cond.instanceMethod yJ0_isLatin1_aae02, Cond.selects RJ0 yJ0_isLatin1_aae02 yJ0_isLatin1_aae02, Cond.initialized RJ0, Cond.code yJ0_isLatin1_aae02 cJ0_isLatin1_aae02 1 (some .boolean), Cond.fieldLink RJ0 38 "java/lang/String" "COMPACT_STRINGS" "Z", Cond.fieldLink RJ0 15 "java/lang/String" "coder" "B", Cond.methodLink RJ0 495 yJ1_charAt_3b067, Cond.static yJ1_charAt_3b067, Cond.initialized RJ1, Cond.code yJ1_charAt_3b067 cJ1_charAt_3b067 2 (some .char), Cond.methodLink RJ1 9 yJ0_checkIndex_df160, Cond.static yJ0_checkIndex_df160, Cond.code yJ0_checkIndex_df160 cJ0_checkIndex_df160 2 none, Cond.fieldLink RJ0 1053 "jdk/internal/util/Preconditions" "SIOOBE_FORMATTER" "Ljava/util/function/BiFunction;", Cond.methodLink RJ0 1059 yJ3_checkIndex_8e157, Cond.static yJ3_checkIndex_8e157, Cond.initialized RJ3, Cond.code yJ3_checkIndex_8e157 cJ3_checkIndex_8e157 3 (some .int), Cond.methodLink RJ0 498 yJ2_charAt_3b067, Cond.static yJ2_charAt_3b067, Cond.initialized RJ2, Cond.code yJ2_charAt_3b067 cJ2_charAt_3b067 2 (some .char)]
def wsJ0_charAt_5068e_r2 : List Cond := [Cond.methodLink RJ2 67 yJ2_checkIndex_2214a, Cond.static yJ2_checkIndex_2214a, Cond.code yJ2_checkIndex_2214a cJ2_checkIndex_2214a 2 none, Cond.methodLink RJ2 48 yJ2_length_9d52b, Cond.static yJ2_length_9d52b, Cond.code yJ2_length_9d52b cJ2_length_9d52b 1 (some .int), Cond.methodLink RJ2 414 yJ0_checkIndex_df160, Cond.methodLink RJ2 71 yJ2_getChar_3b067, Cond.static yJ2_getChar_3b067, Cond.code yJ2_getChar_3b067 cJ2_getChar_3b067 2 (some .char), Cond.fieldLink RJ2 44 "java/lang/StringUTF16" "$assertionsDisabled" "Z", Cond.fieldLink RJ2 59 "java/lang/StringUTF16" "HI_BYTE_SHIFT" "I", Cond.fieldLink RJ2 63 "java/lang/StringUTF16" "LO_BYTE_SHIFT" "I"]
def wsJ0_charAt_5068e : List Cond := .code yJ0_charAt_5068e cJ0_charAt_5068e 2 (some .char) :: ((wsJ0_charAt_5068e_r1 ++ wsJ0_charAt_5068e_r2))
def wsX3_isWord_r1 : List Cond := [Cond.fieldLink RX3 27 "DredgePond$LawReader" "kind" "I", Cond.fieldLink RX3 33 "DredgePond$LawReader" "stop" "I", Cond.fieldLink RX3 30 "DredgePond$LawReader" "start" "I", Cond.fieldLink RX3 11 "DredgePond$LawReader" "tape" "[I", Cond.methodLink RX3 89 yJ0_length_8abf5, Cond.instanceMethod yJ0_length_8abf5, Cond.selects RJ0 yJ0_length_8abf5 yJ0_length_8abf5, Cond.initialized RJ0, Cond.code yJ0_length_8abf5 cJ0_length_8abf5 1 (some .int), Cond.fieldLink RJ0 9 "java/lang/String" "value" "[B", Cond.methodLink RJ0 335 yJ0_coder_7d493, Cond.instanceMethod yJ0_coder_7d493, Cond.selects RJ0 yJ0_coder_7d493 yJ0_coder_7d493, Cond.code yJ0_coder_7d493 cJ0_coder_7d493 1 (some .byte), Cond.fieldLink RJ0 38 "java/lang/String" "COMPACT_STRINGS" "Z", Cond.fieldLink RJ0 15 "java/lang/String" "coder" "B", Cond.methodLink RX3 93 yJ0_charAt_5068e, Cond.instanceMethod yJ0_charAt_5068e, Cond.selects RJ0 yJ0_charAt_5068e yJ0_charAt_5068e, Cond.code yJ0_charAt_5068e cJ0_charAt_5068e 2 (some .char), Cond.methodLink RJ0 492 yJ0_isLatin1_aae02, Cond.instanceMethod yJ0_isLatin1_aae02, Cond.selects RJ0 yJ0_isLatin1_aae02 yJ0_isLatin1_aae02, Cond.code yJ0_isLatin1_aae02 cJ0_isLatin1_aae02 1 (some .boolean)]
def wsX3_isWord_r2 : List Cond := [Cond.methodLink RJ0 495 yJ1_charAt_3b067, Cond.static yJ1_charAt_3b067, Cond.initialized RJ1, Cond.code yJ1_charAt_3b067 cJ1_charAt_3b067 2 (some .char), Cond.methodLink RJ1 9 yJ0_checkIndex_df160, Cond.static yJ0_checkIndex_df160, Cond.code yJ0_checkIndex_df160 cJ0_checkIndex_df160 2 none, Cond.fieldLink RJ0 1053 "jdk/internal/util/Preconditions" "SIOOBE_FORMATTER" "Ljava/util/function/BiFunction;", Cond.methodLink RJ0 1059 yJ3_checkIndex_8e157, Cond.static yJ3_checkIndex_8e157, Cond.initialized RJ3, Cond.code yJ3_checkIndex_8e157 cJ3_checkIndex_8e157 3 (some .int), Cond.methodLink RJ0 498 yJ2_charAt_3b067, Cond.static yJ2_charAt_3b067, Cond.initialized RJ2, Cond.code yJ2_charAt_3b067 cJ2_charAt_3b067 2 (some .char), Cond.methodLink RJ2 67 yJ2_checkIndex_2214a, Cond.static yJ2_checkIndex_2214a, Cond.code yJ2_checkIndex_2214a cJ2_checkIndex_2214a 2 none, Cond.methodLink RJ2 48 yJ2_length_9d52b, Cond.static yJ2_length_9d52b, Cond.code yJ2_length_9d52b cJ2_length_9d52b 1 (some .int), Cond.methodLink RJ2 414 yJ0_checkIndex_df160, Cond.methodLink RJ2 71 yJ2_getChar_3b067]
def wsX3_isWord_r3 : List Cond := [Cond.static yJ2_getChar_3b067, Cond.code yJ2_getChar_3b067 cJ2_getChar_3b067 2 (some .char), Cond.fieldLink RJ2 44 "java/lang/StringUTF16" "$assertionsDisabled" "Z", Cond.fieldLink RJ2 59 "java/lang/StringUTF16" "HI_BYTE_SHIFT" "I", Cond.fieldLink RJ2 63 "java/lang/StringUTF16" "LO_BYTE_SHIFT" "I"]
def wsX3_isWord : List Cond := .code yX3_isWord cX3_isWord 3 (some .boolean) :: ((wsX3_isWord_r1 ++ (wsX3_isWord_r2 ++ wsX3_isWord_r3)) ++ wsX30)
def wsX3_keyword_r1 : List Cond := [Cond.methodLink RX3 73 yX3_isWord, Cond.instanceMethod yX3_isWord, Cond.selects RX3 yX3_isWord yX3_isWord, Cond.initialized RX3, Cond.code yX3_isWord cX3_isWord 3 (some .boolean), Cond.fieldLink RX3 27 "DredgePond$LawReader" "kind" "I", Cond.fieldLink RX3 33 "DredgePond$LawReader" "stop" "I", Cond.fieldLink RX3 30 "DredgePond$LawReader" "start" "I", Cond.fieldLink RX3 11 "DredgePond$LawReader" "tape" "[I", Cond.methodLink RX3 89 yJ0_length_8abf5, Cond.instanceMethod yJ0_length_8abf5, Cond.selects RJ0 yJ0_length_8abf5 yJ0_length_8abf5, Cond.initialized RJ0, Cond.code yJ0_length_8abf5 cJ0_length_8abf5 1 (some .int), Cond.fieldLink RJ0 9 "java/lang/String" "value" "[B", Cond.methodLink RJ0 335 yJ0_coder_7d493, Cond.instanceMethod yJ0_coder_7d493, Cond.selects RJ0 yJ0_coder_7d493 yJ0_coder_7d493, Cond.code yJ0_coder_7d493 cJ0_coder_7d493 1 (some .byte), Cond.fieldLink RJ0 38 "java/lang/String" "COMPACT_STRINGS" "Z", Cond.fieldLink RJ0 15 "java/lang/String" "coder" "B", Cond.methodLink RX3 93 yJ0_charAt_5068e, Cond.instanceMethod yJ0_charAt_5068e, Cond.selects RJ0 yJ0_charAt_5068e yJ0_charAt_5068e]
def wsX3_keyword_r2 : List Cond := [Cond.code yJ0_charAt_5068e cJ0_charAt_5068e 2 (some .char), Cond.methodLink RJ0 492 yJ0_isLatin1_aae02, Cond.instanceMethod yJ0_isLatin1_aae02, Cond.selects RJ0 yJ0_isLatin1_aae02 yJ0_isLatin1_aae02, Cond.code yJ0_isLatin1_aae02 cJ0_isLatin1_aae02 1 (some .boolean), Cond.methodLink RJ0 495 yJ1_charAt_3b067, Cond.static yJ1_charAt_3b067, Cond.initialized RJ1, Cond.code yJ1_charAt_3b067 cJ1_charAt_3b067 2 (some .char), Cond.methodLink RJ1 9 yJ0_checkIndex_df160, Cond.static yJ0_checkIndex_df160, Cond.code yJ0_checkIndex_df160 cJ0_checkIndex_df160 2 none, Cond.fieldLink RJ0 1053 "jdk/internal/util/Preconditions" "SIOOBE_FORMATTER" "Ljava/util/function/BiFunction;", Cond.methodLink RJ0 1059 yJ3_checkIndex_8e157, Cond.static yJ3_checkIndex_8e157, Cond.initialized RJ3, Cond.code yJ3_checkIndex_8e157 cJ3_checkIndex_8e157 3 (some .int), Cond.methodLink RJ0 498 yJ2_charAt_3b067, Cond.static yJ2_charAt_3b067, Cond.initialized RJ2, Cond.code yJ2_charAt_3b067 cJ2_charAt_3b067 2 (some .char), Cond.methodLink RJ2 67 yJ2_checkIndex_2214a, Cond.static yJ2_checkIndex_2214a, Cond.code yJ2_checkIndex_2214a cJ2_checkIndex_2214a 2 none]
def wsX3_keyword_r3 : List Cond := [Cond.methodLink RJ2 48 yJ2_length_9d52b, Cond.static yJ2_length_9d52b, Cond.code yJ2_length_9d52b cJ2_length_9d52b 1 (some .int), Cond.methodLink RJ2 414 yJ0_checkIndex_df160, Cond.methodLink RJ2 71 yJ2_getChar_3b067, Cond.static yJ2_getChar_3b067, Cond.code yJ2_getChar_3b067 cJ2_getChar_3b067 2 (some .char), Cond.fieldLink RJ2 44 "java/lang/StringUTF16" "$assertionsDisabled" "Z", Cond.fieldLink RJ2 59 "java/lang/StringUTF16" "HI_BYTE_SHIFT" "I", Cond.fieldLink RJ2 63 "java/lang/StringUTF16" "LO_BYTE_SHIFT" "I"]
def wsX3_keyword : List Cond := .code yX3_keyword cX3_keyword 1 (some .int) :: ((wsX3_keyword_r1 ++ (wsX3_keyword_r2 ++ wsX3_keyword_r3)) ++ wsX30)
def wsX3_readNumber : List Cond := .code yX3_readNumber cX3_readNumber 4 (some .boolean) :: ([.fieldLink RX3 27 "DredgePond$LawReader" "kind" "I", .fieldLink RX3 33 "DredgePond$LawReader" "stop" "I", .fieldLink RX3 30 "DredgePond$LawReader" "start" "I", .fieldLink RX3 17 "DredgePond$LawReader" "terms" "[I", .fieldLink RX3 11 "DredgePond$LawReader" "tape" "[I", .methodLink RX3 53 yX3_scan, .instanceMethod yX3_scan, .selects RX3 yX3_scan yX3_scan, .initialized RX3, .code yX3_scan cX3_scan 1 none, .fieldLink RX3 24 "DredgePond$LawReader" "length" "I", .methodLink RX3 97 yX3_isBlank, .static yX3_isBlank, .code yX3_isBlank cX3_isBlank 1 (some .boolean), .methodLink RX3 100 yX3_kindOf, .static yX3_kindOf, .code yX3_kindOf cX3_kindOf 1 (some .int), .static yX7_within, .initialized RX7, .code yX7_within cX7_within 3 (some .boolean)] ++ wsX30)
def wsX3_readGreatest_r1 : List Cond := [Cond.methodLink RX3 53 yX3_scan, Cond.instanceMethod yX3_scan, Cond.selects RX3 yX3_scan yX3_scan, Cond.initialized RX3, Cond.code yX3_scan cX3_scan 1 none, Cond.fieldLink RX3 33 "DredgePond$LawReader" "stop" "I", Cond.fieldLink RX3 30 "DredgePond$LawReader" "start" "I", Cond.fieldLink RX3 24 "DredgePond$LawReader" "length" "I", Cond.fieldLink RX3 11 "DredgePond$LawReader" "tape" "[I", Cond.fieldLink RX3 27 "DredgePond$LawReader" "kind" "I", Cond.methodLink RX3 97 yX3_isBlank, Cond.static yX3_isBlank, Cond.code yX3_isBlank cX3_isBlank 1 (some .boolean), Cond.methodLink RX3 100 yX3_kindOf, Cond.static yX3_kindOf, Cond.code yX3_kindOf cX3_kindOf 1 (some .int), Cond.static yX7_within, Cond.initialized RX7, Cond.code yX7_within cX7_within 3 (some .boolean), Cond.methodLink RX3 73 yX3_isWord, Cond.instanceMethod yX3_isWord, Cond.selects RX3 yX3_isWord yX3_isWord, Cond.code yX3_isWord cX3_isWord 3 (some .boolean), Cond.methodLink RX3 89 yJ0_length_8abf5]
def wsX3_readGreatest_r2 : List Cond := [Cond.instanceMethod yJ0_length_8abf5, Cond.selects RJ0 yJ0_length_8abf5 yJ0_length_8abf5, Cond.initialized RJ0, Cond.code yJ0_length_8abf5 cJ0_length_8abf5 1 (some .int), Cond.fieldLink RJ0 9 "java/lang/String" "value" "[B", Cond.methodLink RJ0 335 yJ0_coder_7d493, Cond.instanceMethod yJ0_coder_7d493, Cond.selects RJ0 yJ0_coder_7d493 yJ0_coder_7d493, Cond.code yJ0_coder_7d493 cJ0_coder_7d493 1 (some .byte), Cond.fieldLink RJ0 38 "java/lang/String" "COMPACT_STRINGS" "Z", Cond.fieldLink RJ0 15 "java/lang/String" "coder" "B", Cond.methodLink RX3 93 yJ0_charAt_5068e, Cond.instanceMethod yJ0_charAt_5068e, Cond.selects RJ0 yJ0_charAt_5068e yJ0_charAt_5068e, Cond.code yJ0_charAt_5068e cJ0_charAt_5068e 2 (some .char), Cond.methodLink RJ0 492 yJ0_isLatin1_aae02, Cond.instanceMethod yJ0_isLatin1_aae02, Cond.selects RJ0 yJ0_isLatin1_aae02 yJ0_isLatin1_aae02, Cond.code yJ0_isLatin1_aae02 cJ0_isLatin1_aae02 1 (some .boolean), Cond.methodLink RJ0 495 yJ1_charAt_3b067, Cond.static yJ1_charAt_3b067, Cond.initialized RJ1, Cond.code yJ1_charAt_3b067 cJ1_charAt_3b067 2 (some .char), Cond.methodLink RJ1 9 yJ0_checkIndex_df160]
def wsX3_readGreatest_r3 : List Cond := [Cond.static yJ0_checkIndex_df160, Cond.code yJ0_checkIndex_df160 cJ0_checkIndex_df160 2 none, Cond.fieldLink RJ0 1053 "jdk/internal/util/Preconditions" "SIOOBE_FORMATTER" "Ljava/util/function/BiFunction;", Cond.methodLink RJ0 1059 yJ3_checkIndex_8e157, Cond.static yJ3_checkIndex_8e157, Cond.initialized RJ3, Cond.code yJ3_checkIndex_8e157 cJ3_checkIndex_8e157 3 (some .int), Cond.methodLink RJ0 498 yJ2_charAt_3b067, Cond.static yJ2_charAt_3b067, Cond.initialized RJ2, Cond.code yJ2_charAt_3b067 cJ2_charAt_3b067 2 (some .char), Cond.methodLink RJ2 67 yJ2_checkIndex_2214a, Cond.static yJ2_checkIndex_2214a, Cond.code yJ2_checkIndex_2214a cJ2_checkIndex_2214a 2 none, Cond.methodLink RJ2 48 yJ2_length_9d52b, Cond.static yJ2_length_9d52b, Cond.code yJ2_length_9d52b cJ2_length_9d52b 1 (some .int), Cond.methodLink RJ2 414 yJ0_checkIndex_df160, Cond.methodLink RJ2 71 yJ2_getChar_3b067, Cond.static yJ2_getChar_3b067, Cond.code yJ2_getChar_3b067 cJ2_getChar_3b067 2 (some .char), Cond.fieldLink RJ2 44 "java/lang/StringUTF16" "$assertionsDisabled" "Z", Cond.fieldLink RJ2 59 "java/lang/StringUTF16" "HI_BYTE_SHIFT" "I", Cond.fieldLink RJ2 63 "java/lang/StringUTF16" "LO_BYTE_SHIFT" "I"]
def wsX3_readGreatest_r4 : List Cond := [Cond.methodLink RX3 64 yX3_readNumber, Cond.instanceMethod yX3_readNumber, Cond.selects RX3 yX3_readNumber yX3_readNumber, Cond.code yX3_readNumber cX3_readNumber 4 (some .boolean), Cond.fieldLink RX3 17 "DredgePond$LawReader" "terms" "[I"]
def wsX3_readGreatest : List Cond := .code yX3_readGreatest cX3_readGreatest 1 (some .boolean) :: ((wsX3_readGreatest_r1 ++ (wsX3_readGreatest_r2 ++ (wsX3_readGreatest_r3 ++ wsX3_readGreatest_r4))) ++ wsX30)
def wsX3_readStatement_r1 : List Cond := [Cond.fieldLink RX3 27 "DredgePond$LawReader" "kind" "I", Cond.methodLink RX3 60 yX3_keyword, Cond.instanceMethod yX3_keyword, Cond.selects RX3 yX3_keyword yX3_keyword, Cond.initialized RX3, Cond.code yX3_keyword cX3_keyword 1 (some .int), Cond.methodLink RX3 73 yX3_isWord, Cond.instanceMethod yX3_isWord, Cond.selects RX3 yX3_isWord yX3_isWord, Cond.code yX3_isWord cX3_isWord 3 (some .boolean), Cond.fieldLink RX3 33 "DredgePond$LawReader" "stop" "I", Cond.fieldLink RX3 30 "DredgePond$LawReader" "start" "I", Cond.fieldLink RX3 11 "DredgePond$LawReader" "tape" "[I", Cond.methodLink RX3 89 yJ0_length_8abf5, Cond.instanceMethod yJ0_length_8abf5, Cond.selects RJ0 yJ0_length_8abf5 yJ0_length_8abf5, Cond.initialized RJ0, Cond.code yJ0_length_8abf5 cJ0_length_8abf5 1 (some .int), Cond.fieldLink RJ0 9 "java/lang/String" "value" "[B", Cond.methodLink RJ0 335 yJ0_coder_7d493, Cond.instanceMethod yJ0_coder_7d493, Cond.selects RJ0 yJ0_coder_7d493 yJ0_coder_7d493, Cond.code yJ0_coder_7d493 cJ0_coder_7d493 1 (some .byte), Cond.fieldLink RJ0 38 "java/lang/String" "COMPACT_STRINGS" "Z"]
def wsX3_readStatement_r2 : List Cond := [Cond.fieldLink RJ0 15 "java/lang/String" "coder" "B", Cond.methodLink RX3 93 yJ0_charAt_5068e, Cond.instanceMethod yJ0_charAt_5068e, Cond.selects RJ0 yJ0_charAt_5068e yJ0_charAt_5068e, Cond.code yJ0_charAt_5068e cJ0_charAt_5068e 2 (some .char), Cond.methodLink RJ0 492 yJ0_isLatin1_aae02, Cond.instanceMethod yJ0_isLatin1_aae02, Cond.selects RJ0 yJ0_isLatin1_aae02 yJ0_isLatin1_aae02, Cond.code yJ0_isLatin1_aae02 cJ0_isLatin1_aae02 1 (some .boolean), Cond.methodLink RJ0 495 yJ1_charAt_3b067, Cond.static yJ1_charAt_3b067, Cond.initialized RJ1, Cond.code yJ1_charAt_3b067 cJ1_charAt_3b067 2 (some .char), Cond.methodLink RJ1 9 yJ0_checkIndex_df160, Cond.static yJ0_checkIndex_df160, Cond.code yJ0_checkIndex_df160 cJ0_checkIndex_df160 2 none, Cond.fieldLink RJ0 1053 "jdk/internal/util/Preconditions" "SIOOBE_FORMATTER" "Ljava/util/function/BiFunction;", Cond.methodLink RJ0 1059 yJ3_checkIndex_8e157, Cond.static yJ3_checkIndex_8e157, Cond.initialized RJ3, Cond.code yJ3_checkIndex_8e157 cJ3_checkIndex_8e157 3 (some .int), Cond.methodLink RJ0 498 yJ2_charAt_3b067, Cond.static yJ2_charAt_3b067, Cond.initialized RJ2]
def wsX3_readStatement_r3 : List Cond := [Cond.code yJ2_charAt_3b067 cJ2_charAt_3b067 2 (some .char), Cond.methodLink RJ2 67 yJ2_checkIndex_2214a, Cond.static yJ2_checkIndex_2214a, Cond.code yJ2_checkIndex_2214a cJ2_checkIndex_2214a 2 none, Cond.methodLink RJ2 48 yJ2_length_9d52b, Cond.static yJ2_length_9d52b, Cond.code yJ2_length_9d52b cJ2_length_9d52b 1 (some .int), Cond.methodLink RJ2 414 yJ0_checkIndex_df160, Cond.methodLink RJ2 71 yJ2_getChar_3b067, Cond.static yJ2_getChar_3b067, Cond.code yJ2_getChar_3b067 cJ2_getChar_3b067 2 (some .char), Cond.fieldLink RJ2 44 "java/lang/StringUTF16" "$assertionsDisabled" "Z", Cond.fieldLink RJ2 59 "java/lang/StringUTF16" "HI_BYTE_SHIFT" "I", Cond.fieldLink RJ2 63 "java/lang/StringUTF16" "LO_BYTE_SHIFT" "I", Cond.methodLink RX3 64 yX3_readNumber, Cond.instanceMethod yX3_readNumber, Cond.selects RX3 yX3_readNumber yX3_readNumber, Cond.code yX3_readNumber cX3_readNumber 4 (some .boolean), Cond.fieldLink RX3 17 "DredgePond$LawReader" "terms" "[I", Cond.methodLink RX3 53 yX3_scan, Cond.instanceMethod yX3_scan, Cond.selects RX3 yX3_scan yX3_scan, Cond.code yX3_scan cX3_scan 1 none, Cond.fieldLink RX3 24 "DredgePond$LawReader" "length" "I"]
def wsX3_readStatement_r4 : List Cond := [Cond.methodLink RX3 97 yX3_isBlank, Cond.static yX3_isBlank, Cond.code yX3_isBlank cX3_isBlank 1 (some .boolean), Cond.methodLink RX3 100 yX3_kindOf, Cond.static yX3_kindOf, Cond.code yX3_kindOf cX3_kindOf 1 (some .int), Cond.static yX7_within, Cond.initialized RX7, Cond.code yX7_within cX7_within 3 (some .boolean), Cond.methodLink RX3 68 yX3_readGreatest, Cond.instanceMethod yX3_readGreatest, Cond.selects RX3 yX3_readGreatest yX3_readGreatest, Cond.code yX3_readGreatest cX3_readGreatest 1 (some .boolean)]
def wsX3_readStatement : List Cond := .code yX3_readStatement cX3_readStatement 2 (some .boolean) :: ((wsX3_readStatement_r1 ++ (wsX3_readStatement_r2 ++ (wsX3_readStatement_r3 ++ wsX3_readStatement_r4))) ++ wsX30)
def wsX3_read_r1 : List Cond := [Cond.fieldLink RX3 20 "DredgePond$LawReader" "bytes" "I", Cond.methodLink RX3 40 Lib.Math.min.name, Cond.static Lib.Math.min.name, Cond.initialized "java/lang/Math", Cond.code Lib.Math.min.name Lib.Math.min.code 2 (some .int), Cond.methodLink RX3 46 Lib.Math.max.name, Cond.static Lib.Math.max.name, Cond.code Lib.Math.max.name Lib.Math.max.code 2 (some .int), Cond.fieldLink RX3 24 "DredgePond$LawReader" "length" "I", Cond.fieldLink RX3 33 "DredgePond$LawReader" "stop" "I", Cond.fieldLink RX3 17 "DredgePond$LawReader" "terms" "[I", Cond.fieldLink RX3 27 "DredgePond$LawReader" "kind" "I", Cond.fieldLink RX3 30 "DredgePond$LawReader" "start" "I", Cond.methodLink RX3 49 yX2_usual, Cond.static yX2_usual, Cond.initialized RX2, Cond.code yX2_usual cX2_usual 1 (some .int), Cond.fieldLink RX2 26 "DredgePond$LawBook" "USUAL" "[I", Cond.static yX7_within, Cond.initialized RX7, Cond.code yX7_within cX7_within 3 (some .boolean), Cond.methodLink RX3 53 yX3_scan, Cond.instanceMethod yX3_scan, Cond.selects RX3 yX3_scan yX3_scan]
def wsX3_read_r2 : List Cond := [Cond.initialized RX3, Cond.code yX3_scan cX3_scan 1 none, Cond.fieldLink RX3 11 "DredgePond$LawReader" "tape" "[I", Cond.methodLink RX3 97 yX3_isBlank, Cond.static yX3_isBlank, Cond.code yX3_isBlank cX3_isBlank 1 (some .boolean), Cond.methodLink RX3 100 yX3_kindOf, Cond.static yX3_kindOf, Cond.code yX3_kindOf cX3_kindOf 1 (some .int), Cond.methodLink RX3 56 yX3_readStatement, Cond.instanceMethod yX3_readStatement, Cond.selects RX3 yX3_readStatement yX3_readStatement, Cond.code yX3_readStatement cX3_readStatement 2 (some .boolean), Cond.methodLink RX3 60 yX3_keyword, Cond.instanceMethod yX3_keyword, Cond.selects RX3 yX3_keyword yX3_keyword, Cond.code yX3_keyword cX3_keyword 1 (some .int), Cond.methodLink RX3 73 yX3_isWord, Cond.instanceMethod yX3_isWord, Cond.selects RX3 yX3_isWord yX3_isWord, Cond.code yX3_isWord cX3_isWord 3 (some .boolean), Cond.methodLink RX3 89 yJ0_length_8abf5, Cond.instanceMethod yJ0_length_8abf5, Cond.selects RJ0 yJ0_length_8abf5 yJ0_length_8abf5]
def wsX3_read_r3 : List Cond := [Cond.initialized RJ0, Cond.code yJ0_length_8abf5 cJ0_length_8abf5 1 (some .int), Cond.fieldLink RJ0 9 "java/lang/String" "value" "[B", Cond.methodLink RJ0 335 yJ0_coder_7d493, Cond.instanceMethod yJ0_coder_7d493, Cond.selects RJ0 yJ0_coder_7d493 yJ0_coder_7d493, Cond.code yJ0_coder_7d493 cJ0_coder_7d493 1 (some .byte), Cond.fieldLink RJ0 38 "java/lang/String" "COMPACT_STRINGS" "Z", Cond.fieldLink RJ0 15 "java/lang/String" "coder" "B", Cond.methodLink RX3 93 yJ0_charAt_5068e, Cond.instanceMethod yJ0_charAt_5068e, Cond.selects RJ0 yJ0_charAt_5068e yJ0_charAt_5068e, Cond.code yJ0_charAt_5068e cJ0_charAt_5068e 2 (some .char), Cond.methodLink RJ0 492 yJ0_isLatin1_aae02, Cond.instanceMethod yJ0_isLatin1_aae02, Cond.selects RJ0 yJ0_isLatin1_aae02 yJ0_isLatin1_aae02, Cond.code yJ0_isLatin1_aae02 cJ0_isLatin1_aae02 1 (some .boolean), Cond.methodLink RJ0 495 yJ1_charAt_3b067, Cond.static yJ1_charAt_3b067, Cond.initialized RJ1, Cond.code yJ1_charAt_3b067 cJ1_charAt_3b067 2 (some .char), Cond.methodLink RJ1 9 yJ0_checkIndex_df160, Cond.static yJ0_checkIndex_df160, Cond.code yJ0_checkIndex_df160 cJ0_checkIndex_df160 2 none]
def wsX3_read_r4 : List Cond := [Cond.fieldLink RJ0 1053 "jdk/internal/util/Preconditions" "SIOOBE_FORMATTER" "Ljava/util/function/BiFunction;", Cond.methodLink RJ0 1059 yJ3_checkIndex_8e157, Cond.static yJ3_checkIndex_8e157, Cond.initialized RJ3, Cond.code yJ3_checkIndex_8e157 cJ3_checkIndex_8e157 3 (some .int), Cond.methodLink RJ0 498 yJ2_charAt_3b067, Cond.static yJ2_charAt_3b067, Cond.initialized RJ2, Cond.code yJ2_charAt_3b067 cJ2_charAt_3b067 2 (some .char), Cond.methodLink RJ2 67 yJ2_checkIndex_2214a, Cond.static yJ2_checkIndex_2214a, Cond.code yJ2_checkIndex_2214a cJ2_checkIndex_2214a 2 none, Cond.methodLink RJ2 48 yJ2_length_9d52b, Cond.static yJ2_length_9d52b, Cond.code yJ2_length_9d52b cJ2_length_9d52b 1 (some .int), Cond.methodLink RJ2 414 yJ0_checkIndex_df160, Cond.methodLink RJ2 71 yJ2_getChar_3b067, Cond.static yJ2_getChar_3b067, Cond.code yJ2_getChar_3b067 cJ2_getChar_3b067 2 (some .char), Cond.fieldLink RJ2 44 "java/lang/StringUTF16" "$assertionsDisabled" "Z", Cond.fieldLink RJ2 59 "java/lang/StringUTF16" "HI_BYTE_SHIFT" "I", Cond.fieldLink RJ2 63 "java/lang/StringUTF16" "LO_BYTE_SHIFT" "I", Cond.methodLink RX3 64 yX3_readNumber, Cond.instanceMethod yX3_readNumber]
def wsX3_read_r5 : List Cond := [Cond.selects RX3 yX3_readNumber yX3_readNumber, Cond.code yX3_readNumber cX3_readNumber 4 (some .boolean), Cond.methodLink RX3 68 yX3_readGreatest, Cond.instanceMethod yX3_readGreatest, Cond.selects RX3 yX3_readGreatest yX3_readGreatest, Cond.code yX3_readGreatest cX3_readGreatest 1 (some .boolean)]
def wsX3_read : List Cond := .code yX3_read cX3_read 3 (some .int) :: ((wsX3_read_r1 ++ (wsX3_read_r2 ++ (wsX3_read_r3 ++ (wsX3_read_r4 ++ wsX3_read_r5)))) ++ wsX30)
def wsX4_init : List Cond := .code yX4_init cX4_init 1 none :: ([.methodLink RX4 1 objectInit, .instanceMethod objectInit, .code objectInit ⟨#[0xb1]⟩ 1 none, .fieldLink RX4 7 "DredgePond$Pond" "height" "I", .fieldLink RX4 13 "DredgePond$Pond" "dirt" "I", .fieldLink RX4 16 "DredgePond$Pond" "hours" "I"] ++ wsX40)
def wsX4_hoursFor : List Cond := .code yX4_hoursFor cX4_hoursFor 1 (some .int) :: ([])
def wsX4_level : List Cond := .code yX4_level cX4_level 1 (some .int) :: ([.fieldLink RX4 7 "DredgePond$Pond" "height" "I"] ++ wsX40)
def wsX4_mud : List Cond := .code yX4_mud cX4_mud 1 (some .int) :: ([.fieldLink RX4 13 "DredgePond$Pond" "dirt" "I"] ++ wsX40)
def wsX4_hoursLeft : List Cond := .code yX4_hoursLeft cX4_hoursLeft 1 (some .int) :: ([.fieldLink RX4 16 "DredgePond$Pond" "hours" "I"] ++ wsX40)
def wsX4_stir : List Cond := .code yX4_stir cX4_stir 2 none :: ([.fieldLink RX4 16 "DredgePond$Pond" "hours" "I", .fieldLink RX4 13 "DredgePond$Pond" "dirt" "I", .methodLink RX4 19 yX4_hoursFor, .static yX4_hoursFor, .initialized RX4, .code yX4_hoursFor cX4_hoursFor 1 (some .int)] ++ wsX40)
def wsX4_drain : List Cond := .code yX4_drain cX4_drain 2 none :: ([.fieldLink RX4 7 "DredgePond$Pond" "height" "I"] ++ wsX40)
def wsX4_passNight : List Cond := .code yX4_passNight cX4_passNight 2 none :: ([.fieldLink RX4 7 "DredgePond$Pond" "height" "I", .methodLink RX4 23 Lib.Math.min.name, .static Lib.Math.min.name, .initialized "java/lang/Math", .code Lib.Math.min.name Lib.Math.min.code 2 (some .int), .methodLink RX4 29 Lib.Math.max.name, .static Lib.Math.max.name, .code Lib.Math.max.name Lib.Math.max.code 2 (some .int), .fieldLink RX4 13 "DredgePond$Pond" "dirt" "I", .fieldLink RX4 16 "DredgePond$Pond" "hours" "I"] ++ wsX40)
def wsX5_init : List Cond := .code yX5_init cX5_init 3 none :: ([.methodLink RX5 3 objectInit, .instanceMethod objectInit, .code objectInit ⟨#[0xb1]⟩ 1 none, .fieldLink RX5 9 "DredgePond$Route" "price" "I", .fieldLink RX5 15 "DredgePond$Route" "rows" "I", .fieldLink RX5 18 "DredgePond$Route" "places" "I", .arrayClass .int, .fieldLink RX5 21 "DredgePond$Route" "sums" "[I"] ++ wsX50)
def wsX5_charge : List Cond := .code yX5_charge cX5_charge 2 none :: ([.fieldLink RX5 9 "DredgePond$Route" "price" "I"] ++ wsX50)
def wsX5_tinBy : List Cond := .code yX5_tinBy cX5_tinBy 4 (some .int) :: ([.methodLink RX5 53 yX1_leastAt, .instanceMethod yX1_leastAt, .selects RX1 yX1_leastAt yX1_leastAt, .initialized RX1, .code yX1_leastAt cX1_leastAt 3 (some .int), .fieldLink RX1 28 "DredgePond$Ground" "least" "[I", .fieldLink RX1 18 "DredgePond$Ground" "places" "I", .methodLink RX5 56 yX1_greatestAt, .instanceMethod yX1_greatestAt, .selects RX1 yX1_greatestAt yX1_greatestAt, .code yX1_greatestAt cX1_greatestAt 3 (some .int), .fieldLink RX1 31 "DredgePond$Ground" "greatest" "[I"] ++ wsX10)
def wsX5_sumFrom : List Cond := .code yX5_sumFrom cX5_sumFrom 3 (some .int) :: ([.fieldLink RX5 21 "DredgePond$Route" "sums" "[I", .fieldLink RX5 18 "DredgePond$Route" "places" "I"] ++ wsX50)
def wsX5_bestOf : List Cond := .code yX5_bestOf cX5_bestOf 6 (some .int) :: ([.methodLink RX5 38 yX5_sumFrom, .instanceMethod yX5_sumFrom, .selects RX5 yX5_sumFrom yX5_sumFrom, .initialized RX5, .code yX5_sumFrom cX5_sumFrom 3 (some .int), .fieldLink RX5 21 "DredgePond$Route" "sums" "[I", .fieldLink RX5 18 "DredgePond$Route" "places" "I"] ++ wsX50)
def wsX5_bestBeside : List Cond := .code yX5_bestBeside cX5_bestBeside 3 (some .int) :: ([.methodLink RX5 45 Lib.Math.max.name, .static Lib.Math.max.name, .initialized "java/lang/Math", .code Lib.Math.max.name Lib.Math.max.code 2 (some .int), .fieldLink RX5 18 "DredgePond$Route" "places" "I", .methodLink RX5 50 Lib.Math.min.name, .static Lib.Math.min.name, .code Lib.Math.min.name Lib.Math.min.code 2 (some .int), .methodLink RX5 41 yX5_bestOf, .instanceMethod yX5_bestOf, .selects RX5 yX5_bestOf yX5_bestOf, .initialized RX5, .code yX5_bestOf cX5_bestOf 6 (some .int), .methodLink RX5 38 yX5_sumFrom, .instanceMethod yX5_sumFrom, .selects RX5 yX5_sumFrom yX5_sumFrom, .code yX5_sumFrom cX5_sumFrom 3 (some .int), .fieldLink RX5 21 "DredgePond$Route" "sums" "[I"] ++ wsX50)
def wsX5_weigh_r1 : List Cond := [Cond.fieldLink RX5 15 "DredgePond$Route" "rows" "I", Cond.fieldLink RX5 18 "DredgePond$Route" "places" "I", Cond.fieldLink RX5 9 "DredgePond$Route" "price" "I", Cond.fieldLink RX5 21 "DredgePond$Route" "sums" "[I", Cond.methodLink RX5 25 yX1_depthAt, Cond.instanceMethod yX1_depthAt, Cond.selects RX1 yX1_depthAt yX1_depthAt, Cond.initialized RX1, Cond.code yX1_depthAt cX1_depthAt 3 (some .int), Cond.fieldLink RX1 21 "DredgePond$Ground" "depths" "[I", Cond.fieldLink RX1 18 "DredgePond$Ground" "places" "I", Cond.methodLink RX5 31 yX5_tinBy, Cond.static yX5_tinBy, Cond.initialized RX5, Cond.code yX5_tinBy cX5_tinBy 4 (some .int), Cond.methodLink RX5 53 yX1_leastAt, Cond.instanceMethod yX1_leastAt, Cond.selects RX1 yX1_leastAt yX1_leastAt, Cond.code yX1_leastAt cX1_leastAt 3 (some .int), Cond.fieldLink RX1 28 "DredgePond$Ground" "least" "[I", Cond.methodLink RX5 56 yX1_greatestAt, Cond.instanceMethod yX1_greatestAt, Cond.selects RX1 yX1_greatestAt yX1_greatestAt, Cond.code yX1_greatestAt cX1_greatestAt 3 (some .int)]
def wsX5_weigh_r2 : List Cond := [Cond.fieldLink RX1 31 "DredgePond$Ground" "greatest" "[I", Cond.methodLink RX5 35 yX5_bestBeside, Cond.instanceMethod yX5_bestBeside, Cond.selects RX5 yX5_bestBeside yX5_bestBeside, Cond.code yX5_bestBeside cX5_bestBeside 3 (some .int), Cond.methodLink RX5 45 Lib.Math.max.name, Cond.static Lib.Math.max.name, Cond.initialized "java/lang/Math", Cond.code Lib.Math.max.name Lib.Math.max.code 2 (some .int), Cond.methodLink RX5 50 Lib.Math.min.name, Cond.static Lib.Math.min.name, Cond.code Lib.Math.min.name Lib.Math.min.code 2 (some .int), Cond.methodLink RX5 41 yX5_bestOf, Cond.instanceMethod yX5_bestOf, Cond.selects RX5 yX5_bestOf yX5_bestOf, Cond.code yX5_bestOf cX5_bestOf 6 (some .int), Cond.methodLink RX5 38 yX5_sumFrom, Cond.instanceMethod yX5_sumFrom, Cond.selects RX5 yX5_sumFrom yX5_sumFrom, Cond.code yX5_sumFrom cX5_sumFrom 3 (some .int)]
def wsX5_weigh : List Cond := .code yX5_weigh cX5_weigh 7 none :: ((wsX5_weigh_r1 ++ wsX5_weigh_r2) ++ wsX50 ++ wsX10)
def wsX5_startPlace : List Cond := .code yX5_startPlace cX5_startPlace 3 (some .int) :: ([.fieldLink RX5 18 "DredgePond$Route" "places" "I", .methodLink RX5 41 yX5_bestOf, .instanceMethod yX5_bestOf, .selects RX5 yX5_bestOf yX5_bestOf, .initialized RX5, .code yX5_bestOf cX5_bestOf 6 (some .int), .methodLink RX5 38 yX5_sumFrom, .instanceMethod yX5_sumFrom, .selects RX5 yX5_sumFrom yX5_sumFrom, .code yX5_sumFrom cX5_sumFrom 3 (some .int), .fieldLink RX5 21 "DredgePond$Route" "sums" "[I", .methodLink RX5 35 yX5_bestBeside, .instanceMethod yX5_bestBeside, .selects RX5 yX5_bestBeside yX5_bestBeside, .code yX5_bestBeside cX5_bestBeside 3 (some .int), .methodLink RX5 45 Lib.Math.max.name, .static Lib.Math.max.name, .initialized "java/lang/Math", .code Lib.Math.max.name Lib.Math.max.code 2 (some .int), .methodLink RX5 50 Lib.Math.min.name, .static Lib.Math.min.name, .code Lib.Math.min.name Lib.Math.min.code 2 (some .int)] ++ wsX50)
def wsX6_init : List Cond := .code yX6_init cX6_init 2 none :: ([.methodLink RX6 3 objectInit, .instanceMethod objectInit, .code objectInit ⟨#[0xb1]⟩ 1 none, .fieldLink RX6 9 "DredgePond$Trail" "dug" "I", .fieldLink RX6 15 "DredgePond$Trail" "laidBacks" "I", .arrayClass .int, .fieldLink RX6 18 "DredgePond$Trail" "placeOf" "[I", .fieldLink RX6 22 "DredgePond$Trail" "dayOf" "[I", .arrayClass .boolean, .fieldLink RX6 25 "DredgePond$Trail" "laidBack" "[Z", .fieldLink RX6 29 "DredgePond$Trail" "fined" "[Z"] ++ wsX60)
def wsX6_nextRow : List Cond := .code yX6_nextRow cX6_nextRow 1 (some .int) :: ([.fieldLink RX6 9 "DredgePond$Trail" "dug" "I"] ++ wsX60)
def wsX6_dredgeRow : List Cond := .code yX6_dredgeRow cX6_dredgeRow 1 (some .int) :: ([.fieldLink RX6 9 "DredgePond$Trail" "dug" "I"] ++ wsX60)
def wsX6_dredgePlace : List Cond := .code yX6_dredgePlace cX6_dredgePlace 1 (some .int) :: ([.fieldLink RX6 9 "DredgePond$Trail" "dug" "I", .fieldLink RX6 18 "DredgePond$Trail" "placeOf" "[I"] ++ wsX60)
def wsX6_reaches : List Cond := .code yX6_reaches cX6_reaches 2 (some .boolean) :: ([.fieldLink RX6 9 "DredgePond$Trail" "dug" "I", .methodLink RX6 36 Lib.Math.abs.name, .static Lib.Math.abs.name, .initialized "java/lang/Math", .code Lib.Math.abs.name Lib.Math.abs.code 1 (some .int), .methodLink RX6 32 yX6_dredgePlace, .instanceMethod yX6_dredgePlace, .selects RX6 yX6_dredgePlace yX6_dredgePlace, .initialized RX6, .code yX6_dredgePlace cX6_dredgePlace 1 (some .int), .fieldLink RX6 18 "DredgePond$Trail" "placeOf" "[I"] ++ wsX60)
def wsX6_isDug : List Cond := .code yX6_isDug cX6_isDug 3 (some .boolean) :: ([.fieldLink RX6 9 "DredgePond$Trail" "dug" "I", .fieldLink RX6 18 "DredgePond$Trail" "placeOf" "[I", .static yX7_within, .initialized RX7, .code yX7_within cX7_within 3 (some .boolean)] ++ wsX60)
def wsX6_isLaidBack : List Cond := .code yX6_isLaidBack cX6_isLaidBack 3 (some .boolean) :: ([.fieldLink RX6 25 "DredgePond$Trail" "laidBack" "[Z", .methodLink RX6 46 yX6_isDug, .instanceMethod yX6_isDug, .selects RX6 yX6_isDug yX6_isDug, .initialized RX6, .code yX6_isDug cX6_isDug 3 (some .boolean), .fieldLink RX6 9 "DredgePond$Trail" "dug" "I", .fieldLink RX6 18 "DredgePond$Trail" "placeOf" "[I", .static yX7_within, .initialized RX7, .code yX7_within cX7_within 3 (some .boolean)] ++ wsX60)
def wsX6_laidBackCount : List Cond := .code yX6_laidBackCount cX6_laidBackCount 1 (some .int) :: ([.fieldLink RX6 15 "DredgePond$Trail" "laidBacks" "I"] ++ wsX60)
def wsX6_goTo : List Cond := .code yX6_goTo cX6_goTo 3 none :: ([.fieldLink RX6 9 "DredgePond$Trail" "dug" "I", .fieldLink RX6 18 "DredgePond$Trail" "placeOf" "[I", .fieldLink RX6 22 "DredgePond$Trail" "dayOf" "[I"] ++ wsX60)
def wsX6_layBack : List Cond := .code yX6_layBack cX6_layBack 3 (some .boolean) :: ([.fieldLink RX6 25 "DredgePond$Trail" "laidBack" "[Z", .fieldLink RX6 15 "DredgePond$Trail" "laidBacks" "I", .methodLink RX6 46 yX6_isDug, .instanceMethod yX6_isDug, .selects RX6 yX6_isDug yX6_isDug, .initialized RX6, .code yX6_isDug cX6_isDug 3 (some .boolean), .fieldLink RX6 9 "DredgePond$Trail" "dug" "I", .fieldLink RX6 18 "DredgePond$Trail" "placeOf" "[I", .static yX7_within, .initialized RX7, .code yX7_within cX7_within 3 (some .boolean), .methodLink RX6 50 yX6_dredgeRow, .instanceMethod yX6_dredgeRow, .selects RX6 yX6_dredgeRow yX6_dredgeRow, .code yX6_dredgeRow cX6_dredgeRow 1 (some .int)] ++ wsX60)
def wsX6_fineAll : List Cond := .code yX6_fineAll cX6_fineAll 4 (some .int) :: ([.fieldLink RX6 9 "DredgePond$Trail" "dug" "I", .fieldLink RX6 22 "DredgePond$Trail" "dayOf" "[I", .fieldLink RX6 25 "DredgePond$Trail" "laidBack" "[Z", .fieldLink RX6 29 "DredgePond$Trail" "fined" "[Z"] ++ wsX60)
def wsX7_init_r1 : List Cond := [Cond.methodLink RX7 1 objectInit, Cond.instanceMethod objectInit, Cond.code objectInit ⟨#[0xb1]⟩ 1 none, Cond.classLink RX7 7 RX4, Cond.instantiable RX4 3, Cond.initialized RX4, Cond.fieldLink RX7 10 "DredgePond" "pond" "LDredgePond$Pond;", Cond.classLink RX7 16 RX0, Cond.instantiable RX0 4, Cond.initialized RX0, Cond.fieldLink RX7 19 "DredgePond" "bag" "LDredgePond$Bag;", Cond.classLink RX7 23 RX2, Cond.instantiable RX2 3, Cond.initialized RX2, Cond.fieldLink RX7 26 "DredgePond" "laws" "LDredgePond$LawBook;", Cond.classLink RX7 30 RX3, Cond.instantiable RX3 7, Cond.initialized RX3, Cond.fieldLink RX7 33 "DredgePond" "reader" "LDredgePond$LawReader;", Cond.fieldLink RX7 37 "DredgePond" "today" "I", Cond.fieldLink RX7 41 "DredgePond" "fines" "I", Cond.fieldLink RX7 44 "DredgePond" "latestFault" "I", Cond.methodLink RX7 47 Lib.Math.min.name, Cond.static Lib.Math.min.name]
def wsX7_init_r2 : List Cond := [Cond.initialized "java/lang/Math", Cond.code Lib.Math.min.name Lib.Math.min.code 2 (some .int), Cond.methodLink RX7 53 Lib.Math.max.name, Cond.static Lib.Math.max.name, Cond.code Lib.Math.max.name Lib.Math.max.code 2 (some .int), Cond.classLink RX7 56 RX1, Cond.instantiable RX1 7, Cond.initialized RX1, Cond.fieldLink RX7 61 "DredgePond" "ground" "LDredgePond$Ground;", Cond.classLink RX7 65 RX6, Cond.instantiable RX6 6, Cond.initialized RX6, Cond.fieldLink RX7 70 "DredgePond" "trail" "LDredgePond$Trail;", Cond.classLink RX7 74 RX5, Cond.instantiable RX5 4, Cond.initialized RX5, Cond.fieldLink RX7 77 "DredgePond" "route" "LDredgePond$Route;", Cond.instanceMethod yX4_init, Cond.code yX4_init cX4_init 1 none, Cond.methodLink RX4 1 objectInit, Cond.fieldLink RX4 7 "DredgePond$Pond" "height" "I", Cond.fieldLink RX4 13 "DredgePond$Pond" "dirt" "I", Cond.fieldLink RX4 16 "DredgePond$Pond" "hours" "I", Cond.instanceMethod yX0_init]
def wsX7_init_r3 : List Cond := [Cond.code yX0_init cX0_init 1 none, Cond.methodLink RX0 3 objectInit, Cond.arrayClass .int, Cond.fieldLink RX0 9 "DredgePond$Bag" "months" "[I", Cond.fieldLink RX0 15 "DredgePond$Bag" "whole" "I", Cond.fieldLink RX0 19 "DredgePond$Bag" "gone" "I", Cond.fieldLink RX0 22 "DredgePond$Bag" "pace" "I", Cond.instanceMethod yX2_init, Cond.code yX2_init cX2_init 1 none, Cond.methodLink RX2 3 objectInit, Cond.fieldLink RX2 11 "DredgePond$LawBook" "terms" "[I", Cond.fieldLink RX2 15 "DredgePond$LawBook" "since" "[I", Cond.fieldLink RX2 18 "DredgePond$LawBook" "taken" "I", Cond.instanceMethod yX3_init, Cond.code yX3_init cX3_init 1 none, Cond.methodLink RX3 3 objectInit, Cond.fieldLink RX3 11 "DredgePond$LawReader" "tape" "[I", Cond.fieldLink RX3 17 "DredgePond$LawReader" "terms" "[I", Cond.fieldLink RX3 20 "DredgePond$LawReader" "bytes" "I", Cond.fieldLink RX3 24 "DredgePond$LawReader" "length" "I", Cond.fieldLink RX3 27 "DredgePond$LawReader" "kind" "I", Cond.fieldLink RX3 30 "DredgePond$LawReader" "start" "I", Cond.fieldLink RX3 33 "DredgePond$LawReader" "stop" "I", Cond.methodLink RX7 58 yX1_init]
def wsX7_init_r4 : List Cond := [Cond.instanceMethod yX1_init, Cond.code yX1_init cX1_init 5 none, Cond.methodLink RX1 3 objectInit, Cond.fieldLink RX1 11 "DredgePond$Ground" "gradient" "I", Cond.fieldLink RX1 15 "DredgePond$Ground" "rows" "I", Cond.fieldLink RX1 18 "DredgePond$Ground" "places" "I", Cond.fieldLink RX1 21 "DredgePond$Ground" "depths" "[I", Cond.fieldLink RX1 25 "DredgePond$Ground" "tins" "[I", Cond.fieldLink RX1 28 "DredgePond$Ground" "least" "[I", Cond.fieldLink RX1 31 "DredgePond$Ground" "greatest" "[I", Cond.methodLink RX7 67 yX6_init, Cond.instanceMethod yX6_init, Cond.code yX6_init cX6_init 2 none, Cond.methodLink RX6 3 objectInit, Cond.fieldLink RX6 9 "DredgePond$Trail" "dug" "I", Cond.fieldLink RX6 15 "DredgePond$Trail" "laidBacks" "I", Cond.fieldLink RX6 18 "DredgePond$Trail" "placeOf" "[I", Cond.fieldLink RX6 22 "DredgePond$Trail" "dayOf" "[I", Cond.arrayClass .boolean, Cond.fieldLink RX6 25 "DredgePond$Trail" "laidBack" "[Z", Cond.fieldLink RX6 29 "DredgePond$Trail" "fined" "[Z", Cond.methodLink RX7 76 yX5_init, Cond.instanceMethod yX5_init, Cond.code yX5_init cX5_init 3 none]
def wsX7_init_r5 : List Cond := [Cond.methodLink RX5 3 objectInit, Cond.fieldLink RX5 9 "DredgePond$Route" "price" "I", Cond.fieldLink RX5 15 "DredgePond$Route" "rows" "I", Cond.fieldLink RX5 18 "DredgePond$Route" "places" "I", Cond.fieldLink RX5 21 "DredgePond$Route" "sums" "[I"]
def wsX7_init : List Cond := .code yX7_init cX7_init 5 none :: ((wsX7_init_r1 ++ (wsX7_init_r2 ++ (wsX7_init_r3 ++ (wsX7_init_r4 ++ wsX7_init_r5)))) ++ wsX40 ++ wsX70 ++ wsX00 ++ wsX20 ++ wsX30 ++ wsX10 ++ wsX60 ++ wsX50)
def wsX7_isUndug : List Cond := .code yX7_isUndug cX7_isUndug 3 (some .boolean) :: ([.fieldLink RX7 61 "DredgePond" "ground" "LDredgePond$Ground;", .fieldLink RX7 70 "DredgePond" "trail" "LDredgePond$Trail;", .methodLink RX7 99 yX1_has, .instanceMethod yX1_has, .selects RX1 yX1_has yX1_has, .initialized RX1, .code yX1_has cX1_has 3 (some .boolean), .fieldLink RX1 15 "DredgePond$Ground" "rows" "I", .fieldLink RX1 18 "DredgePond$Ground" "places" "I", .static yX7_within, .initialized RX7, .code yX7_within cX7_within 3 (some .boolean), .methodLink RX7 118 yX6_isDug, .instanceMethod yX6_isDug, .selects RX6 yX6_isDug yX6_isDug, .initialized RX6, .code yX6_isDug cX6_isDug 3 (some .boolean), .fieldLink RX6 9 "DredgePond$Trail" "dug" "I", .fieldLink RX6 18 "DredgePond$Trail" "placeOf" "[I"] ++ wsX70 ++ wsX10 ++ wsX60)
def wsX7_depth_r1 : List Cond := [Cond.fieldLink RX7 61 "DredgePond" "ground" "LDredgePond$Ground;", Cond.methodLink RX7 81 yX7_isUndug, Cond.instanceMethod yX7_isUndug, Cond.selects RX7 yX7_isUndug yX7_isUndug, Cond.initialized RX7, Cond.code yX7_isUndug cX7_isUndug 3 (some .boolean), Cond.fieldLink RX7 70 "DredgePond" "trail" "LDredgePond$Trail;", Cond.methodLink RX7 99 yX1_has, Cond.instanceMethod yX1_has, Cond.selects RX1 yX1_has yX1_has, Cond.initialized RX1, Cond.code yX1_has cX1_has 3 (some .boolean), Cond.fieldLink RX1 15 "DredgePond$Ground" "rows" "I", Cond.fieldLink RX1 18 "DredgePond$Ground" "places" "I", Cond.static yX7_within, Cond.code yX7_within cX7_within 3 (some .boolean), Cond.methodLink RX7 118 yX6_isDug, Cond.instanceMethod yX6_isDug, Cond.selects RX6 yX6_isDug yX6_isDug, Cond.initialized RX6, Cond.code yX6_isDug cX6_isDug 3 (some .boolean), Cond.fieldLink RX6 9 "DredgePond$Trail" "dug" "I", Cond.fieldLink RX6 18 "DredgePond$Trail" "placeOf" "[I", Cond.methodLink RX7 85 yX7_within]
def wsX7_depth_r2 : List Cond := [Cond.methodLink RX7 89 yX1_deepen, Cond.instanceMethod yX1_deepen, Cond.selects RX1 yX1_deepen yX1_deepen, Cond.code yX1_deepen cX1_deepen 4 none, Cond.fieldLink RX1 21 "DredgePond$Ground" "depths" "[I"]
def wsX7_depth : List Cond := .code yX7_depth cX7_depth 4 (some .boolean) :: ((wsX7_depth_r1 ++ wsX7_depth_r2) ++ wsX70 ++ wsX10 ++ wsX60)
def wsX7_grade_r1 : List Cond := [Cond.fieldLink RX7 61 "DredgePond" "ground" "LDredgePond$Ground;", Cond.methodLink RX7 85 yX7_within, Cond.static yX7_within, Cond.initialized RX7, Cond.code yX7_within cX7_within 3 (some .boolean), Cond.methodLink RX7 93 yX1_slope, Cond.instanceMethod yX1_slope, Cond.selects RX1 yX1_slope yX1_slope, Cond.initialized RX1, Cond.code yX1_slope cX1_slope 2 none, Cond.fieldLink RX1 11 "DredgePond$Ground" "gradient" "I", Cond.methodLink RX1 38 yX1_narrowAll, Cond.instanceMethod yX1_narrowAll, Cond.selects RX1 yX1_narrowAll yX1_narrowAll, Cond.code yX1_narrowAll cX1_narrowAll 1 none, Cond.methodLink RX1 52 yX1_openSpans, Cond.instanceMethod yX1_openSpans, Cond.selects RX1 yX1_openSpans yX1_openSpans, Cond.code yX1_openSpans cX1_openSpans 3 none, Cond.fieldLink RX1 25 "DredgePond$Ground" "tins" "[I", Cond.fieldLink RX1 28 "DredgePond$Ground" "least" "[I", Cond.fieldLink RX1 31 "DredgePond$Ground" "greatest" "[I", Cond.methodLink RX1 55 yX1_sweepDown, Cond.instanceMethod yX1_sweepDown]
def wsX7_grade_r2 : List Cond := [Cond.selects RX1 yX1_sweepDown yX1_sweepDown, Cond.code yX1_sweepDown cX1_sweepDown 4 none, Cond.fieldLink RX1 15 "DredgePond$Ground" "rows" "I", Cond.fieldLink RX1 18 "DredgePond$Ground" "places" "I", Cond.methodLink RX1 64 yX1_narrow, Cond.instanceMethod yX1_narrow, Cond.selects RX1 yX1_narrow yX1_narrow, Cond.code yX1_narrow cX1_narrow 3 none, Cond.methodLink RX1 68 Lib.Math.max.name, Cond.static Lib.Math.max.name, Cond.initialized "java/lang/Math", Cond.code Lib.Math.max.name Lib.Math.max.code 2 (some .int), Cond.methodLink RX1 73 Lib.Math.min.name, Cond.static Lib.Math.min.name, Cond.code Lib.Math.min.name Lib.Math.min.code 2 (some .int), Cond.methodLink RX1 58 yX1_sweepUp, Cond.instanceMethod yX1_sweepUp, Cond.selects RX1 yX1_sweepUp yX1_sweepUp, Cond.code yX1_sweepUp cX1_sweepUp 4 none, Cond.methodLink RX1 61 yX1_closeToldSpans, Cond.instanceMethod yX1_closeToldSpans, Cond.selects RX1 yX1_closeToldSpans yX1_closeToldSpans, Cond.code yX1_closeToldSpans cX1_closeToldSpans 2 none]
def wsX7_grade : List Cond := .code yX7_grade cX7_grade 2 (some .boolean) :: ((wsX7_grade_r1 ++ wsX7_grade_r2) ++ wsX70 ++ wsX10)
def wsX7_bore_r1 : List Cond := [Cond.fieldLink RX7 61 "DredgePond" "ground" "LDredgePond$Ground;", Cond.methodLink RX7 81 yX7_isUndug, Cond.instanceMethod yX7_isUndug, Cond.selects RX7 yX7_isUndug yX7_isUndug, Cond.initialized RX7, Cond.code yX7_isUndug cX7_isUndug 3 (some .boolean), Cond.fieldLink RX7 70 "DredgePond" "trail" "LDredgePond$Trail;", Cond.methodLink RX7 99 yX1_has, Cond.instanceMethod yX1_has, Cond.selects RX1 yX1_has yX1_has, Cond.initialized RX1, Cond.code yX1_has cX1_has 3 (some .boolean), Cond.fieldLink RX1 15 "DredgePond$Ground" "rows" "I", Cond.fieldLink RX1 18 "DredgePond$Ground" "places" "I", Cond.static yX7_within, Cond.code yX7_within cX7_within 3 (some .boolean), Cond.methodLink RX7 118 yX6_isDug, Cond.instanceMethod yX6_isDug, Cond.selects RX6 yX6_isDug yX6_isDug, Cond.initialized RX6, Cond.code yX6_isDug cX6_isDug 3 (some .boolean), Cond.fieldLink RX6 9 "DredgePond$Trail" "dug" "I", Cond.fieldLink RX6 18 "DredgePond$Trail" "placeOf" "[I", Cond.methodLink RX7 85 yX7_within]
def wsX7_bore_r2 : List Cond := [Cond.methodLink RX7 96 yX1_tell, Cond.instanceMethod yX1_tell, Cond.selects RX1 yX1_tell yX1_tell, Cond.code yX1_tell cX1_tell 4 none, Cond.fieldLink RX1 25 "DredgePond$Ground" "tins" "[I", Cond.methodLink RX1 38 yX1_narrowAll, Cond.instanceMethod yX1_narrowAll, Cond.selects RX1 yX1_narrowAll yX1_narrowAll, Cond.code yX1_narrowAll cX1_narrowAll 1 none, Cond.methodLink RX1 52 yX1_openSpans, Cond.instanceMethod yX1_openSpans, Cond.selects RX1 yX1_openSpans yX1_openSpans, Cond.code yX1_openSpans cX1_openSpans 3 none, Cond.fieldLink RX1 28 "DredgePond$Ground" "least" "[I", Cond.fieldLink RX1 31 "DredgePond$Ground" "greatest" "[I", Cond.methodLink RX1 55 yX1_sweepDown, Cond.instanceMethod yX1_sweepDown, Cond.selects RX1 yX1_sweepDown yX1_sweepDown, Cond.code yX1_sweepDown cX1_sweepDown 4 none, Cond.methodLink RX1 64 yX1_narrow, Cond.instanceMethod yX1_narrow, Cond.selects RX1 yX1_narrow yX1_narrow, Cond.code yX1_narrow cX1_narrow 3 none, Cond.fieldLink RX1 11 "DredgePond$Ground" "gradient" "I"]
def wsX7_bore_r3 : List Cond := [Cond.methodLink RX1 68 Lib.Math.max.name, Cond.static Lib.Math.max.name, Cond.initialized "java/lang/Math", Cond.code Lib.Math.max.name Lib.Math.max.code 2 (some .int), Cond.methodLink RX1 73 Lib.Math.min.name, Cond.static Lib.Math.min.name, Cond.code Lib.Math.min.name Lib.Math.min.code 2 (some .int), Cond.methodLink RX1 58 yX1_sweepUp, Cond.instanceMethod yX1_sweepUp, Cond.selects RX1 yX1_sweepUp yX1_sweepUp, Cond.code yX1_sweepUp cX1_sweepUp 4 none, Cond.methodLink RX1 61 yX1_closeToldSpans, Cond.instanceMethod yX1_closeToldSpans, Cond.selects RX1 yX1_closeToldSpans yX1_closeToldSpans, Cond.code yX1_closeToldSpans cX1_closeToldSpans 2 none]
def wsX7_bore : List Cond := .code yX7_bore cX7_bore 4 (some .boolean) :: ((wsX7_bore_r1 ++ (wsX7_bore_r2 ++ wsX7_bore_r3)) ++ wsX70 ++ wsX10 ++ wsX60)
def wsX7_oneIf : List Cond := .code yX7_oneIf cX7_oneIf 1 (some .int) :: ([])
def wsX7_square_r1 : List Cond := [Cond.fieldLink RX7 61 "DredgePond" "ground" "LDredgePond$Ground;", Cond.fieldLink RX7 70 "DredgePond" "trail" "LDredgePond$Trail;", Cond.methodLink RX7 99 yX1_has, Cond.instanceMethod yX1_has, Cond.selects RX1 yX1_has yX1_has, Cond.initialized RX1, Cond.code yX1_has cX1_has 3 (some .boolean), Cond.fieldLink RX1 15 "DredgePond$Ground" "rows" "I", Cond.fieldLink RX1 18 "DredgePond$Ground" "places" "I", Cond.static yX7_within, Cond.initialized RX7, Cond.code yX7_within cX7_within 3 (some .boolean), Cond.methodLink RX7 102 yX1_depthAt, Cond.instanceMethod yX1_depthAt, Cond.selects RX1 yX1_depthAt yX1_depthAt, Cond.code yX1_depthAt cX1_depthAt 3 (some .int), Cond.fieldLink RX1 21 "DredgePond$Ground" "depths" "[I", Cond.methodLink RX7 105 yX1_leastAt, Cond.instanceMethod yX1_leastAt, Cond.selects RX1 yX1_leastAt yX1_leastAt, Cond.code yX1_leastAt cX1_leastAt 3 (some .int), Cond.fieldLink RX1 28 "DredgePond$Ground" "least" "[I", Cond.methodLink RX7 108 yX1_greatestAt, Cond.instanceMethod yX1_greatestAt]
def wsX7_square_r2 : List Cond := [Cond.selects RX1 yX1_greatestAt yX1_greatestAt, Cond.code yX1_greatestAt cX1_greatestAt 3 (some .int), Cond.fieldLink RX1 31 "DredgePond$Ground" "greatest" "[I", Cond.methodLink RX7 111 yX1_quarrelsAt, Cond.instanceMethod yX1_quarrelsAt, Cond.selects RX1 yX1_quarrelsAt yX1_quarrelsAt, Cond.code yX1_quarrelsAt cX1_quarrelsAt 3 (some .boolean), Cond.methodLink RX1 41 yX1_leastAt, Cond.methodLink RX1 45 yX1_greatestAt, Cond.methodLink RX7 114 yX7_oneIf, Cond.static yX7_oneIf, Cond.code yX7_oneIf cX7_oneIf 1 (some .int), Cond.methodLink RX7 118 yX6_isDug, Cond.instanceMethod yX6_isDug, Cond.selects RX6 yX6_isDug yX6_isDug, Cond.initialized RX6, Cond.code yX6_isDug cX6_isDug 3 (some .boolean), Cond.fieldLink RX6 9 "DredgePond$Trail" "dug" "I", Cond.fieldLink RX6 18 "DredgePond$Trail" "placeOf" "[I", Cond.methodLink RX7 121 yX6_isLaidBack, Cond.instanceMethod yX6_isLaidBack, Cond.selects RX6 yX6_isLaidBack yX6_isLaidBack, Cond.code yX6_isLaidBack cX6_isLaidBack 3 (some .boolean), Cond.fieldLink RX6 25 "DredgePond$Trail" "laidBack" "[Z"]
def wsX7_square_r3 : List Cond := [Cond.methodLink RX6 46 yX6_isDug, Cond.methodLink RX7 124 yX1_isTold, Cond.instanceMethod yX1_isTold, Cond.selects RX1 yX1_isTold yX1_isTold, Cond.code yX1_isTold cX1_isTold 3 (some .boolean), Cond.fieldLink RX1 25 "DredgePond$Ground" "tins" "[I"]
def wsX7_square : List Cond := .code yX7_square cX7_square 4 (some .int) :: ((wsX7_square_r1 ++ (wsX7_square_r2 ++ wsX7_square_r3)) ++ wsX70 ++ wsX10 ++ wsX60)
def wsX7_cost : List Cond := .code yX7_cost cX7_cost 2 (some .boolean) :: ([.fieldLink RX7 77 "DredgePond" "route" "LDredgePond$Route;", .methodLink RX7 85 yX7_within, .static yX7_within, .initialized RX7, .code yX7_within cX7_within 3 (some .boolean), .methodLink RX7 127 yX5_charge, .instanceMethod yX5_charge, .selects RX5 yX5_charge yX5_charge, .initialized RX5, .code yX5_charge cX5_charge 2 none, .fieldLink RX5 9 "DredgePond$Route" "price" "I"] ++ wsX70 ++ wsX50)
def wsX7_path_r1 : List Cond := [Cond.fieldLink RX7 70 "DredgePond" "trail" "LDredgePond$Trail;", Cond.fieldLink RX7 61 "DredgePond" "ground" "LDredgePond$Ground;", Cond.constant RX7 137 (-100000000), Cond.fieldLink RX7 77 "DredgePond" "route" "LDredgePond$Route;", Cond.methodLink RX7 130 yX6_nextRow, Cond.instanceMethod yX6_nextRow, Cond.selects RX6 yX6_nextRow yX6_nextRow, Cond.initialized RX6, Cond.code yX6_nextRow cX6_nextRow 1 (some .int), Cond.fieldLink RX6 9 "DredgePond$Trail" "dug" "I", Cond.methodLink RX7 134 yX1_rowCount, Cond.instanceMethod yX1_rowCount, Cond.selects RX1 yX1_rowCount yX1_rowCount, Cond.initialized RX1, Cond.code yX1_rowCount cX1_rowCount 1 (some .int), Cond.fieldLink RX1 15 "DredgePond$Ground" "rows" "I", Cond.methodLink RX7 85 yX7_within, Cond.static yX7_within, Cond.initialized RX7, Cond.code yX7_within cX7_within 3 (some .boolean), Cond.methodLink RX7 138 yX5_weigh, Cond.instanceMethod yX5_weigh, Cond.selects RX5 yX5_weigh yX5_weigh, Cond.initialized RX5]
def wsX7_path_r2 : List Cond := [Cond.code yX5_weigh cX5_weigh 7 none, Cond.fieldLink RX5 15 "DredgePond$Route" "rows" "I", Cond.fieldLink RX5 18 "DredgePond$Route" "places" "I", Cond.fieldLink RX5 9 "DredgePond$Route" "price" "I", Cond.fieldLink RX5 21 "DredgePond$Route" "sums" "[I", Cond.methodLink RX5 25 yX1_depthAt, Cond.instanceMethod yX1_depthAt, Cond.selects RX1 yX1_depthAt yX1_depthAt, Cond.code yX1_depthAt cX1_depthAt 3 (some .int), Cond.fieldLink RX1 21 "DredgePond$Ground" "depths" "[I", Cond.fieldLink RX1 18 "DredgePond$Ground" "places" "I", Cond.methodLink RX5 31 yX5_tinBy, Cond.static yX5_tinBy, Cond.code yX5_tinBy cX5_tinBy 4 (some .int), Cond.methodLink RX5 53 yX1_leastAt, Cond.instanceMethod yX1_leastAt, Cond.selects RX1 yX1_leastAt yX1_leastAt, Cond.code yX1_leastAt cX1_leastAt 3 (some .int), Cond.fieldLink RX1 28 "DredgePond$Ground" "least" "[I", Cond.methodLink RX5 56 yX1_greatestAt, Cond.instanceMethod yX1_greatestAt, Cond.selects RX1 yX1_greatestAt yX1_greatestAt, Cond.code yX1_greatestAt cX1_greatestAt 3 (some .int), Cond.fieldLink RX1 31 "DredgePond$Ground" "greatest" "[I"]
def wsX7_path_r3 : List Cond := [Cond.methodLink RX5 35 yX5_bestBeside, Cond.instanceMethod yX5_bestBeside, Cond.selects RX5 yX5_bestBeside yX5_bestBeside, Cond.code yX5_bestBeside cX5_bestBeside 3 (some .int), Cond.methodLink RX5 45 Lib.Math.max.name, Cond.static Lib.Math.max.name, Cond.initialized "java/lang/Math", Cond.code Lib.Math.max.name Lib.Math.max.code 2 (some .int), Cond.methodLink RX5 50 Lib.Math.min.name, Cond.static Lib.Math.min.name, Cond.code Lib.Math.min.name Lib.Math.min.code 2 (some .int), Cond.methodLink RX5 41 yX5_bestOf, Cond.instanceMethod yX5_bestOf, Cond.selects RX5 yX5_bestOf yX5_bestOf, Cond.code yX5_bestOf cX5_bestOf 6 (some .int), Cond.methodLink RX5 38 yX5_sumFrom, Cond.instanceMethod yX5_sumFrom, Cond.selects RX5 yX5_sumFrom yX5_sumFrom, Cond.code yX5_sumFrom cX5_sumFrom 3 (some .int), Cond.methodLink RX7 142 yX6_dredgePlace, Cond.instanceMethod yX6_dredgePlace, Cond.selects RX6 yX6_dredgePlace yX6_dredgePlace, Cond.code yX6_dredgePlace cX6_dredgePlace 1 (some .int), Cond.fieldLink RX6 18 "DredgePond$Trail" "placeOf" "[I"]
def wsX7_path_r4 : List Cond := [Cond.methodLink RX7 145 yX5_startPlace, Cond.instanceMethod yX5_startPlace, Cond.selects RX5 yX5_startPlace yX5_startPlace, Cond.code yX5_startPlace cX5_startPlace 3 (some .int), Cond.methodLink RX7 148 yX5_sumFrom, Cond.methodLink RX7 151 yX5_bestBeside]
def wsX7_path : List Cond := .code yX7_path cX7_path 7 (some .int) :: ((wsX7_path_r1 ++ (wsX7_path_r2 ++ (wsX7_path_r3 ++ wsX7_path_r4))) ++ wsX70 ++ wsX60 ++ wsX10 ++ wsX50)
def wsX7_next_r1 : List Cond := [Cond.fieldLink RX7 61 "DredgePond" "ground" "LDredgePond$Ground;", Cond.fieldLink RX7 70 "DredgePond" "trail" "LDredgePond$Trail;", Cond.methodLink RX7 130 yX6_nextRow, Cond.instanceMethod yX6_nextRow, Cond.selects RX6 yX6_nextRow yX6_nextRow, Cond.initialized RX6, Cond.code yX6_nextRow cX6_nextRow 1 (some .int), Cond.fieldLink RX6 9 "DredgePond$Trail" "dug" "I", Cond.methodLink RX7 154 yX1_widestFrom, Cond.instanceMethod yX1_widestFrom, Cond.selects RX1 yX1_widestFrom yX1_widestFrom, Cond.initialized RX1, Cond.code yX1_widestFrom cX1_widestFrom 7 (some .int), Cond.fieldLink RX1 15 "DredgePond$Ground" "rows" "I", Cond.fieldLink RX1 18 "DredgePond$Ground" "places" "I", Cond.methodLink RX1 48 yX1_isTold, Cond.instanceMethod yX1_isTold, Cond.selects RX1 yX1_isTold yX1_isTold, Cond.code yX1_isTold cX1_isTold 3 (some .boolean), Cond.fieldLink RX1 25 "DredgePond$Ground" "tins" "[I", Cond.methodLink RX1 45 yX1_greatestAt, Cond.instanceMethod yX1_greatestAt, Cond.selects RX1 yX1_greatestAt yX1_greatestAt, Cond.code yX1_greatestAt cX1_greatestAt 3 (some .int)]
def wsX7_next_r2 : List Cond := [Cond.fieldLink RX1 31 "DredgePond$Ground" "greatest" "[I", Cond.methodLink RX1 41 yX1_leastAt, Cond.instanceMethod yX1_leastAt, Cond.selects RX1 yX1_leastAt yX1_leastAt, Cond.code yX1_leastAt cX1_leastAt 3 (some .int), Cond.fieldLink RX1 28 "DredgePond$Ground" "least" "[I"]
def wsX7_next : List Cond := .code yX7_next cX7_next 1 (some .int) :: ((wsX7_next_r1 ++ wsX7_next_r2) ++ wsX70 ++ wsX60 ++ wsX10)
def wsX7_lawToday : List Cond := .code yX7_lawToday cX7_lawToday 2 (some .int) :: ([.fieldLink RX7 26 "DredgePond" "laws" "LDredgePond$LawBook;", .fieldLink RX7 37 "DredgePond" "today" "I", .methodLink RX7 230 yX2_term, .instanceMethod yX2_term, .selects RX2 yX2_term yX2_term, .initialized RX2, .code yX2_term cX2_term 4 (some .int), .fieldLink RX2 11 "DredgePond$LawBook" "terms" "[I", .methodLink RX2 39 yX2_inForce, .instanceMethod yX2_inForce, .selects RX2 yX2_inForce yX2_inForce, .code yX2_inForce cX2_inForce 3 (some .int), .fieldLink RX2 18 "DredgePond$LawBook" "taken" "I", .fieldLink RX2 15 "DredgePond$LawBook" "since" "[I", .static yX7_within, .initialized RX7, .code yX7_within cX7_within 3 (some .boolean), .methodLink RX2 42 yX2_usual, .static yX2_usual, .code yX2_usual cX2_usual 1 (some .int), .fieldLink RX2 26 "DredgePond$LawBook" "USUAL" "[I"] ++ wsX70 ++ wsX20)
def wsX7_bankAhead_r1 : List Cond := [Cond.fieldLink RX7 70 "DredgePond" "trail" "LDredgePond$Trail;", Cond.fieldLink RX7 61 "DredgePond" "ground" "LDredgePond$Ground;", Cond.methodLink RX7 255 Lib.Math.abs.name, Cond.static Lib.Math.abs.name, Cond.initialized "java/lang/Math", Cond.code Lib.Math.abs.name Lib.Math.abs.code 1 (some .int), Cond.methodLink RX7 236 yX6_dredgeRow, Cond.instanceMethod yX6_dredgeRow, Cond.selects RX6 yX6_dredgeRow yX6_dredgeRow, Cond.initialized RX6, Cond.code yX6_dredgeRow cX6_dredgeRow 1 (some .int), Cond.fieldLink RX6 9 "DredgePond$Trail" "dug" "I", Cond.methodLink RX7 142 yX6_dredgePlace, Cond.instanceMethod yX6_dredgePlace, Cond.selects RX6 yX6_dredgePlace yX6_dredgePlace, Cond.code yX6_dredgePlace cX6_dredgePlace 1 (some .int), Cond.fieldLink RX6 18 "DredgePond$Trail" "placeOf" "[I", Cond.methodLink RX7 99 yX1_has, Cond.instanceMethod yX1_has, Cond.selects RX1 yX1_has yX1_has, Cond.initialized RX1, Cond.code yX1_has cX1_has 3 (some .boolean), Cond.fieldLink RX1 15 "DredgePond$Ground" "rows" "I", Cond.fieldLink RX1 18 "DredgePond$Ground" "places" "I"]
def wsX7_bankAhead_r2 : List Cond := [Cond.static yX7_within, Cond.initialized RX7, Cond.code yX7_within cX7_within 3 (some .boolean), Cond.methodLink RX7 102 yX1_depthAt, Cond.instanceMethod yX1_depthAt, Cond.selects RX1 yX1_depthAt yX1_depthAt, Cond.code yX1_depthAt cX1_depthAt 3 (some .int), Cond.fieldLink RX1 21 "DredgePond$Ground" "depths" "[I"]
def wsX7_bankAhead : List Cond := .code yX7_bankAhead cX7_bankAhead 4 (some .int) :: ((wsX7_bankAhead_r1 ++ wsX7_bankAhead_r2) ++ wsX70 ++ wsX60 ++ wsX10)
def wsX7_isMuddy_r1 : List Cond := [Cond.fieldLink RX7 10 "DredgePond" "pond" "LDredgePond$Pond;", Cond.methodLink RX7 239 yX4_mud, Cond.instanceMethod yX4_mud, Cond.selects RX4 yX4_mud yX4_mud, Cond.initialized RX4, Cond.code yX4_mud cX4_mud 1 (some .int), Cond.fieldLink RX4 13 "DredgePond$Pond" "dirt" "I", Cond.methodLink RX7 165 yX7_lawToday, Cond.instanceMethod yX7_lawToday, Cond.selects RX7 yX7_lawToday yX7_lawToday, Cond.initialized RX7, Cond.code yX7_lawToday cX7_lawToday 2 (some .int), Cond.fieldLink RX7 26 "DredgePond" "laws" "LDredgePond$LawBook;", Cond.fieldLink RX7 37 "DredgePond" "today" "I", Cond.methodLink RX7 230 yX2_term, Cond.instanceMethod yX2_term, Cond.selects RX2 yX2_term yX2_term, Cond.initialized RX2, Cond.code yX2_term cX2_term 4 (some .int), Cond.fieldLink RX2 11 "DredgePond$LawBook" "terms" "[I", Cond.methodLink RX2 39 yX2_inForce, Cond.instanceMethod yX2_inForce, Cond.selects RX2 yX2_inForce yX2_inForce, Cond.code yX2_inForce cX2_inForce 3 (some .int)]
def wsX7_isMuddy_r2 : List Cond := [Cond.fieldLink RX2 18 "DredgePond$LawBook" "taken" "I", Cond.fieldLink RX2 15 "DredgePond$LawBook" "since" "[I", Cond.static yX7_within, Cond.code yX7_within cX7_within 3 (some .boolean), Cond.methodLink RX2 42 yX2_usual, Cond.static yX2_usual, Cond.code yX2_usual cX2_usual 1 (some .int), Cond.fieldLink RX2 26 "DredgePond$LawBook" "USUAL" "[I"]
def wsX7_isMuddy : List Cond := .code yX7_isMuddy cX7_isMuddy 1 (some .boolean) :: ((wsX7_isMuddy_r1 ++ wsX7_isMuddy_r2) ++ wsX70 ++ wsX40 ++ wsX20)
def wsX7_bars_r1 : List Cond := [Cond.fieldLink RX7 70 "DredgePond" "trail" "LDredgePond$Trail;", Cond.fieldLink RX7 61 "DredgePond" "ground" "LDredgePond$Ground;", Cond.fieldLink RX7 10 "DredgePond" "pond" "LDredgePond$Pond;", Cond.methodLink RX7 130 yX6_nextRow, Cond.instanceMethod yX6_nextRow, Cond.selects RX6 yX6_nextRow yX6_nextRow, Cond.initialized RX6, Cond.code yX6_nextRow cX6_nextRow 1 (some .int), Cond.fieldLink RX6 9 "DredgePond$Trail" "dug" "I", Cond.methodLink RX7 99 yX1_has, Cond.instanceMethod yX1_has, Cond.selects RX1 yX1_has yX1_has, Cond.initialized RX1, Cond.code yX1_has cX1_has 3 (some .boolean), Cond.fieldLink RX1 15 "DredgePond$Ground" "rows" "I", Cond.fieldLink RX1 18 "DredgePond$Ground" "places" "I", Cond.static yX7_within, Cond.initialized RX7, Cond.code yX7_within cX7_within 3 (some .boolean), Cond.methodLink RX7 158 yX6_reaches, Cond.instanceMethod yX6_reaches, Cond.selects RX6 yX6_reaches yX6_reaches, Cond.code yX6_reaches cX6_reaches 2 (some .boolean), Cond.methodLink RX6 36 Lib.Math.abs.name]
def wsX7_bars_r2 : List Cond := [Cond.static Lib.Math.abs.name, Cond.initialized "java/lang/Math", Cond.code Lib.Math.abs.name Lib.Math.abs.code 1 (some .int), Cond.methodLink RX6 32 yX6_dredgePlace, Cond.instanceMethod yX6_dredgePlace, Cond.selects RX6 yX6_dredgePlace yX6_dredgePlace, Cond.code yX6_dredgePlace cX6_dredgePlace 1 (some .int), Cond.fieldLink RX6 18 "DredgePond$Trail" "placeOf" "[I", Cond.methodLink RX7 162 yX4_level, Cond.instanceMethod yX4_level, Cond.selects RX4 yX4_level yX4_level, Cond.initialized RX4, Cond.code yX4_level cX4_level 1 (some .int), Cond.fieldLink RX4 7 "DredgePond$Pond" "height" "I", Cond.methodLink RX7 165 yX7_lawToday, Cond.instanceMethod yX7_lawToday, Cond.selects RX7 yX7_lawToday yX7_lawToday, Cond.code yX7_lawToday cX7_lawToday 2 (some .int), Cond.fieldLink RX7 26 "DredgePond" "laws" "LDredgePond$LawBook;", Cond.fieldLink RX7 37 "DredgePond" "today" "I", Cond.methodLink RX7 230 yX2_term, Cond.instanceMethod yX2_term, Cond.selects RX2 yX2_term yX2_term, Cond.initialized RX2]
def wsX7_bars_r3 : List Cond := [Cond.code yX2_term cX2_term 4 (some .int), Cond.fieldLink RX2 11 "DredgePond$LawBook" "terms" "[I", Cond.methodLink RX2 39 yX2_inForce, Cond.instanceMethod yX2_inForce, Cond.selects RX2 yX2_inForce yX2_inForce, Cond.code yX2_inForce cX2_inForce 3 (some .int), Cond.fieldLink RX2 18 "DredgePond$LawBook" "taken" "I", Cond.fieldLink RX2 15 "DredgePond$LawBook" "since" "[I", Cond.methodLink RX2 42 yX2_usual, Cond.static yX2_usual, Cond.code yX2_usual cX2_usual 1 (some .int), Cond.fieldLink RX2 26 "DredgePond$LawBook" "USUAL" "[I", Cond.methodLink RX7 85 yX7_within, Cond.methodLink RX7 102 yX1_depthAt, Cond.instanceMethod yX1_depthAt, Cond.selects RX1 yX1_depthAt yX1_depthAt, Cond.code yX1_depthAt cX1_depthAt 3 (some .int), Cond.fieldLink RX1 21 "DredgePond$Ground" "depths" "[I", Cond.methodLink RX7 168 yX7_bankAhead, Cond.instanceMethod yX7_bankAhead, Cond.selects RX7 yX7_bankAhead yX7_bankAhead, Cond.code yX7_bankAhead cX7_bankAhead 4 (some .int), Cond.methodLink RX7 255 Lib.Math.abs.name, Cond.methodLink RX7 236 yX6_dredgeRow]
def wsX7_bars_r4 : List Cond := [Cond.instanceMethod yX6_dredgeRow, Cond.selects RX6 yX6_dredgeRow yX6_dredgeRow, Cond.code yX6_dredgeRow cX6_dredgeRow 1 (some .int), Cond.methodLink RX7 142 yX6_dredgePlace, Cond.methodLink RX7 171 yX4_hoursLeft, Cond.instanceMethod yX4_hoursLeft, Cond.selects RX4 yX4_hoursLeft yX4_hoursLeft, Cond.code yX4_hoursLeft cX4_hoursLeft 1 (some .int), Cond.fieldLink RX4 16 "DredgePond$Pond" "hours" "I", Cond.methodLink RX7 174 yX4_hoursFor, Cond.static yX4_hoursFor, Cond.code yX4_hoursFor cX4_hoursFor 1 (some .int), Cond.methodLink RX7 177 yX7_isMuddy, Cond.instanceMethod yX7_isMuddy, Cond.selects RX7 yX7_isMuddy yX7_isMuddy, Cond.code yX7_isMuddy cX7_isMuddy 1 (some .boolean), Cond.methodLink RX7 239 yX4_mud, Cond.instanceMethod yX4_mud, Cond.selects RX4 yX4_mud yX4_mud, Cond.code yX4_mud cX4_mud 1 (some .int), Cond.fieldLink RX4 13 "DredgePond$Pond" "dirt" "I"]
def wsX7_bars : List Cond := .code yX7_bars cX7_bars 4 (some .int) :: ((wsX7_bars_r1 ++ (wsX7_bars_r2 ++ (wsX7_bars_r3 ++ wsX7_bars_r4))) ++ wsX70 ++ wsX60 ++ wsX10 ++ wsX40 ++ wsX20)
def wsX7_dig_r1 : List Cond := [Cond.fieldLink RX7 70 "DredgePond" "trail" "LDredgePond$Trail;", Cond.fieldLink RX7 61 "DredgePond" "ground" "LDredgePond$Ground;", Cond.fieldLink RX7 37 "DredgePond" "today" "I", Cond.fieldLink RX7 10 "DredgePond" "pond" "LDredgePond$Pond;", Cond.fieldLink RX7 19 "DredgePond" "bag" "LDredgePond$Bag;", Cond.methodLink RX7 85 yX7_within, Cond.static yX7_within, Cond.initialized RX7, Cond.code yX7_within cX7_within 3 (some .boolean), Cond.methodLink RX7 181 yX7_bars, Cond.instanceMethod yX7_bars, Cond.selects RX7 yX7_bars yX7_bars, Cond.code yX7_bars cX7_bars 4 (some .int), Cond.methodLink RX7 130 yX6_nextRow, Cond.instanceMethod yX6_nextRow, Cond.selects RX6 yX6_nextRow yX6_nextRow, Cond.initialized RX6, Cond.code yX6_nextRow cX6_nextRow 1 (some .int), Cond.fieldLink RX6 9 "DredgePond$Trail" "dug" "I", Cond.methodLink RX7 99 yX1_has, Cond.instanceMethod yX1_has, Cond.selects RX1 yX1_has yX1_has, Cond.initialized RX1, Cond.code yX1_has cX1_has 3 (some .boolean)]
def wsX7_dig_r2 : List Cond := [Cond.fieldLink RX1 15 "DredgePond$Ground" "rows" "I", Cond.fieldLink RX1 18 "DredgePond$Ground" "places" "I", Cond.methodLink RX7 158 yX6_reaches, Cond.instanceMethod yX6_reaches, Cond.selects RX6 yX6_reaches yX6_reaches, Cond.code yX6_reaches cX6_reaches 2 (some .boolean), Cond.methodLink RX6 36 Lib.Math.abs.name, Cond.static Lib.Math.abs.name, Cond.initialized "java/lang/Math", Cond.code Lib.Math.abs.name Lib.Math.abs.code 1 (some .int), Cond.methodLink RX6 32 yX6_dredgePlace, Cond.instanceMethod yX6_dredgePlace, Cond.selects RX6 yX6_dredgePlace yX6_dredgePlace, Cond.code yX6_dredgePlace cX6_dredgePlace 1 (some .int), Cond.fieldLink RX6 18 "DredgePond$Trail" "placeOf" "[I", Cond.methodLink RX7 162 yX4_level, Cond.instanceMethod yX4_level, Cond.selects RX4 yX4_level yX4_level, Cond.initialized RX4, Cond.code yX4_level cX4_level 1 (some .int), Cond.fieldLink RX4 7 "DredgePond$Pond" "height" "I", Cond.methodLink RX7 165 yX7_lawToday, Cond.instanceMethod yX7_lawToday, Cond.selects RX7 yX7_lawToday yX7_lawToday]
def wsX7_dig_r3 : List Cond := [Cond.code yX7_lawToday cX7_lawToday 2 (some .int), Cond.fieldLink RX7 26 "DredgePond" "laws" "LDredgePond$LawBook;", Cond.methodLink RX7 230 yX2_term, Cond.instanceMethod yX2_term, Cond.selects RX2 yX2_term yX2_term, Cond.initialized RX2, Cond.code yX2_term cX2_term 4 (some .int), Cond.fieldLink RX2 11 "DredgePond$LawBook" "terms" "[I", Cond.methodLink RX2 39 yX2_inForce, Cond.instanceMethod yX2_inForce, Cond.selects RX2 yX2_inForce yX2_inForce, Cond.code yX2_inForce cX2_inForce 3 (some .int), Cond.fieldLink RX2 18 "DredgePond$LawBook" "taken" "I", Cond.fieldLink RX2 15 "DredgePond$LawBook" "since" "[I", Cond.methodLink RX2 42 yX2_usual, Cond.static yX2_usual, Cond.code yX2_usual cX2_usual 1 (some .int), Cond.fieldLink RX2 26 "DredgePond$LawBook" "USUAL" "[I", Cond.methodLink RX7 102 yX1_depthAt, Cond.instanceMethod yX1_depthAt, Cond.selects RX1 yX1_depthAt yX1_depthAt, Cond.code yX1_depthAt cX1_depthAt 3 (some .int), Cond.fieldLink RX1 21 "DredgePond$Ground" "depths" "[I", Cond.methodLink RX7 168 yX7_bankAhead]
def wsX7_dig_r4 : List Cond := [Cond.instanceMethod yX7_bankAhead, Cond.selects RX7 yX7_bankAhead yX7_bankAhead, Cond.code yX7_bankAhead cX7_bankAhead 4 (some .int), Cond.methodLink RX7 255 Lib.Math.abs.name, Cond.methodLink RX7 236 yX6_dredgeRow, Cond.instanceMethod yX6_dredgeRow, Cond.selects RX6 yX6_dredgeRow yX6_dredgeRow, Cond.code yX6_dredgeRow cX6_dredgeRow 1 (some .int), Cond.methodLink RX7 142 yX6_dredgePlace, Cond.methodLink RX7 171 yX4_hoursLeft, Cond.instanceMethod yX4_hoursLeft, Cond.selects RX4 yX4_hoursLeft yX4_hoursLeft, Cond.code yX4_hoursLeft cX4_hoursLeft 1 (some .int), Cond.fieldLink RX4 16 "DredgePond$Pond" "hours" "I", Cond.methodLink RX7 174 yX4_hoursFor, Cond.static yX4_hoursFor, Cond.code yX4_hoursFor cX4_hoursFor 1 (some .int), Cond.methodLink RX7 177 yX7_isMuddy, Cond.instanceMethod yX7_isMuddy, Cond.selects RX7 yX7_isMuddy yX7_isMuddy, Cond.code yX7_isMuddy cX7_isMuddy 1 (some .boolean), Cond.methodLink RX7 239 yX4_mud, Cond.instanceMethod yX4_mud, Cond.selects RX4 yX4_mud yX4_mud]
def wsX7_dig_r5 : List Cond := [Cond.code yX4_mud cX4_mud 1 (some .int), Cond.fieldLink RX4 13 "DredgePond$Pond" "dirt" "I", Cond.methodLink RX7 96 yX1_tell, Cond.instanceMethod yX1_tell, Cond.selects RX1 yX1_tell yX1_tell, Cond.code yX1_tell cX1_tell 4 none, Cond.fieldLink RX1 25 "DredgePond$Ground" "tins" "[I", Cond.methodLink RX1 38 yX1_narrowAll, Cond.instanceMethod yX1_narrowAll, Cond.selects RX1 yX1_narrowAll yX1_narrowAll, Cond.code yX1_narrowAll cX1_narrowAll 1 none, Cond.methodLink RX1 52 yX1_openSpans, Cond.instanceMethod yX1_openSpans, Cond.selects RX1 yX1_openSpans yX1_openSpans, Cond.code yX1_openSpans cX1_openSpans 3 none, Cond.fieldLink RX1 28 "DredgePond$Ground" "least" "[I", Cond.fieldLink RX1 31 "DredgePond$Ground" "greatest" "[I", Cond.methodLink RX1 55 yX1_sweepDown, Cond.instanceMethod yX1_sweepDown, Cond.selects RX1 yX1_sweepDown yX1_sweepDown, Cond.code yX1_sweepDown cX1_sweepDown 4 none, Cond.methodLink RX1 64 yX1_narrow, Cond.instanceMethod yX1_narrow, Cond.selects RX1 yX1_narrow yX1_narrow]
def wsX7_dig_r6 : List Cond := [Cond.code yX1_narrow cX1_narrow 3 none, Cond.fieldLink RX1 11 "DredgePond$Ground" "gradient" "I", Cond.methodLink RX1 68 Lib.Math.max.name, Cond.static Lib.Math.max.name, Cond.code Lib.Math.max.name Lib.Math.max.code 2 (some .int), Cond.methodLink RX1 73 Lib.Math.min.name, Cond.static Lib.Math.min.name, Cond.code Lib.Math.min.name Lib.Math.min.code 2 (some .int), Cond.methodLink RX1 58 yX1_sweepUp, Cond.instanceMethod yX1_sweepUp, Cond.selects RX1 yX1_sweepUp yX1_sweepUp, Cond.code yX1_sweepUp cX1_sweepUp 4 none, Cond.methodLink RX1 61 yX1_closeToldSpans, Cond.instanceMethod yX1_closeToldSpans, Cond.selects RX1 yX1_closeToldSpans yX1_closeToldSpans, Cond.code yX1_closeToldSpans cX1_closeToldSpans 2 none, Cond.methodLink RX7 184 yX6_goTo, Cond.instanceMethod yX6_goTo, Cond.selects RX6 yX6_goTo yX6_goTo, Cond.code yX6_goTo cX6_goTo 3 none, Cond.fieldLink RX6 22 "DredgePond$Trail" "dayOf" "[I", Cond.methodLink RX7 187 yX4_stir, Cond.instanceMethod yX4_stir, Cond.selects RX4 yX4_stir yX4_stir]
def wsX7_dig_r7 : List Cond := [Cond.code yX4_stir cX4_stir 2 none, Cond.methodLink RX4 19 yX4_hoursFor, Cond.methodLink RX7 190 yX0_fill, Cond.instanceMethod yX0_fill, Cond.selects RX0 yX0_fill yX0_fill, Cond.initialized RX0, Cond.code yX0_fill cX0_fill 5 (some .int), Cond.fieldLink RX0 22 "DredgePond$Bag" "pace" "I", Cond.fieldLink RX0 19 "DredgePond$Bag" "gone" "I", Cond.fieldLink RX0 15 "DredgePond$Bag" "whole" "I", Cond.fieldLink RX0 9 "DredgePond$Bag" "months" "[I"]
def wsX7_dig : List Cond := .code yX7_dig cX7_dig 5 (some .int) :: ((wsX7_dig_r1 ++ (wsX7_dig_r2 ++ (wsX7_dig_r3 ++ (wsX7_dig_r4 ++ (wsX7_dig_r5 ++ (wsX7_dig_r6 ++ wsX7_dig_r7)))))) ++ wsX70 ++ wsX60 ++ wsX10 ++ wsX40 ++ wsX20 ++ wsX00)
def wsX7_jig : List Cond := .code yX7_jig cX7_jig 2 (some .boolean) :: ([.fieldLink RX7 19 "DredgePond" "bag" "LDredgePond$Bag;", .methodLink RX7 85 yX7_within, .static yX7_within, .initialized RX7, .code yX7_within cX7_within 3 (some .boolean), .methodLink RX7 193 yX0_run, .instanceMethod yX0_run, .selects RX0 yX0_run yX0_run, .initialized RX0, .code yX0_run cX0_run 2 none, .fieldLink RX0 22 "DredgePond$Bag" "pace" "I"] ++ wsX70 ++ wsX00)
def wsX7_let_r1 : List Cond := [Cond.fieldLink RX7 10 "DredgePond" "pond" "LDredgePond$Pond;", Cond.fieldLink RX7 41 "DredgePond" "fines" "I", Cond.methodLink RX7 162 yX4_level, Cond.instanceMethod yX4_level, Cond.selects RX4 yX4_level yX4_level, Cond.initialized RX4, Cond.code yX4_level cX4_level 1 (some .int), Cond.fieldLink RX4 7 "DredgePond$Pond" "height" "I", Cond.methodLink RX7 85 yX7_within, Cond.static yX7_within, Cond.initialized RX7, Cond.code yX7_within cX7_within 3 (some .boolean), Cond.methodLink RX7 177 yX7_isMuddy, Cond.instanceMethod yX7_isMuddy, Cond.selects RX7 yX7_isMuddy yX7_isMuddy, Cond.code yX7_isMuddy cX7_isMuddy 1 (some .boolean), Cond.methodLink RX7 239 yX4_mud, Cond.instanceMethod yX4_mud, Cond.selects RX4 yX4_mud yX4_mud, Cond.code yX4_mud cX4_mud 1 (some .int), Cond.fieldLink RX4 13 "DredgePond$Pond" "dirt" "I", Cond.methodLink RX7 165 yX7_lawToday, Cond.instanceMethod yX7_lawToday, Cond.selects RX7 yX7_lawToday yX7_lawToday]
def wsX7_let_r2 : List Cond := [Cond.code yX7_lawToday cX7_lawToday 2 (some .int), Cond.fieldLink RX7 26 "DredgePond" "laws" "LDredgePond$LawBook;", Cond.fieldLink RX7 37 "DredgePond" "today" "I", Cond.methodLink RX7 230 yX2_term, Cond.instanceMethod yX2_term, Cond.selects RX2 yX2_term yX2_term, Cond.initialized RX2, Cond.code yX2_term cX2_term 4 (some .int), Cond.fieldLink RX2 11 "DredgePond$LawBook" "terms" "[I", Cond.methodLink RX2 39 yX2_inForce, Cond.instanceMethod yX2_inForce, Cond.selects RX2 yX2_inForce yX2_inForce, Cond.code yX2_inForce cX2_inForce 3 (some .int), Cond.fieldLink RX2 18 "DredgePond$LawBook" "taken" "I", Cond.fieldLink RX2 15 "DredgePond$LawBook" "since" "[I", Cond.methodLink RX2 42 yX2_usual, Cond.static yX2_usual, Cond.code yX2_usual cX2_usual 1 (some .int), Cond.fieldLink RX2 26 "DredgePond$LawBook" "USUAL" "[I", Cond.methodLink RX7 196 yX4_drain, Cond.instanceMethod yX4_drain, Cond.selects RX4 yX4_drain yX4_drain, Cond.code yX4_drain cX4_drain 2 none]
def wsX7_let : List Cond := .code yX7_let cX7_let 2 (some .int) :: ((wsX7_let_r1 ++ wsX7_let_r2) ++ wsX70 ++ wsX40 ++ wsX20)
def wsX7_day_r1 : List Cond := [Cond.fieldLink RX7 37 "DredgePond" "today" "I", Cond.fieldLink RX7 41 "DredgePond" "fines" "I", Cond.fieldLink RX7 70 "DredgePond" "trail" "LDredgePond$Trail;", Cond.fieldLink RX7 10 "DredgePond" "pond" "LDredgePond$Pond;", Cond.methodLink RX7 85 yX7_within, Cond.static yX7_within, Cond.initialized RX7, Cond.code yX7_within cX7_within 3 (some .boolean), Cond.methodLink RX7 165 yX7_lawToday, Cond.instanceMethod yX7_lawToday, Cond.selects RX7 yX7_lawToday yX7_lawToday, Cond.code yX7_lawToday cX7_lawToday 2 (some .int), Cond.fieldLink RX7 26 "DredgePond" "laws" "LDredgePond$LawBook;", Cond.methodLink RX7 230 yX2_term, Cond.instanceMethod yX2_term, Cond.selects RX2 yX2_term yX2_term, Cond.initialized RX2, Cond.code yX2_term cX2_term 4 (some .int), Cond.fieldLink RX2 11 "DredgePond$LawBook" "terms" "[I", Cond.methodLink RX2 39 yX2_inForce, Cond.instanceMethod yX2_inForce, Cond.selects RX2 yX2_inForce yX2_inForce, Cond.code yX2_inForce cX2_inForce 3 (some .int), Cond.fieldLink RX2 18 "DredgePond$LawBook" "taken" "I"]
def wsX7_day_r2 : List Cond := [Cond.fieldLink RX2 15 "DredgePond$LawBook" "since" "[I", Cond.methodLink RX2 42 yX2_usual, Cond.static yX2_usual, Cond.code yX2_usual cX2_usual 1 (some .int), Cond.fieldLink RX2 26 "DredgePond$LawBook" "USUAL" "[I", Cond.methodLink RX7 199 yX6_fineAll, Cond.instanceMethod yX6_fineAll, Cond.selects RX6 yX6_fineAll yX6_fineAll, Cond.initialized RX6, Cond.code yX6_fineAll cX6_fineAll 4 (some .int), Cond.fieldLink RX6 9 "DredgePond$Trail" "dug" "I", Cond.fieldLink RX6 22 "DredgePond$Trail" "dayOf" "[I", Cond.fieldLink RX6 25 "DredgePond$Trail" "laidBack" "[Z", Cond.fieldLink RX6 29 "DredgePond$Trail" "fined" "[Z", Cond.methodLink RX7 202 yX4_passNight, Cond.instanceMethod yX4_passNight, Cond.selects RX4 yX4_passNight yX4_passNight, Cond.initialized RX4, Cond.code yX4_passNight cX4_passNight 2 none, Cond.fieldLink RX4 7 "DredgePond$Pond" "height" "I", Cond.methodLink RX4 23 Lib.Math.min.name, Cond.static Lib.Math.min.name, Cond.initialized "java/lang/Math", Cond.code Lib.Math.min.name Lib.Math.min.code 2 (some .int)]
def wsX7_day_r3 : List Cond := [Cond.methodLink RX4 29 Lib.Math.max.name, Cond.static Lib.Math.max.name, Cond.code Lib.Math.max.name Lib.Math.max.code 2 (some .int), Cond.fieldLink RX4 13 "DredgePond$Pond" "dirt" "I", Cond.fieldLink RX4 16 "DredgePond$Pond" "hours" "I"]
def wsX7_day : List Cond := .code yX7_day cX7_day 2 (some .int) :: ((wsX7_day_r1 ++ (wsX7_day_r2 ++ wsX7_day_r3)) ++ wsX70 ++ wsX20 ++ wsX60 ++ wsX40)
def wsX7_back : List Cond := .code yX7_back cX7_back 3 (some .boolean) :: ([.fieldLink RX7 70 "DredgePond" "trail" "LDredgePond$Trail;", .methodLink RX7 205 yX6_layBack, .instanceMethod yX6_layBack, .selects RX6 yX6_layBack yX6_layBack, .initialized RX6, .code yX6_layBack cX6_layBack 3 (some .boolean), .fieldLink RX6 25 "DredgePond$Trail" "laidBack" "[Z", .fieldLink RX6 15 "DredgePond$Trail" "laidBacks" "I", .methodLink RX6 46 yX6_isDug, .instanceMethod yX6_isDug, .selects RX6 yX6_isDug yX6_isDug, .code yX6_isDug cX6_isDug 3 (some .boolean), .fieldLink RX6 9 "DredgePond$Trail" "dug" "I", .fieldLink RX6 18 "DredgePond$Trail" "placeOf" "[I", .static yX7_within, .initialized RX7, .code yX7_within cX7_within 3 (some .boolean), .methodLink RX6 50 yX6_dredgeRow, .instanceMethod yX6_dredgeRow, .selects RX6 yX6_dredgeRow yX6_dredgeRow, .code yX6_dredgeRow cX6_dredgeRow 1 (some .int)] ++ wsX70 ++ wsX60)
def wsX7_feed : List Cond := .code yX7_feed cX7_feed 6 (some .int) :: ([.fieldLink RX7 33 "DredgePond" "reader" "LDredgePond$LawReader;", .methodLink RX7 208 yX3_hasRoom, .instanceMethod yX3_hasRoom, .selects RX3 yX3_hasRoom yX3_hasRoom, .initialized RX3, .code yX3_hasRoom cX3_hasRoom 1 (some .boolean), .fieldLink RX3 20 "DredgePond$LawReader" "bytes" "I", .methodLink RX7 211 yX3_append, .instanceMethod yX3_append, .selects RX3 yX3_append yX3_append, .code yX3_append cX3_append 3 none, .fieldLink RX3 11 "DredgePond$LawReader" "tape" "[I", .methodLink RX7 214 yX3_size, .instanceMethod yX3_size, .selects RX3 yX3_size yX3_size, .code yX3_size cX3_size 1 (some .int)] ++ wsX70 ++ wsX30)
def wsX7_law_r1 : List Cond := [Cond.fieldLink RX7 33 "DredgePond" "reader" "LDredgePond$LawReader;", Cond.fieldLink RX7 26 "DredgePond" "laws" "LDredgePond$LawBook;", Cond.fieldLink RX7 44 "DredgePond" "latestFault" "I", Cond.fieldLink RX7 37 "DredgePond" "today" "I", Cond.methodLink RX7 214 yX3_size, Cond.instanceMethod yX3_size, Cond.selects RX3 yX3_size yX3_size, Cond.initialized RX3, Cond.code yX3_size cX3_size 1 (some .int), Cond.fieldLink RX3 20 "DredgePond$LawReader" "bytes" "I", Cond.methodLink RX7 85 yX7_within, Cond.static yX7_within, Cond.initialized RX7, Cond.code yX7_within cX7_within 3 (some .boolean), Cond.methodLink RX7 217 yX2_isFull, Cond.instanceMethod yX2_isFull, Cond.selects RX2 yX2_isFull yX2_isFull, Cond.initialized RX2, Cond.code yX2_isFull cX2_isFull 1 (some .boolean), Cond.fieldLink RX2 18 "DredgePond$LawBook" "taken" "I", Cond.methodLink RX7 220 yX3_read, Cond.instanceMethod yX3_read, Cond.selects RX3 yX3_read yX3_read, Cond.code yX3_read cX3_read 3 (some .int)]
def wsX7_law_r2 : List Cond := [Cond.methodLink RX3 40 Lib.Math.min.name, Cond.static Lib.Math.min.name, Cond.initialized "java/lang/Math", Cond.code Lib.Math.min.name Lib.Math.min.code 2 (some .int), Cond.methodLink RX3 46 Lib.Math.max.name, Cond.static Lib.Math.max.name, Cond.code Lib.Math.max.name Lib.Math.max.code 2 (some .int), Cond.fieldLink RX3 24 "DredgePond$LawReader" "length" "I", Cond.fieldLink RX3 33 "DredgePond$LawReader" "stop" "I", Cond.fieldLink RX3 17 "DredgePond$LawReader" "terms" "[I", Cond.fieldLink RX3 27 "DredgePond$LawReader" "kind" "I", Cond.fieldLink RX3 30 "DredgePond$LawReader" "start" "I", Cond.methodLink RX3 49 yX2_usual, Cond.static yX2_usual, Cond.code yX2_usual cX2_usual 1 (some .int), Cond.fieldLink RX2 26 "DredgePond$LawBook" "USUAL" "[I", Cond.methodLink RX3 53 yX3_scan, Cond.instanceMethod yX3_scan, Cond.selects RX3 yX3_scan yX3_scan, Cond.code yX3_scan cX3_scan 1 none, Cond.fieldLink RX3 11 "DredgePond$LawReader" "tape" "[I", Cond.methodLink RX3 97 yX3_isBlank, Cond.static yX3_isBlank, Cond.code yX3_isBlank cX3_isBlank 1 (some .boolean)]
def wsX7_law_r3 : List Cond := [Cond.methodLink RX3 100 yX3_kindOf, Cond.static yX3_kindOf, Cond.code yX3_kindOf cX3_kindOf 1 (some .int), Cond.methodLink RX3 56 yX3_readStatement, Cond.instanceMethod yX3_readStatement, Cond.selects RX3 yX3_readStatement yX3_readStatement, Cond.code yX3_readStatement cX3_readStatement 2 (some .boolean), Cond.methodLink RX3 60 yX3_keyword, Cond.instanceMethod yX3_keyword, Cond.selects RX3 yX3_keyword yX3_keyword, Cond.code yX3_keyword cX3_keyword 1 (some .int), Cond.methodLink RX3 73 yX3_isWord, Cond.instanceMethod yX3_isWord, Cond.selects RX3 yX3_isWord yX3_isWord, Cond.code yX3_isWord cX3_isWord 3 (some .boolean), Cond.methodLink RX3 89 yJ0_length_8abf5, Cond.instanceMethod yJ0_length_8abf5, Cond.selects RJ0 yJ0_length_8abf5 yJ0_length_8abf5, Cond.initialized RJ0, Cond.code yJ0_length_8abf5 cJ0_length_8abf5 1 (some .int), Cond.fieldLink RJ0 9 "java/lang/String" "value" "[B", Cond.methodLink RJ0 335 yJ0_coder_7d493, Cond.instanceMethod yJ0_coder_7d493, Cond.selects RJ0 yJ0_coder_7d493 yJ0_coder_7d493]
def wsX7_law_r4 : List Cond := [Cond.code yJ0_coder_7d493 cJ0_coder_7d493 1 (some .byte), Cond.fieldLink RJ0 38 "java/lang/String" "COMPACT_STRINGS" "Z", Cond.fieldLink RJ0 15 "java/lang/String" "coder" "B", Cond.methodLink RX3 93 yJ0_charAt_5068e, Cond.instanceMethod yJ0_charAt_5068e, Cond.selects RJ0 yJ0_charAt_5068e yJ0_charAt_5068e, Cond.code yJ0_charAt_5068e cJ0_charAt_5068e 2 (some .char), Cond.methodLink RJ0 492 yJ0_isLatin1_aae02, Cond.instanceMethod yJ0_isLatin1_aae02, Cond.selects RJ0 yJ0_isLatin1_aae02 yJ0_isLatin1_aae02, Cond.code yJ0_isLatin1_aae02 cJ0_isLatin1_aae02 1 (some .boolean), Cond.methodLink RJ0 495 yJ1_charAt_3b067, Cond.static yJ1_charAt_3b067, Cond.initialized RJ1, Cond.code yJ1_charAt_3b067 cJ1_charAt_3b067 2 (some .char), Cond.methodLink RJ1 9 yJ0_checkIndex_df160, Cond.static yJ0_checkIndex_df160, Cond.code yJ0_checkIndex_df160 cJ0_checkIndex_df160 2 none, Cond.fieldLink RJ0 1053 "jdk/internal/util/Preconditions" "SIOOBE_FORMATTER" "Ljava/util/function/BiFunction;", Cond.methodLink RJ0 1059 yJ3_checkIndex_8e157, Cond.static yJ3_checkIndex_8e157, Cond.initialized RJ3, Cond.code yJ3_checkIndex_8e157 cJ3_checkIndex_8e157 3 (some .int), Cond.methodLink RJ0 498 yJ2_charAt_3b067]
def wsX7_law_r5 : List Cond := [Cond.static yJ2_charAt_3b067, Cond.initialized RJ2, Cond.code yJ2_charAt_3b067 cJ2_charAt_3b067 2 (some .char), Cond.methodLink RJ2 67 yJ2_checkIndex_2214a, Cond.static yJ2_checkIndex_2214a, Cond.code yJ2_checkIndex_2214a cJ2_checkIndex_2214a 2 none, Cond.methodLink RJ2 48 yJ2_length_9d52b, Cond.static yJ2_length_9d52b, Cond.code yJ2_length_9d52b cJ2_length_9d52b 1 (some .int), Cond.methodLink RJ2 414 yJ0_checkIndex_df160, Cond.methodLink RJ2 71 yJ2_getChar_3b067, Cond.static yJ2_getChar_3b067, Cond.code yJ2_getChar_3b067 cJ2_getChar_3b067 2 (some .char), Cond.fieldLink RJ2 44 "java/lang/StringUTF16" "$assertionsDisabled" "Z", Cond.fieldLink RJ2 59 "java/lang/StringUTF16" "HI_BYTE_SHIFT" "I", Cond.fieldLink RJ2 63 "java/lang/StringUTF16" "LO_BYTE_SHIFT" "I", Cond.methodLink RX3 64 yX3_readNumber, Cond.instanceMethod yX3_readNumber, Cond.selects RX3 yX3_readNumber yX3_readNumber, Cond.code yX3_readNumber cX3_readNumber 4 (some .boolean), Cond.methodLink RX3 68 yX3_readGreatest, Cond.instanceMethod yX3_readGreatest, Cond.selects RX3 yX3_readGreatest yX3_readGreatest, Cond.code yX3_readGreatest cX3_readGreatest 1 (some .boolean)]
def wsX7_law_r6 : List Cond := [Cond.methodLink RX7 223 yX2_take, Cond.instanceMethod yX2_take, Cond.selects RX2 yX2_take yX2_take, Cond.code yX2_take cX2_take 5 (some .int), Cond.fieldLink RX2 11 "DredgePond$LawBook" "terms" "[I", Cond.fieldLink RX2 15 "DredgePond$LawBook" "since" "[I", Cond.methodLink RX2 29 yX2_isFull, Cond.methodLink RX2 33 yX3_termRead, Cond.instanceMethod yX3_termRead, Cond.selects RX3 yX3_termRead yX3_termRead, Cond.code yX3_termRead cX3_termRead 2 (some .int)]
def wsX7_law : List Cond := .code yX7_law cX7_law 2 (some .int) :: ((wsX7_law_r1 ++ (wsX7_law_r2 ++ (wsX7_law_r3 ++ (wsX7_law_r4 ++ (wsX7_law_r5 ++ wsX7_law_r6))))) ++ wsX70 ++ wsX30 ++ wsX20)
def wsX7_fault : List Cond := .code yX7_fault cX7_fault 1 (some .int) :: ([.fieldLink RX7 44 "DredgePond" "latestFault" "I"] ++ wsX70)
def wsX7_tells : List Cond := .code yX7_tells cX7_tells 3 (some .int) :: ([.fieldLink RX7 26 "DredgePond" "laws" "LDredgePond$LawBook;", .methodLink RX7 85 yX7_within, .static yX7_within, .initialized RX7, .code yX7_within cX7_within 3 (some .boolean), .methodLink RX7 227 yX2_inForce, .instanceMethod yX2_inForce, .selects RX2 yX2_inForce yX2_inForce, .initialized RX2, .code yX2_inForce cX2_inForce 3 (some .int), .fieldLink RX2 18 "DredgePond$LawBook" "taken" "I", .fieldLink RX2 15 "DredgePond$LawBook" "since" "[I", .methodLink RX7 230 yX2_term, .instanceMethod yX2_term, .selects RX2 yX2_term yX2_term, .code yX2_term cX2_term 4 (some .int), .fieldLink RX2 11 "DredgePond$LawBook" "terms" "[I", .methodLink RX2 39 yX2_inForce, .methodLink RX2 42 yX2_usual, .static yX2_usual, .code yX2_usual cX2_usual 1 (some .int), .fieldLink RX2 26 "DredgePond$LawBook" "USUAL" "[I"] ++ wsX70 ++ wsX20)
def wsX7_month_r1 : List Cond := [Cond.fieldLink RX7 19 "DredgePond" "bag" "LDredgePond$Bag;", Cond.fieldLink RX7 26 "DredgePond" "laws" "LDredgePond$LawBook;", Cond.methodLink RX7 85 yX7_within, Cond.static yX7_within, Cond.initialized RX7, Cond.code yX7_within cX7_within 3 (some .boolean), Cond.methodLink RX7 233 yX0_inMonth, Cond.instanceMethod yX0_inMonth, Cond.selects RX0 yX0_inMonth yX0_inMonth, Cond.initialized RX0, Cond.code yX0_inMonth cX0_inMonth 2 (some .int), Cond.fieldLink RX0 9 "DredgePond$Bag" "months" "[I", Cond.methodLink RX7 230 yX2_term, Cond.instanceMethod yX2_term, Cond.selects RX2 yX2_term yX2_term, Cond.initialized RX2, Cond.code yX2_term cX2_term 4 (some .int), Cond.fieldLink RX2 11 "DredgePond$LawBook" "terms" "[I", Cond.methodLink RX2 39 yX2_inForce, Cond.instanceMethod yX2_inForce, Cond.selects RX2 yX2_inForce yX2_inForce, Cond.code yX2_inForce cX2_inForce 3 (some .int), Cond.fieldLink RX2 18 "DredgePond$LawBook" "taken" "I", Cond.fieldLink RX2 15 "DredgePond$LawBook" "since" "[I"]
def wsX7_month_r2 : List Cond := [Cond.methodLink RX2 42 yX2_usual, Cond.static yX2_usual, Cond.code yX2_usual cX2_usual 1 (some .int), Cond.fieldLink RX2 26 "DredgePond$LawBook" "USUAL" "[I"]
def wsX7_month : List Cond := .code yX7_month cX7_month 4 (some .int) :: ((wsX7_month_r1 ++ wsX7_month_r2) ++ wsX70 ++ wsX00 ++ wsX20)
def wsX7_count_r1 : List Cond := [Cond.fieldLink RX7 37 "DredgePond" "today" "I", Cond.fieldLink RX7 70 "DredgePond" "trail" "LDredgePond$Trail;", Cond.fieldLink RX7 10 "DredgePond" "pond" "LDredgePond$Pond;", Cond.fieldLink RX7 19 "DredgePond" "bag" "LDredgePond$Bag;", Cond.fieldLink RX7 41 "DredgePond" "fines" "I", Cond.fieldLink RX7 61 "DredgePond" "ground" "LDredgePond$Ground;", Cond.fieldLink RX7 26 "DredgePond" "laws" "LDredgePond$LawBook;", Cond.fieldLink RX7 33 "DredgePond" "reader" "LDredgePond$LawReader;", Cond.methodLink RX7 236 yX6_dredgeRow, Cond.instanceMethod yX6_dredgeRow, Cond.selects RX6 yX6_dredgeRow yX6_dredgeRow, Cond.initialized RX6, Cond.code yX6_dredgeRow cX6_dredgeRow 1 (some .int), Cond.fieldLink RX6 9 "DredgePond$Trail" "dug" "I", Cond.methodLink RX7 142 yX6_dredgePlace, Cond.instanceMethod yX6_dredgePlace, Cond.selects RX6 yX6_dredgePlace yX6_dredgePlace, Cond.code yX6_dredgePlace cX6_dredgePlace 1 (some .int), Cond.fieldLink RX6 18 "DredgePond$Trail" "placeOf" "[I", Cond.methodLink RX7 171 yX4_hoursLeft, Cond.instanceMethod yX4_hoursLeft, Cond.selects RX4 yX4_hoursLeft yX4_hoursLeft, Cond.initialized RX4, Cond.code yX4_hoursLeft cX4_hoursLeft 1 (some .int)]
def wsX7_count_r2 : List Cond := [Cond.fieldLink RX4 16 "DredgePond$Pond" "hours" "I", Cond.methodLink RX7 162 yX4_level, Cond.instanceMethod yX4_level, Cond.selects RX4 yX4_level yX4_level, Cond.code yX4_level cX4_level 1 (some .int), Cond.fieldLink RX4 7 "DredgePond$Pond" "height" "I", Cond.methodLink RX7 239 yX4_mud, Cond.instanceMethod yX4_mud, Cond.selects RX4 yX4_mud yX4_mud, Cond.code yX4_mud cX4_mud 1 (some .int), Cond.fieldLink RX4 13 "DredgePond$Pond" "dirt" "I", Cond.methodLink RX7 242 yX0_inAll, Cond.instanceMethod yX0_inAll, Cond.selects RX0 yX0_inAll yX0_inAll, Cond.initialized RX0, Cond.code yX0_inAll cX0_inAll 1 (some .int), Cond.fieldLink RX0 15 "DredgePond$Bag" "whole" "I", Cond.methodLink RX7 245 yX0_lost, Cond.instanceMethod yX0_lost, Cond.selects RX0 yX0_lost yX0_lost, Cond.code yX0_lost cX0_lost 1 (some .int), Cond.fieldLink RX0 19 "DredgePond$Bag" "gone" "I", Cond.methodLink RX7 248 yX6_laidBackCount, Cond.instanceMethod yX6_laidBackCount]
def wsX7_count_r3 : List Cond := [Cond.selects RX6 yX6_laidBackCount yX6_laidBackCount, Cond.code yX6_laidBackCount cX6_laidBackCount 1 (some .int), Cond.fieldLink RX6 15 "DredgePond$Trail" "laidBacks" "I", Cond.methodLink RX7 251 yX1_quarrels, Cond.instanceMethod yX1_quarrels, Cond.selects RX1 yX1_quarrels yX1_quarrels, Cond.initialized RX1, Cond.code yX1_quarrels cX1_quarrels 3 (some .int), Cond.fieldLink RX1 28 "DredgePond$Ground" "least" "[I", Cond.fieldLink RX1 31 "DredgePond$Ground" "greatest" "[I", Cond.methodLink RX7 254 yX2_size, Cond.instanceMethod yX2_size, Cond.selects RX2 yX2_size yX2_size, Cond.initialized RX2, Cond.code yX2_size cX2_size 1 (some .int), Cond.fieldLink RX2 18 "DredgePond$LawBook" "taken" "I", Cond.methodLink RX7 214 yX3_size, Cond.instanceMethod yX3_size, Cond.selects RX3 yX3_size yX3_size, Cond.initialized RX3, Cond.code yX3_size cX3_size 1 (some .int), Cond.fieldLink RX3 20 "DredgePond$LawReader" "bytes" "I"]
def wsX7_count : List Cond := .code yX7_count cX7_count 2 (some .int) :: ((wsX7_count_r1 ++ (wsX7_count_r2 ++ wsX7_count_r3)) ++ wsX70 ++ wsX60 ++ wsX40 ++ wsX00 ++ wsX10 ++ wsX20 ++ wsX30)
def wsX8_init_r1 : List Cond := [Cond.methodLink RX8 1 objectInit, Cond.instanceMethod objectInit, Cond.code objectInit ⟨#[0xb1]⟩ 1 none, Cond.arrayClass .int, Cond.fieldLink RX8 7 "DredgePondModel" "depth" "[I", Cond.fieldLink RX8 13 "DredgePondModel" "tin" "[I", Cond.fieldLink RX8 16 "DredgePondModel" "dugOn" "[I", Cond.arrayClass .boolean, Cond.fieldLink RX8 19 "DredgePondModel" "isTold" "[Z", Cond.fieldLink RX8 23 "DredgePondModel" "isDug" "[Z", Cond.fieldLink RX8 26 "DredgePondModel" "isBack" "[Z", Cond.fieldLink RX8 29 "DredgePondModel" "isFined" "[Z", Cond.fieldLink RX8 32 "DredgePondModel" "grade" "I", Cond.fieldLink RX8 36 "DredgePondModel" "cost" "I", Cond.fieldLink RX8 39 "DredgePondModel" "row" "I", Cond.fieldLink RX8 42 "DredgePondModel" "place" "I", Cond.fieldLink RX8 45 "DredgePondModel" "hours" "I", Cond.fieldLink RX8 48 "DredgePondModel" "level" "I", Cond.fieldLink RX8 51 "DredgePondModel" "speed" "I", Cond.fieldLink RX8 54 "DredgePondModel" "months" "[I", Cond.fieldLink RX8 57 "DredgePondModel" "sums" "[I", Cond.arrayClass .byte, Cond.fieldLink RX8 60 "DredgePondModel" "tape" "[B", Cond.fieldLink RX8 64 "DredgePondModel" "text" "[B"]
def wsX8_init_r2 : List Cond := [Cond.fieldLink RX8 67 "DredgePondModel" "fault" "I", Cond.fieldLink RX8 70 "DredgePondModel" "told" "[I", Cond.fieldLink RX8 73 "DredgePondModel" "taken" "[I", Cond.methodLink RX8 76 Lib.Math.min.name, Cond.static Lib.Math.min.name, Cond.initialized "java/lang/Math", Cond.code Lib.Math.min.name Lib.Math.min.code 2 (some .int), Cond.methodLink RX8 82 Lib.Math.max.name, Cond.static Lib.Math.max.name, Cond.code Lib.Math.max.name Lib.Math.max.code 2 (some .int), Cond.fieldLink RX8 85 "DredgePondModel" "rows" "I", Cond.fieldLink RX8 88 "DredgePondModel" "places" "I"]
def wsX8_init : List Cond := .code yX8_init cX8_init 4 none :: ((wsX8_init_r1 ++ wsX8_init_r2) ++ wsX80)
def wsX8_isIn : List Cond := .code yX8_isIn cX8_isIn 3 (some .boolean) :: ([])
def wsX8_one : List Cond := .code yX8_one cX8_one 1 (some .int) :: ([])
def wsX8_isSquare : List Cond := .code yX8_isSquare cX8_isSquare 3 (some .boolean) :: ([.fieldLink RX8 85 "DredgePondModel" "rows" "I", .fieldLink RX8 88 "DredgePondModel" "places" "I", .methodLink RX8 91 yX8_isIn, .static yX8_isIn, .initialized RX8, .code yX8_isIn cX8_isIn 3 (some .boolean)] ++ wsX80)
def wsX8_depth : List Cond := .code yX8_depth cX8_depth 4 (some .boolean) :: ([.fieldLink RX8 23 "DredgePondModel" "isDug" "[Z", .fieldLink RX8 7 "DredgePondModel" "depth" "[I", .methodLink RX8 95 yX8_isSquare, .instanceMethod yX8_isSquare, .selects RX8 yX8_isSquare yX8_isSquare, .initialized RX8, .code yX8_isSquare cX8_isSquare 3 (some .boolean), .fieldLink RX8 85 "DredgePondModel" "rows" "I", .fieldLink RX8 88 "DredgePondModel" "places" "I", .methodLink RX8 91 yX8_isIn, .static yX8_isIn, .code yX8_isIn cX8_isIn 3 (some .boolean)] ++ wsX80)
def wsX8_grade : List Cond := .code yX8_grade cX8_grade 2 (some .boolean) :: ([.fieldLink RX8 32 "DredgePondModel" "grade" "I", .methodLink RX8 91 yX8_isIn, .static yX8_isIn, .initialized RX8, .code yX8_isIn cX8_isIn 3 (some .boolean)] ++ wsX80)
def wsX8_learns : List Cond := .code yX8_learns cX8_learns 3 none :: ([.fieldLink RX8 13 "DredgePondModel" "tin" "[I", .fieldLink RX8 19 "DredgePondModel" "isTold" "[Z"] ++ wsX80)
def wsX8_bore : List Cond := .code yX8_bore cX8_bore 4 (some .boolean) :: ([.fieldLink RX8 23 "DredgePondModel" "isDug" "[Z", .methodLink RX8 95 yX8_isSquare, .instanceMethod yX8_isSquare, .selects RX8 yX8_isSquare yX8_isSquare, .initialized RX8, .code yX8_isSquare cX8_isSquare 3 (some .boolean), .fieldLink RX8 85 "DredgePondModel" "rows" "I", .fieldLink RX8 88 "DredgePondModel" "places" "I", .methodLink RX8 91 yX8_isIn, .static yX8_isIn, .code yX8_isIn cX8_isIn 3 (some .boolean), .methodLink RX8 99 yX8_learns, .instanceMethod yX8_learns, .selects RX8 yX8_learns yX8_learns, .code yX8_learns cX8_learns 3 none, .fieldLink RX8 13 "DredgePondModel" "tin" "[I", .fieldLink RX8 19 "DredgePondModel" "isTold" "[Z"] ++ wsX80)
def wsX8_cost : List Cond := .code yX8_cost cX8_cost 2 (some .boolean) :: ([.fieldLink RX8 36 "DredgePondModel" "cost" "I", .methodLink RX8 91 yX8_isIn, .static yX8_isIn, .initialized RX8, .code yX8_isIn cX8_isIn 3 (some .boolean)] ++ wsX80)
def wsX8_end : List Cond := .code yX8_end cX8_end 9 (some .int) :: ([.fieldLink RX8 19 "DredgePondModel" "isTold" "[Z", .fieldLink RX8 13 "DredgePondModel" "tin" "[I", .fieldLink RX8 85 "DredgePondModel" "rows" "I", .fieldLink RX8 88 "DredgePondModel" "places" "I", .fieldLink RX8 32 "DredgePondModel" "grade" "I", .methodLink RX8 103 Lib.Math.abs.name, .static Lib.Math.abs.name, .initialized "java/lang/Math", .code Lib.Math.abs.name Lib.Math.abs.code 1 (some .int), .methodLink RX8 76 Lib.Math.min.name, .static Lib.Math.min.name, .code Lib.Math.min.name Lib.Math.min.code 2 (some .int), .methodLink RX8 82 Lib.Math.max.name, .static Lib.Math.max.name, .code Lib.Math.max.name Lib.Math.max.code 2 (some .int)] ++ wsX80)
def wsX8_quarrels : List Cond := .code yX8_quarrels cX8_quarrels 3 (some .boolean) :: ([.methodLink RX8 107 yX8_end, .instanceMethod yX8_end, .selects RX8 yX8_end yX8_end, .initialized RX8, .code yX8_end cX8_end 9 (some .int), .fieldLink RX8 19 "DredgePondModel" "isTold" "[Z", .fieldLink RX8 13 "DredgePondModel" "tin" "[I", .fieldLink RX8 85 "DredgePondModel" "rows" "I", .fieldLink RX8 88 "DredgePondModel" "places" "I", .fieldLink RX8 32 "DredgePondModel" "grade" "I", .methodLink RX8 103 Lib.Math.abs.name, .static Lib.Math.abs.name, .initialized "java/lang/Math", .code Lib.Math.abs.name Lib.Math.abs.code 1 (some .int), .methodLink RX8 76 Lib.Math.min.name, .static Lib.Math.min.name, .code Lib.Math.min.name Lib.Math.min.code 2 (some .int), .methodLink RX8 82 Lib.Math.max.name, .static Lib.Math.max.name, .code Lib.Math.max.name Lib.Math.max.code 2 (some .int)] ++ wsX80)
def wsX8_square_r1 : List Cond := [Cond.fieldLink RX8 7 "DredgePondModel" "depth" "[I", Cond.fieldLink RX8 23 "DredgePondModel" "isDug" "[Z", Cond.fieldLink RX8 26 "DredgePondModel" "isBack" "[Z", Cond.fieldLink RX8 19 "DredgePondModel" "isTold" "[Z", Cond.methodLink RX8 95 yX8_isSquare, Cond.instanceMethod yX8_isSquare, Cond.selects RX8 yX8_isSquare yX8_isSquare, Cond.initialized RX8, Cond.code yX8_isSquare cX8_isSquare 3 (some .boolean), Cond.fieldLink RX8 85 "DredgePondModel" "rows" "I", Cond.fieldLink RX8 88 "DredgePondModel" "places" "I", Cond.methodLink RX8 91 yX8_isIn, Cond.static yX8_isIn, Cond.code yX8_isIn cX8_isIn 3 (some .boolean), Cond.methodLink RX8 107 yX8_end, Cond.instanceMethod yX8_end, Cond.selects RX8 yX8_end yX8_end, Cond.code yX8_end cX8_end 9 (some .int), Cond.fieldLink RX8 13 "DredgePondModel" "tin" "[I", Cond.fieldLink RX8 32 "DredgePondModel" "grade" "I", Cond.methodLink RX8 103 Lib.Math.abs.name, Cond.static Lib.Math.abs.name, Cond.initialized "java/lang/Math", Cond.code Lib.Math.abs.name Lib.Math.abs.code 1 (some .int)]
def wsX8_square_r2 : List Cond := [Cond.methodLink RX8 76 Lib.Math.min.name, Cond.static Lib.Math.min.name, Cond.code Lib.Math.min.name Lib.Math.min.code 2 (some .int), Cond.methodLink RX8 82 Lib.Math.max.name, Cond.static Lib.Math.max.name, Cond.code Lib.Math.max.name Lib.Math.max.code 2 (some .int), Cond.methodLink RX8 111 yX8_quarrels, Cond.instanceMethod yX8_quarrels, Cond.selects RX8 yX8_quarrels yX8_quarrels, Cond.code yX8_quarrels cX8_quarrels 3 (some .boolean), Cond.methodLink RX8 114 yX8_one, Cond.static yX8_one, Cond.code yX8_one cX8_one 1 (some .int)]
def wsX8_square : List Cond := .code yX8_square cX8_square 5 (some .int) :: ((wsX8_square_r1 ++ wsX8_square_r2) ++ wsX80)
def wsX8_tinBy : List Cond := .code yX8_tinBy cX8_tinBy 4 (some .int) :: ([.methodLink RX8 107 yX8_end, .instanceMethod yX8_end, .selects RX8 yX8_end yX8_end, .initialized RX8, .code yX8_end cX8_end 9 (some .int), .fieldLink RX8 19 "DredgePondModel" "isTold" "[Z", .fieldLink RX8 13 "DredgePondModel" "tin" "[I", .fieldLink RX8 85 "DredgePondModel" "rows" "I", .fieldLink RX8 88 "DredgePondModel" "places" "I", .fieldLink RX8 32 "DredgePondModel" "grade" "I", .methodLink RX8 103 Lib.Math.abs.name, .static Lib.Math.abs.name, .initialized "java/lang/Math", .code Lib.Math.abs.name Lib.Math.abs.code 1 (some .int), .methodLink RX8 76 Lib.Math.min.name, .static Lib.Math.min.name, .code Lib.Math.min.name Lib.Math.min.code 2 (some .int), .methodLink RX8 82 Lib.Math.max.name, .static Lib.Math.max.name, .code Lib.Math.max.name Lib.Math.max.code 2 (some .int)] ++ wsX80)
def wsX8_best : List Cond := .code yX8_best cX8_best 5 (some .int) :: ([.fieldLink RX8 88 "DredgePondModel" "places" "I", .methodLink RX8 103 Lib.Math.abs.name, .static Lib.Math.abs.name, .initialized "java/lang/Math", .code Lib.Math.abs.name Lib.Math.abs.code 1 (some .int), .fieldLink RX8 57 "DredgePondModel" "sums" "[I"] ++ wsX80)
def wsX8_path_r1 : List Cond := [Cond.fieldLink RX8 39 "DredgePondModel" "row" "I", Cond.fieldLink RX8 85 "DredgePondModel" "rows" "I", Cond.constant RX8 118 (-100000000), Cond.fieldLink RX8 88 "DredgePondModel" "places" "I", Cond.fieldLink RX8 7 "DredgePondModel" "depth" "[I", Cond.fieldLink RX8 36 "DredgePondModel" "cost" "I", Cond.fieldLink RX8 57 "DredgePondModel" "sums" "[I", Cond.fieldLink RX8 42 "DredgePondModel" "place" "I", Cond.methodLink RX8 91 yX8_isIn, Cond.static yX8_isIn, Cond.initialized RX8, Cond.code yX8_isIn cX8_isIn 3 (some .boolean), Cond.methodLink RX8 119 yX8_tinBy, Cond.instanceMethod yX8_tinBy, Cond.selects RX8 yX8_tinBy yX8_tinBy, Cond.code yX8_tinBy cX8_tinBy 4 (some .int), Cond.methodLink RX8 107 yX8_end, Cond.instanceMethod yX8_end, Cond.selects RX8 yX8_end yX8_end, Cond.code yX8_end cX8_end 9 (some .int), Cond.fieldLink RX8 19 "DredgePondModel" "isTold" "[Z", Cond.fieldLink RX8 13 "DredgePondModel" "tin" "[I", Cond.fieldLink RX8 32 "DredgePondModel" "grade" "I", Cond.methodLink RX8 103 Lib.Math.abs.name]
def wsX8_path_r2 : List Cond := [Cond.static Lib.Math.abs.name, Cond.initialized "java/lang/Math", Cond.code Lib.Math.abs.name Lib.Math.abs.code 1 (some .int), Cond.methodLink RX8 76 Lib.Math.min.name, Cond.static Lib.Math.min.name, Cond.code Lib.Math.min.name Lib.Math.min.code 2 (some .int), Cond.methodLink RX8 82 Lib.Math.max.name, Cond.static Lib.Math.max.name, Cond.code Lib.Math.max.name Lib.Math.max.code 2 (some .int), Cond.methodLink RX8 123 yX8_best, Cond.instanceMethod yX8_best, Cond.selects RX8 yX8_best yX8_best, Cond.code yX8_best cX8_best 5 (some .int)]
def wsX8_path : List Cond := .code yX8_path cX8_path 6 (some .int) :: ((wsX8_path_r1 ++ wsX8_path_r2) ++ wsX80)
def wsX8_next : List Cond := .code yX8_next cX8_next 6 (some .int) :: ([.fieldLink RX8 39 "DredgePondModel" "row" "I", .fieldLink RX8 85 "DredgePondModel" "rows" "I", .fieldLink RX8 88 "DredgePondModel" "places" "I", .fieldLink RX8 19 "DredgePondModel" "isTold" "[Z", .methodLink RX8 107 yX8_end, .instanceMethod yX8_end, .selects RX8 yX8_end yX8_end, .initialized RX8, .code yX8_end cX8_end 9 (some .int), .fieldLink RX8 13 "DredgePondModel" "tin" "[I", .fieldLink RX8 32 "DredgePondModel" "grade" "I", .methodLink RX8 103 Lib.Math.abs.name, .static Lib.Math.abs.name, .initialized "java/lang/Math", .code Lib.Math.abs.name Lib.Math.abs.code 1 (some .int), .methodLink RX8 76 Lib.Math.min.name, .static Lib.Math.min.name, .code Lib.Math.min.name Lib.Math.min.code 2 (some .int), .methodLink RX8 82 Lib.Math.max.name, .static Lib.Math.max.name, .code Lib.Math.max.name Lib.Math.max.code 2 (some .int)] ++ wsX80)
def wsX8_inForce : List Cond := .code yX8_inForce cX8_inForce 4 (some .int) :: ([.fieldLink RX8 195 "DredgePondModel" "laws" "I", .fieldLink RX8 73 "DredgePondModel" "taken" "[I"] ++ wsX80)
def wsX8_plain : List Cond := .code yX8_plain cX8_plain 1 (some .int) :: ([])
def wsX8_tellsOn : List Cond := .code yX8_tellsOn cX8_tellsOn 4 (some .int) :: ([.fieldLink RX8 70 "DredgePondModel" "told" "[I", .methodLink RX8 205 yX8_inForce, .instanceMethod yX8_inForce, .selects RX8 yX8_inForce yX8_inForce, .initialized RX8, .code yX8_inForce cX8_inForce 4 (some .int), .fieldLink RX8 195 "DredgePondModel" "laws" "I", .fieldLink RX8 73 "DredgePondModel" "taken" "[I", .methodLink RX8 198 yX8_plain, .static yX8_plain, .code yX8_plain cX8_plain 1 (some .int)] ++ wsX80)
def wsX8_now : List Cond := .code yX8_now cX8_now 2 (some .int) :: ([.fieldLink RX8 135 "DredgePondModel" "today" "I", .methodLink RX8 208 yX8_tellsOn, .instanceMethod yX8_tellsOn, .selects RX8 yX8_tellsOn yX8_tellsOn, .initialized RX8, .code yX8_tellsOn cX8_tellsOn 4 (some .int), .fieldLink RX8 70 "DredgePondModel" "told" "[I", .methodLink RX8 205 yX8_inForce, .instanceMethod yX8_inForce, .selects RX8 yX8_inForce yX8_inForce, .code yX8_inForce cX8_inForce 4 (some .int), .fieldLink RX8 195 "DredgePondModel" "laws" "I", .fieldLink RX8 73 "DredgePondModel" "taken" "[I", .methodLink RX8 198 yX8_plain, .static yX8_plain, .code yX8_plain cX8_plain 1 (some .int)] ++ wsX80)
def wsX8_bars_r1 : List Cond := [Cond.fieldLink RX8 88 "DredgePondModel" "places" "I", Cond.fieldLink RX8 39 "DredgePondModel" "row" "I", Cond.fieldLink RX8 85 "DredgePondModel" "rows" "I", Cond.fieldLink RX8 42 "DredgePondModel" "place" "I", Cond.methodLink RX8 103 Lib.Math.abs.name, Cond.static Lib.Math.abs.name, Cond.initialized "java/lang/Math", Cond.code Lib.Math.abs.name Lib.Math.abs.code 1 (some .int), Cond.fieldLink RX8 7 "DredgePondModel" "depth" "[I", Cond.fieldLink RX8 48 "DredgePondModel" "level" "I", Cond.fieldLink RX8 45 "DredgePondModel" "hours" "I", Cond.fieldLink RX8 129 "DredgePondModel" "mud" "I", Cond.methodLink RX8 91 yX8_isIn, Cond.static yX8_isIn, Cond.initialized RX8, Cond.code yX8_isIn cX8_isIn 3 (some .boolean), Cond.methodLink RX8 126 yX8_now, Cond.instanceMethod yX8_now, Cond.selects RX8 yX8_now yX8_now, Cond.code yX8_now cX8_now 2 (some .int), Cond.fieldLink RX8 135 "DredgePondModel" "today" "I", Cond.methodLink RX8 208 yX8_tellsOn, Cond.instanceMethod yX8_tellsOn, Cond.selects RX8 yX8_tellsOn yX8_tellsOn]
def wsX8_bars_r2 : List Cond := [Cond.code yX8_tellsOn cX8_tellsOn 4 (some .int), Cond.fieldLink RX8 70 "DredgePondModel" "told" "[I", Cond.methodLink RX8 205 yX8_inForce, Cond.instanceMethod yX8_inForce, Cond.selects RX8 yX8_inForce yX8_inForce, Cond.code yX8_inForce cX8_inForce 4 (some .int), Cond.fieldLink RX8 195 "DredgePondModel" "laws" "I", Cond.fieldLink RX8 73 "DredgePondModel" "taken" "[I", Cond.methodLink RX8 198 yX8_plain, Cond.static yX8_plain, Cond.code yX8_plain cX8_plain 1 (some .int)]
def wsX8_bars : List Cond := .code yX8_bars cX8_bars 3 (some .int) :: ((wsX8_bars_r1 ++ wsX8_bars_r2) ++ wsX80)
def wsX8_dig_r1 : List Cond := [Cond.fieldLink RX8 39 "DredgePondModel" "row" "I", Cond.fieldLink RX8 42 "DredgePondModel" "place" "I", Cond.fieldLink RX8 45 "DredgePondModel" "hours" "I", Cond.fieldLink RX8 7 "DredgePondModel" "depth" "[I", Cond.fieldLink RX8 129 "DredgePondModel" "mud" "I", Cond.fieldLink RX8 23 "DredgePondModel" "isDug" "[Z", Cond.fieldLink RX8 16 "DredgePondModel" "dugOn" "[I", Cond.fieldLink RX8 135 "DredgePondModel" "today" "I", Cond.fieldLink RX8 51 "DredgePondModel" "speed" "I", Cond.fieldLink RX8 138 "DredgePondModel" "lost" "I", Cond.fieldLink RX8 141 "DredgePondModel" "bagged" "I", Cond.fieldLink RX8 54 "DredgePondModel" "months" "[I", Cond.methodLink RX8 91 yX8_isIn, Cond.static yX8_isIn, Cond.initialized RX8, Cond.code yX8_isIn cX8_isIn 3 (some .boolean), Cond.methodLink RX8 132 yX8_bars, Cond.instanceMethod yX8_bars, Cond.selects RX8 yX8_bars yX8_bars, Cond.code yX8_bars cX8_bars 3 (some .int), Cond.fieldLink RX8 88 "DredgePondModel" "places" "I", Cond.fieldLink RX8 85 "DredgePondModel" "rows" "I", Cond.methodLink RX8 103 Lib.Math.abs.name, Cond.static Lib.Math.abs.name]
def wsX8_dig_r2 : List Cond := [Cond.initialized "java/lang/Math", Cond.code Lib.Math.abs.name Lib.Math.abs.code 1 (some .int), Cond.fieldLink RX8 48 "DredgePondModel" "level" "I", Cond.methodLink RX8 126 yX8_now, Cond.instanceMethod yX8_now, Cond.selects RX8 yX8_now yX8_now, Cond.code yX8_now cX8_now 2 (some .int), Cond.methodLink RX8 208 yX8_tellsOn, Cond.instanceMethod yX8_tellsOn, Cond.selects RX8 yX8_tellsOn yX8_tellsOn, Cond.code yX8_tellsOn cX8_tellsOn 4 (some .int), Cond.fieldLink RX8 70 "DredgePondModel" "told" "[I", Cond.methodLink RX8 205 yX8_inForce, Cond.instanceMethod yX8_inForce, Cond.selects RX8 yX8_inForce yX8_inForce, Cond.code yX8_inForce cX8_inForce 4 (some .int), Cond.fieldLink RX8 195 "DredgePondModel" "laws" "I", Cond.fieldLink RX8 73 "DredgePondModel" "taken" "[I", Cond.methodLink RX8 198 yX8_plain, Cond.static yX8_plain, Cond.code yX8_plain cX8_plain 1 (some .int), Cond.methodLink RX8 99 yX8_learns, Cond.instanceMethod yX8_learns, Cond.selects RX8 yX8_learns yX8_learns]
def wsX8_dig_r3 : List Cond := [Cond.code yX8_learns cX8_learns 3 none, Cond.fieldLink RX8 13 "DredgePondModel" "tin" "[I", Cond.fieldLink RX8 19 "DredgePondModel" "isTold" "[Z"]
def wsX8_dig : List Cond := .code yX8_dig cX8_dig 6 (some .int) :: ((wsX8_dig_r1 ++ (wsX8_dig_r2 ++ wsX8_dig_r3)) ++ wsX80)
def wsX8_jig : List Cond := .code yX8_jig cX8_jig 2 (some .boolean) :: ([.fieldLink RX8 51 "DredgePondModel" "speed" "I", .methodLink RX8 91 yX8_isIn, .static yX8_isIn, .initialized RX8, .code yX8_isIn cX8_isIn 3 (some .boolean)] ++ wsX80)
def wsX8_let_r1 : List Cond := [Cond.fieldLink RX8 48 "DredgePondModel" "level" "I", Cond.fieldLink RX8 129 "DredgePondModel" "mud" "I", Cond.fieldLink RX8 144 "DredgePondModel" "fines" "I", Cond.methodLink RX8 91 yX8_isIn, Cond.static yX8_isIn, Cond.initialized RX8, Cond.code yX8_isIn cX8_isIn 3 (some .boolean), Cond.methodLink RX8 126 yX8_now, Cond.instanceMethod yX8_now, Cond.selects RX8 yX8_now yX8_now, Cond.code yX8_now cX8_now 2 (some .int), Cond.fieldLink RX8 135 "DredgePondModel" "today" "I", Cond.methodLink RX8 208 yX8_tellsOn, Cond.instanceMethod yX8_tellsOn, Cond.selects RX8 yX8_tellsOn yX8_tellsOn, Cond.code yX8_tellsOn cX8_tellsOn 4 (some .int), Cond.fieldLink RX8 70 "DredgePondModel" "told" "[I", Cond.methodLink RX8 205 yX8_inForce, Cond.instanceMethod yX8_inForce, Cond.selects RX8 yX8_inForce yX8_inForce, Cond.code yX8_inForce cX8_inForce 4 (some .int), Cond.fieldLink RX8 195 "DredgePondModel" "laws" "I", Cond.fieldLink RX8 73 "DredgePondModel" "taken" "[I", Cond.methodLink RX8 198 yX8_plain]
def wsX8_let_r2 : List Cond := [Cond.static yX8_plain, Cond.code yX8_plain cX8_plain 1 (some .int)]
def wsX8_let : List Cond := .code yX8_let cX8_let 2 (some .int) :: ((wsX8_let_r1 ++ wsX8_let_r2) ++ wsX80)
def wsX8_day_r1 : List Cond := [Cond.fieldLink RX8 135 "DredgePondModel" "today" "I", Cond.fieldLink RX8 48 "DredgePondModel" "level" "I", Cond.methodLink RX8 76 Lib.Math.min.name, Cond.static Lib.Math.min.name, Cond.initialized "java/lang/Math", Cond.code Lib.Math.min.name Lib.Math.min.code 2 (some .int), Cond.methodLink RX8 82 Lib.Math.max.name, Cond.static Lib.Math.max.name, Cond.code Lib.Math.max.name Lib.Math.max.code 2 (some .int), Cond.fieldLink RX8 129 "DredgePondModel" "mud" "I", Cond.fieldLink RX8 23 "DredgePondModel" "isDug" "[Z", Cond.fieldLink RX8 26 "DredgePondModel" "isBack" "[Z", Cond.fieldLink RX8 29 "DredgePondModel" "isFined" "[Z", Cond.fieldLink RX8 16 "DredgePondModel" "dugOn" "[I", Cond.fieldLink RX8 144 "DredgePondModel" "fines" "I", Cond.fieldLink RX8 45 "DredgePondModel" "hours" "I", Cond.methodLink RX8 91 yX8_isIn, Cond.static yX8_isIn, Cond.initialized RX8, Cond.code yX8_isIn cX8_isIn 3 (some .boolean), Cond.methodLink RX8 126 yX8_now, Cond.instanceMethod yX8_now, Cond.selects RX8 yX8_now yX8_now, Cond.code yX8_now cX8_now 2 (some .int)]
def wsX8_day_r2 : List Cond := [Cond.methodLink RX8 208 yX8_tellsOn, Cond.instanceMethod yX8_tellsOn, Cond.selects RX8 yX8_tellsOn yX8_tellsOn, Cond.code yX8_tellsOn cX8_tellsOn 4 (some .int), Cond.fieldLink RX8 70 "DredgePondModel" "told" "[I", Cond.methodLink RX8 205 yX8_inForce, Cond.instanceMethod yX8_inForce, Cond.selects RX8 yX8_inForce yX8_inForce, Cond.code yX8_inForce cX8_inForce 4 (some .int), Cond.fieldLink RX8 195 "DredgePondModel" "laws" "I", Cond.fieldLink RX8 73 "DredgePondModel" "taken" "[I", Cond.methodLink RX8 198 yX8_plain, Cond.static yX8_plain, Cond.code yX8_plain cX8_plain 1 (some .int)]
def wsX8_day : List Cond := .code yX8_day cX8_day 3 (some .int) :: ((wsX8_day_r1 ++ wsX8_day_r2) ++ wsX80)
def wsX8_back : List Cond := .code yX8_back cX8_back 3 (some .boolean) :: ([.fieldLink RX8 23 "DredgePondModel" "isDug" "[Z", .fieldLink RX8 26 "DredgePondModel" "isBack" "[Z", .fieldLink RX8 39 "DredgePondModel" "row" "I", .methodLink RX8 95 yX8_isSquare, .instanceMethod yX8_isSquare, .selects RX8 yX8_isSquare yX8_isSquare, .initialized RX8, .code yX8_isSquare cX8_isSquare 3 (some .boolean), .fieldLink RX8 85 "DredgePondModel" "rows" "I", .fieldLink RX8 88 "DredgePondModel" "places" "I", .methodLink RX8 91 yX8_isIn, .static yX8_isIn, .code yX8_isIn cX8_isIn 3 (some .boolean)] ++ wsX80)
def wsX8_four : List Cond := .code yX8_four cX8_four 3 none :: ([.fieldLink RX8 60 "DredgePondModel" "tape" "[B", .fieldLink RX8 147 "DredgePondModel" "taped" "I"] ++ wsX80)
def wsX8_feed : List Cond := .code yX8_feed cX8_feed 6 (some .int) :: ([.fieldLink RX8 147 "DredgePondModel" "taped" "I", .methodLink RX8 150 yX8_four, .instanceMethod yX8_four, .selects RX8 yX8_four yX8_four, .initialized RX8, .code yX8_four cX8_four 3 none, .fieldLink RX8 60 "DredgePondModel" "tape" "[B"] ++ wsX80)
def wsX8_blanks : List Cond := .code yX8_blanks cX8_blanks 1 none :: ([.fieldLink RX8 154 "DredgePondModel" "at" "I", .fieldLink RX8 157 "DredgePondModel" "size" "I", .fieldLink RX8 64 "DredgePondModel" "text" "[B"] ++ wsX80)
def wsX8_word : List Cond := .code yX8_word cX8_word 3 (some .long) :: ([.fieldLink RX8 154 "DredgePondModel" "at" "I", .fieldLink RX8 163 "DredgePondModel" "wordEnd" "I", .fieldLink RX8 157 "DredgePondModel" "size" "I", .fieldLink RX8 64 "DredgePondModel" "text" "[B", .methodLink RX8 160 yX8_blanks, .instanceMethod yX8_blanks, .selects RX8 yX8_blanks yX8_blanks, .initialized RX8, .code yX8_blanks cX8_blanks 1 none] ++ wsX80)
def wsX8_takes : List Cond := .code yX8_takes cX8_takes 3 (some .boolean) :: ([.fieldLink RX8 163 "DredgePondModel" "wordEnd" "I", .fieldLink RX8 154 "DredgePondModel" "at" "I", .methodLink RX8 166 yX8_word, .instanceMethod yX8_word, .selects RX8 yX8_word yX8_word, .initialized RX8, .code yX8_word cX8_word 3 (some .long), .fieldLink RX8 157 "DredgePondModel" "size" "I", .fieldLink RX8 64 "DredgePondModel" "text" "[B", .methodLink RX8 160 yX8_blanks, .instanceMethod yX8_blanks, .selects RX8 yX8_blanks yX8_blanks, .code yX8_blanks cX8_blanks 1 none] ++ wsX80)
def wsX8_takesNumber : List Cond := .code yX8_takesNumber cX8_takesNumber 2 (some .boolean) :: ([.fieldLink RX8 154 "DredgePondModel" "at" "I", .fieldLink RX8 170 "DredgePondModel" "number" "I", .fieldLink RX8 157 "DredgePondModel" "size" "I", .fieldLink RX8 64 "DredgePondModel" "text" "[B", .methodLink RX8 160 yX8_blanks, .instanceMethod yX8_blanks, .selects RX8 yX8_blanks yX8_blanks, .initialized RX8, .code yX8_blanks cX8_blanks 1 none] ++ wsX80)
def wsX8_statement_r1 : List Cond := [Cond.constantLong RX8 173 (465558725996), Cond.constantLong RX8 179 (1650552427), Cond.constantLong RX8 181 (427020345714), Cond.constantLong RX8 183 (1650549611), Cond.constantLong RX8 185 (32210714461238393), Cond.constantLong RX8 187 (1718185573), Cond.fieldLink RX8 70 "DredgePondModel" "told" "[I", Cond.fieldLink RX8 170 "DredgePondModel" "number" "I", Cond.constantLong RX8 193 (29807), Cond.fieldLink RX8 154 "DredgePondModel" "at" "I", Cond.fieldLink RX8 157 "DredgePondModel" "size" "I", Cond.fieldLink RX8 64 "DredgePondModel" "text" "[B", Cond.methodLink RX8 175 yX8_takes, Cond.instanceMethod yX8_takes, Cond.selects RX8 yX8_takes yX8_takes, Cond.initialized RX8, Cond.code yX8_takes cX8_takes 3 (some .boolean), Cond.fieldLink RX8 163 "DredgePondModel" "wordEnd" "I", Cond.methodLink RX8 166 yX8_word, Cond.instanceMethod yX8_word, Cond.selects RX8 yX8_word yX8_word, Cond.code yX8_word cX8_word 3 (some .long), Cond.methodLink RX8 160 yX8_blanks, Cond.instanceMethod yX8_blanks]
def wsX8_statement_r2 : List Cond := [Cond.selects RX8 yX8_blanks yX8_blanks, Cond.code yX8_blanks cX8_blanks 1 none, Cond.methodLink RX8 189 yX8_takesNumber, Cond.instanceMethod yX8_takesNumber, Cond.selects RX8 yX8_takesNumber yX8_takesNumber, Cond.code yX8_takesNumber cX8_takesNumber 2 (some .boolean)]
def wsX8_statement : List Cond := .code yX8_statement cX8_statement 3 (some .boolean) :: ((wsX8_statement_r1 ++ wsX8_statement_r2) ++ wsX80)
def wsX8_law_r1 : List Cond := [Cond.fieldLink RX8 147 "DredgePondModel" "taped" "I", Cond.fieldLink RX8 195 "DredgePondModel" "laws" "I", Cond.fieldLink RX8 64 "DredgePondModel" "text" "[B", Cond.fieldLink RX8 60 "DredgePondModel" "tape" "[B", Cond.fieldLink RX8 157 "DredgePondModel" "size" "I", Cond.fieldLink RX8 154 "DredgePondModel" "at" "I", Cond.fieldLink RX8 70 "DredgePondModel" "told" "[I", Cond.fieldLink RX8 67 "DredgePondModel" "fault" "I", Cond.fieldLink RX8 73 "DredgePondModel" "taken" "[I", Cond.fieldLink RX8 135 "DredgePondModel" "today" "I", Cond.methodLink RX8 91 yX8_isIn, Cond.static yX8_isIn, Cond.initialized RX8, Cond.code yX8_isIn cX8_isIn 3 (some .boolean), Cond.methodLink RX8 198 yX8_plain, Cond.static yX8_plain, Cond.code yX8_plain cX8_plain 1 (some .int), Cond.methodLink RX8 160 yX8_blanks, Cond.instanceMethod yX8_blanks, Cond.selects RX8 yX8_blanks yX8_blanks, Cond.code yX8_blanks cX8_blanks 1 none, Cond.methodLink RX8 201 yX8_statement, Cond.instanceMethod yX8_statement, Cond.selects RX8 yX8_statement yX8_statement]
def wsX8_law_r2 : List Cond := [Cond.code yX8_statement cX8_statement 3 (some .boolean), Cond.constantLong RX8 173 (465558725996), Cond.constantLong RX8 179 (1650552427), Cond.constantLong RX8 181 (427020345714), Cond.constantLong RX8 183 (1650549611), Cond.constantLong RX8 185 (32210714461238393), Cond.constantLong RX8 187 (1718185573), Cond.fieldLink RX8 170 "DredgePondModel" "number" "I", Cond.constantLong RX8 193 (29807), Cond.methodLink RX8 175 yX8_takes, Cond.instanceMethod yX8_takes, Cond.selects RX8 yX8_takes yX8_takes, Cond.code yX8_takes cX8_takes 3 (some .boolean), Cond.fieldLink RX8 163 "DredgePondModel" "wordEnd" "I", Cond.methodLink RX8 166 yX8_word, Cond.instanceMethod yX8_word, Cond.selects RX8 yX8_word yX8_word, Cond.code yX8_word cX8_word 3 (some .long), Cond.methodLink RX8 189 yX8_takesNumber, Cond.instanceMethod yX8_takesNumber, Cond.selects RX8 yX8_takesNumber yX8_takesNumber, Cond.code yX8_takesNumber cX8_takesNumber 2 (some .boolean)]
def wsX8_law : List Cond := .code yX8_law cX8_law 4 (some .int) :: ((wsX8_law_r1 ++ wsX8_law_r2) ++ wsX80)
def wsX8_fault : List Cond := .code yX8_fault cX8_fault 1 (some .int) :: ([.fieldLink RX8 67 "DredgePondModel" "fault" "I"] ++ wsX80)
def wsX8_tells : List Cond := .code yX8_tells cX8_tells 3 (some .int) :: ([.methodLink RX8 91 yX8_isIn, .static yX8_isIn, .initialized RX8, .code yX8_isIn cX8_isIn 3 (some .boolean), .methodLink RX8 205 yX8_inForce, .instanceMethod yX8_inForce, .selects RX8 yX8_inForce yX8_inForce, .code yX8_inForce cX8_inForce 4 (some .int), .fieldLink RX8 195 "DredgePondModel" "laws" "I", .fieldLink RX8 73 "DredgePondModel" "taken" "[I", .methodLink RX8 208 yX8_tellsOn, .instanceMethod yX8_tellsOn, .selects RX8 yX8_tellsOn yX8_tellsOn, .code yX8_tellsOn cX8_tellsOn 4 (some .int), .fieldLink RX8 70 "DredgePondModel" "told" "[I", .methodLink RX8 198 yX8_plain, .static yX8_plain, .code yX8_plain cX8_plain 1 (some .int)] ++ wsX80)
def wsX8_month : List Cond := .code yX8_month cX8_month 3 (some .int) :: ([.fieldLink RX8 54 "DredgePondModel" "months" "[I", .constantLong RX8 211 (1000), .methodLink RX8 91 yX8_isIn, .static yX8_isIn, .initialized RX8, .code yX8_isIn cX8_isIn 3 (some .boolean), .methodLink RX8 208 yX8_tellsOn, .instanceMethod yX8_tellsOn, .selects RX8 yX8_tellsOn yX8_tellsOn, .code yX8_tellsOn cX8_tellsOn 4 (some .int), .fieldLink RX8 70 "DredgePondModel" "told" "[I", .methodLink RX8 205 yX8_inForce, .instanceMethod yX8_inForce, .selects RX8 yX8_inForce yX8_inForce, .code yX8_inForce cX8_inForce 4 (some .int), .fieldLink RX8 195 "DredgePondModel" "laws" "I", .fieldLink RX8 73 "DredgePondModel" "taken" "[I", .methodLink RX8 198 yX8_plain, .static yX8_plain, .code yX8_plain cX8_plain 1 (some .int)] ++ wsX80)
def wsX8_count_r1 : List Cond := [Cond.fieldLink RX8 135 "DredgePondModel" "today" "I", Cond.fieldLink RX8 39 "DredgePondModel" "row" "I", Cond.fieldLink RX8 42 "DredgePondModel" "place" "I", Cond.fieldLink RX8 45 "DredgePondModel" "hours" "I", Cond.fieldLink RX8 48 "DredgePondModel" "level" "I", Cond.fieldLink RX8 129 "DredgePondModel" "mud" "I", Cond.fieldLink RX8 141 "DredgePondModel" "bagged" "I", Cond.fieldLink RX8 138 "DredgePondModel" "lost" "I", Cond.fieldLink RX8 144 "DredgePondModel" "fines" "I", Cond.fieldLink RX8 26 "DredgePondModel" "isBack" "[Z", Cond.fieldLink RX8 85 "DredgePondModel" "rows" "I", Cond.fieldLink RX8 88 "DredgePondModel" "places" "I", Cond.fieldLink RX8 195 "DredgePondModel" "laws" "I", Cond.fieldLink RX8 147 "DredgePondModel" "taped" "I", Cond.methodLink RX8 114 yX8_one, Cond.static yX8_one, Cond.initialized RX8, Cond.code yX8_one cX8_one 1 (some .int), Cond.methodLink RX8 111 yX8_quarrels, Cond.instanceMethod yX8_quarrels, Cond.selects RX8 yX8_quarrels yX8_quarrels, Cond.code yX8_quarrels cX8_quarrels 3 (some .boolean), Cond.methodLink RX8 107 yX8_end, Cond.instanceMethod yX8_end]
def wsX8_count_r2 : List Cond := [Cond.selects RX8 yX8_end yX8_end, Cond.code yX8_end cX8_end 9 (some .int), Cond.fieldLink RX8 19 "DredgePondModel" "isTold" "[Z", Cond.fieldLink RX8 13 "DredgePondModel" "tin" "[I", Cond.fieldLink RX8 32 "DredgePondModel" "grade" "I", Cond.methodLink RX8 103 Lib.Math.abs.name, Cond.static Lib.Math.abs.name, Cond.initialized "java/lang/Math", Cond.code Lib.Math.abs.name Lib.Math.abs.code 1 (some .int), Cond.methodLink RX8 76 Lib.Math.min.name, Cond.static Lib.Math.min.name, Cond.code Lib.Math.min.name Lib.Math.min.code 2 (some .int), Cond.methodLink RX8 82 Lib.Math.max.name, Cond.static Lib.Math.max.name, Cond.code Lib.Math.max.name Lib.Math.max.code 2 (some .int)]
def wsX8_count : List Cond := .code yX8_count cX8_count 5 (some .int) :: ((wsX8_count_r1 ++ wsX8_count_r2) ++ wsX80)
def wsJ9_abs_0f7a4 : List Cond := .code yJ9_abs_0f7a4 cJ9_abs_0f7a4 1 (some .int) :: ([])
def wsJ9_max_7cf53 : List Cond := .code yJ9_max_7cf53 cJ9_max_7cf53 2 (some .int) :: ([])
def wsJ9_min_7cf53 : List Cond := .code yJ9_min_7cf53 cJ9_min_7cf53 2 (some .int) :: ([])
def wsL_cell : List Cond := .code yL_cell cL_cell 2 (some .int) :: ([])
def wsL_law_r1 : List Cond := [Cond.classLink RL 7 RX7, Cond.instantiable RX7 10, Cond.initialized RX7, Cond.classLink RL 18 RX8, Cond.instantiable RX8 34, Cond.initialized RX8, Cond.methodLink RL 9 yL_cell, Cond.static yL_cell, Cond.initialized RL, Cond.code yL_cell cL_cell 2 (some .int), Cond.methodLink RL 15 yX7_init, Cond.instanceMethod yX7_init, Cond.code yX7_init cX7_init 5 none, Cond.methodLink RX7 1 objectInit, Cond.instanceMethod objectInit, Cond.code objectInit ⟨#[0xb1]⟩ 1 none, Cond.classLink RX7 7 RX4, Cond.instantiable RX4 3, Cond.initialized RX4, Cond.fieldLink RX7 10 "DredgePond" "pond" "LDredgePond$Pond;", Cond.classLink RX7 16 RX0, Cond.instantiable RX0 4, Cond.initialized RX0, Cond.fieldLink RX7 19 "DredgePond" "bag" "LDredgePond$Bag;"]
def wsL_law_r2 : List Cond := [Cond.classLink RX7 23 RX2, Cond.instantiable RX2 3, Cond.initialized RX2, Cond.fieldLink RX7 26 "DredgePond" "laws" "LDredgePond$LawBook;", Cond.classLink RX7 30 RX3, Cond.instantiable RX3 7, Cond.initialized RX3, Cond.fieldLink RX7 33 "DredgePond" "reader" "LDredgePond$LawReader;", Cond.fieldLink RX7 37 "DredgePond" "today" "I", Cond.fieldLink RX7 41 "DredgePond" "fines" "I", Cond.fieldLink RX7 44 "DredgePond" "latestFault" "I", Cond.methodLink RX7 47 Lib.Math.min.name, Cond.static Lib.Math.min.name, Cond.initialized "java/lang/Math", Cond.code Lib.Math.min.name Lib.Math.min.code 2 (some .int), Cond.methodLink RX7 53 Lib.Math.max.name, Cond.static Lib.Math.max.name, Cond.code Lib.Math.max.name Lib.Math.max.code 2 (some .int), Cond.classLink RX7 56 RX1, Cond.instantiable RX1 7, Cond.initialized RX1, Cond.fieldLink RX7 61 "DredgePond" "ground" "LDredgePond$Ground;", Cond.classLink RX7 65 RX6, Cond.instantiable RX6 6]
def wsL_law_r3 : List Cond := [Cond.initialized RX6, Cond.fieldLink RX7 70 "DredgePond" "trail" "LDredgePond$Trail;", Cond.classLink RX7 74 RX5, Cond.instantiable RX5 4, Cond.initialized RX5, Cond.fieldLink RX7 77 "DredgePond" "route" "LDredgePond$Route;", Cond.instanceMethod yX4_init, Cond.code yX4_init cX4_init 1 none, Cond.methodLink RX4 1 objectInit, Cond.fieldLink RX4 7 "DredgePond$Pond" "height" "I", Cond.fieldLink RX4 13 "DredgePond$Pond" "dirt" "I", Cond.fieldLink RX4 16 "DredgePond$Pond" "hours" "I", Cond.instanceMethod yX0_init, Cond.code yX0_init cX0_init 1 none, Cond.methodLink RX0 3 objectInit, Cond.arrayClass .int, Cond.fieldLink RX0 9 "DredgePond$Bag" "months" "[I", Cond.fieldLink RX0 15 "DredgePond$Bag" "whole" "I", Cond.fieldLink RX0 19 "DredgePond$Bag" "gone" "I", Cond.fieldLink RX0 22 "DredgePond$Bag" "pace" "I", Cond.instanceMethod yX2_init, Cond.code yX2_init cX2_init 1 none, Cond.methodLink RX2 3 objectInit, Cond.fieldLink RX2 11 "DredgePond$LawBook" "terms" "[I"]
def wsL_law_r4 : List Cond := [Cond.fieldLink RX2 15 "DredgePond$LawBook" "since" "[I", Cond.fieldLink RX2 18 "DredgePond$LawBook" "taken" "I", Cond.instanceMethod yX3_init, Cond.code yX3_init cX3_init 1 none, Cond.methodLink RX3 3 objectInit, Cond.fieldLink RX3 11 "DredgePond$LawReader" "tape" "[I", Cond.fieldLink RX3 17 "DredgePond$LawReader" "terms" "[I", Cond.fieldLink RX3 20 "DredgePond$LawReader" "bytes" "I", Cond.fieldLink RX3 24 "DredgePond$LawReader" "length" "I", Cond.fieldLink RX3 27 "DredgePond$LawReader" "kind" "I", Cond.fieldLink RX3 30 "DredgePond$LawReader" "start" "I", Cond.fieldLink RX3 33 "DredgePond$LawReader" "stop" "I", Cond.methodLink RX7 58 yX1_init, Cond.instanceMethod yX1_init, Cond.code yX1_init cX1_init 5 none, Cond.methodLink RX1 3 objectInit, Cond.fieldLink RX1 11 "DredgePond$Ground" "gradient" "I", Cond.fieldLink RX1 15 "DredgePond$Ground" "rows" "I", Cond.fieldLink RX1 18 "DredgePond$Ground" "places" "I", Cond.fieldLink RX1 21 "DredgePond$Ground" "depths" "[I", Cond.fieldLink RX1 25 "DredgePond$Ground" "tins" "[I", Cond.fieldLink RX1 28 "DredgePond$Ground" "least" "[I", Cond.fieldLink RX1 31 "DredgePond$Ground" "greatest" "[I", Cond.methodLink RX7 67 yX6_init]
def wsL_law_r5 : List Cond := [Cond.instanceMethod yX6_init, Cond.code yX6_init cX6_init 2 none, Cond.methodLink RX6 3 objectInit, Cond.fieldLink RX6 9 "DredgePond$Trail" "dug" "I", Cond.fieldLink RX6 15 "DredgePond$Trail" "laidBacks" "I", Cond.fieldLink RX6 18 "DredgePond$Trail" "placeOf" "[I", Cond.fieldLink RX6 22 "DredgePond$Trail" "dayOf" "[I", Cond.arrayClass .boolean, Cond.fieldLink RX6 25 "DredgePond$Trail" "laidBack" "[Z", Cond.fieldLink RX6 29 "DredgePond$Trail" "fined" "[Z", Cond.methodLink RX7 76 yX5_init, Cond.instanceMethod yX5_init, Cond.code yX5_init cX5_init 3 none, Cond.methodLink RX5 3 objectInit, Cond.fieldLink RX5 9 "DredgePond$Route" "price" "I", Cond.fieldLink RX5 15 "DredgePond$Route" "rows" "I", Cond.fieldLink RX5 18 "DredgePond$Route" "places" "I", Cond.fieldLink RX5 21 "DredgePond$Route" "sums" "[I", Cond.methodLink RL 20 yX8_init, Cond.instanceMethod yX8_init, Cond.code yX8_init cX8_init 4 none, Cond.methodLink RX8 1 objectInit, Cond.fieldLink RX8 7 "DredgePondModel" "depth" "[I", Cond.fieldLink RX8 13 "DredgePondModel" "tin" "[I"]
def wsL_law_r6 : List Cond := [Cond.fieldLink RX8 16 "DredgePondModel" "dugOn" "[I", Cond.fieldLink RX8 19 "DredgePondModel" "isTold" "[Z", Cond.fieldLink RX8 23 "DredgePondModel" "isDug" "[Z", Cond.fieldLink RX8 26 "DredgePondModel" "isBack" "[Z", Cond.fieldLink RX8 29 "DredgePondModel" "isFined" "[Z", Cond.fieldLink RX8 32 "DredgePondModel" "grade" "I", Cond.fieldLink RX8 36 "DredgePondModel" "cost" "I", Cond.fieldLink RX8 39 "DredgePondModel" "row" "I", Cond.fieldLink RX8 42 "DredgePondModel" "place" "I", Cond.fieldLink RX8 45 "DredgePondModel" "hours" "I", Cond.fieldLink RX8 48 "DredgePondModel" "level" "I", Cond.fieldLink RX8 51 "DredgePondModel" "speed" "I", Cond.fieldLink RX8 54 "DredgePondModel" "months" "[I", Cond.fieldLink RX8 57 "DredgePondModel" "sums" "[I", Cond.arrayClass .byte, Cond.fieldLink RX8 60 "DredgePondModel" "tape" "[B", Cond.fieldLink RX8 64 "DredgePondModel" "text" "[B", Cond.fieldLink RX8 67 "DredgePondModel" "fault" "I", Cond.fieldLink RX8 70 "DredgePondModel" "told" "[I", Cond.fieldLink RX8 73 "DredgePondModel" "taken" "[I", Cond.methodLink RX8 76 Lib.Math.min.name, Cond.methodLink RX8 82 Lib.Math.max.name, Cond.fieldLink RX8 85 "DredgePondModel" "rows" "I", Cond.fieldLink RX8 88 "DredgePondModel" "places" "I"]
def wsL_law_r7 : List Cond := [Cond.methodLink RL 21 yX7_depth, Cond.instanceMethod yX7_depth, Cond.selects RX7 yX7_depth yX7_depth, Cond.code yX7_depth cX7_depth 4 (some .boolean), Cond.methodLink RX7 81 yX7_isUndug, Cond.instanceMethod yX7_isUndug, Cond.selects RX7 yX7_isUndug yX7_isUndug, Cond.code yX7_isUndug cX7_isUndug 3 (some .boolean), Cond.methodLink RX7 99 yX1_has, Cond.instanceMethod yX1_has, Cond.selects RX1 yX1_has yX1_has, Cond.code yX1_has cX1_has 3 (some .boolean), Cond.static yX7_within, Cond.code yX7_within cX7_within 3 (some .boolean), Cond.methodLink RX7 118 yX6_isDug, Cond.instanceMethod yX6_isDug, Cond.selects RX6 yX6_isDug yX6_isDug, Cond.code yX6_isDug cX6_isDug 3 (some .boolean), Cond.methodLink RX7 85 yX7_within, Cond.methodLink RX7 89 yX1_deepen, Cond.instanceMethod yX1_deepen, Cond.selects RX1 yX1_deepen yX1_deepen, Cond.code yX1_deepen cX1_deepen 4 none, Cond.methodLink RL 25 yX8_depth]
def wsL_law_r8 : List Cond := [Cond.instanceMethod yX8_depth, Cond.selects RX8 yX8_depth yX8_depth, Cond.code yX8_depth cX8_depth 4 (some .boolean), Cond.methodLink RX8 95 yX8_isSquare, Cond.instanceMethod yX8_isSquare, Cond.selects RX8 yX8_isSquare yX8_isSquare, Cond.code yX8_isSquare cX8_isSquare 3 (some .boolean), Cond.methodLink RX8 91 yX8_isIn, Cond.static yX8_isIn, Cond.code yX8_isIn cX8_isIn 3 (some .boolean), Cond.methodLink RL 26 yX7_grade, Cond.instanceMethod yX7_grade, Cond.selects RX7 yX7_grade yX7_grade, Cond.code yX7_grade cX7_grade 2 (some .boolean), Cond.methodLink RX7 93 yX1_slope, Cond.instanceMethod yX1_slope, Cond.selects RX1 yX1_slope yX1_slope, Cond.code yX1_slope cX1_slope 2 none, Cond.methodLink RX1 38 yX1_narrowAll, Cond.instanceMethod yX1_narrowAll, Cond.selects RX1 yX1_narrowAll yX1_narrowAll, Cond.code yX1_narrowAll cX1_narrowAll 1 none, Cond.methodLink RX1 52 yX1_openSpans, Cond.instanceMethod yX1_openSpans]
def wsL_law_r9 : List Cond := [Cond.selects RX1 yX1_openSpans yX1_openSpans, Cond.code yX1_openSpans cX1_openSpans 3 none, Cond.methodLink RX1 55 yX1_sweepDown, Cond.instanceMethod yX1_sweepDown, Cond.selects RX1 yX1_sweepDown yX1_sweepDown, Cond.code yX1_sweepDown cX1_sweepDown 4 none, Cond.methodLink RX1 64 yX1_narrow, Cond.instanceMethod yX1_narrow, Cond.selects RX1 yX1_narrow yX1_narrow, Cond.code yX1_narrow cX1_narrow 3 none, Cond.methodLink RX1 68 Lib.Math.max.name, Cond.methodLink RX1 73 Lib.Math.min.name, Cond.methodLink RX1 58 yX1_sweepUp, Cond.instanceMethod yX1_sweepUp, Cond.selects RX1 yX1_sweepUp yX1_sweepUp, Cond.code yX1_sweepUp cX1_sweepUp 4 none, Cond.methodLink RX1 61 yX1_closeToldSpans, Cond.instanceMethod yX1_closeToldSpans, Cond.selects RX1 yX1_closeToldSpans yX1_closeToldSpans, Cond.code yX1_closeToldSpans cX1_closeToldSpans 2 none, Cond.methodLink RL 30 yX8_grade, Cond.instanceMethod yX8_grade, Cond.selects RX8 yX8_grade yX8_grade, Cond.code yX8_grade cX8_grade 2 (some .boolean)]
def wsL_law_r10 : List Cond := [Cond.methodLink RL 31 yX7_bore, Cond.instanceMethod yX7_bore, Cond.selects RX7 yX7_bore yX7_bore, Cond.code yX7_bore cX7_bore 4 (some .boolean), Cond.methodLink RX7 96 yX1_tell, Cond.instanceMethod yX1_tell, Cond.selects RX1 yX1_tell yX1_tell, Cond.code yX1_tell cX1_tell 4 none, Cond.methodLink RL 34 yX8_bore, Cond.instanceMethod yX8_bore, Cond.selects RX8 yX8_bore yX8_bore, Cond.code yX8_bore cX8_bore 4 (some .boolean), Cond.methodLink RX8 99 yX8_learns, Cond.instanceMethod yX8_learns, Cond.selects RX8 yX8_learns yX8_learns, Cond.code yX8_learns cX8_learns 3 none, Cond.methodLink RL 35 yX7_square, Cond.instanceMethod yX7_square, Cond.selects RX7 yX7_square yX7_square, Cond.code yX7_square cX7_square 4 (some .int), Cond.methodLink RX7 102 yX1_depthAt, Cond.instanceMethod yX1_depthAt, Cond.selects RX1 yX1_depthAt yX1_depthAt, Cond.code yX1_depthAt cX1_depthAt 3 (some .int)]
def wsL_law_r11 : List Cond := [Cond.methodLink RX7 105 yX1_leastAt, Cond.instanceMethod yX1_leastAt, Cond.selects RX1 yX1_leastAt yX1_leastAt, Cond.code yX1_leastAt cX1_leastAt 3 (some .int), Cond.methodLink RX7 108 yX1_greatestAt, Cond.instanceMethod yX1_greatestAt, Cond.selects RX1 yX1_greatestAt yX1_greatestAt, Cond.code yX1_greatestAt cX1_greatestAt 3 (some .int), Cond.methodLink RX7 111 yX1_quarrelsAt, Cond.instanceMethod yX1_quarrelsAt, Cond.selects RX1 yX1_quarrelsAt yX1_quarrelsAt, Cond.code yX1_quarrelsAt cX1_quarrelsAt 3 (some .boolean), Cond.methodLink RX1 41 yX1_leastAt, Cond.methodLink RX1 45 yX1_greatestAt, Cond.methodLink RX7 114 yX7_oneIf, Cond.static yX7_oneIf, Cond.code yX7_oneIf cX7_oneIf 1 (some .int), Cond.methodLink RX7 121 yX6_isLaidBack, Cond.instanceMethod yX6_isLaidBack, Cond.selects RX6 yX6_isLaidBack yX6_isLaidBack, Cond.code yX6_isLaidBack cX6_isLaidBack 3 (some .boolean), Cond.methodLink RX6 46 yX6_isDug, Cond.methodLink RX7 124 yX1_isTold, Cond.instanceMethod yX1_isTold]
def wsL_law_r12 : List Cond := [Cond.selects RX1 yX1_isTold yX1_isTold, Cond.code yX1_isTold cX1_isTold 3 (some .boolean), Cond.methodLink RL 39 yX8_square, Cond.instanceMethod yX8_square, Cond.selects RX8 yX8_square yX8_square, Cond.code yX8_square cX8_square 5 (some .int), Cond.methodLink RX8 107 yX8_end, Cond.instanceMethod yX8_end, Cond.selects RX8 yX8_end yX8_end, Cond.code yX8_end cX8_end 9 (some .int), Cond.methodLink RX8 103 Lib.Math.abs.name, Cond.static Lib.Math.abs.name, Cond.code Lib.Math.abs.name Lib.Math.abs.code 1 (some .int), Cond.methodLink RX8 111 yX8_quarrels, Cond.instanceMethod yX8_quarrels, Cond.selects RX8 yX8_quarrels yX8_quarrels, Cond.code yX8_quarrels cX8_quarrels 3 (some .boolean), Cond.methodLink RX8 114 yX8_one, Cond.static yX8_one, Cond.code yX8_one cX8_one 1 (some .int), Cond.methodLink RL 40 yX7_cost, Cond.instanceMethod yX7_cost, Cond.selects RX7 yX7_cost yX7_cost, Cond.code yX7_cost cX7_cost 2 (some .boolean)]
def wsL_law_r13 : List Cond := [Cond.methodLink RX7 127 yX5_charge, Cond.instanceMethod yX5_charge, Cond.selects RX5 yX5_charge yX5_charge, Cond.code yX5_charge cX5_charge 2 none, Cond.methodLink RL 43 yX8_cost, Cond.instanceMethod yX8_cost, Cond.selects RX8 yX8_cost yX8_cost, Cond.code yX8_cost cX8_cost 2 (some .boolean), Cond.methodLink RL 44 yX7_path, Cond.instanceMethod yX7_path, Cond.selects RX7 yX7_path yX7_path, Cond.code yX7_path cX7_path 7 (some .int), Cond.constant RX7 137 (-100000000), Cond.methodLink RX7 130 yX6_nextRow, Cond.instanceMethod yX6_nextRow, Cond.selects RX6 yX6_nextRow yX6_nextRow, Cond.code yX6_nextRow cX6_nextRow 1 (some .int), Cond.methodLink RX7 134 yX1_rowCount, Cond.instanceMethod yX1_rowCount, Cond.selects RX1 yX1_rowCount yX1_rowCount, Cond.code yX1_rowCount cX1_rowCount 1 (some .int), Cond.methodLink RX7 138 yX5_weigh, Cond.instanceMethod yX5_weigh, Cond.selects RX5 yX5_weigh yX5_weigh]
def wsL_law_r14 : List Cond := [Cond.code yX5_weigh cX5_weigh 7 none, Cond.methodLink RX5 25 yX1_depthAt, Cond.methodLink RX5 31 yX5_tinBy, Cond.static yX5_tinBy, Cond.code yX5_tinBy cX5_tinBy 4 (some .int), Cond.methodLink RX5 53 yX1_leastAt, Cond.methodLink RX5 56 yX1_greatestAt, Cond.methodLink RX5 35 yX5_bestBeside, Cond.instanceMethod yX5_bestBeside, Cond.selects RX5 yX5_bestBeside yX5_bestBeside, Cond.code yX5_bestBeside cX5_bestBeside 3 (some .int), Cond.methodLink RX5 45 Lib.Math.max.name, Cond.methodLink RX5 50 Lib.Math.min.name, Cond.methodLink RX5 41 yX5_bestOf, Cond.instanceMethod yX5_bestOf, Cond.selects RX5 yX5_bestOf yX5_bestOf, Cond.code yX5_bestOf cX5_bestOf 6 (some .int), Cond.methodLink RX5 38 yX5_sumFrom, Cond.instanceMethod yX5_sumFrom, Cond.selects RX5 yX5_sumFrom yX5_sumFrom, Cond.code yX5_sumFrom cX5_sumFrom 3 (some .int), Cond.methodLink RX7 142 yX6_dredgePlace, Cond.instanceMethod yX6_dredgePlace, Cond.selects RX6 yX6_dredgePlace yX6_dredgePlace]
def wsL_law_r15 : List Cond := [Cond.code yX6_dredgePlace cX6_dredgePlace 1 (some .int), Cond.methodLink RX7 145 yX5_startPlace, Cond.instanceMethod yX5_startPlace, Cond.selects RX5 yX5_startPlace yX5_startPlace, Cond.code yX5_startPlace cX5_startPlace 3 (some .int), Cond.methodLink RX7 148 yX5_sumFrom, Cond.methodLink RX7 151 yX5_bestBeside, Cond.methodLink RL 48 yX8_path, Cond.instanceMethod yX8_path, Cond.selects RX8 yX8_path yX8_path, Cond.code yX8_path cX8_path 6 (some .int), Cond.constant RX8 118 (-100000000), Cond.methodLink RX8 119 yX8_tinBy, Cond.instanceMethod yX8_tinBy, Cond.selects RX8 yX8_tinBy yX8_tinBy, Cond.code yX8_tinBy cX8_tinBy 4 (some .int), Cond.methodLink RX8 123 yX8_best, Cond.instanceMethod yX8_best, Cond.selects RX8 yX8_best yX8_best, Cond.code yX8_best cX8_best 5 (some .int), Cond.methodLink RL 49 yX7_next, Cond.instanceMethod yX7_next, Cond.selects RX7 yX7_next yX7_next, Cond.code yX7_next cX7_next 1 (some .int)]
def wsL_law_r16 : List Cond := [Cond.methodLink RX7 154 yX1_widestFrom, Cond.instanceMethod yX1_widestFrom, Cond.selects RX1 yX1_widestFrom yX1_widestFrom, Cond.code yX1_widestFrom cX1_widestFrom 7 (some .int), Cond.methodLink RX1 48 yX1_isTold, Cond.methodLink RL 53 yX8_next, Cond.instanceMethod yX8_next, Cond.selects RX8 yX8_next yX8_next, Cond.code yX8_next cX8_next 6 (some .int), Cond.methodLink RL 54 yX7_bars, Cond.instanceMethod yX7_bars, Cond.selects RX7 yX7_bars yX7_bars, Cond.code yX7_bars cX7_bars 4 (some .int), Cond.methodLink RX7 158 yX6_reaches, Cond.instanceMethod yX6_reaches, Cond.selects RX6 yX6_reaches yX6_reaches, Cond.code yX6_reaches cX6_reaches 2 (some .boolean), Cond.methodLink RX6 36 Lib.Math.abs.name, Cond.methodLink RX6 32 yX6_dredgePlace, Cond.methodLink RX7 162 yX4_level, Cond.instanceMethod yX4_level, Cond.selects RX4 yX4_level yX4_level, Cond.code yX4_level cX4_level 1 (some .int), Cond.methodLink RX7 165 yX7_lawToday]
def wsL_law_r17 : List Cond := [Cond.instanceMethod yX7_lawToday, Cond.selects RX7 yX7_lawToday yX7_lawToday, Cond.code yX7_lawToday cX7_lawToday 2 (some .int), Cond.methodLink RX7 230 yX2_term, Cond.instanceMethod yX2_term, Cond.selects RX2 yX2_term yX2_term, Cond.code yX2_term cX2_term 4 (some .int), Cond.methodLink RX2 39 yX2_inForce, Cond.instanceMethod yX2_inForce, Cond.selects RX2 yX2_inForce yX2_inForce, Cond.code yX2_inForce cX2_inForce 3 (some .int), Cond.methodLink RX2 42 yX2_usual, Cond.static yX2_usual, Cond.code yX2_usual cX2_usual 1 (some .int), Cond.fieldLink RX2 26 "DredgePond$LawBook" "USUAL" "[I", Cond.methodLink RX7 168 yX7_bankAhead, Cond.instanceMethod yX7_bankAhead, Cond.selects RX7 yX7_bankAhead yX7_bankAhead, Cond.code yX7_bankAhead cX7_bankAhead 4 (some .int), Cond.methodLink RX7 255 Lib.Math.abs.name, Cond.methodLink RX7 236 yX6_dredgeRow, Cond.instanceMethod yX6_dredgeRow, Cond.selects RX6 yX6_dredgeRow yX6_dredgeRow, Cond.code yX6_dredgeRow cX6_dredgeRow 1 (some .int)]
def wsL_law_r18 : List Cond := [Cond.methodLink RX7 171 yX4_hoursLeft, Cond.instanceMethod yX4_hoursLeft, Cond.selects RX4 yX4_hoursLeft yX4_hoursLeft, Cond.code yX4_hoursLeft cX4_hoursLeft 1 (some .int), Cond.methodLink RX7 174 yX4_hoursFor, Cond.static yX4_hoursFor, Cond.code yX4_hoursFor cX4_hoursFor 1 (some .int), Cond.methodLink RX7 177 yX7_isMuddy, Cond.instanceMethod yX7_isMuddy, Cond.selects RX7 yX7_isMuddy yX7_isMuddy, Cond.code yX7_isMuddy cX7_isMuddy 1 (some .boolean), Cond.methodLink RX7 239 yX4_mud, Cond.instanceMethod yX4_mud, Cond.selects RX4 yX4_mud yX4_mud, Cond.code yX4_mud cX4_mud 1 (some .int), Cond.methodLink RL 58 yX8_bars, Cond.instanceMethod yX8_bars, Cond.selects RX8 yX8_bars yX8_bars, Cond.code yX8_bars cX8_bars 3 (some .int), Cond.fieldLink RX8 129 "DredgePondModel" "mud" "I", Cond.methodLink RX8 126 yX8_now, Cond.instanceMethod yX8_now, Cond.selects RX8 yX8_now yX8_now, Cond.code yX8_now cX8_now 2 (some .int)]
def wsL_law_r19 : List Cond := [Cond.fieldLink RX8 135 "DredgePondModel" "today" "I", Cond.methodLink RX8 208 yX8_tellsOn, Cond.instanceMethod yX8_tellsOn, Cond.selects RX8 yX8_tellsOn yX8_tellsOn, Cond.code yX8_tellsOn cX8_tellsOn 4 (some .int), Cond.methodLink RX8 205 yX8_inForce, Cond.instanceMethod yX8_inForce, Cond.selects RX8 yX8_inForce yX8_inForce, Cond.code yX8_inForce cX8_inForce 4 (some .int), Cond.fieldLink RX8 195 "DredgePondModel" "laws" "I", Cond.methodLink RX8 198 yX8_plain, Cond.static yX8_plain, Cond.code yX8_plain cX8_plain 1 (some .int), Cond.methodLink RL 59 yX7_dig, Cond.instanceMethod yX7_dig, Cond.selects RX7 yX7_dig yX7_dig, Cond.code yX7_dig cX7_dig 5 (some .int), Cond.methodLink RX7 181 yX7_bars, Cond.methodLink RX7 184 yX6_goTo, Cond.instanceMethod yX6_goTo, Cond.selects RX6 yX6_goTo yX6_goTo, Cond.code yX6_goTo cX6_goTo 3 none, Cond.methodLink RX7 187 yX4_stir, Cond.instanceMethod yX4_stir]
def wsL_law_r20 : List Cond := [Cond.selects RX4 yX4_stir yX4_stir, Cond.code yX4_stir cX4_stir 2 none, Cond.methodLink RX4 19 yX4_hoursFor, Cond.methodLink RX7 190 yX0_fill, Cond.instanceMethod yX0_fill, Cond.selects RX0 yX0_fill yX0_fill, Cond.code yX0_fill cX0_fill 5 (some .int), Cond.methodLink RL 62 yX8_dig, Cond.instanceMethod yX8_dig, Cond.selects RX8 yX8_dig yX8_dig, Cond.code yX8_dig cX8_dig 6 (some .int), Cond.fieldLink RX8 138 "DredgePondModel" "lost" "I", Cond.fieldLink RX8 141 "DredgePondModel" "bagged" "I", Cond.methodLink RX8 132 yX8_bars, Cond.methodLink RL 63 yX7_jig, Cond.instanceMethod yX7_jig, Cond.selects RX7 yX7_jig yX7_jig, Cond.code yX7_jig cX7_jig 2 (some .boolean), Cond.methodLink RX7 193 yX0_run, Cond.instanceMethod yX0_run, Cond.selects RX0 yX0_run yX0_run, Cond.code yX0_run cX0_run 2 none, Cond.methodLink RL 66 yX8_jig, Cond.instanceMethod yX8_jig]
def wsL_law_r21 : List Cond := [Cond.selects RX8 yX8_jig yX8_jig, Cond.code yX8_jig cX8_jig 2 (some .boolean), Cond.methodLink RL 67 yX7_let, Cond.instanceMethod yX7_let, Cond.selects RX7 yX7_let yX7_let, Cond.code yX7_let cX7_let 2 (some .int), Cond.methodLink RX7 196 yX4_drain, Cond.instanceMethod yX4_drain, Cond.selects RX4 yX4_drain yX4_drain, Cond.code yX4_drain cX4_drain 2 none, Cond.methodLink RL 70 yX8_let, Cond.instanceMethod yX8_let, Cond.selects RX8 yX8_let yX8_let, Cond.code yX8_let cX8_let 2 (some .int), Cond.fieldLink RX8 144 "DredgePondModel" "fines" "I", Cond.methodLink RL 71 yX7_day, Cond.instanceMethod yX7_day, Cond.selects RX7 yX7_day yX7_day, Cond.code yX7_day cX7_day 2 (some .int), Cond.methodLink RX7 199 yX6_fineAll, Cond.instanceMethod yX6_fineAll, Cond.selects RX6 yX6_fineAll yX6_fineAll, Cond.code yX6_fineAll cX6_fineAll 4 (some .int), Cond.methodLink RX7 202 yX4_passNight]
def wsL_law_r22 : List Cond := [Cond.instanceMethod yX4_passNight, Cond.selects RX4 yX4_passNight yX4_passNight, Cond.code yX4_passNight cX4_passNight 2 none, Cond.methodLink RX4 23 Lib.Math.min.name, Cond.methodLink RX4 29 Lib.Math.max.name, Cond.methodLink RL 74 yX8_day, Cond.instanceMethod yX8_day, Cond.selects RX8 yX8_day yX8_day, Cond.code yX8_day cX8_day 3 (some .int), Cond.methodLink RL 75 yX7_back, Cond.instanceMethod yX7_back, Cond.selects RX7 yX7_back yX7_back, Cond.code yX7_back cX7_back 3 (some .boolean), Cond.methodLink RX7 205 yX6_layBack, Cond.instanceMethod yX6_layBack, Cond.selects RX6 yX6_layBack yX6_layBack, Cond.code yX6_layBack cX6_layBack 3 (some .boolean), Cond.methodLink RX6 50 yX6_dredgeRow, Cond.methodLink RL 79 yX8_back, Cond.instanceMethod yX8_back, Cond.selects RX8 yX8_back yX8_back, Cond.code yX8_back cX8_back 3 (some .boolean), Cond.methodLink RL 80 yX7_feed, Cond.instanceMethod yX7_feed]
def wsL_law_r23 : List Cond := [Cond.selects RX7 yX7_feed yX7_feed, Cond.code yX7_feed cX7_feed 6 (some .int), Cond.methodLink RX7 208 yX3_hasRoom, Cond.instanceMethod yX3_hasRoom, Cond.selects RX3 yX3_hasRoom yX3_hasRoom, Cond.code yX3_hasRoom cX3_hasRoom 1 (some .boolean), Cond.methodLink RX7 211 yX3_append, Cond.instanceMethod yX3_append, Cond.selects RX3 yX3_append yX3_append, Cond.code yX3_append cX3_append 3 none, Cond.methodLink RX7 214 yX3_size, Cond.instanceMethod yX3_size, Cond.selects RX3 yX3_size yX3_size, Cond.code yX3_size cX3_size 1 (some .int), Cond.methodLink RL 84 yX8_feed, Cond.instanceMethod yX8_feed, Cond.selects RX8 yX8_feed yX8_feed, Cond.code yX8_feed cX8_feed 6 (some .int), Cond.fieldLink RX8 147 "DredgePondModel" "taped" "I", Cond.methodLink RX8 150 yX8_four, Cond.instanceMethod yX8_four, Cond.selects RX8 yX8_four yX8_four, Cond.code yX8_four cX8_four 3 none, Cond.methodLink RL 85 yX7_law]
def wsL_law_r24 : List Cond := [Cond.instanceMethod yX7_law, Cond.selects RX7 yX7_law yX7_law, Cond.code yX7_law cX7_law 2 (some .int), Cond.methodLink RX7 217 yX2_isFull, Cond.instanceMethod yX2_isFull, Cond.selects RX2 yX2_isFull yX2_isFull, Cond.code yX2_isFull cX2_isFull 1 (some .boolean), Cond.methodLink RX7 220 yX3_read, Cond.instanceMethod yX3_read, Cond.selects RX3 yX3_read yX3_read, Cond.code yX3_read cX3_read 3 (some .int), Cond.methodLink RX3 40 Lib.Math.min.name, Cond.methodLink RX3 46 Lib.Math.max.name, Cond.methodLink RX3 49 yX2_usual, Cond.methodLink RX3 53 yX3_scan, Cond.instanceMethod yX3_scan, Cond.selects RX3 yX3_scan yX3_scan, Cond.code yX3_scan cX3_scan 1 none, Cond.methodLink RX3 97 yX3_isBlank, Cond.static yX3_isBlank, Cond.code yX3_isBlank cX3_isBlank 1 (some .boolean), Cond.methodLink RX3 100 yX3_kindOf, Cond.static yX3_kindOf, Cond.code yX3_kindOf cX3_kindOf 1 (some .int)]
def wsL_law_r25 : List Cond := [Cond.methodLink RX3 56 yX3_readStatement, Cond.instanceMethod yX3_readStatement, Cond.selects RX3 yX3_readStatement yX3_readStatement, Cond.code yX3_readStatement cX3_readStatement 2 (some .boolean), Cond.methodLink RX3 60 yX3_keyword, Cond.instanceMethod yX3_keyword, Cond.selects RX3 yX3_keyword yX3_keyword, Cond.code yX3_keyword cX3_keyword 1 (some .int), Cond.methodLink RX3 73 yX3_isWord, Cond.instanceMethod yX3_isWord, Cond.selects RX3 yX3_isWord yX3_isWord, Cond.code yX3_isWord cX3_isWord 3 (some .boolean), Cond.methodLink RX3 89 yJ0_length_8abf5, Cond.instanceMethod yJ0_length_8abf5, Cond.selects RJ0 yJ0_length_8abf5 yJ0_length_8abf5, Cond.initialized RJ0, Cond.code yJ0_length_8abf5 cJ0_length_8abf5 1 (some .int), Cond.fieldLink RJ0 9 "java/lang/String" "value" "[B", Cond.methodLink RJ0 335 yJ0_coder_7d493, Cond.instanceMethod yJ0_coder_7d493, Cond.selects RJ0 yJ0_coder_7d493 yJ0_coder_7d493, Cond.code yJ0_coder_7d493 cJ0_coder_7d493 1 (some .byte), Cond.fieldLink RJ0 38 "java/lang/String" "COMPACT_STRINGS" "Z", Cond.fieldLink RJ0 15 "java/lang/String" "coder" "B"]
def wsL_law_r26 : List Cond := [Cond.methodLink RX3 93 yJ0_charAt_5068e, Cond.instanceMethod yJ0_charAt_5068e, Cond.selects RJ0 yJ0_charAt_5068e yJ0_charAt_5068e, Cond.code yJ0_charAt_5068e cJ0_charAt_5068e 2 (some .char), Cond.methodLink RJ0 492 yJ0_isLatin1_aae02, Cond.instanceMethod yJ0_isLatin1_aae02, Cond.selects RJ0 yJ0_isLatin1_aae02 yJ0_isLatin1_aae02, Cond.code yJ0_isLatin1_aae02 cJ0_isLatin1_aae02 1 (some .boolean), Cond.methodLink RJ0 495 yJ1_charAt_3b067, Cond.static yJ1_charAt_3b067, Cond.initialized RJ1, Cond.code yJ1_charAt_3b067 cJ1_charAt_3b067 2 (some .char), Cond.methodLink RJ1 9 yJ0_checkIndex_df160, Cond.static yJ0_checkIndex_df160, Cond.code yJ0_checkIndex_df160 cJ0_checkIndex_df160 2 none, Cond.fieldLink RJ0 1053 "jdk/internal/util/Preconditions" "SIOOBE_FORMATTER" "Ljava/util/function/BiFunction;", Cond.methodLink RJ0 1059 yJ3_checkIndex_8e157, Cond.static yJ3_checkIndex_8e157, Cond.initialized RJ3, Cond.code yJ3_checkIndex_8e157 cJ3_checkIndex_8e157 3 (some .int), Cond.methodLink RJ0 498 yJ2_charAt_3b067, Cond.static yJ2_charAt_3b067, Cond.initialized RJ2, Cond.code yJ2_charAt_3b067 cJ2_charAt_3b067 2 (some .char)]
def wsL_law_r27 : List Cond := [Cond.methodLink RJ2 67 yJ2_checkIndex_2214a, Cond.static yJ2_checkIndex_2214a, Cond.code yJ2_checkIndex_2214a cJ2_checkIndex_2214a 2 none, Cond.methodLink RJ2 48 yJ2_length_9d52b, Cond.static yJ2_length_9d52b, Cond.code yJ2_length_9d52b cJ2_length_9d52b 1 (some .int), Cond.methodLink RJ2 414 yJ0_checkIndex_df160, Cond.methodLink RJ2 71 yJ2_getChar_3b067, Cond.static yJ2_getChar_3b067, Cond.code yJ2_getChar_3b067 cJ2_getChar_3b067 2 (some .char), Cond.fieldLink RJ2 44 "java/lang/StringUTF16" "$assertionsDisabled" "Z", Cond.fieldLink RJ2 59 "java/lang/StringUTF16" "HI_BYTE_SHIFT" "I", Cond.fieldLink RJ2 63 "java/lang/StringUTF16" "LO_BYTE_SHIFT" "I", Cond.methodLink RX3 64 yX3_readNumber, Cond.instanceMethod yX3_readNumber, Cond.selects RX3 yX3_readNumber yX3_readNumber, Cond.code yX3_readNumber cX3_readNumber 4 (some .boolean), Cond.methodLink RX3 68 yX3_readGreatest, Cond.instanceMethod yX3_readGreatest, Cond.selects RX3 yX3_readGreatest yX3_readGreatest, Cond.code yX3_readGreatest cX3_readGreatest 1 (some .boolean), Cond.methodLink RX7 223 yX2_take, Cond.instanceMethod yX2_take, Cond.selects RX2 yX2_take yX2_take]
def wsL_law_r28 : List Cond := [Cond.code yX2_take cX2_take 5 (some .int), Cond.methodLink RX2 29 yX2_isFull, Cond.methodLink RX2 33 yX3_termRead, Cond.instanceMethod yX3_termRead, Cond.selects RX3 yX3_termRead yX3_termRead, Cond.code yX3_termRead cX3_termRead 2 (some .int), Cond.methodLink RL 88 yX8_law, Cond.instanceMethod yX8_law, Cond.selects RX8 yX8_law yX8_law, Cond.code yX8_law cX8_law 4 (some .int), Cond.fieldLink RX8 157 "DredgePondModel" "size" "I", Cond.fieldLink RX8 154 "DredgePondModel" "at" "I", Cond.methodLink RX8 160 yX8_blanks, Cond.instanceMethod yX8_blanks, Cond.selects RX8 yX8_blanks yX8_blanks, Cond.code yX8_blanks cX8_blanks 1 none, Cond.methodLink RX8 201 yX8_statement, Cond.instanceMethod yX8_statement, Cond.selects RX8 yX8_statement yX8_statement, Cond.code yX8_statement cX8_statement 3 (some .boolean), Cond.constantLong RX8 173 (465558725996), Cond.constantLong RX8 179 (1650552427), Cond.constantLong RX8 181 (427020345714), Cond.constantLong RX8 183 (1650549611)]
def wsL_law_r29 : List Cond := [Cond.constantLong RX8 185 (32210714461238393), Cond.constantLong RX8 187 (1718185573), Cond.fieldLink RX8 170 "DredgePondModel" "number" "I", Cond.constantLong RX8 193 (29807), Cond.methodLink RX8 175 yX8_takes, Cond.instanceMethod yX8_takes, Cond.selects RX8 yX8_takes yX8_takes, Cond.code yX8_takes cX8_takes 3 (some .boolean), Cond.fieldLink RX8 163 "DredgePondModel" "wordEnd" "I", Cond.methodLink RX8 166 yX8_word, Cond.instanceMethod yX8_word, Cond.selects RX8 yX8_word yX8_word, Cond.code yX8_word cX8_word 3 (some .long), Cond.methodLink RX8 189 yX8_takesNumber, Cond.instanceMethod yX8_takesNumber, Cond.selects RX8 yX8_takesNumber yX8_takesNumber, Cond.code yX8_takesNumber cX8_takesNumber 2 (some .boolean), Cond.methodLink RL 89 yX7_fault, Cond.instanceMethod yX7_fault, Cond.selects RX7 yX7_fault yX7_fault, Cond.code yX7_fault cX7_fault 1 (some .int), Cond.methodLink RL 92 yX8_fault, Cond.instanceMethod yX8_fault, Cond.selects RX8 yX8_fault yX8_fault]
def wsL_law_r30 : List Cond := [Cond.code yX8_fault cX8_fault 1 (some .int), Cond.methodLink RL 93 yX7_tells, Cond.instanceMethod yX7_tells, Cond.selects RX7 yX7_tells yX7_tells, Cond.code yX7_tells cX7_tells 3 (some .int), Cond.methodLink RX7 227 yX2_inForce, Cond.methodLink RL 96 yX8_tells, Cond.instanceMethod yX8_tells, Cond.selects RX8 yX8_tells yX8_tells, Cond.code yX8_tells cX8_tells 3 (some .int), Cond.methodLink RL 97 yX7_month, Cond.instanceMethod yX7_month, Cond.selects RX7 yX7_month yX7_month, Cond.code yX7_month cX7_month 4 (some .int), Cond.methodLink RX7 233 yX0_inMonth, Cond.instanceMethod yX0_inMonth, Cond.selects RX0 yX0_inMonth yX0_inMonth, Cond.code yX0_inMonth cX0_inMonth 2 (some .int), Cond.methodLink RL 100 yX8_month, Cond.instanceMethod yX8_month, Cond.selects RX8 yX8_month yX8_month, Cond.code yX8_month cX8_month 3 (some .int), Cond.constantLong RX8 211 (1000), Cond.methodLink RL 101 yX7_count]
def wsL_law_r31 : List Cond := [Cond.instanceMethod yX7_count, Cond.selects RX7 yX7_count yX7_count, Cond.code yX7_count cX7_count 2 (some .int), Cond.methodLink RX7 242 yX0_inAll, Cond.instanceMethod yX0_inAll, Cond.selects RX0 yX0_inAll yX0_inAll, Cond.code yX0_inAll cX0_inAll 1 (some .int), Cond.methodLink RX7 245 yX0_lost, Cond.instanceMethod yX0_lost, Cond.selects RX0 yX0_lost yX0_lost, Cond.code yX0_lost cX0_lost 1 (some .int), Cond.methodLink RX7 248 yX6_laidBackCount, Cond.instanceMethod yX6_laidBackCount, Cond.selects RX6 yX6_laidBackCount yX6_laidBackCount, Cond.code yX6_laidBackCount cX6_laidBackCount 1 (some .int), Cond.methodLink RX7 251 yX1_quarrels, Cond.instanceMethod yX1_quarrels, Cond.selects RX1 yX1_quarrels yX1_quarrels, Cond.code yX1_quarrels cX1_quarrels 3 (some .int), Cond.methodLink RX7 254 yX2_size, Cond.instanceMethod yX2_size, Cond.selects RX2 yX2_size yX2_size, Cond.code yX2_size cX2_size 1 (some .int), Cond.methodLink RL 104 yX8_count]
def wsL_law_r32 : List Cond := [Cond.instanceMethod yX8_count, Cond.selects RX8 yX8_count yX8_count, Cond.code yX8_count cX8_count 5 (some .int)]
def wsL_law : List Cond := (wsL_law_r1 ++ (wsL_law_r2 ++ (wsL_law_r3 ++ (wsL_law_r4 ++ (wsL_law_r5 ++ (wsL_law_r6 ++ (wsL_law_r7 ++ (wsL_law_r8 ++ (wsL_law_r9 ++ (wsL_law_r10 ++ (wsL_law_r11 ++ (wsL_law_r12 ++ (wsL_law_r13 ++ (wsL_law_r14 ++ (wsL_law_r15 ++ (wsL_law_r16 ++ (wsL_law_r17 ++ (wsL_law_r18 ++ (wsL_law_r19 ++ (wsL_law_r20 ++ (wsL_law_r21 ++ (wsL_law_r22 ++ (wsL_law_r23 ++ (wsL_law_r24 ++ (wsL_law_r25 ++ (wsL_law_r26 ++ (wsL_law_r27 ++ (wsL_law_r28 ++ (wsL_law_r29 ++ (wsL_law_r30 ++ (wsL_law_r31 ++ wsL_law_r32))))))))))))))))))))))))))))))) ++ wsX70 ++ wsX80 ++ wsX40 ++ wsX00 ++ wsX20 ++ wsX30 ++ wsX10 ++ wsX60 ++ wsX50 ++ ([] : List Cond)
abbrev vwCl : List vw_C := [(RX0, TX0, 4), (RX1, TX1, 7), (RX2, TX2, 3), (RX3, TX3, 7), (RX4, TX4, 3), (RX5, TX5, 4), (RX6, TX6, 6), (RX7, TX7, 10), (RX8, TX8, 34)]
end
section
theorem dX0_init_0 : decode cX0_init 0 = .ok (.aload_n 0, 1) := by decide +kernel
theorem dX0_init_1 : decode cX0_init 1 = .ok (.invokespecial 3, 3) := by decide +kernel
theorem dX0_init_4 : decode cX0_init 4 = .ok (.aload_n 0, 1) := by decide +kernel
theorem dX0_init_5 : decode cX0_init 5 = .ok (.bipush 21, 2) := by decide +kernel
theorem dX0_init_7 : decode cX0_init 7 = .ok (.newarray .int, 2) := by decide +kernel
theorem dX0_init_9 : decode cX0_init 9 = .ok (.putfield 9, 3) := by decide +kernel
theorem dX0_init_12 : decode cX0_init 12 = .ok (.aload_n 0, 1) := by decide +kernel
theorem dX0_init_13 : decode cX0_init 13 = .ok (.iconst 0, 1) := by decide +kernel
theorem dX0_init_14 : decode cX0_init 14 = .ok (.putfield 15, 3) := by decide +kernel
theorem dX0_init_17 : decode cX0_init 17 = .ok (.aload_n 0, 1) := by decide +kernel
theorem dX0_init_18 : decode cX0_init 18 = .ok (.iconst 0, 1) := by decide +kernel
theorem dX0_init_19 : decode cX0_init 19 = .ok (.putfield 19, 3) := by decide +kernel
theorem dX0_init_22 : decode cX0_init 22 = .ok (.aload_n 0, 1) := by decide +kernel
theorem dX0_init_23 : decode cX0_init 23 = .ok (.iconst 3, 1) := by decide +kernel
theorem dX0_init_24 : decode cX0_init 24 = .ok (.putfield 22, 3) := by decide +kernel
theorem dX0_init_27 : decode cX0_init 27 = .ok (.return_, 1) := by decide +kernel
theorem dX0_run_0 : decode cX0_run 0 = .ok (.aload_n 0, 1) := by decide +kernel
theorem dX0_run_1 : decode cX0_run 1 = .ok (.iload_n 1, 1) := by decide +kernel
theorem dX0_run_2 : decode cX0_run 2 = .ok (.putfield 22, 3) := by decide +kernel
theorem dX0_run_5 : decode cX0_run 5 = .ok (.return_, 1) := by decide +kernel
set_option maxRecDepth 20000 in
theorem ggX0_fill_X7_within : GoodIn wsX0_fill wsX7_within := goodIn_r _ [7] (by decide +kernel) (by decide +kernel)
set_option maxRecDepth 20000 in
theorem gX0_fill_X7_within_n25 : GoodIn wsX0_fill (wsX7_within) := ggX0_fill_X7_within
theorem dX0_fill_0 : decode cX0_fill 0 = .ok (.iload_n 1, 1) := by decide +kernel
theorem dX0_fill_1 : decode cX0_fill 1 = .ok (.aload_n 0, 1) := by decide +kernel
theorem dX0_fill_2 : decode cX0_fill 2 = .ok (.getfield 22, 3) := by decide +kernel
theorem dX0_fill_5 : decode cX0_fill 5 = .ok (.aload_n 0, 1) := by decide +kernel
theorem dX0_fill_6 : decode cX0_fill 6 = .ok (.getfield 22, 3) := by decide +kernel
theorem dX0_fill_9 : decode cX0_fill 9 = .ok (.imul, 1) := by decide +kernel
theorem dX0_fill_10 : decode cX0_fill 10 = .ok (.iconst 2, 1) := by decide +kernel
theorem dX0_fill_11 : decode cX0_fill 11 = .ok (.idiv, 1) := by decide +kernel
theorem dX0_fill_12 : decode cX0_fill 12 = .ok (.imul, 1) := by decide +kernel
theorem dX0_fill_13 : decode cX0_fill 13 = .ok (.bipush 100, 2) := by decide +kernel
theorem dX0_fill_15 : decode cX0_fill 15 = .ok (.idiv, 1) := by decide +kernel
theorem dX0_fill_16 : decode cX0_fill 16 = .ok (.istore_n 3, 1) := by decide +kernel
theorem dX0_fill_17 : decode cX0_fill 17 = .ok (.iload_n 1, 1) := by decide +kernel
theorem dX0_fill_18 : decode cX0_fill 18 = .ok (.iload_n 3, 1) := by decide +kernel
theorem dX0_fill_19 : decode cX0_fill 19 = .ok (.isub, 1) := by decide +kernel
theorem dX0_fill_20 : decode cX0_fill 20 = .ok (.istore 4, 2) := by decide +kernel
theorem dX0_fill_22 : decode cX0_fill 22 = .ok (.aload_n 0, 1) := by decide +kernel
theorem dX0_fill_23 : decode cX0_fill 23 = .ok (.dup, 1) := by decide +kernel
theorem dX0_fill_24 : decode cX0_fill 24 = .ok (.getfield 19, 3) := by decide +kernel
theorem dX0_fill_27 : decode cX0_fill 27 = .ok (.iload_n 3, 1) := by decide +kernel
theorem dX0_fill_28 : decode cX0_fill 28 = .ok (.iadd, 1) := by decide +kernel
theorem dX0_fill_29 : decode cX0_fill 29 = .ok (.putfield 19, 3) := by decide +kernel
theorem dX0_fill_32 : decode cX0_fill 32 = .ok (.aload_n 0, 1) := by decide +kernel
theorem dX0_fill_33 : decode cX0_fill 33 = .ok (.dup, 1) := by decide +kernel
theorem dX0_fill_34 : decode cX0_fill 34 = .ok (.getfield 15, 3) := by decide +kernel
theorem dX0_fill_37 : decode cX0_fill 37 = .ok (.iload 4, 2) := by decide +kernel
theorem dX0_fill_39 : decode cX0_fill 39 = .ok (.iadd, 1) := by decide +kernel
theorem dX0_fill_40 : decode cX0_fill 40 = .ok (.putfield 15, 3) := by decide +kernel
theorem dX0_fill_43 : decode cX0_fill 43 = .ok (.iload_n 2, 1) := by decide +kernel
theorem dX0_fill_44 : decode cX0_fill 44 = .ok (.iconst 0, 1) := by decide +kernel
theorem dX0_fill_45 : decode cX0_fill 45 = .ok (.aload_n 0, 1) := by decide +kernel
theorem dX0_fill_46 : decode cX0_fill 46 = .ok (.getfield 9, 3) := by decide +kernel
theorem dX0_fill_49 : decode cX0_fill 49 = .ok (.arraylength, 1) := by decide +kernel
theorem dX0_fill_50 : decode cX0_fill 50 = .ok (.iconst 1, 1) := by decide +kernel
theorem dX0_fill_51 : decode cX0_fill 51 = .ok (.isub, 1) := by decide +kernel
theorem dX0_fill_52 : decode cX0_fill 52 = .ok (.invokestatic 25, 3) := by decide +kernel
theorem dX0_fill_55 : decode cX0_fill 55 = .ok (.ifCond .eq 14, 3) := by decide +kernel
theorem dX0_fill_58 : decode cX0_fill 58 = .ok (.aload_n 0, 1) := by decide +kernel
theorem dX0_fill_59 : decode cX0_fill 59 = .ok (.getfield 9, 3) := by decide +kernel
theorem dX0_fill_62 : decode cX0_fill 62 = .ok (.iload_n 2, 1) := by decide +kernel
theorem dX0_fill_63 : decode cX0_fill 63 = .ok (.dup2, 1) := by decide +kernel
theorem dX0_fill_64 : decode cX0_fill 64 = .ok (.iaload, 1) := by decide +kernel
theorem dX0_fill_65 : decode cX0_fill 65 = .ok (.iload 4, 2) := by decide +kernel
theorem dX0_fill_67 : decode cX0_fill 67 = .ok (.iadd, 1) := by decide +kernel
theorem dX0_fill_68 : decode cX0_fill 68 = .ok (.iastore, 1) := by decide +kernel
theorem dX0_fill_69 : decode cX0_fill 69 = .ok (.iload 4, 2) := by decide +kernel
theorem dX0_fill_71 : decode cX0_fill 71 = .ok (.ireturn, 1) := by decide +kernel
set_option maxRecDepth 20000 in
theorem ggX0_inMonth_X7_within : GoodIn wsX0_inMonth wsX7_within := goodIn_r _ [4] (by decide +kernel) (by decide +kernel)
set_option maxRecDepth 20000 in
theorem gX0_inMonth_X7_within_n25 : GoodIn wsX0_inMonth (wsX7_within) := ggX0_inMonth_X7_within
theorem dX0_inMonth_0 : decode cX0_inMonth 0 = .ok (.iload_n 1, 1) := by decide +kernel
theorem dX0_inMonth_1 : decode cX0_inMonth 1 = .ok (.iconst 0, 1) := by decide +kernel
theorem dX0_inMonth_2 : decode cX0_inMonth 2 = .ok (.aload_n 0, 1) := by decide +kernel
theorem dX0_inMonth_3 : decode cX0_inMonth 3 = .ok (.getfield 9, 3) := by decide +kernel
theorem dX0_inMonth_6 : decode cX0_inMonth 6 = .ok (.arraylength, 1) := by decide +kernel
theorem dX0_inMonth_7 : decode cX0_inMonth 7 = .ok (.iconst 1, 1) := by decide +kernel
theorem dX0_inMonth_8 : decode cX0_inMonth 8 = .ok (.isub, 1) := by decide +kernel
theorem dX0_inMonth_9 : decode cX0_inMonth 9 = .ok (.invokestatic 25, 3) := by decide +kernel
theorem dX0_inMonth_12 : decode cX0_inMonth 12 = .ok (.ifCond .eq 12, 3) := by decide +kernel
theorem dX0_inMonth_15 : decode cX0_inMonth 15 = .ok (.aload_n 0, 1) := by decide +kernel
theorem dX0_inMonth_16 : decode cX0_inMonth 16 = .ok (.getfield 9, 3) := by decide +kernel
theorem dX0_inMonth_19 : decode cX0_inMonth 19 = .ok (.iload_n 1, 1) := by decide +kernel
theorem dX0_inMonth_20 : decode cX0_inMonth 20 = .ok (.iaload, 1) := by decide +kernel
theorem dX0_inMonth_21 : decode cX0_inMonth 21 = .ok (.goto 4, 3) := by decide +kernel
theorem dX0_inMonth_24 : decode cX0_inMonth 24 = .ok (.iconst 0, 1) := by decide +kernel
theorem dX0_inMonth_25 : decode cX0_inMonth 25 = .ok (.ireturn, 1) := by decide +kernel
theorem dX0_inAll_0 : decode cX0_inAll 0 = .ok (.aload_n 0, 1) := by decide +kernel
theorem dX0_inAll_1 : decode cX0_inAll 1 = .ok (.getfield 15, 3) := by decide +kernel
theorem dX0_inAll_4 : decode cX0_inAll 4 = .ok (.ireturn, 1) := by decide +kernel
theorem dX0_lost_0 : decode cX0_lost 0 = .ok (.aload_n 0, 1) := by decide +kernel
theorem dX0_lost_1 : decode cX0_lost 1 = .ok (.getfield 19, 3) := by decide +kernel
theorem dX0_lost_4 : decode cX0_lost 4 = .ok (.ireturn, 1) := by decide +kernel
theorem dX1_init_0 : decode cX1_init 0 = .ok (.aload_n 0, 1) := by decide +kernel
theorem dX1_init_1 : decode cX1_init 1 = .ok (.invokespecial 3, 3) := by decide +kernel
theorem dX1_init_4 : decode cX1_init 4 = .ok (.aload_n 0, 1) := by decide +kernel
theorem dX1_init_5 : decode cX1_init 5 = .ok (.sipush 1000, 3) := by decide +kernel
theorem dX1_init_8 : decode cX1_init 8 = .ok (.putfield 11, 3) := by decide +kernel
theorem dX1_init_11 : decode cX1_init 11 = .ok (.aload_n 0, 1) := by decide +kernel
theorem dX1_init_12 : decode cX1_init 12 = .ok (.iload_n 1, 1) := by decide +kernel
theorem dX1_init_13 : decode cX1_init 13 = .ok (.putfield 15, 3) := by decide +kernel
theorem dX1_init_16 : decode cX1_init 16 = .ok (.aload_n 0, 1) := by decide +kernel
theorem dX1_init_17 : decode cX1_init 17 = .ok (.iload_n 2, 1) := by decide +kernel
theorem dX1_init_18 : decode cX1_init 18 = .ok (.putfield 18, 3) := by decide +kernel
theorem dX1_init_21 : decode cX1_init 21 = .ok (.iload_n 1, 1) := by decide +kernel
theorem dX1_init_22 : decode cX1_init 22 = .ok (.iload_n 2, 1) := by decide +kernel
theorem dX1_init_23 : decode cX1_init 23 = .ok (.imul, 1) := by decide +kernel
theorem dX1_init_24 : decode cX1_init 24 = .ok (.istore_n 3, 1) := by decide +kernel
theorem dX1_init_25 : decode cX1_init 25 = .ok (.aload_n 0, 1) := by decide +kernel
theorem dX1_init_26 : decode cX1_init 26 = .ok (.iload_n 3, 1) := by decide +kernel
theorem dX1_init_27 : decode cX1_init 27 = .ok (.newarray .int, 2) := by decide +kernel
theorem dX1_init_29 : decode cX1_init 29 = .ok (.putfield 21, 3) := by decide +kernel
theorem dX1_init_32 : decode cX1_init 32 = .ok (.aload_n 0, 1) := by decide +kernel
theorem dX1_init_33 : decode cX1_init 33 = .ok (.iload_n 3, 1) := by decide +kernel
theorem dX1_init_34 : decode cX1_init 34 = .ok (.newarray .int, 2) := by decide +kernel
theorem dX1_init_36 : decode cX1_init 36 = .ok (.putfield 25, 3) := by decide +kernel
theorem dX1_init_39 : decode cX1_init 39 = .ok (.aload_n 0, 1) := by decide +kernel
theorem dX1_init_40 : decode cX1_init 40 = .ok (.iload_n 3, 1) := by decide +kernel
theorem dX1_init_41 : decode cX1_init 41 = .ok (.newarray .int, 2) := by decide +kernel
theorem dX1_init_43 : decode cX1_init 43 = .ok (.putfield 28, 3) := by decide +kernel
theorem dX1_init_46 : decode cX1_init 46 = .ok (.aload_n 0, 1) := by decide +kernel
theorem dX1_init_47 : decode cX1_init 47 = .ok (.iload_n 3, 1) := by decide +kernel
theorem dX1_init_48 : decode cX1_init 48 = .ok (.newarray .int, 2) := by decide +kernel
theorem dX1_init_50 : decode cX1_init 50 = .ok (.putfield 31, 3) := by decide +kernel
theorem dX1_init_53 : decode cX1_init 53 = .ok (.iconst 0, 1) := by decide +kernel
theorem dX1_init_54 : decode cX1_init 54 = .ok (.istore 4, 2) := by decide +kernel
theorem dX1_init_56 : decode cX1_init 56 = .ok (.iload 4, 2) := by decide +kernel
theorem dX1_init_58 : decode cX1_init 58 = .ok (.iload_n 3, 1) := by decide +kernel
theorem dX1_init_59 : decode cX1_init 59 = .ok (.if_icmp .ge 35, 3) := by decide +kernel
theorem dX1_init_62 : decode cX1_init 62 = .ok (.aload_n 0, 1) := by decide +kernel
theorem dX1_init_63 : decode cX1_init 63 = .ok (.getfield 21, 3) := by decide +kernel
theorem dX1_init_66 : decode cX1_init 66 = .ok (.iload 4, 2) := by decide +kernel
theorem dX1_init_68 : decode cX1_init 68 = .ok (.iconst 3, 1) := by decide +kernel
theorem dX1_init_69 : decode cX1_init 69 = .ok (.iastore, 1) := by decide +kernel
theorem dX1_init_70 : decode cX1_init 70 = .ok (.aload_n 0, 1) := by decide +kernel
theorem dX1_init_71 : decode cX1_init 71 = .ok (.getfield 25, 3) := by decide +kernel
theorem dX1_init_74 : decode cX1_init 74 = .ok (.iload 4, 2) := by decide +kernel
theorem dX1_init_76 : decode cX1_init 76 = .ok (.iconst (-1), 1) := by decide +kernel
theorem dX1_init_77 : decode cX1_init 77 = .ok (.iastore, 1) := by decide +kernel
theorem dX1_init_78 : decode cX1_init 78 = .ok (.aload_n 0, 1) := by decide +kernel
theorem dX1_init_79 : decode cX1_init 79 = .ok (.getfield 31, 3) := by decide +kernel
theorem dX1_init_82 : decode cX1_init 82 = .ok (.iload 4, 2) := by decide +kernel
theorem dX1_init_84 : decode cX1_init 84 = .ok (.sipush 1000, 3) := by decide +kernel
theorem dX1_init_87 : decode cX1_init 87 = .ok (.iastore, 1) := by decide +kernel
theorem dX1_init_88 : decode cX1_init 88 = .ok (.iinc 4 1, 3) := by decide +kernel
theorem dX1_init_91 : decode cX1_init 91 = .ok (.goto (-35), 3) := by decide +kernel
theorem dX1_init_94 : decode cX1_init 94 = .ok (.return_, 1) := by decide +kernel
theorem dX1_rowCount_0 : decode cX1_rowCount 0 = .ok (.aload_n 0, 1) := by decide +kernel
theorem dX1_rowCount_1 : decode cX1_rowCount 1 = .ok (.getfield 15, 3) := by decide +kernel
theorem dX1_rowCount_4 : decode cX1_rowCount 4 = .ok (.ireturn, 1) := by decide +kernel
set_option maxRecDepth 20000 in
theorem ggX1_has_X7_within : GoodIn wsX1_has wsX7_within := goodIn_r _ [5] (by decide +kernel) (by decide +kernel)
set_option maxRecDepth 20000 in
theorem gX1_has_X7_within_n34 : GoodIn wsX1_has (wsX7_within) := ggX1_has_X7_within
theorem dX1_has_0 : decode cX1_has 0 = .ok (.iload_n 1, 1) := by decide +kernel
theorem dX1_has_1 : decode cX1_has 1 = .ok (.iconst 0, 1) := by decide +kernel
theorem dX1_has_2 : decode cX1_has 2 = .ok (.aload_n 0, 1) := by decide +kernel
theorem dX1_has_3 : decode cX1_has 3 = .ok (.getfield 15, 3) := by decide +kernel
theorem dX1_has_6 : decode cX1_has 6 = .ok (.iconst 1, 1) := by decide +kernel
theorem dX1_has_7 : decode cX1_has 7 = .ok (.isub, 1) := by decide +kernel
theorem dX1_has_8 : decode cX1_has 8 = .ok (.invokestatic 34, 3) := by decide +kernel
theorem dX1_has_11 : decode cX1_has 11 = .ok (.ifCond .eq 21, 3) := by decide +kernel
theorem dX1_has_14 : decode cX1_has 14 = .ok (.iload_n 2, 1) := by decide +kernel
theorem dX1_has_15 : decode cX1_has 15 = .ok (.iconst 0, 1) := by decide +kernel
theorem dX1_has_16 : decode cX1_has 16 = .ok (.aload_n 0, 1) := by decide +kernel
theorem dX1_has_17 : decode cX1_has 17 = .ok (.getfield 18, 3) := by decide +kernel
theorem dX1_has_20 : decode cX1_has 20 = .ok (.iconst 1, 1) := by decide +kernel
theorem dX1_has_21 : decode cX1_has 21 = .ok (.isub, 1) := by decide +kernel
theorem dX1_has_22 : decode cX1_has 22 = .ok (.invokestatic 34, 3) := by decide +kernel
theorem dX1_has_25 : decode cX1_has 25 = .ok (.ifCond .eq 7, 3) := by decide +kernel
theorem dX1_has_28 : decode cX1_has 28 = .ok (.iconst 1, 1) := by decide +kernel
theorem dX1_has_29 : decode cX1_has 29 = .ok (.goto 4, 3) := by decide +kernel
theorem dX1_has_32 : decode cX1_has 32 = .ok (.iconst 0, 1) := by decide +kernel
theorem dX1_has_33 : decode cX1_has 33 = .ok (.ireturn, 1) := by decide +kernel
theorem dX1_depthAt_0 : decode cX1_depthAt 0 = .ok (.aload_n 0, 1) := by decide +kernel
theorem dX1_depthAt_1 : decode cX1_depthAt 1 = .ok (.getfield 21, 3) := by decide +kernel
theorem dX1_depthAt_4 : decode cX1_depthAt 4 = .ok (.iload_n 1, 1) := by decide +kernel
theorem dX1_depthAt_5 : decode cX1_depthAt 5 = .ok (.aload_n 0, 1) := by decide +kernel
theorem dX1_depthAt_6 : decode cX1_depthAt 6 = .ok (.getfield 18, 3) := by decide +kernel
theorem dX1_depthAt_9 : decode cX1_depthAt 9 = .ok (.imul, 1) := by decide +kernel
theorem dX1_depthAt_10 : decode cX1_depthAt 10 = .ok (.iload_n 2, 1) := by decide +kernel
theorem dX1_depthAt_11 : decode cX1_depthAt 11 = .ok (.iadd, 1) := by decide +kernel
theorem dX1_depthAt_12 : decode cX1_depthAt 12 = .ok (.iaload, 1) := by decide +kernel
theorem dX1_depthAt_13 : decode cX1_depthAt 13 = .ok (.ireturn, 1) := by decide +kernel
theorem dX1_deepen_0 : decode cX1_deepen 0 = .ok (.aload_n 0, 1) := by decide +kernel
theorem dX1_deepen_1 : decode cX1_deepen 1 = .ok (.getfield 21, 3) := by decide +kernel
theorem dX1_deepen_4 : decode cX1_deepen 4 = .ok (.iload_n 1, 1) := by decide +kernel
theorem dX1_deepen_5 : decode cX1_deepen 5 = .ok (.aload_n 0, 1) := by decide +kernel
theorem dX1_deepen_6 : decode cX1_deepen 6 = .ok (.getfield 18, 3) := by decide +kernel
theorem dX1_deepen_9 : decode cX1_deepen 9 = .ok (.imul, 1) := by decide +kernel
theorem dX1_deepen_10 : decode cX1_deepen 10 = .ok (.iload_n 2, 1) := by decide +kernel
theorem dX1_deepen_11 : decode cX1_deepen 11 = .ok (.iadd, 1) := by decide +kernel
theorem dX1_deepen_12 : decode cX1_deepen 12 = .ok (.iload_n 3, 1) := by decide +kernel
theorem dX1_deepen_13 : decode cX1_deepen 13 = .ok (.iastore, 1) := by decide +kernel
theorem dX1_deepen_14 : decode cX1_deepen 14 = .ok (.return_, 1) := by decide +kernel
theorem dX1_isTold_0 : decode cX1_isTold 0 = .ok (.aload_n 0, 1) := by decide +kernel
theorem dX1_isTold_1 : decode cX1_isTold 1 = .ok (.getfield 25, 3) := by decide +kernel
theorem dX1_isTold_4 : decode cX1_isTold 4 = .ok (.iload_n 1, 1) := by decide +kernel
theorem dX1_isTold_5 : decode cX1_isTold 5 = .ok (.aload_n 0, 1) := by decide +kernel
theorem dX1_isTold_6 : decode cX1_isTold 6 = .ok (.getfield 18, 3) := by decide +kernel
theorem dX1_isTold_9 : decode cX1_isTold 9 = .ok (.imul, 1) := by decide +kernel
theorem dX1_isTold_10 : decode cX1_isTold 10 = .ok (.iload_n 2, 1) := by decide +kernel
theorem dX1_isTold_11 : decode cX1_isTold 11 = .ok (.iadd, 1) := by decide +kernel
theorem dX1_isTold_12 : decode cX1_isTold 12 = .ok (.iaload, 1) := by decide +kernel
theorem dX1_isTold_13 : decode cX1_isTold 13 = .ok (.iconst (-1), 1) := by decide +kernel
theorem dX1_isTold_14 : decode cX1_isTold 14 = .ok (.if_icmp .eq 7, 3) := by decide +kernel
theorem dX1_isTold_17 : decode cX1_isTold 17 = .ok (.iconst 1, 1) := by decide +kernel
theorem dX1_isTold_18 : decode cX1_isTold 18 = .ok (.goto 4, 3) := by decide +kernel
theorem dX1_isTold_21 : decode cX1_isTold 21 = .ok (.iconst 0, 1) := by decide +kernel
theorem dX1_isTold_22 : decode cX1_isTold 22 = .ok (.ireturn, 1) := by decide +kernel
set_option maxRecDepth 20000 in
theorem ggX1_tell_X1_narrowAll : GoodIn wsX1_tell wsX1_narrowAll := goodIn_r _ [7, 8, 9, 10, 6, 11, 1, 12, 13, 14, 15, 16, 17, 18, 2, 19, 20, 21, 22, 23, 24, 25, 26, 27, 28, 29, 30, 31, 32, 33, 34, 35, 36, 37, 38, 39, 40, 41, 42, 43, 44, 45] (by decide +kernel) (by decide +kernel)
set_option maxRecDepth 20000 in
theorem gX1_tell_X1_narrowAll : GoodIn wsX1_tell (wsV RX1 38 RX1 yX1_narrowAll wsX1_narrowAll) := goodIn_app (goodIn_of _ (by decide +kernel)) ggX1_tell_X1_narrowAll
theorem dX1_tell_0 : decode cX1_tell 0 = .ok (.aload_n 0, 1) := by decide +kernel
theorem dX1_tell_1 : decode cX1_tell 1 = .ok (.getfield 25, 3) := by decide +kernel
theorem dX1_tell_4 : decode cX1_tell 4 = .ok (.iload_n 1, 1) := by decide +kernel
theorem dX1_tell_5 : decode cX1_tell 5 = .ok (.aload_n 0, 1) := by decide +kernel
theorem dX1_tell_6 : decode cX1_tell 6 = .ok (.getfield 18, 3) := by decide +kernel
theorem dX1_tell_9 : decode cX1_tell 9 = .ok (.imul, 1) := by decide +kernel
theorem dX1_tell_10 : decode cX1_tell 10 = .ok (.iload_n 2, 1) := by decide +kernel
theorem dX1_tell_11 : decode cX1_tell 11 = .ok (.iadd, 1) := by decide +kernel
theorem dX1_tell_12 : decode cX1_tell 12 = .ok (.iload_n 3, 1) := by decide +kernel
theorem dX1_tell_13 : decode cX1_tell 13 = .ok (.iastore, 1) := by decide +kernel
theorem dX1_tell_14 : decode cX1_tell 14 = .ok (.aload_n 0, 1) := by decide +kernel
theorem dX1_tell_15 : decode cX1_tell 15 = .ok (.invokevirtual 38, 3) := by decide +kernel
theorem dX1_tell_18 : decode cX1_tell 18 = .ok (.return_, 1) := by decide +kernel
set_option maxRecDepth 20000 in
theorem ggX1_slope_X1_narrowAll : GoodIn wsX1_slope wsX1_narrowAll := goodIn_r _ [6, 7, 8, 9, 5, 10, 11, 12, 13, 14, 15, 16, 17, 18, 19, 20, 21, 22, 23, 1, 24, 25, 26, 27, 28, 29, 30, 31, 32, 33, 34, 35, 36, 37, 38, 39, 40, 41, 42, 43, 44, 45] (by decide +kernel) (by decide +kernel)
set_option maxRecDepth 20000 in
theorem gX1_slope_X1_narrowAll : GoodIn wsX1_slope (wsV RX1 38 RX1 yX1_narrowAll wsX1_narrowAll) := goodIn_app (goodIn_of _ (by decide +kernel)) ggX1_slope_X1_narrowAll
theorem dX1_slope_0 : decode cX1_slope 0 = .ok (.aload_n 0, 1) := by decide +kernel
theorem dX1_slope_1 : decode cX1_slope 1 = .ok (.iload_n 1, 1) := by decide +kernel
theorem dX1_slope_2 : decode cX1_slope 2 = .ok (.putfield 11, 3) := by decide +kernel
theorem dX1_slope_5 : decode cX1_slope 5 = .ok (.aload_n 0, 1) := by decide +kernel
theorem dX1_slope_6 : decode cX1_slope 6 = .ok (.invokevirtual 38, 3) := by decide +kernel
theorem dX1_slope_9 : decode cX1_slope 9 = .ok (.return_, 1) := by decide +kernel
theorem dX1_leastAt_0 : decode cX1_leastAt 0 = .ok (.aload_n 0, 1) := by decide +kernel
theorem dX1_leastAt_1 : decode cX1_leastAt 1 = .ok (.getfield 28, 3) := by decide +kernel
theorem dX1_leastAt_4 : decode cX1_leastAt 4 = .ok (.iload_n 1, 1) := by decide +kernel
theorem dX1_leastAt_5 : decode cX1_leastAt 5 = .ok (.aload_n 0, 1) := by decide +kernel
theorem dX1_leastAt_6 : decode cX1_leastAt 6 = .ok (.getfield 18, 3) := by decide +kernel
theorem dX1_leastAt_9 : decode cX1_leastAt 9 = .ok (.imul, 1) := by decide +kernel
theorem dX1_leastAt_10 : decode cX1_leastAt 10 = .ok (.iload_n 2, 1) := by decide +kernel
theorem dX1_leastAt_11 : decode cX1_leastAt 11 = .ok (.iadd, 1) := by decide +kernel
theorem dX1_leastAt_12 : decode cX1_leastAt 12 = .ok (.iaload, 1) := by decide +kernel
theorem dX1_leastAt_13 : decode cX1_leastAt 13 = .ok (.ireturn, 1) := by decide +kernel
theorem dX1_greatestAt_0 : decode cX1_greatestAt 0 = .ok (.aload_n 0, 1) := by decide +kernel
theorem dX1_greatestAt_1 : decode cX1_greatestAt 1 = .ok (.getfield 31, 3) := by decide +kernel
theorem dX1_greatestAt_4 : decode cX1_greatestAt 4 = .ok (.iload_n 1, 1) := by decide +kernel
theorem dX1_greatestAt_5 : decode cX1_greatestAt 5 = .ok (.aload_n 0, 1) := by decide +kernel
theorem dX1_greatestAt_6 : decode cX1_greatestAt 6 = .ok (.getfield 18, 3) := by decide +kernel
theorem dX1_greatestAt_9 : decode cX1_greatestAt 9 = .ok (.imul, 1) := by decide +kernel
theorem dX1_greatestAt_10 : decode cX1_greatestAt 10 = .ok (.iload_n 2, 1) := by decide +kernel
theorem dX1_greatestAt_11 : decode cX1_greatestAt 11 = .ok (.iadd, 1) := by decide +kernel
theorem dX1_greatestAt_12 : decode cX1_greatestAt 12 = .ok (.iaload, 1) := by decide +kernel
theorem dX1_greatestAt_13 : decode cX1_greatestAt 13 = .ok (.ireturn, 1) := by decide +kernel
set_option maxRecDepth 20000 in
theorem ggX1_quarrelsAt_X1_leastAt : GoodIn wsX1_quarrelsAt wsX1_leastAt := goodIn_r _ [5, 6, 7, 13, 14, 15, 16, 17, 18, 19] (by decide +kernel) (by decide +kernel)
set_option maxRecDepth 20000 in
theorem gX1_quarrelsAt_X1_leastAt : GoodIn wsX1_quarrelsAt (wsV RX1 41 RX1 yX1_leastAt wsX1_leastAt) := goodIn_app (goodIn_of _ (by decide +kernel)) ggX1_quarrelsAt_X1_leastAt
set_option maxRecDepth 20000 in
theorem ggX1_quarrelsAt_X1_greatestAt : GoodIn wsX1_quarrelsAt wsX1_greatestAt := goodIn_r _ [11, 12, 7, 13, 14, 15, 16, 17, 18, 19] (by decide +kernel) (by decide +kernel)
set_option maxRecDepth 20000 in
theorem gX1_quarrelsAt_X1_greatestAt : GoodIn wsX1_quarrelsAt (wsV RX1 45 RX1 yX1_greatestAt wsX1_greatestAt) := goodIn_app (goodIn_of _ (by decide +kernel)) ggX1_quarrelsAt_X1_greatestAt
theorem dX1_quarrelsAt_0 : decode cX1_quarrelsAt 0 = .ok (.aload_n 0, 1) := by decide +kernel
theorem dX1_quarrelsAt_1 : decode cX1_quarrelsAt 1 = .ok (.iload_n 1, 1) := by decide +kernel
theorem dX1_quarrelsAt_2 : decode cX1_quarrelsAt 2 = .ok (.iload_n 2, 1) := by decide +kernel
theorem dX1_quarrelsAt_3 : decode cX1_quarrelsAt 3 = .ok (.invokevirtual 41, 3) := by decide +kernel
theorem dX1_quarrelsAt_6 : decode cX1_quarrelsAt 6 = .ok (.aload_n 0, 1) := by decide +kernel
theorem dX1_quarrelsAt_7 : decode cX1_quarrelsAt 7 = .ok (.iload_n 1, 1) := by decide +kernel
theorem dX1_quarrelsAt_8 : decode cX1_quarrelsAt 8 = .ok (.iload_n 2, 1) := by decide +kernel
theorem dX1_quarrelsAt_9 : decode cX1_quarrelsAt 9 = .ok (.invokevirtual 45, 3) := by decide +kernel
theorem dX1_quarrelsAt_12 : decode cX1_quarrelsAt 12 = .ok (.if_icmp .le 7, 3) := by decide +kernel
theorem dX1_quarrelsAt_15 : decode cX1_quarrelsAt 15 = .ok (.iconst 1, 1) := by decide +kernel
theorem dX1_quarrelsAt_16 : decode cX1_quarrelsAt 16 = .ok (.goto 4, 3) := by decide +kernel
theorem dX1_quarrelsAt_19 : decode cX1_quarrelsAt 19 = .ok (.iconst 0, 1) := by decide +kernel
theorem dX1_quarrelsAt_20 : decode cX1_quarrelsAt 20 = .ok (.ireturn, 1) := by decide +kernel
theorem dX1_quarrels_0 : decode cX1_quarrels 0 = .ok (.iconst 0, 1) := by decide +kernel
theorem dX1_quarrels_1 : decode cX1_quarrels 1 = .ok (.istore_n 1, 1) := by decide +kernel
theorem dX1_quarrels_2 : decode cX1_quarrels 2 = .ok (.iconst 0, 1) := by decide +kernel
theorem dX1_quarrels_3 : decode cX1_quarrels 3 = .ok (.istore_n 2, 1) := by decide +kernel
theorem dX1_quarrels_4 : decode cX1_quarrels 4 = .ok (.iload_n 2, 1) := by decide +kernel
theorem dX1_quarrels_5 : decode cX1_quarrels 5 = .ok (.aload_n 0, 1) := by decide +kernel
theorem dX1_quarrels_6 : decode cX1_quarrels 6 = .ok (.getfield 28, 3) := by decide +kernel
theorem dX1_quarrels_9 : decode cX1_quarrels 9 = .ok (.arraylength, 1) := by decide +kernel
theorem dX1_quarrels_10 : decode cX1_quarrels 10 = .ok (.if_icmp .ge 27, 3) := by decide +kernel
theorem dX1_quarrels_13 : decode cX1_quarrels 13 = .ok (.aload_n 0, 1) := by decide +kernel
theorem dX1_quarrels_14 : decode cX1_quarrels 14 = .ok (.getfield 28, 3) := by decide +kernel
theorem dX1_quarrels_17 : decode cX1_quarrels 17 = .ok (.iload_n 2, 1) := by decide +kernel
theorem dX1_quarrels_18 : decode cX1_quarrels 18 = .ok (.iaload, 1) := by decide +kernel
theorem dX1_quarrels_19 : decode cX1_quarrels 19 = .ok (.aload_n 0, 1) := by decide +kernel
theorem dX1_quarrels_20 : decode cX1_quarrels 20 = .ok (.getfield 31, 3) := by decide +kernel
theorem dX1_quarrels_23 : decode cX1_quarrels 23 = .ok (.iload_n 2, 1) := by decide +kernel
theorem dX1_quarrels_24 : decode cX1_quarrels 24 = .ok (.iaload, 1) := by decide +kernel
theorem dX1_quarrels_25 : decode cX1_quarrels 25 = .ok (.if_icmp .le 6, 3) := by decide +kernel
theorem dX1_quarrels_28 : decode cX1_quarrels 28 = .ok (.iinc 1 1, 3) := by decide +kernel
theorem dX1_quarrels_31 : decode cX1_quarrels 31 = .ok (.iinc 2 1, 3) := by decide +kernel
theorem dX1_quarrels_34 : decode cX1_quarrels 34 = .ok (.goto (-30), 3) := by decide +kernel
theorem dX1_quarrels_37 : decode cX1_quarrels 37 = .ok (.iload_n 1, 1) := by decide +kernel
theorem dX1_quarrels_38 : decode cX1_quarrels 38 = .ok (.ireturn, 1) := by decide +kernel
set_option maxRecDepth 20000 in
theorem ggX1_widestFrom_X1_isTold : GoodIn wsX1_widestFrom wsX1_isTold := goodIn_r _ [7, 8, 2, 19, 20, 21, 22, 23, 24, 25] (by decide +kernel) (by decide +kernel)
set_option maxRecDepth 20000 in
theorem gX1_widestFrom_X1_isTold : GoodIn wsX1_widestFrom (wsV RX1 48 RX1 yX1_isTold wsX1_isTold) := goodIn_app (goodIn_of _ (by decide +kernel)) ggX1_widestFrom_X1_isTold
set_option maxRecDepth 20000 in
theorem ggX1_widestFrom_X1_greatestAt : GoodIn wsX1_widestFrom wsX1_greatestAt := goodIn_r _ [12, 13, 2, 19, 20, 21, 22, 23, 24, 25] (by decide +kernel) (by decide +kernel)
set_option maxRecDepth 20000 in
theorem gX1_widestFrom_X1_greatestAt : GoodIn wsX1_widestFrom (wsV RX1 45 RX1 yX1_greatestAt wsX1_greatestAt) := goodIn_app (goodIn_of _ (by decide +kernel)) ggX1_widestFrom_X1_greatestAt
set_option maxRecDepth 20000 in
theorem ggX1_widestFrom_X1_leastAt : GoodIn wsX1_widestFrom wsX1_leastAt := goodIn_r _ [17, 18, 2, 19, 20, 21, 22, 23, 24, 25] (by decide +kernel) (by decide +kernel)
set_option maxRecDepth 20000 in
theorem gX1_widestFrom_X1_leastAt : GoodIn wsX1_widestFrom (wsV RX1 41 RX1 yX1_leastAt wsX1_leastAt) := goodIn_app (goodIn_of _ (by decide +kernel)) ggX1_widestFrom_X1_leastAt
theorem dX1_widestFrom_0 : decode cX1_widestFrom 0 = .ok (.iconst (-1), 1) := by decide +kernel
theorem dX1_widestFrom_1 : decode cX1_widestFrom 1 = .ok (.istore_n 2, 1) := by decide +kernel
theorem dX1_widestFrom_2 : decode cX1_widestFrom 2 = .ok (.iconst 0, 1) := by decide +kernel
theorem dX1_widestFrom_3 : decode cX1_widestFrom 3 = .ok (.istore_n 3, 1) := by decide +kernel
theorem dX1_widestFrom_4 : decode cX1_widestFrom 4 = .ok (.iload_n 1, 1) := by decide +kernel
theorem dX1_widestFrom_5 : decode cX1_widestFrom 5 = .ok (.istore 4, 2) := by decide +kernel
theorem dX1_widestFrom_7 : decode cX1_widestFrom 7 = .ok (.iload 4, 2) := by decide +kernel
theorem dX1_widestFrom_9 : decode cX1_widestFrom 9 = .ok (.aload_n 0, 1) := by decide +kernel
theorem dX1_widestFrom_10 : decode cX1_widestFrom 10 = .ok (.getfield 15, 3) := by decide +kernel
theorem dX1_widestFrom_13 : decode cX1_widestFrom 13 = .ok (.if_icmp .ge 83, 3) := by decide +kernel
theorem dX1_widestFrom_16 : decode cX1_widestFrom 16 = .ok (.iconst 0, 1) := by decide +kernel
theorem dX1_widestFrom_17 : decode cX1_widestFrom 17 = .ok (.istore 5, 2) := by decide +kernel
theorem dX1_widestFrom_19 : decode cX1_widestFrom 19 = .ok (.iload 5, 2) := by decide +kernel
theorem dX1_widestFrom_21 : decode cX1_widestFrom 21 = .ok (.aload_n 0, 1) := by decide +kernel
theorem dX1_widestFrom_22 : decode cX1_widestFrom 22 = .ok (.getfield 18, 3) := by decide +kernel
theorem dX1_widestFrom_25 : decode cX1_widestFrom 25 = .ok (.if_icmp .ge 65, 3) := by decide +kernel
theorem dX1_widestFrom_28 : decode cX1_widestFrom 28 = .ok (.aload_n 0, 1) := by decide +kernel
theorem dX1_widestFrom_29 : decode cX1_widestFrom 29 = .ok (.iload 4, 2) := by decide +kernel
theorem dX1_widestFrom_31 : decode cX1_widestFrom 31 = .ok (.iload 5, 2) := by decide +kernel
theorem dX1_widestFrom_33 : decode cX1_widestFrom 33 = .ok (.invokevirtual 48, 3) := by decide +kernel
theorem dX1_widestFrom_36 : decode cX1_widestFrom 36 = .ok (.ifCond .eq 6, 3) := by decide +kernel
theorem dX1_widestFrom_39 : decode cX1_widestFrom 39 = .ok (.goto 45, 3) := by decide +kernel
theorem dX1_widestFrom_42 : decode cX1_widestFrom 42 = .ok (.aload_n 0, 1) := by decide +kernel
theorem dX1_widestFrom_43 : decode cX1_widestFrom 43 = .ok (.iload 4, 2) := by decide +kernel
theorem dX1_widestFrom_45 : decode cX1_widestFrom 45 = .ok (.iload 5, 2) := by decide +kernel
theorem dX1_widestFrom_47 : decode cX1_widestFrom 47 = .ok (.invokevirtual 45, 3) := by decide +kernel
theorem dX1_widestFrom_50 : decode cX1_widestFrom 50 = .ok (.aload_n 0, 1) := by decide +kernel
theorem dX1_widestFrom_51 : decode cX1_widestFrom 51 = .ok (.iload 4, 2) := by decide +kernel
theorem dX1_widestFrom_53 : decode cX1_widestFrom 53 = .ok (.iload 5, 2) := by decide +kernel
theorem dX1_widestFrom_55 : decode cX1_widestFrom 55 = .ok (.invokevirtual 41, 3) := by decide +kernel
theorem dX1_widestFrom_58 : decode cX1_widestFrom 58 = .ok (.isub, 1) := by decide +kernel
theorem dX1_widestFrom_59 : decode cX1_widestFrom 59 = .ok (.istore 6, 2) := by decide +kernel
theorem dX1_widestFrom_61 : decode cX1_widestFrom 61 = .ok (.iload_n 2, 1) := by decide +kernel
theorem dX1_widestFrom_62 : decode cX1_widestFrom 62 = .ok (.iconst (-1), 1) := by decide +kernel
theorem dX1_widestFrom_63 : decode cX1_widestFrom 63 = .ok (.if_icmp .eq 9, 3) := by decide +kernel
theorem dX1_widestFrom_66 : decode cX1_widestFrom 66 = .ok (.iload 6, 2) := by decide +kernel
theorem dX1_widestFrom_68 : decode cX1_widestFrom 68 = .ok (.iload_n 3, 1) := by decide +kernel
theorem dX1_widestFrom_69 : decode cX1_widestFrom 69 = .ok (.if_icmp .le 15, 3) := by decide +kernel
theorem dX1_widestFrom_72 : decode cX1_widestFrom 72 = .ok (.bipush 8, 2) := by decide +kernel
theorem dX1_widestFrom_74 : decode cX1_widestFrom 74 = .ok (.iload 4, 2) := by decide +kernel
theorem dX1_widestFrom_76 : decode cX1_widestFrom 76 = .ok (.imul, 1) := by decide +kernel
theorem dX1_widestFrom_77 : decode cX1_widestFrom 77 = .ok (.iload 5, 2) := by decide +kernel
theorem dX1_widestFrom_79 : decode cX1_widestFrom 79 = .ok (.iadd, 1) := by decide +kernel
theorem dX1_widestFrom_80 : decode cX1_widestFrom 80 = .ok (.istore_n 2, 1) := by decide +kernel
theorem dX1_widestFrom_81 : decode cX1_widestFrom 81 = .ok (.iload 6, 2) := by decide +kernel
theorem dX1_widestFrom_83 : decode cX1_widestFrom 83 = .ok (.istore_n 3, 1) := by decide +kernel
theorem dX1_widestFrom_84 : decode cX1_widestFrom 84 = .ok (.iinc 5 1, 3) := by decide +kernel
theorem dX1_widestFrom_87 : decode cX1_widestFrom 87 = .ok (.goto (-68), 3) := by decide +kernel
theorem dX1_widestFrom_90 : decode cX1_widestFrom 90 = .ok (.iinc 4 1, 3) := by decide +kernel
theorem dX1_widestFrom_93 : decode cX1_widestFrom 93 = .ok (.goto (-86), 3) := by decide +kernel
theorem dX1_widestFrom_96 : decode cX1_widestFrom 96 = .ok (.iload_n 2, 1) := by decide +kernel
theorem dX1_widestFrom_97 : decode cX1_widestFrom 97 = .ok (.ireturn, 1) := by decide +kernel
set_option maxRecDepth 20000 in
theorem ggX1_narrowAll_X1_openSpans : GoodIn wsX1_narrowAll wsX1_openSpans := goodIn_r _ [5, 6, 7, 8, 35, 36, 37, 38, 39, 40, 41] (by decide +kernel) (by decide +kernel)
set_option maxRecDepth 20000 in
theorem gX1_narrowAll_X1_openSpans : GoodIn wsX1_narrowAll (wsV RX1 52 RX1 yX1_openSpans wsX1_openSpans) := goodIn_app (goodIn_of _ (by decide +kernel)) ggX1_narrowAll_X1_openSpans
set_option maxRecDepth 20000 in
theorem ggX1_narrowAll_X1_sweepDown : GoodIn wsX1_narrowAll wsX1_sweepDown := goodIn_r _ [12, 13, 14, 15, 16, 17, 4, 18, 7, 19, 20, 21, 22, 23, 8, 24, 25, 26, 35, 36, 37, 38, 39, 40, 41] (by decide +kernel) (by decide +kernel)
set_option maxRecDepth 20000 in
theorem gX1_narrowAll_X1_sweepDown : GoodIn wsX1_narrowAll (wsV RX1 55 RX1 yX1_sweepDown wsX1_sweepDown) := goodIn_app (goodIn_of _ (by decide +kernel)) ggX1_narrowAll_X1_sweepDown
set_option maxRecDepth 20000 in
theorem ggX1_narrowAll_X1_sweepUp : GoodIn wsX1_narrowAll wsX1_sweepUp := goodIn_r _ [30, 13, 14, 15, 16, 17, 4, 18, 7, 19, 20, 21, 22, 23, 8, 24, 25, 26, 35, 36, 37, 38, 39, 40, 41] (by decide +kernel) (by decide +kernel)
set_option maxRecDepth 20000 in
theorem gX1_narrowAll_X1_sweepUp : GoodIn wsX1_narrowAll (wsV RX1 58 RX1 yX1_sweepUp wsX1_sweepUp) := goodIn_app (goodIn_of _ (by decide +kernel)) ggX1_narrowAll_X1_sweepUp
set_option maxRecDepth 20000 in
theorem ggX1_narrowAll_X1_closeToldSpans : GoodIn wsX1_narrowAll wsX1_closeToldSpans := goodIn_r _ [34, 6, 7, 8, 35, 36, 37, 38, 39, 40, 41] (by decide +kernel) (by decide +kernel)
set_option maxRecDepth 20000 in
theorem gX1_narrowAll_X1_closeToldSpans : GoodIn wsX1_narrowAll (wsV RX1 61 RX1 yX1_closeToldSpans wsX1_closeToldSpans) := goodIn_app (goodIn_of _ (by decide +kernel)) ggX1_narrowAll_X1_closeToldSpans
theorem dX1_narrowAll_0 : decode cX1_narrowAll 0 = .ok (.aload_n 0, 1) := by decide +kernel
theorem dX1_narrowAll_1 : decode cX1_narrowAll 1 = .ok (.invokevirtual 52, 3) := by decide +kernel
theorem dX1_narrowAll_4 : decode cX1_narrowAll 4 = .ok (.aload_n 0, 1) := by decide +kernel
theorem dX1_narrowAll_5 : decode cX1_narrowAll 5 = .ok (.invokevirtual 55, 3) := by decide +kernel
theorem dX1_narrowAll_8 : decode cX1_narrowAll 8 = .ok (.aload_n 0, 1) := by decide +kernel
theorem dX1_narrowAll_9 : decode cX1_narrowAll 9 = .ok (.invokevirtual 58, 3) := by decide +kernel
theorem dX1_narrowAll_12 : decode cX1_narrowAll 12 = .ok (.aload_n 0, 1) := by decide +kernel
theorem dX1_narrowAll_13 : decode cX1_narrowAll 13 = .ok (.invokevirtual 61, 3) := by decide +kernel
theorem dX1_narrowAll_16 : decode cX1_narrowAll 16 = .ok (.return_, 1) := by decide +kernel
theorem dX1_openSpans_0 : decode cX1_openSpans 0 = .ok (.iconst 0, 1) := by decide +kernel
theorem dX1_openSpans_1 : decode cX1_openSpans 1 = .ok (.istore_n 1, 1) := by decide +kernel
theorem dX1_openSpans_2 : decode cX1_openSpans 2 = .ok (.iload_n 1, 1) := by decide +kernel
theorem dX1_openSpans_3 : decode cX1_openSpans 3 = .ok (.aload_n 0, 1) := by decide +kernel
theorem dX1_openSpans_4 : decode cX1_openSpans 4 = .ok (.getfield 25, 3) := by decide +kernel
theorem dX1_openSpans_7 : decode cX1_openSpans 7 = .ok (.arraylength, 1) := by decide +kernel
theorem dX1_openSpans_8 : decode cX1_openSpans 8 = .ok (.if_icmp .ge 67, 3) := by decide +kernel
theorem dX1_openSpans_11 : decode cX1_openSpans 11 = .ok (.aload_n 0, 1) := by decide +kernel
theorem dX1_openSpans_12 : decode cX1_openSpans 12 = .ok (.getfield 25, 3) := by decide +kernel
theorem dX1_openSpans_15 : decode cX1_openSpans 15 = .ok (.iload_n 1, 1) := by decide +kernel
theorem dX1_openSpans_16 : decode cX1_openSpans 16 = .ok (.iaload, 1) := by decide +kernel
theorem dX1_openSpans_17 : decode cX1_openSpans 17 = .ok (.iconst (-1), 1) := by decide +kernel
theorem dX1_openSpans_18 : decode cX1_openSpans 18 = .ok (.if_icmp .eq 7, 3) := by decide +kernel
theorem dX1_openSpans_21 : decode cX1_openSpans 21 = .ok (.iconst 1, 1) := by decide +kernel
theorem dX1_openSpans_22 : decode cX1_openSpans 22 = .ok (.goto 4, 3) := by decide +kernel
theorem dX1_openSpans_25 : decode cX1_openSpans 25 = .ok (.iconst 0, 1) := by decide +kernel
theorem dX1_openSpans_26 : decode cX1_openSpans 26 = .ok (.istore_n 2, 1) := by decide +kernel
theorem dX1_openSpans_27 : decode cX1_openSpans 27 = .ok (.aload_n 0, 1) := by decide +kernel
theorem dX1_openSpans_28 : decode cX1_openSpans 28 = .ok (.getfield 28, 3) := by decide +kernel
theorem dX1_openSpans_31 : decode cX1_openSpans 31 = .ok (.iload_n 1, 1) := by decide +kernel
theorem dX1_openSpans_32 : decode cX1_openSpans 32 = .ok (.iload_n 2, 1) := by decide +kernel
theorem dX1_openSpans_33 : decode cX1_openSpans 33 = .ok (.ifCond .eq 12, 3) := by decide +kernel
theorem dX1_openSpans_36 : decode cX1_openSpans 36 = .ok (.aload_n 0, 1) := by decide +kernel
theorem dX1_openSpans_37 : decode cX1_openSpans 37 = .ok (.getfield 25, 3) := by decide +kernel
theorem dX1_openSpans_40 : decode cX1_openSpans 40 = .ok (.iload_n 1, 1) := by decide +kernel
theorem dX1_openSpans_41 : decode cX1_openSpans 41 = .ok (.iaload, 1) := by decide +kernel
theorem dX1_openSpans_42 : decode cX1_openSpans 42 = .ok (.goto 4, 3) := by decide +kernel
theorem dX1_openSpans_45 : decode cX1_openSpans 45 = .ok (.iconst 0, 1) := by decide +kernel
theorem dX1_openSpans_46 : decode cX1_openSpans 46 = .ok (.iastore, 1) := by decide +kernel
theorem dX1_openSpans_47 : decode cX1_openSpans 47 = .ok (.aload_n 0, 1) := by decide +kernel
theorem dX1_openSpans_48 : decode cX1_openSpans 48 = .ok (.getfield 31, 3) := by decide +kernel
theorem dX1_openSpans_51 : decode cX1_openSpans 51 = .ok (.iload_n 1, 1) := by decide +kernel
theorem dX1_openSpans_52 : decode cX1_openSpans 52 = .ok (.iload_n 2, 1) := by decide +kernel
theorem dX1_openSpans_53 : decode cX1_openSpans 53 = .ok (.ifCond .eq 12, 3) := by decide +kernel
theorem dX1_openSpans_56 : decode cX1_openSpans 56 = .ok (.aload_n 0, 1) := by decide +kernel
theorem dX1_openSpans_57 : decode cX1_openSpans 57 = .ok (.getfield 25, 3) := by decide +kernel
theorem dX1_openSpans_60 : decode cX1_openSpans 60 = .ok (.iload_n 1, 1) := by decide +kernel
theorem dX1_openSpans_61 : decode cX1_openSpans 61 = .ok (.iaload, 1) := by decide +kernel
theorem dX1_openSpans_62 : decode cX1_openSpans 62 = .ok (.goto 6, 3) := by decide +kernel
theorem dX1_openSpans_65 : decode cX1_openSpans 65 = .ok (.sipush 1000, 3) := by decide +kernel
theorem dX1_openSpans_68 : decode cX1_openSpans 68 = .ok (.iastore, 1) := by decide +kernel
theorem dX1_openSpans_69 : decode cX1_openSpans 69 = .ok (.iinc 1 1, 3) := by decide +kernel
theorem dX1_openSpans_72 : decode cX1_openSpans 72 = .ok (.goto (-70), 3) := by decide +kernel
theorem dX1_openSpans_75 : decode cX1_openSpans 75 = .ok (.return_, 1) := by decide +kernel
set_option maxRecDepth 20000 in
theorem ggX1_sweepDown_X1_narrow : GoodIn wsX1_sweepDown wsX1_narrow := goodIn_r _ [7, 8, 9, 10, 11, 12, 13, 14, 15, 16, 17, 18, 19, 20, 21, 22, 23, 24] (by decide +kernel) (by decide +kernel)
set_option maxRecDepth 20000 in
theorem gX1_sweepDown_X1_narrow : GoodIn wsX1_sweepDown (wsV RX1 64 RX1 yX1_narrow wsX1_narrow) := goodIn_app (goodIn_of _ (by decide +kernel)) ggX1_sweepDown_X1_narrow
theorem dX1_sweepDown_0 : decode cX1_sweepDown 0 = .ok (.iconst 0, 1) := by decide +kernel
theorem dX1_sweepDown_1 : decode cX1_sweepDown 1 = .ok (.istore_n 1, 1) := by decide +kernel
theorem dX1_sweepDown_2 : decode cX1_sweepDown 2 = .ok (.iload_n 1, 1) := by decide +kernel
theorem dX1_sweepDown_3 : decode cX1_sweepDown 3 = .ok (.aload_n 0, 1) := by decide +kernel
theorem dX1_sweepDown_4 : decode cX1_sweepDown 4 = .ok (.getfield 15, 3) := by decide +kernel
theorem dX1_sweepDown_7 : decode cX1_sweepDown 7 = .ok (.if_icmp .ge 61, 3) := by decide +kernel
theorem dX1_sweepDown_10 : decode cX1_sweepDown 10 = .ok (.iconst 0, 1) := by decide +kernel
theorem dX1_sweepDown_11 : decode cX1_sweepDown 11 = .ok (.istore_n 2, 1) := by decide +kernel
theorem dX1_sweepDown_12 : decode cX1_sweepDown 12 = .ok (.iload_n 2, 1) := by decide +kernel
theorem dX1_sweepDown_13 : decode cX1_sweepDown 13 = .ok (.aload_n 0, 1) := by decide +kernel
theorem dX1_sweepDown_14 : decode cX1_sweepDown 14 = .ok (.getfield 18, 3) := by decide +kernel
theorem dX1_sweepDown_17 : decode cX1_sweepDown 17 = .ok (.if_icmp .ge 45, 3) := by decide +kernel
theorem dX1_sweepDown_20 : decode cX1_sweepDown 20 = .ok (.iload_n 1, 1) := by decide +kernel
theorem dX1_sweepDown_21 : decode cX1_sweepDown 21 = .ok (.aload_n 0, 1) := by decide +kernel
theorem dX1_sweepDown_22 : decode cX1_sweepDown 22 = .ok (.getfield 18, 3) := by decide +kernel
theorem dX1_sweepDown_25 : decode cX1_sweepDown 25 = .ok (.imul, 1) := by decide +kernel
theorem dX1_sweepDown_26 : decode cX1_sweepDown 26 = .ok (.iload_n 2, 1) := by decide +kernel
theorem dX1_sweepDown_27 : decode cX1_sweepDown 27 = .ok (.iadd, 1) := by decide +kernel
theorem dX1_sweepDown_28 : decode cX1_sweepDown 28 = .ok (.istore_n 3, 1) := by decide +kernel
theorem dX1_sweepDown_29 : decode cX1_sweepDown 29 = .ok (.iload_n 1, 1) := by decide +kernel
theorem dX1_sweepDown_30 : decode cX1_sweepDown 30 = .ok (.ifCond .le 14, 3) := by decide +kernel
theorem dX1_sweepDown_33 : decode cX1_sweepDown 33 = .ok (.aload_n 0, 1) := by decide +kernel
theorem dX1_sweepDown_34 : decode cX1_sweepDown 34 = .ok (.iload_n 3, 1) := by decide +kernel
theorem dX1_sweepDown_35 : decode cX1_sweepDown 35 = .ok (.iload_n 3, 1) := by decide +kernel
theorem dX1_sweepDown_36 : decode cX1_sweepDown 36 = .ok (.aload_n 0, 1) := by decide +kernel
theorem dX1_sweepDown_37 : decode cX1_sweepDown 37 = .ok (.getfield 18, 3) := by decide +kernel
theorem dX1_sweepDown_40 : decode cX1_sweepDown 40 = .ok (.isub, 1) := by decide +kernel
theorem dX1_sweepDown_41 : decode cX1_sweepDown 41 = .ok (.invokevirtual 64, 3) := by decide +kernel
theorem dX1_sweepDown_44 : decode cX1_sweepDown 44 = .ok (.iload_n 2, 1) := by decide +kernel
theorem dX1_sweepDown_45 : decode cX1_sweepDown 45 = .ok (.ifCond .le 11, 3) := by decide +kernel
theorem dX1_sweepDown_48 : decode cX1_sweepDown 48 = .ok (.aload_n 0, 1) := by decide +kernel
theorem dX1_sweepDown_49 : decode cX1_sweepDown 49 = .ok (.iload_n 3, 1) := by decide +kernel
theorem dX1_sweepDown_50 : decode cX1_sweepDown 50 = .ok (.iload_n 3, 1) := by decide +kernel
theorem dX1_sweepDown_51 : decode cX1_sweepDown 51 = .ok (.iconst 1, 1) := by decide +kernel
theorem dX1_sweepDown_52 : decode cX1_sweepDown 52 = .ok (.isub, 1) := by decide +kernel
theorem dX1_sweepDown_53 : decode cX1_sweepDown 53 = .ok (.invokevirtual 64, 3) := by decide +kernel
theorem dX1_sweepDown_56 : decode cX1_sweepDown 56 = .ok (.iinc 2 1, 3) := by decide +kernel
theorem dX1_sweepDown_59 : decode cX1_sweepDown 59 = .ok (.goto (-47), 3) := by decide +kernel
theorem dX1_sweepDown_62 : decode cX1_sweepDown 62 = .ok (.iinc 1 1, 3) := by decide +kernel
theorem dX1_sweepDown_65 : decode cX1_sweepDown 65 = .ok (.goto (-63), 3) := by decide +kernel
theorem dX1_sweepDown_68 : decode cX1_sweepDown 68 = .ok (.return_, 1) := by decide +kernel
set_option maxRecDepth 20000 in
theorem ggX1_sweepUp_X1_narrow : GoodIn wsX1_sweepUp wsX1_narrow := goodIn_r _ [7, 8, 9, 10, 11, 12, 13, 14, 15, 16, 17, 18, 19, 20, 21, 22, 23, 24] (by decide +kernel) (by decide +kernel)
set_option maxRecDepth 20000 in
theorem gX1_sweepUp_X1_narrow : GoodIn wsX1_sweepUp (wsV RX1 64 RX1 yX1_narrow wsX1_narrow) := goodIn_app (goodIn_of _ (by decide +kernel)) ggX1_sweepUp_X1_narrow
theorem dX1_sweepUp_0 : decode cX1_sweepUp 0 = .ok (.aload_n 0, 1) := by decide +kernel
theorem dX1_sweepUp_1 : decode cX1_sweepUp 1 = .ok (.getfield 15, 3) := by decide +kernel
theorem dX1_sweepUp_4 : decode cX1_sweepUp 4 = .ok (.iconst 1, 1) := by decide +kernel
theorem dX1_sweepUp_5 : decode cX1_sweepUp 5 = .ok (.isub, 1) := by decide +kernel
theorem dX1_sweepUp_6 : decode cX1_sweepUp 6 = .ok (.istore_n 1, 1) := by decide +kernel
theorem dX1_sweepUp_7 : decode cX1_sweepUp 7 = .ok (.iload_n 1, 1) := by decide +kernel
theorem dX1_sweepUp_8 : decode cX1_sweepUp 8 = .ok (.ifCond .lt 74, 3) := by decide +kernel
theorem dX1_sweepUp_11 : decode cX1_sweepUp 11 = .ok (.aload_n 0, 1) := by decide +kernel
theorem dX1_sweepUp_12 : decode cX1_sweepUp 12 = .ok (.getfield 18, 3) := by decide +kernel
theorem dX1_sweepUp_15 : decode cX1_sweepUp 15 = .ok (.iconst 1, 1) := by decide +kernel
theorem dX1_sweepUp_16 : decode cX1_sweepUp 16 = .ok (.isub, 1) := by decide +kernel
theorem dX1_sweepUp_17 : decode cX1_sweepUp 17 = .ok (.istore_n 2, 1) := by decide +kernel
theorem dX1_sweepUp_18 : decode cX1_sweepUp 18 = .ok (.iload_n 2, 1) := by decide +kernel
theorem dX1_sweepUp_19 : decode cX1_sweepUp 19 = .ok (.ifCond .lt 57, 3) := by decide +kernel
theorem dX1_sweepUp_22 : decode cX1_sweepUp 22 = .ok (.iload_n 1, 1) := by decide +kernel
theorem dX1_sweepUp_23 : decode cX1_sweepUp 23 = .ok (.aload_n 0, 1) := by decide +kernel
theorem dX1_sweepUp_24 : decode cX1_sweepUp 24 = .ok (.getfield 18, 3) := by decide +kernel
theorem dX1_sweepUp_27 : decode cX1_sweepUp 27 = .ok (.imul, 1) := by decide +kernel
theorem dX1_sweepUp_28 : decode cX1_sweepUp 28 = .ok (.iload_n 2, 1) := by decide +kernel
theorem dX1_sweepUp_29 : decode cX1_sweepUp 29 = .ok (.iadd, 1) := by decide +kernel
theorem dX1_sweepUp_30 : decode cX1_sweepUp 30 = .ok (.istore_n 3, 1) := by decide +kernel
theorem dX1_sweepUp_31 : decode cX1_sweepUp 31 = .ok (.iload_n 1, 1) := by decide +kernel
theorem dX1_sweepUp_32 : decode cX1_sweepUp 32 = .ok (.aload_n 0, 1) := by decide +kernel
theorem dX1_sweepUp_33 : decode cX1_sweepUp 33 = .ok (.getfield 15, 3) := by decide +kernel
theorem dX1_sweepUp_36 : decode cX1_sweepUp 36 = .ok (.iconst 1, 1) := by decide +kernel
theorem dX1_sweepUp_37 : decode cX1_sweepUp 37 = .ok (.isub, 1) := by decide +kernel
theorem dX1_sweepUp_38 : decode cX1_sweepUp 38 = .ok (.if_icmp .ge 14, 3) := by decide +kernel
theorem dX1_sweepUp_41 : decode cX1_sweepUp 41 = .ok (.aload_n 0, 1) := by decide +kernel
theorem dX1_sweepUp_42 : decode cX1_sweepUp 42 = .ok (.iload_n 3, 1) := by decide +kernel
theorem dX1_sweepUp_43 : decode cX1_sweepUp 43 = .ok (.iload_n 3, 1) := by decide +kernel
theorem dX1_sweepUp_44 : decode cX1_sweepUp 44 = .ok (.aload_n 0, 1) := by decide +kernel
theorem dX1_sweepUp_45 : decode cX1_sweepUp 45 = .ok (.getfield 18, 3) := by decide +kernel
theorem dX1_sweepUp_48 : decode cX1_sweepUp 48 = .ok (.iadd, 1) := by decide +kernel
theorem dX1_sweepUp_49 : decode cX1_sweepUp 49 = .ok (.invokevirtual 64, 3) := by decide +kernel
theorem dX1_sweepUp_52 : decode cX1_sweepUp 52 = .ok (.iload_n 2, 1) := by decide +kernel
theorem dX1_sweepUp_53 : decode cX1_sweepUp 53 = .ok (.aload_n 0, 1) := by decide +kernel
theorem dX1_sweepUp_54 : decode cX1_sweepUp 54 = .ok (.getfield 18, 3) := by decide +kernel
theorem dX1_sweepUp_57 : decode cX1_sweepUp 57 = .ok (.iconst 1, 1) := by decide +kernel
theorem dX1_sweepUp_58 : decode cX1_sweepUp 58 = .ok (.isub, 1) := by decide +kernel
theorem dX1_sweepUp_59 : decode cX1_sweepUp 59 = .ok (.if_icmp .ge 11, 3) := by decide +kernel
theorem dX1_sweepUp_62 : decode cX1_sweepUp 62 = .ok (.aload_n 0, 1) := by decide +kernel
theorem dX1_sweepUp_63 : decode cX1_sweepUp 63 = .ok (.iload_n 3, 1) := by decide +kernel
theorem dX1_sweepUp_64 : decode cX1_sweepUp 64 = .ok (.iload_n 3, 1) := by decide +kernel
theorem dX1_sweepUp_65 : decode cX1_sweepUp 65 = .ok (.iconst 1, 1) := by decide +kernel
theorem dX1_sweepUp_66 : decode cX1_sweepUp 66 = .ok (.iadd, 1) := by decide +kernel
theorem dX1_sweepUp_67 : decode cX1_sweepUp 67 = .ok (.invokevirtual 64, 3) := by decide +kernel
theorem dX1_sweepUp_70 : decode cX1_sweepUp 70 = .ok (.iinc 2 (-1), 3) := by decide +kernel
theorem dX1_sweepUp_73 : decode cX1_sweepUp 73 = .ok (.goto (-55), 3) := by decide +kernel
theorem dX1_sweepUp_76 : decode cX1_sweepUp 76 = .ok (.iinc 1 (-1), 3) := by decide +kernel
theorem dX1_sweepUp_79 : decode cX1_sweepUp 79 = .ok (.goto (-72), 3) := by decide +kernel
theorem dX1_sweepUp_82 : decode cX1_sweepUp 82 = .ok (.return_, 1) := by decide +kernel
theorem dX1_narrow_0 : decode cX1_narrow 0 = .ok (.aload_n 0, 1) := by decide +kernel
theorem dX1_narrow_1 : decode cX1_narrow 1 = .ok (.getfield 28, 3) := by decide +kernel
theorem dX1_narrow_4 : decode cX1_narrow 4 = .ok (.iload_n 1, 1) := by decide +kernel
theorem dX1_narrow_5 : decode cX1_narrow 5 = .ok (.aload_n 0, 1) := by decide +kernel
theorem dX1_narrow_6 : decode cX1_narrow 6 = .ok (.getfield 28, 3) := by decide +kernel
theorem dX1_narrow_9 : decode cX1_narrow 9 = .ok (.iload_n 1, 1) := by decide +kernel
theorem dX1_narrow_10 : decode cX1_narrow 10 = .ok (.iaload, 1) := by decide +kernel
theorem dX1_narrow_11 : decode cX1_narrow 11 = .ok (.aload_n 0, 1) := by decide +kernel
theorem dX1_narrow_12 : decode cX1_narrow 12 = .ok (.getfield 28, 3) := by decide +kernel
theorem dX1_narrow_15 : decode cX1_narrow 15 = .ok (.iload_n 2, 1) := by decide +kernel
theorem dX1_narrow_16 : decode cX1_narrow 16 = .ok (.iaload, 1) := by decide +kernel
theorem dX1_narrow_17 : decode cX1_narrow 17 = .ok (.aload_n 0, 1) := by decide +kernel
theorem dX1_narrow_18 : decode cX1_narrow 18 = .ok (.getfield 11, 3) := by decide +kernel
theorem dX1_narrow_21 : decode cX1_narrow 21 = .ok (.isub, 1) := by decide +kernel
end
section
theorem dX1_narrow_22 : decode cX1_narrow 22 = .ok (.invokestatic 68, 3) := by decide +kernel
theorem dX1_narrow_25 : decode cX1_narrow 25 = .ok (.iastore, 1) := by decide +kernel
theorem dX1_narrow_26 : decode cX1_narrow 26 = .ok (.aload_n 0, 1) := by decide +kernel
theorem dX1_narrow_27 : decode cX1_narrow 27 = .ok (.getfield 31, 3) := by decide +kernel
theorem dX1_narrow_30 : decode cX1_narrow 30 = .ok (.iload_n 1, 1) := by decide +kernel
theorem dX1_narrow_31 : decode cX1_narrow 31 = .ok (.aload_n 0, 1) := by decide +kernel
theorem dX1_narrow_32 : decode cX1_narrow 32 = .ok (.getfield 31, 3) := by decide +kernel
theorem dX1_narrow_35 : decode cX1_narrow 35 = .ok (.iload_n 1, 1) := by decide +kernel
theorem dX1_narrow_36 : decode cX1_narrow 36 = .ok (.iaload, 1) := by decide +kernel
theorem dX1_narrow_37 : decode cX1_narrow 37 = .ok (.aload_n 0, 1) := by decide +kernel
theorem dX1_narrow_38 : decode cX1_narrow 38 = .ok (.getfield 31, 3) := by decide +kernel
theorem dX1_narrow_41 : decode cX1_narrow 41 = .ok (.iload_n 2, 1) := by decide +kernel
theorem dX1_narrow_42 : decode cX1_narrow 42 = .ok (.iaload, 1) := by decide +kernel
theorem dX1_narrow_43 : decode cX1_narrow 43 = .ok (.aload_n 0, 1) := by decide +kernel
theorem dX1_narrow_44 : decode cX1_narrow 44 = .ok (.getfield 11, 3) := by decide +kernel
theorem dX1_narrow_47 : decode cX1_narrow 47 = .ok (.iadd, 1) := by decide +kernel
theorem dX1_narrow_48 : decode cX1_narrow 48 = .ok (.invokestatic 73, 3) := by decide +kernel
theorem dX1_narrow_51 : decode cX1_narrow 51 = .ok (.iastore, 1) := by decide +kernel
theorem dX1_narrow_52 : decode cX1_narrow 52 = .ok (.return_, 1) := by decide +kernel
theorem dX1_closeToldSpans_0 : decode cX1_closeToldSpans 0 = .ok (.iconst 0, 1) := by decide +kernel
theorem dX1_closeToldSpans_1 : decode cX1_closeToldSpans 1 = .ok (.istore_n 1, 1) := by decide +kernel
theorem dX1_closeToldSpans_2 : decode cX1_closeToldSpans 2 = .ok (.iload_n 1, 1) := by decide +kernel
theorem dX1_closeToldSpans_3 : decode cX1_closeToldSpans 3 = .ok (.aload_n 0, 1) := by decide +kernel
theorem dX1_closeToldSpans_4 : decode cX1_closeToldSpans 4 = .ok (.getfield 25, 3) := by decide +kernel
theorem dX1_closeToldSpans_7 : decode cX1_closeToldSpans 7 = .ok (.arraylength, 1) := by decide +kernel
theorem dX1_closeToldSpans_8 : decode cX1_closeToldSpans 8 = .ok (.if_icmp .ge 43, 3) := by decide +kernel
theorem dX1_closeToldSpans_11 : decode cX1_closeToldSpans 11 = .ok (.aload_n 0, 1) := by decide +kernel
theorem dX1_closeToldSpans_12 : decode cX1_closeToldSpans 12 = .ok (.getfield 25, 3) := by decide +kernel
theorem dX1_closeToldSpans_15 : decode cX1_closeToldSpans 15 = .ok (.iload_n 1, 1) := by decide +kernel
theorem dX1_closeToldSpans_16 : decode cX1_closeToldSpans 16 = .ok (.iaload, 1) := by decide +kernel
theorem dX1_closeToldSpans_17 : decode cX1_closeToldSpans 17 = .ok (.iconst (-1), 1) := by decide +kernel
theorem dX1_closeToldSpans_18 : decode cX1_closeToldSpans 18 = .ok (.if_icmp .eq 27, 3) := by decide +kernel
theorem dX1_closeToldSpans_21 : decode cX1_closeToldSpans 21 = .ok (.aload_n 0, 1) := by decide +kernel
theorem dX1_closeToldSpans_22 : decode cX1_closeToldSpans 22 = .ok (.getfield 28, 3) := by decide +kernel
theorem dX1_closeToldSpans_25 : decode cX1_closeToldSpans 25 = .ok (.iload_n 1, 1) := by decide +kernel
theorem dX1_closeToldSpans_26 : decode cX1_closeToldSpans 26 = .ok (.aload_n 0, 1) := by decide +kernel
theorem dX1_closeToldSpans_27 : decode cX1_closeToldSpans 27 = .ok (.getfield 25, 3) := by decide +kernel
theorem dX1_closeToldSpans_30 : decode cX1_closeToldSpans 30 = .ok (.iload_n 1, 1) := by decide +kernel
theorem dX1_closeToldSpans_31 : decode cX1_closeToldSpans 31 = .ok (.iaload, 1) := by decide +kernel
theorem dX1_closeToldSpans_32 : decode cX1_closeToldSpans 32 = .ok (.iastore, 1) := by decide +kernel
theorem dX1_closeToldSpans_33 : decode cX1_closeToldSpans 33 = .ok (.aload_n 0, 1) := by decide +kernel
theorem dX1_closeToldSpans_34 : decode cX1_closeToldSpans 34 = .ok (.getfield 31, 3) := by decide +kernel
theorem dX1_closeToldSpans_37 : decode cX1_closeToldSpans 37 = .ok (.iload_n 1, 1) := by decide +kernel
theorem dX1_closeToldSpans_38 : decode cX1_closeToldSpans 38 = .ok (.aload_n 0, 1) := by decide +kernel
theorem dX1_closeToldSpans_39 : decode cX1_closeToldSpans 39 = .ok (.getfield 25, 3) := by decide +kernel
theorem dX1_closeToldSpans_42 : decode cX1_closeToldSpans 42 = .ok (.iload_n 1, 1) := by decide +kernel
theorem dX1_closeToldSpans_43 : decode cX1_closeToldSpans 43 = .ok (.iaload, 1) := by decide +kernel
theorem dX1_closeToldSpans_44 : decode cX1_closeToldSpans 44 = .ok (.iastore, 1) := by decide +kernel
theorem dX1_closeToldSpans_45 : decode cX1_closeToldSpans 45 = .ok (.iinc 1 1, 3) := by decide +kernel
theorem dX1_closeToldSpans_48 : decode cX1_closeToldSpans 48 = .ok (.goto (-46), 3) := by decide +kernel
theorem dX1_closeToldSpans_51 : decode cX1_closeToldSpans 51 = .ok (.return_, 1) := by decide +kernel
theorem dX2_init_0 : decode cX2_init 0 = .ok (.aload_n 0, 1) := by decide +kernel
theorem dX2_init_1 : decode cX2_init 1 = .ok (.invokespecial 3, 3) := by decide +kernel
theorem dX2_init_4 : decode cX2_init 4 = .ok (.aload_n 0, 1) := by decide +kernel
theorem dX2_init_5 : decode cX2_init 5 = .ok (.bipush 70, 2) := by decide +kernel
theorem dX2_init_7 : decode cX2_init 7 = .ok (.newarray .int, 2) := by decide +kernel
theorem dX2_init_9 : decode cX2_init 9 = .ok (.putfield 11, 3) := by decide +kernel
theorem dX2_init_12 : decode cX2_init 12 = .ok (.aload_n 0, 1) := by decide +kernel
theorem dX2_init_13 : decode cX2_init 13 = .ok (.bipush 10, 2) := by decide +kernel
theorem dX2_init_15 : decode cX2_init 15 = .ok (.newarray .int, 2) := by decide +kernel
theorem dX2_init_17 : decode cX2_init 17 = .ok (.putfield 15, 3) := by decide +kernel
theorem dX2_init_20 : decode cX2_init 20 = .ok (.aload_n 0, 1) := by decide +kernel
theorem dX2_init_21 : decode cX2_init 21 = .ok (.iconst 0, 1) := by decide +kernel
theorem dX2_init_22 : decode cX2_init 22 = .ok (.putfield 18, 3) := by decide +kernel
theorem dX2_init_25 : decode cX2_init 25 = .ok (.return_, 1) := by decide +kernel
set_option maxRecDepth 20000 in
theorem ggX2_usual_X7_within : GoodIn wsX2_usual wsX7_within := goodIn_r _ [4] (by decide +kernel) (by decide +kernel)
set_option maxRecDepth 20000 in
theorem gX2_usual_X7_within_n22 : GoodIn wsX2_usual (wsX7_within) := ggX2_usual_X7_within
theorem dX2_usual_0 : decode cX2_usual 0 = .ok (.iload_n 0, 1) := by decide +kernel
theorem dX2_usual_1 : decode cX2_usual 1 = .ok (.iconst 0, 1) := by decide +kernel
theorem dX2_usual_2 : decode cX2_usual 2 = .ok (.bipush 6, 2) := by decide +kernel
theorem dX2_usual_4 : decode cX2_usual 4 = .ok (.invokestatic 22, 3) := by decide +kernel
theorem dX2_usual_7 : decode cX2_usual 7 = .ok (.ifCond .eq 11, 3) := by decide +kernel
theorem dX2_usual_10 : decode cX2_usual 10 = .ok (.getstatic 26, 3) := by decide +kernel
theorem dX2_usual_13 : decode cX2_usual 13 = .ok (.iload_n 0, 1) := by decide +kernel
theorem dX2_usual_14 : decode cX2_usual 14 = .ok (.iaload, 1) := by decide +kernel
theorem dX2_usual_15 : decode cX2_usual 15 = .ok (.goto 4, 3) := by decide +kernel
theorem dX2_usual_18 : decode cX2_usual 18 = .ok (.iconst (-1), 1) := by decide +kernel
theorem dX2_usual_19 : decode cX2_usual 19 = .ok (.ireturn, 1) := by decide +kernel
theorem dX2_size_0 : decode cX2_size 0 = .ok (.aload_n 0, 1) := by decide +kernel
theorem dX2_size_1 : decode cX2_size 1 = .ok (.getfield 18, 3) := by decide +kernel
theorem dX2_size_4 : decode cX2_size 4 = .ok (.ireturn, 1) := by decide +kernel
theorem dX2_isFull_0 : decode cX2_isFull 0 = .ok (.aload_n 0, 1) := by decide +kernel
theorem dX2_isFull_1 : decode cX2_isFull 1 = .ok (.getfield 18, 3) := by decide +kernel
theorem dX2_isFull_4 : decode cX2_isFull 4 = .ok (.bipush 10, 2) := by decide +kernel
theorem dX2_isFull_6 : decode cX2_isFull 6 = .ok (.if_icmp .lt 7, 3) := by decide +kernel
theorem dX2_isFull_9 : decode cX2_isFull 9 = .ok (.iconst 1, 1) := by decide +kernel
theorem dX2_isFull_10 : decode cX2_isFull 10 = .ok (.goto 4, 3) := by decide +kernel
theorem dX2_isFull_13 : decode cX2_isFull 13 = .ok (.iconst 0, 1) := by decide +kernel
theorem dX2_isFull_14 : decode cX2_isFull 14 = .ok (.ireturn, 1) := by decide +kernel
set_option maxRecDepth 20000 in
theorem ggX2_take_X2_isFull : GoodIn wsX2_take wsX2_isFull := goodIn_r _ [8, 1, 18, 19, 20] (by decide +kernel) (by decide +kernel)
set_option maxRecDepth 20000 in
theorem gX2_take_X2_isFull : GoodIn wsX2_take (wsV RX2 29 RX2 yX2_isFull wsX2_isFull) := goodIn_app (goodIn_of _ (by decide +kernel)) ggX2_take_X2_isFull
set_option maxRecDepth 20000 in
theorem ggX2_take_X3_termRead : GoodIn wsX2_take wsX3_termRead := goodIn_r _ [13, 14, 15, 16, 17, 21, 22, 23, 24, 25, 26, 27] (by decide +kernel) (by decide +kernel)
set_option maxRecDepth 20000 in
theorem gX2_take_X3_termRead : GoodIn wsX2_take (wsV RX2 33 RX3 yX3_termRead wsX3_termRead) := goodIn_app (goodIn_of _ (by decide +kernel)) ggX2_take_X3_termRead
theorem dX2_take_0 : decode cX2_take 0 = .ok (.aload_n 0, 1) := by decide +kernel
theorem dX2_take_1 : decode cX2_take 1 = .ok (.invokevirtual 29, 3) := by decide +kernel
theorem dX2_take_4 : decode cX2_take 4 = .ok (.ifCond .eq 5, 3) := by decide +kernel
theorem dX2_take_7 : decode cX2_take 7 = .ok (.iconst (-1), 1) := by decide +kernel
theorem dX2_take_8 : decode cX2_take 8 = .ok (.ireturn, 1) := by decide +kernel
theorem dX2_take_9 : decode cX2_take 9 = .ok (.aload_n 0, 1) := by decide +kernel
theorem dX2_take_10 : decode cX2_take 10 = .ok (.getfield 18, 3) := by decide +kernel
theorem dX2_take_13 : decode cX2_take 13 = .ok (.istore_n 3, 1) := by decide +kernel
theorem dX2_take_14 : decode cX2_take 14 = .ok (.iconst 0, 1) := by decide +kernel
theorem dX2_take_15 : decode cX2_take 15 = .ok (.istore 4, 2) := by decide +kernel
theorem dX2_take_17 : decode cX2_take 17 = .ok (.iload 4, 2) := by decide +kernel
theorem dX2_take_19 : decode cX2_take 19 = .ok (.bipush 7, 2) := by decide +kernel
theorem dX2_take_21 : decode cX2_take 21 = .ok (.if_icmp .ge 27, 3) := by decide +kernel
theorem dX2_take_24 : decode cX2_take 24 = .ok (.aload_n 0, 1) := by decide +kernel
theorem dX2_take_25 : decode cX2_take 25 = .ok (.getfield 11, 3) := by decide +kernel
theorem dX2_take_28 : decode cX2_take 28 = .ok (.iload_n 3, 1) := by decide +kernel
theorem dX2_take_29 : decode cX2_take 29 = .ok (.bipush 7, 2) := by decide +kernel
theorem dX2_take_31 : decode cX2_take 31 = .ok (.imul, 1) := by decide +kernel
theorem dX2_take_32 : decode cX2_take 32 = .ok (.iload 4, 2) := by decide +kernel
theorem dX2_take_34 : decode cX2_take 34 = .ok (.iadd, 1) := by decide +kernel
theorem dX2_take_35 : decode cX2_take 35 = .ok (.aload_n 1, 1) := by decide +kernel
theorem dX2_take_36 : decode cX2_take 36 = .ok (.iload 4, 2) := by decide +kernel
theorem dX2_take_38 : decode cX2_take 38 = .ok (.invokevirtual 33, 3) := by decide +kernel
theorem dX2_take_41 : decode cX2_take 41 = .ok (.iastore, 1) := by decide +kernel
theorem dX2_take_42 : decode cX2_take 42 = .ok (.iinc 4 1, 3) := by decide +kernel
theorem dX2_take_45 : decode cX2_take 45 = .ok (.goto (-28), 3) := by decide +kernel
theorem dX2_take_48 : decode cX2_take 48 = .ok (.aload_n 0, 1) := by decide +kernel
theorem dX2_take_49 : decode cX2_take 49 = .ok (.getfield 15, 3) := by decide +kernel
theorem dX2_take_52 : decode cX2_take 52 = .ok (.iload_n 3, 1) := by decide +kernel
theorem dX2_take_53 : decode cX2_take 53 = .ok (.iload_n 2, 1) := by decide +kernel
theorem dX2_take_54 : decode cX2_take 54 = .ok (.iastore, 1) := by decide +kernel
theorem dX2_take_55 : decode cX2_take 55 = .ok (.aload_n 0, 1) := by decide +kernel
theorem dX2_take_56 : decode cX2_take 56 = .ok (.dup, 1) := by decide +kernel
theorem dX2_take_57 : decode cX2_take 57 = .ok (.getfield 18, 3) := by decide +kernel
theorem dX2_take_60 : decode cX2_take 60 = .ok (.iconst 1, 1) := by decide +kernel
theorem dX2_take_61 : decode cX2_take 61 = .ok (.iadd, 1) := by decide +kernel
theorem dX2_take_62 : decode cX2_take 62 = .ok (.putfield 18, 3) := by decide +kernel
theorem dX2_take_65 : decode cX2_take 65 = .ok (.iload_n 3, 1) := by decide +kernel
theorem dX2_take_66 : decode cX2_take 66 = .ok (.ireturn, 1) := by decide +kernel
theorem dX2_inForce_0 : decode cX2_inForce 0 = .ok (.aload_n 0, 1) := by decide +kernel
theorem dX2_inForce_1 : decode cX2_inForce 1 = .ok (.getfield 18, 3) := by decide +kernel
theorem dX2_inForce_4 : decode cX2_inForce 4 = .ok (.iconst 1, 1) := by decide +kernel
theorem dX2_inForce_5 : decode cX2_inForce 5 = .ok (.isub, 1) := by decide +kernel
theorem dX2_inForce_6 : decode cX2_inForce 6 = .ok (.istore_n 2, 1) := by decide +kernel
theorem dX2_inForce_7 : decode cX2_inForce 7 = .ok (.iload_n 2, 1) := by decide +kernel
theorem dX2_inForce_8 : decode cX2_inForce 8 = .ok (.ifCond .lt 21, 3) := by decide +kernel
theorem dX2_inForce_11 : decode cX2_inForce 11 = .ok (.aload_n 0, 1) := by decide +kernel
theorem dX2_inForce_12 : decode cX2_inForce 12 = .ok (.getfield 15, 3) := by decide +kernel
theorem dX2_inForce_15 : decode cX2_inForce 15 = .ok (.iload_n 2, 1) := by decide +kernel
theorem dX2_inForce_16 : decode cX2_inForce 16 = .ok (.iaload, 1) := by decide +kernel
theorem dX2_inForce_17 : decode cX2_inForce 17 = .ok (.iload_n 1, 1) := by decide +kernel
theorem dX2_inForce_18 : decode cX2_inForce 18 = .ok (.if_icmp .gt 5, 3) := by decide +kernel
theorem dX2_inForce_21 : decode cX2_inForce 21 = .ok (.iload_n 2, 1) := by decide +kernel
theorem dX2_inForce_22 : decode cX2_inForce 22 = .ok (.ireturn, 1) := by decide +kernel
theorem dX2_inForce_23 : decode cX2_inForce 23 = .ok (.iinc 2 (-1), 3) := by decide +kernel
theorem dX2_inForce_26 : decode cX2_inForce 26 = .ok (.goto (-19), 3) := by decide +kernel
theorem dX2_inForce_29 : decode cX2_inForce 29 = .ok (.iconst (-1), 1) := by decide +kernel
theorem dX2_inForce_30 : decode cX2_inForce 30 = .ok (.ireturn, 1) := by decide +kernel
set_option maxRecDepth 20000 in
theorem ggX2_term_X2_inForce : GoodIn wsX2_term wsX2_inForce := goodIn_r _ [6, 7, 8, 16, 17, 18] (by decide +kernel) (by decide +kernel)
set_option maxRecDepth 20000 in
theorem gX2_term_X2_inForce : GoodIn wsX2_term (wsV RX2 39 RX2 yX2_inForce wsX2_inForce) := goodIn_app (goodIn_of _ (by decide +kernel)) ggX2_term_X2_inForce
set_option maxRecDepth 20000 in
theorem ggX2_term_X7_within : GoodIn wsX2_term wsX7_within := goodIn_r _ [11] (by decide +kernel) (by decide +kernel)
set_option maxRecDepth 20000 in
theorem gX2_term_X7_within_n22 : GoodIn wsX2_term (wsX7_within) := ggX2_term_X7_within
set_option maxRecDepth 20000 in
theorem ggX2_term_X2_usual : GoodIn wsX2_term wsX2_usual := goodIn_r _ [14, 15, 9, 10, 11] (by decide +kernel) (by decide +kernel)
set_option maxRecDepth 20000 in
theorem gX2_term_X2_usual : GoodIn wsX2_term (va_wsS RX2 42 yX2_usual wsX2_usual) := goodIn_app (goodIn_of _ (by decide +kernel)) ggX2_term_X2_usual
theorem dX2_term_0 : decode cX2_term 0 = .ok (.aload_n 0, 1) := by decide +kernel
theorem dX2_term_1 : decode cX2_term 1 = .ok (.iload_n 1, 1) := by decide +kernel
theorem dX2_term_2 : decode cX2_term 2 = .ok (.invokevirtual 39, 3) := by decide +kernel
theorem dX2_term_5 : decode cX2_term 5 = .ok (.istore_n 3, 1) := by decide +kernel
theorem dX2_term_6 : decode cX2_term 6 = .ok (.iload_n 3, 1) := by decide +kernel
theorem dX2_term_7 : decode cX2_term 7 = .ok (.iconst (-1), 1) := by decide +kernel
theorem dX2_term_8 : decode cX2_term 8 = .ok (.if_icmp .eq 13, 3) := by decide +kernel
theorem dX2_term_11 : decode cX2_term 11 = .ok (.iload_n 2, 1) := by decide +kernel
theorem dX2_term_12 : decode cX2_term 12 = .ok (.iconst 0, 1) := by decide +kernel
theorem dX2_term_13 : decode cX2_term 13 = .ok (.bipush 6, 2) := by decide +kernel
theorem dX2_term_15 : decode cX2_term 15 = .ok (.invokestatic 22, 3) := by decide +kernel
theorem dX2_term_18 : decode cX2_term 18 = .ok (.ifCond .ne 8, 3) := by decide +kernel
theorem dX2_term_21 : decode cX2_term 21 = .ok (.iload_n 2, 1) := by decide +kernel
theorem dX2_term_22 : decode cX2_term 22 = .ok (.invokestatic 42, 3) := by decide +kernel
theorem dX2_term_25 : decode cX2_term 25 = .ok (.ireturn, 1) := by decide +kernel
theorem dX2_term_26 : decode cX2_term 26 = .ok (.aload_n 0, 1) := by decide +kernel
theorem dX2_term_27 : decode cX2_term 27 = .ok (.getfield 11, 3) := by decide +kernel
theorem dX2_term_30 : decode cX2_term 30 = .ok (.iload_n 3, 1) := by decide +kernel
theorem dX2_term_31 : decode cX2_term 31 = .ok (.bipush 7, 2) := by decide +kernel
theorem dX2_term_33 : decode cX2_term 33 = .ok (.imul, 1) := by decide +kernel
theorem dX2_term_34 : decode cX2_term 34 = .ok (.iload_n 2, 1) := by decide +kernel
theorem dX2_term_35 : decode cX2_term 35 = .ok (.iadd, 1) := by decide +kernel
theorem dX2_term_36 : decode cX2_term 36 = .ok (.iaload, 1) := by decide +kernel
theorem dX2_term_37 : decode cX2_term 37 = .ok (.ireturn, 1) := by decide +kernel
theorem dX3_init_0 : decode cX3_init 0 = .ok (.aload_n 0, 1) := by decide +kernel
theorem dX3_init_1 : decode cX3_init 1 = .ok (.invokespecial 3, 3) := by decide +kernel
theorem dX3_init_4 : decode cX3_init 4 = .ok (.aload_n 0, 1) := by decide +kernel
theorem dX3_init_5 : decode cX3_init 5 = .ok (.sipush 300, 3) := by decide +kernel
theorem dX3_init_8 : decode cX3_init 8 = .ok (.newarray .int, 2) := by decide +kernel
theorem dX3_init_10 : decode cX3_init 10 = .ok (.putfield 11, 3) := by decide +kernel
theorem dX3_init_13 : decode cX3_init 13 = .ok (.aload_n 0, 1) := by decide +kernel
theorem dX3_init_14 : decode cX3_init 14 = .ok (.bipush 7, 2) := by decide +kernel
theorem dX3_init_16 : decode cX3_init 16 = .ok (.newarray .int, 2) := by decide +kernel
theorem dX3_init_18 : decode cX3_init 18 = .ok (.putfield 17, 3) := by decide +kernel
theorem dX3_init_21 : decode cX3_init 21 = .ok (.aload_n 0, 1) := by decide +kernel
theorem dX3_init_22 : decode cX3_init 22 = .ok (.iconst 0, 1) := by decide +kernel
theorem dX3_init_23 : decode cX3_init 23 = .ok (.putfield 20, 3) := by decide +kernel
theorem dX3_init_26 : decode cX3_init 26 = .ok (.aload_n 0, 1) := by decide +kernel
theorem dX3_init_27 : decode cX3_init 27 = .ok (.iconst 0, 1) := by decide +kernel
theorem dX3_init_28 : decode cX3_init 28 = .ok (.putfield 24, 3) := by decide +kernel
theorem dX3_init_31 : decode cX3_init 31 = .ok (.aload_n 0, 1) := by decide +kernel
theorem dX3_init_32 : decode cX3_init 32 = .ok (.iconst 0, 1) := by decide +kernel
theorem dX3_init_33 : decode cX3_init 33 = .ok (.putfield 27, 3) := by decide +kernel
theorem dX3_init_36 : decode cX3_init 36 = .ok (.aload_n 0, 1) := by decide +kernel
theorem dX3_init_37 : decode cX3_init 37 = .ok (.iconst 0, 1) := by decide +kernel
theorem dX3_init_38 : decode cX3_init 38 = .ok (.putfield 30, 3) := by decide +kernel
theorem dX3_init_41 : decode cX3_init 41 = .ok (.aload_n 0, 1) := by decide +kernel
theorem dX3_init_42 : decode cX3_init 42 = .ok (.iconst 0, 1) := by decide +kernel
theorem dX3_init_43 : decode cX3_init 43 = .ok (.putfield 33, 3) := by decide +kernel
theorem dX3_init_46 : decode cX3_init 46 = .ok (.return_, 1) := by decide +kernel
theorem dX3_size_0 : decode cX3_size 0 = .ok (.aload_n 0, 1) := by decide +kernel
theorem dX3_size_1 : decode cX3_size 1 = .ok (.getfield 20, 3) := by decide +kernel
theorem dX3_size_4 : decode cX3_size 4 = .ok (.ireturn, 1) := by decide +kernel
theorem dX3_hasRoom_0 : decode cX3_hasRoom 0 = .ok (.aload_n 0, 1) := by decide +kernel
theorem dX3_hasRoom_1 : decode cX3_hasRoom 1 = .ok (.getfield 20, 3) := by decide +kernel
theorem dX3_hasRoom_4 : decode cX3_hasRoom 4 = .ok (.bipush 20, 2) := by decide +kernel
theorem dX3_hasRoom_6 : decode cX3_hasRoom 6 = .ok (.iadd, 1) := by decide +kernel
theorem dX3_hasRoom_7 : decode cX3_hasRoom 7 = .ok (.sipush 300, 3) := by decide +kernel
theorem dX3_hasRoom_10 : decode cX3_hasRoom 10 = .ok (.if_icmp .gt 7, 3) := by decide +kernel
theorem dX3_hasRoom_13 : decode cX3_hasRoom 13 = .ok (.iconst 1, 1) := by decide +kernel
theorem dX3_hasRoom_14 : decode cX3_hasRoom 14 = .ok (.goto 4, 3) := by decide +kernel
theorem dX3_hasRoom_17 : decode cX3_hasRoom 17 = .ok (.iconst 0, 1) := by decide +kernel
theorem dX3_hasRoom_18 : decode cX3_hasRoom 18 = .ok (.ireturn, 1) := by decide +kernel
theorem dX3_append_0 : decode cX3_append 0 = .ok (.bipush 24, 2) := by decide +kernel
theorem dX3_append_2 : decode cX3_append 2 = .ok (.istore_n 2, 1) := by decide +kernel
theorem dX3_append_3 : decode cX3_append 3 = .ok (.iload_n 2, 1) := by decide +kernel
theorem dX3_append_4 : decode cX3_append 4 = .ok (.ifCond .lt 45, 3) := by decide +kernel
theorem dX3_append_7 : decode cX3_append 7 = .ok (.aload_n 0, 1) := by decide +kernel
theorem dX3_append_8 : decode cX3_append 8 = .ok (.getfield 20, 3) := by decide +kernel
theorem dX3_append_11 : decode cX3_append 11 = .ok (.sipush 300, 3) := by decide +kernel
theorem dX3_append_14 : decode cX3_append 14 = .ok (.if_icmp .ge 35, 3) := by decide +kernel
theorem dX3_append_17 : decode cX3_append 17 = .ok (.aload_n 0, 1) := by decide +kernel
theorem dX3_append_18 : decode cX3_append 18 = .ok (.getfield 11, 3) := by decide +kernel
theorem dX3_append_21 : decode cX3_append 21 = .ok (.aload_n 0, 1) := by decide +kernel
theorem dX3_append_22 : decode cX3_append 22 = .ok (.getfield 20, 3) := by decide +kernel
theorem dX3_append_25 : decode cX3_append 25 = .ok (.iload_n 1, 1) := by decide +kernel
theorem dX3_append_26 : decode cX3_append 26 = .ok (.iload_n 2, 1) := by decide +kernel
theorem dX3_append_27 : decode cX3_append 27 = .ok (.iushr, 1) := by decide +kernel
theorem dX3_append_28 : decode cX3_append 28 = .ok (.sipush 255, 3) := by decide +kernel
theorem dX3_append_31 : decode cX3_append 31 = .ok (.iand, 1) := by decide +kernel
theorem dX3_append_32 : decode cX3_append 32 = .ok (.iastore, 1) := by decide +kernel
theorem dX3_append_33 : decode cX3_append 33 = .ok (.aload_n 0, 1) := by decide +kernel
theorem dX3_append_34 : decode cX3_append 34 = .ok (.dup, 1) := by decide +kernel
theorem dX3_append_35 : decode cX3_append 35 = .ok (.getfield 20, 3) := by decide +kernel
theorem dX3_append_38 : decode cX3_append 38 = .ok (.iconst 1, 1) := by decide +kernel
theorem dX3_append_39 : decode cX3_append 39 = .ok (.iadd, 1) := by decide +kernel
theorem dX3_append_40 : decode cX3_append 40 = .ok (.putfield 20, 3) := by decide +kernel
theorem dX3_append_43 : decode cX3_append 43 = .ok (.iinc 2 (-8), 3) := by decide +kernel
theorem dX3_append_46 : decode cX3_append 46 = .ok (.goto (-43), 3) := by decide +kernel
theorem dX3_append_49 : decode cX3_append 49 = .ok (.return_, 1) := by decide +kernel
set_option maxRecDepth 20000 in
theorem ggX3_termRead_X7_within : GoodIn wsX3_termRead wsX7_within := goodIn_r _ [4] (by decide +kernel) (by decide +kernel)
set_option maxRecDepth 20000 in
theorem gX3_termRead_X7_within_n36 : GoodIn wsX3_termRead (wsX7_within) := ggX3_termRead_X7_within
theorem dX3_termRead_0 : decode cX3_termRead 0 = .ok (.iload_n 1, 1) := by decide +kernel
theorem dX3_termRead_1 : decode cX3_termRead 1 = .ok (.iconst 0, 1) := by decide +kernel
theorem dX3_termRead_2 : decode cX3_termRead 2 = .ok (.aload_n 0, 1) := by decide +kernel
theorem dX3_termRead_3 : decode cX3_termRead 3 = .ok (.getfield 17, 3) := by decide +kernel
theorem dX3_termRead_6 : decode cX3_termRead 6 = .ok (.arraylength, 1) := by decide +kernel
theorem dX3_termRead_7 : decode cX3_termRead 7 = .ok (.iconst 1, 1) := by decide +kernel
theorem dX3_termRead_8 : decode cX3_termRead 8 = .ok (.isub, 1) := by decide +kernel
theorem dX3_termRead_9 : decode cX3_termRead 9 = .ok (.invokestatic 36, 3) := by decide +kernel
theorem dX3_termRead_12 : decode cX3_termRead 12 = .ok (.ifCond .eq 12, 3) := by decide +kernel
theorem dX3_termRead_15 : decode cX3_termRead 15 = .ok (.aload_n 0, 1) := by decide +kernel
theorem dX3_termRead_16 : decode cX3_termRead 16 = .ok (.getfield 17, 3) := by decide +kernel
theorem dX3_termRead_19 : decode cX3_termRead 19 = .ok (.iload_n 1, 1) := by decide +kernel
theorem dX3_termRead_20 : decode cX3_termRead 20 = .ok (.iaload, 1) := by decide +kernel
theorem dX3_termRead_21 : decode cX3_termRead 21 = .ok (.goto 4, 3) := by decide +kernel
theorem dX3_termRead_24 : decode cX3_termRead 24 = .ok (.iconst (-1), 1) := by decide +kernel
theorem dX3_termRead_25 : decode cX3_termRead 25 = .ok (.ireturn, 1) := by decide +kernel
set_option maxRecDepth 20000 in
theorem ggX3_read_X2_usual : GoodIn wsX3_read wsX2_usual := goodIn_r _ [17, 18, 19, 20, 21] (by decide +kernel) (by decide +kernel)
set_option maxRecDepth 20000 in
theorem gX3_read_X2_usual : GoodIn wsX3_read (va_wsS RX3 49 yX2_usual wsX2_usual) := goodIn_app (goodIn_of _ (by decide +kernel)) ggX3_read_X2_usual
set_option maxRecDepth 20000 in
theorem ggX3_read_X3_scan : GoodIn wsX3_read wsX3_scan := goodIn_r _ [26, 10, 13, 9, 27, 12, 28, 29, 25, 30, 31, 32, 33, 19, 20, 21, 103, 104, 105, 106, 107, 108, 109] (by decide +kernel) (by decide +kernel)
set_option maxRecDepth 20000 in
theorem gX3_read_X3_scan : GoodIn wsX3_read (wsV RX3 53 RX3 yX3_scan wsX3_scan) := goodIn_app (goodIn_of _ (by decide +kernel)) ggX3_read_X3_scan
set_option maxRecDepth 20000 in
theorem ggX3_read_X3_readStatement : GoodIn wsX3_read wsX3_readStatement := goodIn_r _ [37, 12, 38, 39, 40, 25, 41, 42, 43, 44, 45, 10, 13, 27, 46, 47, 48, 49, 50, 51, 52, 53, 54, 55, 56, 57, 58, 59, 60, 61, 62, 63, 64, 65, 66, 67, 68, 69, 70, 71, 72, 73, 74, 75, 76, 77, 78, 79, 80, 81, 82, 83, 84, 85, 86, 87, 88, 89, 90, 91, 92, 93, 94, 95, 96, 97, 98, 11, 22, 23, 24, 26, 9, 28, 29, 30, 31, 32, 33, 19, 20, 21, 99, 100, 101, 102, 103, 104, 105, 106, 107, 108, 109] (by decide +kernel) (by decide +kernel)
set_option maxRecDepth 20000 in
theorem gX3_read_X3_readStatement : GoodIn wsX3_read (wsV RX3 56 RX3 yX3_readStatement wsX3_readStatement) := goodIn_app (goodIn_of _ (by decide +kernel)) ggX3_read_X3_readStatement
theorem dX3_read_0 : decode cX3_read 0 = .ok (.aload_n 0, 1) := by decide +kernel
theorem dX3_read_1 : decode cX3_read 1 = .ok (.iconst 0, 1) := by decide +kernel
theorem dX3_read_2 : decode cX3_read 2 = .ok (.aload_n 0, 1) := by decide +kernel
theorem dX3_read_3 : decode cX3_read 3 = .ok (.getfield 20, 3) := by decide +kernel
theorem dX3_read_6 : decode cX3_read 6 = .ok (.iload_n 1, 1) := by decide +kernel
theorem dX3_read_7 : decode cX3_read 7 = .ok (.invokestatic 40, 3) := by decide +kernel
theorem dX3_read_10 : decode cX3_read 10 = .ok (.invokestatic 46, 3) := by decide +kernel
theorem dX3_read_13 : decode cX3_read 13 = .ok (.putfield 24, 3) := by decide +kernel
theorem dX3_read_16 : decode cX3_read 16 = .ok (.aload_n 0, 1) := by decide +kernel
theorem dX3_read_17 : decode cX3_read 17 = .ok (.iconst 0, 1) := by decide +kernel
theorem dX3_read_18 : decode cX3_read 18 = .ok (.putfield 20, 3) := by decide +kernel
theorem dX3_read_21 : decode cX3_read 21 = .ok (.aload_n 0, 1) := by decide +kernel
theorem dX3_read_22 : decode cX3_read 22 = .ok (.iconst 0, 1) := by decide +kernel
theorem dX3_read_23 : decode cX3_read 23 = .ok (.putfield 33, 3) := by decide +kernel
theorem dX3_read_26 : decode cX3_read 26 = .ok (.iconst 0, 1) := by decide +kernel
theorem dX3_read_27 : decode cX3_read 27 = .ok (.istore_n 2, 1) := by decide +kernel
theorem dX3_read_28 : decode cX3_read 28 = .ok (.iload_n 2, 1) := by decide +kernel
theorem dX3_read_29 : decode cX3_read 29 = .ok (.aload_n 0, 1) := by decide +kernel
theorem dX3_read_30 : decode cX3_read 30 = .ok (.getfield 17, 3) := by decide +kernel
theorem dX3_read_33 : decode cX3_read 33 = .ok (.arraylength, 1) := by decide +kernel
theorem dX3_read_34 : decode cX3_read 34 = .ok (.if_icmp .ge 19, 3) := by decide +kernel
theorem dX3_read_37 : decode cX3_read 37 = .ok (.aload_n 0, 1) := by decide +kernel
theorem dX3_read_38 : decode cX3_read 38 = .ok (.getfield 17, 3) := by decide +kernel
theorem dX3_read_41 : decode cX3_read 41 = .ok (.iload_n 2, 1) := by decide +kernel
theorem dX3_read_42 : decode cX3_read 42 = .ok (.iload_n 2, 1) := by decide +kernel
theorem dX3_read_43 : decode cX3_read 43 = .ok (.invokestatic 49, 3) := by decide +kernel
theorem dX3_read_46 : decode cX3_read 46 = .ok (.iastore, 1) := by decide +kernel
theorem dX3_read_47 : decode cX3_read 47 = .ok (.iinc 2 1, 3) := by decide +kernel
theorem dX3_read_50 : decode cX3_read 50 = .ok (.goto (-22), 3) := by decide +kernel
theorem dX3_read_53 : decode cX3_read 53 = .ok (.iconst 0, 1) := by decide +kernel
theorem dX3_read_54 : decode cX3_read 54 = .ok (.istore_n 2, 1) := by decide +kernel
theorem dX3_read_55 : decode cX3_read 55 = .ok (.iload_n 2, 1) := by decide +kernel
theorem dX3_read_56 : decode cX3_read 56 = .ok (.bipush 12, 2) := by decide +kernel
theorem dX3_read_58 : decode cX3_read 58 = .ok (.if_icmp .ge 34, 3) := by decide +kernel
theorem dX3_read_61 : decode cX3_read 61 = .ok (.aload_n 0, 1) := by decide +kernel
theorem dX3_read_62 : decode cX3_read 62 = .ok (.invokevirtual 53, 3) := by decide +kernel
theorem dX3_read_65 : decode cX3_read 65 = .ok (.aload_n 0, 1) := by decide +kernel
theorem dX3_read_66 : decode cX3_read 66 = .ok (.getfield 27, 3) := by decide +kernel
theorem dX3_read_69 : decode cX3_read 69 = .ok (.ifCond .ne 5, 3) := by decide +kernel
theorem dX3_read_72 : decode cX3_read 72 = .ok (.iconst (-1), 1) := by decide +kernel
theorem dX3_read_73 : decode cX3_read 73 = .ok (.ireturn, 1) := by decide +kernel
theorem dX3_read_74 : decode cX3_read 74 = .ok (.aload_n 0, 1) := by decide +kernel
theorem dX3_read_75 : decode cX3_read 75 = .ok (.invokevirtual 56, 3) := by decide +kernel
theorem dX3_read_78 : decode cX3_read 78 = .ok (.ifCond .ne 8, 3) := by decide +kernel
theorem dX3_read_81 : decode cX3_read 81 = .ok (.aload_n 0, 1) := by decide +kernel
theorem dX3_read_82 : decode cX3_read 82 = .ok (.getfield 30, 3) := by decide +kernel
theorem dX3_read_85 : decode cX3_read 85 = .ok (.ireturn, 1) := by decide +kernel
theorem dX3_read_86 : decode cX3_read 86 = .ok (.iinc 2 1, 3) := by decide +kernel
theorem dX3_read_89 : decode cX3_read 89 = .ok (.goto (-34), 3) := by decide +kernel
theorem dX3_read_92 : decode cX3_read 92 = .ok (.aload_n 0, 1) := by decide +kernel
theorem dX3_read_93 : decode cX3_read 93 = .ok (.invokevirtual 53, 3) := by decide +kernel
theorem dX3_read_96 : decode cX3_read 96 = .ok (.aload_n 0, 1) := by decide +kernel
theorem dX3_read_97 : decode cX3_read 97 = .ok (.getfield 27, 3) := by decide +kernel
theorem dX3_read_100 : decode cX3_read 100 = .ok (.ifCond .ne 7, 3) := by decide +kernel
theorem dX3_read_103 : decode cX3_read 103 = .ok (.iconst (-1), 1) := by decide +kernel
theorem dX3_read_104 : decode cX3_read 104 = .ok (.goto 7, 3) := by decide +kernel
theorem dX3_read_107 : decode cX3_read 107 = .ok (.aload_n 0, 1) := by decide +kernel
theorem dX3_read_108 : decode cX3_read 108 = .ok (.getfield 30, 3) := by decide +kernel
theorem dX3_read_111 : decode cX3_read 111 = .ok (.ireturn, 1) := by decide +kernel
set_option maxRecDepth 20000 in
theorem ggX3_readStatement_X3_keyword : GoodIn wsX3_readStatement wsX3_keyword := goodIn_r _ [6, 7, 8, 9, 5, 10, 1, 11, 12, 13, 14, 15, 16, 17, 18, 19, 20, 21, 22, 23, 24, 25, 26, 27, 28, 29, 30, 31, 32, 33, 34, 35, 36, 37, 38, 39, 40, 41, 42, 43, 44, 45, 46, 47, 48, 49, 50, 51, 52, 53, 54, 55, 56, 57, 58, 59, 60, 61, 62, 86, 87, 88, 89, 90, 91, 92] (by decide +kernel) (by decide +kernel)
set_option maxRecDepth 20000 in
theorem gX3_readStatement_X3_keyword : GoodIn wsX3_readStatement (wsV RX3 60 RX3 yX3_keyword wsX3_keyword) := goodIn_app (goodIn_of _ (by decide +kernel)) ggX3_readStatement_X3_keyword
set_option maxRecDepth 20000 in
theorem ggX3_readStatement_X3_readNumber : GoodIn wsX3_readStatement wsX3_readNumber := goodIn_r _ [66, 1, 11, 12, 67, 13, 68, 69, 70, 5, 71, 72, 73, 74, 75, 76, 77, 78, 79, 80, 81, 86, 87, 88, 89, 90, 91, 92] (by decide +kernel) (by decide +kernel)
set_option maxRecDepth 20000 in
theorem gX3_readStatement_X3_readNumber : GoodIn wsX3_readStatement (wsV RX3 64 RX3 yX3_readNumber wsX3_readNumber) := goodIn_app (goodIn_of _ (by decide +kernel)) ggX3_readStatement_X3_readNumber
set_option maxRecDepth 20000 in
theorem ggX3_readStatement_X3_readGreatest : GoodIn wsX3_readStatement wsX3_readGreatest := goodIn_r _ [85, 68, 69, 70, 5, 71, 11, 12, 72, 13, 1, 73, 74, 75, 76, 77, 78, 79, 80, 81, 7, 8, 9, 10, 14, 15, 16, 17, 18, 19, 20, 21, 22, 23, 24, 25, 26, 27, 28, 29, 30, 31, 32, 33, 34, 35, 36, 37, 38, 39, 40, 41, 42, 43, 44, 45, 46, 47, 48, 49, 50, 51, 52, 53, 54, 55, 56, 57, 58, 59, 60, 61, 62, 63, 64, 65, 66, 67, 86, 87, 88, 89, 90, 91, 92] (by decide +kernel) (by decide +kernel)
set_option maxRecDepth 20000 in
theorem gX3_readStatement_X3_readGreatest : GoodIn wsX3_readStatement (wsV RX3 68 RX3 yX3_readGreatest wsX3_readGreatest) := goodIn_app (goodIn_of _ (by decide +kernel)) ggX3_readStatement_X3_readGreatest
set_option maxRecDepth 20000 in
theorem ggX3_readStatement_X3_scan : GoodIn wsX3_readStatement wsX3_scan := goodIn_r _ [71, 11, 12, 72, 13, 1, 73, 74, 5, 75, 76, 77, 78, 79, 80, 81, 86, 87, 88, 89, 90, 91, 92] (by decide +kernel) (by decide +kernel)
set_option maxRecDepth 20000 in
theorem gX3_readStatement_X3_scan : GoodIn wsX3_readStatement (wsV RX3 53 RX3 yX3_scan wsX3_scan) := goodIn_app (goodIn_of _ (by decide +kernel)) ggX3_readStatement_X3_scan
theorem dX3_readStatement_0 : decode cX3_readStatement 0 = .ok (.aload_n 0, 1) := by decide +kernel
theorem dX3_readStatement_1 : decode cX3_readStatement 1 = .ok (.invokevirtual 60, 3) := by decide +kernel
theorem dX3_readStatement_4 : decode cX3_readStatement 4 = .ok (.istore_n 1, 1) := by decide +kernel
theorem dX3_readStatement_5 : decode cX3_readStatement 5 = .ok (.iload_n 1, 1) := by decide +kernel
theorem dX3_readStatement_6 : decode cX3_readStatement 6 = .ok (.iconst (-1), 1) := by decide +kernel
theorem dX3_readStatement_7 : decode cX3_readStatement 7 = .ok (.if_icmp .eq 11, 3) := by decide +kernel
theorem dX3_readStatement_10 : decode cX3_readStatement 10 = .ok (.aload_n 0, 1) := by decide +kernel
theorem dX3_readStatement_11 : decode cX3_readStatement 11 = .ok (.iload_n 1, 1) := by decide +kernel
theorem dX3_readStatement_12 : decode cX3_readStatement 12 = .ok (.invokevirtual 64, 3) := by decide +kernel
theorem dX3_readStatement_15 : decode cX3_readStatement 15 = .ok (.ifCond .ne 5, 3) := by decide +kernel
theorem dX3_readStatement_18 : decode cX3_readStatement 18 = .ok (.iconst 0, 1) := by decide +kernel
theorem dX3_readStatement_19 : decode cX3_readStatement 19 = .ok (.ireturn, 1) := by decide +kernel
theorem dX3_readStatement_20 : decode cX3_readStatement 20 = .ok (.iload_n 1, 1) := by decide +kernel
theorem dX3_readStatement_21 : decode cX3_readStatement 21 = .ok (.ifCond .ne 12, 3) := by decide +kernel
theorem dX3_readStatement_24 : decode cX3_readStatement 24 = .ok (.aload_n 0, 1) := by decide +kernel
theorem dX3_readStatement_25 : decode cX3_readStatement 25 = .ok (.invokevirtual 68, 3) := by decide +kernel
theorem dX3_readStatement_28 : decode cX3_readStatement 28 = .ok (.ifCond .ne 5, 3) := by decide +kernel
theorem dX3_readStatement_31 : decode cX3_readStatement 31 = .ok (.iconst 0, 1) := by decide +kernel
theorem dX3_readStatement_32 : decode cX3_readStatement 32 = .ok (.ireturn, 1) := by decide +kernel
theorem dX3_readStatement_33 : decode cX3_readStatement 33 = .ok (.aload_n 0, 1) := by decide +kernel
theorem dX3_readStatement_34 : decode cX3_readStatement 34 = .ok (.invokevirtual 53, 3) := by decide +kernel
theorem dX3_readStatement_37 : decode cX3_readStatement 37 = .ok (.aload_n 0, 1) := by decide +kernel
theorem dX3_readStatement_38 : decode cX3_readStatement 38 = .ok (.getfield 27, 3) := by decide +kernel
theorem dX3_readStatement_41 : decode cX3_readStatement 41 = .ok (.iconst 3, 1) := by decide +kernel
theorem dX3_readStatement_42 : decode cX3_readStatement 42 = .ok (.if_icmp .ne 7, 3) := by decide +kernel
theorem dX3_readStatement_45 : decode cX3_readStatement 45 = .ok (.iconst 1, 1) := by decide +kernel
theorem dX3_readStatement_46 : decode cX3_readStatement 46 = .ok (.goto 4, 3) := by decide +kernel
theorem dX3_readStatement_49 : decode cX3_readStatement 49 = .ok (.iconst 0, 1) := by decide +kernel
theorem dX3_readStatement_50 : decode cX3_readStatement 50 = .ok (.ireturn, 1) := by decide +kernel
set_option maxRecDepth 20000 in
theorem ggX3_readGreatest_X3_scan : GoodIn wsX3_readGreatest wsX3_scan := goodIn_r _ [5, 6, 7, 8, 9, 10, 11, 12, 4, 13, 14, 15, 16, 17, 18, 19, 78, 79, 80, 81, 82, 83, 84] (by decide +kernel) (by decide +kernel)
set_option maxRecDepth 20000 in
theorem gX3_readGreatest_X3_scan : GoodIn wsX3_readGreatest (wsV RX3 53 RX3 yX3_scan wsX3_scan) := goodIn_app (goodIn_of _ (by decide +kernel)) ggX3_readGreatest_X3_scan
set_option maxRecDepth 20000 in
theorem ggX3_readGreatest_X3_isWord : GoodIn wsX3_readGreatest wsX3_isWord := goodIn_r _ [23, 10, 6, 7, 9, 24, 25, 26, 27, 28, 29, 30, 31, 32, 33, 34, 35, 36, 37, 38, 39, 40, 41, 42, 43, 44, 45, 46, 47, 48, 49, 50, 51, 52, 53, 54, 55, 56, 57, 58, 59, 60, 61, 62, 63, 64, 65, 66, 67, 68, 69, 70, 71, 72, 78, 79, 80, 81, 82, 83, 84] (by decide +kernel) (by decide +kernel)
set_option maxRecDepth 20000 in
theorem gX3_readGreatest_X3_isWord : GoodIn wsX3_readGreatest (wsV RX3 73 RX3 yX3_isWord wsX3_isWord) := goodIn_app (goodIn_of _ (by decide +kernel)) ggX3_readGreatest_X3_isWord
set_option maxRecDepth 20000 in
theorem ggX3_readGreatest_X3_readNumber : GoodIn wsX3_readGreatest wsX3_readNumber := goodIn_r _ [76, 10, 6, 7, 77, 9, 1, 2, 3, 4, 5, 8, 11, 12, 13, 14, 15, 16, 17, 18, 19, 78, 79, 80, 81, 82, 83, 84] (by decide +kernel) (by decide +kernel)
set_option maxRecDepth 20000 in
theorem gX3_readGreatest_X3_readNumber : GoodIn wsX3_readGreatest (wsV RX3 64 RX3 yX3_readNumber wsX3_readNumber) := goodIn_app (goodIn_of _ (by decide +kernel)) ggX3_readGreatest_X3_readNumber
theorem dX3_readGreatest_0 : decode cX3_readGreatest 0 = .ok (.aload_n 0, 1) := by decide +kernel
theorem dX3_readGreatest_1 : decode cX3_readGreatest 1 = .ok (.invokevirtual 53, 3) := by decide +kernel
theorem dX3_readGreatest_4 : decode cX3_readGreatest 4 = .ok (.aload_n 0, 1) := by decide +kernel
theorem dX3_readGreatest_5 : decode cX3_readGreatest 5 = .ok (.ldc 71, 2) := by decide +kernel
theorem dX3_readGreatest_7 : decode cX3_readGreatest 7 = .ok (.invokevirtual 73, 3) := by decide +kernel
theorem dX3_readGreatest_10 : decode cX3_readGreatest 10 = .ok (.ifCond .eq 15, 3) := by decide +kernel
theorem dX3_readGreatest_13 : decode cX3_readGreatest 13 = .ok (.aload_n 0, 1) := by decide +kernel
theorem dX3_readGreatest_14 : decode cX3_readGreatest 14 = .ok (.iconst 1, 1) := by decide +kernel
theorem dX3_readGreatest_15 : decode cX3_readGreatest 15 = .ok (.invokevirtual 64, 3) := by decide +kernel
theorem dX3_readGreatest_18 : decode cX3_readGreatest 18 = .ok (.ifCond .eq 7, 3) := by decide +kernel
theorem dX3_readGreatest_21 : decode cX3_readGreatest 21 = .ok (.iconst 1, 1) := by decide +kernel
theorem dX3_readGreatest_22 : decode cX3_readGreatest 22 = .ok (.goto 4, 3) := by decide +kernel
theorem dX3_readGreatest_25 : decode cX3_readGreatest 25 = .ok (.iconst 0, 1) := by decide +kernel
theorem dX3_readGreatest_26 : decode cX3_readGreatest 26 = .ok (.ireturn, 1) := by decide +kernel
set_option maxRecDepth 20000 in
theorem ggX3_readNumber_X3_scan : GoodIn wsX3_readNumber wsX3_scan := goodIn_r _ [10, 2, 3, 11, 5, 1, 12, 13, 9, 14, 15, 16, 17, 18, 19, 20, 21, 22, 23, 24, 25, 26, 27] (by decide +kernel) (by decide +kernel)
set_option maxRecDepth 20000 in
theorem gX3_readNumber_X3_scan : GoodIn wsX3_readNumber (wsV RX3 53 RX3 yX3_scan wsX3_scan) := goodIn_app (goodIn_of _ (by decide +kernel)) ggX3_readNumber_X3_scan
set_option maxRecDepth 20000 in
theorem ggX3_readNumber_X7_within : GoodIn wsX3_readNumber wsX7_within := goodIn_r _ [20] (by decide +kernel) (by decide +kernel)
set_option maxRecDepth 20000 in
theorem gX3_readNumber_X7_within_n36 : GoodIn wsX3_readNumber (wsX7_within) := ggX3_readNumber_X7_within
theorem dX3_readNumber_0 : decode cX3_readNumber 0 = .ok (.aload_n 0, 1) := by decide +kernel
theorem dX3_readNumber_1 : decode cX3_readNumber 1 = .ok (.invokevirtual 53, 3) := by decide +kernel
theorem dX3_readNumber_4 : decode cX3_readNumber 4 = .ok (.aload_n 0, 1) := by decide +kernel
theorem dX3_readNumber_5 : decode cX3_readNumber 5 = .ok (.getfield 27, 3) := by decide +kernel
theorem dX3_readNumber_8 : decode cX3_readNumber 8 = .ok (.iconst 2, 1) := by decide +kernel
theorem dX3_readNumber_9 : decode cX3_readNumber 9 = .ok (.if_icmp .ne 31, 3) := by decide +kernel
theorem dX3_readNumber_12 : decode cX3_readNumber 12 = .ok (.aload_n 0, 1) := by decide +kernel
theorem dX3_readNumber_13 : decode cX3_readNumber 13 = .ok (.getfield 33, 3) := by decide +kernel
theorem dX3_readNumber_16 : decode cX3_readNumber 16 = .ok (.aload_n 0, 1) := by decide +kernel
theorem dX3_readNumber_17 : decode cX3_readNumber 17 = .ok (.getfield 30, 3) := by decide +kernel
theorem dX3_readNumber_20 : decode cX3_readNumber 20 = .ok (.isub, 1) := by decide +kernel
theorem dX3_readNumber_21 : decode cX3_readNumber 21 = .ok (.iconst 4, 1) := by decide +kernel
theorem dX3_readNumber_22 : decode cX3_readNumber 22 = .ok (.if_icmp .gt 18, 3) := by decide +kernel
theorem dX3_readNumber_25 : decode cX3_readNumber 25 = .ok (.iload_n 1, 1) := by decide +kernel
theorem dX3_readNumber_26 : decode cX3_readNumber 26 = .ok (.iconst 0, 1) := by decide +kernel
theorem dX3_readNumber_27 : decode cX3_readNumber 27 = .ok (.aload_n 0, 1) := by decide +kernel
theorem dX3_readNumber_28 : decode cX3_readNumber 28 = .ok (.getfield 17, 3) := by decide +kernel
theorem dX3_readNumber_31 : decode cX3_readNumber 31 = .ok (.arraylength, 1) := by decide +kernel
theorem dX3_readNumber_32 : decode cX3_readNumber 32 = .ok (.iconst 1, 1) := by decide +kernel
theorem dX3_readNumber_33 : decode cX3_readNumber 33 = .ok (.isub, 1) := by decide +kernel
theorem dX3_readNumber_34 : decode cX3_readNumber 34 = .ok (.invokestatic 36, 3) := by decide +kernel
theorem dX3_readNumber_37 : decode cX3_readNumber 37 = .ok (.ifCond .ne 5, 3) := by decide +kernel
theorem dX3_readNumber_40 : decode cX3_readNumber 40 = .ok (.iconst 0, 1) := by decide +kernel
theorem dX3_readNumber_41 : decode cX3_readNumber 41 = .ok (.ireturn, 1) := by decide +kernel
theorem dX3_readNumber_42 : decode cX3_readNumber 42 = .ok (.iconst 0, 1) := by decide +kernel
theorem dX3_readNumber_43 : decode cX3_readNumber 43 = .ok (.istore_n 2, 1) := by decide +kernel
theorem dX3_readNumber_44 : decode cX3_readNumber 44 = .ok (.aload_n 0, 1) := by decide +kernel
theorem dX3_readNumber_45 : decode cX3_readNumber 45 = .ok (.getfield 30, 3) := by decide +kernel
theorem dX3_readNumber_48 : decode cX3_readNumber 48 = .ok (.istore_n 3, 1) := by decide +kernel
theorem dX3_readNumber_49 : decode cX3_readNumber 49 = .ok (.iload_n 3, 1) := by decide +kernel
theorem dX3_readNumber_50 : decode cX3_readNumber 50 = .ok (.aload_n 0, 1) := by decide +kernel
theorem dX3_readNumber_51 : decode cX3_readNumber 51 = .ok (.getfield 33, 3) := by decide +kernel
theorem dX3_readNumber_54 : decode cX3_readNumber 54 = .ok (.if_icmp .ge 24, 3) := by decide +kernel
theorem dX3_readNumber_57 : decode cX3_readNumber 57 = .ok (.bipush 10, 2) := by decide +kernel
theorem dX3_readNumber_59 : decode cX3_readNumber 59 = .ok (.iload_n 2, 1) := by decide +kernel
theorem dX3_readNumber_60 : decode cX3_readNumber 60 = .ok (.imul, 1) := by decide +kernel
theorem dX3_readNumber_61 : decode cX3_readNumber 61 = .ok (.aload_n 0, 1) := by decide +kernel
theorem dX3_readNumber_62 : decode cX3_readNumber 62 = .ok (.getfield 11, 3) := by decide +kernel
theorem dX3_readNumber_65 : decode cX3_readNumber 65 = .ok (.iload_n 3, 1) := by decide +kernel
theorem dX3_readNumber_66 : decode cX3_readNumber 66 = .ok (.iaload, 1) := by decide +kernel
theorem dX3_readNumber_67 : decode cX3_readNumber 67 = .ok (.iadd, 1) := by decide +kernel
theorem dX3_readNumber_68 : decode cX3_readNumber 68 = .ok (.bipush 48, 2) := by decide +kernel
theorem dX3_readNumber_70 : decode cX3_readNumber 70 = .ok (.isub, 1) := by decide +kernel
theorem dX3_readNumber_71 : decode cX3_readNumber 71 = .ok (.istore_n 2, 1) := by decide +kernel
theorem dX3_readNumber_72 : decode cX3_readNumber 72 = .ok (.iinc 3 1, 3) := by decide +kernel
theorem dX3_readNumber_75 : decode cX3_readNumber 75 = .ok (.goto (-26), 3) := by decide +kernel
theorem dX3_readNumber_78 : decode cX3_readNumber 78 = .ok (.aload_n 0, 1) := by decide +kernel
theorem dX3_readNumber_79 : decode cX3_readNumber 79 = .ok (.getfield 17, 3) := by decide +kernel
theorem dX3_readNumber_82 : decode cX3_readNumber 82 = .ok (.iload_n 1, 1) := by decide +kernel
theorem dX3_readNumber_83 : decode cX3_readNumber 83 = .ok (.iload_n 2, 1) := by decide +kernel
theorem dX3_readNumber_84 : decode cX3_readNumber 84 = .ok (.iastore, 1) := by decide +kernel
theorem dX3_readNumber_85 : decode cX3_readNumber 85 = .ok (.iconst 1, 1) := by decide +kernel
theorem dX3_readNumber_86 : decode cX3_readNumber 86 = .ok (.ireturn, 1) := by decide +kernel
set_option maxRecDepth 20000 in
theorem ggX3_keyword_X3_isWord : GoodIn wsX3_keyword wsX3_isWord := goodIn_r _ [5, 6, 7, 8, 9, 10, 11, 12, 13, 14, 15, 16, 17, 18, 19, 20, 21, 22, 23, 24, 25, 26, 27, 28, 29, 30, 31, 32, 33, 34, 35, 36, 37, 38, 39, 40, 41, 42, 43, 44, 45, 46, 47, 48, 49, 50, 51, 52, 53, 54, 55, 56, 57, 58, 59, 60, 61, 62, 63, 64, 65] (by decide +kernel) (by decide +kernel)
set_option maxRecDepth 20000 in
theorem gX3_keyword_X3_isWord : GoodIn wsX3_keyword (wsV RX3 73 RX3 yX3_isWord wsX3_isWord) := goodIn_app (goodIn_of _ (by decide +kernel)) ggX3_keyword_X3_isWord
theorem dX3_keyword_0 : decode cX3_keyword 0 = .ok (.aload_n 0, 1) := by decide +kernel
theorem dX3_keyword_1 : decode cX3_keyword 1 = .ok (.ldc 77, 2) := by decide +kernel
theorem dX3_keyword_3 : decode cX3_keyword 3 = .ok (.invokevirtual 73, 3) := by decide +kernel
theorem dX3_keyword_6 : decode cX3_keyword 6 = .ok (.ifCond .eq 5, 3) := by decide +kernel
theorem dX3_keyword_9 : decode cX3_keyword 9 = .ok (.iconst 0, 1) := by decide +kernel
theorem dX3_keyword_10 : decode cX3_keyword 10 = .ok (.ireturn, 1) := by decide +kernel
theorem dX3_keyword_11 : decode cX3_keyword 11 = .ok (.aload_n 0, 1) := by decide +kernel
theorem dX3_keyword_12 : decode cX3_keyword 12 = .ok (.ldc 79, 2) := by decide +kernel
theorem dX3_keyword_14 : decode cX3_keyword 14 = .ok (.invokevirtual 73, 3) := by decide +kernel
theorem dX3_keyword_17 : decode cX3_keyword 17 = .ok (.ifCond .eq 5, 3) := by decide +kernel
theorem dX3_keyword_20 : decode cX3_keyword 20 = .ok (.iconst 2, 1) := by decide +kernel
theorem dX3_keyword_21 : decode cX3_keyword 21 = .ok (.ireturn, 1) := by decide +kernel
theorem dX3_keyword_22 : decode cX3_keyword 22 = .ok (.aload_n 0, 1) := by decide +kernel
theorem dX3_keyword_23 : decode cX3_keyword 23 = .ok (.ldc 81, 2) := by decide +kernel
theorem dX3_keyword_25 : decode cX3_keyword 25 = .ok (.invokevirtual 73, 3) := by decide +kernel
theorem dX3_keyword_28 : decode cX3_keyword 28 = .ok (.ifCond .eq 5, 3) := by decide +kernel
theorem dX3_keyword_31 : decode cX3_keyword 31 = .ok (.iconst 3, 1) := by decide +kernel
theorem dX3_keyword_32 : decode cX3_keyword 32 = .ok (.ireturn, 1) := by decide +kernel
theorem dX3_keyword_33 : decode cX3_keyword 33 = .ok (.aload_n 0, 1) := by decide +kernel
theorem dX3_keyword_34 : decode cX3_keyword 34 = .ok (.ldc 83, 2) := by decide +kernel
theorem dX3_keyword_36 : decode cX3_keyword 36 = .ok (.invokevirtual 73, 3) := by decide +kernel
theorem dX3_keyword_39 : decode cX3_keyword 39 = .ok (.ifCond .eq 5, 3) := by decide +kernel
theorem dX3_keyword_42 : decode cX3_keyword 42 = .ok (.iconst 4, 1) := by decide +kernel
theorem dX3_keyword_43 : decode cX3_keyword 43 = .ok (.ireturn, 1) := by decide +kernel
theorem dX3_keyword_44 : decode cX3_keyword 44 = .ok (.aload_n 0, 1) := by decide +kernel
theorem dX3_keyword_45 : decode cX3_keyword 45 = .ok (.ldc 85, 2) := by decide +kernel
theorem dX3_keyword_47 : decode cX3_keyword 47 = .ok (.invokevirtual 73, 3) := by decide +kernel
theorem dX3_keyword_50 : decode cX3_keyword 50 = .ok (.ifCond .eq 5, 3) := by decide +kernel
theorem dX3_keyword_53 : decode cX3_keyword 53 = .ok (.iconst 5, 1) := by decide +kernel
theorem dX3_keyword_54 : decode cX3_keyword 54 = .ok (.ireturn, 1) := by decide +kernel
theorem dX3_keyword_55 : decode cX3_keyword 55 = .ok (.aload_n 0, 1) := by decide +kernel
theorem dX3_keyword_56 : decode cX3_keyword 56 = .ok (.ldc 87, 2) := by decide +kernel
theorem dX3_keyword_58 : decode cX3_keyword 58 = .ok (.invokevirtual 73, 3) := by decide +kernel
theorem dX3_keyword_61 : decode cX3_keyword 61 = .ok (.ifCond .eq 8, 3) := by decide +kernel
theorem dX3_keyword_64 : decode cX3_keyword 64 = .ok (.bipush 6, 2) := by decide +kernel
theorem dX3_keyword_66 : decode cX3_keyword 66 = .ok (.goto 4, 3) := by decide +kernel
theorem dX3_keyword_69 : decode cX3_keyword 69 = .ok (.iconst (-1), 1) := by decide +kernel
theorem dX3_keyword_70 : decode cX3_keyword 70 = .ok (.ireturn, 1) := by decide +kernel
set_option maxRecDepth 20000 in
theorem ggX3_isWord_J0_length_8abf5 : GoodIn wsX3_isWord wsJ0_length_8abf5 := goodIn_r _ [9, 10, 11, 12, 13, 8, 14, 15, 16] (by decide +kernel) (by decide +kernel)
set_option maxRecDepth 20000 in
theorem gX3_isWord_J0_length_8abf5 : GoodIn wsX3_isWord (wsV RX3 89 RJ0 yJ0_length_8abf5 wsJ0_length_8abf5) := goodIn_app (goodIn_of _ (by decide +kernel)) ggX3_isWord_J0_length_8abf5
set_option maxRecDepth 20000 in
theorem ggX3_isWord_J0_charAt_5068e : GoodIn wsX3_isWord wsJ0_charAt_5068e := goodIn_r _ [20, 10, 21, 22, 23, 8, 24, 15, 16, 25, 26, 27, 28, 29, 30, 31, 32, 33, 34, 35, 36, 37, 38, 39, 40, 41, 42, 43, 44, 45, 46, 47, 48, 49, 50, 51, 52, 53] (by decide +kernel) (by decide +kernel)
set_option maxRecDepth 20000 in
theorem gX3_isWord_J0_charAt_5068e : GoodIn wsX3_isWord (wsV RX3 93 RJ0 yJ0_charAt_5068e wsJ0_charAt_5068e) := goodIn_app (goodIn_of _ (by decide +kernel)) ggX3_isWord_J0_charAt_5068e
theorem dX3_isWord_0 : decode cX3_isWord 0 = .ok (.aload_n 0, 1) := by decide +kernel
theorem dX3_isWord_1 : decode cX3_isWord 1 = .ok (.getfield 27, 3) := by decide +kernel
theorem dX3_isWord_4 : decode cX3_isWord 4 = .ok (.iconst 1, 1) := by decide +kernel
theorem dX3_isWord_5 : decode cX3_isWord 5 = .ok (.if_icmp .ne 19, 3) := by decide +kernel
theorem dX3_isWord_8 : decode cX3_isWord 8 = .ok (.aload_n 0, 1) := by decide +kernel
theorem dX3_isWord_9 : decode cX3_isWord 9 = .ok (.getfield 33, 3) := by decide +kernel
theorem dX3_isWord_12 : decode cX3_isWord 12 = .ok (.aload_n 0, 1) := by decide +kernel
theorem dX3_isWord_13 : decode cX3_isWord 13 = .ok (.getfield 30, 3) := by decide +kernel
theorem dX3_isWord_16 : decode cX3_isWord 16 = .ok (.isub, 1) := by decide +kernel
theorem dX3_isWord_17 : decode cX3_isWord 17 = .ok (.aload_n 1, 1) := by decide +kernel
theorem dX3_isWord_18 : decode cX3_isWord 18 = .ok (.invokevirtual 89, 3) := by decide +kernel
theorem dX3_isWord_21 : decode cX3_isWord 21 = .ok (.if_icmp .eq 5, 3) := by decide +kernel
theorem dX3_isWord_24 : decode cX3_isWord 24 = .ok (.iconst 0, 1) := by decide +kernel
theorem dX3_isWord_25 : decode cX3_isWord 25 = .ok (.ireturn, 1) := by decide +kernel
theorem dX3_isWord_26 : decode cX3_isWord 26 = .ok (.iconst 0, 1) := by decide +kernel
theorem dX3_isWord_27 : decode cX3_isWord 27 = .ok (.istore_n 2, 1) := by decide +kernel
theorem dX3_isWord_28 : decode cX3_isWord 28 = .ok (.iload_n 2, 1) := by decide +kernel
theorem dX3_isWord_29 : decode cX3_isWord 29 = .ok (.aload_n 1, 1) := by decide +kernel
theorem dX3_isWord_30 : decode cX3_isWord 30 = .ok (.invokevirtual 89, 3) := by decide +kernel
theorem dX3_isWord_33 : decode cX3_isWord 33 = .ok (.if_icmp .ge 30, 3) := by decide +kernel
theorem dX3_isWord_36 : decode cX3_isWord 36 = .ok (.aload_n 0, 1) := by decide +kernel
theorem dX3_isWord_37 : decode cX3_isWord 37 = .ok (.getfield 11, 3) := by decide +kernel
theorem dX3_isWord_40 : decode cX3_isWord 40 = .ok (.aload_n 0, 1) := by decide +kernel
theorem dX3_isWord_41 : decode cX3_isWord 41 = .ok (.getfield 30, 3) := by decide +kernel
theorem dX3_isWord_44 : decode cX3_isWord 44 = .ok (.iload_n 2, 1) := by decide +kernel
theorem dX3_isWord_45 : decode cX3_isWord 45 = .ok (.iadd, 1) := by decide +kernel
theorem dX3_isWord_46 : decode cX3_isWord 46 = .ok (.iaload, 1) := by decide +kernel
theorem dX3_isWord_47 : decode cX3_isWord 47 = .ok (.aload_n 1, 1) := by decide +kernel
theorem dX3_isWord_48 : decode cX3_isWord 48 = .ok (.iload_n 2, 1) := by decide +kernel
theorem dX3_isWord_49 : decode cX3_isWord 49 = .ok (.invokevirtual 93, 3) := by decide +kernel
theorem dX3_isWord_52 : decode cX3_isWord 52 = .ok (.if_icmp .eq 5, 3) := by decide +kernel
theorem dX3_isWord_55 : decode cX3_isWord 55 = .ok (.iconst 0, 1) := by decide +kernel
end
section
theorem dX3_isWord_56 : decode cX3_isWord 56 = .ok (.ireturn, 1) := by decide +kernel
theorem dX3_isWord_57 : decode cX3_isWord 57 = .ok (.iinc 2 1, 3) := by decide +kernel
theorem dX3_isWord_60 : decode cX3_isWord 60 = .ok (.goto (-32), 3) := by decide +kernel
theorem dX3_isWord_63 : decode cX3_isWord 63 = .ok (.iconst 1, 1) := by decide +kernel
theorem dX3_isWord_64 : decode cX3_isWord 64 = .ok (.ireturn, 1) := by decide +kernel
set_option maxRecDepth 20000 in
theorem ggX3_scan_X3_isBlank : GoodIn wsX3_scan wsX3_isBlank := goodIn_r _ [9] (by decide +kernel) (by decide +kernel)
set_option maxRecDepth 20000 in
theorem gX3_scan_X3_isBlank : GoodIn wsX3_scan (va_wsS RX3 97 yX3_isBlank wsX3_isBlank) := goodIn_app (goodIn_of _ (by decide +kernel)) ggX3_scan_X3_isBlank
set_option maxRecDepth 20000 in
theorem ggX3_scan_X3_kindOf : GoodIn wsX3_scan wsX3_kindOf := goodIn_r _ [12, 13, 14, 15] (by decide +kernel) (by decide +kernel)
set_option maxRecDepth 20000 in
theorem gX3_scan_X3_kindOf : GoodIn wsX3_scan (va_wsS RX3 100 yX3_kindOf wsX3_kindOf) := goodIn_app (goodIn_of _ (by decide +kernel)) ggX3_scan_X3_kindOf
theorem dX3_scan_0 : decode cX3_scan 0 = .ok (.aload_n 0, 1) := by decide +kernel
theorem dX3_scan_1 : decode cX3_scan 1 = .ok (.aload_n 0, 1) := by decide +kernel
theorem dX3_scan_2 : decode cX3_scan 2 = .ok (.getfield 33, 3) := by decide +kernel
theorem dX3_scan_5 : decode cX3_scan 5 = .ok (.putfield 30, 3) := by decide +kernel
theorem dX3_scan_8 : decode cX3_scan 8 = .ok (.aload_n 0, 1) := by decide +kernel
theorem dX3_scan_9 : decode cX3_scan 9 = .ok (.getfield 30, 3) := by decide +kernel
theorem dX3_scan_12 : decode cX3_scan 12 = .ok (.aload_n 0, 1) := by decide +kernel
theorem dX3_scan_13 : decode cX3_scan 13 = .ok (.getfield 24, 3) := by decide +kernel
theorem dX3_scan_16 : decode cX3_scan 16 = .ok (.if_icmp .ge 31, 3) := by decide +kernel
theorem dX3_scan_19 : decode cX3_scan 19 = .ok (.aload_n 0, 1) := by decide +kernel
theorem dX3_scan_20 : decode cX3_scan 20 = .ok (.getfield 11, 3) := by decide +kernel
theorem dX3_scan_23 : decode cX3_scan 23 = .ok (.aload_n 0, 1) := by decide +kernel
theorem dX3_scan_24 : decode cX3_scan 24 = .ok (.getfield 30, 3) := by decide +kernel
theorem dX3_scan_27 : decode cX3_scan 27 = .ok (.iaload, 1) := by decide +kernel
theorem dX3_scan_28 : decode cX3_scan 28 = .ok (.invokestatic 97, 3) := by decide +kernel
theorem dX3_scan_31 : decode cX3_scan 31 = .ok (.ifCond .eq 16, 3) := by decide +kernel
theorem dX3_scan_34 : decode cX3_scan 34 = .ok (.aload_n 0, 1) := by decide +kernel
theorem dX3_scan_35 : decode cX3_scan 35 = .ok (.dup, 1) := by decide +kernel
theorem dX3_scan_36 : decode cX3_scan 36 = .ok (.getfield 30, 3) := by decide +kernel
theorem dX3_scan_39 : decode cX3_scan 39 = .ok (.iconst 1, 1) := by decide +kernel
theorem dX3_scan_40 : decode cX3_scan 40 = .ok (.iadd, 1) := by decide +kernel
theorem dX3_scan_41 : decode cX3_scan 41 = .ok (.putfield 30, 3) := by decide +kernel
theorem dX3_scan_44 : decode cX3_scan 44 = .ok (.goto (-36), 3) := by decide +kernel
theorem dX3_scan_47 : decode cX3_scan 47 = .ok (.aload_n 0, 1) := by decide +kernel
theorem dX3_scan_48 : decode cX3_scan 48 = .ok (.aload_n 0, 1) := by decide +kernel
theorem dX3_scan_49 : decode cX3_scan 49 = .ok (.getfield 30, 3) := by decide +kernel
theorem dX3_scan_52 : decode cX3_scan 52 = .ok (.putfield 33, 3) := by decide +kernel
theorem dX3_scan_55 : decode cX3_scan 55 = .ok (.aload_n 0, 1) := by decide +kernel
theorem dX3_scan_56 : decode cX3_scan 56 = .ok (.getfield 30, 3) := by decide +kernel
theorem dX3_scan_59 : decode cX3_scan 59 = .ok (.aload_n 0, 1) := by decide +kernel
theorem dX3_scan_60 : decode cX3_scan 60 = .ok (.getfield 24, 3) := by decide +kernel
theorem dX3_scan_63 : decode cX3_scan 63 = .ok (.if_icmp .lt 9, 3) := by decide +kernel
theorem dX3_scan_66 : decode cX3_scan 66 = .ok (.aload_n 0, 1) := by decide +kernel
theorem dX3_scan_67 : decode cX3_scan 67 = .ok (.iconst 0, 1) := by decide +kernel
theorem dX3_scan_68 : decode cX3_scan 68 = .ok (.putfield 27, 3) := by decide +kernel
theorem dX3_scan_71 : decode cX3_scan 71 = .ok (.return_, 1) := by decide +kernel
theorem dX3_scan_72 : decode cX3_scan 72 = .ok (.aload_n 0, 1) := by decide +kernel
theorem dX3_scan_73 : decode cX3_scan 73 = .ok (.aload_n 0, 1) := by decide +kernel
theorem dX3_scan_74 : decode cX3_scan 74 = .ok (.getfield 11, 3) := by decide +kernel
theorem dX3_scan_77 : decode cX3_scan 77 = .ok (.aload_n 0, 1) := by decide +kernel
theorem dX3_scan_78 : decode cX3_scan 78 = .ok (.getfield 30, 3) := by decide +kernel
theorem dX3_scan_81 : decode cX3_scan 81 = .ok (.iaload, 1) := by decide +kernel
theorem dX3_scan_82 : decode cX3_scan 82 = .ok (.invokestatic 100, 3) := by decide +kernel
theorem dX3_scan_85 : decode cX3_scan 85 = .ok (.putfield 27, 3) := by decide +kernel
theorem dX3_scan_88 : decode cX3_scan 88 = .ok (.aload_n 0, 1) := by decide +kernel
theorem dX3_scan_89 : decode cX3_scan 89 = .ok (.dup, 1) := by decide +kernel
theorem dX3_scan_90 : decode cX3_scan 90 = .ok (.getfield 33, 3) := by decide +kernel
theorem dX3_scan_93 : decode cX3_scan 93 = .ok (.iconst 1, 1) := by decide +kernel
theorem dX3_scan_94 : decode cX3_scan 94 = .ok (.iadd, 1) := by decide +kernel
theorem dX3_scan_95 : decode cX3_scan 95 = .ok (.putfield 33, 3) := by decide +kernel
theorem dX3_scan_98 : decode cX3_scan 98 = .ok (.aload_n 0, 1) := by decide +kernel
theorem dX3_scan_99 : decode cX3_scan 99 = .ok (.getfield 27, 3) := by decide +kernel
theorem dX3_scan_102 : decode cX3_scan 102 = .ok (.iconst 1, 1) := by decide +kernel
theorem dX3_scan_103 : decode cX3_scan 103 = .ok (.if_icmp .eq 11, 3) := by decide +kernel
theorem dX3_scan_106 : decode cX3_scan 106 = .ok (.aload_n 0, 1) := by decide +kernel
theorem dX3_scan_107 : decode cX3_scan 107 = .ok (.getfield 27, 3) := by decide +kernel
theorem dX3_scan_110 : decode cX3_scan 110 = .ok (.iconst 2, 1) := by decide +kernel
theorem dX3_scan_111 : decode cX3_scan 111 = .ok (.if_icmp .ne 46, 3) := by decide +kernel
theorem dX3_scan_114 : decode cX3_scan 114 = .ok (.aload_n 0, 1) := by decide +kernel
theorem dX3_scan_115 : decode cX3_scan 115 = .ok (.getfield 33, 3) := by decide +kernel
theorem dX3_scan_118 : decode cX3_scan 118 = .ok (.aload_n 0, 1) := by decide +kernel
theorem dX3_scan_119 : decode cX3_scan 119 = .ok (.getfield 24, 3) := by decide +kernel
theorem dX3_scan_122 : decode cX3_scan 122 = .ok (.if_icmp .ge 35, 3) := by decide +kernel
theorem dX3_scan_125 : decode cX3_scan 125 = .ok (.aload_n 0, 1) := by decide +kernel
theorem dX3_scan_126 : decode cX3_scan 126 = .ok (.getfield 11, 3) := by decide +kernel
theorem dX3_scan_129 : decode cX3_scan 129 = .ok (.aload_n 0, 1) := by decide +kernel
theorem dX3_scan_130 : decode cX3_scan 130 = .ok (.getfield 33, 3) := by decide +kernel
theorem dX3_scan_133 : decode cX3_scan 133 = .ok (.iaload, 1) := by decide +kernel
theorem dX3_scan_134 : decode cX3_scan 134 = .ok (.invokestatic 100, 3) := by decide +kernel
theorem dX3_scan_137 : decode cX3_scan 137 = .ok (.aload_n 0, 1) := by decide +kernel
theorem dX3_scan_138 : decode cX3_scan 138 = .ok (.getfield 27, 3) := by decide +kernel
theorem dX3_scan_141 : decode cX3_scan 141 = .ok (.if_icmp .ne 16, 3) := by decide +kernel
theorem dX3_scan_144 : decode cX3_scan 144 = .ok (.aload_n 0, 1) := by decide +kernel
theorem dX3_scan_145 : decode cX3_scan 145 = .ok (.dup, 1) := by decide +kernel
theorem dX3_scan_146 : decode cX3_scan 146 = .ok (.getfield 33, 3) := by decide +kernel
theorem dX3_scan_149 : decode cX3_scan 149 = .ok (.iconst 1, 1) := by decide +kernel
theorem dX3_scan_150 : decode cX3_scan 150 = .ok (.iadd, 1) := by decide +kernel
theorem dX3_scan_151 : decode cX3_scan 151 = .ok (.putfield 33, 3) := by decide +kernel
theorem dX3_scan_154 : decode cX3_scan 154 = .ok (.goto (-56), 3) := by decide +kernel
theorem dX3_scan_157 : decode cX3_scan 157 = .ok (.return_, 1) := by decide +kernel
theorem dX3_isBlank_0 : decode cX3_isBlank 0 = .ok (.iload_n 0, 1) := by decide +kernel
theorem dX3_isBlank_1 : decode cX3_isBlank 1 = .ok (.bipush 32, 2) := by decide +kernel
theorem dX3_isBlank_3 : decode cX3_isBlank 3 = .ok (.if_icmp .eq 9, 3) := by decide +kernel
theorem dX3_isBlank_6 : decode cX3_isBlank 6 = .ok (.iload_n 0, 1) := by decide +kernel
theorem dX3_isBlank_7 : decode cX3_isBlank 7 = .ok (.bipush 10, 2) := by decide +kernel
theorem dX3_isBlank_9 : decode cX3_isBlank 9 = .ok (.if_icmp .ne 7, 3) := by decide +kernel
theorem dX3_isBlank_12 : decode cX3_isBlank 12 = .ok (.iconst 1, 1) := by decide +kernel
theorem dX3_isBlank_13 : decode cX3_isBlank 13 = .ok (.goto 4, 3) := by decide +kernel
theorem dX3_isBlank_16 : decode cX3_isBlank 16 = .ok (.iconst 0, 1) := by decide +kernel
theorem dX3_isBlank_17 : decode cX3_isBlank 17 = .ok (.ireturn, 1) := by decide +kernel
set_option maxRecDepth 20000 in
theorem ggX3_kindOf_X7_within : GoodIn wsX3_kindOf wsX7_within := goodIn_r _ [3] (by decide +kernel) (by decide +kernel)
set_option maxRecDepth 20000 in
theorem gX3_kindOf_X7_within_n36 : GoodIn wsX3_kindOf (wsX7_within) := ggX3_kindOf_X7_within
theorem dX3_kindOf_0 : decode cX3_kindOf 0 = .ok (.iload_n 0, 1) := by decide +kernel
theorem dX3_kindOf_1 : decode cX3_kindOf 1 = .ok (.bipush 97, 2) := by decide +kernel
theorem dX3_kindOf_3 : decode cX3_kindOf 3 = .ok (.bipush 122, 2) := by decide +kernel
theorem dX3_kindOf_5 : decode cX3_kindOf 5 = .ok (.invokestatic 36, 3) := by decide +kernel
theorem dX3_kindOf_8 : decode cX3_kindOf 8 = .ok (.ifCond .eq 5, 3) := by decide +kernel
theorem dX3_kindOf_11 : decode cX3_kindOf 11 = .ok (.iconst 1, 1) := by decide +kernel
theorem dX3_kindOf_12 : decode cX3_kindOf 12 = .ok (.ireturn, 1) := by decide +kernel
theorem dX3_kindOf_13 : decode cX3_kindOf 13 = .ok (.iload_n 0, 1) := by decide +kernel
theorem dX3_kindOf_14 : decode cX3_kindOf 14 = .ok (.bipush 48, 2) := by decide +kernel
theorem dX3_kindOf_16 : decode cX3_kindOf 16 = .ok (.bipush 57, 2) := by decide +kernel
theorem dX3_kindOf_18 : decode cX3_kindOf 18 = .ok (.invokestatic 36, 3) := by decide +kernel
theorem dX3_kindOf_21 : decode cX3_kindOf 21 = .ok (.ifCond .eq 5, 3) := by decide +kernel
theorem dX3_kindOf_24 : decode cX3_kindOf 24 = .ok (.iconst 2, 1) := by decide +kernel
theorem dX3_kindOf_25 : decode cX3_kindOf 25 = .ok (.ireturn, 1) := by decide +kernel
theorem dX3_kindOf_26 : decode cX3_kindOf 26 = .ok (.iload_n 0, 1) := by decide +kernel
theorem dX3_kindOf_27 : decode cX3_kindOf 27 = .ok (.bipush 59, 2) := by decide +kernel
theorem dX3_kindOf_29 : decode cX3_kindOf 29 = .ok (.if_icmp .ne 7, 3) := by decide +kernel
theorem dX3_kindOf_32 : decode cX3_kindOf 32 = .ok (.iconst 3, 1) := by decide +kernel
theorem dX3_kindOf_33 : decode cX3_kindOf 33 = .ok (.goto 4, 3) := by decide +kernel
theorem dX3_kindOf_36 : decode cX3_kindOf 36 = .ok (.iconst 4, 1) := by decide +kernel
theorem dX3_kindOf_37 : decode cX3_kindOf 37 = .ok (.ireturn, 1) := by decide +kernel
theorem dX4_init_0 : decode cX4_init 0 = .ok (.aload_n 0, 1) := by decide +kernel
theorem dX4_init_1 : decode cX4_init 1 = .ok (.invokespecial 1, 3) := by decide +kernel
theorem dX4_init_4 : decode cX4_init 4 = .ok (.aload_n 0, 1) := by decide +kernel
theorem dX4_init_5 : decode cX4_init 5 = .ok (.bipush 100, 2) := by decide +kernel
theorem dX4_init_7 : decode cX4_init 7 = .ok (.putfield 7, 3) := by decide +kernel
theorem dX4_init_10 : decode cX4_init 10 = .ok (.aload_n 0, 1) := by decide +kernel
theorem dX4_init_11 : decode cX4_init 11 = .ok (.iconst 0, 1) := by decide +kernel
theorem dX4_init_12 : decode cX4_init 12 = .ok (.putfield 13, 3) := by decide +kernel
theorem dX4_init_15 : decode cX4_init 15 = .ok (.aload_n 0, 1) := by decide +kernel
theorem dX4_init_16 : decode cX4_init 16 = .ok (.bipush 20, 2) := by decide +kernel
theorem dX4_init_18 : decode cX4_init 18 = .ok (.putfield 16, 3) := by decide +kernel
theorem dX4_init_21 : decode cX4_init 21 = .ok (.return_, 1) := by decide +kernel
theorem dX4_hoursFor_0 : decode cX4_hoursFor 0 = .ok (.iconst 2, 1) := by decide +kernel
theorem dX4_hoursFor_1 : decode cX4_hoursFor 1 = .ok (.iload_n 0, 1) := by decide +kernel
theorem dX4_hoursFor_2 : decode cX4_hoursFor 2 = .ok (.imul, 1) := by decide +kernel
theorem dX4_hoursFor_3 : decode cX4_hoursFor 3 = .ok (.ireturn, 1) := by decide +kernel
theorem dX4_level_0 : decode cX4_level 0 = .ok (.aload_n 0, 1) := by decide +kernel
theorem dX4_level_1 : decode cX4_level 1 = .ok (.getfield 7, 3) := by decide +kernel
theorem dX4_level_4 : decode cX4_level 4 = .ok (.ireturn, 1) := by decide +kernel
theorem dX4_mud_0 : decode cX4_mud 0 = .ok (.aload_n 0, 1) := by decide +kernel
theorem dX4_mud_1 : decode cX4_mud 1 = .ok (.getfield 13, 3) := by decide +kernel
theorem dX4_mud_4 : decode cX4_mud 4 = .ok (.ireturn, 1) := by decide +kernel
theorem dX4_hoursLeft_0 : decode cX4_hoursLeft 0 = .ok (.aload_n 0, 1) := by decide +kernel
theorem dX4_hoursLeft_1 : decode cX4_hoursLeft 1 = .ok (.getfield 16, 3) := by decide +kernel
theorem dX4_hoursLeft_4 : decode cX4_hoursLeft 4 = .ok (.ireturn, 1) := by decide +kernel
set_option maxRecDepth 20000 in
theorem ggX4_stir_X4_hoursFor : GoodIn wsX4_stir wsX4_hoursFor := goodIn_r _ [6] (by decide +kernel) (by decide +kernel)
set_option maxRecDepth 20000 in
theorem gX4_stir_X4_hoursFor : GoodIn wsX4_stir (va_wsS RX4 19 yX4_hoursFor wsX4_hoursFor) := goodIn_app (goodIn_of _ (by decide +kernel)) ggX4_stir_X4_hoursFor
theorem dX4_stir_0 : decode cX4_stir 0 = .ok (.aload_n 0, 1) := by decide +kernel
theorem dX4_stir_1 : decode cX4_stir 1 = .ok (.dup, 1) := by decide +kernel
theorem dX4_stir_2 : decode cX4_stir 2 = .ok (.getfield 16, 3) := by decide +kernel
theorem dX4_stir_5 : decode cX4_stir 5 = .ok (.iload_n 1, 1) := by decide +kernel
theorem dX4_stir_6 : decode cX4_stir 6 = .ok (.invokestatic 19, 3) := by decide +kernel
theorem dX4_stir_9 : decode cX4_stir 9 = .ok (.isub, 1) := by decide +kernel
theorem dX4_stir_10 : decode cX4_stir 10 = .ok (.putfield 16, 3) := by decide +kernel
theorem dX4_stir_13 : decode cX4_stir 13 = .ok (.aload_n 0, 1) := by decide +kernel
theorem dX4_stir_14 : decode cX4_stir 14 = .ok (.dup, 1) := by decide +kernel
theorem dX4_stir_15 : decode cX4_stir 15 = .ok (.getfield 13, 3) := by decide +kernel
theorem dX4_stir_18 : decode cX4_stir 18 = .ok (.iconst 3, 1) := by decide +kernel
theorem dX4_stir_19 : decode cX4_stir 19 = .ok (.iload_n 1, 1) := by decide +kernel
theorem dX4_stir_20 : decode cX4_stir 20 = .ok (.imul, 1) := by decide +kernel
theorem dX4_stir_21 : decode cX4_stir 21 = .ok (.iadd, 1) := by decide +kernel
theorem dX4_stir_22 : decode cX4_stir 22 = .ok (.putfield 13, 3) := by decide +kernel
theorem dX4_stir_25 : decode cX4_stir 25 = .ok (.return_, 1) := by decide +kernel
theorem dX4_drain_0 : decode cX4_drain 0 = .ok (.aload_n 0, 1) := by decide +kernel
theorem dX4_drain_1 : decode cX4_drain 1 = .ok (.dup, 1) := by decide +kernel
theorem dX4_drain_2 : decode cX4_drain 2 = .ok (.getfield 7, 3) := by decide +kernel
theorem dX4_drain_5 : decode cX4_drain 5 = .ok (.iload_n 1, 1) := by decide +kernel
theorem dX4_drain_6 : decode cX4_drain 6 = .ok (.isub, 1) := by decide +kernel
theorem dX4_drain_7 : decode cX4_drain 7 = .ok (.putfield 7, 3) := by decide +kernel
theorem dX4_drain_10 : decode cX4_drain 10 = .ok (.return_, 1) := by decide +kernel
theorem dX4_passNight_0 : decode cX4_passNight 0 = .ok (.aload_n 0, 1) := by decide +kernel
theorem dX4_passNight_1 : decode cX4_passNight 1 = .ok (.iconst 0, 1) := by decide +kernel
theorem dX4_passNight_2 : decode cX4_passNight 2 = .ok (.sipush 1000, 3) := by decide +kernel
theorem dX4_passNight_5 : decode cX4_passNight 5 = .ok (.aload_n 0, 1) := by decide +kernel
theorem dX4_passNight_6 : decode cX4_passNight 6 = .ok (.getfield 7, 3) := by decide +kernel
theorem dX4_passNight_9 : decode cX4_passNight 9 = .ok (.iload_n 1, 1) := by decide +kernel
theorem dX4_passNight_10 : decode cX4_passNight 10 = .ok (.iadd, 1) := by decide +kernel
theorem dX4_passNight_11 : decode cX4_passNight 11 = .ok (.iconst 3, 1) := by decide +kernel
theorem dX4_passNight_12 : decode cX4_passNight 12 = .ok (.isub, 1) := by decide +kernel
theorem dX4_passNight_13 : decode cX4_passNight 13 = .ok (.invokestatic 23, 3) := by decide +kernel
theorem dX4_passNight_16 : decode cX4_passNight 16 = .ok (.invokestatic 29, 3) := by decide +kernel
theorem dX4_passNight_19 : decode cX4_passNight 19 = .ok (.putfield 7, 3) := by decide +kernel
theorem dX4_passNight_22 : decode cX4_passNight 22 = .ok (.aload_n 0, 1) := by decide +kernel
theorem dX4_passNight_23 : decode cX4_passNight 23 = .ok (.iconst 0, 1) := by decide +kernel
theorem dX4_passNight_24 : decode cX4_passNight 24 = .ok (.aload_n 0, 1) := by decide +kernel
theorem dX4_passNight_25 : decode cX4_passNight 25 = .ok (.getfield 13, 3) := by decide +kernel
theorem dX4_passNight_28 : decode cX4_passNight 28 = .ok (.bipush 10, 2) := by decide +kernel
theorem dX4_passNight_30 : decode cX4_passNight 30 = .ok (.isub, 1) := by decide +kernel
theorem dX4_passNight_31 : decode cX4_passNight 31 = .ok (.invokestatic 29, 3) := by decide +kernel
theorem dX4_passNight_34 : decode cX4_passNight 34 = .ok (.putfield 13, 3) := by decide +kernel
theorem dX4_passNight_37 : decode cX4_passNight 37 = .ok (.aload_n 0, 1) := by decide +kernel
theorem dX4_passNight_38 : decode cX4_passNight 38 = .ok (.bipush 20, 2) := by decide +kernel
theorem dX4_passNight_40 : decode cX4_passNight 40 = .ok (.putfield 16, 3) := by decide +kernel
theorem dX4_passNight_43 : decode cX4_passNight 43 = .ok (.return_, 1) := by decide +kernel
theorem dX5_init_0 : decode cX5_init 0 = .ok (.aload_n 0, 1) := by decide +kernel
theorem dX5_init_1 : decode cX5_init 1 = .ok (.invokespecial 3, 3) := by decide +kernel
theorem dX5_init_4 : decode cX5_init 4 = .ok (.aload_n 0, 1) := by decide +kernel
theorem dX5_init_5 : decode cX5_init 5 = .ok (.bipush 100, 2) := by decide +kernel
theorem dX5_init_7 : decode cX5_init 7 = .ok (.putfield 9, 3) := by decide +kernel
theorem dX5_init_10 : decode cX5_init 10 = .ok (.aload_n 0, 1) := by decide +kernel
theorem dX5_init_11 : decode cX5_init 11 = .ok (.iload_n 1, 1) := by decide +kernel
theorem dX5_init_12 : decode cX5_init 12 = .ok (.putfield 15, 3) := by decide +kernel
theorem dX5_init_15 : decode cX5_init 15 = .ok (.aload_n 0, 1) := by decide +kernel
theorem dX5_init_16 : decode cX5_init 16 = .ok (.iload_n 2, 1) := by decide +kernel
theorem dX5_init_17 : decode cX5_init 17 = .ok (.putfield 18, 3) := by decide +kernel
theorem dX5_init_20 : decode cX5_init 20 = .ok (.aload_n 0, 1) := by decide +kernel
theorem dX5_init_21 : decode cX5_init 21 = .ok (.iload_n 1, 1) := by decide +kernel
theorem dX5_init_22 : decode cX5_init 22 = .ok (.iload_n 2, 1) := by decide +kernel
theorem dX5_init_23 : decode cX5_init 23 = .ok (.imul, 1) := by decide +kernel
theorem dX5_init_24 : decode cX5_init 24 = .ok (.newarray .int, 2) := by decide +kernel
theorem dX5_init_26 : decode cX5_init 26 = .ok (.putfield 21, 3) := by decide +kernel
theorem dX5_init_29 : decode cX5_init 29 = .ok (.return_, 1) := by decide +kernel
theorem dX5_charge_0 : decode cX5_charge 0 = .ok (.aload_n 0, 1) := by decide +kernel
theorem dX5_charge_1 : decode cX5_charge 1 = .ok (.iload_n 1, 1) := by decide +kernel
theorem dX5_charge_2 : decode cX5_charge 2 = .ok (.putfield 9, 3) := by decide +kernel
theorem dX5_charge_5 : decode cX5_charge 5 = .ok (.return_, 1) := by decide +kernel
set_option maxRecDepth 20000 in
theorem ggX5_weigh_X1_depthAt : GoodIn wsX5_weigh wsX1_depthAt := goodIn_r _ [9, 10, 11, 49, 50, 51, 52, 53, 54, 55] (by decide +kernel) (by decide +kernel)
set_option maxRecDepth 20000 in
theorem gX5_weigh_X1_depthAt : GoodIn wsX5_weigh (wsV RX5 25 RX1 yX1_depthAt wsX1_depthAt) := goodIn_app (goodIn_of _ (by decide +kernel)) ggX5_weigh_X1_depthAt
set_option maxRecDepth 20000 in
theorem ggX5_weigh_X5_tinBy : GoodIn wsX5_weigh wsX5_tinBy := goodIn_r _ [15, 16, 17, 18, 8, 19, 20, 11, 21, 22, 23, 24, 25, 49, 50, 51, 52, 53, 54, 55] (by decide +kernel) (by decide +kernel)
set_option maxRecDepth 20000 in
theorem gX5_weigh_X5_tinBy : GoodIn wsX5_weigh (va_wsS RX5 31 yX5_tinBy wsX5_tinBy) := goodIn_app (goodIn_of _ (by decide +kernel)) ggX5_weigh_X5_tinBy
set_option maxRecDepth 20000 in
theorem ggX5_weigh_X5_bestBeside : GoodIn wsX5_weigh wsX5_bestBeside := goodIn_r _ [29, 30, 31, 32, 33, 2, 34, 35, 36, 37, 38, 39, 14, 40, 41, 42, 43, 44, 4, 45, 46, 47, 48] (by decide +kernel) (by decide +kernel)
set_option maxRecDepth 20000 in
theorem gX5_weigh_X5_bestBeside : GoodIn wsX5_weigh (wsV RX5 35 RX5 yX5_bestBeside wsX5_bestBeside) := goodIn_app (goodIn_of _ (by decide +kernel)) ggX5_weigh_X5_bestBeside
set_option maxRecDepth 20000 in
theorem ggX5_weigh_X5_sumFrom : GoodIn wsX5_weigh wsX5_sumFrom := goodIn_r _ [44, 4, 2, 45, 46, 47, 48] (by decide +kernel) (by decide +kernel)
set_option maxRecDepth 20000 in
theorem gX5_weigh_X5_sumFrom : GoodIn wsX5_weigh (wsV RX5 38 RX5 yX5_sumFrom wsX5_sumFrom) := goodIn_app (goodIn_of _ (by decide +kernel)) ggX5_weigh_X5_sumFrom
theorem dX5_weigh_0 : decode cX5_weigh 0 = .ok (.aload_n 0, 1) := by decide +kernel
theorem dX5_weigh_1 : decode cX5_weigh 1 = .ok (.getfield 15, 3) := by decide +kernel
theorem dX5_weigh_4 : decode cX5_weigh 4 = .ok (.iconst 1, 1) := by decide +kernel
theorem dX5_weigh_5 : decode cX5_weigh 5 = .ok (.isub, 1) := by decide +kernel
theorem dX5_weigh_6 : decode cX5_weigh 6 = .ok (.istore 4, 2) := by decide +kernel
theorem dX5_weigh_8 : decode cX5_weigh 8 = .ok (.iload 4, 2) := by decide +kernel
theorem dX5_weigh_10 : decode cX5_weigh 10 = .ok (.iload_n 3, 1) := by decide +kernel
theorem dX5_weigh_11 : decode cX5_weigh 11 = .ok (.if_icmp .lt 103, 3) := by decide +kernel
theorem dX5_weigh_14 : decode cX5_weigh 14 = .ok (.iconst 0, 1) := by decide +kernel
theorem dX5_weigh_15 : decode cX5_weigh 15 = .ok (.istore 5, 2) := by decide +kernel
theorem dX5_weigh_17 : decode cX5_weigh 17 = .ok (.iload 5, 2) := by decide +kernel
theorem dX5_weigh_19 : decode cX5_weigh 19 = .ok (.aload_n 0, 1) := by decide +kernel
theorem dX5_weigh_20 : decode cX5_weigh 20 = .ok (.getfield 18, 3) := by decide +kernel
theorem dX5_weigh_23 : decode cX5_weigh 23 = .ok (.if_icmp .ge 85, 3) := by decide +kernel
theorem dX5_weigh_26 : decode cX5_weigh 26 = .ok (.aload_n 1, 1) := by decide +kernel
theorem dX5_weigh_27 : decode cX5_weigh 27 = .ok (.iload 4, 2) := by decide +kernel
theorem dX5_weigh_29 : decode cX5_weigh 29 = .ok (.iload 5, 2) := by decide +kernel
theorem dX5_weigh_31 : decode cX5_weigh 31 = .ok (.invokevirtual 25, 3) := by decide +kernel
theorem dX5_weigh_34 : decode cX5_weigh 34 = .ok (.aload_n 1, 1) := by decide +kernel
theorem dX5_weigh_35 : decode cX5_weigh 35 = .ok (.iload_n 2, 1) := by decide +kernel
theorem dX5_weigh_36 : decode cX5_weigh 36 = .ok (.iload 4, 2) := by decide +kernel
theorem dX5_weigh_38 : decode cX5_weigh 38 = .ok (.iload 5, 2) := by decide +kernel
theorem dX5_weigh_40 : decode cX5_weigh 40 = .ok (.invokestatic 31, 3) := by decide +kernel
theorem dX5_weigh_43 : decode cX5_weigh 43 = .ok (.aload_n 0, 1) := by decide +kernel
theorem dX5_weigh_44 : decode cX5_weigh 44 = .ok (.getfield 9, 3) := by decide +kernel
theorem dX5_weigh_47 : decode cX5_weigh 47 = .ok (.isub, 1) := by decide +kernel
theorem dX5_weigh_48 : decode cX5_weigh 48 = .ok (.imul, 1) := by decide +kernel
theorem dX5_weigh_49 : decode cX5_weigh 49 = .ok (.istore 6, 2) := by decide +kernel
theorem dX5_weigh_51 : decode cX5_weigh 51 = .ok (.iload 4, 2) := by decide +kernel
theorem dX5_weigh_53 : decode cX5_weigh 53 = .ok (.aload_n 0, 1) := by decide +kernel
theorem dX5_weigh_54 : decode cX5_weigh 54 = .ok (.getfield 15, 3) := by decide +kernel
theorem dX5_weigh_57 : decode cX5_weigh 57 = .ok (.iconst 1, 1) := by decide +kernel
theorem dX5_weigh_58 : decode cX5_weigh 58 = .ok (.isub, 1) := by decide +kernel
theorem dX5_weigh_59 : decode cX5_weigh 59 = .ok (.if_icmp .ge 26, 3) := by decide +kernel
theorem dX5_weigh_62 : decode cX5_weigh 62 = .ok (.iload 6, 2) := by decide +kernel
theorem dX5_weigh_64 : decode cX5_weigh 64 = .ok (.aload_n 0, 1) := by decide +kernel
theorem dX5_weigh_65 : decode cX5_weigh 65 = .ok (.iload 4, 2) := by decide +kernel
theorem dX5_weigh_67 : decode cX5_weigh 67 = .ok (.iconst 1, 1) := by decide +kernel
theorem dX5_weigh_68 : decode cX5_weigh 68 = .ok (.iadd, 1) := by decide +kernel
theorem dX5_weigh_69 : decode cX5_weigh 69 = .ok (.aload_n 0, 1) := by decide +kernel
theorem dX5_weigh_70 : decode cX5_weigh 70 = .ok (.iload 4, 2) := by decide +kernel
theorem dX5_weigh_72 : decode cX5_weigh 72 = .ok (.iconst 1, 1) := by decide +kernel
theorem dX5_weigh_73 : decode cX5_weigh 73 = .ok (.iadd, 1) := by decide +kernel
theorem dX5_weigh_74 : decode cX5_weigh 74 = .ok (.iload 5, 2) := by decide +kernel
theorem dX5_weigh_76 : decode cX5_weigh 76 = .ok (.invokevirtual 35, 3) := by decide +kernel
theorem dX5_weigh_79 : decode cX5_weigh 79 = .ok (.invokevirtual 38, 3) := by decide +kernel
theorem dX5_weigh_82 : decode cX5_weigh 82 = .ok (.iadd, 1) := by decide +kernel
theorem dX5_weigh_83 : decode cX5_weigh 83 = .ok (.istore 6, 2) := by decide +kernel
theorem dX5_weigh_85 : decode cX5_weigh 85 = .ok (.aload_n 0, 1) := by decide +kernel
theorem dX5_weigh_86 : decode cX5_weigh 86 = .ok (.getfield 21, 3) := by decide +kernel
theorem dX5_weigh_89 : decode cX5_weigh 89 = .ok (.iload 4, 2) := by decide +kernel
theorem dX5_weigh_91 : decode cX5_weigh 91 = .ok (.aload_n 0, 1) := by decide +kernel
theorem dX5_weigh_92 : decode cX5_weigh 92 = .ok (.getfield 18, 3) := by decide +kernel
theorem dX5_weigh_95 : decode cX5_weigh 95 = .ok (.imul, 1) := by decide +kernel
theorem dX5_weigh_96 : decode cX5_weigh 96 = .ok (.iload 5, 2) := by decide +kernel
theorem dX5_weigh_98 : decode cX5_weigh 98 = .ok (.iadd, 1) := by decide +kernel
theorem dX5_weigh_99 : decode cX5_weigh 99 = .ok (.iload 6, 2) := by decide +kernel
theorem dX5_weigh_101 : decode cX5_weigh 101 = .ok (.iastore, 1) := by decide +kernel
theorem dX5_weigh_102 : decode cX5_weigh 102 = .ok (.iinc 5 1, 3) := by decide +kernel
theorem dX5_weigh_105 : decode cX5_weigh 105 = .ok (.goto (-88), 3) := by decide +kernel
theorem dX5_weigh_108 : decode cX5_weigh 108 = .ok (.iinc 4 (-1), 3) := by decide +kernel
theorem dX5_weigh_111 : decode cX5_weigh 111 = .ok (.goto (-103), 3) := by decide +kernel
theorem dX5_weigh_114 : decode cX5_weigh 114 = .ok (.return_, 1) := by decide +kernel
theorem dX5_sumFrom_0 : decode cX5_sumFrom 0 = .ok (.aload_n 0, 1) := by decide +kernel
theorem dX5_sumFrom_1 : decode cX5_sumFrom 1 = .ok (.getfield 21, 3) := by decide +kernel
theorem dX5_sumFrom_4 : decode cX5_sumFrom 4 = .ok (.iload_n 1, 1) := by decide +kernel
theorem dX5_sumFrom_5 : decode cX5_sumFrom 5 = .ok (.aload_n 0, 1) := by decide +kernel
theorem dX5_sumFrom_6 : decode cX5_sumFrom 6 = .ok (.getfield 18, 3) := by decide +kernel
theorem dX5_sumFrom_9 : decode cX5_sumFrom 9 = .ok (.imul, 1) := by decide +kernel
theorem dX5_sumFrom_10 : decode cX5_sumFrom 10 = .ok (.iload_n 2, 1) := by decide +kernel
theorem dX5_sumFrom_11 : decode cX5_sumFrom 11 = .ok (.iadd, 1) := by decide +kernel
theorem dX5_sumFrom_12 : decode cX5_sumFrom 12 = .ok (.iaload, 1) := by decide +kernel
theorem dX5_sumFrom_13 : decode cX5_sumFrom 13 = .ok (.ireturn, 1) := by decide +kernel
set_option maxRecDepth 20000 in
theorem ggX5_startPlace_X5_bestOf : GoodIn wsX5_startPlace wsX5_bestOf := goodIn_r _ [6, 7, 8, 9, 5, 10, 11, 1, 23, 24, 25, 26] (by decide +kernel) (by decide +kernel)
set_option maxRecDepth 20000 in
theorem gX5_startPlace_X5_bestOf : GoodIn wsX5_startPlace (wsV RX5 41 RX5 yX5_bestOf wsX5_bestOf) := goodIn_app (goodIn_of _ (by decide +kernel)) ggX5_startPlace_X5_bestOf
set_option maxRecDepth 20000 in
theorem ggX5_startPlace_X5_bestBeside : GoodIn wsX5_startPlace wsX5_bestBeside := goodIn_r _ [15, 16, 17, 18, 19, 1, 20, 21, 22, 2, 3, 4, 5, 6, 7, 8, 9, 10, 11, 23, 24, 25, 26] (by decide +kernel) (by decide +kernel)
set_option maxRecDepth 20000 in
theorem gX5_startPlace_X5_bestBeside : GoodIn wsX5_startPlace (wsV RX5 35 RX5 yX5_bestBeside wsX5_bestBeside) := goodIn_app (goodIn_of _ (by decide +kernel)) ggX5_startPlace_X5_bestBeside
theorem dX5_startPlace_0 : decode cX5_startPlace 0 = .ok (.iload_n 2, 1) := by decide +kernel
theorem dX5_startPlace_1 : decode cX5_startPlace 1 = .ok (.iconst (-1), 1) := by decide +kernel
theorem dX5_startPlace_2 : decode cX5_startPlace 2 = .ok (.if_icmp .ne 18, 3) := by decide +kernel
theorem dX5_startPlace_5 : decode cX5_startPlace 5 = .ok (.aload_n 0, 1) := by decide +kernel
theorem dX5_startPlace_6 : decode cX5_startPlace 6 = .ok (.iload_n 1, 1) := by decide +kernel
theorem dX5_startPlace_7 : decode cX5_startPlace 7 = .ok (.iconst 0, 1) := by decide +kernel
theorem dX5_startPlace_8 : decode cX5_startPlace 8 = .ok (.aload_n 0, 1) := by decide +kernel
theorem dX5_startPlace_9 : decode cX5_startPlace 9 = .ok (.getfield 18, 3) := by decide +kernel
theorem dX5_startPlace_12 : decode cX5_startPlace 12 = .ok (.iconst 1, 1) := by decide +kernel
theorem dX5_startPlace_13 : decode cX5_startPlace 13 = .ok (.isub, 1) := by decide +kernel
theorem dX5_startPlace_14 : decode cX5_startPlace 14 = .ok (.invokevirtual 41, 3) := by decide +kernel
theorem dX5_startPlace_17 : decode cX5_startPlace 17 = .ok (.goto 9, 3) := by decide +kernel
theorem dX5_startPlace_20 : decode cX5_startPlace 20 = .ok (.aload_n 0, 1) := by decide +kernel
theorem dX5_startPlace_21 : decode cX5_startPlace 21 = .ok (.iload_n 1, 1) := by decide +kernel
theorem dX5_startPlace_22 : decode cX5_startPlace 22 = .ok (.iload_n 2, 1) := by decide +kernel
theorem dX5_startPlace_23 : decode cX5_startPlace 23 = .ok (.invokevirtual 35, 3) := by decide +kernel
theorem dX5_startPlace_26 : decode cX5_startPlace 26 = .ok (.ireturn, 1) := by decide +kernel
set_option maxRecDepth 20000 in
theorem ggX5_bestBeside_X5_bestOf : GoodIn wsX5_bestBeside wsX5_bestOf := goodIn_r _ [13, 14, 15, 16, 12, 17, 18, 5, 19, 20, 21, 22] (by decide +kernel) (by decide +kernel)
set_option maxRecDepth 20000 in
theorem gX5_bestBeside_X5_bestOf : GoodIn wsX5_bestBeside (wsV RX5 41 RX5 yX5_bestOf wsX5_bestOf) := goodIn_app (goodIn_of _ (by decide +kernel)) ggX5_bestBeside_X5_bestOf
theorem dX5_bestBeside_0 : decode cX5_bestBeside 0 = .ok (.aload_n 0, 1) := by decide +kernel
theorem dX5_bestBeside_1 : decode cX5_bestBeside 1 = .ok (.iload_n 1, 1) := by decide +kernel
theorem dX5_bestBeside_2 : decode cX5_bestBeside 2 = .ok (.iconst 0, 1) := by decide +kernel
theorem dX5_bestBeside_3 : decode cX5_bestBeside 3 = .ok (.iload_n 2, 1) := by decide +kernel
theorem dX5_bestBeside_4 : decode cX5_bestBeside 4 = .ok (.iconst 1, 1) := by decide +kernel
theorem dX5_bestBeside_5 : decode cX5_bestBeside 5 = .ok (.isub, 1) := by decide +kernel
theorem dX5_bestBeside_6 : decode cX5_bestBeside 6 = .ok (.invokestatic 45, 3) := by decide +kernel
theorem dX5_bestBeside_9 : decode cX5_bestBeside 9 = .ok (.aload_n 0, 1) := by decide +kernel
theorem dX5_bestBeside_10 : decode cX5_bestBeside 10 = .ok (.getfield 18, 3) := by decide +kernel
theorem dX5_bestBeside_13 : decode cX5_bestBeside 13 = .ok (.iconst 1, 1) := by decide +kernel
theorem dX5_bestBeside_14 : decode cX5_bestBeside 14 = .ok (.isub, 1) := by decide +kernel
theorem dX5_bestBeside_15 : decode cX5_bestBeside 15 = .ok (.iload_n 2, 1) := by decide +kernel
theorem dX5_bestBeside_16 : decode cX5_bestBeside 16 = .ok (.iconst 1, 1) := by decide +kernel
theorem dX5_bestBeside_17 : decode cX5_bestBeside 17 = .ok (.iadd, 1) := by decide +kernel
theorem dX5_bestBeside_18 : decode cX5_bestBeside 18 = .ok (.invokestatic 50, 3) := by decide +kernel
theorem dX5_bestBeside_21 : decode cX5_bestBeside 21 = .ok (.invokevirtual 41, 3) := by decide +kernel
theorem dX5_bestBeside_24 : decode cX5_bestBeside 24 = .ok (.ireturn, 1) := by decide +kernel
set_option maxRecDepth 20000 in
theorem ggX5_bestOf_X5_sumFrom : GoodIn wsX5_bestOf wsX5_sumFrom := goodIn_r _ [5, 6, 7, 8, 9, 10, 11] (by decide +kernel) (by decide +kernel)
set_option maxRecDepth 20000 in
theorem gX5_bestOf_X5_sumFrom : GoodIn wsX5_bestOf (wsV RX5 38 RX5 yX5_sumFrom wsX5_sumFrom) := goodIn_app (goodIn_of _ (by decide +kernel)) ggX5_bestOf_X5_sumFrom
theorem dX5_bestOf_0 : decode cX5_bestOf 0 = .ok (.iload_n 2, 1) := by decide +kernel
theorem dX5_bestOf_1 : decode cX5_bestOf 1 = .ok (.istore 4, 2) := by decide +kernel
theorem dX5_bestOf_3 : decode cX5_bestOf 3 = .ok (.iload_n 2, 1) := by decide +kernel
theorem dX5_bestOf_4 : decode cX5_bestOf 4 = .ok (.iconst 1, 1) := by decide +kernel
theorem dX5_bestOf_5 : decode cX5_bestOf 5 = .ok (.iadd, 1) := by decide +kernel
theorem dX5_bestOf_6 : decode cX5_bestOf 6 = .ok (.istore 5, 2) := by decide +kernel
theorem dX5_bestOf_8 : decode cX5_bestOf 8 = .ok (.iload 5, 2) := by decide +kernel
theorem dX5_bestOf_10 : decode cX5_bestOf 10 = .ok (.iload_n 3, 1) := by decide +kernel
theorem dX5_bestOf_11 : decode cX5_bestOf 11 = .ok (.if_icmp .gt 30, 3) := by decide +kernel
theorem dX5_bestOf_14 : decode cX5_bestOf 14 = .ok (.aload_n 0, 1) := by decide +kernel
theorem dX5_bestOf_15 : decode cX5_bestOf 15 = .ok (.iload_n 1, 1) := by decide +kernel
theorem dX5_bestOf_16 : decode cX5_bestOf 16 = .ok (.iload 5, 2) := by decide +kernel
theorem dX5_bestOf_18 : decode cX5_bestOf 18 = .ok (.invokevirtual 38, 3) := by decide +kernel
theorem dX5_bestOf_21 : decode cX5_bestOf 21 = .ok (.aload_n 0, 1) := by decide +kernel
theorem dX5_bestOf_22 : decode cX5_bestOf 22 = .ok (.iload_n 1, 1) := by decide +kernel
theorem dX5_bestOf_23 : decode cX5_bestOf 23 = .ok (.iload 4, 2) := by decide +kernel
theorem dX5_bestOf_25 : decode cX5_bestOf 25 = .ok (.invokevirtual 38, 3) := by decide +kernel
theorem dX5_bestOf_28 : decode cX5_bestOf 28 = .ok (.if_icmp .le 7, 3) := by decide +kernel
theorem dX5_bestOf_31 : decode cX5_bestOf 31 = .ok (.iload 5, 2) := by decide +kernel
theorem dX5_bestOf_33 : decode cX5_bestOf 33 = .ok (.istore 4, 2) := by decide +kernel
theorem dX5_bestOf_35 : decode cX5_bestOf 35 = .ok (.iinc 5 1, 3) := by decide +kernel
theorem dX5_bestOf_38 : decode cX5_bestOf 38 = .ok (.goto (-30), 3) := by decide +kernel
theorem dX5_bestOf_41 : decode cX5_bestOf 41 = .ok (.iload 4, 2) := by decide +kernel
theorem dX5_bestOf_43 : decode cX5_bestOf 43 = .ok (.ireturn, 1) := by decide +kernel
set_option maxRecDepth 20000 in
theorem ggX5_tinBy_X1_leastAt : GoodIn wsX5_tinBy wsX1_leastAt := goodIn_r _ [5, 6, 7, 13, 14, 15, 16, 17, 18, 19] (by decide +kernel) (by decide +kernel)
set_option maxRecDepth 20000 in
theorem gX5_tinBy_X1_leastAt : GoodIn wsX5_tinBy (wsV RX5 53 RX1 yX1_leastAt wsX1_leastAt) := goodIn_app (goodIn_of _ (by decide +kernel)) ggX5_tinBy_X1_leastAt
set_option maxRecDepth 20000 in
theorem ggX5_tinBy_X1_greatestAt : GoodIn wsX5_tinBy wsX1_greatestAt := goodIn_r _ [11, 12, 7, 13, 14, 15, 16, 17, 18, 19] (by decide +kernel) (by decide +kernel)
set_option maxRecDepth 20000 in
theorem gX5_tinBy_X1_greatestAt : GoodIn wsX5_tinBy (wsV RX5 56 RX1 yX1_greatestAt wsX1_greatestAt) := goodIn_app (goodIn_of _ (by decide +kernel)) ggX5_tinBy_X1_greatestAt
theorem dX5_tinBy_0 : decode cX5_tinBy 0 = .ok (.iload_n 1, 1) := by decide +kernel
theorem dX5_tinBy_1 : decode cX5_tinBy 1 = .ok (.lookupswitch 41 #[(0, 27), (1, 34)], 27) := by decide +kernel
theorem dX5_tinBy_28 : decode cX5_tinBy 28 = .ok (.aload_n 0, 1) := by decide +kernel
theorem dX5_tinBy_29 : decode cX5_tinBy 29 = .ok (.iload_n 2, 1) := by decide +kernel
theorem dX5_tinBy_30 : decode cX5_tinBy 30 = .ok (.iload_n 3, 1) := by decide +kernel
theorem dX5_tinBy_31 : decode cX5_tinBy 31 = .ok (.invokevirtual 53, 3) := by decide +kernel
theorem dX5_tinBy_34 : decode cX5_tinBy 34 = .ok (.ireturn, 1) := by decide +kernel
theorem dX5_tinBy_35 : decode cX5_tinBy 35 = .ok (.aload_n 0, 1) := by decide +kernel
theorem dX5_tinBy_36 : decode cX5_tinBy 36 = .ok (.iload_n 2, 1) := by decide +kernel
theorem dX5_tinBy_37 : decode cX5_tinBy 37 = .ok (.iload_n 3, 1) := by decide +kernel
theorem dX5_tinBy_38 : decode cX5_tinBy 38 = .ok (.invokevirtual 56, 3) := by decide +kernel
theorem dX5_tinBy_41 : decode cX5_tinBy 41 = .ok (.ireturn, 1) := by decide +kernel
theorem dX5_tinBy_42 : decode cX5_tinBy 42 = .ok (.aload_n 0, 1) := by decide +kernel
theorem dX5_tinBy_43 : decode cX5_tinBy 43 = .ok (.iload_n 2, 1) := by decide +kernel
theorem dX5_tinBy_44 : decode cX5_tinBy 44 = .ok (.iload_n 3, 1) := by decide +kernel
theorem dX5_tinBy_45 : decode cX5_tinBy 45 = .ok (.invokevirtual 53, 3) := by decide +kernel
theorem dX5_tinBy_48 : decode cX5_tinBy 48 = .ok (.aload_n 0, 1) := by decide +kernel
theorem dX5_tinBy_49 : decode cX5_tinBy 49 = .ok (.iload_n 2, 1) := by decide +kernel
theorem dX5_tinBy_50 : decode cX5_tinBy 50 = .ok (.iload_n 3, 1) := by decide +kernel
theorem dX5_tinBy_51 : decode cX5_tinBy 51 = .ok (.invokevirtual 56, 3) := by decide +kernel
theorem dX5_tinBy_54 : decode cX5_tinBy 54 = .ok (.iadd, 1) := by decide +kernel
theorem dX5_tinBy_55 : decode cX5_tinBy 55 = .ok (.iconst 2, 1) := by decide +kernel
theorem dX5_tinBy_56 : decode cX5_tinBy 56 = .ok (.idiv, 1) := by decide +kernel
theorem dX5_tinBy_57 : decode cX5_tinBy 57 = .ok (.ireturn, 1) := by decide +kernel
theorem dX6_init_0 : decode cX6_init 0 = .ok (.aload_n 0, 1) := by decide +kernel
theorem dX6_init_1 : decode cX6_init 1 = .ok (.invokespecial 3, 3) := by decide +kernel
theorem dX6_init_4 : decode cX6_init 4 = .ok (.aload_n 0, 1) := by decide +kernel
theorem dX6_init_5 : decode cX6_init 5 = .ok (.iconst 0, 1) := by decide +kernel
theorem dX6_init_6 : decode cX6_init 6 = .ok (.putfield 9, 3) := by decide +kernel
theorem dX6_init_9 : decode cX6_init 9 = .ok (.aload_n 0, 1) := by decide +kernel
theorem dX6_init_10 : decode cX6_init 10 = .ok (.iconst 0, 1) := by decide +kernel
theorem dX6_init_11 : decode cX6_init 11 = .ok (.putfield 15, 3) := by decide +kernel
theorem dX6_init_14 : decode cX6_init 14 = .ok (.aload_n 0, 1) := by decide +kernel
theorem dX6_init_15 : decode cX6_init 15 = .ok (.iload_n 1, 1) := by decide +kernel
theorem dX6_init_16 : decode cX6_init 16 = .ok (.newarray .int, 2) := by decide +kernel
theorem dX6_init_18 : decode cX6_init 18 = .ok (.putfield 18, 3) := by decide +kernel
theorem dX6_init_21 : decode cX6_init 21 = .ok (.aload_n 0, 1) := by decide +kernel
theorem dX6_init_22 : decode cX6_init 22 = .ok (.iload_n 1, 1) := by decide +kernel
theorem dX6_init_23 : decode cX6_init 23 = .ok (.newarray .int, 2) := by decide +kernel
theorem dX6_init_25 : decode cX6_init 25 = .ok (.putfield 22, 3) := by decide +kernel
theorem dX6_init_28 : decode cX6_init 28 = .ok (.aload_n 0, 1) := by decide +kernel
theorem dX6_init_29 : decode cX6_init 29 = .ok (.iload_n 1, 1) := by decide +kernel
theorem dX6_init_30 : decode cX6_init 30 = .ok (.newarray .boolean, 2) := by decide +kernel
theorem dX6_init_32 : decode cX6_init 32 = .ok (.putfield 25, 3) := by decide +kernel
theorem dX6_init_35 : decode cX6_init 35 = .ok (.aload_n 0, 1) := by decide +kernel
theorem dX6_init_36 : decode cX6_init 36 = .ok (.iload_n 1, 1) := by decide +kernel
theorem dX6_init_37 : decode cX6_init 37 = .ok (.newarray .boolean, 2) := by decide +kernel
theorem dX6_init_39 : decode cX6_init 39 = .ok (.putfield 29, 3) := by decide +kernel
theorem dX6_init_42 : decode cX6_init 42 = .ok (.return_, 1) := by decide +kernel
theorem dX6_nextRow_0 : decode cX6_nextRow 0 = .ok (.aload_n 0, 1) := by decide +kernel
theorem dX6_nextRow_1 : decode cX6_nextRow 1 = .ok (.getfield 9, 3) := by decide +kernel
theorem dX6_nextRow_4 : decode cX6_nextRow 4 = .ok (.ireturn, 1) := by decide +kernel
theorem dX6_dredgeRow_0 : decode cX6_dredgeRow 0 = .ok (.aload_n 0, 1) := by decide +kernel
theorem dX6_dredgeRow_1 : decode cX6_dredgeRow 1 = .ok (.getfield 9, 3) := by decide +kernel
theorem dX6_dredgeRow_4 : decode cX6_dredgeRow 4 = .ok (.ifCond .le 12, 3) := by decide +kernel
theorem dX6_dredgeRow_7 : decode cX6_dredgeRow 7 = .ok (.aload_n 0, 1) := by decide +kernel
theorem dX6_dredgeRow_8 : decode cX6_dredgeRow 8 = .ok (.getfield 9, 3) := by decide +kernel
theorem dX6_dredgeRow_11 : decode cX6_dredgeRow 11 = .ok (.iconst 1, 1) := by decide +kernel
theorem dX6_dredgeRow_12 : decode cX6_dredgeRow 12 = .ok (.isub, 1) := by decide +kernel
theorem dX6_dredgeRow_13 : decode cX6_dredgeRow 13 = .ok (.goto 4, 3) := by decide +kernel
theorem dX6_dredgeRow_16 : decode cX6_dredgeRow 16 = .ok (.iconst (-1), 1) := by decide +kernel
theorem dX6_dredgeRow_17 : decode cX6_dredgeRow 17 = .ok (.ireturn, 1) := by decide +kernel
theorem dX6_dredgePlace_0 : decode cX6_dredgePlace 0 = .ok (.aload_n 0, 1) := by decide +kernel
theorem dX6_dredgePlace_1 : decode cX6_dredgePlace 1 = .ok (.getfield 9, 3) := by decide +kernel
theorem dX6_dredgePlace_4 : decode cX6_dredgePlace 4 = .ok (.ifCond .le 17, 3) := by decide +kernel
theorem dX6_dredgePlace_7 : decode cX6_dredgePlace 7 = .ok (.aload_n 0, 1) := by decide +kernel
theorem dX6_dredgePlace_8 : decode cX6_dredgePlace 8 = .ok (.getfield 18, 3) := by decide +kernel
theorem dX6_dredgePlace_11 : decode cX6_dredgePlace 11 = .ok (.aload_n 0, 1) := by decide +kernel
theorem dX6_dredgePlace_12 : decode cX6_dredgePlace 12 = .ok (.getfield 9, 3) := by decide +kernel
theorem dX6_dredgePlace_15 : decode cX6_dredgePlace 15 = .ok (.iconst 1, 1) := by decide +kernel
theorem dX6_dredgePlace_16 : decode cX6_dredgePlace 16 = .ok (.isub, 1) := by decide +kernel
theorem dX6_dredgePlace_17 : decode cX6_dredgePlace 17 = .ok (.iaload, 1) := by decide +kernel
theorem dX6_dredgePlace_18 : decode cX6_dredgePlace 18 = .ok (.goto 4, 3) := by decide +kernel
theorem dX6_dredgePlace_21 : decode cX6_dredgePlace 21 = .ok (.iconst (-1), 1) := by decide +kernel
theorem dX6_dredgePlace_22 : decode cX6_dredgePlace 22 = .ok (.ireturn, 1) := by decide +kernel
set_option maxRecDepth 20000 in
theorem ggX6_reaches_X6_dredgePlace : GoodIn wsX6_reaches wsX6_dredgePlace := goodIn_r _ [10, 1, 11, 12, 13, 14, 15, 16, 17] (by decide +kernel) (by decide +kernel)
set_option maxRecDepth 20000 in
theorem gX6_reaches_X6_dredgePlace : GoodIn wsX6_reaches (wsV RX6 32 RX6 yX6_dredgePlace wsX6_dredgePlace) := goodIn_app (goodIn_of _ (by decide +kernel)) ggX6_reaches_X6_dredgePlace
theorem dX6_reaches_0 : decode cX6_reaches 0 = .ok (.aload_n 0, 1) := by decide +kernel
theorem dX6_reaches_1 : decode cX6_reaches 1 = .ok (.getfield 9, 3) := by decide +kernel
theorem dX6_reaches_4 : decode cX6_reaches 4 = .ok (.ifCond .eq 16, 3) := by decide +kernel
theorem dX6_reaches_7 : decode cX6_reaches 7 = .ok (.iload_n 1, 1) := by decide +kernel
theorem dX6_reaches_8 : decode cX6_reaches 8 = .ok (.aload_n 0, 1) := by decide +kernel
theorem dX6_reaches_9 : decode cX6_reaches 9 = .ok (.invokevirtual 32, 3) := by decide +kernel
theorem dX6_reaches_12 : decode cX6_reaches 12 = .ok (.isub, 1) := by decide +kernel
theorem dX6_reaches_13 : decode cX6_reaches 13 = .ok (.invokestatic 36, 3) := by decide +kernel
theorem dX6_reaches_16 : decode cX6_reaches 16 = .ok (.iconst 1, 1) := by decide +kernel
theorem dX6_reaches_17 : decode cX6_reaches 17 = .ok (.if_icmp .gt 7, 3) := by decide +kernel
theorem dX6_reaches_20 : decode cX6_reaches 20 = .ok (.iconst 1, 1) := by decide +kernel
theorem dX6_reaches_21 : decode cX6_reaches 21 = .ok (.goto 4, 3) := by decide +kernel
theorem dX6_reaches_24 : decode cX6_reaches 24 = .ok (.iconst 0, 1) := by decide +kernel
theorem dX6_reaches_25 : decode cX6_reaches 25 = .ok (.ireturn, 1) := by decide +kernel
set_option maxRecDepth 20000 in
theorem ggX6_isDug_X7_within : GoodIn wsX6_isDug wsX7_within := goodIn_r _ [5] (by decide +kernel) (by decide +kernel)
set_option maxRecDepth 20000 in
theorem gX6_isDug_X7_within_n42 : GoodIn wsX6_isDug (wsX7_within) := ggX6_isDug_X7_within
theorem dX6_isDug_0 : decode cX6_isDug 0 = .ok (.iload_n 1, 1) := by decide +kernel
theorem dX6_isDug_1 : decode cX6_isDug 1 = .ok (.iconst 0, 1) := by decide +kernel
theorem dX6_isDug_2 : decode cX6_isDug 2 = .ok (.aload_n 0, 1) := by decide +kernel
theorem dX6_isDug_3 : decode cX6_isDug 3 = .ok (.getfield 9, 3) := by decide +kernel
theorem dX6_isDug_6 : decode cX6_isDug 6 = .ok (.iconst 1, 1) := by decide +kernel
theorem dX6_isDug_7 : decode cX6_isDug 7 = .ok (.isub, 1) := by decide +kernel
theorem dX6_isDug_8 : decode cX6_isDug 8 = .ok (.invokestatic 42, 3) := by decide +kernel
theorem dX6_isDug_11 : decode cX6_isDug 11 = .ok (.ifCond .eq 17, 3) := by decide +kernel
theorem dX6_isDug_14 : decode cX6_isDug 14 = .ok (.aload_n 0, 1) := by decide +kernel
theorem dX6_isDug_15 : decode cX6_isDug 15 = .ok (.getfield 18, 3) := by decide +kernel
theorem dX6_isDug_18 : decode cX6_isDug 18 = .ok (.iload_n 1, 1) := by decide +kernel
theorem dX6_isDug_19 : decode cX6_isDug 19 = .ok (.iaload, 1) := by decide +kernel
theorem dX6_isDug_20 : decode cX6_isDug 20 = .ok (.iload_n 2, 1) := by decide +kernel
theorem dX6_isDug_21 : decode cX6_isDug 21 = .ok (.if_icmp .ne 7, 3) := by decide +kernel
theorem dX6_isDug_24 : decode cX6_isDug 24 = .ok (.iconst 1, 1) := by decide +kernel
theorem dX6_isDug_25 : decode cX6_isDug 25 = .ok (.goto 4, 3) := by decide +kernel
theorem dX6_isDug_28 : decode cX6_isDug 28 = .ok (.iconst 0, 1) := by decide +kernel
theorem dX6_isDug_29 : decode cX6_isDug 29 = .ok (.ireturn, 1) := by decide +kernel
set_option maxRecDepth 20000 in
theorem ggX6_isLaidBack_X6_isDug : GoodIn wsX6_isLaidBack wsX6_isDug := goodIn_r _ [6, 7, 8, 9, 10, 11, 12, 13, 14, 15, 16, 17] (by decide +kernel) (by decide +kernel)
set_option maxRecDepth 20000 in
theorem gX6_isLaidBack_X6_isDug : GoodIn wsX6_isLaidBack (wsV RX6 46 RX6 yX6_isDug wsX6_isDug) := goodIn_app (goodIn_of _ (by decide +kernel)) ggX6_isLaidBack_X6_isDug
theorem dX6_isLaidBack_0 : decode cX6_isLaidBack 0 = .ok (.aload_n 0, 1) := by decide +kernel
theorem dX6_isLaidBack_1 : decode cX6_isLaidBack 1 = .ok (.iload_n 1, 1) := by decide +kernel
theorem dX6_isLaidBack_2 : decode cX6_isLaidBack 2 = .ok (.iload_n 2, 1) := by decide +kernel
theorem dX6_isLaidBack_3 : decode cX6_isLaidBack 3 = .ok (.invokevirtual 46, 3) := by decide +kernel
theorem dX6_isLaidBack_6 : decode cX6_isLaidBack 6 = .ok (.ifCond .eq 16, 3) := by decide +kernel
theorem dX6_isLaidBack_9 : decode cX6_isLaidBack 9 = .ok (.aload_n 0, 1) := by decide +kernel
theorem dX6_isLaidBack_10 : decode cX6_isLaidBack 10 = .ok (.getfield 25, 3) := by decide +kernel
theorem dX6_isLaidBack_13 : decode cX6_isLaidBack 13 = .ok (.iload_n 1, 1) := by decide +kernel
theorem dX6_isLaidBack_14 : decode cX6_isLaidBack 14 = .ok (.baload, 1) := by decide +kernel
theorem dX6_isLaidBack_15 : decode cX6_isLaidBack 15 = .ok (.ifCond .eq 7, 3) := by decide +kernel
theorem dX6_isLaidBack_18 : decode cX6_isLaidBack 18 = .ok (.iconst 1, 1) := by decide +kernel
theorem dX6_isLaidBack_19 : decode cX6_isLaidBack 19 = .ok (.goto 4, 3) := by decide +kernel
theorem dX6_isLaidBack_22 : decode cX6_isLaidBack 22 = .ok (.iconst 0, 1) := by decide +kernel
theorem dX6_isLaidBack_23 : decode cX6_isLaidBack 23 = .ok (.ireturn, 1) := by decide +kernel
theorem dX6_laidBackCount_0 : decode cX6_laidBackCount 0 = .ok (.aload_n 0, 1) := by decide +kernel
theorem dX6_laidBackCount_1 : decode cX6_laidBackCount 1 = .ok (.getfield 15, 3) := by decide +kernel
theorem dX6_laidBackCount_4 : decode cX6_laidBackCount 4 = .ok (.ireturn, 1) := by decide +kernel
theorem dX6_goTo_0 : decode cX6_goTo 0 = .ok (.aload_n 0, 1) := by decide +kernel
theorem dX6_goTo_1 : decode cX6_goTo 1 = .ok (.getfield 9, 3) := by decide +kernel
theorem dX6_goTo_4 : decode cX6_goTo 4 = .ok (.aload_n 0, 1) := by decide +kernel
theorem dX6_goTo_5 : decode cX6_goTo 5 = .ok (.getfield 18, 3) := by decide +kernel
theorem dX6_goTo_8 : decode cX6_goTo 8 = .ok (.arraylength, 1) := by decide +kernel
theorem dX6_goTo_9 : decode cX6_goTo 9 = .ok (.if_icmp .ge 33, 3) := by decide +kernel
theorem dX6_goTo_12 : decode cX6_goTo 12 = .ok (.aload_n 0, 1) := by decide +kernel
theorem dX6_goTo_13 : decode cX6_goTo 13 = .ok (.getfield 18, 3) := by decide +kernel
theorem dX6_goTo_16 : decode cX6_goTo 16 = .ok (.aload_n 0, 1) := by decide +kernel
theorem dX6_goTo_17 : decode cX6_goTo 17 = .ok (.getfield 9, 3) := by decide +kernel
theorem dX6_goTo_20 : decode cX6_goTo 20 = .ok (.iload_n 1, 1) := by decide +kernel
theorem dX6_goTo_21 : decode cX6_goTo 21 = .ok (.iastore, 1) := by decide +kernel
theorem dX6_goTo_22 : decode cX6_goTo 22 = .ok (.aload_n 0, 1) := by decide +kernel
theorem dX6_goTo_23 : decode cX6_goTo 23 = .ok (.getfield 22, 3) := by decide +kernel
theorem dX6_goTo_26 : decode cX6_goTo 26 = .ok (.aload_n 0, 1) := by decide +kernel
theorem dX6_goTo_27 : decode cX6_goTo 27 = .ok (.getfield 9, 3) := by decide +kernel
theorem dX6_goTo_30 : decode cX6_goTo 30 = .ok (.iload_n 2, 1) := by decide +kernel
theorem dX6_goTo_31 : decode cX6_goTo 31 = .ok (.iastore, 1) := by decide +kernel
theorem dX6_goTo_32 : decode cX6_goTo 32 = .ok (.aload_n 0, 1) := by decide +kernel
theorem dX6_goTo_33 : decode cX6_goTo 33 = .ok (.dup, 1) := by decide +kernel
theorem dX6_goTo_34 : decode cX6_goTo 34 = .ok (.getfield 9, 3) := by decide +kernel
end
section
theorem dX6_goTo_37 : decode cX6_goTo 37 = .ok (.iconst 1, 1) := by decide +kernel
theorem dX6_goTo_38 : decode cX6_goTo 38 = .ok (.iadd, 1) := by decide +kernel
theorem dX6_goTo_39 : decode cX6_goTo 39 = .ok (.putfield 9, 3) := by decide +kernel
theorem dX6_goTo_42 : decode cX6_goTo 42 = .ok (.return_, 1) := by decide +kernel
set_option maxRecDepth 20000 in
theorem ggX6_layBack_X6_isDug : GoodIn wsX6_layBack wsX6_isDug := goodIn_r _ [7, 8, 9, 10, 11, 12, 17, 18, 19, 20, 21, 22] (by decide +kernel) (by decide +kernel)
set_option maxRecDepth 20000 in
theorem gX6_layBack_X6_isDug : GoodIn wsX6_layBack (wsV RX6 46 RX6 yX6_isDug wsX6_isDug) := goodIn_app (goodIn_of _ (by decide +kernel)) ggX6_layBack_X6_isDug
set_option maxRecDepth 20000 in
theorem ggX6_layBack_X6_dredgeRow : GoodIn wsX6_layBack wsX6_dredgeRow := goodIn_r _ [16, 8, 17, 18, 19, 20, 21, 22] (by decide +kernel) (by decide +kernel)
set_option maxRecDepth 20000 in
theorem gX6_layBack_X6_dredgeRow : GoodIn wsX6_layBack (wsV RX6 50 RX6 yX6_dredgeRow wsX6_dredgeRow) := goodIn_app (goodIn_of _ (by decide +kernel)) ggX6_layBack_X6_dredgeRow
theorem dX6_layBack_0 : decode cX6_layBack 0 = .ok (.aload_n 0, 1) := by decide +kernel
theorem dX6_layBack_1 : decode cX6_layBack 1 = .ok (.iload_n 1, 1) := by decide +kernel
theorem dX6_layBack_2 : decode cX6_layBack 2 = .ok (.iload_n 2, 1) := by decide +kernel
theorem dX6_layBack_3 : decode cX6_layBack 3 = .ok (.invokevirtual 46, 3) := by decide +kernel
theorem dX6_layBack_6 : decode cX6_layBack 6 = .ok (.ifCond .eq 22, 3) := by decide +kernel
theorem dX6_layBack_9 : decode cX6_layBack 9 = .ok (.aload_n 0, 1) := by decide +kernel
theorem dX6_layBack_10 : decode cX6_layBack 10 = .ok (.getfield 25, 3) := by decide +kernel
theorem dX6_layBack_13 : decode cX6_layBack 13 = .ok (.iload_n 1, 1) := by decide +kernel
theorem dX6_layBack_14 : decode cX6_layBack 14 = .ok (.baload, 1) := by decide +kernel
theorem dX6_layBack_15 : decode cX6_layBack 15 = .ok (.ifCond .ne 13, 3) := by decide +kernel
theorem dX6_layBack_18 : decode cX6_layBack 18 = .ok (.aload_n 0, 1) := by decide +kernel
theorem dX6_layBack_19 : decode cX6_layBack 19 = .ok (.invokevirtual 50, 3) := by decide +kernel
theorem dX6_layBack_22 : decode cX6_layBack 22 = .ok (.iload_n 1, 1) := by decide +kernel
theorem dX6_layBack_23 : decode cX6_layBack 23 = .ok (.isub, 1) := by decide +kernel
theorem dX6_layBack_24 : decode cX6_layBack 24 = .ok (.iconst 3, 1) := by decide +kernel
theorem dX6_layBack_25 : decode cX6_layBack 25 = .ok (.if_icmp .ge 5, 3) := by decide +kernel
theorem dX6_layBack_28 : decode cX6_layBack 28 = .ok (.iconst 0, 1) := by decide +kernel
theorem dX6_layBack_29 : decode cX6_layBack 29 = .ok (.ireturn, 1) := by decide +kernel
theorem dX6_layBack_30 : decode cX6_layBack 30 = .ok (.aload_n 0, 1) := by decide +kernel
theorem dX6_layBack_31 : decode cX6_layBack 31 = .ok (.getfield 25, 3) := by decide +kernel
theorem dX6_layBack_34 : decode cX6_layBack 34 = .ok (.iload_n 1, 1) := by decide +kernel
theorem dX6_layBack_35 : decode cX6_layBack 35 = .ok (.iconst 1, 1) := by decide +kernel
theorem dX6_layBack_36 : decode cX6_layBack 36 = .ok (.bastore, 1) := by decide +kernel
theorem dX6_layBack_37 : decode cX6_layBack 37 = .ok (.aload_n 0, 1) := by decide +kernel
theorem dX6_layBack_38 : decode cX6_layBack 38 = .ok (.dup, 1) := by decide +kernel
theorem dX6_layBack_39 : decode cX6_layBack 39 = .ok (.getfield 15, 3) := by decide +kernel
theorem dX6_layBack_42 : decode cX6_layBack 42 = .ok (.iconst 1, 1) := by decide +kernel
theorem dX6_layBack_43 : decode cX6_layBack 43 = .ok (.iadd, 1) := by decide +kernel
theorem dX6_layBack_44 : decode cX6_layBack 44 = .ok (.putfield 15, 3) := by decide +kernel
theorem dX6_layBack_47 : decode cX6_layBack 47 = .ok (.iconst 1, 1) := by decide +kernel
theorem dX6_layBack_48 : decode cX6_layBack 48 = .ok (.ireturn, 1) := by decide +kernel
theorem dX6_fineAll_0 : decode cX6_fineAll 0 = .ok (.iconst 0, 1) := by decide +kernel
theorem dX6_fineAll_1 : decode cX6_fineAll 1 = .ok (.istore_n 2, 1) := by decide +kernel
theorem dX6_fineAll_2 : decode cX6_fineAll 2 = .ok (.iconst 0, 1) := by decide +kernel
theorem dX6_fineAll_3 : decode cX6_fineAll 3 = .ok (.istore_n 3, 1) := by decide +kernel
theorem dX6_fineAll_4 : decode cX6_fineAll 4 = .ok (.iload_n 3, 1) := by decide +kernel
theorem dX6_fineAll_5 : decode cX6_fineAll 5 = .ok (.aload_n 0, 1) := by decide +kernel
theorem dX6_fineAll_6 : decode cX6_fineAll 6 = .ok (.getfield 9, 3) := by decide +kernel
theorem dX6_fineAll_9 : decode cX6_fineAll 9 = .ok (.if_icmp .ge 47, 3) := by decide +kernel
theorem dX6_fineAll_12 : decode cX6_fineAll 12 = .ok (.aload_n 0, 1) := by decide +kernel
theorem dX6_fineAll_13 : decode cX6_fineAll 13 = .ok (.getfield 22, 3) := by decide +kernel
theorem dX6_fineAll_16 : decode cX6_fineAll 16 = .ok (.iload_n 3, 1) := by decide +kernel
theorem dX6_fineAll_17 : decode cX6_fineAll 17 = .ok (.iaload, 1) := by decide +kernel
theorem dX6_fineAll_18 : decode cX6_fineAll 18 = .ok (.iload_n 1, 1) := by decide +kernel
theorem dX6_fineAll_19 : decode cX6_fineAll 19 = .ok (.if_icmp .ge 31, 3) := by decide +kernel
theorem dX6_fineAll_22 : decode cX6_fineAll 22 = .ok (.aload_n 0, 1) := by decide +kernel
theorem dX6_fineAll_23 : decode cX6_fineAll 23 = .ok (.getfield 25, 3) := by decide +kernel
theorem dX6_fineAll_26 : decode cX6_fineAll 26 = .ok (.iload_n 3, 1) := by decide +kernel
theorem dX6_fineAll_27 : decode cX6_fineAll 27 = .ok (.baload, 1) := by decide +kernel
theorem dX6_fineAll_28 : decode cX6_fineAll 28 = .ok (.ifCond .ne 22, 3) := by decide +kernel
theorem dX6_fineAll_31 : decode cX6_fineAll 31 = .ok (.aload_n 0, 1) := by decide +kernel
theorem dX6_fineAll_32 : decode cX6_fineAll 32 = .ok (.getfield 29, 3) := by decide +kernel
theorem dX6_fineAll_35 : decode cX6_fineAll 35 = .ok (.iload_n 3, 1) := by decide +kernel
theorem dX6_fineAll_36 : decode cX6_fineAll 36 = .ok (.baload, 1) := by decide +kernel
theorem dX6_fineAll_37 : decode cX6_fineAll 37 = .ok (.ifCond .ne 13, 3) := by decide +kernel
theorem dX6_fineAll_40 : decode cX6_fineAll 40 = .ok (.aload_n 0, 1) := by decide +kernel
theorem dX6_fineAll_41 : decode cX6_fineAll 41 = .ok (.getfield 29, 3) := by decide +kernel
theorem dX6_fineAll_44 : decode cX6_fineAll 44 = .ok (.iload_n 3, 1) := by decide +kernel
theorem dX6_fineAll_45 : decode cX6_fineAll 45 = .ok (.iconst 1, 1) := by decide +kernel
theorem dX6_fineAll_46 : decode cX6_fineAll 46 = .ok (.bastore, 1) := by decide +kernel
theorem dX6_fineAll_47 : decode cX6_fineAll 47 = .ok (.iinc 2 1, 3) := by decide +kernel
theorem dX6_fineAll_50 : decode cX6_fineAll 50 = .ok (.iinc 3 1, 3) := by decide +kernel
theorem dX6_fineAll_53 : decode cX6_fineAll 53 = .ok (.goto (-49), 3) := by decide +kernel
theorem dX6_fineAll_56 : decode cX6_fineAll 56 = .ok (.iload_n 2, 1) := by decide +kernel
theorem dX6_fineAll_57 : decode cX6_fineAll 57 = .ok (.ireturn, 1) := by decide +kernel
set_option maxRecDepth 20000 in
theorem ggX7_init_X4_init : GoodIn wsX7_init wsX4_init := goodIn_r _ [43, 44, 2, 3, 45, 46, 47, 102, 103, 104] (by decide +kernel) (by decide +kernel)
set_option maxRecDepth 20000 in
theorem gX7_init_X4_init_n9 : GoodIn wsX7_init (wsX4_init) := ggX7_init_X4_init
set_option maxRecDepth 20000 in
theorem ggX7_init_X0_init : GoodIn wsX7_init wsX0_init := goodIn_r _ [49, 50, 2, 3, 51, 52, 53, 54, 55, 115, 116, 117, 118] (by decide +kernel) (by decide +kernel)
set_option maxRecDepth 20000 in
theorem gX7_init_X0_init_n18 : GoodIn wsX7_init (wsX0_init) := ggX7_init_X0_init
set_option maxRecDepth 20000 in
theorem ggX7_init_X2_init : GoodIn wsX7_init wsX2_init := goodIn_r _ [57, 58, 2, 3, 51, 59, 60, 61, 119, 120, 121] (by decide +kernel) (by decide +kernel)
set_option maxRecDepth 20000 in
theorem gX7_init_X2_init_n25 : GoodIn wsX7_init (wsX2_init) := ggX7_init_X2_init
set_option maxRecDepth 20000 in
theorem ggX7_init_X3_init : GoodIn wsX7_init wsX3_init := goodIn_r _ [63, 64, 2, 3, 51, 65, 66, 67, 68, 69, 70, 71, 122, 123, 124, 125, 126, 127, 128] (by decide +kernel) (by decide +kernel)
set_option maxRecDepth 20000 in
theorem gX7_init_X3_init_n32 : GoodIn wsX7_init (wsX3_init) := ggX7_init_X3_init
set_option maxRecDepth 20000 in
theorem ggX7_init_X1_init : GoodIn wsX7_init wsX1_init := goodIn_r _ [74, 75, 2, 3, 76, 77, 78, 51, 79, 80, 81, 82, 129, 130, 131, 132, 133, 134, 135] (by decide +kernel) (by decide +kernel)
set_option maxRecDepth 20000 in
theorem gX7_init_X1_init : GoodIn wsX7_init (wsX1_init) := ggX7_init_X1_init
set_option maxRecDepth 20000 in
theorem ggX7_init_X6_init : GoodIn wsX7_init wsX6_init := goodIn_r _ [85, 86, 2, 3, 87, 88, 51, 89, 90, 91, 92, 93, 136, 137, 138, 139, 140, 141] (by decide +kernel) (by decide +kernel)
set_option maxRecDepth 20000 in
theorem gX7_init_X6_init : GoodIn wsX7_init (wsX6_init) := ggX7_init_X6_init
set_option maxRecDepth 20000 in
theorem ggX7_init_X5_init : GoodIn wsX7_init wsX5_init := goodIn_r _ [96, 97, 2, 3, 98, 99, 100, 51, 101, 142, 143, 144, 145] (by decide +kernel) (by decide +kernel)
set_option maxRecDepth 20000 in
theorem gX7_init_X5_init : GoodIn wsX7_init (wsX5_init) := ggX7_init_X5_init
theorem dX7_init_0 : decode cX7_init 0 = .ok (.aload_n 0, 1) := by decide +kernel
theorem dX7_init_1 : decode cX7_init 1 = .ok (.invokespecial 1, 3) := by decide +kernel
theorem dX7_init_4 : decode cX7_init 4 = .ok (.aload_n 0, 1) := by decide +kernel
theorem dX7_init_5 : decode cX7_init 5 = .ok (.new 7, 3) := by decide +kernel
theorem dX7_init_8 : decode cX7_init 8 = .ok (.dup, 1) := by decide +kernel
theorem dX7_init_9 : decode cX7_init 9 = .ok (.invokespecial 9, 3) := by decide +kernel
theorem dX7_init_12 : decode cX7_init 12 = .ok (.putfield 10, 3) := by decide +kernel
theorem dX7_init_15 : decode cX7_init 15 = .ok (.aload_n 0, 1) := by decide +kernel
theorem dX7_init_16 : decode cX7_init 16 = .ok (.new 16, 3) := by decide +kernel
theorem dX7_init_19 : decode cX7_init 19 = .ok (.dup, 1) := by decide +kernel
theorem dX7_init_20 : decode cX7_init 20 = .ok (.invokespecial 18, 3) := by decide +kernel
theorem dX7_init_23 : decode cX7_init 23 = .ok (.putfield 19, 3) := by decide +kernel
theorem dX7_init_26 : decode cX7_init 26 = .ok (.aload_n 0, 1) := by decide +kernel
theorem dX7_init_27 : decode cX7_init 27 = .ok (.new 23, 3) := by decide +kernel
theorem dX7_init_30 : decode cX7_init 30 = .ok (.dup, 1) := by decide +kernel
theorem dX7_init_31 : decode cX7_init 31 = .ok (.invokespecial 25, 3) := by decide +kernel
theorem dX7_init_34 : decode cX7_init 34 = .ok (.putfield 26, 3) := by decide +kernel
theorem dX7_init_37 : decode cX7_init 37 = .ok (.aload_n 0, 1) := by decide +kernel
theorem dX7_init_38 : decode cX7_init 38 = .ok (.new 30, 3) := by decide +kernel
theorem dX7_init_41 : decode cX7_init 41 = .ok (.dup, 1) := by decide +kernel
theorem dX7_init_42 : decode cX7_init 42 = .ok (.invokespecial 32, 3) := by decide +kernel
theorem dX7_init_45 : decode cX7_init 45 = .ok (.putfield 33, 3) := by decide +kernel
theorem dX7_init_48 : decode cX7_init 48 = .ok (.aload_n 0, 1) := by decide +kernel
theorem dX7_init_49 : decode cX7_init 49 = .ok (.iconst 0, 1) := by decide +kernel
theorem dX7_init_50 : decode cX7_init 50 = .ok (.putfield 37, 3) := by decide +kernel
theorem dX7_init_53 : decode cX7_init 53 = .ok (.aload_n 0, 1) := by decide +kernel
theorem dX7_init_54 : decode cX7_init 54 = .ok (.iconst 0, 1) := by decide +kernel
theorem dX7_init_55 : decode cX7_init 55 = .ok (.putfield 41, 3) := by decide +kernel
theorem dX7_init_58 : decode cX7_init 58 = .ok (.aload_n 0, 1) := by decide +kernel
theorem dX7_init_59 : decode cX7_init 59 = .ok (.iconst (-1), 1) := by decide +kernel
theorem dX7_init_60 : decode cX7_init 60 = .ok (.putfield 44, 3) := by decide +kernel
theorem dX7_init_63 : decode cX7_init 63 = .ok (.iconst 2, 1) := by decide +kernel
theorem dX7_init_64 : decode cX7_init 64 = .ok (.bipush 20, 2) := by decide +kernel
theorem dX7_init_66 : decode cX7_init 66 = .ok (.iload_n 1, 1) := by decide +kernel
theorem dX7_init_67 : decode cX7_init 67 = .ok (.invokestatic 47, 3) := by decide +kernel
theorem dX7_init_70 : decode cX7_init 70 = .ok (.invokestatic 53, 3) := by decide +kernel
theorem dX7_init_73 : decode cX7_init 73 = .ok (.istore_n 3, 1) := by decide +kernel
theorem dX7_init_74 : decode cX7_init 74 = .ok (.iconst 2, 1) := by decide +kernel
theorem dX7_init_75 : decode cX7_init 75 = .ok (.bipush 8, 2) := by decide +kernel
theorem dX7_init_77 : decode cX7_init 77 = .ok (.iload_n 2, 1) := by decide +kernel
theorem dX7_init_78 : decode cX7_init 78 = .ok (.invokestatic 47, 3) := by decide +kernel
theorem dX7_init_81 : decode cX7_init 81 = .ok (.invokestatic 53, 3) := by decide +kernel
theorem dX7_init_84 : decode cX7_init 84 = .ok (.istore 4, 2) := by decide +kernel
theorem dX7_init_86 : decode cX7_init 86 = .ok (.aload_n 0, 1) := by decide +kernel
theorem dX7_init_87 : decode cX7_init 87 = .ok (.new 56, 3) := by decide +kernel
theorem dX7_init_90 : decode cX7_init 90 = .ok (.dup, 1) := by decide +kernel
theorem dX7_init_91 : decode cX7_init 91 = .ok (.iload_n 3, 1) := by decide +kernel
theorem dX7_init_92 : decode cX7_init 92 = .ok (.iload 4, 2) := by decide +kernel
theorem dX7_init_94 : decode cX7_init 94 = .ok (.invokespecial 58, 3) := by decide +kernel
theorem dX7_init_97 : decode cX7_init 97 = .ok (.putfield 61, 3) := by decide +kernel
theorem dX7_init_100 : decode cX7_init 100 = .ok (.aload_n 0, 1) := by decide +kernel
theorem dX7_init_101 : decode cX7_init 101 = .ok (.new 65, 3) := by decide +kernel
theorem dX7_init_104 : decode cX7_init 104 = .ok (.dup, 1) := by decide +kernel
theorem dX7_init_105 : decode cX7_init 105 = .ok (.iload_n 3, 1) := by decide +kernel
theorem dX7_init_106 : decode cX7_init 106 = .ok (.invokespecial 67, 3) := by decide +kernel
theorem dX7_init_109 : decode cX7_init 109 = .ok (.putfield 70, 3) := by decide +kernel
theorem dX7_init_112 : decode cX7_init 112 = .ok (.aload_n 0, 1) := by decide +kernel
theorem dX7_init_113 : decode cX7_init 113 = .ok (.new 74, 3) := by decide +kernel
theorem dX7_init_116 : decode cX7_init 116 = .ok (.dup, 1) := by decide +kernel
theorem dX7_init_117 : decode cX7_init 117 = .ok (.iload_n 3, 1) := by decide +kernel
theorem dX7_init_118 : decode cX7_init 118 = .ok (.iload 4, 2) := by decide +kernel
theorem dX7_init_120 : decode cX7_init 120 = .ok (.invokespecial 76, 3) := by decide +kernel
theorem dX7_init_123 : decode cX7_init 123 = .ok (.putfield 77, 3) := by decide +kernel
theorem dX7_init_126 : decode cX7_init 126 = .ok (.return_, 1) := by decide +kernel
set_option maxRecDepth 20000 in
theorem ggX7_depth_X7_isUndug : GoodIn wsX7_depth wsX7_isUndug := goodIn_r _ [6, 1, 7, 8, 9, 10, 11, 12, 13, 14, 15, 5, 16, 17, 18, 19, 20, 21, 22, 23, 30, 31, 32, 33, 34, 35, 36, 37, 38, 39, 40, 41, 42, 43, 44, 45, 46, 47, 48, 49, 50, 51, 52] (by decide +kernel) (by decide +kernel)
set_option maxRecDepth 20000 in
theorem gX7_depth_X7_isUndug : GoodIn wsX7_depth (wsV RX7 81 RX7 yX7_isUndug wsX7_isUndug) := goodIn_app (goodIn_of _ (by decide +kernel)) ggX7_depth_X7_isUndug
set_option maxRecDepth 20000 in
theorem ggX7_depth_X7_within : GoodIn wsX7_depth wsX7_within := goodIn_r _ [16] (by decide +kernel) (by decide +kernel)
set_option maxRecDepth 20000 in
theorem gX7_depth_X7_within : GoodIn wsX7_depth (va_wsS RX7 85 yX7_within wsX7_within) := goodIn_app (goodIn_of _ (by decide +kernel)) ggX7_depth_X7_within
set_option maxRecDepth 20000 in
theorem ggX7_depth_X1_deepen : GoodIn wsX7_depth wsX1_deepen := goodIn_r _ [28, 29, 14, 40, 41, 42, 43, 44, 45, 46] (by decide +kernel) (by decide +kernel)
set_option maxRecDepth 20000 in
theorem gX7_depth_X1_deepen : GoodIn wsX7_depth (wsV RX7 89 RX1 yX1_deepen wsX1_deepen) := goodIn_app (goodIn_of _ (by decide +kernel)) ggX7_depth_X1_deepen
theorem dX7_depth_0 : decode cX7_depth 0 = .ok (.aload_n 0, 1) := by decide +kernel
theorem dX7_depth_1 : decode cX7_depth 1 = .ok (.iload_n 1, 1) := by decide +kernel
theorem dX7_depth_2 : decode cX7_depth 2 = .ok (.iload_n 2, 1) := by decide +kernel
theorem dX7_depth_3 : decode cX7_depth 3 = .ok (.invokevirtual 81, 3) := by decide +kernel
theorem dX7_depth_6 : decode cX7_depth 6 = .ok (.ifCond .eq 13, 3) := by decide +kernel
theorem dX7_depth_9 : decode cX7_depth 9 = .ok (.iload_n 3, 1) := by decide +kernel
theorem dX7_depth_10 : decode cX7_depth 10 = .ok (.iconst 1, 1) := by decide +kernel
theorem dX7_depth_11 : decode cX7_depth 11 = .ok (.bipush 9, 2) := by decide +kernel
theorem dX7_depth_13 : decode cX7_depth 13 = .ok (.invokestatic 85, 3) := by decide +kernel
theorem dX7_depth_16 : decode cX7_depth 16 = .ok (.ifCond .ne 5, 3) := by decide +kernel
theorem dX7_depth_19 : decode cX7_depth 19 = .ok (.iconst 0, 1) := by decide +kernel
theorem dX7_depth_20 : decode cX7_depth 20 = .ok (.ireturn, 1) := by decide +kernel
theorem dX7_depth_21 : decode cX7_depth 21 = .ok (.aload_n 0, 1) := by decide +kernel
theorem dX7_depth_22 : decode cX7_depth 22 = .ok (.getfield 61, 3) := by decide +kernel
theorem dX7_depth_25 : decode cX7_depth 25 = .ok (.iload_n 1, 1) := by decide +kernel
theorem dX7_depth_26 : decode cX7_depth 26 = .ok (.iload_n 2, 1) := by decide +kernel
theorem dX7_depth_27 : decode cX7_depth 27 = .ok (.iload_n 3, 1) := by decide +kernel
theorem dX7_depth_28 : decode cX7_depth 28 = .ok (.invokevirtual 89, 3) := by decide +kernel
theorem dX7_depth_31 : decode cX7_depth 31 = .ok (.iconst 1, 1) := by decide +kernel
theorem dX7_depth_32 : decode cX7_depth 32 = .ok (.ireturn, 1) := by decide +kernel
set_option maxRecDepth 20000 in
theorem ggX7_grade_X7_within : GoodIn wsX7_grade wsX7_within := goodIn_r _ [5] (by decide +kernel) (by decide +kernel)
set_option maxRecDepth 20000 in
theorem gX7_grade_X7_within : GoodIn wsX7_grade (va_wsS RX7 85 yX7_within wsX7_within) := goodIn_app (goodIn_of _ (by decide +kernel)) ggX7_grade_X7_within
set_option maxRecDepth 20000 in
theorem ggX7_grade_X1_slope : GoodIn wsX7_grade wsX1_slope := goodIn_r _ [10, 11, 12, 13, 14, 9, 15, 16, 17, 18, 19, 20, 21, 22, 23, 24, 25, 26, 27, 28, 29, 30, 31, 32, 33, 34, 35, 36, 37, 38, 39, 40, 41, 42, 43, 44, 45, 46, 47, 58, 59, 60, 61, 62, 63, 64] (by decide +kernel) (by decide +kernel)
set_option maxRecDepth 20000 in
theorem gX7_grade_X1_slope : GoodIn wsX7_grade (wsV RX7 93 RX1 yX1_slope wsX1_slope) := goodIn_app (goodIn_of _ (by decide +kernel)) ggX7_grade_X1_slope
theorem dX7_grade_0 : decode cX7_grade 0 = .ok (.iload_n 1, 1) := by decide +kernel
theorem dX7_grade_1 : decode cX7_grade 1 = .ok (.iconst 0, 1) := by decide +kernel
theorem dX7_grade_2 : decode cX7_grade 2 = .ok (.sipush 200, 3) := by decide +kernel
theorem dX7_grade_5 : decode cX7_grade 5 = .ok (.invokestatic 85, 3) := by decide +kernel
theorem dX7_grade_8 : decode cX7_grade 8 = .ok (.ifCond .ne 12, 3) := by decide +kernel
theorem dX7_grade_11 : decode cX7_grade 11 = .ok (.iload_n 1, 1) := by decide +kernel
theorem dX7_grade_12 : decode cX7_grade 12 = .ok (.sipush 1000, 3) := by decide +kernel
theorem dX7_grade_15 : decode cX7_grade 15 = .ok (.if_icmp .eq 5, 3) := by decide +kernel
theorem dX7_grade_18 : decode cX7_grade 18 = .ok (.iconst 0, 1) := by decide +kernel
theorem dX7_grade_19 : decode cX7_grade 19 = .ok (.ireturn, 1) := by decide +kernel
theorem dX7_grade_20 : decode cX7_grade 20 = .ok (.aload_n 0, 1) := by decide +kernel
theorem dX7_grade_21 : decode cX7_grade 21 = .ok (.getfield 61, 3) := by decide +kernel
theorem dX7_grade_24 : decode cX7_grade 24 = .ok (.iload_n 1, 1) := by decide +kernel
theorem dX7_grade_25 : decode cX7_grade 25 = .ok (.invokevirtual 93, 3) := by decide +kernel
theorem dX7_grade_28 : decode cX7_grade 28 = .ok (.iconst 1, 1) := by decide +kernel
theorem dX7_grade_29 : decode cX7_grade 29 = .ok (.ireturn, 1) := by decide +kernel
set_option maxRecDepth 20000 in
theorem ggX7_bore_X7_isUndug : GoodIn wsX7_bore wsX7_isUndug := goodIn_r _ [6, 1, 7, 8, 9, 10, 11, 12, 13, 14, 15, 5, 16, 17, 18, 19, 20, 21, 22, 23, 64, 65, 66, 67, 68, 69, 70, 71, 72, 73, 74, 75, 76, 77, 78, 79, 80, 81, 82, 83, 84, 85, 86] (by decide +kernel) (by decide +kernel)
set_option maxRecDepth 20000 in
theorem gX7_bore_X7_isUndug : GoodIn wsX7_bore (wsV RX7 81 RX7 yX7_isUndug wsX7_isUndug) := goodIn_app (goodIn_of _ (by decide +kernel)) ggX7_bore_X7_isUndug
set_option maxRecDepth 20000 in
theorem ggX7_bore_X7_within : GoodIn wsX7_bore wsX7_within := goodIn_r _ [16] (by decide +kernel) (by decide +kernel)
set_option maxRecDepth 20000 in
theorem gX7_bore_X7_within : GoodIn wsX7_bore (va_wsS RX7 85 yX7_within wsX7_within) := goodIn_app (goodIn_of _ (by decide +kernel)) ggX7_bore_X7_within
set_option maxRecDepth 20000 in
theorem ggX7_bore_X1_tell : GoodIn wsX7_bore wsX1_tell := goodIn_r _ [28, 29, 14, 30, 31, 32, 11, 33, 34, 35, 36, 37, 38, 39, 40, 41, 42, 43, 13, 44, 45, 46, 47, 48, 49, 50, 51, 52, 53, 54, 55, 56, 57, 58, 59, 60, 61, 62, 63, 74, 75, 76, 77, 78, 79, 80] (by decide +kernel) (by decide +kernel)
set_option maxRecDepth 20000 in
theorem gX7_bore_X1_tell : GoodIn wsX7_bore (wsV RX7 96 RX1 yX1_tell wsX1_tell) := goodIn_app (goodIn_of _ (by decide +kernel)) ggX7_bore_X1_tell
theorem dX7_bore_0 : decode cX7_bore 0 = .ok (.aload_n 0, 1) := by decide +kernel
theorem dX7_bore_1 : decode cX7_bore 1 = .ok (.iload_n 1, 1) := by decide +kernel
theorem dX7_bore_2 : decode cX7_bore 2 = .ok (.iload_n 2, 1) := by decide +kernel
theorem dX7_bore_3 : decode cX7_bore 3 = .ok (.invokevirtual 81, 3) := by decide +kernel
theorem dX7_bore_6 : decode cX7_bore 6 = .ok (.ifCond .eq 14, 3) := by decide +kernel
theorem dX7_bore_9 : decode cX7_bore 9 = .ok (.iload_n 3, 1) := by decide +kernel
theorem dX7_bore_10 : decode cX7_bore 10 = .ok (.iconst 0, 1) := by decide +kernel
theorem dX7_bore_11 : decode cX7_bore 11 = .ok (.sipush 1000, 3) := by decide +kernel
theorem dX7_bore_14 : decode cX7_bore 14 = .ok (.invokestatic 85, 3) := by decide +kernel
theorem dX7_bore_17 : decode cX7_bore 17 = .ok (.ifCond .ne 5, 3) := by decide +kernel
theorem dX7_bore_20 : decode cX7_bore 20 = .ok (.iconst 0, 1) := by decide +kernel
theorem dX7_bore_21 : decode cX7_bore 21 = .ok (.ireturn, 1) := by decide +kernel
theorem dX7_bore_22 : decode cX7_bore 22 = .ok (.aload_n 0, 1) := by decide +kernel
theorem dX7_bore_23 : decode cX7_bore 23 = .ok (.getfield 61, 3) := by decide +kernel
theorem dX7_bore_26 : decode cX7_bore 26 = .ok (.iload_n 1, 1) := by decide +kernel
theorem dX7_bore_27 : decode cX7_bore 27 = .ok (.iload_n 2, 1) := by decide +kernel
theorem dX7_bore_28 : decode cX7_bore 28 = .ok (.iload_n 3, 1) := by decide +kernel
theorem dX7_bore_29 : decode cX7_bore 29 = .ok (.invokevirtual 96, 3) := by decide +kernel
theorem dX7_bore_32 : decode cX7_bore 32 = .ok (.iconst 1, 1) := by decide +kernel
theorem dX7_bore_33 : decode cX7_bore 33 = .ok (.ireturn, 1) := by decide +kernel
set_option maxRecDepth 20000 in
theorem ggX7_square_X1_has : GoodIn wsX7_square wsX1_has := goodIn_r _ [7, 8, 9, 10, 11, 12, 65, 66, 67, 68, 69, 70, 71] (by decide +kernel) (by decide +kernel)
set_option maxRecDepth 20000 in
theorem gX7_square_X1_has : GoodIn wsX7_square (wsV RX7 99 RX1 yX1_has wsX1_has) := goodIn_app (goodIn_of _ (by decide +kernel)) ggX7_square_X1_has
set_option maxRecDepth 20000 in
theorem ggX7_square_X1_depthAt : GoodIn wsX7_square wsX1_depthAt := goodIn_r _ [16, 17, 9, 65, 66, 67, 68, 69, 70, 71] (by decide +kernel) (by decide +kernel)
set_option maxRecDepth 20000 in
theorem gX7_square_X1_depthAt : GoodIn wsX7_square (wsV RX7 102 RX1 yX1_depthAt wsX1_depthAt) := goodIn_app (goodIn_of _ (by decide +kernel)) ggX7_square_X1_depthAt
set_option maxRecDepth 20000 in
theorem ggX7_square_X1_leastAt : GoodIn wsX7_square wsX1_leastAt := goodIn_r _ [21, 22, 9, 65, 66, 67, 68, 69, 70, 71] (by decide +kernel) (by decide +kernel)
set_option maxRecDepth 20000 in
theorem gX7_square_X1_leastAt : GoodIn wsX7_square (wsV RX7 105 RX1 yX1_leastAt wsX1_leastAt) := goodIn_app (goodIn_of _ (by decide +kernel)) ggX7_square_X1_leastAt
set_option maxRecDepth 20000 in
theorem ggX7_square_X1_greatestAt : GoodIn wsX7_square wsX1_greatestAt := goodIn_r _ [26, 27, 9, 65, 66, 67, 68, 69, 70, 71] (by decide +kernel) (by decide +kernel)
set_option maxRecDepth 20000 in
theorem gX7_square_X1_greatestAt : GoodIn wsX7_square (wsV RX7 108 RX1 yX1_greatestAt wsX1_greatestAt) := goodIn_app (goodIn_of _ (by decide +kernel)) ggX7_square_X1_greatestAt
set_option maxRecDepth 20000 in
theorem ggX7_square_X1_quarrelsAt : GoodIn wsX7_square wsX1_quarrelsAt := goodIn_r _ [31, 32, 19, 20, 6, 21, 22, 9, 33, 24, 25, 26, 27, 65, 66, 67, 68, 69, 70, 71] (by decide +kernel) (by decide +kernel)
set_option maxRecDepth 20000 in
theorem gX7_square_X1_quarrelsAt : GoodIn wsX7_square (wsV RX7 111 RX1 yX1_quarrelsAt wsX1_quarrelsAt) := goodIn_app (goodIn_of _ (by decide +kernel)) ggX7_square_X1_quarrelsAt
set_option maxRecDepth 20000 in
theorem ggX7_square_X7_oneIf : GoodIn wsX7_square wsX7_oneIf := goodIn_r _ [36] (by decide +kernel) (by decide +kernel)
set_option maxRecDepth 20000 in
theorem gX7_square_X7_oneIf : GoodIn wsX7_square (va_wsS RX7 114 yX7_oneIf wsX7_oneIf) := goodIn_app (goodIn_of _ (by decide +kernel)) ggX7_square_X7_oneIf
set_option maxRecDepth 20000 in
theorem ggX7_square_X6_isDug : GoodIn wsX7_square wsX6_isDug := goodIn_r _ [41, 42, 43, 10, 11, 12, 72, 73, 74, 75, 76, 77] (by decide +kernel) (by decide +kernel)
set_option maxRecDepth 20000 in
theorem gX7_square_X6_isDug : GoodIn wsX7_square (wsV RX7 118 RX6 yX6_isDug wsX6_isDug) := goodIn_app (goodIn_of _ (by decide +kernel)) ggX7_square_X6_isDug
set_option maxRecDepth 20000 in
theorem ggX7_square_X6_isLaidBack : GoodIn wsX7_square wsX6_isLaidBack := goodIn_r _ [47, 48, 49, 38, 39, 40, 41, 42, 43, 10, 11, 12, 72, 73, 74, 75, 76, 77] (by decide +kernel) (by decide +kernel)
set_option maxRecDepth 20000 in
theorem gX7_square_X6_isLaidBack : GoodIn wsX7_square (wsV RX7 121 RX6 yX6_isLaidBack wsX6_isLaidBack) := goodIn_app (goodIn_of _ (by decide +kernel)) ggX7_square_X6_isLaidBack
set_option maxRecDepth 20000 in
theorem ggX7_square_X1_isTold : GoodIn wsX7_square wsX1_isTold := goodIn_r _ [53, 54, 9, 65, 66, 67, 68, 69, 70, 71] (by decide +kernel) (by decide +kernel)
set_option maxRecDepth 20000 in
theorem gX7_square_X1_isTold : GoodIn wsX7_square (wsV RX7 124 RX1 yX1_isTold wsX1_isTold) := goodIn_app (goodIn_of _ (by decide +kernel)) ggX7_square_X1_isTold
theorem dX7_square_0 : decode cX7_square 0 = .ok (.aload_n 0, 1) := by decide +kernel
theorem dX7_square_1 : decode cX7_square 1 = .ok (.getfield 61, 3) := by decide +kernel
theorem dX7_square_4 : decode cX7_square 4 = .ok (.iload_n 1, 1) := by decide +kernel
theorem dX7_square_5 : decode cX7_square 5 = .ok (.iload_n 2, 1) := by decide +kernel
theorem dX7_square_6 : decode cX7_square 6 = .ok (.invokevirtual 99, 3) := by decide +kernel
theorem dX7_square_9 : decode cX7_square 9 = .ok (.ifCond .ne 5, 3) := by decide +kernel
theorem dX7_square_12 : decode cX7_square 12 = .ok (.iconst (-1), 1) := by decide +kernel
theorem dX7_square_13 : decode cX7_square 13 = .ok (.ireturn, 1) := by decide +kernel
theorem dX7_square_14 : decode cX7_square 14 = .ok (.iload_n 3, 1) := by decide +kernel
theorem dX7_square_15 : decode cX7_square 15 = .ok (.tableswitch 123 0 6 #[41, 51, 61, 71, 84, 97, 110], 41) := by decide +kernel
theorem dX7_square_56 : decode cX7_square 56 = .ok (.aload_n 0, 1) := by decide +kernel
theorem dX7_square_57 : decode cX7_square 57 = .ok (.getfield 61, 3) := by decide +kernel
theorem dX7_square_60 : decode cX7_square 60 = .ok (.iload_n 1, 1) := by decide +kernel
theorem dX7_square_61 : decode cX7_square 61 = .ok (.iload_n 2, 1) := by decide +kernel
theorem dX7_square_62 : decode cX7_square 62 = .ok (.invokevirtual 102, 3) := by decide +kernel
theorem dX7_square_65 : decode cX7_square 65 = .ok (.ireturn, 1) := by decide +kernel
theorem dX7_square_66 : decode cX7_square 66 = .ok (.aload_n 0, 1) := by decide +kernel
theorem dX7_square_67 : decode cX7_square 67 = .ok (.getfield 61, 3) := by decide +kernel
theorem dX7_square_70 : decode cX7_square 70 = .ok (.iload_n 1, 1) := by decide +kernel
theorem dX7_square_71 : decode cX7_square 71 = .ok (.iload_n 2, 1) := by decide +kernel
theorem dX7_square_72 : decode cX7_square 72 = .ok (.invokevirtual 105, 3) := by decide +kernel
theorem dX7_square_75 : decode cX7_square 75 = .ok (.ireturn, 1) := by decide +kernel
theorem dX7_square_76 : decode cX7_square 76 = .ok (.aload_n 0, 1) := by decide +kernel
theorem dX7_square_77 : decode cX7_square 77 = .ok (.getfield 61, 3) := by decide +kernel
theorem dX7_square_80 : decode cX7_square 80 = .ok (.iload_n 1, 1) := by decide +kernel
theorem dX7_square_81 : decode cX7_square 81 = .ok (.iload_n 2, 1) := by decide +kernel
theorem dX7_square_82 : decode cX7_square 82 = .ok (.invokevirtual 108, 3) := by decide +kernel
theorem dX7_square_85 : decode cX7_square 85 = .ok (.ireturn, 1) := by decide +kernel
theorem dX7_square_86 : decode cX7_square 86 = .ok (.aload_n 0, 1) := by decide +kernel
theorem dX7_square_87 : decode cX7_square 87 = .ok (.getfield 61, 3) := by decide +kernel
theorem dX7_square_90 : decode cX7_square 90 = .ok (.iload_n 1, 1) := by decide +kernel
theorem dX7_square_91 : decode cX7_square 91 = .ok (.iload_n 2, 1) := by decide +kernel
theorem dX7_square_92 : decode cX7_square 92 = .ok (.invokevirtual 111, 3) := by decide +kernel
theorem dX7_square_95 : decode cX7_square 95 = .ok (.invokestatic 114, 3) := by decide +kernel
theorem dX7_square_98 : decode cX7_square 98 = .ok (.ireturn, 1) := by decide +kernel
theorem dX7_square_99 : decode cX7_square 99 = .ok (.aload_n 0, 1) := by decide +kernel
theorem dX7_square_100 : decode cX7_square 100 = .ok (.getfield 70, 3) := by decide +kernel
theorem dX7_square_103 : decode cX7_square 103 = .ok (.iload_n 1, 1) := by decide +kernel
theorem dX7_square_104 : decode cX7_square 104 = .ok (.iload_n 2, 1) := by decide +kernel
theorem dX7_square_105 : decode cX7_square 105 = .ok (.invokevirtual 118, 3) := by decide +kernel
theorem dX7_square_108 : decode cX7_square 108 = .ok (.invokestatic 114, 3) := by decide +kernel
theorem dX7_square_111 : decode cX7_square 111 = .ok (.ireturn, 1) := by decide +kernel
theorem dX7_square_112 : decode cX7_square 112 = .ok (.aload_n 0, 1) := by decide +kernel
theorem dX7_square_113 : decode cX7_square 113 = .ok (.getfield 70, 3) := by decide +kernel
theorem dX7_square_116 : decode cX7_square 116 = .ok (.iload_n 1, 1) := by decide +kernel
theorem dX7_square_117 : decode cX7_square 117 = .ok (.iload_n 2, 1) := by decide +kernel
theorem dX7_square_118 : decode cX7_square 118 = .ok (.invokevirtual 121, 3) := by decide +kernel
theorem dX7_square_121 : decode cX7_square 121 = .ok (.invokestatic 114, 3) := by decide +kernel
theorem dX7_square_124 : decode cX7_square 124 = .ok (.ireturn, 1) := by decide +kernel
theorem dX7_square_125 : decode cX7_square 125 = .ok (.aload_n 0, 1) := by decide +kernel
theorem dX7_square_126 : decode cX7_square 126 = .ok (.getfield 61, 3) := by decide +kernel
theorem dX7_square_129 : decode cX7_square 129 = .ok (.iload_n 1, 1) := by decide +kernel
theorem dX7_square_130 : decode cX7_square 130 = .ok (.iload_n 2, 1) := by decide +kernel
theorem dX7_square_131 : decode cX7_square 131 = .ok (.invokevirtual 124, 3) := by decide +kernel
theorem dX7_square_134 : decode cX7_square 134 = .ok (.invokestatic 114, 3) := by decide +kernel
theorem dX7_square_137 : decode cX7_square 137 = .ok (.ireturn, 1) := by decide +kernel
theorem dX7_square_138 : decode cX7_square 138 = .ok (.iconst (-1), 1) := by decide +kernel
theorem dX7_square_139 : decode cX7_square 139 = .ok (.ireturn, 1) := by decide +kernel
set_option maxRecDepth 20000 in
theorem ggX7_cost_X7_within : GoodIn wsX7_cost wsX7_within := goodIn_r _ [5] (by decide +kernel) (by decide +kernel)
set_option maxRecDepth 20000 in
theorem gX7_cost_X7_within : GoodIn wsX7_cost (va_wsS RX7 85 yX7_within wsX7_within) := goodIn_app (goodIn_of _ (by decide +kernel)) ggX7_cost_X7_within
set_option maxRecDepth 20000 in
theorem ggX7_cost_X5_charge : GoodIn wsX7_cost wsX5_charge := goodIn_r _ [10, 11, 22, 23, 24, 25] (by decide +kernel) (by decide +kernel)
set_option maxRecDepth 20000 in
theorem gX7_cost_X5_charge : GoodIn wsX7_cost (wsV RX7 127 RX5 yX5_charge wsX5_charge) := goodIn_app (goodIn_of _ (by decide +kernel)) ggX7_cost_X5_charge
theorem dX7_cost_0 : decode cX7_cost 0 = .ok (.iload_n 1, 1) := by decide +kernel
theorem dX7_cost_1 : decode cX7_cost 1 = .ok (.iconst 0, 1) := by decide +kernel
theorem dX7_cost_2 : decode cX7_cost 2 = .ok (.sipush 1000, 3) := by decide +kernel
theorem dX7_cost_5 : decode cX7_cost 5 = .ok (.invokestatic 85, 3) := by decide +kernel
theorem dX7_cost_8 : decode cX7_cost 8 = .ok (.ifCond .ne 5, 3) := by decide +kernel
theorem dX7_cost_11 : decode cX7_cost 11 = .ok (.iconst 0, 1) := by decide +kernel
theorem dX7_cost_12 : decode cX7_cost 12 = .ok (.ireturn, 1) := by decide +kernel
theorem dX7_cost_13 : decode cX7_cost 13 = .ok (.aload_n 0, 1) := by decide +kernel
theorem dX7_cost_14 : decode cX7_cost 14 = .ok (.getfield 77, 3) := by decide +kernel
theorem dX7_cost_17 : decode cX7_cost 17 = .ok (.iload_n 1, 1) := by decide +kernel
theorem dX7_cost_18 : decode cX7_cost 18 = .ok (.invokevirtual 127, 3) := by decide +kernel
theorem dX7_cost_21 : decode cX7_cost 21 = .ok (.iconst 1, 1) := by decide +kernel
theorem dX7_cost_22 : decode cX7_cost 22 = .ok (.ireturn, 1) := by decide +kernel
set_option maxRecDepth 20000 in
theorem ggX7_path_X6_nextRow : GoodIn wsX7_path wsX6_nextRow := goodIn_r _ [9, 10, 89, 90, 91, 92, 93, 94] (by decide +kernel) (by decide +kernel)
set_option maxRecDepth 20000 in
theorem gX7_path_X6_nextRow : GoodIn wsX7_path (wsV RX7 130 RX6 yX6_nextRow wsX6_nextRow) := goodIn_app (goodIn_of _ (by decide +kernel)) ggX7_path_X6_nextRow
set_option maxRecDepth 20000 in
theorem ggX7_path_X1_rowCount : GoodIn wsX7_path wsX1_rowCount := goodIn_r _ [15, 16, 95, 96, 97, 98, 99, 100, 101] (by decide +kernel) (by decide +kernel)
set_option maxRecDepth 20000 in
theorem gX7_path_X1_rowCount : GoodIn wsX7_path (wsV RX7 134 RX1 yX1_rowCount wsX1_rowCount) := goodIn_app (goodIn_of _ (by decide +kernel)) ggX7_path_X1_rowCount
set_option maxRecDepth 20000 in
theorem ggX7_path_X7_within : GoodIn wsX7_path wsX7_within := goodIn_r _ [20] (by decide +kernel) (by decide +kernel)
set_option maxRecDepth 20000 in
theorem gX7_path_X7_within : GoodIn wsX7_path (va_wsS RX7 85 yX7_within wsX7_within) := goodIn_app (goodIn_of _ (by decide +kernel)) ggX7_path_X7_within
set_option maxRecDepth 20000 in
theorem ggX7_path_X5_weigh : GoodIn wsX7_path wsX5_weigh := goodIn_r _ [25, 26, 27, 28, 29, 30, 31, 32, 14, 33, 34, 35, 36, 37, 24, 38, 39, 40, 41, 42, 43, 44, 45, 46, 47, 48, 49, 50, 51, 52, 53, 54, 55, 56, 57, 58, 59, 60, 61, 62, 63, 64, 65, 66, 67, 102, 103, 104, 105, 95, 96, 97, 98, 99, 100, 101] (by decide +kernel) (by decide +kernel)
set_option maxRecDepth 20000 in
theorem gX7_path_X5_weigh : GoodIn wsX7_path (wsV RX7 138 RX5 yX5_weigh wsX5_weigh) := goodIn_app (goodIn_of _ (by decide +kernel)) ggX7_path_X5_weigh
set_option maxRecDepth 20000 in
theorem ggX7_path_X6_dredgePlace : GoodIn wsX7_path wsX6_dredgePlace := goodIn_r _ [71, 10, 72, 89, 90, 91, 92, 93, 94] (by decide +kernel) (by decide +kernel)
set_option maxRecDepth 20000 in
theorem gX7_path_X6_dredgePlace : GoodIn wsX7_path (wsV RX7 142 RX6 yX6_dredgePlace wsX6_dredgePlace) := goodIn_app (goodIn_of _ (by decide +kernel)) ggX7_path_X6_dredgePlace
set_option maxRecDepth 20000 in
theorem ggX7_path_X5_startPlace : GoodIn wsX7_path wsX5_startPlace := goodIn_r _ [76, 27, 60, 61, 62, 24, 63, 64, 65, 66, 67, 29, 49, 50, 51, 52, 53, 54, 55, 56, 57, 58, 59, 102, 103, 104, 105] (by decide +kernel) (by decide +kernel)
set_option maxRecDepth 20000 in
theorem gX7_path_X5_startPlace : GoodIn wsX7_path (wsV RX7 145 RX5 yX5_startPlace wsX5_startPlace) := goodIn_app (goodIn_of _ (by decide +kernel)) ggX7_path_X5_startPlace
set_option maxRecDepth 20000 in
theorem ggX7_path_X5_sumFrom : GoodIn wsX7_path wsX5_sumFrom := goodIn_r _ [67, 29, 27, 102, 103, 104, 105] (by decide +kernel) (by decide +kernel)
set_option maxRecDepth 20000 in
theorem gX7_path_X5_sumFrom : GoodIn wsX7_path (wsV RX7 148 RX5 yX5_sumFrom wsX5_sumFrom) := goodIn_app (goodIn_of _ (by decide +kernel)) ggX7_path_X5_sumFrom
set_option maxRecDepth 20000 in
theorem ggX7_path_X5_bestBeside : GoodIn wsX7_path wsX5_bestBeside := goodIn_r _ [52, 53, 54, 55, 56, 27, 57, 58, 59, 60, 61, 62, 24, 63, 64, 65, 66, 67, 29, 102, 103, 104, 105] (by decide +kernel) (by decide +kernel)
set_option maxRecDepth 20000 in
theorem gX7_path_X5_bestBeside : GoodIn wsX7_path (wsV RX7 151 RX5 yX5_bestBeside wsX5_bestBeside) := goodIn_app (goodIn_of _ (by decide +kernel)) ggX7_path_X5_bestBeside
theorem dX7_path_0 : decode cX7_path 0 = .ok (.aload_n 0, 1) := by decide +kernel
theorem dX7_path_1 : decode cX7_path 1 = .ok (.getfield 70, 3) := by decide +kernel
theorem dX7_path_4 : decode cX7_path 4 = .ok (.invokevirtual 130, 3) := by decide +kernel
theorem dX7_path_7 : decode cX7_path 7 = .ok (.istore_n 3, 1) := by decide +kernel
theorem dX7_path_8 : decode cX7_path 8 = .ok (.aload_n 0, 1) := by decide +kernel
theorem dX7_path_9 : decode cX7_path 9 = .ok (.getfield 61, 3) := by decide +kernel
theorem dX7_path_12 : decode cX7_path 12 = .ok (.invokevirtual 134, 3) := by decide +kernel
theorem dX7_path_15 : decode cX7_path 15 = .ok (.iload_n 3, 1) := by decide +kernel
theorem dX7_path_16 : decode cX7_path 16 = .ok (.isub, 1) := by decide +kernel
theorem dX7_path_17 : decode cX7_path 17 = .ok (.istore 4, 2) := by decide +kernel
theorem dX7_path_19 : decode cX7_path 19 = .ok (.iload_n 1, 1) := by decide +kernel
theorem dX7_path_20 : decode cX7_path 20 = .ok (.iconst 0, 1) := by decide +kernel
theorem dX7_path_21 : decode cX7_path 21 = .ok (.iconst 2, 1) := by decide +kernel
theorem dX7_path_22 : decode cX7_path 22 = .ok (.invokestatic 85, 3) := by decide +kernel
theorem dX7_path_25 : decode cX7_path 25 = .ok (.ifCond .eq 19, 3) := by decide +kernel
theorem dX7_path_28 : decode cX7_path 28 = .ok (.iload 4, 2) := by decide +kernel
theorem dX7_path_30 : decode cX7_path 30 = .ok (.ifCond .le 14, 3) := by decide +kernel
theorem dX7_path_33 : decode cX7_path 33 = .ok (.iload_n 2, 1) := by decide +kernel
theorem dX7_path_34 : decode cX7_path 34 = .ok (.iconst (-1), 1) := by decide +kernel
theorem dX7_path_35 : decode cX7_path 35 = .ok (.if_icmp .lt 9, 3) := by decide +kernel
theorem dX7_path_38 : decode cX7_path 38 = .ok (.iload_n 2, 1) := by decide +kernel
theorem dX7_path_39 : decode cX7_path 39 = .ok (.iload 4, 2) := by decide +kernel
theorem dX7_path_41 : decode cX7_path 41 = .ok (.if_icmp .lt 6, 3) := by decide +kernel
theorem dX7_path_44 : decode cX7_path 44 = .ok (.ldc 137, 2) := by decide +kernel
theorem dX7_path_46 : decode cX7_path 46 = .ok (.ireturn, 1) := by decide +kernel
theorem dX7_path_47 : decode cX7_path 47 = .ok (.aload_n 0, 1) := by decide +kernel
theorem dX7_path_48 : decode cX7_path 48 = .ok (.getfield 77, 3) := by decide +kernel
theorem dX7_path_51 : decode cX7_path 51 = .ok (.aload_n 0, 1) := by decide +kernel
theorem dX7_path_52 : decode cX7_path 52 = .ok (.getfield 61, 3) := by decide +kernel
theorem dX7_path_55 : decode cX7_path 55 = .ok (.iload_n 1, 1) := by decide +kernel
theorem dX7_path_56 : decode cX7_path 56 = .ok (.iload_n 3, 1) := by decide +kernel
theorem dX7_path_57 : decode cX7_path 57 = .ok (.invokevirtual 138, 3) := by decide +kernel
theorem dX7_path_60 : decode cX7_path 60 = .ok (.aload_n 0, 1) := by decide +kernel
theorem dX7_path_61 : decode cX7_path 61 = .ok (.getfield 77, 3) := by decide +kernel
theorem dX7_path_64 : decode cX7_path 64 = .ok (.iload_n 3, 1) := by decide +kernel
theorem dX7_path_65 : decode cX7_path 65 = .ok (.aload_n 0, 1) := by decide +kernel
theorem dX7_path_66 : decode cX7_path 66 = .ok (.getfield 70, 3) := by decide +kernel
theorem dX7_path_69 : decode cX7_path 69 = .ok (.invokevirtual 142, 3) := by decide +kernel
theorem dX7_path_72 : decode cX7_path 72 = .ok (.invokevirtual 145, 3) := by decide +kernel
theorem dX7_path_75 : decode cX7_path 75 = .ok (.istore 5, 2) := by decide +kernel
theorem dX7_path_77 : decode cX7_path 77 = .ok (.iload_n 2, 1) := by decide +kernel
theorem dX7_path_78 : decode cX7_path 78 = .ok (.iconst (-1), 1) := by decide +kernel
theorem dX7_path_79 : decode cX7_path 79 = .ok (.if_icmp .ne 14, 3) := by decide +kernel
theorem dX7_path_82 : decode cX7_path 82 = .ok (.aload_n 0, 1) := by decide +kernel
theorem dX7_path_83 : decode cX7_path 83 = .ok (.getfield 77, 3) := by decide +kernel
theorem dX7_path_86 : decode cX7_path 86 = .ok (.iload_n 3, 1) := by decide +kernel
theorem dX7_path_87 : decode cX7_path 87 = .ok (.iload 5, 2) := by decide +kernel
theorem dX7_path_89 : decode cX7_path 89 = .ok (.invokevirtual 148, 3) := by decide +kernel
theorem dX7_path_92 : decode cX7_path 92 = .ok (.ireturn, 1) := by decide +kernel
theorem dX7_path_93 : decode cX7_path 93 = .ok (.iconst 1, 1) := by decide +kernel
theorem dX7_path_94 : decode cX7_path 94 = .ok (.istore 6, 2) := by decide +kernel
theorem dX7_path_96 : decode cX7_path 96 = .ok (.iload 6, 2) := by decide +kernel
theorem dX7_path_98 : decode cX7_path 98 = .ok (.iload_n 2, 1) := by decide +kernel
theorem dX7_path_99 : decode cX7_path 99 = .ok (.if_icmp .gt 24, 3) := by decide +kernel
theorem dX7_path_102 : decode cX7_path 102 = .ok (.aload_n 0, 1) := by decide +kernel
theorem dX7_path_103 : decode cX7_path 103 = .ok (.getfield 77, 3) := by decide +kernel
theorem dX7_path_106 : decode cX7_path 106 = .ok (.iload_n 3, 1) := by decide +kernel
theorem dX7_path_107 : decode cX7_path 107 = .ok (.iload 6, 2) := by decide +kernel
theorem dX7_path_109 : decode cX7_path 109 = .ok (.iadd, 1) := by decide +kernel
theorem dX7_path_110 : decode cX7_path 110 = .ok (.iload 5, 2) := by decide +kernel
theorem dX7_path_112 : decode cX7_path 112 = .ok (.invokevirtual 151, 3) := by decide +kernel
theorem dX7_path_115 : decode cX7_path 115 = .ok (.istore 5, 2) := by decide +kernel
theorem dX7_path_117 : decode cX7_path 117 = .ok (.iinc 6 1, 3) := by decide +kernel
theorem dX7_path_120 : decode cX7_path 120 = .ok (.goto (-24), 3) := by decide +kernel
theorem dX7_path_123 : decode cX7_path 123 = .ok (.iload 5, 2) := by decide +kernel
theorem dX7_path_125 : decode cX7_path 125 = .ok (.ireturn, 1) := by decide +kernel
set_option maxRecDepth 20000 in
theorem ggX7_next_X6_nextRow : GoodIn wsX7_next wsX6_nextRow := goodIn_r _ [7, 8, 41, 42, 43, 44, 45, 46] (by decide +kernel) (by decide +kernel)
set_option maxRecDepth 20000 in
theorem gX7_next_X6_nextRow : GoodIn wsX7_next (wsV RX7 130 RX6 yX6_nextRow wsX6_nextRow) := goodIn_app (goodIn_of _ (by decide +kernel)) ggX7_next_X6_nextRow
set_option maxRecDepth 20000 in
theorem ggX7_next_X1_widestFrom : GoodIn wsX7_next wsX1_widestFrom := goodIn_r _ [13, 14, 15, 16, 17, 18, 12, 19, 20, 21, 22, 23, 24, 25, 26, 27, 28, 29, 30, 47, 48, 49, 50, 51, 52, 53] (by decide +kernel) (by decide +kernel)
set_option maxRecDepth 20000 in
theorem gX7_next_X1_widestFrom : GoodIn wsX7_next (wsV RX7 154 RX1 yX1_widestFrom wsX1_widestFrom) := goodIn_app (goodIn_of _ (by decide +kernel)) ggX7_next_X1_widestFrom
theorem dX7_next_0 : decode cX7_next 0 = .ok (.aload_n 0, 1) := by decide +kernel
theorem dX7_next_1 : decode cX7_next 1 = .ok (.getfield 61, 3) := by decide +kernel
theorem dX7_next_4 : decode cX7_next 4 = .ok (.aload_n 0, 1) := by decide +kernel
theorem dX7_next_5 : decode cX7_next 5 = .ok (.getfield 70, 3) := by decide +kernel
theorem dX7_next_8 : decode cX7_next 8 = .ok (.invokevirtual 130, 3) := by decide +kernel
theorem dX7_next_11 : decode cX7_next 11 = .ok (.invokevirtual 154, 3) := by decide +kernel
theorem dX7_next_14 : decode cX7_next 14 = .ok (.ireturn, 1) := by decide +kernel
set_option maxRecDepth 20000 in
theorem ggX7_bars_X6_nextRow : GoodIn wsX7_bars wsX6_nextRow := goodIn_r _ [8, 9, 104, 105, 106, 107, 108, 109] (by decide +kernel) (by decide +kernel)
set_option maxRecDepth 20000 in
theorem gX7_bars_X6_nextRow : GoodIn wsX7_bars (wsV RX7 130 RX6 yX6_nextRow wsX6_nextRow) := goodIn_app (goodIn_of _ (by decide +kernel)) ggX7_bars_X6_nextRow
set_option maxRecDepth 20000 in
theorem ggX7_bars_X1_has : GoodIn wsX7_bars wsX1_has := goodIn_r _ [14, 15, 16, 17, 18, 19, 110, 111, 112, 113, 114, 115, 116] (by decide +kernel) (by decide +kernel)
set_option maxRecDepth 20000 in
theorem gX7_bars_X1_has : GoodIn wsX7_bars (wsV RX7 99 RX1 yX1_has wsX1_has) := goodIn_app (goodIn_of _ (by decide +kernel)) ggX7_bars_X1_has
set_option maxRecDepth 20000 in
theorem ggX7_bars_X6_reaches : GoodIn wsX7_bars wsX6_reaches := goodIn_r _ [23, 9, 24, 25, 26, 27, 28, 29, 30, 7, 31, 32, 104, 105, 106, 107, 108, 109] (by decide +kernel) (by decide +kernel)
set_option maxRecDepth 20000 in
theorem gX7_bars_X6_reaches : GoodIn wsX7_bars (wsV RX7 158 RX6 yX6_reaches wsX6_reaches) := goodIn_app (goodIn_of _ (by decide +kernel)) ggX7_bars_X6_reaches
set_option maxRecDepth 20000 in
theorem ggX7_bars_X4_level : GoodIn wsX7_bars wsX4_level := goodIn_r _ [37, 38, 117, 118, 119] (by decide +kernel) (by decide +kernel)
set_option maxRecDepth 20000 in
theorem gX7_bars_X4_level : GoodIn wsX7_bars (wsV RX7 162 RX4 yX4_level wsX4_level) := goodIn_app (goodIn_of _ (by decide +kernel)) ggX7_bars_X4_level
set_option maxRecDepth 20000 in
theorem ggX7_bars_X7_lawToday : GoodIn wsX7_bars wsX7_lawToday := goodIn_r _ [42, 43, 44, 45, 46, 47, 48, 49, 50, 51, 52, 53, 54, 55, 56, 17, 18, 19, 57, 58, 59, 60, 94, 95, 96, 97, 98, 99, 100, 101, 102, 103, 120, 121, 122] (by decide +kernel) (by decide +kernel)
set_option maxRecDepth 20000 in
theorem gX7_bars_X7_lawToday : GoodIn wsX7_bars (wsV RX7 165 RX7 yX7_lawToday wsX7_lawToday) := goodIn_app (goodIn_of _ (by decide +kernel)) ggX7_bars_X7_lawToday
set_option maxRecDepth 20000 in
theorem ggX7_bars_X7_within : GoodIn wsX7_bars wsX7_within := goodIn_r _ [19] (by decide +kernel) (by decide +kernel)
set_option maxRecDepth 20000 in
theorem gX7_bars_X7_within : GoodIn wsX7_bars (va_wsS RX7 85 yX7_within wsX7_within) := goodIn_app (goodIn_of _ (by decide +kernel)) ggX7_bars_X7_within
set_option maxRecDepth 20000 in
theorem ggX7_bars_X1_depthAt : GoodIn wsX7_bars wsX1_depthAt := goodIn_r _ [65, 66, 16, 110, 111, 112, 113, 114, 115, 116] (by decide +kernel) (by decide +kernel)
set_option maxRecDepth 20000 in
theorem gX7_bars_X1_depthAt : GoodIn wsX7_bars (wsV RX7 102 RX1 yX1_depthAt wsX1_depthAt) := goodIn_app (goodIn_of _ (by decide +kernel)) ggX7_bars_X1_depthAt
set_option maxRecDepth 20000 in
theorem ggX7_bars_X7_bankAhead : GoodIn wsX7_bars wsX7_bankAhead := goodIn_r _ [70, 1, 2, 71, 25, 26, 27, 72, 73, 74, 7, 75, 9, 76, 29, 30, 31, 32, 10, 11, 12, 13, 14, 15, 16, 17, 18, 19, 62, 63, 64, 65, 66, 94, 95, 96, 97, 98, 99, 100, 101, 102, 103, 104, 105, 106, 107, 108, 109, 110, 111, 112, 113, 114, 115, 116] (by decide +kernel) (by decide +kernel)
set_option maxRecDepth 20000 in
theorem gX7_bars_X7_bankAhead : GoodIn wsX7_bars (wsV RX7 168 RX7 yX7_bankAhead wsX7_bankAhead) := goodIn_app (goodIn_of _ (by decide +kernel)) ggX7_bars_X7_bankAhead
set_option maxRecDepth 20000 in
theorem ggX7_bars_X4_hoursLeft : GoodIn wsX7_bars wsX4_hoursLeft := goodIn_r _ [80, 81, 117, 118, 119] (by decide +kernel) (by decide +kernel)
set_option maxRecDepth 20000 in
theorem gX7_bars_X4_hoursLeft : GoodIn wsX7_bars (wsV RX7 171 RX4 yX4_hoursLeft wsX4_hoursLeft) := goodIn_app (goodIn_of _ (by decide +kernel)) ggX7_bars_X4_hoursLeft
set_option maxRecDepth 20000 in
theorem ggX7_bars_X4_hoursFor : GoodIn wsX7_bars wsX4_hoursFor := goodIn_r _ [84] (by decide +kernel) (by decide +kernel)
set_option maxRecDepth 20000 in
theorem gX7_bars_X4_hoursFor : GoodIn wsX7_bars (va_wsS RX7 174 yX4_hoursFor wsX4_hoursFor) := goodIn_app (goodIn_of _ (by decide +kernel)) ggX7_bars_X4_hoursFor
set_option maxRecDepth 20000 in
theorem ggX7_bars_X7_isMuddy : GoodIn wsX7_bars wsX7_isMuddy := goodIn_r _ [88, 3, 89, 90, 91, 36, 92, 93, 39, 40, 41, 18, 42, 43, 44, 45, 46, 47, 48, 49, 50, 51, 52, 53, 54, 55, 56, 17, 19, 57, 58, 59, 60, 94, 95, 96, 97, 98, 99, 100, 101, 102, 103, 117, 118, 119, 120, 121, 122] (by decide +kernel) (by decide +kernel)
set_option maxRecDepth 20000 in
theorem gX7_bars_X7_isMuddy : GoodIn wsX7_bars (wsV RX7 177 RX7 yX7_isMuddy wsX7_isMuddy) := goodIn_app (goodIn_of _ (by decide +kernel)) ggX7_bars_X7_isMuddy
theorem dX7_bars_0 : decode cX7_bars 0 = .ok (.aload_n 0, 1) := by decide +kernel
theorem dX7_bars_1 : decode cX7_bars 1 = .ok (.getfield 70, 3) := by decide +kernel
theorem dX7_bars_4 : decode cX7_bars 4 = .ok (.invokevirtual 130, 3) := by decide +kernel
theorem dX7_bars_7 : decode cX7_bars 7 = .ok (.istore_n 2, 1) := by decide +kernel
theorem dX7_bars_8 : decode cX7_bars 8 = .ok (.aload_n 0, 1) := by decide +kernel
theorem dX7_bars_9 : decode cX7_bars 9 = .ok (.getfield 61, 3) := by decide +kernel
theorem dX7_bars_12 : decode cX7_bars 12 = .ok (.iload_n 2, 1) := by decide +kernel
theorem dX7_bars_13 : decode cX7_bars 13 = .ok (.iload_n 1, 1) := by decide +kernel
theorem dX7_bars_14 : decode cX7_bars 14 = .ok (.invokevirtual 99, 3) := by decide +kernel
theorem dX7_bars_17 : decode cX7_bars 17 = .ok (.ifCond .eq 14, 3) := by decide +kernel
theorem dX7_bars_20 : decode cX7_bars 20 = .ok (.aload_n 0, 1) := by decide +kernel
theorem dX7_bars_21 : decode cX7_bars 21 = .ok (.getfield 70, 3) := by decide +kernel
theorem dX7_bars_24 : decode cX7_bars 24 = .ok (.iload_n 1, 1) := by decide +kernel
theorem dX7_bars_25 : decode cX7_bars 25 = .ok (.invokevirtual 158, 3) := by decide +kernel
theorem dX7_bars_28 : decode cX7_bars 28 = .ok (.ifCond .ne 5, 3) := by decide +kernel
theorem dX7_bars_31 : decode cX7_bars 31 = .ok (.iconst 1, 1) := by decide +kernel
theorem dX7_bars_32 : decode cX7_bars 32 = .ok (.ireturn, 1) := by decide +kernel
theorem dX7_bars_33 : decode cX7_bars 33 = .ok (.aload_n 0, 1) := by decide +kernel
theorem dX7_bars_34 : decode cX7_bars 34 = .ok (.getfield 10, 3) := by decide +kernel
theorem dX7_bars_37 : decode cX7_bars 37 = .ok (.invokevirtual 162, 3) := by decide +kernel
theorem dX7_bars_40 : decode cX7_bars 40 = .ok (.aload_n 0, 1) := by decide +kernel
theorem dX7_bars_41 : decode cX7_bars 41 = .ok (.iconst 0, 1) := by decide +kernel
theorem dX7_bars_42 : decode cX7_bars 42 = .ok (.invokevirtual 165, 3) := by decide +kernel
theorem dX7_bars_45 : decode cX7_bars 45 = .ok (.aload_n 0, 1) := by decide +kernel
theorem dX7_bars_46 : decode cX7_bars 46 = .ok (.iconst 1, 1) := by decide +kernel
theorem dX7_bars_47 : decode cX7_bars 47 = .ok (.invokevirtual 165, 3) := by decide +kernel
theorem dX7_bars_50 : decode cX7_bars 50 = .ok (.invokestatic 85, 3) := by decide +kernel
theorem dX7_bars_53 : decode cX7_bars 53 = .ok (.ifCond .ne 5, 3) := by decide +kernel
theorem dX7_bars_56 : decode cX7_bars 56 = .ok (.iconst 2, 1) := by decide +kernel
theorem dX7_bars_57 : decode cX7_bars 57 = .ok (.ireturn, 1) := by decide +kernel
theorem dX7_bars_58 : decode cX7_bars 58 = .ok (.aload_n 0, 1) := by decide +kernel
theorem dX7_bars_59 : decode cX7_bars 59 = .ok (.getfield 61, 3) := by decide +kernel
theorem dX7_bars_62 : decode cX7_bars 62 = .ok (.iload_n 2, 1) := by decide +kernel
theorem dX7_bars_63 : decode cX7_bars 63 = .ok (.iload_n 1, 1) := by decide +kernel
theorem dX7_bars_64 : decode cX7_bars 64 = .ok (.invokevirtual 102, 3) := by decide +kernel
theorem dX7_bars_67 : decode cX7_bars 67 = .ok (.istore_n 3, 1) := by decide +kernel
theorem dX7_bars_68 : decode cX7_bars 68 = .ok (.aload_n 0, 1) := by decide +kernel
theorem dX7_bars_69 : decode cX7_bars 69 = .ok (.iload_n 3, 1) := by decide +kernel
theorem dX7_bars_70 : decode cX7_bars 70 = .ok (.invokevirtual 168, 3) := by decide +kernel
theorem dX7_bars_73 : decode cX7_bars 73 = .ok (.aload_n 0, 1) := by decide +kernel
theorem dX7_bars_74 : decode cX7_bars 74 = .ok (.iconst 2, 1) := by decide +kernel
theorem dX7_bars_75 : decode cX7_bars 75 = .ok (.invokevirtual 165, 3) := by decide +kernel
theorem dX7_bars_78 : decode cX7_bars 78 = .ok (.if_icmp .le 5, 3) := by decide +kernel
theorem dX7_bars_81 : decode cX7_bars 81 = .ok (.iconst 3, 1) := by decide +kernel
theorem dX7_bars_82 : decode cX7_bars 82 = .ok (.ireturn, 1) := by decide +kernel
theorem dX7_bars_83 : decode cX7_bars 83 = .ok (.aload_n 0, 1) := by decide +kernel
theorem dX7_bars_84 : decode cX7_bars 84 = .ok (.getfield 10, 3) := by decide +kernel
theorem dX7_bars_87 : decode cX7_bars 87 = .ok (.invokevirtual 171, 3) := by decide +kernel
theorem dX7_bars_90 : decode cX7_bars 90 = .ok (.iload_n 3, 1) := by decide +kernel
theorem dX7_bars_91 : decode cX7_bars 91 = .ok (.invokestatic 174, 3) := by decide +kernel
theorem dX7_bars_94 : decode cX7_bars 94 = .ok (.if_icmp .ge 5, 3) := by decide +kernel
theorem dX7_bars_97 : decode cX7_bars 97 = .ok (.iconst 4, 1) := by decide +kernel
theorem dX7_bars_98 : decode cX7_bars 98 = .ok (.ireturn, 1) := by decide +kernel
theorem dX7_bars_99 : decode cX7_bars 99 = .ok (.aload_n 0, 1) := by decide +kernel
theorem dX7_bars_100 : decode cX7_bars 100 = .ok (.invokevirtual 177, 3) := by decide +kernel
theorem dX7_bars_103 : decode cX7_bars 103 = .ok (.ifCond .eq 7, 3) := by decide +kernel
theorem dX7_bars_106 : decode cX7_bars 106 = .ok (.iconst 5, 1) := by decide +kernel
theorem dX7_bars_107 : decode cX7_bars 107 = .ok (.goto 4, 3) := by decide +kernel
theorem dX7_bars_110 : decode cX7_bars 110 = .ok (.iconst 0, 1) := by decide +kernel
theorem dX7_bars_111 : decode cX7_bars 111 = .ok (.ireturn, 1) := by decide +kernel
set_option maxRecDepth 20000 in
theorem ggX7_dig_X7_within : GoodIn wsX7_dig wsX7_within := goodIn_r _ [9] (by decide +kernel) (by decide +kernel)
set_option maxRecDepth 20000 in
theorem gX7_dig_X7_within : GoodIn wsX7_dig (va_wsS RX7 85 yX7_within wsX7_within) := goodIn_app (goodIn_of _ (by decide +kernel)) ggX7_dig_X7_within
set_option maxRecDepth 20000 in
theorem ggX7_dig_X7_bars : GoodIn wsX7_dig wsX7_bars := goodIn_r _ [13, 1, 2, 4, 14, 15, 16, 17, 18, 19, 20, 21, 22, 23, 24, 25, 26, 7, 8, 9, 27, 28, 29, 30, 31, 32, 33, 34, 35, 36, 37, 38, 39, 40, 41, 42, 43, 44, 45, 46, 47, 48, 49, 50, 3, 51, 52, 53, 54, 55, 56, 57, 58, 59, 60, 61, 62, 63, 64, 65, 66, 6, 67, 68, 69, 70, 71, 72, 73, 74, 75, 76, 77, 78, 79, 80, 81, 82, 83, 84, 85, 86, 87, 88, 89, 90, 91, 92, 93, 94, 95, 96, 97, 98, 156, 157, 158, 159, 160, 161, 162, 163, 164, 165, 166, 167, 168, 169, 170, 171, 172, 173, 174, 175, 176, 177, 178, 179, 180, 181, 182, 183, 184] (by decide +kernel) (by decide +kernel)
set_option maxRecDepth 20000 in
theorem gX7_dig_X7_bars : GoodIn wsX7_dig (wsV RX7 181 RX7 yX7_bars wsX7_bars) := goodIn_app (goodIn_of _ (by decide +kernel)) ggX7_dig_X7_bars
set_option maxRecDepth 20000 in
theorem ggX7_dig_X6_nextRow : GoodIn wsX7_dig wsX6_nextRow := goodIn_r _ [18, 19, 166, 167, 168, 169, 170, 171] (by decide +kernel) (by decide +kernel)
set_option maxRecDepth 20000 in
theorem gX7_dig_X6_nextRow : GoodIn wsX7_dig (wsV RX7 130 RX6 yX6_nextRow wsX6_nextRow) := goodIn_app (goodIn_of _ (by decide +kernel)) ggX7_dig_X6_nextRow
set_option maxRecDepth 20000 in
theorem ggX7_dig_X1_depthAt : GoodIn wsX7_dig wsX1_depthAt := goodIn_r _ [70, 71, 26, 172, 173, 174, 175, 176, 177, 178] (by decide +kernel) (by decide +kernel)
set_option maxRecDepth 20000 in
theorem gX7_dig_X1_depthAt : GoodIn wsX7_dig (wsV RX7 102 RX1 yX1_depthAt wsX1_depthAt) := goodIn_app (goodIn_of _ (by decide +kernel)) ggX7_dig_X1_depthAt
set_option maxRecDepth 20000 in
theorem ggX7_dig_X1_tell : GoodIn wsX7_dig wsX1_tell := goodIn_r _ [102, 103, 26, 104, 105, 106, 23, 107, 108, 109, 110, 111, 112, 113, 114, 115, 116, 117, 25, 118, 119, 120, 121, 122, 123, 124, 33, 125, 126, 127, 128, 129, 130, 131, 132, 133, 134, 135, 136, 172, 173, 174, 175, 176, 177, 178] (by decide +kernel) (by decide +kernel)
set_option maxRecDepth 20000 in
theorem gX7_dig_X1_tell : GoodIn wsX7_dig (wsV RX7 96 RX1 yX1_tell wsX1_tell) := goodIn_app (goodIn_of _ (by decide +kernel)) ggX7_dig_X1_tell
set_option maxRecDepth 20000 in
theorem ggX7_dig_X6_goTo : GoodIn wsX7_dig wsX6_goTo := goodIn_r _ [140, 19, 39, 141, 166, 167, 168, 169, 170, 171] (by decide +kernel) (by decide +kernel)
set_option maxRecDepth 20000 in
theorem gX7_dig_X6_goTo : GoodIn wsX7_dig (wsV RX7 184 RX6 yX6_goTo wsX6_goTo) := goodIn_app (goodIn_of _ (by decide +kernel)) ggX7_dig_X6_goTo
set_option maxRecDepth 20000 in
theorem ggX7_dig_X4_stir : GoodIn wsX7_dig wsX4_stir := goodIn_r _ [145, 86, 98, 146, 88, 43, 89, 179, 180, 181] (by decide +kernel) (by decide +kernel)
set_option maxRecDepth 20000 in
theorem gX7_dig_X4_stir : GoodIn wsX7_dig (wsV RX7 187 RX4 yX4_stir wsX4_stir) := goodIn_app (goodIn_of _ (by decide +kernel)) ggX7_dig_X4_stir
set_option maxRecDepth 20000 in
theorem ggX7_dig_X0_fill : GoodIn wsX7_dig wsX0_fill := goodIn_r _ [151, 152, 153, 154, 155, 7, 8, 9, 185, 186, 187, 188] (by decide +kernel) (by decide +kernel)
set_option maxRecDepth 20000 in
theorem gX7_dig_X0_fill : GoodIn wsX7_dig (wsV RX7 190 RX0 yX0_fill wsX0_fill) := goodIn_app (goodIn_of _ (by decide +kernel)) ggX7_dig_X0_fill
theorem dX7_dig_0 : decode cX7_dig 0 = .ok (.iload_n 2, 1) := by decide +kernel
theorem dX7_dig_1 : decode cX7_dig 1 = .ok (.iconst 0, 1) := by decide +kernel
theorem dX7_dig_2 : decode cX7_dig 2 = .ok (.sipush 1000, 3) := by decide +kernel
theorem dX7_dig_5 : decode cX7_dig 5 = .ok (.invokestatic 85, 3) := by decide +kernel
theorem dX7_dig_8 : decode cX7_dig 8 = .ok (.ifCond .eq 11, 3) := by decide +kernel
theorem dX7_dig_11 : decode cX7_dig 11 = .ok (.aload_n 0, 1) := by decide +kernel
theorem dX7_dig_12 : decode cX7_dig 12 = .ok (.iload_n 1, 1) := by decide +kernel
theorem dX7_dig_13 : decode cX7_dig 13 = .ok (.invokevirtual 181, 3) := by decide +kernel
theorem dX7_dig_16 : decode cX7_dig 16 = .ok (.ifCond .eq 5, 3) := by decide +kernel
theorem dX7_dig_19 : decode cX7_dig 19 = .ok (.iconst (-1), 1) := by decide +kernel
theorem dX7_dig_20 : decode cX7_dig 20 = .ok (.ireturn, 1) := by decide +kernel
theorem dX7_dig_21 : decode cX7_dig 21 = .ok (.aload_n 0, 1) := by decide +kernel
theorem dX7_dig_22 : decode cX7_dig 22 = .ok (.getfield 70, 3) := by decide +kernel
end
section
theorem dX7_dig_25 : decode cX7_dig 25 = .ok (.invokevirtual 130, 3) := by decide +kernel
theorem dX7_dig_28 : decode cX7_dig 28 = .ok (.istore_n 3, 1) := by decide +kernel
theorem dX7_dig_29 : decode cX7_dig 29 = .ok (.aload_n 0, 1) := by decide +kernel
theorem dX7_dig_30 : decode cX7_dig 30 = .ok (.getfield 61, 3) := by decide +kernel
theorem dX7_dig_33 : decode cX7_dig 33 = .ok (.iload_n 3, 1) := by decide +kernel
theorem dX7_dig_34 : decode cX7_dig 34 = .ok (.iload_n 1, 1) := by decide +kernel
theorem dX7_dig_35 : decode cX7_dig 35 = .ok (.invokevirtual 102, 3) := by decide +kernel
theorem dX7_dig_38 : decode cX7_dig 38 = .ok (.istore 4, 2) := by decide +kernel
theorem dX7_dig_40 : decode cX7_dig 40 = .ok (.aload_n 0, 1) := by decide +kernel
theorem dX7_dig_41 : decode cX7_dig 41 = .ok (.getfield 61, 3) := by decide +kernel
theorem dX7_dig_44 : decode cX7_dig 44 = .ok (.iload_n 3, 1) := by decide +kernel
theorem dX7_dig_45 : decode cX7_dig 45 = .ok (.iload_n 1, 1) := by decide +kernel
theorem dX7_dig_46 : decode cX7_dig 46 = .ok (.iload_n 2, 1) := by decide +kernel
theorem dX7_dig_47 : decode cX7_dig 47 = .ok (.invokevirtual 96, 3) := by decide +kernel
theorem dX7_dig_50 : decode cX7_dig 50 = .ok (.aload_n 0, 1) := by decide +kernel
theorem dX7_dig_51 : decode cX7_dig 51 = .ok (.getfield 70, 3) := by decide +kernel
theorem dX7_dig_54 : decode cX7_dig 54 = .ok (.iload_n 1, 1) := by decide +kernel
theorem dX7_dig_55 : decode cX7_dig 55 = .ok (.aload_n 0, 1) := by decide +kernel
theorem dX7_dig_56 : decode cX7_dig 56 = .ok (.getfield 37, 3) := by decide +kernel
theorem dX7_dig_59 : decode cX7_dig 59 = .ok (.invokevirtual 184, 3) := by decide +kernel
theorem dX7_dig_62 : decode cX7_dig 62 = .ok (.aload_n 0, 1) := by decide +kernel
theorem dX7_dig_63 : decode cX7_dig 63 = .ok (.getfield 10, 3) := by decide +kernel
theorem dX7_dig_66 : decode cX7_dig 66 = .ok (.iload 4, 2) := by decide +kernel
theorem dX7_dig_68 : decode cX7_dig 68 = .ok (.invokevirtual 187, 3) := by decide +kernel
theorem dX7_dig_71 : decode cX7_dig 71 = .ok (.aload_n 0, 1) := by decide +kernel
theorem dX7_dig_72 : decode cX7_dig 72 = .ok (.getfield 19, 3) := by decide +kernel
theorem dX7_dig_75 : decode cX7_dig 75 = .ok (.iload 4, 2) := by decide +kernel
theorem dX7_dig_77 : decode cX7_dig 77 = .ok (.iload_n 2, 1) := by decide +kernel
theorem dX7_dig_78 : decode cX7_dig 78 = .ok (.imul, 1) := by decide +kernel
theorem dX7_dig_79 : decode cX7_dig 79 = .ok (.aload_n 0, 1) := by decide +kernel
theorem dX7_dig_80 : decode cX7_dig 80 = .ok (.getfield 37, 3) := by decide +kernel
theorem dX7_dig_83 : decode cX7_dig 83 = .ok (.bipush 30, 2) := by decide +kernel
theorem dX7_dig_85 : decode cX7_dig 85 = .ok (.idiv, 1) := by decide +kernel
theorem dX7_dig_86 : decode cX7_dig 86 = .ok (.invokevirtual 190, 3) := by decide +kernel
theorem dX7_dig_89 : decode cX7_dig 89 = .ok (.ireturn, 1) := by decide +kernel
set_option maxRecDepth 20000 in
theorem ggX7_jig_X7_within : GoodIn wsX7_jig wsX7_within := goodIn_r _ [5] (by decide +kernel) (by decide +kernel)
set_option maxRecDepth 20000 in
theorem gX7_jig_X7_within : GoodIn wsX7_jig (va_wsS RX7 85 yX7_within wsX7_within) := goodIn_app (goodIn_of _ (by decide +kernel)) ggX7_jig_X7_within
set_option maxRecDepth 20000 in
theorem ggX7_jig_X0_run : GoodIn wsX7_jig wsX0_run := goodIn_r _ [10, 11, 22, 23, 24, 25] (by decide +kernel) (by decide +kernel)
set_option maxRecDepth 20000 in
theorem gX7_jig_X0_run : GoodIn wsX7_jig (wsV RX7 193 RX0 yX0_run wsX0_run) := goodIn_app (goodIn_of _ (by decide +kernel)) ggX7_jig_X0_run
theorem dX7_jig_0 : decode cX7_jig 0 = .ok (.iload_n 1, 1) := by decide +kernel
theorem dX7_jig_1 : decode cX7_jig 1 = .ok (.iconst 0, 1) := by decide +kernel
theorem dX7_jig_2 : decode cX7_jig 2 = .ok (.bipush 9, 2) := by decide +kernel
theorem dX7_jig_4 : decode cX7_jig 4 = .ok (.invokestatic 85, 3) := by decide +kernel
theorem dX7_jig_7 : decode cX7_jig 7 = .ok (.ifCond .ne 5, 3) := by decide +kernel
theorem dX7_jig_10 : decode cX7_jig 10 = .ok (.iconst 0, 1) := by decide +kernel
theorem dX7_jig_11 : decode cX7_jig 11 = .ok (.ireturn, 1) := by decide +kernel
theorem dX7_jig_12 : decode cX7_jig 12 = .ok (.aload_n 0, 1) := by decide +kernel
theorem dX7_jig_13 : decode cX7_jig 13 = .ok (.getfield 19, 3) := by decide +kernel
theorem dX7_jig_16 : decode cX7_jig 16 = .ok (.iload_n 1, 1) := by decide +kernel
theorem dX7_jig_17 : decode cX7_jig 17 = .ok (.invokevirtual 193, 3) := by decide +kernel
theorem dX7_jig_20 : decode cX7_jig 20 = .ok (.iconst 1, 1) := by decide +kernel
theorem dX7_jig_21 : decode cX7_jig 21 = .ok (.ireturn, 1) := by decide +kernel
set_option maxRecDepth 20000 in
theorem ggX7_let_X4_level : GoodIn wsX7_let wsX4_level := goodIn_r _ [7, 8, 58, 59, 60] (by decide +kernel) (by decide +kernel)
set_option maxRecDepth 20000 in
theorem gX7_let_X4_level : GoodIn wsX7_let (wsV RX7 162 RX4 yX4_level wsX4_level) := goodIn_app (goodIn_of _ (by decide +kernel)) ggX7_let_X4_level
set_option maxRecDepth 20000 in
theorem ggX7_let_X7_within : GoodIn wsX7_let wsX7_within := goodIn_r _ [12] (by decide +kernel) (by decide +kernel)
set_option maxRecDepth 20000 in
theorem gX7_let_X7_within : GoodIn wsX7_let (va_wsS RX7 85 yX7_within wsX7_within) := goodIn_app (goodIn_of _ (by decide +kernel)) ggX7_let_X7_within
set_option maxRecDepth 20000 in
theorem ggX7_let_X7_isMuddy : GoodIn wsX7_let wsX7_isMuddy := goodIn_r _ [16, 1, 17, 18, 19, 6, 20, 21, 22, 23, 24, 11, 25, 26, 27, 28, 29, 30, 31, 32, 33, 34, 35, 36, 37, 38, 39, 10, 12, 40, 41, 42, 43, 48, 49, 50, 51, 52, 53, 54, 55, 56, 57, 58, 59, 60, 61, 62, 63] (by decide +kernel) (by decide +kernel)
set_option maxRecDepth 20000 in
theorem gX7_let_X7_isMuddy : GoodIn wsX7_let (wsV RX7 177 RX7 yX7_isMuddy wsX7_isMuddy) := goodIn_app (goodIn_of _ (by decide +kernel)) ggX7_let_X7_isMuddy
set_option maxRecDepth 20000 in
theorem ggX7_let_X7_lawToday : GoodIn wsX7_let wsX7_lawToday := goodIn_r _ [25, 26, 27, 28, 29, 30, 31, 32, 33, 34, 35, 36, 37, 38, 39, 10, 11, 12, 40, 41, 42, 43, 48, 49, 50, 51, 52, 53, 54, 55, 56, 57, 61, 62, 63] (by decide +kernel) (by decide +kernel)
set_option maxRecDepth 20000 in
theorem gX7_let_X7_lawToday : GoodIn wsX7_let (wsV RX7 165 RX7 yX7_lawToday wsX7_lawToday) := goodIn_app (goodIn_of _ (by decide +kernel)) ggX7_let_X7_lawToday
set_option maxRecDepth 20000 in
theorem ggX7_let_X4_drain : GoodIn wsX7_let wsX4_drain := goodIn_r _ [47, 8, 58, 59, 60] (by decide +kernel) (by decide +kernel)
set_option maxRecDepth 20000 in
theorem gX7_let_X4_drain : GoodIn wsX7_let (wsV RX7 196 RX4 yX4_drain wsX4_drain) := goodIn_app (goodIn_of _ (by decide +kernel)) ggX7_let_X4_drain
theorem dX7_let_0 : decode cX7_let 0 = .ok (.iload_n 1, 1) := by decide +kernel
theorem dX7_let_1 : decode cX7_let 1 = .ok (.iconst 1, 1) := by decide +kernel
theorem dX7_let_2 : decode cX7_let 2 = .ok (.aload_n 0, 1) := by decide +kernel
theorem dX7_let_3 : decode cX7_let 3 = .ok (.getfield 10, 3) := by decide +kernel
theorem dX7_let_6 : decode cX7_let 6 = .ok (.invokevirtual 162, 3) := by decide +kernel
theorem dX7_let_9 : decode cX7_let 9 = .ok (.invokestatic 85, 3) := by decide +kernel
theorem dX7_let_12 : decode cX7_let 12 = .ok (.ifCond .ne 5, 3) := by decide +kernel
theorem dX7_let_15 : decode cX7_let 15 = .ok (.iconst (-1), 1) := by decide +kernel
theorem dX7_let_16 : decode cX7_let 16 = .ok (.ireturn, 1) := by decide +kernel
theorem dX7_let_17 : decode cX7_let 17 = .ok (.aload_n 0, 1) := by decide +kernel
theorem dX7_let_18 : decode cX7_let 18 = .ok (.invokevirtual 177, 3) := by decide +kernel
theorem dX7_let_21 : decode cX7_let 21 = .ok (.ifCond .eq 18, 3) := by decide +kernel
theorem dX7_let_24 : decode cX7_let 24 = .ok (.aload_n 0, 1) := by decide +kernel
theorem dX7_let_25 : decode cX7_let 25 = .ok (.dup, 1) := by decide +kernel
theorem dX7_let_26 : decode cX7_let 26 = .ok (.getfield 41, 3) := by decide +kernel
theorem dX7_let_29 : decode cX7_let 29 = .ok (.aload_n 0, 1) := by decide +kernel
theorem dX7_let_30 : decode cX7_let 30 = .ok (.bipush 6, 2) := by decide +kernel
theorem dX7_let_32 : decode cX7_let 32 = .ok (.invokevirtual 165, 3) := by decide +kernel
theorem dX7_let_35 : decode cX7_let 35 = .ok (.iadd, 1) := by decide +kernel
theorem dX7_let_36 : decode cX7_let 36 = .ok (.putfield 41, 3) := by decide +kernel
theorem dX7_let_39 : decode cX7_let 39 = .ok (.aload_n 0, 1) := by decide +kernel
theorem dX7_let_40 : decode cX7_let 40 = .ok (.getfield 10, 3) := by decide +kernel
theorem dX7_let_43 : decode cX7_let 43 = .ok (.iload_n 1, 1) := by decide +kernel
theorem dX7_let_44 : decode cX7_let 44 = .ok (.invokevirtual 196, 3) := by decide +kernel
theorem dX7_let_47 : decode cX7_let 47 = .ok (.aload_n 0, 1) := by decide +kernel
theorem dX7_let_48 : decode cX7_let 48 = .ok (.getfield 10, 3) := by decide +kernel
theorem dX7_let_51 : decode cX7_let 51 = .ok (.invokevirtual 162, 3) := by decide +kernel
theorem dX7_let_54 : decode cX7_let 54 = .ok (.ireturn, 1) := by decide +kernel
set_option maxRecDepth 20000 in
theorem ggX7_day_X7_within : GoodIn wsX7_day wsX7_within := goodIn_r _ [8] (by decide +kernel) (by decide +kernel)
set_option maxRecDepth 20000 in
theorem gX7_day_X7_within : GoodIn wsX7_day (va_wsS RX7 85 yX7_within wsX7_within) := goodIn_app (goodIn_of _ (by decide +kernel)) ggX7_day_X7_within
set_option maxRecDepth 20000 in
theorem ggX7_day_X7_lawToday : GoodIn wsX7_day wsX7_lawToday := goodIn_r _ [12, 13, 1, 14, 15, 16, 17, 18, 19, 20, 21, 22, 23, 24, 25, 6, 7, 8, 26, 27, 28, 29, 54, 55, 56, 57, 58, 59, 60, 61, 62, 63, 64, 65, 66] (by decide +kernel) (by decide +kernel)
set_option maxRecDepth 20000 in
theorem gX7_day_X7_lawToday : GoodIn wsX7_day (wsV RX7 165 RX7 yX7_lawToday wsX7_lawToday) := goodIn_app (goodIn_of _ (by decide +kernel)) ggX7_day_X7_lawToday
set_option maxRecDepth 20000 in
theorem ggX7_day_X6_fineAll : GoodIn wsX7_day wsX6_fineAll := goodIn_r _ [34, 35, 36, 37, 38, 67, 68, 69, 70, 71, 72] (by decide +kernel) (by decide +kernel)
set_option maxRecDepth 20000 in
theorem gX7_day_X6_fineAll : GoodIn wsX7_day (wsV RX7 199 RX6 yX6_fineAll wsX6_fineAll) := goodIn_app (goodIn_of _ (by decide +kernel)) ggX7_day_X6_fineAll
set_option maxRecDepth 20000 in
theorem ggX7_day_X4_passNight : GoodIn wsX7_day wsX4_passNight := goodIn_r _ [43, 44, 45, 46, 47, 48, 49, 50, 51, 52, 53, 73, 74, 75] (by decide +kernel) (by decide +kernel)
set_option maxRecDepth 20000 in
theorem gX7_day_X4_passNight : GoodIn wsX7_day (wsV RX7 202 RX4 yX4_passNight wsX4_passNight) := goodIn_app (goodIn_of _ (by decide +kernel)) ggX7_day_X4_passNight
theorem dX7_day_0 : decode cX7_day 0 = .ok (.iload_n 1, 1) := by decide +kernel
theorem dX7_day_1 : decode cX7_day 1 = .ok (.iconst 0, 1) := by decide +kernel
theorem dX7_day_2 : decode cX7_day 2 = .ok (.sipush 200, 3) := by decide +kernel
theorem dX7_day_5 : decode cX7_day 5 = .ok (.invokestatic 85, 3) := by decide +kernel
theorem dX7_day_8 : decode cX7_day 8 = .ok (.ifCond .eq 13, 3) := by decide +kernel
theorem dX7_day_11 : decode cX7_day 11 = .ok (.aload_n 0, 1) := by decide +kernel
theorem dX7_day_12 : decode cX7_day 12 = .ok (.getfield 37, 3) := by decide +kernel
theorem dX7_day_15 : decode cX7_day 15 = .ok (.sipush 600, 3) := by decide +kernel
theorem dX7_day_18 : decode cX7_day 18 = .ok (.if_icmp .lt 5, 3) := by decide +kernel
theorem dX7_day_21 : decode cX7_day 21 = .ok (.iconst (-1), 1) := by decide +kernel
theorem dX7_day_22 : decode cX7_day 22 = .ok (.ireturn, 1) := by decide +kernel
theorem dX7_day_23 : decode cX7_day 23 = .ok (.aload_n 0, 1) := by decide +kernel
theorem dX7_day_24 : decode cX7_day 24 = .ok (.dup, 1) := by decide +kernel
theorem dX7_day_25 : decode cX7_day 25 = .ok (.getfield 41, 3) := by decide +kernel
theorem dX7_day_28 : decode cX7_day 28 = .ok (.aload_n 0, 1) := by decide +kernel
theorem dX7_day_29 : decode cX7_day 29 = .ok (.getfield 70, 3) := by decide +kernel
theorem dX7_day_32 : decode cX7_day 32 = .ok (.aload_n 0, 1) := by decide +kernel
theorem dX7_day_33 : decode cX7_day 33 = .ok (.getfield 37, 3) := by decide +kernel
theorem dX7_day_36 : decode cX7_day 36 = .ok (.aload_n 0, 1) := by decide +kernel
theorem dX7_day_37 : decode cX7_day 37 = .ok (.iconst 4, 1) := by decide +kernel
theorem dX7_day_38 : decode cX7_day 38 = .ok (.invokevirtual 165, 3) := by decide +kernel
theorem dX7_day_41 : decode cX7_day 41 = .ok (.isub, 1) := by decide +kernel
theorem dX7_day_42 : decode cX7_day 42 = .ok (.invokevirtual 199, 3) := by decide +kernel
theorem dX7_day_45 : decode cX7_day 45 = .ok (.aload_n 0, 1) := by decide +kernel
theorem dX7_day_46 : decode cX7_day 46 = .ok (.bipush 6, 2) := by decide +kernel
theorem dX7_day_48 : decode cX7_day 48 = .ok (.invokevirtual 165, 3) := by decide +kernel
theorem dX7_day_51 : decode cX7_day 51 = .ok (.imul, 1) := by decide +kernel
theorem dX7_day_52 : decode cX7_day 52 = .ok (.iadd, 1) := by decide +kernel
theorem dX7_day_53 : decode cX7_day 53 = .ok (.putfield 41, 3) := by decide +kernel
theorem dX7_day_56 : decode cX7_day 56 = .ok (.aload_n 0, 1) := by decide +kernel
theorem dX7_day_57 : decode cX7_day 57 = .ok (.getfield 10, 3) := by decide +kernel
theorem dX7_day_60 : decode cX7_day 60 = .ok (.iload_n 1, 1) := by decide +kernel
theorem dX7_day_61 : decode cX7_day 61 = .ok (.invokevirtual 202, 3) := by decide +kernel
theorem dX7_day_64 : decode cX7_day 64 = .ok (.aload_n 0, 1) := by decide +kernel
theorem dX7_day_65 : decode cX7_day 65 = .ok (.dup, 1) := by decide +kernel
theorem dX7_day_66 : decode cX7_day 66 = .ok (.getfield 37, 3) := by decide +kernel
theorem dX7_day_69 : decode cX7_day 69 = .ok (.iconst 1, 1) := by decide +kernel
theorem dX7_day_70 : decode cX7_day 70 = .ok (.iadd, 1) := by decide +kernel
theorem dX7_day_71 : decode cX7_day 71 = .ok (.putfield 37, 3) := by decide +kernel
theorem dX7_day_74 : decode cX7_day 74 = .ok (.aload_n 0, 1) := by decide +kernel
theorem dX7_day_75 : decode cX7_day 75 = .ok (.getfield 37, 3) := by decide +kernel
theorem dX7_day_78 : decode cX7_day 78 = .ok (.ireturn, 1) := by decide +kernel
set_option maxRecDepth 20000 in
theorem ggX7_back_X6_layBack : GoodIn wsX7_back wsX6_layBack := goodIn_r _ [6, 7, 8, 9, 10, 11, 5, 12, 13, 14, 15, 16, 17, 18, 19, 20, 21, 32, 33, 34, 35, 36, 37] (by decide +kernel) (by decide +kernel)
set_option maxRecDepth 20000 in
theorem gX7_back_X6_layBack : GoodIn wsX7_back (wsV RX7 205 RX6 yX6_layBack wsX6_layBack) := goodIn_app (goodIn_of _ (by decide +kernel)) ggX7_back_X6_layBack
theorem dX7_back_0 : decode cX7_back 0 = .ok (.aload_n 0, 1) := by decide +kernel
theorem dX7_back_1 : decode cX7_back 1 = .ok (.getfield 70, 3) := by decide +kernel
theorem dX7_back_4 : decode cX7_back 4 = .ok (.iload_n 1, 1) := by decide +kernel
theorem dX7_back_5 : decode cX7_back 5 = .ok (.iload_n 2, 1) := by decide +kernel
theorem dX7_back_6 : decode cX7_back 6 = .ok (.invokevirtual 205, 3) := by decide +kernel
theorem dX7_back_9 : decode cX7_back 9 = .ok (.ireturn, 1) := by decide +kernel
set_option maxRecDepth 20000 in
theorem ggX7_feed_X3_hasRoom : GoodIn wsX7_feed wsX3_hasRoom := goodIn_r _ [6, 7, 27, 28, 29, 30, 31, 32, 33] (by decide +kernel) (by decide +kernel)
set_option maxRecDepth 20000 in
theorem gX7_feed_X3_hasRoom : GoodIn wsX7_feed (wsV RX7 208 RX3 yX3_hasRoom wsX3_hasRoom) := goodIn_app (goodIn_of _ (by decide +kernel)) ggX7_feed_X3_hasRoom
set_option maxRecDepth 20000 in
theorem ggX7_feed_X3_append : GoodIn wsX7_feed wsX3_append := goodIn_r _ [11, 7, 12, 27, 28, 29, 30, 31, 32, 33] (by decide +kernel) (by decide +kernel)
set_option maxRecDepth 20000 in
theorem gX7_feed_X3_append : GoodIn wsX7_feed (wsV RX7 211 RX3 yX3_append wsX3_append) := goodIn_app (goodIn_of _ (by decide +kernel)) ggX7_feed_X3_append
set_option maxRecDepth 20000 in
theorem ggX7_feed_X3_size : GoodIn wsX7_feed wsX3_size := goodIn_r _ [16, 7, 27, 28, 29, 30, 31, 32, 33] (by decide +kernel) (by decide +kernel)
set_option maxRecDepth 20000 in
theorem gX7_feed_X3_size : GoodIn wsX7_feed (wsV RX7 214 RX3 yX3_size wsX3_size) := goodIn_app (goodIn_of _ (by decide +kernel)) ggX7_feed_X3_size
theorem dX7_feed_0 : decode cX7_feed 0 = .ok (.aload_n 0, 1) := by decide +kernel
theorem dX7_feed_1 : decode cX7_feed 1 = .ok (.getfield 33, 3) := by decide +kernel
theorem dX7_feed_4 : decode cX7_feed 4 = .ok (.invokevirtual 208, 3) := by decide +kernel
theorem dX7_feed_7 : decode cX7_feed 7 = .ok (.ifCond .ne 5, 3) := by decide +kernel
theorem dX7_feed_10 : decode cX7_feed 10 = .ok (.iconst (-1), 1) := by decide +kernel
theorem dX7_feed_11 : decode cX7_feed 11 = .ok (.ireturn, 1) := by decide +kernel
theorem dX7_feed_12 : decode cX7_feed 12 = .ok (.aload_n 0, 1) := by decide +kernel
theorem dX7_feed_13 : decode cX7_feed 13 = .ok (.getfield 33, 3) := by decide +kernel
theorem dX7_feed_16 : decode cX7_feed 16 = .ok (.iload_n 1, 1) := by decide +kernel
theorem dX7_feed_17 : decode cX7_feed 17 = .ok (.invokevirtual 211, 3) := by decide +kernel
theorem dX7_feed_20 : decode cX7_feed 20 = .ok (.aload_n 0, 1) := by decide +kernel
theorem dX7_feed_21 : decode cX7_feed 21 = .ok (.getfield 33, 3) := by decide +kernel
theorem dX7_feed_24 : decode cX7_feed 24 = .ok (.iload_n 2, 1) := by decide +kernel
theorem dX7_feed_25 : decode cX7_feed 25 = .ok (.invokevirtual 211, 3) := by decide +kernel
theorem dX7_feed_28 : decode cX7_feed 28 = .ok (.aload_n 0, 1) := by decide +kernel
theorem dX7_feed_29 : decode cX7_feed 29 = .ok (.getfield 33, 3) := by decide +kernel
theorem dX7_feed_32 : decode cX7_feed 32 = .ok (.iload_n 3, 1) := by decide +kernel
theorem dX7_feed_33 : decode cX7_feed 33 = .ok (.invokevirtual 211, 3) := by decide +kernel
theorem dX7_feed_36 : decode cX7_feed 36 = .ok (.aload_n 0, 1) := by decide +kernel
theorem dX7_feed_37 : decode cX7_feed 37 = .ok (.getfield 33, 3) := by decide +kernel
theorem dX7_feed_40 : decode cX7_feed 40 = .ok (.iload 4, 2) := by decide +kernel
theorem dX7_feed_42 : decode cX7_feed 42 = .ok (.invokevirtual 211, 3) := by decide +kernel
theorem dX7_feed_45 : decode cX7_feed 45 = .ok (.aload_n 0, 1) := by decide +kernel
theorem dX7_feed_46 : decode cX7_feed 46 = .ok (.getfield 33, 3) := by decide +kernel
theorem dX7_feed_49 : decode cX7_feed 49 = .ok (.iload 5, 2) := by decide +kernel
theorem dX7_feed_51 : decode cX7_feed 51 = .ok (.invokevirtual 211, 3) := by decide +kernel
theorem dX7_feed_54 : decode cX7_feed 54 = .ok (.aload_n 0, 1) := by decide +kernel
theorem dX7_feed_55 : decode cX7_feed 55 = .ok (.getfield 33, 3) := by decide +kernel
theorem dX7_feed_58 : decode cX7_feed 58 = .ok (.invokevirtual 214, 3) := by decide +kernel
theorem dX7_feed_61 : decode cX7_feed 61 = .ok (.ireturn, 1) := by decide +kernel
set_option maxRecDepth 20000 in
theorem ggX7_law_X3_size : GoodIn wsX7_law wsX3_size := goodIn_r _ [9, 10, 142, 143, 144, 145, 146, 147, 148] (by decide +kernel) (by decide +kernel)
set_option maxRecDepth 20000 in
theorem gX7_law_X3_size : GoodIn wsX7_law (wsV RX7 214 RX3 yX3_size wsX3_size) := goodIn_app (goodIn_of _ (by decide +kernel)) ggX7_law_X3_size
set_option maxRecDepth 20000 in
theorem ggX7_law_X7_within : GoodIn wsX7_law wsX7_within := goodIn_r _ [14] (by decide +kernel) (by decide +kernel)
set_option maxRecDepth 20000 in
theorem gX7_law_X7_within : GoodIn wsX7_law (va_wsS RX7 85 yX7_within wsX7_within) := goodIn_app (goodIn_of _ (by decide +kernel)) ggX7_law_X7_within
set_option maxRecDepth 20000 in
theorem ggX7_law_X2_isFull : GoodIn wsX7_law wsX2_isFull := goodIn_r _ [19, 20, 149, 150, 151] (by decide +kernel) (by decide +kernel)
set_option maxRecDepth 20000 in
theorem gX7_law_X2_isFull : GoodIn wsX7_law (wsV RX7 217 RX2 yX2_isFull wsX2_isFull) := goodIn_app (goodIn_of _ (by decide +kernel)) ggX7_law_X2_isFull
set_option maxRecDepth 20000 in
theorem ggX7_law_X3_read : GoodIn wsX7_law wsX3_read := goodIn_r _ [24, 10, 25, 26, 27, 28, 29, 30, 31, 32, 33, 34, 35, 36, 37, 38, 18, 39, 40, 12, 13, 14, 41, 42, 43, 8, 44, 45, 46, 47, 48, 49, 50, 51, 52, 53, 54, 55, 56, 57, 58, 59, 60, 61, 62, 63, 64, 65, 66, 67, 68, 69, 70, 71, 72, 73, 74, 75, 76, 77, 78, 79, 80, 81, 82, 83, 84, 85, 86, 87, 88, 89, 90, 91, 92, 93, 94, 95, 96, 97, 98, 99, 100, 101, 102, 103, 104, 105, 106, 107, 108, 109, 110, 111, 112, 113, 114, 115, 116, 117, 118, 119, 120, 142, 143, 144, 145, 146, 147, 148] (by decide +kernel) (by decide +kernel)
set_option maxRecDepth 20000 in
theorem gX7_law_X3_read : GoodIn wsX7_law (wsV RX7 220 RX3 yX3_read wsX3_read) := goodIn_app (goodIn_of _ (by decide +kernel)) ggX7_law_X3_read
set_option maxRecDepth 20000 in
theorem ggX7_law_X2_take : GoodIn wsX7_law wsX2_take := goodIn_r _ [124, 20, 125, 126, 127, 16, 17, 18, 19, 128, 129, 130, 8, 131, 34, 12, 13, 14, 149, 150, 151, 142, 143, 144, 145, 146, 147, 148] (by decide +kernel) (by decide +kernel)
set_option maxRecDepth 20000 in
theorem gX7_law_X2_take : GoodIn wsX7_law (wsV RX7 223 RX2 yX2_take wsX2_take) := goodIn_app (goodIn_of _ (by decide +kernel)) ggX7_law_X2_take
theorem dX7_law_0 : decode cX7_law 0 = .ok (.iload_n 1, 1) := by decide +kernel
theorem dX7_law_1 : decode cX7_law 1 = .ok (.iconst 0, 1) := by decide +kernel
theorem dX7_law_2 : decode cX7_law 2 = .ok (.aload_n 0, 1) := by decide +kernel
theorem dX7_law_3 : decode cX7_law 3 = .ok (.getfield 33, 3) := by decide +kernel
theorem dX7_law_6 : decode cX7_law 6 = .ok (.invokevirtual 214, 3) := by decide +kernel
theorem dX7_law_9 : decode cX7_law 9 = .ok (.invokestatic 85, 3) := by decide +kernel
theorem dX7_law_12 : decode cX7_law 12 = .ok (.ifCond .ne 6, 3) := by decide +kernel
theorem dX7_law_15 : decode cX7_law 15 = .ok (.bipush (-2), 2) := by decide +kernel
theorem dX7_law_17 : decode cX7_law 17 = .ok (.ireturn, 1) := by decide +kernel
theorem dX7_law_18 : decode cX7_law 18 = .ok (.aload_n 0, 1) := by decide +kernel
theorem dX7_law_19 : decode cX7_law 19 = .ok (.getfield 26, 3) := by decide +kernel
theorem dX7_law_22 : decode cX7_law 22 = .ok (.invokevirtual 217, 3) := by decide +kernel
theorem dX7_law_25 : decode cX7_law 25 = .ok (.ifCond .eq 6, 3) := by decide +kernel
theorem dX7_law_28 : decode cX7_law 28 = .ok (.bipush (-3), 2) := by decide +kernel
theorem dX7_law_30 : decode cX7_law 30 = .ok (.ireturn, 1) := by decide +kernel
theorem dX7_law_31 : decode cX7_law 31 = .ok (.aload_n 0, 1) := by decide +kernel
theorem dX7_law_32 : decode cX7_law 32 = .ok (.aload_n 0, 1) := by decide +kernel
theorem dX7_law_33 : decode cX7_law 33 = .ok (.getfield 33, 3) := by decide +kernel
theorem dX7_law_36 : decode cX7_law 36 = .ok (.iload_n 1, 1) := by decide +kernel
theorem dX7_law_37 : decode cX7_law 37 = .ok (.invokevirtual 220, 3) := by decide +kernel
theorem dX7_law_40 : decode cX7_law 40 = .ok (.putfield 44, 3) := by decide +kernel
theorem dX7_law_43 : decode cX7_law 43 = .ok (.aload_n 0, 1) := by decide +kernel
theorem dX7_law_44 : decode cX7_law 44 = .ok (.getfield 44, 3) := by decide +kernel
theorem dX7_law_47 : decode cX7_law 47 = .ok (.iconst (-1), 1) := by decide +kernel
theorem dX7_law_48 : decode cX7_law 48 = .ok (.if_icmp .ne 21, 3) := by decide +kernel
theorem dX7_law_51 : decode cX7_law 51 = .ok (.aload_n 0, 1) := by decide +kernel
theorem dX7_law_52 : decode cX7_law 52 = .ok (.getfield 26, 3) := by decide +kernel
theorem dX7_law_55 : decode cX7_law 55 = .ok (.aload_n 0, 1) := by decide +kernel
theorem dX7_law_56 : decode cX7_law 56 = .ok (.getfield 33, 3) := by decide +kernel
theorem dX7_law_59 : decode cX7_law 59 = .ok (.aload_n 0, 1) := by decide +kernel
theorem dX7_law_60 : decode cX7_law 60 = .ok (.getfield 37, 3) := by decide +kernel
theorem dX7_law_63 : decode cX7_law 63 = .ok (.invokevirtual 223, 3) := by decide +kernel
theorem dX7_law_66 : decode cX7_law 66 = .ok (.goto 4, 3) := by decide +kernel
theorem dX7_law_69 : decode cX7_law 69 = .ok (.iconst (-1), 1) := by decide +kernel
theorem dX7_law_70 : decode cX7_law 70 = .ok (.ireturn, 1) := by decide +kernel
theorem dX7_fault_0 : decode cX7_fault 0 = .ok (.aload_n 0, 1) := by decide +kernel
theorem dX7_fault_1 : decode cX7_fault 1 = .ok (.getfield 44, 3) := by decide +kernel
theorem dX7_fault_4 : decode cX7_fault 4 = .ok (.ireturn, 1) := by decide +kernel
set_option maxRecDepth 20000 in
theorem ggX7_tells_X7_within : GoodIn wsX7_tells wsX7_within := goodIn_r _ [5] (by decide +kernel) (by decide +kernel)
set_option maxRecDepth 20000 in
theorem gX7_tells_X7_within : GoodIn wsX7_tells (va_wsS RX7 85 yX7_within wsX7_within) := goodIn_app (goodIn_of _ (by decide +kernel)) ggX7_tells_X7_within
set_option maxRecDepth 20000 in
theorem ggX7_tells_X2_inForce : GoodIn wsX7_tells wsX2_inForce := goodIn_r _ [10, 11, 12, 33, 34, 35] (by decide +kernel) (by decide +kernel)
set_option maxRecDepth 20000 in
theorem gX7_tells_X2_inForce : GoodIn wsX7_tells (wsV RX7 227 RX2 yX2_inForce wsX2_inForce) := goodIn_app (goodIn_of _ (by decide +kernel)) ggX7_tells_X2_inForce
set_option maxRecDepth 20000 in
theorem ggX7_tells_X2_term : GoodIn wsX7_tells wsX2_term := goodIn_r _ [16, 17, 18, 7, 8, 9, 10, 11, 12, 3, 4, 5, 19, 20, 21, 22, 33, 34, 35] (by decide +kernel) (by decide +kernel)
set_option maxRecDepth 20000 in
theorem gX7_tells_X2_term : GoodIn wsX7_tells (wsV RX7 230 RX2 yX2_term wsX2_term) := goodIn_app (goodIn_of _ (by decide +kernel)) ggX7_tells_X2_term
theorem dX7_tells_0 : decode cX7_tells 0 = .ok (.iload_n 1, 1) := by decide +kernel
theorem dX7_tells_1 : decode cX7_tells 1 = .ok (.iconst 0, 1) := by decide +kernel
theorem dX7_tells_2 : decode cX7_tells 2 = .ok (.sipush 600, 3) := by decide +kernel
theorem dX7_tells_5 : decode cX7_tells 5 = .ok (.invokestatic 85, 3) := by decide +kernel
theorem dX7_tells_8 : decode cX7_tells 8 = .ok (.ifCond .ne 5, 3) := by decide +kernel
theorem dX7_tells_11 : decode cX7_tells 11 = .ok (.iconst (-1), 1) := by decide +kernel
theorem dX7_tells_12 : decode cX7_tells 12 = .ok (.ireturn, 1) := by decide +kernel
theorem dX7_tells_13 : decode cX7_tells 13 = .ok (.iload_n 2, 1) := by decide +kernel
theorem dX7_tells_14 : decode cX7_tells 14 = .ok (.bipush 7, 2) := by decide +kernel
theorem dX7_tells_16 : decode cX7_tells 16 = .ok (.if_icmp .ne 14, 3) := by decide +kernel
theorem dX7_tells_19 : decode cX7_tells 19 = .ok (.aload_n 0, 1) := by decide +kernel
theorem dX7_tells_20 : decode cX7_tells 20 = .ok (.getfield 26, 3) := by decide +kernel
theorem dX7_tells_23 : decode cX7_tells 23 = .ok (.iload_n 1, 1) := by decide +kernel
theorem dX7_tells_24 : decode cX7_tells 24 = .ok (.invokevirtual 227, 3) := by decide +kernel
theorem dX7_tells_27 : decode cX7_tells 27 = .ok (.goto 12, 3) := by decide +kernel
theorem dX7_tells_30 : decode cX7_tells 30 = .ok (.aload_n 0, 1) := by decide +kernel
theorem dX7_tells_31 : decode cX7_tells 31 = .ok (.getfield 26, 3) := by decide +kernel
theorem dX7_tells_34 : decode cX7_tells 34 = .ok (.iload_n 1, 1) := by decide +kernel
theorem dX7_tells_35 : decode cX7_tells 35 = .ok (.iload_n 2, 1) := by decide +kernel
theorem dX7_tells_36 : decode cX7_tells 36 = .ok (.invokevirtual 230, 3) := by decide +kernel
theorem dX7_tells_39 : decode cX7_tells 39 = .ok (.ireturn, 1) := by decide +kernel
set_option maxRecDepth 20000 in
theorem ggX7_month_X7_within : GoodIn wsX7_month wsX7_within := goodIn_r _ [6] (by decide +kernel) (by decide +kernel)
set_option maxRecDepth 20000 in
theorem gX7_month_X7_within : GoodIn wsX7_month (va_wsS RX7 85 yX7_within wsX7_within) := goodIn_app (goodIn_of _ (by decide +kernel)) ggX7_month_X7_within
set_option maxRecDepth 20000 in
theorem ggX7_month_X0_inMonth : GoodIn wsX7_month wsX0_inMonth := goodIn_r _ [11, 12, 4, 5, 6, 39, 40, 41, 42] (by decide +kernel) (by decide +kernel)
set_option maxRecDepth 20000 in
theorem gX7_month_X0_inMonth : GoodIn wsX7_month (wsV RX7 233 RX0 yX0_inMonth wsX0_inMonth) := goodIn_app (goodIn_of _ (by decide +kernel)) ggX7_month_X0_inMonth
set_option maxRecDepth 20000 in
theorem ggX7_month_X2_term : GoodIn wsX7_month wsX2_term := goodIn_r _ [17, 18, 19, 20, 21, 16, 22, 23, 24, 4, 5, 6, 25, 26, 27, 28, 43, 44, 45] (by decide +kernel) (by decide +kernel)
set_option maxRecDepth 20000 in
theorem gX7_month_X2_term : GoodIn wsX7_month (wsV RX7 230 RX2 yX2_term wsX2_term) := goodIn_app (goodIn_of _ (by decide +kernel)) ggX7_month_X2_term
theorem dX7_month_0 : decode cX7_month 0 = .ok (.iload_n 1, 1) := by decide +kernel
theorem dX7_month_1 : decode cX7_month 1 = .ok (.iconst 0, 1) := by decide +kernel
theorem dX7_month_2 : decode cX7_month 2 = .ok (.bipush 20, 2) := by decide +kernel
theorem dX7_month_4 : decode cX7_month 4 = .ok (.invokestatic 85, 3) := by decide +kernel
theorem dX7_month_7 : decode cX7_month 7 = .ok (.ifCond .ne 5, 3) := by decide +kernel
theorem dX7_month_10 : decode cX7_month 10 = .ok (.iconst (-1), 1) := by decide +kernel
theorem dX7_month_11 : decode cX7_month 11 = .ok (.ireturn, 1) := by decide +kernel
theorem dX7_month_12 : decode cX7_month 12 = .ok (.aload_n 0, 1) := by decide +kernel
theorem dX7_month_13 : decode cX7_month 13 = .ok (.getfield 19, 3) := by decide +kernel
theorem dX7_month_16 : decode cX7_month 16 = .ok (.iload_n 1, 1) := by decide +kernel
theorem dX7_month_17 : decode cX7_month 17 = .ok (.invokevirtual 233, 3) := by decide +kernel
theorem dX7_month_20 : decode cX7_month 20 = .ok (.istore_n 3, 1) := by decide +kernel
theorem dX7_month_21 : decode cX7_month 21 = .ok (.iload_n 2, 1) := by decide +kernel
theorem dX7_month_22 : decode cX7_month 22 = .ok (.lookupswitch 52 #[(0, 26), (1, 28)], 26) := by decide +kernel
theorem dX7_month_48 : decode cX7_month 48 = .ok (.iload_n 3, 1) := by decide +kernel
theorem dX7_month_49 : decode cX7_month 49 = .ok (.ireturn, 1) := by decide +kernel
theorem dX7_month_50 : decode cX7_month 50 = .ok (.iload_n 3, 1) := by decide +kernel
theorem dX7_month_51 : decode cX7_month 51 = .ok (.aload_n 0, 1) := by decide +kernel
theorem dX7_month_52 : decode cX7_month 52 = .ok (.getfield 26, 3) := by decide +kernel
theorem dX7_month_55 : decode cX7_month 55 = .ok (.iload_n 1, 1) := by decide +kernel
theorem dX7_month_56 : decode cX7_month 56 = .ok (.bipush 30, 2) := by decide +kernel
theorem dX7_month_58 : decode cX7_month 58 = .ok (.imul, 1) := by decide +kernel
theorem dX7_month_59 : decode cX7_month 59 = .ok (.bipush 30, 2) := by decide +kernel
theorem dX7_month_61 : decode cX7_month 61 = .ok (.iadd, 1) := by decide +kernel
theorem dX7_month_62 : decode cX7_month 62 = .ok (.iconst 1, 1) := by decide +kernel
theorem dX7_month_63 : decode cX7_month 63 = .ok (.isub, 1) := by decide +kernel
theorem dX7_month_64 : decode cX7_month 64 = .ok (.iconst 5, 1) := by decide +kernel
theorem dX7_month_65 : decode cX7_month 65 = .ok (.invokevirtual 230, 3) := by decide +kernel
theorem dX7_month_68 : decode cX7_month 68 = .ok (.imul, 1) := by decide +kernel
theorem dX7_month_69 : decode cX7_month 69 = .ok (.sipush 1000, 3) := by decide +kernel
theorem dX7_month_72 : decode cX7_month 72 = .ok (.idiv, 1) := by decide +kernel
theorem dX7_month_73 : decode cX7_month 73 = .ok (.ireturn, 1) := by decide +kernel
theorem dX7_month_74 : decode cX7_month 74 = .ok (.iconst (-1), 1) := by decide +kernel
theorem dX7_month_75 : decode cX7_month 75 = .ok (.ireturn, 1) := by decide +kernel
set_option maxRecDepth 20000 in
theorem ggX7_count_X6_dredgeRow : GoodIn wsX7_count wsX6_dredgeRow := goodIn_r _ [13, 14, 81, 82, 83, 84, 85, 86] (by decide +kernel) (by decide +kernel)
set_option maxRecDepth 20000 in
theorem gX7_count_X6_dredgeRow : GoodIn wsX7_count (wsV RX7 236 RX6 yX6_dredgeRow wsX6_dredgeRow) := goodIn_app (goodIn_of _ (by decide +kernel)) ggX7_count_X6_dredgeRow
set_option maxRecDepth 20000 in
theorem ggX7_count_X6_dredgePlace : GoodIn wsX7_count wsX6_dredgePlace := goodIn_r _ [18, 14, 19, 81, 82, 83, 84, 85, 86] (by decide +kernel) (by decide +kernel)
set_option maxRecDepth 20000 in
theorem gX7_count_X6_dredgePlace : GoodIn wsX7_count (wsV RX7 142 RX6 yX6_dredgePlace wsX6_dredgePlace) := goodIn_app (goodIn_of _ (by decide +kernel)) ggX7_count_X6_dredgePlace
set_option maxRecDepth 20000 in
theorem ggX7_count_X4_hoursLeft : GoodIn wsX7_count wsX4_hoursLeft := goodIn_r _ [24, 25, 87, 88, 89] (by decide +kernel) (by decide +kernel)
set_option maxRecDepth 20000 in
theorem gX7_count_X4_hoursLeft : GoodIn wsX7_count (wsV RX7 171 RX4 yX4_hoursLeft wsX4_hoursLeft) := goodIn_app (goodIn_of _ (by decide +kernel)) ggX7_count_X4_hoursLeft
set_option maxRecDepth 20000 in
theorem ggX7_count_X4_level : GoodIn wsX7_count wsX4_level := goodIn_r _ [29, 30, 87, 88, 89] (by decide +kernel) (by decide +kernel)
set_option maxRecDepth 20000 in
theorem gX7_count_X4_level : GoodIn wsX7_count (wsV RX7 162 RX4 yX4_level wsX4_level) := goodIn_app (goodIn_of _ (by decide +kernel)) ggX7_count_X4_level
set_option maxRecDepth 20000 in
theorem ggX7_count_X4_mud : GoodIn wsX7_count wsX4_mud := goodIn_r _ [34, 35, 87, 88, 89] (by decide +kernel) (by decide +kernel)
set_option maxRecDepth 20000 in
theorem gX7_count_X4_mud : GoodIn wsX7_count (wsV RX7 239 RX4 yX4_mud wsX4_mud) := goodIn_app (goodIn_of _ (by decide +kernel)) ggX7_count_X4_mud
set_option maxRecDepth 20000 in
theorem ggX7_count_X0_inAll : GoodIn wsX7_count wsX0_inAll := goodIn_r _ [40, 41, 90, 91, 92, 93] (by decide +kernel) (by decide +kernel)
set_option maxRecDepth 20000 in
theorem gX7_count_X0_inAll : GoodIn wsX7_count (wsV RX7 242 RX0 yX0_inAll wsX0_inAll) := goodIn_app (goodIn_of _ (by decide +kernel)) ggX7_count_X0_inAll
set_option maxRecDepth 20000 in
theorem ggX7_count_X0_lost : GoodIn wsX7_count wsX0_lost := goodIn_r _ [45, 46, 90, 91, 92, 93] (by decide +kernel) (by decide +kernel)
set_option maxRecDepth 20000 in
theorem gX7_count_X0_lost : GoodIn wsX7_count (wsV RX7 245 RX0 yX0_lost wsX0_lost) := goodIn_app (goodIn_of _ (by decide +kernel)) ggX7_count_X0_lost
set_option maxRecDepth 20000 in
theorem ggX7_count_X6_laidBackCount : GoodIn wsX7_count wsX6_laidBackCount := goodIn_r _ [50, 51, 81, 82, 83, 84, 85, 86] (by decide +kernel) (by decide +kernel)
set_option maxRecDepth 20000 in
theorem gX7_count_X6_laidBackCount : GoodIn wsX7_count (wsV RX7 248 RX6 yX6_laidBackCount wsX6_laidBackCount) := goodIn_app (goodIn_of _ (by decide +kernel)) ggX7_count_X6_laidBackCount
set_option maxRecDepth 20000 in
theorem ggX7_count_X1_quarrels : GoodIn wsX7_count wsX1_quarrels := goodIn_r _ [56, 57, 58, 94, 95, 96, 97, 98, 99, 100] (by decide +kernel) (by decide +kernel)
set_option maxRecDepth 20000 in
theorem gX7_count_X1_quarrels : GoodIn wsX7_count (wsV RX7 251 RX1 yX1_quarrels wsX1_quarrels) := goodIn_app (goodIn_of _ (by decide +kernel)) ggX7_count_X1_quarrels
set_option maxRecDepth 20000 in
theorem ggX7_count_X2_size : GoodIn wsX7_count wsX2_size := goodIn_r _ [63, 64, 101, 102, 103] (by decide +kernel) (by decide +kernel)
set_option maxRecDepth 20000 in
theorem gX7_count_X2_size : GoodIn wsX7_count (wsV RX7 254 RX2 yX2_size wsX2_size) := goodIn_app (goodIn_of _ (by decide +kernel)) ggX7_count_X2_size
set_option maxRecDepth 20000 in
theorem ggX7_count_X3_size : GoodIn wsX7_count wsX3_size := goodIn_r _ [69, 70, 104, 105, 106, 107, 108, 109, 110] (by decide +kernel) (by decide +kernel)
set_option maxRecDepth 20000 in
theorem gX7_count_X3_size : GoodIn wsX7_count (wsV RX7 214 RX3 yX3_size wsX3_size) := goodIn_app (goodIn_of _ (by decide +kernel)) ggX7_count_X3_size
theorem dX7_count_0 : decode cX7_count 0 = .ok (.iload_n 1, 1) := by decide +kernel
theorem dX7_count_1 : decode cX7_count 1 = .ok (.tableswitch 165 0 12 #[67, 72, 80, 88, 96, 104, 112, 120, 128, 133, 141, 149, 157], 67) := by decide +kernel
theorem dX7_count_68 : decode cX7_count 68 = .ok (.aload_n 0, 1) := by decide +kernel
theorem dX7_count_69 : decode cX7_count 69 = .ok (.getfield 37, 3) := by decide +kernel
theorem dX7_count_72 : decode cX7_count 72 = .ok (.ireturn, 1) := by decide +kernel
theorem dX7_count_73 : decode cX7_count 73 = .ok (.aload_n 0, 1) := by decide +kernel
theorem dX7_count_74 : decode cX7_count 74 = .ok (.getfield 70, 3) := by decide +kernel
theorem dX7_count_77 : decode cX7_count 77 = .ok (.invokevirtual 236, 3) := by decide +kernel
theorem dX7_count_80 : decode cX7_count 80 = .ok (.ireturn, 1) := by decide +kernel
theorem dX7_count_81 : decode cX7_count 81 = .ok (.aload_n 0, 1) := by decide +kernel
theorem dX7_count_82 : decode cX7_count 82 = .ok (.getfield 70, 3) := by decide +kernel
theorem dX7_count_85 : decode cX7_count 85 = .ok (.invokevirtual 142, 3) := by decide +kernel
theorem dX7_count_88 : decode cX7_count 88 = .ok (.ireturn, 1) := by decide +kernel
theorem dX7_count_89 : decode cX7_count 89 = .ok (.aload_n 0, 1) := by decide +kernel
theorem dX7_count_90 : decode cX7_count 90 = .ok (.getfield 10, 3) := by decide +kernel
theorem dX7_count_93 : decode cX7_count 93 = .ok (.invokevirtual 171, 3) := by decide +kernel
theorem dX7_count_96 : decode cX7_count 96 = .ok (.ireturn, 1) := by decide +kernel
theorem dX7_count_97 : decode cX7_count 97 = .ok (.aload_n 0, 1) := by decide +kernel
theorem dX7_count_98 : decode cX7_count 98 = .ok (.getfield 10, 3) := by decide +kernel
theorem dX7_count_101 : decode cX7_count 101 = .ok (.invokevirtual 162, 3) := by decide +kernel
theorem dX7_count_104 : decode cX7_count 104 = .ok (.ireturn, 1) := by decide +kernel
theorem dX7_count_105 : decode cX7_count 105 = .ok (.aload_n 0, 1) := by decide +kernel
theorem dX7_count_106 : decode cX7_count 106 = .ok (.getfield 10, 3) := by decide +kernel
theorem dX7_count_109 : decode cX7_count 109 = .ok (.invokevirtual 239, 3) := by decide +kernel
theorem dX7_count_112 : decode cX7_count 112 = .ok (.ireturn, 1) := by decide +kernel
theorem dX7_count_113 : decode cX7_count 113 = .ok (.aload_n 0, 1) := by decide +kernel
theorem dX7_count_114 : decode cX7_count 114 = .ok (.getfield 19, 3) := by decide +kernel
theorem dX7_count_117 : decode cX7_count 117 = .ok (.invokevirtual 242, 3) := by decide +kernel
theorem dX7_count_120 : decode cX7_count 120 = .ok (.ireturn, 1) := by decide +kernel
theorem dX7_count_121 : decode cX7_count 121 = .ok (.aload_n 0, 1) := by decide +kernel
theorem dX7_count_122 : decode cX7_count 122 = .ok (.getfield 19, 3) := by decide +kernel
theorem dX7_count_125 : decode cX7_count 125 = .ok (.invokevirtual 245, 3) := by decide +kernel
theorem dX7_count_128 : decode cX7_count 128 = .ok (.ireturn, 1) := by decide +kernel
theorem dX7_count_129 : decode cX7_count 129 = .ok (.aload_n 0, 1) := by decide +kernel
theorem dX7_count_130 : decode cX7_count 130 = .ok (.getfield 41, 3) := by decide +kernel
theorem dX7_count_133 : decode cX7_count 133 = .ok (.ireturn, 1) := by decide +kernel
theorem dX7_count_134 : decode cX7_count 134 = .ok (.aload_n 0, 1) := by decide +kernel
theorem dX7_count_135 : decode cX7_count 135 = .ok (.getfield 70, 3) := by decide +kernel
theorem dX7_count_138 : decode cX7_count 138 = .ok (.invokevirtual 248, 3) := by decide +kernel
theorem dX7_count_141 : decode cX7_count 141 = .ok (.ireturn, 1) := by decide +kernel
theorem dX7_count_142 : decode cX7_count 142 = .ok (.aload_n 0, 1) := by decide +kernel
theorem dX7_count_143 : decode cX7_count 143 = .ok (.getfield 61, 3) := by decide +kernel
theorem dX7_count_146 : decode cX7_count 146 = .ok (.invokevirtual 251, 3) := by decide +kernel
theorem dX7_count_149 : decode cX7_count 149 = .ok (.ireturn, 1) := by decide +kernel
theorem dX7_count_150 : decode cX7_count 150 = .ok (.aload_n 0, 1) := by decide +kernel
theorem dX7_count_151 : decode cX7_count 151 = .ok (.getfield 26, 3) := by decide +kernel
theorem dX7_count_154 : decode cX7_count 154 = .ok (.invokevirtual 254, 3) := by decide +kernel
theorem dX7_count_157 : decode cX7_count 157 = .ok (.ireturn, 1) := by decide +kernel
theorem dX7_count_158 : decode cX7_count 158 = .ok (.aload_n 0, 1) := by decide +kernel
theorem dX7_count_159 : decode cX7_count 159 = .ok (.getfield 33, 3) := by decide +kernel
theorem dX7_count_162 : decode cX7_count 162 = .ok (.invokevirtual 214, 3) := by decide +kernel
theorem dX7_count_165 : decode cX7_count 165 = .ok (.ireturn, 1) := by decide +kernel
theorem dX7_count_166 : decode cX7_count 166 = .ok (.iconst (-1), 1) := by decide +kernel
theorem dX7_count_167 : decode cX7_count 167 = .ok (.ireturn, 1) := by decide +kernel
theorem dX7_within_0 : decode cX7_within 0 = .ok (.iload_n 0, 1) := by decide +kernel
theorem dX7_within_1 : decode cX7_within 1 = .ok (.iload_n 1, 1) := by decide +kernel
theorem dX7_within_2 : decode cX7_within 2 = .ok (.if_icmp .lt 12, 3) := by decide +kernel
theorem dX7_within_5 : decode cX7_within 5 = .ok (.iload_n 0, 1) := by decide +kernel
theorem dX7_within_6 : decode cX7_within 6 = .ok (.iload_n 2, 1) := by decide +kernel
theorem dX7_within_7 : decode cX7_within 7 = .ok (.if_icmp .gt 7, 3) := by decide +kernel
theorem dX7_within_10 : decode cX7_within 10 = .ok (.iconst 1, 1) := by decide +kernel
theorem dX7_within_11 : decode cX7_within 11 = .ok (.goto 4, 3) := by decide +kernel
theorem dX7_within_14 : decode cX7_within 14 = .ok (.iconst 0, 1) := by decide +kernel
theorem dX7_within_15 : decode cX7_within 15 = .ok (.ireturn, 1) := by decide +kernel
theorem dX7_oneIf_0 : decode cX7_oneIf 0 = .ok (.iload_n 0, 1) := by decide +kernel
theorem dX7_oneIf_1 : decode cX7_oneIf 1 = .ok (.ifCond .eq 7, 3) := by decide +kernel
theorem dX7_oneIf_4 : decode cX7_oneIf 4 = .ok (.iconst 1, 1) := by decide +kernel
theorem dX7_oneIf_5 : decode cX7_oneIf 5 = .ok (.goto 4, 3) := by decide +kernel
theorem dX7_oneIf_8 : decode cX7_oneIf 8 = .ok (.iconst 0, 1) := by decide +kernel
theorem dX7_oneIf_9 : decode cX7_oneIf 9 = .ok (.ireturn, 1) := by decide +kernel
set_option maxRecDepth 20000 in
theorem ggX7_isUndug_X1_has : GoodIn wsX7_isUndug wsX1_has := goodIn_r _ [7, 8, 9, 10, 11, 12, 30, 31, 32, 33, 34, 35, 36] (by decide +kernel) (by decide +kernel)
set_option maxRecDepth 20000 in
theorem gX7_isUndug_X1_has : GoodIn wsX7_isUndug (wsV RX7 99 RX1 yX1_has wsX1_has) := goodIn_app (goodIn_of _ (by decide +kernel)) ggX7_isUndug_X1_has
set_option maxRecDepth 20000 in
theorem ggX7_isUndug_X6_isDug : GoodIn wsX7_isUndug wsX6_isDug := goodIn_r _ [17, 18, 19, 10, 11, 12, 37, 38, 39, 40, 41, 42] (by decide +kernel) (by decide +kernel)
set_option maxRecDepth 20000 in
theorem gX7_isUndug_X6_isDug : GoodIn wsX7_isUndug (wsV RX7 118 RX6 yX6_isDug wsX6_isDug) := goodIn_app (goodIn_of _ (by decide +kernel)) ggX7_isUndug_X6_isDug
theorem dX7_isUndug_0 : decode cX7_isUndug 0 = .ok (.aload_n 0, 1) := by decide +kernel
theorem dX7_isUndug_1 : decode cX7_isUndug 1 = .ok (.getfield 61, 3) := by decide +kernel
theorem dX7_isUndug_4 : decode cX7_isUndug 4 = .ok (.iload_n 1, 1) := by decide +kernel
theorem dX7_isUndug_5 : decode cX7_isUndug 5 = .ok (.iload_n 2, 1) := by decide +kernel
theorem dX7_isUndug_6 : decode cX7_isUndug 6 = .ok (.invokevirtual 99, 3) := by decide +kernel
theorem dX7_isUndug_9 : decode cX7_isUndug 9 = .ok (.ifCond .eq 19, 3) := by decide +kernel
theorem dX7_isUndug_12 : decode cX7_isUndug 12 = .ok (.aload_n 0, 1) := by decide +kernel
theorem dX7_isUndug_13 : decode cX7_isUndug 13 = .ok (.getfield 70, 3) := by decide +kernel
theorem dX7_isUndug_16 : decode cX7_isUndug 16 = .ok (.iload_n 1, 1) := by decide +kernel
theorem dX7_isUndug_17 : decode cX7_isUndug 17 = .ok (.iload_n 2, 1) := by decide +kernel
theorem dX7_isUndug_18 : decode cX7_isUndug 18 = .ok (.invokevirtual 118, 3) := by decide +kernel
theorem dX7_isUndug_21 : decode cX7_isUndug 21 = .ok (.ifCond .ne 7, 3) := by decide +kernel
theorem dX7_isUndug_24 : decode cX7_isUndug 24 = .ok (.iconst 1, 1) := by decide +kernel
theorem dX7_isUndug_25 : decode cX7_isUndug 25 = .ok (.goto 4, 3) := by decide +kernel
theorem dX7_isUndug_28 : decode cX7_isUndug 28 = .ok (.iconst 0, 1) := by decide +kernel
theorem dX7_isUndug_29 : decode cX7_isUndug 29 = .ok (.ireturn, 1) := by decide +kernel
set_option maxRecDepth 20000 in
theorem ggX7_lawToday_X2_term : GoodIn wsX7_lawToday wsX2_term := goodIn_r _ [7, 8, 9, 10, 11, 6, 12, 13, 14, 15, 16, 17, 18, 19, 20, 21, 32, 33, 34] (by decide +kernel) (by decide +kernel)
set_option maxRecDepth 20000 in
theorem gX7_lawToday_X2_term : GoodIn wsX7_lawToday (wsV RX7 230 RX2 yX2_term wsX2_term) := goodIn_app (goodIn_of _ (by decide +kernel)) ggX7_lawToday_X2_term
theorem dX7_lawToday_0 : decode cX7_lawToday 0 = .ok (.aload_n 0, 1) := by decide +kernel
theorem dX7_lawToday_1 : decode cX7_lawToday 1 = .ok (.getfield 26, 3) := by decide +kernel
theorem dX7_lawToday_4 : decode cX7_lawToday 4 = .ok (.aload_n 0, 1) := by decide +kernel
theorem dX7_lawToday_5 : decode cX7_lawToday 5 = .ok (.getfield 37, 3) := by decide +kernel
theorem dX7_lawToday_8 : decode cX7_lawToday 8 = .ok (.iload_n 1, 1) := by decide +kernel
theorem dX7_lawToday_9 : decode cX7_lawToday 9 = .ok (.invokevirtual 230, 3) := by decide +kernel
theorem dX7_lawToday_12 : decode cX7_lawToday 12 = .ok (.ireturn, 1) := by decide +kernel
set_option maxRecDepth 20000 in
theorem ggX7_isMuddy_X4_mud : GoodIn wsX7_isMuddy wsX4_mud := goodIn_r _ [6, 7, 43, 44, 45] (by decide +kernel) (by decide +kernel)
set_option maxRecDepth 20000 in
theorem gX7_isMuddy_X4_mud : GoodIn wsX7_isMuddy (wsV RX7 239 RX4 yX4_mud wsX4_mud) := goodIn_app (goodIn_of _ (by decide +kernel)) ggX7_isMuddy_X4_mud
set_option maxRecDepth 20000 in
theorem ggX7_isMuddy_X7_lawToday : GoodIn wsX7_isMuddy wsX7_lawToday := goodIn_r _ [12, 13, 14, 15, 16, 17, 18, 19, 20, 21, 22, 23, 24, 25, 26, 27, 11, 28, 29, 30, 31, 32, 33, 34, 35, 36, 37, 38, 39, 40, 41, 42, 46, 47, 48] (by decide +kernel) (by decide +kernel)
set_option maxRecDepth 20000 in
theorem gX7_isMuddy_X7_lawToday : GoodIn wsX7_isMuddy (wsV RX7 165 RX7 yX7_lawToday wsX7_lawToday) := goodIn_app (goodIn_of _ (by decide +kernel)) ggX7_isMuddy_X7_lawToday
theorem dX7_isMuddy_0 : decode cX7_isMuddy 0 = .ok (.aload_n 0, 1) := by decide +kernel
theorem dX7_isMuddy_1 : decode cX7_isMuddy 1 = .ok (.getfield 10, 3) := by decide +kernel
theorem dX7_isMuddy_4 : decode cX7_isMuddy 4 = .ok (.invokevirtual 239, 3) := by decide +kernel
theorem dX7_isMuddy_7 : decode cX7_isMuddy 7 = .ok (.aload_n 0, 1) := by decide +kernel
theorem dX7_isMuddy_8 : decode cX7_isMuddy 8 = .ok (.iconst 3, 1) := by decide +kernel
theorem dX7_isMuddy_9 : decode cX7_isMuddy 9 = .ok (.invokevirtual 165, 3) := by decide +kernel
theorem dX7_isMuddy_12 : decode cX7_isMuddy 12 = .ok (.if_icmp .le 7, 3) := by decide +kernel
theorem dX7_isMuddy_15 : decode cX7_isMuddy 15 = .ok (.iconst 1, 1) := by decide +kernel
theorem dX7_isMuddy_16 : decode cX7_isMuddy 16 = .ok (.goto 4, 3) := by decide +kernel
theorem dX7_isMuddy_19 : decode cX7_isMuddy 19 = .ok (.iconst 0, 1) := by decide +kernel
theorem dX7_isMuddy_20 : decode cX7_isMuddy 20 = .ok (.ireturn, 1) := by decide +kernel
set_option maxRecDepth 20000 in
theorem ggX7_bankAhead_X6_dredgeRow : GoodIn wsX7_bankAhead wsX6_dredgeRow := goodIn_r _ [11, 12, 43, 44, 45, 46, 47, 48] (by decide +kernel) (by decide +kernel)
set_option maxRecDepth 20000 in
theorem gX7_bankAhead_X6_dredgeRow : GoodIn wsX7_bankAhead (wsV RX7 236 RX6 yX6_dredgeRow wsX6_dredgeRow) := goodIn_app (goodIn_of _ (by decide +kernel)) ggX7_bankAhead_X6_dredgeRow
set_option maxRecDepth 20000 in
theorem ggX7_bankAhead_X6_dredgePlace : GoodIn wsX7_bankAhead wsX6_dredgePlace := goodIn_r _ [16, 12, 17, 43, 44, 45, 46, 47, 48] (by decide +kernel) (by decide +kernel)
set_option maxRecDepth 20000 in
theorem gX7_bankAhead_X6_dredgePlace : GoodIn wsX7_bankAhead (wsV RX7 142 RX6 yX6_dredgePlace wsX6_dredgePlace) := goodIn_app (goodIn_of _ (by decide +kernel)) ggX7_bankAhead_X6_dredgePlace
set_option maxRecDepth 20000 in
theorem ggX7_bankAhead_X1_has : GoodIn wsX7_bankAhead wsX1_has := goodIn_r _ [22, 23, 24, 25, 26, 27, 49, 50, 51, 52, 53, 54, 55] (by decide +kernel) (by decide +kernel)
set_option maxRecDepth 20000 in
theorem gX7_bankAhead_X1_has : GoodIn wsX7_bankAhead (wsV RX7 99 RX1 yX1_has wsX1_has) := goodIn_app (goodIn_of _ (by decide +kernel)) ggX7_bankAhead_X1_has
set_option maxRecDepth 20000 in
theorem ggX7_bankAhead_X1_depthAt : GoodIn wsX7_bankAhead wsX1_depthAt := goodIn_r _ [31, 32, 24, 49, 50, 51, 52, 53, 54, 55] (by decide +kernel) (by decide +kernel)
set_option maxRecDepth 20000 in
theorem gX7_bankAhead_X1_depthAt : GoodIn wsX7_bankAhead (wsV RX7 102 RX1 yX1_depthAt wsX1_depthAt) := goodIn_app (goodIn_of _ (by decide +kernel)) ggX7_bankAhead_X1_depthAt
theorem dX7_bankAhead_0 : decode cX7_bankAhead 0 = .ok (.aload_n 0, 1) := by decide +kernel
theorem dX7_bankAhead_1 : decode cX7_bankAhead 1 = .ok (.getfield 70, 3) := by decide +kernel
theorem dX7_bankAhead_4 : decode cX7_bankAhead 4 = .ok (.invokevirtual 236, 3) := by decide +kernel
theorem dX7_bankAhead_7 : decode cX7_bankAhead 7 = .ok (.istore_n 2, 1) := by decide +kernel
theorem dX7_bankAhead_8 : decode cX7_bankAhead 8 = .ok (.aload_n 0, 1) := by decide +kernel
theorem dX7_bankAhead_9 : decode cX7_bankAhead 9 = .ok (.getfield 70, 3) := by decide +kernel
theorem dX7_bankAhead_12 : decode cX7_bankAhead 12 = .ok (.invokevirtual 142, 3) := by decide +kernel
theorem dX7_bankAhead_15 : decode cX7_bankAhead 15 = .ok (.istore_n 3, 1) := by decide +kernel
theorem dX7_bankAhead_16 : decode cX7_bankAhead 16 = .ok (.aload_n 0, 1) := by decide +kernel
theorem dX7_bankAhead_17 : decode cX7_bankAhead 17 = .ok (.getfield 61, 3) := by decide +kernel
theorem dX7_bankAhead_20 : decode cX7_bankAhead 20 = .ok (.iload_n 2, 1) := by decide +kernel
theorem dX7_bankAhead_21 : decode cX7_bankAhead 21 = .ok (.iload_n 3, 1) := by decide +kernel
theorem dX7_bankAhead_22 : decode cX7_bankAhead 22 = .ok (.invokevirtual 99, 3) := by decide +kernel
theorem dX7_bankAhead_25 : decode cX7_bankAhead 25 = .ok (.ifCond .ne 5, 3) := by decide +kernel
theorem dX7_bankAhead_28 : decode cX7_bankAhead 28 = .ok (.iconst 0, 1) := by decide +kernel
theorem dX7_bankAhead_29 : decode cX7_bankAhead 29 = .ok (.ireturn, 1) := by decide +kernel
theorem dX7_bankAhead_30 : decode cX7_bankAhead 30 = .ok (.iload_n 1, 1) := by decide +kernel
theorem dX7_bankAhead_31 : decode cX7_bankAhead 31 = .ok (.aload_n 0, 1) := by decide +kernel
theorem dX7_bankAhead_32 : decode cX7_bankAhead 32 = .ok (.getfield 61, 3) := by decide +kernel
theorem dX7_bankAhead_35 : decode cX7_bankAhead 35 = .ok (.iload_n 2, 1) := by decide +kernel
theorem dX7_bankAhead_36 : decode cX7_bankAhead 36 = .ok (.iload_n 3, 1) := by decide +kernel
theorem dX7_bankAhead_37 : decode cX7_bankAhead 37 = .ok (.invokevirtual 102, 3) := by decide +kernel
theorem dX7_bankAhead_40 : decode cX7_bankAhead 40 = .ok (.isub, 1) := by decide +kernel
theorem dX7_bankAhead_41 : decode cX7_bankAhead 41 = .ok (.invokestatic 255, 3) := by decide +kernel
theorem dX7_bankAhead_44 : decode cX7_bankAhead 44 = .ok (.ireturn, 1) := by decide +kernel
theorem dX8_init_0 : decode cX8_init 0 = .ok (.aload_n 0, 1) := by decide +kernel
theorem dX8_init_1 : decode cX8_init 1 = .ok (.invokespecial 1, 3) := by decide +kernel
theorem dX8_init_4 : decode cX8_init 4 = .ok (.aload_n 0, 1) := by decide +kernel
theorem dX8_init_5 : decode cX8_init 5 = .ok (.sipush 160, 3) := by decide +kernel
theorem dX8_init_8 : decode cX8_init 8 = .ok (.newarray .int, 2) := by decide +kernel
theorem dX8_init_10 : decode cX8_init 10 = .ok (.putfield 7, 3) := by decide +kernel
theorem dX8_init_13 : decode cX8_init 13 = .ok (.aload_n 0, 1) := by decide +kernel
theorem dX8_init_14 : decode cX8_init 14 = .ok (.sipush 160, 3) := by decide +kernel
theorem dX8_init_17 : decode cX8_init 17 = .ok (.newarray .int, 2) := by decide +kernel
theorem dX8_init_19 : decode cX8_init 19 = .ok (.putfield 13, 3) := by decide +kernel
theorem dX8_init_22 : decode cX8_init 22 = .ok (.aload_n 0, 1) := by decide +kernel
theorem dX8_init_23 : decode cX8_init 23 = .ok (.sipush 160, 3) := by decide +kernel
theorem dX8_init_26 : decode cX8_init 26 = .ok (.newarray .int, 2) := by decide +kernel
theorem dX8_init_28 : decode cX8_init 28 = .ok (.putfield 16, 3) := by decide +kernel
theorem dX8_init_31 : decode cX8_init 31 = .ok (.aload_n 0, 1) := by decide +kernel
theorem dX8_init_32 : decode cX8_init 32 = .ok (.sipush 160, 3) := by decide +kernel
theorem dX8_init_35 : decode cX8_init 35 = .ok (.newarray .boolean, 2) := by decide +kernel
theorem dX8_init_37 : decode cX8_init 37 = .ok (.putfield 19, 3) := by decide +kernel
theorem dX8_init_40 : decode cX8_init 40 = .ok (.aload_n 0, 1) := by decide +kernel
theorem dX8_init_41 : decode cX8_init 41 = .ok (.sipush 160, 3) := by decide +kernel
theorem dX8_init_44 : decode cX8_init 44 = .ok (.newarray .boolean, 2) := by decide +kernel
theorem dX8_init_46 : decode cX8_init 46 = .ok (.putfield 23, 3) := by decide +kernel
theorem dX8_init_49 : decode cX8_init 49 = .ok (.aload_n 0, 1) := by decide +kernel
theorem dX8_init_50 : decode cX8_init 50 = .ok (.sipush 160, 3) := by decide +kernel
theorem dX8_init_53 : decode cX8_init 53 = .ok (.newarray .boolean, 2) := by decide +kernel
theorem dX8_init_55 : decode cX8_init 55 = .ok (.putfield 26, 3) := by decide +kernel
theorem dX8_init_58 : decode cX8_init 58 = .ok (.aload_n 0, 1) := by decide +kernel
theorem dX8_init_59 : decode cX8_init 59 = .ok (.sipush 160, 3) := by decide +kernel
theorem dX8_init_62 : decode cX8_init 62 = .ok (.newarray .boolean, 2) := by decide +kernel
theorem dX8_init_64 : decode cX8_init 64 = .ok (.putfield 29, 3) := by decide +kernel
theorem dX8_init_67 : decode cX8_init 67 = .ok (.aload_n 0, 1) := by decide +kernel
theorem dX8_init_68 : decode cX8_init 68 = .ok (.sipush 1000, 3) := by decide +kernel
theorem dX8_init_71 : decode cX8_init 71 = .ok (.putfield 32, 3) := by decide +kernel
theorem dX8_init_74 : decode cX8_init 74 = .ok (.aload_n 0, 1) := by decide +kernel
theorem dX8_init_75 : decode cX8_init 75 = .ok (.bipush 100, 2) := by decide +kernel
theorem dX8_init_77 : decode cX8_init 77 = .ok (.putfield 36, 3) := by decide +kernel
theorem dX8_init_80 : decode cX8_init 80 = .ok (.aload_n 0, 1) := by decide +kernel
theorem dX8_init_81 : decode cX8_init 81 = .ok (.iconst (-1), 1) := by decide +kernel
theorem dX8_init_82 : decode cX8_init 82 = .ok (.putfield 39, 3) := by decide +kernel
theorem dX8_init_85 : decode cX8_init 85 = .ok (.aload_n 0, 1) := by decide +kernel
theorem dX8_init_86 : decode cX8_init 86 = .ok (.iconst (-1), 1) := by decide +kernel
theorem dX8_init_87 : decode cX8_init 87 = .ok (.putfield 42, 3) := by decide +kernel
theorem dX8_init_90 : decode cX8_init 90 = .ok (.aload_n 0, 1) := by decide +kernel
theorem dX8_init_91 : decode cX8_init 91 = .ok (.bipush 20, 2) := by decide +kernel
theorem dX8_init_93 : decode cX8_init 93 = .ok (.putfield 45, 3) := by decide +kernel
theorem dX8_init_96 : decode cX8_init 96 = .ok (.aload_n 0, 1) := by decide +kernel
theorem dX8_init_97 : decode cX8_init 97 = .ok (.bipush 100, 2) := by decide +kernel
theorem dX8_init_99 : decode cX8_init 99 = .ok (.putfield 48, 3) := by decide +kernel
theorem dX8_init_102 : decode cX8_init 102 = .ok (.aload_n 0, 1) := by decide +kernel
theorem dX8_init_103 : decode cX8_init 103 = .ok (.iconst 3, 1) := by decide +kernel
theorem dX8_init_104 : decode cX8_init 104 = .ok (.putfield 51, 3) := by decide +kernel
theorem dX8_init_107 : decode cX8_init 107 = .ok (.aload_n 0, 1) := by decide +kernel
end
section
theorem dX8_init_108 : decode cX8_init 108 = .ok (.bipush 21, 2) := by decide +kernel
theorem dX8_init_110 : decode cX8_init 110 = .ok (.newarray .int, 2) := by decide +kernel
theorem dX8_init_112 : decode cX8_init 112 = .ok (.putfield 54, 3) := by decide +kernel
theorem dX8_init_115 : decode cX8_init 115 = .ok (.aload_n 0, 1) := by decide +kernel
theorem dX8_init_116 : decode cX8_init 116 = .ok (.sipush 160, 3) := by decide +kernel
theorem dX8_init_119 : decode cX8_init 119 = .ok (.newarray .int, 2) := by decide +kernel
theorem dX8_init_121 : decode cX8_init 121 = .ok (.putfield 57, 3) := by decide +kernel
theorem dX8_init_124 : decode cX8_init 124 = .ok (.aload_n 0, 1) := by decide +kernel
theorem dX8_init_125 : decode cX8_init 125 = .ok (.sipush 300, 3) := by decide +kernel
theorem dX8_init_128 : decode cX8_init 128 = .ok (.newarray .byte, 2) := by decide +kernel
theorem dX8_init_130 : decode cX8_init 130 = .ok (.putfield 60, 3) := by decide +kernel
theorem dX8_init_133 : decode cX8_init 133 = .ok (.aload_n 0, 1) := by decide +kernel
theorem dX8_init_134 : decode cX8_init 134 = .ok (.sipush 300, 3) := by decide +kernel
theorem dX8_init_137 : decode cX8_init 137 = .ok (.newarray .byte, 2) := by decide +kernel
theorem dX8_init_139 : decode cX8_init 139 = .ok (.putfield 64, 3) := by decide +kernel
theorem dX8_init_142 : decode cX8_init 142 = .ok (.aload_n 0, 1) := by decide +kernel
theorem dX8_init_143 : decode cX8_init 143 = .ok (.iconst (-1), 1) := by decide +kernel
theorem dX8_init_144 : decode cX8_init 144 = .ok (.putfield 67, 3) := by decide +kernel
theorem dX8_init_147 : decode cX8_init 147 = .ok (.aload_n 0, 1) := by decide +kernel
theorem dX8_init_148 : decode cX8_init 148 = .ok (.bipush 77, 2) := by decide +kernel
theorem dX8_init_150 : decode cX8_init 150 = .ok (.newarray .int, 2) := by decide +kernel
theorem dX8_init_152 : decode cX8_init 152 = .ok (.putfield 70, 3) := by decide +kernel
theorem dX8_init_155 : decode cX8_init 155 = .ok (.aload_n 0, 1) := by decide +kernel
theorem dX8_init_156 : decode cX8_init 156 = .ok (.bipush 11, 2) := by decide +kernel
theorem dX8_init_158 : decode cX8_init 158 = .ok (.newarray .int, 2) := by decide +kernel
theorem dX8_init_160 : decode cX8_init 160 = .ok (.putfield 73, 3) := by decide +kernel
theorem dX8_init_163 : decode cX8_init 163 = .ok (.aload_n 0, 1) := by decide +kernel
theorem dX8_init_164 : decode cX8_init 164 = .ok (.iconst 2, 1) := by decide +kernel
theorem dX8_init_165 : decode cX8_init 165 = .ok (.bipush 20, 2) := by decide +kernel
theorem dX8_init_167 : decode cX8_init 167 = .ok (.iload_n 1, 1) := by decide +kernel
theorem dX8_init_168 : decode cX8_init 168 = .ok (.invokestatic 76, 3) := by decide +kernel
theorem dX8_init_171 : decode cX8_init 171 = .ok (.invokestatic 82, 3) := by decide +kernel
theorem dX8_init_174 : decode cX8_init 174 = .ok (.putfield 85, 3) := by decide +kernel
theorem dX8_init_177 : decode cX8_init 177 = .ok (.aload_n 0, 1) := by decide +kernel
theorem dX8_init_178 : decode cX8_init 178 = .ok (.iconst 2, 1) := by decide +kernel
theorem dX8_init_179 : decode cX8_init 179 = .ok (.bipush 8, 2) := by decide +kernel
theorem dX8_init_181 : decode cX8_init 181 = .ok (.iload_n 2, 1) := by decide +kernel
theorem dX8_init_182 : decode cX8_init 182 = .ok (.invokestatic 76, 3) := by decide +kernel
theorem dX8_init_185 : decode cX8_init 185 = .ok (.invokestatic 82, 3) := by decide +kernel
theorem dX8_init_188 : decode cX8_init 188 = .ok (.putfield 88, 3) := by decide +kernel
theorem dX8_init_191 : decode cX8_init 191 = .ok (.iconst 0, 1) := by decide +kernel
theorem dX8_init_192 : decode cX8_init 192 = .ok (.istore_n 3, 1) := by decide +kernel
theorem dX8_init_193 : decode cX8_init 193 = .ok (.iload_n 3, 1) := by decide +kernel
theorem dX8_init_194 : decode cX8_init 194 = .ok (.sipush 160, 3) := by decide +kernel
theorem dX8_init_197 : decode cX8_init 197 = .ok (.if_icmp .ge 16, 3) := by decide +kernel
theorem dX8_init_200 : decode cX8_init 200 = .ok (.aload_n 0, 1) := by decide +kernel
theorem dX8_init_201 : decode cX8_init 201 = .ok (.getfield 7, 3) := by decide +kernel
theorem dX8_init_204 : decode cX8_init 204 = .ok (.iload_n 3, 1) := by decide +kernel
theorem dX8_init_205 : decode cX8_init 205 = .ok (.iconst 3, 1) := by decide +kernel
theorem dX8_init_206 : decode cX8_init 206 = .ok (.iastore, 1) := by decide +kernel
theorem dX8_init_207 : decode cX8_init 207 = .ok (.iinc 3 1, 3) := by decide +kernel
theorem dX8_init_210 : decode cX8_init 210 = .ok (.goto (-17), 3) := by decide +kernel
theorem dX8_init_213 : decode cX8_init 213 = .ok (.return_, 1) := by decide +kernel
theorem dX8_isIn_0 : decode cX8_isIn 0 = .ok (.iload_n 0, 1) := by decide +kernel
theorem dX8_isIn_1 : decode cX8_isIn 1 = .ok (.iload_n 1, 1) := by decide +kernel
theorem dX8_isIn_2 : decode cX8_isIn 2 = .ok (.if_icmp .lt 12, 3) := by decide +kernel
theorem dX8_isIn_5 : decode cX8_isIn 5 = .ok (.iload_n 0, 1) := by decide +kernel
theorem dX8_isIn_6 : decode cX8_isIn 6 = .ok (.iload_n 2, 1) := by decide +kernel
theorem dX8_isIn_7 : decode cX8_isIn 7 = .ok (.if_icmp .gt 7, 3) := by decide +kernel
theorem dX8_isIn_10 : decode cX8_isIn 10 = .ok (.iconst 1, 1) := by decide +kernel
theorem dX8_isIn_11 : decode cX8_isIn 11 = .ok (.goto 4, 3) := by decide +kernel
theorem dX8_isIn_14 : decode cX8_isIn 14 = .ok (.iconst 0, 1) := by decide +kernel
theorem dX8_isIn_15 : decode cX8_isIn 15 = .ok (.ireturn, 1) := by decide +kernel
theorem dX8_one_0 : decode cX8_one 0 = .ok (.iload_n 0, 1) := by decide +kernel
theorem dX8_one_1 : decode cX8_one 1 = .ok (.ifCond .eq 7, 3) := by decide +kernel
theorem dX8_one_4 : decode cX8_one 4 = .ok (.iconst 1, 1) := by decide +kernel
theorem dX8_one_5 : decode cX8_one 5 = .ok (.goto 4, 3) := by decide +kernel
theorem dX8_one_8 : decode cX8_one 8 = .ok (.iconst 0, 1) := by decide +kernel
theorem dX8_one_9 : decode cX8_one 9 = .ok (.ireturn, 1) := by decide +kernel
set_option maxRecDepth 20000 in
theorem ggX8_isSquare_X8_isIn : GoodIn wsX8_isSquare wsX8_isIn := goodIn_r _ [6] (by decide +kernel) (by decide +kernel)
set_option maxRecDepth 20000 in
theorem gX8_isSquare_X8_isIn : GoodIn wsX8_isSquare (va_wsS RX8 91 yX8_isIn wsX8_isIn) := goodIn_app (goodIn_of _ (by decide +kernel)) ggX8_isSquare_X8_isIn
theorem dX8_isSquare_0 : decode cX8_isSquare 0 = .ok (.iload_n 1, 1) := by decide +kernel
theorem dX8_isSquare_1 : decode cX8_isSquare 1 = .ok (.iconst 0, 1) := by decide +kernel
theorem dX8_isSquare_2 : decode cX8_isSquare 2 = .ok (.aload_n 0, 1) := by decide +kernel
theorem dX8_isSquare_3 : decode cX8_isSquare 3 = .ok (.getfield 85, 3) := by decide +kernel
theorem dX8_isSquare_6 : decode cX8_isSquare 6 = .ok (.iconst 1, 1) := by decide +kernel
theorem dX8_isSquare_7 : decode cX8_isSquare 7 = .ok (.isub, 1) := by decide +kernel
theorem dX8_isSquare_8 : decode cX8_isSquare 8 = .ok (.invokestatic 91, 3) := by decide +kernel
theorem dX8_isSquare_11 : decode cX8_isSquare 11 = .ok (.ifCond .eq 21, 3) := by decide +kernel
theorem dX8_isSquare_14 : decode cX8_isSquare 14 = .ok (.iload_n 2, 1) := by decide +kernel
theorem dX8_isSquare_15 : decode cX8_isSquare 15 = .ok (.iconst 0, 1) := by decide +kernel
theorem dX8_isSquare_16 : decode cX8_isSquare 16 = .ok (.aload_n 0, 1) := by decide +kernel
theorem dX8_isSquare_17 : decode cX8_isSquare 17 = .ok (.getfield 88, 3) := by decide +kernel
theorem dX8_isSquare_20 : decode cX8_isSquare 20 = .ok (.iconst 1, 1) := by decide +kernel
theorem dX8_isSquare_21 : decode cX8_isSquare 21 = .ok (.isub, 1) := by decide +kernel
theorem dX8_isSquare_22 : decode cX8_isSquare 22 = .ok (.invokestatic 91, 3) := by decide +kernel
theorem dX8_isSquare_25 : decode cX8_isSquare 25 = .ok (.ifCond .eq 7, 3) := by decide +kernel
theorem dX8_isSquare_28 : decode cX8_isSquare 28 = .ok (.iconst 1, 1) := by decide +kernel
theorem dX8_isSquare_29 : decode cX8_isSquare 29 = .ok (.goto 4, 3) := by decide +kernel
theorem dX8_isSquare_32 : decode cX8_isSquare 32 = .ok (.iconst 0, 1) := by decide +kernel
theorem dX8_isSquare_33 : decode cX8_isSquare 33 = .ok (.ireturn, 1) := by decide +kernel
set_option maxRecDepth 20000 in
theorem ggX8_depth_X8_isSquare : GoodIn wsX8_depth wsX8_isSquare := goodIn_r _ [7, 8, 9, 10, 11, 6, 12, 13, 14, 15, 16, 17, 18, 19, 20, 21, 22, 23, 24, 25, 26, 27, 28, 29, 30, 31, 32, 33, 34, 35, 36, 37, 38, 39, 40, 41, 42, 43, 44, 45, 46] (by decide +kernel) (by decide +kernel)
set_option maxRecDepth 20000 in
theorem gX8_depth_X8_isSquare : GoodIn wsX8_depth (wsV RX8 95 RX8 yX8_isSquare wsX8_isSquare) := goodIn_app (goodIn_of _ (by decide +kernel)) ggX8_depth_X8_isSquare
set_option maxRecDepth 20000 in
theorem ggX8_depth_X8_isIn : GoodIn wsX8_depth wsX8_isIn := goodIn_r _ [12] (by decide +kernel) (by decide +kernel)
set_option maxRecDepth 20000 in
theorem gX8_depth_X8_isIn : GoodIn wsX8_depth (va_wsS RX8 91 yX8_isIn wsX8_isIn) := goodIn_app (goodIn_of _ (by decide +kernel)) ggX8_depth_X8_isIn
theorem dX8_depth_0 : decode cX8_depth 0 = .ok (.aload_n 0, 1) := by decide +kernel
theorem dX8_depth_1 : decode cX8_depth 1 = .ok (.iload_n 1, 1) := by decide +kernel
theorem dX8_depth_2 : decode cX8_depth 2 = .ok (.iload_n 2, 1) := by decide +kernel
theorem dX8_depth_3 : decode cX8_depth 3 = .ok (.invokevirtual 95, 3) := by decide +kernel
theorem dX8_depth_6 : decode cX8_depth 6 = .ok (.ifCond .eq 27, 3) := by decide +kernel
theorem dX8_depth_9 : decode cX8_depth 9 = .ok (.aload_n 0, 1) := by decide +kernel
theorem dX8_depth_10 : decode cX8_depth 10 = .ok (.getfield 23, 3) := by decide +kernel
theorem dX8_depth_13 : decode cX8_depth 13 = .ok (.bipush 8, 2) := by decide +kernel
theorem dX8_depth_15 : decode cX8_depth 15 = .ok (.iload_n 1, 1) := by decide +kernel
theorem dX8_depth_16 : decode cX8_depth 16 = .ok (.imul, 1) := by decide +kernel
theorem dX8_depth_17 : decode cX8_depth 17 = .ok (.iload_n 2, 1) := by decide +kernel
theorem dX8_depth_18 : decode cX8_depth 18 = .ok (.iadd, 1) := by decide +kernel
theorem dX8_depth_19 : decode cX8_depth 19 = .ok (.baload, 1) := by decide +kernel
theorem dX8_depth_20 : decode cX8_depth 20 = .ok (.ifCond .ne 13, 3) := by decide +kernel
theorem dX8_depth_23 : decode cX8_depth 23 = .ok (.iload_n 3, 1) := by decide +kernel
theorem dX8_depth_24 : decode cX8_depth 24 = .ok (.iconst 1, 1) := by decide +kernel
theorem dX8_depth_25 : decode cX8_depth 25 = .ok (.bipush 9, 2) := by decide +kernel
theorem dX8_depth_27 : decode cX8_depth 27 = .ok (.invokestatic 91, 3) := by decide +kernel
theorem dX8_depth_30 : decode cX8_depth 30 = .ok (.ifCond .ne 5, 3) := by decide +kernel
theorem dX8_depth_33 : decode cX8_depth 33 = .ok (.iconst 0, 1) := by decide +kernel
theorem dX8_depth_34 : decode cX8_depth 34 = .ok (.ireturn, 1) := by decide +kernel
theorem dX8_depth_35 : decode cX8_depth 35 = .ok (.aload_n 0, 1) := by decide +kernel
theorem dX8_depth_36 : decode cX8_depth 36 = .ok (.getfield 7, 3) := by decide +kernel
theorem dX8_depth_39 : decode cX8_depth 39 = .ok (.bipush 8, 2) := by decide +kernel
theorem dX8_depth_41 : decode cX8_depth 41 = .ok (.iload_n 1, 1) := by decide +kernel
theorem dX8_depth_42 : decode cX8_depth 42 = .ok (.imul, 1) := by decide +kernel
theorem dX8_depth_43 : decode cX8_depth 43 = .ok (.iload_n 2, 1) := by decide +kernel
theorem dX8_depth_44 : decode cX8_depth 44 = .ok (.iadd, 1) := by decide +kernel
theorem dX8_depth_45 : decode cX8_depth 45 = .ok (.iload_n 3, 1) := by decide +kernel
theorem dX8_depth_46 : decode cX8_depth 46 = .ok (.iastore, 1) := by decide +kernel
theorem dX8_depth_47 : decode cX8_depth 47 = .ok (.iconst 1, 1) := by decide +kernel
theorem dX8_depth_48 : decode cX8_depth 48 = .ok (.ireturn, 1) := by decide +kernel
set_option maxRecDepth 20000 in
theorem ggX8_grade_X8_isIn : GoodIn wsX8_grade wsX8_isIn := goodIn_r _ [5] (by decide +kernel) (by decide +kernel)
set_option maxRecDepth 20000 in
theorem gX8_grade_X8_isIn : GoodIn wsX8_grade (va_wsS RX8 91 yX8_isIn wsX8_isIn) := goodIn_app (goodIn_of _ (by decide +kernel)) ggX8_grade_X8_isIn
theorem dX8_grade_0 : decode cX8_grade 0 = .ok (.iload_n 1, 1) := by decide +kernel
theorem dX8_grade_1 : decode cX8_grade 1 = .ok (.iconst 0, 1) := by decide +kernel
theorem dX8_grade_2 : decode cX8_grade 2 = .ok (.sipush 200, 3) := by decide +kernel
theorem dX8_grade_5 : decode cX8_grade 5 = .ok (.invokestatic 91, 3) := by decide +kernel
theorem dX8_grade_8 : decode cX8_grade 8 = .ok (.ifCond .ne 12, 3) := by decide +kernel
theorem dX8_grade_11 : decode cX8_grade 11 = .ok (.iload_n 1, 1) := by decide +kernel
theorem dX8_grade_12 : decode cX8_grade 12 = .ok (.sipush 1000, 3) := by decide +kernel
theorem dX8_grade_15 : decode cX8_grade 15 = .ok (.if_icmp .eq 5, 3) := by decide +kernel
theorem dX8_grade_18 : decode cX8_grade 18 = .ok (.iconst 0, 1) := by decide +kernel
theorem dX8_grade_19 : decode cX8_grade 19 = .ok (.ireturn, 1) := by decide +kernel
theorem dX8_grade_20 : decode cX8_grade 20 = .ok (.aload_n 0, 1) := by decide +kernel
theorem dX8_grade_21 : decode cX8_grade 21 = .ok (.iload_n 1, 1) := by decide +kernel
theorem dX8_grade_22 : decode cX8_grade 22 = .ok (.putfield 32, 3) := by decide +kernel
theorem dX8_grade_25 : decode cX8_grade 25 = .ok (.iconst 1, 1) := by decide +kernel
theorem dX8_grade_26 : decode cX8_grade 26 = .ok (.ireturn, 1) := by decide +kernel
theorem dX8_learns_0 : decode cX8_learns 0 = .ok (.aload_n 0, 1) := by decide +kernel
theorem dX8_learns_1 : decode cX8_learns 1 = .ok (.getfield 13, 3) := by decide +kernel
theorem dX8_learns_4 : decode cX8_learns 4 = .ok (.iload_n 1, 1) := by decide +kernel
theorem dX8_learns_5 : decode cX8_learns 5 = .ok (.iload_n 2, 1) := by decide +kernel
theorem dX8_learns_6 : decode cX8_learns 6 = .ok (.iastore, 1) := by decide +kernel
theorem dX8_learns_7 : decode cX8_learns 7 = .ok (.aload_n 0, 1) := by decide +kernel
theorem dX8_learns_8 : decode cX8_learns 8 = .ok (.getfield 19, 3) := by decide +kernel
theorem dX8_learns_11 : decode cX8_learns 11 = .ok (.iload_n 1, 1) := by decide +kernel
theorem dX8_learns_12 : decode cX8_learns 12 = .ok (.iconst 1, 1) := by decide +kernel
theorem dX8_learns_13 : decode cX8_learns 13 = .ok (.bastore, 1) := by decide +kernel
theorem dX8_learns_14 : decode cX8_learns 14 = .ok (.return_, 1) := by decide +kernel
set_option maxRecDepth 20000 in
theorem ggX8_bore_X8_isSquare : GoodIn wsX8_bore wsX8_isSquare := goodIn_r _ [6, 7, 8, 9, 10, 5, 11, 18, 19, 20, 21, 22, 23, 24, 25, 26, 27, 28, 29, 30, 31, 32, 33, 34, 35, 36, 37, 38, 39, 40, 41, 42, 43, 44, 45, 46, 47, 48, 49, 50, 51] (by decide +kernel) (by decide +kernel)
set_option maxRecDepth 20000 in
theorem gX8_bore_X8_isSquare : GoodIn wsX8_bore (wsV RX8 95 RX8 yX8_isSquare wsX8_isSquare) := goodIn_app (goodIn_of _ (by decide +kernel)) ggX8_bore_X8_isSquare
set_option maxRecDepth 20000 in
theorem ggX8_bore_X8_isIn : GoodIn wsX8_bore wsX8_isIn := goodIn_r _ [11] (by decide +kernel) (by decide +kernel)
set_option maxRecDepth 20000 in
theorem gX8_bore_X8_isIn : GoodIn wsX8_bore (va_wsS RX8 91 yX8_isIn wsX8_isIn) := goodIn_app (goodIn_of _ (by decide +kernel)) ggX8_bore_X8_isIn
set_option maxRecDepth 20000 in
theorem ggX8_bore_X8_learns : GoodIn wsX8_bore wsX8_learns := goodIn_r _ [15, 16, 17, 18, 19, 20, 21, 22, 23, 24, 25, 26, 27, 28, 29, 30, 31, 32, 33, 34, 35, 36, 37, 38, 39, 40, 41, 42, 43, 44, 45, 46, 47, 48, 49, 50, 51] (by decide +kernel) (by decide +kernel)
set_option maxRecDepth 20000 in
theorem gX8_bore_X8_learns : GoodIn wsX8_bore (wsV RX8 99 RX8 yX8_learns wsX8_learns) := goodIn_app (goodIn_of _ (by decide +kernel)) ggX8_bore_X8_learns
theorem dX8_bore_0 : decode cX8_bore 0 = .ok (.aload_n 0, 1) := by decide +kernel
theorem dX8_bore_1 : decode cX8_bore 1 = .ok (.iload_n 1, 1) := by decide +kernel
theorem dX8_bore_2 : decode cX8_bore 2 = .ok (.iload_n 2, 1) := by decide +kernel
theorem dX8_bore_3 : decode cX8_bore 3 = .ok (.invokevirtual 95, 3) := by decide +kernel
theorem dX8_bore_6 : decode cX8_bore 6 = .ok (.ifCond .eq 28, 3) := by decide +kernel
theorem dX8_bore_9 : decode cX8_bore 9 = .ok (.aload_n 0, 1) := by decide +kernel
theorem dX8_bore_10 : decode cX8_bore 10 = .ok (.getfield 23, 3) := by decide +kernel
theorem dX8_bore_13 : decode cX8_bore 13 = .ok (.bipush 8, 2) := by decide +kernel
theorem dX8_bore_15 : decode cX8_bore 15 = .ok (.iload_n 1, 1) := by decide +kernel
theorem dX8_bore_16 : decode cX8_bore 16 = .ok (.imul, 1) := by decide +kernel
theorem dX8_bore_17 : decode cX8_bore 17 = .ok (.iload_n 2, 1) := by decide +kernel
theorem dX8_bore_18 : decode cX8_bore 18 = .ok (.iadd, 1) := by decide +kernel
theorem dX8_bore_19 : decode cX8_bore 19 = .ok (.baload, 1) := by decide +kernel
theorem dX8_bore_20 : decode cX8_bore 20 = .ok (.ifCond .ne 14, 3) := by decide +kernel
theorem dX8_bore_23 : decode cX8_bore 23 = .ok (.iload_n 3, 1) := by decide +kernel
theorem dX8_bore_24 : decode cX8_bore 24 = .ok (.iconst 0, 1) := by decide +kernel
theorem dX8_bore_25 : decode cX8_bore 25 = .ok (.sipush 1000, 3) := by decide +kernel
theorem dX8_bore_28 : decode cX8_bore 28 = .ok (.invokestatic 91, 3) := by decide +kernel
theorem dX8_bore_31 : decode cX8_bore 31 = .ok (.ifCond .ne 5, 3) := by decide +kernel
theorem dX8_bore_34 : decode cX8_bore 34 = .ok (.iconst 0, 1) := by decide +kernel
theorem dX8_bore_35 : decode cX8_bore 35 = .ok (.ireturn, 1) := by decide +kernel
theorem dX8_bore_36 : decode cX8_bore 36 = .ok (.aload_n 0, 1) := by decide +kernel
theorem dX8_bore_37 : decode cX8_bore 37 = .ok (.bipush 8, 2) := by decide +kernel
theorem dX8_bore_39 : decode cX8_bore 39 = .ok (.iload_n 1, 1) := by decide +kernel
theorem dX8_bore_40 : decode cX8_bore 40 = .ok (.imul, 1) := by decide +kernel
theorem dX8_bore_41 : decode cX8_bore 41 = .ok (.iload_n 2, 1) := by decide +kernel
theorem dX8_bore_42 : decode cX8_bore 42 = .ok (.iadd, 1) := by decide +kernel
theorem dX8_bore_43 : decode cX8_bore 43 = .ok (.iload_n 3, 1) := by decide +kernel
theorem dX8_bore_44 : decode cX8_bore 44 = .ok (.invokevirtual 99, 3) := by decide +kernel
theorem dX8_bore_47 : decode cX8_bore 47 = .ok (.iconst 1, 1) := by decide +kernel
theorem dX8_bore_48 : decode cX8_bore 48 = .ok (.ireturn, 1) := by decide +kernel
set_option maxRecDepth 20000 in
theorem ggX8_cost_X8_isIn : GoodIn wsX8_cost wsX8_isIn := goodIn_r _ [5] (by decide +kernel) (by decide +kernel)
set_option maxRecDepth 20000 in
theorem gX8_cost_X8_isIn : GoodIn wsX8_cost (va_wsS RX8 91 yX8_isIn wsX8_isIn) := goodIn_app (goodIn_of _ (by decide +kernel)) ggX8_cost_X8_isIn
theorem dX8_cost_0 : decode cX8_cost 0 = .ok (.iload_n 1, 1) := by decide +kernel
theorem dX8_cost_1 : decode cX8_cost 1 = .ok (.iconst 0, 1) := by decide +kernel
theorem dX8_cost_2 : decode cX8_cost 2 = .ok (.sipush 1000, 3) := by decide +kernel
theorem dX8_cost_5 : decode cX8_cost 5 = .ok (.invokestatic 91, 3) := by decide +kernel
theorem dX8_cost_8 : decode cX8_cost 8 = .ok (.ifCond .ne 5, 3) := by decide +kernel
theorem dX8_cost_11 : decode cX8_cost 11 = .ok (.iconst 0, 1) := by decide +kernel
theorem dX8_cost_12 : decode cX8_cost 12 = .ok (.ireturn, 1) := by decide +kernel
theorem dX8_cost_13 : decode cX8_cost 13 = .ok (.aload_n 0, 1) := by decide +kernel
theorem dX8_cost_14 : decode cX8_cost 14 = .ok (.iload_n 1, 1) := by decide +kernel
theorem dX8_cost_15 : decode cX8_cost 15 = .ok (.putfield 36, 3) := by decide +kernel
theorem dX8_cost_18 : decode cX8_cost 18 = .ok (.iconst 1, 1) := by decide +kernel
theorem dX8_cost_19 : decode cX8_cost 19 = .ok (.ireturn, 1) := by decide +kernel
theorem dX8_end_0 : decode cX8_end 0 = .ok (.bipush 8, 2) := by decide +kernel
theorem dX8_end_2 : decode cX8_end 2 = .ok (.iload_n 1, 1) := by decide +kernel
theorem dX8_end_3 : decode cX8_end 3 = .ok (.imul, 1) := by decide +kernel
theorem dX8_end_4 : decode cX8_end 4 = .ok (.iload_n 2, 1) := by decide +kernel
theorem dX8_end_5 : decode cX8_end 5 = .ok (.iadd, 1) := by decide +kernel
theorem dX8_end_6 : decode cX8_end 6 = .ok (.istore 4, 2) := by decide +kernel
theorem dX8_end_8 : decode cX8_end 8 = .ok (.aload_n 0, 1) := by decide +kernel
theorem dX8_end_9 : decode cX8_end 9 = .ok (.getfield 19, 3) := by decide +kernel
theorem dX8_end_12 : decode cX8_end 12 = .ok (.iload 4, 2) := by decide +kernel
theorem dX8_end_14 : decode cX8_end 14 = .ok (.baload, 1) := by decide +kernel
theorem dX8_end_15 : decode cX8_end 15 = .ok (.ifCond .eq 11, 3) := by decide +kernel
theorem dX8_end_18 : decode cX8_end 18 = .ok (.aload_n 0, 1) := by decide +kernel
theorem dX8_end_19 : decode cX8_end 19 = .ok (.getfield 13, 3) := by decide +kernel
theorem dX8_end_22 : decode cX8_end 22 = .ok (.iload 4, 2) := by decide +kernel
theorem dX8_end_24 : decode cX8_end 24 = .ok (.iaload, 1) := by decide +kernel
theorem dX8_end_25 : decode cX8_end 25 = .ok (.ireturn, 1) := by decide +kernel
theorem dX8_end_26 : decode cX8_end 26 = .ok (.iload_n 3, 1) := by decide +kernel
theorem dX8_end_27 : decode cX8_end 27 = .ok (.ifCond .eq 9, 3) := by decide +kernel
theorem dX8_end_30 : decode cX8_end 30 = .ok (.sipush 1000, 3) := by decide +kernel
theorem dX8_end_33 : decode cX8_end 33 = .ok (.goto 4, 3) := by decide +kernel
theorem dX8_end_36 : decode cX8_end 36 = .ok (.iconst 0, 1) := by decide +kernel
theorem dX8_end_37 : decode cX8_end 37 = .ok (.istore 5, 2) := by decide +kernel
theorem dX8_end_39 : decode cX8_end 39 = .ok (.iconst 0, 1) := by decide +kernel
theorem dX8_end_40 : decode cX8_end 40 = .ok (.istore 6, 2) := by decide +kernel
theorem dX8_end_42 : decode cX8_end 42 = .ok (.iload 6, 2) := by decide +kernel
theorem dX8_end_44 : decode cX8_end 44 = .ok (.aload_n 0, 1) := by decide +kernel
theorem dX8_end_45 : decode cX8_end 45 = .ok (.getfield 85, 3) := by decide +kernel
theorem dX8_end_48 : decode cX8_end 48 = .ok (.if_icmp .ge 119, 3) := by decide +kernel
theorem dX8_end_51 : decode cX8_end 51 = .ok (.iconst 0, 1) := by decide +kernel
theorem dX8_end_52 : decode cX8_end 52 = .ok (.istore 7, 2) := by decide +kernel
theorem dX8_end_54 : decode cX8_end 54 = .ok (.iload 7, 2) := by decide +kernel
theorem dX8_end_56 : decode cX8_end 56 = .ok (.aload_n 0, 1) := by decide +kernel
theorem dX8_end_57 : decode cX8_end 57 = .ok (.getfield 88, 3) := by decide +kernel
theorem dX8_end_60 : decode cX8_end 60 = .ok (.if_icmp .ge 101, 3) := by decide +kernel
theorem dX8_end_63 : decode cX8_end 63 = .ok (.aload_n 0, 1) := by decide +kernel
theorem dX8_end_64 : decode cX8_end 64 = .ok (.getfield 19, 3) := by decide +kernel
theorem dX8_end_67 : decode cX8_end 67 = .ok (.bipush 8, 2) := by decide +kernel
theorem dX8_end_69 : decode cX8_end 69 = .ok (.iload 6, 2) := by decide +kernel
theorem dX8_end_71 : decode cX8_end 71 = .ok (.imul, 1) := by decide +kernel
theorem dX8_end_72 : decode cX8_end 72 = .ok (.iload 7, 2) := by decide +kernel
theorem dX8_end_74 : decode cX8_end 74 = .ok (.iadd, 1) := by decide +kernel
theorem dX8_end_75 : decode cX8_end 75 = .ok (.baload, 1) := by decide +kernel
theorem dX8_end_76 : decode cX8_end 76 = .ok (.ifCond .ne 6, 3) := by decide +kernel
theorem dX8_end_79 : decode cX8_end 79 = .ok (.goto 76, 3) := by decide +kernel
theorem dX8_end_82 : decode cX8_end 82 = .ok (.aload_n 0, 1) := by decide +kernel
theorem dX8_end_83 : decode cX8_end 83 = .ok (.getfield 32, 3) := by decide +kernel
theorem dX8_end_86 : decode cX8_end 86 = .ok (.iload 6, 2) := by decide +kernel
theorem dX8_end_88 : decode cX8_end 88 = .ok (.iload_n 1, 1) := by decide +kernel
theorem dX8_end_89 : decode cX8_end 89 = .ok (.isub, 1) := by decide +kernel
theorem dX8_end_90 : decode cX8_end 90 = .ok (.invokestatic 103, 3) := by decide +kernel
theorem dX8_end_93 : decode cX8_end 93 = .ok (.iload 7, 2) := by decide +kernel
theorem dX8_end_95 : decode cX8_end 95 = .ok (.iload_n 2, 1) := by decide +kernel
theorem dX8_end_96 : decode cX8_end 96 = .ok (.isub, 1) := by decide +kernel
theorem dX8_end_97 : decode cX8_end 97 = .ok (.invokestatic 103, 3) := by decide +kernel
theorem dX8_end_100 : decode cX8_end 100 = .ok (.iadd, 1) := by decide +kernel
theorem dX8_end_101 : decode cX8_end 101 = .ok (.imul, 1) := by decide +kernel
theorem dX8_end_102 : decode cX8_end 102 = .ok (.istore 8, 2) := by decide +kernel
theorem dX8_end_104 : decode cX8_end 104 = .ok (.iload_n 3, 1) := by decide +kernel
theorem dX8_end_105 : decode cX8_end 105 = .ok (.ifCond .eq 27, 3) := by decide +kernel
theorem dX8_end_108 : decode cX8_end 108 = .ok (.iload 5, 2) := by decide +kernel
theorem dX8_end_110 : decode cX8_end 110 = .ok (.aload_n 0, 1) := by decide +kernel
theorem dX8_end_111 : decode cX8_end 111 = .ok (.getfield 13, 3) := by decide +kernel
theorem dX8_end_114 : decode cX8_end 114 = .ok (.bipush 8, 2) := by decide +kernel
theorem dX8_end_116 : decode cX8_end 116 = .ok (.iload 6, 2) := by decide +kernel
theorem dX8_end_118 : decode cX8_end 118 = .ok (.imul, 1) := by decide +kernel
theorem dX8_end_119 : decode cX8_end 119 = .ok (.iload 7, 2) := by decide +kernel
theorem dX8_end_121 : decode cX8_end 121 = .ok (.iadd, 1) := by decide +kernel
theorem dX8_end_122 : decode cX8_end 122 = .ok (.iaload, 1) := by decide +kernel
theorem dX8_end_123 : decode cX8_end 123 = .ok (.iload 8, 2) := by decide +kernel
theorem dX8_end_125 : decode cX8_end 125 = .ok (.iadd, 1) := by decide +kernel
theorem dX8_end_126 : decode cX8_end 126 = .ok (.invokestatic 76, 3) := by decide +kernel
theorem dX8_end_129 : decode cX8_end 129 = .ok (.goto 24, 3) := by decide +kernel
theorem dX8_end_132 : decode cX8_end 132 = .ok (.iload 5, 2) := by decide +kernel
theorem dX8_end_134 : decode cX8_end 134 = .ok (.aload_n 0, 1) := by decide +kernel
theorem dX8_end_135 : decode cX8_end 135 = .ok (.getfield 13, 3) := by decide +kernel
theorem dX8_end_138 : decode cX8_end 138 = .ok (.bipush 8, 2) := by decide +kernel
theorem dX8_end_140 : decode cX8_end 140 = .ok (.iload 6, 2) := by decide +kernel
theorem dX8_end_142 : decode cX8_end 142 = .ok (.imul, 1) := by decide +kernel
theorem dX8_end_143 : decode cX8_end 143 = .ok (.iload 7, 2) := by decide +kernel
theorem dX8_end_145 : decode cX8_end 145 = .ok (.iadd, 1) := by decide +kernel
theorem dX8_end_146 : decode cX8_end 146 = .ok (.iaload, 1) := by decide +kernel
theorem dX8_end_147 : decode cX8_end 147 = .ok (.iload 8, 2) := by decide +kernel
theorem dX8_end_149 : decode cX8_end 149 = .ok (.isub, 1) := by decide +kernel
theorem dX8_end_150 : decode cX8_end 150 = .ok (.invokestatic 82, 3) := by decide +kernel
theorem dX8_end_153 : decode cX8_end 153 = .ok (.istore 5, 2) := by decide +kernel
theorem dX8_end_155 : decode cX8_end 155 = .ok (.iinc 7 1, 3) := by decide +kernel
theorem dX8_end_158 : decode cX8_end 158 = .ok (.goto (-104), 3) := by decide +kernel
theorem dX8_end_161 : decode cX8_end 161 = .ok (.iinc 6 1, 3) := by decide +kernel
theorem dX8_end_164 : decode cX8_end 164 = .ok (.goto (-122), 3) := by decide +kernel
theorem dX8_end_167 : decode cX8_end 167 = .ok (.iload 5, 2) := by decide +kernel
theorem dX8_end_169 : decode cX8_end 169 = .ok (.ireturn, 1) := by decide +kernel
set_option maxRecDepth 20000 in
theorem ggX8_quarrels_X8_end : GoodIn wsX8_quarrels wsX8_end := goodIn_r _ [5, 6, 7, 8, 9, 10, 11, 12, 13, 14, 15, 16, 17, 18, 19, 20, 21, 22, 23, 24, 25, 26, 27, 28, 29, 30, 31, 32, 33, 34, 35, 36, 37, 38, 39, 40, 41, 42, 43, 44, 45, 46, 47, 48, 49, 50, 51, 52, 53, 54] (by decide +kernel) (by decide +kernel)
set_option maxRecDepth 20000 in
theorem gX8_quarrels_X8_end : GoodIn wsX8_quarrels (wsV RX8 107 RX8 yX8_end wsX8_end) := goodIn_app (goodIn_of _ (by decide +kernel)) ggX8_quarrels_X8_end
theorem dX8_quarrels_0 : decode cX8_quarrels 0 = .ok (.aload_n 0, 1) := by decide +kernel
theorem dX8_quarrels_1 : decode cX8_quarrels 1 = .ok (.iload_n 1, 1) := by decide +kernel
theorem dX8_quarrels_2 : decode cX8_quarrels 2 = .ok (.iload_n 2, 1) := by decide +kernel
theorem dX8_quarrels_3 : decode cX8_quarrels 3 = .ok (.iconst 0, 1) := by decide +kernel
theorem dX8_quarrels_4 : decode cX8_quarrels 4 = .ok (.invokevirtual 107, 3) := by decide +kernel
theorem dX8_quarrels_7 : decode cX8_quarrels 7 = .ok (.aload_n 0, 1) := by decide +kernel
theorem dX8_quarrels_8 : decode cX8_quarrels 8 = .ok (.iload_n 1, 1) := by decide +kernel
theorem dX8_quarrels_9 : decode cX8_quarrels 9 = .ok (.iload_n 2, 1) := by decide +kernel
theorem dX8_quarrels_10 : decode cX8_quarrels 10 = .ok (.iconst 1, 1) := by decide +kernel
theorem dX8_quarrels_11 : decode cX8_quarrels 11 = .ok (.invokevirtual 107, 3) := by decide +kernel
theorem dX8_quarrels_14 : decode cX8_quarrels 14 = .ok (.if_icmp .le 7, 3) := by decide +kernel
theorem dX8_quarrels_17 : decode cX8_quarrels 17 = .ok (.iconst 1, 1) := by decide +kernel
theorem dX8_quarrels_18 : decode cX8_quarrels 18 = .ok (.goto 4, 3) := by decide +kernel
theorem dX8_quarrels_21 : decode cX8_quarrels 21 = .ok (.iconst 0, 1) := by decide +kernel
theorem dX8_quarrels_22 : decode cX8_quarrels 22 = .ok (.ireturn, 1) := by decide +kernel
set_option maxRecDepth 20000 in
theorem ggX8_square_X8_isSquare : GoodIn wsX8_square wsX8_isSquare := goodIn_r _ [9, 10, 11, 12, 13, 8, 14, 38, 39, 40, 41, 42, 43, 44, 45, 46, 47, 48, 49, 50, 51, 52, 53, 54, 55, 56, 57, 58, 59, 60, 61, 62, 63, 64, 65, 66, 67, 68, 69, 70, 71] (by decide +kernel) (by decide +kernel)
set_option maxRecDepth 20000 in
theorem gX8_square_X8_isSquare : GoodIn wsX8_square (wsV RX8 95 RX8 yX8_isSquare wsX8_isSquare) := goodIn_app (goodIn_of _ (by decide +kernel)) ggX8_square_X8_isSquare
set_option maxRecDepth 20000 in
theorem ggX8_square_X8_end : GoodIn wsX8_square wsX8_end := goodIn_r _ [18, 4, 19, 10, 11, 20, 21, 22, 23, 24, 25, 26, 27, 28, 29, 30, 38, 39, 40, 41, 42, 43, 44, 45, 46, 47, 48, 49, 50, 51, 52, 53, 54, 55, 56, 57, 58, 59, 60, 61, 62, 63, 64, 65, 66, 67, 68, 69, 70, 71] (by decide +kernel) (by decide +kernel)
set_option maxRecDepth 20000 in
theorem gX8_square_X8_end : GoodIn wsX8_square (wsV RX8 107 RX8 yX8_end wsX8_end) := goodIn_app (goodIn_of _ (by decide +kernel)) ggX8_square_X8_end
set_option maxRecDepth 20000 in
theorem ggX8_square_X8_quarrels : GoodIn wsX8_square wsX8_quarrels := goodIn_r _ [34, 15, 16, 17, 8, 18, 4, 19, 10, 11, 20, 21, 22, 23, 24, 25, 26, 27, 28, 29, 30, 38, 39, 40, 41, 42, 43, 44, 45, 46, 47, 48, 49, 50, 51, 52, 53, 54, 55, 56, 57, 58, 59, 60, 61, 62, 63, 64, 65, 66, 67, 68, 69, 70, 71] (by decide +kernel) (by decide +kernel)
set_option maxRecDepth 20000 in
theorem gX8_square_X8_quarrels : GoodIn wsX8_square (wsV RX8 111 RX8 yX8_quarrels wsX8_quarrels) := goodIn_app (goodIn_of _ (by decide +kernel)) ggX8_square_X8_quarrels
set_option maxRecDepth 20000 in
theorem ggX8_square_X8_one : GoodIn wsX8_square wsX8_one := goodIn_r _ [37] (by decide +kernel) (by decide +kernel)
set_option maxRecDepth 20000 in
theorem gX8_square_X8_one : GoodIn wsX8_square (va_wsS RX8 114 yX8_one wsX8_one) := goodIn_app (goodIn_of _ (by decide +kernel)) ggX8_square_X8_one
theorem dX8_square_0 : decode cX8_square 0 = .ok (.aload_n 0, 1) := by decide +kernel
theorem dX8_square_1 : decode cX8_square 1 = .ok (.iload_n 1, 1) := by decide +kernel
theorem dX8_square_2 : decode cX8_square 2 = .ok (.iload_n 2, 1) := by decide +kernel
theorem dX8_square_3 : decode cX8_square 3 = .ok (.invokevirtual 95, 3) := by decide +kernel
theorem dX8_square_6 : decode cX8_square 6 = .ok (.ifCond .ne 5, 3) := by decide +kernel
theorem dX8_square_9 : decode cX8_square 9 = .ok (.iconst (-1), 1) := by decide +kernel
theorem dX8_square_10 : decode cX8_square 10 = .ok (.ireturn, 1) := by decide +kernel
theorem dX8_square_11 : decode cX8_square 11 = .ok (.bipush 8, 2) := by decide +kernel
theorem dX8_square_13 : decode cX8_square 13 = .ok (.iload_n 1, 1) := by decide +kernel
theorem dX8_square_14 : decode cX8_square 14 = .ok (.imul, 1) := by decide +kernel
theorem dX8_square_15 : decode cX8_square 15 = .ok (.iload_n 2, 1) := by decide +kernel
theorem dX8_square_16 : decode cX8_square 16 = .ok (.iadd, 1) := by decide +kernel
theorem dX8_square_17 : decode cX8_square 17 = .ok (.istore 4, 2) := by decide +kernel
theorem dX8_square_19 : decode cX8_square 19 = .ok (.iload_n 3, 1) := by decide +kernel
theorem dX8_square_20 : decode cX8_square 20 = .ok (.tableswitch 111 0 6 #[44, 52, 60, 68, 78, 89, 100], 44) := by decide +kernel
theorem dX8_square_64 : decode cX8_square 64 = .ok (.aload_n 0, 1) := by decide +kernel
theorem dX8_square_65 : decode cX8_square 65 = .ok (.getfield 7, 3) := by decide +kernel
theorem dX8_square_68 : decode cX8_square 68 = .ok (.iload 4, 2) := by decide +kernel
theorem dX8_square_70 : decode cX8_square 70 = .ok (.iaload, 1) := by decide +kernel
theorem dX8_square_71 : decode cX8_square 71 = .ok (.ireturn, 1) := by decide +kernel
theorem dX8_square_72 : decode cX8_square 72 = .ok (.aload_n 0, 1) := by decide +kernel
theorem dX8_square_73 : decode cX8_square 73 = .ok (.iload_n 1, 1) := by decide +kernel
theorem dX8_square_74 : decode cX8_square 74 = .ok (.iload_n 2, 1) := by decide +kernel
theorem dX8_square_75 : decode cX8_square 75 = .ok (.iconst 0, 1) := by decide +kernel
theorem dX8_square_76 : decode cX8_square 76 = .ok (.invokevirtual 107, 3) := by decide +kernel
theorem dX8_square_79 : decode cX8_square 79 = .ok (.ireturn, 1) := by decide +kernel
theorem dX8_square_80 : decode cX8_square 80 = .ok (.aload_n 0, 1) := by decide +kernel
theorem dX8_square_81 : decode cX8_square 81 = .ok (.iload_n 1, 1) := by decide +kernel
theorem dX8_square_82 : decode cX8_square 82 = .ok (.iload_n 2, 1) := by decide +kernel
theorem dX8_square_83 : decode cX8_square 83 = .ok (.iconst 1, 1) := by decide +kernel
theorem dX8_square_84 : decode cX8_square 84 = .ok (.invokevirtual 107, 3) := by decide +kernel
theorem dX8_square_87 : decode cX8_square 87 = .ok (.ireturn, 1) := by decide +kernel
theorem dX8_square_88 : decode cX8_square 88 = .ok (.aload_n 0, 1) := by decide +kernel
theorem dX8_square_89 : decode cX8_square 89 = .ok (.iload_n 1, 1) := by decide +kernel
theorem dX8_square_90 : decode cX8_square 90 = .ok (.iload_n 2, 1) := by decide +kernel
theorem dX8_square_91 : decode cX8_square 91 = .ok (.invokevirtual 111, 3) := by decide +kernel
theorem dX8_square_94 : decode cX8_square 94 = .ok (.invokestatic 114, 3) := by decide +kernel
theorem dX8_square_97 : decode cX8_square 97 = .ok (.ireturn, 1) := by decide +kernel
theorem dX8_square_98 : decode cX8_square 98 = .ok (.aload_n 0, 1) := by decide +kernel
theorem dX8_square_99 : decode cX8_square 99 = .ok (.getfield 23, 3) := by decide +kernel
theorem dX8_square_102 : decode cX8_square 102 = .ok (.iload 4, 2) := by decide +kernel
theorem dX8_square_104 : decode cX8_square 104 = .ok (.baload, 1) := by decide +kernel
theorem dX8_square_105 : decode cX8_square 105 = .ok (.invokestatic 114, 3) := by decide +kernel
theorem dX8_square_108 : decode cX8_square 108 = .ok (.ireturn, 1) := by decide +kernel
theorem dX8_square_109 : decode cX8_square 109 = .ok (.aload_n 0, 1) := by decide +kernel
theorem dX8_square_110 : decode cX8_square 110 = .ok (.getfield 26, 3) := by decide +kernel
theorem dX8_square_113 : decode cX8_square 113 = .ok (.iload 4, 2) := by decide +kernel
theorem dX8_square_115 : decode cX8_square 115 = .ok (.baload, 1) := by decide +kernel
theorem dX8_square_116 : decode cX8_square 116 = .ok (.invokestatic 114, 3) := by decide +kernel
theorem dX8_square_119 : decode cX8_square 119 = .ok (.ireturn, 1) := by decide +kernel
theorem dX8_square_120 : decode cX8_square 120 = .ok (.aload_n 0, 1) := by decide +kernel
theorem dX8_square_121 : decode cX8_square 121 = .ok (.getfield 19, 3) := by decide +kernel
theorem dX8_square_124 : decode cX8_square 124 = .ok (.iload 4, 2) := by decide +kernel
theorem dX8_square_126 : decode cX8_square 126 = .ok (.baload, 1) := by decide +kernel
theorem dX8_square_127 : decode cX8_square 127 = .ok (.invokestatic 114, 3) := by decide +kernel
theorem dX8_square_130 : decode cX8_square 130 = .ok (.ireturn, 1) := by decide +kernel
theorem dX8_square_131 : decode cX8_square 131 = .ok (.iconst (-1), 1) := by decide +kernel
theorem dX8_square_132 : decode cX8_square 132 = .ok (.ireturn, 1) := by decide +kernel
set_option maxRecDepth 20000 in
theorem ggX8_tinBy_X8_end : GoodIn wsX8_tinBy wsX8_end := goodIn_r _ [5, 6, 7, 8, 9, 10, 11, 12, 13, 14, 15, 16, 17, 18, 19, 20, 21, 22, 23, 24, 25, 26, 27, 28, 29, 30, 31, 32, 33, 34, 35, 36, 37, 38, 39, 40, 41, 42, 43, 44, 45, 46, 47, 48, 49, 50, 51, 52, 53, 54] (by decide +kernel) (by decide +kernel)
set_option maxRecDepth 20000 in
theorem gX8_tinBy_X8_end : GoodIn wsX8_tinBy (wsV RX8 107 RX8 yX8_end wsX8_end) := goodIn_app (goodIn_of _ (by decide +kernel)) ggX8_tinBy_X8_end
theorem dX8_tinBy_0 : decode cX8_tinBy 0 = .ok (.iload_n 3, 1) := by decide +kernel
theorem dX8_tinBy_1 : decode cX8_tinBy 1 = .ok (.ifCond .ne 13, 3) := by decide +kernel
theorem dX8_tinBy_4 : decode cX8_tinBy 4 = .ok (.aload_n 0, 1) := by decide +kernel
theorem dX8_tinBy_5 : decode cX8_tinBy 5 = .ok (.iload_n 1, 1) := by decide +kernel
theorem dX8_tinBy_6 : decode cX8_tinBy 6 = .ok (.iload_n 2, 1) := by decide +kernel
theorem dX8_tinBy_7 : decode cX8_tinBy 7 = .ok (.iconst 0, 1) := by decide +kernel
theorem dX8_tinBy_8 : decode cX8_tinBy 8 = .ok (.invokevirtual 107, 3) := by decide +kernel
theorem dX8_tinBy_11 : decode cX8_tinBy 11 = .ok (.goto 35, 3) := by decide +kernel
theorem dX8_tinBy_14 : decode cX8_tinBy 14 = .ok (.iload_n 3, 1) := by decide +kernel
theorem dX8_tinBy_15 : decode cX8_tinBy 15 = .ok (.iconst 1, 1) := by decide +kernel
theorem dX8_tinBy_16 : decode cX8_tinBy 16 = .ok (.if_icmp .ne 13, 3) := by decide +kernel
theorem dX8_tinBy_19 : decode cX8_tinBy 19 = .ok (.aload_n 0, 1) := by decide +kernel
theorem dX8_tinBy_20 : decode cX8_tinBy 20 = .ok (.iload_n 1, 1) := by decide +kernel
theorem dX8_tinBy_21 : decode cX8_tinBy 21 = .ok (.iload_n 2, 1) := by decide +kernel
theorem dX8_tinBy_22 : decode cX8_tinBy 22 = .ok (.iconst 1, 1) := by decide +kernel
theorem dX8_tinBy_23 : decode cX8_tinBy 23 = .ok (.invokevirtual 107, 3) := by decide +kernel
theorem dX8_tinBy_26 : decode cX8_tinBy 26 = .ok (.goto 20, 3) := by decide +kernel
theorem dX8_tinBy_29 : decode cX8_tinBy 29 = .ok (.aload_n 0, 1) := by decide +kernel
theorem dX8_tinBy_30 : decode cX8_tinBy 30 = .ok (.iload_n 1, 1) := by decide +kernel
theorem dX8_tinBy_31 : decode cX8_tinBy 31 = .ok (.iload_n 2, 1) := by decide +kernel
theorem dX8_tinBy_32 : decode cX8_tinBy 32 = .ok (.iconst 0, 1) := by decide +kernel
theorem dX8_tinBy_33 : decode cX8_tinBy 33 = .ok (.invokevirtual 107, 3) := by decide +kernel
theorem dX8_tinBy_36 : decode cX8_tinBy 36 = .ok (.aload_n 0, 1) := by decide +kernel
theorem dX8_tinBy_37 : decode cX8_tinBy 37 = .ok (.iload_n 1, 1) := by decide +kernel
theorem dX8_tinBy_38 : decode cX8_tinBy 38 = .ok (.iload_n 2, 1) := by decide +kernel
theorem dX8_tinBy_39 : decode cX8_tinBy 39 = .ok (.iconst 1, 1) := by decide +kernel
theorem dX8_tinBy_40 : decode cX8_tinBy 40 = .ok (.invokevirtual 107, 3) := by decide +kernel
theorem dX8_tinBy_43 : decode cX8_tinBy 43 = .ok (.iadd, 1) := by decide +kernel
theorem dX8_tinBy_44 : decode cX8_tinBy 44 = .ok (.iconst 2, 1) := by decide +kernel
theorem dX8_tinBy_45 : decode cX8_tinBy 45 = .ok (.idiv, 1) := by decide +kernel
theorem dX8_tinBy_46 : decode cX8_tinBy 46 = .ok (.ireturn, 1) := by decide +kernel
theorem dX8_best_0 : decode cX8_best 0 = .ok (.iconst (-1), 1) := by decide +kernel
theorem dX8_best_1 : decode cX8_best 1 = .ok (.istore_n 3, 1) := by decide +kernel
theorem dX8_best_2 : decode cX8_best 2 = .ok (.iconst 0, 1) := by decide +kernel
theorem dX8_best_3 : decode cX8_best 3 = .ok (.istore 4, 2) := by decide +kernel
theorem dX8_best_5 : decode cX8_best 5 = .ok (.iload 4, 2) := by decide +kernel
theorem dX8_best_7 : decode cX8_best 7 = .ok (.aload_n 0, 1) := by decide +kernel
theorem dX8_best_8 : decode cX8_best 8 = .ok (.getfield 88, 3) := by decide +kernel
theorem dX8_best_11 : decode cX8_best 11 = .ok (.if_icmp .ge 59, 3) := by decide +kernel
theorem dX8_best_14 : decode cX8_best 14 = .ok (.iload_n 2, 1) := by decide +kernel
theorem dX8_best_15 : decode cX8_best 15 = .ok (.iconst (-1), 1) := by decide +kernel
theorem dX8_best_16 : decode cX8_best 16 = .ok (.if_icmp .eq 14, 3) := by decide +kernel
theorem dX8_best_19 : decode cX8_best 19 = .ok (.iload 4, 2) := by decide +kernel
theorem dX8_best_21 : decode cX8_best 21 = .ok (.iload_n 2, 1) := by decide +kernel
theorem dX8_best_22 : decode cX8_best 22 = .ok (.isub, 1) := by decide +kernel
theorem dX8_best_23 : decode cX8_best 23 = .ok (.invokestatic 103, 3) := by decide +kernel
theorem dX8_best_26 : decode cX8_best 26 = .ok (.iconst 2, 1) := by decide +kernel
theorem dX8_best_27 : decode cX8_best 27 = .ok (.if_icmp .ge 37, 3) := by decide +kernel
theorem dX8_best_30 : decode cX8_best 30 = .ok (.iload_n 3, 1) := by decide +kernel
theorem dX8_best_31 : decode cX8_best 31 = .ok (.iconst (-1), 1) := by decide +kernel
theorem dX8_best_32 : decode cX8_best 32 = .ok (.if_icmp .eq 29, 3) := by decide +kernel
theorem dX8_best_35 : decode cX8_best 35 = .ok (.aload_n 0, 1) := by decide +kernel
theorem dX8_best_36 : decode cX8_best 36 = .ok (.getfield 57, 3) := by decide +kernel
theorem dX8_best_39 : decode cX8_best 39 = .ok (.bipush 8, 2) := by decide +kernel
theorem dX8_best_41 : decode cX8_best 41 = .ok (.iload_n 1, 1) := by decide +kernel
theorem dX8_best_42 : decode cX8_best 42 = .ok (.imul, 1) := by decide +kernel
theorem dX8_best_43 : decode cX8_best 43 = .ok (.iload 4, 2) := by decide +kernel
theorem dX8_best_45 : decode cX8_best 45 = .ok (.iadd, 1) := by decide +kernel
theorem dX8_best_46 : decode cX8_best 46 = .ok (.iaload, 1) := by decide +kernel
theorem dX8_best_47 : decode cX8_best 47 = .ok (.aload_n 0, 1) := by decide +kernel
theorem dX8_best_48 : decode cX8_best 48 = .ok (.getfield 57, 3) := by decide +kernel
theorem dX8_best_51 : decode cX8_best 51 = .ok (.bipush 8, 2) := by decide +kernel
theorem dX8_best_53 : decode cX8_best 53 = .ok (.iload_n 1, 1) := by decide +kernel
theorem dX8_best_54 : decode cX8_best 54 = .ok (.imul, 1) := by decide +kernel
theorem dX8_best_55 : decode cX8_best 55 = .ok (.iload_n 3, 1) := by decide +kernel
theorem dX8_best_56 : decode cX8_best 56 = .ok (.iadd, 1) := by decide +kernel
theorem dX8_best_57 : decode cX8_best 57 = .ok (.iaload, 1) := by decide +kernel
theorem dX8_best_58 : decode cX8_best 58 = .ok (.if_icmp .le 6, 3) := by decide +kernel
theorem dX8_best_61 : decode cX8_best 61 = .ok (.iload 4, 2) := by decide +kernel
theorem dX8_best_63 : decode cX8_best 63 = .ok (.istore_n 3, 1) := by decide +kernel
theorem dX8_best_64 : decode cX8_best 64 = .ok (.iinc 4 1, 3) := by decide +kernel
theorem dX8_best_67 : decode cX8_best 67 = .ok (.goto (-62), 3) := by decide +kernel
theorem dX8_best_70 : decode cX8_best 70 = .ok (.iload_n 3, 1) := by decide +kernel
theorem dX8_best_71 : decode cX8_best 71 = .ok (.ireturn, 1) := by decide +kernel
set_option maxRecDepth 20000 in
theorem ggX8_path_X8_isIn : GoodIn wsX8_path wsX8_isIn := goodIn_r _ [12] (by decide +kernel) (by decide +kernel)
set_option maxRecDepth 20000 in
theorem gX8_path_X8_isIn : GoodIn wsX8_path (va_wsS RX8 91 yX8_isIn wsX8_isIn) := goodIn_app (goodIn_of _ (by decide +kernel)) ggX8_path_X8_isIn
set_option maxRecDepth 20000 in
theorem ggX8_path_X8_tinBy : GoodIn wsX8_path wsX8_tinBy := goodIn_r _ [16, 17, 18, 19, 11, 20, 21, 22, 2, 4, 23, 24, 25, 26, 27, 28, 29, 30, 31, 32, 33, 38, 39, 40, 41, 42, 43, 44, 45, 46, 47, 48, 49, 50, 51, 52, 53, 54, 55, 56, 57, 58, 59, 60, 61, 62, 63, 64, 65, 66, 67, 68, 69, 70, 71] (by decide +kernel) (by decide +kernel)
set_option maxRecDepth 20000 in
theorem gX8_path_X8_tinBy : GoodIn wsX8_path (wsV RX8 119 RX8 yX8_tinBy wsX8_tinBy) := goodIn_app (goodIn_of _ (by decide +kernel)) ggX8_path_X8_tinBy
set_option maxRecDepth 20000 in
theorem ggX8_path_X8_best : GoodIn wsX8_path wsX8_best := goodIn_r _ [37, 4, 24, 25, 26, 27, 7, 38, 39, 40, 41, 42, 43, 44, 45, 46, 47, 48, 49, 50, 51, 52, 53, 54, 55, 56, 57, 58, 59, 60, 61, 62, 63, 64, 65, 66, 67, 68, 69, 70, 71] (by decide +kernel) (by decide +kernel)
set_option maxRecDepth 20000 in
theorem gX8_path_X8_best : GoodIn wsX8_path (wsV RX8 123 RX8 yX8_best wsX8_best) := goodIn_app (goodIn_of _ (by decide +kernel)) ggX8_path_X8_best
theorem dX8_path_0 : decode cX8_path 0 = .ok (.iload_n 1, 1) := by decide +kernel
theorem dX8_path_1 : decode cX8_path 1 = .ok (.iconst 0, 1) := by decide +kernel
theorem dX8_path_2 : decode cX8_path 2 = .ok (.iconst 2, 1) := by decide +kernel
theorem dX8_path_3 : decode cX8_path 3 = .ok (.invokestatic 91, 3) := by decide +kernel
theorem dX8_path_6 : decode cX8_path 6 = .ok (.ifCond .eq 35, 3) := by decide +kernel
theorem dX8_path_9 : decode cX8_path 9 = .ok (.aload_n 0, 1) := by decide +kernel
theorem dX8_path_10 : decode cX8_path 10 = .ok (.getfield 39, 3) := by decide +kernel
theorem dX8_path_13 : decode cX8_path 13 = .ok (.aload_n 0, 1) := by decide +kernel
theorem dX8_path_14 : decode cX8_path 14 = .ok (.getfield 85, 3) := by decide +kernel
theorem dX8_path_17 : decode cX8_path 17 = .ok (.iconst 1, 1) := by decide +kernel
theorem dX8_path_18 : decode cX8_path 18 = .ok (.isub, 1) := by decide +kernel
theorem dX8_path_19 : decode cX8_path 19 = .ok (.if_icmp .eq 22, 3) := by decide +kernel
theorem dX8_path_22 : decode cX8_path 22 = .ok (.iload_n 2, 1) := by decide +kernel
theorem dX8_path_23 : decode cX8_path 23 = .ok (.iconst (-1), 1) := by decide +kernel
theorem dX8_path_24 : decode cX8_path 24 = .ok (.aload_n 0, 1) := by decide +kernel
theorem dX8_path_25 : decode cX8_path 25 = .ok (.getfield 85, 3) := by decide +kernel
theorem dX8_path_28 : decode cX8_path 28 = .ok (.aload_n 0, 1) := by decide +kernel
theorem dX8_path_29 : decode cX8_path 29 = .ok (.getfield 39, 3) := by decide +kernel
theorem dX8_path_32 : decode cX8_path 32 = .ok (.isub, 1) := by decide +kernel
theorem dX8_path_33 : decode cX8_path 33 = .ok (.iconst 2, 1) := by decide +kernel
theorem dX8_path_34 : decode cX8_path 34 = .ok (.isub, 1) := by decide +kernel
theorem dX8_path_35 : decode cX8_path 35 = .ok (.invokestatic 91, 3) := by decide +kernel
theorem dX8_path_38 : decode cX8_path 38 = .ok (.ifCond .ne 6, 3) := by decide +kernel
theorem dX8_path_41 : decode cX8_path 41 = .ok (.ldc 118, 2) := by decide +kernel
theorem dX8_path_43 : decode cX8_path 43 = .ok (.ireturn, 1) := by decide +kernel
theorem dX8_path_44 : decode cX8_path 44 = .ok (.aload_n 0, 1) := by decide +kernel
theorem dX8_path_45 : decode cX8_path 45 = .ok (.getfield 85, 3) := by decide +kernel
theorem dX8_path_48 : decode cX8_path 48 = .ok (.iconst 1, 1) := by decide +kernel
theorem dX8_path_49 : decode cX8_path 49 = .ok (.isub, 1) := by decide +kernel
theorem dX8_path_50 : decode cX8_path 50 = .ok (.istore_n 3, 1) := by decide +kernel
theorem dX8_path_51 : decode cX8_path 51 = .ok (.iload_n 3, 1) := by decide +kernel
theorem dX8_path_52 : decode cX8_path 52 = .ok (.aload_n 0, 1) := by decide +kernel
theorem dX8_path_53 : decode cX8_path 53 = .ok (.getfield 39, 3) := by decide +kernel
theorem dX8_path_56 : decode cX8_path 56 = .ok (.if_icmp .le 106, 3) := by decide +kernel
theorem dX8_path_59 : decode cX8_path 59 = .ok (.iconst 0, 1) := by decide +kernel
theorem dX8_path_60 : decode cX8_path 60 = .ok (.istore 4, 2) := by decide +kernel
theorem dX8_path_62 : decode cX8_path 62 = .ok (.iload 4, 2) := by decide +kernel
theorem dX8_path_64 : decode cX8_path 64 = .ok (.aload_n 0, 1) := by decide +kernel
theorem dX8_path_65 : decode cX8_path 65 = .ok (.getfield 88, 3) := by decide +kernel
theorem dX8_path_68 : decode cX8_path 68 = .ok (.if_icmp .ge 88, 3) := by decide +kernel
theorem dX8_path_71 : decode cX8_path 71 = .ok (.aload_n 0, 1) := by decide +kernel
theorem dX8_path_72 : decode cX8_path 72 = .ok (.getfield 7, 3) := by decide +kernel
theorem dX8_path_75 : decode cX8_path 75 = .ok (.bipush 8, 2) := by decide +kernel
theorem dX8_path_77 : decode cX8_path 77 = .ok (.iload_n 3, 1) := by decide +kernel
theorem dX8_path_78 : decode cX8_path 78 = .ok (.imul, 1) := by decide +kernel
theorem dX8_path_79 : decode cX8_path 79 = .ok (.iload 4, 2) := by decide +kernel
theorem dX8_path_81 : decode cX8_path 81 = .ok (.iadd, 1) := by decide +kernel
theorem dX8_path_82 : decode cX8_path 82 = .ok (.iaload, 1) := by decide +kernel
theorem dX8_path_83 : decode cX8_path 83 = .ok (.aload_n 0, 1) := by decide +kernel
theorem dX8_path_84 : decode cX8_path 84 = .ok (.iload_n 3, 1) := by decide +kernel
theorem dX8_path_85 : decode cX8_path 85 = .ok (.iload 4, 2) := by decide +kernel
theorem dX8_path_87 : decode cX8_path 87 = .ok (.iload_n 1, 1) := by decide +kernel
theorem dX8_path_88 : decode cX8_path 88 = .ok (.invokevirtual 119, 3) := by decide +kernel
theorem dX8_path_91 : decode cX8_path 91 = .ok (.aload_n 0, 1) := by decide +kernel
theorem dX8_path_92 : decode cX8_path 92 = .ok (.getfield 36, 3) := by decide +kernel
theorem dX8_path_95 : decode cX8_path 95 = .ok (.isub, 1) := by decide +kernel
theorem dX8_path_96 : decode cX8_path 96 = .ok (.imul, 1) := by decide +kernel
theorem dX8_path_97 : decode cX8_path 97 = .ok (.istore 5, 2) := by decide +kernel
end
section
theorem dX8_path_99 : decode cX8_path 99 = .ok (.aload_n 0, 1) := by decide +kernel
theorem dX8_path_100 : decode cX8_path 100 = .ok (.getfield 57, 3) := by decide +kernel
theorem dX8_path_103 : decode cX8_path 103 = .ok (.bipush 8, 2) := by decide +kernel
theorem dX8_path_105 : decode cX8_path 105 = .ok (.iload_n 3, 1) := by decide +kernel
theorem dX8_path_106 : decode cX8_path 106 = .ok (.imul, 1) := by decide +kernel
theorem dX8_path_107 : decode cX8_path 107 = .ok (.iload 4, 2) := by decide +kernel
theorem dX8_path_109 : decode cX8_path 109 = .ok (.iadd, 1) := by decide +kernel
theorem dX8_path_110 : decode cX8_path 110 = .ok (.iload 5, 2) := by decide +kernel
theorem dX8_path_112 : decode cX8_path 112 = .ok (.iload_n 3, 1) := by decide +kernel
theorem dX8_path_113 : decode cX8_path 113 = .ok (.aload_n 0, 1) := by decide +kernel
theorem dX8_path_114 : decode cX8_path 114 = .ok (.getfield 85, 3) := by decide +kernel
theorem dX8_path_117 : decode cX8_path 117 = .ok (.iconst 1, 1) := by decide +kernel
theorem dX8_path_118 : decode cX8_path 118 = .ok (.isub, 1) := by decide +kernel
theorem dX8_path_119 : decode cX8_path 119 = .ok (.if_icmp .ne 7, 3) := by decide +kernel
theorem dX8_path_122 : decode cX8_path 122 = .ok (.iconst 0, 1) := by decide +kernel
theorem dX8_path_123 : decode cX8_path 123 = .ok (.goto 25, 3) := by decide +kernel
theorem dX8_path_126 : decode cX8_path 126 = .ok (.aload_n 0, 1) := by decide +kernel
theorem dX8_path_127 : decode cX8_path 127 = .ok (.getfield 57, 3) := by decide +kernel
theorem dX8_path_130 : decode cX8_path 130 = .ok (.bipush 8, 2) := by decide +kernel
theorem dX8_path_132 : decode cX8_path 132 = .ok (.iload_n 3, 1) := by decide +kernel
theorem dX8_path_133 : decode cX8_path 133 = .ok (.imul, 1) := by decide +kernel
theorem dX8_path_134 : decode cX8_path 134 = .ok (.bipush 8, 2) := by decide +kernel
theorem dX8_path_136 : decode cX8_path 136 = .ok (.iadd, 1) := by decide +kernel
theorem dX8_path_137 : decode cX8_path 137 = .ok (.aload_n 0, 1) := by decide +kernel
theorem dX8_path_138 : decode cX8_path 138 = .ok (.iload_n 3, 1) := by decide +kernel
theorem dX8_path_139 : decode cX8_path 139 = .ok (.iconst 1, 1) := by decide +kernel
theorem dX8_path_140 : decode cX8_path 140 = .ok (.iadd, 1) := by decide +kernel
theorem dX8_path_141 : decode cX8_path 141 = .ok (.iload 4, 2) := by decide +kernel
theorem dX8_path_143 : decode cX8_path 143 = .ok (.invokevirtual 123, 3) := by decide +kernel
theorem dX8_path_146 : decode cX8_path 146 = .ok (.iadd, 1) := by decide +kernel
theorem dX8_path_147 : decode cX8_path 147 = .ok (.iaload, 1) := by decide +kernel
theorem dX8_path_148 : decode cX8_path 148 = .ok (.iadd, 1) := by decide +kernel
theorem dX8_path_149 : decode cX8_path 149 = .ok (.iastore, 1) := by decide +kernel
theorem dX8_path_150 : decode cX8_path 150 = .ok (.iinc 4 1, 3) := by decide +kernel
theorem dX8_path_153 : decode cX8_path 153 = .ok (.goto (-91), 3) := by decide +kernel
theorem dX8_path_156 : decode cX8_path 156 = .ok (.iinc 3 (-1), 3) := by decide +kernel
theorem dX8_path_159 : decode cX8_path 159 = .ok (.goto (-108), 3) := by decide +kernel
theorem dX8_path_162 : decode cX8_path 162 = .ok (.aload_n 0, 1) := by decide +kernel
theorem dX8_path_163 : decode cX8_path 163 = .ok (.aload_n 0, 1) := by decide +kernel
theorem dX8_path_164 : decode cX8_path 164 = .ok (.getfield 39, 3) := by decide +kernel
theorem dX8_path_167 : decode cX8_path 167 = .ok (.iconst 1, 1) := by decide +kernel
theorem dX8_path_168 : decode cX8_path 168 = .ok (.iadd, 1) := by decide +kernel
theorem dX8_path_169 : decode cX8_path 169 = .ok (.aload_n 0, 1) := by decide +kernel
theorem dX8_path_170 : decode cX8_path 170 = .ok (.getfield 42, 3) := by decide +kernel
theorem dX8_path_173 : decode cX8_path 173 = .ok (.invokevirtual 123, 3) := by decide +kernel
theorem dX8_path_176 : decode cX8_path 176 = .ok (.istore_n 3, 1) := by decide +kernel
theorem dX8_path_177 : decode cX8_path 177 = .ok (.iload_n 2, 1) := by decide +kernel
theorem dX8_path_178 : decode cX8_path 178 = .ok (.iconst (-1), 1) := by decide +kernel
theorem dX8_path_179 : decode cX8_path 179 = .ok (.if_icmp .ne 21, 3) := by decide +kernel
theorem dX8_path_182 : decode cX8_path 182 = .ok (.aload_n 0, 1) := by decide +kernel
theorem dX8_path_183 : decode cX8_path 183 = .ok (.getfield 57, 3) := by decide +kernel
theorem dX8_path_186 : decode cX8_path 186 = .ok (.bipush 8, 2) := by decide +kernel
theorem dX8_path_188 : decode cX8_path 188 = .ok (.aload_n 0, 1) := by decide +kernel
theorem dX8_path_189 : decode cX8_path 189 = .ok (.getfield 39, 3) := by decide +kernel
theorem dX8_path_192 : decode cX8_path 192 = .ok (.imul, 1) := by decide +kernel
theorem dX8_path_193 : decode cX8_path 193 = .ok (.bipush 8, 2) := by decide +kernel
theorem dX8_path_195 : decode cX8_path 195 = .ok (.iadd, 1) := by decide +kernel
theorem dX8_path_196 : decode cX8_path 196 = .ok (.iload_n 3, 1) := by decide +kernel
theorem dX8_path_197 : decode cX8_path 197 = .ok (.iadd, 1) := by decide +kernel
theorem dX8_path_198 : decode cX8_path 198 = .ok (.iaload, 1) := by decide +kernel
theorem dX8_path_199 : decode cX8_path 199 = .ok (.ireturn, 1) := by decide +kernel
theorem dX8_path_200 : decode cX8_path 200 = .ok (.iconst 1, 1) := by decide +kernel
theorem dX8_path_201 : decode cX8_path 201 = .ok (.istore 4, 2) := by decide +kernel
theorem dX8_path_203 : decode cX8_path 203 = .ok (.iload 4, 2) := by decide +kernel
theorem dX8_path_205 : decode cX8_path 205 = .ok (.iload_n 2, 1) := by decide +kernel
theorem dX8_path_206 : decode cX8_path 206 = .ok (.if_icmp .gt 24, 3) := by decide +kernel
theorem dX8_path_209 : decode cX8_path 209 = .ok (.aload_n 0, 1) := by decide +kernel
theorem dX8_path_210 : decode cX8_path 210 = .ok (.aload_n 0, 1) := by decide +kernel
theorem dX8_path_211 : decode cX8_path 211 = .ok (.getfield 39, 3) := by decide +kernel
theorem dX8_path_214 : decode cX8_path 214 = .ok (.iconst 1, 1) := by decide +kernel
theorem dX8_path_215 : decode cX8_path 215 = .ok (.iadd, 1) := by decide +kernel
theorem dX8_path_216 : decode cX8_path 216 = .ok (.iload 4, 2) := by decide +kernel
theorem dX8_path_218 : decode cX8_path 218 = .ok (.iadd, 1) := by decide +kernel
theorem dX8_path_219 : decode cX8_path 219 = .ok (.iload_n 3, 1) := by decide +kernel
theorem dX8_path_220 : decode cX8_path 220 = .ok (.invokevirtual 123, 3) := by decide +kernel
theorem dX8_path_223 : decode cX8_path 223 = .ok (.istore_n 3, 1) := by decide +kernel
theorem dX8_path_224 : decode cX8_path 224 = .ok (.iinc 4 1, 3) := by decide +kernel
theorem dX8_path_227 : decode cX8_path 227 = .ok (.goto (-24), 3) := by decide +kernel
theorem dX8_path_230 : decode cX8_path 230 = .ok (.iload_n 3, 1) := by decide +kernel
theorem dX8_path_231 : decode cX8_path 231 = .ok (.ireturn, 1) := by decide +kernel
set_option maxRecDepth 20000 in
theorem ggX8_next_X8_end : GoodIn wsX8_next wsX8_end := goodIn_r _ [9, 4, 10, 2, 3, 11, 12, 13, 14, 15, 16, 17, 18, 19, 20, 21, 22, 23, 24, 25, 26, 27, 28, 29, 30, 31, 32, 33, 34, 35, 36, 37, 38, 39, 40, 41, 42, 43, 44, 45, 46, 47, 48, 49, 50, 51, 52, 53, 54, 55] (by decide +kernel) (by decide +kernel)
set_option maxRecDepth 20000 in
theorem gX8_next_X8_end : GoodIn wsX8_next (wsV RX8 107 RX8 yX8_end wsX8_end) := goodIn_app (goodIn_of _ (by decide +kernel)) ggX8_next_X8_end
theorem dX8_next_0 : decode cX8_next 0 = .ok (.iconst (-1), 1) := by decide +kernel
theorem dX8_next_1 : decode cX8_next 1 = .ok (.istore_n 1, 1) := by decide +kernel
theorem dX8_next_2 : decode cX8_next 2 = .ok (.iconst 0, 1) := by decide +kernel
theorem dX8_next_3 : decode cX8_next 3 = .ok (.istore_n 2, 1) := by decide +kernel
theorem dX8_next_4 : decode cX8_next 4 = .ok (.aload_n 0, 1) := by decide +kernel
theorem dX8_next_5 : decode cX8_next 5 = .ok (.getfield 39, 3) := by decide +kernel
theorem dX8_next_8 : decode cX8_next 8 = .ok (.iconst 1, 1) := by decide +kernel
theorem dX8_next_9 : decode cX8_next 9 = .ok (.iadd, 1) := by decide +kernel
theorem dX8_next_10 : decode cX8_next 10 = .ok (.istore_n 3, 1) := by decide +kernel
theorem dX8_next_11 : decode cX8_next 11 = .ok (.iload_n 3, 1) := by decide +kernel
theorem dX8_next_12 : decode cX8_next 12 = .ok (.aload_n 0, 1) := by decide +kernel
theorem dX8_next_13 : decode cX8_next 13 = .ok (.getfield 85, 3) := by decide +kernel
theorem dX8_next_16 : decode cX8_next 16 = .ok (.if_icmp .ge 86, 3) := by decide +kernel
theorem dX8_next_19 : decode cX8_next 19 = .ok (.iconst 0, 1) := by decide +kernel
theorem dX8_next_20 : decode cX8_next 20 = .ok (.istore 4, 2) := by decide +kernel
theorem dX8_next_22 : decode cX8_next 22 = .ok (.iload 4, 2) := by decide +kernel
theorem dX8_next_24 : decode cX8_next 24 = .ok (.aload_n 0, 1) := by decide +kernel
theorem dX8_next_25 : decode cX8_next 25 = .ok (.getfield 88, 3) := by decide +kernel
theorem dX8_next_28 : decode cX8_next 28 = .ok (.if_icmp .ge 68, 3) := by decide +kernel
theorem dX8_next_31 : decode cX8_next 31 = .ok (.aload_n 0, 1) := by decide +kernel
theorem dX8_next_32 : decode cX8_next 32 = .ok (.iload_n 3, 1) := by decide +kernel
theorem dX8_next_33 : decode cX8_next 33 = .ok (.iload 4, 2) := by decide +kernel
theorem dX8_next_35 : decode cX8_next 35 = .ok (.iconst 1, 1) := by decide +kernel
theorem dX8_next_36 : decode cX8_next 36 = .ok (.invokevirtual 107, 3) := by decide +kernel
theorem dX8_next_39 : decode cX8_next 39 = .ok (.aload_n 0, 1) := by decide +kernel
theorem dX8_next_40 : decode cX8_next 40 = .ok (.iload_n 3, 1) := by decide +kernel
theorem dX8_next_41 : decode cX8_next 41 = .ok (.iload 4, 2) := by decide +kernel
theorem dX8_next_43 : decode cX8_next 43 = .ok (.iconst 0, 1) := by decide +kernel
theorem dX8_next_44 : decode cX8_next 44 = .ok (.invokevirtual 107, 3) := by decide +kernel
theorem dX8_next_47 : decode cX8_next 47 = .ok (.isub, 1) := by decide +kernel
theorem dX8_next_48 : decode cX8_next 48 = .ok (.istore 5, 2) := by decide +kernel
theorem dX8_next_50 : decode cX8_next 50 = .ok (.aload_n 0, 1) := by decide +kernel
theorem dX8_next_51 : decode cX8_next 51 = .ok (.getfield 19, 3) := by decide +kernel
theorem dX8_next_54 : decode cX8_next 54 = .ok (.bipush 8, 2) := by decide +kernel
theorem dX8_next_56 : decode cX8_next 56 = .ok (.iload_n 3, 1) := by decide +kernel
theorem dX8_next_57 : decode cX8_next 57 = .ok (.imul, 1) := by decide +kernel
theorem dX8_next_58 : decode cX8_next 58 = .ok (.iload 4, 2) := by decide +kernel
theorem dX8_next_60 : decode cX8_next 60 = .ok (.iadd, 1) := by decide +kernel
theorem dX8_next_61 : decode cX8_next 61 = .ok (.baload, 1) := by decide +kernel
theorem dX8_next_62 : decode cX8_next 62 = .ok (.ifCond .ne 28, 3) := by decide +kernel
theorem dX8_next_65 : decode cX8_next 65 = .ok (.iload_n 1, 1) := by decide +kernel
theorem dX8_next_66 : decode cX8_next 66 = .ok (.iconst (-1), 1) := by decide +kernel
theorem dX8_next_67 : decode cX8_next 67 = .ok (.if_icmp .eq 12, 3) := by decide +kernel
theorem dX8_next_70 : decode cX8_next 70 = .ok (.iload 5, 2) := by decide +kernel
theorem dX8_next_72 : decode cX8_next 72 = .ok (.iload_n 2, 1) := by decide +kernel
theorem dX8_next_73 : decode cX8_next 73 = .ok (.if_icmp .gt 6, 3) := by decide +kernel
theorem dX8_next_76 : decode cX8_next 76 = .ok (.goto 14, 3) := by decide +kernel
theorem dX8_next_79 : decode cX8_next 79 = .ok (.bipush 8, 2) := by decide +kernel
theorem dX8_next_81 : decode cX8_next 81 = .ok (.iload_n 3, 1) := by decide +kernel
theorem dX8_next_82 : decode cX8_next 82 = .ok (.imul, 1) := by decide +kernel
theorem dX8_next_83 : decode cX8_next 83 = .ok (.iload 4, 2) := by decide +kernel
theorem dX8_next_85 : decode cX8_next 85 = .ok (.iadd, 1) := by decide +kernel
theorem dX8_next_86 : decode cX8_next 86 = .ok (.istore_n 1, 1) := by decide +kernel
theorem dX8_next_87 : decode cX8_next 87 = .ok (.iload 5, 2) := by decide +kernel
theorem dX8_next_89 : decode cX8_next 89 = .ok (.istore_n 2, 1) := by decide +kernel
theorem dX8_next_90 : decode cX8_next 90 = .ok (.iinc 4 1, 3) := by decide +kernel
theorem dX8_next_93 : decode cX8_next 93 = .ok (.goto (-71), 3) := by decide +kernel
theorem dX8_next_96 : decode cX8_next 96 = .ok (.iinc 3 1, 3) := by decide +kernel
theorem dX8_next_99 : decode cX8_next 99 = .ok (.goto (-88), 3) := by decide +kernel
theorem dX8_next_102 : decode cX8_next 102 = .ok (.iload_n 1, 1) := by decide +kernel
theorem dX8_next_103 : decode cX8_next 103 = .ok (.ireturn, 1) := by decide +kernel
set_option maxRecDepth 20000 in
theorem ggX8_bars_X8_isIn : GoodIn wsX8_bars wsX8_isIn := goodIn_r _ [16] (by decide +kernel) (by decide +kernel)
set_option maxRecDepth 20000 in
theorem gX8_bars_X8_isIn : GoodIn wsX8_bars (va_wsS RX8 91 yX8_isIn wsX8_isIn) := goodIn_app (goodIn_of _ (by decide +kernel)) ggX8_bars_X8_isIn
set_option maxRecDepth 20000 in
theorem ggX8_bars_X8_now : GoodIn wsX8_bars wsX8_now := goodIn_r _ [20, 21, 22, 23, 24, 15, 25, 26, 27, 28, 29, 30, 31, 32, 33, 34, 35, 36, 37, 38, 39, 40, 41, 42, 43, 44, 45, 46, 47, 48, 49, 50, 51, 52, 53, 54, 55, 56, 57, 58, 59, 60, 61, 62, 63, 64, 65, 66, 67, 68, 69] (by decide +kernel) (by decide +kernel)
set_option maxRecDepth 20000 in
theorem gX8_bars_X8_now : GoodIn wsX8_bars (wsV RX8 126 RX8 yX8_now wsX8_now) := goodIn_app (goodIn_of _ (by decide +kernel)) ggX8_bars_X8_now
theorem dX8_bars_0 : decode cX8_bars 0 = .ok (.iload_n 1, 1) := by decide +kernel
theorem dX8_bars_1 : decode cX8_bars 1 = .ok (.iconst 0, 1) := by decide +kernel
theorem dX8_bars_2 : decode cX8_bars 2 = .ok (.aload_n 0, 1) := by decide +kernel
theorem dX8_bars_3 : decode cX8_bars 3 = .ok (.getfield 88, 3) := by decide +kernel
theorem dX8_bars_6 : decode cX8_bars 6 = .ok (.iconst 1, 1) := by decide +kernel
theorem dX8_bars_7 : decode cX8_bars 7 = .ok (.isub, 1) := by decide +kernel
theorem dX8_bars_8 : decode cX8_bars 8 = .ok (.invokestatic 91, 3) := by decide +kernel
theorem dX8_bars_11 : decode cX8_bars 11 = .ok (.ifCond .eq 37, 3) := by decide +kernel
theorem dX8_bars_14 : decode cX8_bars 14 = .ok (.aload_n 0, 1) := by decide +kernel
theorem dX8_bars_15 : decode cX8_bars 15 = .ok (.getfield 39, 3) := by decide +kernel
theorem dX8_bars_18 : decode cX8_bars 18 = .ok (.aload_n 0, 1) := by decide +kernel
theorem dX8_bars_19 : decode cX8_bars 19 = .ok (.getfield 85, 3) := by decide +kernel
theorem dX8_bars_22 : decode cX8_bars 22 = .ok (.iconst 1, 1) := by decide +kernel
theorem dX8_bars_23 : decode cX8_bars 23 = .ok (.isub, 1) := by decide +kernel
theorem dX8_bars_24 : decode cX8_bars 24 = .ok (.if_icmp .eq 24, 3) := by decide +kernel
theorem dX8_bars_27 : decode cX8_bars 27 = .ok (.aload_n 0, 1) := by decide +kernel
theorem dX8_bars_28 : decode cX8_bars 28 = .ok (.getfield 39, 3) := by decide +kernel
theorem dX8_bars_31 : decode cX8_bars 31 = .ok (.iconst (-1), 1) := by decide +kernel
theorem dX8_bars_32 : decode cX8_bars 32 = .ok (.if_icmp .eq 18, 3) := by decide +kernel
theorem dX8_bars_35 : decode cX8_bars 35 = .ok (.iload_n 1, 1) := by decide +kernel
theorem dX8_bars_36 : decode cX8_bars 36 = .ok (.aload_n 0, 1) := by decide +kernel
theorem dX8_bars_37 : decode cX8_bars 37 = .ok (.getfield 42, 3) := by decide +kernel
theorem dX8_bars_40 : decode cX8_bars 40 = .ok (.isub, 1) := by decide +kernel
theorem dX8_bars_41 : decode cX8_bars 41 = .ok (.invokestatic 103, 3) := by decide +kernel
theorem dX8_bars_44 : decode cX8_bars 44 = .ok (.iconst 1, 1) := by decide +kernel
theorem dX8_bars_45 : decode cX8_bars 45 = .ok (.if_icmp .le 5, 3) := by decide +kernel
theorem dX8_bars_48 : decode cX8_bars 48 = .ok (.iconst 1, 1) := by decide +kernel
theorem dX8_bars_49 : decode cX8_bars 49 = .ok (.ireturn, 1) := by decide +kernel
theorem dX8_bars_50 : decode cX8_bars 50 = .ok (.aload_n 0, 1) := by decide +kernel
theorem dX8_bars_51 : decode cX8_bars 51 = .ok (.getfield 7, 3) := by decide +kernel
theorem dX8_bars_54 : decode cX8_bars 54 = .ok (.bipush 8, 2) := by decide +kernel
theorem dX8_bars_56 : decode cX8_bars 56 = .ok (.aload_n 0, 1) := by decide +kernel
theorem dX8_bars_57 : decode cX8_bars 57 = .ok (.getfield 39, 3) := by decide +kernel
theorem dX8_bars_60 : decode cX8_bars 60 = .ok (.imul, 1) := by decide +kernel
theorem dX8_bars_61 : decode cX8_bars 61 = .ok (.bipush 8, 2) := by decide +kernel
theorem dX8_bars_63 : decode cX8_bars 63 = .ok (.iadd, 1) := by decide +kernel
theorem dX8_bars_64 : decode cX8_bars 64 = .ok (.iload_n 1, 1) := by decide +kernel
theorem dX8_bars_65 : decode cX8_bars 65 = .ok (.iadd, 1) := by decide +kernel
theorem dX8_bars_66 : decode cX8_bars 66 = .ok (.iaload, 1) := by decide +kernel
theorem dX8_bars_67 : decode cX8_bars 67 = .ok (.istore_n 2, 1) := by decide +kernel
theorem dX8_bars_68 : decode cX8_bars 68 = .ok (.aload_n 0, 1) := by decide +kernel
theorem dX8_bars_69 : decode cX8_bars 69 = .ok (.getfield 48, 3) := by decide +kernel
theorem dX8_bars_72 : decode cX8_bars 72 = .ok (.aload_n 0, 1) := by decide +kernel
theorem dX8_bars_73 : decode cX8_bars 73 = .ok (.iconst 0, 1) := by decide +kernel
theorem dX8_bars_74 : decode cX8_bars 74 = .ok (.invokevirtual 126, 3) := by decide +kernel
theorem dX8_bars_77 : decode cX8_bars 77 = .ok (.aload_n 0, 1) := by decide +kernel
theorem dX8_bars_78 : decode cX8_bars 78 = .ok (.iconst 1, 1) := by decide +kernel
theorem dX8_bars_79 : decode cX8_bars 79 = .ok (.invokevirtual 126, 3) := by decide +kernel
theorem dX8_bars_82 : decode cX8_bars 82 = .ok (.invokestatic 91, 3) := by decide +kernel
theorem dX8_bars_85 : decode cX8_bars 85 = .ok (.ifCond .ne 5, 3) := by decide +kernel
theorem dX8_bars_88 : decode cX8_bars 88 = .ok (.iconst 2, 1) := by decide +kernel
theorem dX8_bars_89 : decode cX8_bars 89 = .ok (.ireturn, 1) := by decide +kernel
theorem dX8_bars_90 : decode cX8_bars 90 = .ok (.aload_n 0, 1) := by decide +kernel
theorem dX8_bars_91 : decode cX8_bars 91 = .ok (.getfield 39, 3) := by decide +kernel
theorem dX8_bars_94 : decode cX8_bars 94 = .ok (.iconst (-1), 1) := by decide +kernel
theorem dX8_bars_95 : decode cX8_bars 95 = .ok (.if_icmp .eq 35, 3) := by decide +kernel
theorem dX8_bars_98 : decode cX8_bars 98 = .ok (.iload_n 2, 1) := by decide +kernel
theorem dX8_bars_99 : decode cX8_bars 99 = .ok (.aload_n 0, 1) := by decide +kernel
theorem dX8_bars_100 : decode cX8_bars 100 = .ok (.getfield 7, 3) := by decide +kernel
theorem dX8_bars_103 : decode cX8_bars 103 = .ok (.bipush 8, 2) := by decide +kernel
theorem dX8_bars_105 : decode cX8_bars 105 = .ok (.aload_n 0, 1) := by decide +kernel
theorem dX8_bars_106 : decode cX8_bars 106 = .ok (.getfield 39, 3) := by decide +kernel
theorem dX8_bars_109 : decode cX8_bars 109 = .ok (.imul, 1) := by decide +kernel
theorem dX8_bars_110 : decode cX8_bars 110 = .ok (.aload_n 0, 1) := by decide +kernel
theorem dX8_bars_111 : decode cX8_bars 111 = .ok (.getfield 42, 3) := by decide +kernel
theorem dX8_bars_114 : decode cX8_bars 114 = .ok (.iadd, 1) := by decide +kernel
theorem dX8_bars_115 : decode cX8_bars 115 = .ok (.iaload, 1) := by decide +kernel
theorem dX8_bars_116 : decode cX8_bars 116 = .ok (.isub, 1) := by decide +kernel
theorem dX8_bars_117 : decode cX8_bars 117 = .ok (.invokestatic 103, 3) := by decide +kernel
theorem dX8_bars_120 : decode cX8_bars 120 = .ok (.aload_n 0, 1) := by decide +kernel
theorem dX8_bars_121 : decode cX8_bars 121 = .ok (.iconst 2, 1) := by decide +kernel
theorem dX8_bars_122 : decode cX8_bars 122 = .ok (.invokevirtual 126, 3) := by decide +kernel
theorem dX8_bars_125 : decode cX8_bars 125 = .ok (.if_icmp .le 5, 3) := by decide +kernel
theorem dX8_bars_128 : decode cX8_bars 128 = .ok (.iconst 3, 1) := by decide +kernel
theorem dX8_bars_129 : decode cX8_bars 129 = .ok (.ireturn, 1) := by decide +kernel
theorem dX8_bars_130 : decode cX8_bars 130 = .ok (.aload_n 0, 1) := by decide +kernel
theorem dX8_bars_131 : decode cX8_bars 131 = .ok (.getfield 45, 3) := by decide +kernel
theorem dX8_bars_134 : decode cX8_bars 134 = .ok (.iconst 2, 1) := by decide +kernel
theorem dX8_bars_135 : decode cX8_bars 135 = .ok (.iload_n 2, 1) := by decide +kernel
theorem dX8_bars_136 : decode cX8_bars 136 = .ok (.imul, 1) := by decide +kernel
theorem dX8_bars_137 : decode cX8_bars 137 = .ok (.if_icmp .ge 5, 3) := by decide +kernel
theorem dX8_bars_140 : decode cX8_bars 140 = .ok (.iconst 4, 1) := by decide +kernel
theorem dX8_bars_141 : decode cX8_bars 141 = .ok (.ireturn, 1) := by decide +kernel
theorem dX8_bars_142 : decode cX8_bars 142 = .ok (.aload_n 0, 1) := by decide +kernel
theorem dX8_bars_143 : decode cX8_bars 143 = .ok (.getfield 129, 3) := by decide +kernel
theorem dX8_bars_146 : decode cX8_bars 146 = .ok (.aload_n 0, 1) := by decide +kernel
theorem dX8_bars_147 : decode cX8_bars 147 = .ok (.iconst 3, 1) := by decide +kernel
theorem dX8_bars_148 : decode cX8_bars 148 = .ok (.invokevirtual 126, 3) := by decide +kernel
theorem dX8_bars_151 : decode cX8_bars 151 = .ok (.if_icmp .le 7, 3) := by decide +kernel
theorem dX8_bars_154 : decode cX8_bars 154 = .ok (.iconst 5, 1) := by decide +kernel
theorem dX8_bars_155 : decode cX8_bars 155 = .ok (.goto 4, 3) := by decide +kernel
theorem dX8_bars_158 : decode cX8_bars 158 = .ok (.iconst 0, 1) := by decide +kernel
theorem dX8_bars_159 : decode cX8_bars 159 = .ok (.ireturn, 1) := by decide +kernel
set_option maxRecDepth 20000 in
theorem ggX8_dig_X8_isIn : GoodIn wsX8_dig wsX8_isIn := goodIn_r _ [16] (by decide +kernel) (by decide +kernel)
set_option maxRecDepth 20000 in
theorem gX8_dig_X8_isIn : GoodIn wsX8_dig (va_wsS RX8 91 yX8_isIn wsX8_isIn) := goodIn_app (goodIn_of _ (by decide +kernel)) ggX8_dig_X8_isIn
set_option maxRecDepth 20000 in
theorem ggX8_dig_X8_bars : GoodIn wsX8_dig wsX8_bars := goodIn_r _ [20, 21, 1, 22, 2, 23, 24, 25, 26, 4, 27, 3, 5, 13, 14, 15, 16, 28, 29, 30, 31, 8, 32, 33, 34, 35, 36, 37, 38, 39, 40, 41, 42, 43, 44, 45, 52, 53, 54, 55, 56, 57, 58, 59, 60, 61, 62, 63, 64, 65, 66, 67, 68, 69, 70, 71, 72, 73, 74, 75, 76, 77, 78, 79, 80, 81, 82, 83, 84, 85] (by decide +kernel) (by decide +kernel)
set_option maxRecDepth 20000 in
theorem gX8_dig_X8_bars : GoodIn wsX8_dig (wsV RX8 132 RX8 yX8_bars wsX8_bars) := goodIn_app (goodIn_of _ (by decide +kernel)) ggX8_dig_X8_bars
set_option maxRecDepth 20000 in
theorem ggX8_dig_X8_learns : GoodIn wsX8_dig wsX8_learns := goodIn_r _ [49, 50, 51, 52, 53, 54, 55, 56, 57, 58, 59, 60, 61, 62, 63, 64, 65, 66, 67, 68, 69, 70, 71, 72, 73, 74, 75, 76, 77, 78, 79, 80, 81, 82, 83, 84, 85] (by decide +kernel) (by decide +kernel)
set_option maxRecDepth 20000 in
theorem gX8_dig_X8_learns : GoodIn wsX8_dig (wsV RX8 99 RX8 yX8_learns wsX8_learns) := goodIn_app (goodIn_of _ (by decide +kernel)) ggX8_dig_X8_learns
theorem dX8_dig_0 : decode cX8_dig 0 = .ok (.iload_n 2, 1) := by decide +kernel
theorem dX8_dig_1 : decode cX8_dig 1 = .ok (.iconst 0, 1) := by decide +kernel
theorem dX8_dig_2 : decode cX8_dig 2 = .ok (.sipush 1000, 3) := by decide +kernel
theorem dX8_dig_5 : decode cX8_dig 5 = .ok (.invokestatic 91, 3) := by decide +kernel
theorem dX8_dig_8 : decode cX8_dig 8 = .ok (.ifCond .eq 11, 3) := by decide +kernel
theorem dX8_dig_11 : decode cX8_dig 11 = .ok (.aload_n 0, 1) := by decide +kernel
theorem dX8_dig_12 : decode cX8_dig 12 = .ok (.iload_n 1, 1) := by decide +kernel
theorem dX8_dig_13 : decode cX8_dig 13 = .ok (.invokevirtual 132, 3) := by decide +kernel
theorem dX8_dig_16 : decode cX8_dig 16 = .ok (.ifCond .eq 5, 3) := by decide +kernel
theorem dX8_dig_19 : decode cX8_dig 19 = .ok (.iconst (-1), 1) := by decide +kernel
theorem dX8_dig_20 : decode cX8_dig 20 = .ok (.ireturn, 1) := by decide +kernel
theorem dX8_dig_21 : decode cX8_dig 21 = .ok (.aload_n 0, 1) := by decide +kernel
theorem dX8_dig_22 : decode cX8_dig 22 = .ok (.dup, 1) := by decide +kernel
theorem dX8_dig_23 : decode cX8_dig 23 = .ok (.getfield 39, 3) := by decide +kernel
theorem dX8_dig_26 : decode cX8_dig 26 = .ok (.iconst 1, 1) := by decide +kernel
theorem dX8_dig_27 : decode cX8_dig 27 = .ok (.iadd, 1) := by decide +kernel
theorem dX8_dig_28 : decode cX8_dig 28 = .ok (.putfield 39, 3) := by decide +kernel
theorem dX8_dig_31 : decode cX8_dig 31 = .ok (.aload_n 0, 1) := by decide +kernel
theorem dX8_dig_32 : decode cX8_dig 32 = .ok (.iload_n 1, 1) := by decide +kernel
theorem dX8_dig_33 : decode cX8_dig 33 = .ok (.putfield 42, 3) := by decide +kernel
theorem dX8_dig_36 : decode cX8_dig 36 = .ok (.bipush 8, 2) := by decide +kernel
theorem dX8_dig_38 : decode cX8_dig 38 = .ok (.aload_n 0, 1) := by decide +kernel
theorem dX8_dig_39 : decode cX8_dig 39 = .ok (.getfield 39, 3) := by decide +kernel
theorem dX8_dig_42 : decode cX8_dig 42 = .ok (.imul, 1) := by decide +kernel
theorem dX8_dig_43 : decode cX8_dig 43 = .ok (.iload_n 1, 1) := by decide +kernel
theorem dX8_dig_44 : decode cX8_dig 44 = .ok (.iadd, 1) := by decide +kernel
theorem dX8_dig_45 : decode cX8_dig 45 = .ok (.istore_n 3, 1) := by decide +kernel
theorem dX8_dig_46 : decode cX8_dig 46 = .ok (.aload_n 0, 1) := by decide +kernel
theorem dX8_dig_47 : decode cX8_dig 47 = .ok (.dup, 1) := by decide +kernel
theorem dX8_dig_48 : decode cX8_dig 48 = .ok (.getfield 45, 3) := by decide +kernel
theorem dX8_dig_51 : decode cX8_dig 51 = .ok (.iconst 2, 1) := by decide +kernel
theorem dX8_dig_52 : decode cX8_dig 52 = .ok (.aload_n 0, 1) := by decide +kernel
theorem dX8_dig_53 : decode cX8_dig 53 = .ok (.getfield 7, 3) := by decide +kernel
theorem dX8_dig_56 : decode cX8_dig 56 = .ok (.iload_n 3, 1) := by decide +kernel
theorem dX8_dig_57 : decode cX8_dig 57 = .ok (.iaload, 1) := by decide +kernel
theorem dX8_dig_58 : decode cX8_dig 58 = .ok (.imul, 1) := by decide +kernel
theorem dX8_dig_59 : decode cX8_dig 59 = .ok (.isub, 1) := by decide +kernel
theorem dX8_dig_60 : decode cX8_dig 60 = .ok (.putfield 45, 3) := by decide +kernel
theorem dX8_dig_63 : decode cX8_dig 63 = .ok (.aload_n 0, 1) := by decide +kernel
theorem dX8_dig_64 : decode cX8_dig 64 = .ok (.dup, 1) := by decide +kernel
theorem dX8_dig_65 : decode cX8_dig 65 = .ok (.getfield 129, 3) := by decide +kernel
theorem dX8_dig_68 : decode cX8_dig 68 = .ok (.iconst 3, 1) := by decide +kernel
theorem dX8_dig_69 : decode cX8_dig 69 = .ok (.aload_n 0, 1) := by decide +kernel
theorem dX8_dig_70 : decode cX8_dig 70 = .ok (.getfield 7, 3) := by decide +kernel
theorem dX8_dig_73 : decode cX8_dig 73 = .ok (.iload_n 3, 1) := by decide +kernel
theorem dX8_dig_74 : decode cX8_dig 74 = .ok (.iaload, 1) := by decide +kernel
theorem dX8_dig_75 : decode cX8_dig 75 = .ok (.imul, 1) := by decide +kernel
theorem dX8_dig_76 : decode cX8_dig 76 = .ok (.iadd, 1) := by decide +kernel
theorem dX8_dig_77 : decode cX8_dig 77 = .ok (.putfield 129, 3) := by decide +kernel
theorem dX8_dig_80 : decode cX8_dig 80 = .ok (.aload_n 0, 1) := by decide +kernel
theorem dX8_dig_81 : decode cX8_dig 81 = .ok (.getfield 23, 3) := by decide +kernel
theorem dX8_dig_84 : decode cX8_dig 84 = .ok (.iload_n 3, 1) := by decide +kernel
theorem dX8_dig_85 : decode cX8_dig 85 = .ok (.iconst 1, 1) := by decide +kernel
theorem dX8_dig_86 : decode cX8_dig 86 = .ok (.bastore, 1) := by decide +kernel
theorem dX8_dig_87 : decode cX8_dig 87 = .ok (.aload_n 0, 1) := by decide +kernel
theorem dX8_dig_88 : decode cX8_dig 88 = .ok (.getfield 16, 3) := by decide +kernel
theorem dX8_dig_91 : decode cX8_dig 91 = .ok (.iload_n 3, 1) := by decide +kernel
theorem dX8_dig_92 : decode cX8_dig 92 = .ok (.aload_n 0, 1) := by decide +kernel
theorem dX8_dig_93 : decode cX8_dig 93 = .ok (.getfield 135, 3) := by decide +kernel
theorem dX8_dig_96 : decode cX8_dig 96 = .ok (.iastore, 1) := by decide +kernel
theorem dX8_dig_97 : decode cX8_dig 97 = .ok (.aload_n 0, 1) := by decide +kernel
theorem dX8_dig_98 : decode cX8_dig 98 = .ok (.iload_n 3, 1) := by decide +kernel
theorem dX8_dig_99 : decode cX8_dig 99 = .ok (.iload_n 2, 1) := by decide +kernel
theorem dX8_dig_100 : decode cX8_dig 100 = .ok (.invokevirtual 99, 3) := by decide +kernel
theorem dX8_dig_103 : decode cX8_dig 103 = .ok (.aload_n 0, 1) := by decide +kernel
theorem dX8_dig_104 : decode cX8_dig 104 = .ok (.getfield 7, 3) := by decide +kernel
theorem dX8_dig_107 : decode cX8_dig 107 = .ok (.iload_n 3, 1) := by decide +kernel
theorem dX8_dig_108 : decode cX8_dig 108 = .ok (.iaload, 1) := by decide +kernel
theorem dX8_dig_109 : decode cX8_dig 109 = .ok (.iload_n 2, 1) := by decide +kernel
theorem dX8_dig_110 : decode cX8_dig 110 = .ok (.imul, 1) := by decide +kernel
theorem dX8_dig_111 : decode cX8_dig 111 = .ok (.istore 4, 2) := by decide +kernel
theorem dX8_dig_113 : decode cX8_dig 113 = .ok (.iload 4, 2) := by decide +kernel
theorem dX8_dig_115 : decode cX8_dig 115 = .ok (.aload_n 0, 1) := by decide +kernel
theorem dX8_dig_116 : decode cX8_dig 116 = .ok (.getfield 51, 3) := by decide +kernel
theorem dX8_dig_119 : decode cX8_dig 119 = .ok (.aload_n 0, 1) := by decide +kernel
theorem dX8_dig_120 : decode cX8_dig 120 = .ok (.getfield 51, 3) := by decide +kernel
theorem dX8_dig_123 : decode cX8_dig 123 = .ok (.imul, 1) := by decide +kernel
theorem dX8_dig_124 : decode cX8_dig 124 = .ok (.iconst 2, 1) := by decide +kernel
theorem dX8_dig_125 : decode cX8_dig 125 = .ok (.idiv, 1) := by decide +kernel
theorem dX8_dig_126 : decode cX8_dig 126 = .ok (.imul, 1) := by decide +kernel
theorem dX8_dig_127 : decode cX8_dig 127 = .ok (.bipush 100, 2) := by decide +kernel
theorem dX8_dig_129 : decode cX8_dig 129 = .ok (.idiv, 1) := by decide +kernel
theorem dX8_dig_130 : decode cX8_dig 130 = .ok (.istore 5, 2) := by decide +kernel
theorem dX8_dig_132 : decode cX8_dig 132 = .ok (.aload_n 0, 1) := by decide +kernel
theorem dX8_dig_133 : decode cX8_dig 133 = .ok (.dup, 1) := by decide +kernel
theorem dX8_dig_134 : decode cX8_dig 134 = .ok (.getfield 138, 3) := by decide +kernel
theorem dX8_dig_137 : decode cX8_dig 137 = .ok (.iload 5, 2) := by decide +kernel
theorem dX8_dig_139 : decode cX8_dig 139 = .ok (.iadd, 1) := by decide +kernel
theorem dX8_dig_140 : decode cX8_dig 140 = .ok (.putfield 138, 3) := by decide +kernel
theorem dX8_dig_143 : decode cX8_dig 143 = .ok (.aload_n 0, 1) := by decide +kernel
theorem dX8_dig_144 : decode cX8_dig 144 = .ok (.dup, 1) := by decide +kernel
theorem dX8_dig_145 : decode cX8_dig 145 = .ok (.getfield 141, 3) := by decide +kernel
theorem dX8_dig_148 : decode cX8_dig 148 = .ok (.iload 4, 2) := by decide +kernel
theorem dX8_dig_150 : decode cX8_dig 150 = .ok (.iload 5, 2) := by decide +kernel
theorem dX8_dig_152 : decode cX8_dig 152 = .ok (.isub, 1) := by decide +kernel
theorem dX8_dig_153 : decode cX8_dig 153 = .ok (.iadd, 1) := by decide +kernel
theorem dX8_dig_154 : decode cX8_dig 154 = .ok (.putfield 141, 3) := by decide +kernel
theorem dX8_dig_157 : decode cX8_dig 157 = .ok (.aload_n 0, 1) := by decide +kernel
theorem dX8_dig_158 : decode cX8_dig 158 = .ok (.getfield 54, 3) := by decide +kernel
theorem dX8_dig_161 : decode cX8_dig 161 = .ok (.aload_n 0, 1) := by decide +kernel
theorem dX8_dig_162 : decode cX8_dig 162 = .ok (.getfield 135, 3) := by decide +kernel
theorem dX8_dig_165 : decode cX8_dig 165 = .ok (.bipush 30, 2) := by decide +kernel
theorem dX8_dig_167 : decode cX8_dig 167 = .ok (.idiv, 1) := by decide +kernel
theorem dX8_dig_168 : decode cX8_dig 168 = .ok (.dup2, 1) := by decide +kernel
theorem dX8_dig_169 : decode cX8_dig 169 = .ok (.iaload, 1) := by decide +kernel
theorem dX8_dig_170 : decode cX8_dig 170 = .ok (.iload 4, 2) := by decide +kernel
theorem dX8_dig_172 : decode cX8_dig 172 = .ok (.iload 5, 2) := by decide +kernel
theorem dX8_dig_174 : decode cX8_dig 174 = .ok (.isub, 1) := by decide +kernel
theorem dX8_dig_175 : decode cX8_dig 175 = .ok (.iadd, 1) := by decide +kernel
theorem dX8_dig_176 : decode cX8_dig 176 = .ok (.iastore, 1) := by decide +kernel
theorem dX8_dig_177 : decode cX8_dig 177 = .ok (.iload 4, 2) := by decide +kernel
theorem dX8_dig_179 : decode cX8_dig 179 = .ok (.iload 5, 2) := by decide +kernel
theorem dX8_dig_181 : decode cX8_dig 181 = .ok (.isub, 1) := by decide +kernel
theorem dX8_dig_182 : decode cX8_dig 182 = .ok (.ireturn, 1) := by decide +kernel
set_option maxRecDepth 20000 in
theorem ggX8_jig_X8_isIn : GoodIn wsX8_jig wsX8_isIn := goodIn_r _ [5] (by decide +kernel) (by decide +kernel)
set_option maxRecDepth 20000 in
theorem gX8_jig_X8_isIn : GoodIn wsX8_jig (va_wsS RX8 91 yX8_isIn wsX8_isIn) := goodIn_app (goodIn_of _ (by decide +kernel)) ggX8_jig_X8_isIn
theorem dX8_jig_0 : decode cX8_jig 0 = .ok (.iload_n 1, 1) := by decide +kernel
theorem dX8_jig_1 : decode cX8_jig 1 = .ok (.iconst 0, 1) := by decide +kernel
theorem dX8_jig_2 : decode cX8_jig 2 = .ok (.bipush 9, 2) := by decide +kernel
theorem dX8_jig_4 : decode cX8_jig 4 = .ok (.invokestatic 91, 3) := by decide +kernel
theorem dX8_jig_7 : decode cX8_jig 7 = .ok (.ifCond .ne 5, 3) := by decide +kernel
theorem dX8_jig_10 : decode cX8_jig 10 = .ok (.iconst 0, 1) := by decide +kernel
theorem dX8_jig_11 : decode cX8_jig 11 = .ok (.ireturn, 1) := by decide +kernel
theorem dX8_jig_12 : decode cX8_jig 12 = .ok (.aload_n 0, 1) := by decide +kernel
theorem dX8_jig_13 : decode cX8_jig 13 = .ok (.iload_n 1, 1) := by decide +kernel
theorem dX8_jig_14 : decode cX8_jig 14 = .ok (.putfield 51, 3) := by decide +kernel
theorem dX8_jig_17 : decode cX8_jig 17 = .ok (.iconst 1, 1) := by decide +kernel
theorem dX8_jig_18 : decode cX8_jig 18 = .ok (.ireturn, 1) := by decide +kernel
set_option maxRecDepth 20000 in
theorem ggX8_let_X8_isIn : GoodIn wsX8_let wsX8_isIn := goodIn_r _ [7] (by decide +kernel) (by decide +kernel)
set_option maxRecDepth 20000 in
theorem gX8_let_X8_isIn : GoodIn wsX8_let (va_wsS RX8 91 yX8_isIn wsX8_isIn) := goodIn_app (goodIn_of _ (by decide +kernel)) ggX8_let_X8_isIn
set_option maxRecDepth 20000 in
theorem ggX8_let_X8_now : GoodIn wsX8_let wsX8_now := goodIn_r _ [11, 12, 13, 14, 15, 6, 16, 17, 18, 19, 20, 21, 22, 23, 24, 25, 26, 27, 28, 29, 30, 31, 32, 33, 34, 35, 36, 37, 38, 39, 40, 41, 42, 43, 44, 45, 46, 47, 48, 49, 50, 51, 52, 53, 54, 55, 56, 57, 58, 59, 60] (by decide +kernel) (by decide +kernel)
set_option maxRecDepth 20000 in
theorem gX8_let_X8_now : GoodIn wsX8_let (wsV RX8 126 RX8 yX8_now wsX8_now) := goodIn_app (goodIn_of _ (by decide +kernel)) ggX8_let_X8_now
theorem dX8_let_0 : decode cX8_let 0 = .ok (.iload_n 1, 1) := by decide +kernel
theorem dX8_let_1 : decode cX8_let 1 = .ok (.iconst 1, 1) := by decide +kernel
theorem dX8_let_2 : decode cX8_let 2 = .ok (.aload_n 0, 1) := by decide +kernel
theorem dX8_let_3 : decode cX8_let 3 = .ok (.getfield 48, 3) := by decide +kernel
theorem dX8_let_6 : decode cX8_let 6 = .ok (.invokestatic 91, 3) := by decide +kernel
theorem dX8_let_9 : decode cX8_let 9 = .ok (.ifCond .ne 5, 3) := by decide +kernel
theorem dX8_let_12 : decode cX8_let 12 = .ok (.iconst (-1), 1) := by decide +kernel
theorem dX8_let_13 : decode cX8_let 13 = .ok (.ireturn, 1) := by decide +kernel
theorem dX8_let_14 : decode cX8_let 14 = .ok (.aload_n 0, 1) := by decide +kernel
theorem dX8_let_15 : decode cX8_let 15 = .ok (.dup, 1) := by decide +kernel
theorem dX8_let_16 : decode cX8_let 16 = .ok (.getfield 48, 3) := by decide +kernel
theorem dX8_let_19 : decode cX8_let 19 = .ok (.iload_n 1, 1) := by decide +kernel
theorem dX8_let_20 : decode cX8_let 20 = .ok (.isub, 1) := by decide +kernel
theorem dX8_let_21 : decode cX8_let 21 = .ok (.putfield 48, 3) := by decide +kernel
theorem dX8_let_24 : decode cX8_let 24 = .ok (.aload_n 0, 1) := by decide +kernel
theorem dX8_let_25 : decode cX8_let 25 = .ok (.getfield 129, 3) := by decide +kernel
theorem dX8_let_28 : decode cX8_let 28 = .ok (.aload_n 0, 1) := by decide +kernel
theorem dX8_let_29 : decode cX8_let 29 = .ok (.iconst 3, 1) := by decide +kernel
theorem dX8_let_30 : decode cX8_let 30 = .ok (.invokevirtual 126, 3) := by decide +kernel
theorem dX8_let_33 : decode cX8_let 33 = .ok (.if_icmp .le 18, 3) := by decide +kernel
theorem dX8_let_36 : decode cX8_let 36 = .ok (.aload_n 0, 1) := by decide +kernel
theorem dX8_let_37 : decode cX8_let 37 = .ok (.dup, 1) := by decide +kernel
theorem dX8_let_38 : decode cX8_let 38 = .ok (.getfield 144, 3) := by decide +kernel
theorem dX8_let_41 : decode cX8_let 41 = .ok (.aload_n 0, 1) := by decide +kernel
theorem dX8_let_42 : decode cX8_let 42 = .ok (.bipush 6, 2) := by decide +kernel
theorem dX8_let_44 : decode cX8_let 44 = .ok (.invokevirtual 126, 3) := by decide +kernel
theorem dX8_let_47 : decode cX8_let 47 = .ok (.iadd, 1) := by decide +kernel
theorem dX8_let_48 : decode cX8_let 48 = .ok (.putfield 144, 3) := by decide +kernel
theorem dX8_let_51 : decode cX8_let 51 = .ok (.aload_n 0, 1) := by decide +kernel
theorem dX8_let_52 : decode cX8_let 52 = .ok (.getfield 48, 3) := by decide +kernel
theorem dX8_let_55 : decode cX8_let 55 = .ok (.ireturn, 1) := by decide +kernel
set_option maxRecDepth 20000 in
theorem ggX8_day_X8_isIn : GoodIn wsX8_day wsX8_isIn := goodIn_r _ [20] (by decide +kernel) (by decide +kernel)
set_option maxRecDepth 20000 in
theorem gX8_day_X8_isIn : GoodIn wsX8_day (va_wsS RX8 91 yX8_isIn wsX8_isIn) := goodIn_app (goodIn_of _ (by decide +kernel)) ggX8_day_X8_isIn
set_option maxRecDepth 20000 in
theorem ggX8_day_X8_now : GoodIn wsX8_day wsX8_now := goodIn_r _ [24, 1, 25, 26, 27, 19, 28, 29, 30, 31, 32, 33, 34, 35, 36, 37, 38, 39, 40, 41, 42, 43, 44, 45, 46, 47, 48, 49, 50, 51, 52, 53, 54, 55, 56, 57, 58, 59, 60, 61, 62, 63, 64, 65, 66, 67, 68, 69, 70, 71, 72] (by decide +kernel) (by decide +kernel)
set_option maxRecDepth 20000 in
theorem gX8_day_X8_now : GoodIn wsX8_day (wsV RX8 126 RX8 yX8_now wsX8_now) := goodIn_app (goodIn_of _ (by decide +kernel)) ggX8_day_X8_now
theorem dX8_day_0 : decode cX8_day 0 = .ok (.iload_n 1, 1) := by decide +kernel
theorem dX8_day_1 : decode cX8_day 1 = .ok (.iconst 0, 1) := by decide +kernel
theorem dX8_day_2 : decode cX8_day 2 = .ok (.sipush 200, 3) := by decide +kernel
theorem dX8_day_5 : decode cX8_day 5 = .ok (.invokestatic 91, 3) := by decide +kernel
theorem dX8_day_8 : decode cX8_day 8 = .ok (.ifCond .eq 13, 3) := by decide +kernel
theorem dX8_day_11 : decode cX8_day 11 = .ok (.aload_n 0, 1) := by decide +kernel
theorem dX8_day_12 : decode cX8_day 12 = .ok (.getfield 135, 3) := by decide +kernel
theorem dX8_day_15 : decode cX8_day 15 = .ok (.sipush 600, 3) := by decide +kernel
theorem dX8_day_18 : decode cX8_day 18 = .ok (.if_icmp .ne 5, 3) := by decide +kernel
theorem dX8_day_21 : decode cX8_day 21 = .ok (.iconst (-1), 1) := by decide +kernel
theorem dX8_day_22 : decode cX8_day 22 = .ok (.ireturn, 1) := by decide +kernel
theorem dX8_day_23 : decode cX8_day 23 = .ok (.aload_n 0, 1) := by decide +kernel
theorem dX8_day_24 : decode cX8_day 24 = .ok (.iconst 0, 1) := by decide +kernel
theorem dX8_day_25 : decode cX8_day 25 = .ok (.sipush 1000, 3) := by decide +kernel
theorem dX8_day_28 : decode cX8_day 28 = .ok (.aload_n 0, 1) := by decide +kernel
theorem dX8_day_29 : decode cX8_day 29 = .ok (.getfield 48, 3) := by decide +kernel
theorem dX8_day_32 : decode cX8_day 32 = .ok (.iload_n 1, 1) := by decide +kernel
theorem dX8_day_33 : decode cX8_day 33 = .ok (.iadd, 1) := by decide +kernel
theorem dX8_day_34 : decode cX8_day 34 = .ok (.iconst 3, 1) := by decide +kernel
theorem dX8_day_35 : decode cX8_day 35 = .ok (.isub, 1) := by decide +kernel
theorem dX8_day_36 : decode cX8_day 36 = .ok (.invokestatic 76, 3) := by decide +kernel
theorem dX8_day_39 : decode cX8_day 39 = .ok (.invokestatic 82, 3) := by decide +kernel
theorem dX8_day_42 : decode cX8_day 42 = .ok (.putfield 48, 3) := by decide +kernel
theorem dX8_day_45 : decode cX8_day 45 = .ok (.aload_n 0, 1) := by decide +kernel
theorem dX8_day_46 : decode cX8_day 46 = .ok (.iconst 0, 1) := by decide +kernel
theorem dX8_day_47 : decode cX8_day 47 = .ok (.aload_n 0, 1) := by decide +kernel
theorem dX8_day_48 : decode cX8_day 48 = .ok (.getfield 129, 3) := by decide +kernel
theorem dX8_day_51 : decode cX8_day 51 = .ok (.bipush 10, 2) := by decide +kernel
theorem dX8_day_53 : decode cX8_day 53 = .ok (.isub, 1) := by decide +kernel
theorem dX8_day_54 : decode cX8_day 54 = .ok (.invokestatic 82, 3) := by decide +kernel
theorem dX8_day_57 : decode cX8_day 57 = .ok (.putfield 129, 3) := by decide +kernel
theorem dX8_day_60 : decode cX8_day 60 = .ok (.iconst 0, 1) := by decide +kernel
theorem dX8_day_61 : decode cX8_day 61 = .ok (.istore_n 2, 1) := by decide +kernel
theorem dX8_day_62 : decode cX8_day 62 = .ok (.iload_n 2, 1) := by decide +kernel
theorem dX8_day_63 : decode cX8_day 63 = .ok (.sipush 160, 3) := by decide +kernel
theorem dX8_day_66 : decode cX8_day 66 = .ok (.if_icmp .ge 80, 3) := by decide +kernel
theorem dX8_day_69 : decode cX8_day 69 = .ok (.aload_n 0, 1) := by decide +kernel
theorem dX8_day_70 : decode cX8_day 70 = .ok (.getfield 23, 3) := by decide +kernel
theorem dX8_day_73 : decode cX8_day 73 = .ok (.iload_n 2, 1) := by decide +kernel
theorem dX8_day_74 : decode cX8_day 74 = .ok (.baload, 1) := by decide +kernel
theorem dX8_day_75 : decode cX8_day 75 = .ok (.ifCond .eq 65, 3) := by decide +kernel
theorem dX8_day_78 : decode cX8_day 78 = .ok (.aload_n 0, 1) := by decide +kernel
theorem dX8_day_79 : decode cX8_day 79 = .ok (.getfield 26, 3) := by decide +kernel
theorem dX8_day_82 : decode cX8_day 82 = .ok (.iload_n 2, 1) := by decide +kernel
theorem dX8_day_83 : decode cX8_day 83 = .ok (.baload, 1) := by decide +kernel
theorem dX8_day_84 : decode cX8_day 84 = .ok (.ifCond .ne 56, 3) := by decide +kernel
theorem dX8_day_87 : decode cX8_day 87 = .ok (.aload_n 0, 1) := by decide +kernel
theorem dX8_day_88 : decode cX8_day 88 = .ok (.getfield 29, 3) := by decide +kernel
theorem dX8_day_91 : decode cX8_day 91 = .ok (.iload_n 2, 1) := by decide +kernel
theorem dX8_day_92 : decode cX8_day 92 = .ok (.baload, 1) := by decide +kernel
theorem dX8_day_93 : decode cX8_day 93 = .ok (.ifCond .ne 47, 3) := by decide +kernel
theorem dX8_day_96 : decode cX8_day 96 = .ok (.aload_n 0, 1) := by decide +kernel
theorem dX8_day_97 : decode cX8_day 97 = .ok (.getfield 135, 3) := by decide +kernel
theorem dX8_day_100 : decode cX8_day 100 = .ok (.aload_n 0, 1) := by decide +kernel
theorem dX8_day_101 : decode cX8_day 101 = .ok (.getfield 16, 3) := by decide +kernel
theorem dX8_day_104 : decode cX8_day 104 = .ok (.iload_n 2, 1) := by decide +kernel
theorem dX8_day_105 : decode cX8_day 105 = .ok (.iaload, 1) := by decide +kernel
theorem dX8_day_106 : decode cX8_day 106 = .ok (.isub, 1) := by decide +kernel
theorem dX8_day_107 : decode cX8_day 107 = .ok (.aload_n 0, 1) := by decide +kernel
theorem dX8_day_108 : decode cX8_day 108 = .ok (.iconst 4, 1) := by decide +kernel
theorem dX8_day_109 : decode cX8_day 109 = .ok (.invokevirtual 126, 3) := by decide +kernel
theorem dX8_day_112 : decode cX8_day 112 = .ok (.if_icmp .gt 6, 3) := by decide +kernel
theorem dX8_day_115 : decode cX8_day 115 = .ok (.goto 25, 3) := by decide +kernel
theorem dX8_day_118 : decode cX8_day 118 = .ok (.aload_n 0, 1) := by decide +kernel
theorem dX8_day_119 : decode cX8_day 119 = .ok (.getfield 29, 3) := by decide +kernel
theorem dX8_day_122 : decode cX8_day 122 = .ok (.iload_n 2, 1) := by decide +kernel
theorem dX8_day_123 : decode cX8_day 123 = .ok (.iconst 1, 1) := by decide +kernel
theorem dX8_day_124 : decode cX8_day 124 = .ok (.bastore, 1) := by decide +kernel
theorem dX8_day_125 : decode cX8_day 125 = .ok (.aload_n 0, 1) := by decide +kernel
theorem dX8_day_126 : decode cX8_day 126 = .ok (.dup, 1) := by decide +kernel
theorem dX8_day_127 : decode cX8_day 127 = .ok (.getfield 144, 3) := by decide +kernel
theorem dX8_day_130 : decode cX8_day 130 = .ok (.aload_n 0, 1) := by decide +kernel
theorem dX8_day_131 : decode cX8_day 131 = .ok (.bipush 6, 2) := by decide +kernel
theorem dX8_day_133 : decode cX8_day 133 = .ok (.invokevirtual 126, 3) := by decide +kernel
theorem dX8_day_136 : decode cX8_day 136 = .ok (.iadd, 1) := by decide +kernel
theorem dX8_day_137 : decode cX8_day 137 = .ok (.putfield 144, 3) := by decide +kernel
theorem dX8_day_140 : decode cX8_day 140 = .ok (.iinc 2 1, 3) := by decide +kernel
theorem dX8_day_143 : decode cX8_day 143 = .ok (.goto (-81), 3) := by decide +kernel
theorem dX8_day_146 : decode cX8_day 146 = .ok (.aload_n 0, 1) := by decide +kernel
theorem dX8_day_147 : decode cX8_day 147 = .ok (.bipush 20, 2) := by decide +kernel
theorem dX8_day_149 : decode cX8_day 149 = .ok (.putfield 45, 3) := by decide +kernel
theorem dX8_day_152 : decode cX8_day 152 = .ok (.aload_n 0, 1) := by decide +kernel
theorem dX8_day_153 : decode cX8_day 153 = .ok (.dup, 1) := by decide +kernel
theorem dX8_day_154 : decode cX8_day 154 = .ok (.getfield 135, 3) := by decide +kernel
theorem dX8_day_157 : decode cX8_day 157 = .ok (.iconst 1, 1) := by decide +kernel
theorem dX8_day_158 : decode cX8_day 158 = .ok (.iadd, 1) := by decide +kernel
theorem dX8_day_159 : decode cX8_day 159 = .ok (.putfield 135, 3) := by decide +kernel
theorem dX8_day_162 : decode cX8_day 162 = .ok (.aload_n 0, 1) := by decide +kernel
theorem dX8_day_163 : decode cX8_day 163 = .ok (.getfield 135, 3) := by decide +kernel
theorem dX8_day_166 : decode cX8_day 166 = .ok (.ireturn, 1) := by decide +kernel
set_option maxRecDepth 20000 in
theorem ggX8_back_X8_isSquare : GoodIn wsX8_back wsX8_isSquare := goodIn_r _ [8, 9, 10, 11, 12, 7, 13, 14, 15, 16, 17, 18, 19, 20, 21, 22, 23, 24, 25, 26, 27, 28, 29, 30, 31, 32, 33, 34, 35, 36, 37, 38, 39, 40, 41, 42, 43, 44, 45, 46, 47] (by decide +kernel) (by decide +kernel)
set_option maxRecDepth 20000 in
theorem gX8_back_X8_isSquare : GoodIn wsX8_back (wsV RX8 95 RX8 yX8_isSquare wsX8_isSquare) := goodIn_app (goodIn_of _ (by decide +kernel)) ggX8_back_X8_isSquare
theorem dX8_back_0 : decode cX8_back 0 = .ok (.aload_n 0, 1) := by decide +kernel
theorem dX8_back_1 : decode cX8_back 1 = .ok (.iload_n 1, 1) := by decide +kernel
theorem dX8_back_2 : decode cX8_back 2 = .ok (.iload_n 2, 1) := by decide +kernel
theorem dX8_back_3 : decode cX8_back 3 = .ok (.invokevirtual 95, 3) := by decide +kernel
theorem dX8_back_6 : decode cX8_back 6 = .ok (.ifCond .eq 41, 3) := by decide +kernel
theorem dX8_back_9 : decode cX8_back 9 = .ok (.aload_n 0, 1) := by decide +kernel
theorem dX8_back_10 : decode cX8_back 10 = .ok (.getfield 23, 3) := by decide +kernel
theorem dX8_back_13 : decode cX8_back 13 = .ok (.bipush 8, 2) := by decide +kernel
theorem dX8_back_15 : decode cX8_back 15 = .ok (.iload_n 1, 1) := by decide +kernel
theorem dX8_back_16 : decode cX8_back 16 = .ok (.imul, 1) := by decide +kernel
theorem dX8_back_17 : decode cX8_back 17 = .ok (.iload_n 2, 1) := by decide +kernel
theorem dX8_back_18 : decode cX8_back 18 = .ok (.iadd, 1) := by decide +kernel
theorem dX8_back_19 : decode cX8_back 19 = .ok (.baload, 1) := by decide +kernel
theorem dX8_back_20 : decode cX8_back 20 = .ok (.ifCond .eq 27, 3) := by decide +kernel
theorem dX8_back_23 : decode cX8_back 23 = .ok (.aload_n 0, 1) := by decide +kernel
end
section
theorem dX8_back_24 : decode cX8_back 24 = .ok (.getfield 26, 3) := by decide +kernel
theorem dX8_back_27 : decode cX8_back 27 = .ok (.bipush 8, 2) := by decide +kernel
theorem dX8_back_29 : decode cX8_back 29 = .ok (.iload_n 1, 1) := by decide +kernel
theorem dX8_back_30 : decode cX8_back 30 = .ok (.imul, 1) := by decide +kernel
theorem dX8_back_31 : decode cX8_back 31 = .ok (.iload_n 2, 1) := by decide +kernel
theorem dX8_back_32 : decode cX8_back 32 = .ok (.iadd, 1) := by decide +kernel
theorem dX8_back_33 : decode cX8_back 33 = .ok (.baload, 1) := by decide +kernel
theorem dX8_back_34 : decode cX8_back 34 = .ok (.ifCond .ne 13, 3) := by decide +kernel
theorem dX8_back_37 : decode cX8_back 37 = .ok (.iload_n 1, 1) := by decide +kernel
theorem dX8_back_38 : decode cX8_back 38 = .ok (.aload_n 0, 1) := by decide +kernel
theorem dX8_back_39 : decode cX8_back 39 = .ok (.getfield 39, 3) := by decide +kernel
theorem dX8_back_42 : decode cX8_back 42 = .ok (.iconst 3, 1) := by decide +kernel
theorem dX8_back_43 : decode cX8_back 43 = .ok (.isub, 1) := by decide +kernel
theorem dX8_back_44 : decode cX8_back 44 = .ok (.if_icmp .le 5, 3) := by decide +kernel
theorem dX8_back_47 : decode cX8_back 47 = .ok (.iconst 0, 1) := by decide +kernel
theorem dX8_back_48 : decode cX8_back 48 = .ok (.ireturn, 1) := by decide +kernel
theorem dX8_back_49 : decode cX8_back 49 = .ok (.aload_n 0, 1) := by decide +kernel
theorem dX8_back_50 : decode cX8_back 50 = .ok (.getfield 26, 3) := by decide +kernel
theorem dX8_back_53 : decode cX8_back 53 = .ok (.bipush 8, 2) := by decide +kernel
theorem dX8_back_55 : decode cX8_back 55 = .ok (.iload_n 1, 1) := by decide +kernel
theorem dX8_back_56 : decode cX8_back 56 = .ok (.imul, 1) := by decide +kernel
theorem dX8_back_57 : decode cX8_back 57 = .ok (.iload_n 2, 1) := by decide +kernel
theorem dX8_back_58 : decode cX8_back 58 = .ok (.iadd, 1) := by decide +kernel
theorem dX8_back_59 : decode cX8_back 59 = .ok (.iconst 1, 1) := by decide +kernel
theorem dX8_back_60 : decode cX8_back 60 = .ok (.bastore, 1) := by decide +kernel
theorem dX8_back_61 : decode cX8_back 61 = .ok (.iconst 1, 1) := by decide +kernel
theorem dX8_back_62 : decode cX8_back 62 = .ok (.ireturn, 1) := by decide +kernel
set_option maxRecDepth 20000 in
theorem ggX8_feed_X8_four : GoodIn wsX8_feed wsX8_four := goodIn_r _ [6, 7, 1, 8, 9, 10, 11, 12, 13, 14, 15, 16, 17, 18, 19, 20, 21, 22, 23, 24, 25, 26, 27, 28, 29, 30, 31, 32, 33, 34, 35, 36, 37, 38, 39, 40, 41] (by decide +kernel) (by decide +kernel)
set_option maxRecDepth 20000 in
theorem gX8_feed_X8_four : GoodIn wsX8_feed (wsV RX8 150 RX8 yX8_four wsX8_four) := goodIn_app (goodIn_of _ (by decide +kernel)) ggX8_feed_X8_four
theorem dX8_feed_0 : decode cX8_feed 0 = .ok (.aload_n 0, 1) := by decide +kernel
theorem dX8_feed_1 : decode cX8_feed 1 = .ok (.getfield 147, 3) := by decide +kernel
theorem dX8_feed_4 : decode cX8_feed 4 = .ok (.bipush 20, 2) := by decide +kernel
theorem dX8_feed_6 : decode cX8_feed 6 = .ok (.iadd, 1) := by decide +kernel
theorem dX8_feed_7 : decode cX8_feed 7 = .ok (.sipush 300, 3) := by decide +kernel
theorem dX8_feed_10 : decode cX8_feed 10 = .ok (.if_icmp .le 5, 3) := by decide +kernel
theorem dX8_feed_13 : decode cX8_feed 13 = .ok (.iconst (-1), 1) := by decide +kernel
theorem dX8_feed_14 : decode cX8_feed 14 = .ok (.ireturn, 1) := by decide +kernel
theorem dX8_feed_15 : decode cX8_feed 15 = .ok (.aload_n 0, 1) := by decide +kernel
theorem dX8_feed_16 : decode cX8_feed 16 = .ok (.iload_n 1, 1) := by decide +kernel
theorem dX8_feed_17 : decode cX8_feed 17 = .ok (.invokevirtual 150, 3) := by decide +kernel
theorem dX8_feed_20 : decode cX8_feed 20 = .ok (.aload_n 0, 1) := by decide +kernel
theorem dX8_feed_21 : decode cX8_feed 21 = .ok (.iload_n 2, 1) := by decide +kernel
theorem dX8_feed_22 : decode cX8_feed 22 = .ok (.invokevirtual 150, 3) := by decide +kernel
theorem dX8_feed_25 : decode cX8_feed 25 = .ok (.aload_n 0, 1) := by decide +kernel
theorem dX8_feed_26 : decode cX8_feed 26 = .ok (.iload_n 3, 1) := by decide +kernel
theorem dX8_feed_27 : decode cX8_feed 27 = .ok (.invokevirtual 150, 3) := by decide +kernel
theorem dX8_feed_30 : decode cX8_feed 30 = .ok (.aload_n 0, 1) := by decide +kernel
theorem dX8_feed_31 : decode cX8_feed 31 = .ok (.iload 4, 2) := by decide +kernel
theorem dX8_feed_33 : decode cX8_feed 33 = .ok (.invokevirtual 150, 3) := by decide +kernel
theorem dX8_feed_36 : decode cX8_feed 36 = .ok (.aload_n 0, 1) := by decide +kernel
theorem dX8_feed_37 : decode cX8_feed 37 = .ok (.iload 5, 2) := by decide +kernel
theorem dX8_feed_39 : decode cX8_feed 39 = .ok (.invokevirtual 150, 3) := by decide +kernel
theorem dX8_feed_42 : decode cX8_feed 42 = .ok (.aload_n 0, 1) := by decide +kernel
theorem dX8_feed_43 : decode cX8_feed 43 = .ok (.getfield 147, 3) := by decide +kernel
theorem dX8_feed_46 : decode cX8_feed 46 = .ok (.ireturn, 1) := by decide +kernel
theorem dX8_four_0 : decode cX8_four 0 = .ok (.bipush 24, 2) := by decide +kernel
theorem dX8_four_2 : decode cX8_four 2 = .ok (.istore_n 2, 1) := by decide +kernel
theorem dX8_four_3 : decode cX8_four 3 = .ok (.iload_n 2, 1) := by decide +kernel
theorem dX8_four_4 : decode cX8_four 4 = .ok (.ifCond .lt 32, 3) := by decide +kernel
theorem dX8_four_7 : decode cX8_four 7 = .ok (.aload_n 0, 1) := by decide +kernel
theorem dX8_four_8 : decode cX8_four 8 = .ok (.getfield 60, 3) := by decide +kernel
theorem dX8_four_11 : decode cX8_four 11 = .ok (.aload_n 0, 1) := by decide +kernel
theorem dX8_four_12 : decode cX8_four 12 = .ok (.getfield 147, 3) := by decide +kernel
theorem dX8_four_15 : decode cX8_four 15 = .ok (.iload_n 1, 1) := by decide +kernel
theorem dX8_four_16 : decode cX8_four 16 = .ok (.iload_n 2, 1) := by decide +kernel
theorem dX8_four_17 : decode cX8_four 17 = .ok (.ishr, 1) := by decide +kernel
theorem dX8_four_18 : decode cX8_four 18 = .ok (.i2b, 1) := by decide +kernel
theorem dX8_four_19 : decode cX8_four 19 = .ok (.bastore, 1) := by decide +kernel
theorem dX8_four_20 : decode cX8_four 20 = .ok (.aload_n 0, 1) := by decide +kernel
theorem dX8_four_21 : decode cX8_four 21 = .ok (.dup, 1) := by decide +kernel
theorem dX8_four_22 : decode cX8_four 22 = .ok (.getfield 147, 3) := by decide +kernel
theorem dX8_four_25 : decode cX8_four 25 = .ok (.iconst 1, 1) := by decide +kernel
theorem dX8_four_26 : decode cX8_four 26 = .ok (.iadd, 1) := by decide +kernel
theorem dX8_four_27 : decode cX8_four 27 = .ok (.putfield 147, 3) := by decide +kernel
theorem dX8_four_30 : decode cX8_four 30 = .ok (.iinc 2 (-8), 3) := by decide +kernel
theorem dX8_four_33 : decode cX8_four 33 = .ok (.goto (-30), 3) := by decide +kernel
theorem dX8_four_36 : decode cX8_four 36 = .ok (.return_, 1) := by decide +kernel
theorem dX8_blanks_0 : decode cX8_blanks 0 = .ok (.aload_n 0, 1) := by decide +kernel
theorem dX8_blanks_1 : decode cX8_blanks 1 = .ok (.getfield 154, 3) := by decide +kernel
theorem dX8_blanks_4 : decode cX8_blanks 4 = .ok (.aload_n 0, 1) := by decide +kernel
theorem dX8_blanks_5 : decode cX8_blanks 5 = .ok (.getfield 157, 3) := by decide +kernel
theorem dX8_blanks_8 : decode cX8_blanks 8 = .ok (.if_icmp .ge 44, 3) := by decide +kernel
theorem dX8_blanks_11 : decode cX8_blanks 11 = .ok (.aload_n 0, 1) := by decide +kernel
theorem dX8_blanks_12 : decode cX8_blanks 12 = .ok (.getfield 64, 3) := by decide +kernel
theorem dX8_blanks_15 : decode cX8_blanks 15 = .ok (.aload_n 0, 1) := by decide +kernel
theorem dX8_blanks_16 : decode cX8_blanks 16 = .ok (.getfield 154, 3) := by decide +kernel
theorem dX8_blanks_19 : decode cX8_blanks 19 = .ok (.baload, 1) := by decide +kernel
theorem dX8_blanks_20 : decode cX8_blanks 20 = .ok (.bipush 32, 2) := by decide +kernel
theorem dX8_blanks_22 : decode cX8_blanks 22 = .ok (.if_icmp .eq 17, 3) := by decide +kernel
theorem dX8_blanks_25 : decode cX8_blanks 25 = .ok (.aload_n 0, 1) := by decide +kernel
theorem dX8_blanks_26 : decode cX8_blanks 26 = .ok (.getfield 64, 3) := by decide +kernel
theorem dX8_blanks_29 : decode cX8_blanks 29 = .ok (.aload_n 0, 1) := by decide +kernel
theorem dX8_blanks_30 : decode cX8_blanks 30 = .ok (.getfield 154, 3) := by decide +kernel
theorem dX8_blanks_33 : decode cX8_blanks 33 = .ok (.baload, 1) := by decide +kernel
theorem dX8_blanks_34 : decode cX8_blanks 34 = .ok (.bipush 10, 2) := by decide +kernel
theorem dX8_blanks_36 : decode cX8_blanks 36 = .ok (.if_icmp .ne 16, 3) := by decide +kernel
theorem dX8_blanks_39 : decode cX8_blanks 39 = .ok (.aload_n 0, 1) := by decide +kernel
theorem dX8_blanks_40 : decode cX8_blanks 40 = .ok (.dup, 1) := by decide +kernel
theorem dX8_blanks_41 : decode cX8_blanks 41 = .ok (.getfield 154, 3) := by decide +kernel
theorem dX8_blanks_44 : decode cX8_blanks 44 = .ok (.iconst 1, 1) := by decide +kernel
theorem dX8_blanks_45 : decode cX8_blanks 45 = .ok (.iadd, 1) := by decide +kernel
theorem dX8_blanks_46 : decode cX8_blanks 46 = .ok (.putfield 154, 3) := by decide +kernel
theorem dX8_blanks_49 : decode cX8_blanks 49 = .ok (.goto (-49), 3) := by decide +kernel
theorem dX8_blanks_52 : decode cX8_blanks 52 = .ok (.return_, 1) := by decide +kernel
set_option maxRecDepth 20000 in
theorem ggX8_word_X8_blanks : GoodIn wsX8_word wsX8_blanks := goodIn_r _ [9, 1, 3, 4, 10, 11, 12, 13, 14, 15, 16, 17, 18, 19, 20, 21, 22, 23, 24, 25, 26, 27, 28, 29, 30, 31, 32, 33, 34, 35, 36, 37, 38, 39, 40, 41, 42, 43] (by decide +kernel) (by decide +kernel)
set_option maxRecDepth 20000 in
theorem gX8_word_X8_blanks : GoodIn wsX8_word (wsV RX8 160 RX8 yX8_blanks wsX8_blanks) := goodIn_app (goodIn_of _ (by decide +kernel)) ggX8_word_X8_blanks
theorem dX8_word_0 : decode cX8_word 0 = .ok (.aload_n 0, 1) := by decide +kernel
theorem dX8_word_1 : decode cX8_word 1 = .ok (.invokevirtual 160, 3) := by decide +kernel
theorem dX8_word_4 : decode cX8_word 4 = .ok (.aload_n 0, 1) := by decide +kernel
theorem dX8_word_5 : decode cX8_word 5 = .ok (.aload_n 0, 1) := by decide +kernel
theorem dX8_word_6 : decode cX8_word 6 = .ok (.getfield 154, 3) := by decide +kernel
theorem dX8_word_9 : decode cX8_word 9 = .ok (.putfield 163, 3) := by decide +kernel
theorem dX8_word_12 : decode cX8_word 12 = .ok (.lconst 0, 1) := by decide +kernel
theorem dX8_word_13 : decode cX8_word 13 = .ok (.lstore_n 1, 1) := by decide +kernel
theorem dX8_word_14 : decode cX8_word 14 = .ok (.aload_n 0, 1) := by decide +kernel
theorem dX8_word_15 : decode cX8_word 15 = .ok (.getfield 163, 3) := by decide +kernel
theorem dX8_word_18 : decode cX8_word 18 = .ok (.aload_n 0, 1) := by decide +kernel
theorem dX8_word_19 : decode cX8_word 19 = .ok (.getfield 157, 3) := by decide +kernel
theorem dX8_word_22 : decode cX8_word 22 = .ok (.if_icmp .ge 78, 3) := by decide +kernel
theorem dX8_word_25 : decode cX8_word 25 = .ok (.aload_n 0, 1) := by decide +kernel
theorem dX8_word_26 : decode cX8_word 26 = .ok (.getfield 64, 3) := by decide +kernel
theorem dX8_word_29 : decode cX8_word 29 = .ok (.aload_n 0, 1) := by decide +kernel
theorem dX8_word_30 : decode cX8_word 30 = .ok (.getfield 163, 3) := by decide +kernel
theorem dX8_word_33 : decode cX8_word 33 = .ok (.baload, 1) := by decide +kernel
theorem dX8_word_34 : decode cX8_word 34 = .ok (.bipush 97, 2) := by decide +kernel
theorem dX8_word_36 : decode cX8_word 36 = .ok (.if_icmp .lt 64, 3) := by decide +kernel
theorem dX8_word_39 : decode cX8_word 39 = .ok (.aload_n 0, 1) := by decide +kernel
theorem dX8_word_40 : decode cX8_word 40 = .ok (.getfield 64, 3) := by decide +kernel
theorem dX8_word_43 : decode cX8_word 43 = .ok (.aload_n 0, 1) := by decide +kernel
theorem dX8_word_44 : decode cX8_word 44 = .ok (.getfield 163, 3) := by decide +kernel
theorem dX8_word_47 : decode cX8_word 47 = .ok (.baload, 1) := by decide +kernel
theorem dX8_word_48 : decode cX8_word 48 = .ok (.bipush 122, 2) := by decide +kernel
theorem dX8_word_50 : decode cX8_word 50 = .ok (.if_icmp .gt 50, 3) := by decide +kernel
theorem dX8_word_53 : decode cX8_word 53 = .ok (.aload_n 0, 1) := by decide +kernel
theorem dX8_word_54 : decode cX8_word 54 = .ok (.getfield 163, 3) := by decide +kernel
theorem dX8_word_57 : decode cX8_word 57 = .ok (.aload_n 0, 1) := by decide +kernel
theorem dX8_word_58 : decode cX8_word 58 = .ok (.getfield 154, 3) := by decide +kernel
theorem dX8_word_61 : decode cX8_word 61 = .ok (.isub, 1) := by decide +kernel
theorem dX8_word_62 : decode cX8_word 62 = .ok (.bipush 7, 2) := by decide +kernel
theorem dX8_word_64 : decode cX8_word 64 = .ok (.if_icmp .ge 21, 3) := by decide +kernel
theorem dX8_word_67 : decode cX8_word 67 = .ok (.lload_n 1, 1) := by decide +kernel
theorem dX8_word_68 : decode cX8_word 68 = .ok (.bipush 8, 2) := by decide +kernel
theorem dX8_word_70 : decode cX8_word 70 = .ok (.lshl, 1) := by decide +kernel
theorem dX8_word_71 : decode cX8_word 71 = .ok (.aload_n 0, 1) := by decide +kernel
theorem dX8_word_72 : decode cX8_word 72 = .ok (.getfield 64, 3) := by decide +kernel
theorem dX8_word_75 : decode cX8_word 75 = .ok (.aload_n 0, 1) := by decide +kernel
theorem dX8_word_76 : decode cX8_word 76 = .ok (.getfield 163, 3) := by decide +kernel
theorem dX8_word_79 : decode cX8_word 79 = .ok (.baload, 1) := by decide +kernel
theorem dX8_word_80 : decode cX8_word 80 = .ok (.i2l, 1) := by decide +kernel
theorem dX8_word_81 : decode cX8_word 81 = .ok (.lor, 1) := by decide +kernel
theorem dX8_word_82 : decode cX8_word 82 = .ok (.goto 4, 3) := by decide +kernel
theorem dX8_word_85 : decode cX8_word 85 = .ok (.lconst 0, 1) := by decide +kernel
theorem dX8_word_86 : decode cX8_word 86 = .ok (.lstore_n 1, 1) := by decide +kernel
theorem dX8_word_87 : decode cX8_word 87 = .ok (.aload_n 0, 1) := by decide +kernel
theorem dX8_word_88 : decode cX8_word 88 = .ok (.dup, 1) := by decide +kernel
theorem dX8_word_89 : decode cX8_word 89 = .ok (.getfield 163, 3) := by decide +kernel
theorem dX8_word_92 : decode cX8_word 92 = .ok (.iconst 1, 1) := by decide +kernel
theorem dX8_word_93 : decode cX8_word 93 = .ok (.iadd, 1) := by decide +kernel
theorem dX8_word_94 : decode cX8_word 94 = .ok (.putfield 163, 3) := by decide +kernel
theorem dX8_word_97 : decode cX8_word 97 = .ok (.goto (-83), 3) := by decide +kernel
theorem dX8_word_100 : decode cX8_word 100 = .ok (.aload_n 0, 1) := by decide +kernel
theorem dX8_word_101 : decode cX8_word 101 = .ok (.getfield 163, 3) := by decide +kernel
theorem dX8_word_104 : decode cX8_word 104 = .ok (.aload_n 0, 1) := by decide +kernel
theorem dX8_word_105 : decode cX8_word 105 = .ok (.getfield 154, 3) := by decide +kernel
theorem dX8_word_108 : decode cX8_word 108 = .ok (.isub, 1) := by decide +kernel
theorem dX8_word_109 : decode cX8_word 109 = .ok (.bipush 7, 2) := by decide +kernel
theorem dX8_word_111 : decode cX8_word 111 = .ok (.if_icmp .le 7, 3) := by decide +kernel
theorem dX8_word_114 : decode cX8_word 114 = .ok (.lconst 0, 1) := by decide +kernel
theorem dX8_word_115 : decode cX8_word 115 = .ok (.goto 4, 3) := by decide +kernel
theorem dX8_word_118 : decode cX8_word 118 = .ok (.lload_n 1, 1) := by decide +kernel
theorem dX8_word_119 : decode cX8_word 119 = .ok (.lreturn, 1) := by decide +kernel
set_option maxRecDepth 20000 in
theorem ggX8_takes_X8_word : GoodIn wsX8_takes wsX8_word := goodIn_r _ [7, 2, 1, 8, 9, 10, 11, 12, 6, 13, 14, 15, 16, 17, 18, 19, 20, 21, 22, 23, 24, 25, 26, 27, 28, 29, 30, 31, 32, 33, 34, 35, 36, 37, 38, 39, 40, 41, 42, 43, 44, 45, 46, 47] (by decide +kernel) (by decide +kernel)
set_option maxRecDepth 20000 in
theorem gX8_takes_X8_word : GoodIn wsX8_takes (wsV RX8 166 RX8 yX8_word wsX8_word) := goodIn_app (goodIn_of _ (by decide +kernel)) ggX8_takes_X8_word
theorem dX8_takes_0 : decode cX8_takes 0 = .ok (.aload_n 0, 1) := by decide +kernel
theorem dX8_takes_1 : decode cX8_takes 1 = .ok (.invokevirtual 166, 3) := by decide +kernel
theorem dX8_takes_4 : decode cX8_takes 4 = .ok (.lload_n 1, 1) := by decide +kernel
theorem dX8_takes_5 : decode cX8_takes 5 = .ok (.lcmp, 1) := by decide +kernel
theorem dX8_takes_6 : decode cX8_takes 6 = .ok (.ifCond .eq 5, 3) := by decide +kernel
theorem dX8_takes_9 : decode cX8_takes 9 = .ok (.iconst 0, 1) := by decide +kernel
theorem dX8_takes_10 : decode cX8_takes 10 = .ok (.ireturn, 1) := by decide +kernel
theorem dX8_takes_11 : decode cX8_takes 11 = .ok (.aload_n 0, 1) := by decide +kernel
theorem dX8_takes_12 : decode cX8_takes 12 = .ok (.aload_n 0, 1) := by decide +kernel
theorem dX8_takes_13 : decode cX8_takes 13 = .ok (.getfield 163, 3) := by decide +kernel
theorem dX8_takes_16 : decode cX8_takes 16 = .ok (.putfield 154, 3) := by decide +kernel
theorem dX8_takes_19 : decode cX8_takes 19 = .ok (.iconst 1, 1) := by decide +kernel
theorem dX8_takes_20 : decode cX8_takes 20 = .ok (.ireturn, 1) := by decide +kernel
set_option maxRecDepth 20000 in
theorem ggX8_takesNumber_X8_blanks : GoodIn wsX8_takesNumber wsX8_blanks := goodIn_r _ [9, 1, 3, 4, 10, 11, 12, 13, 14, 15, 16, 17, 18, 19, 20, 21, 22, 23, 24, 25, 26, 27, 28, 29, 30, 31, 32, 33, 34, 35, 36, 37, 38, 39, 40, 41, 42, 43] (by decide +kernel) (by decide +kernel)
set_option maxRecDepth 20000 in
theorem gX8_takesNumber_X8_blanks : GoodIn wsX8_takesNumber (wsV RX8 160 RX8 yX8_blanks wsX8_blanks) := goodIn_app (goodIn_of _ (by decide +kernel)) ggX8_takesNumber_X8_blanks
theorem dX8_takesNumber_0 : decode cX8_takesNumber 0 = .ok (.aload_n 0, 1) := by decide +kernel
theorem dX8_takesNumber_1 : decode cX8_takesNumber 1 = .ok (.invokevirtual 160, 3) := by decide +kernel
theorem dX8_takesNumber_4 : decode cX8_takesNumber 4 = .ok (.aload_n 0, 1) := by decide +kernel
theorem dX8_takesNumber_5 : decode cX8_takesNumber 5 = .ok (.getfield 154, 3) := by decide +kernel
theorem dX8_takesNumber_8 : decode cX8_takesNumber 8 = .ok (.istore_n 1, 1) := by decide +kernel
theorem dX8_takesNumber_9 : decode cX8_takesNumber 9 = .ok (.aload_n 0, 1) := by decide +kernel
theorem dX8_takesNumber_10 : decode cX8_takesNumber 10 = .ok (.iconst 0, 1) := by decide +kernel
theorem dX8_takesNumber_11 : decode cX8_takesNumber 11 = .ok (.putfield 170, 3) := by decide +kernel
theorem dX8_takesNumber_14 : decode cX8_takesNumber 14 = .ok (.iload_n 1, 1) := by decide +kernel
theorem dX8_takesNumber_15 : decode cX8_takesNumber 15 = .ok (.aload_n 0, 1) := by decide +kernel
theorem dX8_takesNumber_16 : decode cX8_takesNumber 16 = .ok (.getfield 157, 3) := by decide +kernel
theorem dX8_takesNumber_19 : decode cX8_takesNumber 19 = .ok (.if_icmp .ge 62, 3) := by decide +kernel
theorem dX8_takesNumber_22 : decode cX8_takesNumber 22 = .ok (.aload_n 0, 1) := by decide +kernel
theorem dX8_takesNumber_23 : decode cX8_takesNumber 23 = .ok (.getfield 64, 3) := by decide +kernel
theorem dX8_takesNumber_26 : decode cX8_takesNumber 26 = .ok (.iload_n 1, 1) := by decide +kernel
theorem dX8_takesNumber_27 : decode cX8_takesNumber 27 = .ok (.baload, 1) := by decide +kernel
theorem dX8_takesNumber_28 : decode cX8_takesNumber 28 = .ok (.bipush 48, 2) := by decide +kernel
theorem dX8_takesNumber_30 : decode cX8_takesNumber 30 = .ok (.if_icmp .lt 51, 3) := by decide +kernel
theorem dX8_takesNumber_33 : decode cX8_takesNumber 33 = .ok (.aload_n 0, 1) := by decide +kernel
theorem dX8_takesNumber_34 : decode cX8_takesNumber 34 = .ok (.getfield 64, 3) := by decide +kernel
theorem dX8_takesNumber_37 : decode cX8_takesNumber 37 = .ok (.iload_n 1, 1) := by decide +kernel
theorem dX8_takesNumber_38 : decode cX8_takesNumber 38 = .ok (.baload, 1) := by decide +kernel
theorem dX8_takesNumber_39 : decode cX8_takesNumber 39 = .ok (.bipush 57, 2) := by decide +kernel
theorem dX8_takesNumber_41 : decode cX8_takesNumber 41 = .ok (.if_icmp .gt 40, 3) := by decide +kernel
theorem dX8_takesNumber_44 : decode cX8_takesNumber 44 = .ok (.iload_n 1, 1) := by decide +kernel
theorem dX8_takesNumber_45 : decode cX8_takesNumber 45 = .ok (.aload_n 0, 1) := by decide +kernel
theorem dX8_takesNumber_46 : decode cX8_takesNumber 46 = .ok (.getfield 154, 3) := by decide +kernel
theorem dX8_takesNumber_49 : decode cX8_takesNumber 49 = .ok (.isub, 1) := by decide +kernel
theorem dX8_takesNumber_50 : decode cX8_takesNumber 50 = .ok (.iconst 4, 1) := by decide +kernel
theorem dX8_takesNumber_51 : decode cX8_takesNumber 51 = .ok (.if_icmp .ge 24, 3) := by decide +kernel
theorem dX8_takesNumber_54 : decode cX8_takesNumber 54 = .ok (.aload_n 0, 1) := by decide +kernel
theorem dX8_takesNumber_55 : decode cX8_takesNumber 55 = .ok (.bipush 10, 2) := by decide +kernel
theorem dX8_takesNumber_57 : decode cX8_takesNumber 57 = .ok (.aload_n 0, 1) := by decide +kernel
theorem dX8_takesNumber_58 : decode cX8_takesNumber 58 = .ok (.getfield 170, 3) := by decide +kernel
theorem dX8_takesNumber_61 : decode cX8_takesNumber 61 = .ok (.imul, 1) := by decide +kernel
theorem dX8_takesNumber_62 : decode cX8_takesNumber 62 = .ok (.aload_n 0, 1) := by decide +kernel
theorem dX8_takesNumber_63 : decode cX8_takesNumber 63 = .ok (.getfield 64, 3) := by decide +kernel
theorem dX8_takesNumber_66 : decode cX8_takesNumber 66 = .ok (.iload_n 1, 1) := by decide +kernel
theorem dX8_takesNumber_67 : decode cX8_takesNumber 67 = .ok (.baload, 1) := by decide +kernel
theorem dX8_takesNumber_68 : decode cX8_takesNumber 68 = .ok (.iadd, 1) := by decide +kernel
theorem dX8_takesNumber_69 : decode cX8_takesNumber 69 = .ok (.bipush 48, 2) := by decide +kernel
theorem dX8_takesNumber_71 : decode cX8_takesNumber 71 = .ok (.isub, 1) := by decide +kernel
theorem dX8_takesNumber_72 : decode cX8_takesNumber 72 = .ok (.putfield 170, 3) := by decide +kernel
theorem dX8_takesNumber_75 : decode cX8_takesNumber 75 = .ok (.iinc 1 1, 3) := by decide +kernel
theorem dX8_takesNumber_78 : decode cX8_takesNumber 78 = .ok (.goto (-64), 3) := by decide +kernel
theorem dX8_takesNumber_81 : decode cX8_takesNumber 81 = .ok (.iload_n 1, 1) := by decide +kernel
theorem dX8_takesNumber_82 : decode cX8_takesNumber 82 = .ok (.aload_n 0, 1) := by decide +kernel
theorem dX8_takesNumber_83 : decode cX8_takesNumber 83 = .ok (.getfield 154, 3) := by decide +kernel
theorem dX8_takesNumber_86 : decode cX8_takesNumber 86 = .ok (.if_icmp .eq 13, 3) := by decide +kernel
theorem dX8_takesNumber_89 : decode cX8_takesNumber 89 = .ok (.iload_n 1, 1) := by decide +kernel
theorem dX8_takesNumber_90 : decode cX8_takesNumber 90 = .ok (.aload_n 0, 1) := by decide +kernel
theorem dX8_takesNumber_91 : decode cX8_takesNumber 91 = .ok (.getfield 154, 3) := by decide +kernel
theorem dX8_takesNumber_94 : decode cX8_takesNumber 94 = .ok (.isub, 1) := by decide +kernel
theorem dX8_takesNumber_95 : decode cX8_takesNumber 95 = .ok (.iconst 4, 1) := by decide +kernel
theorem dX8_takesNumber_96 : decode cX8_takesNumber 96 = .ok (.if_icmp .le 5, 3) := by decide +kernel
theorem dX8_takesNumber_99 : decode cX8_takesNumber 99 = .ok (.iconst 0, 1) := by decide +kernel
theorem dX8_takesNumber_100 : decode cX8_takesNumber 100 = .ok (.ireturn, 1) := by decide +kernel
theorem dX8_takesNumber_101 : decode cX8_takesNumber 101 = .ok (.aload_n 0, 1) := by decide +kernel
theorem dX8_takesNumber_102 : decode cX8_takesNumber 102 = .ok (.iload_n 1, 1) := by decide +kernel
theorem dX8_takesNumber_103 : decode cX8_takesNumber 103 = .ok (.putfield 154, 3) := by decide +kernel
theorem dX8_takesNumber_106 : decode cX8_takesNumber 106 = .ok (.iconst 1, 1) := by decide +kernel
theorem dX8_takesNumber_107 : decode cX8_takesNumber 107 = .ok (.ireturn, 1) := by decide +kernel
theorem dX8_plain_0 : decode cX8_plain 0 = .ok (.iload_n 0, 1) := by decide +kernel
theorem dX8_plain_1 : decode cX8_plain 1 = .ok (.ifCond .ne 8, 3) := by decide +kernel
theorem dX8_plain_4 : decode cX8_plain 4 = .ok (.bipush 50, 2) := by decide +kernel
theorem dX8_plain_6 : decode cX8_plain 6 = .ok (.goto 56, 3) := by decide +kernel
theorem dX8_plain_9 : decode cX8_plain 9 = .ok (.iload_n 0, 1) := by decide +kernel
theorem dX8_plain_10 : decode cX8_plain 10 = .ok (.iconst 1, 1) := by decide +kernel
theorem dX8_plain_11 : decode cX8_plain 11 = .ok (.if_icmp .ne 9, 3) := by decide +kernel
theorem dX8_plain_14 : decode cX8_plain 14 = .ok (.sipush 200, 3) := by decide +kernel
theorem dX8_plain_17 : decode cX8_plain 17 = .ok (.goto 45, 3) := by decide +kernel
theorem dX8_plain_20 : decode cX8_plain 20 = .ok (.iload_n 0, 1) := by decide +kernel
theorem dX8_plain_21 : decode cX8_plain 21 = .ok (.iconst 2, 1) := by decide +kernel
theorem dX8_plain_22 : decode cX8_plain 22 = .ok (.if_icmp .ne 8, 3) := by decide +kernel
theorem dX8_plain_25 : decode cX8_plain 25 = .ok (.bipush 9, 2) := by decide +kernel
theorem dX8_plain_27 : decode cX8_plain 27 = .ok (.goto 35, 3) := by decide +kernel
theorem dX8_plain_30 : decode cX8_plain 30 = .ok (.iload_n 0, 1) := by decide +kernel
theorem dX8_plain_31 : decode cX8_plain 31 = .ok (.iconst 3, 1) := by decide +kernel
theorem dX8_plain_32 : decode cX8_plain 32 = .ok (.if_icmp .ne 8, 3) := by decide +kernel
theorem dX8_plain_35 : decode cX8_plain 35 = .ok (.bipush 100, 2) := by decide +kernel
theorem dX8_plain_37 : decode cX8_plain 37 = .ok (.goto 25, 3) := by decide +kernel
theorem dX8_plain_40 : decode cX8_plain 40 = .ok (.iload_n 0, 1) := by decide +kernel
theorem dX8_plain_41 : decode cX8_plain 41 = .ok (.iconst 4, 1) := by decide +kernel
theorem dX8_plain_42 : decode cX8_plain 42 = .ok (.if_icmp .ne 8, 3) := by decide +kernel
theorem dX8_plain_45 : decode cX8_plain 45 = .ok (.bipush 30, 2) := by decide +kernel
theorem dX8_plain_47 : decode cX8_plain 47 = .ok (.goto 15, 3) := by decide +kernel
theorem dX8_plain_50 : decode cX8_plain 50 = .ok (.iload_n 0, 1) := by decide +kernel
theorem dX8_plain_51 : decode cX8_plain 51 = .ok (.iconst 5, 1) := by decide +kernel
theorem dX8_plain_52 : decode cX8_plain 52 = .ok (.if_icmp .ne 8, 3) := by decide +kernel
theorem dX8_plain_55 : decode cX8_plain 55 = .ok (.bipush 50, 2) := by decide +kernel
theorem dX8_plain_57 : decode cX8_plain 57 = .ok (.goto 5, 3) := by decide +kernel
theorem dX8_plain_60 : decode cX8_plain 60 = .ok (.bipush 10, 2) := by decide +kernel
theorem dX8_plain_62 : decode cX8_plain 62 = .ok (.ireturn, 1) := by decide +kernel
set_option maxRecDepth 20000 in
theorem ggX8_statement_X8_takes : GoodIn wsX8_statement wsX8_takes := goodIn_r _ [17, 18, 10, 19, 20, 21, 16, 22, 11, 12, 23, 24, 25, 26, 31, 32, 33, 34, 35, 36, 37, 38, 39, 40, 41, 42, 43, 44, 45, 46, 47, 48, 49, 50, 51, 52, 53, 54, 55, 56, 57, 58, 59, 60, 61, 62, 63, 64] (by decide +kernel) (by decide +kernel)
set_option maxRecDepth 20000 in
theorem gX8_statement_X8_takes : GoodIn wsX8_statement (wsV RX8 175 RX8 yX8_takes wsX8_takes) := goodIn_app (goodIn_of _ (by decide +kernel)) ggX8_statement_X8_takes
set_option maxRecDepth 20000 in
theorem ggX8_statement_X8_takesNumber : GoodIn wsX8_statement wsX8_takesNumber := goodIn_r _ [30, 10, 8, 11, 12, 23, 24, 25, 16, 26, 31, 32, 33, 34, 35, 36, 37, 38, 39, 40, 41, 42, 43, 44, 45, 46, 47, 48, 49, 50, 51, 52, 53, 54, 55, 56, 57, 58, 59, 60, 61, 62, 63, 64] (by decide +kernel) (by decide +kernel)
set_option maxRecDepth 20000 in
theorem gX8_statement_X8_takesNumber : GoodIn wsX8_statement (wsV RX8 189 RX8 yX8_takesNumber wsX8_takesNumber) := goodIn_app (goodIn_of _ (by decide +kernel)) ggX8_statement_X8_takesNumber
set_option maxRecDepth 20000 in
theorem ggX8_statement_X8_blanks : GoodIn wsX8_statement wsX8_blanks := goodIn_r _ [26, 10, 11, 12, 31, 32, 33, 34, 35, 36, 37, 38, 39, 40, 41, 42, 43, 44, 45, 46, 47, 48, 49, 50, 51, 52, 53, 54, 55, 56, 57, 58, 59, 60, 61, 62, 63, 64] (by decide +kernel) (by decide +kernel)
set_option maxRecDepth 20000 in
theorem gX8_statement_X8_blanks : GoodIn wsX8_statement (wsV RX8 160 RX8 yX8_blanks wsX8_blanks) := goodIn_app (goodIn_of _ (by decide +kernel)) ggX8_statement_X8_blanks
theorem dX8_statement_0 : decode cX8_statement 0 = .ok (.aload_n 0, 1) := by decide +kernel
theorem dX8_statement_1 : decode cX8_statement 1 = .ok (.ldc2_w 173, 3) := by decide +kernel
theorem dX8_statement_4 : decode cX8_statement 4 = .ok (.invokevirtual 175, 3) := by decide +kernel
theorem dX8_statement_7 : decode cX8_statement 7 = .ok (.ifCond .eq 7, 3) := by decide +kernel
theorem dX8_statement_10 : decode cX8_statement 10 = .ok (.iconst 0, 1) := by decide +kernel
theorem dX8_statement_11 : decode cX8_statement 11 = .ok (.goto 75, 3) := by decide +kernel
theorem dX8_statement_14 : decode cX8_statement 14 = .ok (.aload_n 0, 1) := by decide +kernel
theorem dX8_statement_15 : decode cX8_statement 15 = .ok (.ldc2_w 179, 3) := by decide +kernel
theorem dX8_statement_18 : decode cX8_statement 18 = .ok (.invokevirtual 175, 3) := by decide +kernel
theorem dX8_statement_21 : decode cX8_statement 21 = .ok (.ifCond .eq 7, 3) := by decide +kernel
theorem dX8_statement_24 : decode cX8_statement 24 = .ok (.iconst 2, 1) := by decide +kernel
theorem dX8_statement_25 : decode cX8_statement 25 = .ok (.goto 61, 3) := by decide +kernel
theorem dX8_statement_28 : decode cX8_statement 28 = .ok (.aload_n 0, 1) := by decide +kernel
theorem dX8_statement_29 : decode cX8_statement 29 = .ok (.ldc2_w 181, 3) := by decide +kernel
theorem dX8_statement_32 : decode cX8_statement 32 = .ok (.invokevirtual 175, 3) := by decide +kernel
theorem dX8_statement_35 : decode cX8_statement 35 = .ok (.ifCond .eq 7, 3) := by decide +kernel
theorem dX8_statement_38 : decode cX8_statement 38 = .ok (.iconst 3, 1) := by decide +kernel
theorem dX8_statement_39 : decode cX8_statement 39 = .ok (.goto 47, 3) := by decide +kernel
theorem dX8_statement_42 : decode cX8_statement 42 = .ok (.aload_n 0, 1) := by decide +kernel
theorem dX8_statement_43 : decode cX8_statement 43 = .ok (.ldc2_w 183, 3) := by decide +kernel
theorem dX8_statement_46 : decode cX8_statement 46 = .ok (.invokevirtual 175, 3) := by decide +kernel
theorem dX8_statement_49 : decode cX8_statement 49 = .ok (.ifCond .eq 7, 3) := by decide +kernel
theorem dX8_statement_52 : decode cX8_statement 52 = .ok (.iconst 4, 1) := by decide +kernel
theorem dX8_statement_53 : decode cX8_statement 53 = .ok (.goto 33, 3) := by decide +kernel
theorem dX8_statement_56 : decode cX8_statement 56 = .ok (.aload_n 0, 1) := by decide +kernel
theorem dX8_statement_57 : decode cX8_statement 57 = .ok (.ldc2_w 185, 3) := by decide +kernel
theorem dX8_statement_60 : decode cX8_statement 60 = .ok (.invokevirtual 175, 3) := by decide +kernel
theorem dX8_statement_63 : decode cX8_statement 63 = .ok (.ifCond .eq 7, 3) := by decide +kernel
theorem dX8_statement_66 : decode cX8_statement 66 = .ok (.iconst 5, 1) := by decide +kernel
theorem dX8_statement_67 : decode cX8_statement 67 = .ok (.goto 19, 3) := by decide +kernel
theorem dX8_statement_70 : decode cX8_statement 70 = .ok (.aload_n 0, 1) := by decide +kernel
theorem dX8_statement_71 : decode cX8_statement 71 = .ok (.ldc2_w 187, 3) := by decide +kernel
theorem dX8_statement_74 : decode cX8_statement 74 = .ok (.invokevirtual 175, 3) := by decide +kernel
theorem dX8_statement_77 : decode cX8_statement 77 = .ok (.ifCond .eq 8, 3) := by decide +kernel
theorem dX8_statement_80 : decode cX8_statement 80 = .ok (.bipush 6, 2) := by decide +kernel
theorem dX8_statement_82 : decode cX8_statement 82 = .ok (.goto 4, 3) := by decide +kernel
theorem dX8_statement_85 : decode cX8_statement 85 = .ok (.iconst (-1), 1) := by decide +kernel
theorem dX8_statement_86 : decode cX8_statement 86 = .ok (.istore_n 2, 1) := by decide +kernel
theorem dX8_statement_87 : decode cX8_statement 87 = .ok (.iload_n 2, 1) := by decide +kernel
theorem dX8_statement_88 : decode cX8_statement 88 = .ok (.iconst (-1), 1) := by decide +kernel
theorem dX8_statement_89 : decode cX8_statement 89 = .ok (.if_icmp .eq 10, 3) := by decide +kernel
theorem dX8_statement_92 : decode cX8_statement 92 = .ok (.aload_n 0, 1) := by decide +kernel
theorem dX8_statement_93 : decode cX8_statement 93 = .ok (.invokevirtual 189, 3) := by decide +kernel
theorem dX8_statement_96 : decode cX8_statement 96 = .ok (.ifCond .ne 5, 3) := by decide +kernel
theorem dX8_statement_99 : decode cX8_statement 99 = .ok (.iconst 0, 1) := by decide +kernel
theorem dX8_statement_100 : decode cX8_statement 100 = .ok (.ireturn, 1) := by decide +kernel
theorem dX8_statement_101 : decode cX8_statement 101 = .ok (.aload_n 0, 1) := by decide +kernel
theorem dX8_statement_102 : decode cX8_statement 102 = .ok (.getfield 70, 3) := by decide +kernel
theorem dX8_statement_105 : decode cX8_statement 105 = .ok (.bipush 7, 2) := by decide +kernel
theorem dX8_statement_107 : decode cX8_statement 107 = .ok (.iload_n 1, 1) := by decide +kernel
theorem dX8_statement_108 : decode cX8_statement 108 = .ok (.imul, 1) := by decide +kernel
theorem dX8_statement_109 : decode cX8_statement 109 = .ok (.iload_n 2, 1) := by decide +kernel
theorem dX8_statement_110 : decode cX8_statement 110 = .ok (.iadd, 1) := by decide +kernel
theorem dX8_statement_111 : decode cX8_statement 111 = .ok (.aload_n 0, 1) := by decide +kernel
theorem dX8_statement_112 : decode cX8_statement 112 = .ok (.getfield 170, 3) := by decide +kernel
theorem dX8_statement_115 : decode cX8_statement 115 = .ok (.iastore, 1) := by decide +kernel
theorem dX8_statement_116 : decode cX8_statement 116 = .ok (.iload_n 2, 1) := by decide +kernel
theorem dX8_statement_117 : decode cX8_statement 117 = .ok (.ifCond .ne 37, 3) := by decide +kernel
theorem dX8_statement_120 : decode cX8_statement 120 = .ok (.aload_n 0, 1) := by decide +kernel
theorem dX8_statement_121 : decode cX8_statement 121 = .ok (.ldc2_w 193, 3) := by decide +kernel
theorem dX8_statement_124 : decode cX8_statement 124 = .ok (.invokevirtual 175, 3) := by decide +kernel
theorem dX8_statement_127 : decode cX8_statement 127 = .ok (.ifCond .eq 10, 3) := by decide +kernel
theorem dX8_statement_130 : decode cX8_statement 130 = .ok (.aload_n 0, 1) := by decide +kernel
theorem dX8_statement_131 : decode cX8_statement 131 = .ok (.invokevirtual 189, 3) := by decide +kernel
theorem dX8_statement_134 : decode cX8_statement 134 = .ok (.ifCond .ne 5, 3) := by decide +kernel
theorem dX8_statement_137 : decode cX8_statement 137 = .ok (.iconst 0, 1) := by decide +kernel
theorem dX8_statement_138 : decode cX8_statement 138 = .ok (.ireturn, 1) := by decide +kernel
theorem dX8_statement_139 : decode cX8_statement 139 = .ok (.aload_n 0, 1) := by decide +kernel
theorem dX8_statement_140 : decode cX8_statement 140 = .ok (.getfield 70, 3) := by decide +kernel
theorem dX8_statement_143 : decode cX8_statement 143 = .ok (.bipush 7, 2) := by decide +kernel
theorem dX8_statement_145 : decode cX8_statement 145 = .ok (.iload_n 1, 1) := by decide +kernel
theorem dX8_statement_146 : decode cX8_statement 146 = .ok (.imul, 1) := by decide +kernel
theorem dX8_statement_147 : decode cX8_statement 147 = .ok (.iconst 1, 1) := by decide +kernel
theorem dX8_statement_148 : decode cX8_statement 148 = .ok (.iadd, 1) := by decide +kernel
theorem dX8_statement_149 : decode cX8_statement 149 = .ok (.aload_n 0, 1) := by decide +kernel
theorem dX8_statement_150 : decode cX8_statement 150 = .ok (.getfield 170, 3) := by decide +kernel
theorem dX8_statement_153 : decode cX8_statement 153 = .ok (.iastore, 1) := by decide +kernel
theorem dX8_statement_154 : decode cX8_statement 154 = .ok (.aload_n 0, 1) := by decide +kernel
theorem dX8_statement_155 : decode cX8_statement 155 = .ok (.invokevirtual 160, 3) := by decide +kernel
theorem dX8_statement_158 : decode cX8_statement 158 = .ok (.aload_n 0, 1) := by decide +kernel
theorem dX8_statement_159 : decode cX8_statement 159 = .ok (.getfield 154, 3) := by decide +kernel
theorem dX8_statement_162 : decode cX8_statement 162 = .ok (.aload_n 0, 1) := by decide +kernel
theorem dX8_statement_163 : decode cX8_statement 163 = .ok (.getfield 157, 3) := by decide +kernel
theorem dX8_statement_166 : decode cX8_statement 166 = .ok (.if_icmp .eq 17, 3) := by decide +kernel
theorem dX8_statement_169 : decode cX8_statement 169 = .ok (.aload_n 0, 1) := by decide +kernel
theorem dX8_statement_170 : decode cX8_statement 170 = .ok (.getfield 64, 3) := by decide +kernel
theorem dX8_statement_173 : decode cX8_statement 173 = .ok (.aload_n 0, 1) := by decide +kernel
theorem dX8_statement_174 : decode cX8_statement 174 = .ok (.getfield 154, 3) := by decide +kernel
theorem dX8_statement_177 : decode cX8_statement 177 = .ok (.baload, 1) := by decide +kernel
theorem dX8_statement_178 : decode cX8_statement 178 = .ok (.bipush 59, 2) := by decide +kernel
theorem dX8_statement_180 : decode cX8_statement 180 = .ok (.if_icmp .eq 5, 3) := by decide +kernel
theorem dX8_statement_183 : decode cX8_statement 183 = .ok (.iconst 0, 1) := by decide +kernel
theorem dX8_statement_184 : decode cX8_statement 184 = .ok (.ireturn, 1) := by decide +kernel
theorem dX8_statement_185 : decode cX8_statement 185 = .ok (.aload_n 0, 1) := by decide +kernel
theorem dX8_statement_186 : decode cX8_statement 186 = .ok (.dup, 1) := by decide +kernel
theorem dX8_statement_187 : decode cX8_statement 187 = .ok (.getfield 154, 3) := by decide +kernel
theorem dX8_statement_190 : decode cX8_statement 190 = .ok (.iconst 1, 1) := by decide +kernel
theorem dX8_statement_191 : decode cX8_statement 191 = .ok (.iadd, 1) := by decide +kernel
theorem dX8_statement_192 : decode cX8_statement 192 = .ok (.putfield 154, 3) := by decide +kernel
theorem dX8_statement_195 : decode cX8_statement 195 = .ok (.iconst 1, 1) := by decide +kernel
theorem dX8_statement_196 : decode cX8_statement 196 = .ok (.ireturn, 1) := by decide +kernel
set_option maxRecDepth 20000 in
theorem ggX8_law_X8_isIn : GoodIn wsX8_law wsX8_isIn := goodIn_r _ [14] (by decide +kernel) (by decide +kernel)
set_option maxRecDepth 20000 in
theorem gX8_law_X8_isIn : GoodIn wsX8_law (va_wsS RX8 91 yX8_isIn wsX8_isIn) := goodIn_app (goodIn_of _ (by decide +kernel)) ggX8_law_X8_isIn
set_option maxRecDepth 20000 in
theorem ggX8_law_X8_plain : GoodIn wsX8_law wsX8_plain := goodIn_r _ [17] (by decide +kernel) (by decide +kernel)
set_option maxRecDepth 20000 in
theorem gX8_law_X8_plain : GoodIn wsX8_law (va_wsS RX8 198 yX8_plain wsX8_plain) := goodIn_app (goodIn_of _ (by decide +kernel)) ggX8_law_X8_plain
set_option maxRecDepth 20000 in
theorem ggX8_law_X8_blanks : GoodIn wsX8_law wsX8_blanks := goodIn_r _ [21, 6, 5, 3, 47, 48, 49, 50, 51, 52, 53, 54, 55, 56, 57, 58, 59, 60, 61, 62, 63, 64, 65, 66, 67, 68, 69, 70, 71, 72, 73, 74, 75, 76, 77, 78, 79, 80] (by decide +kernel) (by decide +kernel)
set_option maxRecDepth 20000 in
theorem gX8_law_X8_blanks : GoodIn wsX8_law (wsV RX8 160 RX8 yX8_blanks wsX8_blanks) := goodIn_app (goodIn_of _ (by decide +kernel)) ggX8_law_X8_blanks
set_option maxRecDepth 20000 in
theorem ggX8_law_X8_statement : GoodIn wsX8_law wsX8_statement := goodIn_r _ [25, 26, 27, 28, 29, 30, 31, 7, 32, 33, 6, 5, 3, 34, 35, 36, 13, 37, 38, 39, 40, 41, 42, 18, 19, 20, 21, 43, 44, 45, 46, 47, 48, 49, 50, 51, 52, 53, 54, 55, 56, 57, 58, 59, 60, 61, 62, 63, 64, 65, 66, 67, 68, 69, 70, 71, 72, 73, 74, 75, 76, 77, 78, 79, 80] (by decide +kernel) (by decide +kernel)
set_option maxRecDepth 20000 in
theorem gX8_law_X8_statement : GoodIn wsX8_law (wsV RX8 201 RX8 yX8_statement wsX8_statement) := goodIn_app (goodIn_of _ (by decide +kernel)) ggX8_law_X8_statement
theorem dX8_law_0 : decode cX8_law 0 = .ok (.iload_n 1, 1) := by decide +kernel
theorem dX8_law_1 : decode cX8_law 1 = .ok (.iconst 0, 1) := by decide +kernel
theorem dX8_law_2 : decode cX8_law 2 = .ok (.aload_n 0, 1) := by decide +kernel
theorem dX8_law_3 : decode cX8_law 3 = .ok (.getfield 147, 3) := by decide +kernel
theorem dX8_law_6 : decode cX8_law 6 = .ok (.invokestatic 91, 3) := by decide +kernel
theorem dX8_law_9 : decode cX8_law 9 = .ok (.ifCond .ne 6, 3) := by decide +kernel
theorem dX8_law_12 : decode cX8_law 12 = .ok (.bipush (-2), 2) := by decide +kernel
theorem dX8_law_14 : decode cX8_law 14 = .ok (.ireturn, 1) := by decide +kernel
theorem dX8_law_15 : decode cX8_law 15 = .ok (.aload_n 0, 1) := by decide +kernel
theorem dX8_law_16 : decode cX8_law 16 = .ok (.getfield 195, 3) := by decide +kernel
theorem dX8_law_19 : decode cX8_law 19 = .ok (.bipush 10, 2) := by decide +kernel
theorem dX8_law_21 : decode cX8_law 21 = .ok (.if_icmp .ne 6, 3) := by decide +kernel
theorem dX8_law_24 : decode cX8_law 24 = .ok (.bipush (-3), 2) := by decide +kernel
theorem dX8_law_26 : decode cX8_law 26 = .ok (.ireturn, 1) := by decide +kernel
theorem dX8_law_27 : decode cX8_law 27 = .ok (.iconst 0, 1) := by decide +kernel
theorem dX8_law_28 : decode cX8_law 28 = .ok (.istore_n 2, 1) := by decide +kernel
theorem dX8_law_29 : decode cX8_law 29 = .ok (.iload_n 2, 1) := by decide +kernel
theorem dX8_law_30 : decode cX8_law 30 = .ok (.iload_n 1, 1) := by decide +kernel
theorem dX8_law_31 : decode cX8_law 31 = .ok (.if_icmp .ge 21, 3) := by decide +kernel
theorem dX8_law_34 : decode cX8_law 34 = .ok (.aload_n 0, 1) := by decide +kernel
theorem dX8_law_35 : decode cX8_law 35 = .ok (.getfield 64, 3) := by decide +kernel
theorem dX8_law_38 : decode cX8_law 38 = .ok (.iload_n 2, 1) := by decide +kernel
theorem dX8_law_39 : decode cX8_law 39 = .ok (.aload_n 0, 1) := by decide +kernel
theorem dX8_law_40 : decode cX8_law 40 = .ok (.getfield 60, 3) := by decide +kernel
theorem dX8_law_43 : decode cX8_law 43 = .ok (.iload_n 2, 1) := by decide +kernel
theorem dX8_law_44 : decode cX8_law 44 = .ok (.baload, 1) := by decide +kernel
theorem dX8_law_45 : decode cX8_law 45 = .ok (.bastore, 1) := by decide +kernel
theorem dX8_law_46 : decode cX8_law 46 = .ok (.iinc 2 1, 3) := by decide +kernel
theorem dX8_law_49 : decode cX8_law 49 = .ok (.goto (-20), 3) := by decide +kernel
theorem dX8_law_52 : decode cX8_law 52 = .ok (.aload_n 0, 1) := by decide +kernel
theorem dX8_law_53 : decode cX8_law 53 = .ok (.iload_n 1, 1) := by decide +kernel
theorem dX8_law_54 : decode cX8_law 54 = .ok (.putfield 157, 3) := by decide +kernel
theorem dX8_law_57 : decode cX8_law 57 = .ok (.aload_n 0, 1) := by decide +kernel
theorem dX8_law_58 : decode cX8_law 58 = .ok (.iconst 0, 1) := by decide +kernel
theorem dX8_law_59 : decode cX8_law 59 = .ok (.putfield 147, 3) := by decide +kernel
theorem dX8_law_62 : decode cX8_law 62 = .ok (.aload_n 0, 1) := by decide +kernel
theorem dX8_law_63 : decode cX8_law 63 = .ok (.iconst 0, 1) := by decide +kernel
theorem dX8_law_64 : decode cX8_law 64 = .ok (.putfield 154, 3) := by decide +kernel
theorem dX8_law_67 : decode cX8_law 67 = .ok (.iconst 0, 1) := by decide +kernel
theorem dX8_law_68 : decode cX8_law 68 = .ok (.istore_n 2, 1) := by decide +kernel
theorem dX8_law_69 : decode cX8_law 69 = .ok (.iload_n 2, 1) := by decide +kernel
theorem dX8_law_70 : decode cX8_law 70 = .ok (.bipush 7, 2) := by decide +kernel
theorem dX8_law_72 : decode cX8_law 72 = .ok (.if_icmp .ge 27, 3) := by decide +kernel
theorem dX8_law_75 : decode cX8_law 75 = .ok (.aload_n 0, 1) := by decide +kernel
theorem dX8_law_76 : decode cX8_law 76 = .ok (.getfield 70, 3) := by decide +kernel
theorem dX8_law_79 : decode cX8_law 79 = .ok (.bipush 7, 2) := by decide +kernel
theorem dX8_law_81 : decode cX8_law 81 = .ok (.aload_n 0, 1) := by decide +kernel
theorem dX8_law_82 : decode cX8_law 82 = .ok (.getfield 195, 3) := by decide +kernel
theorem dX8_law_85 : decode cX8_law 85 = .ok (.imul, 1) := by decide +kernel
theorem dX8_law_86 : decode cX8_law 86 = .ok (.iload_n 2, 1) := by decide +kernel
theorem dX8_law_87 : decode cX8_law 87 = .ok (.iadd, 1) := by decide +kernel
theorem dX8_law_88 : decode cX8_law 88 = .ok (.iload_n 2, 1) := by decide +kernel
theorem dX8_law_89 : decode cX8_law 89 = .ok (.invokestatic 198, 3) := by decide +kernel
theorem dX8_law_92 : decode cX8_law 92 = .ok (.iastore, 1) := by decide +kernel
theorem dX8_law_93 : decode cX8_law 93 = .ok (.iinc 2 1, 3) := by decide +kernel
theorem dX8_law_96 : decode cX8_law 96 = .ok (.goto (-27), 3) := by decide +kernel
theorem dX8_law_99 : decode cX8_law 99 = .ok (.iconst 0, 1) := by decide +kernel
theorem dX8_law_100 : decode cX8_law 100 = .ok (.istore_n 2, 1) := by decide +kernel
theorem dX8_law_101 : decode cX8_law 101 = .ok (.iconst 1, 1) := by decide +kernel
theorem dX8_law_102 : decode cX8_law 102 = .ok (.istore_n 3, 1) := by decide +kernel
theorem dX8_law_103 : decode cX8_law 103 = .ok (.aload_n 0, 1) := by decide +kernel
theorem dX8_law_104 : decode cX8_law 104 = .ok (.invokevirtual 160, 3) := by decide +kernel
theorem dX8_law_107 : decode cX8_law 107 = .ok (.iload_n 3, 1) := by decide +kernel
theorem dX8_law_108 : decode cX8_law 108 = .ok (.ifCond .eq 51, 3) := by decide +kernel
theorem dX8_law_111 : decode cX8_law 111 = .ok (.aload_n 0, 1) := by decide +kernel
theorem dX8_law_112 : decode cX8_law 112 = .ok (.getfield 154, 3) := by decide +kernel
theorem dX8_law_115 : decode cX8_law 115 = .ok (.aload_n 0, 1) := by decide +kernel
theorem dX8_law_116 : decode cX8_law 116 = .ok (.getfield 157, 3) := by decide +kernel
theorem dX8_law_119 : decode cX8_law 119 = .ok (.if_icmp .ge 40, 3) := by decide +kernel
theorem dX8_law_122 : decode cX8_law 122 = .ok (.iload_n 2, 1) := by decide +kernel
theorem dX8_law_123 : decode cX8_law 123 = .ok (.bipush 12, 2) := by decide +kernel
theorem dX8_law_125 : decode cX8_law 125 = .ok (.if_icmp .ge 18, 3) := by decide +kernel
theorem dX8_law_128 : decode cX8_law 128 = .ok (.aload_n 0, 1) := by decide +kernel
theorem dX8_law_129 : decode cX8_law 129 = .ok (.aload_n 0, 1) := by decide +kernel
theorem dX8_law_130 : decode cX8_law 130 = .ok (.getfield 195, 3) := by decide +kernel
theorem dX8_law_133 : decode cX8_law 133 = .ok (.invokevirtual 201, 3) := by decide +kernel
theorem dX8_law_136 : decode cX8_law 136 = .ok (.ifCond .eq 7, 3) := by decide +kernel
theorem dX8_law_139 : decode cX8_law 139 = .ok (.iconst 1, 1) := by decide +kernel
theorem dX8_law_140 : decode cX8_law 140 = .ok (.goto 4, 3) := by decide +kernel
theorem dX8_law_143 : decode cX8_law 143 = .ok (.iconst 0, 1) := by decide +kernel
theorem dX8_law_144 : decode cX8_law 144 = .ok (.istore_n 3, 1) := by decide +kernel
theorem dX8_law_145 : decode cX8_law 145 = .ok (.iinc 2 1, 3) := by decide +kernel
theorem dX8_law_148 : decode cX8_law 148 = .ok (.iload_n 3, 1) := by decide +kernel
theorem dX8_law_149 : decode cX8_law 149 = .ok (.ifCond .eq (-42), 3) := by decide +kernel
theorem dX8_law_152 : decode cX8_law 152 = .ok (.aload_n 0, 1) := by decide +kernel
theorem dX8_law_153 : decode cX8_law 153 = .ok (.invokevirtual 160, 3) := by decide +kernel
theorem dX8_law_156 : decode cX8_law 156 = .ok (.goto (-49), 3) := by decide +kernel
theorem dX8_law_159 : decode cX8_law 159 = .ok (.aload_n 0, 1) := by decide +kernel
theorem dX8_law_160 : decode cX8_law 160 = .ok (.iload_n 3, 1) := by decide +kernel
theorem dX8_law_161 : decode cX8_law 161 = .ok (.ifCond .eq 7, 3) := by decide +kernel
theorem dX8_law_164 : decode cX8_law 164 = .ok (.iconst (-1), 1) := by decide +kernel
theorem dX8_law_165 : decode cX8_law 165 = .ok (.goto 7, 3) := by decide +kernel
theorem dX8_law_168 : decode cX8_law 168 = .ok (.aload_n 0, 1) := by decide +kernel
theorem dX8_law_169 : decode cX8_law 169 = .ok (.getfield 154, 3) := by decide +kernel
theorem dX8_law_172 : decode cX8_law 172 = .ok (.putfield 67, 3) := by decide +kernel
theorem dX8_law_175 : decode cX8_law 175 = .ok (.iload_n 3, 1) := by decide +kernel
theorem dX8_law_176 : decode cX8_law 176 = .ok (.ifCond .ne 5, 3) := by decide +kernel
theorem dX8_law_179 : decode cX8_law 179 = .ok (.iconst (-1), 1) := by decide +kernel
theorem dX8_law_180 : decode cX8_law 180 = .ok (.ireturn, 1) := by decide +kernel
theorem dX8_law_181 : decode cX8_law 181 = .ok (.aload_n 0, 1) := by decide +kernel
theorem dX8_law_182 : decode cX8_law 182 = .ok (.getfield 73, 3) := by decide +kernel
theorem dX8_law_185 : decode cX8_law 185 = .ok (.aload_n 0, 1) := by decide +kernel
theorem dX8_law_186 : decode cX8_law 186 = .ok (.getfield 195, 3) := by decide +kernel
theorem dX8_law_189 : decode cX8_law 189 = .ok (.aload_n 0, 1) := by decide +kernel
theorem dX8_law_190 : decode cX8_law 190 = .ok (.getfield 135, 3) := by decide +kernel
theorem dX8_law_193 : decode cX8_law 193 = .ok (.iastore, 1) := by decide +kernel
theorem dX8_law_194 : decode cX8_law 194 = .ok (.aload_n 0, 1) := by decide +kernel
theorem dX8_law_195 : decode cX8_law 195 = .ok (.dup, 1) := by decide +kernel
theorem dX8_law_196 : decode cX8_law 196 = .ok (.getfield 195, 3) := by decide +kernel
theorem dX8_law_199 : decode cX8_law 199 = .ok (.iconst 1, 1) := by decide +kernel
theorem dX8_law_200 : decode cX8_law 200 = .ok (.iadd, 1) := by decide +kernel
theorem dX8_law_201 : decode cX8_law 201 = .ok (.putfield 195, 3) := by decide +kernel
theorem dX8_law_204 : decode cX8_law 204 = .ok (.aload_n 0, 1) := by decide +kernel
theorem dX8_law_205 : decode cX8_law 205 = .ok (.getfield 195, 3) := by decide +kernel
theorem dX8_law_208 : decode cX8_law 208 = .ok (.iconst 1, 1) := by decide +kernel
theorem dX8_law_209 : decode cX8_law 209 = .ok (.isub, 1) := by decide +kernel
theorem dX8_law_210 : decode cX8_law 210 = .ok (.ireturn, 1) := by decide +kernel
theorem dX8_fault_0 : decode cX8_fault 0 = .ok (.aload_n 0, 1) := by decide +kernel
theorem dX8_fault_1 : decode cX8_fault 1 = .ok (.getfield 67, 3) := by decide +kernel
theorem dX8_fault_4 : decode cX8_fault 4 = .ok (.ireturn, 1) := by decide +kernel
theorem dX8_inForce_0 : decode cX8_inForce 0 = .ok (.iconst (-1), 1) := by decide +kernel
theorem dX8_inForce_1 : decode cX8_inForce 1 = .ok (.istore_n 2, 1) := by decide +kernel
theorem dX8_inForce_2 : decode cX8_inForce 2 = .ok (.iconst 0, 1) := by decide +kernel
theorem dX8_inForce_3 : decode cX8_inForce 3 = .ok (.istore_n 3, 1) := by decide +kernel
end
section
theorem dX8_inForce_4 : decode cX8_inForce 4 = .ok (.iload_n 3, 1) := by decide +kernel
theorem dX8_inForce_5 : decode cX8_inForce 5 = .ok (.aload_n 0, 1) := by decide +kernel
theorem dX8_inForce_6 : decode cX8_inForce 6 = .ok (.getfield 195, 3) := by decide +kernel
theorem dX8_inForce_9 : decode cX8_inForce 9 = .ok (.if_icmp .ge 21, 3) := by decide +kernel
theorem dX8_inForce_12 : decode cX8_inForce 12 = .ok (.aload_n 0, 1) := by decide +kernel
theorem dX8_inForce_13 : decode cX8_inForce 13 = .ok (.getfield 73, 3) := by decide +kernel
theorem dX8_inForce_16 : decode cX8_inForce 16 = .ok (.iload_n 3, 1) := by decide +kernel
theorem dX8_inForce_17 : decode cX8_inForce 17 = .ok (.iaload, 1) := by decide +kernel
theorem dX8_inForce_18 : decode cX8_inForce 18 = .ok (.iload_n 1, 1) := by decide +kernel
theorem dX8_inForce_19 : decode cX8_inForce 19 = .ok (.if_icmp .gt 5, 3) := by decide +kernel
theorem dX8_inForce_22 : decode cX8_inForce 22 = .ok (.iload_n 3, 1) := by decide +kernel
theorem dX8_inForce_23 : decode cX8_inForce 23 = .ok (.istore_n 2, 1) := by decide +kernel
theorem dX8_inForce_24 : decode cX8_inForce 24 = .ok (.iinc 3 1, 3) := by decide +kernel
theorem dX8_inForce_27 : decode cX8_inForce 27 = .ok (.goto (-23), 3) := by decide +kernel
theorem dX8_inForce_30 : decode cX8_inForce 30 = .ok (.iload_n 2, 1) := by decide +kernel
theorem dX8_inForce_31 : decode cX8_inForce 31 = .ok (.ireturn, 1) := by decide +kernel
set_option maxRecDepth 20000 in
theorem ggX8_tellsOn_X8_inForce : GoodIn wsX8_tellsOn wsX8_inForce := goodIn_r _ [6, 7, 8, 12, 13, 14, 15, 16, 17, 18, 19, 20, 21, 22, 23, 24, 25, 26, 27, 28, 29, 30, 31, 32, 33, 34, 35, 36, 37, 38, 39, 40, 41, 42, 43, 44, 45] (by decide +kernel) (by decide +kernel)
set_option maxRecDepth 20000 in
theorem gX8_tellsOn_X8_inForce : GoodIn wsX8_tellsOn (wsV RX8 205 RX8 yX8_inForce wsX8_inForce) := goodIn_app (goodIn_of _ (by decide +kernel)) ggX8_tellsOn_X8_inForce
set_option maxRecDepth 20000 in
theorem ggX8_tellsOn_X8_plain : GoodIn wsX8_tellsOn wsX8_plain := goodIn_r _ [11] (by decide +kernel) (by decide +kernel)
set_option maxRecDepth 20000 in
theorem gX8_tellsOn_X8_plain : GoodIn wsX8_tellsOn (va_wsS RX8 198 yX8_plain wsX8_plain) := goodIn_app (goodIn_of _ (by decide +kernel)) ggX8_tellsOn_X8_plain
theorem dX8_tellsOn_0 : decode cX8_tellsOn 0 = .ok (.aload_n 0, 1) := by decide +kernel
theorem dX8_tellsOn_1 : decode cX8_tellsOn 1 = .ok (.iload_n 1, 1) := by decide +kernel
theorem dX8_tellsOn_2 : decode cX8_tellsOn 2 = .ok (.invokevirtual 205, 3) := by decide +kernel
theorem dX8_tellsOn_5 : decode cX8_tellsOn 5 = .ok (.istore_n 3, 1) := by decide +kernel
theorem dX8_tellsOn_6 : decode cX8_tellsOn 6 = .ok (.iload_n 3, 1) := by decide +kernel
theorem dX8_tellsOn_7 : decode cX8_tellsOn 7 = .ok (.iconst (-1), 1) := by decide +kernel
theorem dX8_tellsOn_8 : decode cX8_tellsOn 8 = .ok (.if_icmp .ne 10, 3) := by decide +kernel
theorem dX8_tellsOn_11 : decode cX8_tellsOn 11 = .ok (.iload_n 2, 1) := by decide +kernel
theorem dX8_tellsOn_12 : decode cX8_tellsOn 12 = .ok (.invokestatic 198, 3) := by decide +kernel
theorem dX8_tellsOn_15 : decode cX8_tellsOn 15 = .ok (.goto 14, 3) := by decide +kernel
theorem dX8_tellsOn_18 : decode cX8_tellsOn 18 = .ok (.aload_n 0, 1) := by decide +kernel
theorem dX8_tellsOn_19 : decode cX8_tellsOn 19 = .ok (.getfield 70, 3) := by decide +kernel
theorem dX8_tellsOn_22 : decode cX8_tellsOn 22 = .ok (.bipush 7, 2) := by decide +kernel
theorem dX8_tellsOn_24 : decode cX8_tellsOn 24 = .ok (.iload_n 3, 1) := by decide +kernel
theorem dX8_tellsOn_25 : decode cX8_tellsOn 25 = .ok (.imul, 1) := by decide +kernel
theorem dX8_tellsOn_26 : decode cX8_tellsOn 26 = .ok (.iload_n 2, 1) := by decide +kernel
theorem dX8_tellsOn_27 : decode cX8_tellsOn 27 = .ok (.iadd, 1) := by decide +kernel
theorem dX8_tellsOn_28 : decode cX8_tellsOn 28 = .ok (.iaload, 1) := by decide +kernel
theorem dX8_tellsOn_29 : decode cX8_tellsOn 29 = .ok (.ireturn, 1) := by decide +kernel
set_option maxRecDepth 20000 in
theorem ggX8_now_X8_tellsOn : GoodIn wsX8_now wsX8_tellsOn := goodIn_r _ [6, 7, 8, 9, 10, 5, 11, 12, 13, 14, 15, 16, 17, 18, 19, 20, 21, 22, 23, 24, 25, 26, 27, 28, 29, 30, 31, 32, 33, 34, 35, 36, 37, 38, 39, 40, 41, 42, 43, 44, 45, 46, 47, 48, 49, 50] (by decide +kernel) (by decide +kernel)
set_option maxRecDepth 20000 in
theorem gX8_now_X8_tellsOn : GoodIn wsX8_now (wsV RX8 208 RX8 yX8_tellsOn wsX8_tellsOn) := goodIn_app (goodIn_of _ (by decide +kernel)) ggX8_now_X8_tellsOn
theorem dX8_now_0 : decode cX8_now 0 = .ok (.aload_n 0, 1) := by decide +kernel
theorem dX8_now_1 : decode cX8_now 1 = .ok (.aload_n 0, 1) := by decide +kernel
theorem dX8_now_2 : decode cX8_now 2 = .ok (.getfield 135, 3) := by decide +kernel
theorem dX8_now_5 : decode cX8_now 5 = .ok (.iload_n 1, 1) := by decide +kernel
theorem dX8_now_6 : decode cX8_now 6 = .ok (.invokevirtual 208, 3) := by decide +kernel
theorem dX8_now_9 : decode cX8_now 9 = .ok (.ireturn, 1) := by decide +kernel
set_option maxRecDepth 20000 in
theorem ggX8_tells_X8_isIn : GoodIn wsX8_tells wsX8_isIn := goodIn_r _ [4] (by decide +kernel) (by decide +kernel)
set_option maxRecDepth 20000 in
theorem gX8_tells_X8_isIn : GoodIn wsX8_tells (va_wsS RX8 91 yX8_isIn wsX8_isIn) := goodIn_app (goodIn_of _ (by decide +kernel)) ggX8_tells_X8_isIn
set_option maxRecDepth 20000 in
theorem ggX8_tells_X8_inForce : GoodIn wsX8_tells wsX8_inForce := goodIn_r _ [8, 9, 10, 19, 20, 21, 22, 23, 24, 25, 26, 27, 28, 29, 30, 31, 32, 33, 34, 35, 36, 37, 38, 39, 40, 41, 42, 43, 44, 45, 46, 47, 48, 49, 50, 51, 52] (by decide +kernel) (by decide +kernel)
set_option maxRecDepth 20000 in
theorem gX8_tells_X8_inForce : GoodIn wsX8_tells (wsV RX8 205 RX8 yX8_inForce wsX8_inForce) := goodIn_app (goodIn_of _ (by decide +kernel)) ggX8_tells_X8_inForce
set_option maxRecDepth 20000 in
theorem ggX8_tells_X8_tellsOn : GoodIn wsX8_tells wsX8_tellsOn := goodIn_r _ [14, 15, 5, 6, 7, 3, 8, 9, 10, 16, 17, 18, 19, 20, 21, 22, 23, 24, 25, 26, 27, 28, 29, 30, 31, 32, 33, 34, 35, 36, 37, 38, 39, 40, 41, 42, 43, 44, 45, 46, 47, 48, 49, 50, 51, 52] (by decide +kernel) (by decide +kernel)
set_option maxRecDepth 20000 in
theorem gX8_tells_X8_tellsOn : GoodIn wsX8_tells (wsV RX8 208 RX8 yX8_tellsOn wsX8_tellsOn) := goodIn_app (goodIn_of _ (by decide +kernel)) ggX8_tells_X8_tellsOn
theorem dX8_tells_0 : decode cX8_tells 0 = .ok (.iload_n 1, 1) := by decide +kernel
theorem dX8_tells_1 : decode cX8_tells 1 = .ok (.iconst 0, 1) := by decide +kernel
theorem dX8_tells_2 : decode cX8_tells 2 = .ok (.sipush 600, 3) := by decide +kernel
theorem dX8_tells_5 : decode cX8_tells 5 = .ok (.invokestatic 91, 3) := by decide +kernel
theorem dX8_tells_8 : decode cX8_tells 8 = .ok (.ifCond .eq 13, 3) := by decide +kernel
theorem dX8_tells_11 : decode cX8_tells 11 = .ok (.iload_n 2, 1) := by decide +kernel
theorem dX8_tells_12 : decode cX8_tells 12 = .ok (.iconst 0, 1) := by decide +kernel
theorem dX8_tells_13 : decode cX8_tells 13 = .ok (.bipush 7, 2) := by decide +kernel
theorem dX8_tells_15 : decode cX8_tells 15 = .ok (.invokestatic 91, 3) := by decide +kernel
theorem dX8_tells_18 : decode cX8_tells 18 = .ok (.ifCond .ne 7, 3) := by decide +kernel
theorem dX8_tells_21 : decode cX8_tells 21 = .ok (.iconst (-1), 1) := by decide +kernel
theorem dX8_tells_22 : decode cX8_tells 22 = .ok (.goto 23, 3) := by decide +kernel
theorem dX8_tells_25 : decode cX8_tells 25 = .ok (.iload_n 2, 1) := by decide +kernel
theorem dX8_tells_26 : decode cX8_tells 26 = .ok (.bipush 7, 2) := by decide +kernel
theorem dX8_tells_28 : decode cX8_tells 28 = .ok (.if_icmp .ne 11, 3) := by decide +kernel
theorem dX8_tells_31 : decode cX8_tells 31 = .ok (.aload_n 0, 1) := by decide +kernel
theorem dX8_tells_32 : decode cX8_tells 32 = .ok (.iload_n 1, 1) := by decide +kernel
theorem dX8_tells_33 : decode cX8_tells 33 = .ok (.invokevirtual 205, 3) := by decide +kernel
theorem dX8_tells_36 : decode cX8_tells 36 = .ok (.goto 9, 3) := by decide +kernel
theorem dX8_tells_39 : decode cX8_tells 39 = .ok (.aload_n 0, 1) := by decide +kernel
theorem dX8_tells_40 : decode cX8_tells 40 = .ok (.iload_n 1, 1) := by decide +kernel
theorem dX8_tells_41 : decode cX8_tells 41 = .ok (.iload_n 2, 1) := by decide +kernel
theorem dX8_tells_42 : decode cX8_tells 42 = .ok (.invokevirtual 208, 3) := by decide +kernel
theorem dX8_tells_45 : decode cX8_tells 45 = .ok (.ireturn, 1) := by decide +kernel
set_option maxRecDepth 20000 in
theorem ggX8_month_X8_isIn : GoodIn wsX8_month wsX8_isIn := goodIn_r _ [6] (by decide +kernel) (by decide +kernel)
set_option maxRecDepth 20000 in
theorem gX8_month_X8_isIn : GoodIn wsX8_month (va_wsS RX8 91 yX8_isIn wsX8_isIn) := goodIn_app (goodIn_of _ (by decide +kernel)) ggX8_month_X8_isIn
set_option maxRecDepth 20000 in
theorem ggX8_month_X8_tellsOn : GoodIn wsX8_month wsX8_tellsOn := goodIn_r _ [10, 11, 12, 13, 14, 5, 15, 16, 17, 18, 19, 20, 21, 22, 23, 24, 25, 26, 27, 28, 29, 30, 31, 32, 33, 34, 35, 36, 37, 38, 39, 40, 41, 42, 43, 44, 45, 46, 47, 48, 49, 50, 51, 52, 53, 54] (by decide +kernel) (by decide +kernel)
set_option maxRecDepth 20000 in
theorem gX8_month_X8_tellsOn : GoodIn wsX8_month (wsV RX8 208 RX8 yX8_tellsOn wsX8_tellsOn) := goodIn_app (goodIn_of _ (by decide +kernel)) ggX8_month_X8_tellsOn
theorem dX8_month_0 : decode cX8_month 0 = .ok (.iload_n 1, 1) := by decide +kernel
theorem dX8_month_1 : decode cX8_month 1 = .ok (.iconst 0, 1) := by decide +kernel
theorem dX8_month_2 : decode cX8_month 2 = .ok (.bipush 20, 2) := by decide +kernel
theorem dX8_month_4 : decode cX8_month 4 = .ok (.invokestatic 91, 3) := by decide +kernel
theorem dX8_month_7 : decode cX8_month 7 = .ok (.ifCond .ne 7, 3) := by decide +kernel
theorem dX8_month_10 : decode cX8_month 10 = .ok (.iconst (-1), 1) := by decide +kernel
theorem dX8_month_11 : decode cX8_month 11 = .ok (.goto 51, 3) := by decide +kernel
theorem dX8_month_14 : decode cX8_month 14 = .ok (.iload_n 2, 1) := by decide +kernel
theorem dX8_month_15 : decode cX8_month 15 = .ok (.ifCond .ne 12, 3) := by decide +kernel
theorem dX8_month_18 : decode cX8_month 18 = .ok (.aload_n 0, 1) := by decide +kernel
theorem dX8_month_19 : decode cX8_month 19 = .ok (.getfield 54, 3) := by decide +kernel
theorem dX8_month_22 : decode cX8_month 22 = .ok (.iload_n 1, 1) := by decide +kernel
theorem dX8_month_23 : decode cX8_month 23 = .ok (.iaload, 1) := by decide +kernel
theorem dX8_month_24 : decode cX8_month 24 = .ok (.goto 38, 3) := by decide +kernel
theorem dX8_month_27 : decode cX8_month 27 = .ok (.iload_n 2, 1) := by decide +kernel
theorem dX8_month_28 : decode cX8_month 28 = .ok (.iconst 1, 1) := by decide +kernel
theorem dX8_month_29 : decode cX8_month 29 = .ok (.if_icmp .ne 32, 3) := by decide +kernel
theorem dX8_month_32 : decode cX8_month 32 = .ok (.aload_n 0, 1) := by decide +kernel
theorem dX8_month_33 : decode cX8_month 33 = .ok (.getfield 54, 3) := by decide +kernel
theorem dX8_month_36 : decode cX8_month 36 = .ok (.iload_n 1, 1) := by decide +kernel
theorem dX8_month_37 : decode cX8_month 37 = .ok (.iaload, 1) := by decide +kernel
theorem dX8_month_38 : decode cX8_month 38 = .ok (.i2l, 1) := by decide +kernel
theorem dX8_month_39 : decode cX8_month 39 = .ok (.aload_n 0, 1) := by decide +kernel
theorem dX8_month_40 : decode cX8_month 40 = .ok (.bipush 30, 2) := by decide +kernel
theorem dX8_month_42 : decode cX8_month 42 = .ok (.iload_n 1, 1) := by decide +kernel
theorem dX8_month_43 : decode cX8_month 43 = .ok (.imul, 1) := by decide +kernel
theorem dX8_month_44 : decode cX8_month 44 = .ok (.bipush 29, 2) := by decide +kernel
theorem dX8_month_46 : decode cX8_month 46 = .ok (.iadd, 1) := by decide +kernel
theorem dX8_month_47 : decode cX8_month 47 = .ok (.iconst 5, 1) := by decide +kernel
theorem dX8_month_48 : decode cX8_month 48 = .ok (.invokevirtual 208, 3) := by decide +kernel
theorem dX8_month_51 : decode cX8_month 51 = .ok (.i2l, 1) := by decide +kernel
theorem dX8_month_52 : decode cX8_month 52 = .ok (.lmul, 1) := by decide +kernel
theorem dX8_month_53 : decode cX8_month 53 = .ok (.ldc2_w 211, 3) := by decide +kernel
theorem dX8_month_56 : decode cX8_month 56 = .ok (.ldiv, 1) := by decide +kernel
theorem dX8_month_57 : decode cX8_month 57 = .ok (.l2i, 1) := by decide +kernel
theorem dX8_month_58 : decode cX8_month 58 = .ok (.goto 4, 3) := by decide +kernel
theorem dX8_month_61 : decode cX8_month 61 = .ok (.iconst (-1), 1) := by decide +kernel
theorem dX8_month_62 : decode cX8_month 62 = .ok (.ireturn, 1) := by decide +kernel
set_option maxRecDepth 20000 in
theorem ggX8_count_X8_one : GoodIn wsX8_count wsX8_one := goodIn_r _ [18] (by decide +kernel) (by decide +kernel)
set_option maxRecDepth 20000 in
theorem gX8_count_X8_one : GoodIn wsX8_count (va_wsS RX8 114 yX8_one wsX8_one) := goodIn_app (goodIn_of _ (by decide +kernel)) ggX8_count_X8_one
set_option maxRecDepth 20000 in
theorem ggX8_count_X8_quarrels : GoodIn wsX8_count wsX8_quarrels := goodIn_r _ [22, 23, 24, 25, 17, 26, 27, 28, 11, 12, 29, 30, 31, 32, 33, 34, 35, 36, 37, 38, 39, 40, 41, 42, 43, 44, 45, 46, 47, 48, 49, 50, 51, 52, 53, 54, 55, 56, 57, 58, 59, 60, 61, 62, 63, 64, 65, 66, 67, 68, 69, 70, 71, 72, 73] (by decide +kernel) (by decide +kernel)
set_option maxRecDepth 20000 in
theorem gX8_count_X8_quarrels : GoodIn wsX8_count (wsV RX8 111 RX8 yX8_quarrels wsX8_quarrels) := goodIn_app (goodIn_of _ (by decide +kernel)) ggX8_count_X8_quarrels
theorem dX8_count_0 : decode cX8_count 0 = .ok (.iconst 0, 1) := by decide +kernel
theorem dX8_count_1 : decode cX8_count 1 = .ok (.istore_n 2, 1) := by decide +kernel
theorem dX8_count_2 : decode cX8_count 2 = .ok (.iload_n 1, 1) := by decide +kernel
theorem dX8_count_3 : decode cX8_count 3 = .ok (.tableswitch 198 0 12 #[65, 70, 75, 80, 85, 90, 95, 100, 105, 110, 139, 188, 193], 65) := by decide +kernel
theorem dX8_count_68 : decode cX8_count 68 = .ok (.aload_n 0, 1) := by decide +kernel
theorem dX8_count_69 : decode cX8_count 69 = .ok (.getfield 135, 3) := by decide +kernel
theorem dX8_count_72 : decode cX8_count 72 = .ok (.ireturn, 1) := by decide +kernel
theorem dX8_count_73 : decode cX8_count 73 = .ok (.aload_n 0, 1) := by decide +kernel
theorem dX8_count_74 : decode cX8_count 74 = .ok (.getfield 39, 3) := by decide +kernel
theorem dX8_count_77 : decode cX8_count 77 = .ok (.ireturn, 1) := by decide +kernel
theorem dX8_count_78 : decode cX8_count 78 = .ok (.aload_n 0, 1) := by decide +kernel
theorem dX8_count_79 : decode cX8_count 79 = .ok (.getfield 42, 3) := by decide +kernel
theorem dX8_count_82 : decode cX8_count 82 = .ok (.ireturn, 1) := by decide +kernel
theorem dX8_count_83 : decode cX8_count 83 = .ok (.aload_n 0, 1) := by decide +kernel
theorem dX8_count_84 : decode cX8_count 84 = .ok (.getfield 45, 3) := by decide +kernel
theorem dX8_count_87 : decode cX8_count 87 = .ok (.ireturn, 1) := by decide +kernel
theorem dX8_count_88 : decode cX8_count 88 = .ok (.aload_n 0, 1) := by decide +kernel
theorem dX8_count_89 : decode cX8_count 89 = .ok (.getfield 48, 3) := by decide +kernel
theorem dX8_count_92 : decode cX8_count 92 = .ok (.ireturn, 1) := by decide +kernel
theorem dX8_count_93 : decode cX8_count 93 = .ok (.aload_n 0, 1) := by decide +kernel
theorem dX8_count_94 : decode cX8_count 94 = .ok (.getfield 129, 3) := by decide +kernel
theorem dX8_count_97 : decode cX8_count 97 = .ok (.ireturn, 1) := by decide +kernel
theorem dX8_count_98 : decode cX8_count 98 = .ok (.aload_n 0, 1) := by decide +kernel
theorem dX8_count_99 : decode cX8_count 99 = .ok (.getfield 141, 3) := by decide +kernel
theorem dX8_count_102 : decode cX8_count 102 = .ok (.ireturn, 1) := by decide +kernel
theorem dX8_count_103 : decode cX8_count 103 = .ok (.aload_n 0, 1) := by decide +kernel
theorem dX8_count_104 : decode cX8_count 104 = .ok (.getfield 138, 3) := by decide +kernel
theorem dX8_count_107 : decode cX8_count 107 = .ok (.ireturn, 1) := by decide +kernel
theorem dX8_count_108 : decode cX8_count 108 = .ok (.aload_n 0, 1) := by decide +kernel
theorem dX8_count_109 : decode cX8_count 109 = .ok (.getfield 144, 3) := by decide +kernel
theorem dX8_count_112 : decode cX8_count 112 = .ok (.ireturn, 1) := by decide +kernel
theorem dX8_count_113 : decode cX8_count 113 = .ok (.iconst 0, 1) := by decide +kernel
theorem dX8_count_114 : decode cX8_count 114 = .ok (.istore_n 3, 1) := by decide +kernel
theorem dX8_count_115 : decode cX8_count 115 = .ok (.iload_n 3, 1) := by decide +kernel
theorem dX8_count_116 : decode cX8_count 116 = .ok (.sipush 160, 3) := by decide +kernel
theorem dX8_count_119 : decode cX8_count 119 = .ok (.if_icmp .ge 21, 3) := by decide +kernel
theorem dX8_count_122 : decode cX8_count 122 = .ok (.iload_n 2, 1) := by decide +kernel
theorem dX8_count_123 : decode cX8_count 123 = .ok (.aload_n 0, 1) := by decide +kernel
theorem dX8_count_124 : decode cX8_count 124 = .ok (.getfield 26, 3) := by decide +kernel
theorem dX8_count_127 : decode cX8_count 127 = .ok (.iload_n 3, 1) := by decide +kernel
theorem dX8_count_128 : decode cX8_count 128 = .ok (.baload, 1) := by decide +kernel
theorem dX8_count_129 : decode cX8_count 129 = .ok (.invokestatic 114, 3) := by decide +kernel
theorem dX8_count_132 : decode cX8_count 132 = .ok (.iadd, 1) := by decide +kernel
theorem dX8_count_133 : decode cX8_count 133 = .ok (.istore_n 2, 1) := by decide +kernel
theorem dX8_count_134 : decode cX8_count 134 = .ok (.iinc 3 1, 3) := by decide +kernel
theorem dX8_count_137 : decode cX8_count 137 = .ok (.goto (-22), 3) := by decide +kernel
theorem dX8_count_140 : decode cX8_count 140 = .ok (.iload_n 2, 1) := by decide +kernel
theorem dX8_count_141 : decode cX8_count 141 = .ok (.ireturn, 1) := by decide +kernel
theorem dX8_count_142 : decode cX8_count 142 = .ok (.iconst 0, 1) := by decide +kernel
theorem dX8_count_143 : decode cX8_count 143 = .ok (.istore_n 3, 1) := by decide +kernel
theorem dX8_count_144 : decode cX8_count 144 = .ok (.iload_n 3, 1) := by decide +kernel
theorem dX8_count_145 : decode cX8_count 145 = .ok (.aload_n 0, 1) := by decide +kernel
theorem dX8_count_146 : decode cX8_count 146 = .ok (.getfield 85, 3) := by decide +kernel
theorem dX8_count_149 : decode cX8_count 149 = .ok (.if_icmp .ge 40, 3) := by decide +kernel
theorem dX8_count_152 : decode cX8_count 152 = .ok (.iconst 0, 1) := by decide +kernel
theorem dX8_count_153 : decode cX8_count 153 = .ok (.istore 4, 2) := by decide +kernel
theorem dX8_count_155 : decode cX8_count 155 = .ok (.iload 4, 2) := by decide +kernel
theorem dX8_count_157 : decode cX8_count 157 = .ok (.aload_n 0, 1) := by decide +kernel
theorem dX8_count_158 : decode cX8_count 158 = .ok (.getfield 88, 3) := by decide +kernel
theorem dX8_count_161 : decode cX8_count 161 = .ok (.if_icmp .ge 22, 3) := by decide +kernel
theorem dX8_count_164 : decode cX8_count 164 = .ok (.iload_n 2, 1) := by decide +kernel
theorem dX8_count_165 : decode cX8_count 165 = .ok (.aload_n 0, 1) := by decide +kernel
theorem dX8_count_166 : decode cX8_count 166 = .ok (.iload_n 3, 1) := by decide +kernel
theorem dX8_count_167 : decode cX8_count 167 = .ok (.iload 4, 2) := by decide +kernel
theorem dX8_count_169 : decode cX8_count 169 = .ok (.invokevirtual 111, 3) := by decide +kernel
theorem dX8_count_172 : decode cX8_count 172 = .ok (.invokestatic 114, 3) := by decide +kernel
theorem dX8_count_175 : decode cX8_count 175 = .ok (.iadd, 1) := by decide +kernel
theorem dX8_count_176 : decode cX8_count 176 = .ok (.istore_n 2, 1) := by decide +kernel
theorem dX8_count_177 : decode cX8_count 177 = .ok (.iinc 4 1, 3) := by decide +kernel
theorem dX8_count_180 : decode cX8_count 180 = .ok (.goto (-25), 3) := by decide +kernel
theorem dX8_count_183 : decode cX8_count 183 = .ok (.iinc 3 1, 3) := by decide +kernel
theorem dX8_count_186 : decode cX8_count 186 = .ok (.goto (-42), 3) := by decide +kernel
theorem dX8_count_189 : decode cX8_count 189 = .ok (.iload_n 2, 1) := by decide +kernel
theorem dX8_count_190 : decode cX8_count 190 = .ok (.ireturn, 1) := by decide +kernel
theorem dX8_count_191 : decode cX8_count 191 = .ok (.aload_n 0, 1) := by decide +kernel
theorem dX8_count_192 : decode cX8_count 192 = .ok (.getfield 195, 3) := by decide +kernel
theorem dX8_count_195 : decode cX8_count 195 = .ok (.ireturn, 1) := by decide +kernel
theorem dX8_count_196 : decode cX8_count 196 = .ok (.aload_n 0, 1) := by decide +kernel
theorem dX8_count_197 : decode cX8_count 197 = .ok (.getfield 147, 3) := by decide +kernel
theorem dX8_count_200 : decode cX8_count 200 = .ok (.ireturn, 1) := by decide +kernel
theorem dX8_count_201 : decode cX8_count 201 = .ok (.iconst (-1), 1) := by decide +kernel
theorem dX8_count_202 : decode cX8_count 202 = .ok (.ireturn, 1) := by decide +kernel
theorem dJ9_abs_0f7a4_0 : decode cJ9_abs_0f7a4 0 = .ok (.iload_n 0, 1) := by decide +kernel
theorem dJ9_abs_0f7a4_1 : decode cJ9_abs_0f7a4 1 = .ok (.ifCond .ge 8, 3) := by decide +kernel
theorem dJ9_abs_0f7a4_4 : decode cJ9_abs_0f7a4 4 = .ok (.iload_n 0, 1) := by decide +kernel
theorem dJ9_abs_0f7a4_5 : decode cJ9_abs_0f7a4 5 = .ok (.ineg, 1) := by decide +kernel
theorem dJ9_abs_0f7a4_6 : decode cJ9_abs_0f7a4 6 = .ok (.goto 4, 3) := by decide +kernel
theorem dJ9_abs_0f7a4_9 : decode cJ9_abs_0f7a4 9 = .ok (.iload_n 0, 1) := by decide +kernel
theorem dJ9_abs_0f7a4_10 : decode cJ9_abs_0f7a4 10 = .ok (.ireturn, 1) := by decide +kernel
theorem dJ9_max_7cf53_0 : decode cJ9_max_7cf53 0 = .ok (.iload_n 0, 1) := by decide +kernel
theorem dJ9_max_7cf53_1 : decode cJ9_max_7cf53 1 = .ok (.iload_n 1, 1) := by decide +kernel
theorem dJ9_max_7cf53_2 : decode cJ9_max_7cf53 2 = .ok (.if_icmp .lt 7, 3) := by decide +kernel
theorem dJ9_max_7cf53_5 : decode cJ9_max_7cf53 5 = .ok (.iload_n 0, 1) := by decide +kernel
theorem dJ9_max_7cf53_6 : decode cJ9_max_7cf53 6 = .ok (.goto 4, 3) := by decide +kernel
theorem dJ9_max_7cf53_9 : decode cJ9_max_7cf53 9 = .ok (.iload_n 1, 1) := by decide +kernel
theorem dJ9_max_7cf53_10 : decode cJ9_max_7cf53 10 = .ok (.ireturn, 1) := by decide +kernel
theorem dJ9_min_7cf53_0 : decode cJ9_min_7cf53 0 = .ok (.iload_n 0, 1) := by decide +kernel
theorem dJ9_min_7cf53_1 : decode cJ9_min_7cf53 1 = .ok (.iload_n 1, 1) := by decide +kernel
theorem dJ9_min_7cf53_2 : decode cJ9_min_7cf53 2 = .ok (.if_icmp .gt 7, 3) := by decide +kernel
theorem dJ9_min_7cf53_5 : decode cJ9_min_7cf53 5 = .ok (.iload_n 0, 1) := by decide +kernel
theorem dJ9_min_7cf53_6 : decode cJ9_min_7cf53 6 = .ok (.goto 4, 3) := by decide +kernel
theorem dJ9_min_7cf53_9 : decode cJ9_min_7cf53 9 = .ok (.iload_n 1, 1) := by decide +kernel
theorem dJ9_min_7cf53_10 : decode cJ9_min_7cf53 10 = .ok (.ireturn, 1) := by decide +kernel
set_option maxRecDepth 20000 in
theorem ggJ0_length_8abf5_J0_coder_7d493 : GoodIn wsJ0_length_8abf5 wsJ0_coder_7d493 := goodIn_r _ [6, 7, 8] (by decide +kernel) (by decide +kernel)
set_option maxRecDepth 20000 in
theorem gJ0_length_8abf5_J0_coder_7d493 : GoodIn wsJ0_length_8abf5 (wsV RJ0 335 RJ0 yJ0_coder_7d493 wsJ0_coder_7d493) := goodIn_app (goodIn_of _ (by decide +kernel)) ggJ0_length_8abf5_J0_coder_7d493
theorem dJ0_length_8abf5_0 : decode cJ0_length_8abf5 0 = .ok (.aload_n 0, 1) := by decide +kernel
theorem dJ0_length_8abf5_1 : decode cJ0_length_8abf5 1 = .ok (.getfield 9, 3) := by decide +kernel
theorem dJ0_length_8abf5_4 : decode cJ0_length_8abf5 4 = .ok (.arraylength, 1) := by decide +kernel
theorem dJ0_length_8abf5_5 : decode cJ0_length_8abf5 5 = .ok (.aload_n 0, 1) := by decide +kernel
theorem dJ0_length_8abf5_6 : decode cJ0_length_8abf5 6 = .ok (.invokevirtual 335, 3) := by decide +kernel
theorem dJ0_length_8abf5_9 : decode cJ0_length_8abf5 9 = .ok (.ishr, 1) := by decide +kernel
theorem dJ0_length_8abf5_10 : decode cJ0_length_8abf5 10 = .ok (.ireturn, 1) := by decide +kernel
set_option maxRecDepth 20000 in
theorem ggJ0_charAt_5068e_J0_isLatin1_aae02 : GoodIn wsJ0_charAt_5068e wsJ0_isLatin1_aae02 := goodIn_r _ [6, 7, 8] (by decide +kernel) (by decide +kernel)
set_option maxRecDepth 20000 in
theorem gJ0_charAt_5068e_J0_isLatin1_aae02 : GoodIn wsJ0_charAt_5068e (wsV RJ0 492 RJ0 yJ0_isLatin1_aae02 wsJ0_isLatin1_aae02) := goodIn_app (goodIn_of _ (by decide +kernel)) ggJ0_charAt_5068e_J0_isLatin1_aae02
set_option maxRecDepth 20000 in
theorem ggJ0_charAt_5068e_J1_charAt_3b067 : GoodIn wsJ0_charAt_5068e wsJ1_charAt_3b067 := goodIn_r _ [12, 13, 14, 5, 15, 16, 17, 18, 19, 20] (by decide +kernel) (by decide +kernel)
set_option maxRecDepth 20000 in
theorem gJ0_charAt_5068e_J1_charAt_3b067 : GoodIn wsJ0_charAt_5068e (va_wsS RJ0 495 yJ1_charAt_3b067 wsJ1_charAt_3b067) := goodIn_app (goodIn_of _ (by decide +kernel)) ggJ0_charAt_5068e_J1_charAt_3b067
set_option maxRecDepth 20000 in
theorem ggJ0_charAt_5068e_J2_charAt_3b067 : GoodIn wsJ0_charAt_5068e wsJ2_charAt_3b067 := goodIn_r _ [24, 25, 26, 23, 27, 28, 29, 30, 31, 14, 5, 15, 16, 17, 18, 19, 20, 32, 33, 34, 35, 36, 37] (by decide +kernel) (by decide +kernel)
set_option maxRecDepth 20000 in
theorem gJ0_charAt_5068e_J2_charAt_3b067 : GoodIn wsJ0_charAt_5068e (va_wsS RJ0 498 yJ2_charAt_3b067 wsJ2_charAt_3b067) := goodIn_app (goodIn_of _ (by decide +kernel)) ggJ0_charAt_5068e_J2_charAt_3b067
theorem dJ0_charAt_5068e_0 : decode cJ0_charAt_5068e 0 = .ok (.aload_n 0, 1) := by decide +kernel
theorem dJ0_charAt_5068e_1 : decode cJ0_charAt_5068e 1 = .ok (.invokevirtual 492, 3) := by decide +kernel
theorem dJ0_charAt_5068e_4 : decode cJ0_charAt_5068e 4 = .ok (.ifCond .eq 12, 3) := by decide +kernel
theorem dJ0_charAt_5068e_7 : decode cJ0_charAt_5068e 7 = .ok (.aload_n 0, 1) := by decide +kernel
theorem dJ0_charAt_5068e_8 : decode cJ0_charAt_5068e 8 = .ok (.getfield 9, 3) := by decide +kernel
theorem dJ0_charAt_5068e_11 : decode cJ0_charAt_5068e 11 = .ok (.iload_n 1, 1) := by decide +kernel
theorem dJ0_charAt_5068e_12 : decode cJ0_charAt_5068e 12 = .ok (.invokestatic 495, 3) := by decide +kernel
theorem dJ0_charAt_5068e_15 : decode cJ0_charAt_5068e 15 = .ok (.ireturn, 1) := by decide +kernel
theorem dJ0_charAt_5068e_16 : decode cJ0_charAt_5068e 16 = .ok (.aload_n 0, 1) := by decide +kernel
theorem dJ0_charAt_5068e_17 : decode cJ0_charAt_5068e 17 = .ok (.getfield 9, 3) := by decide +kernel
theorem dJ0_charAt_5068e_20 : decode cJ0_charAt_5068e 20 = .ok (.iload_n 1, 1) := by decide +kernel
theorem dJ0_charAt_5068e_21 : decode cJ0_charAt_5068e 21 = .ok (.invokestatic 498, 3) := by decide +kernel
theorem dJ0_charAt_5068e_24 : decode cJ0_charAt_5068e 24 = .ok (.ireturn, 1) := by decide +kernel
theorem dJ0_coder_7d493_0 : decode cJ0_coder_7d493 0 = .ok (.getstatic 38, 3) := by decide +kernel
theorem dJ0_coder_7d493_3 : decode cJ0_coder_7d493 3 = .ok (.ifCond .eq 10, 3) := by decide +kernel
theorem dJ0_coder_7d493_6 : decode cJ0_coder_7d493 6 = .ok (.aload_n 0, 1) := by decide +kernel
theorem dJ0_coder_7d493_7 : decode cJ0_coder_7d493 7 = .ok (.getfield 15, 3) := by decide +kernel
theorem dJ0_coder_7d493_10 : decode cJ0_coder_7d493 10 = .ok (.goto 4, 3) := by decide +kernel
theorem dJ0_coder_7d493_13 : decode cJ0_coder_7d493 13 = .ok (.iconst 1, 1) := by decide +kernel
theorem dJ0_coder_7d493_14 : decode cJ0_coder_7d493 14 = .ok (.ireturn, 1) := by decide +kernel
theorem dJ0_isLatin1_aae02_0 : decode cJ0_isLatin1_aae02 0 = .ok (.getstatic 38, 3) := by decide +kernel
theorem dJ0_isLatin1_aae02_3 : decode cJ0_isLatin1_aae02 3 = .ok (.ifCond .eq 14, 3) := by decide +kernel
theorem dJ0_isLatin1_aae02_6 : decode cJ0_isLatin1_aae02 6 = .ok (.aload_n 0, 1) := by decide +kernel
theorem dJ0_isLatin1_aae02_7 : decode cJ0_isLatin1_aae02 7 = .ok (.getfield 15, 3) := by decide +kernel
theorem dJ0_isLatin1_aae02_10 : decode cJ0_isLatin1_aae02 10 = .ok (.ifCond .ne 7, 3) := by decide +kernel
theorem dJ0_isLatin1_aae02_13 : decode cJ0_isLatin1_aae02 13 = .ok (.iconst 1, 1) := by decide +kernel
theorem dJ0_isLatin1_aae02_14 : decode cJ0_isLatin1_aae02 14 = .ok (.goto 4, 3) := by decide +kernel
theorem dJ0_isLatin1_aae02_17 : decode cJ0_isLatin1_aae02 17 = .ok (.iconst 0, 1) := by decide +kernel
theorem dJ0_isLatin1_aae02_18 : decode cJ0_isLatin1_aae02 18 = .ok (.ireturn, 1) := by decide +kernel
set_option maxRecDepth 20000 in
theorem ggJ0_checkIndex_df160_J3_checkIndex_8e157 : GoodIn wsJ0_checkIndex_df160 wsJ3_checkIndex_8e157 := goodIn_r _ [5] (by decide +kernel) (by decide +kernel)
set_option maxRecDepth 20000 in
theorem gJ0_checkIndex_df160_J3_checkIndex_8e157 : GoodIn wsJ0_checkIndex_df160 (va_wsS RJ0 1059 yJ3_checkIndex_8e157 wsJ3_checkIndex_8e157) := goodIn_app (goodIn_of _ (by decide +kernel)) ggJ0_checkIndex_df160_J3_checkIndex_8e157
theorem dJ0_checkIndex_df160_0 : decode cJ0_checkIndex_df160 0 = .ok (.iload_n 0, 1) := by decide +kernel
theorem dJ0_checkIndex_df160_1 : decode cJ0_checkIndex_df160 1 = .ok (.iload_n 1, 1) := by decide +kernel
theorem dJ0_checkIndex_df160_2 : decode cJ0_checkIndex_df160 2 = .ok (.getstatic 1053, 3) := by decide +kernel
theorem dJ0_checkIndex_df160_5 : decode cJ0_checkIndex_df160 5 = .ok (.invokestatic 1059, 3) := by decide +kernel
theorem dJ0_checkIndex_df160_8 : decode cJ0_checkIndex_df160 8 = .ok (.pop, 1) := by decide +kernel
theorem dJ0_checkIndex_df160_9 : decode cJ0_checkIndex_df160 9 = .ok (.return_, 1) := by decide +kernel
set_option maxRecDepth 20000 in
theorem ggJ1_charAt_3b067_J0_checkIndex_df160 : GoodIn wsJ1_charAt_3b067 wsJ0_checkIndex_df160 := goodIn_r _ [4, 5, 6, 7, 8, 9] (by decide +kernel) (by decide +kernel)
set_option maxRecDepth 20000 in
theorem gJ1_charAt_3b067_J0_checkIndex_df160 : GoodIn wsJ1_charAt_3b067 (va_wsS RJ1 9 yJ0_checkIndex_df160 wsJ0_checkIndex_df160) := goodIn_app (goodIn_of _ (by decide +kernel)) ggJ1_charAt_3b067_J0_checkIndex_df160
theorem dJ1_charAt_3b067_0 : decode cJ1_charAt_3b067 0 = .ok (.iload_n 1, 1) := by decide +kernel
theorem dJ1_charAt_3b067_1 : decode cJ1_charAt_3b067 1 = .ok (.aload_n 0, 1) := by decide +kernel
theorem dJ1_charAt_3b067_2 : decode cJ1_charAt_3b067 2 = .ok (.arraylength, 1) := by decide +kernel
theorem dJ1_charAt_3b067_3 : decode cJ1_charAt_3b067 3 = .ok (.invokestatic 9, 3) := by decide +kernel
theorem dJ1_charAt_3b067_6 : decode cJ1_charAt_3b067 6 = .ok (.aload_n 0, 1) := by decide +kernel
theorem dJ1_charAt_3b067_7 : decode cJ1_charAt_3b067 7 = .ok (.iload_n 1, 1) := by decide +kernel
theorem dJ1_charAt_3b067_8 : decode cJ1_charAt_3b067 8 = .ok (.baload, 1) := by decide +kernel
theorem dJ1_charAt_3b067_9 : decode cJ1_charAt_3b067 9 = .ok (.sipush 255, 3) := by decide +kernel
theorem dJ1_charAt_3b067_12 : decode cJ1_charAt_3b067 12 = .ok (.iand, 1) := by decide +kernel
theorem dJ1_charAt_3b067_13 : decode cJ1_charAt_3b067 13 = .ok (.i2c, 1) := by decide +kernel
theorem dJ1_charAt_3b067_14 : decode cJ1_charAt_3b067 14 = .ok (.ireturn, 1) := by decide +kernel
set_option maxRecDepth 20000 in
theorem ggJ2_getChar_3b067_J2_length_9d52b : GoodIn wsJ2_getChar_3b067 wsJ2_length_9d52b := goodIn_r _ [7] (by decide +kernel) (by decide +kernel)
set_option maxRecDepth 20000 in
theorem gJ2_getChar_3b067_J2_length_9d52b : GoodIn wsJ2_getChar_3b067 (va_wsS RJ2 48 yJ2_length_9d52b wsJ2_length_9d52b) := goodIn_app (goodIn_of _ (by decide +kernel)) ggJ2_getChar_3b067_J2_length_9d52b
theorem dJ2_getChar_3b067_0 : decode cJ2_getChar_3b067 0 = .ok (.getstatic 44, 3) := by decide +kernel
theorem dJ2_getChar_3b067_3 : decode cJ2_getChar_3b067 3 = .ok (.ifCond .ne 25, 3) := by decide +kernel
theorem dJ2_getChar_3b067_6 : decode cJ2_getChar_3b067 6 = .ok (.iload_n 1, 1) := by decide +kernel
theorem dJ2_getChar_3b067_7 : decode cJ2_getChar_3b067 7 = .ok (.ifCond .lt 11, 3) := by decide +kernel
theorem dJ2_getChar_3b067_10 : decode cJ2_getChar_3b067 10 = .ok (.iload_n 1, 1) := by decide +kernel
theorem dJ2_getChar_3b067_11 : decode cJ2_getChar_3b067 11 = .ok (.aload_n 0, 1) := by decide +kernel
theorem dJ2_getChar_3b067_12 : decode cJ2_getChar_3b067 12 = .ok (.invokestatic 48, 3) := by decide +kernel
theorem dJ2_getChar_3b067_15 : decode cJ2_getChar_3b067 15 = .ok (.if_icmp .lt 13, 3) := by decide +kernel
theorem dJ2_getChar_3b067_18 : decode cJ2_getChar_3b067 18 = .ok (.new 52, 3) := by decide +kernel
theorem dJ2_getChar_3b067_21 : decode cJ2_getChar_3b067 21 = .ok (.dup, 1) := by decide +kernel
theorem dJ2_getChar_3b067_22 : decode cJ2_getChar_3b067 22 = .ok (.ldc 54, 2) := by decide +kernel
theorem dJ2_getChar_3b067_24 : decode cJ2_getChar_3b067 24 = .ok (.invokespecial 56, 3) := by decide +kernel
theorem dJ2_getChar_3b067_27 : decode cJ2_getChar_3b067 27 = .ok (.athrow, 1) := by decide +kernel
theorem dJ2_getChar_3b067_28 : decode cJ2_getChar_3b067 28 = .ok (.iload_n 1, 1) := by decide +kernel
theorem dJ2_getChar_3b067_29 : decode cJ2_getChar_3b067 29 = .ok (.iconst 1, 1) := by decide +kernel
theorem dJ2_getChar_3b067_30 : decode cJ2_getChar_3b067 30 = .ok (.ishl, 1) := by decide +kernel
theorem dJ2_getChar_3b067_31 : decode cJ2_getChar_3b067 31 = .ok (.istore_n 1, 1) := by decide +kernel
theorem dJ2_getChar_3b067_32 : decode cJ2_getChar_3b067 32 = .ok (.aload_n 0, 1) := by decide +kernel
theorem dJ2_getChar_3b067_33 : decode cJ2_getChar_3b067 33 = .ok (.iload_n 1, 1) := by decide +kernel
theorem dJ2_getChar_3b067_34 : decode cJ2_getChar_3b067 34 = .ok (.iinc 1 1, 3) := by decide +kernel
theorem dJ2_getChar_3b067_37 : decode cJ2_getChar_3b067 37 = .ok (.baload, 1) := by decide +kernel
theorem dJ2_getChar_3b067_38 : decode cJ2_getChar_3b067 38 = .ok (.sipush 255, 3) := by decide +kernel
theorem dJ2_getChar_3b067_41 : decode cJ2_getChar_3b067 41 = .ok (.iand, 1) := by decide +kernel
theorem dJ2_getChar_3b067_42 : decode cJ2_getChar_3b067 42 = .ok (.getstatic 59, 3) := by decide +kernel
theorem dJ2_getChar_3b067_45 : decode cJ2_getChar_3b067 45 = .ok (.ishl, 1) := by decide +kernel
theorem dJ2_getChar_3b067_46 : decode cJ2_getChar_3b067 46 = .ok (.aload_n 0, 1) := by decide +kernel
theorem dJ2_getChar_3b067_47 : decode cJ2_getChar_3b067 47 = .ok (.iload_n 1, 1) := by decide +kernel
theorem dJ2_getChar_3b067_48 : decode cJ2_getChar_3b067 48 = .ok (.baload, 1) := by decide +kernel
theorem dJ2_getChar_3b067_49 : decode cJ2_getChar_3b067 49 = .ok (.sipush 255, 3) := by decide +kernel
theorem dJ2_getChar_3b067_52 : decode cJ2_getChar_3b067 52 = .ok (.iand, 1) := by decide +kernel
theorem dJ2_getChar_3b067_53 : decode cJ2_getChar_3b067 53 = .ok (.getstatic 63, 3) := by decide +kernel
theorem dJ2_getChar_3b067_56 : decode cJ2_getChar_3b067 56 = .ok (.ishl, 1) := by decide +kernel
theorem dJ2_getChar_3b067_57 : decode cJ2_getChar_3b067 57 = .ok (.ior, 1) := by decide +kernel
theorem dJ2_getChar_3b067_58 : decode cJ2_getChar_3b067 58 = .ok (.i2c, 1) := by decide +kernel
theorem dJ2_getChar_3b067_59 : decode cJ2_getChar_3b067 59 = .ok (.ireturn, 1) := by decide +kernel
theorem dJ2_length_9d52b_0 : decode cJ2_length_9d52b 0 = .ok (.aload_n 0, 1) := by decide +kernel
theorem dJ2_length_9d52b_1 : decode cJ2_length_9d52b 1 = .ok (.arraylength, 1) := by decide +kernel
theorem dJ2_length_9d52b_2 : decode cJ2_length_9d52b 2 = .ok (.iconst 1, 1) := by decide +kernel
theorem dJ2_length_9d52b_3 : decode cJ2_length_9d52b 3 = .ok (.ishr, 1) := by decide +kernel
theorem dJ2_length_9d52b_4 : decode cJ2_length_9d52b 4 = .ok (.ireturn, 1) := by decide +kernel
set_option maxRecDepth 20000 in
theorem ggJ2_charAt_3b067_J2_checkIndex_2214a : GoodIn wsJ2_charAt_3b067 wsJ2_checkIndex_2214a := goodIn_r _ [4, 5, 6, 3, 7, 8, 9, 10, 11, 12, 13, 14, 15, 16] (by decide +kernel) (by decide +kernel)
set_option maxRecDepth 20000 in
theorem gJ2_charAt_3b067_J2_checkIndex_2214a : GoodIn wsJ2_charAt_3b067 (va_wsS RJ2 67 yJ2_checkIndex_2214a wsJ2_checkIndex_2214a) := goodIn_app (goodIn_of _ (by decide +kernel)) ggJ2_charAt_3b067_J2_checkIndex_2214a
set_option maxRecDepth 20000 in
theorem ggJ2_charAt_3b067_J2_getChar_3b067 : GoodIn wsJ2_charAt_3b067 wsJ2_getChar_3b067 := goodIn_r _ [19, 20, 21, 22, 5, 6, 3, 7] (by decide +kernel) (by decide +kernel)
set_option maxRecDepth 20000 in
theorem gJ2_charAt_3b067_J2_getChar_3b067 : GoodIn wsJ2_charAt_3b067 (va_wsS RJ2 71 yJ2_getChar_3b067 wsJ2_getChar_3b067) := goodIn_app (goodIn_of _ (by decide +kernel)) ggJ2_charAt_3b067_J2_getChar_3b067
theorem dJ2_charAt_3b067_0 : decode cJ2_charAt_3b067 0 = .ok (.iload_n 1, 1) := by decide +kernel
theorem dJ2_charAt_3b067_1 : decode cJ2_charAt_3b067 1 = .ok (.aload_n 0, 1) := by decide +kernel
theorem dJ2_charAt_3b067_2 : decode cJ2_charAt_3b067 2 = .ok (.invokestatic 67, 3) := by decide +kernel
theorem dJ2_charAt_3b067_5 : decode cJ2_charAt_3b067 5 = .ok (.aload_n 0, 1) := by decide +kernel
theorem dJ2_charAt_3b067_6 : decode cJ2_charAt_3b067 6 = .ok (.iload_n 1, 1) := by decide +kernel
theorem dJ2_charAt_3b067_7 : decode cJ2_charAt_3b067 7 = .ok (.invokestatic 71, 3) := by decide +kernel
theorem dJ2_charAt_3b067_10 : decode cJ2_charAt_3b067 10 = .ok (.ireturn, 1) := by decide +kernel
set_option maxRecDepth 20000 in
theorem ggJ2_checkIndex_2214a_J2_length_9d52b : GoodIn wsJ2_checkIndex_2214a wsJ2_length_9d52b := goodIn_r _ [4] (by decide +kernel) (by decide +kernel)
set_option maxRecDepth 20000 in
theorem gJ2_checkIndex_2214a_J2_length_9d52b : GoodIn wsJ2_checkIndex_2214a (va_wsS RJ2 48 yJ2_length_9d52b wsJ2_length_9d52b) := goodIn_app (goodIn_of _ (by decide +kernel)) ggJ2_checkIndex_2214a_J2_length_9d52b
set_option maxRecDepth 20000 in
theorem ggJ2_checkIndex_2214a_J0_checkIndex_df160 : GoodIn wsJ2_checkIndex_2214a wsJ0_checkIndex_df160 := goodIn_r _ [8, 9, 10, 11, 12, 13] (by decide +kernel) (by decide +kernel)
set_option maxRecDepth 20000 in
theorem gJ2_checkIndex_2214a_J0_checkIndex_df160 : GoodIn wsJ2_checkIndex_2214a (va_wsS RJ2 414 yJ0_checkIndex_df160 wsJ0_checkIndex_df160) := goodIn_app (goodIn_of _ (by decide +kernel)) ggJ2_checkIndex_2214a_J0_checkIndex_df160
theorem dJ2_checkIndex_2214a_0 : decode cJ2_checkIndex_2214a 0 = .ok (.iload_n 0, 1) := by decide +kernel
theorem dJ2_checkIndex_2214a_1 : decode cJ2_checkIndex_2214a 1 = .ok (.aload_n 1, 1) := by decide +kernel
theorem dJ2_checkIndex_2214a_2 : decode cJ2_checkIndex_2214a 2 = .ok (.invokestatic 48, 3) := by decide +kernel
theorem dJ2_checkIndex_2214a_5 : decode cJ2_checkIndex_2214a 5 = .ok (.invokestatic 414, 3) := by decide +kernel
theorem dJ2_checkIndex_2214a_8 : decode cJ2_checkIndex_2214a 8 = .ok (.return_, 1) := by decide +kernel
theorem dJ3_checkIndex_8e157_0 : decode cJ3_checkIndex_8e157 0 = .ok (.iload_n 0, 1) := by decide +kernel
theorem dJ3_checkIndex_8e157_1 : decode cJ3_checkIndex_8e157 1 = .ok (.ifCond .lt 8, 3) := by decide +kernel
theorem dJ3_checkIndex_8e157_4 : decode cJ3_checkIndex_8e157 4 = .ok (.iload_n 0, 1) := by decide +kernel
theorem dJ3_checkIndex_8e157_5 : decode cJ3_checkIndex_8e157 5 = .ok (.iload_n 1, 1) := by decide +kernel
theorem dJ3_checkIndex_8e157_6 : decode cJ3_checkIndex_8e157 6 = .ok (.if_icmp .lt 10, 3) := by decide +kernel
theorem dJ3_checkIndex_8e157_9 : decode cJ3_checkIndex_8e157 9 = .ok (.aload_n 2, 1) := by decide +kernel
theorem dJ3_checkIndex_8e157_10 : decode cJ3_checkIndex_8e157 10 = .ok (.iload_n 0, 1) := by decide +kernel
theorem dJ3_checkIndex_8e157_11 : decode cJ3_checkIndex_8e157 11 = .ok (.iload_n 1, 1) := by decide +kernel
theorem dJ3_checkIndex_8e157_12 : decode cJ3_checkIndex_8e157 12 = .ok (.invokestatic 95, 3) := by decide +kernel
theorem dJ3_checkIndex_8e157_15 : decode cJ3_checkIndex_8e157 15 = .ok (.athrow, 1) := by decide +kernel
theorem dJ3_checkIndex_8e157_16 : decode cJ3_checkIndex_8e157 16 = .ok (.iload_n 0, 1) := by decide +kernel
theorem dJ3_checkIndex_8e157_17 : decode cJ3_checkIndex_8e157 17 = .ok (.ireturn, 1) := by decide +kernel
theorem dL_cell_0 : decode cL_cell 0 = .ok (.iload_n 1, 1) := by decide +kernel
theorem dL_cell_1 : decode cL_cell 1 = .ok (.aload_n 0, 1) := by decide +kernel
theorem dL_cell_2 : decode cL_cell 2 = .ok (.arraylength, 1) := by decide +kernel
theorem dL_cell_3 : decode cL_cell 3 = .ok (.if_icmp .ge 9, 3) := by decide +kernel
theorem dL_cell_6 : decode cL_cell 6 = .ok (.aload_n 0, 1) := by decide +kernel
theorem dL_cell_7 : decode cL_cell 7 = .ok (.iload_n 1, 1) := by decide +kernel
theorem dL_cell_8 : decode cL_cell 8 = .ok (.iaload, 1) := by decide +kernel
theorem dL_cell_9 : decode cL_cell 9 = .ok (.goto 4, 3) := by decide +kernel
theorem dL_cell_12 : decode cL_cell 12 = .ok (.iconst 0, 1) := by decide +kernel
theorem dL_cell_13 : decode cL_cell 13 = .ok (.ireturn, 1) := by decide +kernel
theorem dL_law_0 : decode cL_law 0 = .ok (.new 7, 3) := by decide +kernel
theorem dL_law_3 : decode cL_law 3 = .ok (.dup, 1) := by decide +kernel
theorem dL_law_4 : decode cL_law 4 = .ok (.aload_n 0, 1) := by decide +kernel
theorem dL_law_5 : decode cL_law 5 = .ok (.iconst 0, 1) := by decide +kernel
theorem dL_law_6 : decode cL_law 6 = .ok (.invokestatic 9, 3) := by decide +kernel
theorem dL_law_9 : decode cL_law 9 = .ok (.aload_n 0, 1) := by decide +kernel
theorem dL_law_10 : decode cL_law 10 = .ok (.iconst 1, 1) := by decide +kernel
theorem dL_law_11 : decode cL_law 11 = .ok (.invokestatic 9, 3) := by decide +kernel
theorem dL_law_14 : decode cL_law 14 = .ok (.invokespecial 15, 3) := by decide +kernel
theorem dL_law_17 : decode cL_law 17 = .ok (.astore_n 1, 1) := by decide +kernel
theorem dL_law_18 : decode cL_law 18 = .ok (.new 18, 3) := by decide +kernel
theorem dL_law_21 : decode cL_law 21 = .ok (.dup, 1) := by decide +kernel
theorem dL_law_22 : decode cL_law 22 = .ok (.aload_n 0, 1) := by decide +kernel
theorem dL_law_23 : decode cL_law 23 = .ok (.iconst 0, 1) := by decide +kernel
theorem dL_law_24 : decode cL_law 24 = .ok (.invokestatic 9, 3) := by decide +kernel
theorem dL_law_27 : decode cL_law 27 = .ok (.aload_n 0, 1) := by decide +kernel
theorem dL_law_28 : decode cL_law 28 = .ok (.iconst 1, 1) := by decide +kernel
theorem dL_law_29 : decode cL_law 29 = .ok (.invokestatic 9, 3) := by decide +kernel
theorem dL_law_32 : decode cL_law 32 = .ok (.invokespecial 20, 3) := by decide +kernel
theorem dL_law_35 : decode cL_law 35 = .ok (.astore_n 2, 1) := by decide +kernel
theorem dL_law_36 : decode cL_law 36 = .ok (.iconst 2, 1) := by decide +kernel
theorem dL_law_37 : decode cL_law 37 = .ok (.istore_n 3, 1) := by decide +kernel
theorem dL_law_38 : decode cL_law 38 = .ok (.iload_n 3, 1) := by decide +kernel
theorem dL_law_39 : decode cL_law 39 = .ok (.aload_n 0, 1) := by decide +kernel
theorem dL_law_40 : decode cL_law 40 = .ok (.arraylength, 1) := by decide +kernel
theorem dL_law_41 : decode cL_law 41 = .ok (.bipush 6, 2) := by decide +kernel
theorem dL_law_43 : decode cL_law 43 = .ok (.isub, 1) := by decide +kernel
theorem dL_law_44 : decode cL_law 44 = .ok (.if_icmp .gt 673, 3) := by decide +kernel
theorem dL_law_47 : decode cL_law 47 = .ok (.aload_n 0, 1) := by decide +kernel
theorem dL_law_48 : decode cL_law 48 = .ok (.iload_n 3, 1) := by decide +kernel
theorem dL_law_49 : decode cL_law 49 = .ok (.iaload, 1) := by decide +kernel
theorem dL_law_50 : decode cL_law 50 = .ok (.bipush 31, 2) := by decide +kernel
theorem dL_law_52 : decode cL_law 52 = .ok (.iand, 1) := by decide +kernel
theorem dL_law_53 : decode cL_law 53 = .ok (.tableswitch 658 0 18 #[91, 134, 157, 200, 243, 266, 299, 312, 335, 368, 391, 414, 437, 470, 533, 556, 569, 602, 635], 91) := by decide +kernel
theorem dL_law_144 : decode cL_law 144 = .ok (.aload_n 1, 1) := by decide +kernel
theorem dL_law_145 : decode cL_law 145 = .ok (.aload_n 0, 1) := by decide +kernel
theorem dL_law_146 : decode cL_law 146 = .ok (.iload_n 3, 1) := by decide +kernel
theorem dL_law_147 : decode cL_law 147 = .ok (.iconst 1, 1) := by decide +kernel
theorem dL_law_148 : decode cL_law 148 = .ok (.iadd, 1) := by decide +kernel
theorem dL_law_149 : decode cL_law 149 = .ok (.iaload, 1) := by decide +kernel
theorem dL_law_150 : decode cL_law 150 = .ok (.aload_n 0, 1) := by decide +kernel
theorem dL_law_151 : decode cL_law 151 = .ok (.iload_n 3, 1) := by decide +kernel
theorem dL_law_152 : decode cL_law 152 = .ok (.iconst 2, 1) := by decide +kernel
theorem dL_law_153 : decode cL_law 153 = .ok (.iadd, 1) := by decide +kernel
theorem dL_law_154 : decode cL_law 154 = .ok (.iaload, 1) := by decide +kernel
theorem dL_law_155 : decode cL_law 155 = .ok (.aload_n 0, 1) := by decide +kernel
theorem dL_law_156 : decode cL_law 156 = .ok (.iload_n 3, 1) := by decide +kernel
theorem dL_law_157 : decode cL_law 157 = .ok (.iconst 3, 1) := by decide +kernel
theorem dL_law_158 : decode cL_law 158 = .ok (.iadd, 1) := by decide +kernel
theorem dL_law_159 : decode cL_law 159 = .ok (.iaload, 1) := by decide +kernel
theorem dL_law_160 : decode cL_law 160 = .ok (.invokevirtual 21, 3) := by decide +kernel
theorem dL_law_163 : decode cL_law 163 = .ok (.aload_n 2, 1) := by decide +kernel
theorem dL_law_164 : decode cL_law 164 = .ok (.aload_n 0, 1) := by decide +kernel
theorem dL_law_165 : decode cL_law 165 = .ok (.iload_n 3, 1) := by decide +kernel
theorem dL_law_166 : decode cL_law 166 = .ok (.iconst 1, 1) := by decide +kernel
theorem dL_law_167 : decode cL_law 167 = .ok (.iadd, 1) := by decide +kernel
theorem dL_law_168 : decode cL_law 168 = .ok (.iaload, 1) := by decide +kernel
theorem dL_law_169 : decode cL_law 169 = .ok (.aload_n 0, 1) := by decide +kernel
theorem dL_law_170 : decode cL_law 170 = .ok (.iload_n 3, 1) := by decide +kernel
theorem dL_law_171 : decode cL_law 171 = .ok (.iconst 2, 1) := by decide +kernel
theorem dL_law_172 : decode cL_law 172 = .ok (.iadd, 1) := by decide +kernel
theorem dL_law_173 : decode cL_law 173 = .ok (.iaload, 1) := by decide +kernel
theorem dL_law_174 : decode cL_law 174 = .ok (.aload_n 0, 1) := by decide +kernel
end
section
theorem dL_law_175 : decode cL_law 175 = .ok (.iload_n 3, 1) := by decide +kernel
theorem dL_law_176 : decode cL_law 176 = .ok (.iconst 3, 1) := by decide +kernel
theorem dL_law_177 : decode cL_law 177 = .ok (.iadd, 1) := by decide +kernel
theorem dL_law_178 : decode cL_law 178 = .ok (.iaload, 1) := by decide +kernel
theorem dL_law_179 : decode cL_law 179 = .ok (.invokevirtual 25, 3) := by decide +kernel
theorem dL_law_182 : decode cL_law 182 = .ok (.if_icmp .eq 529, 3) := by decide +kernel
theorem dL_law_185 : decode cL_law 185 = .ok (.iconst 0, 1) := by decide +kernel
theorem dL_law_186 : decode cL_law 186 = .ok (.ireturn, 1) := by decide +kernel
theorem dL_law_187 : decode cL_law 187 = .ok (.aload_n 1, 1) := by decide +kernel
theorem dL_law_188 : decode cL_law 188 = .ok (.aload_n 0, 1) := by decide +kernel
theorem dL_law_189 : decode cL_law 189 = .ok (.iload_n 3, 1) := by decide +kernel
theorem dL_law_190 : decode cL_law 190 = .ok (.iconst 1, 1) := by decide +kernel
theorem dL_law_191 : decode cL_law 191 = .ok (.iadd, 1) := by decide +kernel
theorem dL_law_192 : decode cL_law 192 = .ok (.iaload, 1) := by decide +kernel
theorem dL_law_193 : decode cL_law 193 = .ok (.invokevirtual 26, 3) := by decide +kernel
theorem dL_law_196 : decode cL_law 196 = .ok (.aload_n 2, 1) := by decide +kernel
theorem dL_law_197 : decode cL_law 197 = .ok (.aload_n 0, 1) := by decide +kernel
theorem dL_law_198 : decode cL_law 198 = .ok (.iload_n 3, 1) := by decide +kernel
theorem dL_law_199 : decode cL_law 199 = .ok (.iconst 1, 1) := by decide +kernel
theorem dL_law_200 : decode cL_law 200 = .ok (.iadd, 1) := by decide +kernel
theorem dL_law_201 : decode cL_law 201 = .ok (.iaload, 1) := by decide +kernel
theorem dL_law_202 : decode cL_law 202 = .ok (.invokevirtual 30, 3) := by decide +kernel
theorem dL_law_205 : decode cL_law 205 = .ok (.if_icmp .eq 506, 3) := by decide +kernel
theorem dL_law_208 : decode cL_law 208 = .ok (.iconst 0, 1) := by decide +kernel
theorem dL_law_209 : decode cL_law 209 = .ok (.ireturn, 1) := by decide +kernel
theorem dL_law_210 : decode cL_law 210 = .ok (.aload_n 1, 1) := by decide +kernel
theorem dL_law_211 : decode cL_law 211 = .ok (.aload_n 0, 1) := by decide +kernel
theorem dL_law_212 : decode cL_law 212 = .ok (.iload_n 3, 1) := by decide +kernel
theorem dL_law_213 : decode cL_law 213 = .ok (.iconst 1, 1) := by decide +kernel
theorem dL_law_214 : decode cL_law 214 = .ok (.iadd, 1) := by decide +kernel
theorem dL_law_215 : decode cL_law 215 = .ok (.iaload, 1) := by decide +kernel
theorem dL_law_216 : decode cL_law 216 = .ok (.aload_n 0, 1) := by decide +kernel
theorem dL_law_217 : decode cL_law 217 = .ok (.iload_n 3, 1) := by decide +kernel
theorem dL_law_218 : decode cL_law 218 = .ok (.iconst 2, 1) := by decide +kernel
theorem dL_law_219 : decode cL_law 219 = .ok (.iadd, 1) := by decide +kernel
theorem dL_law_220 : decode cL_law 220 = .ok (.iaload, 1) := by decide +kernel
theorem dL_law_221 : decode cL_law 221 = .ok (.aload_n 0, 1) := by decide +kernel
theorem dL_law_222 : decode cL_law 222 = .ok (.iload_n 3, 1) := by decide +kernel
theorem dL_law_223 : decode cL_law 223 = .ok (.iconst 3, 1) := by decide +kernel
theorem dL_law_224 : decode cL_law 224 = .ok (.iadd, 1) := by decide +kernel
theorem dL_law_225 : decode cL_law 225 = .ok (.iaload, 1) := by decide +kernel
theorem dL_law_226 : decode cL_law 226 = .ok (.invokevirtual 31, 3) := by decide +kernel
theorem dL_law_229 : decode cL_law 229 = .ok (.aload_n 2, 1) := by decide +kernel
theorem dL_law_230 : decode cL_law 230 = .ok (.aload_n 0, 1) := by decide +kernel
theorem dL_law_231 : decode cL_law 231 = .ok (.iload_n 3, 1) := by decide +kernel
theorem dL_law_232 : decode cL_law 232 = .ok (.iconst 1, 1) := by decide +kernel
theorem dL_law_233 : decode cL_law 233 = .ok (.iadd, 1) := by decide +kernel
theorem dL_law_234 : decode cL_law 234 = .ok (.iaload, 1) := by decide +kernel
theorem dL_law_235 : decode cL_law 235 = .ok (.aload_n 0, 1) := by decide +kernel
theorem dL_law_236 : decode cL_law 236 = .ok (.iload_n 3, 1) := by decide +kernel
theorem dL_law_237 : decode cL_law 237 = .ok (.iconst 2, 1) := by decide +kernel
theorem dL_law_238 : decode cL_law 238 = .ok (.iadd, 1) := by decide +kernel
theorem dL_law_239 : decode cL_law 239 = .ok (.iaload, 1) := by decide +kernel
theorem dL_law_240 : decode cL_law 240 = .ok (.aload_n 0, 1) := by decide +kernel
theorem dL_law_241 : decode cL_law 241 = .ok (.iload_n 3, 1) := by decide +kernel
theorem dL_law_242 : decode cL_law 242 = .ok (.iconst 3, 1) := by decide +kernel
theorem dL_law_243 : decode cL_law 243 = .ok (.iadd, 1) := by decide +kernel
theorem dL_law_244 : decode cL_law 244 = .ok (.iaload, 1) := by decide +kernel
theorem dL_law_245 : decode cL_law 245 = .ok (.invokevirtual 34, 3) := by decide +kernel
theorem dL_law_248 : decode cL_law 248 = .ok (.if_icmp .eq 463, 3) := by decide +kernel
theorem dL_law_251 : decode cL_law 251 = .ok (.iconst 0, 1) := by decide +kernel
theorem dL_law_252 : decode cL_law 252 = .ok (.ireturn, 1) := by decide +kernel
theorem dL_law_253 : decode cL_law 253 = .ok (.aload_n 1, 1) := by decide +kernel
theorem dL_law_254 : decode cL_law 254 = .ok (.aload_n 0, 1) := by decide +kernel
theorem dL_law_255 : decode cL_law 255 = .ok (.iload_n 3, 1) := by decide +kernel
theorem dL_law_256 : decode cL_law 256 = .ok (.iconst 1, 1) := by decide +kernel
theorem dL_law_257 : decode cL_law 257 = .ok (.iadd, 1) := by decide +kernel
theorem dL_law_258 : decode cL_law 258 = .ok (.iaload, 1) := by decide +kernel
theorem dL_law_259 : decode cL_law 259 = .ok (.aload_n 0, 1) := by decide +kernel
theorem dL_law_260 : decode cL_law 260 = .ok (.iload_n 3, 1) := by decide +kernel
theorem dL_law_261 : decode cL_law 261 = .ok (.iconst 2, 1) := by decide +kernel
theorem dL_law_262 : decode cL_law 262 = .ok (.iadd, 1) := by decide +kernel
theorem dL_law_263 : decode cL_law 263 = .ok (.iaload, 1) := by decide +kernel
theorem dL_law_264 : decode cL_law 264 = .ok (.aload_n 0, 1) := by decide +kernel
theorem dL_law_265 : decode cL_law 265 = .ok (.iload_n 3, 1) := by decide +kernel
theorem dL_law_266 : decode cL_law 266 = .ok (.iconst 3, 1) := by decide +kernel
theorem dL_law_267 : decode cL_law 267 = .ok (.iadd, 1) := by decide +kernel
theorem dL_law_268 : decode cL_law 268 = .ok (.iaload, 1) := by decide +kernel
theorem dL_law_269 : decode cL_law 269 = .ok (.invokevirtual 35, 3) := by decide +kernel
theorem dL_law_272 : decode cL_law 272 = .ok (.aload_n 2, 1) := by decide +kernel
theorem dL_law_273 : decode cL_law 273 = .ok (.aload_n 0, 1) := by decide +kernel
theorem dL_law_274 : decode cL_law 274 = .ok (.iload_n 3, 1) := by decide +kernel
theorem dL_law_275 : decode cL_law 275 = .ok (.iconst 1, 1) := by decide +kernel
theorem dL_law_276 : decode cL_law 276 = .ok (.iadd, 1) := by decide +kernel
theorem dL_law_277 : decode cL_law 277 = .ok (.iaload, 1) := by decide +kernel
theorem dL_law_278 : decode cL_law 278 = .ok (.aload_n 0, 1) := by decide +kernel
theorem dL_law_279 : decode cL_law 279 = .ok (.iload_n 3, 1) := by decide +kernel
theorem dL_law_280 : decode cL_law 280 = .ok (.iconst 2, 1) := by decide +kernel
theorem dL_law_281 : decode cL_law 281 = .ok (.iadd, 1) := by decide +kernel
theorem dL_law_282 : decode cL_law 282 = .ok (.iaload, 1) := by decide +kernel
theorem dL_law_283 : decode cL_law 283 = .ok (.aload_n 0, 1) := by decide +kernel
theorem dL_law_284 : decode cL_law 284 = .ok (.iload_n 3, 1) := by decide +kernel
theorem dL_law_285 : decode cL_law 285 = .ok (.iconst 3, 1) := by decide +kernel
theorem dL_law_286 : decode cL_law 286 = .ok (.iadd, 1) := by decide +kernel
theorem dL_law_287 : decode cL_law 287 = .ok (.iaload, 1) := by decide +kernel
theorem dL_law_288 : decode cL_law 288 = .ok (.invokevirtual 39, 3) := by decide +kernel
theorem dL_law_291 : decode cL_law 291 = .ok (.if_icmp .eq 420, 3) := by decide +kernel
theorem dL_law_294 : decode cL_law 294 = .ok (.iconst 0, 1) := by decide +kernel
theorem dL_law_295 : decode cL_law 295 = .ok (.ireturn, 1) := by decide +kernel
theorem dL_law_296 : decode cL_law 296 = .ok (.aload_n 1, 1) := by decide +kernel
theorem dL_law_297 : decode cL_law 297 = .ok (.aload_n 0, 1) := by decide +kernel
theorem dL_law_298 : decode cL_law 298 = .ok (.iload_n 3, 1) := by decide +kernel
theorem dL_law_299 : decode cL_law 299 = .ok (.iconst 1, 1) := by decide +kernel
theorem dL_law_300 : decode cL_law 300 = .ok (.iadd, 1) := by decide +kernel
theorem dL_law_301 : decode cL_law 301 = .ok (.iaload, 1) := by decide +kernel
theorem dL_law_302 : decode cL_law 302 = .ok (.invokevirtual 40, 3) := by decide +kernel
theorem dL_law_305 : decode cL_law 305 = .ok (.aload_n 2, 1) := by decide +kernel
theorem dL_law_306 : decode cL_law 306 = .ok (.aload_n 0, 1) := by decide +kernel
theorem dL_law_307 : decode cL_law 307 = .ok (.iload_n 3, 1) := by decide +kernel
theorem dL_law_308 : decode cL_law 308 = .ok (.iconst 1, 1) := by decide +kernel
theorem dL_law_309 : decode cL_law 309 = .ok (.iadd, 1) := by decide +kernel
theorem dL_law_310 : decode cL_law 310 = .ok (.iaload, 1) := by decide +kernel
theorem dL_law_311 : decode cL_law 311 = .ok (.invokevirtual 43, 3) := by decide +kernel
theorem dL_law_314 : decode cL_law 314 = .ok (.if_icmp .eq 397, 3) := by decide +kernel
theorem dL_law_317 : decode cL_law 317 = .ok (.iconst 0, 1) := by decide +kernel
theorem dL_law_318 : decode cL_law 318 = .ok (.ireturn, 1) := by decide +kernel
theorem dL_law_319 : decode cL_law 319 = .ok (.aload_n 1, 1) := by decide +kernel
theorem dL_law_320 : decode cL_law 320 = .ok (.aload_n 0, 1) := by decide +kernel
theorem dL_law_321 : decode cL_law 321 = .ok (.iload_n 3, 1) := by decide +kernel
theorem dL_law_322 : decode cL_law 322 = .ok (.iconst 1, 1) := by decide +kernel
theorem dL_law_323 : decode cL_law 323 = .ok (.iadd, 1) := by decide +kernel
theorem dL_law_324 : decode cL_law 324 = .ok (.iaload, 1) := by decide +kernel
theorem dL_law_325 : decode cL_law 325 = .ok (.aload_n 0, 1) := by decide +kernel
theorem dL_law_326 : decode cL_law 326 = .ok (.iload_n 3, 1) := by decide +kernel
theorem dL_law_327 : decode cL_law 327 = .ok (.iconst 2, 1) := by decide +kernel
theorem dL_law_328 : decode cL_law 328 = .ok (.iadd, 1) := by decide +kernel
theorem dL_law_329 : decode cL_law 329 = .ok (.iaload, 1) := by decide +kernel
theorem dL_law_330 : decode cL_law 330 = .ok (.invokevirtual 44, 3) := by decide +kernel
theorem dL_law_333 : decode cL_law 333 = .ok (.aload_n 2, 1) := by decide +kernel
theorem dL_law_334 : decode cL_law 334 = .ok (.aload_n 0, 1) := by decide +kernel
theorem dL_law_335 : decode cL_law 335 = .ok (.iload_n 3, 1) := by decide +kernel
theorem dL_law_336 : decode cL_law 336 = .ok (.iconst 1, 1) := by decide +kernel
theorem dL_law_337 : decode cL_law 337 = .ok (.iadd, 1) := by decide +kernel
theorem dL_law_338 : decode cL_law 338 = .ok (.iaload, 1) := by decide +kernel
theorem dL_law_339 : decode cL_law 339 = .ok (.aload_n 0, 1) := by decide +kernel
theorem dL_law_340 : decode cL_law 340 = .ok (.iload_n 3, 1) := by decide +kernel
theorem dL_law_341 : decode cL_law 341 = .ok (.iconst 2, 1) := by decide +kernel
theorem dL_law_342 : decode cL_law 342 = .ok (.iadd, 1) := by decide +kernel
theorem dL_law_343 : decode cL_law 343 = .ok (.iaload, 1) := by decide +kernel
theorem dL_law_344 : decode cL_law 344 = .ok (.invokevirtual 48, 3) := by decide +kernel
theorem dL_law_347 : decode cL_law 347 = .ok (.if_icmp .eq 364, 3) := by decide +kernel
theorem dL_law_350 : decode cL_law 350 = .ok (.iconst 0, 1) := by decide +kernel
theorem dL_law_351 : decode cL_law 351 = .ok (.ireturn, 1) := by decide +kernel
theorem dL_law_352 : decode cL_law 352 = .ok (.aload_n 1, 1) := by decide +kernel
theorem dL_law_353 : decode cL_law 353 = .ok (.invokevirtual 49, 3) := by decide +kernel
theorem dL_law_356 : decode cL_law 356 = .ok (.aload_n 2, 1) := by decide +kernel
theorem dL_law_357 : decode cL_law 357 = .ok (.invokevirtual 53, 3) := by decide +kernel
theorem dL_law_360 : decode cL_law 360 = .ok (.if_icmp .eq 351, 3) := by decide +kernel
theorem dL_law_363 : decode cL_law 363 = .ok (.iconst 0, 1) := by decide +kernel
theorem dL_law_364 : decode cL_law 364 = .ok (.ireturn, 1) := by decide +kernel
theorem dL_law_365 : decode cL_law 365 = .ok (.aload_n 1, 1) := by decide +kernel
theorem dL_law_366 : decode cL_law 366 = .ok (.aload_n 0, 1) := by decide +kernel
theorem dL_law_367 : decode cL_law 367 = .ok (.iload_n 3, 1) := by decide +kernel
theorem dL_law_368 : decode cL_law 368 = .ok (.iconst 1, 1) := by decide +kernel
theorem dL_law_369 : decode cL_law 369 = .ok (.iadd, 1) := by decide +kernel
theorem dL_law_370 : decode cL_law 370 = .ok (.iaload, 1) := by decide +kernel
theorem dL_law_371 : decode cL_law 371 = .ok (.invokevirtual 54, 3) := by decide +kernel
theorem dL_law_374 : decode cL_law 374 = .ok (.aload_n 2, 1) := by decide +kernel
theorem dL_law_375 : decode cL_law 375 = .ok (.aload_n 0, 1) := by decide +kernel
theorem dL_law_376 : decode cL_law 376 = .ok (.iload_n 3, 1) := by decide +kernel
theorem dL_law_377 : decode cL_law 377 = .ok (.iconst 1, 1) := by decide +kernel
theorem dL_law_378 : decode cL_law 378 = .ok (.iadd, 1) := by decide +kernel
theorem dL_law_379 : decode cL_law 379 = .ok (.iaload, 1) := by decide +kernel
theorem dL_law_380 : decode cL_law 380 = .ok (.invokevirtual 58, 3) := by decide +kernel
theorem dL_law_383 : decode cL_law 383 = .ok (.if_icmp .eq 328, 3) := by decide +kernel
theorem dL_law_386 : decode cL_law 386 = .ok (.iconst 0, 1) := by decide +kernel
theorem dL_law_387 : decode cL_law 387 = .ok (.ireturn, 1) := by decide +kernel
theorem dL_law_388 : decode cL_law 388 = .ok (.aload_n 1, 1) := by decide +kernel
theorem dL_law_389 : decode cL_law 389 = .ok (.aload_n 0, 1) := by decide +kernel
theorem dL_law_390 : decode cL_law 390 = .ok (.iload_n 3, 1) := by decide +kernel
theorem dL_law_391 : decode cL_law 391 = .ok (.iconst 1, 1) := by decide +kernel
theorem dL_law_392 : decode cL_law 392 = .ok (.iadd, 1) := by decide +kernel
theorem dL_law_393 : decode cL_law 393 = .ok (.iaload, 1) := by decide +kernel
theorem dL_law_394 : decode cL_law 394 = .ok (.aload_n 0, 1) := by decide +kernel
theorem dL_law_395 : decode cL_law 395 = .ok (.iload_n 3, 1) := by decide +kernel
theorem dL_law_396 : decode cL_law 396 = .ok (.iconst 2, 1) := by decide +kernel
theorem dL_law_397 : decode cL_law 397 = .ok (.iadd, 1) := by decide +kernel
theorem dL_law_398 : decode cL_law 398 = .ok (.iaload, 1) := by decide +kernel
theorem dL_law_399 : decode cL_law 399 = .ok (.invokevirtual 59, 3) := by decide +kernel
theorem dL_law_402 : decode cL_law 402 = .ok (.aload_n 2, 1) := by decide +kernel
theorem dL_law_403 : decode cL_law 403 = .ok (.aload_n 0, 1) := by decide +kernel
theorem dL_law_404 : decode cL_law 404 = .ok (.iload_n 3, 1) := by decide +kernel
theorem dL_law_405 : decode cL_law 405 = .ok (.iconst 1, 1) := by decide +kernel
theorem dL_law_406 : decode cL_law 406 = .ok (.iadd, 1) := by decide +kernel
theorem dL_law_407 : decode cL_law 407 = .ok (.iaload, 1) := by decide +kernel
theorem dL_law_408 : decode cL_law 408 = .ok (.aload_n 0, 1) := by decide +kernel
theorem dL_law_409 : decode cL_law 409 = .ok (.iload_n 3, 1) := by decide +kernel
theorem dL_law_410 : decode cL_law 410 = .ok (.iconst 2, 1) := by decide +kernel
theorem dL_law_411 : decode cL_law 411 = .ok (.iadd, 1) := by decide +kernel
theorem dL_law_412 : decode cL_law 412 = .ok (.iaload, 1) := by decide +kernel
theorem dL_law_413 : decode cL_law 413 = .ok (.invokevirtual 62, 3) := by decide +kernel
theorem dL_law_416 : decode cL_law 416 = .ok (.if_icmp .eq 295, 3) := by decide +kernel
theorem dL_law_419 : decode cL_law 419 = .ok (.iconst 0, 1) := by decide +kernel
theorem dL_law_420 : decode cL_law 420 = .ok (.ireturn, 1) := by decide +kernel
theorem dL_law_421 : decode cL_law 421 = .ok (.aload_n 1, 1) := by decide +kernel
theorem dL_law_422 : decode cL_law 422 = .ok (.aload_n 0, 1) := by decide +kernel
theorem dL_law_423 : decode cL_law 423 = .ok (.iload_n 3, 1) := by decide +kernel
theorem dL_law_424 : decode cL_law 424 = .ok (.iconst 1, 1) := by decide +kernel
theorem dL_law_425 : decode cL_law 425 = .ok (.iadd, 1) := by decide +kernel
theorem dL_law_426 : decode cL_law 426 = .ok (.iaload, 1) := by decide +kernel
theorem dL_law_427 : decode cL_law 427 = .ok (.invokevirtual 63, 3) := by decide +kernel
theorem dL_law_430 : decode cL_law 430 = .ok (.aload_n 2, 1) := by decide +kernel
theorem dL_law_431 : decode cL_law 431 = .ok (.aload_n 0, 1) := by decide +kernel
theorem dL_law_432 : decode cL_law 432 = .ok (.iload_n 3, 1) := by decide +kernel
theorem dL_law_433 : decode cL_law 433 = .ok (.iconst 1, 1) := by decide +kernel
theorem dL_law_434 : decode cL_law 434 = .ok (.iadd, 1) := by decide +kernel
theorem dL_law_435 : decode cL_law 435 = .ok (.iaload, 1) := by decide +kernel
theorem dL_law_436 : decode cL_law 436 = .ok (.invokevirtual 66, 3) := by decide +kernel
theorem dL_law_439 : decode cL_law 439 = .ok (.if_icmp .eq 272, 3) := by decide +kernel
theorem dL_law_442 : decode cL_law 442 = .ok (.iconst 0, 1) := by decide +kernel
theorem dL_law_443 : decode cL_law 443 = .ok (.ireturn, 1) := by decide +kernel
theorem dL_law_444 : decode cL_law 444 = .ok (.aload_n 1, 1) := by decide +kernel
theorem dL_law_445 : decode cL_law 445 = .ok (.aload_n 0, 1) := by decide +kernel
theorem dL_law_446 : decode cL_law 446 = .ok (.iload_n 3, 1) := by decide +kernel
theorem dL_law_447 : decode cL_law 447 = .ok (.iconst 1, 1) := by decide +kernel
theorem dL_law_448 : decode cL_law 448 = .ok (.iadd, 1) := by decide +kernel
theorem dL_law_449 : decode cL_law 449 = .ok (.iaload, 1) := by decide +kernel
theorem dL_law_450 : decode cL_law 450 = .ok (.invokevirtual 67, 3) := by decide +kernel
theorem dL_law_453 : decode cL_law 453 = .ok (.aload_n 2, 1) := by decide +kernel
theorem dL_law_454 : decode cL_law 454 = .ok (.aload_n 0, 1) := by decide +kernel
theorem dL_law_455 : decode cL_law 455 = .ok (.iload_n 3, 1) := by decide +kernel
theorem dL_law_456 : decode cL_law 456 = .ok (.iconst 1, 1) := by decide +kernel
theorem dL_law_457 : decode cL_law 457 = .ok (.iadd, 1) := by decide +kernel
theorem dL_law_458 : decode cL_law 458 = .ok (.iaload, 1) := by decide +kernel
theorem dL_law_459 : decode cL_law 459 = .ok (.invokevirtual 70, 3) := by decide +kernel
theorem dL_law_462 : decode cL_law 462 = .ok (.if_icmp .eq 249, 3) := by decide +kernel
theorem dL_law_465 : decode cL_law 465 = .ok (.iconst 0, 1) := by decide +kernel
theorem dL_law_466 : decode cL_law 466 = .ok (.ireturn, 1) := by decide +kernel
theorem dL_law_467 : decode cL_law 467 = .ok (.aload_n 1, 1) := by decide +kernel
theorem dL_law_468 : decode cL_law 468 = .ok (.aload_n 0, 1) := by decide +kernel
theorem dL_law_469 : decode cL_law 469 = .ok (.iload_n 3, 1) := by decide +kernel
theorem dL_law_470 : decode cL_law 470 = .ok (.iconst 1, 1) := by decide +kernel
theorem dL_law_471 : decode cL_law 471 = .ok (.iadd, 1) := by decide +kernel
theorem dL_law_472 : decode cL_law 472 = .ok (.iaload, 1) := by decide +kernel
theorem dL_law_473 : decode cL_law 473 = .ok (.invokevirtual 71, 3) := by decide +kernel
theorem dL_law_476 : decode cL_law 476 = .ok (.aload_n 2, 1) := by decide +kernel
theorem dL_law_477 : decode cL_law 477 = .ok (.aload_n 0, 1) := by decide +kernel
theorem dL_law_478 : decode cL_law 478 = .ok (.iload_n 3, 1) := by decide +kernel
theorem dL_law_479 : decode cL_law 479 = .ok (.iconst 1, 1) := by decide +kernel
theorem dL_law_480 : decode cL_law 480 = .ok (.iadd, 1) := by decide +kernel
theorem dL_law_481 : decode cL_law 481 = .ok (.iaload, 1) := by decide +kernel
theorem dL_law_482 : decode cL_law 482 = .ok (.invokevirtual 74, 3) := by decide +kernel
theorem dL_law_485 : decode cL_law 485 = .ok (.if_icmp .eq 226, 3) := by decide +kernel
theorem dL_law_488 : decode cL_law 488 = .ok (.iconst 0, 1) := by decide +kernel
theorem dL_law_489 : decode cL_law 489 = .ok (.ireturn, 1) := by decide +kernel
theorem dL_law_490 : decode cL_law 490 = .ok (.aload_n 1, 1) := by decide +kernel
theorem dL_law_491 : decode cL_law 491 = .ok (.aload_n 0, 1) := by decide +kernel
theorem dL_law_492 : decode cL_law 492 = .ok (.iload_n 3, 1) := by decide +kernel
theorem dL_law_493 : decode cL_law 493 = .ok (.iconst 1, 1) := by decide +kernel
theorem dL_law_494 : decode cL_law 494 = .ok (.iadd, 1) := by decide +kernel
theorem dL_law_495 : decode cL_law 495 = .ok (.iaload, 1) := by decide +kernel
theorem dL_law_496 : decode cL_law 496 = .ok (.aload_n 0, 1) := by decide +kernel
theorem dL_law_497 : decode cL_law 497 = .ok (.iload_n 3, 1) := by decide +kernel
theorem dL_law_498 : decode cL_law 498 = .ok (.iconst 2, 1) := by decide +kernel
theorem dL_law_499 : decode cL_law 499 = .ok (.iadd, 1) := by decide +kernel
theorem dL_law_500 : decode cL_law 500 = .ok (.iaload, 1) := by decide +kernel
theorem dL_law_501 : decode cL_law 501 = .ok (.invokevirtual 75, 3) := by decide +kernel
theorem dL_law_504 : decode cL_law 504 = .ok (.aload_n 2, 1) := by decide +kernel
theorem dL_law_505 : decode cL_law 505 = .ok (.aload_n 0, 1) := by decide +kernel
theorem dL_law_506 : decode cL_law 506 = .ok (.iload_n 3, 1) := by decide +kernel
theorem dL_law_507 : decode cL_law 507 = .ok (.iconst 1, 1) := by decide +kernel
theorem dL_law_508 : decode cL_law 508 = .ok (.iadd, 1) := by decide +kernel
theorem dL_law_509 : decode cL_law 509 = .ok (.iaload, 1) := by decide +kernel
theorem dL_law_510 : decode cL_law 510 = .ok (.aload_n 0, 1) := by decide +kernel
theorem dL_law_511 : decode cL_law 511 = .ok (.iload_n 3, 1) := by decide +kernel
theorem dL_law_512 : decode cL_law 512 = .ok (.iconst 2, 1) := by decide +kernel
theorem dL_law_513 : decode cL_law 513 = .ok (.iadd, 1) := by decide +kernel
theorem dL_law_514 : decode cL_law 514 = .ok (.iaload, 1) := by decide +kernel
theorem dL_law_515 : decode cL_law 515 = .ok (.invokevirtual 79, 3) := by decide +kernel
theorem dL_law_518 : decode cL_law 518 = .ok (.if_icmp .eq 193, 3) := by decide +kernel
theorem dL_law_521 : decode cL_law 521 = .ok (.iconst 0, 1) := by decide +kernel
theorem dL_law_522 : decode cL_law 522 = .ok (.ireturn, 1) := by decide +kernel
theorem dL_law_523 : decode cL_law 523 = .ok (.aload_n 1, 1) := by decide +kernel
theorem dL_law_524 : decode cL_law 524 = .ok (.aload_n 0, 1) := by decide +kernel
theorem dL_law_525 : decode cL_law 525 = .ok (.iload_n 3, 1) := by decide +kernel
theorem dL_law_526 : decode cL_law 526 = .ok (.iconst 1, 1) := by decide +kernel
theorem dL_law_527 : decode cL_law 527 = .ok (.iadd, 1) := by decide +kernel
theorem dL_law_528 : decode cL_law 528 = .ok (.iaload, 1) := by decide +kernel
theorem dL_law_529 : decode cL_law 529 = .ok (.aload_n 0, 1) := by decide +kernel
theorem dL_law_530 : decode cL_law 530 = .ok (.iload_n 3, 1) := by decide +kernel
theorem dL_law_531 : decode cL_law 531 = .ok (.iconst 2, 1) := by decide +kernel
theorem dL_law_532 : decode cL_law 532 = .ok (.iadd, 1) := by decide +kernel
theorem dL_law_533 : decode cL_law 533 = .ok (.iaload, 1) := by decide +kernel
theorem dL_law_534 : decode cL_law 534 = .ok (.aload_n 0, 1) := by decide +kernel
theorem dL_law_535 : decode cL_law 535 = .ok (.iload_n 3, 1) := by decide +kernel
theorem dL_law_536 : decode cL_law 536 = .ok (.iconst 3, 1) := by decide +kernel
theorem dL_law_537 : decode cL_law 537 = .ok (.iadd, 1) := by decide +kernel
theorem dL_law_538 : decode cL_law 538 = .ok (.iaload, 1) := by decide +kernel
theorem dL_law_539 : decode cL_law 539 = .ok (.aload_n 0, 1) := by decide +kernel
theorem dL_law_540 : decode cL_law 540 = .ok (.iload_n 3, 1) := by decide +kernel
theorem dL_law_541 : decode cL_law 541 = .ok (.iconst 4, 1) := by decide +kernel
theorem dL_law_542 : decode cL_law 542 = .ok (.iadd, 1) := by decide +kernel
theorem dL_law_543 : decode cL_law 543 = .ok (.iaload, 1) := by decide +kernel
theorem dL_law_544 : decode cL_law 544 = .ok (.aload_n 0, 1) := by decide +kernel
theorem dL_law_545 : decode cL_law 545 = .ok (.iload_n 3, 1) := by decide +kernel
theorem dL_law_546 : decode cL_law 546 = .ok (.iconst 5, 1) := by decide +kernel
theorem dL_law_547 : decode cL_law 547 = .ok (.iadd, 1) := by decide +kernel
theorem dL_law_548 : decode cL_law 548 = .ok (.iaload, 1) := by decide +kernel
theorem dL_law_549 : decode cL_law 549 = .ok (.invokevirtual 80, 3) := by decide +kernel
theorem dL_law_552 : decode cL_law 552 = .ok (.aload_n 2, 1) := by decide +kernel
theorem dL_law_553 : decode cL_law 553 = .ok (.aload_n 0, 1) := by decide +kernel
theorem dL_law_554 : decode cL_law 554 = .ok (.iload_n 3, 1) := by decide +kernel
theorem dL_law_555 : decode cL_law 555 = .ok (.iconst 1, 1) := by decide +kernel
theorem dL_law_556 : decode cL_law 556 = .ok (.iadd, 1) := by decide +kernel
theorem dL_law_557 : decode cL_law 557 = .ok (.iaload, 1) := by decide +kernel
theorem dL_law_558 : decode cL_law 558 = .ok (.aload_n 0, 1) := by decide +kernel
theorem dL_law_559 : decode cL_law 559 = .ok (.iload_n 3, 1) := by decide +kernel
theorem dL_law_560 : decode cL_law 560 = .ok (.iconst 2, 1) := by decide +kernel
theorem dL_law_561 : decode cL_law 561 = .ok (.iadd, 1) := by decide +kernel
theorem dL_law_562 : decode cL_law 562 = .ok (.iaload, 1) := by decide +kernel
theorem dL_law_563 : decode cL_law 563 = .ok (.aload_n 0, 1) := by decide +kernel
theorem dL_law_564 : decode cL_law 564 = .ok (.iload_n 3, 1) := by decide +kernel
theorem dL_law_565 : decode cL_law 565 = .ok (.iconst 3, 1) := by decide +kernel
theorem dL_law_566 : decode cL_law 566 = .ok (.iadd, 1) := by decide +kernel
theorem dL_law_567 : decode cL_law 567 = .ok (.iaload, 1) := by decide +kernel
theorem dL_law_568 : decode cL_law 568 = .ok (.aload_n 0, 1) := by decide +kernel
theorem dL_law_569 : decode cL_law 569 = .ok (.iload_n 3, 1) := by decide +kernel
theorem dL_law_570 : decode cL_law 570 = .ok (.iconst 4, 1) := by decide +kernel
theorem dL_law_571 : decode cL_law 571 = .ok (.iadd, 1) := by decide +kernel
theorem dL_law_572 : decode cL_law 572 = .ok (.iaload, 1) := by decide +kernel
theorem dL_law_573 : decode cL_law 573 = .ok (.aload_n 0, 1) := by decide +kernel
theorem dL_law_574 : decode cL_law 574 = .ok (.iload_n 3, 1) := by decide +kernel
theorem dL_law_575 : decode cL_law 575 = .ok (.iconst 5, 1) := by decide +kernel
theorem dL_law_576 : decode cL_law 576 = .ok (.iadd, 1) := by decide +kernel
theorem dL_law_577 : decode cL_law 577 = .ok (.iaload, 1) := by decide +kernel
theorem dL_law_578 : decode cL_law 578 = .ok (.invokevirtual 84, 3) := by decide +kernel
theorem dL_law_581 : decode cL_law 581 = .ok (.if_icmp .eq 130, 3) := by decide +kernel
theorem dL_law_584 : decode cL_law 584 = .ok (.iconst 0, 1) := by decide +kernel
theorem dL_law_585 : decode cL_law 585 = .ok (.ireturn, 1) := by decide +kernel
theorem dL_law_586 : decode cL_law 586 = .ok (.aload_n 1, 1) := by decide +kernel
theorem dL_law_587 : decode cL_law 587 = .ok (.aload_n 0, 1) := by decide +kernel
theorem dL_law_588 : decode cL_law 588 = .ok (.iload_n 3, 1) := by decide +kernel
theorem dL_law_589 : decode cL_law 589 = .ok (.iconst 1, 1) := by decide +kernel
theorem dL_law_590 : decode cL_law 590 = .ok (.iadd, 1) := by decide +kernel
theorem dL_law_591 : decode cL_law 591 = .ok (.iaload, 1) := by decide +kernel
theorem dL_law_592 : decode cL_law 592 = .ok (.invokevirtual 85, 3) := by decide +kernel
theorem dL_law_595 : decode cL_law 595 = .ok (.aload_n 2, 1) := by decide +kernel
theorem dL_law_596 : decode cL_law 596 = .ok (.aload_n 0, 1) := by decide +kernel
theorem dL_law_597 : decode cL_law 597 = .ok (.iload_n 3, 1) := by decide +kernel
theorem dL_law_598 : decode cL_law 598 = .ok (.iconst 1, 1) := by decide +kernel
theorem dL_law_599 : decode cL_law 599 = .ok (.iadd, 1) := by decide +kernel
theorem dL_law_600 : decode cL_law 600 = .ok (.iaload, 1) := by decide +kernel
theorem dL_law_601 : decode cL_law 601 = .ok (.invokevirtual 88, 3) := by decide +kernel
theorem dL_law_604 : decode cL_law 604 = .ok (.if_icmp .eq 107, 3) := by decide +kernel
theorem dL_law_607 : decode cL_law 607 = .ok (.iconst 0, 1) := by decide +kernel
theorem dL_law_608 : decode cL_law 608 = .ok (.ireturn, 1) := by decide +kernel
theorem dL_law_609 : decode cL_law 609 = .ok (.aload_n 1, 1) := by decide +kernel
theorem dL_law_610 : decode cL_law 610 = .ok (.invokevirtual 89, 3) := by decide +kernel
theorem dL_law_613 : decode cL_law 613 = .ok (.aload_n 2, 1) := by decide +kernel
theorem dL_law_614 : decode cL_law 614 = .ok (.invokevirtual 92, 3) := by decide +kernel
theorem dL_law_617 : decode cL_law 617 = .ok (.if_icmp .eq 94, 3) := by decide +kernel
theorem dL_law_620 : decode cL_law 620 = .ok (.iconst 0, 1) := by decide +kernel
theorem dL_law_621 : decode cL_law 621 = .ok (.ireturn, 1) := by decide +kernel
theorem dL_law_622 : decode cL_law 622 = .ok (.aload_n 1, 1) := by decide +kernel
theorem dL_law_623 : decode cL_law 623 = .ok (.aload_n 0, 1) := by decide +kernel
theorem dL_law_624 : decode cL_law 624 = .ok (.iload_n 3, 1) := by decide +kernel
theorem dL_law_625 : decode cL_law 625 = .ok (.iconst 1, 1) := by decide +kernel
theorem dL_law_626 : decode cL_law 626 = .ok (.iadd, 1) := by decide +kernel
theorem dL_law_627 : decode cL_law 627 = .ok (.iaload, 1) := by decide +kernel
theorem dL_law_628 : decode cL_law 628 = .ok (.aload_n 0, 1) := by decide +kernel
theorem dL_law_629 : decode cL_law 629 = .ok (.iload_n 3, 1) := by decide +kernel
theorem dL_law_630 : decode cL_law 630 = .ok (.iconst 2, 1) := by decide +kernel
theorem dL_law_631 : decode cL_law 631 = .ok (.iadd, 1) := by decide +kernel
theorem dL_law_632 : decode cL_law 632 = .ok (.iaload, 1) := by decide +kernel
theorem dL_law_633 : decode cL_law 633 = .ok (.invokevirtual 93, 3) := by decide +kernel
theorem dL_law_636 : decode cL_law 636 = .ok (.aload_n 2, 1) := by decide +kernel
theorem dL_law_637 : decode cL_law 637 = .ok (.aload_n 0, 1) := by decide +kernel
theorem dL_law_638 : decode cL_law 638 = .ok (.iload_n 3, 1) := by decide +kernel
theorem dL_law_639 : decode cL_law 639 = .ok (.iconst 1, 1) := by decide +kernel
theorem dL_law_640 : decode cL_law 640 = .ok (.iadd, 1) := by decide +kernel
theorem dL_law_641 : decode cL_law 641 = .ok (.iaload, 1) := by decide +kernel
theorem dL_law_642 : decode cL_law 642 = .ok (.aload_n 0, 1) := by decide +kernel
theorem dL_law_643 : decode cL_law 643 = .ok (.iload_n 3, 1) := by decide +kernel
theorem dL_law_644 : decode cL_law 644 = .ok (.iconst 2, 1) := by decide +kernel
theorem dL_law_645 : decode cL_law 645 = .ok (.iadd, 1) := by decide +kernel
theorem dL_law_646 : decode cL_law 646 = .ok (.iaload, 1) := by decide +kernel
theorem dL_law_647 : decode cL_law 647 = .ok (.invokevirtual 96, 3) := by decide +kernel
theorem dL_law_650 : decode cL_law 650 = .ok (.if_icmp .eq 61, 3) := by decide +kernel
theorem dL_law_653 : decode cL_law 653 = .ok (.iconst 0, 1) := by decide +kernel
theorem dL_law_654 : decode cL_law 654 = .ok (.ireturn, 1) := by decide +kernel
theorem dL_law_655 : decode cL_law 655 = .ok (.aload_n 1, 1) := by decide +kernel
theorem dL_law_656 : decode cL_law 656 = .ok (.aload_n 0, 1) := by decide +kernel
theorem dL_law_657 : decode cL_law 657 = .ok (.iload_n 3, 1) := by decide +kernel
theorem dL_law_658 : decode cL_law 658 = .ok (.iconst 1, 1) := by decide +kernel
theorem dL_law_659 : decode cL_law 659 = .ok (.iadd, 1) := by decide +kernel
theorem dL_law_660 : decode cL_law 660 = .ok (.iaload, 1) := by decide +kernel
theorem dL_law_661 : decode cL_law 661 = .ok (.aload_n 0, 1) := by decide +kernel
theorem dL_law_662 : decode cL_law 662 = .ok (.iload_n 3, 1) := by decide +kernel
theorem dL_law_663 : decode cL_law 663 = .ok (.iconst 2, 1) := by decide +kernel
theorem dL_law_664 : decode cL_law 664 = .ok (.iadd, 1) := by decide +kernel
theorem dL_law_665 : decode cL_law 665 = .ok (.iaload, 1) := by decide +kernel
theorem dL_law_666 : decode cL_law 666 = .ok (.invokevirtual 97, 3) := by decide +kernel
theorem dL_law_669 : decode cL_law 669 = .ok (.aload_n 2, 1) := by decide +kernel
theorem dL_law_670 : decode cL_law 670 = .ok (.aload_n 0, 1) := by decide +kernel
theorem dL_law_671 : decode cL_law 671 = .ok (.iload_n 3, 1) := by decide +kernel
theorem dL_law_672 : decode cL_law 672 = .ok (.iconst 1, 1) := by decide +kernel
theorem dL_law_673 : decode cL_law 673 = .ok (.iadd, 1) := by decide +kernel
theorem dL_law_674 : decode cL_law 674 = .ok (.iaload, 1) := by decide +kernel
theorem dL_law_675 : decode cL_law 675 = .ok (.aload_n 0, 1) := by decide +kernel
theorem dL_law_676 : decode cL_law 676 = .ok (.iload_n 3, 1) := by decide +kernel
theorem dL_law_677 : decode cL_law 677 = .ok (.iconst 2, 1) := by decide +kernel
theorem dL_law_678 : decode cL_law 678 = .ok (.iadd, 1) := by decide +kernel
theorem dL_law_679 : decode cL_law 679 = .ok (.iaload, 1) := by decide +kernel
theorem dL_law_680 : decode cL_law 680 = .ok (.invokevirtual 100, 3) := by decide +kernel
theorem dL_law_683 : decode cL_law 683 = .ok (.if_icmp .eq 28, 3) := by decide +kernel
theorem dL_law_686 : decode cL_law 686 = .ok (.iconst 0, 1) := by decide +kernel
theorem dL_law_687 : decode cL_law 687 = .ok (.ireturn, 1) := by decide +kernel
theorem dL_law_688 : decode cL_law 688 = .ok (.aload_n 1, 1) := by decide +kernel
theorem dL_law_689 : decode cL_law 689 = .ok (.aload_n 0, 1) := by decide +kernel
theorem dL_law_690 : decode cL_law 690 = .ok (.iload_n 3, 1) := by decide +kernel
theorem dL_law_691 : decode cL_law 691 = .ok (.iconst 1, 1) := by decide +kernel
theorem dL_law_692 : decode cL_law 692 = .ok (.iadd, 1) := by decide +kernel
theorem dL_law_693 : decode cL_law 693 = .ok (.iaload, 1) := by decide +kernel
theorem dL_law_694 : decode cL_law 694 = .ok (.invokevirtual 101, 3) := by decide +kernel
theorem dL_law_697 : decode cL_law 697 = .ok (.aload_n 2, 1) := by decide +kernel
theorem dL_law_698 : decode cL_law 698 = .ok (.aload_n 0, 1) := by decide +kernel
theorem dL_law_699 : decode cL_law 699 = .ok (.iload_n 3, 1) := by decide +kernel
theorem dL_law_700 : decode cL_law 700 = .ok (.iconst 1, 1) := by decide +kernel
theorem dL_law_701 : decode cL_law 701 = .ok (.iadd, 1) := by decide +kernel
theorem dL_law_702 : decode cL_law 702 = .ok (.iaload, 1) := by decide +kernel
theorem dL_law_703 : decode cL_law 703 = .ok (.invokevirtual 104, 3) := by decide +kernel
theorem dL_law_706 : decode cL_law 706 = .ok (.if_icmp .eq 5, 3) := by decide +kernel
theorem dL_law_709 : decode cL_law 709 = .ok (.iconst 0, 1) := by decide +kernel
theorem dL_law_710 : decode cL_law 710 = .ok (.ireturn, 1) := by decide +kernel
theorem dL_law_711 : decode cL_law 711 = .ok (.iinc 3 6, 3) := by decide +kernel
theorem dL_law_714 : decode cL_law 714 = .ok (.goto (-676), 3) := by decide +kernel
theorem dL_law_717 : decode cL_law 717 = .ok (.iconst 1, 1) := by decide +kernel
theorem dL_law_718 : decode cL_law 718 = .ok (.ireturn, 1) := by decide +kernel
end
section
/-! what is ambient: tables, nest links, the table USUAL, the text constants; z0: below it lies what was there before the law began -/
def NW (U : State) : Prop := va_Nw (.methodLinkNest RX7 9 yX4_init RX7) U ∧ va_Nw (.methodLinkNest RX7 18 yX0_init RX7) U ∧ va_Nw (.methodLinkNest RX7 25 yX2_init RX7) U ∧ va_Nw (.methodLinkNest RX7 32 yX3_init RX7) U ∧ va_Nw (.methodLinkNest RX1 34 yX7_within RX7) U ∧ va_Nw (.methodLinkNest RX6 42 yX7_within RX7) U ∧ va_Nw (.methodLinkNest RX2 22 yX7_within RX7) U ∧ va_Nw (.methodLinkNest RX0 25 yX7_within RX7) U ∧ va_Nw (.methodLinkNest RX3 36 yX7_within RX7) U
theorem NW.warm {s U : State} (hW : s.WarmedH U.vm) (h : NW s) : NW U := by
  obtain ⟨h1, h2, h3, h4, h5, h6, h7, h8, h9⟩ := h
  exact ⟨va_Nw.warmM hW h1, va_Nw.warmM hW h2, va_Nw.warmM hW h3, va_Nw.warmM hW h4, va_Nw.warmM hW h5, va_Nw.warmM hW h6, va_Nw.warmM hW h7, va_Nw.warmM hW h8, va_Nw.warmM hW h9⟩
theorem NW.same {u U : State} (e : u.vm = U.vm) (h : NW u) : NW U := by
  obtain ⟨h1, h2, h3, h4, h5, h6, h7, h8, h9⟩ := h
  exact ⟨va_Nw.same rfl e h1, va_Nw.same rfl e h2, va_Nw.same rfl e h3, va_Nw.same rfl e h4, va_Nw.same rfl e h5, va_Nw.same rfl e h6, va_Nw.same rfl e h7, va_Nw.same rfl e h8, va_Nw.same rfl e h9⟩
def us_L : List Int32 := [50, 200, 9, 100, 30, 50, 10]
def us_V : Nat → Value := fun j => .int (us_L.getD j 0)
def tx_len : List Nat := [2, 5, 4, 5, 4, 7, 4]
def tx_byt : List (List Int32) := [[116, 111], [108, 101, 118, 101, 108], [98, 97, 110, 107], [99, 108, 101, 97, 114], [98, 97, 99, 107], [114, 111, 121, 97, 108, 116, 121], [102, 105, 110, 101]]
def TX (kA : Nat → Nat) (U : State) : Prop := vk_R RX3 71 "to" (kA 0) U ∧ vk_R RX3 77 "level" (kA 1) U ∧ vk_R RX3 79 "bank" (kA 2) U ∧ vk_R RX3 81 "clear" (kA 3) U ∧ vk_R RX3 83 "back" (kA 4) U ∧ vk_R RX3 85 "royalty" (kA 5) U ∧ vk_R RX3 87 "fine" (kA 6) U
theorem TX.warm {kA : Nat → Nat} {s U : State} (hW : s.WarmedH U.vm) (h : TX kA s) : TX kA U := by
  obtain ⟨h1, h2, h3, h4, h5, h6, h7⟩ := h
  exact ⟨h1.warm hW, h2.warm hW, h3.warm hW, h4.warm hW, h5.warm hW, h6.warm hW, h7.warm hW⟩
theorem TX.same {kA : Nat → Nat} {u U : State} (e : U.vm = u.vm) (h : TX kA u) : TX kA U := by
  obtain ⟨h1, h2, h3, h4, h5, h6, h7⟩ := h
  exact ⟨h1.same e, h2.same e, h3.same e, h4.same e, h5.same e, h6.same e, h7.same e⟩
def ST (au : Nat) (kA kV : Nat → Nat) (A : Nat → Prop) (U : State) (H : Heap) : Prop := va_Z RX2 "USUAL" "[I" (.ref au) A U H ∧ va_T .int au 7 us_V A U H ∧ vk_S 7 tx_len tx_byt kA kV A U H ∧ va_Z RJ0 "COMPACT_STRINGS" "Z" (.int 1) A U H ∧ va_Zq RJ3 "SIOOBE_FORMATTER" "Ljava/util/function/BiFunction;" A U H
theorem ST.moved {au : Nat} {kA kV : Nat → Nat} {A : Nat → Prop} {u U : State} {H : Heap} (hvm : u.vm.Alike U.vm) (h : ST au kA kV A u H) : ST au kA kV A U H := by
  obtain ⟨h1, h2, h3, h4, h5⟩ := h
  exact ⟨h1.moved hvm, h2.moved hvm, h3.moved hvm, h4.moved hvm, h5.moved hvm⟩
theorem ST.kept {au : Nat} {kA kV : Nat → Nat} {A : Nat → Prop} {U : State} {H H1 : Heap} (h : ST au kA kV A U H) (hq : ∀ a : Nat, a < H.size → ¬ A a → H1[a]? = H[a]?) : ST au kA kV A U H1 := by
  obtain ⟨h1, h2, h3, h4, h5⟩ := h
  exact ⟨h1.kept hq, h2.kept hq, h3.kept hq, h4.kept hq, h5.kept hq⟩
theorem ST.narrow {au : Nat} {kA kV : Nat → Nat} {A B : Nat → Prop} {U : State} {H : Heap} (h : ST au kA kV A U H) (hAB : ∀ q, B q → A q) : ST au kA kV B U H := by
  obtain ⟨h1, h2, h3, h4, h5⟩ := h
  exact ⟨h1.narrow hAB, h2.narrow hAB, h3.narrow hAB, h4.narrow hAB, h5.narrow hAB⟩
abbrev tyL (cI cZ cB : ClassId) : List (ClassId × FieldType) := [(cI, .int), (cZ, .boolean), (cB, .byte)]
def BS (D : va_G) (cI cZ cB : ClassId) (au : Nat) (kA kV : Nat → Nat) (z0 : Nat) (U : State) : Prop := va_K D vwCl (tyL cI cZ cB) U ∧ NW U ∧ TX kA U ∧ ST au kA kV (fun q => z0 ≤ q) U U.heap
theorem BS.go {D : va_G} {cI cZ cB : ClassId} {au : Nat} {kA kV : Nat → Nat} {z0 : Nat} {s : State} {A : Nat → Prop} {H : Heap} {locs : List Loc} (h : BS D cI cZ cB au kA kV z0 s) (hS : va_S A s.heap H locs) (hA0 : ∀ q, A q → z0 ≤ q) {U : State} (hU : U.heap = H) (hW : s.WarmedH U.vm) : BS D cI cZ cB au kA kV z0 U := by
  obtain ⟨h1, h2, h3, h4⟩ := h
  refine ⟨va_K.moved hW.alike h1, h2.warm hW, h3.warm hW, ?_⟩
  rw [hU]
  exact (h4.kept (fun a ha hn => hS.2.1 a ha (fun q => hn (hA0 a q)))).moved hW.alike
def PRE (D : va_G) (cI cZ cB : ClassId) (au : Nat) (kA kV : Nat → Nat) (z0 sz : Nat) (ws : va_W) (U : State) : Prop := U.heap.size = sz ∧ z0 ≤ sz ∧ va_P D vwCl ws U.heap ∧ va_D (fun q => z0 ≤ q) ws ∧ BS D cI cZ cB au kA kV z0 U
theorem PRE.blind {D : va_G} {cI cZ cB : ClassId} {au : Nat} {kA kV : Nat → Nat} {z0 sz : Nat} {ws : va_W} {av : List Value} : FrameBlind (va_Pc av (PRE D cI cZ cB au kA kV z0 sz ws)) := by
  intro a U g mk q
  obtain ⟨q0, q1, q2, q3, q4, q5, q6, q7, q8⟩ := q
  exact ⟨q0, q1, q2, q3, q4, va_K.moved (u := U) (U := U.calling g mk a) (Vm.Alike.refl U.vm) q5, NW.same (u := U) (U := U.calling g mk a) rfl q6, TX.same (u := U) (U := U.calling g mk a) rfl q7, ST.moved (u := U) (U := U.calling g mk a) (Vm.Alike.refl U.vm) q8⟩
theorem fm_map {α β : Type} {f : α → Option β} {is : List α} {w : List β} (h : is.map f = w.map some) : is.filterMap f = w := by
  have h2 := congrArg (List.filterMap id) h
  rw [List.filterMap_map, List.filterMap_map] at h2
  simpa using h2
/-- what a method answers that makes nothing: the answer, the cells behind it -/
def QI (D : va_G) (wc : va_W) (sz : Nat) (r0 : Int32) (w1 : va_W) : Array Value → State → Outcome → State → Prop := va_Qi (S := Unit) (fun r _ => r = r0) (fun _ t => va_P D vwCl w1 t.heap ∧ va_D (va_A wc sz) w1) (va_A wc sz)
def QV (D : va_G) (wc : va_W) (sz : Nat) (w1 : va_W) : Array Value → State → Outcome → State → Prop := va_Qv (S := Unit) (fun _ => True) (fun _ t => va_P D vwCl w1 t.heap ∧ va_D (va_A wc sz) w1) (va_A wc sz)
def QL (D : va_G) (wc : va_W) (sz : Nat) (r0 : Int64) (w1 : va_W) : Array Value → State → Outcome → State → Prop := va_Ql (S := Unit) (fun r _ => r = r0) (fun _ t => va_P D vwCl w1 t.heap ∧ va_D (va_A wc sz) w1) (va_A wc sz)
section KC
variable {p : Program} {l : Launch} {e : Env} {R : Room} {s : State} {m : MethodId} {args : Array Value} {below : List Frame} {meth : Method} {c : Code} {H : Heap} {locs : List Loc} {cells slots : Nat} {Q : State → Prop}
variable {pc : Nat} {ls : Array Slot} {rest st0 As : List Value} {a : Array Value} {A : Nat → Prop} {b : Nat} {D : va_G} {cI cZ cB : ClassId} {au : Nat} {kA kV : Nat → Nat} {z0 : Nat} {ws wc w1 w2 : va_W} {r0 : Int32} {rl : Int64}
/-- the frame rule for a call: cut the callee's cells out, put them back -/
theorem k_i (hr : va_Run p l e R s m args below meth c H locs cells slots 0 0 (F0 m pc ls st0) rest (QI D wc H.size r0 w1 a) (va_A wc H.size)) (hP : va_P D vwCl ws H) (hD : va_D A ws) (hS : va_S A s.heap H locs) (hA : ∀ q, s.heap.size ≤ q → A q) (isC isR isX : List Nat) (hC : isC.map (fun i => ws[i]?) = wc.map some) (hR : isR.map (fun i => ws[i]?) = (isR.filterMap (fun i => ws[i]?)).map some) (hX : isX.map (fun i => (isR.filterMap (fun i => ws[i]?) ++ w1)[i]?) = w2.map some) (hn : (va_nd isR && va_nd isX) = true) (hdis : isR.all (fun i => decide (i ∉ isC)) = true)
    (kk : ∀ (H1 : Heap) (locs1 : List Loc), va_P D vwCl w2 H1 → va_D A w2 → va_S A s.heap H1 locs1 → W p l e R s m args below meth c H1 locs1 cells slots Q (F0 m (pc + 3) ls (.int r0 :: rest))) : W p l e R s m args below meth c H locs cells slots Q (F0 m pc ls st0) := by
  have hFc := va_free (wc := wc) hD hS hA isC hC
  rw [Bool.and_eq_true] at hn
  refine va_calli hr hS (fun q _ h => hFc q h) hFc (fun r u t H1 locs1 ht hvm hw hB hz1 hk1 hS1 => ?_)
  obtain ⟨hP1, hD1⟩ := hB
  rw [ht] at hP1
  obtain ⟨hP2, hD2⟩ := va_join hP hD isC isR hC hR hn.1 (fun i hi => of_decide_eq_true (List.all_eq_true.mp hdis i hi)) hk1 hFc hP1 hD1
  cases hw
  exact kk H1 locs1 (hP2.sub isX (fm_map hX)) (hD2.sub isX hn.2 hX) hS1
theorem k_l (hr : va_Run p l e R s m args below meth c H locs cells slots 0 0 (F0 m pc ls st0) rest (QL D wc H.size rl w1 a) (va_A wc H.size)) (hP : va_P D vwCl ws H) (hD : va_D A ws) (hS : va_S A s.heap H locs) (hA : ∀ q, s.heap.size ≤ q → A q) (isC isR isX : List Nat) (hC : isC.map (fun i => ws[i]?) = wc.map some) (hR : isR.map (fun i => ws[i]?) = (isR.filterMap (fun i => ws[i]?)).map some) (hX : isX.map (fun i => (isR.filterMap (fun i => ws[i]?) ++ w1)[i]?) = w2.map some) (hn : (va_nd isR && va_nd isX) = true) (hdis : isR.all (fun i => decide (i ∉ isC)) = true)
    (kk : ∀ (H1 : Heap) (locs1 : List Loc), va_P D vwCl w2 H1 → va_D A w2 → va_S A s.heap H1 locs1 → W p l e R s m args below meth c H1 locs1 cells slots Q (F0 m (pc + 3) ls (.long rl :: rest))) : W p l e R s m args below meth c H locs cells slots Q (F0 m pc ls st0) := by
  have hFc := va_free (wc := wc) hD hS hA isC hC
  rw [Bool.and_eq_true] at hn
  refine va_calll hr hS (fun q _ h => hFc q h) hFc (fun r u t H1 locs1 ht hvm hw hB hz1 hk1 hS1 => ?_)
  obtain ⟨hP1, hD1⟩ := hB
  rw [ht] at hP1
  obtain ⟨hP2, hD2⟩ := va_join hP hD isC isR hC hR hn.1 (fun i hi => of_decide_eq_true (List.all_eq_true.mp hdis i hi)) hk1 hFc hP1 hD1
  cases hw
  exact kk H1 locs1 (hP2.sub isX (fm_map hX)) (hD2.sub isX hn.2 hX) hS1
theorem k_v (hr : va_Run p l e R s m args below meth c H locs cells slots 0 0 (F0 m pc ls st0) rest (QV D wc H.size w1 a) (va_A wc H.size)) (hP : va_P D vwCl ws H) (hD : va_D A ws) (hS : va_S A s.heap H locs) (hA : ∀ q, s.heap.size ≤ q → A q) (isC isR isX : List Nat) (hC : isC.map (fun i => ws[i]?) = wc.map some) (hR : isR.map (fun i => ws[i]?) = (isR.filterMap (fun i => ws[i]?)).map some) (hX : isX.map (fun i => (isR.filterMap (fun i => ws[i]?) ++ w1)[i]?) = w2.map some) (hn : (va_nd isR && va_nd isX) = true) (hdis : isR.all (fun i => decide (i ∉ isC)) = true)
    (kk : ∀ (H1 : Heap) (locs1 : List Loc), va_P D vwCl w2 H1 → va_D A w2 → va_S A s.heap H1 locs1 → W p l e R s m args below meth c H1 locs1 cells slots Q (F0 m (pc + 3) ls rest)) : W p l e R s m args below meth c H locs cells slots Q (F0 m pc ls st0) := by
  have hFc := va_free (wc := wc) hD hS hA isC hC
  rw [Bool.and_eq_true] at hn
  refine va_callv hr hS (fun q _ h => hFc q h) hFc (fun u t H1 locs1 ht hvm hw hB hz1 hk1 hS1 => ?_)
  obtain ⟨hP1, hD1⟩ := hB
  rw [ht] at hP1
  obtain ⟨hP2, hD2⟩ := va_join hP hD isC isR hC hR hn.1 (fun i hi => of_decide_eq_true (List.all_eq_true.mp hdis i hi)) hk1 hFc hP1 hD1
  exact kk H1 locs1 (hP2.sub isX (fm_map hX)) (hD2.sub isX hn.2 hX) hS1
/-- what a callee finds -/
theorem pre_S (hB : BS D cI cZ cB au kA kV z0 s) (hz : z0 ≤ s.heap.size) (hA0 : ∀ q, A q → z0 ≤ q) (hP : va_P D vwCl ws H) (hD : va_D A ws) (hS : va_S A s.heap H locs) (isC : List Nat) (hC : isC.map (fun i => ws[i]?) = wc.map some) (hn : va_nd isC = true) : PreS s H (va_Pc As (PRE D cI cZ cB au kA kV z0 H.size wc)) As :=
  ⟨PRE.blind, fun U hU hW => ⟨rfl, by rw [hU], Nat.le_trans hz hS.1, by rw [hU]; exact hP.sub isC (fm_map hC), (hD.sub isC hn hC).weaken (fun _ _ _ h => hA0 _ h), hB.go hS hA0 hU hW⟩⟩
theorem pre_V {ci q0 : Nat} {q : vw_C} {fs : List Value} {C : String} (hB : BS D cI cZ cB au kA kV z0 s) (hz : z0 ≤ s.heap.size) (hA0 : ∀ q, A q → z0 ≤ q) (hP : va_P D vwCl ws H) (hD : va_D A ws) (hS : va_S A s.heap H locs) (isC : List Nat) (hC : isC.map (fun i => ws[i]?) = wc.map some) (hn : va_nd isC = true) (hc : vwCl[ci]? = some q) (hq : q.1 = C) (he : ws[q0]? = some (b, .inr (ci, fs))) : PreV s H C b (va_Pc (.ref b :: As) (PRE D cI cZ cB au kA kV z0 H.size wc)) As := by
  obtain ⟨h1, h2⟩ := pre_S (As := .ref b :: As) hB hz hA0 hP hD hS isC hC hn
  exact ⟨h1, by rw [← hq]; exact va_recv hB.1 hP hc he, h2⟩
end KC
end
section
/-- n rounds, the first with 0 -/
def lp {σ : Type} (f : Nat → σ → σ) : Nat → σ → σ
  | 0, x => x
  | n + 1, x => f n (lp f n x)
theorem lp_0 {σ : Type} (f : Nat → σ → σ) (x : σ) : lp f 0 x = x := rfl
theorem lp_s {σ : Type} (f : Nat → σ → σ) (n : Nat) (x : σ) : lp f (n + 1) x = f n (lp f n x) := rfl
theorem nx_add {x y : Int32} {a b : Nat} (h1 : x = nI a) (h2 : y = nI b) : x + y = nI (a + b) := by rw [h1, h2, nI_add]
theorem nx_mul {x y : Int32} {a b : Nat} (h1 : x = nI a) (h2 : y = nI b) : x * y = nI (a * b) := by rw [h1, h2, pk_mul]
theorem nx_sub {x y : Int32} {a b : Nat} (h : b ≤ a) (h1 : x = nI a) (h2 : y = nI b) : x - y = nI (a - b) := by rw [h1, h2, pk_sub h]
theorem nx_cl {x : Int32} (h : ¬ x < 0) : x = nI x.toNatClampNeg := by
  obtain ⟨j, hj, rfl⟩ := nI_of h
  rw [nI_clamp hj]
theorem nx_0 {x : Int32} (h : 0 ≤ x) : x = nI x.toNatClampNeg := nx_cl (Int32.not_lt.mpr h)
theorem ix2 {i r j p : Nat} (hi : i < r) (hj : j < p) : i * p + j < r * p := by
  have h1 : (i + 1) * p ≤ r * p := Nat.mul_le_mul_right p hi
  rw [Nat.succ_mul] at h1
  omega
theorem le_ex {N t : Nat} (hN : N < 2 ^ 31) (h : t ≤ N) (c : nI N ≤ nI t) : t = N := by
  have := (nI_leI hN (Nat.lt_of_le_of_lt h hN)).mp c
  omega
theorem le_go {N t : Nat} (hN : N < 2 ^ 31) (h : t ≤ N) (c : ¬ nI N ≤ nI t) : t < N := by
  rcases Nat.lt_or_ge t N with q | q
  · exact q
  · exact absurd (nI_le q (Nat.lt_of_le_of_lt h hN)) c
theorem va_A0 {ws : va_W} {sz z0 : Nat} (hD : va_D (fun q => z0 ≤ q) ws) (hz : z0 ≤ sz) : ∀ q, va_A ws sz q → z0 ≤ q := by
  intro q h
  rcases h with ⟨k, e, h⟩ | h
  · exact hD.2 k (q, e) h
  · exact Nat.le_trans hz h
section RW
variable {p : Program} {l : Launch} {e : Env} {R : Room} {s : State} {m : MethodId} {args : Array Value} {below : List Frame} {meth : Method} {c : Code} {H : Heap} {locs : List Loc} {cells slots : Nat} {Q : State → Prop}
variable {cc : ByteArray} {pc : Nat} {ls : Array Slot} {rest st : List Value} {D : va_G} {cI cZ cB : ClassId} {A : Nat → Prop} {a n nL : Nat} {f : Nat → Int32} {ws w2 : va_W} {H0 : Heap}
theorem ra_i (hexec : p.tables.exec = Jvm.exec) (hb : c.code = cc) (hK : va_K D vwCl (tyL cI cZ cB) s) (hP : va_P D vwCl ws H) (q0 : Nat) (ha : ws[q0]? = some (a, .inl (cI, n, .inl f))) {i : Int32} (k : Nat) (hi : i = nI k) (hk : k < n) (hn : n < 2 ^ 31) (hdg : decode cc pc = .ok (.iaload, 1)) (kk : W p l e R s m args below meth c H locs cells slots Q (F0 m (pc + 1) ls (.int (f k) :: rest))) : W p l e R s m args below meth c H locs cells slots Q (F0 m pc ls (.int i :: .ref a :: rest)) := by
  subst hi
  refine va_iald hexec hb hK hP q0 0 ha rfl (vp_in_nI hk hn) hdg ?_
  rw [nI_clamp (Nat.lt_trans hk hn)]
  exact kk
theorem ra_z (hexec : p.tables.exec = Jvm.exec) (hb : c.code = cc) (hK : va_K D vwCl (tyL cI cZ cB) s) (hP : va_P D vwCl ws H) (q0 : Nat) (ha : ws[q0]? = some (a, .inl (cZ, n, .inl f))) {i : Int32} (k : Nat) (hi : i = nI k) (hk : k < n) (hn : n < 2 ^ 31) (hdg : decode cc pc = .ok (.baload, 1)) (kk : W p l e R s m args below meth c H locs cells slots Q (F0 m (pc + 1) ls (.int (f k) :: rest))) : W p l e R s m args below meth c H locs cells slots Q (F0 m pc ls (.int i :: .ref a :: rest)) := by
  subst hi
  refine va_zald hexec hb hK hP q0 1 ha rfl (vp_in_nI hk hn) hdg ?_
  rw [nI_clamp (Nat.lt_trans hk hn)]
  exact kk
theorem ra_b (hexec : p.tables.exec = Jvm.exec) (hb : c.code = cc) (hK : va_K D vwCl (tyL cI cZ cB) s) (hP : va_P D vwCl ws H) (q0 : Nat) (ha : ws[q0]? = some (a, .inl (cB, n, .inl f))) {i : Int32} (k : Nat) (hi : i = nI k) (hk : k < n) (hn : n < 2 ^ 31) (hdg : decode cc pc = .ok (.baload, 1)) (kk : W p l e R s m args below meth c H locs cells slots Q (F0 m (pc + 1) ls (.int (f k) :: rest))) : W p l e R s m args below meth c H locs cells slots Q (F0 m pc ls (.int i :: .ref a :: rest)) := by
  subst hi
  refine va_bald hexec hb hK hP q0 2 ha rfl (vp_in_nI hk hn) hdg ?_
  rw [nI_clamp (Nat.lt_trans hk hn)]
  exact kk
theorem wa_i (hexec : p.tables.exec = Jvm.exec) (hb : c.code = cc) (hK : va_K D vwCl (tyL cI cZ cB) s) (hP : va_P D vwCl ws H) (hD : va_D A ws) (hS : va_S A H0 H locs) (q0 : Nat) (ha : ws[q0]? = some (a, .inl (cI, n, .inl f))) {i x : Int32} (k : Nat) (hi : i = nI k) (hk : k < n) (hn : n < 2 ^ 31) (hdg : decode cc pc = .ok (.iastore, 1)) (hw : ws.set q0 (a, .inl (cI, n, .inl (upd f k x))) = w2) (kk : ∀ (H1 : Heap) (locs1 : List Loc), va_P D vwCl w2 H1 → va_D A w2 → va_S A H0 H1 locs1 → W p l e R s m args below meth c H1 locs1 cells slots Q (F0 m (pc + 1) ls rest)) : W p l e R s m args below meth c H locs cells slots Q (F0 m pc ls (.int x :: .int i :: .ref a :: rest)) := by
  subst hi; subst hw
  have e := nI_clamp (Nat.lt_trans hk hn)
  refine va_iast hexec hb hK hP hD hS q0 0 ha rfl (vp_in_nI hk hn) hdg ?_
  rw [e]
  exact kk
theorem wa_z (hexec : p.tables.exec = Jvm.exec) (hb : c.code = cc) (hK : va_K D vwCl (tyL cI cZ cB) s) (hP : va_P D vwCl ws H) (hD : va_D A ws) (hS : va_S A H0 H locs) (q0 : Nat) (ha : ws[q0]? = some (a, .inl (cZ, n, .inl f))) {i x : Int32} (k : Nat) (hi : i = nI k) (hk : k < n) (hn : n < 2 ^ 31) (hv : vp_nar .boolean x = x) (hdg : decode cc pc = .ok (.bastore, 1)) (hw : ws.set q0 (a, .inl (cZ, n, .inl (upd f k x))) = w2) (kk : ∀ (H1 : Heap) (locs1 : List Loc), va_P D vwCl w2 H1 → va_D A w2 → va_S A H0 H1 locs1 → W p l e R s m args below meth c H1 locs1 cells slots Q (F0 m (pc + 1) ls rest)) : W p l e R s m args below meth c H locs cells slots Q (F0 m pc ls (.int x :: .int i :: .ref a :: rest)) := by
  subst hi; subst hw
  have e := nI_clamp (Nat.lt_trans hk hn)
  refine va_zast hexec hb hK hP hD hS q0 1 ha rfl (vp_in_nI hk hn) hdg ?_
  rw [e, hv]
  exact kk
theorem wa_b (hexec : p.tables.exec = Jvm.exec) (hb : c.code = cc) (hK : va_K D vwCl (tyL cI cZ cB) s) (hP : va_P D vwCl ws H) (hD : va_D A ws) (hS : va_S A H0 H locs) (q0 : Nat) (ha : ws[q0]? = some (a, .inl (cB, n, .inl f))) {i x : Int32} (k : Nat) (hi : i = nI k) (hk : k < n) (hn : n < 2 ^ 31) (hdg : decode cc pc = .ok (.bastore, 1)) (hw : ws.set q0 (a, .inl (cB, n, .inl (upd f k (vp_nar .byte x)))) = w2) (kk : ∀ (H1 : Heap) (locs1 : List Loc), va_P D vwCl w2 H1 → va_D A w2 → va_S A H0 H1 locs1 → W p l e R s m args below meth c H1 locs1 cells slots Q (F0 m (pc + 1) ls rest)) : W p l e R s m args below meth c H locs cells slots Q (F0 m pc ls (.int x :: .int i :: .ref a :: rest)) := by
  subst hi; subst hw
  have e := nI_clamp (Nat.lt_trans hk hn)
  refine va_bast hexec hb hK hP hD hS q0 2 ha rfl (vp_in_nI hk hn) hdg ?_
  rw [e]
  exact kk
/-- a field is written; the cells behind it are told -/
theorem pf {own ref C : String} {T : u_T} {N ci index : Nat} {Ts : List Cond} (hexec : p.tables.exec = Jvm.exec) (hb : c.code = cc) (hts : ∀ w ∈ Ts, w.before args s = true) (hin : ∀ w ∈ u_ws C T N, w ∈ Ts) (ty0 : Nat → FieldType) (hty : ∀ k, k < N → parseFieldDescriptor (T k).2.2.1 = some (ty0 k)) (hnm : ∀ a, a < N → ∀ b, b < N → a ≠ b → (T a).2.1 ≠ (T b).2.1) (hown : s.vm.findClass own = some m.cls) (hK : va_K D vwCl (tyL cI cZ cB) s) (hP : va_P D vwCl ws H) (hD : va_D A ws) (hS0 : va_S A H0 H locs) (q0 : Nat) {fs : List Value} (he : ws[q0]? = some (a, .inr (ci, fs))) (hc : vwCl[ci]? = some (C, T, N)) (k : Nat) (hk : k < N) (hlink : (Cond.fieldLink own index ref (T k).2.1 (T k).2.2.1).before args s = true) (hsame : (T k).1 = ref) (hfin : (T k).2.2.2 = false) {v : Value} (hn : narrow (ty0 k) v = v) (hfit : fits (ty0 k) v = true) (hl : k < fs.length) (hw : ws.set q0 (a, .inr (ci, fs.set k v)) = w2)
    (hdg : decode cc pc = .ok (.putfield index, 3)) (kk : ∀ (H1 : Heap) (locs1 : List Loc), va_P D vwCl w2 H1 → va_D A w2 → va_S A H0 H1 locs1 → W p l e R s m args below meth c H1 locs1 cells slots Q (F0 m (pc + 3) ls rest)) : W p l e R s m args below meth c H locs cells slots Q (F0 m pc ls (v :: .ref a :: rest)) := by
  subst hw; subst hsame
  exact va_put hexec hb hts hin ty0 hty hnm hown hK hP hD hS0 q0 he hc k hk hlink (fun _ h => h) hfin (hty k hk) hn hfit hl hdg kk
/-- a loop: its states are told by x, the measure falls -/
theorem lpM {σ : Type} (Φ : σ → Prop) (μ : σ → Nat) (I : σ → va_W) (lvs : σ → List (Nat × Value)) (x0 : σ) (h0 : Φ x0) (hP : va_P D vwCl (I x0) H) (hD : va_D A (I x0)) (hS : va_S A s.heap H locs) (hl : lv_has ls nL (lvs x0))
    (body : ∀ x, Φ x → (∀ y, Φ y → μ y < μ x → ∀ (H : Heap) (locs : List Loc) (ls : Array Slot), va_P D vwCl (I y) H → va_D A (I y) → va_S A s.heap H locs → lv_has ls nL (lvs y) → W p l e R s m args below meth c H locs cells slots Q (F0 m pc ls st)) → ∀ (H : Heap) (locs : List Loc) (ls : Array Slot), va_P D vwCl (I x) H → va_D A (I x) → va_S A s.heap H locs → lv_has ls nL (lvs x) → W p l e R s m args below meth c H locs cells slots Q (F0 m pc ls st)) : W p l e R s m args below meth c H locs cells slots Q (F0 m pc ls st) := by
  have key : ∀ (n : Nat) (x : σ), μ x < n → Φ x → ∀ (H : Heap) (locs : List Loc) (ls : Array Slot), va_P D vwCl (I x) H → va_D A (I x) → va_S A s.heap H locs → lv_has ls nL (lvs x) → W p l e R s m args below meth c H locs cells slots Q (F0 m pc ls st) := by
    intro n
    induction n with
    | zero => intro x hx; exact absurd hx (Nat.not_lt_zero _)
    | succ n ih => intro x hx hΦ; exact body x hΦ (fun y hy hlt => ih y (Nat.lt_of_lt_of_le hlt (Nat.le_of_lt_succ hx)) hy)
  exact key (μ x0 + 1) x0 (Nat.lt_succ_self _) h0 H locs ls hP hD hS hl
end RW
end
section
def F_X7_within (x : Int32) (a : Int32) (b : Int32) : Int32 :=
  if x < a then 0 else
  if b < x then 0 else
  1
set_option maxHeartbeats 4000000 in
set_option maxRecDepth 100000 in
theorem c_X7_within (l : Launch) {D : va_G} {cI cZ cB : ClassId} {au : Nat} {kA kV : Nat → Nat} {z0 : Nat} (sz : Nat) (x : Int32) (a : Int32) (b : Int32)  : Met l yX7_within wsX7_within ({ frames := 0, cells := 0, slots := 0, locals := 0 }) (va_Pc [.int x, .int a, .int b] (PRE D cI cZ cB au kA kV z0 sz [])) (QI D [] sz (F_X7_within x a b) []) 0 0 (va_A [] sz) := by
  refine Met.ofW (cc := cX7_within) (maxL := 3) (ret := (some .boolean)) (by decide) rfl ?_
  intro p e s m args below meth c s₁ B hml hv
  obtain ⟨rfl, hsz, hz, hP, hD0, hB⟩ := hv
  have hx := B.exec
  have hb := B.bytes
  have hr := B.returns
  have hts := atoms_spec (ws := wsX7_within) B.pre
  have hown : s.vm.findClass RX7 = some m.cls := findClass_of_methodNamed B.named
  have hlocks := B.notSynchronized
  subst hsz
  have hD := hD0.self (sz := s.heap.size)
  have hA0 := va_A0 hD0 hz
  unfold QI
  generalize hAe : va_A [] s.heap.size = A at hD hA0 ⊢
  have hA : ∀ q : Nat, s.heap.size ≤ q → A q := fun q h => by rw [← hAe]; exact Or.inr h
  have hS : va_S A s.heap s.heap [] := va_S.rf
  have hl := lv_entry ([.int x, .int a, .int b]) (n := 3) (Nat.le_of_ble_eq_true rfl)
  rw [lg_entry_eq]
  generalize (lg_sl ([.int x, .int a, .int b]) ++ List.replicate (3 - (lg_sl ([.int x, .int a, .int b])).length) Slot.unset).toArray = ls at hl ⊢
  have hl : lv_has ls 3 [(0, .int x), (1, .int a), (2, .int b)] := hl
  refine lv_iload_n hx hb dX7_within_0 rfl (lv_at hl 0 rfl) ?_
  refine lv_iload_n hx hb dX7_within_1 rfl (lv_at hl 1 rfl) ?_
  refine lv_icmp_lt (tgt := 14) hx hb dX7_within_2 (by decide) (fun c_1 => ?_) (fun c_1 => ?_)
  · refine lv_iconst (v := 0) hx hb dX7_within_14 (by decide) ?_
    have er : F_X7_within x a b = 0 := by rw [F_X7_within, if_pos c_1]
    exact W.zret hx hb hr rfl (fun t ht hW => ⟨⟨_, (), rfl, er.symm, by rw [ht]; exact hP, hD⟩, hS.F ht⟩) hS.2.2 dX7_within_15
  · refine lv_iload_n hx hb dX7_within_5 rfl (lv_at hl 0 rfl) ?_
    refine lv_iload_n hx hb dX7_within_6 rfl (lv_at hl 2 rfl) ?_
    refine lv_icmp_gt (tgt := 14) hx hb dX7_within_7 (by decide) (fun c_2 => ?_) (fun c_2 => ?_)
    · refine lv_iconst (v := 0) hx hb dX7_within_14 (by decide) ?_
      have er : F_X7_within x a b = 0 := by rw [F_X7_within, if_neg c_1, if_pos c_2]
      exact W.zret hx hb hr rfl (fun t ht hW => ⟨⟨_, (), rfl, er.symm, by rw [ht]; exact hP, hD⟩, hS.F ht⟩) hS.2.2 dX7_within_15
    · refine lv_iconst (v := 1) hx hb dX7_within_10 (by decide) ?_
      refine lv_goto (tgt := 15) hx hb dX7_within_11 (by decide) ?_
      have er : F_X7_within x a b = 1 := by rw [F_X7_within, if_neg c_1, if_neg c_2]
      exact W.zret hx hb hr rfl (fun t ht hW => ⟨⟨_, (), rfl, er.symm, by rw [ht]; exact hP, hD⟩, hS.F ht⟩) hS.2.2 dX7_within_15

def F_X7_oneIf (x : Int32) : Int32 :=
  if x = 0 then 0 else
  1
set_option maxHeartbeats 4000000 in
set_option maxRecDepth 100000 in
theorem c_X7_oneIf (l : Launch) {D : va_G} {cI cZ cB : ClassId} {au : Nat} {kA kV : Nat → Nat} {z0 : Nat} (sz : Nat) (x : Int32)  : Met l yX7_oneIf wsX7_oneIf ({ frames := 0, cells := 0, slots := 0, locals := 0 }) (va_Pc [.int x] (PRE D cI cZ cB au kA kV z0 sz [])) (QI D [] sz (F_X7_oneIf x) []) 0 0 (va_A [] sz) := by
  refine Met.ofW (cc := cX7_oneIf) (maxL := 1) (ret := (some .int)) (by decide) rfl ?_
  intro p e s m args below meth c s₁ B hml hv
  obtain ⟨rfl, hsz, hz, hP, hD0, hB⟩ := hv
  have hx := B.exec
  have hb := B.bytes
  have hr := B.returns
  have hts := atoms_spec (ws := wsX7_oneIf) B.pre
  have hown : s.vm.findClass RX7 = some m.cls := findClass_of_methodNamed B.named
  have hlocks := B.notSynchronized
  subst hsz
  have hD := hD0.self (sz := s.heap.size)
  have hA0 := va_A0 hD0 hz
  unfold QI
  generalize hAe : va_A [] s.heap.size = A at hD hA0 ⊢
  have hA : ∀ q : Nat, s.heap.size ≤ q → A q := fun q h => by rw [← hAe]; exact Or.inr h
  have hS : va_S A s.heap s.heap [] := va_S.rf
  have hl := lv_entry ([.int x]) (n := 1) (Nat.le_of_ble_eq_true rfl)
  rw [lg_entry_eq]
  generalize (lg_sl ([.int x]) ++ List.replicate (1 - (lg_sl ([.int x])).length) Slot.unset).toArray = ls at hl ⊢
  have hl : lv_has ls 1 [(0, .int x)] := hl
  refine lv_iload_n hx hb dX7_oneIf_0 rfl (lv_at hl 0 rfl) ?_
  refine lv_if_eq (tgt := 8) hx hb dX7_oneIf_1 (by decide) (fun c_1 => ?_) (fun c_1 => ?_)
  · refine lv_iconst (v := 0) hx hb dX7_oneIf_8 (by decide) ?_
    have er : F_X7_oneIf x = 0 := by rw [F_X7_oneIf, if_pos c_1]
    exact W.iret hx hb hr (fun t ht hW => ⟨⟨_, (), rfl, er.symm, by rw [ht]; exact hP, hD⟩, hS.F ht⟩) hS.2.2 dX7_oneIf_9
  · refine lv_iconst (v := 1) hx hb dX7_oneIf_4 (by decide) ?_
    refine lv_goto (tgt := 9) hx hb dX7_oneIf_5 (by decide) ?_
    have er : F_X7_oneIf x = 1 := by rw [F_X7_oneIf, if_neg c_1]
    exact W.iret hx hb hr (fun t ht hW => ⟨⟨_, (), rfl, er.symm, by rw [ht]; exact hP, hD⟩, hS.F ht⟩) hS.2.2 dX7_oneIf_9

set_option maxHeartbeats 4000000 in
set_option maxRecDepth 100000 in
theorem c_X4_hoursFor (l : Launch) {D : va_G} {cI cZ cB : ClassId} {au : Nat} {kA kV : Nat → Nat} {z0 : Nat} (sz : Nat) (x : Int32)  : Met l yX4_hoursFor wsX4_hoursFor ({ frames := 0, cells := 0, slots := 0, locals := 0 }) (va_Pc [.int x] (PRE D cI cZ cB au kA kV z0 sz [])) (QI D [] sz (2 * x) []) 0 0 (va_A [] sz) := by
  refine Met.ofW (cc := cX4_hoursFor) (maxL := 1) (ret := (some .int)) (by decide) rfl ?_
  intro p e s m args below meth c s₁ B hml hv
  obtain ⟨rfl, hsz, hz, hP, hD0, hB⟩ := hv
  have hx := B.exec
  have hb := B.bytes
  have hr := B.returns
  have hts := atoms_spec (ws := wsX4_hoursFor) B.pre
  have hown : s.vm.findClass RX4 = some m.cls := findClass_of_methodNamed B.named
  have hlocks := B.notSynchronized
  subst hsz
  have hD := hD0.self (sz := s.heap.size)
  have hA0 := va_A0 hD0 hz
  unfold QI
  generalize hAe : va_A [] s.heap.size = A at hD hA0 ⊢
  have hA : ∀ q : Nat, s.heap.size ≤ q → A q := fun q h => by rw [← hAe]; exact Or.inr h
  have hS : va_S A s.heap s.heap [] := va_S.rf
  have hl := lv_entry ([.int x]) (n := 1) (Nat.le_of_ble_eq_true rfl)
  rw [lg_entry_eq]
  generalize (lg_sl ([.int x]) ++ List.replicate (1 - (lg_sl ([.int x])).length) Slot.unset).toArray = ls at hl ⊢
  have hl : lv_has ls 1 [(0, .int x)] := hl
  refine lv_iconst (v := 2) hx hb dX4_hoursFor_0 (by decide) ?_
  refine lv_iload_n hx hb dX4_hoursFor_1 rfl (lv_at hl 0 rfl) ?_
  refine lv_imul hx hb dX4_hoursFor_2 ?_
  exact W.iret hx hb hr (fun t ht hW => ⟨⟨_, (), rfl, rfl, by rw [ht]; exact hP, hD⟩, hS.F ht⟩) hS.2.2 dX4_hoursFor_3

def F_X3_isBlank (x : Int32) : Int32 :=
  if x = 32 then 1 else
  if x = 10 then 1 else
  0
set_option maxHeartbeats 4000000 in
set_option maxRecDepth 100000 in
theorem c_X3_isBlank (l : Launch) {D : va_G} {cI cZ cB : ClassId} {au : Nat} {kA kV : Nat → Nat} {z0 : Nat} (sz : Nat) (x : Int32)  : Met l yX3_isBlank wsX3_isBlank ({ frames := 0, cells := 0, slots := 0, locals := 0 }) (va_Pc [.int x] (PRE D cI cZ cB au kA kV z0 sz [])) (QI D [] sz (F_X3_isBlank x) []) 0 0 (va_A [] sz) := by
  refine Met.ofW (cc := cX3_isBlank) (maxL := 1) (ret := (some .boolean)) (by decide) rfl ?_
  intro p e s m args below meth c s₁ B hml hv
  obtain ⟨rfl, hsz, hz, hP, hD0, hB⟩ := hv
  have hx := B.exec
  have hb := B.bytes
  have hr := B.returns
  have hts := atoms_spec (ws := wsX3_isBlank) B.pre
  have hown : s.vm.findClass RX3 = some m.cls := findClass_of_methodNamed B.named
  have hlocks := B.notSynchronized
  subst hsz
  have hD := hD0.self (sz := s.heap.size)
  have hA0 := va_A0 hD0 hz
  unfold QI
  generalize hAe : va_A [] s.heap.size = A at hD hA0 ⊢
  have hA : ∀ q : Nat, s.heap.size ≤ q → A q := fun q h => by rw [← hAe]; exact Or.inr h
  have hS : va_S A s.heap s.heap [] := va_S.rf
  have hl := lv_entry ([.int x]) (n := 1) (Nat.le_of_ble_eq_true rfl)
  rw [lg_entry_eq]
  generalize (lg_sl ([.int x]) ++ List.replicate (1 - (lg_sl ([.int x])).length) Slot.unset).toArray = ls at hl ⊢
  have hl : lv_has ls 1 [(0, .int x)] := hl
  refine lv_iload_n hx hb dX3_isBlank_0 rfl (lv_at hl 0 rfl) ?_
  refine lv_bipush (v := 32) hx hb dX3_isBlank_1 (by decide) ?_
  refine lv_icmp_eq (tgt := 12) hx hb dX3_isBlank_3 (by decide) (fun c_1 => ?_) (fun c_1 => ?_)
  · refine lv_iconst (v := 1) hx hb dX3_isBlank_12 (by decide) ?_
    refine lv_goto (tgt := 17) hx hb dX3_isBlank_13 (by decide) ?_
    have er : F_X3_isBlank x = 1 := by rw [F_X3_isBlank, if_pos c_1]
    exact W.zret hx hb hr rfl (fun t ht hW => ⟨⟨_, (), rfl, er.symm, by rw [ht]; exact hP, hD⟩, hS.F ht⟩) hS.2.2 dX3_isBlank_17
  · refine lv_iload_n hx hb dX3_isBlank_6 rfl (lv_at hl 0 rfl) ?_
    refine lv_bipush (v := 10) hx hb dX3_isBlank_7 (by decide) ?_
    refine lv_icmp_ne (tgt := 16) hx hb dX3_isBlank_9 (by decide) (fun c_2 => ?_) (fun c_2 => ?_)
    · refine lv_iconst (v := 0) hx hb dX3_isBlank_16 (by decide) ?_
      have er : F_X3_isBlank x = 0 := by rw [F_X3_isBlank, if_neg c_1, if_neg c_2]
      exact W.zret hx hb hr rfl (fun t ht hW => ⟨⟨_, (), rfl, er.symm, by rw [ht]; exact hP, hD⟩, hS.F ht⟩) hS.2.2 dX3_isBlank_17
    · refine lv_iconst (v := 1) hx hb dX3_isBlank_12 (by decide) ?_
      refine lv_goto (tgt := 17) hx hb dX3_isBlank_13 (by decide) ?_
      have er : F_X3_isBlank x = 1 := by rw [F_X3_isBlank, if_neg c_1, if_pos c_2]
      exact W.zret hx hb hr rfl (fun t ht hW => ⟨⟨_, (), rfl, er.symm, by rw [ht]; exact hP, hD⟩, hS.F ht⟩) hS.2.2 dX3_isBlank_17

def F_X3_kindOf (x : Int32) : Int32 :=
  if (F_X7_within x 97 122) = 0 then (if (F_X7_within x 48 57) = 0 then (if x = 59 then 3 else
      4) else
    2) else
  1
set_option maxHeartbeats 4000000 in
set_option maxRecDepth 100000 in
theorem c_X3_kindOf (l : Launch) {D : va_G} {cI cZ cB : ClassId} {au : Nat} {kA kV : Nat → Nat} {z0 : Nat} (sz : Nat) (x : Int32)  : Met l yX3_kindOf wsX3_kindOf ({ frames := 1, cells := 0, slots := 0, locals := 22 }) (va_Pc [.int x] (PRE D cI cZ cB au kA kV z0 sz [])) (QI D [] sz (F_X3_kindOf x) []) 0 0 (va_A [] sz) := by
  refine Met.ofW (cc := cX3_kindOf) (maxL := 1) (ret := (some .int)) (by decide) rfl ?_
  intro p e s m args below meth c s₁ B hml hv
  obtain ⟨rfl, hsz, hz, hP, hD0, hB⟩ := hv
  have hx := B.exec
  have hb := B.bytes
  have hr := B.returns
  have hts := atoms_spec (ws := wsX3_kindOf) B.pre
  have hown : s.vm.findClass RX3 = some m.cls := findClass_of_methodNamed B.named
  have hlocks := B.notSynchronized
  subst hsz
  have hD := hD0.self (sz := s.heap.size)
  have hA0 := va_A0 hD0 hz
  unfold QI
  generalize hAe : va_A [] s.heap.size = A at hD hA0 ⊢
  have hA : ∀ q : Nat, s.heap.size ≤ q → A q := fun q h => by rw [← hAe]; exact Or.inr h
  have hS : va_S A s.heap s.heap [] := va_S.rf
  have hl := lv_entry ([.int x]) (n := 1) (Nat.le_of_ble_eq_true rfl)
  rw [lg_entry_eq]
  generalize (lg_sl ([.int x]) ++ List.replicate (1 - (lg_sl ([.int x])).length) Slot.unset).toArray = ls at hl ⊢
  have hl : lv_has ls 1 [(0, .int x)] := hl
  refine lv_iload_n hx hb dX3_kindOf_0 rfl (lv_at hl 0 rfl) ?_
  refine lv_bipush (v := 97) hx hb dX3_kindOf_1 (by decide) ?_
  refine lv_bipush (v := 122) hx hb dX3_kindOf_3 (by decide) ?_
  refine k_i (w2 := []) (va_runSN (As := [.int x, .int 97, .int 122]) (rest := []) ⟨hx, hb, hml, hown, hts⟩ (c_X7_within l _ x 97 122) ⟨va_cnB 3 hts gX3_kindOf_X7_within_n36 rfl rfl rfl hB.2.1.2.2.2.2.2.2.2.2 (hts _ (List.mem_of_getElem? (i := 2) rfl)) (by decide +kernel) ⟨Nat.le_of_ble_eq_true rfl, Nat.le_of_ble_eq_true rfl⟩, hts _ (List.mem_of_getElem? (i := 1) rfl), trivial⟩ (pre_S hB hz hA0 hP hD hS [] rfl rfl) rfl rfl hl.1 rfl (lv_room (Nat.le_of_ble_eq_true rfl)) dX3_kindOf_5 ⟨Nat.zero_le _, Nat.zero_le _⟩) hP hD hS hA [] [] [] rfl rfl rfl rfl rfl (fun H locs hP hD hS => ?_)
  refine lv_if_eq (tgt := 13) hx hb dX3_kindOf_8 (by decide) (fun c_1 => ?_) (fun c_1 => ?_)
  · refine lv_iload_n hx hb dX3_kindOf_13 rfl (lv_at hl 0 rfl) ?_
    refine lv_bipush (v := 48) hx hb dX3_kindOf_14 (by decide) ?_
    refine lv_bipush (v := 57) hx hb dX3_kindOf_16 (by decide) ?_
    refine k_i (w2 := []) (va_runSN (As := [.int x, .int 48, .int 57]) (rest := []) ⟨hx, hb, hml, hown, hts⟩ (c_X7_within l _ x 48 57) ⟨va_cnB 3 hts gX3_kindOf_X7_within_n36 rfl rfl rfl hB.2.1.2.2.2.2.2.2.2.2 (hts _ (List.mem_of_getElem? (i := 2) rfl)) (by decide +kernel) ⟨Nat.le_of_ble_eq_true rfl, Nat.le_of_ble_eq_true rfl⟩, hts _ (List.mem_of_getElem? (i := 1) rfl), trivial⟩ (pre_S hB hz hA0 hP hD hS [] rfl rfl) rfl rfl hl.1 rfl (lv_room (Nat.le_of_ble_eq_true rfl)) dX3_kindOf_18 ⟨Nat.zero_le _, Nat.zero_le _⟩) hP hD hS hA [] [] [] rfl rfl rfl rfl rfl (fun H locs hP hD hS => ?_)
    refine lv_if_eq (tgt := 26) hx hb dX3_kindOf_21 (by decide) (fun c_2 => ?_) (fun c_2 => ?_)
    · refine lv_iload_n hx hb dX3_kindOf_26 rfl (lv_at hl 0 rfl) ?_
      refine lv_bipush (v := 59) hx hb dX3_kindOf_27 (by decide) ?_
      refine lv_icmp_ne (tgt := 36) hx hb dX3_kindOf_29 (by decide) (fun c_3 => ?_) (fun c_3 => ?_)
      · refine lv_iconst (v := 4) hx hb dX3_kindOf_36 (by decide) ?_
        have er : F_X3_kindOf x = 4 := by rw [F_X3_kindOf, if_pos c_1, if_pos c_2, if_neg c_3]
        exact W.iret hx hb hr (fun t ht hW => ⟨⟨_, (), rfl, er.symm, by rw [ht]; exact hP, hD⟩, hS.F ht⟩) hS.2.2 dX3_kindOf_37
      · refine lv_iconst (v := 3) hx hb dX3_kindOf_32 (by decide) ?_
        refine lv_goto (tgt := 37) hx hb dX3_kindOf_33 (by decide) ?_
        have er : F_X3_kindOf x = 3 := by rw [F_X3_kindOf, if_pos c_1, if_pos c_2, if_pos c_3]
        exact W.iret hx hb hr (fun t ht hW => ⟨⟨_, (), rfl, er.symm, by rw [ht]; exact hP, hD⟩, hS.F ht⟩) hS.2.2 dX3_kindOf_37
    · refine lv_iconst (v := 2) hx hb dX3_kindOf_24 (by decide) ?_
      have er : F_X3_kindOf x = 2 := by rw [F_X3_kindOf, if_pos c_1, if_neg c_2]
      exact W.iret hx hb hr (fun t ht hW => ⟨⟨_, (), rfl, er.symm, by rw [ht]; exact hP, hD⟩, hS.F ht⟩) hS.2.2 dX3_kindOf_25
  · refine lv_iconst (v := 1) hx hb dX3_kindOf_11 (by decide) ?_
    have er : F_X3_kindOf x = 1 := by rw [F_X3_kindOf, if_neg c_1]
    exact W.iret hx hb hr (fun t ht hW => ⟨⟨_, (), rfl, er.symm, by rw [ht]; exact hP, hD⟩, hS.F ht⟩) hS.2.2 dX3_kindOf_12

set_option maxHeartbeats 4000000 in
set_option maxRecDepth 100000 in
theorem c_X4_level (l : Launch) {D : va_G} {cI cZ cB : ClassId} {au : Nat} {kA kV : Nat → Nat} {z0 : Nat} (sz : Nat) (h0 : Nat) (v1 : Int32) (v2 : Int32) (v3 : Int32)  : Met l yX4_level wsX4_level ({ frames := 0, cells := 0, slots := 0, locals := 0 }) (va_Pc [.ref h0] (PRE D cI cZ cB au kA kV z0 sz [(h0, .inr (4, [.int v1, .int v2, .int v3]))])) (QI D [(h0, .inr (4, [.int v1, .int v2, .int v3]))] sz v1 [(h0, .inr (4, [.int v1, .int v2, .int v3]))]) 0 0 (va_A [(h0, .inr (4, [.int v1, .int v2, .int v3]))] sz) := by
  refine Met.ofW (cc := cX4_level) (maxL := 1) (ret := (some .int)) (by decide) rfl ?_
  intro p e s m args below meth c s₁ B hml hv
  obtain ⟨rfl, hsz, hz, hP, hD0, hB⟩ := hv
  have hx := B.exec
  have hb := B.bytes
  have hr := B.returns
  have hts := atoms_spec (ws := wsX4_level) B.pre
  have hown : s.vm.findClass RX4 = some m.cls := findClass_of_methodNamed B.named
  have hlocks := B.notSynchronized
  subst hsz
  have hD := hD0.self (sz := s.heap.size)
  have hA0 := va_A0 hD0 hz
  unfold QI
  generalize hAe : va_A [(h0, .inr (4, [.int v1, .int v2, .int v3]))] s.heap.size = A at hD hA0 ⊢
  have hA : ∀ q : Nat, s.heap.size ≤ q → A q := fun q h => by rw [← hAe]; exact Or.inr h
  have hS : va_S A s.heap s.heap [] := va_S.rf
  have hiX4 : ∀ w ∈ wsX40, w ∈ wsX4_level := fun w h => List.mem_cons_of_mem _ (List.mem_append_right _ h)
  have hl := lv_entry ([.ref h0]) (n := 1) (Nat.le_of_ble_eq_true rfl)
  rw [lg_entry_eq]
  generalize (lg_sl ([.ref h0]) ++ List.replicate (1 - (lg_sl ([.ref h0])).length) Slot.unset).toArray = ls at hl ⊢
  have hl : lv_has ls 1 [(0, .ref h0)] := hl
  refine lv_aload_n hx hb dX4_level_0 rfl (lv_at hl 0 rfl) ?_
  refine va_get (D := D) (ci := 4) (v := .int v1) (C := RX4) (T := TX4) (N := 3) hx hb hts hiX4 hown hB.1 hP 0 rfl rfl 0 (by decide) (hts _ (List.mem_of_getElem? (i := 1) rfl)) (fun _ h9 => h9) rfl dX4_level_1 ?_
  exact W.iret hx hb hr (fun t ht hW => ⟨⟨_, (), rfl, rfl, by rw [ht]; exact hP, hD⟩, hS.F ht⟩) hS.2.2 dX4_level_4

set_option maxHeartbeats 4000000 in
set_option maxRecDepth 100000 in
theorem c_X4_mud (l : Launch) {D : va_G} {cI cZ cB : ClassId} {au : Nat} {kA kV : Nat → Nat} {z0 : Nat} (sz : Nat) (h0 : Nat) (v1 : Int32) (v2 : Int32) (v3 : Int32)  : Met l yX4_mud wsX4_mud ({ frames := 0, cells := 0, slots := 0, locals := 0 }) (va_Pc [.ref h0] (PRE D cI cZ cB au kA kV z0 sz [(h0, .inr (4, [.int v1, .int v2, .int v3]))])) (QI D [(h0, .inr (4, [.int v1, .int v2, .int v3]))] sz v2 [(h0, .inr (4, [.int v1, .int v2, .int v3]))]) 0 0 (va_A [(h0, .inr (4, [.int v1, .int v2, .int v3]))] sz) := by
  refine Met.ofW (cc := cX4_mud) (maxL := 1) (ret := (some .int)) (by decide) rfl ?_
  intro p e s m args below meth c s₁ B hml hv
  obtain ⟨rfl, hsz, hz, hP, hD0, hB⟩ := hv
  have hx := B.exec
  have hb := B.bytes
  have hr := B.returns
  have hts := atoms_spec (ws := wsX4_mud) B.pre
  have hown : s.vm.findClass RX4 = some m.cls := findClass_of_methodNamed B.named
  have hlocks := B.notSynchronized
  subst hsz
  have hD := hD0.self (sz := s.heap.size)
  have hA0 := va_A0 hD0 hz
  unfold QI
  generalize hAe : va_A [(h0, .inr (4, [.int v1, .int v2, .int v3]))] s.heap.size = A at hD hA0 ⊢
  have hA : ∀ q : Nat, s.heap.size ≤ q → A q := fun q h => by rw [← hAe]; exact Or.inr h
  have hS : va_S A s.heap s.heap [] := va_S.rf
  have hiX4 : ∀ w ∈ wsX40, w ∈ wsX4_mud := fun w h => List.mem_cons_of_mem _ (List.mem_append_right _ h)
  have hl := lv_entry ([.ref h0]) (n := 1) (Nat.le_of_ble_eq_true rfl)
  rw [lg_entry_eq]
  generalize (lg_sl ([.ref h0]) ++ List.replicate (1 - (lg_sl ([.ref h0])).length) Slot.unset).toArray = ls at hl ⊢
  have hl : lv_has ls 1 [(0, .ref h0)] := hl
  refine lv_aload_n hx hb dX4_mud_0 rfl (lv_at hl 0 rfl) ?_
  refine va_get (D := D) (ci := 4) (v := .int v2) (C := RX4) (T := TX4) (N := 3) hx hb hts hiX4 hown hB.1 hP 0 rfl rfl 1 (by decide) (hts _ (List.mem_of_getElem? (i := 1) rfl)) (fun _ h9 => h9) rfl dX4_mud_1 ?_
  exact W.iret hx hb hr (fun t ht hW => ⟨⟨_, (), rfl, rfl, by rw [ht]; exact hP, hD⟩, hS.F ht⟩) hS.2.2 dX4_mud_4

set_option maxHeartbeats 4000000 in
set_option maxRecDepth 100000 in
theorem c_X4_hoursLeft (l : Launch) {D : va_G} {cI cZ cB : ClassId} {au : Nat} {kA kV : Nat → Nat} {z0 : Nat} (sz : Nat) (h0 : Nat) (v1 : Int32) (v2 : Int32) (v3 : Int32)  : Met l yX4_hoursLeft wsX4_hoursLeft ({ frames := 0, cells := 0, slots := 0, locals := 0 }) (va_Pc [.ref h0] (PRE D cI cZ cB au kA kV z0 sz [(h0, .inr (4, [.int v1, .int v2, .int v3]))])) (QI D [(h0, .inr (4, [.int v1, .int v2, .int v3]))] sz v3 [(h0, .inr (4, [.int v1, .int v2, .int v3]))]) 0 0 (va_A [(h0, .inr (4, [.int v1, .int v2, .int v3]))] sz) := by
  refine Met.ofW (cc := cX4_hoursLeft) (maxL := 1) (ret := (some .int)) (by decide) rfl ?_
  intro p e s m args below meth c s₁ B hml hv
  obtain ⟨rfl, hsz, hz, hP, hD0, hB⟩ := hv
  have hx := B.exec
  have hb := B.bytes
  have hr := B.returns
  have hts := atoms_spec (ws := wsX4_hoursLeft) B.pre
  have hown : s.vm.findClass RX4 = some m.cls := findClass_of_methodNamed B.named
  have hlocks := B.notSynchronized
  subst hsz
  have hD := hD0.self (sz := s.heap.size)
  have hA0 := va_A0 hD0 hz
  unfold QI
  generalize hAe : va_A [(h0, .inr (4, [.int v1, .int v2, .int v3]))] s.heap.size = A at hD hA0 ⊢
  have hA : ∀ q : Nat, s.heap.size ≤ q → A q := fun q h => by rw [← hAe]; exact Or.inr h
  have hS : va_S A s.heap s.heap [] := va_S.rf
  have hiX4 : ∀ w ∈ wsX40, w ∈ wsX4_hoursLeft := fun w h => List.mem_cons_of_mem _ (List.mem_append_right _ h)
  have hl := lv_entry ([.ref h0]) (n := 1) (Nat.le_of_ble_eq_true rfl)
  rw [lg_entry_eq]
  generalize (lg_sl ([.ref h0]) ++ List.replicate (1 - (lg_sl ([.ref h0])).length) Slot.unset).toArray = ls at hl ⊢
  have hl : lv_has ls 1 [(0, .ref h0)] := hl
  refine lv_aload_n hx hb dX4_hoursLeft_0 rfl (lv_at hl 0 rfl) ?_
  refine va_get (D := D) (ci := 4) (v := .int v3) (C := RX4) (T := TX4) (N := 3) hx hb hts hiX4 hown hB.1 hP 0 rfl rfl 2 (by decide) (hts _ (List.mem_of_getElem? (i := 1) rfl)) (fun _ h9 => h9) rfl dX4_hoursLeft_1 ?_
  exact W.iret hx hb hr (fun t ht hW => ⟨⟨_, (), rfl, rfl, by rw [ht]; exact hP, hD⟩, hS.F ht⟩) hS.2.2 dX4_hoursLeft_4

set_option maxHeartbeats 4000000 in
set_option maxRecDepth 100000 in
theorem c_X4_stir (l : Launch) {D : va_G} {cI cZ cB : ClassId} {au : Nat} {kA kV : Nat → Nat} {z0 : Nat} (sz : Nat) (h0 : Nat) (v1 : Int32) (v2 : Int32) (v3 : Int32) (deep : Int32)  : Met l yX4_stir wsX4_stir ({ frames := 1, cells := 0, slots := 0, locals := 20 }) (va_Pc [.ref h0, .int deep] (PRE D cI cZ cB au kA kV z0 sz [(h0, .inr (4, [.int v1, .int v2, .int v3]))])) (QV D [(h0, .inr (4, [.int v1, .int v2, .int v3]))] sz [(h0, .inr (4, [.int v1, .int (v2 + (3 * deep)), .int (v3 - (2 * deep))]))]) 0 0 (va_A [(h0, .inr (4, [.int v1, .int v2, .int v3]))] sz) := by
  refine Met.ofW (cc := cX4_stir) (maxL := 2) (ret := none) (by decide) rfl ?_
  intro p e s m args below meth c s₁ B hml hv
  obtain ⟨rfl, hsz, hz, hP, hD0, hB⟩ := hv
  have hx := B.exec
  have hb := B.bytes
  have hr := B.returns
  have hts := atoms_spec (ws := wsX4_stir) B.pre
  have hown : s.vm.findClass RX4 = some m.cls := findClass_of_methodNamed B.named
  have hlocks := B.notSynchronized
  subst hsz
  have hD := hD0.self (sz := s.heap.size)
  have hA0 := va_A0 hD0 hz
  unfold QV
  generalize hAe : va_A [(h0, .inr (4, [.int v1, .int v2, .int v3]))] s.heap.size = A at hD hA0 ⊢
  have hA : ∀ q : Nat, s.heap.size ≤ q → A q := fun q h => by rw [← hAe]; exact Or.inr h
  have hS : va_S A s.heap s.heap [] := va_S.rf
  have hiX4 : ∀ w ∈ wsX40, w ∈ wsX4_stir := fun w h => List.mem_cons_of_mem _ (List.mem_append_right _ h)
  have hl := lv_entry ([.ref h0, .int deep]) (n := 2) (Nat.le_of_ble_eq_true rfl)
  rw [lg_entry_eq]
  generalize (lg_sl ([.ref h0, .int deep]) ++ List.replicate (2 - (lg_sl ([.ref h0, .int deep])).length) Slot.unset).toArray = ls at hl ⊢
  have hl : lv_has ls 2 [(0, .ref h0), (1, .int deep)] := hl
  refine lv_aload_n hx hb dX4_stir_0 rfl (lv_at hl 0 rfl) ?_
  refine lv_dup hx hb dX4_stir_1 rfl ?_
  refine va_get (D := D) (ci := 4) (v := .int v3) (C := RX4) (T := TX4) (N := 3) hx hb hts hiX4 hown hB.1 hP 0 rfl rfl 2 (by decide) (hts _ (List.mem_of_getElem? (i := 1) rfl)) (fun _ h9 => h9) rfl dX4_stir_2 ?_
  refine lv_iload_n hx hb dX4_stir_5 rfl (lv_at hl 1 rfl) ?_
  refine k_i (w2 := [(h0, .inr (4, [.int v1, .int v2, .int v3]))]) (va_runS (As := [.int deep]) (rest := [.int v3, .ref h0]) ⟨hx, hb, hml, hown, hts⟩ (c_X4_hoursFor l _ deep) (va_cwS 1 hts gX4_stir_X4_hoursFor rfl rfl rfl (by decide +kernel) ⟨Nat.le_of_ble_eq_true rfl, Nat.le_of_ble_eq_true rfl⟩) (pre_S hB hz hA0 hP hD hS [] rfl rfl) rfl rfl hl.1 rfl (lv_room (Nat.le_of_ble_eq_true rfl)) dX4_stir_6 ⟨Nat.zero_le _, Nat.zero_le _⟩) hP hD hS hA [] [0] [0] rfl rfl rfl rfl rfl (fun H locs hP hD hS => ?_)
  refine lv_isub hx hb dX4_stir_9 ?_
  refine pf (w2 := [(h0, .inr (4, [.int v1, .int v2, .int (v3 - (2 * deep))]))]) (ci := 4) (C := RX4) (T := TX4) (N := 3) hx hb hts hiX4 tyX4 tyX4_ok nmX4 hown hB.1 hP hD hS 0 rfl rfl 2 (by decide) (hts _ (List.mem_of_getElem? (i := 1) rfl)) rfl rfl rfl rfl (Nat.le_of_ble_eq_true rfl) rfl dX4_stir_10 (fun H locs hP hD hS => ?_)
  refine lv_aload_n hx hb dX4_stir_13 rfl (lv_at hl 0 rfl) ?_
  refine lv_dup hx hb dX4_stir_14 rfl ?_
  refine va_get (D := D) (ci := 4) (v := .int v2) (C := RX4) (T := TX4) (N := 3) hx hb hts hiX4 hown hB.1 hP 0 rfl rfl 1 (by decide) (hts _ (List.mem_of_getElem? (i := 2) rfl)) (fun _ h9 => h9) rfl dX4_stir_15 ?_
  refine lv_iconst (v := 3) hx hb dX4_stir_18 (by decide) ?_
  refine lv_iload_n hx hb dX4_stir_19 rfl (lv_at hl 1 rfl) ?_
  refine lv_imul hx hb dX4_stir_20 ?_
  refine lv_iadd hx hb dX4_stir_21 ?_
  refine pf (w2 := [(h0, .inr (4, [.int v1, .int (v2 + (3 * deep)), .int (v3 - (2 * deep))]))]) (ci := 4) (C := RX4) (T := TX4) (N := 3) hx hb hts hiX4 tyX4 tyX4_ok nmX4 hown hB.1 hP hD hS 0 rfl rfl 1 (by decide) (hts _ (List.mem_of_getElem? (i := 2) rfl)) rfl rfl rfl rfl (Nat.le_of_ble_eq_true rfl) rfl dX4_stir_22 (fun H locs hP hD hS => ?_)
  exact W.vret hx hb hr (fun t ht hW => ⟨⟨(), rfl, trivial, by rw [ht]; exact hP, hD⟩, hS.F ht⟩) hS.2.2 dX4_stir_25

set_option maxHeartbeats 4000000 in
set_option maxRecDepth 100000 in
theorem c_X4_drain (l : Launch) {D : va_G} {cI cZ cB : ClassId} {au : Nat} {kA kV : Nat → Nat} {z0 : Nat} (sz : Nat) (h0 : Nat) (v1 : Int32) (v2 : Int32) (v3 : Int32) (much : Int32)  : Met l yX4_drain wsX4_drain ({ frames := 0, cells := 0, slots := 0, locals := 0 }) (va_Pc [.ref h0, .int much] (PRE D cI cZ cB au kA kV z0 sz [(h0, .inr (4, [.int v1, .int v2, .int v3]))])) (QV D [(h0, .inr (4, [.int v1, .int v2, .int v3]))] sz [(h0, .inr (4, [.int (v1 - much), .int v2, .int v3]))]) 0 0 (va_A [(h0, .inr (4, [.int v1, .int v2, .int v3]))] sz) := by
  refine Met.ofW (cc := cX4_drain) (maxL := 2) (ret := none) (by decide) rfl ?_
  intro p e s m args below meth c s₁ B hml hv
  obtain ⟨rfl, hsz, hz, hP, hD0, hB⟩ := hv
  have hx := B.exec
  have hb := B.bytes
  have hr := B.returns
  have hts := atoms_spec (ws := wsX4_drain) B.pre
  have hown : s.vm.findClass RX4 = some m.cls := findClass_of_methodNamed B.named
  have hlocks := B.notSynchronized
  subst hsz
  have hD := hD0.self (sz := s.heap.size)
  have hA0 := va_A0 hD0 hz
  unfold QV
  generalize hAe : va_A [(h0, .inr (4, [.int v1, .int v2, .int v3]))] s.heap.size = A at hD hA0 ⊢
  have hA : ∀ q : Nat, s.heap.size ≤ q → A q := fun q h => by rw [← hAe]; exact Or.inr h
  have hS : va_S A s.heap s.heap [] := va_S.rf
  have hiX4 : ∀ w ∈ wsX40, w ∈ wsX4_drain := fun w h => List.mem_cons_of_mem _ (List.mem_append_right _ h)
  have hl := lv_entry ([.ref h0, .int much]) (n := 2) (Nat.le_of_ble_eq_true rfl)
  rw [lg_entry_eq]
  generalize (lg_sl ([.ref h0, .int much]) ++ List.replicate (2 - (lg_sl ([.ref h0, .int much])).length) Slot.unset).toArray = ls at hl ⊢
  have hl : lv_has ls 2 [(0, .ref h0), (1, .int much)] := hl
  refine lv_aload_n hx hb dX4_drain_0 rfl (lv_at hl 0 rfl) ?_
  refine lv_dup hx hb dX4_drain_1 rfl ?_
  refine va_get (D := D) (ci := 4) (v := .int v1) (C := RX4) (T := TX4) (N := 3) hx hb hts hiX4 hown hB.1 hP 0 rfl rfl 0 (by decide) (hts _ (List.mem_of_getElem? (i := 1) rfl)) (fun _ h9 => h9) rfl dX4_drain_2 ?_
  refine lv_iload_n hx hb dX4_drain_5 rfl (lv_at hl 1 rfl) ?_
  refine lv_isub hx hb dX4_drain_6 ?_
  refine pf (w2 := [(h0, .inr (4, [.int (v1 - much), .int v2, .int v3]))]) (ci := 4) (C := RX4) (T := TX4) (N := 3) hx hb hts hiX4 tyX4 tyX4_ok nmX4 hown hB.1 hP hD hS 0 rfl rfl 0 (by decide) (hts _ (List.mem_of_getElem? (i := 1) rfl)) rfl rfl rfl rfl (Nat.le_of_ble_eq_true rfl) rfl dX4_drain_7 (fun H locs hP hD hS => ?_)
  exact W.vret hx hb hr (fun t ht hW => ⟨⟨(), rfl, trivial, by rw [ht]; exact hP, hD⟩, hS.F ht⟩) hS.2.2 dX4_drain_10

set_option maxHeartbeats 4000000 in
set_option maxRecDepth 100000 in
theorem c_X4_passNight (l : Launch) {D : va_G} {cI cZ cB : ClassId} {au : Nat} {kA kV : Nat → Nat} {z0 : Nat} (sz : Nat) (h0 : Nat) (v1 : Int32) (v2 : Int32) (v3 : Int32) (water : Int32)  : Met l yX4_passNight wsX4_passNight ({ frames := 1, cells := 0, slots := 0, locals := 21 }) (va_Pc [.ref h0, .int water] (PRE D cI cZ cB au kA kV z0 sz [(h0, .inr (4, [.int v1, .int v2, .int v3]))])) (QV D [(h0, .inr (4, [.int v1, .int v2, .int v3]))] sz [(h0, .inr (4, [.int (if 0 < (if ((v1 + water) - 3) < 1000 then ((v1 + water) - 3) else 1000) then (if ((v1 + water) - 3) < 1000 then ((v1 + water) - 3) else 1000) else 0), .int (if 0 < (v2 - 10) then (v2 - 10) else 0), .int 20]))]) 0 0 (va_A [(h0, .inr (4, [.int v1, .int v2, .int v3]))] sz) := by
  refine Met.ofW (cc := cX4_passNight) (maxL := 2) (ret := none) (by decide) rfl ?_
  intro p e s m args below meth c s₁ B hml hv
  obtain ⟨rfl, hsz, hz, hP, hD0, hB⟩ := hv
  have hx := B.exec
  have hb := B.bytes
  have hr := B.returns
  have hts := atoms_spec (ws := wsX4_passNight) B.pre
  have hown : s.vm.findClass RX4 = some m.cls := findClass_of_methodNamed B.named
  have hlocks := B.notSynchronized
  subst hsz
  have hD := hD0.self (sz := s.heap.size)
  have hA0 := va_A0 hD0 hz
  unfold QV
  generalize hAe : va_A [(h0, .inr (4, [.int v1, .int v2, .int v3]))] s.heap.size = A at hD hA0 ⊢
  have hA : ∀ q : Nat, s.heap.size ≤ q → A q := fun q h => by rw [← hAe]; exact Or.inr h
  have hS : va_S A s.heap s.heap [] := va_S.rf
  have hiX4 : ∀ w ∈ wsX40, w ∈ wsX4_passNight := fun w h => List.mem_cons_of_mem _ (List.mem_append_right _ h)
  have hl := lv_entry ([.ref h0, .int water]) (n := 2) (Nat.le_of_ble_eq_true rfl)
  rw [lg_entry_eq]
  generalize (lg_sl ([.ref h0, .int water]) ++ List.replicate (2 - (lg_sl ([.ref h0, .int water])).length) Slot.unset).toArray = ls at hl ⊢
  have hl : lv_has ls 2 [(0, .ref h0), (1, .int water)] := hl
  refine lv_aload_n hx hb dX4_passNight_0 rfl (lv_at hl 0 rfl) ?_
  refine lv_iconst (v := 0) hx hb dX4_passNight_1 (by decide) ?_
  refine lv_sipush (v := 1000) hx hb dX4_passNight_2 (by decide) ?_
  refine lv_aload_n hx hb dX4_passNight_5 rfl (lv_at hl 0 rfl) ?_
  refine va_get (D := D) (ci := 4) (v := .int v1) (C := RX4) (T := TX4) (N := 3) hx hb hts hiX4 hown hB.1 hP 0 rfl rfl 0 (by decide) (hts _ (List.mem_of_getElem? (i := 1) rfl)) (fun _ h9 => h9) rfl dX4_passNight_6 ?_
  refine lv_iload_n hx hb dX4_passNight_9 rfl (lv_at hl 1 rfl) ?_
  refine lv_iadd hx hb dX4_passNight_10 ?_
  refine lv_iconst (v := 3) hx hb dX4_passNight_11 (by decide) ?_
  refine lv_isub hx hb dX4_passNight_12 ?_
  refine va_mmin hx hb (hml.trans hl.1.symm) hown (hts _ (List.mem_of_getElem? (i := 2) rfl)) (hts _ (List.mem_of_getElem? (i := 3) rfl)) (hts _ (List.mem_of_getElem? (i := 4) rfl)) (hts _ (List.mem_of_getElem? (i := 5) rfl)) (Nat.le_of_ble_eq_true rfl) (Nat.le_of_ble_eq_true rfl) (Nat.zero_le _) (Nat.zero_le _) dX4_passNight_13 ?_
  refine va_mmax hx hb (hml.trans hl.1.symm) hown (hts _ (List.mem_of_getElem? (i := 6) rfl)) (hts _ (List.mem_of_getElem? (i := 7) rfl)) (hts _ (List.mem_of_getElem? (i := 4) rfl)) (hts _ (List.mem_of_getElem? (i := 8) rfl)) (Nat.le_of_ble_eq_true rfl) (Nat.le_of_ble_eq_true rfl) (Nat.zero_le _) (Nat.zero_le _) dX4_passNight_16 ?_
  refine pf (w2 := [(h0, .inr (4, [.int (if 0 < (if ((v1 + water) - 3) < 1000 then ((v1 + water) - 3) else 1000) then (if ((v1 + water) - 3) < 1000 then ((v1 + water) - 3) else 1000) else 0), .int v2, .int v3]))]) (ci := 4) (C := RX4) (T := TX4) (N := 3) hx hb hts hiX4 tyX4 tyX4_ok nmX4 hown hB.1 hP hD hS 0 rfl rfl 0 (by decide) (hts _ (List.mem_of_getElem? (i := 1) rfl)) rfl rfl rfl rfl (Nat.le_of_ble_eq_true rfl) rfl dX4_passNight_19 (fun H locs hP hD hS => ?_)
  refine lv_aload_n hx hb dX4_passNight_22 rfl (lv_at hl 0 rfl) ?_
  refine lv_iconst (v := 0) hx hb dX4_passNight_23 (by decide) ?_
  refine lv_aload_n hx hb dX4_passNight_24 rfl (lv_at hl 0 rfl) ?_
  refine va_get (D := D) (ci := 4) (v := .int v2) (C := RX4) (T := TX4) (N := 3) hx hb hts hiX4 hown hB.1 hP 0 rfl rfl 1 (by decide) (hts _ (List.mem_of_getElem? (i := 9) rfl)) (fun _ h9 => h9) rfl dX4_passNight_25 ?_
  refine lv_bipush (v := 10) hx hb dX4_passNight_28 (by decide) ?_
  refine lv_isub hx hb dX4_passNight_30 ?_
  refine va_mmax hx hb (hml.trans hl.1.symm) hown (hts _ (List.mem_of_getElem? (i := 6) rfl)) (hts _ (List.mem_of_getElem? (i := 7) rfl)) (hts _ (List.mem_of_getElem? (i := 4) rfl)) (hts _ (List.mem_of_getElem? (i := 8) rfl)) (Nat.le_of_ble_eq_true rfl) (Nat.le_of_ble_eq_true rfl) (Nat.zero_le _) (Nat.zero_le _) dX4_passNight_31 ?_
  refine pf (w2 := [(h0, .inr (4, [.int (if 0 < (if ((v1 + water) - 3) < 1000 then ((v1 + water) - 3) else 1000) then (if ((v1 + water) - 3) < 1000 then ((v1 + water) - 3) else 1000) else 0), .int (if 0 < (v2 - 10) then (v2 - 10) else 0), .int v3]))]) (ci := 4) (C := RX4) (T := TX4) (N := 3) hx hb hts hiX4 tyX4 tyX4_ok nmX4 hown hB.1 hP hD hS 0 rfl rfl 1 (by decide) (hts _ (List.mem_of_getElem? (i := 9) rfl)) rfl rfl rfl rfl (Nat.le_of_ble_eq_true rfl) rfl dX4_passNight_34 (fun H locs hP hD hS => ?_)
  refine lv_aload_n hx hb dX4_passNight_37 rfl (lv_at hl 0 rfl) ?_
  refine lv_bipush (v := 20) hx hb dX4_passNight_38 (by decide) ?_
  refine pf (w2 := [(h0, .inr (4, [.int (if 0 < (if ((v1 + water) - 3) < 1000 then ((v1 + water) - 3) else 1000) then (if ((v1 + water) - 3) < 1000 then ((v1 + water) - 3) else 1000) else 0), .int (if 0 < (v2 - 10) then (v2 - 10) else 0), .int 20]))]) (ci := 4) (C := RX4) (T := TX4) (N := 3) hx hb hts hiX4 tyX4 tyX4_ok nmX4 hown hB.1 hP hD hS 0 rfl rfl 2 (by decide) (hts _ (List.mem_of_getElem? (i := 10) rfl)) rfl rfl rfl rfl (Nat.le_of_ble_eq_true rfl) rfl dX4_passNight_40 (fun H locs hP hD hS => ?_)
  exact W.vret hx hb hr (fun t ht hW => ⟨⟨(), rfl, trivial, by rw [ht]; exact hP, hD⟩, hS.F ht⟩) hS.2.2 dX4_passNight_43

set_option maxHeartbeats 4000000 in
set_option maxRecDepth 100000 in
theorem c_X0_inAll (l : Launch) {D : va_G} {cI cZ cB : ClassId} {au : Nat} {kA kV : Nat → Nat} {z0 : Nat} (sz : Nat) (h0 : Nat) (a1 : Nat) (v1 : Int32) (v2 : Int32) (v3 : Int32) (f1 : Nat → Int32)  : Met l yX0_inAll wsX0_inAll ({ frames := 0, cells := 0, slots := 0, locals := 0 }) (va_Pc [.ref h0] (PRE D cI cZ cB au kA kV z0 sz [(h0, .inr (0, [.ref a1, .int v1, .int v2, .int v3])), (a1, .inl (cI, 21, .inl f1))])) (QI D [(h0, .inr (0, [.ref a1, .int v1, .int v2, .int v3])), (a1, .inl (cI, 21, .inl f1))] sz v1 [(h0, .inr (0, [.ref a1, .int v1, .int v2, .int v3])), (a1, .inl (cI, 21, .inl f1))]) 0 0 (va_A [(h0, .inr (0, [.ref a1, .int v1, .int v2, .int v3])), (a1, .inl (cI, 21, .inl f1))] sz) := by
  refine Met.ofW (cc := cX0_inAll) (maxL := 1) (ret := (some .int)) (by decide) rfl ?_
  intro p e s m args below meth c s₁ B hml hv
  obtain ⟨rfl, hsz, hz, hP, hD0, hB⟩ := hv
  have hx := B.exec
  have hb := B.bytes
  have hr := B.returns
  have hts := atoms_spec (ws := wsX0_inAll) B.pre
  have hown : s.vm.findClass RX0 = some m.cls := findClass_of_methodNamed B.named
  have hlocks := B.notSynchronized
  subst hsz
  have hD := hD0.self (sz := s.heap.size)
  have hA0 := va_A0 hD0 hz
  unfold QI
  generalize hAe : va_A [(h0, .inr (0, [.ref a1, .int v1, .int v2, .int v3])), (a1, .inl (cI, 21, .inl f1))] s.heap.size = A at hD hA0 ⊢
  have hA : ∀ q : Nat, s.heap.size ≤ q → A q := fun q h => by rw [← hAe]; exact Or.inr h
  have hS : va_S A s.heap s.heap [] := va_S.rf
  have hiX0 : ∀ w ∈ wsX00, w ∈ wsX0_inAll := fun w h => List.mem_cons_of_mem _ (List.mem_append_right _ h)
  have hl := lv_entry ([.ref h0]) (n := 1) (Nat.le_of_ble_eq_true rfl)
  rw [lg_entry_eq]
  generalize (lg_sl ([.ref h0]) ++ List.replicate (1 - (lg_sl ([.ref h0])).length) Slot.unset).toArray = ls at hl ⊢
  have hl : lv_has ls 1 [(0, .ref h0)] := hl
  refine lv_aload_n hx hb dX0_inAll_0 rfl (lv_at hl 0 rfl) ?_
  refine va_get (D := D) (ci := 0) (v := .int v1) (C := RX0) (T := TX0) (N := 4) hx hb hts hiX0 hown hB.1 hP 0 rfl rfl 1 (by decide) (hts _ (List.mem_of_getElem? (i := 1) rfl)) (fun _ h9 => h9) rfl dX0_inAll_1 ?_
  exact W.iret hx hb hr (fun t ht hW => ⟨⟨_, (), rfl, rfl, by rw [ht]; exact hP, hD⟩, hS.F ht⟩) hS.2.2 dX0_inAll_4

set_option maxHeartbeats 4000000 in
set_option maxRecDepth 100000 in
theorem c_X0_lost (l : Launch) {D : va_G} {cI cZ cB : ClassId} {au : Nat} {kA kV : Nat → Nat} {z0 : Nat} (sz : Nat) (h0 : Nat) (a1 : Nat) (v1 : Int32) (v2 : Int32) (v3 : Int32) (f1 : Nat → Int32)  : Met l yX0_lost wsX0_lost ({ frames := 0, cells := 0, slots := 0, locals := 0 }) (va_Pc [.ref h0] (PRE D cI cZ cB au kA kV z0 sz [(h0, .inr (0, [.ref a1, .int v1, .int v2, .int v3])), (a1, .inl (cI, 21, .inl f1))])) (QI D [(h0, .inr (0, [.ref a1, .int v1, .int v2, .int v3])), (a1, .inl (cI, 21, .inl f1))] sz v2 [(h0, .inr (0, [.ref a1, .int v1, .int v2, .int v3])), (a1, .inl (cI, 21, .inl f1))]) 0 0 (va_A [(h0, .inr (0, [.ref a1, .int v1, .int v2, .int v3])), (a1, .inl (cI, 21, .inl f1))] sz) := by
  refine Met.ofW (cc := cX0_lost) (maxL := 1) (ret := (some .int)) (by decide) rfl ?_
  intro p e s m args below meth c s₁ B hml hv
  obtain ⟨rfl, hsz, hz, hP, hD0, hB⟩ := hv
  have hx := B.exec
  have hb := B.bytes
  have hr := B.returns
  have hts := atoms_spec (ws := wsX0_lost) B.pre
  have hown : s.vm.findClass RX0 = some m.cls := findClass_of_methodNamed B.named
  have hlocks := B.notSynchronized
  subst hsz
  have hD := hD0.self (sz := s.heap.size)
  have hA0 := va_A0 hD0 hz
  unfold QI
  generalize hAe : va_A [(h0, .inr (0, [.ref a1, .int v1, .int v2, .int v3])), (a1, .inl (cI, 21, .inl f1))] s.heap.size = A at hD hA0 ⊢
  have hA : ∀ q : Nat, s.heap.size ≤ q → A q := fun q h => by rw [← hAe]; exact Or.inr h
  have hS : va_S A s.heap s.heap [] := va_S.rf
  have hiX0 : ∀ w ∈ wsX00, w ∈ wsX0_lost := fun w h => List.mem_cons_of_mem _ (List.mem_append_right _ h)
  have hl := lv_entry ([.ref h0]) (n := 1) (Nat.le_of_ble_eq_true rfl)
  rw [lg_entry_eq]
  generalize (lg_sl ([.ref h0]) ++ List.replicate (1 - (lg_sl ([.ref h0])).length) Slot.unset).toArray = ls at hl ⊢
  have hl : lv_has ls 1 [(0, .ref h0)] := hl
  refine lv_aload_n hx hb dX0_lost_0 rfl (lv_at hl 0 rfl) ?_
  refine va_get (D := D) (ci := 0) (v := .int v2) (C := RX0) (T := TX0) (N := 4) hx hb hts hiX0 hown hB.1 hP 0 rfl rfl 2 (by decide) (hts _ (List.mem_of_getElem? (i := 1) rfl)) (fun _ h9 => h9) rfl dX0_lost_1 ?_
  exact W.iret hx hb hr (fun t ht hW => ⟨⟨_, (), rfl, rfl, by rw [ht]; exact hP, hD⟩, hS.F ht⟩) hS.2.2 dX0_lost_4

set_option maxHeartbeats 4000000 in
set_option maxRecDepth 100000 in
theorem c_X0_run (l : Launch) {D : va_G} {cI cZ cB : ClassId} {au : Nat} {kA kV : Nat → Nat} {z0 : Nat} (sz : Nat) (h0 : Nat) (a1 : Nat) (v1 : Int32) (v2 : Int32) (v3 : Int32) (f1 : Nat → Int32) (speed : Int32)  : Met l yX0_run wsX0_run ({ frames := 0, cells := 0, slots := 0, locals := 0 }) (va_Pc [.ref h0, .int speed] (PRE D cI cZ cB au kA kV z0 sz [(h0, .inr (0, [.ref a1, .int v1, .int v2, .int v3])), (a1, .inl (cI, 21, .inl f1))])) (QV D [(h0, .inr (0, [.ref a1, .int v1, .int v2, .int v3])), (a1, .inl (cI, 21, .inl f1))] sz [(h0, .inr (0, [.ref a1, .int v1, .int v2, .int speed])), (a1, .inl (cI, 21, .inl f1))]) 0 0 (va_A [(h0, .inr (0, [.ref a1, .int v1, .int v2, .int v3])), (a1, .inl (cI, 21, .inl f1))] sz) := by
  refine Met.ofW (cc := cX0_run) (maxL := 2) (ret := none) (by decide) rfl ?_
  intro p e s m args below meth c s₁ B hml hv
  obtain ⟨rfl, hsz, hz, hP, hD0, hB⟩ := hv
  have hx := B.exec
  have hb := B.bytes
  have hr := B.returns
  have hts := atoms_spec (ws := wsX0_run) B.pre
  have hown : s.vm.findClass RX0 = some m.cls := findClass_of_methodNamed B.named
  have hlocks := B.notSynchronized
  subst hsz
  have hD := hD0.self (sz := s.heap.size)
  have hA0 := va_A0 hD0 hz
  unfold QV
  generalize hAe : va_A [(h0, .inr (0, [.ref a1, .int v1, .int v2, .int v3])), (a1, .inl (cI, 21, .inl f1))] s.heap.size = A at hD hA0 ⊢
  have hA : ∀ q : Nat, s.heap.size ≤ q → A q := fun q h => by rw [← hAe]; exact Or.inr h
  have hS : va_S A s.heap s.heap [] := va_S.rf
  have hiX0 : ∀ w ∈ wsX00, w ∈ wsX0_run := fun w h => List.mem_cons_of_mem _ (List.mem_append_right _ h)
  have hl := lv_entry ([.ref h0, .int speed]) (n := 2) (Nat.le_of_ble_eq_true rfl)
  rw [lg_entry_eq]
  generalize (lg_sl ([.ref h0, .int speed]) ++ List.replicate (2 - (lg_sl ([.ref h0, .int speed])).length) Slot.unset).toArray = ls at hl ⊢
  have hl : lv_has ls 2 [(0, .ref h0), (1, .int speed)] := hl
  refine lv_aload_n hx hb dX0_run_0 rfl (lv_at hl 0 rfl) ?_
  refine lv_iload_n hx hb dX0_run_1 rfl (lv_at hl 1 rfl) ?_
  refine pf (w2 := [(h0, .inr (0, [.ref a1, .int v1, .int v2, .int speed])), (a1, .inl (cI, 21, .inl f1))]) (ci := 0) (C := RX0) (T := TX0) (N := 4) hx hb hts hiX0 tyX0 tyX0_ok nmX0 hown hB.1 hP hD hS 0 rfl rfl 3 (by decide) (hts _ (List.mem_of_getElem? (i := 1) rfl)) rfl rfl rfl rfl (Nat.le_of_ble_eq_true rfl) rfl dX0_run_2 (fun H locs hP hD hS => ?_)
  exact W.vret hx hb hr (fun t ht hW => ⟨⟨(), rfl, trivial, by rw [ht]; exact hP, hD⟩, hS.F ht⟩) hS.2.2 dX0_run_5
end
section
theorem wn_1 {x a b : Int32} (h : ¬ F_X7_within x a b = 0) : ¬ x < a ∧ ¬ b < x := by
  by_cases h1 : x < a
  · exact absurd (by rw [F_X7_within, if_pos h1]) h
  · by_cases h2 : b < x
    · exact absurd (by rw [F_X7_within, if_neg h1, if_pos h2]) h
    · exact ⟨h1, h2⟩
theorem wn_0 {x a b : Int32} (h : F_X7_within x a b = 0) : x < a ∨ b < x := by
  by_cases h1 : x < a
  · exact Or.inl h1
  · by_cases h2 : b < x
    · exact Or.inr h2
    · rw [F_X7_within, if_neg h1, if_neg h2] at h
      exact absurd h (by decide)
theorem nI_dec {n : Nat} (h : 0 < n) : nI n - 1 = nI (n - 1) := by
  obtain ⟨k, rfl⟩ : ∃ k, n = k + 1 := ⟨n - 1, by omega⟩
  exact nI_pred k
theorem wn_ix {x : Int32} {n : Nat} (hn : n < 2 ^ 31) (h : ¬ F_X7_within x 0 (nI n - 1) = 0) : x = nI x.toNatClampNeg ∧ x.toNatClampNeg < n := by
  obtain ⟨h1, h2⟩ := wn_1 h
  obtain ⟨j, hj, rfl⟩ := nI_of h1
  rw [nI_clamp hj]
  refine ⟨rfl, ?_⟩
  rcases Nat.eq_zero_or_pos n with h0 | h0
  · subst h0
    refine absurd ?_ h2
    have e : nI 0 - 1 = (-1 : Int32) := by decide
    rw [e, Int32.lt_iff_toInt_lt, nI_toInt hj]
    have e2 : (-1 : Int32).toInt = -1 := by decide
    omega
  · rw [nI_dec h0] at h2
    rcases Nat.lt_or_ge j n with q | q
    · exact q
    · exact absurd (nI_lt (by omega) hj) h2
theorem le_go2 {N a t : Nat} (hN : N < 2 ^ 31) (ha : a ≤ N) (h : t ≤ N - a) (c : ¬ nI N ≤ nI (a + t)) : t < N - a := by
  have := le_go (N := N) (t := a + t) hN (by omega) c
  omega
theorem le_ex2 {N a t : Nat} (hN : N < 2 ^ 31) (ha : a ≤ N) (h : t ≤ N - a) (c : nI N ≤ nI (a + t)) : t = N - a := by
  have := le_ex (N := N) (t := a + t) hN (by omega) c
  omega
theorem lt_ex2 {u f t : Nat} (hN : u < 2 ^ 30) (ha : f ≤ u) (h : t ≤ u - f) (c : nI u < nI (f + 1 + t)) : t = u - f := by
  have := (nI_ltI (a := u) (b := f + 1 + t) (by omega) (by omega)).mp c
  omega
theorem lt_go2 {u f t : Nat} (hN : u < 2 ^ 30) (ha : f ≤ u) (h : t ≤ u - f) (c : ¬ nI u < nI (f + 1 + t)) : t < u - f := by
  have := (not_congr (nI_ltI (a := u) (b := f + 1 + t) (by omega) (by omega))).mp c
  omega
theorem dn_eq {n t : Nat} (h : t < n) : nI (n - t) - 1 = nI (n - 1 - t) := by
  rw [nI_dec (by omega)]
  congr 1
  omega
theorem dn_dec {n t : Nat} (h : t < n) : nI (n - 1 - t) + Int32.ofInt (-1) = nI (n - (t + 1)) - 1 := by
  have e : n - 1 - t = n - (t + 1) := by omega
  rw [e, Int32.sub_eq_add_neg]
  rfl
theorem dn_0 : nI 0 - 1 = (-1 : Int32) := by decide
theorem dn_go {n t : Nat} (h : t ≤ n) (c : ¬ nI (n - t) - 1 < 0) : t < n := by
  rcases Nat.lt_or_ge t n with q | q
  · exact q
  · have e : n - t = 0 := by omega
    rw [e] at c
    exact absurd (by decide) c
theorem dn_ex {n t : Nat} (hn : n < 2 ^ 31) (h : t ≤ n) (c : nI (n - t) - 1 < 0) : t = n := by
  rcases Nat.lt_or_ge t n with q | q
  · rw [dn_eq q] at c
    exact absurd c (nI_pos (by omega))
  · omega
/-- down to a bound -/
theorem db_go {n f t : Nat} (hn : n < 2 ^ 31) (hf : f ≤ n) (h : t ≤ n - f) (c : ¬ nI (n - t) - 1 < nI f) : t < n - f := by
  rcases Nat.lt_or_ge t (n - f) with q | q
  · exact q
  · have e : t = n - f := by omega
    have e2 : n - t = f := by omega
    rw [e2] at c
    rcases Nat.eq_zero_or_pos f with z | z
    · subst z
      exact absurd (by decide) c
    · rw [nI_dec z] at c
      exact absurd (nI_lt (by omega) (by omega)) c
theorem db_ex {n f t : Nat} (hn : n < 2 ^ 31) (hf : f ≤ n) (h : t ≤ n - f) (c : nI (n - t) - 1 < nI f) : t = n - f := by
  rcases Nat.lt_or_ge t (n - f) with q | q
  · rw [dn_eq (by omega)] at c
    have := (nI_ltI (a := n - 1 - t) (b := f) (by omega) (by omega)).mp c
    omega
  · omega
theorem npos {d : Nat} (c : ¬ nI d ≤ 0) : 0 < d := by
  rcases Nat.eq_zero_or_pos d with z | z
  · subst z
    exact absurd (by decide) c
  · exact z
theorem nzer {d : Nat} (hd : d < 2 ^ 31) (c : nI d ≤ 0) : d = 0 := by
  rcases Nat.eq_zero_or_pos d with z | z
  · exact z
  · exact absurd c (nI_nle z hd)
theorem lp_inv {σ : Type} {f : Nat → σ → σ} {P : σ → Prop} {n : Nat} (h : ∀ i x, i < n → P x → P (f i x)) {x : σ} (h0 : P x) : ∀ t, t ≤ n → P (lp f t x)
  | 0, _ => h0
  | t + 1, ht => h t _ (by omega) (lp_inv h h0 t (by omega))
theorem mx_pred {q : Nat} (h : q < 2 ^ 31) : (if 0 < nI q - 1 then nI q - 1 else 0) = nI (q - 1) := by
  rcases Nat.eq_zero_or_pos q with z | z
  · subst z
    decide
  · rw [nI_dec z]
    rcases Nat.eq_zero_or_pos (q - 1) with y | y
    · rw [y]
      decide
    · rw [if_pos]
      exact nI_lt (a := 0) y (by omega)
theorem mn_succ {q n : Nat} (h : q < 2 ^ 30) (h0 : 0 < n) (hn : n < 2 ^ 31) : (if nI q + 1 < nI n - 1 then nI q + 1 else nI n - 1) = nI (if q + 1 < n - 1 then q + 1 else n - 1) := by
  rw [nI_dec h0, nI_1]
  by_cases c : q + 1 < n - 1
  · rw [if_pos c, if_pos (nI_lt c (by omega))]
  · rw [if_neg c, if_neg (nI_nlt (by omega) (by omega))]
end
section
def F_X0_inMonth (f1 : Nat → Int32) (month : Int32) : Int32 :=
  if (F_X7_within month 0 ((nI 21) - 1)) = 0 then 0 else
  f1 month.toNatClampNeg
set_option maxHeartbeats 4000000 in
set_option maxRecDepth 100000 in
theorem c_X0_inMonth (l : Launch) {D : va_G} {cI cZ cB : ClassId} {au : Nat} {kA kV : Nat → Nat} {z0 : Nat} (sz : Nat) (h0 : Nat) (a1 : Nat) (v1 : Int32) (v2 : Int32) (v3 : Int32) (f1 : Nat → Int32) (month : Int32)  : Met l yX0_inMonth wsX0_inMonth ({ frames := 1, cells := 0, slots := 0, locals := 22 }) (va_Pc [.ref h0, .int month] (PRE D cI cZ cB au kA kV z0 sz [(h0, .inr (0, [.ref a1, .int v1, .int v2, .int v3])), (a1, .inl (cI, 21, .inl f1))])) (QI D [(h0, .inr (0, [.ref a1, .int v1, .int v2, .int v3])), (a1, .inl (cI, 21, .inl f1))] sz (F_X0_inMonth f1 month) [(h0, .inr (0, [.ref a1, .int v1, .int v2, .int v3])), (a1, .inl (cI, 21, .inl f1))]) 0 0 (va_A [(h0, .inr (0, [.ref a1, .int v1, .int v2, .int v3])), (a1, .inl (cI, 21, .inl f1))] sz) := by
  refine Met.ofW (cc := cX0_inMonth) (maxL := 2) (ret := (some .int)) (by decide) rfl ?_
  intro p e s m args below meth c s₁ B hml hv
  obtain ⟨rfl, hsz, hz, hP, hD0, hB⟩ := hv
  have hx := B.exec
  have hb := B.bytes
  have hr := B.returns
  have hts := atoms_spec (ws := wsX0_inMonth) B.pre
  have hown : s.vm.findClass RX0 = some m.cls := findClass_of_methodNamed B.named
  have hlocks := B.notSynchronized
  subst hsz
  have hD := hD0.self (sz := s.heap.size)
  have hA0 := va_A0 hD0 hz
  unfold QI
  generalize hAe : va_A [(h0, .inr (0, [.ref a1, .int v1, .int v2, .int v3])), (a1, .inl (cI, 21, .inl f1))] s.heap.size = A at hD hA0 ⊢
  have hA : ∀ q : Nat, s.heap.size ≤ q → A q := fun q h => by rw [← hAe]; exact Or.inr h
  have hS : va_S A s.heap s.heap [] := va_S.rf
  have hiX0 : ∀ w ∈ wsX00, w ∈ wsX0_inMonth := fun w h => List.mem_cons_of_mem _ (List.mem_append_right _ h)
  have hl := lv_entry ([.ref h0, .int month]) (n := 2) (Nat.le_of_ble_eq_true rfl)
  rw [lg_entry_eq]
  generalize (lg_sl ([.ref h0, .int month]) ++ List.replicate (2 - (lg_sl ([.ref h0, .int month])).length) Slot.unset).toArray = ls at hl ⊢
  have hl : lv_has ls 2 [(0, .ref h0), (1, .int month)] := hl
  refine lv_iload_n hx hb dX0_inMonth_0 rfl (lv_at hl 1 rfl) ?_
  refine lv_iconst (v := 0) hx hb dX0_inMonth_1 (by decide) ?_
  refine lv_aload_n hx hb dX0_inMonth_2 rfl (lv_at hl 0 rfl) ?_
  refine va_get (D := D) (ci := 0) (v := .ref a1) (C := RX0) (T := TX0) (N := 4) hx hb hts hiX0 hown hB.1 hP 0 rfl rfl 0 (by decide) (hts _ (List.mem_of_getElem? (i := 1) rfl)) (fun _ h9 => h9) rfl dX0_inMonth_3 ?_
  refine va_alen (v := nI 21) hx hb hB.1 hP 1 0 rfl rfl rfl dX0_inMonth_6 ?_
  refine lv_iconst (v := 1) hx hb dX0_inMonth_7 (by decide) ?_
  refine lv_isub hx hb dX0_inMonth_8 ?_
  refine k_i (w2 := [(h0, .inr (0, [.ref a1, .int v1, .int v2, .int v3])), (a1, .inl (cI, 21, .inl f1))]) (va_runSN (As := [.int month, .int 0, .int ((nI 21) - 1)]) (rest := []) ⟨hx, hb, hml, hown, hts⟩ (c_X7_within l _ month 0 ((nI 21) - 1)) ⟨va_cnB 3 hts gX0_inMonth_X7_within_n25 rfl rfl rfl hB.2.1.2.2.2.2.2.2.2.1 (hts _ (List.mem_of_getElem? (i := 3) rfl)) (by decide +kernel) ⟨Nat.le_of_ble_eq_true rfl, Nat.le_of_ble_eq_true rfl⟩, hts _ (List.mem_of_getElem? (i := 2) rfl), trivial⟩ (pre_S hB hz hA0 hP hD hS [] rfl rfl) rfl rfl hl.1 rfl (lv_room (Nat.le_of_ble_eq_true rfl)) dX0_inMonth_9 ⟨Nat.zero_le _, Nat.zero_le _⟩) hP hD hS hA [] [0, 1] [0, 1] rfl rfl rfl rfl rfl (fun H locs hP hD hS => ?_)
  refine lv_if_eq (tgt := 24) hx hb dX0_inMonth_12 (by decide) (fun c_1 => ?_) (fun c_1 => ?_)
  · refine lv_iconst (v := 0) hx hb dX0_inMonth_24 (by decide) ?_
    have er : F_X0_inMonth f1 month = 0 := by rw [F_X0_inMonth, if_pos c_1]
    exact W.iret hx hb hr (fun t ht hW => ⟨⟨_, (), rfl, er.symm, by rw [ht]; exact hP, hD⟩, hS.F ht⟩) hS.2.2 dX0_inMonth_25
  · obtain ⟨hm1, hm2⟩ := wn_ix (by decide) c_1
    refine lv_aload_n hx hb dX0_inMonth_15 rfl (lv_at hl 0 rfl) ?_
    refine va_get (D := D) (ci := 0) (v := .ref a1) (C := RX0) (T := TX0) (N := 4) hx hb hts hiX0 hown hB.1 hP 0 rfl rfl 0 (by decide) (hts _ (List.mem_of_getElem? (i := 1) rfl)) (fun _ h9 => h9) rfl dX0_inMonth_16 ?_
    refine lv_iload_n hx hb dX0_inMonth_19 rfl (lv_at hl 1 rfl) ?_
    refine ra_i hx hb hB.1 hP 1 rfl month.toNatClampNeg hm1 hm2 (by decide) dX0_inMonth_20 ?_
    refine lv_goto (tgt := 25) hx hb dX0_inMonth_21 (by decide) ?_
    have er : F_X0_inMonth f1 month = f1 month.toNatClampNeg := by rw [F_X0_inMonth, if_neg c_1]
    exact W.iret hx hb hr (fun t ht hW => ⟨⟨_, (), rfl, er.symm, by rw [ht]; exact hP, hD⟩, hS.F ht⟩) hS.2.2 dX0_inMonth_25

def F_X0_fill_1 (v3 : Int32) (f1 : Nat → Int32) (tin : Int32) (month : Int32) : Nat → Int32 :=
  if (F_X7_within month 0 ((nI 21) - 1)) = 0 then f1 else
  upd f1 month.toNatClampNeg ((f1 month.toNatClampNeg) + (tin - ((tin * ((v3 * v3) / 2)) / 100)))
set_option maxHeartbeats 4000000 in
set_option maxRecDepth 100000 in
theorem c_X0_fill (l : Launch) {D : va_G} {cI cZ cB : ClassId} {au : Nat} {kA kV : Nat → Nat} {z0 : Nat} (sz : Nat) (h0 : Nat) (a1 : Nat) (v1 : Int32) (v2 : Int32) (v3 : Int32) (f1 : Nat → Int32) (tin : Int32) (month : Int32)  : Met l yX0_fill wsX0_fill ({ frames := 1, cells := 0, slots := 0, locals := 22 }) (va_Pc [.ref h0, .int tin, .int month] (PRE D cI cZ cB au kA kV z0 sz [(h0, .inr (0, [.ref a1, .int v1, .int v2, .int v3])), (a1, .inl (cI, 21, .inl f1))])) (QI D [(h0, .inr (0, [.ref a1, .int v1, .int v2, .int v3])), (a1, .inl (cI, 21, .inl f1))] sz (tin - ((tin * ((v3 * v3) / 2)) / 100)) [(h0, .inr (0, [.ref a1, .int (v1 + (tin - ((tin * ((v3 * v3) / 2)) / 100))), .int (v2 + ((tin * ((v3 * v3) / 2)) / 100)), .int v3])), (a1, .inl (cI, 21, .inl (F_X0_fill_1 v3 f1 tin month)))]) 0 0 (va_A [(h0, .inr (0, [.ref a1, .int v1, .int v2, .int v3])), (a1, .inl (cI, 21, .inl f1))] sz) := by
  refine Met.ofW (cc := cX0_fill) (maxL := 5) (ret := (some .int)) (by decide) rfl ?_
  intro p e s m args below meth c s₁ B hml hv
  obtain ⟨rfl, hsz, hz, hP, hD0, hB⟩ := hv
  have hx := B.exec
  have hb := B.bytes
  have hr := B.returns
  have hts := atoms_spec (ws := wsX0_fill) B.pre
  have hown : s.vm.findClass RX0 = some m.cls := findClass_of_methodNamed B.named
  have hlocks := B.notSynchronized
  subst hsz
  have hD := hD0.self (sz := s.heap.size)
  have hA0 := va_A0 hD0 hz
  unfold QI
  generalize hAe : va_A [(h0, .inr (0, [.ref a1, .int v1, .int v2, .int v3])), (a1, .inl (cI, 21, .inl f1))] s.heap.size = A at hD hA0 ⊢
  have hA : ∀ q : Nat, s.heap.size ≤ q → A q := fun q h => by rw [← hAe]; exact Or.inr h
  have hS : va_S A s.heap s.heap [] := va_S.rf
  have hiX0 : ∀ w ∈ wsX00, w ∈ wsX0_fill := fun w h => List.mem_cons_of_mem _ (List.mem_append_right _ h)
  have hl := lv_entry ([.ref h0, .int tin, .int month]) (n := 5) (Nat.le_of_ble_eq_true rfl)
  rw [lg_entry_eq]
  generalize (lg_sl ([.ref h0, .int tin, .int month]) ++ List.replicate (5 - (lg_sl ([.ref h0, .int tin, .int month])).length) Slot.unset).toArray = ls at hl ⊢
  have hl : lv_has ls 5 [(0, .ref h0), (1, .int tin), (2, .int month)] := hl
  refine lv_iload_n hx hb dX0_fill_0 rfl (lv_at hl 1 rfl) ?_
  refine lv_aload_n hx hb dX0_fill_1 rfl (lv_at hl 0 rfl) ?_
  refine va_get (D := D) (ci := 0) (v := .int v3) (C := RX0) (T := TX0) (N := 4) hx hb hts hiX0 hown hB.1 hP 0 rfl rfl 3 (by decide) (hts _ (List.mem_of_getElem? (i := 1) rfl)) (fun _ h9 => h9) rfl dX0_fill_2 ?_
  refine lv_aload_n hx hb dX0_fill_5 rfl (lv_at hl 0 rfl) ?_
  refine va_get (D := D) (ci := 0) (v := .int v3) (C := RX0) (T := TX0) (N := 4) hx hb hts hiX0 hown hB.1 hP 0 rfl rfl 3 (by decide) (hts _ (List.mem_of_getElem? (i := 1) rfl)) (fun _ h9 => h9) rfl dX0_fill_6 ?_
  refine lv_imul hx hb dX0_fill_9 ?_
  refine lv_iconst (v := 2) hx hb dX0_fill_10 (by decide) ?_
  refine lv_idiv hx hb dX0_fill_11 (by decide) ?_
  refine lv_imul hx hb dX0_fill_12 ?_
  refine lv_bipush (v := 100) hx hb dX0_fill_13 (by decide) ?_
  refine lv_idiv hx hb dX0_fill_15 (by decide) ?_
  refine lv_istore_n (lv' := [(3, .int ((tin * ((v3 * v3) / 2)) / 100)), (0, .ref h0), (1, .int tin), (2, .int month)]) hx hb dX0_fill_16 rfl hl (by decide) rfl (fun ls hl => ?_)
  refine lv_iload_n hx hb dX0_fill_17 rfl (lv_at hl 2 rfl) ?_
  refine lv_iload_n hx hb dX0_fill_18 rfl (lv_at hl 0 rfl) ?_
  refine lv_isub hx hb dX0_fill_19 ?_
  refine lv_istore (lv' := [(4, .int (tin - ((tin * ((v3 * v3) / 2)) / 100))), (3, .int ((tin * ((v3 * v3) / 2)) / 100)), (0, .ref h0), (1, .int tin), (2, .int month)]) hx hb dX0_fill_20 hl (by decide) rfl (fun ls hl => ?_)
  refine lv_aload_n hx hb dX0_fill_22 rfl (lv_at hl 2 rfl) ?_
  refine lv_dup hx hb dX0_fill_23 rfl ?_
  refine va_get (D := D) (ci := 0) (v := .int v2) (C := RX0) (T := TX0) (N := 4) hx hb hts hiX0 hown hB.1 hP 0 rfl rfl 2 (by decide) (hts _ (List.mem_of_getElem? (i := 2) rfl)) (fun _ h9 => h9) rfl dX0_fill_24 ?_
  refine lv_iload_n hx hb dX0_fill_27 rfl (lv_at hl 1 rfl) ?_
  refine lv_iadd hx hb dX0_fill_28 ?_
  refine pf (w2 := [(h0, .inr (0, [.ref a1, .int v1, .int (v2 + ((tin * ((v3 * v3) / 2)) / 100)), .int v3])), (a1, .inl (cI, 21, .inl f1))]) (ci := 0) (C := RX0) (T := TX0) (N := 4) hx hb hts hiX0 tyX0 tyX0_ok nmX0 hown hB.1 hP hD hS 0 rfl rfl 2 (by decide) (hts _ (List.mem_of_getElem? (i := 2) rfl)) rfl rfl rfl rfl (Nat.le_of_ble_eq_true rfl) rfl dX0_fill_29 (fun H locs hP hD hS => ?_)
  refine lv_aload_n hx hb dX0_fill_32 rfl (lv_at hl 2 rfl) ?_
  refine lv_dup hx hb dX0_fill_33 rfl ?_
  refine va_get (D := D) (ci := 0) (v := .int v1) (C := RX0) (T := TX0) (N := 4) hx hb hts hiX0 hown hB.1 hP 0 rfl rfl 1 (by decide) (hts _ (List.mem_of_getElem? (i := 3) rfl)) (fun _ h9 => h9) rfl dX0_fill_34 ?_
  refine lv_iload hx hb dX0_fill_37 (lv_at hl 0 rfl) ?_
  refine lv_iadd hx hb dX0_fill_39 ?_
  refine pf (w2 := [(h0, .inr (0, [.ref a1, .int (v1 + (tin - ((tin * ((v3 * v3) / 2)) / 100))), .int (v2 + ((tin * ((v3 * v3) / 2)) / 100)), .int v3])), (a1, .inl (cI, 21, .inl f1))]) (ci := 0) (C := RX0) (T := TX0) (N := 4) hx hb hts hiX0 tyX0 tyX0_ok nmX0 hown hB.1 hP hD hS 0 rfl rfl 1 (by decide) (hts _ (List.mem_of_getElem? (i := 3) rfl)) rfl rfl rfl rfl (Nat.le_of_ble_eq_true rfl) rfl dX0_fill_40 (fun H locs hP hD hS => ?_)
  refine lv_iload_n hx hb dX0_fill_43 rfl (lv_at hl 4 rfl) ?_
  refine lv_iconst (v := 0) hx hb dX0_fill_44 (by decide) ?_
  refine lv_aload_n hx hb dX0_fill_45 rfl (lv_at hl 2 rfl) ?_
  refine va_get (D := D) (ci := 0) (v := .ref a1) (C := RX0) (T := TX0) (N := 4) hx hb hts hiX0 hown hB.1 hP 0 rfl rfl 0 (by decide) (hts _ (List.mem_of_getElem? (i := 4) rfl)) (fun _ h9 => h9) rfl dX0_fill_46 ?_
  refine va_alen (v := nI 21) hx hb hB.1 hP 1 0 rfl rfl rfl dX0_fill_49 ?_
  refine lv_iconst (v := 1) hx hb dX0_fill_50 (by decide) ?_
  refine lv_isub hx hb dX0_fill_51 ?_
  refine k_i (w2 := [(h0, .inr (0, [.ref a1, .int (v1 + (tin - ((tin * ((v3 * v3) / 2)) / 100))), .int (v2 + ((tin * ((v3 * v3) / 2)) / 100)), .int v3])), (a1, .inl (cI, 21, .inl f1))]) (va_runSN (As := [.int month, .int 0, .int ((nI 21) - 1)]) (rest := []) ⟨hx, hb, hml, hown, hts⟩ (c_X7_within l _ month 0 ((nI 21) - 1)) ⟨va_cnB 3 hts gX0_fill_X7_within_n25 rfl rfl rfl hB.2.1.2.2.2.2.2.2.2.1 (hts _ (List.mem_of_getElem? (i := 6) rfl)) (by decide +kernel) ⟨Nat.le_of_ble_eq_true rfl, Nat.le_of_ble_eq_true rfl⟩, hts _ (List.mem_of_getElem? (i := 5) rfl), trivial⟩ (pre_S hB hz hA0 hP hD hS [] rfl rfl) rfl rfl hl.1 rfl (lv_room (Nat.le_of_ble_eq_true rfl)) dX0_fill_52 ⟨Nat.zero_le _, Nat.zero_le _⟩) hP hD hS hA [] [0, 1] [0, 1] rfl rfl rfl rfl rfl (fun H locs hP hD hS => ?_)
  refine lv_if_eq (tgt := 69) hx hb dX0_fill_55 (by decide) (fun c_1 => ?_) (fun c_1 => ?_)
  · refine lv_iload hx hb dX0_fill_69 (lv_at hl 0 rfl) ?_
    have e1 : F_X0_fill_1 v3 f1 tin month = f1 := by rw [F_X0_fill_1, if_pos c_1]
    exact W.iret hx hb hr (fun t ht hW => ⟨⟨_, (), rfl, rfl, by rw [ht, e1]; exact hP, by rw [e1]; exact hD⟩, hS.F ht⟩) hS.2.2 dX0_fill_71
  · obtain ⟨hm1, hm2⟩ := wn_ix (by decide) c_1
    refine lv_aload_n hx hb dX0_fill_58 rfl (lv_at hl 2 rfl) ?_
    refine va_get (D := D) (ci := 0) (v := .ref a1) (C := RX0) (T := TX0) (N := 4) hx hb hts hiX0 hown hB.1 hP 0 rfl rfl 0 (by decide) (hts _ (List.mem_of_getElem? (i := 4) rfl)) (fun _ h9 => h9) rfl dX0_fill_59 ?_
    refine lv_iload_n hx hb dX0_fill_62 rfl (lv_at hl 4 rfl) ?_
    refine lv_dup2_11 hx hb dX0_fill_63 rfl rfl ?_
    refine ra_i hx hb hB.1 hP 1 rfl month.toNatClampNeg hm1 hm2 (by decide) dX0_fill_64 ?_
    refine lv_iload hx hb dX0_fill_65 (lv_at hl 0 rfl) ?_
    refine lv_iadd hx hb dX0_fill_67 ?_
    refine wa_i (w2 := [(h0, .inr (0, [.ref a1, .int (v1 + (tin - ((tin * ((v3 * v3) / 2)) / 100))), .int (v2 + ((tin * ((v3 * v3) / 2)) / 100)), .int v3])), (a1, .inl (cI, 21, .inl (upd f1 month.toNatClampNeg ((f1 month.toNatClampNeg) + (tin - ((tin * ((v3 * v3) / 2)) / 100))))))]) hx hb hB.1 hP hD hS 1 rfl month.toNatClampNeg hm1 hm2 (by decide) dX0_fill_68 rfl (fun H locs hP hD hS => ?_)
    refine lv_iload hx hb dX0_fill_69 (lv_at hl 0 rfl) ?_
    have e1 : F_X0_fill_1 v3 f1 tin month = upd f1 month.toNatClampNeg ((f1 month.toNatClampNeg) + (tin - ((tin * ((v3 * v3) / 2)) / 100))) := by rw [F_X0_fill_1, if_neg c_1]
    exact W.iret hx hb hr (fun t ht hW => ⟨⟨_, (), rfl, rfl, by rw [ht, e1]; exact hP, by rw [e1]; exact hD⟩, hS.F ht⟩) hS.2.2 dX0_fill_71

set_option maxHeartbeats 4000000 in
set_option maxRecDepth 100000 in
theorem c_X1_rowCount (l : Launch) {D : va_G} {cI cZ cB : ClassId} {au : Nat} {kA kV : Nat → Nat} {z0 : Nat} (sz : Nat) (h0 : Nat) (a1 : Nat) (a2 : Nat) (a3 : Nat) (a4 : Nat) (nr : Nat) (np : Nat) (g : Int32) (fd : Nat → Int32) (ft : Nat → Int32) (fl : Nat → Int32) (fg : Nat → Int32)  : Met l yX1_rowCount wsX1_rowCount ({ frames := 0, cells := 0, slots := 0, locals := 0 }) (va_Pc [.ref h0] (PRE D cI cZ cB au kA kV z0 sz [(h0, .inr (1, [.int (nI nr), .int (nI np), .ref a1, .ref a2, .ref a3, .ref a4, .int g])), (a1, .inl (cI, nr * np, .inl fd)), (a2, .inl (cI, nr * np, .inl ft)), (a3, .inl (cI, nr * np, .inl fl)), (a4, .inl (cI, nr * np, .inl fg))])) (QI D [(h0, .inr (1, [.int (nI nr), .int (nI np), .ref a1, .ref a2, .ref a3, .ref a4, .int g])), (a1, .inl (cI, nr * np, .inl fd)), (a2, .inl (cI, nr * np, .inl ft)), (a3, .inl (cI, nr * np, .inl fl)), (a4, .inl (cI, nr * np, .inl fg))] sz (nI nr) [(h0, .inr (1, [.int (nI nr), .int (nI np), .ref a1, .ref a2, .ref a3, .ref a4, .int g])), (a1, .inl (cI, nr * np, .inl fd)), (a2, .inl (cI, nr * np, .inl ft)), (a3, .inl (cI, nr * np, .inl fl)), (a4, .inl (cI, nr * np, .inl fg))]) 0 0 (va_A [(h0, .inr (1, [.int (nI nr), .int (nI np), .ref a1, .ref a2, .ref a3, .ref a4, .int g])), (a1, .inl (cI, nr * np, .inl fd)), (a2, .inl (cI, nr * np, .inl ft)), (a3, .inl (cI, nr * np, .inl fl)), (a4, .inl (cI, nr * np, .inl fg))] sz) := by
  refine Met.ofW (cc := cX1_rowCount) (maxL := 1) (ret := (some .int)) (by decide) rfl ?_
  intro p e s m args below meth c s₁ B hml hv
  obtain ⟨rfl, hsz, hz, hP, hD0, hB⟩ := hv
  have hx := B.exec
  have hb := B.bytes
  have hr := B.returns
  have hts := atoms_spec (ws := wsX1_rowCount) B.pre
  have hown : s.vm.findClass RX1 = some m.cls := findClass_of_methodNamed B.named
  have hlocks := B.notSynchronized
  subst hsz
  have hD := hD0.self (sz := s.heap.size)
  have hA0 := va_A0 hD0 hz
  unfold QI
  generalize hAe : va_A [(h0, .inr (1, [.int (nI nr), .int (nI np), .ref a1, .ref a2, .ref a3, .ref a4, .int g])), (a1, .inl (cI, nr * np, .inl fd)), (a2, .inl (cI, nr * np, .inl ft)), (a3, .inl (cI, nr * np, .inl fl)), (a4, .inl (cI, nr * np, .inl fg))] s.heap.size = A at hD hA0 ⊢
  have hA : ∀ q : Nat, s.heap.size ≤ q → A q := fun q h => by rw [← hAe]; exact Or.inr h
  have hS : va_S A s.heap s.heap [] := va_S.rf
  have hiX1 : ∀ w ∈ wsX10, w ∈ wsX1_rowCount := fun w h => List.mem_cons_of_mem _ (List.mem_append_right _ h)
  have hl := lv_entry ([.ref h0]) (n := 1) (Nat.le_of_ble_eq_true rfl)
  rw [lg_entry_eq]
  generalize (lg_sl ([.ref h0]) ++ List.replicate (1 - (lg_sl ([.ref h0])).length) Slot.unset).toArray = ls at hl ⊢
  have hl : lv_has ls 1 [(0, .ref h0)] := hl
  refine lv_aload_n hx hb dX1_rowCount_0 rfl (lv_at hl 0 rfl) ?_
  refine va_get (D := D) (ci := 1) (v := .int (nI nr)) (C := RX1) (T := TX1) (N := 7) hx hb hts hiX1 hown hB.1 hP 0 rfl rfl 0 (by decide) (hts _ (List.mem_of_getElem? (i := 1) rfl)) (fun _ h9 => h9) rfl dX1_rowCount_1 ?_
  exact W.iret hx hb hr (fun t ht hW => ⟨⟨_, (), rfl, rfl, by rw [ht]; exact hP, hD⟩, hS.F ht⟩) hS.2.2 dX1_rowCount_4

def F_X1_has (nr : Nat) (np : Nat) (row : Int32) (place : Int32) : Int32 :=
  if (F_X7_within row 0 ((nI nr) - 1)) = 0 then 0 else
  if (F_X7_within place 0 ((nI np) - 1)) = 0 then 0 else
  1
set_option maxHeartbeats 4000000 in
set_option maxRecDepth 100000 in
theorem c_X1_has (l : Launch) {D : va_G} {cI cZ cB : ClassId} {au : Nat} {kA kV : Nat → Nat} {z0 : Nat} (sz : Nat) (h0 : Nat) (a1 : Nat) (a2 : Nat) (a3 : Nat) (a4 : Nat) (nr : Nat) (np : Nat) (g : Int32) (fd : Nat → Int32) (ft : Nat → Int32) (fl : Nat → Int32) (fg : Nat → Int32) (row : Int32) (place : Int32)  : Met l yX1_has wsX1_has ({ frames := 1, cells := 0, slots := 0, locals := 22 }) (va_Pc [.ref h0, .int row, .int place] (PRE D cI cZ cB au kA kV z0 sz [(h0, .inr (1, [.int (nI nr), .int (nI np), .ref a1, .ref a2, .ref a3, .ref a4, .int g])), (a1, .inl (cI, nr * np, .inl fd)), (a2, .inl (cI, nr * np, .inl ft)), (a3, .inl (cI, nr * np, .inl fl)), (a4, .inl (cI, nr * np, .inl fg))])) (QI D [(h0, .inr (1, [.int (nI nr), .int (nI np), .ref a1, .ref a2, .ref a3, .ref a4, .int g])), (a1, .inl (cI, nr * np, .inl fd)), (a2, .inl (cI, nr * np, .inl ft)), (a3, .inl (cI, nr * np, .inl fl)), (a4, .inl (cI, nr * np, .inl fg))] sz (F_X1_has nr np row place) [(h0, .inr (1, [.int (nI nr), .int (nI np), .ref a1, .ref a2, .ref a3, .ref a4, .int g])), (a1, .inl (cI, nr * np, .inl fd)), (a2, .inl (cI, nr * np, .inl ft)), (a3, .inl (cI, nr * np, .inl fl)), (a4, .inl (cI, nr * np, .inl fg))]) 0 0 (va_A [(h0, .inr (1, [.int (nI nr), .int (nI np), .ref a1, .ref a2, .ref a3, .ref a4, .int g])), (a1, .inl (cI, nr * np, .inl fd)), (a2, .inl (cI, nr * np, .inl ft)), (a3, .inl (cI, nr * np, .inl fl)), (a4, .inl (cI, nr * np, .inl fg))] sz) := by
  refine Met.ofW (cc := cX1_has) (maxL := 3) (ret := (some .boolean)) (by decide) rfl ?_
  intro p e s m args below meth c s₁ B hml hv
  obtain ⟨rfl, hsz, hz, hP, hD0, hB⟩ := hv
  have hx := B.exec
  have hb := B.bytes
  have hr := B.returns
  have hts := atoms_spec (ws := wsX1_has) B.pre
  have hown : s.vm.findClass RX1 = some m.cls := findClass_of_methodNamed B.named
  have hlocks := B.notSynchronized
  subst hsz
  have hD := hD0.self (sz := s.heap.size)
  have hA0 := va_A0 hD0 hz
  unfold QI
  generalize hAe : va_A [(h0, .inr (1, [.int (nI nr), .int (nI np), .ref a1, .ref a2, .ref a3, .ref a4, .int g])), (a1, .inl (cI, nr * np, .inl fd)), (a2, .inl (cI, nr * np, .inl ft)), (a3, .inl (cI, nr * np, .inl fl)), (a4, .inl (cI, nr * np, .inl fg))] s.heap.size = A at hD hA0 ⊢
  have hA : ∀ q : Nat, s.heap.size ≤ q → A q := fun q h => by rw [← hAe]; exact Or.inr h
  have hS : va_S A s.heap s.heap [] := va_S.rf
  have hiX1 : ∀ w ∈ wsX10, w ∈ wsX1_has := fun w h => List.mem_cons_of_mem _ (List.mem_append_right _ h)
  have hl := lv_entry ([.ref h0, .int row, .int place]) (n := 3) (Nat.le_of_ble_eq_true rfl)
  rw [lg_entry_eq]
  generalize (lg_sl ([.ref h0, .int row, .int place]) ++ List.replicate (3 - (lg_sl ([.ref h0, .int row, .int place])).length) Slot.unset).toArray = ls at hl ⊢
  have hl : lv_has ls 3 [(0, .ref h0), (1, .int row), (2, .int place)] := hl
  refine lv_iload_n hx hb dX1_has_0 rfl (lv_at hl 1 rfl) ?_
  refine lv_iconst (v := 0) hx hb dX1_has_1 (by decide) ?_
  refine lv_aload_n hx hb dX1_has_2 rfl (lv_at hl 0 rfl) ?_
  refine va_get (D := D) (ci := 1) (v := .int (nI nr)) (C := RX1) (T := TX1) (N := 7) hx hb hts hiX1 hown hB.1 hP 0 rfl rfl 0 (by decide) (hts _ (List.mem_of_getElem? (i := 1) rfl)) (fun _ h9 => h9) rfl dX1_has_3 ?_
  refine lv_iconst (v := 1) hx hb dX1_has_6 (by decide) ?_
  refine lv_isub hx hb dX1_has_7 ?_
  refine k_i (w2 := [(h0, .inr (1, [.int (nI nr), .int (nI np), .ref a1, .ref a2, .ref a3, .ref a4, .int g])), (a1, .inl (cI, nr * np, .inl fd)), (a2, .inl (cI, nr * np, .inl ft)), (a3, .inl (cI, nr * np, .inl fl)), (a4, .inl (cI, nr * np, .inl fg))]) (va_runSN (As := [.int row, .int 0, .int ((nI nr) - 1)]) (rest := []) ⟨hx, hb, hml, hown, hts⟩ (c_X7_within l _ row 0 ((nI nr) - 1)) ⟨va_cnB 3 hts gX1_has_X7_within_n34 rfl rfl rfl hB.2.1.2.2.2.2.1 (hts _ (List.mem_of_getElem? (i := 4) rfl)) (by decide +kernel) ⟨Nat.le_of_ble_eq_true rfl, Nat.le_of_ble_eq_true rfl⟩, hts _ (List.mem_of_getElem? (i := 3) rfl), trivial⟩ (pre_S hB hz hA0 hP hD hS [] rfl rfl) rfl rfl hl.1 rfl (lv_room (Nat.le_of_ble_eq_true rfl)) dX1_has_8 ⟨Nat.zero_le _, Nat.zero_le _⟩) hP hD hS hA [] [0, 1, 2, 3, 4] [0, 1, 2, 3, 4] rfl rfl rfl rfl rfl (fun H locs hP hD hS => ?_)
  refine lv_if_eq (tgt := 32) hx hb dX1_has_11 (by decide) (fun c_1 => ?_) (fun c_1 => ?_)
  · refine lv_iconst (v := 0) hx hb dX1_has_32 (by decide) ?_
    have er : F_X1_has nr np row place = 0 := by rw [F_X1_has, if_pos c_1]
    exact W.zret hx hb hr rfl (fun t ht hW => ⟨⟨_, (), rfl, er.symm, by rw [ht]; exact hP, hD⟩, hS.F ht⟩) hS.2.2 dX1_has_33
  · refine lv_iload_n hx hb dX1_has_14 rfl (lv_at hl 2 rfl) ?_
    refine lv_iconst (v := 0) hx hb dX1_has_15 (by decide) ?_
    refine lv_aload_n hx hb dX1_has_16 rfl (lv_at hl 0 rfl) ?_
    refine va_get (D := D) (ci := 1) (v := .int (nI np)) (C := RX1) (T := TX1) (N := 7) hx hb hts hiX1 hown hB.1 hP 0 rfl rfl 1 (by decide) (hts _ (List.mem_of_getElem? (i := 2) rfl)) (fun _ h9 => h9) rfl dX1_has_17 ?_
    refine lv_iconst (v := 1) hx hb dX1_has_20 (by decide) ?_
    refine lv_isub hx hb dX1_has_21 ?_
    refine k_i (w2 := [(h0, .inr (1, [.int (nI nr), .int (nI np), .ref a1, .ref a2, .ref a3, .ref a4, .int g])), (a1, .inl (cI, nr * np, .inl fd)), (a2, .inl (cI, nr * np, .inl ft)), (a3, .inl (cI, nr * np, .inl fl)), (a4, .inl (cI, nr * np, .inl fg))]) (va_runSN (As := [.int place, .int 0, .int ((nI np) - 1)]) (rest := []) ⟨hx, hb, hml, hown, hts⟩ (c_X7_within l _ place 0 ((nI np) - 1)) ⟨va_cnB 3 hts gX1_has_X7_within_n34 rfl rfl rfl hB.2.1.2.2.2.2.1 (hts _ (List.mem_of_getElem? (i := 4) rfl)) (by decide +kernel) ⟨Nat.le_of_ble_eq_true rfl, Nat.le_of_ble_eq_true rfl⟩, hts _ (List.mem_of_getElem? (i := 3) rfl), trivial⟩ (pre_S hB hz hA0 hP hD hS [] rfl rfl) rfl rfl hl.1 rfl (lv_room (Nat.le_of_ble_eq_true rfl)) dX1_has_22 ⟨Nat.zero_le _, Nat.zero_le _⟩) hP hD hS hA [] [0, 1, 2, 3, 4] [0, 1, 2, 3, 4] rfl rfl rfl rfl rfl (fun H locs hP hD hS => ?_)
    refine lv_if_eq (tgt := 32) hx hb dX1_has_25 (by decide) (fun c_2 => ?_) (fun c_2 => ?_)
    · refine lv_iconst (v := 0) hx hb dX1_has_32 (by decide) ?_
      have er : F_X1_has nr np row place = 0 := by rw [F_X1_has, if_neg c_1, if_pos c_2]
      exact W.zret hx hb hr rfl (fun t ht hW => ⟨⟨_, (), rfl, er.symm, by rw [ht]; exact hP, hD⟩, hS.F ht⟩) hS.2.2 dX1_has_33
    · refine lv_iconst (v := 1) hx hb dX1_has_28 (by decide) ?_
      refine lv_goto (tgt := 33) hx hb dX1_has_29 (by decide) ?_
      have er : F_X1_has nr np row place = 1 := by rw [F_X1_has, if_neg c_1, if_neg c_2]
      exact W.zret hx hb hr rfl (fun t ht hW => ⟨⟨_, (), rfl, er.symm, by rw [ht]; exact hP, hD⟩, hS.F ht⟩) hS.2.2 dX1_has_33

set_option maxHeartbeats 4000000 in
set_option maxRecDepth 100000 in
theorem c_X1_depthAt (l : Launch) {D : va_G} {cI cZ cB : ClassId} {au : Nat} {kA kV : Nat → Nat} {z0 : Nat} (sz : Nat) (h0 : Nat) (a1 : Nat) (a2 : Nat) (a3 : Nat) (a4 : Nat) (nr : Nat) (np : Nat) (g : Int32) (fd : Nat → Int32) (ft : Nat → Int32) (fl : Nat → Int32) (fg : Nat → Int32) (row : Int32) (place : Int32) (i : Nat) (j : Nat) (hlen : nr * np < 2 ^ 31) (e_i : row = nI i) (e_j : place = nI j) (hi : i < nr) (hj : j < np) : Met l yX1_depthAt wsX1_depthAt ({ frames := 0, cells := 0, slots := 0, locals := 0 }) (va_Pc [.ref h0, .int row, .int place] (PRE D cI cZ cB au kA kV z0 sz [(h0, .inr (1, [.int (nI nr), .int (nI np), .ref a1, .ref a2, .ref a3, .ref a4, .int g])), (a1, .inl (cI, nr * np, .inl fd)), (a2, .inl (cI, nr * np, .inl ft)), (a3, .inl (cI, nr * np, .inl fl)), (a4, .inl (cI, nr * np, .inl fg))])) (QI D [(h0, .inr (1, [.int (nI nr), .int (nI np), .ref a1, .ref a2, .ref a3, .ref a4, .int g])), (a1, .inl (cI, nr * np, .inl fd)), (a2, .inl (cI, nr * np, .inl ft)), (a3, .inl (cI, nr * np, .inl fl)), (a4, .inl (cI, nr * np, .inl fg))] sz (fd ((i * np) + j)) [(h0, .inr (1, [.int (nI nr), .int (nI np), .ref a1, .ref a2, .ref a3, .ref a4, .int g])), (a1, .inl (cI, nr * np, .inl fd)), (a2, .inl (cI, nr * np, .inl ft)), (a3, .inl (cI, nr * np, .inl fl)), (a4, .inl (cI, nr * np, .inl fg))]) 0 0 (va_A [(h0, .inr (1, [.int (nI nr), .int (nI np), .ref a1, .ref a2, .ref a3, .ref a4, .int g])), (a1, .inl (cI, nr * np, .inl fd)), (a2, .inl (cI, nr * np, .inl ft)), (a3, .inl (cI, nr * np, .inl fl)), (a4, .inl (cI, nr * np, .inl fg))] sz) := by
  refine Met.ofW (cc := cX1_depthAt) (maxL := 3) (ret := (some .int)) (by decide) rfl ?_
  intro p e s m args below meth c s₁ B hml hv
  obtain ⟨rfl, hsz, hz, hP, hD0, hB⟩ := hv
  have hx := B.exec
  have hb := B.bytes
  have hr := B.returns
  have hts := atoms_spec (ws := wsX1_depthAt) B.pre
  have hown : s.vm.findClass RX1 = some m.cls := findClass_of_methodNamed B.named
  have hlocks := B.notSynchronized
  subst hsz
  have hD := hD0.self (sz := s.heap.size)
  have hA0 := va_A0 hD0 hz
  unfold QI
  generalize hAe : va_A [(h0, .inr (1, [.int (nI nr), .int (nI np), .ref a1, .ref a2, .ref a3, .ref a4, .int g])), (a1, .inl (cI, nr * np, .inl fd)), (a2, .inl (cI, nr * np, .inl ft)), (a3, .inl (cI, nr * np, .inl fl)), (a4, .inl (cI, nr * np, .inl fg))] s.heap.size = A at hD hA0 ⊢
  have hA : ∀ q : Nat, s.heap.size ≤ q → A q := fun q h => by rw [← hAe]; exact Or.inr h
  have hS : va_S A s.heap s.heap [] := va_S.rf
  have hiX1 : ∀ w ∈ wsX10, w ∈ wsX1_depthAt := fun w h => List.mem_cons_of_mem _ (List.mem_append_right _ h)
  have hl := lv_entry ([.ref h0, .int row, .int place]) (n := 3) (Nat.le_of_ble_eq_true rfl)
  rw [lg_entry_eq]
  generalize (lg_sl ([.ref h0, .int row, .int place]) ++ List.replicate (3 - (lg_sl ([.ref h0, .int row, .int place])).length) Slot.unset).toArray = ls at hl ⊢
  have hl : lv_has ls 3 [(0, .ref h0), (1, .int row), (2, .int place)] := hl
  refine lv_aload_n hx hb dX1_depthAt_0 rfl (lv_at hl 0 rfl) ?_
  refine va_get (D := D) (ci := 1) (v := .ref a1) (C := RX1) (T := TX1) (N := 7) hx hb hts hiX1 hown hB.1 hP 0 rfl rfl 2 (by decide) (hts _ (List.mem_of_getElem? (i := 1) rfl)) (fun _ h9 => h9) rfl dX1_depthAt_1 ?_
  refine lv_iload_n hx hb dX1_depthAt_4 rfl (lv_at hl 1 rfl) ?_
  refine lv_aload_n hx hb dX1_depthAt_5 rfl (lv_at hl 0 rfl) ?_
  refine va_get (D := D) (ci := 1) (v := .int (nI np)) (C := RX1) (T := TX1) (N := 7) hx hb hts hiX1 hown hB.1 hP 0 rfl rfl 1 (by decide) (hts _ (List.mem_of_getElem? (i := 2) rfl)) (fun _ h9 => h9) rfl dX1_depthAt_6 ?_
  refine lv_imul hx hb dX1_depthAt_9 ?_
  refine lv_iload_n hx hb dX1_depthAt_10 rfl (lv_at hl 2 rfl) ?_
  refine lv_iadd hx hb dX1_depthAt_11 ?_
  refine ra_i hx hb hB.1 hP 1 rfl ((i * np) + j) (nx_add (nx_mul e_i rfl) e_j) (ix2 hi hj) hlen dX1_depthAt_12 ?_
  exact W.iret hx hb hr (fun t ht hW => ⟨⟨_, (), rfl, rfl, by rw [ht]; exact hP, hD⟩, hS.F ht⟩) hS.2.2 dX1_depthAt_13

def F_X1_isTold (np : Nat) (ft : Nat → Int32) (i : Nat) (j : Nat) : Int32 :=
  if (ft ((i * np) + j)) = (-1) then 0 else
  1
set_option maxHeartbeats 4000000 in
set_option maxRecDepth 100000 in
theorem c_X1_isTold (l : Launch) {D : va_G} {cI cZ cB : ClassId} {au : Nat} {kA kV : Nat → Nat} {z0 : Nat} (sz : Nat) (h0 : Nat) (a1 : Nat) (a2 : Nat) (a3 : Nat) (a4 : Nat) (nr : Nat) (np : Nat) (g : Int32) (fd : Nat → Int32) (ft : Nat → Int32) (fl : Nat → Int32) (fg : Nat → Int32) (row : Int32) (place : Int32) (i : Nat) (j : Nat) (hlen : nr * np < 2 ^ 31) (e_i : row = nI i) (e_j : place = nI j) (hi : i < nr) (hj : j < np) : Met l yX1_isTold wsX1_isTold ({ frames := 0, cells := 0, slots := 0, locals := 0 }) (va_Pc [.ref h0, .int row, .int place] (PRE D cI cZ cB au kA kV z0 sz [(h0, .inr (1, [.int (nI nr), .int (nI np), .ref a1, .ref a2, .ref a3, .ref a4, .int g])), (a1, .inl (cI, nr * np, .inl fd)), (a2, .inl (cI, nr * np, .inl ft)), (a3, .inl (cI, nr * np, .inl fl)), (a4, .inl (cI, nr * np, .inl fg))])) (QI D [(h0, .inr (1, [.int (nI nr), .int (nI np), .ref a1, .ref a2, .ref a3, .ref a4, .int g])), (a1, .inl (cI, nr * np, .inl fd)), (a2, .inl (cI, nr * np, .inl ft)), (a3, .inl (cI, nr * np, .inl fl)), (a4, .inl (cI, nr * np, .inl fg))] sz (F_X1_isTold np ft i j) [(h0, .inr (1, [.int (nI nr), .int (nI np), .ref a1, .ref a2, .ref a3, .ref a4, .int g])), (a1, .inl (cI, nr * np, .inl fd)), (a2, .inl (cI, nr * np, .inl ft)), (a3, .inl (cI, nr * np, .inl fl)), (a4, .inl (cI, nr * np, .inl fg))]) 0 0 (va_A [(h0, .inr (1, [.int (nI nr), .int (nI np), .ref a1, .ref a2, .ref a3, .ref a4, .int g])), (a1, .inl (cI, nr * np, .inl fd)), (a2, .inl (cI, nr * np, .inl ft)), (a3, .inl (cI, nr * np, .inl fl)), (a4, .inl (cI, nr * np, .inl fg))] sz) := by
  refine Met.ofW (cc := cX1_isTold) (maxL := 3) (ret := (some .boolean)) (by decide) rfl ?_
  intro p e s m args below meth c s₁ B hml hv
  obtain ⟨rfl, hsz, hz, hP, hD0, hB⟩ := hv
  have hx := B.exec
  have hb := B.bytes
  have hr := B.returns
  have hts := atoms_spec (ws := wsX1_isTold) B.pre
  have hown : s.vm.findClass RX1 = some m.cls := findClass_of_methodNamed B.named
  have hlocks := B.notSynchronized
  subst hsz
  have hD := hD0.self (sz := s.heap.size)
  have hA0 := va_A0 hD0 hz
  unfold QI
  generalize hAe : va_A [(h0, .inr (1, [.int (nI nr), .int (nI np), .ref a1, .ref a2, .ref a3, .ref a4, .int g])), (a1, .inl (cI, nr * np, .inl fd)), (a2, .inl (cI, nr * np, .inl ft)), (a3, .inl (cI, nr * np, .inl fl)), (a4, .inl (cI, nr * np, .inl fg))] s.heap.size = A at hD hA0 ⊢
  have hA : ∀ q : Nat, s.heap.size ≤ q → A q := fun q h => by rw [← hAe]; exact Or.inr h
  have hS : va_S A s.heap s.heap [] := va_S.rf
  have hiX1 : ∀ w ∈ wsX10, w ∈ wsX1_isTold := fun w h => List.mem_cons_of_mem _ (List.mem_append_right _ h)
  have hl := lv_entry ([.ref h0, .int row, .int place]) (n := 3) (Nat.le_of_ble_eq_true rfl)
  rw [lg_entry_eq]
  generalize (lg_sl ([.ref h0, .int row, .int place]) ++ List.replicate (3 - (lg_sl ([.ref h0, .int row, .int place])).length) Slot.unset).toArray = ls at hl ⊢
  have hl : lv_has ls 3 [(0, .ref h0), (1, .int row), (2, .int place)] := hl
  refine lv_aload_n hx hb dX1_isTold_0 rfl (lv_at hl 0 rfl) ?_
  refine va_get (D := D) (ci := 1) (v := .ref a2) (C := RX1) (T := TX1) (N := 7) hx hb hts hiX1 hown hB.1 hP 0 rfl rfl 3 (by decide) (hts _ (List.mem_of_getElem? (i := 1) rfl)) (fun _ h9 => h9) rfl dX1_isTold_1 ?_
  refine lv_iload_n hx hb dX1_isTold_4 rfl (lv_at hl 1 rfl) ?_
  refine lv_aload_n hx hb dX1_isTold_5 rfl (lv_at hl 0 rfl) ?_
  refine va_get (D := D) (ci := 1) (v := .int (nI np)) (C := RX1) (T := TX1) (N := 7) hx hb hts hiX1 hown hB.1 hP 0 rfl rfl 1 (by decide) (hts _ (List.mem_of_getElem? (i := 2) rfl)) (fun _ h9 => h9) rfl dX1_isTold_6 ?_
  refine lv_imul hx hb dX1_isTold_9 ?_
  refine lv_iload_n hx hb dX1_isTold_10 rfl (lv_at hl 2 rfl) ?_
  refine lv_iadd hx hb dX1_isTold_11 ?_
  refine ra_i hx hb hB.1 hP 2 rfl ((i * np) + j) (nx_add (nx_mul e_i rfl) e_j) (ix2 hi hj) hlen dX1_isTold_12 ?_
  refine lv_iconst (v := (-1)) hx hb dX1_isTold_13 (by decide) ?_
  refine lv_icmp_eq (tgt := 21) hx hb dX1_isTold_14 (by decide) (fun c_1 => ?_) (fun c_1 => ?_)
  · refine lv_iconst (v := 0) hx hb dX1_isTold_21 (by decide) ?_
    have er : F_X1_isTold np ft i j = 0 := by rw [F_X1_isTold, if_pos c_1]
    exact W.zret hx hb hr rfl (fun t ht hW => ⟨⟨_, (), rfl, er.symm, by rw [ht]; exact hP, hD⟩, hS.F ht⟩) hS.2.2 dX1_isTold_22
  · refine lv_iconst (v := 1) hx hb dX1_isTold_17 (by decide) ?_
    refine lv_goto (tgt := 22) hx hb dX1_isTold_18 (by decide) ?_
    have er : F_X1_isTold np ft i j = 1 := by rw [F_X1_isTold, if_neg c_1]
    exact W.zret hx hb hr rfl (fun t ht hW => ⟨⟨_, (), rfl, er.symm, by rw [ht]; exact hP, hD⟩, hS.F ht⟩) hS.2.2 dX1_isTold_22

set_option maxHeartbeats 4000000 in
set_option maxRecDepth 100000 in
theorem c_X1_leastAt (l : Launch) {D : va_G} {cI cZ cB : ClassId} {au : Nat} {kA kV : Nat → Nat} {z0 : Nat} (sz : Nat) (h0 : Nat) (a1 : Nat) (a2 : Nat) (a3 : Nat) (a4 : Nat) (nr : Nat) (np : Nat) (g : Int32) (fd : Nat → Int32) (ft : Nat → Int32) (fl : Nat → Int32) (fg : Nat → Int32) (row : Int32) (place : Int32) (i : Nat) (j : Nat) (hlen : nr * np < 2 ^ 31) (e_i : row = nI i) (e_j : place = nI j) (hi : i < nr) (hj : j < np) : Met l yX1_leastAt wsX1_leastAt ({ frames := 0, cells := 0, slots := 0, locals := 0 }) (va_Pc [.ref h0, .int row, .int place] (PRE D cI cZ cB au kA kV z0 sz [(h0, .inr (1, [.int (nI nr), .int (nI np), .ref a1, .ref a2, .ref a3, .ref a4, .int g])), (a1, .inl (cI, nr * np, .inl fd)), (a2, .inl (cI, nr * np, .inl ft)), (a3, .inl (cI, nr * np, .inl fl)), (a4, .inl (cI, nr * np, .inl fg))])) (QI D [(h0, .inr (1, [.int (nI nr), .int (nI np), .ref a1, .ref a2, .ref a3, .ref a4, .int g])), (a1, .inl (cI, nr * np, .inl fd)), (a2, .inl (cI, nr * np, .inl ft)), (a3, .inl (cI, nr * np, .inl fl)), (a4, .inl (cI, nr * np, .inl fg))] sz (fl ((i * np) + j)) [(h0, .inr (1, [.int (nI nr), .int (nI np), .ref a1, .ref a2, .ref a3, .ref a4, .int g])), (a1, .inl (cI, nr * np, .inl fd)), (a2, .inl (cI, nr * np, .inl ft)), (a3, .inl (cI, nr * np, .inl fl)), (a4, .inl (cI, nr * np, .inl fg))]) 0 0 (va_A [(h0, .inr (1, [.int (nI nr), .int (nI np), .ref a1, .ref a2, .ref a3, .ref a4, .int g])), (a1, .inl (cI, nr * np, .inl fd)), (a2, .inl (cI, nr * np, .inl ft)), (a3, .inl (cI, nr * np, .inl fl)), (a4, .inl (cI, nr * np, .inl fg))] sz) := by
  refine Met.ofW (cc := cX1_leastAt) (maxL := 3) (ret := (some .int)) (by decide) rfl ?_
  intro p e s m args below meth c s₁ B hml hv
  obtain ⟨rfl, hsz, hz, hP, hD0, hB⟩ := hv
  have hx := B.exec
  have hb := B.bytes
  have hr := B.returns
  have hts := atoms_spec (ws := wsX1_leastAt) B.pre
  have hown : s.vm.findClass RX1 = some m.cls := findClass_of_methodNamed B.named
  have hlocks := B.notSynchronized
  subst hsz
  have hD := hD0.self (sz := s.heap.size)
  have hA0 := va_A0 hD0 hz
  unfold QI
  generalize hAe : va_A [(h0, .inr (1, [.int (nI nr), .int (nI np), .ref a1, .ref a2, .ref a3, .ref a4, .int g])), (a1, .inl (cI, nr * np, .inl fd)), (a2, .inl (cI, nr * np, .inl ft)), (a3, .inl (cI, nr * np, .inl fl)), (a4, .inl (cI, nr * np, .inl fg))] s.heap.size = A at hD hA0 ⊢
  have hA : ∀ q : Nat, s.heap.size ≤ q → A q := fun q h => by rw [← hAe]; exact Or.inr h
  have hS : va_S A s.heap s.heap [] := va_S.rf
  have hiX1 : ∀ w ∈ wsX10, w ∈ wsX1_leastAt := fun w h => List.mem_cons_of_mem _ (List.mem_append_right _ h)
  have hl := lv_entry ([.ref h0, .int row, .int place]) (n := 3) (Nat.le_of_ble_eq_true rfl)
  rw [lg_entry_eq]
  generalize (lg_sl ([.ref h0, .int row, .int place]) ++ List.replicate (3 - (lg_sl ([.ref h0, .int row, .int place])).length) Slot.unset).toArray = ls at hl ⊢
  have hl : lv_has ls 3 [(0, .ref h0), (1, .int row), (2, .int place)] := hl
  refine lv_aload_n hx hb dX1_leastAt_0 rfl (lv_at hl 0 rfl) ?_
  refine va_get (D := D) (ci := 1) (v := .ref a3) (C := RX1) (T := TX1) (N := 7) hx hb hts hiX1 hown hB.1 hP 0 rfl rfl 4 (by decide) (hts _ (List.mem_of_getElem? (i := 1) rfl)) (fun _ h9 => h9) rfl dX1_leastAt_1 ?_
  refine lv_iload_n hx hb dX1_leastAt_4 rfl (lv_at hl 1 rfl) ?_
  refine lv_aload_n hx hb dX1_leastAt_5 rfl (lv_at hl 0 rfl) ?_
  refine va_get (D := D) (ci := 1) (v := .int (nI np)) (C := RX1) (T := TX1) (N := 7) hx hb hts hiX1 hown hB.1 hP 0 rfl rfl 1 (by decide) (hts _ (List.mem_of_getElem? (i := 2) rfl)) (fun _ h9 => h9) rfl dX1_leastAt_6 ?_
  refine lv_imul hx hb dX1_leastAt_9 ?_
  refine lv_iload_n hx hb dX1_leastAt_10 rfl (lv_at hl 2 rfl) ?_
  refine lv_iadd hx hb dX1_leastAt_11 ?_
  refine ra_i hx hb hB.1 hP 3 rfl ((i * np) + j) (nx_add (nx_mul e_i rfl) e_j) (ix2 hi hj) hlen dX1_leastAt_12 ?_
  exact W.iret hx hb hr (fun t ht hW => ⟨⟨_, (), rfl, rfl, by rw [ht]; exact hP, hD⟩, hS.F ht⟩) hS.2.2 dX1_leastAt_13

set_option maxHeartbeats 4000000 in
set_option maxRecDepth 100000 in
theorem c_X1_greatestAt (l : Launch) {D : va_G} {cI cZ cB : ClassId} {au : Nat} {kA kV : Nat → Nat} {z0 : Nat} (sz : Nat) (h0 : Nat) (a1 : Nat) (a2 : Nat) (a3 : Nat) (a4 : Nat) (nr : Nat) (np : Nat) (g : Int32) (fd : Nat → Int32) (ft : Nat → Int32) (fl : Nat → Int32) (fg : Nat → Int32) (row : Int32) (place : Int32) (i : Nat) (j : Nat) (hlen : nr * np < 2 ^ 31) (e_i : row = nI i) (e_j : place = nI j) (hi : i < nr) (hj : j < np) : Met l yX1_greatestAt wsX1_greatestAt ({ frames := 0, cells := 0, slots := 0, locals := 0 }) (va_Pc [.ref h0, .int row, .int place] (PRE D cI cZ cB au kA kV z0 sz [(h0, .inr (1, [.int (nI nr), .int (nI np), .ref a1, .ref a2, .ref a3, .ref a4, .int g])), (a1, .inl (cI, nr * np, .inl fd)), (a2, .inl (cI, nr * np, .inl ft)), (a3, .inl (cI, nr * np, .inl fl)), (a4, .inl (cI, nr * np, .inl fg))])) (QI D [(h0, .inr (1, [.int (nI nr), .int (nI np), .ref a1, .ref a2, .ref a3, .ref a4, .int g])), (a1, .inl (cI, nr * np, .inl fd)), (a2, .inl (cI, nr * np, .inl ft)), (a3, .inl (cI, nr * np, .inl fl)), (a4, .inl (cI, nr * np, .inl fg))] sz (fg ((i * np) + j)) [(h0, .inr (1, [.int (nI nr), .int (nI np), .ref a1, .ref a2, .ref a3, .ref a4, .int g])), (a1, .inl (cI, nr * np, .inl fd)), (a2, .inl (cI, nr * np, .inl ft)), (a3, .inl (cI, nr * np, .inl fl)), (a4, .inl (cI, nr * np, .inl fg))]) 0 0 (va_A [(h0, .inr (1, [.int (nI nr), .int (nI np), .ref a1, .ref a2, .ref a3, .ref a4, .int g])), (a1, .inl (cI, nr * np, .inl fd)), (a2, .inl (cI, nr * np, .inl ft)), (a3, .inl (cI, nr * np, .inl fl)), (a4, .inl (cI, nr * np, .inl fg))] sz) := by
  refine Met.ofW (cc := cX1_greatestAt) (maxL := 3) (ret := (some .int)) (by decide) rfl ?_
  intro p e s m args below meth c s₁ B hml hv
  obtain ⟨rfl, hsz, hz, hP, hD0, hB⟩ := hv
  have hx := B.exec
  have hb := B.bytes
  have hr := B.returns
  have hts := atoms_spec (ws := wsX1_greatestAt) B.pre
  have hown : s.vm.findClass RX1 = some m.cls := findClass_of_methodNamed B.named
  have hlocks := B.notSynchronized
  subst hsz
  have hD := hD0.self (sz := s.heap.size)
  have hA0 := va_A0 hD0 hz
  unfold QI
  generalize hAe : va_A [(h0, .inr (1, [.int (nI nr), .int (nI np), .ref a1, .ref a2, .ref a3, .ref a4, .int g])), (a1, .inl (cI, nr * np, .inl fd)), (a2, .inl (cI, nr * np, .inl ft)), (a3, .inl (cI, nr * np, .inl fl)), (a4, .inl (cI, nr * np, .inl fg))] s.heap.size = A at hD hA0 ⊢
  have hA : ∀ q : Nat, s.heap.size ≤ q → A q := fun q h => by rw [← hAe]; exact Or.inr h
  have hS : va_S A s.heap s.heap [] := va_S.rf
  have hiX1 : ∀ w ∈ wsX10, w ∈ wsX1_greatestAt := fun w h => List.mem_cons_of_mem _ (List.mem_append_right _ h)
  have hl := lv_entry ([.ref h0, .int row, .int place]) (n := 3) (Nat.le_of_ble_eq_true rfl)
  rw [lg_entry_eq]
  generalize (lg_sl ([.ref h0, .int row, .int place]) ++ List.replicate (3 - (lg_sl ([.ref h0, .int row, .int place])).length) Slot.unset).toArray = ls at hl ⊢
  have hl : lv_has ls 3 [(0, .ref h0), (1, .int row), (2, .int place)] := hl
  refine lv_aload_n hx hb dX1_greatestAt_0 rfl (lv_at hl 0 rfl) ?_
  refine va_get (D := D) (ci := 1) (v := .ref a4) (C := RX1) (T := TX1) (N := 7) hx hb hts hiX1 hown hB.1 hP 0 rfl rfl 5 (by decide) (hts _ (List.mem_of_getElem? (i := 1) rfl)) (fun _ h9 => h9) rfl dX1_greatestAt_1 ?_
  refine lv_iload_n hx hb dX1_greatestAt_4 rfl (lv_at hl 1 rfl) ?_
  refine lv_aload_n hx hb dX1_greatestAt_5 rfl (lv_at hl 0 rfl) ?_
  refine va_get (D := D) (ci := 1) (v := .int (nI np)) (C := RX1) (T := TX1) (N := 7) hx hb hts hiX1 hown hB.1 hP 0 rfl rfl 1 (by decide) (hts _ (List.mem_of_getElem? (i := 2) rfl)) (fun _ h9 => h9) rfl dX1_greatestAt_6 ?_
  refine lv_imul hx hb dX1_greatestAt_9 ?_
  refine lv_iload_n hx hb dX1_greatestAt_10 rfl (lv_at hl 2 rfl) ?_
  refine lv_iadd hx hb dX1_greatestAt_11 ?_
  refine ra_i hx hb hB.1 hP 4 rfl ((i * np) + j) (nx_add (nx_mul e_i rfl) e_j) (ix2 hi hj) hlen dX1_greatestAt_12 ?_
  exact W.iret hx hb hr (fun t ht hW => ⟨⟨_, (), rfl, rfl, by rw [ht]; exact hP, hD⟩, hS.F ht⟩) hS.2.2 dX1_greatestAt_13

set_option maxHeartbeats 4000000 in
set_option maxRecDepth 100000 in
theorem c_X1_deepen (l : Launch) {D : va_G} {cI cZ cB : ClassId} {au : Nat} {kA kV : Nat → Nat} {z0 : Nat} (sz : Nat) (h0 : Nat) (a1 : Nat) (a2 : Nat) (a3 : Nat) (a4 : Nat) (nr : Nat) (np : Nat) (g : Int32) (fd : Nat → Int32) (ft : Nat → Int32) (fl : Nat → Int32) (fg : Nat → Int32) (row : Int32) (place : Int32) (i : Nat) (j : Nat) (depth : Int32) (hlen : nr * np < 2 ^ 31) (e_i : row = nI i) (e_j : place = nI j) (hi : i < nr) (hj : j < np) : Met l yX1_deepen wsX1_deepen ({ frames := 0, cells := 0, slots := 0, locals := 0 }) (va_Pc [.ref h0, .int row, .int place, .int depth] (PRE D cI cZ cB au kA kV z0 sz [(h0, .inr (1, [.int (nI nr), .int (nI np), .ref a1, .ref a2, .ref a3, .ref a4, .int g])), (a1, .inl (cI, nr * np, .inl fd)), (a2, .inl (cI, nr * np, .inl ft)), (a3, .inl (cI, nr * np, .inl fl)), (a4, .inl (cI, nr * np, .inl fg))])) (QV D [(h0, .inr (1, [.int (nI nr), .int (nI np), .ref a1, .ref a2, .ref a3, .ref a4, .int g])), (a1, .inl (cI, nr * np, .inl fd)), (a2, .inl (cI, nr * np, .inl ft)), (a3, .inl (cI, nr * np, .inl fl)), (a4, .inl (cI, nr * np, .inl fg))] sz [(h0, .inr (1, [.int (nI nr), .int (nI np), .ref a1, .ref a2, .ref a3, .ref a4, .int g])), (a1, .inl (cI, nr * np, .inl (upd fd ((i * np) + j) depth))), (a2, .inl (cI, nr * np, .inl ft)), (a3, .inl (cI, nr * np, .inl fl)), (a4, .inl (cI, nr * np, .inl fg))]) 0 0 (va_A [(h0, .inr (1, [.int (nI nr), .int (nI np), .ref a1, .ref a2, .ref a3, .ref a4, .int g])), (a1, .inl (cI, nr * np, .inl fd)), (a2, .inl (cI, nr * np, .inl ft)), (a3, .inl (cI, nr * np, .inl fl)), (a4, .inl (cI, nr * np, .inl fg))] sz) := by
  refine Met.ofW (cc := cX1_deepen) (maxL := 4) (ret := none) (by decide) rfl ?_
  intro p e s m args below meth c s₁ B hml hv
  obtain ⟨rfl, hsz, hz, hP, hD0, hB⟩ := hv
  have hx := B.exec
  have hb := B.bytes
  have hr := B.returns
  have hts := atoms_spec (ws := wsX1_deepen) B.pre
  have hown : s.vm.findClass RX1 = some m.cls := findClass_of_methodNamed B.named
  have hlocks := B.notSynchronized
  subst hsz
  have hD := hD0.self (sz := s.heap.size)
  have hA0 := va_A0 hD0 hz
  unfold QV
  generalize hAe : va_A [(h0, .inr (1, [.int (nI nr), .int (nI np), .ref a1, .ref a2, .ref a3, .ref a4, .int g])), (a1, .inl (cI, nr * np, .inl fd)), (a2, .inl (cI, nr * np, .inl ft)), (a3, .inl (cI, nr * np, .inl fl)), (a4, .inl (cI, nr * np, .inl fg))] s.heap.size = A at hD hA0 ⊢
  have hA : ∀ q : Nat, s.heap.size ≤ q → A q := fun q h => by rw [← hAe]; exact Or.inr h
  have hS : va_S A s.heap s.heap [] := va_S.rf
  have hiX1 : ∀ w ∈ wsX10, w ∈ wsX1_deepen := fun w h => List.mem_cons_of_mem _ (List.mem_append_right _ h)
  have hl := lv_entry ([.ref h0, .int row, .int place, .int depth]) (n := 4) (Nat.le_of_ble_eq_true rfl)
  rw [lg_entry_eq]
  generalize (lg_sl ([.ref h0, .int row, .int place, .int depth]) ++ List.replicate (4 - (lg_sl ([.ref h0, .int row, .int place, .int depth])).length) Slot.unset).toArray = ls at hl ⊢
  have hl : lv_has ls 4 [(0, .ref h0), (1, .int row), (2, .int place), (3, .int depth)] := hl
  refine lv_aload_n hx hb dX1_deepen_0 rfl (lv_at hl 0 rfl) ?_
  refine va_get (D := D) (ci := 1) (v := .ref a1) (C := RX1) (T := TX1) (N := 7) hx hb hts hiX1 hown hB.1 hP 0 rfl rfl 2 (by decide) (hts _ (List.mem_of_getElem? (i := 1) rfl)) (fun _ h9 => h9) rfl dX1_deepen_1 ?_
  refine lv_iload_n hx hb dX1_deepen_4 rfl (lv_at hl 1 rfl) ?_
  refine lv_aload_n hx hb dX1_deepen_5 rfl (lv_at hl 0 rfl) ?_
  refine va_get (D := D) (ci := 1) (v := .int (nI np)) (C := RX1) (T := TX1) (N := 7) hx hb hts hiX1 hown hB.1 hP 0 rfl rfl 1 (by decide) (hts _ (List.mem_of_getElem? (i := 2) rfl)) (fun _ h9 => h9) rfl dX1_deepen_6 ?_
  refine lv_imul hx hb dX1_deepen_9 ?_
  refine lv_iload_n hx hb dX1_deepen_10 rfl (lv_at hl 2 rfl) ?_
  refine lv_iadd hx hb dX1_deepen_11 ?_
  refine lv_iload_n hx hb dX1_deepen_12 rfl (lv_at hl 3 rfl) ?_
  refine wa_i (w2 := [(h0, .inr (1, [.int (nI nr), .int (nI np), .ref a1, .ref a2, .ref a3, .ref a4, .int g])), (a1, .inl (cI, nr * np, .inl (upd fd ((i * np) + j) depth))), (a2, .inl (cI, nr * np, .inl ft)), (a3, .inl (cI, nr * np, .inl fl)), (a4, .inl (cI, nr * np, .inl fg))]) hx hb hB.1 hP hD hS 1 rfl ((i * np) + j) (nx_add (nx_mul e_i rfl) e_j) (ix2 hi hj) hlen dX1_deepen_13 rfl (fun H locs hP hD hS => ?_)
  exact W.vret hx hb hr (fun t ht hW => ⟨⟨(), rfl, trivial, by rw [ht]; exact hP, hD⟩, hS.F ht⟩) hS.2.2 dX1_deepen_14

def F_X1_quarrelsAt (np : Nat) (fl : Nat → Int32) (fg : Nat → Int32) (i : Nat) (j : Nat) : Int32 :=
  if (fl ((i * np) + j)) ≤ (fg ((i * np) + j)) then 0 else
  1
set_option maxHeartbeats 4000000 in
set_option maxRecDepth 100000 in
theorem c_X1_quarrelsAt (l : Launch) {D : va_G} {cI cZ cB : ClassId} {au : Nat} {kA kV : Nat → Nat} {z0 : Nat} (sz : Nat) (h0 : Nat) (a1 : Nat) (a2 : Nat) (a3 : Nat) (a4 : Nat) (nr : Nat) (np : Nat) (g : Int32) (fd : Nat → Int32) (ft : Nat → Int32) (fl : Nat → Int32) (fg : Nat → Int32) (row : Int32) (place : Int32) (i : Nat) (j : Nat) (hlen : nr * np < 2 ^ 31) (e_i : row = nI i) (e_j : place = nI j) (hi : i < nr) (hj : j < np) : Met l yX1_quarrelsAt wsX1_quarrelsAt ({ frames := 1, cells := 0, slots := 0, locals := 22 }) (va_Pc [.ref h0, .int row, .int place] (PRE D cI cZ cB au kA kV z0 sz [(h0, .inr (1, [.int (nI nr), .int (nI np), .ref a1, .ref a2, .ref a3, .ref a4, .int g])), (a1, .inl (cI, nr * np, .inl fd)), (a2, .inl (cI, nr * np, .inl ft)), (a3, .inl (cI, nr * np, .inl fl)), (a4, .inl (cI, nr * np, .inl fg))])) (QI D [(h0, .inr (1, [.int (nI nr), .int (nI np), .ref a1, .ref a2, .ref a3, .ref a4, .int g])), (a1, .inl (cI, nr * np, .inl fd)), (a2, .inl (cI, nr * np, .inl ft)), (a3, .inl (cI, nr * np, .inl fl)), (a4, .inl (cI, nr * np, .inl fg))] sz (F_X1_quarrelsAt np fl fg i j) [(h0, .inr (1, [.int (nI nr), .int (nI np), .ref a1, .ref a2, .ref a3, .ref a4, .int g])), (a1, .inl (cI, nr * np, .inl fd)), (a2, .inl (cI, nr * np, .inl ft)), (a3, .inl (cI, nr * np, .inl fl)), (a4, .inl (cI, nr * np, .inl fg))]) 0 0 (va_A [(h0, .inr (1, [.int (nI nr), .int (nI np), .ref a1, .ref a2, .ref a3, .ref a4, .int g])), (a1, .inl (cI, nr * np, .inl fd)), (a2, .inl (cI, nr * np, .inl ft)), (a3, .inl (cI, nr * np, .inl fl)), (a4, .inl (cI, nr * np, .inl fg))] sz) := by
  refine Met.ofW (cc := cX1_quarrelsAt) (maxL := 3) (ret := (some .boolean)) (by decide) rfl ?_
  intro p e s m args below meth c s₁ B hml hv
  obtain ⟨rfl, hsz, hz, hP, hD0, hB⟩ := hv
  have hx := B.exec
  have hb := B.bytes
  have hr := B.returns
  have hts := atoms_spec (ws := wsX1_quarrelsAt) B.pre
  have hown : s.vm.findClass RX1 = some m.cls := findClass_of_methodNamed B.named
  have hlocks := B.notSynchronized
  subst hsz
  have hD := hD0.self (sz := s.heap.size)
  have hA0 := va_A0 hD0 hz
  unfold QI
  generalize hAe : va_A [(h0, .inr (1, [.int (nI nr), .int (nI np), .ref a1, .ref a2, .ref a3, .ref a4, .int g])), (a1, .inl (cI, nr * np, .inl fd)), (a2, .inl (cI, nr * np, .inl ft)), (a3, .inl (cI, nr * np, .inl fl)), (a4, .inl (cI, nr * np, .inl fg))] s.heap.size = A at hD hA0 ⊢
  have hA : ∀ q : Nat, s.heap.size ≤ q → A q := fun q h => by rw [← hAe]; exact Or.inr h
  have hS : va_S A s.heap s.heap [] := va_S.rf
  have hl := lv_entry ([.ref h0, .int row, .int place]) (n := 3) (Nat.le_of_ble_eq_true rfl)
  rw [lg_entry_eq]
  generalize (lg_sl ([.ref h0, .int row, .int place]) ++ List.replicate (3 - (lg_sl ([.ref h0, .int row, .int place])).length) Slot.unset).toArray = ls at hl ⊢
  have hl : lv_has ls 3 [(0, .ref h0), (1, .int row), (2, .int place)] := hl
  refine lv_aload_n hx hb dX1_quarrelsAt_0 rfl (lv_at hl 0 rfl) ?_
  refine lv_iload_n hx hb dX1_quarrelsAt_1 rfl (lv_at hl 1 rfl) ?_
  refine lv_iload_n hx hb dX1_quarrelsAt_2 rfl (lv_at hl 2 rfl) ?_
  refine k_i (w2 := [(h0, .inr (1, [.int (nI nr), .int (nI np), .ref a1, .ref a2, .ref a3, .ref a4, .int g])), (a1, .inl (cI, nr * np, .inl fd)), (a2, .inl (cI, nr * np, .inl ft)), (a3, .inl (cI, nr * np, .inl fl)), (a4, .inl (cI, nr * np, .inl fg))]) (va_runV (As := [.int row, .int place]) (rest := []) ⟨hx, hb, hml, hown, hts⟩ (c_X1_leastAt l _ h0 a1 a2 a3 a4 nr np g fd ft fl fg row place i j hlen e_i e_j hi hj) (cwV 2 hts gX1_quarrelsAt_X1_leastAt rfl rfl rfl (by decide +kernel) ⟨Nat.le_of_ble_eq_true rfl, Nat.le_of_ble_eq_true rfl⟩) (pre_V (ci := 1) (q0 := 0) hB hz hA0 hP hD hS [0, 1, 2, 3, 4] rfl rfl rfl rfl rfl) rfl rfl hl.1 rfl (lv_room (Nat.le_of_ble_eq_true rfl)) dX1_quarrelsAt_3 ⟨Nat.zero_le _, Nat.zero_le _⟩) hP hD hS hA [0, 1, 2, 3, 4] [] [0, 1, 2, 3, 4] rfl rfl rfl rfl rfl (fun H locs hP hD hS => ?_)
  refine lv_aload_n hx hb dX1_quarrelsAt_6 rfl (lv_at hl 0 rfl) ?_
  refine lv_iload_n hx hb dX1_quarrelsAt_7 rfl (lv_at hl 1 rfl) ?_
  refine lv_iload_n hx hb dX1_quarrelsAt_8 rfl (lv_at hl 2 rfl) ?_
  refine k_i (w2 := [(h0, .inr (1, [.int (nI nr), .int (nI np), .ref a1, .ref a2, .ref a3, .ref a4, .int g])), (a1, .inl (cI, nr * np, .inl fd)), (a2, .inl (cI, nr * np, .inl ft)), (a3, .inl (cI, nr * np, .inl fl)), (a4, .inl (cI, nr * np, .inl fg))]) (va_runV (As := [.int row, .int place]) (rest := [.int (fl ((i * np) + j))]) ⟨hx, hb, hml, hown, hts⟩ (c_X1_greatestAt l _ h0 a1 a2 a3 a4 nr np g fd ft fl fg row place i j hlen e_i e_j hi hj) (cwV 2 hts gX1_quarrelsAt_X1_greatestAt rfl rfl rfl (by decide +kernel) ⟨Nat.le_of_ble_eq_true rfl, Nat.le_of_ble_eq_true rfl⟩) (pre_V (ci := 1) (q0 := 0) hB hz hA0 hP hD hS [0, 1, 2, 3, 4] rfl rfl rfl rfl rfl) rfl rfl hl.1 rfl (lv_room (Nat.le_of_ble_eq_true rfl)) dX1_quarrelsAt_9 ⟨Nat.zero_le _, Nat.zero_le _⟩) hP hD hS hA [0, 1, 2, 3, 4] [] [0, 1, 2, 3, 4] rfl rfl rfl rfl rfl (fun H locs hP hD hS => ?_)
  refine lv_icmp_le (tgt := 19) hx hb dX1_quarrelsAt_12 (by decide) (fun c_1 => ?_) (fun c_1 => ?_)
  · refine lv_iconst (v := 0) hx hb dX1_quarrelsAt_19 (by decide) ?_
    have er : F_X1_quarrelsAt np fl fg i j = 0 := by rw [F_X1_quarrelsAt, if_pos c_1]
    exact W.zret hx hb hr rfl (fun t ht hW => ⟨⟨_, (), rfl, er.symm, by rw [ht]; exact hP, hD⟩, hS.F ht⟩) hS.2.2 dX1_quarrelsAt_20
  · refine lv_iconst (v := 1) hx hb dX1_quarrelsAt_15 (by decide) ?_
    refine lv_goto (tgt := 20) hx hb dX1_quarrelsAt_16 (by decide) ?_
    have er : F_X1_quarrelsAt np fl fg i j = 1 := by rw [F_X1_quarrelsAt, if_neg c_1]
    exact W.zret hx hb hr rfl (fun t ht hW => ⟨⟨_, (), rfl, er.symm, by rw [ht]; exact hP, hD⟩, hS.F ht⟩) hS.2.2 dX1_quarrelsAt_20

def F_X1_quarrels_L4 (fl : Nat → Int32) (fg : Nat → Int32) (t : Nat) (s_ : Int32) : Int32 :=
    if (fl t) ≤ (fg t) then (s_) else
    s_ + 1
set_option maxHeartbeats 4000000 in
set_option maxRecDepth 100000 in
theorem c_X1_quarrels (l : Launch) {D : va_G} {cI cZ cB : ClassId} {au : Nat} {kA kV : Nat → Nat} {z0 : Nat} (sz : Nat) (h0 : Nat) (a1 : Nat) (a2 : Nat) (a3 : Nat) (a4 : Nat) (nr : Nat) (np : Nat) (g : Int32) (fd : Nat → Int32) (ft : Nat → Int32) (fl : Nat → Int32) (fg : Nat → Int32) (hlen : nr * np < 2 ^ 31) : Met l yX1_quarrels wsX1_quarrels ({ frames := 0, cells := 0, slots := 0, locals := 0 }) (va_Pc [.ref h0] (PRE D cI cZ cB au kA kV z0 sz [(h0, .inr (1, [.int (nI nr), .int (nI np), .ref a1, .ref a2, .ref a3, .ref a4, .int g])), (a1, .inl (cI, nr * np, .inl fd)), (a2, .inl (cI, nr * np, .inl ft)), (a3, .inl (cI, nr * np, .inl fl)), (a4, .inl (cI, nr * np, .inl fg))])) (QI D [(h0, .inr (1, [.int (nI nr), .int (nI np), .ref a1, .ref a2, .ref a3, .ref a4, .int g])), (a1, .inl (cI, nr * np, .inl fd)), (a2, .inl (cI, nr * np, .inl ft)), (a3, .inl (cI, nr * np, .inl fl)), (a4, .inl (cI, nr * np, .inl fg))] sz (lp (F_X1_quarrels_L4 fl fg) (nr * np) 0) [(h0, .inr (1, [.int (nI nr), .int (nI np), .ref a1, .ref a2, .ref a3, .ref a4, .int g])), (a1, .inl (cI, nr * np, .inl fd)), (a2, .inl (cI, nr * np, .inl ft)), (a3, .inl (cI, nr * np, .inl fl)), (a4, .inl (cI, nr * np, .inl fg))]) 0 0 (va_A [(h0, .inr (1, [.int (nI nr), .int (nI np), .ref a1, .ref a2, .ref a3, .ref a4, .int g])), (a1, .inl (cI, nr * np, .inl fd)), (a2, .inl (cI, nr * np, .inl ft)), (a3, .inl (cI, nr * np, .inl fl)), (a4, .inl (cI, nr * np, .inl fg))] sz) := by
  refine Met.ofW (cc := cX1_quarrels) (maxL := 3) (ret := (some .int)) (by decide) rfl ?_
  intro p e s m args below meth c s₁ B hml hv
  obtain ⟨rfl, hsz, hz, hP, hD0, hB⟩ := hv
  have hx := B.exec
  have hb := B.bytes
  have hr := B.returns
  have hts := atoms_spec (ws := wsX1_quarrels) B.pre
  have hown : s.vm.findClass RX1 = some m.cls := findClass_of_methodNamed B.named
  have hlocks := B.notSynchronized
  subst hsz
  have hD := hD0.self (sz := s.heap.size)
  have hA0 := va_A0 hD0 hz
  unfold QI
  generalize hAe : va_A [(h0, .inr (1, [.int (nI nr), .int (nI np), .ref a1, .ref a2, .ref a3, .ref a4, .int g])), (a1, .inl (cI, nr * np, .inl fd)), (a2, .inl (cI, nr * np, .inl ft)), (a3, .inl (cI, nr * np, .inl fl)), (a4, .inl (cI, nr * np, .inl fg))] s.heap.size = A at hD hA0 ⊢
  have hA : ∀ q : Nat, s.heap.size ≤ q → A q := fun q h => by rw [← hAe]; exact Or.inr h
  have hS : va_S A s.heap s.heap [] := va_S.rf
  have hiX1 : ∀ w ∈ wsX10, w ∈ wsX1_quarrels := fun w h => List.mem_cons_of_mem _ (List.mem_append_right _ h)
  have hl := lv_entry ([.ref h0]) (n := 3) (Nat.le_of_ble_eq_true rfl)
  rw [lg_entry_eq]
  generalize (lg_sl ([.ref h0]) ++ List.replicate (3 - (lg_sl ([.ref h0])).length) Slot.unset).toArray = ls at hl ⊢
  have hl : lv_has ls 3 [(0, .ref h0)] := hl
  refine lv_iconst (v := 0) hx hb dX1_quarrels_0 (by decide) ?_
  refine lv_istore_n (lv' := [(1, .int 0), (0, .ref h0)]) hx hb dX1_quarrels_1 rfl hl (by decide) rfl (fun ls hl => ?_)
  refine lv_iconst (v := 0) hx hb dX1_quarrels_2 (by decide) ?_
  refine lv_istore_n (lv' := [(2, .int 0), (1, .int 0), (0, .ref h0)]) hx hb dX1_quarrels_3 rfl hl (by decide) rfl (fun ls hl => ?_)
  refine lpM (σ := Nat) (fun t => t ≤ nr * np) (fun t => (nr * np) - t) (fun t => [(h0, .inr (1, [.int (nI nr), .int (nI np), .ref a1, .ref a2, .ref a3, .ref a4, .int g])), (a1, .inl (cI, nr * np, .inl fd)), (a2, .inl (cI, nr * np, .inl ft)), (a3, .inl (cI, nr * np, .inl fl)), (a4, .inl (cI, nr * np, .inl fg))]) (fun t => [(2, .int (nI t)), (1, .int (lp (F_X1_quarrels_L4 fl fg) t 0)), (0, .ref h0)]) 0 (Nat.zero_le _) hP hD hS (lv_sub hl [0, 1, 2] rfl) ?_
  intro t h_t ih_t H locs ls hP hD hS hl
  have hP : va_P D vwCl [(h0, .inr (1, [.int (nI nr), .int (nI np), .ref a1, .ref a2, .ref a3, .ref a4, .int g])), (a1, .inl (cI, nr * np, .inl fd)), (a2, .inl (cI, nr * np, .inl ft)), (a3, .inl (cI, nr * np, .inl fl)), (a4, .inl (cI, nr * np, .inl fg))] H := hP
  have hD : va_D A [(h0, .inr (1, [.int (nI nr), .int (nI np), .ref a1, .ref a2, .ref a3, .ref a4, .int g])), (a1, .inl (cI, nr * np, .inl fd)), (a2, .inl (cI, nr * np, .inl ft)), (a3, .inl (cI, nr * np, .inl fl)), (a4, .inl (cI, nr * np, .inl fg))] := hD
  have hl : lv_has ls 3 [(2, .int (nI t)), (1, .int (lp (F_X1_quarrels_L4 fl fg) t 0)), (0, .ref h0)] := hl
  generalize hs_t : lp (F_X1_quarrels_L4 fl fg) t 0 = sv1 at hl
  refine lv_iload_n hx hb dX1_quarrels_4 rfl (lv_at hl 0 rfl) ?_
  refine lv_aload_n hx hb dX1_quarrels_5 rfl (lv_at hl 2 rfl) ?_
  refine va_get (D := D) (ci := 1) (v := .ref a3) (C := RX1) (T := TX1) (N := 7) hx hb hts hiX1 hown hB.1 hP 0 rfl rfl 4 (by decide) (hts _ (List.mem_of_getElem? (i := 1) rfl)) (fun _ h9 => h9) rfl dX1_quarrels_6 ?_
  refine va_alen (v := nI (nr * np)) hx hb hB.1 hP 3 0 rfl rfl rfl dX1_quarrels_9 ?_
  refine lv_icmp_ge (tgt := 37) hx hb dX1_quarrels_10 (by decide) (fun c_2 => ?_) (fun c_2 => ?_)
  · have hx_t : nr * np = t := Eq.symm (le_ex hlen h_t c_2)
    subst hx_t
    subst hs_t
    refine lv_iload_n hx hb dX1_quarrels_37 rfl (lv_at hl 1 rfl) ?_
    exact W.iret hx hb hr (fun t ht hW => ⟨⟨_, (), rfl, rfl, by rw [ht]; exact hP, hD⟩, hS.F ht⟩) hS.2.2 dX1_quarrels_38
  · have hlt_t : t < nr * np := le_go hlen h_t c_2
    refine lv_aload_n hx hb dX1_quarrels_13 rfl (lv_at hl 2 rfl) ?_
    refine va_get (D := D) (ci := 1) (v := .ref a3) (C := RX1) (T := TX1) (N := 7) hx hb hts hiX1 hown hB.1 hP 0 rfl rfl 4 (by decide) (hts _ (List.mem_of_getElem? (i := 1) rfl)) (fun _ h9 => h9) rfl dX1_quarrels_14 ?_
    refine lv_iload_n hx hb dX1_quarrels_17 rfl (lv_at hl 0 rfl) ?_
    refine ra_i hx hb hB.1 hP 3 rfl t rfl (by omega) hlen dX1_quarrels_18 ?_
    refine lv_aload_n hx hb dX1_quarrels_19 rfl (lv_at hl 2 rfl) ?_
    refine va_get (D := D) (ci := 1) (v := .ref a4) (C := RX1) (T := TX1) (N := 7) hx hb hts hiX1 hown hB.1 hP 0 rfl rfl 5 (by decide) (hts _ (List.mem_of_getElem? (i := 2) rfl)) (fun _ h9 => h9) rfl dX1_quarrels_20 ?_
    refine lv_iload_n hx hb dX1_quarrels_23 rfl (lv_at hl 0 rfl) ?_
    refine ra_i hx hb hB.1 hP 4 rfl t rfl (by omega) hlen dX1_quarrels_24 ?_
    refine lv_icmp_le (tgt := 31) hx hb dX1_quarrels_25 (by decide) (fun c_3 => ?_) (fun c_3 => ?_)
    · refine lv_iinc (v := nI (t + 1)) (lv' := [(2, .int (nI (t + 1))), (1, .int sv1), (0, .ref h0)]) hx hb dX1_quarrels_31 hl (k := 0) rfl (nI_1 _) (by decide) rfl (fun ls hl => ?_)
      refine lv_goto (tgt := 4) hx hb dX1_quarrels_34 (by decide) ?_
      have e_step : F_X1_quarrels_L4 fl fg t sv1 = sv1 := by rw [F_X1_quarrels_L4, if_pos c_3]
      have hP2 : va_P D vwCl [(h0, .inr (1, [.int (nI nr), .int (nI np), .ref a1, .ref a2, .ref a3, .ref a4, .int g])), (a1, .inl (cI, nr * np, .inl fd)), (a2, .inl (cI, nr * np, .inl ft)), (a3, .inl (cI, nr * np, .inl fl)), (a4, .inl (cI, nr * np, .inl fg))] H := hP
      have hD2 : va_D A [(h0, .inr (1, [.int (nI nr), .int (nI np), .ref a1, .ref a2, .ref a3, .ref a4, .int g])), (a1, .inl (cI, nr * np, .inl fd)), (a2, .inl (cI, nr * np, .inl ft)), (a3, .inl (cI, nr * np, .inl fl)), (a4, .inl (cI, nr * np, .inl fg))] := hD
      have hl2 : lv_has ls 3 [(2, .int (nI (t + 1))), (1, .int (F_X1_quarrels_L4 fl fg t sv1)), (0, .ref h0)] := by rw [e_step]; exact lv_sub hl [0, 1, 2] rfl
      subst hs_t
      exact ih_t (t + 1) (by omega) (by omega) _ _ _ hP2 hD2 hS hl2
    · refine lv_iinc (v := sv1 + 1) (lv' := [(1, .int (sv1 + 1)), (2, .int (nI t)), (0, .ref h0)]) hx hb dX1_quarrels_28 hl (k := 1) rfl rfl (by decide) rfl (fun ls hl => ?_)
      refine lv_iinc (v := nI (t + 1)) (lv' := [(2, .int (nI (t + 1))), (1, .int (sv1 + 1)), (0, .ref h0)]) hx hb dX1_quarrels_31 hl (k := 1) rfl (nI_1 _) (by decide) rfl (fun ls hl => ?_)
      refine lv_goto (tgt := 4) hx hb dX1_quarrels_34 (by decide) ?_
      have e_step : F_X1_quarrels_L4 fl fg t sv1 = sv1 + 1 := by rw [F_X1_quarrels_L4, if_neg c_3]
      have hP2 : va_P D vwCl [(h0, .inr (1, [.int (nI nr), .int (nI np), .ref a1, .ref a2, .ref a3, .ref a4, .int g])), (a1, .inl (cI, nr * np, .inl fd)), (a2, .inl (cI, nr * np, .inl ft)), (a3, .inl (cI, nr * np, .inl fl)), (a4, .inl (cI, nr * np, .inl fg))] H := hP
      have hD2 : va_D A [(h0, .inr (1, [.int (nI nr), .int (nI np), .ref a1, .ref a2, .ref a3, .ref a4, .int g])), (a1, .inl (cI, nr * np, .inl fd)), (a2, .inl (cI, nr * np, .inl ft)), (a3, .inl (cI, nr * np, .inl fl)), (a4, .inl (cI, nr * np, .inl fg))] := hD
      have hl2 : lv_has ls 3 [(2, .int (nI (t + 1))), (1, .int (F_X1_quarrels_L4 fl fg t sv1)), (0, .ref h0)] := by rw [e_step]; exact lv_sub hl [0, 1, 2] rfl
      subst hs_t
      exact ih_t (t + 1) (by omega) (by omega) _ _ _ hP2 hD2 hS hl2

def F_X1_openSpans_L2 (ft : Nat → Int32) (t : Nat) (s_ : (Nat → Int32) × (Nat → Int32)) : (Nat → Int32) × (Nat → Int32) :=
    if (ft t) = (-1) then ((upd s_.1 t 0, upd s_.2 t 1000)) else
    (upd s_.1 t (ft t), upd s_.2 t (ft t))
set_option maxHeartbeats 4000000 in
set_option maxRecDepth 100000 in
theorem c_X1_openSpans (l : Launch) {D : va_G} {cI cZ cB : ClassId} {au : Nat} {kA kV : Nat → Nat} {z0 : Nat} (sz : Nat) (h0 : Nat) (a1 : Nat) (a2 : Nat) (a3 : Nat) (a4 : Nat) (nr : Nat) (np : Nat) (g : Int32) (fd : Nat → Int32) (ft : Nat → Int32) (fl : Nat → Int32) (fg : Nat → Int32) (hlen : nr * np < 2 ^ 31) : Met l yX1_openSpans wsX1_openSpans ({ frames := 0, cells := 0, slots := 0, locals := 0 }) (va_Pc [.ref h0] (PRE D cI cZ cB au kA kV z0 sz [(h0, .inr (1, [.int (nI nr), .int (nI np), .ref a1, .ref a2, .ref a3, .ref a4, .int g])), (a1, .inl (cI, nr * np, .inl fd)), (a2, .inl (cI, nr * np, .inl ft)), (a3, .inl (cI, nr * np, .inl fl)), (a4, .inl (cI, nr * np, .inl fg))])) (QV D [(h0, .inr (1, [.int (nI nr), .int (nI np), .ref a1, .ref a2, .ref a3, .ref a4, .int g])), (a1, .inl (cI, nr * np, .inl fd)), (a2, .inl (cI, nr * np, .inl ft)), (a3, .inl (cI, nr * np, .inl fl)), (a4, .inl (cI, nr * np, .inl fg))] sz [(h0, .inr (1, [.int (nI nr), .int (nI np), .ref a1, .ref a2, .ref a3, .ref a4, .int g])), (a1, .inl (cI, nr * np, .inl fd)), (a2, .inl (cI, nr * np, .inl ft)), (a3, .inl (cI, nr * np, .inl ((lp (F_X1_openSpans_L2 ft) (nr * np) (fl, fg)).1))), (a4, .inl (cI, nr * np, .inl ((lp (F_X1_openSpans_L2 ft) (nr * np) (fl, fg)).2)))]) 0 0 (va_A [(h0, .inr (1, [.int (nI nr), .int (nI np), .ref a1, .ref a2, .ref a3, .ref a4, .int g])), (a1, .inl (cI, nr * np, .inl fd)), (a2, .inl (cI, nr * np, .inl ft)), (a3, .inl (cI, nr * np, .inl fl)), (a4, .inl (cI, nr * np, .inl fg))] sz) := by
  refine Met.ofW (cc := cX1_openSpans) (maxL := 3) (ret := none) (by decide) rfl ?_
  intro p e s m args below meth c s₁ B hml hv
  obtain ⟨rfl, hsz, hz, hP, hD0, hB⟩ := hv
  have hx := B.exec
  have hb := B.bytes
  have hr := B.returns
  have hts := atoms_spec (ws := wsX1_openSpans) B.pre
  have hown : s.vm.findClass RX1 = some m.cls := findClass_of_methodNamed B.named
  have hlocks := B.notSynchronized
  subst hsz
  have hD := hD0.self (sz := s.heap.size)
  have hA0 := va_A0 hD0 hz
  unfold QV
  generalize hAe : va_A [(h0, .inr (1, [.int (nI nr), .int (nI np), .ref a1, .ref a2, .ref a3, .ref a4, .int g])), (a1, .inl (cI, nr * np, .inl fd)), (a2, .inl (cI, nr * np, .inl ft)), (a3, .inl (cI, nr * np, .inl fl)), (a4, .inl (cI, nr * np, .inl fg))] s.heap.size = A at hD hA0 ⊢
  have hA : ∀ q : Nat, s.heap.size ≤ q → A q := fun q h => by rw [← hAe]; exact Or.inr h
  have hS : va_S A s.heap s.heap [] := va_S.rf
  have hiX1 : ∀ w ∈ wsX10, w ∈ wsX1_openSpans := fun w h => List.mem_cons_of_mem _ (List.mem_append_right _ h)
  have hl := lv_entry ([.ref h0]) (n := 3) (Nat.le_of_ble_eq_true rfl)
  rw [lg_entry_eq]
  generalize (lg_sl ([.ref h0]) ++ List.replicate (3 - (lg_sl ([.ref h0])).length) Slot.unset).toArray = ls at hl ⊢
  have hl : lv_has ls 3 [(0, .ref h0)] := hl
  refine lv_iconst (v := 0) hx hb dX1_openSpans_0 (by decide) ?_
  refine lv_istore_n (lv' := [(1, .int 0), (0, .ref h0)]) hx hb dX1_openSpans_1 rfl hl (by decide) rfl (fun ls hl => ?_)
  refine lpM (σ := Nat) (fun t => t ≤ nr * np) (fun t => (nr * np) - t) (fun t => [(h0, .inr (1, [.int (nI nr), .int (nI np), .ref a1, .ref a2, .ref a3, .ref a4, .int g])), (a1, .inl (cI, nr * np, .inl fd)), (a2, .inl (cI, nr * np, .inl ft)), (a3, .inl (cI, nr * np, .inl ((lp (F_X1_openSpans_L2 ft) t (fl, fg)).1))), (a4, .inl (cI, nr * np, .inl ((lp (F_X1_openSpans_L2 ft) t (fl, fg)).2)))]) (fun t => [(1, .int (nI t)), (0, .ref h0)]) 0 (Nat.zero_le _) hP hD hS (lv_sub hl [0, 1] rfl) ?_
  intro t h_t ih_t H locs ls hP hD hS hl
  have hP : va_P D vwCl [(h0, .inr (1, [.int (nI nr), .int (nI np), .ref a1, .ref a2, .ref a3, .ref a4, .int g])), (a1, .inl (cI, nr * np, .inl fd)), (a2, .inl (cI, nr * np, .inl ft)), (a3, .inl (cI, nr * np, .inl ((lp (F_X1_openSpans_L2 ft) t (fl, fg)).1))), (a4, .inl (cI, nr * np, .inl ((lp (F_X1_openSpans_L2 ft) t (fl, fg)).2)))] H := hP
  have hD : va_D A [(h0, .inr (1, [.int (nI nr), .int (nI np), .ref a1, .ref a2, .ref a3, .ref a4, .int g])), (a1, .inl (cI, nr * np, .inl fd)), (a2, .inl (cI, nr * np, .inl ft)), (a3, .inl (cI, nr * np, .inl ((lp (F_X1_openSpans_L2 ft) t (fl, fg)).1))), (a4, .inl (cI, nr * np, .inl ((lp (F_X1_openSpans_L2 ft) t (fl, fg)).2)))] := hD
  have hl : lv_has ls 3 [(1, .int (nI t)), (0, .ref h0)] := hl
  generalize hs_t : lp (F_X1_openSpans_L2 ft) t (fl, fg) = sv1 at hP hD 
  refine lv_iload_n hx hb dX1_openSpans_2 rfl (lv_at hl 0 rfl) ?_
  refine lv_aload_n hx hb dX1_openSpans_3 rfl (lv_at hl 1 rfl) ?_
  refine va_get (D := D) (ci := 1) (v := .ref a2) (C := RX1) (T := TX1) (N := 7) hx hb hts hiX1 hown hB.1 hP 0 rfl rfl 3 (by decide) (hts _ (List.mem_of_getElem? (i := 1) rfl)) (fun _ h9 => h9) rfl dX1_openSpans_4 ?_
  refine va_alen (v := nI (nr * np)) hx hb hB.1 hP 2 0 rfl rfl rfl dX1_openSpans_7 ?_
  refine lv_icmp_ge (tgt := 75) hx hb dX1_openSpans_8 (by decide) (fun c_2 => ?_) (fun c_2 => ?_)
  · have hx_t : nr * np = t := Eq.symm (le_ex hlen h_t c_2)
    subst hx_t
    subst hs_t
    exact W.vret hx hb hr (fun t ht hW => ⟨⟨(), rfl, trivial, by rw [ht]; exact hP, hD⟩, hS.F ht⟩) hS.2.2 dX1_openSpans_75
  · have hlt_t : t < nr * np := le_go hlen h_t c_2
    refine lv_aload_n hx hb dX1_openSpans_11 rfl (lv_at hl 1 rfl) ?_
    refine va_get (D := D) (ci := 1) (v := .ref a2) (C := RX1) (T := TX1) (N := 7) hx hb hts hiX1 hown hB.1 hP 0 rfl rfl 3 (by decide) (hts _ (List.mem_of_getElem? (i := 1) rfl)) (fun _ h9 => h9) rfl dX1_openSpans_12 ?_
    refine lv_iload_n hx hb dX1_openSpans_15 rfl (lv_at hl 0 rfl) ?_
    refine ra_i hx hb hB.1 hP 2 rfl t rfl (by omega) hlen dX1_openSpans_16 ?_
    refine lv_iconst (v := (-1)) hx hb dX1_openSpans_17 (by decide) ?_
    refine lv_icmp_eq (tgt := 25) hx hb dX1_openSpans_18 (by decide) (fun c_3 => ?_) (fun c_3 => ?_)
    · refine lv_iconst (v := 0) hx hb dX1_openSpans_25 (by decide) ?_
      refine lv_istore_n (lv' := [(2, .int 0), (1, .int (nI t)), (0, .ref h0)]) hx hb dX1_openSpans_26 rfl hl (by decide) rfl (fun ls hl => ?_)
      refine lv_aload_n hx hb dX1_openSpans_27 rfl (lv_at hl 2 rfl) ?_
      refine va_get (D := D) (ci := 1) (v := .ref a3) (C := RX1) (T := TX1) (N := 7) hx hb hts hiX1 hown hB.1 hP 0 rfl rfl 4 (by decide) (hts _ (List.mem_of_getElem? (i := 2) rfl)) (fun _ h9 => h9) rfl dX1_openSpans_28 ?_
      refine lv_iload_n hx hb dX1_openSpans_31 rfl (lv_at hl 1 rfl) ?_
      refine lv_iload_n hx hb dX1_openSpans_32 rfl (lv_at hl 0 rfl) ?_
      refine lv_if_eq (tgt := 45) hx hb dX1_openSpans_33 (by decide) (fun c_4 => ?_) (fun c_4 => ?_)
      · refine lv_iconst (v := 0) hx hb dX1_openSpans_45 (by decide) ?_
        refine wa_i (w2 := [(h0, .inr (1, [.int (nI nr), .int (nI np), .ref a1, .ref a2, .ref a3, .ref a4, .int g])), (a1, .inl (cI, nr * np, .inl fd)), (a2, .inl (cI, nr * np, .inl ft)), (a3, .inl (cI, nr * np, .inl (upd sv1.1 t 0))), (a4, .inl (cI, nr * np, .inl sv1.2))]) hx hb hB.1 hP hD hS 3 rfl t rfl (by omega) hlen dX1_openSpans_46 rfl (fun H locs hP hD hS => ?_)
        refine lv_aload_n hx hb dX1_openSpans_47 rfl (lv_at hl 2 rfl) ?_
        refine va_get (D := D) (ci := 1) (v := .ref a4) (C := RX1) (T := TX1) (N := 7) hx hb hts hiX1 hown hB.1 hP 0 rfl rfl 5 (by decide) (hts _ (List.mem_of_getElem? (i := 3) rfl)) (fun _ h9 => h9) rfl dX1_openSpans_48 ?_
        refine lv_iload_n hx hb dX1_openSpans_51 rfl (lv_at hl 1 rfl) ?_
        refine lv_iload_n hx hb dX1_openSpans_52 rfl (lv_at hl 0 rfl) ?_
        refine lv_if_eq (tgt := 65) hx hb dX1_openSpans_53 (by decide) (fun c_5 => ?_) (fun c_5 => ?_)
        · refine lv_sipush (v := 1000) hx hb dX1_openSpans_65 (by decide) ?_
          refine wa_i (w2 := [(h0, .inr (1, [.int (nI nr), .int (nI np), .ref a1, .ref a2, .ref a3, .ref a4, .int g])), (a1, .inl (cI, nr * np, .inl fd)), (a2, .inl (cI, nr * np, .inl ft)), (a3, .inl (cI, nr * np, .inl (upd sv1.1 t 0))), (a4, .inl (cI, nr * np, .inl (upd sv1.2 t 1000)))]) hx hb hB.1 hP hD hS 4 rfl t rfl (by omega) hlen dX1_openSpans_68 rfl (fun H locs hP hD hS => ?_)
          refine lv_iinc (v := nI (t + 1)) (lv' := [(1, .int (nI (t + 1))), (2, .int 0), (0, .ref h0)]) hx hb dX1_openSpans_69 hl (k := 1) rfl (nI_1 _) (by decide) rfl (fun ls hl => ?_)
          refine lv_goto (tgt := 2) hx hb dX1_openSpans_72 (by decide) ?_
          have e_step : F_X1_openSpans_L2 ft t sv1 = (upd sv1.1 t 0, upd sv1.2 t 1000) := by rw [F_X1_openSpans_L2, if_pos c_3]
          have hP2 : va_P D vwCl [(h0, .inr (1, [.int (nI nr), .int (nI np), .ref a1, .ref a2, .ref a3, .ref a4, .int g])), (a1, .inl (cI, nr * np, .inl fd)), (a2, .inl (cI, nr * np, .inl ft)), (a3, .inl (cI, nr * np, .inl ((F_X1_openSpans_L2 ft t sv1).1))), (a4, .inl (cI, nr * np, .inl ((F_X1_openSpans_L2 ft t sv1).2)))] H := by rw [e_step]; exact hP
          have hD2 : va_D A [(h0, .inr (1, [.int (nI nr), .int (nI np), .ref a1, .ref a2, .ref a3, .ref a4, .int g])), (a1, .inl (cI, nr * np, .inl fd)), (a2, .inl (cI, nr * np, .inl ft)), (a3, .inl (cI, nr * np, .inl ((F_X1_openSpans_L2 ft t sv1).1))), (a4, .inl (cI, nr * np, .inl ((F_X1_openSpans_L2 ft t sv1).2)))] := by rw [e_step]; exact hD
          have hl2 : lv_has ls 3 [(1, .int (nI (t + 1))), (0, .ref h0)] := lv_sub hl [0, 2] rfl
          subst hs_t
          exact ih_t (t + 1) (by omega) (by omega) _ _ _ hP2 hD2 hS hl2
        · exact absurd c_5 (by decide)
      · exact absurd c_4 (by decide)
    · refine lv_iconst (v := 1) hx hb dX1_openSpans_21 (by decide) ?_
      refine lv_goto (tgt := 26) hx hb dX1_openSpans_22 (by decide) ?_
      refine lv_istore_n (lv' := [(2, .int 1), (1, .int (nI t)), (0, .ref h0)]) hx hb dX1_openSpans_26 rfl hl (by decide) rfl (fun ls hl => ?_)
      refine lv_aload_n hx hb dX1_openSpans_27 rfl (lv_at hl 2 rfl) ?_
      refine va_get (D := D) (ci := 1) (v := .ref a3) (C := RX1) (T := TX1) (N := 7) hx hb hts hiX1 hown hB.1 hP 0 rfl rfl 4 (by decide) (hts _ (List.mem_of_getElem? (i := 2) rfl)) (fun _ h9 => h9) rfl dX1_openSpans_28 ?_
      refine lv_iload_n hx hb dX1_openSpans_31 rfl (lv_at hl 1 rfl) ?_
      refine lv_iload_n hx hb dX1_openSpans_32 rfl (lv_at hl 0 rfl) ?_
      refine lv_if_eq (tgt := 45) hx hb dX1_openSpans_33 (by decide) (fun c_6 => ?_) (fun c_6 => ?_)
      · exact absurd c_6 (by decide)
      · refine lv_aload_n hx hb dX1_openSpans_36 rfl (lv_at hl 2 rfl) ?_
        refine va_get (D := D) (ci := 1) (v := .ref a2) (C := RX1) (T := TX1) (N := 7) hx hb hts hiX1 hown hB.1 hP 0 rfl rfl 3 (by decide) (hts _ (List.mem_of_getElem? (i := 1) rfl)) (fun _ h9 => h9) rfl dX1_openSpans_37 ?_
        refine lv_iload_n hx hb dX1_openSpans_40 rfl (lv_at hl 1 rfl) ?_
        refine ra_i hx hb hB.1 hP 2 rfl t rfl (by omega) hlen dX1_openSpans_41 ?_
        refine lv_goto (tgt := 46) hx hb dX1_openSpans_42 (by decide) ?_
        refine wa_i (w2 := [(h0, .inr (1, [.int (nI nr), .int (nI np), .ref a1, .ref a2, .ref a3, .ref a4, .int g])), (a1, .inl (cI, nr * np, .inl fd)), (a2, .inl (cI, nr * np, .inl ft)), (a3, .inl (cI, nr * np, .inl (upd sv1.1 t (ft t)))), (a4, .inl (cI, nr * np, .inl sv1.2))]) hx hb hB.1 hP hD hS 3 rfl t rfl (by omega) hlen dX1_openSpans_46 rfl (fun H locs hP hD hS => ?_)
        refine lv_aload_n hx hb dX1_openSpans_47 rfl (lv_at hl 2 rfl) ?_
        refine va_get (D := D) (ci := 1) (v := .ref a4) (C := RX1) (T := TX1) (N := 7) hx hb hts hiX1 hown hB.1 hP 0 rfl rfl 5 (by decide) (hts _ (List.mem_of_getElem? (i := 3) rfl)) (fun _ h9 => h9) rfl dX1_openSpans_48 ?_
        refine lv_iload_n hx hb dX1_openSpans_51 rfl (lv_at hl 1 rfl) ?_
        refine lv_iload_n hx hb dX1_openSpans_52 rfl (lv_at hl 0 rfl) ?_
        refine lv_if_eq (tgt := 65) hx hb dX1_openSpans_53 (by decide) (fun c_7 => ?_) (fun c_7 => ?_)
        · exact absurd c_7 (by decide)
        · refine lv_aload_n hx hb dX1_openSpans_56 rfl (lv_at hl 2 rfl) ?_
          refine va_get (D := D) (ci := 1) (v := .ref a2) (C := RX1) (T := TX1) (N := 7) hx hb hts hiX1 hown hB.1 hP 0 rfl rfl 3 (by decide) (hts _ (List.mem_of_getElem? (i := 1) rfl)) (fun _ h9 => h9) rfl dX1_openSpans_57 ?_
          refine lv_iload_n hx hb dX1_openSpans_60 rfl (lv_at hl 1 rfl) ?_
          refine ra_i hx hb hB.1 hP 2 rfl t rfl (by omega) hlen dX1_openSpans_61 ?_
          refine lv_goto (tgt := 68) hx hb dX1_openSpans_62 (by decide) ?_
          refine wa_i (w2 := [(h0, .inr (1, [.int (nI nr), .int (nI np), .ref a1, .ref a2, .ref a3, .ref a4, .int g])), (a1, .inl (cI, nr * np, .inl fd)), (a2, .inl (cI, nr * np, .inl ft)), (a3, .inl (cI, nr * np, .inl (upd sv1.1 t (ft t)))), (a4, .inl (cI, nr * np, .inl (upd sv1.2 t (ft t))))]) hx hb hB.1 hP hD hS 4 rfl t rfl (by omega) hlen dX1_openSpans_68 rfl (fun H locs hP hD hS => ?_)
          refine lv_iinc (v := nI (t + 1)) (lv' := [(1, .int (nI (t + 1))), (2, .int 1), (0, .ref h0)]) hx hb dX1_openSpans_69 hl (k := 1) rfl (nI_1 _) (by decide) rfl (fun ls hl => ?_)
          refine lv_goto (tgt := 2) hx hb dX1_openSpans_72 (by decide) ?_
          have e_step : F_X1_openSpans_L2 ft t sv1 = (upd sv1.1 t (ft t), upd sv1.2 t (ft t)) := by rw [F_X1_openSpans_L2, if_neg c_3]
          have hP2 : va_P D vwCl [(h0, .inr (1, [.int (nI nr), .int (nI np), .ref a1, .ref a2, .ref a3, .ref a4, .int g])), (a1, .inl (cI, nr * np, .inl fd)), (a2, .inl (cI, nr * np, .inl ft)), (a3, .inl (cI, nr * np, .inl ((F_X1_openSpans_L2 ft t sv1).1))), (a4, .inl (cI, nr * np, .inl ((F_X1_openSpans_L2 ft t sv1).2)))] H := by rw [e_step]; exact hP
          have hD2 : va_D A [(h0, .inr (1, [.int (nI nr), .int (nI np), .ref a1, .ref a2, .ref a3, .ref a4, .int g])), (a1, .inl (cI, nr * np, .inl fd)), (a2, .inl (cI, nr * np, .inl ft)), (a3, .inl (cI, nr * np, .inl ((F_X1_openSpans_L2 ft t sv1).1))), (a4, .inl (cI, nr * np, .inl ((F_X1_openSpans_L2 ft t sv1).2)))] := by rw [e_step]; exact hD
          have hl2 : lv_has ls 3 [(1, .int (nI (t + 1))), (0, .ref h0)] := lv_sub hl [0, 2] rfl
          subst hs_t
          exact ih_t (t + 1) (by omega) (by omega) _ _ _ hP2 hD2 hS hl2

def F_X1_closeToldSpans_L2 (ft : Nat → Int32) (t : Nat) (s_ : (Nat → Int32) × (Nat → Int32)) : (Nat → Int32) × (Nat → Int32) :=
    if (ft t) = (-1) then ((s_.1, s_.2)) else
    (upd s_.1 t (ft t), upd s_.2 t (ft t))
set_option maxHeartbeats 4000000 in
set_option maxRecDepth 100000 in
theorem c_X1_closeToldSpans (l : Launch) {D : va_G} {cI cZ cB : ClassId} {au : Nat} {kA kV : Nat → Nat} {z0 : Nat} (sz : Nat) (h0 : Nat) (a1 : Nat) (a2 : Nat) (a3 : Nat) (a4 : Nat) (nr : Nat) (np : Nat) (g : Int32) (fd : Nat → Int32) (ft : Nat → Int32) (fl : Nat → Int32) (fg : Nat → Int32) (hlen : nr * np < 2 ^ 31) : Met l yX1_closeToldSpans wsX1_closeToldSpans ({ frames := 0, cells := 0, slots := 0, locals := 0 }) (va_Pc [.ref h0] (PRE D cI cZ cB au kA kV z0 sz [(h0, .inr (1, [.int (nI nr), .int (nI np), .ref a1, .ref a2, .ref a3, .ref a4, .int g])), (a1, .inl (cI, nr * np, .inl fd)), (a2, .inl (cI, nr * np, .inl ft)), (a3, .inl (cI, nr * np, .inl fl)), (a4, .inl (cI, nr * np, .inl fg))])) (QV D [(h0, .inr (1, [.int (nI nr), .int (nI np), .ref a1, .ref a2, .ref a3, .ref a4, .int g])), (a1, .inl (cI, nr * np, .inl fd)), (a2, .inl (cI, nr * np, .inl ft)), (a3, .inl (cI, nr * np, .inl fl)), (a4, .inl (cI, nr * np, .inl fg))] sz [(h0, .inr (1, [.int (nI nr), .int (nI np), .ref a1, .ref a2, .ref a3, .ref a4, .int g])), (a1, .inl (cI, nr * np, .inl fd)), (a2, .inl (cI, nr * np, .inl ft)), (a3, .inl (cI, nr * np, .inl ((lp (F_X1_closeToldSpans_L2 ft) (nr * np) (fl, fg)).1))), (a4, .inl (cI, nr * np, .inl ((lp (F_X1_closeToldSpans_L2 ft) (nr * np) (fl, fg)).2)))]) 0 0 (va_A [(h0, .inr (1, [.int (nI nr), .int (nI np), .ref a1, .ref a2, .ref a3, .ref a4, .int g])), (a1, .inl (cI, nr * np, .inl fd)), (a2, .inl (cI, nr * np, .inl ft)), (a3, .inl (cI, nr * np, .inl fl)), (a4, .inl (cI, nr * np, .inl fg))] sz) := by
  refine Met.ofW (cc := cX1_closeToldSpans) (maxL := 2) (ret := none) (by decide) rfl ?_
  intro p e s m args below meth c s₁ B hml hv
  obtain ⟨rfl, hsz, hz, hP, hD0, hB⟩ := hv
  have hx := B.exec
  have hb := B.bytes
  have hr := B.returns
  have hts := atoms_spec (ws := wsX1_closeToldSpans) B.pre
  have hown : s.vm.findClass RX1 = some m.cls := findClass_of_methodNamed B.named
  have hlocks := B.notSynchronized
  subst hsz
  have hD := hD0.self (sz := s.heap.size)
  have hA0 := va_A0 hD0 hz
  unfold QV
  generalize hAe : va_A [(h0, .inr (1, [.int (nI nr), .int (nI np), .ref a1, .ref a2, .ref a3, .ref a4, .int g])), (a1, .inl (cI, nr * np, .inl fd)), (a2, .inl (cI, nr * np, .inl ft)), (a3, .inl (cI, nr * np, .inl fl)), (a4, .inl (cI, nr * np, .inl fg))] s.heap.size = A at hD hA0 ⊢
  have hA : ∀ q : Nat, s.heap.size ≤ q → A q := fun q h => by rw [← hAe]; exact Or.inr h
  have hS : va_S A s.heap s.heap [] := va_S.rf
  have hiX1 : ∀ w ∈ wsX10, w ∈ wsX1_closeToldSpans := fun w h => List.mem_cons_of_mem _ (List.mem_append_right _ h)
  have hl := lv_entry ([.ref h0]) (n := 2) (Nat.le_of_ble_eq_true rfl)
  rw [lg_entry_eq]
  generalize (lg_sl ([.ref h0]) ++ List.replicate (2 - (lg_sl ([.ref h0])).length) Slot.unset).toArray = ls at hl ⊢
  have hl : lv_has ls 2 [(0, .ref h0)] := hl
  refine lv_iconst (v := 0) hx hb dX1_closeToldSpans_0 (by decide) ?_
  refine lv_istore_n (lv' := [(1, .int 0), (0, .ref h0)]) hx hb dX1_closeToldSpans_1 rfl hl (by decide) rfl (fun ls hl => ?_)
  refine lpM (σ := Nat) (fun t => t ≤ nr * np) (fun t => (nr * np) - t) (fun t => [(h0, .inr (1, [.int (nI nr), .int (nI np), .ref a1, .ref a2, .ref a3, .ref a4, .int g])), (a1, .inl (cI, nr * np, .inl fd)), (a2, .inl (cI, nr * np, .inl ft)), (a3, .inl (cI, nr * np, .inl ((lp (F_X1_closeToldSpans_L2 ft) t (fl, fg)).1))), (a4, .inl (cI, nr * np, .inl ((lp (F_X1_closeToldSpans_L2 ft) t (fl, fg)).2)))]) (fun t => [(1, .int (nI t)), (0, .ref h0)]) 0 (Nat.zero_le _) hP hD hS (lv_sub hl [0, 1] rfl) ?_
  intro t h_t ih_t H locs ls hP hD hS hl
  have hP : va_P D vwCl [(h0, .inr (1, [.int (nI nr), .int (nI np), .ref a1, .ref a2, .ref a3, .ref a4, .int g])), (a1, .inl (cI, nr * np, .inl fd)), (a2, .inl (cI, nr * np, .inl ft)), (a3, .inl (cI, nr * np, .inl ((lp (F_X1_closeToldSpans_L2 ft) t (fl, fg)).1))), (a4, .inl (cI, nr * np, .inl ((lp (F_X1_closeToldSpans_L2 ft) t (fl, fg)).2)))] H := hP
  have hD : va_D A [(h0, .inr (1, [.int (nI nr), .int (nI np), .ref a1, .ref a2, .ref a3, .ref a4, .int g])), (a1, .inl (cI, nr * np, .inl fd)), (a2, .inl (cI, nr * np, .inl ft)), (a3, .inl (cI, nr * np, .inl ((lp (F_X1_closeToldSpans_L2 ft) t (fl, fg)).1))), (a4, .inl (cI, nr * np, .inl ((lp (F_X1_closeToldSpans_L2 ft) t (fl, fg)).2)))] := hD
  have hl : lv_has ls 2 [(1, .int (nI t)), (0, .ref h0)] := hl
  generalize hs_t : lp (F_X1_closeToldSpans_L2 ft) t (fl, fg) = sv1 at hP hD 
  refine lv_iload_n hx hb dX1_closeToldSpans_2 rfl (lv_at hl 0 rfl) ?_
  refine lv_aload_n hx hb dX1_closeToldSpans_3 rfl (lv_at hl 1 rfl) ?_
  refine va_get (D := D) (ci := 1) (v := .ref a2) (C := RX1) (T := TX1) (N := 7) hx hb hts hiX1 hown hB.1 hP 0 rfl rfl 3 (by decide) (hts _ (List.mem_of_getElem? (i := 1) rfl)) (fun _ h9 => h9) rfl dX1_closeToldSpans_4 ?_
  refine va_alen (v := nI (nr * np)) hx hb hB.1 hP 2 0 rfl rfl rfl dX1_closeToldSpans_7 ?_
  refine lv_icmp_ge (tgt := 51) hx hb dX1_closeToldSpans_8 (by decide) (fun c_2 => ?_) (fun c_2 => ?_)
  · have hx_t : nr * np = t := Eq.symm (le_ex hlen h_t c_2)
    subst hx_t
    subst hs_t
    exact W.vret hx hb hr (fun t ht hW => ⟨⟨(), rfl, trivial, by rw [ht]; exact hP, hD⟩, hS.F ht⟩) hS.2.2 dX1_closeToldSpans_51
  · have hlt_t : t < nr * np := le_go hlen h_t c_2
    refine lv_aload_n hx hb dX1_closeToldSpans_11 rfl (lv_at hl 1 rfl) ?_
    refine va_get (D := D) (ci := 1) (v := .ref a2) (C := RX1) (T := TX1) (N := 7) hx hb hts hiX1 hown hB.1 hP 0 rfl rfl 3 (by decide) (hts _ (List.mem_of_getElem? (i := 1) rfl)) (fun _ h9 => h9) rfl dX1_closeToldSpans_12 ?_
    refine lv_iload_n hx hb dX1_closeToldSpans_15 rfl (lv_at hl 0 rfl) ?_
    refine ra_i hx hb hB.1 hP 2 rfl t rfl (by omega) hlen dX1_closeToldSpans_16 ?_
    refine lv_iconst (v := (-1)) hx hb dX1_closeToldSpans_17 (by decide) ?_
    refine lv_icmp_eq (tgt := 45) hx hb dX1_closeToldSpans_18 (by decide) (fun c_3 => ?_) (fun c_3 => ?_)
    · refine lv_iinc (v := nI (t + 1)) (lv' := [(1, .int (nI (t + 1))), (0, .ref h0)]) hx hb dX1_closeToldSpans_45 hl (k := 0) rfl (nI_1 _) (by decide) rfl (fun ls hl => ?_)
      refine lv_goto (tgt := 2) hx hb dX1_closeToldSpans_48 (by decide) ?_
      have e_step : F_X1_closeToldSpans_L2 ft t sv1 = (sv1.1, sv1.2) := by rw [F_X1_closeToldSpans_L2, if_pos c_3]
      have hP2 : va_P D vwCl [(h0, .inr (1, [.int (nI nr), .int (nI np), .ref a1, .ref a2, .ref a3, .ref a4, .int g])), (a1, .inl (cI, nr * np, .inl fd)), (a2, .inl (cI, nr * np, .inl ft)), (a3, .inl (cI, nr * np, .inl ((F_X1_closeToldSpans_L2 ft t sv1).1))), (a4, .inl (cI, nr * np, .inl ((F_X1_closeToldSpans_L2 ft t sv1).2)))] H := by rw [e_step]; exact hP
      have hD2 : va_D A [(h0, .inr (1, [.int (nI nr), .int (nI np), .ref a1, .ref a2, .ref a3, .ref a4, .int g])), (a1, .inl (cI, nr * np, .inl fd)), (a2, .inl (cI, nr * np, .inl ft)), (a3, .inl (cI, nr * np, .inl ((F_X1_closeToldSpans_L2 ft t sv1).1))), (a4, .inl (cI, nr * np, .inl ((F_X1_closeToldSpans_L2 ft t sv1).2)))] := by rw [e_step]; exact hD
      have hl2 : lv_has ls 2 [(1, .int (nI (t + 1))), (0, .ref h0)] := lv_sub hl [0, 1] rfl
      subst hs_t
      exact ih_t (t + 1) (by omega) (by omega) _ _ _ hP2 hD2 hS hl2
    · refine lv_aload_n hx hb dX1_closeToldSpans_21 rfl (lv_at hl 1 rfl) ?_
      refine va_get (D := D) (ci := 1) (v := .ref a3) (C := RX1) (T := TX1) (N := 7) hx hb hts hiX1 hown hB.1 hP 0 rfl rfl 4 (by decide) (hts _ (List.mem_of_getElem? (i := 2) rfl)) (fun _ h9 => h9) rfl dX1_closeToldSpans_22 ?_
      refine lv_iload_n hx hb dX1_closeToldSpans_25 rfl (lv_at hl 0 rfl) ?_
      refine lv_aload_n hx hb dX1_closeToldSpans_26 rfl (lv_at hl 1 rfl) ?_
      refine va_get (D := D) (ci := 1) (v := .ref a2) (C := RX1) (T := TX1) (N := 7) hx hb hts hiX1 hown hB.1 hP 0 rfl rfl 3 (by decide) (hts _ (List.mem_of_getElem? (i := 1) rfl)) (fun _ h9 => h9) rfl dX1_closeToldSpans_27 ?_
      refine lv_iload_n hx hb dX1_closeToldSpans_30 rfl (lv_at hl 0 rfl) ?_
      refine ra_i hx hb hB.1 hP 2 rfl t rfl (by omega) hlen dX1_closeToldSpans_31 ?_
      refine wa_i (w2 := [(h0, .inr (1, [.int (nI nr), .int (nI np), .ref a1, .ref a2, .ref a3, .ref a4, .int g])), (a1, .inl (cI, nr * np, .inl fd)), (a2, .inl (cI, nr * np, .inl ft)), (a3, .inl (cI, nr * np, .inl (upd sv1.1 t (ft t)))), (a4, .inl (cI, nr * np, .inl sv1.2))]) hx hb hB.1 hP hD hS 3 rfl t rfl (by omega) hlen dX1_closeToldSpans_32 rfl (fun H locs hP hD hS => ?_)
      refine lv_aload_n hx hb dX1_closeToldSpans_33 rfl (lv_at hl 1 rfl) ?_
      refine va_get (D := D) (ci := 1) (v := .ref a4) (C := RX1) (T := TX1) (N := 7) hx hb hts hiX1 hown hB.1 hP 0 rfl rfl 5 (by decide) (hts _ (List.mem_of_getElem? (i := 3) rfl)) (fun _ h9 => h9) rfl dX1_closeToldSpans_34 ?_
      refine lv_iload_n hx hb dX1_closeToldSpans_37 rfl (lv_at hl 0 rfl) ?_
      refine lv_aload_n hx hb dX1_closeToldSpans_38 rfl (lv_at hl 1 rfl) ?_
      refine va_get (D := D) (ci := 1) (v := .ref a2) (C := RX1) (T := TX1) (N := 7) hx hb hts hiX1 hown hB.1 hP 0 rfl rfl 3 (by decide) (hts _ (List.mem_of_getElem? (i := 1) rfl)) (fun _ h9 => h9) rfl dX1_closeToldSpans_39 ?_
      refine lv_iload_n hx hb dX1_closeToldSpans_42 rfl (lv_at hl 0 rfl) ?_
      refine ra_i hx hb hB.1 hP 2 rfl t rfl (by omega) hlen dX1_closeToldSpans_43 ?_
      refine wa_i (w2 := [(h0, .inr (1, [.int (nI nr), .int (nI np), .ref a1, .ref a2, .ref a3, .ref a4, .int g])), (a1, .inl (cI, nr * np, .inl fd)), (a2, .inl (cI, nr * np, .inl ft)), (a3, .inl (cI, nr * np, .inl (upd sv1.1 t (ft t)))), (a4, .inl (cI, nr * np, .inl (upd sv1.2 t (ft t))))]) hx hb hB.1 hP hD hS 4 rfl t rfl (by omega) hlen dX1_closeToldSpans_44 rfl (fun H locs hP hD hS => ?_)
      refine lv_iinc (v := nI (t + 1)) (lv' := [(1, .int (nI (t + 1))), (0, .ref h0)]) hx hb dX1_closeToldSpans_45 hl (k := 0) rfl (nI_1 _) (by decide) rfl (fun ls hl => ?_)
      refine lv_goto (tgt := 2) hx hb dX1_closeToldSpans_48 (by decide) ?_
      have e_step : F_X1_closeToldSpans_L2 ft t sv1 = (upd sv1.1 t (ft t), upd sv1.2 t (ft t)) := by rw [F_X1_closeToldSpans_L2, if_neg c_3]
      have hP2 : va_P D vwCl [(h0, .inr (1, [.int (nI nr), .int (nI np), .ref a1, .ref a2, .ref a3, .ref a4, .int g])), (a1, .inl (cI, nr * np, .inl fd)), (a2, .inl (cI, nr * np, .inl ft)), (a3, .inl (cI, nr * np, .inl ((F_X1_closeToldSpans_L2 ft t sv1).1))), (a4, .inl (cI, nr * np, .inl ((F_X1_closeToldSpans_L2 ft t sv1).2)))] H := by rw [e_step]; exact hP
      have hD2 : va_D A [(h0, .inr (1, [.int (nI nr), .int (nI np), .ref a1, .ref a2, .ref a3, .ref a4, .int g])), (a1, .inl (cI, nr * np, .inl fd)), (a2, .inl (cI, nr * np, .inl ft)), (a3, .inl (cI, nr * np, .inl ((F_X1_closeToldSpans_L2 ft t sv1).1))), (a4, .inl (cI, nr * np, .inl ((F_X1_closeToldSpans_L2 ft t sv1).2)))] := by rw [e_step]; exact hD
      have hl2 : lv_has ls 2 [(1, .int (nI (t + 1))), (0, .ref h0)] := lv_sub hl [0, 1] rfl
      subst hs_t
      exact ih_t (t + 1) (by omega) (by omega) _ _ _ hP2 hD2 hS hl2
end
