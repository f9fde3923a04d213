section
-- ===== PART A: goes FIRST, ahead of the names: the tables' words, and 'selects' of the private methods out of them =====
/-- a private method of a class that the tables say can be made, by its rows of tables_1 -/
def lw_okq (q : MethodName × Nat) : Prop := (q.1.cls ≠ "java/lang/invoke/MethodHandle" ∧ q.1.cls ≠ "java/lang/invoke/VarHandle") ∧ Cond.instantiable q.1.cls q.2 ∈ tables_1 ∧ Cond.privateMethod q.1 ∈ tables_1 ∧ Cond.instanceMethod q.1 ∈ tables_1
theorem lw_p0 : lw_okq (⟨"SeriesMarks", "numberOf", "(I)I"⟩, 8) := ⟨⟨by decide +kernel, by decide +kernel⟩, List.mem_of_getElem? (i := 19) (by decide +kernel), List.mem_of_getElem? (i := 129) (by decide +kernel), List.mem_of_getElem? (i := 130) (by decide +kernel)⟩
theorem lw_p1 : lw_okq (⟨"java/util/ArrayList", "add", "(Ljava/lang/Object;[Ljava/lang/Object;I)V"⟩, 3) := ⟨⟨by decide +kernel, by decide +kernel⟩, List.mem_of_getElem? (i := 27) (by decide +kernel), List.mem_of_getElem? (i := 186) (by decide +kernel), List.mem_of_getElem? (i := 187) (by decide +kernel)⟩
theorem lw_p2 : lw_okq (⟨"java/util/ArrayList", "grow", "()[Ljava/lang/Object;"⟩, 3) := ⟨⟨by decide +kernel, by decide +kernel⟩, List.mem_of_getElem? (i := 27) (by decide +kernel), List.mem_of_getElem? (i := 190) (by decide +kernel), List.mem_of_getElem? (i := 191) (by decide +kernel)⟩
theorem lw_p3 : lw_okq (⟨"java/util/ArrayList", "grow", "(I)[Ljava/lang/Object;"⟩, 3) := ⟨⟨by decide +kernel, by decide +kernel⟩, List.mem_of_getElem? (i := 27) (by decide +kernel), List.mem_of_getElem? (i := 194) (by decide +kernel), List.mem_of_getElem? (i := 195) (by decide +kernel)⟩
theorem lw_p4 : lw_okq (⟨"SeriesMarks", "isSeries", "(I)Z"⟩, 8) := ⟨⟨by decide +kernel, by decide +kernel⟩, List.mem_of_getElem? (i := 19) (by decide +kernel), List.mem_of_getElem? (i := 262) (by decide +kernel), List.mem_of_getElem? (i := 263) (by decide +kernel)⟩
theorem lw_p5 : lw_okq (⟨"SeriesMarks", "isSpan", "(II)Z"⟩, 8) := ⟨⟨by decide +kernel, by decide +kernel⟩, List.mem_of_getElem? (i := 19) (by decide +kernel), List.mem_of_getElem? (i := 275) (by decide +kernel), List.mem_of_getElem? (i := 276) (by decide +kernel)⟩
theorem lw_p6 : lw_okq (⟨"SeriesMarks", "growthOfAlike", "(IIII)J"⟩, 8) := ⟨⟨by decide +kernel, by decide +kernel⟩, List.mem_of_getElem? (i := 19) (by decide +kernel), List.mem_of_getElem? (i := 289) (by decide +kernel), List.mem_of_getElem? (i := 290) (by decide +kernel)⟩
theorem lw_p7 : lw_okq (⟨"SeriesMarks", "gatherSeen", "(II)V"⟩, 8) := ⟨⟨by decide +kernel, by decide +kernel⟩, List.mem_of_getElem? (i := 19) (by decide +kernel), List.mem_of_getElem? (i := 301) (by decide +kernel), List.mem_of_getElem? (i := 302) (by decide +kernel)⟩
theorem lw_p8 : lw_okq (⟨"SeriesMarks$NameSet", "howManyBelow", "(I)I"⟩, 2) := ⟨⟨by decide +kernel, by decide +kernel⟩, List.mem_of_getElem? (i := 69) (by decide +kernel), List.mem_of_getElem? (i := 313) (by decide +kernel), List.mem_of_getElem? (i := 314) (by decide +kernel)⟩
theorem lw_p9 : lw_okq (⟨"SeriesMarks", "namesLeftWithout", "(I)I"⟩, 8) := ⟨⟨by decide +kernel, by decide +kernel⟩, List.mem_of_getElem? (i := 19) (by decide +kernel), List.mem_of_getElem? (i := 333) (by decide +kernel), List.mem_of_getElem? (i := 334) (by decide +kernel)⟩
theorem lw_p10 : lw_okq (⟨"SeriesMarks", "isPastTick", "(I)Z"⟩, 8) := ⟨⟨by decide +kernel, by decide +kernel⟩, List.mem_of_getElem? (i := 19) (by decide +kernel), List.mem_of_getElem? (i := 397) (by decide +kernel), List.mem_of_getElem? (i := 398) (by decide +kernel)⟩
theorem lw_p11 : lw_okq (⟨"SeriesMarks", "isAsking", "(I)Z"⟩, 8) := ⟨⟨by decide +kernel, by decide +kernel⟩, List.mem_of_getElem? (i := 19) (by decide +kernel), List.mem_of_getElem? (i := 444) (by decide +kernel), List.mem_of_getElem? (i := 445) (by decide +kernel)⟩
theorem lw_p12 : lw_okq (⟨"SeriesMarks", "gatherKeys", "(LSeriesMarks$Asking;II)V"⟩, 8) := ⟨⟨by decide +kernel, by decide +kernel⟩, List.mem_of_getElem? (i := 19) (by decide +kernel), List.mem_of_getElem? (i := 457) (by decide +kernel), List.mem_of_getElem? (i := 458) (by decide +kernel)⟩
theorem lw_p13 : lw_okq (⟨"SeriesMarks", "firstLack", "(III)I"⟩, 8) := ⟨⟨by decide +kernel, by decide +kernel⟩, List.mem_of_getElem? (i := 19) (by decide +kernel), List.mem_of_getElem? (i := 469) (by decide +kernel), List.mem_of_getElem? (i := 470) (by decide +kernel)⟩
theorem lw_p14 : lw_okq (⟨"SeriesMarks", "changeWeight", "(II)I"⟩, 8) := ⟨⟨by decide +kernel, by decide +kernel⟩, List.mem_of_getElem? (i := 19) (by decide +kernel), List.mem_of_getElem? (i := 489) (by decide +kernel), List.mem_of_getElem? (i := 490) (by decide +kernel)⟩
theorem lw_p15 : lw_okq (⟨"SeriesMarks", "lossOf", "(I)I"⟩, 8) := ⟨⟨by decide +kernel, by decide +kernel⟩, List.mem_of_getElem? (i := 19) (by decide +kernel), List.mem_of_getElem? (i := 497) (by decide +kernel), List.mem_of_getElem? (i := 498) (by decide +kernel)⟩
def lw_privs_1 : List (MethodName × Nat) := [(⟨"SeriesMarks", "numberOf", "(I)I"⟩, 8), (⟨"java/util/ArrayList", "add", "(Ljava/lang/Object;[Ljava/lang/Object;I)V"⟩, 3), (⟨"java/util/ArrayList", "grow", "()[Ljava/lang/Object;"⟩, 3), (⟨"java/util/ArrayList", "grow", "(I)[Ljava/lang/Object;"⟩, 3), (⟨"SeriesMarks", "isSeries", "(I)Z"⟩, 8), (⟨"SeriesMarks", "isSpan", "(II)Z"⟩, 8), (⟨"SeriesMarks", "growthOfAlike", "(IIII)J"⟩, 8), (⟨"SeriesMarks", "gatherSeen", "(II)V"⟩, 8), (⟨"SeriesMarks$NameSet", "howManyBelow", "(I)I"⟩, 2), (⟨"SeriesMarks", "namesLeftWithout", "(I)I"⟩, 8), (⟨"SeriesMarks", "isPastTick", "(I)Z"⟩, 8), (⟨"SeriesMarks", "isAsking", "(I)Z"⟩, 8), (⟨"SeriesMarks", "gatherKeys", "(LSeriesMarks$Asking;II)V"⟩, 8), (⟨"SeriesMarks", "firstLack", "(III)I"⟩, 8), (⟨"SeriesMarks", "changeWeight", "(II)I"⟩, 8), (⟨"SeriesMarks", "lossOf", "(I)I"⟩, 8)]
theorem lw_r1 : ∀ q ∈ lw_privs_1, lw_okq q := List.forall_mem_cons.mpr ⟨lw_p0, List.forall_mem_cons.mpr ⟨lw_p1, List.forall_mem_cons.mpr ⟨lw_p2, List.forall_mem_cons.mpr ⟨lw_p3, List.forall_mem_cons.mpr ⟨lw_p4, List.forall_mem_cons.mpr ⟨lw_p5, List.forall_mem_cons.mpr ⟨lw_p6, List.forall_mem_cons.mpr ⟨lw_p7, List.forall_mem_cons.mpr ⟨lw_p8, List.forall_mem_cons.mpr ⟨lw_p9, List.forall_mem_cons.mpr ⟨lw_p10, List.forall_mem_cons.mpr ⟨lw_p11, List.forall_mem_cons.mpr ⟨lw_p12, List.forall_mem_cons.mpr ⟨lw_p13, List.forall_mem_cons.mpr ⟨lw_p14, List.forall_mem_cons.mpr ⟨lw_p15, fun _ h => absurd h List.not_mem_nil⟩⟩⟩⟩⟩⟩⟩⟩⟩⟩⟩⟩⟩⟩⟩⟩
theorem lw_p16 : lw_okq (⟨"SeriesMarksModel", "place", "(I)I"⟩, 23) := ⟨⟨by decide +kernel, by decide +kernel⟩, List.mem_of_getElem? (i := 520) (by decide +kernel), List.mem_of_getElem? (i := 614) (by decide +kernel), List.mem_of_getElem? (i := 615) (by decide +kernel)⟩
theorem lw_p17 : lw_okq (⟨"SeriesMarksModel", "isSpan", "(II)Z"⟩, 23) := ⟨⟨by decide +kernel, by decide +kernel⟩, List.mem_of_getElem? (i := 520) (by decide +kernel), List.mem_of_getElem? (i := 631) (by decide +kernel), List.mem_of_getElem? (i := 632) (by decide +kernel)⟩
theorem lw_p18 : lw_okq (⟨"SeriesMarksModel", "growthOf", "(III)J"⟩, 23) := ⟨⟨by decide +kernel, by decide +kernel⟩, List.mem_of_getElem? (i := 520) (by decide +kernel), List.mem_of_getElem? (i := 635) (by decide +kernel), List.mem_of_getElem? (i := 636) (by decide +kernel)⟩
theorem lw_p19 : lw_okq (⟨"SeriesMarksModel", "look", "(II)I"⟩, 23) := ⟨⟨by decide +kernel, by decide +kernel⟩, List.mem_of_getElem? (i := 520) (by decide +kernel), List.mem_of_getElem? (i := 644) (by decide +kernel), List.mem_of_getElem? (i := 645) (by decide +kernel)⟩
theorem lw_p20 : lw_okq (⟨"SeriesMarksModel", "note", "(I)V"⟩, 23) := ⟨⟨by decide +kernel, by decide +kernel⟩, List.mem_of_getElem? (i := 520) (by decide +kernel), List.mem_of_getElem? (i := 659) (by decide +kernel), List.mem_of_getElem? (i := 660) (by decide +kernel)⟩
theorem lw_p21 : lw_okq (⟨"SeriesMarksModel", "unlikeWithout", "(I)I"⟩, 23) := ⟨⟨by decide +kernel, by decide +kernel⟩, List.mem_of_getElem? (i := 520) (by decide +kernel), List.mem_of_getElem? (i := 668) (by decide +kernel), List.mem_of_getElem? (i := 669) (by decide +kernel)⟩
theorem lw_p22 : lw_okq (⟨"SeriesMarksModel", "shorted", "(II)I"⟩, 23) := ⟨⟨by decide +kernel, by decide +kernel⟩, List.mem_of_getElem? (i := 520) (by decide +kernel), List.mem_of_getElem? (i := 679) (by decide +kernel), List.mem_of_getElem? (i := 680) (by decide +kernel)⟩
theorem lw_p23 : lw_okq (⟨"SeriesMarksModel", "isAsking", "(I)Z"⟩, 23) := ⟨⟨by decide +kernel, by decide +kernel⟩, List.mem_of_getElem? (i := 520) (by decide +kernel), List.mem_of_getElem? (i := 719) (by decide +kernel), List.mem_of_getElem? (i := 720) (by decide +kernel)⟩
theorem lw_p24 : lw_okq (⟨"SeriesMarksModel", "keyOf", "(II)I"⟩, 23) := ⟨⟨by decide +kernel, by decide +kernel⟩, List.mem_of_getElem? (i := 520) (by decide +kernel), List.mem_of_getElem? (i := 723) (by decide +kernel), List.mem_of_getElem? (i := 724) (by decide +kernel)⟩
theorem lw_p25 : lw_okq (⟨"SeriesMarksModel", "isWanted", "(II)Z"⟩, 23) := ⟨⟨by decide +kernel, by decide +kernel⟩, List.mem_of_getElem? (i := 520) (by decide +kernel), List.mem_of_getElem? (i := 727) (by decide +kernel), List.mem_of_getElem? (i := 728) (by decide +kernel)⟩
theorem lw_p26 : lw_okq (⟨"SeriesMarksModel", "findKeys", "(III)I"⟩, 23) := ⟨⟨by decide +kernel, by decide +kernel⟩, List.mem_of_getElem? (i := 520) (by decide +kernel), List.mem_of_getElem? (i := 735) (by decide +kernel), List.mem_of_getElem? (i := 736) (by decide +kernel)⟩
theorem lw_p27 : lw_okq (⟨"SeriesMarksModel", "lacksAt", "(II)Z"⟩, 23) := ⟨⟨by decide +kernel, by decide +kernel⟩, List.mem_of_getElem? (i := 520) (by decide +kernel), List.mem_of_getElem? (i := 747) (by decide +kernel), List.mem_of_getElem? (i := 748) (by decide +kernel)⟩
theorem lw_p28 : lw_okq (⟨"SeriesMarksModel", "isFolded", "(II)Z"⟩, 23) := ⟨⟨by decide +kernel, by decide +kernel⟩, List.mem_of_getElem? (i := 520) (by decide +kernel), List.mem_of_getElem? (i := 756) (by decide +kernel), List.mem_of_getElem? (i := 757) (by decide +kernel)⟩
theorem lw_p29 : lw_okq (⟨"SeriesMarksModel", "lossOf", "(I)I"⟩, 23) := ⟨⟨by decide +kernel, by decide +kernel⟩, List.mem_of_getElem? (i := 520) (by decide +kernel), List.mem_of_getElem? (i := 769) (by decide +kernel), List.mem_of_getElem? (i := 770) (by decide +kernel)⟩
def lw_privs_2 : List (MethodName × Nat) := [(⟨"SeriesMarksModel", "place", "(I)I"⟩, 23), (⟨"SeriesMarksModel", "isSpan", "(II)Z"⟩, 23), (⟨"SeriesMarksModel", "growthOf", "(III)J"⟩, 23), (⟨"SeriesMarksModel", "look", "(II)I"⟩, 23), (⟨"SeriesMarksModel", "note", "(I)V"⟩, 23), (⟨"SeriesMarksModel", "unlikeWithout", "(I)I"⟩, 23), (⟨"SeriesMarksModel", "shorted", "(II)I"⟩, 23), (⟨"SeriesMarksModel", "isAsking", "(I)Z"⟩, 23), (⟨"SeriesMarksModel", "keyOf", "(II)I"⟩, 23), (⟨"SeriesMarksModel", "isWanted", "(II)Z"⟩, 23), (⟨"SeriesMarksModel", "findKeys", "(III)I"⟩, 23), (⟨"SeriesMarksModel", "lacksAt", "(II)Z"⟩, 23), (⟨"SeriesMarksModel", "isFolded", "(II)Z"⟩, 23), (⟨"SeriesMarksModel", "lossOf", "(I)I"⟩, 23)]
theorem lw_r2 : ∀ q ∈ lw_privs_2, lw_okq q := List.forall_mem_cons.mpr ⟨lw_p16, List.forall_mem_cons.mpr ⟨lw_p17, List.forall_mem_cons.mpr ⟨lw_p18, List.forall_mem_cons.mpr ⟨lw_p19, List.forall_mem_cons.mpr ⟨lw_p20, List.forall_mem_cons.mpr ⟨lw_p21, List.forall_mem_cons.mpr ⟨lw_p22, List.forall_mem_cons.mpr ⟨lw_p23, List.forall_mem_cons.mpr ⟨lw_p24, List.forall_mem_cons.mpr ⟨lw_p25, List.forall_mem_cons.mpr ⟨lw_p26, List.forall_mem_cons.mpr ⟨lw_p27, List.forall_mem_cons.mpr ⟨lw_p28, List.forall_mem_cons.mpr ⟨lw_p29, fun _ h => absurd h List.not_mem_nil⟩⟩⟩⟩⟩⟩⟩⟩⟩⟩⟩⟩⟩⟩
def lw_privs : List (MethodName × Nat) := lw_privs_1 ++ (lw_privs_2)
def lw_tbl : List Cond := k2_sels lw_privs ++ tables_1
theorem lw_privs_ok : ∀ q ∈ lw_privs, lw_okq q := by
  show ∀ q ∈ lw_privs_1 ++ (lw_privs_2), lw_okq q
  exact List.forall_mem_append.mpr ⟨lw_r1, lw_r2⟩
-- ===== end of PART A; then your names; then what follows =====
end
section
/-! ===== BEGIN words of one list among another's, by their places ===== -/
theorem goodIn_r {big : List Cond} (ws : List Cond) (ps : List Nat) (hp : ws = ps.filterMap (fun i => big[i]?)) (h : ws.all goodWord = true) : GoodIn big ws := by
  intro w hw
  have h1 := List.all_eq_true.mp h w hw
  rw [hp] at hw
  obtain ⟨i, -, hi⟩ := List.mem_filterMap.mp hw
  have hm : w ∈ big := by first | exact List.mem_of_getElem? hi | exact List.getElem?_mem hi
  exact ⟨hm, good_of_word h1⟩
theorem goodIn_app {big a b : List Cond} (ha : GoodIn big a) (hb : GoodIn big b) : GoodIn big (a ++ b) := fun w h => (List.mem_append.mp h).elim (ha w) (hb w)
theorem goodIn_ca {big a b : List Cond} {c : Cond} (ha : GoodIn big (c :: a)) (hb : GoodIn big b) : GoodIn big (c :: (a ++ b)) := fun w h => (List.mem_cons.mp h).elim (fun e => ha w (List.mem_cons.mpr (Or.inl e))) (fun h => (List.mem_append.mp h).elim (fun h => ha w (List.mem_cons.mpr (Or.inr h))) (hb w))
theorem goodIn_sub {big ws : List Cond} (hm : ∀ w ∈ ws, w ∈ big) (h : ws.all goodWord = true) : GoodIn big ws := fun w hw => ⟨hm w hw, good_of_word (List.all_eq_true.mp h w hw)⟩
/-! ===== END ===== -/

/-! ===== BEGIN printed: names, fields, word lists, decode rows ===== -/
def RX0 : String := "SeriesMarks$Asking"
def TX0 : u_T := fun k => match k with
  | 0 => ("SeriesMarks$Asking", "marks", "I", true)
  | 1 => ("SeriesMarks$Asking", "digits", "I", true)
  | 2 => ("SeriesMarks$Asking", "wantedMark", "I", true)
  | 3 => ("SeriesMarks$Asking", "wantedValue", "I", true)
  | _ => ("SeriesMarks$Asking", "worth", "I", false)
def tyX0 : Nat → FieldType := fun k => match k with
  | 0 => .int
  | 1 => .int
  | 2 => .int
  | 3 => .int
  | _ => .int
abbrev wsX00 : List Cond := u_ws RX0 TX0 5
theorem nmX0 : ∀ a, a < 5 → ∀ b, b < 5 → a ≠ b → (TX0 a).2.1 ≠ (TX0 b).2.1 := by decide +kernel
theorem tyX0_ok : ∀ k, k < 5 → parseFieldDescriptor (TX0 k).2.2.1 = some (tyX0 k) := by decide +kernel
abbrev cX0_init : ByteArray := prog_2_method_1_code
def yX0_init : MethodName := ⟨RX0, "<init>", "(III)V"⟩
abbrev cX0_keyOf : ByteArray := prog_2_method_2_code
def yX0_keyOf : MethodName := ⟨RX0, "keyOf", "(I)I"⟩
abbrev cX0_changeWorth : ByteArray := prog_2_method_3_code
def yX0_changeWorth : MethodName := ⟨RX0, "changeWorth", "(I)I"⟩
def RX1 : String := "SeriesMarks$NameSet"
def TX1 : u_T := fun k => match k with
  | 0 => ("SeriesMarks$NameSet", "row", "[I", true)
  | _ => ("SeriesMarks$NameSet", "size", "I", false)
def tyX1 : Nat → FieldType := fun k => match k with
  | 0 => .array .int
  | _ => .int
abbrev wsX10 : List Cond := u_ws RX1 TX1 2
theorem nmX1 : ∀ a, a < 2 → ∀ b, b < 2 → a ≠ b → (TX1 a).2.1 ≠ (TX1 b).2.1 := by decide +kernel
theorem tyX1_ok : ∀ k, k < 2 → parseFieldDescriptor (TX1 k).2.2.1 = some (tyX1 k) := by decide +kernel
abbrev cX1_init : ByteArray := prog_3_method_1_code
def yX1_init : MethodName := ⟨RX1, "<init>", "()V"⟩
abbrev cX1_makeEmpty : ByteArray := prog_3_method_2_code
def yX1_makeEmpty : MethodName := ⟨RX1, "makeEmpty", "()V"⟩
abbrev cX1_put : ByteArray := prog_3_method_3_code
def yX1_put : MethodName := ⟨RX1, "put", "(I)V"⟩
abbrev cX1_howManyBelow : ByteArray := prog_3_method_4_code
def yX1_howManyBelow : MethodName := ⟨RX1, "howManyBelow", "(I)I"⟩
def RX2 : String := "SeriesMarks$Sample"
def TX2 : u_T := fun k => match k with
  | 0 => ("SeriesMarks$Sample", "name", "I", true)
  | 1 => ("SeriesMarks$Sample", "tick", "I", true)
  | _ => ("SeriesMarks$Sample", "rise", "I", true)
def tyX2 : Nat → FieldType := fun k => match k with
  | 0 => .int
  | 1 => .int
  | _ => .int
abbrev wsX20 : List Cond := u_ws RX2 TX2 3
theorem nmX2 : ∀ a, a < 3 → ∀ b, b < 3 → a ≠ b → (TX2 a).2.1 ≠ (TX2 b).2.1 := by decide +kernel
theorem tyX2_ok : ∀ k, k < 3 → parseFieldDescriptor (TX2 k).2.2.1 = some (tyX2 k) := by decide +kernel
abbrev cX2_init : ByteArray := prog_4_method_1_code
def yX2_init : MethodName := ⟨RX2, "<init>", "(III)V"⟩
abbrev cX2_isWithin : ByteArray := prog_4_method_2_code
def yX2_isWithin : MethodName := ⟨RX2, "isWithin", "(II)Z"⟩
def RX3 : String := "SeriesMarks$Series"
def TX3 : u_T := fun k => match k with
  | 0 => ("SeriesMarks$Series", "name", "I", true)
  | 1 => ("SeriesMarks$Series", "firstTick", "I", true)
  | 2 => ("SeriesMarks$Series", "latestTick", "I", false)
  | 3 => ("SeriesMarks$Series", "latestCount", "I", false)
  | 4 => ("SeriesMarks$Series", "sampleCount", "I", false)
  | _ => ("SeriesMarks$Series", "restarts", "I", false)
def tyX3 : Nat → FieldType := fun k => match k with
  | 0 => .int
  | 1 => .int
  | 2 => .int
  | 3 => .int
  | 4 => .int
  | _ => .int
abbrev wsX30 : List Cond := u_ws RX3 TX3 6
theorem nmX3 : ∀ a, a < 6 → ∀ b, b < 6 → a ≠ b → (TX3 a).2.1 ≠ (TX3 b).2.1 := by decide +kernel
theorem tyX3_ok : ∀ k, k < 6 → parseFieldDescriptor (TX3 k).2.2.1 = some (tyX3 k) := by decide +kernel
abbrev cX3_init : ByteArray := prog_5_method_1_code
def yX3_init : MethodName := ⟨RX3, "<init>", "(II)V"⟩
abbrev cX3_takeSample : ByteArray := prog_5_method_2_code
def yX3_takeSample : MethodName := ⟨RX3, "takeSample", "(II)I"⟩
def RX4 : String := "SeriesMarks$Shortening"
def TX4 : u_T := fun k => match k with
  | 0 => ("SeriesMarks$Shortening", "droppedAt", "[I", true)
  | _ => ("SeriesMarks$Shortening", "chiefsAt", "[I", true)
def tyX4 : Nat → FieldType := fun k => match k with
  | 0 => .array .int
  | _ => .array .int
abbrev wsX40 : List Cond := u_ws RX4 TX4 2
theorem nmX4 : ∀ a, a < 2 → ∀ b, b < 2 → a ≠ b → (TX4 a).2.1 ≠ (TX4 b).2.1 := by decide +kernel
theorem tyX4_ok : ∀ k, k < 2 → parseFieldDescriptor (TX4 k).2.2.1 = some (tyX4 k) := by decide +kernel
abbrev cX4_init : ByteArray := prog_6_method_1_code
def yX4_init : MethodName := ⟨RX4, "<init>", "()V"⟩
abbrev cX4_carryOn : ByteArray := prog_6_method_2_code
def yX4_carryOn : MethodName := ⟨RX4, "carryOn", "(II)V"⟩
abbrev cX4_isDropped : ByteArray := prog_6_method_3_code
def yX4_isDropped : MethodName := ⟨RX4, "isDropped", "(II)Z"⟩
abbrev cX4_setDropped : ByteArray := prog_6_method_4_code
def yX4_setDropped : MethodName := ⟨RX4, "setDropped", "(IZI)V"⟩
abbrev cX4_chiefOf : ByteArray := prog_6_method_5_code
def yX4_chiefOf : MethodName := ⟨RX4, "chiefOf", "(III)I"⟩
abbrev cX4_putTogether : ByteArray := prog_6_method_6_code
def yX4_putTogether : MethodName := ⟨RX4, "putTogether", "(IIII)I"⟩
abbrev cX4_isAnyFolded : ByteArray := prog_6_method_7_code
def yX4_isAnyFolded : MethodName := ⟨RX4, "isAnyFolded", "(II)Z"⟩
abbrev cX4_shorten : ByteArray := prog_6_method_8_code
def yX4_shorten : MethodName := ⟨RX4, "shorten", "(II)I"⟩
def RX5 : String := "SeriesMarks"
def TX5 : u_T := fun k => match k with
  | 0 => ("SeriesMarks", "tick", "I", false)
  | 1 => ("SeriesMarks", "allSeries", "Ljava/util/ArrayList;", true)
  | 2 => ("SeriesMarks", "samples", "Ljava/util/ArrayList;", true)
  | 3 => ("SeriesMarks", "askings", "Ljava/util/ArrayList;", true)
  | 4 => ("SeriesMarks", "shortening", "LSeriesMarks$Shortening;", true)
  | 5 => ("SeriesMarks", "weights", "[I", true)
  | 6 => ("SeriesMarks", "seenNames", "LSeriesMarks$NameSet;", true)
  | _ => ("SeriesMarks", "workNames", "LSeriesMarks$NameSet;", true)
def tyX5 : Nat → FieldType := fun k => match k with
  | 0 => .int
  | 1 => .object "java/util/ArrayList"
  | 2 => .object "java/util/ArrayList"
  | 3 => .object "java/util/ArrayList"
  | 4 => .object "SeriesMarks$Shortening"
  | 5 => .array .int
  | 6 => .object "SeriesMarks$NameSet"
  | _ => .object "SeriesMarks$NameSet"
abbrev wsX50 : List Cond := u_ws RX5 TX5 8
theorem nmX5 : ∀ a, a < 8 → ∀ b, b < 8 → a ≠ b → (TX5 a).2.1 ≠ (TX5 b).2.1 := by decide +kernel
theorem tyX5_ok : ∀ k, k < 8 → parseFieldDescriptor (TX5 k).2.2.1 = some (tyX5 k) := by decide +kernel
abbrev cX5_init : ByteArray := prog_1_method_1_code
def yX5_init : MethodName := ⟨RX5, "<init>", "()V"⟩
abbrev cX5_pass : ByteArray := prog_1_method_2_code
def yX5_pass : MethodName := ⟨RX5, "pass", "(I)I"⟩
abbrev cX5_tell : ByteArray := prog_1_method_3_code
def yX5_tell : MethodName := ⟨RX5, "tell", "(II)I"⟩
abbrev cX5_series : ByteArray := prog_1_method_4_code
def yX5_series : MethodName := ⟨RX5, "series", "(II)I"⟩
abbrev cX5_find : ByteArray := prog_1_method_5_code
def yX5_find : MethodName := ⟨RX5, "find", "(I)I"⟩
abbrev cX5_growth : ByteArray := prog_1_method_6_code
def yX5_growth : MethodName := ⟨RX5, "growth", "(III)J"⟩
abbrev cX5_seen : ByteArray := prog_1_method_7_code
def yX5_seen : MethodName := ⟨RX5, "seen", "(II)I"⟩
abbrev cX5_values : ByteArray := prog_1_method_8_code
def yX5_values : MethodName := ⟨RX5, "values", "(III)I"⟩
abbrev cX5_unlike : ByteArray := prog_1_method_9_code
def yX5_unlike : MethodName := ⟨RX5, "unlike", "(III)I"⟩
abbrev cX5_kept : ByteArray := prog_1_method_10_code
def yX5_kept : MethodName := ⟨RX5, "kept", "(II)I"⟩
abbrev cX5_worst : ByteArray := prog_1_method_11_code
def yX5_worst : MethodName := ⟨RX5, "worst", "(II)I"⟩
abbrev cX5_drop : ByteArray := prog_1_method_12_code
def yX5_drop : MethodName := ⟨RX5, "drop", "(IZ)I"⟩
abbrev cX5_fold : ByteArray := prog_1_method_13_code
def yX5_fold : MethodName := ⟨RX5, "fold", "(III)I"⟩
abbrev cX5_dropped : ByteArray := prog_1_method_14_code
def yX5_dropped : MethodName := ⟨RX5, "dropped", "(II)I"⟩
abbrev cX5_chief : ByteArray := prog_1_method_15_code
def yX5_chief : MethodName := ⟨RX5, "chief", "(III)I"⟩
abbrev cX5_shortAt : ByteArray := prog_1_method_16_code
def yX5_shortAt : MethodName := ⟨RX5, "shortAt", "(II)I"⟩
abbrev cX5_ask : ByteArray := prog_1_method_17_code
def yX5_ask : MethodName := ⟨RX5, "ask", "(III)I"⟩
abbrev cX5_answer : ByteArray := prog_1_method_18_code
def yX5_answer : MethodName := ⟨RX5, "answer", "(IIII)J"⟩
abbrev cX5_keys : ByteArray := prog_1_method_19_code
def yX5_keys : MethodName := ⟨RX5, "keys", "(III)I"⟩
abbrev cX5_key : ByteArray := prog_1_method_20_code
def yX5_key : MethodName := ⟨RX5, "key", "(IIII)I"⟩
abbrev cX5_works : ByteArray := prog_1_method_21_code
def yX5_works : MethodName := ⟨RX5, "works", "(III)I"⟩
abbrev cX5_lacks : ByteArray := prog_1_method_22_code
def yX5_lacks : MethodName := ⟨RX5, "lacks", "(III)I"⟩
abbrev cX5_weigh : ByteArray := prog_1_method_23_code
def yX5_weigh : MethodName := ⟨RX5, "weigh", "(ZII)I"⟩
abbrev cX5_loss : ByteArray := prog_1_method_24_code
def yX5_loss : MethodName := ⟨RX5, "loss", "(I)I"⟩
abbrev cX5_plan : ByteArray := prog_1_method_25_code
def yX5_plan : MethodName := ⟨RX5, "plan", "(III)I"⟩
abbrev cX5_bill : ByteArray := prog_1_method_26_code
def yX5_bill : MethodName := ⟨RX5, "bill", "(IIII)I"⟩
abbrev cX5_count : ByteArray := prog_1_method_27_code
def yX5_count : MethodName := ⟨RX5, "count", "(I)I"⟩
abbrev cX5_isMark : ByteArray := prog_1_method_28_code
def yX5_isMark : MethodName := ⟨RX5, "isMark", "(I)Z"⟩
abbrev cX5_isValue : ByteArray := prog_1_method_29_code
def yX5_isValue : MethodName := ⟨RX5, "isValue", "(I)Z"⟩
abbrev cX5_isName : ByteArray := prog_1_method_30_code
def yX5_isName : MethodName := ⟨RX5, "isName", "(I)Z"⟩
abbrev cX5_isSetOfMarks : ByteArray := prog_1_method_31_code
def yX5_isSetOfMarks : MethodName := ⟨RX5, "isSetOfMarks", "(I)Z"⟩
abbrev cX5_isSeries : ByteArray := prog_1_method_32_code
def yX5_isSeries : MethodName := ⟨RX5, "isSeries", "(I)Z"⟩
abbrev cX5_isAsking : ByteArray := prog_1_method_33_code
def yX5_isAsking : MethodName := ⟨RX5, "isAsking", "(I)Z"⟩
abbrev cX5_isPastTick : ByteArray := prog_1_method_34_code
def yX5_isPastTick : MethodName := ⟨RX5, "isPastTick", "(I)Z"⟩
abbrev cX5_isSpan : ByteArray := prog_1_method_35_code
def yX5_isSpan : MethodName := ⟨RX5, "isSpan", "(II)Z"⟩
abbrev cX5_digit : ByteArray := prog_1_method_36_code
def yX5_digit : MethodName := ⟨RX5, "digit", "(II)I"⟩
abbrev cX5_atPlace : ByteArray := prog_1_method_37_code
def yX5_atPlace : MethodName := ⟨RX5, "atPlace", "(II)I"⟩
abbrev cX5_hasBit : ByteArray := prog_1_method_38_code
def yX5_hasBit : MethodName := ⟨RX5, "hasBit", "(II)Z"⟩
abbrev cX5_asNumber : ByteArray := prog_1_method_39_code
def yX5_asNumber : MethodName := ⟨RX5, "asNumber", "(Z)I"⟩
abbrev cX5_digitsOf : ByteArray := prog_1_method_40_code
def yX5_digitsOf : MethodName := ⟨RX5, "digitsOf", "(I)I"⟩
abbrev cX5_numberOf : ByteArray := prog_1_method_41_code
def yX5_numberOf : MethodName := ⟨RX5, "numberOf", "(I)I"⟩
abbrev cX5_growthOfAlike : ByteArray := prog_1_method_42_code
def yX5_growthOfAlike : MethodName := ⟨RX5, "growthOfAlike", "(IIII)J"⟩
abbrev cX5_gatherSeen : ByteArray := prog_1_method_43_code
def yX5_gatherSeen : MethodName := ⟨RX5, "gatherSeen", "(II)V"⟩
abbrev cX5_namesLeftWithout : ByteArray := prog_1_method_44_code
def yX5_namesLeftWithout : MethodName := ⟨RX5, "namesLeftWithout", "(I)I"⟩
abbrev cX5_gatherKeys : ByteArray := prog_1_method_45_code
def yX5_gatherKeys : MethodName := ⟨RX5, "gatherKeys", "(LSeriesMarks$Asking;II)V"⟩
abbrev cX5_firstLack : ByteArray := prog_1_method_46_code
def yX5_firstLack : MethodName := ⟨RX5, "firstLack", "(III)I"⟩
abbrev cX5_changeWeight : ByteArray := prog_1_method_47_code
def yX5_changeWeight : MethodName := ⟨RX5, "changeWeight", "(II)I"⟩
abbrev cX5_lossOf : ByteArray := prog_1_method_48_code
def yX5_lossOf : MethodName := ⟨RX5, "lossOf", "(I)I"⟩
def RX6 : String := "SeriesMarksModel"
def TX6 : u_T := fun k => match k with
  | 0 => ("SeriesMarksModel", "tick", "I", false)
  | 1 => ("SeriesMarksModel", "dropped", "[Z", true)
  | 2 => ("SeriesMarksModel", "chief", "[I", true)
  | 3 => ("SeriesMarksModel", "series", "I", false)
  | 4 => ("SeriesMarksModel", "name", "[I", true)
  | 5 => ("SeriesMarksModel", "many", "[I", true)
  | 6 => ("SeriesMarksModel", "latest", "[I", true)
  | 7 => ("SeriesMarksModel", "firstTick", "[I", true)
  | 8 => ("SeriesMarksModel", "lastTick", "[I", true)
  | 9 => ("SeriesMarksModel", "begun", "[I", true)
  | 10 => ("SeriesMarksModel", "samples", "I", false)
  | 11 => ("SeriesMarksModel", "of", "[I", true)
  | 12 => ("SeriesMarksModel", "at", "[I", true)
  | 13 => ("SeriesMarksModel", "grown", "[I", true)
  | 14 => ("SeriesMarksModel", "isSeen", "[Z", true)
  | 15 => ("SeriesMarksModel", "unlikes", "I", false)
  | 16 => ("SeriesMarksModel", "unlike", "[I", true)
  | 17 => ("SeriesMarksModel", "askings", "I", false)
  | 18 => ("SeriesMarksModel", "parts", "[I", true)
  | 19 => ("SeriesMarksModel", "wantedMark", "[I", true)
  | 20 => ("SeriesMarksModel", "wantedValue", "[I", true)
  | 21 => ("SeriesMarksModel", "worth", "[I", true)
  | _ => ("SeriesMarksModel", "weight", "[I", true)
def tyX6 : Nat → FieldType := fun k => match k with
  | 0 => .int
  | 1 => .array .boolean
  | 2 => .array .int
  | 3 => .int
  | 4 => .array .int
  | 5 => .array .int
  | 6 => .array .int
  | 7 => .array .int
  | 8 => .array .int
  | 9 => .array .int
  | 10 => .int
  | 11 => .array .int
  | 12 => .array .int
  | 13 => .array .int
  | 14 => .array .boolean
  | 15 => .int
  | 16 => .array .int
  | 17 => .int
  | 18 => .array .int
  | 19 => .array .int
  | 20 => .array .int
  | 21 => .array .int
  | _ => .array .int
abbrev wsX60 : List Cond := u_ws RX6 TX6 23
theorem nmX6 : ∀ a, a < 23 → ∀ b, b < 23 → a ≠ b → (TX6 a).2.1 ≠ (TX6 b).2.1 := by decide +kernel
theorem tyX6_ok : ∀ k, k < 23 → parseFieldDescriptor (TX6 k).2.2.1 = some (tyX6 k) := by decide +kernel
abbrev cX6_init : ByteArray := prog_8_method_1_code
def yX6_init : MethodName := ⟨RX6, "<init>", "()V"⟩
abbrev cX6_in : ByteArray := prog_8_method_3_code
def yX6_in : MethodName := ⟨RX6, "in", "(JJJ)Z"⟩
abbrev cX6_isSpan : ByteArray := prog_8_method_4_code
def yX6_isSpan : MethodName := ⟨RX6, "isSpan", "(II)Z"⟩
abbrev cX6_isMark : ByteArray := prog_8_method_5_code
def yX6_isMark : MethodName := ⟨RX6, "isMark", "(I)Z"⟩
abbrev cX6_isValue : ByteArray := prog_8_method_6_code
def yX6_isValue : MethodName := ⟨RX6, "isValue", "(I)Z"⟩
abbrev cX6_isName : ByteArray := prog_8_method_7_code
def yX6_isName : MethodName := ⟨RX6, "isName", "(I)Z"⟩
abbrev cX6_digit : ByteArray := prog_8_method_8_code
def yX6_digit : MethodName := ⟨RX6, "digit", "(II)I"⟩
abbrev cX6_without : ByteArray := prog_8_method_9_code
def yX6_without : MethodName := ⟨RX6, "without", "(II)I"⟩
abbrev cX6_pass : ByteArray := prog_8_method_10_code
def yX6_pass : MethodName := ⟨RX6, "pass", "(I)I"⟩
abbrev cX6_place : ByteArray := prog_8_method_11_code
def yX6_place : MethodName := ⟨RX6, "place", "(I)I"⟩
abbrev cX6_tell : ByteArray := prog_8_method_12_code
def yX6_tell : MethodName := ⟨RX6, "tell", "(II)I"⟩
abbrev cX6_series : ByteArray := prog_8_method_13_code
def yX6_series : MethodName := ⟨RX6, "series", "(II)I"⟩
abbrev cX6_find : ByteArray := prog_8_method_14_code
def yX6_find : MethodName := ⟨RX6, "find", "(I)I"⟩
abbrev cX6_growthOf : ByteArray := prog_8_method_15_code
def yX6_growthOf : MethodName := ⟨RX6, "growthOf", "(III)J"⟩
abbrev cX6_growth : ByteArray := prog_8_method_16_code
def yX6_growth : MethodName := ⟨RX6, "growth", "(III)J"⟩
abbrev cX6_look : ByteArray := prog_8_method_17_code
def yX6_look : MethodName := ⟨RX6, "look", "(II)I"⟩
abbrev cX6_note : ByteArray := prog_8_method_18_code
def yX6_note : MethodName := ⟨RX6, "note", "(I)V"⟩
abbrev cX6_seen : ByteArray := prog_8_method_19_code
def yX6_seen : MethodName := ⟨RX6, "seen", "(II)I"⟩
abbrev cX6_values : ByteArray := prog_8_method_20_code
def yX6_values : MethodName := ⟨RX6, "values", "(III)I"⟩
abbrev cX6_unlikeWithout : ByteArray := prog_8_method_21_code
def yX6_unlikeWithout : MethodName := ⟨RX6, "unlikeWithout", "(I)I"⟩
abbrev cX6_unlike : ByteArray := prog_8_method_22_code
def yX6_unlike : MethodName := ⟨RX6, "unlike", "(III)I"⟩
abbrev cX6_shorted : ByteArray := prog_8_method_23_code
def yX6_shorted : MethodName := ⟨RX6, "shorted", "(II)I"⟩
abbrev cX6_kept : ByteArray := prog_8_method_24_code
def yX6_kept : MethodName := ⟨RX6, "kept", "(II)I"⟩
abbrev cX6_worst : ByteArray := prog_8_method_25_code
def yX6_worst : MethodName := ⟨RX6, "worst", "(II)I"⟩
abbrev cX6_drop : ByteArray := prog_8_method_26_code
def yX6_drop : MethodName := ⟨RX6, "drop", "(IZ)I"⟩
abbrev cX6_fold : ByteArray := prog_8_method_27_code
def yX6_fold : MethodName := ⟨RX6, "fold", "(III)I"⟩
abbrev cX6_dropped : ByteArray := prog_8_method_28_code
def yX6_dropped : MethodName := ⟨RX6, "dropped", "(II)I"⟩
abbrev cX6_chief : ByteArray := prog_8_method_29_code
def yX6_chief : MethodName := ⟨RX6, "chief", "(III)I"⟩
abbrev cX6_shortAt : ByteArray := prog_8_method_30_code
def yX6_shortAt : MethodName := ⟨RX6, "shortAt", "(II)I"⟩
abbrev cX6_ask : ByteArray := prog_8_method_31_code
def yX6_ask : MethodName := ⟨RX6, "ask", "(III)I"⟩
abbrev cX6_isAsking : ByteArray := prog_8_method_32_code
def yX6_isAsking : MethodName := ⟨RX6, "isAsking", "(I)Z"⟩
abbrev cX6_isWanted : ByteArray := prog_8_method_33_code
def yX6_isWanted : MethodName := ⟨RX6, "isWanted", "(II)Z"⟩
abbrev cX6_keyOf : ByteArray := prog_8_method_34_code
def yX6_keyOf : MethodName := ⟨RX6, "keyOf", "(II)I"⟩
abbrev cX6_answer : ByteArray := prog_8_method_35_code
def yX6_answer : MethodName := ⟨RX6, "answer", "(IIII)J"⟩
abbrev cX6_findKeys : ByteArray := prog_8_method_36_code
def yX6_findKeys : MethodName := ⟨RX6, "findKeys", "(III)I"⟩
abbrev cX6_keys : ByteArray := prog_8_method_37_code
def yX6_keys : MethodName := ⟨RX6, "keys", "(III)I"⟩
abbrev cX6_key : ByteArray := prog_8_method_38_code
def yX6_key : MethodName := ⟨RX6, "key", "(IIII)I"⟩
abbrev cX6_lacksAt : ByteArray := prog_8_method_39_code
def yX6_lacksAt : MethodName := ⟨RX6, "lacksAt", "(II)Z"⟩
abbrev cX6_isFolded : ByteArray := prog_8_method_40_code
def yX6_isFolded : MethodName := ⟨RX6, "isFolded", "(II)Z"⟩
abbrev cX6_lacks : ByteArray := prog_8_method_41_code
def yX6_lacks : MethodName := ⟨RX6, "lacks", "(III)I"⟩
abbrev cX6_works : ByteArray := prog_8_method_42_code
def yX6_works : MethodName := ⟨RX6, "works", "(III)I"⟩
abbrev cX6_weigh : ByteArray := prog_8_method_43_code
def yX6_weigh : MethodName := ⟨RX6, "weigh", "(ZII)I"⟩
abbrev cX6_lossOf : ByteArray := prog_8_method_44_code
def yX6_lossOf : MethodName := ⟨RX6, "lossOf", "(I)I"⟩
abbrev cX6_loss : ByteArray := prog_8_method_45_code
def yX6_loss : MethodName := ⟨RX6, "loss", "(I)I"⟩
abbrev cX6_plan : ByteArray := prog_8_method_46_code
def yX6_plan : MethodName := ⟨RX6, "plan", "(III)I"⟩
abbrev cX6_bill : ByteArray := prog_8_method_47_code
def yX6_bill : MethodName := ⟨RX6, "bill", "(IIII)I"⟩
abbrev cX6_count : ByteArray := prog_8_method_48_code
def yX6_count : MethodName := ⟨RX6, "count", "(I)I"⟩
def RJx145de : String := "java/io/Serializable"
def TJx145de : u_T := fun k => match k with
  | _ => ("", "", "", false)
def tyJx145de : Nat → FieldType := fun k => match k with
  | _ => .int
abbrev wsJx145de0 : List Cond := u_ws RJx145de TJx145de 0
theorem nmJx145de : ∀ a, a < 0 → ∀ b, b < 0 → a ≠ b → (TJx145de a).2.1 ≠ (TJx145de b).2.1 := by decide +kernel
theorem tyJx145de_ok : ∀ k, k < 0 → parseFieldDescriptor (TJx145de k).2.2.1 = some (tyJx145de k) := by decide +kernel
def RJx8e188 : String := "java/lang/Cloneable"
def TJx8e188 : u_T := fun k => match k with
  | _ => ("", "", "", false)
def tyJx8e188 : Nat → FieldType := fun k => match k with
  | _ => .int
abbrev wsJx8e1880 : List Cond := u_ws RJx8e188 TJx8e188 0
theorem nmJx8e188 : ∀ a, a < 0 → ∀ b, b < 0 → a ≠ b → (TJx8e188 a).2.1 ≠ (TJx8e188 b).2.1 := by decide +kernel
theorem tyJx8e188_ok : ∀ k, k < 0 → parseFieldDescriptor (TJx8e188 k).2.2.1 = some (tyJx8e188 k) := by decide +kernel
def RJ6 : String := "java/lang/Integer"
def TJ6 : u_T := fun k => match k with
  | _ => ("", "", "", false)
def tyJ6 : Nat → FieldType := fun k => match k with
  | _ => .int
abbrev wsJ60 : List Cond := u_ws RJ6 TJ6 0
theorem nmJ6 : ∀ a, a < 0 → ∀ b, b < 0 → a ≠ b → (TJ6 a).2.1 ≠ (TJ6 b).2.1 := by decide +kernel
theorem tyJ6_ok : ∀ k, k < 0 → parseFieldDescriptor (TJ6 k).2.2.1 = some (tyJ6 k) := by decide +kernel
abbrev cJ6_highestOneBit_0f7a4 : ByteArray := prog_11_method_45_code
def yJ6_highestOneBit_0f7a4 : MethodName := ⟨RJ6, "highestOneBit", "(I)I"⟩
abbrev cJ6_numberOfLeadingZeros_0f7a4 : ByteArray := prog_11_method_47_code
def yJ6_numberOfLeadingZeros_0f7a4 : MethodName := ⟨RJ6, "numberOfLeadingZeros", "(I)I"⟩
abbrev cJ6_bitCount_0f7a4 : ByteArray := prog_11_method_49_code
def yJ6_bitCount_0f7a4 : MethodName := ⟨RJ6, "bitCount", "(I)I"⟩
def RJxab1ab : String := "java/lang/Iterable"
def TJxab1ab : u_T := fun k => match k with
  | _ => ("", "", "", false)
def tyJxab1ab : Nat → FieldType := fun k => match k with
  | _ => .int
abbrev wsJxab1ab0 : List Cond := u_ws RJxab1ab TJxab1ab 0
theorem nmJxab1ab : ∀ a, a < 0 → ∀ b, b < 0 → a ≠ b → (TJxab1ab a).2.1 ≠ (TJxab1ab b).2.1 := by decide +kernel
theorem tyJxab1ab_ok : ∀ k, k < 0 → parseFieldDescriptor (TJxab1ab k).2.2.1 = some (tyJxab1ab k) := by decide +kernel
def RJ9 : String := "java/lang/Math"
def TJ9 : u_T := fun k => match k with
  | _ => ("", "", "", false)
def tyJ9 : Nat → FieldType := fun k => match k with
  | _ => .int
abbrev wsJ90 : List Cond := u_ws RJ9 TJ9 0
theorem nmJ9 : ∀ a, a < 0 → ∀ b, b < 0 → a ≠ b → (TJ9 a).2.1 ≠ (TJ9 b).2.1 := by decide +kernel
theorem tyJ9_ok : ∀ k, k < 0 → parseFieldDescriptor (TJ9 k).2.2.1 = some (tyJ9 k) := by decide +kernel
abbrev cJ9_max_7cf53 : ByteArray := prog_13_method_65_code
def yJ9_max_7cf53 : MethodName := ⟨RJ9, "max", "(II)I"⟩
abbrev cJ9_min_7cf53 : ByteArray := prog_13_method_69_code
def yJ9_min_7cf53 : MethodName := ⟨RJ9, "min", "(II)I"⟩
def RJ10 : String := "java/lang/System"
def TJ10 : u_T := fun k => match k with
  | _ => ("", "", "", false)
def tyJ10 : Nat → FieldType := fun k => match k with
  | _ => .int
abbrev wsJ100 : List Cond := u_ws RJ10 TJ10 0
theorem nmJ10 : ∀ a, a < 0 → ∀ b, b < 0 → a ≠ b → (TJ10 a).2.1 ≠ (TJ10 b).2.1 := by decide +kernel
theorem tyJ10_ok : ∀ k, k < 0 → parseFieldDescriptor (TJ10 k).2.2.1 = some (tyJ10 k) := by decide +kernel
def RJxa1e45 : String := "java/util/AbstractCollection"
def TJxa1e45 : u_T := fun k => match k with
  | _ => ("", "", "", false)
def tyJxa1e45 : Nat → FieldType := fun k => match k with
  | _ => .int
abbrev wsJxa1e450 : List Cond := u_ws RJxa1e45 TJxa1e45 0
theorem nmJxa1e45 : ∀ a, a < 0 → ∀ b, b < 0 → a ≠ b → (TJxa1e45 a).2.1 ≠ (TJxa1e45 b).2.1 := by decide +kernel
theorem tyJxa1e45_ok : ∀ k, k < 0 → parseFieldDescriptor (TJxa1e45 k).2.2.1 = some (tyJxa1e45 k) := by decide +kernel
abbrev cJxa1e45_init_da8c8 : ByteArray := prog_15_method_1_code
def yJxa1e45_init_da8c8 : MethodName := ⟨RJxa1e45, "<init>", "()V"⟩
def RJxc12de : String := "java/util/AbstractList"
def TJxc12de : u_T := fun k => match k with
  | _ => ("", "", "", false)
def tyJxc12de : Nat → FieldType := fun k => match k with
  | _ => .int
abbrev wsJxc12de0 : List Cond := u_ws RJxc12de TJxc12de 0
theorem nmJxc12de : ∀ a, a < 0 → ∀ b, b < 0 → a ≠ b → (TJxc12de a).2.1 ≠ (TJxc12de b).2.1 := by decide +kernel
theorem tyJxc12de_ok : ∀ k, k < 0 → parseFieldDescriptor (TJxc12de k).2.2.1 = some (tyJxc12de k) := by decide +kernel
abbrev cJxc12de_init_da8c8 : ByteArray := prog_16_method_1_code
def yJxc12de_init_da8c8 : MethodName := ⟨RJxc12de, "<init>", "()V"⟩
def RJx4a65c : String := "java/util/ArrayList"
def TJx4a65c : u_T := fun k => match k with
  | 0 => ("java/util/AbstractList", "modCount", "I", false)
  | 1 => ("java/util/ArrayList", "elementData", "[Ljava/lang/Object;", false)
  | _ => ("java/util/ArrayList", "size", "I", false)
def tyJx4a65c : Nat → FieldType := fun k => match k with
  | 0 => .int
  | 1 => .array (.object "java/lang/Object")
  | _ => .int
abbrev wsJx4a65c0 : List Cond := u_ws RJx4a65c TJx4a65c 3
theorem nmJx4a65c : ∀ a, a < 3 → ∀ b, b < 3 → a ≠ b → (TJx4a65c a).2.1 ≠ (TJx4a65c b).2.1 := by decide +kernel
theorem tyJx4a65c_ok : ∀ k, k < 3 → parseFieldDescriptor (TJx4a65c k).2.2.1 = some (tyJx4a65c k) := by decide +kernel
abbrev cJx4a65c_init_da8c8 : ByteArray := prog_17_method_2_code
def yJx4a65c_init_da8c8 : MethodName := ⟨RJx4a65c, "<init>", "()V"⟩
abbrev cJx4a65c_grow_92f84 : ByteArray := prog_17_method_6_code
def yJx4a65c_grow_92f84 : MethodName := ⟨RJx4a65c, "grow", "(I)[Ljava/lang/Object;"⟩
abbrev cJx4a65c_grow_d5877 : ByteArray := prog_17_method_7_code
def yJx4a65c_grow_d5877 : MethodName := ⟨RJx4a65c, "grow", "()[Ljava/lang/Object;"⟩
abbrev cJx4a65c_size_8abf5 : ByteArray := prog_17_method_8_code
def yJx4a65c_size_8abf5 : MethodName := ⟨RJx4a65c, "size", "()I"⟩
abbrev cJx4a65c_elementData_915e3 : ByteArray := prog_17_method_18_code
def yJx4a65c_elementData_915e3 : MethodName := ⟨RJx4a65c, "elementData", "(I)Ljava/lang/Object;"⟩
abbrev cJx4a65c_get_915e3 : ByteArray := prog_17_method_20_code
def yJx4a65c_get_915e3 : MethodName := ⟨RJx4a65c, "get", "(I)Ljava/lang/Object;"⟩
abbrev cJx4a65c_add_72be8 : ByteArray := prog_17_method_24_code
def yJx4a65c_add_72be8 : MethodName := ⟨RJx4a65c, "add", "(Ljava/lang/Object;[Ljava/lang/Object;I)V"⟩
abbrev cJx4a65c_add_9ea2d : ByteArray := prog_17_method_25_code
def yJx4a65c_add_9ea2d : MethodName := ⟨RJx4a65c, "add", "(Ljava/lang/Object;)Z"⟩
def RJ7 : String := "java/util/Arrays"
def TJ7 : u_T := fun k => match k with
  | _ => ("", "", "", false)
def tyJ7 : Nat → FieldType := fun k => match k with
  | _ => .int
abbrev wsJ70 : List Cond := u_ws RJ7 TJ7 0
theorem nmJ7 : ∀ a, a < 0 → ∀ b, b < 0 → a ≠ b → (TJ7 a).2.1 ≠ (TJ7 b).2.1 := by decide +kernel
theorem tyJ7_ok : ∀ k, k < 0 → parseFieldDescriptor (TJ7 k).2.2.1 = some (tyJ7 k) := by decide +kernel
abbrev cJ7_copyOf_1904c : ByteArray := prog_18_method_119_code
def yJ7_copyOf_1904c : MethodName := ⟨RJ7, "copyOf", "([Ljava/lang/Object;I)[Ljava/lang/Object;"⟩
abbrev cJ7_copyOf_6403c : ByteArray := prog_18_method_120_code
def yJ7_copyOf_6403c : MethodName := ⟨RJ7, "copyOf", "([Ljava/lang/Object;ILjava/lang/Class;)[Ljava/lang/Object;"⟩
def RJx5ef63 : String := "java/util/Collection"
def TJx5ef63 : u_T := fun k => match k with
  | _ => ("", "", "", false)
def tyJx5ef63 : Nat → FieldType := fun k => match k with
  | _ => .int
abbrev wsJx5ef630 : List Cond := u_ws RJx5ef63 TJx5ef63 0
theorem nmJx5ef63 : ∀ a, a < 0 → ∀ b, b < 0 → a ≠ b → (TJx5ef63 a).2.1 ≠ (TJx5ef63 b).2.1 := by decide +kernel
theorem tyJx5ef63_ok : ∀ k, k < 0 → parseFieldDescriptor (TJx5ef63 k).2.2.1 = some (tyJx5ef63 k) := by decide +kernel
def RJxbd725 : String := "java/util/List"
def TJxbd725 : u_T := fun k => match k with
  | _ => ("", "", "", false)
def tyJxbd725 : Nat → FieldType := fun k => match k with
  | _ => .int
abbrev wsJxbd7250 : List Cond := u_ws RJxbd725 TJxbd725 0
theorem nmJxbd725 : ∀ a, a < 0 → ∀ b, b < 0 → a ≠ b → (TJxbd725 a).2.1 ≠ (TJxbd725 b).2.1 := by decide +kernel
theorem tyJxbd725_ok : ∀ k, k < 0 → parseFieldDescriptor (TJxbd725 k).2.2.1 = some (tyJxbd725 k) := by decide +kernel
def RJ15 : String := "java/util/Objects"
def TJ15 : u_T := fun k => match k with
  | _ => ("", "", "", false)
def tyJ15 : Nat → FieldType := fun k => match k with
  | _ => .int
abbrev wsJ150 : List Cond := u_ws RJ15 TJ15 0
theorem nmJ15 : ∀ a, a < 0 → ∀ b, b < 0 → a ≠ b → (TJ15 a).2.1 ≠ (TJ15 b).2.1 := by decide +kernel
theorem tyJ15_ok : ∀ k, k < 0 → parseFieldDescriptor (TJ15 k).2.2.1 = some (tyJ15 k) := by decide +kernel
abbrev cJ15_checkIndex_7cf53 : ByteArray := prog_21_method_17_code
def yJ15_checkIndex_7cf53 : MethodName := ⟨RJ15, "checkIndex", "(II)I"⟩
def RJxf0a74 : String := "java/util/RandomAccess"
def TJxf0a74 : u_T := fun k => match k with
  | _ => ("", "", "", false)
def tyJxf0a74 : Nat → FieldType := fun k => match k with
  | _ => .int
abbrev wsJxf0a740 : List Cond := u_ws RJxf0a74 TJxf0a74 0
theorem nmJxf0a74 : ∀ a, a < 0 → ∀ b, b < 0 → a ≠ b → (TJxf0a74 a).2.1 ≠ (TJxf0a74 b).2.1 := by decide +kernel
theorem tyJxf0a74_ok : ∀ k, k < 0 → parseFieldDescriptor (TJxf0a74 k).2.2.1 = some (tyJxf0a74 k) := by decide +kernel
def RJxa66e6 : String := "java/util/SequencedCollection"
def TJxa66e6 : u_T := fun k => match k with
  | _ => ("", "", "", false)
def tyJxa66e6 : Nat → FieldType := fun k => match k with
  | _ => .int
abbrev wsJxa66e60 : List Cond := u_ws RJxa66e6 TJxa66e6 0
theorem nmJxa66e6 : ∀ a, a < 0 → ∀ b, b < 0 → a ≠ b → (TJxa66e6 a).2.1 ≠ (TJxa66e6 b).2.1 := by decide +kernel
theorem tyJxa66e6_ok : ∀ k, k < 0 → parseFieldDescriptor (TJxa66e6 k).2.2.1 = some (tyJxa66e6 k) := by decide +kernel
def RJ8 : String := "jdk/internal/util/ArraysSupport"
def TJ8 : u_T := fun k => match k with
  | _ => ("", "", "", false)
def tyJ8 : Nat → FieldType := fun k => match k with
  | _ => .int
abbrev wsJ80 : List Cond := u_ws RJ8 TJ8 0
theorem nmJ8 : ∀ a, a < 0 → ∀ b, b < 0 → a ≠ b → (TJ8 a).2.1 ≠ (TJ8 b).2.1 := by decide +kernel
theorem tyJ8_ok : ∀ k, k < 0 → parseFieldDescriptor (TJ8 k).2.2.1 = some (tyJ8 k) := by decide +kernel
abbrev cJ8_newLength_cabcc : ByteArray := prog_24_method_27_code
def yJ8_newLength_cabcc : MethodName := ⟨RJ8, "newLength", "(III)I"⟩
abbrev cJ8_hugeLength_7cf53 : ByteArray := prog_24_method_28_code
def yJ8_hugeLength_7cf53 : MethodName := ⟨RJ8, "hugeLength", "(II)I"⟩
def RJ3 : String := "jdk/internal/util/Preconditions"
def TJ3 : u_T := fun k => match k with
  | _ => ("", "", "", false)
def tyJ3 : Nat → FieldType := fun k => match k with
  | _ => .int
abbrev wsJ30 : List Cond := u_ws RJ3 TJ3 0
theorem nmJ3 : ∀ a, a < 0 → ∀ b, b < 0 → a ≠ b → (TJ3 a).2.1 ≠ (TJ3 b).2.1 := by decide +kernel
theorem tyJ3_ok : ∀ k, k < 0 → parseFieldDescriptor (TJ3 k).2.2.1 = some (tyJ3 k) := by decide +kernel
abbrev cJ3_checkIndex_8e157 : ByteArray := prog_25_method_11_code
def yJ3_checkIndex_8e157 : MethodName := ⟨RJ3, "checkIndex", "(IILjava/util/function/BiFunction;)I"⟩
def RL : String := "SeriesMarksLaw"
abbrev cL_law : ByteArray := code
def yL_law : MethodName := ⟨RL, "law", "([I)Z"⟩
def wsX5_hasBit : List Cond := .code yX5_hasBit cX5_hasBit 2 (some .boolean) :: ([])
def wsX5_atPlace : List Cond := .code yX5_atPlace cX5_atPlace 2 (some .int) :: ([])
def wsX5_digitsOf : List Cond := .code yX5_digitsOf cX5_digitsOf 3 (some .int) :: ([.methodLink RX5 175 yX5_hasBit, .static yX5_hasBit, .initialized RX5, .code yX5_hasBit cX5_hasBit 2 (some .boolean), .methodLink RX5 227 yX5_atPlace, .static yX5_atPlace, .code yX5_atPlace cX5_atPlace 2 (some .int)])
def wsX0_init : List Cond := .code yX0_init cX0_init 4 none :: ([.methodLink RX0 3 objectInit, .instanceMethod objectInit, .code objectInit ⟨#[0xb1]⟩ 1 none, .fieldLink RX0 9 "SeriesMarks$Asking" "marks" "I", .fieldLink RX0 19 "SeriesMarks$Asking" "digits" "I", .fieldLink RX0 22 "SeriesMarks$Asking" "wantedMark" "I", .fieldLink RX0 25 "SeriesMarks$Asking" "wantedValue" "I", .static yX5_digitsOf, .initialized RX5, .code yX5_digitsOf cX5_digitsOf 3 (some .int), .methodLink RX5 175 yX5_hasBit, .static yX5_hasBit, .code yX5_hasBit cX5_hasBit 2 (some .boolean), .methodLink RX5 227 yX5_atPlace, .static yX5_atPlace, .code yX5_atPlace cX5_atPlace 2 (some .int)] ++ wsX00)
def wsX5_digit : List Cond := .code yX5_digit cX5_digit 2 (some .int) :: ([])
def wsX0_keyOf : List Cond := .code yX0_keyOf cX0_keyOf 2 (some .int) :: ([.fieldLink RX0 22 "SeriesMarks$Asking" "wantedMark" "I", .fieldLink RX0 25 "SeriesMarks$Asking" "wantedValue" "I", .fieldLink RX0 19 "SeriesMarks$Asking" "digits" "I", .static yX5_digit, .initialized RX5, .code yX5_digit cX5_digit 2 (some .int)] ++ wsX00)
def wsX0_changeWorth : List Cond := .code yX0_changeWorth cX0_changeWorth 3 (some .int) :: ([.fieldLink RX0 32 "SeriesMarks$Asking" "worth" "I"] ++ wsX00)
def wsX1_init : List Cond := .code yX1_init cX1_init 1 none :: ([.methodLink RX1 3 objectInit, .instanceMethod objectInit, .code objectInit ⟨#[0xb1]⟩ 1 none, .arrayClass .int, .fieldLink RX1 9 "SeriesMarks$NameSet" "row" "[I"] ++ wsX10)
def wsX1_makeEmpty : List Cond := .code yX1_makeEmpty cX1_makeEmpty 1 none :: ([.fieldLink RX1 15 "SeriesMarks$NameSet" "size" "I"] ++ wsX10)
def wsJ6_numberOfLeadingZeros_0f7a4 : List Cond := .code yJ6_numberOfLeadingZeros_0f7a4 cJ6_numberOfLeadingZeros_0f7a4 2 (some .int) :: ([.constant RJ6 264 (65536)])
def wsJ6_highestOneBit_0f7a4 : List Cond := .code yJ6_highestOneBit_0f7a4 cJ6_highestOneBit_0f7a4 1 (some .int) :: ([.constant RJ6 127 (-2147483648), .methodLink RJ6 51 yJ6_numberOfLeadingZeros_0f7a4, .static yJ6_numberOfLeadingZeros_0f7a4, .initialized RJ6, .code yJ6_numberOfLeadingZeros_0f7a4 cJ6_numberOfLeadingZeros_0f7a4 2 (some .int), .constant RJ6 264 (65536)])
def wsX1_howManyBelow : List Cond := .code yX1_howManyBelow cX1_howManyBelow 4 (some .int) :: ([.fieldLink RX1 15 "SeriesMarks$NameSet" "size" "I", .fieldLink RX1 9 "SeriesMarks$NameSet" "row" "[I", .methodLink RX1 29 yJ6_highestOneBit_0f7a4, .static yJ6_highestOneBit_0f7a4, .initialized RJ6, .code yJ6_highestOneBit_0f7a4 cJ6_highestOneBit_0f7a4 1 (some .int), .constant RJ6 127 (-2147483648), .methodLink RJ6 51 yJ6_numberOfLeadingZeros_0f7a4, .static yJ6_numberOfLeadingZeros_0f7a4, .code yJ6_numberOfLeadingZeros_0f7a4 cJ6_numberOfLeadingZeros_0f7a4 2 (some .int), .constant RJ6 264 (65536)] ++ wsX10)
def wsX1_put : List Cond := .code yX1_put cX1_put 4 none :: ([.fieldLink RX1 15 "SeriesMarks$NameSet" "size" "I", .fieldLink RX1 9 "SeriesMarks$NameSet" "row" "[I", .methodLink RX1 23 arraycopyName, .native arraycopyName, .static arraycopyName, .initialized "java/lang/System", .methodLink RX1 19 yX1_howManyBelow, .instanceMethod yX1_howManyBelow, .selects RX1 yX1_howManyBelow yX1_howManyBelow, .initialized RX1, .code yX1_howManyBelow cX1_howManyBelow 4 (some .int), .methodLink RX1 29 yJ6_highestOneBit_0f7a4, .static yJ6_highestOneBit_0f7a4, .initialized RJ6, .code yJ6_highestOneBit_0f7a4 cJ6_highestOneBit_0f7a4 1 (some .int), .constant RJ6 127 (-2147483648), .methodLink RJ6 51 yJ6_numberOfLeadingZeros_0f7a4, .static yJ6_numberOfLeadingZeros_0f7a4, .code yJ6_numberOfLeadingZeros_0f7a4 cJ6_numberOfLeadingZeros_0f7a4 2 (some .int), .constant RJ6 264 (65536)] ++ wsX10)
def wsX2_init : List Cond := .code yX2_init cX2_init 4 none :: ([.methodLink RX2 1 objectInit, .instanceMethod objectInit, .code objectInit ⟨#[0xb1]⟩ 1 none, .fieldLink RX2 7 "SeriesMarks$Sample" "name" "I", .fieldLink RX2 13 "SeriesMarks$Sample" "tick" "I", .fieldLink RX2 16 "SeriesMarks$Sample" "rise" "I"] ++ wsX20)
def wsX2_isWithin : List Cond := .code yX2_isWithin cX2_isWithin 3 (some .boolean) :: ([.fieldLink RX2 13 "SeriesMarks$Sample" "tick" "I"] ++ wsX20)
def wsX3_init : List Cond := .code yX3_init cX3_init 3 none :: ([.methodLink RX3 1 objectInit, .instanceMethod objectInit, .code objectInit ⟨#[0xb1]⟩ 1 none, .fieldLink RX3 7 "SeriesMarks$Series" "name" "I", .fieldLink RX3 13 "SeriesMarks$Series" "firstTick" "I", .fieldLink RX3 16 "SeriesMarks$Series" "latestTick" "I"] ++ wsX30)
def wsX3_takeSample : List Cond := .code yX3_takeSample cX3_takeSample 5 (some .int) :: ([.fieldLink RX3 19 "SeriesMarks$Series" "latestCount" "I", .fieldLink RX3 22 "SeriesMarks$Series" "restarts" "I", .fieldLink RX3 25 "SeriesMarks$Series" "sampleCount" "I", .fieldLink RX3 16 "SeriesMarks$Series" "latestTick" "I"] ++ wsX30)
def wsX4_init : List Cond := .code yX4_init cX4_init 2 none :: ([.methodLink RX4 3 objectInit, .instanceMethod objectInit, .code objectInit ⟨#[0xb1]⟩ 1 none, .arrayClass .int, .fieldLink RX4 9 "SeriesMarks$Shortening" "droppedAt" "[I", .fieldLink RX4 15 "SeriesMarks$Shortening" "chiefsAt" "[I", .constant RX4 18 (16434824)] ++ wsX40)
def wsX4_carryOn : List Cond := .code yX4_carryOn cX4_carryOn 4 none :: ([.fieldLink RX4 9 "SeriesMarks$Shortening" "droppedAt" "[I", .fieldLink RX4 15 "SeriesMarks$Shortening" "chiefsAt" "[I", .methodLink RX4 19 arraycopyName, .native arraycopyName, .static arraycopyName, .initialized "java/lang/System"] ++ wsX40)
def wsX4_isDropped : List Cond := .code yX4_isDropped cX4_isDropped 3 (some .boolean) :: ([.fieldLink RX4 9 "SeriesMarks$Shortening" "droppedAt" "[I", .static yX5_hasBit, .initialized RX5, .code yX5_hasBit cX5_hasBit 2 (some .boolean)] ++ wsX40)
def wsX4_setDropped : List Cond := .code yX4_setDropped cX4_setDropped 5 none :: ([.fieldLink RX4 9 "SeriesMarks$Shortening" "droppedAt" "[I"] ++ wsX40)
def wsX4_chiefOf : List Cond := .code yX4_chiefOf cX4_chiefOf 4 (some .int) :: ([.fieldLink RX4 15 "SeriesMarks$Shortening" "chiefsAt" "[I", .static yX5_digit, .initialized RX5, .code yX5_digit cX5_digit 2 (some .int)] ++ wsX40)
def wsX4_putTogether : List Cond := .code yX4_putTogether cX4_putTogether 12 (some .int) :: ([.methodLink RX4 37 Lib.Math.min.name, .static Lib.Math.min.name, .initialized "java/lang/Math", .code Lib.Math.min.name Lib.Math.min.code 2 (some .int), .fieldLink RX4 15 "SeriesMarks$Shortening" "chiefsAt" "[I", .methodLink RX4 33 yX4_chiefOf, .instanceMethod yX4_chiefOf, .selects RX4 yX4_chiefOf yX4_chiefOf, .initialized RX4, .code yX4_chiefOf cX4_chiefOf 4 (some .int), .static yX5_digit, .initialized RX5, .code yX5_digit cX5_digit 2 (some .int), .static yX5_atPlace, .code yX5_atPlace cX5_atPlace 2 (some .int)] ++ wsX40)
def wsX4_isAnyFolded : List Cond := .code yX4_isAnyFolded cX4_isAnyFolded 4 (some .boolean) :: ([.fieldLink RX4 15 "SeriesMarks$Shortening" "chiefsAt" "[I", .constant RX4 18 (16434824), .static yX5_hasBit, .initialized RX5, .code yX5_hasBit cX5_hasBit 2 (some .boolean)] ++ wsX40)
def wsX4_shorten : List Cond := .code yX4_shorten cX4_shorten 5 (some .int) :: ([.methodLink RX4 45 yX4_isDropped, .instanceMethod yX4_isDropped, .selects RX4 yX4_isDropped yX4_isDropped, .initialized RX4, .code yX4_isDropped cX4_isDropped 3 (some .boolean), .fieldLink RX4 9 "SeriesMarks$Shortening" "droppedAt" "[I", .static yX5_hasBit, .initialized RX5, .code yX5_hasBit cX5_hasBit 2 (some .boolean), .static yX5_digit, .code yX5_digit cX5_digit 2 (some .int), .methodLink RX4 33 yX4_chiefOf, .instanceMethod yX4_chiefOf, .selects RX4 yX4_chiefOf yX4_chiefOf, .code yX4_chiefOf cX4_chiefOf 4 (some .int), .fieldLink RX4 15 "SeriesMarks$Shortening" "chiefsAt" "[I", .static yX5_atPlace, .code yX5_atPlace cX5_atPlace 2 (some .int)] ++ wsX40)
def wsJxa1e45_init_da8c8 : List Cond := .code yJxa1e45_init_da8c8 cJxa1e45_init_da8c8 1 none :: ([.methodLink RJxa1e45 1 objectInit, .instanceMethod objectInit, .code objectInit ⟨#[0xb1]⟩ 1 none])
def wsJxc12de_init_da8c8 : List Cond := .code yJxc12de_init_da8c8 cJxc12de_init_da8c8 1 none :: ([.fieldLink RJxc12de 7 "java/util/AbstractList" "modCount" "I", .methodLink RJxc12de 1 yJxa1e45_init_da8c8, .instanceMethod yJxa1e45_init_da8c8, .initialized RJxa1e45, .code yJxa1e45_init_da8c8 cJxa1e45_init_da8c8 1 none, .methodLink RJxa1e45 1 objectInit, .instanceMethod objectInit, .code objectInit ⟨#[0xb1]⟩ 1 none] ++ wsJx4a65c0)
def wsJx4a65c_init_da8c8 : List Cond := .code yJx4a65c_init_da8c8 cJx4a65c_init_da8c8 1 none :: ([.fieldLink RJx4a65c 39 "java/util/ArrayList" "DEFAULTCAPACITY_EMPTY_ELEMENTDATA" "[Ljava/lang/Object;", .fieldLink RJx4a65c 9 "java/util/ArrayList" "elementData" "[Ljava/lang/Object;", .methodLink RJx4a65c 1 yJxc12de_init_da8c8, .instanceMethod yJxc12de_init_da8c8, .initialized RJxc12de, .code yJxc12de_init_da8c8 cJxc12de_init_da8c8 1 none, .fieldLink RJxc12de 7 "java/util/AbstractList" "modCount" "I", .methodLink RJxc12de 1 yJxa1e45_init_da8c8, .instanceMethod yJxa1e45_init_da8c8, .initialized RJxa1e45, .code yJxa1e45_init_da8c8 cJxa1e45_init_da8c8 1 none, .methodLink RJxa1e45 1 objectInit, .instanceMethod objectInit, .code objectInit ⟨#[0xb1]⟩ 1 none] ++ wsJx4a65c0)
def wsX5_init_r1 : List Cond := [Cond.methodLink RX5 1 objectInit, Cond.instanceMethod objectInit, Cond.code objectInit ⟨#[0xb1]⟩ 1 none, Cond.classLink RX5 7 RJx4a65c, Cond.instantiable RJx4a65c 3, Cond.initialized RJx4a65c, Cond.fieldLink RX5 10 "SeriesMarks" "allSeries" "Ljava/util/ArrayList;", Cond.fieldLink RX5 16 "SeriesMarks" "samples" "Ljava/util/ArrayList;", Cond.fieldLink RX5 19 "SeriesMarks" "askings" "Ljava/util/ArrayList;", Cond.classLink RX5 22 RX4, Cond.instantiable RX4 2, Cond.initialized RX4, Cond.fieldLink RX5 25 "SeriesMarks" "shortening" "LSeriesMarks$Shortening;", Cond.arrayClass .int, Cond.fieldLink RX5 29 "SeriesMarks" "weights" "[I", Cond.classLink RX5 33 RX1, Cond.instantiable RX1 2, Cond.initialized RX1, Cond.fieldLink RX5 36 "SeriesMarks" "seenNames" "LSeriesMarks$NameSet;", Cond.fieldLink RX5 40 "SeriesMarks" "workNames" "LSeriesMarks$NameSet;", Cond.methodLink RX5 9 yJx4a65c_init_da8c8, Cond.instanceMethod yJx4a65c_init_da8c8, Cond.code yJx4a65c_init_da8c8 cJx4a65c_init_da8c8 1 none, Cond.fieldLink RJx4a65c 39 "java/util/ArrayList" "DEFAULTCAPACITY_EMPTY_ELEMENTDATA" "[Ljava/lang/Object;"]
def wsX5_init_r2 : List Cond := [Cond.fieldLink RJx4a65c 9 "java/util/ArrayList" "elementData" "[Ljava/lang/Object;", Cond.methodLink RJx4a65c 1 yJxc12de_init_da8c8, Cond.instanceMethod yJxc12de_init_da8c8, Cond.initialized RJxc12de, Cond.code yJxc12de_init_da8c8 cJxc12de_init_da8c8 1 none, Cond.fieldLink RJxc12de 7 "java/util/AbstractList" "modCount" "I", Cond.methodLink RJxc12de 1 yJxa1e45_init_da8c8, Cond.instanceMethod yJxa1e45_init_da8c8, Cond.initialized RJxa1e45, Cond.code yJxa1e45_init_da8c8 cJxa1e45_init_da8c8 1 none, Cond.methodLink RJxa1e45 1 objectInit, Cond.methodLink RX5 24 yX4_init, Cond.instanceMethod yX4_init, Cond.code yX4_init cX4_init 2 none, Cond.methodLink RX4 3 objectInit, Cond.fieldLink RX4 9 "SeriesMarks$Shortening" "droppedAt" "[I", Cond.fieldLink RX4 15 "SeriesMarks$Shortening" "chiefsAt" "[I", Cond.constant RX4 18 (16434824), Cond.instanceMethod yX1_init, Cond.code yX1_init cX1_init 1 none, Cond.methodLink RX1 3 objectInit, Cond.fieldLink RX1 9 "SeriesMarks$NameSet" "row" "[I"]
def wsX5_init : List Cond := .code yX5_init cX5_init 1 none :: ((wsX5_init_r1 ++ wsX5_init_r2) ++ wsJx4a65c0 ++ wsX50 ++ wsX40 ++ wsX10)
def wsX5_pass : List Cond := .code yX5_pass cX5_pass 2 (some .int) :: ([.fieldLink RX5 43 "SeriesMarks" "tick" "I", .fieldLink RX5 25 "SeriesMarks" "shortening" "LSeriesMarks$Shortening;", .methodLink RX5 47 yX4_carryOn, .instanceMethod yX4_carryOn, .selects RX4 yX4_carryOn yX4_carryOn, .initialized RX4, .code yX4_carryOn cX4_carryOn 4 none, .fieldLink RX4 9 "SeriesMarks$Shortening" "droppedAt" "[I", .fieldLink RX4 15 "SeriesMarks$Shortening" "chiefsAt" "[I", .methodLink RX4 19 arraycopyName, .native arraycopyName, .static arraycopyName, .initialized "java/lang/System"] ++ wsX50 ++ wsX40)
def wsX5_isName : List Cond := .code yX5_isName cX5_isName 1 (some .boolean) :: ([.constant RX5 226 (262143)])
def wsJx4a65c_size_8abf5 : List Cond := .code yJx4a65c_size_8abf5 cJx4a65c_size_8abf5 1 (some .int) :: ([.fieldLink RJx4a65c 48 "java/util/ArrayList" "size" "I"] ++ wsJx4a65c0)
def wsJ3_checkIndex_8e157 : List Cond := .code yJ3_checkIndex_8e157 cJ3_checkIndex_8e157 3 (some .int) :: ([])
def wsJ15_checkIndex_7cf53 : List Cond := .code yJ15_checkIndex_7cf53 cJ15_checkIndex_7cf53 2 (some .int) :: ([.methodLink RJ15 105 yJ3_checkIndex_8e157, .static yJ3_checkIndex_8e157, .initialized RJ3, .code yJ3_checkIndex_8e157 cJ3_checkIndex_8e157 3 (some .int)])
def wsJx4a65c_elementData_915e3 : List Cond := .code yJx4a65c_elementData_915e3 cJx4a65c_elementData_915e3 2 (some (.object "java/lang/Object")) :: ([.fieldLink RJx4a65c 9 "java/util/ArrayList" "elementData" "[Ljava/lang/Object;"] ++ wsJx4a65c0)
def wsJx4a65c_get_915e3 : List Cond := .code yJx4a65c_get_915e3 cJx4a65c_get_915e3 2 (some (.object "java/lang/Object")) :: ([.fieldLink RJx4a65c 48 "java/util/ArrayList" "size" "I", .methodLink RJx4a65c 118 yJ15_checkIndex_7cf53, .static yJ15_checkIndex_7cf53, .initialized RJ15, .code yJ15_checkIndex_7cf53 cJ15_checkIndex_7cf53 2 (some .int), .methodLink RJ15 105 yJ3_checkIndex_8e157, .static yJ3_checkIndex_8e157, .initialized RJ3, .code yJ3_checkIndex_8e157 cJ3_checkIndex_8e157 3 (some .int), .methodLink RJx4a65c 123 yJx4a65c_elementData_915e3, .instanceMethod yJx4a65c_elementData_915e3, .selects RJx4a65c yJx4a65c_elementData_915e3 yJx4a65c_elementData_915e3, .initialized RJx4a65c, .code yJx4a65c_elementData_915e3 cJx4a65c_elementData_915e3 2 (some (.object "java/lang/Object")), .fieldLink RJx4a65c 9 "java/util/ArrayList" "elementData" "[Ljava/lang/Object;"] ++ wsJx4a65c0)
def wsX5_numberOf_r1 : List Cond := [Cond.fieldLink RX5 10 "SeriesMarks" "allSeries" "Ljava/util/ArrayList;", Cond.classLink RX5 64 "SeriesMarks$Series", Cond.methodLink RX5 69 yJx4a65c_size_8abf5, Cond.instanceMethod yJx4a65c_size_8abf5, Cond.selects RJx4a65c yJx4a65c_size_8abf5 yJx4a65c_size_8abf5, Cond.initialized RJx4a65c, Cond.code yJx4a65c_size_8abf5 cJx4a65c_size_8abf5 1 (some .int), Cond.fieldLink RJx4a65c 48 "java/util/ArrayList" "size" "I", Cond.methodLink RX5 60 yJx4a65c_get_915e3, Cond.instanceMethod yJx4a65c_get_915e3, Cond.selects RJx4a65c yJx4a65c_get_915e3 yJx4a65c_get_915e3, Cond.code yJx4a65c_get_915e3 cJx4a65c_get_915e3 2 (some (.object "java/lang/Object")), Cond.methodLink RJx4a65c 118 yJ15_checkIndex_7cf53, Cond.static yJ15_checkIndex_7cf53, Cond.initialized RJ15, Cond.code yJ15_checkIndex_7cf53 cJ15_checkIndex_7cf53 2 (some .int), Cond.methodLink RJ15 105 yJ3_checkIndex_8e157, Cond.static yJ3_checkIndex_8e157, Cond.initialized RJ3, Cond.code yJ3_checkIndex_8e157 cJ3_checkIndex_8e157 3 (some .int), Cond.methodLink RJx4a65c 123 yJx4a65c_elementData_915e3, Cond.instanceMethod yJx4a65c_elementData_915e3, Cond.selects RJx4a65c yJx4a65c_elementData_915e3 yJx4a65c_elementData_915e3, Cond.code yJx4a65c_elementData_915e3 cJx4a65c_elementData_915e3 2 (some (.object "java/lang/Object"))]
def wsX5_numberOf_r2 : List Cond := [Cond.fieldLink RJx4a65c 9 "java/util/ArrayList" "elementData" "[Ljava/lang/Object;"]
def wsX5_numberOf : List Cond := .code yX5_numberOf cX5_numberOf 3 (some .int) :: ((wsX5_numberOf_r1 ++ wsX5_numberOf_r2) ++ wsX50 ++ wsX30 ++ wsJx4a65c0)
def wsJ8_hugeLength_7cf53 : List Cond := .code yJ8_hugeLength_7cf53 cJ8_hugeLength_7cf53 3 (some .int) :: ([.constant RJ8 200 (2147483639)])
def wsJ8_newLength_cabcc : List Cond := .code yJ8_newLength_cabcc cJ8_newLength_cabcc 4 (some .int) :: ([.methodLink RJ8 194 Lib.Math.max.name, .static Lib.Math.max.name, .initialized "java/lang/Math", .code Lib.Math.max.name Lib.Math.max.code 2 (some .int), .constant RJ8 200 (2147483639), .methodLink RJ8 201 yJ8_hugeLength_7cf53, .static yJ8_hugeLength_7cf53, .initialized RJ8, .code yJ8_hugeLength_7cf53 cJ8_hugeLength_7cf53 3 (some .int)])
def wsJ7_copyOf_6403c : List Cond := .code yJ7_copyOf_6403c cJ7_copyOf_6403c 4 (some (.array (.object "java/lang/Object"))) :: ([.classLink RJ7 110 "[Ljava/lang/Object;", .classLink RJ7 2 "java/lang/Object", .methodLink RJ7 304 Lib.Math.min.name, .static Lib.Math.min.name, .initialized "java/lang/Math", .code Lib.Math.min.name Lib.Math.min.code 2 (some .int), .methodLink RJ7 150 arraycopyName, .native arraycopyName, .static arraycopyName, .initialized "java/lang/System"])
def wsJ7_copyOf_1904c : List Cond := .code yJ7_copyOf_1904c cJ7_copyOf_1904c 2 (some (.array (.object "java/lang/Object"))) :: ([.methodLink RJ7 86 ⟨"java/lang/Object", "getClass", "()Ljava/lang/Class;"⟩, .selects "[Ljava/lang/Object;" ⟨"java/lang/Object", "getClass", "()Ljava/lang/Class;"⟩ ⟨"java/lang/Object", "getClass", "()Ljava/lang/Class;"⟩, .instanceMethod ⟨"java/lang/Object", "getClass", "()Ljava/lang/Class;"⟩, .native ⟨"java/lang/Object", "getClass", "()Ljava/lang/Class;"⟩, .methodLink RJ7 300 yJ7_copyOf_6403c, .static yJ7_copyOf_6403c, .initialized RJ7, .code yJ7_copyOf_6403c cJ7_copyOf_6403c 4 (some (.array (.object "java/lang/Object"))), .classLink RJ7 110 "[Ljava/lang/Object;", .classLink RJ7 2 "java/lang/Object", .methodLink RJ7 304 Lib.Math.min.name, .static Lib.Math.min.name, .initialized "java/lang/Math", .code Lib.Math.min.name Lib.Math.min.code 2 (some .int), .methodLink RJ7 150 arraycopyName, .native arraycopyName, .static arraycopyName, .initialized "java/lang/System"])
def wsJx4a65c_grow_92f84_r1 : List Cond := [Cond.fieldLink RJx4a65c 9 "java/util/ArrayList" "elementData" "[Ljava/lang/Object;", Cond.fieldLink RJx4a65c 39 "java/util/ArrayList" "DEFAULTCAPACITY_EMPTY_ELEMENTDATA" "[Ljava/lang/Object;", Cond.methodLink RJx4a65c 79 Lib.Math.max.name, Cond.static Lib.Math.max.name, Cond.initialized "java/lang/Math", Cond.code Lib.Math.max.name Lib.Math.max.code 2 (some .int), Cond.classLink RJx4a65c 7 "java/lang/Object", Cond.methodLink RJx4a65c 73 yJ8_newLength_cabcc, Cond.static yJ8_newLength_cabcc, Cond.initialized RJ8, Cond.code yJ8_newLength_cabcc cJ8_newLength_cabcc 4 (some .int), Cond.methodLink RJ8 194 Lib.Math.max.name, Cond.constant RJ8 200 (2147483639), Cond.methodLink RJ8 201 yJ8_hugeLength_7cf53, Cond.static yJ8_hugeLength_7cf53, Cond.code yJ8_hugeLength_7cf53 cJ8_hugeLength_7cf53 3 (some .int), Cond.methodLink RJx4a65c 66 yJ7_copyOf_1904c, Cond.static yJ7_copyOf_1904c, Cond.initialized RJ7, Cond.code yJ7_copyOf_1904c cJ7_copyOf_1904c 2 (some (.array (.object "java/lang/Object"))), Cond.methodLink RJ7 86 ⟨"java/lang/Object", "getClass", "()Ljava/lang/Class;"⟩, Cond.selects "[Ljava/lang/Object;" ⟨"java/lang/Object", "getClass", "()Ljava/lang/Class;"⟩ ⟨"java/lang/Object", "getClass", "()Ljava/lang/Class;"⟩, Cond.instanceMethod ⟨"java/lang/Object", "getClass", "()Ljava/lang/Class;"⟩, Cond.native ⟨"java/lang/Object", "getClass", "()Ljava/lang/Class;"⟩]
def wsJx4a65c_grow_92f84_r2 : List Cond := [Cond.methodLink RJ7 300 yJ7_copyOf_6403c, Cond.static yJ7_copyOf_6403c, Cond.code yJ7_copyOf_6403c cJ7_copyOf_6403c 4 (some (.array (.object "java/lang/Object"))), Cond.classLink RJ7 110 "[Ljava/lang/Object;", Cond.classLink RJ7 2 "java/lang/Object", Cond.methodLink RJ7 304 Lib.Math.min.name, Cond.static Lib.Math.min.name, Cond.code Lib.Math.min.name Lib.Math.min.code 2 (some .int), Cond.methodLink RJ7 150 arraycopyName, Cond.native arraycopyName, Cond.static arraycopyName, Cond.initialized "java/lang/System"]
def wsJx4a65c_grow_92f84 : List Cond := .code yJx4a65c_grow_92f84 cJx4a65c_grow_92f84 4 (some (.array (.object "java/lang/Object"))) :: ((wsJx4a65c_grow_92f84_r1 ++ wsJx4a65c_grow_92f84_r2) ++ wsJx4a65c0)
def wsJx4a65c_grow_d5877_r1 : List Cond := [Cond.fieldLink RJx4a65c 48 "java/util/ArrayList" "size" "I", Cond.methodLink RJx4a65c 69 yJx4a65c_grow_92f84, Cond.instanceMethod yJx4a65c_grow_92f84, Cond.selects RJx4a65c yJx4a65c_grow_92f84 yJx4a65c_grow_92f84, Cond.initialized RJx4a65c, Cond.code yJx4a65c_grow_92f84 cJx4a65c_grow_92f84 4 (some (.array (.object "java/lang/Object"))), Cond.fieldLink RJx4a65c 9 "java/util/ArrayList" "elementData" "[Ljava/lang/Object;", Cond.fieldLink RJx4a65c 39 "java/util/ArrayList" "DEFAULTCAPACITY_EMPTY_ELEMENTDATA" "[Ljava/lang/Object;", Cond.methodLink RJx4a65c 79 Lib.Math.max.name, Cond.static Lib.Math.max.name, Cond.initialized "java/lang/Math", Cond.code Lib.Math.max.name Lib.Math.max.code 2 (some .int), Cond.classLink RJx4a65c 7 "java/lang/Object", Cond.methodLink RJx4a65c 73 yJ8_newLength_cabcc, Cond.static yJ8_newLength_cabcc, Cond.initialized RJ8, Cond.code yJ8_newLength_cabcc cJ8_newLength_cabcc 4 (some .int), Cond.methodLink RJ8 194 Lib.Math.max.name, Cond.constant RJ8 200 (2147483639), Cond.methodLink RJ8 201 yJ8_hugeLength_7cf53, Cond.static yJ8_hugeLength_7cf53, Cond.code yJ8_hugeLength_7cf53 cJ8_hugeLength_7cf53 3 (some .int), Cond.methodLink RJx4a65c 66 yJ7_copyOf_1904c, Cond.static yJ7_copyOf_1904c]
def wsJx4a65c_grow_d5877_r2 : List Cond := [Cond.initialized RJ7, Cond.code yJ7_copyOf_1904c cJ7_copyOf_1904c 2 (some (.array (.object "java/lang/Object"))), Cond.methodLink RJ7 86 ⟨"java/lang/Object", "getClass", "()Ljava/lang/Class;"⟩, Cond.selects "[Ljava/lang/Object;" ⟨"java/lang/Object", "getClass", "()Ljava/lang/Class;"⟩ ⟨"java/lang/Object", "getClass", "()Ljava/lang/Class;"⟩, Cond.instanceMethod ⟨"java/lang/Object", "getClass", "()Ljava/lang/Class;"⟩, Cond.native ⟨"java/lang/Object", "getClass", "()Ljava/lang/Class;"⟩, Cond.methodLink RJ7 300 yJ7_copyOf_6403c, Cond.static yJ7_copyOf_6403c, Cond.code yJ7_copyOf_6403c cJ7_copyOf_6403c 4 (some (.array (.object "java/lang/Object"))), Cond.classLink RJ7 110 "[Ljava/lang/Object;", Cond.classLink RJ7 2 "java/lang/Object", Cond.methodLink RJ7 304 Lib.Math.min.name, Cond.static Lib.Math.min.name, Cond.code Lib.Math.min.name Lib.Math.min.code 2 (some .int), Cond.methodLink RJ7 150 arraycopyName, Cond.native arraycopyName, Cond.static arraycopyName, Cond.initialized "java/lang/System"]
def wsJx4a65c_grow_d5877 : List Cond := .code yJx4a65c_grow_d5877 cJx4a65c_grow_d5877 1 (some (.array (.object "java/lang/Object"))) :: ((wsJx4a65c_grow_d5877_r1 ++ wsJx4a65c_grow_d5877_r2) ++ wsJx4a65c0)
def wsJx4a65c_add_72be8_r1 : List Cond := [Cond.fieldLink RJx4a65c 48 "java/util/ArrayList" "size" "I", Cond.methodLink RJx4a65c 129 yJx4a65c_grow_d5877, Cond.instanceMethod yJx4a65c_grow_d5877, Cond.selects RJx4a65c yJx4a65c_grow_d5877 yJx4a65c_grow_d5877, Cond.initialized RJx4a65c, Cond.code yJx4a65c_grow_d5877 cJx4a65c_grow_d5877 1 (some (.array (.object "java/lang/Object"))), Cond.methodLink RJx4a65c 69 yJx4a65c_grow_92f84, Cond.instanceMethod yJx4a65c_grow_92f84, Cond.selects RJx4a65c yJx4a65c_grow_92f84 yJx4a65c_grow_92f84, Cond.code yJx4a65c_grow_92f84 cJx4a65c_grow_92f84 4 (some (.array (.object "java/lang/Object"))), Cond.fieldLink RJx4a65c 9 "java/util/ArrayList" "elementData" "[Ljava/lang/Object;", Cond.fieldLink RJx4a65c 39 "java/util/ArrayList" "DEFAULTCAPACITY_EMPTY_ELEMENTDATA" "[Ljava/lang/Object;", Cond.methodLink RJx4a65c 79 Lib.Math.max.name, Cond.static Lib.Math.max.name, Cond.initialized "java/lang/Math", Cond.code Lib.Math.max.name Lib.Math.max.code 2 (some .int), Cond.classLink RJx4a65c 7 "java/lang/Object", Cond.methodLink RJx4a65c 73 yJ8_newLength_cabcc, Cond.static yJ8_newLength_cabcc, Cond.initialized RJ8, Cond.code yJ8_newLength_cabcc cJ8_newLength_cabcc 4 (some .int), Cond.methodLink RJ8 194 Lib.Math.max.name, Cond.constant RJ8 200 (2147483639), Cond.methodLink RJ8 201 yJ8_hugeLength_7cf53]
def wsJx4a65c_add_72be8_r2 : List Cond := [Cond.static yJ8_hugeLength_7cf53, Cond.code yJ8_hugeLength_7cf53 cJ8_hugeLength_7cf53 3 (some .int), Cond.methodLink RJx4a65c 66 yJ7_copyOf_1904c, Cond.static yJ7_copyOf_1904c, Cond.initialized RJ7, Cond.code yJ7_copyOf_1904c cJ7_copyOf_1904c 2 (some (.array (.object "java/lang/Object"))), Cond.methodLink RJ7 86 ⟨"java/lang/Object", "getClass", "()Ljava/lang/Class;"⟩, Cond.selects "[Ljava/lang/Object;" ⟨"java/lang/Object", "getClass", "()Ljava/lang/Class;"⟩ ⟨"java/lang/Object", "getClass", "()Ljava/lang/Class;"⟩, Cond.instanceMethod ⟨"java/lang/Object", "getClass", "()Ljava/lang/Class;"⟩, Cond.native ⟨"java/lang/Object", "getClass", "()Ljava/lang/Class;"⟩, Cond.methodLink RJ7 300 yJ7_copyOf_6403c, Cond.static yJ7_copyOf_6403c, Cond.code yJ7_copyOf_6403c cJ7_copyOf_6403c 4 (some (.array (.object "java/lang/Object"))), Cond.classLink RJ7 110 "[Ljava/lang/Object;", Cond.classLink RJ7 2 "java/lang/Object", Cond.methodLink RJ7 304 Lib.Math.min.name, Cond.static Lib.Math.min.name, Cond.code Lib.Math.min.name Lib.Math.min.code 2 (some .int), Cond.methodLink RJ7 150 arraycopyName, Cond.native arraycopyName, Cond.static arraycopyName, Cond.initialized "java/lang/System"]
def wsJx4a65c_add_72be8 : List Cond := .code yJx4a65c_add_72be8 cJx4a65c_add_72be8 4 none :: ((wsJx4a65c_add_72be8_r1 ++ wsJx4a65c_add_72be8_r2) ++ wsJx4a65c0)
def wsJx4a65c_add_9ea2d_r1 : List Cond := [Cond.fieldLink RJx4a65c 63 "java/util/ArrayList" "modCount" "I", Cond.sameField "java/util/ArrayList" "java/util/AbstractList" "modCount" "I", Cond.fieldLink RJx4a65c 9 "java/util/ArrayList" "elementData" "[Ljava/lang/Object;", Cond.fieldLink RJx4a65c 48 "java/util/ArrayList" "size" "I", Cond.methodLink RJx4a65c 131 yJx4a65c_add_72be8, Cond.instanceMethod yJx4a65c_add_72be8, Cond.selects RJx4a65c yJx4a65c_add_72be8 yJx4a65c_add_72be8, Cond.initialized RJx4a65c, Cond.code yJx4a65c_add_72be8 cJx4a65c_add_72be8 4 none, Cond.methodLink RJx4a65c 129 yJx4a65c_grow_d5877, Cond.instanceMethod yJx4a65c_grow_d5877, Cond.selects RJx4a65c yJx4a65c_grow_d5877 yJx4a65c_grow_d5877, Cond.code yJx4a65c_grow_d5877 cJx4a65c_grow_d5877 1 (some (.array (.object "java/lang/Object"))), Cond.methodLink RJx4a65c 69 yJx4a65c_grow_92f84, Cond.instanceMethod yJx4a65c_grow_92f84, Cond.selects RJx4a65c yJx4a65c_grow_92f84 yJx4a65c_grow_92f84, Cond.code yJx4a65c_grow_92f84 cJx4a65c_grow_92f84 4 (some (.array (.object "java/lang/Object"))), Cond.fieldLink RJx4a65c 39 "java/util/ArrayList" "DEFAULTCAPACITY_EMPTY_ELEMENTDATA" "[Ljava/lang/Object;", Cond.methodLink RJx4a65c 79 Lib.Math.max.name, Cond.static Lib.Math.max.name, Cond.initialized "java/lang/Math", Cond.code Lib.Math.max.name Lib.Math.max.code 2 (some .int), Cond.classLink RJx4a65c 7 "java/lang/Object", Cond.methodLink RJx4a65c 73 yJ8_newLength_cabcc]
def wsJx4a65c_add_9ea2d_r2 : List Cond := [Cond.static yJ8_newLength_cabcc, Cond.initialized RJ8, Cond.code yJ8_newLength_cabcc cJ8_newLength_cabcc 4 (some .int), Cond.methodLink RJ8 194 Lib.Math.max.name, Cond.constant RJ8 200 (2147483639), Cond.methodLink RJ8 201 yJ8_hugeLength_7cf53, Cond.static yJ8_hugeLength_7cf53, Cond.code yJ8_hugeLength_7cf53 cJ8_hugeLength_7cf53 3 (some .int), Cond.methodLink RJx4a65c 66 yJ7_copyOf_1904c, Cond.static yJ7_copyOf_1904c, Cond.initialized RJ7, Cond.code yJ7_copyOf_1904c cJ7_copyOf_1904c 2 (some (.array (.object "java/lang/Object"))), Cond.methodLink RJ7 86 ⟨"java/lang/Object", "getClass", "()Ljava/lang/Class;"⟩, Cond.selects "[Ljava/lang/Object;" ⟨"java/lang/Object", "getClass", "()Ljava/lang/Class;"⟩ ⟨"java/lang/Object", "getClass", "()Ljava/lang/Class;"⟩, Cond.instanceMethod ⟨"java/lang/Object", "getClass", "()Ljava/lang/Class;"⟩, Cond.native ⟨"java/lang/Object", "getClass", "()Ljava/lang/Class;"⟩, Cond.methodLink RJ7 300 yJ7_copyOf_6403c, Cond.static yJ7_copyOf_6403c, Cond.code yJ7_copyOf_6403c cJ7_copyOf_6403c 4 (some (.array (.object "java/lang/Object"))), Cond.classLink RJ7 110 "[Ljava/lang/Object;", Cond.classLink RJ7 2 "java/lang/Object", Cond.methodLink RJ7 304 Lib.Math.min.name, Cond.static Lib.Math.min.name, Cond.code Lib.Math.min.name Lib.Math.min.code 2 (some .int)]
def wsJx4a65c_add_9ea2d_r3 : List Cond := [Cond.methodLink RJ7 150 arraycopyName, Cond.native arraycopyName, Cond.static arraycopyName, Cond.initialized "java/lang/System"]
def wsJx4a65c_add_9ea2d : List Cond := .code yJx4a65c_add_9ea2d cJx4a65c_add_9ea2d 2 (some .boolean) :: ((wsJx4a65c_add_9ea2d_r1 ++ (wsJx4a65c_add_9ea2d_r2 ++ wsJx4a65c_add_9ea2d_r3)) ++ wsJx4a65c0)
def wsX5_tell_r1 : List Cond := [Cond.constant RX5 55 (1000000000), Cond.fieldLink RX5 10 "SeriesMarks" "allSeries" "Ljava/util/ArrayList;", Cond.classLink RX5 64 "SeriesMarks$Series", Cond.fieldLink RX5 43 "SeriesMarks" "tick" "I", Cond.fieldLink RX5 16 "SeriesMarks" "samples" "Ljava/util/ArrayList;", Cond.classLink RX5 64 RX3, Cond.instantiable RX3 6, Cond.initialized RX3, Cond.classLink RX5 83 RX2, Cond.instantiable RX2 3, Cond.initialized RX2, Cond.methodLink RX5 51 yX5_isName, Cond.static yX5_isName, Cond.initialized RX5, Cond.code yX5_isName cX5_isName 1 (some .boolean), Cond.constant RX5 226 (262143), Cond.methodLink RX5 56 yX5_numberOf, Cond.instanceMethod yX5_numberOf, Cond.selects RX5 yX5_numberOf yX5_numberOf, Cond.code yX5_numberOf cX5_numberOf 3 (some .int), Cond.methodLink RX5 69 yJx4a65c_size_8abf5, Cond.instanceMethod yJx4a65c_size_8abf5, Cond.selects RJx4a65c yJx4a65c_size_8abf5 yJx4a65c_size_8abf5, Cond.initialized RJx4a65c]
def wsX5_tell_r2 : List Cond := [Cond.code yJx4a65c_size_8abf5 cJx4a65c_size_8abf5 1 (some .int), Cond.fieldLink RJx4a65c 48 "java/util/ArrayList" "size" "I", Cond.methodLink RX5 60 yJx4a65c_get_915e3, Cond.instanceMethod yJx4a65c_get_915e3, Cond.selects RJx4a65c yJx4a65c_get_915e3 yJx4a65c_get_915e3, Cond.code yJx4a65c_get_915e3 cJx4a65c_get_915e3 2 (some (.object "java/lang/Object")), Cond.methodLink RJx4a65c 118 yJ15_checkIndex_7cf53, Cond.static yJ15_checkIndex_7cf53, Cond.initialized RJ15, Cond.code yJ15_checkIndex_7cf53 cJ15_checkIndex_7cf53 2 (some .int), Cond.methodLink RJ15 105 yJ3_checkIndex_8e157, Cond.static yJ3_checkIndex_8e157, Cond.initialized RJ3, Cond.code yJ3_checkIndex_8e157 cJ3_checkIndex_8e157 3 (some .int), Cond.methodLink RJx4a65c 123 yJx4a65c_elementData_915e3, Cond.instanceMethod yJx4a65c_elementData_915e3, Cond.selects RJx4a65c yJx4a65c_elementData_915e3 yJx4a65c_elementData_915e3, Cond.code yJx4a65c_elementData_915e3 cJx4a65c_elementData_915e3 2 (some (.object "java/lang/Object")), Cond.fieldLink RJx4a65c 9 "java/util/ArrayList" "elementData" "[Ljava/lang/Object;", Cond.methodLink RX5 73 yX3_init, Cond.instanceMethod yX3_init, Cond.code yX3_init cX3_init 3 none, Cond.methodLink RX3 1 objectInit, Cond.instanceMethod objectInit]
def wsX5_tell_r3 : List Cond := [Cond.code objectInit ⟨#[0xb1]⟩ 1 none, Cond.fieldLink RX3 7 "SeriesMarks$Series" "name" "I", Cond.fieldLink RX3 13 "SeriesMarks$Series" "firstTick" "I", Cond.fieldLink RX3 16 "SeriesMarks$Series" "latestTick" "I", Cond.methodLink RX5 75 yJx4a65c_add_9ea2d, Cond.instanceMethod yJx4a65c_add_9ea2d, Cond.selects RJx4a65c yJx4a65c_add_9ea2d yJx4a65c_add_9ea2d, Cond.code yJx4a65c_add_9ea2d cJx4a65c_add_9ea2d 2 (some .boolean), Cond.fieldLink RJx4a65c 63 "java/util/ArrayList" "modCount" "I", Cond.sameField "java/util/ArrayList" "java/util/AbstractList" "modCount" "I", Cond.methodLink RJx4a65c 131 yJx4a65c_add_72be8, Cond.instanceMethod yJx4a65c_add_72be8, Cond.selects RJx4a65c yJx4a65c_add_72be8 yJx4a65c_add_72be8, Cond.code yJx4a65c_add_72be8 cJx4a65c_add_72be8 4 none, Cond.methodLink RJx4a65c 129 yJx4a65c_grow_d5877, Cond.instanceMethod yJx4a65c_grow_d5877, Cond.selects RJx4a65c yJx4a65c_grow_d5877 yJx4a65c_grow_d5877, Cond.code yJx4a65c_grow_d5877 cJx4a65c_grow_d5877 1 (some (.array (.object "java/lang/Object"))), Cond.methodLink RJx4a65c 69 yJx4a65c_grow_92f84, Cond.instanceMethod yJx4a65c_grow_92f84, Cond.selects RJx4a65c yJx4a65c_grow_92f84 yJx4a65c_grow_92f84, Cond.code yJx4a65c_grow_92f84 cJx4a65c_grow_92f84 4 (some (.array (.object "java/lang/Object"))), Cond.fieldLink RJx4a65c 39 "java/util/ArrayList" "DEFAULTCAPACITY_EMPTY_ELEMENTDATA" "[Ljava/lang/Object;", Cond.methodLink RJx4a65c 79 Lib.Math.max.name]
def wsX5_tell_r4 : List Cond := [Cond.static Lib.Math.max.name, Cond.initialized "java/lang/Math", Cond.code Lib.Math.max.name Lib.Math.max.code 2 (some .int), Cond.classLink RJx4a65c 7 "java/lang/Object", Cond.methodLink RJx4a65c 73 yJ8_newLength_cabcc, Cond.static yJ8_newLength_cabcc, Cond.initialized RJ8, Cond.code yJ8_newLength_cabcc cJ8_newLength_cabcc 4 (some .int), Cond.methodLink RJ8 194 Lib.Math.max.name, Cond.constant RJ8 200 (2147483639), Cond.methodLink RJ8 201 yJ8_hugeLength_7cf53, Cond.static yJ8_hugeLength_7cf53, Cond.code yJ8_hugeLength_7cf53 cJ8_hugeLength_7cf53 3 (some .int), Cond.methodLink RJx4a65c 66 yJ7_copyOf_1904c, Cond.static yJ7_copyOf_1904c, Cond.initialized RJ7, Cond.code yJ7_copyOf_1904c cJ7_copyOf_1904c 2 (some (.array (.object "java/lang/Object"))), Cond.methodLink RJ7 86 ⟨"java/lang/Object", "getClass", "()Ljava/lang/Class;"⟩, Cond.selects "[Ljava/lang/Object;" ⟨"java/lang/Object", "getClass", "()Ljava/lang/Class;"⟩ ⟨"java/lang/Object", "getClass", "()Ljava/lang/Class;"⟩, Cond.instanceMethod ⟨"java/lang/Object", "getClass", "()Ljava/lang/Class;"⟩, Cond.native ⟨"java/lang/Object", "getClass", "()Ljava/lang/Class;"⟩, Cond.methodLink RJ7 300 yJ7_copyOf_6403c, Cond.static yJ7_copyOf_6403c, Cond.code yJ7_copyOf_6403c cJ7_copyOf_6403c 4 (some (.array (.object "java/lang/Object")))]
def wsX5_tell_r5 : List Cond := [Cond.classLink RJ7 110 "[Ljava/lang/Object;", Cond.classLink RJ7 2 "java/lang/Object", Cond.methodLink RJ7 304 Lib.Math.min.name, Cond.static Lib.Math.min.name, Cond.code Lib.Math.min.name Lib.Math.min.code 2 (some .int), Cond.methodLink RJ7 150 arraycopyName, Cond.native arraycopyName, Cond.static arraycopyName, Cond.initialized "java/lang/System", Cond.methodLink RX5 79 yX3_takeSample, Cond.instanceMethod yX3_takeSample, Cond.selects RX3 yX3_takeSample yX3_takeSample, Cond.code yX3_takeSample cX3_takeSample 5 (some .int), Cond.fieldLink RX3 19 "SeriesMarks$Series" "latestCount" "I", Cond.fieldLink RX3 22 "SeriesMarks$Series" "restarts" "I", Cond.fieldLink RX3 25 "SeriesMarks$Series" "sampleCount" "I", Cond.methodLink RX5 85 yX2_init, Cond.instanceMethod yX2_init, Cond.code yX2_init cX2_init 4 none, Cond.methodLink RX2 1 objectInit, Cond.fieldLink RX2 7 "SeriesMarks$Sample" "name" "I", Cond.fieldLink RX2 13 "SeriesMarks$Sample" "tick" "I", Cond.fieldLink RX2 16 "SeriesMarks$Sample" "rise" "I"]
def wsX5_tell : List Cond := .code yX5_tell cX5_tell 6 (some .int) :: ((wsX5_tell_r1 ++ (wsX5_tell_r2 ++ (wsX5_tell_r3 ++ (wsX5_tell_r4 ++ wsX5_tell_r5)))) ++ wsX50 ++ wsX30 ++ wsX20 ++ wsJx4a65c0)
def wsX5_isSeries : List Cond := .code yX5_isSeries cX5_isSeries 2 (some .boolean) :: ([.fieldLink RX5 10 "SeriesMarks" "allSeries" "Ljava/util/ArrayList;", .methodLink RX5 69 yJx4a65c_size_8abf5, .instanceMethod yJx4a65c_size_8abf5, .selects RJx4a65c yJx4a65c_size_8abf5 yJx4a65c_size_8abf5, .initialized RJx4a65c, .code yJx4a65c_size_8abf5 cJx4a65c_size_8abf5 1 (some .int), .fieldLink RJx4a65c 48 "java/util/ArrayList" "size" "I"] ++ wsX50 ++ wsJx4a65c0)
def wsX5_series_r1 : List Cond := [Cond.fieldLink RX5 10 "SeriesMarks" "allSeries" "Ljava/util/ArrayList;", Cond.classLink RX5 64 "SeriesMarks$Series", Cond.methodLink RX5 88 yX5_isSeries, Cond.instanceMethod yX5_isSeries, Cond.selects RX5 yX5_isSeries yX5_isSeries, Cond.initialized RX5, Cond.code yX5_isSeries cX5_isSeries 2 (some .boolean), Cond.methodLink RX5 69 yJx4a65c_size_8abf5, Cond.instanceMethod yJx4a65c_size_8abf5, Cond.selects RJx4a65c yJx4a65c_size_8abf5 yJx4a65c_size_8abf5, Cond.initialized RJx4a65c, Cond.code yJx4a65c_size_8abf5 cJx4a65c_size_8abf5 1 (some .int), Cond.fieldLink RJx4a65c 48 "java/util/ArrayList" "size" "I", Cond.methodLink RX5 60 yJx4a65c_get_915e3, Cond.instanceMethod yJx4a65c_get_915e3, Cond.selects RJx4a65c yJx4a65c_get_915e3 yJx4a65c_get_915e3, Cond.code yJx4a65c_get_915e3 cJx4a65c_get_915e3 2 (some (.object "java/lang/Object")), Cond.methodLink RJx4a65c 118 yJ15_checkIndex_7cf53, Cond.static yJ15_checkIndex_7cf53, Cond.initialized RJ15, Cond.code yJ15_checkIndex_7cf53 cJ15_checkIndex_7cf53 2 (some .int), Cond.methodLink RJ15 105 yJ3_checkIndex_8e157, Cond.static yJ3_checkIndex_8e157, Cond.initialized RJ3]
def wsX5_series_r2 : List Cond := [Cond.code yJ3_checkIndex_8e157 cJ3_checkIndex_8e157 3 (some .int), Cond.methodLink RJx4a65c 123 yJx4a65c_elementData_915e3, Cond.instanceMethod yJx4a65c_elementData_915e3, Cond.selects RJx4a65c yJx4a65c_elementData_915e3 yJx4a65c_elementData_915e3, Cond.code yJx4a65c_elementData_915e3 cJx4a65c_elementData_915e3 2 (some (.object "java/lang/Object")), Cond.fieldLink RJx4a65c 9 "java/util/ArrayList" "elementData" "[Ljava/lang/Object;"]
def wsX5_series : List Cond := .code yX5_series cX5_series 4 (some .int) :: ((wsX5_series_r1 ++ wsX5_series_r2) ++ wsX50 ++ wsX30 ++ wsJx4a65c0)
def wsX5_find_r1 : List Cond := [Cond.methodLink RX5 51 yX5_isName, Cond.static yX5_isName, Cond.initialized RX5, Cond.code yX5_isName cX5_isName 1 (some .boolean), Cond.constant RX5 226 (262143), Cond.methodLink RX5 56 yX5_numberOf, Cond.instanceMethod yX5_numberOf, Cond.selects RX5 yX5_numberOf yX5_numberOf, Cond.code yX5_numberOf cX5_numberOf 3 (some .int), Cond.fieldLink RX5 10 "SeriesMarks" "allSeries" "Ljava/util/ArrayList;", Cond.classLink RX5 64 "SeriesMarks$Series", Cond.methodLink RX5 69 yJx4a65c_size_8abf5, Cond.instanceMethod yJx4a65c_size_8abf5, Cond.selects RJx4a65c yJx4a65c_size_8abf5 yJx4a65c_size_8abf5, Cond.initialized RJx4a65c, Cond.code yJx4a65c_size_8abf5 cJx4a65c_size_8abf5 1 (some .int), Cond.fieldLink RJx4a65c 48 "java/util/ArrayList" "size" "I", Cond.methodLink RX5 60 yJx4a65c_get_915e3, Cond.instanceMethod yJx4a65c_get_915e3, Cond.selects RJx4a65c yJx4a65c_get_915e3 yJx4a65c_get_915e3, Cond.code yJx4a65c_get_915e3 cJx4a65c_get_915e3 2 (some (.object "java/lang/Object")), Cond.methodLink RJx4a65c 118 yJ15_checkIndex_7cf53, Cond.static yJ15_checkIndex_7cf53, Cond.initialized RJ15]
def wsX5_find_r2 : List Cond := [Cond.code yJ15_checkIndex_7cf53 cJ15_checkIndex_7cf53 2 (some .int), Cond.methodLink RJ15 105 yJ3_checkIndex_8e157, Cond.static yJ3_checkIndex_8e157, Cond.initialized RJ3, Cond.code yJ3_checkIndex_8e157 cJ3_checkIndex_8e157 3 (some .int), Cond.methodLink RJx4a65c 123 yJx4a65c_elementData_915e3, Cond.instanceMethod yJx4a65c_elementData_915e3, Cond.selects RJx4a65c yJx4a65c_elementData_915e3 yJx4a65c_elementData_915e3, Cond.code yJx4a65c_elementData_915e3 cJx4a65c_elementData_915e3 2 (some (.object "java/lang/Object")), Cond.fieldLink RJx4a65c 9 "java/util/ArrayList" "elementData" "[Ljava/lang/Object;"]
def wsX5_find : List Cond := .code yX5_find cX5_find 2 (some .int) :: ((wsX5_find_r1 ++ wsX5_find_r2) ++ wsX50 ++ wsX30 ++ wsJx4a65c0)
def wsX5_isSpan : List Cond := .code yX5_isSpan cX5_isSpan 3 (some .boolean) :: ([.fieldLink RX5 43 "SeriesMarks" "tick" "I"] ++ wsX50)
def wsX5_growthOfAlike_r1 : List Cond := [Cond.fieldLink RX5 16 "SeriesMarks" "samples" "Ljava/util/ArrayList;", Cond.classLink RX5 83 "SeriesMarks$Sample", Cond.methodLink RX5 69 yJx4a65c_size_8abf5, Cond.instanceMethod yJx4a65c_size_8abf5, Cond.selects RJx4a65c yJx4a65c_size_8abf5 yJx4a65c_size_8abf5, Cond.initialized RJx4a65c, Cond.code yJx4a65c_size_8abf5 cJx4a65c_size_8abf5 1 (some .int), Cond.fieldLink RJx4a65c 48 "java/util/ArrayList" "size" "I", Cond.methodLink RX5 60 yJx4a65c_get_915e3, Cond.instanceMethod yJx4a65c_get_915e3, Cond.selects RJx4a65c yJx4a65c_get_915e3 yJx4a65c_get_915e3, Cond.code yJx4a65c_get_915e3 cJx4a65c_get_915e3 2 (some (.object "java/lang/Object")), Cond.methodLink RJx4a65c 118 yJ15_checkIndex_7cf53, Cond.static yJ15_checkIndex_7cf53, Cond.initialized RJ15, Cond.code yJ15_checkIndex_7cf53 cJ15_checkIndex_7cf53 2 (some .int), Cond.methodLink RJ15 105 yJ3_checkIndex_8e157, Cond.static yJ3_checkIndex_8e157, Cond.initialized RJ3, Cond.code yJ3_checkIndex_8e157 cJ3_checkIndex_8e157 3 (some .int), Cond.methodLink RJx4a65c 123 yJx4a65c_elementData_915e3, Cond.instanceMethod yJx4a65c_elementData_915e3, Cond.selects RJx4a65c yJx4a65c_elementData_915e3 yJx4a65c_elementData_915e3, Cond.code yJx4a65c_elementData_915e3 cJx4a65c_elementData_915e3 2 (some (.object "java/lang/Object"))]
def wsX5_growthOfAlike_r2 : List Cond := [Cond.fieldLink RJx4a65c 9 "java/util/ArrayList" "elementData" "[Ljava/lang/Object;", Cond.methodLink RX5 138 yX2_isWithin, Cond.instanceMethod yX2_isWithin, Cond.selects RX2 yX2_isWithin yX2_isWithin, Cond.initialized RX2, Cond.code yX2_isWithin cX2_isWithin 3 (some .boolean), Cond.fieldLink RX2 13 "SeriesMarks$Sample" "tick" "I"]
def wsX5_growthOfAlike : List Cond := .code yX5_growthOfAlike cX5_growthOfAlike 9 (some .long) :: ((wsX5_growthOfAlike_r1 ++ wsX5_growthOfAlike_r2) ++ wsX50 ++ wsX20 ++ wsJx4a65c0)
def wsX5_growth_r1 : List Cond := [Cond.constantLong RX5 106 (-1), Cond.constantLong RX5 112 (-2), Cond.fieldLink RX5 10 "SeriesMarks" "allSeries" "Ljava/util/ArrayList;", Cond.classLink RX5 64 "SeriesMarks$Series", Cond.methodLink RX5 88 yX5_isSeries, Cond.instanceMethod yX5_isSeries, Cond.selects RX5 yX5_isSeries yX5_isSeries, Cond.initialized RX5, Cond.code yX5_isSeries cX5_isSeries 2 (some .boolean), Cond.methodLink RX5 69 yJx4a65c_size_8abf5, Cond.instanceMethod yJx4a65c_size_8abf5, Cond.selects RJx4a65c yJx4a65c_size_8abf5 yJx4a65c_size_8abf5, Cond.initialized RJx4a65c, Cond.code yJx4a65c_size_8abf5 cJx4a65c_size_8abf5 1 (some .int), Cond.fieldLink RJx4a65c 48 "java/util/ArrayList" "size" "I", Cond.methodLink RX5 108 yX5_isSpan, Cond.instanceMethod yX5_isSpan, Cond.selects RX5 yX5_isSpan yX5_isSpan, Cond.code yX5_isSpan cX5_isSpan 3 (some .boolean), Cond.fieldLink RX5 43 "SeriesMarks" "tick" "I", Cond.methodLink RX5 114 yX5_digitsOf, Cond.static yX5_digitsOf, Cond.code yX5_digitsOf cX5_digitsOf 3 (some .int), Cond.methodLink RX5 175 yX5_hasBit]
def wsX5_growth_r2 : List Cond := [Cond.static yX5_hasBit, Cond.code yX5_hasBit cX5_hasBit 2 (some .boolean), Cond.methodLink RX5 227 yX5_atPlace, Cond.static yX5_atPlace, Cond.code yX5_atPlace cX5_atPlace 2 (some .int), Cond.methodLink RX5 60 yJx4a65c_get_915e3, Cond.instanceMethod yJx4a65c_get_915e3, Cond.selects RJx4a65c yJx4a65c_get_915e3 yJx4a65c_get_915e3, Cond.code yJx4a65c_get_915e3 cJx4a65c_get_915e3 2 (some (.object "java/lang/Object")), Cond.methodLink RJx4a65c 118 yJ15_checkIndex_7cf53, Cond.static yJ15_checkIndex_7cf53, Cond.initialized RJ15, Cond.code yJ15_checkIndex_7cf53 cJ15_checkIndex_7cf53 2 (some .int), Cond.methodLink RJ15 105 yJ3_checkIndex_8e157, Cond.static yJ3_checkIndex_8e157, Cond.initialized RJ3, Cond.code yJ3_checkIndex_8e157 cJ3_checkIndex_8e157 3 (some .int), Cond.methodLink RJx4a65c 123 yJx4a65c_elementData_915e3, Cond.instanceMethod yJx4a65c_elementData_915e3, Cond.selects RJx4a65c yJx4a65c_elementData_915e3 yJx4a65c_elementData_915e3, Cond.code yJx4a65c_elementData_915e3 cJx4a65c_elementData_915e3 2 (some (.object "java/lang/Object")), Cond.fieldLink RJx4a65c 9 "java/util/ArrayList" "elementData" "[Ljava/lang/Object;", Cond.methodLink RX5 117 yX5_growthOfAlike, Cond.instanceMethod yX5_growthOfAlike]
def wsX5_growth_r3 : List Cond := [Cond.selects RX5 yX5_growthOfAlike yX5_growthOfAlike, Cond.code yX5_growthOfAlike cX5_growthOfAlike 9 (some .long), Cond.fieldLink RX5 16 "SeriesMarks" "samples" "Ljava/util/ArrayList;", Cond.classLink RX5 83 "SeriesMarks$Sample", Cond.methodLink RX5 138 yX2_isWithin, Cond.instanceMethod yX2_isWithin, Cond.selects RX2 yX2_isWithin yX2_isWithin, Cond.initialized RX2, Cond.code yX2_isWithin cX2_isWithin 3 (some .boolean), Cond.fieldLink RX2 13 "SeriesMarks$Sample" "tick" "I"]
def wsX5_growth : List Cond := .code yX5_growth cX5_growth 4 (some .long) :: ((wsX5_growth_r1 ++ (wsX5_growth_r2 ++ wsX5_growth_r3)) ++ wsX50 ++ wsX30 ++ wsJx4a65c0 ++ wsX20)
def wsX5_gatherSeen_r1 : List Cond := [Cond.fieldLink RX5 36 "SeriesMarks" "seenNames" "LSeriesMarks$NameSet;", Cond.fieldLink RX5 16 "SeriesMarks" "samples" "Ljava/util/ArrayList;", Cond.classLink RX5 83 "SeriesMarks$Sample", Cond.methodLink RX5 135 yX1_makeEmpty, Cond.instanceMethod yX1_makeEmpty, Cond.selects RX1 yX1_makeEmpty yX1_makeEmpty, Cond.initialized RX1, Cond.code yX1_makeEmpty cX1_makeEmpty 1 none, Cond.fieldLink RX1 15 "SeriesMarks$NameSet" "size" "I", Cond.methodLink RX5 69 yJx4a65c_size_8abf5, Cond.instanceMethod yJx4a65c_size_8abf5, Cond.selects RJx4a65c yJx4a65c_size_8abf5 yJx4a65c_size_8abf5, Cond.initialized RJx4a65c, Cond.code yJx4a65c_size_8abf5 cJx4a65c_size_8abf5 1 (some .int), Cond.fieldLink RJx4a65c 48 "java/util/ArrayList" "size" "I", Cond.methodLink RX5 60 yJx4a65c_get_915e3, Cond.instanceMethod yJx4a65c_get_915e3, Cond.selects RJx4a65c yJx4a65c_get_915e3 yJx4a65c_get_915e3, Cond.code yJx4a65c_get_915e3 cJx4a65c_get_915e3 2 (some (.object "java/lang/Object")), Cond.methodLink RJx4a65c 118 yJ15_checkIndex_7cf53, Cond.static yJ15_checkIndex_7cf53, Cond.initialized RJ15, Cond.code yJ15_checkIndex_7cf53 cJ15_checkIndex_7cf53 2 (some .int), Cond.methodLink RJ15 105 yJ3_checkIndex_8e157]
def wsX5_gatherSeen_r2 : List Cond := [Cond.static yJ3_checkIndex_8e157, Cond.initialized RJ3, Cond.code yJ3_checkIndex_8e157 cJ3_checkIndex_8e157 3 (some .int), Cond.methodLink RJx4a65c 123 yJx4a65c_elementData_915e3, Cond.instanceMethod yJx4a65c_elementData_915e3, Cond.selects RJx4a65c yJx4a65c_elementData_915e3 yJx4a65c_elementData_915e3, Cond.code yJx4a65c_elementData_915e3 cJx4a65c_elementData_915e3 2 (some (.object "java/lang/Object")), Cond.fieldLink RJx4a65c 9 "java/util/ArrayList" "elementData" "[Ljava/lang/Object;", Cond.methodLink RX5 138 yX2_isWithin, Cond.instanceMethod yX2_isWithin, Cond.selects RX2 yX2_isWithin yX2_isWithin, Cond.initialized RX2, Cond.code yX2_isWithin cX2_isWithin 3 (some .boolean), Cond.fieldLink RX2 13 "SeriesMarks$Sample" "tick" "I", Cond.methodLink RX5 146 yX1_put, Cond.instanceMethod yX1_put, Cond.selects RX1 yX1_put yX1_put, Cond.code yX1_put cX1_put 4 none, Cond.fieldLink RX1 9 "SeriesMarks$NameSet" "row" "[I", Cond.methodLink RX1 23 arraycopyName, Cond.native arraycopyName, Cond.static arraycopyName, Cond.initialized "java/lang/System", Cond.methodLink RX1 19 yX1_howManyBelow]
def wsX5_gatherSeen_r3 : List Cond := [Cond.instanceMethod yX1_howManyBelow, Cond.selects RX1 yX1_howManyBelow yX1_howManyBelow, Cond.code yX1_howManyBelow cX1_howManyBelow 4 (some .int), Cond.methodLink RX1 29 yJ6_highestOneBit_0f7a4, Cond.static yJ6_highestOneBit_0f7a4, Cond.initialized RJ6, Cond.code yJ6_highestOneBit_0f7a4 cJ6_highestOneBit_0f7a4 1 (some .int), Cond.constant RJ6 127 (-2147483648), Cond.methodLink RJ6 51 yJ6_numberOfLeadingZeros_0f7a4, Cond.static yJ6_numberOfLeadingZeros_0f7a4, Cond.code yJ6_numberOfLeadingZeros_0f7a4 cJ6_numberOfLeadingZeros_0f7a4 2 (some .int), Cond.constant RJ6 264 (65536)]
def wsX5_gatherSeen : List Cond := .code yX5_gatherSeen cX5_gatherSeen 5 none :: ((wsX5_gatherSeen_r1 ++ (wsX5_gatherSeen_r2 ++ wsX5_gatherSeen_r3)) ++ wsX50 ++ wsX20 ++ wsX10 ++ wsJx4a65c0)
def wsX5_seen_r1 : List Cond := [Cond.fieldLink RX5 36 "SeriesMarks" "seenNames" "LSeriesMarks$NameSet;", Cond.methodLink RX5 108 yX5_isSpan, Cond.instanceMethod yX5_isSpan, Cond.selects RX5 yX5_isSpan yX5_isSpan, Cond.initialized RX5, Cond.code yX5_isSpan cX5_isSpan 3 (some .boolean), Cond.fieldLink RX5 43 "SeriesMarks" "tick" "I", Cond.methodLink RX5 121 yX5_gatherSeen, Cond.instanceMethod yX5_gatherSeen, Cond.selects RX5 yX5_gatherSeen yX5_gatherSeen, Cond.code yX5_gatherSeen cX5_gatherSeen 5 none, Cond.fieldLink RX5 16 "SeriesMarks" "samples" "Ljava/util/ArrayList;", Cond.classLink RX5 83 "SeriesMarks$Sample", Cond.methodLink RX5 135 yX1_makeEmpty, Cond.instanceMethod yX1_makeEmpty, Cond.selects RX1 yX1_makeEmpty yX1_makeEmpty, Cond.initialized RX1, Cond.code yX1_makeEmpty cX1_makeEmpty 1 none, Cond.fieldLink RX1 15 "SeriesMarks$NameSet" "size" "I", Cond.methodLink RX5 69 yJx4a65c_size_8abf5, Cond.instanceMethod yJx4a65c_size_8abf5, Cond.selects RJx4a65c yJx4a65c_size_8abf5 yJx4a65c_size_8abf5, Cond.initialized RJx4a65c, Cond.code yJx4a65c_size_8abf5 cJx4a65c_size_8abf5 1 (some .int)]
def wsX5_seen_r2 : List Cond := [Cond.fieldLink RJx4a65c 48 "java/util/ArrayList" "size" "I", Cond.methodLink RX5 60 yJx4a65c_get_915e3, Cond.instanceMethod yJx4a65c_get_915e3, Cond.selects RJx4a65c yJx4a65c_get_915e3 yJx4a65c_get_915e3, Cond.code yJx4a65c_get_915e3 cJx4a65c_get_915e3 2 (some (.object "java/lang/Object")), Cond.methodLink RJx4a65c 118 yJ15_checkIndex_7cf53, Cond.static yJ15_checkIndex_7cf53, Cond.initialized RJ15, Cond.code yJ15_checkIndex_7cf53 cJ15_checkIndex_7cf53 2 (some .int), Cond.methodLink RJ15 105 yJ3_checkIndex_8e157, Cond.static yJ3_checkIndex_8e157, Cond.initialized RJ3, Cond.code yJ3_checkIndex_8e157 cJ3_checkIndex_8e157 3 (some .int), Cond.methodLink RJx4a65c 123 yJx4a65c_elementData_915e3, Cond.instanceMethod yJx4a65c_elementData_915e3, Cond.selects RJx4a65c yJx4a65c_elementData_915e3 yJx4a65c_elementData_915e3, Cond.code yJx4a65c_elementData_915e3 cJx4a65c_elementData_915e3 2 (some (.object "java/lang/Object")), Cond.fieldLink RJx4a65c 9 "java/util/ArrayList" "elementData" "[Ljava/lang/Object;", Cond.methodLink RX5 138 yX2_isWithin, Cond.instanceMethod yX2_isWithin, Cond.selects RX2 yX2_isWithin yX2_isWithin, Cond.initialized RX2, Cond.code yX2_isWithin cX2_isWithin 3 (some .boolean), Cond.fieldLink RX2 13 "SeriesMarks$Sample" "tick" "I"]
def wsX5_seen_r3 : List Cond := [Cond.methodLink RX5 146 yX1_put, Cond.instanceMethod yX1_put, Cond.selects RX1 yX1_put yX1_put, Cond.code yX1_put cX1_put 4 none, Cond.fieldLink RX1 9 "SeriesMarks$NameSet" "row" "[I", Cond.methodLink RX1 23 arraycopyName, Cond.native arraycopyName, Cond.static arraycopyName, Cond.initialized "java/lang/System", Cond.methodLink RX1 19 yX1_howManyBelow, Cond.instanceMethod yX1_howManyBelow, Cond.selects RX1 yX1_howManyBelow yX1_howManyBelow, Cond.code yX1_howManyBelow cX1_howManyBelow 4 (some .int), Cond.methodLink RX1 29 yJ6_highestOneBit_0f7a4, Cond.static yJ6_highestOneBit_0f7a4, Cond.initialized RJ6, Cond.code yJ6_highestOneBit_0f7a4 cJ6_highestOneBit_0f7a4 1 (some .int), Cond.constant RJ6 127 (-2147483648), Cond.methodLink RJ6 51 yJ6_numberOfLeadingZeros_0f7a4, Cond.static yJ6_numberOfLeadingZeros_0f7a4, Cond.code yJ6_numberOfLeadingZeros_0f7a4 cJ6_numberOfLeadingZeros_0f7a4 2 (some .int), Cond.constant RJ6 264 (65536)]
def wsX5_seen : List Cond := .code yX5_seen cX5_seen 3 (some .int) :: ((wsX5_seen_r1 ++ (wsX5_seen_r2 ++ wsX5_seen_r3)) ++ wsX50 ++ wsX10 ++ wsX20 ++ wsJx4a65c0)
def wsX5_isMark : List Cond := .code yX5_isMark cX5_isMark 1 (some .boolean) :: ([])
def wsX5_namesLeftWithout_r1 : List Cond := [Cond.fieldLink RX5 40 "SeriesMarks" "workNames" "LSeriesMarks$NameSet;", Cond.fieldLink RX5 36 "SeriesMarks" "seenNames" "LSeriesMarks$NameSet;", Cond.methodLink RX5 114 yX5_digitsOf, Cond.static yX5_digitsOf, Cond.initialized RX5, Cond.code yX5_digitsOf cX5_digitsOf 3 (some .int), Cond.methodLink RX5 175 yX5_hasBit, Cond.static yX5_hasBit, Cond.code yX5_hasBit cX5_hasBit 2 (some .boolean), Cond.methodLink RX5 227 yX5_atPlace, Cond.static yX5_atPlace, Cond.code yX5_atPlace cX5_atPlace 2 (some .int), Cond.methodLink RX5 135 yX1_makeEmpty, Cond.instanceMethod yX1_makeEmpty, Cond.selects RX1 yX1_makeEmpty yX1_makeEmpty, Cond.initialized RX1, Cond.code yX1_makeEmpty cX1_makeEmpty 1 none, Cond.fieldLink RX1 15 "SeriesMarks$NameSet" "size" "I", Cond.methodLink RX5 146 yX1_put, Cond.instanceMethod yX1_put, Cond.selects RX1 yX1_put yX1_put, Cond.code yX1_put cX1_put 4 none, Cond.fieldLink RX1 9 "SeriesMarks$NameSet" "row" "[I", Cond.methodLink RX1 23 arraycopyName]
def wsX5_namesLeftWithout_r2 : List Cond := [Cond.native arraycopyName, Cond.static arraycopyName, Cond.initialized "java/lang/System", Cond.methodLink RX1 19 yX1_howManyBelow, Cond.instanceMethod yX1_howManyBelow, Cond.selects RX1 yX1_howManyBelow yX1_howManyBelow, Cond.code yX1_howManyBelow cX1_howManyBelow 4 (some .int), Cond.methodLink RX1 29 yJ6_highestOneBit_0f7a4, Cond.static yJ6_highestOneBit_0f7a4, Cond.initialized RJ6, Cond.code yJ6_highestOneBit_0f7a4 cJ6_highestOneBit_0f7a4 1 (some .int), Cond.constant RJ6 127 (-2147483648), Cond.methodLink RJ6 51 yJ6_numberOfLeadingZeros_0f7a4, Cond.static yJ6_numberOfLeadingZeros_0f7a4, Cond.code yJ6_numberOfLeadingZeros_0f7a4 cJ6_numberOfLeadingZeros_0f7a4 2 (some .int), Cond.constant RJ6 264 (65536)]
def wsX5_namesLeftWithout : List Cond := .code yX5_namesLeftWithout cX5_namesLeftWithout 4 (some .int) :: ((wsX5_namesLeftWithout_r1 ++ wsX5_namesLeftWithout_r2) ++ wsX50 ++ wsX10)
def wsX5_values_r1 : List Cond := [Cond.methodLink RX5 126 yX5_isMark, Cond.static yX5_isMark, Cond.initialized RX5, Cond.code yX5_isMark cX5_isMark 1 (some .boolean), Cond.methodLink RX5 108 yX5_isSpan, Cond.instanceMethod yX5_isSpan, Cond.selects RX5 yX5_isSpan yX5_isSpan, Cond.code yX5_isSpan cX5_isSpan 3 (some .boolean), Cond.fieldLink RX5 43 "SeriesMarks" "tick" "I", Cond.methodLink RX5 121 yX5_gatherSeen, Cond.instanceMethod yX5_gatherSeen, Cond.selects RX5 yX5_gatherSeen yX5_gatherSeen, Cond.code yX5_gatherSeen cX5_gatherSeen 5 none, Cond.fieldLink RX5 36 "SeriesMarks" "seenNames" "LSeriesMarks$NameSet;", Cond.fieldLink RX5 16 "SeriesMarks" "samples" "Ljava/util/ArrayList;", Cond.classLink RX5 83 "SeriesMarks$Sample", Cond.methodLink RX5 135 yX1_makeEmpty, Cond.instanceMethod yX1_makeEmpty, Cond.selects RX1 yX1_makeEmpty yX1_makeEmpty, Cond.initialized RX1, Cond.code yX1_makeEmpty cX1_makeEmpty 1 none, Cond.fieldLink RX1 15 "SeriesMarks$NameSet" "size" "I", Cond.methodLink RX5 69 yJx4a65c_size_8abf5, Cond.instanceMethod yJx4a65c_size_8abf5]
def wsX5_values_r2 : List Cond := [Cond.selects RJx4a65c yJx4a65c_size_8abf5 yJx4a65c_size_8abf5, Cond.initialized RJx4a65c, Cond.code yJx4a65c_size_8abf5 cJx4a65c_size_8abf5 1 (some .int), Cond.fieldLink RJx4a65c 48 "java/util/ArrayList" "size" "I", Cond.methodLink RX5 60 yJx4a65c_get_915e3, Cond.instanceMethod yJx4a65c_get_915e3, Cond.selects RJx4a65c yJx4a65c_get_915e3 yJx4a65c_get_915e3, Cond.code yJx4a65c_get_915e3 cJx4a65c_get_915e3 2 (some (.object "java/lang/Object")), Cond.methodLink RJx4a65c 118 yJ15_checkIndex_7cf53, Cond.static yJ15_checkIndex_7cf53, Cond.initialized RJ15, Cond.code yJ15_checkIndex_7cf53 cJ15_checkIndex_7cf53 2 (some .int), Cond.methodLink RJ15 105 yJ3_checkIndex_8e157, Cond.static yJ3_checkIndex_8e157, Cond.initialized RJ3, Cond.code yJ3_checkIndex_8e157 cJ3_checkIndex_8e157 3 (some .int), Cond.methodLink RJx4a65c 123 yJx4a65c_elementData_915e3, Cond.instanceMethod yJx4a65c_elementData_915e3, Cond.selects RJx4a65c yJx4a65c_elementData_915e3 yJx4a65c_elementData_915e3, Cond.code yJx4a65c_elementData_915e3 cJx4a65c_elementData_915e3 2 (some (.object "java/lang/Object")), Cond.fieldLink RJx4a65c 9 "java/util/ArrayList" "elementData" "[Ljava/lang/Object;", Cond.methodLink RX5 138 yX2_isWithin, Cond.instanceMethod yX2_isWithin, Cond.selects RX2 yX2_isWithin yX2_isWithin]
def wsX5_values_r3 : List Cond := [Cond.initialized RX2, Cond.code yX2_isWithin cX2_isWithin 3 (some .boolean), Cond.fieldLink RX2 13 "SeriesMarks$Sample" "tick" "I", Cond.methodLink RX5 146 yX1_put, Cond.instanceMethod yX1_put, Cond.selects RX1 yX1_put yX1_put, Cond.code yX1_put cX1_put 4 none, Cond.fieldLink RX1 9 "SeriesMarks$NameSet" "row" "[I", Cond.methodLink RX1 23 arraycopyName, Cond.native arraycopyName, Cond.static arraycopyName, Cond.initialized "java/lang/System", Cond.methodLink RX1 19 yX1_howManyBelow, Cond.instanceMethod yX1_howManyBelow, Cond.selects RX1 yX1_howManyBelow yX1_howManyBelow, Cond.code yX1_howManyBelow cX1_howManyBelow 4 (some .int), Cond.methodLink RX1 29 yJ6_highestOneBit_0f7a4, Cond.static yJ6_highestOneBit_0f7a4, Cond.initialized RJ6, Cond.code yJ6_highestOneBit_0f7a4 cJ6_highestOneBit_0f7a4 1 (some .int), Cond.constant RJ6 127 (-2147483648), Cond.methodLink RJ6 51 yJ6_numberOfLeadingZeros_0f7a4, Cond.static yJ6_numberOfLeadingZeros_0f7a4, Cond.code yJ6_numberOfLeadingZeros_0f7a4 cJ6_numberOfLeadingZeros_0f7a4 2 (some .int)]
def wsX5_values_r4 : List Cond := [Cond.constant RJ6 264 (65536), Cond.methodLink RX5 129 yX5_namesLeftWithout, Cond.instanceMethod yX5_namesLeftWithout, Cond.selects RX5 yX5_namesLeftWithout yX5_namesLeftWithout, Cond.code yX5_namesLeftWithout cX5_namesLeftWithout 4 (some .int), Cond.fieldLink RX5 40 "SeriesMarks" "workNames" "LSeriesMarks$NameSet;", Cond.methodLink RX5 114 yX5_digitsOf, Cond.static yX5_digitsOf, Cond.code yX5_digitsOf cX5_digitsOf 3 (some .int), Cond.methodLink RX5 175 yX5_hasBit, Cond.static yX5_hasBit, Cond.code yX5_hasBit cX5_hasBit 2 (some .boolean), Cond.methodLink RX5 227 yX5_atPlace, Cond.static yX5_atPlace, Cond.code yX5_atPlace cX5_atPlace 2 (some .int)]
def wsX5_values : List Cond := .code yX5_values cX5_values 4 (some .int) :: ((wsX5_values_r1 ++ (wsX5_values_r2 ++ (wsX5_values_r3 ++ wsX5_values_r4))) ++ wsX50 ++ wsX20 ++ wsX10 ++ wsJx4a65c0)
def wsX5_isSetOfMarks : List Cond := .code yX5_isSetOfMarks cX5_isSetOfMarks 1 (some .boolean) :: ([])
def wsX5_unlike_r1 : List Cond := [Cond.methodLink RX5 132 yX5_isSetOfMarks, Cond.static yX5_isSetOfMarks, Cond.initialized RX5, Cond.code yX5_isSetOfMarks cX5_isSetOfMarks 1 (some .boolean), Cond.methodLink RX5 108 yX5_isSpan, Cond.instanceMethod yX5_isSpan, Cond.selects RX5 yX5_isSpan yX5_isSpan, Cond.code yX5_isSpan cX5_isSpan 3 (some .boolean), Cond.fieldLink RX5 43 "SeriesMarks" "tick" "I", Cond.methodLink RX5 121 yX5_gatherSeen, Cond.instanceMethod yX5_gatherSeen, Cond.selects RX5 yX5_gatherSeen yX5_gatherSeen, Cond.code yX5_gatherSeen cX5_gatherSeen 5 none, Cond.fieldLink RX5 36 "SeriesMarks" "seenNames" "LSeriesMarks$NameSet;", Cond.fieldLink RX5 16 "SeriesMarks" "samples" "Ljava/util/ArrayList;", Cond.classLink RX5 83 "SeriesMarks$Sample", Cond.methodLink RX5 135 yX1_makeEmpty, Cond.instanceMethod yX1_makeEmpty, Cond.selects RX1 yX1_makeEmpty yX1_makeEmpty, Cond.initialized RX1, Cond.code yX1_makeEmpty cX1_makeEmpty 1 none, Cond.fieldLink RX1 15 "SeriesMarks$NameSet" "size" "I", Cond.methodLink RX5 69 yJx4a65c_size_8abf5, Cond.instanceMethod yJx4a65c_size_8abf5]
def wsX5_unlike_r2 : List Cond := [Cond.selects RJx4a65c yJx4a65c_size_8abf5 yJx4a65c_size_8abf5, Cond.initialized RJx4a65c, Cond.code yJx4a65c_size_8abf5 cJx4a65c_size_8abf5 1 (some .int), Cond.fieldLink RJx4a65c 48 "java/util/ArrayList" "size" "I", Cond.methodLink RX5 60 yJx4a65c_get_915e3, Cond.instanceMethod yJx4a65c_get_915e3, Cond.selects RJx4a65c yJx4a65c_get_915e3 yJx4a65c_get_915e3, Cond.code yJx4a65c_get_915e3 cJx4a65c_get_915e3 2 (some (.object "java/lang/Object")), Cond.methodLink RJx4a65c 118 yJ15_checkIndex_7cf53, Cond.static yJ15_checkIndex_7cf53, Cond.initialized RJ15, Cond.code yJ15_checkIndex_7cf53 cJ15_checkIndex_7cf53 2 (some .int), Cond.methodLink RJ15 105 yJ3_checkIndex_8e157, Cond.static yJ3_checkIndex_8e157, Cond.initialized RJ3, Cond.code yJ3_checkIndex_8e157 cJ3_checkIndex_8e157 3 (some .int), Cond.methodLink RJx4a65c 123 yJx4a65c_elementData_915e3, Cond.instanceMethod yJx4a65c_elementData_915e3, Cond.selects RJx4a65c yJx4a65c_elementData_915e3 yJx4a65c_elementData_915e3, Cond.code yJx4a65c_elementData_915e3 cJx4a65c_elementData_915e3 2 (some (.object "java/lang/Object")), Cond.fieldLink RJx4a65c 9 "java/util/ArrayList" "elementData" "[Ljava/lang/Object;", Cond.methodLink RX5 138 yX2_isWithin, Cond.instanceMethod yX2_isWithin, Cond.selects RX2 yX2_isWithin yX2_isWithin]
def wsX5_unlike_r3 : List Cond := [Cond.initialized RX2, Cond.code yX2_isWithin cX2_isWithin 3 (some .boolean), Cond.fieldLink RX2 13 "SeriesMarks$Sample" "tick" "I", Cond.methodLink RX5 146 yX1_put, Cond.instanceMethod yX1_put, Cond.selects RX1 yX1_put yX1_put, Cond.code yX1_put cX1_put 4 none, Cond.fieldLink RX1 9 "SeriesMarks$NameSet" "row" "[I", Cond.methodLink RX1 23 arraycopyName, Cond.native arraycopyName, Cond.static arraycopyName, Cond.initialized "java/lang/System", Cond.methodLink RX1 19 yX1_howManyBelow, Cond.instanceMethod yX1_howManyBelow, Cond.selects RX1 yX1_howManyBelow yX1_howManyBelow, Cond.code yX1_howManyBelow cX1_howManyBelow 4 (some .int), Cond.methodLink RX1 29 yJ6_highestOneBit_0f7a4, Cond.static yJ6_highestOneBit_0f7a4, Cond.initialized RJ6, Cond.code yJ6_highestOneBit_0f7a4 cJ6_highestOneBit_0f7a4 1 (some .int), Cond.constant RJ6 127 (-2147483648), Cond.methodLink RJ6 51 yJ6_numberOfLeadingZeros_0f7a4, Cond.static yJ6_numberOfLeadingZeros_0f7a4, Cond.code yJ6_numberOfLeadingZeros_0f7a4 cJ6_numberOfLeadingZeros_0f7a4 2 (some .int)]
def wsX5_unlike_r4 : List Cond := [Cond.constant RJ6 264 (65536), Cond.methodLink RX5 129 yX5_namesLeftWithout, Cond.instanceMethod yX5_namesLeftWithout, Cond.selects RX5 yX5_namesLeftWithout yX5_namesLeftWithout, Cond.code yX5_namesLeftWithout cX5_namesLeftWithout 4 (some .int), Cond.fieldLink RX5 40 "SeriesMarks" "workNames" "LSeriesMarks$NameSet;", Cond.methodLink RX5 114 yX5_digitsOf, Cond.static yX5_digitsOf, Cond.code yX5_digitsOf cX5_digitsOf 3 (some .int), Cond.methodLink RX5 175 yX5_hasBit, Cond.static yX5_hasBit, Cond.code yX5_hasBit cX5_hasBit 2 (some .boolean), Cond.methodLink RX5 227 yX5_atPlace, Cond.static yX5_atPlace, Cond.code yX5_atPlace cX5_atPlace 2 (some .int)]
def wsX5_unlike : List Cond := .code yX5_unlike cX5_unlike 4 (some .int) :: ((wsX5_unlike_r1 ++ (wsX5_unlike_r2 ++ (wsX5_unlike_r3 ++ wsX5_unlike_r4))) ++ wsX50 ++ wsX20 ++ wsX10 ++ wsJx4a65c0)
def wsX5_kept_r1 : List Cond := [Cond.fieldLink RX5 40 "SeriesMarks" "workNames" "LSeriesMarks$NameSet;", Cond.fieldLink RX5 16 "SeriesMarks" "samples" "Ljava/util/ArrayList;", Cond.classLink RX5 83 "SeriesMarks$Sample", Cond.fieldLink RX5 25 "SeriesMarks" "shortening" "LSeriesMarks$Shortening;", Cond.methodLink RX5 108 yX5_isSpan, Cond.instanceMethod yX5_isSpan, Cond.selects RX5 yX5_isSpan yX5_isSpan, Cond.initialized RX5, Cond.code yX5_isSpan cX5_isSpan 3 (some .boolean), Cond.fieldLink RX5 43 "SeriesMarks" "tick" "I", Cond.methodLink RX5 135 yX1_makeEmpty, Cond.instanceMethod yX1_makeEmpty, Cond.selects RX1 yX1_makeEmpty yX1_makeEmpty, Cond.initialized RX1, Cond.code yX1_makeEmpty cX1_makeEmpty 1 none, Cond.fieldLink RX1 15 "SeriesMarks$NameSet" "size" "I", Cond.methodLink RX5 69 yJx4a65c_size_8abf5, Cond.instanceMethod yJx4a65c_size_8abf5, Cond.selects RJx4a65c yJx4a65c_size_8abf5 yJx4a65c_size_8abf5, Cond.initialized RJx4a65c, Cond.code yJx4a65c_size_8abf5 cJx4a65c_size_8abf5 1 (some .int), Cond.fieldLink RJx4a65c 48 "java/util/ArrayList" "size" "I", Cond.methodLink RX5 60 yJx4a65c_get_915e3, Cond.instanceMethod yJx4a65c_get_915e3]
def wsX5_kept_r2 : List Cond := [Cond.selects RJx4a65c yJx4a65c_get_915e3 yJx4a65c_get_915e3, Cond.code yJx4a65c_get_915e3 cJx4a65c_get_915e3 2 (some (.object "java/lang/Object")), Cond.methodLink RJx4a65c 118 yJ15_checkIndex_7cf53, Cond.static yJ15_checkIndex_7cf53, Cond.initialized RJ15, Cond.code yJ15_checkIndex_7cf53 cJ15_checkIndex_7cf53 2 (some .int), Cond.methodLink RJ15 105 yJ3_checkIndex_8e157, Cond.static yJ3_checkIndex_8e157, Cond.initialized RJ3, Cond.code yJ3_checkIndex_8e157 cJ3_checkIndex_8e157 3 (some .int), Cond.methodLink RJx4a65c 123 yJx4a65c_elementData_915e3, Cond.instanceMethod yJx4a65c_elementData_915e3, Cond.selects RJx4a65c yJx4a65c_elementData_915e3 yJx4a65c_elementData_915e3, Cond.code yJx4a65c_elementData_915e3 cJx4a65c_elementData_915e3 2 (some (.object "java/lang/Object")), Cond.fieldLink RJx4a65c 9 "java/util/ArrayList" "elementData" "[Ljava/lang/Object;", Cond.methodLink RX5 138 yX2_isWithin, Cond.instanceMethod yX2_isWithin, Cond.selects RX2 yX2_isWithin yX2_isWithin, Cond.initialized RX2, Cond.code yX2_isWithin cX2_isWithin 3 (some .boolean), Cond.fieldLink RX2 13 "SeriesMarks$Sample" "tick" "I", Cond.methodLink RX5 143 yX4_shorten, Cond.instanceMethod yX4_shorten, Cond.selects RX4 yX4_shorten yX4_shorten]
def wsX5_kept_r3 : List Cond := [Cond.initialized RX4, Cond.code yX4_shorten cX4_shorten 5 (some .int), Cond.methodLink RX4 45 yX4_isDropped, Cond.instanceMethod yX4_isDropped, Cond.selects RX4 yX4_isDropped yX4_isDropped, Cond.code yX4_isDropped cX4_isDropped 3 (some .boolean), Cond.fieldLink RX4 9 "SeriesMarks$Shortening" "droppedAt" "[I", Cond.static yX5_hasBit, Cond.code yX5_hasBit cX5_hasBit 2 (some .boolean), Cond.static yX5_digit, Cond.code yX5_digit cX5_digit 2 (some .int), Cond.methodLink RX4 33 yX4_chiefOf, Cond.instanceMethod yX4_chiefOf, Cond.selects RX4 yX4_chiefOf yX4_chiefOf, Cond.code yX4_chiefOf cX4_chiefOf 4 (some .int), Cond.fieldLink RX4 15 "SeriesMarks$Shortening" "chiefsAt" "[I", Cond.static yX5_atPlace, Cond.code yX5_atPlace cX5_atPlace 2 (some .int), Cond.methodLink RX5 146 yX1_put, Cond.instanceMethod yX1_put, Cond.selects RX1 yX1_put yX1_put, Cond.code yX1_put cX1_put 4 none, Cond.fieldLink RX1 9 "SeriesMarks$NameSet" "row" "[I", Cond.methodLink RX1 23 arraycopyName]
def wsX5_kept_r4 : List Cond := [Cond.native arraycopyName, Cond.static arraycopyName, Cond.initialized "java/lang/System", Cond.methodLink RX1 19 yX1_howManyBelow, Cond.instanceMethod yX1_howManyBelow, Cond.selects RX1 yX1_howManyBelow yX1_howManyBelow, Cond.code yX1_howManyBelow cX1_howManyBelow 4 (some .int), Cond.methodLink RX1 29 yJ6_highestOneBit_0f7a4, Cond.static yJ6_highestOneBit_0f7a4, Cond.initialized RJ6, Cond.code yJ6_highestOneBit_0f7a4 cJ6_highestOneBit_0f7a4 1 (some .int), Cond.constant RJ6 127 (-2147483648), Cond.methodLink RJ6 51 yJ6_numberOfLeadingZeros_0f7a4, Cond.static yJ6_numberOfLeadingZeros_0f7a4, Cond.code yJ6_numberOfLeadingZeros_0f7a4 cJ6_numberOfLeadingZeros_0f7a4 2 (some .int), Cond.constant RJ6 264 (65536)]
def wsX5_kept : List Cond := .code yX5_kept cX5_kept 5 (some .int) :: ((wsX5_kept_r1 ++ (wsX5_kept_r2 ++ (wsX5_kept_r3 ++ wsX5_kept_r4))) ++ wsX50 ++ wsX20 ++ wsX10 ++ wsJx4a65c0 ++ wsX40)
def wsX5_worst_r1 : List Cond := [Cond.methodLink RX5 108 yX5_isSpan, Cond.instanceMethod yX5_isSpan, Cond.selects RX5 yX5_isSpan yX5_isSpan, Cond.initialized RX5, Cond.code yX5_isSpan cX5_isSpan 3 (some .boolean), Cond.fieldLink RX5 43 "SeriesMarks" "tick" "I", Cond.methodLink RX5 121 yX5_gatherSeen, Cond.instanceMethod yX5_gatherSeen, Cond.selects RX5 yX5_gatherSeen yX5_gatherSeen, Cond.code yX5_gatherSeen cX5_gatherSeen 5 none, Cond.fieldLink RX5 36 "SeriesMarks" "seenNames" "LSeriesMarks$NameSet;", Cond.fieldLink RX5 16 "SeriesMarks" "samples" "Ljava/util/ArrayList;", Cond.classLink RX5 83 "SeriesMarks$Sample", Cond.methodLink RX5 135 yX1_makeEmpty, Cond.instanceMethod yX1_makeEmpty, Cond.selects RX1 yX1_makeEmpty yX1_makeEmpty, Cond.initialized RX1, Cond.code yX1_makeEmpty cX1_makeEmpty 1 none, Cond.fieldLink RX1 15 "SeriesMarks$NameSet" "size" "I", Cond.methodLink RX5 69 yJx4a65c_size_8abf5, Cond.instanceMethod yJx4a65c_size_8abf5, Cond.selects RJx4a65c yJx4a65c_size_8abf5 yJx4a65c_size_8abf5, Cond.initialized RJx4a65c, Cond.code yJx4a65c_size_8abf5 cJx4a65c_size_8abf5 1 (some .int)]
def wsX5_worst_r2 : List Cond := [Cond.fieldLink RJx4a65c 48 "java/util/ArrayList" "size" "I", Cond.methodLink RX5 60 yJx4a65c_get_915e3, Cond.instanceMethod yJx4a65c_get_915e3, Cond.selects RJx4a65c yJx4a65c_get_915e3 yJx4a65c_get_915e3, Cond.code yJx4a65c_get_915e3 cJx4a65c_get_915e3 2 (some (.object "java/lang/Object")), Cond.methodLink RJx4a65c 118 yJ15_checkIndex_7cf53, Cond.static yJ15_checkIndex_7cf53, Cond.initialized RJ15, Cond.code yJ15_checkIndex_7cf53 cJ15_checkIndex_7cf53 2 (some .int), Cond.methodLink RJ15 105 yJ3_checkIndex_8e157, Cond.static yJ3_checkIndex_8e157, Cond.initialized RJ3, Cond.code yJ3_checkIndex_8e157 cJ3_checkIndex_8e157 3 (some .int), Cond.methodLink RJx4a65c 123 yJx4a65c_elementData_915e3, Cond.instanceMethod yJx4a65c_elementData_915e3, Cond.selects RJx4a65c yJx4a65c_elementData_915e3 yJx4a65c_elementData_915e3, Cond.code yJx4a65c_elementData_915e3 cJx4a65c_elementData_915e3 2 (some (.object "java/lang/Object")), Cond.fieldLink RJx4a65c 9 "java/util/ArrayList" "elementData" "[Ljava/lang/Object;", Cond.methodLink RX5 138 yX2_isWithin, Cond.instanceMethod yX2_isWithin, Cond.selects RX2 yX2_isWithin yX2_isWithin, Cond.initialized RX2, Cond.code yX2_isWithin cX2_isWithin 3 (some .boolean), Cond.fieldLink RX2 13 "SeriesMarks$Sample" "tick" "I"]
def wsX5_worst_r3 : List Cond := [Cond.methodLink RX5 146 yX1_put, Cond.instanceMethod yX1_put, Cond.selects RX1 yX1_put yX1_put, Cond.code yX1_put cX1_put 4 none, Cond.fieldLink RX1 9 "SeriesMarks$NameSet" "row" "[I", Cond.methodLink RX1 23 arraycopyName, Cond.native arraycopyName, Cond.static arraycopyName, Cond.initialized "java/lang/System", Cond.methodLink RX1 19 yX1_howManyBelow, Cond.instanceMethod yX1_howManyBelow, Cond.selects RX1 yX1_howManyBelow yX1_howManyBelow, Cond.code yX1_howManyBelow cX1_howManyBelow 4 (some .int), Cond.methodLink RX1 29 yJ6_highestOneBit_0f7a4, Cond.static yJ6_highestOneBit_0f7a4, Cond.initialized RJ6, Cond.code yJ6_highestOneBit_0f7a4 cJ6_highestOneBit_0f7a4 1 (some .int), Cond.constant RJ6 127 (-2147483648), Cond.methodLink RJ6 51 yJ6_numberOfLeadingZeros_0f7a4, Cond.static yJ6_numberOfLeadingZeros_0f7a4, Cond.code yJ6_numberOfLeadingZeros_0f7a4 cJ6_numberOfLeadingZeros_0f7a4 2 (some .int), Cond.constant RJ6 264 (65536), Cond.methodLink RX5 129 yX5_namesLeftWithout, Cond.instanceMethod yX5_namesLeftWithout]
def wsX5_worst_r4 : List Cond := [Cond.selects RX5 yX5_namesLeftWithout yX5_namesLeftWithout, Cond.code yX5_namesLeftWithout cX5_namesLeftWithout 4 (some .int), Cond.fieldLink RX5 40 "SeriesMarks" "workNames" "LSeriesMarks$NameSet;", Cond.methodLink RX5 114 yX5_digitsOf, Cond.static yX5_digitsOf, Cond.code yX5_digitsOf cX5_digitsOf 3 (some .int), Cond.methodLink RX5 175 yX5_hasBit, Cond.static yX5_hasBit, Cond.code yX5_hasBit cX5_hasBit 2 (some .boolean), Cond.methodLink RX5 227 yX5_atPlace, Cond.static yX5_atPlace, Cond.code yX5_atPlace cX5_atPlace 2 (some .int)]
def wsX5_worst : List Cond := .code yX5_worst cX5_worst 7 (some .int) :: ((wsX5_worst_r1 ++ (wsX5_worst_r2 ++ (wsX5_worst_r3 ++ wsX5_worst_r4))) ++ wsX50 ++ wsX20 ++ wsX10 ++ wsJx4a65c0)
def wsX5_asNumber : List Cond := .code yX5_asNumber cX5_asNumber 1 (some .int) :: ([])
def wsX5_drop : List Cond := .code yX5_drop cX5_drop 4 (some .int) :: ([.fieldLink RX5 25 "SeriesMarks" "shortening" "LSeriesMarks$Shortening;", .fieldLink RX5 43 "SeriesMarks" "tick" "I", .methodLink RX5 126 yX5_isMark, .static yX5_isMark, .initialized RX5, .code yX5_isMark cX5_isMark 1 (some .boolean), .methodLink RX5 150 yX4_isDropped, .instanceMethod yX4_isDropped, .selects RX4 yX4_isDropped yX4_isDropped, .initialized RX4, .code yX4_isDropped cX4_isDropped 3 (some .boolean), .fieldLink RX4 9 "SeriesMarks$Shortening" "droppedAt" "[I", .static yX5_hasBit, .code yX5_hasBit cX5_hasBit 2 (some .boolean), .methodLink RX5 153 yX5_asNumber, .static yX5_asNumber, .code yX5_asNumber cX5_asNumber 1 (some .int), .methodLink RX5 157 yX4_setDropped, .instanceMethod yX4_setDropped, .selects RX4 yX4_setDropped yX4_setDropped, .code yX4_setDropped cX4_setDropped 5 none] ++ wsX50 ++ wsX40)
def wsX5_isValue : List Cond := .code yX5_isValue cX5_isValue 1 (some .boolean) :: ([])
def wsX5_fold_r1 : List Cond := [Cond.fieldLink RX5 25 "SeriesMarks" "shortening" "LSeriesMarks$Shortening;", Cond.fieldLink RX5 43 "SeriesMarks" "tick" "I", Cond.methodLink RX5 126 yX5_isMark, Cond.static yX5_isMark, Cond.initialized RX5, Cond.code yX5_isMark cX5_isMark 1 (some .boolean), Cond.methodLink RX5 161 yX5_isValue, Cond.static yX5_isValue, Cond.code yX5_isValue cX5_isValue 1 (some .boolean), Cond.methodLink RX5 164 yX4_putTogether, Cond.instanceMethod yX4_putTogether, Cond.selects RX4 yX4_putTogether yX4_putTogether, Cond.initialized RX4, Cond.code yX4_putTogether cX4_putTogether 12 (some .int), Cond.methodLink RX4 37 Lib.Math.min.name, Cond.static Lib.Math.min.name, Cond.initialized "java/lang/Math", Cond.code Lib.Math.min.name Lib.Math.min.code 2 (some .int), Cond.fieldLink RX4 15 "SeriesMarks$Shortening" "chiefsAt" "[I", Cond.methodLink RX4 33 yX4_chiefOf, Cond.instanceMethod yX4_chiefOf, Cond.selects RX4 yX4_chiefOf yX4_chiefOf, Cond.code yX4_chiefOf cX4_chiefOf 4 (some .int), Cond.static yX5_digit]
def wsX5_fold_r2 : List Cond := [Cond.code yX5_digit cX5_digit 2 (some .int), Cond.static yX5_atPlace, Cond.code yX5_atPlace cX5_atPlace 2 (some .int)]
def wsX5_fold : List Cond := .code yX5_fold cX5_fold 4 (some .int) :: ((wsX5_fold_r1 ++ wsX5_fold_r2) ++ wsX50 ++ wsX40)
def wsX5_isPastTick : List Cond := .code yX5_isPastTick cX5_isPastTick 2 (some .boolean) :: ([.fieldLink RX5 43 "SeriesMarks" "tick" "I"] ++ wsX50)
def wsX5_dropped : List Cond := .code yX5_dropped cX5_dropped 3 (some .int) :: ([.fieldLink RX5 25 "SeriesMarks" "shortening" "LSeriesMarks$Shortening;", .methodLink RX5 126 yX5_isMark, .static yX5_isMark, .initialized RX5, .code yX5_isMark cX5_isMark 1 (some .boolean), .methodLink RX5 168 yX5_isPastTick, .instanceMethod yX5_isPastTick, .selects RX5 yX5_isPastTick yX5_isPastTick, .code yX5_isPastTick cX5_isPastTick 2 (some .boolean), .fieldLink RX5 43 "SeriesMarks" "tick" "I", .methodLink RX5 150 yX4_isDropped, .instanceMethod yX4_isDropped, .selects RX4 yX4_isDropped yX4_isDropped, .initialized RX4, .code yX4_isDropped cX4_isDropped 3 (some .boolean), .fieldLink RX4 9 "SeriesMarks$Shortening" "droppedAt" "[I", .static yX5_hasBit, .code yX5_hasBit cX5_hasBit 2 (some .boolean), .methodLink RX5 153 yX5_asNumber, .static yX5_asNumber, .code yX5_asNumber cX5_asNumber 1 (some .int)] ++ wsX50 ++ wsX40)
def wsX5_chief : List Cond := .code yX5_chief cX5_chief 4 (some .int) :: ([.fieldLink RX5 25 "SeriesMarks" "shortening" "LSeriesMarks$Shortening;", .methodLink RX5 126 yX5_isMark, .static yX5_isMark, .initialized RX5, .code yX5_isMark cX5_isMark 1 (some .boolean), .methodLink RX5 161 yX5_isValue, .static yX5_isValue, .code yX5_isValue cX5_isValue 1 (some .boolean), .methodLink RX5 168 yX5_isPastTick, .instanceMethod yX5_isPastTick, .selects RX5 yX5_isPastTick yX5_isPastTick, .code yX5_isPastTick cX5_isPastTick 2 (some .boolean), .fieldLink RX5 43 "SeriesMarks" "tick" "I", .methodLink RX5 171 yX4_chiefOf, .instanceMethod yX4_chiefOf, .selects RX4 yX4_chiefOf yX4_chiefOf, .initialized RX4, .code yX4_chiefOf cX4_chiefOf 4 (some .int), .fieldLink RX4 15 "SeriesMarks$Shortening" "chiefsAt" "[I", .static yX5_digit, .code yX5_digit cX5_digit 2 (some .int)] ++ wsX50 ++ wsX40)
def wsX5_shortAt_r1 : List Cond := [Cond.fieldLink RX5 25 "SeriesMarks" "shortening" "LSeriesMarks$Shortening;", Cond.methodLink RX5 51 yX5_isName, Cond.static yX5_isName, Cond.initialized RX5, Cond.code yX5_isName cX5_isName 1 (some .boolean), Cond.constant RX5 226 (262143), Cond.methodLink RX5 168 yX5_isPastTick, Cond.instanceMethod yX5_isPastTick, Cond.selects RX5 yX5_isPastTick yX5_isPastTick, Cond.code yX5_isPastTick cX5_isPastTick 2 (some .boolean), Cond.fieldLink RX5 43 "SeriesMarks" "tick" "I", Cond.methodLink RX5 143 yX4_shorten, Cond.instanceMethod yX4_shorten, Cond.selects RX4 yX4_shorten yX4_shorten, Cond.initialized RX4, Cond.code yX4_shorten cX4_shorten 5 (some .int), Cond.methodLink RX4 45 yX4_isDropped, Cond.instanceMethod yX4_isDropped, Cond.selects RX4 yX4_isDropped yX4_isDropped, Cond.code yX4_isDropped cX4_isDropped 3 (some .boolean), Cond.fieldLink RX4 9 "SeriesMarks$Shortening" "droppedAt" "[I", Cond.static yX5_hasBit, Cond.code yX5_hasBit cX5_hasBit 2 (some .boolean), Cond.static yX5_digit]
def wsX5_shortAt_r2 : List Cond := [Cond.code yX5_digit cX5_digit 2 (some .int), Cond.methodLink RX4 33 yX4_chiefOf, Cond.instanceMethod yX4_chiefOf, Cond.selects RX4 yX4_chiefOf yX4_chiefOf, Cond.code yX4_chiefOf cX4_chiefOf 4 (some .int), Cond.fieldLink RX4 15 "SeriesMarks$Shortening" "chiefsAt" "[I", Cond.static yX5_atPlace, Cond.code yX5_atPlace cX5_atPlace 2 (some .int)]
def wsX5_shortAt : List Cond := .code yX5_shortAt cX5_shortAt 3 (some .int) :: ((wsX5_shortAt_r1 ++ wsX5_shortAt_r2) ++ wsX50 ++ wsX40)
def wsX5_ask_r1 : List Cond := [Cond.fieldLink RX5 19 "SeriesMarks" "askings" "Ljava/util/ArrayList;", Cond.classLink RX5 178 RX0, Cond.instantiable RX0 5, Cond.initialized RX0, Cond.methodLink RX5 132 yX5_isSetOfMarks, Cond.static yX5_isSetOfMarks, Cond.initialized RX5, Cond.code yX5_isSetOfMarks cX5_isSetOfMarks 1 (some .boolean), Cond.methodLink RX5 126 yX5_isMark, Cond.static yX5_isMark, Cond.code yX5_isMark cX5_isMark 1 (some .boolean), Cond.methodLink RX5 161 yX5_isValue, Cond.static yX5_isValue, Cond.code yX5_isValue cX5_isValue 1 (some .boolean), Cond.methodLink RX5 175 yX5_hasBit, Cond.static yX5_hasBit, Cond.code yX5_hasBit cX5_hasBit 2 (some .boolean), Cond.methodLink RX5 69 yJx4a65c_size_8abf5, Cond.instanceMethod yJx4a65c_size_8abf5, Cond.selects RJx4a65c yJx4a65c_size_8abf5 yJx4a65c_size_8abf5, Cond.initialized RJx4a65c, Cond.code yJx4a65c_size_8abf5 cJx4a65c_size_8abf5 1 (some .int), Cond.fieldLink RJx4a65c 48 "java/util/ArrayList" "size" "I", Cond.methodLink RX5 180 yX0_init]
def wsX5_ask_r2 : List Cond := [Cond.instanceMethod yX0_init, Cond.code yX0_init cX0_init 4 none, Cond.methodLink RX0 3 objectInit, Cond.instanceMethod objectInit, Cond.code objectInit ⟨#[0xb1]⟩ 1 none, Cond.fieldLink RX0 9 "SeriesMarks$Asking" "marks" "I", Cond.fieldLink RX0 19 "SeriesMarks$Asking" "digits" "I", Cond.fieldLink RX0 22 "SeriesMarks$Asking" "wantedMark" "I", Cond.fieldLink RX0 25 "SeriesMarks$Asking" "wantedValue" "I", Cond.static yX5_digitsOf, Cond.code yX5_digitsOf cX5_digitsOf 3 (some .int), Cond.methodLink RX5 227 yX5_atPlace, Cond.static yX5_atPlace, Cond.code yX5_atPlace cX5_atPlace 2 (some .int), Cond.methodLink RX5 75 yJx4a65c_add_9ea2d, Cond.instanceMethod yJx4a65c_add_9ea2d, Cond.selects RJx4a65c yJx4a65c_add_9ea2d yJx4a65c_add_9ea2d, Cond.code yJx4a65c_add_9ea2d cJx4a65c_add_9ea2d 2 (some .boolean), Cond.fieldLink RJx4a65c 63 "java/util/ArrayList" "modCount" "I", Cond.sameField "java/util/ArrayList" "java/util/AbstractList" "modCount" "I", Cond.fieldLink RJx4a65c 9 "java/util/ArrayList" "elementData" "[Ljava/lang/Object;", Cond.methodLink RJx4a65c 131 yJx4a65c_add_72be8, Cond.instanceMethod yJx4a65c_add_72be8, Cond.selects RJx4a65c yJx4a65c_add_72be8 yJx4a65c_add_72be8]
def wsX5_ask_r3 : List Cond := [Cond.code yJx4a65c_add_72be8 cJx4a65c_add_72be8 4 none, Cond.methodLink RJx4a65c 129 yJx4a65c_grow_d5877, Cond.instanceMethod yJx4a65c_grow_d5877, Cond.selects RJx4a65c yJx4a65c_grow_d5877 yJx4a65c_grow_d5877, Cond.code yJx4a65c_grow_d5877 cJx4a65c_grow_d5877 1 (some (.array (.object "java/lang/Object"))), Cond.methodLink RJx4a65c 69 yJx4a65c_grow_92f84, Cond.instanceMethod yJx4a65c_grow_92f84, Cond.selects RJx4a65c yJx4a65c_grow_92f84 yJx4a65c_grow_92f84, Cond.code yJx4a65c_grow_92f84 cJx4a65c_grow_92f84 4 (some (.array (.object "java/lang/Object"))), Cond.fieldLink RJx4a65c 39 "java/util/ArrayList" "DEFAULTCAPACITY_EMPTY_ELEMENTDATA" "[Ljava/lang/Object;", Cond.methodLink RJx4a65c 79 Lib.Math.max.name, Cond.static Lib.Math.max.name, Cond.initialized "java/lang/Math", Cond.code Lib.Math.max.name Lib.Math.max.code 2 (some .int), Cond.classLink RJx4a65c 7 "java/lang/Object", Cond.methodLink RJx4a65c 73 yJ8_newLength_cabcc, Cond.static yJ8_newLength_cabcc, Cond.initialized RJ8, Cond.code yJ8_newLength_cabcc cJ8_newLength_cabcc 4 (some .int), Cond.methodLink RJ8 194 Lib.Math.max.name, Cond.constant RJ8 200 (2147483639), Cond.methodLink RJ8 201 yJ8_hugeLength_7cf53, Cond.static yJ8_hugeLength_7cf53, Cond.code yJ8_hugeLength_7cf53 cJ8_hugeLength_7cf53 3 (some .int)]
def wsX5_ask_r4 : List Cond := [Cond.methodLink RJx4a65c 66 yJ7_copyOf_1904c, Cond.static yJ7_copyOf_1904c, Cond.initialized RJ7, Cond.code yJ7_copyOf_1904c cJ7_copyOf_1904c 2 (some (.array (.object "java/lang/Object"))), Cond.methodLink RJ7 86 ⟨"java/lang/Object", "getClass", "()Ljava/lang/Class;"⟩, Cond.selects "[Ljava/lang/Object;" ⟨"java/lang/Object", "getClass", "()Ljava/lang/Class;"⟩ ⟨"java/lang/Object", "getClass", "()Ljava/lang/Class;"⟩, Cond.instanceMethod ⟨"java/lang/Object", "getClass", "()Ljava/lang/Class;"⟩, Cond.native ⟨"java/lang/Object", "getClass", "()Ljava/lang/Class;"⟩, Cond.methodLink RJ7 300 yJ7_copyOf_6403c, Cond.static yJ7_copyOf_6403c, Cond.code yJ7_copyOf_6403c cJ7_copyOf_6403c 4 (some (.array (.object "java/lang/Object"))), Cond.classLink RJ7 110 "[Ljava/lang/Object;", Cond.classLink RJ7 2 "java/lang/Object", Cond.methodLink RJ7 304 Lib.Math.min.name, Cond.static Lib.Math.min.name, Cond.code Lib.Math.min.name Lib.Math.min.code 2 (some .int), Cond.methodLink RJ7 150 arraycopyName, Cond.native arraycopyName, Cond.static arraycopyName, Cond.initialized "java/lang/System"]
def wsX5_ask : List Cond := .code yX5_ask cX5_ask 5 (some .int) :: ((wsX5_ask_r1 ++ (wsX5_ask_r2 ++ (wsX5_ask_r3 ++ wsX5_ask_r4))) ++ wsX50 ++ wsX00 ++ wsJx4a65c0)
def wsX5_isAsking : List Cond := .code yX5_isAsking cX5_isAsking 2 (some .boolean) :: ([.fieldLink RX5 19 "SeriesMarks" "askings" "Ljava/util/ArrayList;", .methodLink RX5 69 yJx4a65c_size_8abf5, .instanceMethod yJx4a65c_size_8abf5, .selects RJx4a65c yJx4a65c_size_8abf5 yJx4a65c_size_8abf5, .initialized RJx4a65c, .code yJx4a65c_size_8abf5 cJx4a65c_size_8abf5 1 (some .int), .fieldLink RJx4a65c 48 "java/util/ArrayList" "size" "I"] ++ wsX50 ++ wsJx4a65c0)
def wsX5_answer_r1 : List Cond := [Cond.constantLong RX5 106 (-1), Cond.fieldLink RX5 19 "SeriesMarks" "askings" "Ljava/util/ArrayList;", Cond.classLink RX5 178 "SeriesMarks$Asking", Cond.constantLong RX5 112 (-2), Cond.methodLink RX5 181 yX5_isAsking, Cond.instanceMethod yX5_isAsking, Cond.selects RX5 yX5_isAsking yX5_isAsking, Cond.initialized RX5, Cond.code yX5_isAsking cX5_isAsking 2 (some .boolean), Cond.methodLink RX5 69 yJx4a65c_size_8abf5, Cond.instanceMethod yJx4a65c_size_8abf5, Cond.selects RJx4a65c yJx4a65c_size_8abf5 yJx4a65c_size_8abf5, Cond.initialized RJx4a65c, Cond.code yJx4a65c_size_8abf5 cJx4a65c_size_8abf5 1 (some .int), Cond.fieldLink RJx4a65c 48 "java/util/ArrayList" "size" "I", Cond.methodLink RX5 60 yJx4a65c_get_915e3, Cond.instanceMethod yJx4a65c_get_915e3, Cond.selects RJx4a65c yJx4a65c_get_915e3 yJx4a65c_get_915e3, Cond.code yJx4a65c_get_915e3 cJx4a65c_get_915e3 2 (some (.object "java/lang/Object")), Cond.methodLink RJx4a65c 118 yJ15_checkIndex_7cf53, Cond.static yJ15_checkIndex_7cf53, Cond.initialized RJ15, Cond.code yJ15_checkIndex_7cf53 cJ15_checkIndex_7cf53 2 (some .int), Cond.methodLink RJ15 105 yJ3_checkIndex_8e157]
def wsX5_answer_r2 : List Cond := [Cond.static yJ3_checkIndex_8e157, Cond.initialized RJ3, Cond.code yJ3_checkIndex_8e157 cJ3_checkIndex_8e157 3 (some .int), Cond.methodLink RJx4a65c 123 yJx4a65c_elementData_915e3, Cond.instanceMethod yJx4a65c_elementData_915e3, Cond.selects RJx4a65c yJx4a65c_elementData_915e3 yJx4a65c_elementData_915e3, Cond.code yJx4a65c_elementData_915e3 cJx4a65c_elementData_915e3 2 (some (.object "java/lang/Object")), Cond.fieldLink RJx4a65c 9 "java/util/ArrayList" "elementData" "[Ljava/lang/Object;", Cond.methodLink RX5 51 yX5_isName, Cond.static yX5_isName, Cond.code yX5_isName cX5_isName 1 (some .boolean), Cond.constant RX5 226 (262143), Cond.methodLink RX5 184 yX0_keyOf, Cond.instanceMethod yX0_keyOf, Cond.selects RX0 yX0_keyOf yX0_keyOf, Cond.initialized RX0, Cond.code yX0_keyOf cX0_keyOf 2 (some .int), Cond.fieldLink RX0 22 "SeriesMarks$Asking" "wantedMark" "I", Cond.fieldLink RX0 25 "SeriesMarks$Asking" "wantedValue" "I", Cond.fieldLink RX0 19 "SeriesMarks$Asking" "digits" "I", Cond.static yX5_digit, Cond.code yX5_digit cX5_digit 2 (some .int), Cond.methodLink RX5 108 yX5_isSpan, Cond.instanceMethod yX5_isSpan]
def wsX5_answer_r3 : List Cond := [Cond.selects RX5 yX5_isSpan yX5_isSpan, Cond.code yX5_isSpan cX5_isSpan 3 (some .boolean), Cond.fieldLink RX5 43 "SeriesMarks" "tick" "I", Cond.methodLink RX5 117 yX5_growthOfAlike, Cond.instanceMethod yX5_growthOfAlike, Cond.selects RX5 yX5_growthOfAlike yX5_growthOfAlike, Cond.code yX5_growthOfAlike cX5_growthOfAlike 9 (some .long), Cond.fieldLink RX5 16 "SeriesMarks" "samples" "Ljava/util/ArrayList;", Cond.classLink RX5 83 "SeriesMarks$Sample", Cond.methodLink RX5 138 yX2_isWithin, Cond.instanceMethod yX2_isWithin, Cond.selects RX2 yX2_isWithin yX2_isWithin, Cond.initialized RX2, Cond.code yX2_isWithin cX2_isWithin 3 (some .boolean), Cond.fieldLink RX2 13 "SeriesMarks$Sample" "tick" "I"]
def wsX5_answer : List Cond := .code yX5_answer cX5_answer 6 (some .long) :: ((wsX5_answer_r1 ++ (wsX5_answer_r2 ++ wsX5_answer_r3)) ++ wsX50 ++ wsX00 ++ wsJx4a65c0 ++ wsX20)
def wsX5_gatherKeys_r1 : List Cond := [Cond.fieldLink RX5 40 "SeriesMarks" "workNames" "LSeriesMarks$NameSet;", Cond.fieldLink RX5 36 "SeriesMarks" "seenNames" "LSeriesMarks$NameSet;", Cond.methodLink RX5 121 yX5_gatherSeen, Cond.instanceMethod yX5_gatherSeen, Cond.selects RX5 yX5_gatherSeen yX5_gatherSeen, Cond.initialized RX5, Cond.code yX5_gatherSeen cX5_gatherSeen 5 none, Cond.fieldLink RX5 16 "SeriesMarks" "samples" "Ljava/util/ArrayList;", Cond.classLink RX5 83 "SeriesMarks$Sample", Cond.methodLink RX5 135 yX1_makeEmpty, Cond.instanceMethod yX1_makeEmpty, Cond.selects RX1 yX1_makeEmpty yX1_makeEmpty, Cond.initialized RX1, Cond.code yX1_makeEmpty cX1_makeEmpty 1 none, Cond.fieldLink RX1 15 "SeriesMarks$NameSet" "size" "I", Cond.methodLink RX5 69 yJx4a65c_size_8abf5, Cond.instanceMethod yJx4a65c_size_8abf5, Cond.selects RJx4a65c yJx4a65c_size_8abf5 yJx4a65c_size_8abf5, Cond.initialized RJx4a65c, Cond.code yJx4a65c_size_8abf5 cJx4a65c_size_8abf5 1 (some .int), Cond.fieldLink RJx4a65c 48 "java/util/ArrayList" "size" "I", Cond.methodLink RX5 60 yJx4a65c_get_915e3, Cond.instanceMethod yJx4a65c_get_915e3, Cond.selects RJx4a65c yJx4a65c_get_915e3 yJx4a65c_get_915e3]
def wsX5_gatherKeys_r2 : List Cond := [Cond.code yJx4a65c_get_915e3 cJx4a65c_get_915e3 2 (some (.object "java/lang/Object")), Cond.methodLink RJx4a65c 118 yJ15_checkIndex_7cf53, Cond.static yJ15_checkIndex_7cf53, Cond.initialized RJ15, Cond.code yJ15_checkIndex_7cf53 cJ15_checkIndex_7cf53 2 (some .int), Cond.methodLink RJ15 105 yJ3_checkIndex_8e157, Cond.static yJ3_checkIndex_8e157, Cond.initialized RJ3, Cond.code yJ3_checkIndex_8e157 cJ3_checkIndex_8e157 3 (some .int), Cond.methodLink RJx4a65c 123 yJx4a65c_elementData_915e3, Cond.instanceMethod yJx4a65c_elementData_915e3, Cond.selects RJx4a65c yJx4a65c_elementData_915e3 yJx4a65c_elementData_915e3, Cond.code yJx4a65c_elementData_915e3 cJx4a65c_elementData_915e3 2 (some (.object "java/lang/Object")), Cond.fieldLink RJx4a65c 9 "java/util/ArrayList" "elementData" "[Ljava/lang/Object;", Cond.methodLink RX5 138 yX2_isWithin, Cond.instanceMethod yX2_isWithin, Cond.selects RX2 yX2_isWithin yX2_isWithin, Cond.initialized RX2, Cond.code yX2_isWithin cX2_isWithin 3 (some .boolean), Cond.fieldLink RX2 13 "SeriesMarks$Sample" "tick" "I", Cond.methodLink RX5 146 yX1_put, Cond.instanceMethod yX1_put, Cond.selects RX1 yX1_put yX1_put, Cond.code yX1_put cX1_put 4 none]
def wsX5_gatherKeys_r3 : List Cond := [Cond.fieldLink RX1 9 "SeriesMarks$NameSet" "row" "[I", Cond.methodLink RX1 23 arraycopyName, Cond.native arraycopyName, Cond.static arraycopyName, Cond.initialized "java/lang/System", Cond.methodLink RX1 19 yX1_howManyBelow, Cond.instanceMethod yX1_howManyBelow, Cond.selects RX1 yX1_howManyBelow yX1_howManyBelow, Cond.code yX1_howManyBelow cX1_howManyBelow 4 (some .int), Cond.methodLink RX1 29 yJ6_highestOneBit_0f7a4, Cond.static yJ6_highestOneBit_0f7a4, Cond.initialized RJ6, Cond.code yJ6_highestOneBit_0f7a4 cJ6_highestOneBit_0f7a4 1 (some .int), Cond.constant RJ6 127 (-2147483648), Cond.methodLink RJ6 51 yJ6_numberOfLeadingZeros_0f7a4, Cond.static yJ6_numberOfLeadingZeros_0f7a4, Cond.code yJ6_numberOfLeadingZeros_0f7a4 cJ6_numberOfLeadingZeros_0f7a4 2 (some .int), Cond.constant RJ6 264 (65536), Cond.methodLink RX5 184 yX0_keyOf, Cond.instanceMethod yX0_keyOf, Cond.selects RX0 yX0_keyOf yX0_keyOf, Cond.initialized RX0, Cond.code yX0_keyOf cX0_keyOf 2 (some .int), Cond.fieldLink RX0 22 "SeriesMarks$Asking" "wantedMark" "I"]
def wsX5_gatherKeys_r4 : List Cond := [Cond.fieldLink RX0 25 "SeriesMarks$Asking" "wantedValue" "I", Cond.fieldLink RX0 19 "SeriesMarks$Asking" "digits" "I", Cond.static yX5_digit, Cond.code yX5_digit cX5_digit 2 (some .int)]
def wsX5_gatherKeys : List Cond := .code yX5_gatherKeys cX5_gatherKeys 6 none :: ((wsX5_gatherKeys_r1 ++ (wsX5_gatherKeys_r2 ++ (wsX5_gatherKeys_r3 ++ wsX5_gatherKeys_r4))) ++ wsX50 ++ wsX10 ++ wsX20 ++ wsJx4a65c0 ++ wsX00)
def wsX5_keys_r1 : List Cond := [Cond.fieldLink RX5 19 "SeriesMarks" "askings" "Ljava/util/ArrayList;", Cond.classLink RX5 178 "SeriesMarks$Asking", Cond.fieldLink RX5 40 "SeriesMarks" "workNames" "LSeriesMarks$NameSet;", Cond.methodLink RX5 181 yX5_isAsking, Cond.instanceMethod yX5_isAsking, Cond.selects RX5 yX5_isAsking yX5_isAsking, Cond.initialized RX5, Cond.code yX5_isAsking cX5_isAsking 2 (some .boolean), Cond.methodLink RX5 69 yJx4a65c_size_8abf5, Cond.instanceMethod yJx4a65c_size_8abf5, Cond.selects RJx4a65c yJx4a65c_size_8abf5 yJx4a65c_size_8abf5, Cond.initialized RJx4a65c, Cond.code yJx4a65c_size_8abf5 cJx4a65c_size_8abf5 1 (some .int), Cond.fieldLink RJx4a65c 48 "java/util/ArrayList" "size" "I", Cond.methodLink RX5 108 yX5_isSpan, Cond.instanceMethod yX5_isSpan, Cond.selects RX5 yX5_isSpan yX5_isSpan, Cond.code yX5_isSpan cX5_isSpan 3 (some .boolean), Cond.fieldLink RX5 43 "SeriesMarks" "tick" "I", Cond.methodLink RX5 60 yJx4a65c_get_915e3, Cond.instanceMethod yJx4a65c_get_915e3, Cond.selects RJx4a65c yJx4a65c_get_915e3 yJx4a65c_get_915e3, Cond.code yJx4a65c_get_915e3 cJx4a65c_get_915e3 2 (some (.object "java/lang/Object")), Cond.methodLink RJx4a65c 118 yJ15_checkIndex_7cf53]
def wsX5_keys_r2 : List Cond := [Cond.static yJ15_checkIndex_7cf53, Cond.initialized RJ15, Cond.code yJ15_checkIndex_7cf53 cJ15_checkIndex_7cf53 2 (some .int), Cond.methodLink RJ15 105 yJ3_checkIndex_8e157, Cond.static yJ3_checkIndex_8e157, Cond.initialized RJ3, Cond.code yJ3_checkIndex_8e157 cJ3_checkIndex_8e157 3 (some .int), Cond.methodLink RJx4a65c 123 yJx4a65c_elementData_915e3, Cond.instanceMethod yJx4a65c_elementData_915e3, Cond.selects RJx4a65c yJx4a65c_elementData_915e3 yJx4a65c_elementData_915e3, Cond.code yJx4a65c_elementData_915e3 cJx4a65c_elementData_915e3 2 (some (.object "java/lang/Object")), Cond.fieldLink RJx4a65c 9 "java/util/ArrayList" "elementData" "[Ljava/lang/Object;", Cond.methodLink RX5 190 yX5_gatherKeys, Cond.instanceMethod yX5_gatherKeys, Cond.selects RX5 yX5_gatherKeys yX5_gatherKeys, Cond.code yX5_gatherKeys cX5_gatherKeys 6 none, Cond.fieldLink RX5 36 "SeriesMarks" "seenNames" "LSeriesMarks$NameSet;", Cond.methodLink RX5 121 yX5_gatherSeen, Cond.instanceMethod yX5_gatherSeen, Cond.selects RX5 yX5_gatherSeen yX5_gatherSeen, Cond.code yX5_gatherSeen cX5_gatherSeen 5 none, Cond.fieldLink RX5 16 "SeriesMarks" "samples" "Ljava/util/ArrayList;", Cond.classLink RX5 83 "SeriesMarks$Sample", Cond.methodLink RX5 135 yX1_makeEmpty]
def wsX5_keys_r3 : List Cond := [Cond.instanceMethod yX1_makeEmpty, Cond.selects RX1 yX1_makeEmpty yX1_makeEmpty, Cond.initialized RX1, Cond.code yX1_makeEmpty cX1_makeEmpty 1 none, Cond.fieldLink RX1 15 "SeriesMarks$NameSet" "size" "I", Cond.methodLink RX5 138 yX2_isWithin, Cond.instanceMethod yX2_isWithin, Cond.selects RX2 yX2_isWithin yX2_isWithin, Cond.initialized RX2, Cond.code yX2_isWithin cX2_isWithin 3 (some .boolean), Cond.fieldLink RX2 13 "SeriesMarks$Sample" "tick" "I", Cond.methodLink RX5 146 yX1_put, Cond.instanceMethod yX1_put, Cond.selects RX1 yX1_put yX1_put, Cond.code yX1_put cX1_put 4 none, Cond.fieldLink RX1 9 "SeriesMarks$NameSet" "row" "[I", Cond.methodLink RX1 23 arraycopyName, Cond.native arraycopyName, Cond.static arraycopyName, Cond.initialized "java/lang/System", Cond.methodLink RX1 19 yX1_howManyBelow, Cond.instanceMethod yX1_howManyBelow, Cond.selects RX1 yX1_howManyBelow yX1_howManyBelow, Cond.code yX1_howManyBelow cX1_howManyBelow 4 (some .int)]
def wsX5_keys_r4 : List Cond := [Cond.methodLink RX1 29 yJ6_highestOneBit_0f7a4, Cond.static yJ6_highestOneBit_0f7a4, Cond.initialized RJ6, Cond.code yJ6_highestOneBit_0f7a4 cJ6_highestOneBit_0f7a4 1 (some .int), Cond.constant RJ6 127 (-2147483648), Cond.methodLink RJ6 51 yJ6_numberOfLeadingZeros_0f7a4, Cond.static yJ6_numberOfLeadingZeros_0f7a4, Cond.code yJ6_numberOfLeadingZeros_0f7a4 cJ6_numberOfLeadingZeros_0f7a4 2 (some .int), Cond.constant RJ6 264 (65536), Cond.methodLink RX5 184 yX0_keyOf, Cond.instanceMethod yX0_keyOf, Cond.selects RX0 yX0_keyOf yX0_keyOf, Cond.initialized RX0, Cond.code yX0_keyOf cX0_keyOf 2 (some .int), Cond.fieldLink RX0 22 "SeriesMarks$Asking" "wantedMark" "I", Cond.fieldLink RX0 25 "SeriesMarks$Asking" "wantedValue" "I", Cond.fieldLink RX0 19 "SeriesMarks$Asking" "digits" "I", Cond.static yX5_digit, Cond.code yX5_digit cX5_digit 2 (some .int)]
def wsX5_keys : List Cond := .code yX5_keys cX5_keys 4 (some .int) :: ((wsX5_keys_r1 ++ (wsX5_keys_r2 ++ (wsX5_keys_r3 ++ wsX5_keys_r4))) ++ wsX50 ++ wsX10 ++ wsJx4a65c0 ++ wsX20 ++ wsX00)
def wsX5_key_r1 : List Cond := [Cond.fieldLink RX5 19 "SeriesMarks" "askings" "Ljava/util/ArrayList;", Cond.classLink RX5 178 "SeriesMarks$Asking", Cond.fieldLink RX5 40 "SeriesMarks" "workNames" "LSeriesMarks$NameSet;", Cond.methodLink RX5 181 yX5_isAsking, Cond.instanceMethod yX5_isAsking, Cond.selects RX5 yX5_isAsking yX5_isAsking, Cond.initialized RX5, Cond.code yX5_isAsking cX5_isAsking 2 (some .boolean), Cond.methodLink RX5 69 yJx4a65c_size_8abf5, Cond.instanceMethod yJx4a65c_size_8abf5, Cond.selects RJx4a65c yJx4a65c_size_8abf5 yJx4a65c_size_8abf5, Cond.initialized RJx4a65c, Cond.code yJx4a65c_size_8abf5 cJx4a65c_size_8abf5 1 (some .int), Cond.fieldLink RJx4a65c 48 "java/util/ArrayList" "size" "I", Cond.methodLink RX5 108 yX5_isSpan, Cond.instanceMethod yX5_isSpan, Cond.selects RX5 yX5_isSpan yX5_isSpan, Cond.code yX5_isSpan cX5_isSpan 3 (some .boolean), Cond.fieldLink RX5 43 "SeriesMarks" "tick" "I", Cond.methodLink RX5 60 yJx4a65c_get_915e3, Cond.instanceMethod yJx4a65c_get_915e3, Cond.selects RJx4a65c yJx4a65c_get_915e3 yJx4a65c_get_915e3, Cond.code yJx4a65c_get_915e3 cJx4a65c_get_915e3 2 (some (.object "java/lang/Object")), Cond.methodLink RJx4a65c 118 yJ15_checkIndex_7cf53]
def wsX5_key_r2 : List Cond := [Cond.static yJ15_checkIndex_7cf53, Cond.initialized RJ15, Cond.code yJ15_checkIndex_7cf53 cJ15_checkIndex_7cf53 2 (some .int), Cond.methodLink RJ15 105 yJ3_checkIndex_8e157, Cond.static yJ3_checkIndex_8e157, Cond.initialized RJ3, Cond.code yJ3_checkIndex_8e157 cJ3_checkIndex_8e157 3 (some .int), Cond.methodLink RJx4a65c 123 yJx4a65c_elementData_915e3, Cond.instanceMethod yJx4a65c_elementData_915e3, Cond.selects RJx4a65c yJx4a65c_elementData_915e3 yJx4a65c_elementData_915e3, Cond.code yJx4a65c_elementData_915e3 cJx4a65c_elementData_915e3 2 (some (.object "java/lang/Object")), Cond.fieldLink RJx4a65c 9 "java/util/ArrayList" "elementData" "[Ljava/lang/Object;", Cond.methodLink RX5 190 yX5_gatherKeys, Cond.instanceMethod yX5_gatherKeys, Cond.selects RX5 yX5_gatherKeys yX5_gatherKeys, Cond.code yX5_gatherKeys cX5_gatherKeys 6 none, Cond.fieldLink RX5 36 "SeriesMarks" "seenNames" "LSeriesMarks$NameSet;", Cond.methodLink RX5 121 yX5_gatherSeen, Cond.instanceMethod yX5_gatherSeen, Cond.selects RX5 yX5_gatherSeen yX5_gatherSeen, Cond.code yX5_gatherSeen cX5_gatherSeen 5 none, Cond.fieldLink RX5 16 "SeriesMarks" "samples" "Ljava/util/ArrayList;", Cond.classLink RX5 83 "SeriesMarks$Sample", Cond.methodLink RX5 135 yX1_makeEmpty]
def wsX5_key_r3 : List Cond := [Cond.instanceMethod yX1_makeEmpty, Cond.selects RX1 yX1_makeEmpty yX1_makeEmpty, Cond.initialized RX1, Cond.code yX1_makeEmpty cX1_makeEmpty 1 none, Cond.fieldLink RX1 15 "SeriesMarks$NameSet" "size" "I", Cond.methodLink RX5 138 yX2_isWithin, Cond.instanceMethod yX2_isWithin, Cond.selects RX2 yX2_isWithin yX2_isWithin, Cond.initialized RX2, Cond.code yX2_isWithin cX2_isWithin 3 (some .boolean), Cond.fieldLink RX2 13 "SeriesMarks$Sample" "tick" "I", Cond.methodLink RX5 146 yX1_put, Cond.instanceMethod yX1_put, Cond.selects RX1 yX1_put yX1_put, Cond.code yX1_put cX1_put 4 none, Cond.fieldLink RX1 9 "SeriesMarks$NameSet" "row" "[I", Cond.methodLink RX1 23 arraycopyName, Cond.native arraycopyName, Cond.static arraycopyName, Cond.initialized "java/lang/System", Cond.methodLink RX1 19 yX1_howManyBelow, Cond.instanceMethod yX1_howManyBelow, Cond.selects RX1 yX1_howManyBelow yX1_howManyBelow, Cond.code yX1_howManyBelow cX1_howManyBelow 4 (some .int)]
def wsX5_key_r4 : List Cond := [Cond.methodLink RX1 29 yJ6_highestOneBit_0f7a4, Cond.static yJ6_highestOneBit_0f7a4, Cond.initialized RJ6, Cond.code yJ6_highestOneBit_0f7a4 cJ6_highestOneBit_0f7a4 1 (some .int), Cond.constant RJ6 127 (-2147483648), Cond.methodLink RJ6 51 yJ6_numberOfLeadingZeros_0f7a4, Cond.static yJ6_numberOfLeadingZeros_0f7a4, Cond.code yJ6_numberOfLeadingZeros_0f7a4 cJ6_numberOfLeadingZeros_0f7a4 2 (some .int), Cond.constant RJ6 264 (65536), Cond.methodLink RX5 184 yX0_keyOf, Cond.instanceMethod yX0_keyOf, Cond.selects RX0 yX0_keyOf yX0_keyOf, Cond.initialized RX0, Cond.code yX0_keyOf cX0_keyOf 2 (some .int), Cond.fieldLink RX0 22 "SeriesMarks$Asking" "wantedMark" "I", Cond.fieldLink RX0 25 "SeriesMarks$Asking" "wantedValue" "I", Cond.fieldLink RX0 19 "SeriesMarks$Asking" "digits" "I", Cond.static yX5_digit, Cond.code yX5_digit cX5_digit 2 (some .int)]
def wsX5_key : List Cond := .code yX5_key cX5_key 5 (some .int) :: ((wsX5_key_r1 ++ (wsX5_key_r2 ++ (wsX5_key_r3 ++ wsX5_key_r4))) ++ wsX50 ++ wsX10 ++ wsJx4a65c0 ++ wsX20 ++ wsX00)
def wsX5_firstLack : List Cond := .code yX5_firstLack cX5_firstLack 5 (some .int) :: ([.fieldLink RX5 25 "SeriesMarks" "shortening" "LSeriesMarks$Shortening;"] ++ wsX50 ++ wsX40)
def wsX5_works_r1 : List Cond := [Cond.fieldLink RX5 19 "SeriesMarks" "askings" "Ljava/util/ArrayList;", Cond.classLink RX5 178 "SeriesMarks$Asking", Cond.fieldLink RX5 25 "SeriesMarks" "shortening" "LSeriesMarks$Shortening;", Cond.methodLink RX5 181 yX5_isAsking, Cond.instanceMethod yX5_isAsking, Cond.selects RX5 yX5_isAsking yX5_isAsking, Cond.initialized RX5, Cond.code yX5_isAsking cX5_isAsking 2 (some .boolean), Cond.methodLink RX5 69 yJx4a65c_size_8abf5, Cond.instanceMethod yJx4a65c_size_8abf5, Cond.selects RJx4a65c yJx4a65c_size_8abf5 yJx4a65c_size_8abf5, Cond.initialized RJx4a65c, Cond.code yJx4a65c_size_8abf5 cJx4a65c_size_8abf5 1 (some .int), Cond.fieldLink RJx4a65c 48 "java/util/ArrayList" "size" "I", Cond.methodLink RX5 108 yX5_isSpan, Cond.instanceMethod yX5_isSpan, Cond.selects RX5 yX5_isSpan yX5_isSpan, Cond.code yX5_isSpan cX5_isSpan 3 (some .boolean), Cond.fieldLink RX5 43 "SeriesMarks" "tick" "I", Cond.methodLink RX5 60 yJx4a65c_get_915e3, Cond.instanceMethod yJx4a65c_get_915e3, Cond.selects RJx4a65c yJx4a65c_get_915e3 yJx4a65c_get_915e3, Cond.code yJx4a65c_get_915e3 cJx4a65c_get_915e3 2 (some (.object "java/lang/Object")), Cond.methodLink RJx4a65c 118 yJ15_checkIndex_7cf53]
def wsX5_works_r2 : List Cond := [Cond.static yJ15_checkIndex_7cf53, Cond.initialized RJ15, Cond.code yJ15_checkIndex_7cf53 cJ15_checkIndex_7cf53 2 (some .int), Cond.methodLink RJ15 105 yJ3_checkIndex_8e157, Cond.static yJ3_checkIndex_8e157, Cond.initialized RJ3, Cond.code yJ3_checkIndex_8e157 cJ3_checkIndex_8e157 3 (some .int), Cond.methodLink RJx4a65c 123 yJx4a65c_elementData_915e3, Cond.instanceMethod yJx4a65c_elementData_915e3, Cond.selects RJx4a65c yJx4a65c_elementData_915e3 yJx4a65c_elementData_915e3, Cond.code yJx4a65c_elementData_915e3 cJx4a65c_elementData_915e3 2 (some (.object "java/lang/Object")), Cond.fieldLink RJx4a65c 9 "java/util/ArrayList" "elementData" "[Ljava/lang/Object;", Cond.methodLink RX5 200 yX5_firstLack, Cond.instanceMethod yX5_firstLack, Cond.selects RX5 yX5_firstLack yX5_firstLack, Cond.code yX5_firstLack cX5_firstLack 5 (some .int), Cond.methodLink RX5 203 yX4_isAnyFolded, Cond.instanceMethod yX4_isAnyFolded, Cond.selects RX4 yX4_isAnyFolded yX4_isAnyFolded, Cond.initialized RX4, Cond.code yX4_isAnyFolded cX4_isAnyFolded 4 (some .boolean), Cond.fieldLink RX4 15 "SeriesMarks$Shortening" "chiefsAt" "[I", Cond.constant RX4 18 (16434824), Cond.static yX5_hasBit]
def wsX5_works_r3 : List Cond := [Cond.code yX5_hasBit cX5_hasBit 2 (some .boolean)]
def wsX5_works : List Cond := .code yX5_works cX5_works 5 (some .int) :: ((wsX5_works_r1 ++ (wsX5_works_r2 ++ wsX5_works_r3)) ++ wsX50 ++ wsX00 ++ wsJx4a65c0 ++ wsX40)
def wsX5_lacks_r1 : List Cond := [Cond.fieldLink RX5 19 "SeriesMarks" "askings" "Ljava/util/ArrayList;", Cond.classLink RX5 178 "SeriesMarks$Asking", Cond.methodLink RX5 181 yX5_isAsking, Cond.instanceMethod yX5_isAsking, Cond.selects RX5 yX5_isAsking yX5_isAsking, Cond.initialized RX5, Cond.code yX5_isAsking cX5_isAsking 2 (some .boolean), Cond.methodLink RX5 69 yJx4a65c_size_8abf5, Cond.instanceMethod yJx4a65c_size_8abf5, Cond.selects RJx4a65c yJx4a65c_size_8abf5 yJx4a65c_size_8abf5, Cond.initialized RJx4a65c, Cond.code yJx4a65c_size_8abf5 cJx4a65c_size_8abf5 1 (some .int), Cond.fieldLink RJx4a65c 48 "java/util/ArrayList" "size" "I", Cond.methodLink RX5 108 yX5_isSpan, Cond.instanceMethod yX5_isSpan, Cond.selects RX5 yX5_isSpan yX5_isSpan, Cond.code yX5_isSpan cX5_isSpan 3 (some .boolean), Cond.fieldLink RX5 43 "SeriesMarks" "tick" "I", Cond.methodLink RX5 60 yJx4a65c_get_915e3, Cond.instanceMethod yJx4a65c_get_915e3, Cond.selects RJx4a65c yJx4a65c_get_915e3 yJx4a65c_get_915e3, Cond.code yJx4a65c_get_915e3 cJx4a65c_get_915e3 2 (some (.object "java/lang/Object")), Cond.methodLink RJx4a65c 118 yJ15_checkIndex_7cf53, Cond.static yJ15_checkIndex_7cf53]
def wsX5_lacks_r2 : List Cond := [Cond.initialized RJ15, Cond.code yJ15_checkIndex_7cf53 cJ15_checkIndex_7cf53 2 (some .int), Cond.methodLink RJ15 105 yJ3_checkIndex_8e157, Cond.static yJ3_checkIndex_8e157, Cond.initialized RJ3, Cond.code yJ3_checkIndex_8e157 cJ3_checkIndex_8e157 3 (some .int), Cond.methodLink RJx4a65c 123 yJx4a65c_elementData_915e3, Cond.instanceMethod yJx4a65c_elementData_915e3, Cond.selects RJx4a65c yJx4a65c_elementData_915e3 yJx4a65c_elementData_915e3, Cond.code yJx4a65c_elementData_915e3 cJx4a65c_elementData_915e3 2 (some (.object "java/lang/Object")), Cond.fieldLink RJx4a65c 9 "java/util/ArrayList" "elementData" "[Ljava/lang/Object;", Cond.methodLink RX5 200 yX5_firstLack, Cond.instanceMethod yX5_firstLack, Cond.selects RX5 yX5_firstLack yX5_firstLack, Cond.code yX5_firstLack cX5_firstLack 5 (some .int), Cond.fieldLink RX5 25 "SeriesMarks" "shortening" "LSeriesMarks$Shortening;"]
def wsX5_lacks : List Cond := .code yX5_lacks cX5_lacks 4 (some .int) :: ((wsX5_lacks_r1 ++ wsX5_lacks_r2) ++ wsX50 ++ wsX00 ++ wsJx4a65c0 ++ wsX40)
def wsX5_changeWeight : List Cond := .code yX5_changeWeight cX5_changeWeight 4 (some .int) :: ([.fieldLink RX5 29 "SeriesMarks" "weights" "[I"] ++ wsX50)
def wsX5_weigh_r1 : List Cond := [Cond.fieldLink RX5 19 "SeriesMarks" "askings" "Ljava/util/ArrayList;", Cond.classLink RX5 178 "SeriesMarks$Asking", Cond.methodLink RX5 181 yX5_isAsking, Cond.instanceMethod yX5_isAsking, Cond.selects RX5 yX5_isAsking yX5_isAsking, Cond.initialized RX5, Cond.code yX5_isAsking cX5_isAsking 2 (some .boolean), Cond.methodLink RX5 69 yJx4a65c_size_8abf5, Cond.instanceMethod yJx4a65c_size_8abf5, Cond.selects RJx4a65c yJx4a65c_size_8abf5 yJx4a65c_size_8abf5, Cond.initialized RJx4a65c, Cond.code yJx4a65c_size_8abf5 cJx4a65c_size_8abf5 1 (some .int), Cond.fieldLink RJx4a65c 48 "java/util/ArrayList" "size" "I", Cond.methodLink RX5 126 yX5_isMark, Cond.static yX5_isMark, Cond.code yX5_isMark cX5_isMark 1 (some .boolean), Cond.methodLink RX5 60 yJx4a65c_get_915e3, Cond.instanceMethod yJx4a65c_get_915e3, Cond.selects RJx4a65c yJx4a65c_get_915e3 yJx4a65c_get_915e3, Cond.code yJx4a65c_get_915e3 cJx4a65c_get_915e3 2 (some (.object "java/lang/Object")), Cond.methodLink RJx4a65c 118 yJ15_checkIndex_7cf53, Cond.static yJ15_checkIndex_7cf53, Cond.initialized RJ15, Cond.code yJ15_checkIndex_7cf53 cJ15_checkIndex_7cf53 2 (some .int)]
def wsX5_weigh_r2 : List Cond := [Cond.methodLink RJ15 105 yJ3_checkIndex_8e157, Cond.static yJ3_checkIndex_8e157, Cond.initialized RJ3, Cond.code yJ3_checkIndex_8e157 cJ3_checkIndex_8e157 3 (some .int), Cond.methodLink RJx4a65c 123 yJx4a65c_elementData_915e3, Cond.instanceMethod yJx4a65c_elementData_915e3, Cond.selects RJx4a65c yJx4a65c_elementData_915e3 yJx4a65c_elementData_915e3, Cond.code yJx4a65c_elementData_915e3 cJx4a65c_elementData_915e3 2 (some (.object "java/lang/Object")), Cond.fieldLink RJx4a65c 9 "java/util/ArrayList" "elementData" "[Ljava/lang/Object;", Cond.methodLink RX5 206 yX0_changeWorth, Cond.instanceMethod yX0_changeWorth, Cond.selects RX0 yX0_changeWorth yX0_changeWorth, Cond.initialized RX0, Cond.code yX0_changeWorth cX0_changeWorth 3 (some .int), Cond.fieldLink RX0 32 "SeriesMarks$Asking" "worth" "I", Cond.methodLink RX5 209 yX5_changeWeight, Cond.instanceMethod yX5_changeWeight, Cond.selects RX5 yX5_changeWeight yX5_changeWeight, Cond.code yX5_changeWeight cX5_changeWeight 4 (some .int), Cond.fieldLink RX5 29 "SeriesMarks" "weights" "[I"]
def wsX5_weigh : List Cond := .code yX5_weigh cX5_weigh 5 (some .int) :: ((wsX5_weigh_r1 ++ wsX5_weigh_r2) ++ wsX50 ++ wsJx4a65c0 ++ wsX00)
def wsX5_lossOf_r1 : List Cond := [Cond.fieldLink RX5 29 "SeriesMarks" "weights" "[I", Cond.fieldLink RX5 19 "SeriesMarks" "askings" "Ljava/util/ArrayList;", Cond.classLink RX5 178 "SeriesMarks$Asking", Cond.methodLink RX5 175 yX5_hasBit, Cond.static yX5_hasBit, Cond.initialized RX5, Cond.code yX5_hasBit cX5_hasBit 2 (some .boolean), Cond.methodLink RX5 69 yJx4a65c_size_8abf5, Cond.instanceMethod yJx4a65c_size_8abf5, Cond.selects RJx4a65c yJx4a65c_size_8abf5 yJx4a65c_size_8abf5, Cond.initialized RJx4a65c, Cond.code yJx4a65c_size_8abf5 cJx4a65c_size_8abf5 1 (some .int), Cond.fieldLink RJx4a65c 48 "java/util/ArrayList" "size" "I", Cond.methodLink RX5 60 yJx4a65c_get_915e3, Cond.instanceMethod yJx4a65c_get_915e3, Cond.selects RJx4a65c yJx4a65c_get_915e3 yJx4a65c_get_915e3, Cond.code yJx4a65c_get_915e3 cJx4a65c_get_915e3 2 (some (.object "java/lang/Object")), Cond.methodLink RJx4a65c 118 yJ15_checkIndex_7cf53, Cond.static yJ15_checkIndex_7cf53, Cond.initialized RJ15, Cond.code yJ15_checkIndex_7cf53 cJ15_checkIndex_7cf53 2 (some .int), Cond.methodLink RJ15 105 yJ3_checkIndex_8e157, Cond.static yJ3_checkIndex_8e157, Cond.initialized RJ3]
def wsX5_lossOf_r2 : List Cond := [Cond.code yJ3_checkIndex_8e157 cJ3_checkIndex_8e157 3 (some .int), Cond.methodLink RJx4a65c 123 yJx4a65c_elementData_915e3, Cond.instanceMethod yJx4a65c_elementData_915e3, Cond.selects RJx4a65c yJx4a65c_elementData_915e3 yJx4a65c_elementData_915e3, Cond.code yJx4a65c_elementData_915e3 cJx4a65c_elementData_915e3 2 (some (.object "java/lang/Object")), Cond.fieldLink RJx4a65c 9 "java/util/ArrayList" "elementData" "[Ljava/lang/Object;"]
def wsX5_lossOf : List Cond := .code yX5_lossOf cX5_lossOf 5 (some .int) :: ((wsX5_lossOf_r1 ++ wsX5_lossOf_r2) ++ wsX50 ++ wsX00 ++ wsJx4a65c0)
def wsX5_loss_r1 : List Cond := [Cond.methodLink RX5 132 yX5_isSetOfMarks, Cond.static yX5_isSetOfMarks, Cond.initialized RX5, Cond.code yX5_isSetOfMarks cX5_isSetOfMarks 1 (some .boolean), Cond.methodLink RX5 212 yX5_lossOf, Cond.instanceMethod yX5_lossOf, Cond.selects RX5 yX5_lossOf yX5_lossOf, Cond.code yX5_lossOf cX5_lossOf 5 (some .int), Cond.fieldLink RX5 29 "SeriesMarks" "weights" "[I", Cond.fieldLink RX5 19 "SeriesMarks" "askings" "Ljava/util/ArrayList;", Cond.classLink RX5 178 "SeriesMarks$Asking", Cond.methodLink RX5 175 yX5_hasBit, Cond.static yX5_hasBit, Cond.code yX5_hasBit cX5_hasBit 2 (some .boolean), Cond.methodLink RX5 69 yJx4a65c_size_8abf5, Cond.instanceMethod yJx4a65c_size_8abf5, Cond.selects RJx4a65c yJx4a65c_size_8abf5 yJx4a65c_size_8abf5, Cond.initialized RJx4a65c, Cond.code yJx4a65c_size_8abf5 cJx4a65c_size_8abf5 1 (some .int), Cond.fieldLink RJx4a65c 48 "java/util/ArrayList" "size" "I", Cond.methodLink RX5 60 yJx4a65c_get_915e3, Cond.instanceMethod yJx4a65c_get_915e3, Cond.selects RJx4a65c yJx4a65c_get_915e3 yJx4a65c_get_915e3, Cond.code yJx4a65c_get_915e3 cJx4a65c_get_915e3 2 (some (.object "java/lang/Object"))]
def wsX5_loss_r2 : List Cond := [Cond.methodLink RJx4a65c 118 yJ15_checkIndex_7cf53, Cond.static yJ15_checkIndex_7cf53, Cond.initialized RJ15, Cond.code yJ15_checkIndex_7cf53 cJ15_checkIndex_7cf53 2 (some .int), Cond.methodLink RJ15 105 yJ3_checkIndex_8e157, Cond.static yJ3_checkIndex_8e157, Cond.initialized RJ3, Cond.code yJ3_checkIndex_8e157 cJ3_checkIndex_8e157 3 (some .int), Cond.methodLink RJx4a65c 123 yJx4a65c_elementData_915e3, Cond.instanceMethod yJx4a65c_elementData_915e3, Cond.selects RJx4a65c yJx4a65c_elementData_915e3 yJx4a65c_elementData_915e3, Cond.code yJx4a65c_elementData_915e3 cJx4a65c_elementData_915e3 2 (some (.object "java/lang/Object")), Cond.fieldLink RJx4a65c 9 "java/util/ArrayList" "elementData" "[Ljava/lang/Object;"]
def wsX5_loss : List Cond := .code yX5_loss cX5_loss 2 (some .int) :: ((wsX5_loss_r1 ++ wsX5_loss_r2) ++ wsX50 ++ wsX00 ++ wsJx4a65c0)
def wsX5_plan_r1 : List Cond := [Cond.methodLink RX5 108 yX5_isSpan, Cond.instanceMethod yX5_isSpan, Cond.selects RX5 yX5_isSpan yX5_isSpan, Cond.initialized RX5, Cond.code yX5_isSpan cX5_isSpan 3 (some .boolean), Cond.fieldLink RX5 43 "SeriesMarks" "tick" "I", Cond.methodLink RX5 121 yX5_gatherSeen, Cond.instanceMethod yX5_gatherSeen, Cond.selects RX5 yX5_gatherSeen yX5_gatherSeen, Cond.code yX5_gatherSeen cX5_gatherSeen 5 none, Cond.fieldLink RX5 36 "SeriesMarks" "seenNames" "LSeriesMarks$NameSet;", Cond.fieldLink RX5 16 "SeriesMarks" "samples" "Ljava/util/ArrayList;", Cond.classLink RX5 83 "SeriesMarks$Sample", Cond.methodLink RX5 135 yX1_makeEmpty, Cond.instanceMethod yX1_makeEmpty, Cond.selects RX1 yX1_makeEmpty yX1_makeEmpty, Cond.initialized RX1, Cond.code yX1_makeEmpty cX1_makeEmpty 1 none, Cond.fieldLink RX1 15 "SeriesMarks$NameSet" "size" "I", Cond.methodLink RX5 69 yJx4a65c_size_8abf5, Cond.instanceMethod yJx4a65c_size_8abf5, Cond.selects RJx4a65c yJx4a65c_size_8abf5 yJx4a65c_size_8abf5, Cond.initialized RJx4a65c, Cond.code yJx4a65c_size_8abf5 cJx4a65c_size_8abf5 1 (some .int)]
def wsX5_plan_r2 : List Cond := [Cond.fieldLink RJx4a65c 48 "java/util/ArrayList" "size" "I", Cond.methodLink RX5 60 yJx4a65c_get_915e3, Cond.instanceMethod yJx4a65c_get_915e3, Cond.selects RJx4a65c yJx4a65c_get_915e3 yJx4a65c_get_915e3, Cond.code yJx4a65c_get_915e3 cJx4a65c_get_915e3 2 (some (.object "java/lang/Object")), Cond.methodLink RJx4a65c 118 yJ15_checkIndex_7cf53, Cond.static yJ15_checkIndex_7cf53, Cond.initialized RJ15, Cond.code yJ15_checkIndex_7cf53 cJ15_checkIndex_7cf53 2 (some .int), Cond.methodLink RJ15 105 yJ3_checkIndex_8e157, Cond.static yJ3_checkIndex_8e157, Cond.initialized RJ3, Cond.code yJ3_checkIndex_8e157 cJ3_checkIndex_8e157 3 (some .int), Cond.methodLink RJx4a65c 123 yJx4a65c_elementData_915e3, Cond.instanceMethod yJx4a65c_elementData_915e3, Cond.selects RJx4a65c yJx4a65c_elementData_915e3 yJx4a65c_elementData_915e3, Cond.code yJx4a65c_elementData_915e3 cJx4a65c_elementData_915e3 2 (some (.object "java/lang/Object")), Cond.fieldLink RJx4a65c 9 "java/util/ArrayList" "elementData" "[Ljava/lang/Object;", Cond.methodLink RX5 138 yX2_isWithin, Cond.instanceMethod yX2_isWithin, Cond.selects RX2 yX2_isWithin yX2_isWithin, Cond.initialized RX2, Cond.code yX2_isWithin cX2_isWithin 3 (some .boolean), Cond.fieldLink RX2 13 "SeriesMarks$Sample" "tick" "I"]
def wsX5_plan_r3 : List Cond := [Cond.methodLink RX5 146 yX1_put, Cond.instanceMethod yX1_put, Cond.selects RX1 yX1_put yX1_put, Cond.code yX1_put cX1_put 4 none, Cond.fieldLink RX1 9 "SeriesMarks$NameSet" "row" "[I", Cond.methodLink RX1 23 arraycopyName, Cond.native arraycopyName, Cond.static arraycopyName, Cond.initialized "java/lang/System", Cond.methodLink RX1 19 yX1_howManyBelow, Cond.instanceMethod yX1_howManyBelow, Cond.selects RX1 yX1_howManyBelow yX1_howManyBelow, Cond.code yX1_howManyBelow cX1_howManyBelow 4 (some .int), Cond.methodLink RX1 29 yJ6_highestOneBit_0f7a4, Cond.static yJ6_highestOneBit_0f7a4, Cond.initialized RJ6, Cond.code yJ6_highestOneBit_0f7a4 cJ6_highestOneBit_0f7a4 1 (some .int), Cond.constant RJ6 127 (-2147483648), Cond.methodLink RJ6 51 yJ6_numberOfLeadingZeros_0f7a4, Cond.static yJ6_numberOfLeadingZeros_0f7a4, Cond.code yJ6_numberOfLeadingZeros_0f7a4 cJ6_numberOfLeadingZeros_0f7a4 2 (some .int), Cond.constant RJ6 264 (65536), Cond.methodLink RX5 129 yX5_namesLeftWithout, Cond.instanceMethod yX5_namesLeftWithout]
def wsX5_plan_r4 : List Cond := [Cond.selects RX5 yX5_namesLeftWithout yX5_namesLeftWithout, Cond.code yX5_namesLeftWithout cX5_namesLeftWithout 4 (some .int), Cond.fieldLink RX5 40 "SeriesMarks" "workNames" "LSeriesMarks$NameSet;", Cond.methodLink RX5 114 yX5_digitsOf, Cond.static yX5_digitsOf, Cond.code yX5_digitsOf cX5_digitsOf 3 (some .int), Cond.methodLink RX5 175 yX5_hasBit, Cond.static yX5_hasBit, Cond.code yX5_hasBit cX5_hasBit 2 (some .boolean), Cond.methodLink RX5 227 yX5_atPlace, Cond.static yX5_atPlace, Cond.code yX5_atPlace cX5_atPlace 2 (some .int), Cond.methodLink RX5 212 yX5_lossOf, Cond.instanceMethod yX5_lossOf, Cond.selects RX5 yX5_lossOf yX5_lossOf, Cond.code yX5_lossOf cX5_lossOf 5 (some .int), Cond.fieldLink RX5 29 "SeriesMarks" "weights" "[I", Cond.fieldLink RX5 19 "SeriesMarks" "askings" "Ljava/util/ArrayList;", Cond.classLink RX5 178 "SeriesMarks$Asking"]
def wsX5_plan : List Cond := .code yX5_plan cX5_plan 11 (some .int) :: ((wsX5_plan_r1 ++ (wsX5_plan_r2 ++ (wsX5_plan_r3 ++ wsX5_plan_r4))) ++ wsX50 ++ wsX20 ++ wsX10 ++ wsJx4a65c0 ++ wsX00)
def wsX5_bill_r1 : List Cond := [Cond.fieldLink RX5 36 "SeriesMarks" "seenNames" "LSeriesMarks$NameSet;", Cond.methodLink RX5 126 yX5_isMark, Cond.static yX5_isMark, Cond.initialized RX5, Cond.code yX5_isMark cX5_isMark 1 (some .boolean), Cond.methodLink RX5 161 yX5_isValue, Cond.static yX5_isValue, Cond.code yX5_isValue cX5_isValue 1 (some .boolean), Cond.methodLink RX5 108 yX5_isSpan, Cond.instanceMethod yX5_isSpan, Cond.selects RX5 yX5_isSpan yX5_isSpan, Cond.code yX5_isSpan cX5_isSpan 3 (some .boolean), Cond.fieldLink RX5 43 "SeriesMarks" "tick" "I", Cond.methodLink RX5 121 yX5_gatherSeen, Cond.instanceMethod yX5_gatherSeen, Cond.selects RX5 yX5_gatherSeen yX5_gatherSeen, Cond.code yX5_gatherSeen cX5_gatherSeen 5 none, Cond.fieldLink RX5 16 "SeriesMarks" "samples" "Ljava/util/ArrayList;", Cond.classLink RX5 83 "SeriesMarks$Sample", Cond.methodLink RX5 135 yX1_makeEmpty, Cond.instanceMethod yX1_makeEmpty, Cond.selects RX1 yX1_makeEmpty yX1_makeEmpty, Cond.initialized RX1, Cond.code yX1_makeEmpty cX1_makeEmpty 1 none]
def wsX5_bill_r2 : List Cond := [Cond.fieldLink RX1 15 "SeriesMarks$NameSet" "size" "I", Cond.methodLink RX5 69 yJx4a65c_size_8abf5, Cond.instanceMethod yJx4a65c_size_8abf5, Cond.selects RJx4a65c yJx4a65c_size_8abf5 yJx4a65c_size_8abf5, Cond.initialized RJx4a65c, Cond.code yJx4a65c_size_8abf5 cJx4a65c_size_8abf5 1 (some .int), Cond.fieldLink RJx4a65c 48 "java/util/ArrayList" "size" "I", Cond.methodLink RX5 60 yJx4a65c_get_915e3, Cond.instanceMethod yJx4a65c_get_915e3, Cond.selects RJx4a65c yJx4a65c_get_915e3 yJx4a65c_get_915e3, Cond.code yJx4a65c_get_915e3 cJx4a65c_get_915e3 2 (some (.object "java/lang/Object")), Cond.methodLink RJx4a65c 118 yJ15_checkIndex_7cf53, Cond.static yJ15_checkIndex_7cf53, Cond.initialized RJ15, Cond.code yJ15_checkIndex_7cf53 cJ15_checkIndex_7cf53 2 (some .int), Cond.methodLink RJ15 105 yJ3_checkIndex_8e157, Cond.static yJ3_checkIndex_8e157, Cond.initialized RJ3, Cond.code yJ3_checkIndex_8e157 cJ3_checkIndex_8e157 3 (some .int), Cond.methodLink RJx4a65c 123 yJx4a65c_elementData_915e3, Cond.instanceMethod yJx4a65c_elementData_915e3, Cond.selects RJx4a65c yJx4a65c_elementData_915e3 yJx4a65c_elementData_915e3, Cond.code yJx4a65c_elementData_915e3 cJx4a65c_elementData_915e3 2 (some (.object "java/lang/Object")), Cond.fieldLink RJx4a65c 9 "java/util/ArrayList" "elementData" "[Ljava/lang/Object;"]
def wsX5_bill_r3 : List Cond := [Cond.methodLink RX5 138 yX2_isWithin, Cond.instanceMethod yX2_isWithin, Cond.selects RX2 yX2_isWithin yX2_isWithin, Cond.initialized RX2, Cond.code yX2_isWithin cX2_isWithin 3 (some .boolean), Cond.fieldLink RX2 13 "SeriesMarks$Sample" "tick" "I", Cond.methodLink RX5 146 yX1_put, Cond.instanceMethod yX1_put, Cond.selects RX1 yX1_put yX1_put, Cond.code yX1_put cX1_put 4 none, Cond.fieldLink RX1 9 "SeriesMarks$NameSet" "row" "[I", Cond.methodLink RX1 23 arraycopyName, Cond.native arraycopyName, Cond.static arraycopyName, Cond.initialized "java/lang/System", Cond.methodLink RX1 19 yX1_howManyBelow, Cond.instanceMethod yX1_howManyBelow, Cond.selects RX1 yX1_howManyBelow yX1_howManyBelow, Cond.code yX1_howManyBelow cX1_howManyBelow 4 (some .int), Cond.methodLink RX1 29 yJ6_highestOneBit_0f7a4, Cond.static yJ6_highestOneBit_0f7a4, Cond.initialized RJ6, Cond.code yJ6_highestOneBit_0f7a4 cJ6_highestOneBit_0f7a4 1 (some .int), Cond.constant RJ6 127 (-2147483648)]
def wsX5_bill_r4 : List Cond := [Cond.methodLink RJ6 51 yJ6_numberOfLeadingZeros_0f7a4, Cond.static yJ6_numberOfLeadingZeros_0f7a4, Cond.code yJ6_numberOfLeadingZeros_0f7a4 cJ6_numberOfLeadingZeros_0f7a4 2 (some .int), Cond.constant RJ6 264 (65536), Cond.methodLink RX5 215 yX5_digit, Cond.static yX5_digit, Cond.code yX5_digit cX5_digit 2 (some .int)]
def wsX5_bill : List Cond := .code yX5_bill cX5_bill 7 (some .int) :: ((wsX5_bill_r1 ++ (wsX5_bill_r2 ++ (wsX5_bill_r3 ++ wsX5_bill_r4))) ++ wsX50 ++ wsX10 ++ wsX20 ++ wsJx4a65c0)
def wsJ6_bitCount_0f7a4 : List Cond := .code yJ6_bitCount_0f7a4 cJ6_bitCount_0f7a4 1 (some .int) :: ([.constant RJ6 265 (1431655765), .constant RJ6 266 (858993459), .constant RJ6 267 (252645135)])
def wsX5_count : List Cond := .code yX5_count cX5_count 2 (some .int) :: ([.fieldLink RX5 43 "SeriesMarks" "tick" "I", .fieldLink RX5 10 "SeriesMarks" "allSeries" "Ljava/util/ArrayList;", .fieldLink RX5 16 "SeriesMarks" "samples" "Ljava/util/ArrayList;", .fieldLink RX5 19 "SeriesMarks" "askings" "Ljava/util/ArrayList;", .fieldLink RX5 25 "SeriesMarks" "shortening" "LSeriesMarks$Shortening;", .methodLink RX5 69 yJx4a65c_size_8abf5, .instanceMethod yJx4a65c_size_8abf5, .selects RJx4a65c yJx4a65c_size_8abf5 yJx4a65c_size_8abf5, .initialized RJx4a65c, .code yJx4a65c_size_8abf5 cJx4a65c_size_8abf5 1 (some .int), .fieldLink RJx4a65c 48 "java/util/ArrayList" "size" "I", .methodLink RX5 221 yJ6_bitCount_0f7a4, .static yJ6_bitCount_0f7a4, .initialized RJ6, .code yJ6_bitCount_0f7a4 cJ6_bitCount_0f7a4 1 (some .int), .constant RJ6 265 (1431655765), .constant RJ6 266 (858993459), .constant RJ6 267 (252645135)] ++ wsX50 ++ wsX40 ++ wsJx4a65c0)
def wsX6_init : List Cond := .code yX6_init cX6_init 2 none :: ([.methodLink RX6 1 objectInit, .instanceMethod objectInit, .code objectInit ⟨#[0xb1]⟩ 1 none, .arrayClass .boolean, .fieldLink RX6 7 "SeriesMarksModel" "dropped" "[Z", .arrayClass .int, .fieldLink RX6 13 "SeriesMarksModel" "chief" "[I", .fieldLink RX6 17 "SeriesMarksModel" "name" "[I", .fieldLink RX6 20 "SeriesMarksModel" "many" "[I", .fieldLink RX6 23 "SeriesMarksModel" "latest" "[I", .fieldLink RX6 26 "SeriesMarksModel" "firstTick" "[I", .fieldLink RX6 29 "SeriesMarksModel" "lastTick" "[I", .fieldLink RX6 32 "SeriesMarksModel" "begun" "[I", .fieldLink RX6 35 "SeriesMarksModel" "of" "[I", .fieldLink RX6 38 "SeriesMarksModel" "at" "[I", .fieldLink RX6 41 "SeriesMarksModel" "grown" "[I", .fieldLink RX6 44 "SeriesMarksModel" "isSeen" "[Z", .fieldLink RX6 47 "SeriesMarksModel" "unlike" "[I", .fieldLink RX6 50 "SeriesMarksModel" "parts" "[I", .fieldLink RX6 53 "SeriesMarksModel" "wantedMark" "[I", .fieldLink RX6 56 "SeriesMarksModel" "wantedValue" "[I", .fieldLink RX6 59 "SeriesMarksModel" "worth" "[I", .fieldLink RX6 62 "SeriesMarksModel" "weight" "[I"] ++ wsX60)
def wsX6_in : List Cond := .code yX6_in cX6_in 6 (some .boolean) :: ([])
def wsX6_isSpan : List Cond := .code yX6_isSpan cX6_isSpan 3 (some .boolean) :: ([.fieldLink RX6 65 "SeriesMarksModel" "tick" "I", .methodLink RX6 69 yX6_in, .static yX6_in, .initialized RX6, .code yX6_in cX6_in 6 (some .boolean)] ++ wsX60)
def wsX6_isMark : List Cond := .code yX6_isMark cX6_isMark 1 (some .boolean) :: ([.constantLong RX6 73 (5), .methodLink RX6 69 yX6_in, .static yX6_in, .initialized RX6, .code yX6_in cX6_in 6 (some .boolean)])
def wsX6_isValue : List Cond := .code yX6_isValue cX6_isValue 1 (some .boolean) :: ([.constantLong RX6 75 (7), .methodLink RX6 69 yX6_in, .static yX6_in, .initialized RX6, .code yX6_in cX6_in 6 (some .boolean)])
def wsX6_isName : List Cond := .code yX6_isName cX6_isName 1 (some .boolean) :: ([.constantLong RX6 77 (262143), .methodLink RX6 69 yX6_in, .static yX6_in, .initialized RX6, .code yX6_in cX6_in 6 (some .boolean)])
def wsX6_digit : List Cond := .code yX6_digit cX6_digit 2 (some .int) :: ([])
def wsX6_without : List Cond := .code yX6_without cX6_without 4 (some .int) :: ([])
def wsX6_pass : List Cond := .code yX6_pass cX6_pass 4 (some .int) :: ([.constantLong RX6 79 (199), .fieldLink RX6 65 "SeriesMarksModel" "tick" "I", .fieldLink RX6 7 "SeriesMarksModel" "dropped" "[Z", .fieldLink RX6 13 "SeriesMarksModel" "chief" "[I", .methodLink RX6 69 yX6_in, .static yX6_in, .initialized RX6, .code yX6_in cX6_in 6 (some .boolean)] ++ wsX60)
def wsX6_place : List Cond := .code yX6_place cX6_place 3 (some .int) :: ([.fieldLink RX6 81 "SeriesMarksModel" "series" "I", .fieldLink RX6 17 "SeriesMarksModel" "name" "[I"] ++ wsX60)
def wsX6_tell_r1 : List Cond := [Cond.constantLong RX6 88 (1000000000), Cond.fieldLink RX6 29 "SeriesMarksModel" "lastTick" "[I", Cond.fieldLink RX6 65 "SeriesMarksModel" "tick" "I", Cond.fieldLink RX6 81 "SeriesMarksModel" "series" "I", Cond.fieldLink RX6 94 "SeriesMarksModel" "samples" "I", Cond.fieldLink RX6 17 "SeriesMarksModel" "name" "[I", Cond.fieldLink RX6 26 "SeriesMarksModel" "firstTick" "[I", Cond.fieldLink RX6 20 "SeriesMarksModel" "many" "[I", Cond.fieldLink RX6 23 "SeriesMarksModel" "latest" "[I", Cond.fieldLink RX6 35 "SeriesMarksModel" "of" "[I", Cond.fieldLink RX6 38 "SeriesMarksModel" "at" "[I", Cond.fieldLink RX6 41 "SeriesMarksModel" "grown" "[I", Cond.fieldLink RX6 32 "SeriesMarksModel" "begun" "[I", Cond.methodLink RX6 84 yX6_isName, Cond.static yX6_isName, Cond.initialized RX6, Cond.code yX6_isName cX6_isName 1 (some .boolean), Cond.constantLong RX6 77 (262143), Cond.methodLink RX6 69 yX6_in, Cond.static yX6_in, Cond.code yX6_in cX6_in 6 (some .boolean), Cond.methodLink RX6 90 yX6_place, Cond.instanceMethod yX6_place, Cond.selects RX6 yX6_place yX6_place]
def wsX6_tell_r2 : List Cond := [Cond.code yX6_place cX6_place 3 (some .int)]
def wsX6_tell : List Cond := .code yX6_tell cX6_tell 5 (some .int) :: ((wsX6_tell_r1 ++ wsX6_tell_r2) ++ wsX60)
def wsX6_series : List Cond := .code yX6_series cX6_series 3 (some .int) :: ([.fieldLink RX6 81 "SeriesMarksModel" "series" "I", .fieldLink RX6 17 "SeriesMarksModel" "name" "[I", .fieldLink RX6 20 "SeriesMarksModel" "many" "[I", .fieldLink RX6 23 "SeriesMarksModel" "latest" "[I", .fieldLink RX6 26 "SeriesMarksModel" "firstTick" "[I", .fieldLink RX6 29 "SeriesMarksModel" "lastTick" "[I", .fieldLink RX6 32 "SeriesMarksModel" "begun" "[I", .methodLink RX6 69 yX6_in, .static yX6_in, .initialized RX6, .code yX6_in cX6_in 6 (some .boolean)] ++ wsX60)
def wsX6_find : List Cond := .code yX6_find cX6_find 2 (some .int) :: ([.methodLink RX6 84 yX6_isName, .static yX6_isName, .initialized RX6, .code yX6_isName cX6_isName 1 (some .boolean), .constantLong RX6 77 (262143), .methodLink RX6 69 yX6_in, .static yX6_in, .code yX6_in cX6_in 6 (some .boolean), .methodLink RX6 90 yX6_place, .instanceMethod yX6_place, .selects RX6 yX6_place yX6_place, .code yX6_place cX6_place 3 (some .int), .fieldLink RX6 81 "SeriesMarksModel" "series" "I", .fieldLink RX6 17 "SeriesMarksModel" "name" "[I"] ++ wsX60)
def wsX6_growthOf : List Cond := .code yX6_growthOf cX6_growthOf 7 (some .long) :: ([.fieldLink RX6 94 "SeriesMarksModel" "samples" "I", .fieldLink RX6 35 "SeriesMarksModel" "of" "[I", .fieldLink RX6 38 "SeriesMarksModel" "at" "[I", .fieldLink RX6 41 "SeriesMarksModel" "grown" "[I"] ++ wsX60)
def wsX6_growth : List Cond := .code yX6_growth cX6_growth 4 (some .long) :: ([.fieldLink RX6 81 "SeriesMarksModel" "series" "I", .constantLong RX6 97 (-1), .constantLong RX6 107 (-2), .methodLink RX6 69 yX6_in, .static yX6_in, .initialized RX6, .code yX6_in cX6_in 6 (some .boolean), .methodLink RX6 99 yX6_isSpan, .instanceMethod yX6_isSpan, .selects RX6 yX6_isSpan yX6_isSpan, .code yX6_isSpan cX6_isSpan 3 (some .boolean), .fieldLink RX6 65 "SeriesMarksModel" "tick" "I", .methodLink RX6 103 yX6_growthOf, .instanceMethod yX6_growthOf, .selects RX6 yX6_growthOf yX6_growthOf, .code yX6_growthOf cX6_growthOf 7 (some .long), .fieldLink RX6 94 "SeriesMarksModel" "samples" "I", .fieldLink RX6 35 "SeriesMarksModel" "of" "[I", .fieldLink RX6 38 "SeriesMarksModel" "at" "[I", .fieldLink RX6 41 "SeriesMarksModel" "grown" "[I"] ++ wsX60)
def wsX6_look : List Cond := .code yX6_look cX6_look 5 (some .int) :: ([.fieldLink RX6 81 "SeriesMarksModel" "series" "I", .fieldLink RX6 44 "SeriesMarksModel" "isSeen" "[Z", .fieldLink RX6 94 "SeriesMarksModel" "samples" "I", .fieldLink RX6 38 "SeriesMarksModel" "at" "[I", .fieldLink RX6 35 "SeriesMarksModel" "of" "[I"] ++ wsX60)
def wsX6_note : List Cond := .code yX6_note cX6_note 4 none :: ([.fieldLink RX6 109 "SeriesMarksModel" "unlikes" "I", .fieldLink RX6 47 "SeriesMarksModel" "unlike" "[I"] ++ wsX60)
def wsX6_seen : List Cond := .code yX6_seen cX6_seen 3 (some .int) :: ([.methodLink RX6 99 yX6_isSpan, .instanceMethod yX6_isSpan, .selects RX6 yX6_isSpan yX6_isSpan, .initialized RX6, .code yX6_isSpan cX6_isSpan 3 (some .boolean), .fieldLink RX6 65 "SeriesMarksModel" "tick" "I", .methodLink RX6 69 yX6_in, .static yX6_in, .code yX6_in cX6_in 6 (some .boolean), .methodLink RX6 112 yX6_look, .instanceMethod yX6_look, .selects RX6 yX6_look yX6_look, .code yX6_look cX6_look 5 (some .int), .fieldLink RX6 81 "SeriesMarksModel" "series" "I", .fieldLink RX6 44 "SeriesMarksModel" "isSeen" "[Z", .fieldLink RX6 94 "SeriesMarksModel" "samples" "I", .fieldLink RX6 38 "SeriesMarksModel" "at" "[I", .fieldLink RX6 35 "SeriesMarksModel" "of" "[I"] ++ wsX60)
def wsX6_values_r1 : List Cond := [Cond.fieldLink RX6 109 "SeriesMarksModel" "unlikes" "I", Cond.fieldLink RX6 81 "SeriesMarksModel" "series" "I", Cond.fieldLink RX6 44 "SeriesMarksModel" "isSeen" "[Z", Cond.fieldLink RX6 17 "SeriesMarksModel" "name" "[I", Cond.methodLink RX6 116 yX6_isMark, Cond.static yX6_isMark, Cond.initialized RX6, Cond.code yX6_isMark cX6_isMark 1 (some .boolean), Cond.constantLong RX6 73 (5), Cond.methodLink RX6 69 yX6_in, Cond.static yX6_in, Cond.code yX6_in cX6_in 6 (some .boolean), Cond.methodLink RX6 99 yX6_isSpan, Cond.instanceMethod yX6_isSpan, Cond.selects RX6 yX6_isSpan yX6_isSpan, Cond.code yX6_isSpan cX6_isSpan 3 (some .boolean), Cond.fieldLink RX6 65 "SeriesMarksModel" "tick" "I", Cond.methodLink RX6 112 yX6_look, Cond.instanceMethod yX6_look, Cond.selects RX6 yX6_look yX6_look, Cond.code yX6_look cX6_look 5 (some .int), Cond.fieldLink RX6 94 "SeriesMarksModel" "samples" "I", Cond.fieldLink RX6 38 "SeriesMarksModel" "at" "[I", Cond.fieldLink RX6 35 "SeriesMarksModel" "of" "[I"]
def wsX6_values_r2 : List Cond := [Cond.methodLink RX6 119 yX6_digit, Cond.static yX6_digit, Cond.code yX6_digit cX6_digit 2 (some .int), Cond.methodLink RX6 122 yX6_note, Cond.instanceMethod yX6_note, Cond.selects RX6 yX6_note yX6_note, Cond.code yX6_note cX6_note 4 none, Cond.fieldLink RX6 47 "SeriesMarksModel" "unlike" "[I"]
def wsX6_values : List Cond := .code yX6_values cX6_values 6 (some .int) :: ((wsX6_values_r1 ++ wsX6_values_r2) ++ wsX60)
def wsX6_unlikeWithout : List Cond := .code yX6_unlikeWithout cX6_unlikeWithout 3 (some .int) :: ([.fieldLink RX6 109 "SeriesMarksModel" "unlikes" "I", .fieldLink RX6 81 "SeriesMarksModel" "series" "I", .fieldLink RX6 44 "SeriesMarksModel" "isSeen" "[Z", .fieldLink RX6 17 "SeriesMarksModel" "name" "[I", .methodLink RX6 126 yX6_without, .static yX6_without, .initialized RX6, .code yX6_without cX6_without 4 (some .int), .methodLink RX6 122 yX6_note, .instanceMethod yX6_note, .selects RX6 yX6_note yX6_note, .code yX6_note cX6_note 4 none, .fieldLink RX6 47 "SeriesMarksModel" "unlike" "[I"] ++ wsX60)
def wsX6_unlike_r1 : List Cond := [Cond.constantLong RX6 129 (63), Cond.methodLink RX6 69 yX6_in, Cond.static yX6_in, Cond.initialized RX6, Cond.code yX6_in cX6_in 6 (some .boolean), Cond.methodLink RX6 99 yX6_isSpan, Cond.instanceMethod yX6_isSpan, Cond.selects RX6 yX6_isSpan yX6_isSpan, Cond.code yX6_isSpan cX6_isSpan 3 (some .boolean), Cond.fieldLink RX6 65 "SeriesMarksModel" "tick" "I", Cond.methodLink RX6 112 yX6_look, Cond.instanceMethod yX6_look, Cond.selects RX6 yX6_look yX6_look, Cond.code yX6_look cX6_look 5 (some .int), Cond.fieldLink RX6 81 "SeriesMarksModel" "series" "I", Cond.fieldLink RX6 44 "SeriesMarksModel" "isSeen" "[Z", Cond.fieldLink RX6 94 "SeriesMarksModel" "samples" "I", Cond.fieldLink RX6 38 "SeriesMarksModel" "at" "[I", Cond.fieldLink RX6 35 "SeriesMarksModel" "of" "[I", Cond.methodLink RX6 131 yX6_unlikeWithout, Cond.instanceMethod yX6_unlikeWithout, Cond.selects RX6 yX6_unlikeWithout yX6_unlikeWithout, Cond.code yX6_unlikeWithout cX6_unlikeWithout 3 (some .int), Cond.fieldLink RX6 109 "SeriesMarksModel" "unlikes" "I"]
def wsX6_unlike_r2 : List Cond := [Cond.fieldLink RX6 17 "SeriesMarksModel" "name" "[I", Cond.methodLink RX6 126 yX6_without, Cond.static yX6_without, Cond.code yX6_without cX6_without 4 (some .int), Cond.methodLink RX6 122 yX6_note, Cond.instanceMethod yX6_note, Cond.selects RX6 yX6_note yX6_note, Cond.code yX6_note cX6_note 4 none, Cond.fieldLink RX6 47 "SeriesMarksModel" "unlike" "[I"]
def wsX6_unlike : List Cond := .code yX6_unlike cX6_unlike 5 (some .int) :: ((wsX6_unlike_r1 ++ wsX6_unlike_r2) ++ wsX60)
def wsX6_shorted : List Cond := .code yX6_shorted cX6_shorted 6 (some .int) :: ([.fieldLink RX6 7 "SeriesMarksModel" "dropped" "[Z", .fieldLink RX6 13 "SeriesMarksModel" "chief" "[I", .methodLink RX6 119 yX6_digit, .static yX6_digit, .initialized RX6, .code yX6_digit cX6_digit 2 (some .int)] ++ wsX60)
def wsX6_kept_r1 : List Cond := [Cond.fieldLink RX6 109 "SeriesMarksModel" "unlikes" "I", Cond.fieldLink RX6 94 "SeriesMarksModel" "samples" "I", Cond.fieldLink RX6 38 "SeriesMarksModel" "at" "[I", Cond.fieldLink RX6 17 "SeriesMarksModel" "name" "[I", Cond.fieldLink RX6 35 "SeriesMarksModel" "of" "[I", Cond.methodLink RX6 99 yX6_isSpan, Cond.instanceMethod yX6_isSpan, Cond.selects RX6 yX6_isSpan yX6_isSpan, Cond.initialized RX6, Cond.code yX6_isSpan cX6_isSpan 3 (some .boolean), Cond.fieldLink RX6 65 "SeriesMarksModel" "tick" "I", Cond.methodLink RX6 69 yX6_in, Cond.static yX6_in, Cond.code yX6_in cX6_in 6 (some .boolean), Cond.methodLink RX6 134 yX6_shorted, Cond.instanceMethod yX6_shorted, Cond.selects RX6 yX6_shorted yX6_shorted, Cond.code yX6_shorted cX6_shorted 6 (some .int), Cond.fieldLink RX6 7 "SeriesMarksModel" "dropped" "[Z", Cond.fieldLink RX6 13 "SeriesMarksModel" "chief" "[I", Cond.methodLink RX6 119 yX6_digit, Cond.static yX6_digit, Cond.code yX6_digit cX6_digit 2 (some .int), Cond.methodLink RX6 122 yX6_note]
def wsX6_kept_r2 : List Cond := [Cond.instanceMethod yX6_note, Cond.selects RX6 yX6_note yX6_note, Cond.code yX6_note cX6_note 4 none, Cond.fieldLink RX6 47 "SeriesMarksModel" "unlike" "[I"]
def wsX6_kept : List Cond := .code yX6_kept cX6_kept 4 (some .int) :: ((wsX6_kept_r1 ++ wsX6_kept_r2) ++ wsX60)
def wsX6_worst_r1 : List Cond := [Cond.methodLink RX6 99 yX6_isSpan, Cond.instanceMethod yX6_isSpan, Cond.selects RX6 yX6_isSpan yX6_isSpan, Cond.initialized RX6, Cond.code yX6_isSpan cX6_isSpan 3 (some .boolean), Cond.fieldLink RX6 65 "SeriesMarksModel" "tick" "I", Cond.methodLink RX6 69 yX6_in, Cond.static yX6_in, Cond.code yX6_in cX6_in 6 (some .boolean), Cond.methodLink RX6 112 yX6_look, Cond.instanceMethod yX6_look, Cond.selects RX6 yX6_look yX6_look, Cond.code yX6_look cX6_look 5 (some .int), Cond.fieldLink RX6 81 "SeriesMarksModel" "series" "I", Cond.fieldLink RX6 44 "SeriesMarksModel" "isSeen" "[Z", Cond.fieldLink RX6 94 "SeriesMarksModel" "samples" "I", Cond.fieldLink RX6 38 "SeriesMarksModel" "at" "[I", Cond.fieldLink RX6 35 "SeriesMarksModel" "of" "[I", Cond.methodLink RX6 131 yX6_unlikeWithout, Cond.instanceMethod yX6_unlikeWithout, Cond.selects RX6 yX6_unlikeWithout yX6_unlikeWithout, Cond.code yX6_unlikeWithout cX6_unlikeWithout 3 (some .int), Cond.fieldLink RX6 109 "SeriesMarksModel" "unlikes" "I", Cond.fieldLink RX6 17 "SeriesMarksModel" "name" "[I"]
def wsX6_worst_r2 : List Cond := [Cond.methodLink RX6 126 yX6_without, Cond.static yX6_without, Cond.code yX6_without cX6_without 4 (some .int), Cond.methodLink RX6 122 yX6_note, Cond.instanceMethod yX6_note, Cond.selects RX6 yX6_note yX6_note, Cond.code yX6_note cX6_note 4 none, Cond.fieldLink RX6 47 "SeriesMarksModel" "unlike" "[I"]
def wsX6_worst : List Cond := .code yX6_worst cX6_worst 8 (some .int) :: ((wsX6_worst_r1 ++ wsX6_worst_r2) ++ wsX60)
def wsX6_drop : List Cond := .code yX6_drop cX6_drop 4 (some .int) :: ([.fieldLink RX6 7 "SeriesMarksModel" "dropped" "[Z", .fieldLink RX6 65 "SeriesMarksModel" "tick" "I", .methodLink RX6 116 yX6_isMark, .static yX6_isMark, .initialized RX6, .code yX6_isMark cX6_isMark 1 (some .boolean), .constantLong RX6 73 (5), .methodLink RX6 69 yX6_in, .static yX6_in, .code yX6_in cX6_in 6 (some .boolean)] ++ wsX60)
def wsX6_fold : List Cond := .code yX6_fold cX6_fold 9 (some .int) :: ([.fieldLink RX6 65 "SeriesMarksModel" "tick" "I", .fieldLink RX6 13 "SeriesMarksModel" "chief" "[I", .methodLink RX6 116 yX6_isMark, .static yX6_isMark, .initialized RX6, .code yX6_isMark cX6_isMark 1 (some .boolean), .constantLong RX6 73 (5), .methodLink RX6 69 yX6_in, .static yX6_in, .code yX6_in cX6_in 6 (some .boolean), .methodLink RX6 137 yX6_isValue, .static yX6_isValue, .code yX6_isValue cX6_isValue 1 (some .boolean), .constantLong RX6 75 (7)] ++ wsX60)
def wsX6_dropped : List Cond := .code yX6_dropped cX6_dropped 3 (some .int) :: ([.fieldLink RX6 65 "SeriesMarksModel" "tick" "I", .fieldLink RX6 7 "SeriesMarksModel" "dropped" "[Z", .methodLink RX6 116 yX6_isMark, .static yX6_isMark, .initialized RX6, .code yX6_isMark cX6_isMark 1 (some .boolean), .constantLong RX6 73 (5), .methodLink RX6 69 yX6_in, .static yX6_in, .code yX6_in cX6_in 6 (some .boolean)] ++ wsX60)
def wsX6_chief : List Cond := .code yX6_chief cX6_chief 4 (some .int) :: ([.fieldLink RX6 65 "SeriesMarksModel" "tick" "I", .fieldLink RX6 13 "SeriesMarksModel" "chief" "[I", .methodLink RX6 116 yX6_isMark, .static yX6_isMark, .initialized RX6, .code yX6_isMark cX6_isMark 1 (some .boolean), .constantLong RX6 73 (5), .methodLink RX6 69 yX6_in, .static yX6_in, .code yX6_in cX6_in 6 (some .boolean), .methodLink RX6 137 yX6_isValue, .static yX6_isValue, .code yX6_isValue cX6_isValue 1 (some .boolean), .constantLong RX6 75 (7)] ++ wsX60)
def wsX6_shortAt : List Cond := .code yX6_shortAt cX6_shortAt 3 (some .int) :: ([.fieldLink RX6 65 "SeriesMarksModel" "tick" "I", .methodLink RX6 84 yX6_isName, .static yX6_isName, .initialized RX6, .code yX6_isName cX6_isName 1 (some .boolean), .constantLong RX6 77 (262143), .methodLink RX6 69 yX6_in, .static yX6_in, .code yX6_in cX6_in 6 (some .boolean), .methodLink RX6 134 yX6_shorted, .instanceMethod yX6_shorted, .selects RX6 yX6_shorted yX6_shorted, .code yX6_shorted cX6_shorted 6 (some .int), .fieldLink RX6 7 "SeriesMarksModel" "dropped" "[Z", .fieldLink RX6 13 "SeriesMarksModel" "chief" "[I", .methodLink RX6 119 yX6_digit, .static yX6_digit, .code yX6_digit cX6_digit 2 (some .int)] ++ wsX60)
def wsX6_ask : List Cond := .code yX6_ask cX6_ask 4 (some .int) :: ([.constantLong RX6 129 (63), .fieldLink RX6 140 "SeriesMarksModel" "askings" "I", .fieldLink RX6 50 "SeriesMarksModel" "parts" "[I", .fieldLink RX6 53 "SeriesMarksModel" "wantedMark" "[I", .fieldLink RX6 56 "SeriesMarksModel" "wantedValue" "[I", .fieldLink RX6 59 "SeriesMarksModel" "worth" "[I", .methodLink RX6 69 yX6_in, .static yX6_in, .initialized RX6, .code yX6_in cX6_in 6 (some .boolean), .methodLink RX6 116 yX6_isMark, .static yX6_isMark, .code yX6_isMark cX6_isMark 1 (some .boolean), .constantLong RX6 73 (5), .methodLink RX6 137 yX6_isValue, .static yX6_isValue, .code yX6_isValue cX6_isValue 1 (some .boolean), .constantLong RX6 75 (7)] ++ wsX60)
def wsX6_isAsking : List Cond := .code yX6_isAsking cX6_isAsking 2 (some .boolean) :: ([.fieldLink RX6 140 "SeriesMarksModel" "askings" "I", .methodLink RX6 69 yX6_in, .static yX6_in, .initialized RX6, .code yX6_in cX6_in 6 (some .boolean)] ++ wsX60)
def wsX6_isWanted : List Cond := .code yX6_isWanted cX6_isWanted 3 (some .boolean) :: ([.fieldLink RX6 53 "SeriesMarksModel" "wantedMark" "[I", .fieldLink RX6 56 "SeriesMarksModel" "wantedValue" "[I", .methodLink RX6 119 yX6_digit, .static yX6_digit, .initialized RX6, .code yX6_digit cX6_digit 2 (some .int)] ++ wsX60)
def wsX6_keyOf : List Cond := .code yX6_keyOf cX6_keyOf 3 (some .int) :: ([.fieldLink RX6 50 "SeriesMarksModel" "parts" "[I", .methodLink RX6 126 yX6_without, .static yX6_without, .initialized RX6, .code yX6_without cX6_without 4 (some .int)] ++ wsX60)
def wsX6_answer_r1 : List Cond := [Cond.constantLong RX6 97 (-1), Cond.constantLong RX6 107 (-2), Cond.fieldLink RX6 94 "SeriesMarksModel" "samples" "I", Cond.fieldLink RX6 38 "SeriesMarksModel" "at" "[I", Cond.fieldLink RX6 17 "SeriesMarksModel" "name" "[I", Cond.fieldLink RX6 35 "SeriesMarksModel" "of" "[I", Cond.fieldLink RX6 41 "SeriesMarksModel" "grown" "[I", Cond.methodLink RX6 143 yX6_isAsking, Cond.instanceMethod yX6_isAsking, Cond.selects RX6 yX6_isAsking yX6_isAsking, Cond.initialized RX6, Cond.code yX6_isAsking cX6_isAsking 2 (some .boolean), Cond.fieldLink RX6 140 "SeriesMarksModel" "askings" "I", Cond.methodLink RX6 69 yX6_in, Cond.static yX6_in, Cond.code yX6_in cX6_in 6 (some .boolean), Cond.methodLink RX6 84 yX6_isName, Cond.static yX6_isName, Cond.code yX6_isName cX6_isName 1 (some .boolean), Cond.constantLong RX6 77 (262143), Cond.methodLink RX6 146 yX6_keyOf, Cond.instanceMethod yX6_keyOf, Cond.selects RX6 yX6_keyOf yX6_keyOf, Cond.code yX6_keyOf cX6_keyOf 3 (some .int)]
def wsX6_answer_r2 : List Cond := [Cond.fieldLink RX6 50 "SeriesMarksModel" "parts" "[I", Cond.methodLink RX6 126 yX6_without, Cond.static yX6_without, Cond.code yX6_without cX6_without 4 (some .int), Cond.methodLink RX6 149 yX6_isWanted, Cond.instanceMethod yX6_isWanted, Cond.selects RX6 yX6_isWanted yX6_isWanted, Cond.code yX6_isWanted cX6_isWanted 3 (some .boolean), Cond.fieldLink RX6 53 "SeriesMarksModel" "wantedMark" "[I", Cond.fieldLink RX6 56 "SeriesMarksModel" "wantedValue" "[I", Cond.methodLink RX6 119 yX6_digit, Cond.static yX6_digit, Cond.code yX6_digit cX6_digit 2 (some .int), Cond.methodLink RX6 99 yX6_isSpan, Cond.instanceMethod yX6_isSpan, Cond.selects RX6 yX6_isSpan yX6_isSpan, Cond.code yX6_isSpan cX6_isSpan 3 (some .boolean), Cond.fieldLink RX6 65 "SeriesMarksModel" "tick" "I"]
def wsX6_answer : List Cond := .code yX6_answer cX6_answer 9 (some .long) :: ((wsX6_answer_r1 ++ wsX6_answer_r2) ++ wsX60)
def wsX6_findKeys_r1 : List Cond := [Cond.fieldLink RX6 109 "SeriesMarksModel" "unlikes" "I", Cond.fieldLink RX6 81 "SeriesMarksModel" "series" "I", Cond.fieldLink RX6 44 "SeriesMarksModel" "isSeen" "[Z", Cond.fieldLink RX6 17 "SeriesMarksModel" "name" "[I", Cond.methodLink RX6 112 yX6_look, Cond.instanceMethod yX6_look, Cond.selects RX6 yX6_look yX6_look, Cond.initialized RX6, Cond.code yX6_look cX6_look 5 (some .int), Cond.fieldLink RX6 94 "SeriesMarksModel" "samples" "I", Cond.fieldLink RX6 38 "SeriesMarksModel" "at" "[I", Cond.fieldLink RX6 35 "SeriesMarksModel" "of" "[I", Cond.methodLink RX6 149 yX6_isWanted, Cond.instanceMethod yX6_isWanted, Cond.selects RX6 yX6_isWanted yX6_isWanted, Cond.code yX6_isWanted cX6_isWanted 3 (some .boolean), Cond.fieldLink RX6 53 "SeriesMarksModel" "wantedMark" "[I", Cond.fieldLink RX6 56 "SeriesMarksModel" "wantedValue" "[I", Cond.methodLink RX6 119 yX6_digit, Cond.static yX6_digit, Cond.code yX6_digit cX6_digit 2 (some .int), Cond.methodLink RX6 146 yX6_keyOf, Cond.instanceMethod yX6_keyOf, Cond.selects RX6 yX6_keyOf yX6_keyOf]
def wsX6_findKeys_r2 : List Cond := [Cond.code yX6_keyOf cX6_keyOf 3 (some .int), Cond.fieldLink RX6 50 "SeriesMarksModel" "parts" "[I", Cond.methodLink RX6 126 yX6_without, Cond.static yX6_without, Cond.code yX6_without cX6_without 4 (some .int), Cond.methodLink RX6 122 yX6_note, Cond.instanceMethod yX6_note, Cond.selects RX6 yX6_note yX6_note, Cond.code yX6_note cX6_note 4 none, Cond.fieldLink RX6 47 "SeriesMarksModel" "unlike" "[I"]
def wsX6_findKeys : List Cond := .code yX6_findKeys cX6_findKeys 6 (some .int) :: ((wsX6_findKeys_r1 ++ wsX6_findKeys_r2) ++ wsX60)
def wsX6_keys_r1 : List Cond := [Cond.methodLink RX6 143 yX6_isAsking, Cond.instanceMethod yX6_isAsking, Cond.selects RX6 yX6_isAsking yX6_isAsking, Cond.initialized RX6, Cond.code yX6_isAsking cX6_isAsking 2 (some .boolean), Cond.fieldLink RX6 140 "SeriesMarksModel" "askings" "I", Cond.methodLink RX6 69 yX6_in, Cond.static yX6_in, Cond.code yX6_in cX6_in 6 (some .boolean), Cond.methodLink RX6 99 yX6_isSpan, Cond.instanceMethod yX6_isSpan, Cond.selects RX6 yX6_isSpan yX6_isSpan, Cond.code yX6_isSpan cX6_isSpan 3 (some .boolean), Cond.fieldLink RX6 65 "SeriesMarksModel" "tick" "I", Cond.methodLink RX6 152 yX6_findKeys, Cond.instanceMethod yX6_findKeys, Cond.selects RX6 yX6_findKeys yX6_findKeys, Cond.code yX6_findKeys cX6_findKeys 6 (some .int), Cond.fieldLink RX6 109 "SeriesMarksModel" "unlikes" "I", Cond.fieldLink RX6 81 "SeriesMarksModel" "series" "I", Cond.fieldLink RX6 44 "SeriesMarksModel" "isSeen" "[Z", Cond.fieldLink RX6 17 "SeriesMarksModel" "name" "[I", Cond.methodLink RX6 112 yX6_look, Cond.instanceMethod yX6_look]
def wsX6_keys_r2 : List Cond := [Cond.selects RX6 yX6_look yX6_look, Cond.code yX6_look cX6_look 5 (some .int), Cond.fieldLink RX6 94 "SeriesMarksModel" "samples" "I", Cond.fieldLink RX6 38 "SeriesMarksModel" "at" "[I", Cond.fieldLink RX6 35 "SeriesMarksModel" "of" "[I", Cond.methodLink RX6 149 yX6_isWanted, Cond.instanceMethod yX6_isWanted, Cond.selects RX6 yX6_isWanted yX6_isWanted, Cond.code yX6_isWanted cX6_isWanted 3 (some .boolean), Cond.fieldLink RX6 53 "SeriesMarksModel" "wantedMark" "[I", Cond.fieldLink RX6 56 "SeriesMarksModel" "wantedValue" "[I", Cond.methodLink RX6 119 yX6_digit, Cond.static yX6_digit, Cond.code yX6_digit cX6_digit 2 (some .int), Cond.methodLink RX6 146 yX6_keyOf, Cond.instanceMethod yX6_keyOf, Cond.selects RX6 yX6_keyOf yX6_keyOf, Cond.code yX6_keyOf cX6_keyOf 3 (some .int), Cond.fieldLink RX6 50 "SeriesMarksModel" "parts" "[I", Cond.methodLink RX6 126 yX6_without, Cond.static yX6_without, Cond.code yX6_without cX6_without 4 (some .int), Cond.methodLink RX6 122 yX6_note, Cond.instanceMethod yX6_note]
def wsX6_keys_r3 : List Cond := [Cond.selects RX6 yX6_note yX6_note, Cond.code yX6_note cX6_note 4 none, Cond.fieldLink RX6 47 "SeriesMarksModel" "unlike" "[I"]
def wsX6_keys : List Cond := .code yX6_keys cX6_keys 4 (some .int) :: ((wsX6_keys_r1 ++ (wsX6_keys_r2 ++ wsX6_keys_r3)) ++ wsX60)
def wsX6_key_r1 : List Cond := [Cond.fieldLink RX6 47 "SeriesMarksModel" "unlike" "[I", Cond.methodLink RX6 143 yX6_isAsking, Cond.instanceMethod yX6_isAsking, Cond.selects RX6 yX6_isAsking yX6_isAsking, Cond.initialized RX6, Cond.code yX6_isAsking cX6_isAsking 2 (some .boolean), Cond.fieldLink RX6 140 "SeriesMarksModel" "askings" "I", Cond.methodLink RX6 69 yX6_in, Cond.static yX6_in, Cond.code yX6_in cX6_in 6 (some .boolean), Cond.methodLink RX6 99 yX6_isSpan, Cond.instanceMethod yX6_isSpan, Cond.selects RX6 yX6_isSpan yX6_isSpan, Cond.code yX6_isSpan cX6_isSpan 3 (some .boolean), Cond.fieldLink RX6 65 "SeriesMarksModel" "tick" "I", Cond.methodLink RX6 152 yX6_findKeys, Cond.instanceMethod yX6_findKeys, Cond.selects RX6 yX6_findKeys yX6_findKeys, Cond.code yX6_findKeys cX6_findKeys 6 (some .int), Cond.fieldLink RX6 109 "SeriesMarksModel" "unlikes" "I", Cond.fieldLink RX6 81 "SeriesMarksModel" "series" "I", Cond.fieldLink RX6 44 "SeriesMarksModel" "isSeen" "[Z", Cond.fieldLink RX6 17 "SeriesMarksModel" "name" "[I", Cond.methodLink RX6 112 yX6_look]
def wsX6_key_r2 : List Cond := [Cond.instanceMethod yX6_look, Cond.selects RX6 yX6_look yX6_look, Cond.code yX6_look cX6_look 5 (some .int), Cond.fieldLink RX6 94 "SeriesMarksModel" "samples" "I", Cond.fieldLink RX6 38 "SeriesMarksModel" "at" "[I", Cond.fieldLink RX6 35 "SeriesMarksModel" "of" "[I", Cond.methodLink RX6 149 yX6_isWanted, Cond.instanceMethod yX6_isWanted, Cond.selects RX6 yX6_isWanted yX6_isWanted, Cond.code yX6_isWanted cX6_isWanted 3 (some .boolean), Cond.fieldLink RX6 53 "SeriesMarksModel" "wantedMark" "[I", Cond.fieldLink RX6 56 "SeriesMarksModel" "wantedValue" "[I", Cond.methodLink RX6 119 yX6_digit, Cond.static yX6_digit, Cond.code yX6_digit cX6_digit 2 (some .int), Cond.methodLink RX6 146 yX6_keyOf, Cond.instanceMethod yX6_keyOf, Cond.selects RX6 yX6_keyOf yX6_keyOf, Cond.code yX6_keyOf cX6_keyOf 3 (some .int), Cond.fieldLink RX6 50 "SeriesMarksModel" "parts" "[I", Cond.methodLink RX6 126 yX6_without, Cond.static yX6_without, Cond.code yX6_without cX6_without 4 (some .int), Cond.methodLink RX6 122 yX6_note]
def wsX6_key_r3 : List Cond := [Cond.instanceMethod yX6_note, Cond.selects RX6 yX6_note yX6_note, Cond.code yX6_note cX6_note 4 none]
def wsX6_key : List Cond := .code yX6_key cX6_key 6 (some .int) :: ((wsX6_key_r1 ++ (wsX6_key_r2 ++ wsX6_key_r3)) ++ wsX60)
def wsX6_lacksAt : List Cond := .code yX6_lacksAt cX6_lacksAt 5 (some .boolean) :: ([.fieldLink RX6 50 "SeriesMarksModel" "parts" "[I", .fieldLink RX6 7 "SeriesMarksModel" "dropped" "[Z"] ++ wsX60)
def wsX6_isFolded : List Cond := .code yX6_isFolded cX6_isFolded 5 (some .boolean) :: ([.fieldLink RX6 50 "SeriesMarksModel" "parts" "[I", .fieldLink RX6 13 "SeriesMarksModel" "chief" "[I"] ++ wsX60)
def wsX6_lacks : List Cond := .code yX6_lacks cX6_lacks 5 (some .int) :: ([.methodLink RX6 143 yX6_isAsking, .instanceMethod yX6_isAsking, .selects RX6 yX6_isAsking yX6_isAsking, .initialized RX6, .code yX6_isAsking cX6_isAsking 2 (some .boolean), .fieldLink RX6 140 "SeriesMarksModel" "askings" "I", .methodLink RX6 69 yX6_in, .static yX6_in, .code yX6_in cX6_in 6 (some .boolean), .methodLink RX6 99 yX6_isSpan, .instanceMethod yX6_isSpan, .selects RX6 yX6_isSpan yX6_isSpan, .code yX6_isSpan cX6_isSpan 3 (some .boolean), .fieldLink RX6 65 "SeriesMarksModel" "tick" "I", .methodLink RX6 156 yX6_lacksAt, .instanceMethod yX6_lacksAt, .selects RX6 yX6_lacksAt yX6_lacksAt, .code yX6_lacksAt cX6_lacksAt 5 (some .boolean), .fieldLink RX6 50 "SeriesMarksModel" "parts" "[I", .fieldLink RX6 7 "SeriesMarksModel" "dropped" "[Z"] ++ wsX60)
def wsX6_works_r1 : List Cond := [Cond.methodLink RX6 159 yX6_lacks, Cond.instanceMethod yX6_lacks, Cond.selects RX6 yX6_lacks yX6_lacks, Cond.initialized RX6, Cond.code yX6_lacks cX6_lacks 5 (some .int), Cond.methodLink RX6 143 yX6_isAsking, Cond.instanceMethod yX6_isAsking, Cond.selects RX6 yX6_isAsking yX6_isAsking, Cond.code yX6_isAsking cX6_isAsking 2 (some .boolean), Cond.fieldLink RX6 140 "SeriesMarksModel" "askings" "I", Cond.methodLink RX6 69 yX6_in, Cond.static yX6_in, Cond.code yX6_in cX6_in 6 (some .boolean), Cond.methodLink RX6 99 yX6_isSpan, Cond.instanceMethod yX6_isSpan, Cond.selects RX6 yX6_isSpan yX6_isSpan, Cond.code yX6_isSpan cX6_isSpan 3 (some .boolean), Cond.fieldLink RX6 65 "SeriesMarksModel" "tick" "I", Cond.methodLink RX6 156 yX6_lacksAt, Cond.instanceMethod yX6_lacksAt, Cond.selects RX6 yX6_lacksAt yX6_lacksAt, Cond.code yX6_lacksAt cX6_lacksAt 5 (some .boolean), Cond.fieldLink RX6 50 "SeriesMarksModel" "parts" "[I", Cond.fieldLink RX6 7 "SeriesMarksModel" "dropped" "[Z"]
def wsX6_works_r2 : List Cond := [Cond.methodLink RX6 162 yX6_isFolded, Cond.instanceMethod yX6_isFolded, Cond.selects RX6 yX6_isFolded yX6_isFolded, Cond.code yX6_isFolded cX6_isFolded 5 (some .boolean), Cond.fieldLink RX6 13 "SeriesMarksModel" "chief" "[I"]
def wsX6_works : List Cond := .code yX6_works cX6_works 7 (some .int) :: ((wsX6_works_r1 ++ wsX6_works_r2) ++ wsX60)
def wsX6_weigh : List Cond := .code yX6_weigh cX6_weigh 5 (some .int) :: ([.constantLong RX6 165 (1000), .fieldLink RX6 59 "SeriesMarksModel" "worth" "[I", .fieldLink RX6 62 "SeriesMarksModel" "weight" "[I", .methodLink RX6 143 yX6_isAsking, .instanceMethod yX6_isAsking, .selects RX6 yX6_isAsking yX6_isAsking, .initialized RX6, .code yX6_isAsking cX6_isAsking 2 (some .boolean), .fieldLink RX6 140 "SeriesMarksModel" "askings" "I", .methodLink RX6 69 yX6_in, .static yX6_in, .code yX6_in cX6_in 6 (some .boolean), .methodLink RX6 116 yX6_isMark, .static yX6_isMark, .code yX6_isMark cX6_isMark 1 (some .boolean), .constantLong RX6 73 (5)] ++ wsX60)
def wsX6_lossOf : List Cond := .code yX6_lossOf cX6_lossOf 4 (some .int) :: ([.fieldLink RX6 62 "SeriesMarksModel" "weight" "[I", .fieldLink RX6 140 "SeriesMarksModel" "askings" "I", .fieldLink RX6 50 "SeriesMarksModel" "parts" "[I", .fieldLink RX6 59 "SeriesMarksModel" "worth" "[I"] ++ wsX60)
def wsX6_loss : List Cond := .code yX6_loss cX6_loss 2 (some .int) :: ([.constantLong RX6 129 (63), .methodLink RX6 69 yX6_in, .static yX6_in, .initialized RX6, .code yX6_in cX6_in 6 (some .boolean), .methodLink RX6 167 yX6_lossOf, .instanceMethod yX6_lossOf, .selects RX6 yX6_lossOf yX6_lossOf, .code yX6_lossOf cX6_lossOf 4 (some .int), .fieldLink RX6 62 "SeriesMarksModel" "weight" "[I", .fieldLink RX6 140 "SeriesMarksModel" "askings" "I", .fieldLink RX6 50 "SeriesMarksModel" "parts" "[I", .fieldLink RX6 59 "SeriesMarksModel" "worth" "[I"] ++ wsX60)
def wsX6_plan_r1 : List Cond := [Cond.constantLong RX6 170 (120), Cond.methodLink RX6 69 yX6_in, Cond.static yX6_in, Cond.initialized RX6, Cond.code yX6_in cX6_in 6 (some .boolean), Cond.methodLink RX6 99 yX6_isSpan, Cond.instanceMethod yX6_isSpan, Cond.selects RX6 yX6_isSpan yX6_isSpan, Cond.code yX6_isSpan cX6_isSpan 3 (some .boolean), Cond.fieldLink RX6 65 "SeriesMarksModel" "tick" "I", Cond.methodLink RX6 112 yX6_look, Cond.instanceMethod yX6_look, Cond.selects RX6 yX6_look yX6_look, Cond.code yX6_look cX6_look 5 (some .int), Cond.fieldLink RX6 81 "SeriesMarksModel" "series" "I", Cond.fieldLink RX6 44 "SeriesMarksModel" "isSeen" "[Z", Cond.fieldLink RX6 94 "SeriesMarksModel" "samples" "I", Cond.fieldLink RX6 38 "SeriesMarksModel" "at" "[I", Cond.fieldLink RX6 35 "SeriesMarksModel" "of" "[I", Cond.methodLink RX6 131 yX6_unlikeWithout, Cond.instanceMethod yX6_unlikeWithout, Cond.selects RX6 yX6_unlikeWithout yX6_unlikeWithout, Cond.code yX6_unlikeWithout cX6_unlikeWithout 3 (some .int), Cond.fieldLink RX6 109 "SeriesMarksModel" "unlikes" "I"]
def wsX6_plan_r2 : List Cond := [Cond.fieldLink RX6 17 "SeriesMarksModel" "name" "[I", Cond.methodLink RX6 126 yX6_without, Cond.static yX6_without, Cond.code yX6_without cX6_without 4 (some .int), Cond.methodLink RX6 122 yX6_note, Cond.instanceMethod yX6_note, Cond.selects RX6 yX6_note yX6_note, Cond.code yX6_note cX6_note 4 none, Cond.fieldLink RX6 47 "SeriesMarksModel" "unlike" "[I", Cond.methodLink RX6 167 yX6_lossOf, Cond.instanceMethod yX6_lossOf, Cond.selects RX6 yX6_lossOf yX6_lossOf, Cond.code yX6_lossOf cX6_lossOf 4 (some .int), Cond.fieldLink RX6 62 "SeriesMarksModel" "weight" "[I", Cond.fieldLink RX6 140 "SeriesMarksModel" "askings" "I", Cond.fieldLink RX6 50 "SeriesMarksModel" "parts" "[I", Cond.fieldLink RX6 59 "SeriesMarksModel" "worth" "[I"]
def wsX6_plan : List Cond := .code yX6_plan cX6_plan 11 (some .int) :: ((wsX6_plan_r1 ++ wsX6_plan_r2) ++ wsX60)
def wsX6_bill_r1 : List Cond := [Cond.fieldLink RX6 81 "SeriesMarksModel" "series" "I", Cond.fieldLink RX6 44 "SeriesMarksModel" "isSeen" "[Z", Cond.fieldLink RX6 17 "SeriesMarksModel" "name" "[I", Cond.methodLink RX6 116 yX6_isMark, Cond.static yX6_isMark, Cond.initialized RX6, Cond.code yX6_isMark cX6_isMark 1 (some .boolean), Cond.constantLong RX6 73 (5), Cond.methodLink RX6 69 yX6_in, Cond.static yX6_in, Cond.code yX6_in cX6_in 6 (some .boolean), Cond.methodLink RX6 137 yX6_isValue, Cond.static yX6_isValue, Cond.code yX6_isValue cX6_isValue 1 (some .boolean), Cond.constantLong RX6 75 (7), Cond.methodLink RX6 99 yX6_isSpan, Cond.instanceMethod yX6_isSpan, Cond.selects RX6 yX6_isSpan yX6_isSpan, Cond.code yX6_isSpan cX6_isSpan 3 (some .boolean), Cond.fieldLink RX6 65 "SeriesMarksModel" "tick" "I", Cond.methodLink RX6 112 yX6_look, Cond.instanceMethod yX6_look, Cond.selects RX6 yX6_look yX6_look, Cond.code yX6_look cX6_look 5 (some .int)]
def wsX6_bill_r2 : List Cond := [Cond.fieldLink RX6 94 "SeriesMarksModel" "samples" "I", Cond.fieldLink RX6 38 "SeriesMarksModel" "at" "[I", Cond.fieldLink RX6 35 "SeriesMarksModel" "of" "[I", Cond.methodLink RX6 119 yX6_digit, Cond.static yX6_digit, Cond.code yX6_digit cX6_digit 2 (some .int)]
def wsX6_bill : List Cond := .code yX6_bill cX6_bill 8 (some .int) :: ((wsX6_bill_r1 ++ wsX6_bill_r2) ++ wsX60)
def wsX6_count : List Cond := .code yX6_count cX6_count 4 (some .int) :: ([.fieldLink RX6 65 "SeriesMarksModel" "tick" "I", .fieldLink RX6 81 "SeriesMarksModel" "series" "I", .fieldLink RX6 94 "SeriesMarksModel" "samples" "I", .fieldLink RX6 140 "SeriesMarksModel" "askings" "I", .fieldLink RX6 7 "SeriesMarksModel" "dropped" "[Z"] ++ wsX60)
def wsJ9_max_7cf53 : List Cond := .code yJ9_max_7cf53 cJ9_max_7cf53 2 (some .int) :: ([])
def wsJ9_min_7cf53 : List Cond := .code yJ9_min_7cf53 cJ9_min_7cf53 2 (some .int) :: ([])
def wsL_law_r1 : List Cond := [Cond.classLink RL 7 RX5, Cond.instantiable RX5 8, Cond.initialized RX5, Cond.classLink RL 10 RX6, Cond.instantiable RX6 23, Cond.initialized RX6, Cond.methodLink RL 9 yX5_init, Cond.instanceMethod yX5_init, Cond.code yX5_init cX5_init 1 none, Cond.methodLink RX5 1 objectInit, Cond.instanceMethod objectInit, Cond.code objectInit ⟨#[0xb1]⟩ 1 none, Cond.classLink RX5 7 RJx4a65c, Cond.instantiable RJx4a65c 3, Cond.initialized RJx4a65c, Cond.fieldLink RX5 10 "SeriesMarks" "allSeries" "Ljava/util/ArrayList;", Cond.fieldLink RX5 16 "SeriesMarks" "samples" "Ljava/util/ArrayList;", Cond.fieldLink RX5 19 "SeriesMarks" "askings" "Ljava/util/ArrayList;", Cond.classLink RX5 22 RX4, Cond.instantiable RX4 2, Cond.initialized RX4, Cond.fieldLink RX5 25 "SeriesMarks" "shortening" "LSeriesMarks$Shortening;", Cond.arrayClass .int, Cond.fieldLink RX5 29 "SeriesMarks" "weights" "[I"]
def wsL_law_r2 : List Cond := [Cond.classLink RX5 33 RX1, Cond.instantiable RX1 2, Cond.initialized RX1, Cond.fieldLink RX5 36 "SeriesMarks" "seenNames" "LSeriesMarks$NameSet;", Cond.fieldLink RX5 40 "SeriesMarks" "workNames" "LSeriesMarks$NameSet;", Cond.methodLink RX5 9 yJx4a65c_init_da8c8, Cond.instanceMethod yJx4a65c_init_da8c8, Cond.code yJx4a65c_init_da8c8 cJx4a65c_init_da8c8 1 none, Cond.fieldLink RJx4a65c 39 "java/util/ArrayList" "DEFAULTCAPACITY_EMPTY_ELEMENTDATA" "[Ljava/lang/Object;", Cond.fieldLink RJx4a65c 9 "java/util/ArrayList" "elementData" "[Ljava/lang/Object;", Cond.methodLink RJx4a65c 1 yJxc12de_init_da8c8, Cond.instanceMethod yJxc12de_init_da8c8, Cond.initialized RJxc12de, Cond.code yJxc12de_init_da8c8 cJxc12de_init_da8c8 1 none, Cond.fieldLink RJxc12de 7 "java/util/AbstractList" "modCount" "I", Cond.methodLink RJxc12de 1 yJxa1e45_init_da8c8, Cond.instanceMethod yJxa1e45_init_da8c8, Cond.initialized RJxa1e45, Cond.code yJxa1e45_init_da8c8 cJxa1e45_init_da8c8 1 none, Cond.methodLink RJxa1e45 1 objectInit, Cond.methodLink RX5 24 yX4_init, Cond.instanceMethod yX4_init, Cond.code yX4_init cX4_init 2 none, Cond.methodLink RX4 3 objectInit]
def wsL_law_r3 : List Cond := [Cond.fieldLink RX4 9 "SeriesMarks$Shortening" "droppedAt" "[I", Cond.fieldLink RX4 15 "SeriesMarks$Shortening" "chiefsAt" "[I", Cond.constant RX4 18 (16434824), Cond.instanceMethod yX1_init, Cond.code yX1_init cX1_init 1 none, Cond.methodLink RX1 3 objectInit, Cond.fieldLink RX1 9 "SeriesMarks$NameSet" "row" "[I", Cond.methodLink RL 12 yX6_init, Cond.instanceMethod yX6_init, Cond.code yX6_init cX6_init 2 none, Cond.methodLink RX6 1 objectInit, Cond.arrayClass .boolean, Cond.fieldLink RX6 7 "SeriesMarksModel" "dropped" "[Z", Cond.fieldLink RX6 13 "SeriesMarksModel" "chief" "[I", Cond.fieldLink RX6 17 "SeriesMarksModel" "name" "[I", Cond.fieldLink RX6 20 "SeriesMarksModel" "many" "[I", Cond.fieldLink RX6 23 "SeriesMarksModel" "latest" "[I", Cond.fieldLink RX6 26 "SeriesMarksModel" "firstTick" "[I", Cond.fieldLink RX6 29 "SeriesMarksModel" "lastTick" "[I", Cond.fieldLink RX6 32 "SeriesMarksModel" "begun" "[I", Cond.fieldLink RX6 35 "SeriesMarksModel" "of" "[I", Cond.fieldLink RX6 38 "SeriesMarksModel" "at" "[I", Cond.fieldLink RX6 41 "SeriesMarksModel" "grown" "[I", Cond.fieldLink RX6 44 "SeriesMarksModel" "isSeen" "[Z"]
def wsL_law_r4 : List Cond := [Cond.fieldLink RX6 47 "SeriesMarksModel" "unlike" "[I", Cond.fieldLink RX6 50 "SeriesMarksModel" "parts" "[I", Cond.fieldLink RX6 53 "SeriesMarksModel" "wantedMark" "[I", Cond.fieldLink RX6 56 "SeriesMarksModel" "wantedValue" "[I", Cond.fieldLink RX6 59 "SeriesMarksModel" "worth" "[I", Cond.fieldLink RX6 62 "SeriesMarksModel" "weight" "[I", Cond.methodLink RL 13 yX5_pass, Cond.instanceMethod yX5_pass, Cond.selects RX5 yX5_pass yX5_pass, Cond.code yX5_pass cX5_pass 2 (some .int), Cond.fieldLink RX5 43 "SeriesMarks" "tick" "I", Cond.methodLink RX5 47 yX4_carryOn, Cond.instanceMethod yX4_carryOn, Cond.selects RX4 yX4_carryOn yX4_carryOn, Cond.code yX4_carryOn cX4_carryOn 4 none, Cond.methodLink RX4 19 arraycopyName, Cond.native arraycopyName, Cond.static arraycopyName, Cond.initialized "java/lang/System", Cond.methodLink RL 17 yX6_pass, Cond.instanceMethod yX6_pass, Cond.selects RX6 yX6_pass yX6_pass, Cond.code yX6_pass cX6_pass 4 (some .int), Cond.constantLong RX6 79 (199)]
def wsL_law_r5 : List Cond := [Cond.fieldLink RX6 65 "SeriesMarksModel" "tick" "I", Cond.methodLink RX6 69 yX6_in, Cond.static yX6_in, Cond.code yX6_in cX6_in 6 (some .boolean), Cond.methodLink RL 18 yX5_tell, Cond.instanceMethod yX5_tell, Cond.selects RX5 yX5_tell yX5_tell, Cond.code yX5_tell cX5_tell 6 (some .int), Cond.constant RX5 55 (1000000000), Cond.classLink RX5 64 "SeriesMarks$Series", Cond.classLink RX5 64 RX3, Cond.instantiable RX3 6, Cond.initialized RX3, Cond.classLink RX5 83 RX2, Cond.instantiable RX2 3, Cond.initialized RX2, Cond.methodLink RX5 51 yX5_isName, Cond.static yX5_isName, Cond.code yX5_isName cX5_isName 1 (some .boolean), Cond.constant RX5 226 (262143), Cond.methodLink RX5 56 yX5_numberOf, Cond.instanceMethod yX5_numberOf, Cond.selects RX5 yX5_numberOf yX5_numberOf, Cond.code yX5_numberOf cX5_numberOf 3 (some .int)]
def wsL_law_r6 : List Cond := [Cond.methodLink RX5 69 yJx4a65c_size_8abf5, Cond.instanceMethod yJx4a65c_size_8abf5, Cond.selects RJx4a65c yJx4a65c_size_8abf5 yJx4a65c_size_8abf5, Cond.code yJx4a65c_size_8abf5 cJx4a65c_size_8abf5 1 (some .int), Cond.fieldLink RJx4a65c 48 "java/util/ArrayList" "size" "I", Cond.methodLink RX5 60 yJx4a65c_get_915e3, Cond.instanceMethod yJx4a65c_get_915e3, Cond.selects RJx4a65c yJx4a65c_get_915e3 yJx4a65c_get_915e3, Cond.code yJx4a65c_get_915e3 cJx4a65c_get_915e3 2 (some (.object "java/lang/Object")), Cond.methodLink RJx4a65c 118 yJ15_checkIndex_7cf53, Cond.static yJ15_checkIndex_7cf53, Cond.initialized RJ15, Cond.code yJ15_checkIndex_7cf53 cJ15_checkIndex_7cf53 2 (some .int), Cond.methodLink RJ15 105 yJ3_checkIndex_8e157, Cond.static yJ3_checkIndex_8e157, Cond.initialized RJ3, Cond.code yJ3_checkIndex_8e157 cJ3_checkIndex_8e157 3 (some .int), Cond.methodLink RJx4a65c 123 yJx4a65c_elementData_915e3, Cond.instanceMethod yJx4a65c_elementData_915e3, Cond.selects RJx4a65c yJx4a65c_elementData_915e3 yJx4a65c_elementData_915e3, Cond.code yJx4a65c_elementData_915e3 cJx4a65c_elementData_915e3 2 (some (.object "java/lang/Object")), Cond.methodLink RX5 73 yX3_init, Cond.instanceMethod yX3_init, Cond.code yX3_init cX3_init 3 none]
def wsL_law_r7 : List Cond := [Cond.methodLink RX3 1 objectInit, Cond.fieldLink RX3 7 "SeriesMarks$Series" "name" "I", Cond.fieldLink RX3 13 "SeriesMarks$Series" "firstTick" "I", Cond.fieldLink RX3 16 "SeriesMarks$Series" "latestTick" "I", Cond.methodLink RX5 75 yJx4a65c_add_9ea2d, Cond.instanceMethod yJx4a65c_add_9ea2d, Cond.selects RJx4a65c yJx4a65c_add_9ea2d yJx4a65c_add_9ea2d, Cond.code yJx4a65c_add_9ea2d cJx4a65c_add_9ea2d 2 (some .boolean), Cond.fieldLink RJx4a65c 63 "java/util/ArrayList" "modCount" "I", Cond.sameField "java/util/ArrayList" "java/util/AbstractList" "modCount" "I", Cond.methodLink RJx4a65c 131 yJx4a65c_add_72be8, Cond.instanceMethod yJx4a65c_add_72be8, Cond.selects RJx4a65c yJx4a65c_add_72be8 yJx4a65c_add_72be8, Cond.code yJx4a65c_add_72be8 cJx4a65c_add_72be8 4 none, Cond.methodLink RJx4a65c 129 yJx4a65c_grow_d5877, Cond.instanceMethod yJx4a65c_grow_d5877, Cond.selects RJx4a65c yJx4a65c_grow_d5877 yJx4a65c_grow_d5877, Cond.code yJx4a65c_grow_d5877 cJx4a65c_grow_d5877 1 (some (.array (.object "java/lang/Object"))), Cond.methodLink RJx4a65c 69 yJx4a65c_grow_92f84, Cond.instanceMethod yJx4a65c_grow_92f84, Cond.selects RJx4a65c yJx4a65c_grow_92f84 yJx4a65c_grow_92f84, Cond.code yJx4a65c_grow_92f84 cJx4a65c_grow_92f84 4 (some (.array (.object "java/lang/Object"))), Cond.methodLink RJx4a65c 79 Lib.Math.max.name, Cond.static Lib.Math.max.name]
def wsL_law_r8 : List Cond := [Cond.initialized "java/lang/Math", Cond.code Lib.Math.max.name Lib.Math.max.code 2 (some .int), Cond.classLink RJx4a65c 7 "java/lang/Object", Cond.methodLink RJx4a65c 73 yJ8_newLength_cabcc, Cond.static yJ8_newLength_cabcc, Cond.initialized RJ8, Cond.code yJ8_newLength_cabcc cJ8_newLength_cabcc 4 (some .int), Cond.methodLink RJ8 194 Lib.Math.max.name, Cond.constant RJ8 200 (2147483639), Cond.methodLink RJ8 201 yJ8_hugeLength_7cf53, Cond.static yJ8_hugeLength_7cf53, Cond.code yJ8_hugeLength_7cf53 cJ8_hugeLength_7cf53 3 (some .int), Cond.methodLink RJx4a65c 66 yJ7_copyOf_1904c, Cond.static yJ7_copyOf_1904c, Cond.initialized RJ7, Cond.code yJ7_copyOf_1904c cJ7_copyOf_1904c 2 (some (.array (.object "java/lang/Object"))), Cond.methodLink RJ7 86 ⟨"java/lang/Object", "getClass", "()Ljava/lang/Class;"⟩, Cond.selects "[Ljava/lang/Object;" ⟨"java/lang/Object", "getClass", "()Ljava/lang/Class;"⟩ ⟨"java/lang/Object", "getClass", "()Ljava/lang/Class;"⟩, Cond.instanceMethod ⟨"java/lang/Object", "getClass", "()Ljava/lang/Class;"⟩, Cond.native ⟨"java/lang/Object", "getClass", "()Ljava/lang/Class;"⟩, Cond.methodLink RJ7 300 yJ7_copyOf_6403c, Cond.static yJ7_copyOf_6403c, Cond.code yJ7_copyOf_6403c cJ7_copyOf_6403c 4 (some (.array (.object "java/lang/Object"))), Cond.classLink RJ7 110 "[Ljava/lang/Object;"]
def wsL_law_r9 : List Cond := [Cond.classLink RJ7 2 "java/lang/Object", Cond.methodLink RJ7 304 Lib.Math.min.name, Cond.static Lib.Math.min.name, Cond.code Lib.Math.min.name Lib.Math.min.code 2 (some .int), Cond.methodLink RJ7 150 arraycopyName, Cond.methodLink RX5 79 yX3_takeSample, Cond.instanceMethod yX3_takeSample, Cond.selects RX3 yX3_takeSample yX3_takeSample, Cond.code yX3_takeSample cX3_takeSample 5 (some .int), Cond.fieldLink RX3 19 "SeriesMarks$Series" "latestCount" "I", Cond.fieldLink RX3 22 "SeriesMarks$Series" "restarts" "I", Cond.fieldLink RX3 25 "SeriesMarks$Series" "sampleCount" "I", Cond.methodLink RX5 85 yX2_init, Cond.instanceMethod yX2_init, Cond.code yX2_init cX2_init 4 none, Cond.methodLink RX2 1 objectInit, Cond.fieldLink RX2 7 "SeriesMarks$Sample" "name" "I", Cond.fieldLink RX2 13 "SeriesMarks$Sample" "tick" "I", Cond.fieldLink RX2 16 "SeriesMarks$Sample" "rise" "I", Cond.methodLink RL 22 yX6_tell, Cond.instanceMethod yX6_tell, Cond.selects RX6 yX6_tell yX6_tell, Cond.code yX6_tell cX6_tell 5 (some .int), Cond.constantLong RX6 88 (1000000000)]
def wsL_law_r10 : List Cond := [Cond.fieldLink RX6 81 "SeriesMarksModel" "series" "I", Cond.fieldLink RX6 94 "SeriesMarksModel" "samples" "I", Cond.methodLink RX6 84 yX6_isName, Cond.static yX6_isName, Cond.code yX6_isName cX6_isName 1 (some .boolean), Cond.constantLong RX6 77 (262143), Cond.methodLink RX6 90 yX6_place, Cond.instanceMethod yX6_place, Cond.selects RX6 yX6_place yX6_place, Cond.code yX6_place cX6_place 3 (some .int), Cond.methodLink RL 23 yX5_series, Cond.instanceMethod yX5_series, Cond.selects RX5 yX5_series yX5_series, Cond.code yX5_series cX5_series 4 (some .int), Cond.methodLink RX5 88 yX5_isSeries, Cond.instanceMethod yX5_isSeries, Cond.selects RX5 yX5_isSeries yX5_isSeries, Cond.code yX5_isSeries cX5_isSeries 2 (some .boolean), Cond.methodLink RL 26 yX6_series, Cond.instanceMethod yX6_series, Cond.selects RX6 yX6_series yX6_series, Cond.code yX6_series cX6_series 3 (some .int), Cond.methodLink RL 27 yX5_find, Cond.instanceMethod yX5_find]
def wsL_law_r11 : List Cond := [Cond.selects RX5 yX5_find yX5_find, Cond.code yX5_find cX5_find 2 (some .int), Cond.methodLink RL 30 yX6_find, Cond.instanceMethod yX6_find, Cond.selects RX6 yX6_find yX6_find, Cond.code yX6_find cX6_find 2 (some .int), Cond.methodLink RL 31 yX5_growth, Cond.instanceMethod yX5_growth, Cond.selects RX5 yX5_growth yX5_growth, Cond.code yX5_growth cX5_growth 4 (some .long), Cond.constantLong RX5 106 (-1), Cond.constantLong RX5 112 (-2), Cond.methodLink RX5 108 yX5_isSpan, Cond.instanceMethod yX5_isSpan, Cond.selects RX5 yX5_isSpan yX5_isSpan, Cond.code yX5_isSpan cX5_isSpan 3 (some .boolean), Cond.methodLink RX5 114 yX5_digitsOf, Cond.static yX5_digitsOf, Cond.code yX5_digitsOf cX5_digitsOf 3 (some .int), Cond.methodLink RX5 175 yX5_hasBit, Cond.static yX5_hasBit, Cond.code yX5_hasBit cX5_hasBit 2 (some .boolean), Cond.methodLink RX5 227 yX5_atPlace, Cond.static yX5_atPlace]
def wsL_law_r12 : List Cond := [Cond.code yX5_atPlace cX5_atPlace 2 (some .int), Cond.methodLink RX5 117 yX5_growthOfAlike, Cond.instanceMethod yX5_growthOfAlike, Cond.selects RX5 yX5_growthOfAlike yX5_growthOfAlike, Cond.code yX5_growthOfAlike cX5_growthOfAlike 9 (some .long), Cond.classLink RX5 83 "SeriesMarks$Sample", Cond.methodLink RX5 138 yX2_isWithin, Cond.instanceMethod yX2_isWithin, Cond.selects RX2 yX2_isWithin yX2_isWithin, Cond.code yX2_isWithin cX2_isWithin 3 (some .boolean), Cond.methodLink RL 35 yX6_growth, Cond.instanceMethod yX6_growth, Cond.selects RX6 yX6_growth yX6_growth, Cond.code yX6_growth cX6_growth 4 (some .long), Cond.constantLong RX6 97 (-1), Cond.constantLong RX6 107 (-2), Cond.methodLink RX6 99 yX6_isSpan, Cond.instanceMethod yX6_isSpan, Cond.selects RX6 yX6_isSpan yX6_isSpan, Cond.code yX6_isSpan cX6_isSpan 3 (some .boolean), Cond.methodLink RX6 103 yX6_growthOf, Cond.instanceMethod yX6_growthOf, Cond.selects RX6 yX6_growthOf yX6_growthOf, Cond.code yX6_growthOf cX6_growthOf 7 (some .long)]
def wsL_law_r13 : List Cond := [Cond.methodLink RL 36 yX5_seen, Cond.instanceMethod yX5_seen, Cond.selects RX5 yX5_seen yX5_seen, Cond.code yX5_seen cX5_seen 3 (some .int), Cond.methodLink RX5 121 yX5_gatherSeen, Cond.instanceMethod yX5_gatherSeen, Cond.selects RX5 yX5_gatherSeen yX5_gatherSeen, Cond.code yX5_gatherSeen cX5_gatherSeen 5 none, Cond.methodLink RX5 135 yX1_makeEmpty, Cond.instanceMethod yX1_makeEmpty, Cond.selects RX1 yX1_makeEmpty yX1_makeEmpty, Cond.code yX1_makeEmpty cX1_makeEmpty 1 none, Cond.fieldLink RX1 15 "SeriesMarks$NameSet" "size" "I", Cond.methodLink RX5 146 yX1_put, Cond.instanceMethod yX1_put, Cond.selects RX1 yX1_put yX1_put, Cond.code yX1_put cX1_put 4 none, Cond.methodLink RX1 23 arraycopyName, Cond.methodLink RX1 19 yX1_howManyBelow, Cond.instanceMethod yX1_howManyBelow, Cond.selects RX1 yX1_howManyBelow yX1_howManyBelow, Cond.code yX1_howManyBelow cX1_howManyBelow 4 (some .int), Cond.methodLink RX1 29 yJ6_highestOneBit_0f7a4, Cond.static yJ6_highestOneBit_0f7a4]
def wsL_law_r14 : List Cond := [Cond.initialized RJ6, Cond.code yJ6_highestOneBit_0f7a4 cJ6_highestOneBit_0f7a4 1 (some .int), Cond.constant RJ6 127 (-2147483648), Cond.methodLink RJ6 51 yJ6_numberOfLeadingZeros_0f7a4, Cond.static yJ6_numberOfLeadingZeros_0f7a4, Cond.code yJ6_numberOfLeadingZeros_0f7a4 cJ6_numberOfLeadingZeros_0f7a4 2 (some .int), Cond.constant RJ6 264 (65536), Cond.methodLink RL 39 yX6_seen, Cond.instanceMethod yX6_seen, Cond.selects RX6 yX6_seen yX6_seen, Cond.code yX6_seen cX6_seen 3 (some .int), Cond.methodLink RX6 112 yX6_look, Cond.instanceMethod yX6_look, Cond.selects RX6 yX6_look yX6_look, Cond.code yX6_look cX6_look 5 (some .int), Cond.methodLink RL 40 yX5_values, Cond.instanceMethod yX5_values, Cond.selects RX5 yX5_values yX5_values, Cond.code yX5_values cX5_values 4 (some .int), Cond.methodLink RX5 126 yX5_isMark, Cond.static yX5_isMark, Cond.code yX5_isMark cX5_isMark 1 (some .boolean), Cond.methodLink RX5 129 yX5_namesLeftWithout, Cond.instanceMethod yX5_namesLeftWithout]
def wsL_law_r15 : List Cond := [Cond.selects RX5 yX5_namesLeftWithout yX5_namesLeftWithout, Cond.code yX5_namesLeftWithout cX5_namesLeftWithout 4 (some .int), Cond.methodLink RL 44 yX6_values, Cond.instanceMethod yX6_values, Cond.selects RX6 yX6_values yX6_values, Cond.code yX6_values cX6_values 6 (some .int), Cond.fieldLink RX6 109 "SeriesMarksModel" "unlikes" "I", Cond.methodLink RX6 116 yX6_isMark, Cond.static yX6_isMark, Cond.code yX6_isMark cX6_isMark 1 (some .boolean), Cond.constantLong RX6 73 (5), Cond.methodLink RX6 119 yX6_digit, Cond.static yX6_digit, Cond.code yX6_digit cX6_digit 2 (some .int), Cond.methodLink RX6 122 yX6_note, Cond.instanceMethod yX6_note, Cond.selects RX6 yX6_note yX6_note, Cond.code yX6_note cX6_note 4 none, Cond.methodLink RL 45 yX5_unlike, Cond.instanceMethod yX5_unlike, Cond.selects RX5 yX5_unlike yX5_unlike, Cond.code yX5_unlike cX5_unlike 4 (some .int), Cond.methodLink RX5 132 yX5_isSetOfMarks, Cond.static yX5_isSetOfMarks]
def wsL_law_r16 : List Cond := [Cond.code yX5_isSetOfMarks cX5_isSetOfMarks 1 (some .boolean), Cond.methodLink RL 48 yX6_unlike, Cond.instanceMethod yX6_unlike, Cond.selects RX6 yX6_unlike yX6_unlike, Cond.code yX6_unlike cX6_unlike 5 (some .int), Cond.constantLong RX6 129 (63), Cond.methodLink RX6 131 yX6_unlikeWithout, Cond.instanceMethod yX6_unlikeWithout, Cond.selects RX6 yX6_unlikeWithout yX6_unlikeWithout, Cond.code yX6_unlikeWithout cX6_unlikeWithout 3 (some .int), Cond.methodLink RX6 126 yX6_without, Cond.static yX6_without, Cond.code yX6_without cX6_without 4 (some .int), Cond.methodLink RL 49 yX5_kept, Cond.instanceMethod yX5_kept, Cond.selects RX5 yX5_kept yX5_kept, Cond.code yX5_kept cX5_kept 5 (some .int), Cond.methodLink RX5 143 yX4_shorten, Cond.instanceMethod yX4_shorten, Cond.selects RX4 yX4_shorten yX4_shorten, Cond.code yX4_shorten cX4_shorten 5 (some .int), Cond.methodLink RX4 45 yX4_isDropped, Cond.instanceMethod yX4_isDropped, Cond.selects RX4 yX4_isDropped yX4_isDropped]
def wsL_law_r17 : List Cond := [Cond.code yX4_isDropped cX4_isDropped 3 (some .boolean), Cond.static yX5_digit, Cond.code yX5_digit cX5_digit 2 (some .int), Cond.methodLink RX4 33 yX4_chiefOf, Cond.instanceMethod yX4_chiefOf, Cond.selects RX4 yX4_chiefOf yX4_chiefOf, Cond.code yX4_chiefOf cX4_chiefOf 4 (some .int), Cond.methodLink RL 52 yX6_kept, Cond.instanceMethod yX6_kept, Cond.selects RX6 yX6_kept yX6_kept, Cond.code yX6_kept cX6_kept 4 (some .int), Cond.methodLink RX6 134 yX6_shorted, Cond.instanceMethod yX6_shorted, Cond.selects RX6 yX6_shorted yX6_shorted, Cond.code yX6_shorted cX6_shorted 6 (some .int), Cond.methodLink RL 53 yX5_worst, Cond.instanceMethod yX5_worst, Cond.selects RX5 yX5_worst yX5_worst, Cond.code yX5_worst cX5_worst 7 (some .int), Cond.methodLink RL 56 yX6_worst, Cond.instanceMethod yX6_worst, Cond.selects RX6 yX6_worst yX6_worst, Cond.code yX6_worst cX6_worst 8 (some .int), Cond.methodLink RL 57 yX5_drop]
def wsL_law_r18 : List Cond := [Cond.instanceMethod yX5_drop, Cond.selects RX5 yX5_drop yX5_drop, Cond.code yX5_drop cX5_drop 4 (some .int), Cond.methodLink RX5 150 yX4_isDropped, Cond.methodLink RX5 153 yX5_asNumber, Cond.static yX5_asNumber, Cond.code yX5_asNumber cX5_asNumber 1 (some .int), Cond.methodLink RX5 157 yX4_setDropped, Cond.instanceMethod yX4_setDropped, Cond.selects RX4 yX4_setDropped yX4_setDropped, Cond.code yX4_setDropped cX4_setDropped 5 none, Cond.methodLink RL 61 yX6_drop, Cond.instanceMethod yX6_drop, Cond.selects RX6 yX6_drop yX6_drop, Cond.code yX6_drop cX6_drop 4 (some .int), Cond.methodLink RL 62 yX5_fold, Cond.instanceMethod yX5_fold, Cond.selects RX5 yX5_fold yX5_fold, Cond.code yX5_fold cX5_fold 4 (some .int), Cond.methodLink RX5 161 yX5_isValue, Cond.static yX5_isValue, Cond.code yX5_isValue cX5_isValue 1 (some .boolean), Cond.methodLink RX5 164 yX4_putTogether, Cond.instanceMethod yX4_putTogether]
def wsL_law_r19 : List Cond := [Cond.selects RX4 yX4_putTogether yX4_putTogether, Cond.code yX4_putTogether cX4_putTogether 12 (some .int), Cond.methodLink RX4 37 Lib.Math.min.name, Cond.methodLink RL 65 yX6_fold, Cond.instanceMethod yX6_fold, Cond.selects RX6 yX6_fold yX6_fold, Cond.code yX6_fold cX6_fold 9 (some .int), Cond.methodLink RX6 137 yX6_isValue, Cond.static yX6_isValue, Cond.code yX6_isValue cX6_isValue 1 (some .boolean), Cond.constantLong RX6 75 (7), Cond.methodLink RL 66 yX5_dropped, Cond.instanceMethod yX5_dropped, Cond.selects RX5 yX5_dropped yX5_dropped, Cond.code yX5_dropped cX5_dropped 3 (some .int), Cond.methodLink RX5 168 yX5_isPastTick, Cond.instanceMethod yX5_isPastTick, Cond.selects RX5 yX5_isPastTick yX5_isPastTick, Cond.code yX5_isPastTick cX5_isPastTick 2 (some .boolean), Cond.methodLink RL 69 yX6_dropped, Cond.instanceMethod yX6_dropped, Cond.selects RX6 yX6_dropped yX6_dropped, Cond.code yX6_dropped cX6_dropped 3 (some .int), Cond.methodLink RL 70 yX5_chief]
def wsL_law_r20 : List Cond := [Cond.instanceMethod yX5_chief, Cond.selects RX5 yX5_chief yX5_chief, Cond.code yX5_chief cX5_chief 4 (some .int), Cond.methodLink RX5 171 yX4_chiefOf, Cond.methodLink RL 73 yX6_chief, Cond.instanceMethod yX6_chief, Cond.selects RX6 yX6_chief yX6_chief, Cond.code yX6_chief cX6_chief 4 (some .int), Cond.methodLink RL 74 yX5_shortAt, Cond.instanceMethod yX5_shortAt, Cond.selects RX5 yX5_shortAt yX5_shortAt, Cond.code yX5_shortAt cX5_shortAt 3 (some .int), Cond.methodLink RL 77 yX6_shortAt, Cond.instanceMethod yX6_shortAt, Cond.selects RX6 yX6_shortAt yX6_shortAt, Cond.code yX6_shortAt cX6_shortAt 3 (some .int), Cond.methodLink RL 78 yX5_ask, Cond.instanceMethod yX5_ask, Cond.selects RX5 yX5_ask yX5_ask, Cond.code yX5_ask cX5_ask 5 (some .int), Cond.classLink RX5 178 RX0, Cond.instantiable RX0 5, Cond.initialized RX0, Cond.methodLink RX5 180 yX0_init]
def wsL_law_r21 : List Cond := [Cond.instanceMethod yX0_init, Cond.code yX0_init cX0_init 4 none, Cond.methodLink RX0 3 objectInit, Cond.fieldLink RX0 9 "SeriesMarks$Asking" "marks" "I", Cond.fieldLink RX0 19 "SeriesMarks$Asking" "digits" "I", Cond.fieldLink RX0 22 "SeriesMarks$Asking" "wantedMark" "I", Cond.fieldLink RX0 25 "SeriesMarks$Asking" "wantedValue" "I", Cond.methodLink RL 81 yX6_ask, Cond.instanceMethod yX6_ask, Cond.selects RX6 yX6_ask yX6_ask, Cond.code yX6_ask cX6_ask 4 (some .int), Cond.fieldLink RX6 140 "SeriesMarksModel" "askings" "I", Cond.methodLink RL 82 yX5_answer, Cond.instanceMethod yX5_answer, Cond.selects RX5 yX5_answer yX5_answer, Cond.code yX5_answer cX5_answer 6 (some .long), Cond.classLink RX5 178 "SeriesMarks$Asking", Cond.methodLink RX5 181 yX5_isAsking, Cond.instanceMethod yX5_isAsking, Cond.selects RX5 yX5_isAsking yX5_isAsking, Cond.code yX5_isAsking cX5_isAsking 2 (some .boolean), Cond.methodLink RX5 184 yX0_keyOf, Cond.instanceMethod yX0_keyOf, Cond.selects RX0 yX0_keyOf yX0_keyOf]
def wsL_law_r22 : List Cond := [Cond.code yX0_keyOf cX0_keyOf 2 (some .int), Cond.methodLink RL 86 yX6_answer, Cond.instanceMethod yX6_answer, Cond.selects RX6 yX6_answer yX6_answer, Cond.code yX6_answer cX6_answer 9 (some .long), Cond.methodLink RX6 143 yX6_isAsking, Cond.instanceMethod yX6_isAsking, Cond.selects RX6 yX6_isAsking yX6_isAsking, Cond.code yX6_isAsking cX6_isAsking 2 (some .boolean), Cond.methodLink RX6 146 yX6_keyOf, Cond.instanceMethod yX6_keyOf, Cond.selects RX6 yX6_keyOf yX6_keyOf, Cond.code yX6_keyOf cX6_keyOf 3 (some .int), Cond.methodLink RX6 149 yX6_isWanted, Cond.instanceMethod yX6_isWanted, Cond.selects RX6 yX6_isWanted yX6_isWanted, Cond.code yX6_isWanted cX6_isWanted 3 (some .boolean), Cond.methodLink RL 87 yX5_keys, Cond.instanceMethod yX5_keys, Cond.selects RX5 yX5_keys yX5_keys, Cond.code yX5_keys cX5_keys 4 (some .int), Cond.methodLink RX5 190 yX5_gatherKeys, Cond.instanceMethod yX5_gatherKeys, Cond.selects RX5 yX5_gatherKeys yX5_gatherKeys]
def wsL_law_r23 : List Cond := [Cond.code yX5_gatherKeys cX5_gatherKeys 6 none, Cond.methodLink RL 90 yX6_keys, Cond.instanceMethod yX6_keys, Cond.selects RX6 yX6_keys yX6_keys, Cond.code yX6_keys cX6_keys 4 (some .int), Cond.methodLink RX6 152 yX6_findKeys, Cond.instanceMethod yX6_findKeys, Cond.selects RX6 yX6_findKeys yX6_findKeys, Cond.code yX6_findKeys cX6_findKeys 6 (some .int), Cond.methodLink RL 91 yX5_key, Cond.instanceMethod yX5_key, Cond.selects RX5 yX5_key yX5_key, Cond.code yX5_key cX5_key 5 (some .int), Cond.methodLink RL 95 yX6_key, Cond.instanceMethod yX6_key, Cond.selects RX6 yX6_key yX6_key, Cond.code yX6_key cX6_key 6 (some .int), Cond.methodLink RL 96 yX5_works, Cond.instanceMethod yX5_works, Cond.selects RX5 yX5_works yX5_works, Cond.code yX5_works cX5_works 5 (some .int), Cond.methodLink RX5 200 yX5_firstLack, Cond.instanceMethod yX5_firstLack, Cond.selects RX5 yX5_firstLack yX5_firstLack]
def wsL_law_r24 : List Cond := [Cond.code yX5_firstLack cX5_firstLack 5 (some .int), Cond.methodLink RX5 203 yX4_isAnyFolded, Cond.instanceMethod yX4_isAnyFolded, Cond.selects RX4 yX4_isAnyFolded yX4_isAnyFolded, Cond.code yX4_isAnyFolded cX4_isAnyFolded 4 (some .boolean), Cond.methodLink RL 99 yX6_works, Cond.instanceMethod yX6_works, Cond.selects RX6 yX6_works yX6_works, Cond.code yX6_works cX6_works 7 (some .int), Cond.methodLink RX6 159 yX6_lacks, Cond.instanceMethod yX6_lacks, Cond.selects RX6 yX6_lacks yX6_lacks, Cond.code yX6_lacks cX6_lacks 5 (some .int), Cond.methodLink RX6 156 yX6_lacksAt, Cond.instanceMethod yX6_lacksAt, Cond.selects RX6 yX6_lacksAt yX6_lacksAt, Cond.code yX6_lacksAt cX6_lacksAt 5 (some .boolean), Cond.methodLink RX6 162 yX6_isFolded, Cond.instanceMethod yX6_isFolded, Cond.selects RX6 yX6_isFolded yX6_isFolded, Cond.code yX6_isFolded cX6_isFolded 5 (some .boolean), Cond.methodLink RL 100 yX5_lacks, Cond.instanceMethod yX5_lacks, Cond.selects RX5 yX5_lacks yX5_lacks]
def wsL_law_r25 : List Cond := [Cond.code yX5_lacks cX5_lacks 4 (some .int), Cond.methodLink RL 103 yX6_lacks, Cond.methodLink RL 104 yX5_weigh, Cond.instanceMethod yX5_weigh, Cond.selects RX5 yX5_weigh yX5_weigh, Cond.code yX5_weigh cX5_weigh 5 (some .int), Cond.methodLink RX5 206 yX0_changeWorth, Cond.instanceMethod yX0_changeWorth, Cond.selects RX0 yX0_changeWorth yX0_changeWorth, Cond.code yX0_changeWorth cX0_changeWorth 3 (some .int), Cond.fieldLink RX0 32 "SeriesMarks$Asking" "worth" "I", Cond.methodLink RX5 209 yX5_changeWeight, Cond.instanceMethod yX5_changeWeight, Cond.selects RX5 yX5_changeWeight yX5_changeWeight, Cond.code yX5_changeWeight cX5_changeWeight 4 (some .int), Cond.methodLink RL 108 yX6_weigh, Cond.instanceMethod yX6_weigh, Cond.selects RX6 yX6_weigh yX6_weigh, Cond.code yX6_weigh cX6_weigh 5 (some .int), Cond.constantLong RX6 165 (1000), Cond.methodLink RL 109 yX5_loss, Cond.instanceMethod yX5_loss, Cond.selects RX5 yX5_loss yX5_loss, Cond.code yX5_loss cX5_loss 2 (some .int)]
def wsL_law_r26 : List Cond := [Cond.methodLink RX5 212 yX5_lossOf, Cond.instanceMethod yX5_lossOf, Cond.selects RX5 yX5_lossOf yX5_lossOf, Cond.code yX5_lossOf cX5_lossOf 5 (some .int), Cond.methodLink RL 112 yX6_loss, Cond.instanceMethod yX6_loss, Cond.selects RX6 yX6_loss yX6_loss, Cond.code yX6_loss cX6_loss 2 (some .int), Cond.methodLink RX6 167 yX6_lossOf, Cond.instanceMethod yX6_lossOf, Cond.selects RX6 yX6_lossOf yX6_lossOf, Cond.code yX6_lossOf cX6_lossOf 4 (some .int), Cond.methodLink RL 113 yX5_plan, Cond.instanceMethod yX5_plan, Cond.selects RX5 yX5_plan yX5_plan, Cond.code yX5_plan cX5_plan 11 (some .int), Cond.methodLink RL 116 yX6_plan, Cond.instanceMethod yX6_plan, Cond.selects RX6 yX6_plan yX6_plan, Cond.code yX6_plan cX6_plan 11 (some .int), Cond.constantLong RX6 170 (120), Cond.methodLink RL 117 yX5_bill, Cond.instanceMethod yX5_bill, Cond.selects RX5 yX5_bill yX5_bill]
def wsL_law_r27 : List Cond := [Cond.code yX5_bill cX5_bill 7 (some .int), Cond.methodLink RX5 215 yX5_digit, Cond.methodLink RL 120 yX6_bill, Cond.instanceMethod yX6_bill, Cond.selects RX6 yX6_bill yX6_bill, Cond.code yX6_bill cX6_bill 8 (some .int), Cond.methodLink RL 121 yX5_count, Cond.instanceMethod yX5_count, Cond.selects RX5 yX5_count yX5_count, Cond.code yX5_count cX5_count 2 (some .int), Cond.methodLink RX5 221 yJ6_bitCount_0f7a4, Cond.static yJ6_bitCount_0f7a4, Cond.code yJ6_bitCount_0f7a4 cJ6_bitCount_0f7a4 1 (some .int), Cond.constant RJ6 265 (1431655765), Cond.constant RJ6 266 (858993459), Cond.constant RJ6 267 (252645135), Cond.methodLink RL 124 yX6_count, Cond.instanceMethod yX6_count, Cond.selects RX6 yX6_count yX6_count, Cond.code yX6_count cX6_count 4 (some .int)]
def wsL_law : List Cond := (wsL_law_r1 ++ (wsL_law_r2 ++ (wsL_law_r3 ++ (wsL_law_r4 ++ (wsL_law_r5 ++ (wsL_law_r6 ++ (wsL_law_r7 ++ (wsL_law_r8 ++ (wsL_law_r9 ++ (wsL_law_r10 ++ (wsL_law_r11 ++ (wsL_law_r12 ++ (wsL_law_r13 ++ (wsL_law_r14 ++ (wsL_law_r15 ++ (wsL_law_r16 ++ (wsL_law_r17 ++ (wsL_law_r18 ++ (wsL_law_r19 ++ (wsL_law_r20 ++ (wsL_law_r21 ++ (wsL_law_r22 ++ (wsL_law_r23 ++ (wsL_law_r24 ++ (wsL_law_r25 ++ (wsL_law_r26 ++ wsL_law_r27)))))))))))))))))))))))))) ++ wsX50 ++ wsX60 ++ wsJx4a65c0 ++ wsX40 ++ wsX10 ++ wsX30 ++ wsX20 ++ wsX00 ++ ([] : List Cond)
end
section
theorem inlX0 : ∀ w ∈ wsX00, w ∈ wsL_law := fun _ h => List.mem_append_left _ (List.mem_append_right _ h)
theorem inlX1 : ∀ w ∈ wsX10, w ∈ wsL_law := fun _ h => List.mem_append_left _ (List.mem_append_left _ (List.mem_append_left _ (List.mem_append_left _ (List.mem_append_right _ h))))
theorem inlX2 : ∀ w ∈ wsX20, w ∈ wsL_law := fun _ h => List.mem_append_left _ (List.mem_append_left _ (List.mem_append_right _ h))
theorem inlX3 : ∀ w ∈ wsX30, w ∈ wsL_law := fun _ h => List.mem_append_left _ (List.mem_append_left _ (List.mem_append_left _ (List.mem_append_right _ h)))
theorem inlX4 : ∀ w ∈ wsX40, w ∈ wsL_law := fun _ h => List.mem_append_left _ (List.mem_append_left _ (List.mem_append_left _ (List.mem_append_left _ (List.mem_append_left _ (List.mem_append_right _ h)))))
theorem inlX5 : ∀ w ∈ wsX50, w ∈ wsL_law := fun _ h => List.mem_append_left _ (List.mem_append_left _ (List.mem_append_left _ (List.mem_append_left _ (List.mem_append_left _ (List.mem_append_left _ (List.mem_append_left _ (List.mem_append_left _ (List.mem_append_right _ h))))))))
theorem inlX6 : ∀ w ∈ wsX60, w ∈ wsL_law := fun _ h => List.mem_append_left _ (List.mem_append_left _ (List.mem_append_left _ (List.mem_append_left _ (List.mem_append_left _ (List.mem_append_left _ (List.mem_append_left _ (List.mem_append_right _ h)))))))
theorem inJx145de : ∀ w ∈ wsJx145de0, w ∈ lw_tbl := by decide +kernel
theorem inJx8e188 : ∀ w ∈ wsJx8e1880, w ∈ lw_tbl := by decide +kernel
theorem inJ6 : ∀ w ∈ wsJ60, w ∈ lw_tbl := by decide +kernel
theorem inJxab1ab : ∀ w ∈ wsJxab1ab0, w ∈ lw_tbl := by decide +kernel
theorem inJ9 : ∀ w ∈ wsJ90, w ∈ lw_tbl := by decide +kernel
theorem inJ10 : ∀ w ∈ wsJ100, w ∈ lw_tbl := by decide +kernel
theorem inJxa1e45 : ∀ w ∈ wsJxa1e450, w ∈ lw_tbl := by decide +kernel
theorem inJxc12de : ∀ w ∈ wsJxc12de0, w ∈ lw_tbl := by decide +kernel
theorem inlJx4a65c : ∀ w ∈ wsJx4a65c0, w ∈ wsL_law := fun _ h => List.mem_append_left _ (List.mem_append_left _ (List.mem_append_left _ (List.mem_append_left _ (List.mem_append_left _ (List.mem_append_left _ (List.mem_append_right _ h))))))
theorem inJ7 : ∀ w ∈ wsJ70, w ∈ lw_tbl := by decide +kernel
theorem inJx5ef63 : ∀ w ∈ wsJx5ef630, w ∈ lw_tbl := by decide +kernel
theorem inJxbd725 : ∀ w ∈ wsJxbd7250, w ∈ lw_tbl := by decide +kernel
theorem inJ15 : ∀ w ∈ wsJ150, w ∈ lw_tbl := by decide +kernel
theorem inJxf0a74 : ∀ w ∈ wsJxf0a740, w ∈ lw_tbl := by decide +kernel
theorem inJxa66e6 : ∀ w ∈ wsJxa66e60, w ∈ lw_tbl := by decide +kernel
theorem inJ8 : ∀ w ∈ wsJ80, w ∈ lw_tbl := by decide +kernel
theorem inJ3 : ∀ w ∈ wsJ30, w ∈ lw_tbl := by decide +kernel
set_option maxRecDepth 20000 in
theorem ggX0_init_X5_digitsOf : GoodIn wsX0_init wsX5_digitsOf := goodIn_r _ [10, 11, 12, 9, 13, 14, 15, 16] (by decide +kernel) (by decide +kernel)
set_option maxRecDepth 20000 in
theorem gX0_init_X5_digitsOf_n15 : GoodIn wsX0_init (wsX5_digitsOf) := ggX0_init_X5_digitsOf
theorem dX0_init_0 : decode cX0_init 0 = .ok (.aload_n 0, 1) := by decide +kernel
theorem dX0_init_1 : decode cX0_init 1 = .ok (.invokespecial 3, 3) := by decide +kernel
theorem dX0_init_4 : decode cX0_init 4 = .ok (.aload_n 0, 1) := by decide +kernel
theorem dX0_init_5 : decode cX0_init 5 = .ok (.iload_n 1, 1) := by decide +kernel
theorem dX0_init_6 : decode cX0_init 6 = .ok (.putfield 9, 3) := by decide +kernel
theorem dX0_init_9 : decode cX0_init 9 = .ok (.aload_n 0, 1) := by decide +kernel
theorem dX0_init_10 : decode cX0_init 10 = .ok (.iload_n 1, 1) := by decide +kernel
theorem dX0_init_11 : decode cX0_init 11 = .ok (.invokestatic 15, 3) := by decide +kernel
theorem dX0_init_14 : decode cX0_init 14 = .ok (.putfield 19, 3) := by decide +kernel
theorem dX0_init_17 : decode cX0_init 17 = .ok (.aload_n 0, 1) := by decide +kernel
theorem dX0_init_18 : decode cX0_init 18 = .ok (.iload_n 2, 1) := by decide +kernel
theorem dX0_init_19 : decode cX0_init 19 = .ok (.putfield 22, 3) := by decide +kernel
theorem dX0_init_22 : decode cX0_init 22 = .ok (.aload_n 0, 1) := by decide +kernel
theorem dX0_init_23 : decode cX0_init 23 = .ok (.iload_n 3, 1) := by decide +kernel
theorem dX0_init_24 : decode cX0_init 24 = .ok (.putfield 25, 3) := by decide +kernel
theorem dX0_init_27 : decode cX0_init 27 = .ok (.return_, 1) := by decide +kernel
set_option maxRecDepth 20000 in
theorem ggX0_keyOf_X5_digit : GoodIn wsX0_keyOf wsX5_digit := goodIn_r _ [6] (by decide +kernel) (by decide +kernel)
set_option maxRecDepth 20000 in
theorem gX0_keyOf_X5_digit_n28 : GoodIn wsX0_keyOf (wsX5_digit) := ggX0_keyOf_X5_digit
theorem dX0_keyOf_0 : decode cX0_keyOf 0 = .ok (.aload_n 0, 1) := by decide +kernel
theorem dX0_keyOf_1 : decode cX0_keyOf 1 = .ok (.getfield 22, 3) := by decide +kernel
theorem dX0_keyOf_4 : decode cX0_keyOf 4 = .ok (.bipush (-9), 2) := by decide +kernel
theorem dX0_keyOf_6 : decode cX0_keyOf 6 = .ok (.if_icmp .eq 21, 3) := by decide +kernel
theorem dX0_keyOf_9 : decode cX0_keyOf 9 = .ok (.iload_n 1, 1) := by decide +kernel
theorem dX0_keyOf_10 : decode cX0_keyOf 10 = .ok (.aload_n 0, 1) := by decide +kernel
theorem dX0_keyOf_11 : decode cX0_keyOf 11 = .ok (.getfield 22, 3) := by decide +kernel
theorem dX0_keyOf_14 : decode cX0_keyOf 14 = .ok (.invokestatic 28, 3) := by decide +kernel
theorem dX0_keyOf_17 : decode cX0_keyOf 17 = .ok (.aload_n 0, 1) := by decide +kernel
theorem dX0_keyOf_18 : decode cX0_keyOf 18 = .ok (.getfield 25, 3) := by decide +kernel
theorem dX0_keyOf_21 : decode cX0_keyOf 21 = .ok (.if_icmp .eq 6, 3) := by decide +kernel
theorem dX0_keyOf_24 : decode cX0_keyOf 24 = .ok (.bipush (-9), 2) := by decide +kernel
theorem dX0_keyOf_26 : decode cX0_keyOf 26 = .ok (.ireturn, 1) := by decide +kernel
theorem dX0_keyOf_27 : decode cX0_keyOf 27 = .ok (.iload_n 1, 1) := by decide +kernel
theorem dX0_keyOf_28 : decode cX0_keyOf 28 = .ok (.aload_n 0, 1) := by decide +kernel
theorem dX0_keyOf_29 : decode cX0_keyOf 29 = .ok (.getfield 19, 3) := by decide +kernel
theorem dX0_keyOf_32 : decode cX0_keyOf 32 = .ok (.iand, 1) := by decide +kernel
theorem dX0_keyOf_33 : decode cX0_keyOf 33 = .ok (.ireturn, 1) := by decide +kernel
theorem dX0_changeWorth_0 : decode cX0_changeWorth 0 = .ok (.aload_n 0, 1) := by decide +kernel
theorem dX0_changeWorth_1 : decode cX0_changeWorth 1 = .ok (.getfield 32, 3) := by decide +kernel
theorem dX0_changeWorth_4 : decode cX0_changeWorth 4 = .ok (.istore_n 2, 1) := by decide +kernel
theorem dX0_changeWorth_5 : decode cX0_changeWorth 5 = .ok (.aload_n 0, 1) := by decide +kernel
theorem dX0_changeWorth_6 : decode cX0_changeWorth 6 = .ok (.iload_n 1, 1) := by decide +kernel
theorem dX0_changeWorth_7 : decode cX0_changeWorth 7 = .ok (.putfield 32, 3) := by decide +kernel
theorem dX0_changeWorth_10 : decode cX0_changeWorth 10 = .ok (.iload_n 2, 1) := by decide +kernel
theorem dX0_changeWorth_11 : decode cX0_changeWorth 11 = .ok (.ireturn, 1) := by decide +kernel
theorem dX1_init_0 : decode cX1_init 0 = .ok (.aload_n 0, 1) := by decide +kernel
theorem dX1_init_1 : decode cX1_init 1 = .ok (.invokespecial 3, 3) := by decide +kernel
theorem dX1_init_4 : decode cX1_init 4 = .ok (.aload_n 0, 1) := by decide +kernel
theorem dX1_init_5 : decode cX1_init 5 = .ok (.sipush 2000, 3) := by decide +kernel
theorem dX1_init_8 : decode cX1_init 8 = .ok (.newarray .int, 2) := by decide +kernel
theorem dX1_init_10 : decode cX1_init 10 = .ok (.putfield 9, 3) := by decide +kernel
theorem dX1_init_13 : decode cX1_init 13 = .ok (.return_, 1) := by decide +kernel
theorem dX1_makeEmpty_0 : decode cX1_makeEmpty 0 = .ok (.aload_n 0, 1) := by decide +kernel
theorem dX1_makeEmpty_1 : decode cX1_makeEmpty 1 = .ok (.iconst 0, 1) := by decide +kernel
theorem dX1_makeEmpty_2 : decode cX1_makeEmpty 2 = .ok (.putfield 15, 3) := by decide +kernel
theorem dX1_makeEmpty_5 : decode cX1_makeEmpty 5 = .ok (.return_, 1) := by decide +kernel
set_option maxRecDepth 20000 in
theorem ggX1_put_X1_howManyBelow : GoodIn wsX1_put wsX1_howManyBelow := goodIn_r _ [11, 1, 2, 12, 13, 14, 15, 16, 17, 18, 19, 20, 21, 22] (by decide +kernel) (by decide +kernel)
set_option maxRecDepth 20000 in
theorem gX1_put_X1_howManyBelow : GoodIn wsX1_put (wsV RX1 19 RX1 yX1_howManyBelow wsX1_howManyBelow) := goodIn_app (goodIn_of _ (by decide +kernel)) ggX1_put_X1_howManyBelow
theorem dX1_put_0 : decode cX1_put 0 = .ok (.aload_n 0, 1) := by decide +kernel
theorem dX1_put_1 : decode cX1_put 1 = .ok (.iload_n 1, 1) := by decide +kernel
theorem dX1_put_2 : decode cX1_put 2 = .ok (.invokevirtual 19, 3) := by decide +kernel
theorem dX1_put_5 : decode cX1_put 5 = .ok (.istore_n 2, 1) := by decide +kernel
theorem dX1_put_6 : decode cX1_put 6 = .ok (.iload_n 2, 1) := by decide +kernel
theorem dX1_put_7 : decode cX1_put 7 = .ok (.aload_n 0, 1) := by decide +kernel
theorem dX1_put_8 : decode cX1_put 8 = .ok (.getfield 15, 3) := by decide +kernel
theorem dX1_put_11 : decode cX1_put 11 = .ok (.if_icmp .ge 17, 3) := by decide +kernel
theorem dX1_put_14 : decode cX1_put 14 = .ok (.aload_n 0, 1) := by decide +kernel
theorem dX1_put_15 : decode cX1_put 15 = .ok (.getfield 9, 3) := by decide +kernel
theorem dX1_put_18 : decode cX1_put 18 = .ok (.iload_n 2, 1) := by decide +kernel
theorem dX1_put_19 : decode cX1_put 19 = .ok (.iaload, 1) := by decide +kernel
theorem dX1_put_20 : decode cX1_put 20 = .ok (.iload_n 1, 1) := by decide +kernel
theorem dX1_put_21 : decode cX1_put 21 = .ok (.if_icmp .ne 7, 3) := by decide +kernel
theorem dX1_put_24 : decode cX1_put 24 = .ok (.iconst 1, 1) := by decide +kernel
theorem dX1_put_25 : decode cX1_put 25 = .ok (.goto 4, 3) := by decide +kernel
theorem dX1_put_28 : decode cX1_put 28 = .ok (.iconst 0, 1) := by decide +kernel
theorem dX1_put_29 : decode cX1_put 29 = .ok (.istore_n 3, 1) := by decide +kernel
theorem dX1_put_30 : decode cX1_put 30 = .ok (.iload_n 3, 1) := by decide +kernel
theorem dX1_put_31 : decode cX1_put 31 = .ok (.ifCond .ne 15, 3) := by decide +kernel
theorem dX1_put_34 : decode cX1_put 34 = .ok (.aload_n 0, 1) := by decide +kernel
theorem dX1_put_35 : decode cX1_put 35 = .ok (.getfield 15, 3) := by decide +kernel
theorem dX1_put_38 : decode cX1_put 38 = .ok (.aload_n 0, 1) := by decide +kernel
theorem dX1_put_39 : decode cX1_put 39 = .ok (.getfield 9, 3) := by decide +kernel
theorem dX1_put_42 : decode cX1_put 42 = .ok (.arraylength, 1) := by decide +kernel
theorem dX1_put_43 : decode cX1_put 43 = .ok (.if_icmp .lt 4, 3) := by decide +kernel
theorem dX1_put_46 : decode cX1_put 46 = .ok (.return_, 1) := by decide +kernel
theorem dX1_put_47 : decode cX1_put 47 = .ok (.aload_n 0, 1) := by decide +kernel
theorem dX1_put_48 : decode cX1_put 48 = .ok (.getfield 9, 3) := by decide +kernel
theorem dX1_put_51 : decode cX1_put 51 = .ok (.iload_n 2, 1) := by decide +kernel
theorem dX1_put_52 : decode cX1_put 52 = .ok (.aload_n 0, 1) := by decide +kernel
theorem dX1_put_53 : decode cX1_put 53 = .ok (.getfield 9, 3) := by decide +kernel
theorem dX1_put_56 : decode cX1_put 56 = .ok (.iload_n 2, 1) := by decide +kernel
theorem dX1_put_57 : decode cX1_put 57 = .ok (.iconst 1, 1) := by decide +kernel
theorem dX1_put_58 : decode cX1_put 58 = .ok (.iadd, 1) := by decide +kernel
theorem dX1_put_59 : decode cX1_put 59 = .ok (.aload_n 0, 1) := by decide +kernel
theorem dX1_put_60 : decode cX1_put 60 = .ok (.getfield 15, 3) := by decide +kernel
theorem dX1_put_63 : decode cX1_put 63 = .ok (.iload_n 2, 1) := by decide +kernel
theorem dX1_put_64 : decode cX1_put 64 = .ok (.isub, 1) := by decide +kernel
theorem dX1_put_65 : decode cX1_put 65 = .ok (.invokestatic 23, 3) := by decide +kernel
theorem dX1_put_68 : decode cX1_put 68 = .ok (.aload_n 0, 1) := by decide +kernel
theorem dX1_put_69 : decode cX1_put 69 = .ok (.getfield 9, 3) := by decide +kernel
theorem dX1_put_72 : decode cX1_put 72 = .ok (.iload_n 2, 1) := by decide +kernel
theorem dX1_put_73 : decode cX1_put 73 = .ok (.iload_n 1, 1) := by decide +kernel
theorem dX1_put_74 : decode cX1_put 74 = .ok (.iastore, 1) := by decide +kernel
theorem dX1_put_75 : decode cX1_put 75 = .ok (.aload_n 0, 1) := by decide +kernel
theorem dX1_put_76 : decode cX1_put 76 = .ok (.dup, 1) := by decide +kernel
theorem dX1_put_77 : decode cX1_put 77 = .ok (.getfield 15, 3) := by decide +kernel
theorem dX1_put_80 : decode cX1_put 80 = .ok (.iconst 1, 1) := by decide +kernel
theorem dX1_put_81 : decode cX1_put 81 = .ok (.iadd, 1) := by decide +kernel
theorem dX1_put_82 : decode cX1_put 82 = .ok (.putfield 15, 3) := by decide +kernel
theorem dX1_put_85 : decode cX1_put 85 = .ok (.return_, 1) := by decide +kernel
set_option maxRecDepth 20000 in
theorem ggX1_howManyBelow_J6_highestOneBit_0f7a4 : GoodIn wsX1_howManyBelow wsJ6_highestOneBit_0f7a4 := goodIn_r _ [6, 7, 8, 9, 5, 10, 11] (by decide +kernel) (by decide +kernel)
set_option maxRecDepth 20000 in
theorem gX1_howManyBelow_J6_highestOneBit_0f7a4 : GoodIn wsX1_howManyBelow (va_wsS RX1 29 yJ6_highestOneBit_0f7a4 wsJ6_highestOneBit_0f7a4) := goodIn_app (goodIn_of _ (by decide +kernel)) ggX1_howManyBelow_J6_highestOneBit_0f7a4
theorem dX1_howManyBelow_0 : decode cX1_howManyBelow 0 = .ok (.iconst 0, 1) := by decide +kernel
theorem dX1_howManyBelow_1 : decode cX1_howManyBelow 1 = .ok (.istore_n 2, 1) := by decide +kernel
theorem dX1_howManyBelow_2 : decode cX1_howManyBelow 2 = .ok (.aload_n 0, 1) := by decide +kernel
theorem dX1_howManyBelow_3 : decode cX1_howManyBelow 3 = .ok (.getfield 15, 3) := by decide +kernel
theorem dX1_howManyBelow_6 : decode cX1_howManyBelow 6 = .ok (.invokestatic 29, 3) := by decide +kernel
theorem dX1_howManyBelow_9 : decode cX1_howManyBelow 9 = .ok (.istore_n 3, 1) := by decide +kernel
theorem dX1_howManyBelow_10 : decode cX1_howManyBelow 10 = .ok (.iload_n 3, 1) := by decide +kernel
theorem dX1_howManyBelow_11 : decode cX1_howManyBelow 11 = .ok (.ifCond .le 38, 3) := by decide +kernel
theorem dX1_howManyBelow_14 : decode cX1_howManyBelow 14 = .ok (.iload_n 2, 1) := by decide +kernel
theorem dX1_howManyBelow_15 : decode cX1_howManyBelow 15 = .ok (.iload_n 3, 1) := by decide +kernel
theorem dX1_howManyBelow_16 : decode cX1_howManyBelow 16 = .ok (.iadd, 1) := by decide +kernel
theorem dX1_howManyBelow_17 : decode cX1_howManyBelow 17 = .ok (.aload_n 0, 1) := by decide +kernel
theorem dX1_howManyBelow_18 : decode cX1_howManyBelow 18 = .ok (.getfield 15, 3) := by decide +kernel
theorem dX1_howManyBelow_21 : decode cX1_howManyBelow 21 = .ok (.if_icmp .gt 21, 3) := by decide +kernel
theorem dX1_howManyBelow_24 : decode cX1_howManyBelow 24 = .ok (.aload_n 0, 1) := by decide +kernel
theorem dX1_howManyBelow_25 : decode cX1_howManyBelow 25 = .ok (.getfield 9, 3) := by decide +kernel
theorem dX1_howManyBelow_28 : decode cX1_howManyBelow 28 = .ok (.iload_n 2, 1) := by decide +kernel
theorem dX1_howManyBelow_29 : decode cX1_howManyBelow 29 = .ok (.iload_n 3, 1) := by decide +kernel
theorem dX1_howManyBelow_30 : decode cX1_howManyBelow 30 = .ok (.iadd, 1) := by decide +kernel
theorem dX1_howManyBelow_31 : decode cX1_howManyBelow 31 = .ok (.iconst 1, 1) := by decide +kernel
theorem dX1_howManyBelow_32 : decode cX1_howManyBelow 32 = .ok (.isub, 1) := by decide +kernel
theorem dX1_howManyBelow_33 : decode cX1_howManyBelow 33 = .ok (.iaload, 1) := by decide +kernel
theorem dX1_howManyBelow_34 : decode cX1_howManyBelow 34 = .ok (.iload_n 1, 1) := by decide +kernel
theorem dX1_howManyBelow_35 : decode cX1_howManyBelow 35 = .ok (.if_icmp .ge 7, 3) := by decide +kernel
theorem dX1_howManyBelow_38 : decode cX1_howManyBelow 38 = .ok (.iload_n 2, 1) := by decide +kernel
theorem dX1_howManyBelow_39 : decode cX1_howManyBelow 39 = .ok (.iload_n 3, 1) := by decide +kernel
theorem dX1_howManyBelow_40 : decode cX1_howManyBelow 40 = .ok (.iadd, 1) := by decide +kernel
theorem dX1_howManyBelow_41 : decode cX1_howManyBelow 41 = .ok (.istore_n 2, 1) := by decide +kernel
theorem dX1_howManyBelow_42 : decode cX1_howManyBelow 42 = .ok (.iload_n 3, 1) := by decide +kernel
theorem dX1_howManyBelow_43 : decode cX1_howManyBelow 43 = .ok (.iconst 1, 1) := by decide +kernel
theorem dX1_howManyBelow_44 : decode cX1_howManyBelow 44 = .ok (.ishr, 1) := by decide +kernel
theorem dX1_howManyBelow_45 : decode cX1_howManyBelow 45 = .ok (.istore_n 3, 1) := by decide +kernel
theorem dX1_howManyBelow_46 : decode cX1_howManyBelow 46 = .ok (.goto (-36), 3) := by decide +kernel
theorem dX1_howManyBelow_49 : decode cX1_howManyBelow 49 = .ok (.iload_n 2, 1) := by decide +kernel
theorem dX1_howManyBelow_50 : decode cX1_howManyBelow 50 = .ok (.ireturn, 1) := by decide +kernel
theorem dX2_init_0 : decode cX2_init 0 = .ok (.aload_n 0, 1) := by decide +kernel
theorem dX2_init_1 : decode cX2_init 1 = .ok (.invokespecial 1, 3) := by decide +kernel
theorem dX2_init_4 : decode cX2_init 4 = .ok (.aload_n 0, 1) := by decide +kernel
theorem dX2_init_5 : decode cX2_init 5 = .ok (.iload_n 1, 1) := by decide +kernel
theorem dX2_init_6 : decode cX2_init 6 = .ok (.putfield 7, 3) := by decide +kernel
theorem dX2_init_9 : decode cX2_init 9 = .ok (.aload_n 0, 1) := by decide +kernel
theorem dX2_init_10 : decode cX2_init 10 = .ok (.iload_n 2, 1) := by decide +kernel
theorem dX2_init_11 : decode cX2_init 11 = .ok (.putfield 13, 3) := by decide +kernel
theorem dX2_init_14 : decode cX2_init 14 = .ok (.aload_n 0, 1) := by decide +kernel
theorem dX2_init_15 : decode cX2_init 15 = .ok (.iload_n 3, 1) := by decide +kernel
theorem dX2_init_16 : decode cX2_init 16 = .ok (.putfield 16, 3) := by decide +kernel
theorem dX2_init_19 : decode cX2_init 19 = .ok (.return_, 1) := by decide +kernel
theorem dX2_isWithin_0 : decode cX2_isWithin 0 = .ok (.iload_n 1, 1) := by decide +kernel
theorem dX2_isWithin_1 : decode cX2_isWithin 1 = .ok (.aload_n 0, 1) := by decide +kernel
theorem dX2_isWithin_2 : decode cX2_isWithin 2 = .ok (.getfield 13, 3) := by decide +kernel
theorem dX2_isWithin_5 : decode cX2_isWithin 5 = .ok (.if_icmp .gt 15, 3) := by decide +kernel
theorem dX2_isWithin_8 : decode cX2_isWithin 8 = .ok (.aload_n 0, 1) := by decide +kernel
theorem dX2_isWithin_9 : decode cX2_isWithin 9 = .ok (.getfield 13, 3) := by decide +kernel
theorem dX2_isWithin_12 : decode cX2_isWithin 12 = .ok (.iload_n 2, 1) := by decide +kernel
theorem dX2_isWithin_13 : decode cX2_isWithin 13 = .ok (.if_icmp .gt 7, 3) := by decide +kernel
theorem dX2_isWithin_16 : decode cX2_isWithin 16 = .ok (.iconst 1, 1) := by decide +kernel
theorem dX2_isWithin_17 : decode cX2_isWithin 17 = .ok (.goto 4, 3) := by decide +kernel
theorem dX2_isWithin_20 : decode cX2_isWithin 20 = .ok (.iconst 0, 1) := by decide +kernel
theorem dX2_isWithin_21 : decode cX2_isWithin 21 = .ok (.ireturn, 1) := by decide +kernel
theorem dX3_init_0 : decode cX3_init 0 = .ok (.aload_n 0, 1) := by decide +kernel
theorem dX3_init_1 : decode cX3_init 1 = .ok (.invokespecial 1, 3) := by decide +kernel
theorem dX3_init_4 : decode cX3_init 4 = .ok (.aload_n 0, 1) := by decide +kernel
theorem dX3_init_5 : decode cX3_init 5 = .ok (.iload_n 1, 1) := by decide +kernel
theorem dX3_init_6 : decode cX3_init 6 = .ok (.putfield 7, 3) := by decide +kernel
theorem dX3_init_9 : decode cX3_init 9 = .ok (.aload_n 0, 1) := by decide +kernel
theorem dX3_init_10 : decode cX3_init 10 = .ok (.iload_n 2, 1) := by decide +kernel
theorem dX3_init_11 : decode cX3_init 11 = .ok (.putfield 13, 3) := by decide +kernel
theorem dX3_init_14 : decode cX3_init 14 = .ok (.aload_n 0, 1) := by decide +kernel
theorem dX3_init_15 : decode cX3_init 15 = .ok (.iload_n 2, 1) := by decide +kernel
theorem dX3_init_16 : decode cX3_init 16 = .ok (.putfield 16, 3) := by decide +kernel
theorem dX3_init_19 : decode cX3_init 19 = .ok (.return_, 1) := by decide +kernel
theorem dX3_takeSample_0 : decode cX3_takeSample 0 = .ok (.iload_n 1, 1) := by decide +kernel
theorem dX3_takeSample_1 : decode cX3_takeSample 1 = .ok (.aload_n 0, 1) := by decide +kernel
theorem dX3_takeSample_2 : decode cX3_takeSample 2 = .ok (.getfield 19, 3) := by decide +kernel
theorem dX3_takeSample_5 : decode cX3_takeSample 5 = .ok (.if_icmp .ge 7, 3) := by decide +kernel
theorem dX3_takeSample_8 : decode cX3_takeSample 8 = .ok (.iconst 1, 1) := by decide +kernel
theorem dX3_takeSample_9 : decode cX3_takeSample 9 = .ok (.goto 4, 3) := by decide +kernel
theorem dX3_takeSample_12 : decode cX3_takeSample 12 = .ok (.iconst 0, 1) := by decide +kernel
theorem dX3_takeSample_13 : decode cX3_takeSample 13 = .ok (.istore_n 3, 1) := by decide +kernel
theorem dX3_takeSample_14 : decode cX3_takeSample 14 = .ok (.iload_n 3, 1) := by decide +kernel
theorem dX3_takeSample_15 : decode cX3_takeSample 15 = .ok (.ifCond .eq 7, 3) := by decide +kernel
theorem dX3_takeSample_18 : decode cX3_takeSample 18 = .ok (.iload_n 1, 1) := by decide +kernel
theorem dX3_takeSample_19 : decode cX3_takeSample 19 = .ok (.goto 9, 3) := by decide +kernel
theorem dX3_takeSample_22 : decode cX3_takeSample 22 = .ok (.iload_n 1, 1) := by decide +kernel
theorem dX3_takeSample_23 : decode cX3_takeSample 23 = .ok (.aload_n 0, 1) := by decide +kernel
theorem dX3_takeSample_24 : decode cX3_takeSample 24 = .ok (.getfield 19, 3) := by decide +kernel
theorem dX3_takeSample_27 : decode cX3_takeSample 27 = .ok (.isub, 1) := by decide +kernel
theorem dX3_takeSample_28 : decode cX3_takeSample 28 = .ok (.istore 4, 2) := by decide +kernel
theorem dX3_takeSample_30 : decode cX3_takeSample 30 = .ok (.iload_n 3, 1) := by decide +kernel
theorem dX3_takeSample_31 : decode cX3_takeSample 31 = .ok (.ifCond .eq 13, 3) := by decide +kernel
theorem dX3_takeSample_34 : decode cX3_takeSample 34 = .ok (.aload_n 0, 1) := by decide +kernel
theorem dX3_takeSample_35 : decode cX3_takeSample 35 = .ok (.dup, 1) := by decide +kernel
theorem dX3_takeSample_36 : decode cX3_takeSample 36 = .ok (.getfield 22, 3) := by decide +kernel
theorem dX3_takeSample_39 : decode cX3_takeSample 39 = .ok (.iconst 1, 1) := by decide +kernel
theorem dX3_takeSample_40 : decode cX3_takeSample 40 = .ok (.iadd, 1) := by decide +kernel
theorem dX3_takeSample_41 : decode cX3_takeSample 41 = .ok (.putfield 22, 3) := by decide +kernel
theorem dX3_takeSample_44 : decode cX3_takeSample 44 = .ok (.aload_n 0, 1) := by decide +kernel
theorem dX3_takeSample_45 : decode cX3_takeSample 45 = .ok (.dup, 1) := by decide +kernel
theorem dX3_takeSample_46 : decode cX3_takeSample 46 = .ok (.getfield 25, 3) := by decide +kernel
theorem dX3_takeSample_49 : decode cX3_takeSample 49 = .ok (.iconst 1, 1) := by decide +kernel
theorem dX3_takeSample_50 : decode cX3_takeSample 50 = .ok (.iadd, 1) := by decide +kernel
theorem dX3_takeSample_51 : decode cX3_takeSample 51 = .ok (.putfield 25, 3) := by decide +kernel
theorem dX3_takeSample_54 : decode cX3_takeSample 54 = .ok (.aload_n 0, 1) := by decide +kernel
theorem dX3_takeSample_55 : decode cX3_takeSample 55 = .ok (.iload_n 1, 1) := by decide +kernel
theorem dX3_takeSample_56 : decode cX3_takeSample 56 = .ok (.putfield 19, 3) := by decide +kernel
theorem dX3_takeSample_59 : decode cX3_takeSample 59 = .ok (.aload_n 0, 1) := by decide +kernel
theorem dX3_takeSample_60 : decode cX3_takeSample 60 = .ok (.iload_n 2, 1) := by decide +kernel
theorem dX3_takeSample_61 : decode cX3_takeSample 61 = .ok (.putfield 16, 3) := by decide +kernel
theorem dX3_takeSample_64 : decode cX3_takeSample 64 = .ok (.iload 4, 2) := by decide +kernel
theorem dX3_takeSample_66 : decode cX3_takeSample 66 = .ok (.ireturn, 1) := by decide +kernel
theorem dX4_init_0 : decode cX4_init 0 = .ok (.aload_n 0, 1) := by decide +kernel
theorem dX4_init_1 : decode cX4_init 1 = .ok (.invokespecial 3, 3) := by decide +kernel
theorem dX4_init_4 : decode cX4_init 4 = .ok (.aload_n 0, 1) := by decide +kernel
theorem dX4_init_5 : decode cX4_init 5 = .ok (.sipush 200, 3) := by decide +kernel
theorem dX4_init_8 : decode cX4_init 8 = .ok (.newarray .int, 2) := by decide +kernel
theorem dX4_init_10 : decode cX4_init 10 = .ok (.putfield 9, 3) := by decide +kernel
theorem dX4_init_13 : decode cX4_init 13 = .ok (.aload_n 0, 1) := by decide +kernel
theorem dX4_init_14 : decode cX4_init 14 = .ok (.sipush 1200, 3) := by decide +kernel
theorem dX4_init_17 : decode cX4_init 17 = .ok (.newarray .int, 2) := by decide +kernel
theorem dX4_init_19 : decode cX4_init 19 = .ok (.putfield 15, 3) := by decide +kernel
theorem dX4_init_22 : decode cX4_init 22 = .ok (.iconst 0, 1) := by decide +kernel
theorem dX4_init_23 : decode cX4_init 23 = .ok (.istore_n 1, 1) := by decide +kernel
theorem dX4_init_24 : decode cX4_init 24 = .ok (.iload_n 1, 1) := by decide +kernel
theorem dX4_init_25 : decode cX4_init 25 = .ok (.bipush 6, 2) := by decide +kernel
theorem dX4_init_27 : decode cX4_init 27 = .ok (.if_icmp .ge 17, 3) := by decide +kernel
theorem dX4_init_30 : decode cX4_init 30 = .ok (.aload_n 0, 1) := by decide +kernel
theorem dX4_init_31 : decode cX4_init 31 = .ok (.getfield 15, 3) := by decide +kernel
theorem dX4_init_34 : decode cX4_init 34 = .ok (.iload_n 1, 1) := by decide +kernel
theorem dX4_init_35 : decode cX4_init 35 = .ok (.ldc 18, 2) := by decide +kernel
theorem dX4_init_37 : decode cX4_init 37 = .ok (.iastore, 1) := by decide +kernel
theorem dX4_init_38 : decode cX4_init 38 = .ok (.iinc 1 1, 3) := by decide +kernel
theorem dX4_init_41 : decode cX4_init 41 = .ok (.goto (-17), 3) := by decide +kernel
theorem dX4_init_44 : decode cX4_init 44 = .ok (.return_, 1) := by decide +kernel
theorem dX4_carryOn_0 : decode cX4_carryOn 0 = .ok (.iload_n 1, 1) := by decide +kernel
theorem dX4_carryOn_1 : decode cX4_carryOn 1 = .ok (.iconst 1, 1) := by decide +kernel
theorem dX4_carryOn_2 : decode cX4_carryOn 2 = .ok (.iadd, 1) := by decide +kernel
theorem dX4_carryOn_3 : decode cX4_carryOn 3 = .ok (.istore_n 3, 1) := by decide +kernel
theorem dX4_carryOn_4 : decode cX4_carryOn 4 = .ok (.iload_n 3, 1) := by decide +kernel
theorem dX4_carryOn_5 : decode cX4_carryOn 5 = .ok (.iload_n 2, 1) := by decide +kernel
theorem dX4_carryOn_6 : decode cX4_carryOn 6 = .ok (.if_icmp .gt 42, 3) := by decide +kernel
theorem dX4_carryOn_9 : decode cX4_carryOn 9 = .ok (.aload_n 0, 1) := by decide +kernel
theorem dX4_carryOn_10 : decode cX4_carryOn 10 = .ok (.getfield 9, 3) := by decide +kernel
theorem dX4_carryOn_13 : decode cX4_carryOn 13 = .ok (.iload_n 3, 1) := by decide +kernel
theorem dX4_carryOn_14 : decode cX4_carryOn 14 = .ok (.aload_n 0, 1) := by decide +kernel
theorem dX4_carryOn_15 : decode cX4_carryOn 15 = .ok (.getfield 9, 3) := by decide +kernel
theorem dX4_carryOn_18 : decode cX4_carryOn 18 = .ok (.iload_n 1, 1) := by decide +kernel
theorem dX4_carryOn_19 : decode cX4_carryOn 19 = .ok (.iaload, 1) := by decide +kernel
theorem dX4_carryOn_20 : decode cX4_carryOn 20 = .ok (.iastore, 1) := by decide +kernel
theorem dX4_carryOn_21 : decode cX4_carryOn 21 = .ok (.aload_n 0, 1) := by decide +kernel
theorem dX4_carryOn_22 : decode cX4_carryOn 22 = .ok (.getfield 15, 3) := by decide +kernel
theorem dX4_carryOn_25 : decode cX4_carryOn 25 = .ok (.iload_n 1, 1) := by decide +kernel
theorem dX4_carryOn_26 : decode cX4_carryOn 26 = .ok (.bipush 6, 2) := by decide +kernel
theorem dX4_carryOn_28 : decode cX4_carryOn 28 = .ok (.imul, 1) := by decide +kernel
theorem dX4_carryOn_29 : decode cX4_carryOn 29 = .ok (.aload_n 0, 1) := by decide +kernel
theorem dX4_carryOn_30 : decode cX4_carryOn 30 = .ok (.getfield 15, 3) := by decide +kernel
theorem dX4_carryOn_33 : decode cX4_carryOn 33 = .ok (.iload_n 3, 1) := by decide +kernel
theorem dX4_carryOn_34 : decode cX4_carryOn 34 = .ok (.bipush 6, 2) := by decide +kernel
theorem dX4_carryOn_36 : decode cX4_carryOn 36 = .ok (.imul, 1) := by decide +kernel
theorem dX4_carryOn_37 : decode cX4_carryOn 37 = .ok (.bipush 6, 2) := by decide +kernel
theorem dX4_carryOn_39 : decode cX4_carryOn 39 = .ok (.invokestatic 19, 3) := by decide +kernel
theorem dX4_carryOn_42 : decode cX4_carryOn 42 = .ok (.iinc 3 1, 3) := by decide +kernel
theorem dX4_carryOn_45 : decode cX4_carryOn 45 = .ok (.goto (-41), 3) := by decide +kernel
theorem dX4_carryOn_48 : decode cX4_carryOn 48 = .ok (.return_, 1) := by decide +kernel
set_option maxRecDepth 20000 in
theorem ggX4_isDropped_X5_hasBit : GoodIn wsX4_isDropped wsX5_hasBit := goodIn_r _ [4] (by decide +kernel) (by decide +kernel)
set_option maxRecDepth 20000 in
theorem gX4_isDropped_X5_hasBit_n25 : GoodIn wsX4_isDropped (wsX5_hasBit) := ggX4_isDropped_X5_hasBit
theorem dX4_isDropped_0 : decode cX4_isDropped 0 = .ok (.aload_n 0, 1) := by decide +kernel
theorem dX4_isDropped_1 : decode cX4_isDropped 1 = .ok (.getfield 9, 3) := by decide +kernel
theorem dX4_isDropped_4 : decode cX4_isDropped 4 = .ok (.iload_n 2, 1) := by decide +kernel
theorem dX4_isDropped_5 : decode cX4_isDropped 5 = .ok (.iaload, 1) := by decide +kernel
theorem dX4_isDropped_6 : decode cX4_isDropped 6 = .ok (.iload_n 1, 1) := by decide +kernel
theorem dX4_isDropped_7 : decode cX4_isDropped 7 = .ok (.invokestatic 25, 3) := by decide +kernel
theorem dX4_isDropped_10 : decode cX4_isDropped 10 = .ok (.ireturn, 1) := by decide +kernel
theorem dX4_setDropped_0 : decode cX4_setDropped 0 = .ok (.iconst 1, 1) := by decide +kernel
theorem dX4_setDropped_1 : decode cX4_setDropped 1 = .ok (.iload_n 1, 1) := by decide +kernel
theorem dX4_setDropped_2 : decode cX4_setDropped 2 = .ok (.ishl, 1) := by decide +kernel
theorem dX4_setDropped_3 : decode cX4_setDropped 3 = .ok (.istore 4, 2) := by decide +kernel
theorem dX4_setDropped_5 : decode cX4_setDropped 5 = .ok (.aload_n 0, 1) := by decide +kernel
theorem dX4_setDropped_6 : decode cX4_setDropped 6 = .ok (.getfield 9, 3) := by decide +kernel
theorem dX4_setDropped_9 : decode cX4_setDropped 9 = .ok (.iload_n 3, 1) := by decide +kernel
theorem dX4_setDropped_10 : decode cX4_setDropped 10 = .ok (.iload_n 2, 1) := by decide +kernel
theorem dX4_setDropped_11 : decode cX4_setDropped 11 = .ok (.ifCond .eq 15, 3) := by decide +kernel
theorem dX4_setDropped_14 : decode cX4_setDropped 14 = .ok (.aload_n 0, 1) := by decide +kernel
theorem dX4_setDropped_15 : decode cX4_setDropped 15 = .ok (.getfield 9, 3) := by decide +kernel
theorem dX4_setDropped_18 : decode cX4_setDropped 18 = .ok (.iload_n 3, 1) := by decide +kernel
theorem dX4_setDropped_19 : decode cX4_setDropped 19 = .ok (.iaload, 1) := by decide +kernel
theorem dX4_setDropped_20 : decode cX4_setDropped 20 = .ok (.iload 4, 2) := by decide +kernel
theorem dX4_setDropped_22 : decode cX4_setDropped 22 = .ok (.ior, 1) := by decide +kernel
theorem dX4_setDropped_23 : decode cX4_setDropped 23 = .ok (.goto 14, 3) := by decide +kernel
theorem dX4_setDropped_26 : decode cX4_setDropped 26 = .ok (.aload_n 0, 1) := by decide +kernel
theorem dX4_setDropped_27 : decode cX4_setDropped 27 = .ok (.getfield 9, 3) := by decide +kernel
theorem dX4_setDropped_30 : decode cX4_setDropped 30 = .ok (.iload_n 3, 1) := by decide +kernel
theorem dX4_setDropped_31 : decode cX4_setDropped 31 = .ok (.iaload, 1) := by decide +kernel
theorem dX4_setDropped_32 : decode cX4_setDropped 32 = .ok (.iload 4, 2) := by decide +kernel
theorem dX4_setDropped_34 : decode cX4_setDropped 34 = .ok (.iconst (-1), 1) := by decide +kernel
theorem dX4_setDropped_35 : decode cX4_setDropped 35 = .ok (.ixor, 1) := by decide +kernel
theorem dX4_setDropped_36 : decode cX4_setDropped 36 = .ok (.iand, 1) := by decide +kernel
theorem dX4_setDropped_37 : decode cX4_setDropped 37 = .ok (.iastore, 1) := by decide +kernel
theorem dX4_setDropped_38 : decode cX4_setDropped 38 = .ok (.return_, 1) := by decide +kernel
set_option maxRecDepth 20000 in
theorem ggX4_chiefOf_X5_digit : GoodIn wsX4_chiefOf wsX5_digit := goodIn_r _ [4] (by decide +kernel) (by decide +kernel)
set_option maxRecDepth 20000 in
theorem gX4_chiefOf_X5_digit_n29 : GoodIn wsX4_chiefOf (wsX5_digit) := ggX4_chiefOf_X5_digit
theorem dX4_chiefOf_0 : decode cX4_chiefOf 0 = .ok (.aload_n 0, 1) := by decide +kernel
theorem dX4_chiefOf_1 : decode cX4_chiefOf 1 = .ok (.getfield 15, 3) := by decide +kernel
theorem dX4_chiefOf_4 : decode cX4_chiefOf 4 = .ok (.iload_n 3, 1) := by decide +kernel
theorem dX4_chiefOf_5 : decode cX4_chiefOf 5 = .ok (.bipush 6, 2) := by decide +kernel
theorem dX4_chiefOf_7 : decode cX4_chiefOf 7 = .ok (.imul, 1) := by decide +kernel
theorem dX4_chiefOf_8 : decode cX4_chiefOf 8 = .ok (.iload_n 1, 1) := by decide +kernel
theorem dX4_chiefOf_9 : decode cX4_chiefOf 9 = .ok (.iadd, 1) := by decide +kernel
theorem dX4_chiefOf_10 : decode cX4_chiefOf 10 = .ok (.iaload, 1) := by decide +kernel
theorem dX4_chiefOf_11 : decode cX4_chiefOf 11 = .ok (.iload_n 2, 1) := by decide +kernel
theorem dX4_chiefOf_12 : decode cX4_chiefOf 12 = .ok (.invokestatic 29, 3) := by decide +kernel
theorem dX4_chiefOf_15 : decode cX4_chiefOf 15 = .ok (.ireturn, 1) := by decide +kernel
set_option maxRecDepth 20000 in
theorem ggX4_putTogether_X4_chiefOf : GoodIn wsX4_putTogether wsX4_chiefOf := goodIn_r _ [10, 5, 11, 12, 13, 16, 17] (by decide +kernel) (by decide +kernel)
set_option maxRecDepth 20000 in
theorem gX4_putTogether_X4_chiefOf : GoodIn wsX4_putTogether (wsV RX4 33 RX4 yX4_chiefOf wsX4_chiefOf) := goodIn_app (goodIn_of _ (by decide +kernel)) ggX4_putTogether_X4_chiefOf
set_option maxRecDepth 20000 in
theorem ggX4_putTogether_X5_atPlace : GoodIn wsX4_putTogether wsX5_atPlace := goodIn_r _ [15] (by decide +kernel) (by decide +kernel)
set_option maxRecDepth 20000 in
theorem gX4_putTogether_X5_atPlace_n42 : GoodIn wsX4_putTogether (wsX5_atPlace) := ggX4_putTogether_X5_atPlace
theorem dX4_putTogether_0 : decode cX4_putTogether 0 = .ok (.aload_n 0, 1) := by decide +kernel
theorem dX4_putTogether_1 : decode cX4_putTogether 1 = .ok (.iload_n 1, 1) := by decide +kernel
theorem dX4_putTogether_2 : decode cX4_putTogether 2 = .ok (.iload_n 2, 1) := by decide +kernel
theorem dX4_putTogether_3 : decode cX4_putTogether 3 = .ok (.iload 4, 2) := by decide +kernel
theorem dX4_putTogether_5 : decode cX4_putTogether 5 = .ok (.invokevirtual 33, 3) := by decide +kernel
theorem dX4_putTogether_8 : decode cX4_putTogether 8 = .ok (.istore 5, 2) := by decide +kernel
theorem dX4_putTogether_10 : decode cX4_putTogether 10 = .ok (.aload_n 0, 1) := by decide +kernel
theorem dX4_putTogether_11 : decode cX4_putTogether 11 = .ok (.iload_n 1, 1) := by decide +kernel
theorem dX4_putTogether_12 : decode cX4_putTogether 12 = .ok (.iload_n 3, 1) := by decide +kernel
theorem dX4_putTogether_13 : decode cX4_putTogether 13 = .ok (.iload 4, 2) := by decide +kernel
theorem dX4_putTogether_15 : decode cX4_putTogether 15 = .ok (.invokevirtual 33, 3) := by decide +kernel
theorem dX4_putTogether_18 : decode cX4_putTogether 18 = .ok (.istore 6, 2) := by decide +kernel
theorem dX4_putTogether_20 : decode cX4_putTogether 20 = .ok (.iload 5, 2) := by decide +kernel
theorem dX4_putTogether_22 : decode cX4_putTogether 22 = .ok (.iload 6, 2) := by decide +kernel
theorem dX4_putTogether_24 : decode cX4_putTogether 24 = .ok (.invokestatic 37, 3) := by decide +kernel
theorem dX4_putTogether_27 : decode cX4_putTogether 27 = .ok (.istore 7, 2) := by decide +kernel
theorem dX4_putTogether_29 : decode cX4_putTogether 29 = .ok (.iconst 0, 1) := by decide +kernel
theorem dX4_putTogether_30 : decode cX4_putTogether 30 = .ok (.istore 8, 2) := by decide +kernel
theorem dX4_putTogether_32 : decode cX4_putTogether 32 = .ok (.iconst 0, 1) := by decide +kernel
theorem dX4_putTogether_33 : decode cX4_putTogether 33 = .ok (.istore 9, 2) := by decide +kernel
theorem dX4_putTogether_35 : decode cX4_putTogether 35 = .ok (.iload 9, 2) := by decide +kernel
theorem dX4_putTogether_37 : decode cX4_putTogether 37 = .ok (.bipush 8, 2) := by decide +kernel
theorem dX4_putTogether_39 : decode cX4_putTogether 39 = .ok (.if_icmp .ge 63, 3) := by decide +kernel
theorem dX4_putTogether_42 : decode cX4_putTogether 42 = .ok (.aload_n 0, 1) := by decide +kernel
theorem dX4_putTogether_43 : decode cX4_putTogether 43 = .ok (.iload_n 1, 1) := by decide +kernel
theorem dX4_putTogether_44 : decode cX4_putTogether 44 = .ok (.iload 9, 2) := by decide +kernel
theorem dX4_putTogether_46 : decode cX4_putTogether 46 = .ok (.iload 4, 2) := by decide +kernel
theorem dX4_putTogether_48 : decode cX4_putTogether 48 = .ok (.invokevirtual 33, 3) := by decide +kernel
theorem dX4_putTogether_51 : decode cX4_putTogether 51 = .ok (.istore 10, 2) := by decide +kernel
theorem dX4_putTogether_53 : decode cX4_putTogether 53 = .ok (.iload 10, 2) := by decide +kernel
theorem dX4_putTogether_55 : decode cX4_putTogether 55 = .ok (.iload 5, 2) := by decide +kernel
theorem dX4_putTogether_57 : decode cX4_putTogether 57 = .ok (.if_icmp .eq 10, 3) := by decide +kernel
theorem dX4_putTogether_60 : decode cX4_putTogether 60 = .ok (.iload 10, 2) := by decide +kernel
theorem dX4_putTogether_62 : decode cX4_putTogether 62 = .ok (.iload 6, 2) := by decide +kernel
theorem dX4_putTogether_64 : decode cX4_putTogether 64 = .ok (.if_icmp .ne 7, 3) := by decide +kernel
theorem dX4_putTogether_67 : decode cX4_putTogether 67 = .ok (.iconst 1, 1) := by decide +kernel
theorem dX4_putTogether_68 : decode cX4_putTogether 68 = .ok (.goto 4, 3) := by decide +kernel
theorem dX4_putTogether_71 : decode cX4_putTogether 71 = .ok (.iconst 0, 1) := by decide +kernel
theorem dX4_putTogether_72 : decode cX4_putTogether 72 = .ok (.istore 11, 2) := by decide +kernel
theorem dX4_putTogether_74 : decode cX4_putTogether 74 = .ok (.iload 8, 2) := by decide +kernel
theorem dX4_putTogether_76 : decode cX4_putTogether 76 = .ok (.iload 11, 2) := by decide +kernel
theorem dX4_putTogether_78 : decode cX4_putTogether 78 = .ok (.ifCond .eq 8, 3) := by decide +kernel
theorem dX4_putTogether_81 : decode cX4_putTogether 81 = .ok (.iload 7, 2) := by decide +kernel
theorem dX4_putTogether_83 : decode cX4_putTogether 83 = .ok (.goto 5, 3) := by decide +kernel
theorem dX4_putTogether_86 : decode cX4_putTogether 86 = .ok (.iload 10, 2) := by decide +kernel
theorem dX4_putTogether_88 : decode cX4_putTogether 88 = .ok (.iload 9, 2) := by decide +kernel
theorem dX4_putTogether_90 : decode cX4_putTogether 90 = .ok (.invokestatic 42, 3) := by decide +kernel
theorem dX4_putTogether_93 : decode cX4_putTogether 93 = .ok (.ior, 1) := by decide +kernel
theorem dX4_putTogether_94 : decode cX4_putTogether 94 = .ok (.istore 8, 2) := by decide +kernel
theorem dX4_putTogether_96 : decode cX4_putTogether 96 = .ok (.iinc 9 1, 3) := by decide +kernel
theorem dX4_putTogether_99 : decode cX4_putTogether 99 = .ok (.goto (-64), 3) := by decide +kernel
theorem dX4_putTogether_102 : decode cX4_putTogether 102 = .ok (.aload_n 0, 1) := by decide +kernel
theorem dX4_putTogether_103 : decode cX4_putTogether 103 = .ok (.getfield 15, 3) := by decide +kernel
theorem dX4_putTogether_106 : decode cX4_putTogether 106 = .ok (.iload 4, 2) := by decide +kernel
theorem dX4_putTogether_108 : decode cX4_putTogether 108 = .ok (.bipush 6, 2) := by decide +kernel
theorem dX4_putTogether_110 : decode cX4_putTogether 110 = .ok (.imul, 1) := by decide +kernel
theorem dX4_putTogether_111 : decode cX4_putTogether 111 = .ok (.iload_n 1, 1) := by decide +kernel
theorem dX4_putTogether_112 : decode cX4_putTogether 112 = .ok (.iadd, 1) := by decide +kernel
theorem dX4_putTogether_113 : decode cX4_putTogether 113 = .ok (.iload 8, 2) := by decide +kernel
theorem dX4_putTogether_115 : decode cX4_putTogether 115 = .ok (.iastore, 1) := by decide +kernel
theorem dX4_putTogether_116 : decode cX4_putTogether 116 = .ok (.iload 7, 2) := by decide +kernel
theorem dX4_putTogether_118 : decode cX4_putTogether 118 = .ok (.ireturn, 1) := by decide +kernel
set_option maxRecDepth 20000 in
theorem ggX4_isAnyFolded_X5_hasBit : GoodIn wsX4_isAnyFolded wsX5_hasBit := goodIn_r _ [5] (by decide +kernel) (by decide +kernel)
set_option maxRecDepth 20000 in
theorem gX4_isAnyFolded_X5_hasBit_n25 : GoodIn wsX4_isAnyFolded (wsX5_hasBit) := ggX4_isAnyFolded_X5_hasBit
theorem dX4_isAnyFolded_0 : decode cX4_isAnyFolded 0 = .ok (.iconst 0, 1) := by decide +kernel
theorem dX4_isAnyFolded_1 : decode cX4_isAnyFolded 1 = .ok (.istore_n 3, 1) := by decide +kernel
theorem dX4_isAnyFolded_2 : decode cX4_isAnyFolded 2 = .ok (.iload_n 3, 1) := by decide +kernel
theorem dX4_isAnyFolded_3 : decode cX4_isAnyFolded 3 = .ok (.bipush 6, 2) := by decide +kernel
theorem dX4_isAnyFolded_5 : decode cX4_isAnyFolded 5 = .ok (.if_icmp .ge 35, 3) := by decide +kernel
theorem dX4_isAnyFolded_8 : decode cX4_isAnyFolded 8 = .ok (.iload_n 1, 1) := by decide +kernel
theorem dX4_isAnyFolded_9 : decode cX4_isAnyFolded 9 = .ok (.iload_n 3, 1) := by decide +kernel
theorem dX4_isAnyFolded_10 : decode cX4_isAnyFolded 10 = .ok (.invokestatic 25, 3) := by decide +kernel
theorem dX4_isAnyFolded_13 : decode cX4_isAnyFolded 13 = .ok (.ifCond .eq 21, 3) := by decide +kernel
theorem dX4_isAnyFolded_16 : decode cX4_isAnyFolded 16 = .ok (.aload_n 0, 1) := by decide +kernel
theorem dX4_isAnyFolded_17 : decode cX4_isAnyFolded 17 = .ok (.getfield 15, 3) := by decide +kernel
theorem dX4_isAnyFolded_20 : decode cX4_isAnyFolded 20 = .ok (.iload_n 2, 1) := by decide +kernel
theorem dX4_isAnyFolded_21 : decode cX4_isAnyFolded 21 = .ok (.bipush 6, 2) := by decide +kernel
theorem dX4_isAnyFolded_23 : decode cX4_isAnyFolded 23 = .ok (.imul, 1) := by decide +kernel
theorem dX4_isAnyFolded_24 : decode cX4_isAnyFolded 24 = .ok (.iload_n 3, 1) := by decide +kernel
theorem dX4_isAnyFolded_25 : decode cX4_isAnyFolded 25 = .ok (.iadd, 1) := by decide +kernel
theorem dX4_isAnyFolded_26 : decode cX4_isAnyFolded 26 = .ok (.iaload, 1) := by decide +kernel
theorem dX4_isAnyFolded_27 : decode cX4_isAnyFolded 27 = .ok (.ldc 18, 2) := by decide +kernel
theorem dX4_isAnyFolded_29 : decode cX4_isAnyFolded 29 = .ok (.if_icmp .eq 5, 3) := by decide +kernel
theorem dX4_isAnyFolded_32 : decode cX4_isAnyFolded 32 = .ok (.iconst 1, 1) := by decide +kernel
theorem dX4_isAnyFolded_33 : decode cX4_isAnyFolded 33 = .ok (.ireturn, 1) := by decide +kernel
theorem dX4_isAnyFolded_34 : decode cX4_isAnyFolded 34 = .ok (.iinc 3 1, 3) := by decide +kernel
theorem dX4_isAnyFolded_37 : decode cX4_isAnyFolded 37 = .ok (.goto (-35), 3) := by decide +kernel
theorem dX4_isAnyFolded_40 : decode cX4_isAnyFolded 40 = .ok (.iconst 0, 1) := by decide +kernel
theorem dX4_isAnyFolded_41 : decode cX4_isAnyFolded 41 = .ok (.ireturn, 1) := by decide +kernel
set_option maxRecDepth 20000 in
theorem ggX4_shorten_X4_isDropped : GoodIn wsX4_shorten wsX4_isDropped := goodIn_r _ [5, 6, 7, 8, 9, 19, 20] (by decide +kernel) (by decide +kernel)
set_option maxRecDepth 20000 in
theorem gX4_shorten_X4_isDropped : GoodIn wsX4_shorten (wsV RX4 45 RX4 yX4_isDropped wsX4_isDropped) := goodIn_app (goodIn_of _ (by decide +kernel)) ggX4_shorten_X4_isDropped
set_option maxRecDepth 20000 in
theorem ggX4_shorten_X5_digit : GoodIn wsX4_shorten wsX5_digit := goodIn_r _ [11] (by decide +kernel) (by decide +kernel)
set_option maxRecDepth 20000 in
theorem gX4_shorten_X5_digit_n29 : GoodIn wsX4_shorten (wsX5_digit) := ggX4_shorten_X5_digit
set_option maxRecDepth 20000 in
theorem ggX4_shorten_X4_chiefOf : GoodIn wsX4_shorten wsX4_chiefOf := goodIn_r _ [15, 16, 10, 8, 11, 19, 20] (by decide +kernel) (by decide +kernel)
set_option maxRecDepth 20000 in
theorem gX4_shorten_X4_chiefOf : GoodIn wsX4_shorten (wsV RX4 33 RX4 yX4_chiefOf wsX4_chiefOf) := goodIn_app (goodIn_of _ (by decide +kernel)) ggX4_shorten_X4_chiefOf
set_option maxRecDepth 20000 in
theorem ggX4_shorten_X5_atPlace : GoodIn wsX4_shorten wsX5_atPlace := goodIn_r _ [18] (by decide +kernel) (by decide +kernel)
set_option maxRecDepth 20000 in
theorem gX4_shorten_X5_atPlace_n42 : GoodIn wsX4_shorten (wsX5_atPlace) := ggX4_shorten_X5_atPlace
theorem dX4_shorten_0 : decode cX4_shorten 0 = .ok (.iconst 0, 1) := by decide +kernel
theorem dX4_shorten_1 : decode cX4_shorten 1 = .ok (.istore_n 3, 1) := by decide +kernel
theorem dX4_shorten_2 : decode cX4_shorten 2 = .ok (.iconst 0, 1) := by decide +kernel
theorem dX4_shorten_3 : decode cX4_shorten 3 = .ok (.istore 4, 2) := by decide +kernel
theorem dX4_shorten_5 : decode cX4_shorten 5 = .ok (.iload 4, 2) := by decide +kernel
theorem dX4_shorten_7 : decode cX4_shorten 7 = .ok (.bipush 6, 2) := by decide +kernel
theorem dX4_shorten_9 : decode cX4_shorten 9 = .ok (.if_icmp .ge 40, 3) := by decide +kernel
theorem dX4_shorten_12 : decode cX4_shorten 12 = .ok (.aload_n 0, 1) := by decide +kernel
theorem dX4_shorten_13 : decode cX4_shorten 13 = .ok (.iload 4, 2) := by decide +kernel
theorem dX4_shorten_15 : decode cX4_shorten 15 = .ok (.iload_n 2, 1) := by decide +kernel
theorem dX4_shorten_16 : decode cX4_shorten 16 = .ok (.invokevirtual 45, 3) := by decide +kernel
theorem dX4_shorten_19 : decode cX4_shorten 19 = .ok (.ifCond .ne 24, 3) := by decide +kernel
theorem dX4_shorten_22 : decode cX4_shorten 22 = .ok (.iload_n 3, 1) := by decide +kernel
theorem dX4_shorten_23 : decode cX4_shorten 23 = .ok (.aload_n 0, 1) := by decide +kernel
theorem dX4_shorten_24 : decode cX4_shorten 24 = .ok (.iload 4, 2) := by decide +kernel
theorem dX4_shorten_26 : decode cX4_shorten 26 = .ok (.iload_n 1, 1) := by decide +kernel
theorem dX4_shorten_27 : decode cX4_shorten 27 = .ok (.iload 4, 2) := by decide +kernel
theorem dX4_shorten_29 : decode cX4_shorten 29 = .ok (.invokestatic 29, 3) := by decide +kernel
theorem dX4_shorten_32 : decode cX4_shorten 32 = .ok (.iload_n 2, 1) := by decide +kernel
theorem dX4_shorten_33 : decode cX4_shorten 33 = .ok (.invokevirtual 33, 3) := by decide +kernel
theorem dX4_shorten_36 : decode cX4_shorten 36 = .ok (.iload 4, 2) := by decide +kernel
theorem dX4_shorten_38 : decode cX4_shorten 38 = .ok (.invokestatic 42, 3) := by decide +kernel
theorem dX4_shorten_41 : decode cX4_shorten 41 = .ok (.ior, 1) := by decide +kernel
theorem dX4_shorten_42 : decode cX4_shorten 42 = .ok (.istore_n 3, 1) := by decide +kernel
theorem dX4_shorten_43 : decode cX4_shorten 43 = .ok (.iinc 4 1, 3) := by decide +kernel
theorem dX4_shorten_46 : decode cX4_shorten 46 = .ok (.goto (-41), 3) := by decide +kernel
theorem dX4_shorten_49 : decode cX4_shorten 49 = .ok (.iload_n 3, 1) := by decide +kernel
theorem dX4_shorten_50 : decode cX4_shorten 50 = .ok (.ireturn, 1) := by decide +kernel
set_option maxRecDepth 20000 in
theorem ggX5_init_Jx4a65c_init_da8c8 : GoodIn wsX5_init wsJx4a65c_init_da8c8 := goodIn_r _ [23, 24, 25, 26, 27, 28, 29, 30, 31, 32, 33, 34, 35, 2, 3, 47, 48, 49] (by decide +kernel) (by decide +kernel)
set_option maxRecDepth 20000 in
theorem gX5_init_Jx4a65c_init_da8c8 : GoodIn wsX5_init (wsJx4a65c_init_da8c8) := ggX5_init_Jx4a65c_init_da8c8
set_option maxRecDepth 20000 in
theorem ggX5_init_X4_init : GoodIn wsX5_init wsX4_init := goodIn_r _ [38, 39, 2, 3, 14, 40, 41, 42, 58, 59] (by decide +kernel) (by decide +kernel)
set_option maxRecDepth 20000 in
theorem gX5_init_X4_init : GoodIn wsX5_init (wsX4_init) := ggX5_init_X4_init
set_option maxRecDepth 20000 in
theorem ggX5_init_X1_init : GoodIn wsX5_init wsX1_init := goodIn_r _ [44, 45, 2, 3, 14, 46, 60, 61] (by decide +kernel) (by decide +kernel)
set_option maxRecDepth 20000 in
theorem gX5_init_X1_init_n35 : GoodIn wsX5_init (wsX1_init) := ggX5_init_X1_init
theorem dX5_init_0 : decode cX5_init 0 = .ok (.aload_n 0, 1) := by decide +kernel
theorem dX5_init_1 : decode cX5_init 1 = .ok (.invokespecial 1, 3) := by decide +kernel
theorem dX5_init_4 : decode cX5_init 4 = .ok (.aload_n 0, 1) := by decide +kernel
theorem dX5_init_5 : decode cX5_init 5 = .ok (.new 7, 3) := by decide +kernel
theorem dX5_init_8 : decode cX5_init 8 = .ok (.dup, 1) := by decide +kernel
theorem dX5_init_9 : decode cX5_init 9 = .ok (.invokespecial 9, 3) := by decide +kernel
theorem dX5_init_12 : decode cX5_init 12 = .ok (.putfield 10, 3) := by decide +kernel
theorem dX5_init_15 : decode cX5_init 15 = .ok (.aload_n 0, 1) := by decide +kernel
theorem dX5_init_16 : decode cX5_init 16 = .ok (.new 7, 3) := by decide +kernel
theorem dX5_init_19 : decode cX5_init 19 = .ok (.dup, 1) := by decide +kernel
theorem dX5_init_20 : decode cX5_init 20 = .ok (.invokespecial 9, 3) := by decide +kernel
theorem dX5_init_23 : decode cX5_init 23 = .ok (.putfield 16, 3) := by decide +kernel
theorem dX5_init_26 : decode cX5_init 26 = .ok (.aload_n 0, 1) := by decide +kernel
theorem dX5_init_27 : decode cX5_init 27 = .ok (.new 7, 3) := by decide +kernel
theorem dX5_init_30 : decode cX5_init 30 = .ok (.dup, 1) := by decide +kernel
theorem dX5_init_31 : decode cX5_init 31 = .ok (.invokespecial 9, 3) := by decide +kernel
theorem dX5_init_34 : decode cX5_init 34 = .ok (.putfield 19, 3) := by decide +kernel
theorem dX5_init_37 : decode cX5_init 37 = .ok (.aload_n 0, 1) := by decide +kernel
theorem dX5_init_38 : decode cX5_init 38 = .ok (.new 22, 3) := by decide +kernel
theorem dX5_init_41 : decode cX5_init 41 = .ok (.dup, 1) := by decide +kernel
theorem dX5_init_42 : decode cX5_init 42 = .ok (.invokespecial 24, 3) := by decide +kernel
theorem dX5_init_45 : decode cX5_init 45 = .ok (.putfield 25, 3) := by decide +kernel
theorem dX5_init_48 : decode cX5_init 48 = .ok (.aload_n 0, 1) := by decide +kernel
theorem dX5_init_49 : decode cX5_init 49 = .ok (.bipush 6, 2) := by decide +kernel
theorem dX5_init_51 : decode cX5_init 51 = .ok (.newarray .int, 2) := by decide +kernel
theorem dX5_init_53 : decode cX5_init 53 = .ok (.putfield 29, 3) := by decide +kernel
theorem dX5_init_56 : decode cX5_init 56 = .ok (.aload_n 0, 1) := by decide +kernel
theorem dX5_init_57 : decode cX5_init 57 = .ok (.new 33, 3) := by decide +kernel
theorem dX5_init_60 : decode cX5_init 60 = .ok (.dup, 1) := by decide +kernel
theorem dX5_init_61 : decode cX5_init 61 = .ok (.invokespecial 35, 3) := by decide +kernel
theorem dX5_init_64 : decode cX5_init 64 = .ok (.putfield 36, 3) := by decide +kernel
theorem dX5_init_67 : decode cX5_init 67 = .ok (.aload_n 0, 1) := by decide +kernel
theorem dX5_init_68 : decode cX5_init 68 = .ok (.new 33, 3) := by decide +kernel
theorem dX5_init_71 : decode cX5_init 71 = .ok (.dup, 1) := by decide +kernel
theorem dX5_init_72 : decode cX5_init 72 = .ok (.invokespecial 35, 3) := by decide +kernel
theorem dX5_init_75 : decode cX5_init 75 = .ok (.putfield 40, 3) := by decide +kernel
theorem dX5_init_78 : decode cX5_init 78 = .ok (.return_, 1) := by decide +kernel
set_option maxRecDepth 20000 in
theorem ggX5_pass_X4_carryOn : GoodIn wsX5_pass wsX4_carryOn := goodIn_r _ [7, 8, 9, 10, 11, 12, 13, 22, 23] (by decide +kernel) (by decide +kernel)
set_option maxRecDepth 20000 in
theorem gX5_pass_X4_carryOn : GoodIn wsX5_pass (wsV RX5 47 RX4 yX4_carryOn wsX4_carryOn) := goodIn_app (goodIn_of _ (by decide +kernel)) ggX5_pass_X4_carryOn
theorem dX5_pass_0 : decode cX5_pass 0 = .ok (.iload_n 1, 1) := by decide +kernel
theorem dX5_pass_1 : decode cX5_pass 1 = .ok (.iconst 1, 1) := by decide +kernel
theorem dX5_pass_2 : decode cX5_pass 2 = .ok (.if_icmp .lt 10, 3) := by decide +kernel
theorem dX5_pass_5 : decode cX5_pass 5 = .ok (.iload_n 1, 1) := by decide +kernel
theorem dX5_pass_6 : decode cX5_pass 6 = .ok (.sipush 199, 3) := by decide +kernel
theorem dX5_pass_9 : decode cX5_pass 9 = .ok (.if_icmp .le 6, 3) := by decide +kernel
theorem dX5_pass_12 : decode cX5_pass 12 = .ok (.bipush (-2), 2) := by decide +kernel
theorem dX5_pass_14 : decode cX5_pass 14 = .ok (.ireturn, 1) := by decide +kernel
theorem dX5_pass_15 : decode cX5_pass 15 = .ok (.aload_n 0, 1) := by decide +kernel
theorem dX5_pass_16 : decode cX5_pass 16 = .ok (.getfield 43, 3) := by decide +kernel
theorem dX5_pass_19 : decode cX5_pass 19 = .ok (.iload_n 1, 1) := by decide +kernel
theorem dX5_pass_20 : decode cX5_pass 20 = .ok (.iadd, 1) := by decide +kernel
theorem dX5_pass_21 : decode cX5_pass 21 = .ok (.sipush 199, 3) := by decide +kernel
theorem dX5_pass_24 : decode cX5_pass 24 = .ok (.if_icmp .le 6, 3) := by decide +kernel
theorem dX5_pass_27 : decode cX5_pass 27 = .ok (.bipush (-4), 2) := by decide +kernel
theorem dX5_pass_29 : decode cX5_pass 29 = .ok (.ireturn, 1) := by decide +kernel
theorem dX5_pass_30 : decode cX5_pass 30 = .ok (.aload_n 0, 1) := by decide +kernel
theorem dX5_pass_31 : decode cX5_pass 31 = .ok (.getfield 25, 3) := by decide +kernel
theorem dX5_pass_34 : decode cX5_pass 34 = .ok (.aload_n 0, 1) := by decide +kernel
theorem dX5_pass_35 : decode cX5_pass 35 = .ok (.getfield 43, 3) := by decide +kernel
theorem dX5_pass_38 : decode cX5_pass 38 = .ok (.aload_n 0, 1) := by decide +kernel
theorem dX5_pass_39 : decode cX5_pass 39 = .ok (.getfield 43, 3) := by decide +kernel
theorem dX5_pass_42 : decode cX5_pass 42 = .ok (.iload_n 1, 1) := by decide +kernel
theorem dX5_pass_43 : decode cX5_pass 43 = .ok (.iadd, 1) := by decide +kernel
theorem dX5_pass_44 : decode cX5_pass 44 = .ok (.invokevirtual 47, 3) := by decide +kernel
theorem dX5_pass_47 : decode cX5_pass 47 = .ok (.aload_n 0, 1) := by decide +kernel
theorem dX5_pass_48 : decode cX5_pass 48 = .ok (.dup, 1) := by decide +kernel
theorem dX5_pass_49 : decode cX5_pass 49 = .ok (.getfield 43, 3) := by decide +kernel
theorem dX5_pass_52 : decode cX5_pass 52 = .ok (.iload_n 1, 1) := by decide +kernel
theorem dX5_pass_53 : decode cX5_pass 53 = .ok (.iadd, 1) := by decide +kernel
theorem dX5_pass_54 : decode cX5_pass 54 = .ok (.putfield 43, 3) := by decide +kernel
theorem dX5_pass_57 : decode cX5_pass 57 = .ok (.aload_n 0, 1) := by decide +kernel
theorem dX5_pass_58 : decode cX5_pass 58 = .ok (.getfield 43, 3) := by decide +kernel
theorem dX5_pass_61 : decode cX5_pass 61 = .ok (.ireturn, 1) := by decide +kernel
set_option maxRecDepth 20000 in
theorem ggX5_tell_X5_isName : GoodIn wsX5_tell wsX5_isName := goodIn_r _ [15, 16] (by decide +kernel) (by decide +kernel)
set_option maxRecDepth 20000 in
theorem gX5_tell_X5_isName : GoodIn wsX5_tell (va_wsS RX5 51 yX5_isName wsX5_isName) := goodIn_app (goodIn_of _ (by decide +kernel)) ggX5_tell_X5_isName
set_option maxRecDepth 20000 in
theorem ggX5_tell_X5_numberOf : GoodIn wsX5_tell wsX5_numberOf := goodIn_r _ [20, 2, 3, 21, 22, 23, 24, 25, 26, 27, 28, 29, 30, 31, 32, 33, 34, 35, 36, 37, 38, 39, 40, 41, 42, 43, 120, 121, 122, 123, 124, 125, 126, 127, 128, 129, 130, 131, 132, 133, 137, 138, 139] (by decide +kernel) (by decide +kernel)
set_option maxRecDepth 20000 in
theorem gX5_tell_X5_numberOf : GoodIn wsX5_tell (wsV RX5 56 RX5 yX5_numberOf wsX5_numberOf) := goodIn_app (goodIn_of _ (by decide +kernel)) ggX5_tell_X5_numberOf
set_option maxRecDepth 20000 in
theorem ggX5_tell_Jx4a65c_get_915e3 : GoodIn wsX5_tell wsJx4a65c_get_915e3 := goodIn_r _ [30, 26, 31, 32, 33, 34, 35, 36, 37, 38, 39, 40, 41, 24, 42, 43, 137, 138, 139] (by decide +kernel) (by decide +kernel)
set_option maxRecDepth 20000 in
theorem gX5_tell_Jx4a65c_get_915e3 : GoodIn wsX5_tell (wsV RX5 60 RJx4a65c yJx4a65c_get_915e3 wsJx4a65c_get_915e3) := goodIn_app (goodIn_of _ (by decide +kernel)) ggX5_tell_Jx4a65c_get_915e3
set_option maxRecDepth 20000 in
theorem ggX5_tell_Jx4a65c_size_8abf5 : GoodIn wsX5_tell wsJx4a65c_size_8abf5 := goodIn_r _ [25, 26, 137, 138, 139] (by decide +kernel) (by decide +kernel)
set_option maxRecDepth 20000 in
theorem gX5_tell_Jx4a65c_size_8abf5 : GoodIn wsX5_tell (wsV RX5 69 RJx4a65c yJx4a65c_size_8abf5 wsJx4a65c_size_8abf5) := goodIn_app (goodIn_of _ (by decide +kernel)) ggX5_tell_Jx4a65c_size_8abf5
set_option maxRecDepth 20000 in
theorem ggX5_tell_X3_init : GoodIn wsX5_tell wsX3_init := goodIn_r _ [46, 47, 48, 49, 50, 51, 52, 128, 129, 130, 131, 132, 133] (by decide +kernel) (by decide +kernel)
set_option maxRecDepth 20000 in
theorem gX5_tell_X3_init : GoodIn wsX5_tell (wsX3_init) := ggX5_tell_X3_init
set_option maxRecDepth 20000 in
theorem ggX5_tell_Jx4a65c_add_9ea2d : GoodIn wsX5_tell wsJx4a65c_add_9ea2d := goodIn_r _ [56, 57, 58, 43, 26, 59, 60, 61, 24, 62, 63, 64, 65, 66, 67, 68, 69, 70, 71, 72, 73, 74, 75, 76, 77, 78, 79, 80, 81, 82, 83, 84, 85, 86, 87, 88, 89, 90, 91, 92, 93, 94, 95, 96, 97, 98, 99, 100, 101, 102, 103, 104, 105, 137, 138, 139] (by decide +kernel) (by decide +kernel)
set_option maxRecDepth 20000 in
theorem gX5_tell_Jx4a65c_add_9ea2d : GoodIn wsX5_tell (wsV RX5 75 RJx4a65c yJx4a65c_add_9ea2d wsJx4a65c_add_9ea2d) := goodIn_app (goodIn_of _ (by decide +kernel)) ggX5_tell_Jx4a65c_add_9ea2d
set_option maxRecDepth 20000 in
theorem ggX5_tell_X3_takeSample : GoodIn wsX5_tell wsX3_takeSample := goodIn_r _ [109, 110, 111, 112, 52, 128, 129, 130, 131, 132, 133] (by decide +kernel) (by decide +kernel)
set_option maxRecDepth 20000 in
theorem gX5_tell_X3_takeSample : GoodIn wsX5_tell (wsV RX5 79 RX3 yX3_takeSample wsX3_takeSample) := goodIn_app (goodIn_of _ (by decide +kernel)) ggX5_tell_X3_takeSample
set_option maxRecDepth 20000 in
theorem ggX5_tell_X2_init : GoodIn wsX5_tell wsX2_init := goodIn_r _ [115, 116, 48, 49, 117, 118, 119, 134, 135, 136] (by decide +kernel) (by decide +kernel)
set_option maxRecDepth 20000 in
theorem gX5_tell_X2_init : GoodIn wsX5_tell (wsX2_init) := ggX5_tell_X2_init
theorem dX5_tell_0 : decode cX5_tell 0 = .ok (.iload_n 1, 1) := by decide +kernel
theorem dX5_tell_1 : decode cX5_tell 1 = .ok (.invokestatic 51, 3) := by decide +kernel
theorem dX5_tell_4 : decode cX5_tell 4 = .ok (.ifCond .eq 13, 3) := by decide +kernel
theorem dX5_tell_7 : decode cX5_tell 7 = .ok (.iload_n 2, 1) := by decide +kernel
theorem dX5_tell_8 : decode cX5_tell 8 = .ok (.ifCond .lt 9, 3) := by decide +kernel
theorem dX5_tell_11 : decode cX5_tell 11 = .ok (.iload_n 2, 1) := by decide +kernel
theorem dX5_tell_12 : decode cX5_tell 12 = .ok (.ldc 55, 2) := by decide +kernel
theorem dX5_tell_14 : decode cX5_tell 14 = .ok (.if_icmp .le 6, 3) := by decide +kernel
theorem dX5_tell_17 : decode cX5_tell 17 = .ok (.bipush (-2), 2) := by decide +kernel
theorem dX5_tell_19 : decode cX5_tell 19 = .ok (.ireturn, 1) := by decide +kernel
theorem dX5_tell_20 : decode cX5_tell 20 = .ok (.aload_n 0, 1) := by decide +kernel
theorem dX5_tell_21 : decode cX5_tell 21 = .ok (.iload_n 1, 1) := by decide +kernel
theorem dX5_tell_22 : decode cX5_tell 22 = .ok (.invokevirtual 56, 3) := by decide +kernel
theorem dX5_tell_25 : decode cX5_tell 25 = .ok (.istore_n 3, 1) := by decide +kernel
theorem dX5_tell_26 : decode cX5_tell 26 = .ok (.iload_n 3, 1) := by decide +kernel
theorem dX5_tell_27 : decode cX5_tell 27 = .ok (.bipush (-9), 2) := by decide +kernel
theorem dX5_tell_29 : decode cX5_tell 29 = .ok (.if_icmp .eq 27, 3) := by decide +kernel
theorem dX5_tell_32 : decode cX5_tell 32 = .ok (.aload_n 0, 1) := by decide +kernel
theorem dX5_tell_33 : decode cX5_tell 33 = .ok (.getfield 10, 3) := by decide +kernel
theorem dX5_tell_36 : decode cX5_tell 36 = .ok (.iload_n 3, 1) := by decide +kernel
theorem dX5_tell_37 : decode cX5_tell 37 = .ok (.invokevirtual 60, 3) := by decide +kernel
theorem dX5_tell_40 : decode cX5_tell 40 = .ok (.checkcast 64, 3) := by decide +kernel
theorem dX5_tell_43 : decode cX5_tell 43 = .ok (.getfield 66, 3) := by decide +kernel
theorem dX5_tell_46 : decode cX5_tell 46 = .ok (.aload_n 0, 1) := by decide +kernel
theorem dX5_tell_47 : decode cX5_tell 47 = .ok (.getfield 43, 3) := by decide +kernel
theorem dX5_tell_50 : decode cX5_tell 50 = .ok (.if_icmp .ne 6, 3) := by decide +kernel
theorem dX5_tell_53 : decode cX5_tell 53 = .ok (.bipush (-3), 2) := by decide +kernel
theorem dX5_tell_55 : decode cX5_tell 55 = .ok (.ireturn, 1) := by decide +kernel
theorem dX5_tell_56 : decode cX5_tell 56 = .ok (.iload_n 3, 1) := by decide +kernel
theorem dX5_tell_57 : decode cX5_tell 57 = .ok (.bipush (-9), 2) := by decide +kernel
theorem dX5_tell_59 : decode cX5_tell 59 = .ok (.if_icmp .ne 19, 3) := by decide +kernel
theorem dX5_tell_62 : decode cX5_tell 62 = .ok (.aload_n 0, 1) := by decide +kernel
theorem dX5_tell_63 : decode cX5_tell 63 = .ok (.getfield 10, 3) := by decide +kernel
theorem dX5_tell_66 : decode cX5_tell 66 = .ok (.invokevirtual 69, 3) := by decide +kernel
theorem dX5_tell_69 : decode cX5_tell 69 = .ok (.bipush 120, 2) := by decide +kernel
theorem dX5_tell_71 : decode cX5_tell 71 = .ok (.if_icmp .lt 7, 3) := by decide +kernel
theorem dX5_tell_74 : decode cX5_tell 74 = .ok (.iconst 1, 1) := by decide +kernel
theorem dX5_tell_75 : decode cX5_tell 75 = .ok (.goto 4, 3) := by decide +kernel
theorem dX5_tell_78 : decode cX5_tell 78 = .ok (.iconst 0, 1) := by decide +kernel
theorem dX5_tell_79 : decode cX5_tell 79 = .ok (.istore 4, 2) := by decide +kernel
theorem dX5_tell_81 : decode cX5_tell 81 = .ok (.iload 4, 2) := by decide +kernel
theorem dX5_tell_83 : decode cX5_tell 83 = .ok (.ifCond .ne 16, 3) := by decide +kernel
theorem dX5_tell_86 : decode cX5_tell 86 = .ok (.aload_n 0, 1) := by decide +kernel
theorem dX5_tell_87 : decode cX5_tell 87 = .ok (.getfield 16, 3) := by decide +kernel
theorem dX5_tell_90 : decode cX5_tell 90 = .ok (.invokevirtual 69, 3) := by decide +kernel
theorem dX5_tell_93 : decode cX5_tell 93 = .ok (.sipush 2000, 3) := by decide +kernel
theorem dX5_tell_96 : decode cX5_tell 96 = .ok (.if_icmp .lt 6, 3) := by decide +kernel
theorem dX5_tell_99 : decode cX5_tell 99 = .ok (.bipush (-4), 2) := by decide +kernel
theorem dX5_tell_101 : decode cX5_tell 101 = .ok (.ireturn, 1) := by decide +kernel
theorem dX5_tell_102 : decode cX5_tell 102 = .ok (.iload_n 3, 1) := by decide +kernel
theorem dX5_tell_103 : decode cX5_tell 103 = .ok (.bipush (-9), 2) := by decide +kernel
theorem dX5_tell_105 : decode cX5_tell 105 = .ok (.if_icmp .ne 31, 3) := by decide +kernel
theorem dX5_tell_108 : decode cX5_tell 108 = .ok (.aload_n 0, 1) := by decide +kernel
theorem dX5_tell_109 : decode cX5_tell 109 = .ok (.getfield 10, 3) := by decide +kernel
theorem dX5_tell_112 : decode cX5_tell 112 = .ok (.invokevirtual 69, 3) := by decide +kernel
theorem dX5_tell_115 : decode cX5_tell 115 = .ok (.istore_n 3, 1) := by decide +kernel
theorem dX5_tell_116 : decode cX5_tell 116 = .ok (.aload_n 0, 1) := by decide +kernel
theorem dX5_tell_117 : decode cX5_tell 117 = .ok (.getfield 10, 3) := by decide +kernel
theorem dX5_tell_120 : decode cX5_tell 120 = .ok (.new 64, 3) := by decide +kernel
theorem dX5_tell_123 : decode cX5_tell 123 = .ok (.dup, 1) := by decide +kernel
theorem dX5_tell_124 : decode cX5_tell 124 = .ok (.iload_n 1, 1) := by decide +kernel
theorem dX5_tell_125 : decode cX5_tell 125 = .ok (.aload_n 0, 1) := by decide +kernel
theorem dX5_tell_126 : decode cX5_tell 126 = .ok (.getfield 43, 3) := by decide +kernel
theorem dX5_tell_129 : decode cX5_tell 129 = .ok (.invokespecial 73, 3) := by decide +kernel
theorem dX5_tell_132 : decode cX5_tell 132 = .ok (.invokevirtual 75, 3) := by decide +kernel
theorem dX5_tell_135 : decode cX5_tell 135 = .ok (.pop, 1) := by decide +kernel
theorem dX5_tell_136 : decode cX5_tell 136 = .ok (.aload_n 0, 1) := by decide +kernel
theorem dX5_tell_137 : decode cX5_tell 137 = .ok (.getfield 10, 3) := by decide +kernel
theorem dX5_tell_140 : decode cX5_tell 140 = .ok (.iload_n 3, 1) := by decide +kernel
theorem dX5_tell_141 : decode cX5_tell 141 = .ok (.invokevirtual 60, 3) := by decide +kernel
theorem dX5_tell_144 : decode cX5_tell 144 = .ok (.checkcast 64, 3) := by decide +kernel
theorem dX5_tell_147 : decode cX5_tell 147 = .ok (.iload_n 2, 1) := by decide +kernel
theorem dX5_tell_148 : decode cX5_tell 148 = .ok (.aload_n 0, 1) := by decide +kernel
theorem dX5_tell_149 : decode cX5_tell 149 = .ok (.getfield 43, 3) := by decide +kernel
theorem dX5_tell_152 : decode cX5_tell 152 = .ok (.invokevirtual 79, 3) := by decide +kernel
theorem dX5_tell_155 : decode cX5_tell 155 = .ok (.istore 5, 2) := by decide +kernel
theorem dX5_tell_157 : decode cX5_tell 157 = .ok (.aload_n 0, 1) := by decide +kernel
theorem dX5_tell_158 : decode cX5_tell 158 = .ok (.getfield 16, 3) := by decide +kernel
theorem dX5_tell_161 : decode cX5_tell 161 = .ok (.new 83, 3) := by decide +kernel
theorem dX5_tell_164 : decode cX5_tell 164 = .ok (.dup, 1) := by decide +kernel
theorem dX5_tell_165 : decode cX5_tell 165 = .ok (.iload_n 1, 1) := by decide +kernel
theorem dX5_tell_166 : decode cX5_tell 166 = .ok (.aload_n 0, 1) := by decide +kernel
theorem dX5_tell_167 : decode cX5_tell 167 = .ok (.getfield 43, 3) := by decide +kernel
theorem dX5_tell_170 : decode cX5_tell 170 = .ok (.iload 5, 2) := by decide +kernel
theorem dX5_tell_172 : decode cX5_tell 172 = .ok (.invokespecial 85, 3) := by decide +kernel
theorem dX5_tell_175 : decode cX5_tell 175 = .ok (.invokevirtual 75, 3) := by decide +kernel
theorem dX5_tell_178 : decode cX5_tell 178 = .ok (.pop, 1) := by decide +kernel
theorem dX5_tell_179 : decode cX5_tell 179 = .ok (.iload_n 3, 1) := by decide +kernel
theorem dX5_tell_180 : decode cX5_tell 180 = .ok (.ireturn, 1) := by decide +kernel
set_option maxRecDepth 20000 in
theorem ggX5_series_X5_isSeries : GoodIn wsX5_series wsX5_isSeries := goodIn_r _ [7, 1, 8, 9, 10, 11, 12, 13, 31, 32, 33, 34, 35, 36, 37, 38, 45, 46, 47] (by decide +kernel) (by decide +kernel)
set_option maxRecDepth 20000 in
theorem gX5_series_X5_isSeries : GoodIn wsX5_series (wsV RX5 88 RX5 yX5_isSeries wsX5_isSeries) := goodIn_app (goodIn_of _ (by decide +kernel)) ggX5_series_X5_isSeries
set_option maxRecDepth 20000 in
theorem ggX5_series_Jx4a65c_get_915e3 : GoodIn wsX5_series wsJx4a65c_get_915e3 := goodIn_r _ [17, 13, 18, 19, 20, 21, 22, 23, 24, 25, 26, 27, 28, 11, 29, 30, 45, 46, 47] (by decide +kernel) (by decide +kernel)
set_option maxRecDepth 20000 in
theorem gX5_series_Jx4a65c_get_915e3 : GoodIn wsX5_series (wsV RX5 60 RJx4a65c yJx4a65c_get_915e3 wsJx4a65c_get_915e3) := goodIn_app (goodIn_of _ (by decide +kernel)) ggX5_series_Jx4a65c_get_915e3
theorem dX5_series_0 : decode cX5_series 0 = .ok (.aload_n 0, 1) := by decide +kernel
theorem dX5_series_1 : decode cX5_series 1 = .ok (.iload_n 1, 1) := by decide +kernel
theorem dX5_series_2 : decode cX5_series 2 = .ok (.invokevirtual 88, 3) := by decide +kernel
theorem dX5_series_5 : decode cX5_series 5 = .ok (.ifCond .ne 5, 3) := by decide +kernel
theorem dX5_series_8 : decode cX5_series 8 = .ok (.iconst (-1), 1) := by decide +kernel
theorem dX5_series_9 : decode cX5_series 9 = .ok (.ireturn, 1) := by decide +kernel
theorem dX5_series_10 : decode cX5_series 10 = .ok (.aload_n 0, 1) := by decide +kernel
theorem dX5_series_11 : decode cX5_series 11 = .ok (.getfield 10, 3) := by decide +kernel
theorem dX5_series_14 : decode cX5_series 14 = .ok (.iload_n 1, 1) := by decide +kernel
theorem dX5_series_15 : decode cX5_series 15 = .ok (.invokevirtual 60, 3) := by decide +kernel
theorem dX5_series_18 : decode cX5_series 18 = .ok (.checkcast 64, 3) := by decide +kernel
theorem dX5_series_21 : decode cX5_series 21 = .ok (.astore_n 3, 1) := by decide +kernel
theorem dX5_series_22 : decode cX5_series 22 = .ok (.iload_n 2, 1) := by decide +kernel
theorem dX5_series_23 : decode cX5_series 23 = .ok (.tableswitch 67 0 5 #[37, 42, 47, 52, 57, 62], 37) := by decide +kernel
theorem dX5_series_60 : decode cX5_series 60 = .ok (.aload_n 3, 1) := by decide +kernel
theorem dX5_series_61 : decode cX5_series 61 = .ok (.getfield 91, 3) := by decide +kernel
theorem dX5_series_64 : decode cX5_series 64 = .ok (.ireturn, 1) := by decide +kernel
theorem dX5_series_65 : decode cX5_series 65 = .ok (.aload_n 3, 1) := by decide +kernel
theorem dX5_series_66 : decode cX5_series 66 = .ok (.getfield 94, 3) := by decide +kernel
theorem dX5_series_69 : decode cX5_series 69 = .ok (.ireturn, 1) := by decide +kernel
theorem dX5_series_70 : decode cX5_series 70 = .ok (.aload_n 3, 1) := by decide +kernel
theorem dX5_series_71 : decode cX5_series 71 = .ok (.getfield 97, 3) := by decide +kernel
theorem dX5_series_74 : decode cX5_series 74 = .ok (.ireturn, 1) := by decide +kernel
theorem dX5_series_75 : decode cX5_series 75 = .ok (.aload_n 3, 1) := by decide +kernel
theorem dX5_series_76 : decode cX5_series 76 = .ok (.getfield 100, 3) := by decide +kernel
theorem dX5_series_79 : decode cX5_series 79 = .ok (.ireturn, 1) := by decide +kernel
theorem dX5_series_80 : decode cX5_series 80 = .ok (.aload_n 3, 1) := by decide +kernel
theorem dX5_series_81 : decode cX5_series 81 = .ok (.getfield 66, 3) := by decide +kernel
theorem dX5_series_84 : decode cX5_series 84 = .ok (.ireturn, 1) := by decide +kernel
theorem dX5_series_85 : decode cX5_series 85 = .ok (.aload_n 3, 1) := by decide +kernel
theorem dX5_series_86 : decode cX5_series 86 = .ok (.getfield 103, 3) := by decide +kernel
theorem dX5_series_89 : decode cX5_series 89 = .ok (.ireturn, 1) := by decide +kernel
theorem dX5_series_90 : decode cX5_series 90 = .ok (.bipush (-2), 2) := by decide +kernel
theorem dX5_series_92 : decode cX5_series 92 = .ok (.ireturn, 1) := by decide +kernel
set_option maxRecDepth 20000 in
theorem ggX5_find_X5_isName : GoodIn wsX5_find wsX5_isName := goodIn_r _ [4, 5] (by decide +kernel) (by decide +kernel)
set_option maxRecDepth 20000 in
theorem gX5_find_X5_isName : GoodIn wsX5_find (va_wsS RX5 51 yX5_isName wsX5_isName) := goodIn_app (goodIn_of _ (by decide +kernel)) ggX5_find_X5_isName
set_option maxRecDepth 20000 in
theorem ggX5_find_X5_numberOf : GoodIn wsX5_find wsX5_numberOf := goodIn_r _ [9, 10, 11, 12, 13, 14, 15, 16, 17, 18, 19, 20, 21, 22, 23, 24, 25, 26, 27, 28, 29, 30, 31, 32, 33, 34, 35, 36, 37, 38, 39, 40, 41, 42, 43, 44, 45, 46, 47, 48, 49, 50, 51] (by decide +kernel) (by decide +kernel)
set_option maxRecDepth 20000 in
theorem gX5_find_X5_numberOf : GoodIn wsX5_find (wsV RX5 56 RX5 yX5_numberOf wsX5_numberOf) := goodIn_app (goodIn_of _ (by decide +kernel)) ggX5_find_X5_numberOf
theorem dX5_find_0 : decode cX5_find 0 = .ok (.iload_n 1, 1) := by decide +kernel
theorem dX5_find_1 : decode cX5_find 1 = .ok (.invokestatic 51, 3) := by decide +kernel
theorem dX5_find_4 : decode cX5_find 4 = .ok (.ifCond .ne 6, 3) := by decide +kernel
theorem dX5_find_7 : decode cX5_find 7 = .ok (.bipush (-2), 2) := by decide +kernel
theorem dX5_find_9 : decode cX5_find 9 = .ok (.ireturn, 1) := by decide +kernel
theorem dX5_find_10 : decode cX5_find 10 = .ok (.aload_n 0, 1) := by decide +kernel
theorem dX5_find_11 : decode cX5_find 11 = .ok (.iload_n 1, 1) := by decide +kernel
theorem dX5_find_12 : decode cX5_find 12 = .ok (.invokevirtual 56, 3) := by decide +kernel
theorem dX5_find_15 : decode cX5_find 15 = .ok (.ireturn, 1) := by decide +kernel
set_option maxRecDepth 20000 in
theorem ggX5_growth_X5_isSeries : GoodIn wsX5_growth wsX5_isSeries := goodIn_r _ [9, 3, 10, 11, 12, 13, 14, 15, 59, 60, 61, 62, 63, 64, 65, 66, 73, 74, 75] (by decide +kernel) (by decide +kernel)
set_option maxRecDepth 20000 in
theorem gX5_growth_X5_isSeries : GoodIn wsX5_growth (wsV RX5 88 RX5 yX5_isSeries wsX5_isSeries) := goodIn_app (goodIn_of _ (by decide +kernel)) ggX5_growth_X5_isSeries
set_option maxRecDepth 20000 in
theorem ggX5_growth_X5_isSpan : GoodIn wsX5_growth wsX5_isSpan := goodIn_r _ [19, 20, 59, 60, 61, 62, 63, 64, 65, 66] (by decide +kernel) (by decide +kernel)
set_option maxRecDepth 20000 in
theorem gX5_growth_X5_isSpan : GoodIn wsX5_growth (wsV RX5 108 RX5 yX5_isSpan wsX5_isSpan) := goodIn_app (goodIn_of _ (by decide +kernel)) ggX5_growth_X5_isSpan
set_option maxRecDepth 20000 in
theorem ggX5_growth_X5_digitsOf : GoodIn wsX5_growth wsX5_digitsOf := goodIn_r _ [23, 24, 25, 8, 26, 27, 28, 29] (by decide +kernel) (by decide +kernel)
set_option maxRecDepth 20000 in
theorem gX5_growth_X5_digitsOf : GoodIn wsX5_growth (va_wsS RX5 114 yX5_digitsOf wsX5_digitsOf) := goodIn_app (goodIn_of _ (by decide +kernel)) ggX5_growth_X5_digitsOf
set_option maxRecDepth 20000 in
theorem ggX5_growth_Jx4a65c_get_915e3 : GoodIn wsX5_growth wsJx4a65c_get_915e3 := goodIn_r _ [33, 15, 34, 35, 36, 37, 38, 39, 40, 41, 42, 43, 44, 13, 45, 46, 73, 74, 75] (by decide +kernel) (by decide +kernel)
set_option maxRecDepth 20000 in
theorem gX5_growth_Jx4a65c_get_915e3 : GoodIn wsX5_growth (wsV RX5 60 RJx4a65c yJx4a65c_get_915e3 wsJx4a65c_get_915e3) := goodIn_app (goodIn_of _ (by decide +kernel)) ggX5_growth_Jx4a65c_get_915e3
set_option maxRecDepth 20000 in
theorem ggX5_growth_X5_growthOfAlike : GoodIn wsX5_growth wsX5_growthOfAlike := goodIn_r _ [50, 51, 52, 10, 11, 12, 13, 14, 15, 30, 31, 32, 33, 34, 35, 36, 37, 38, 39, 40, 41, 42, 43, 44, 45, 46, 53, 54, 55, 56, 57, 58, 59, 60, 61, 62, 63, 64, 65, 66, 76, 77, 78, 73, 74, 75] (by decide +kernel) (by decide +kernel)
set_option maxRecDepth 20000 in
theorem gX5_growth_X5_growthOfAlike : GoodIn wsX5_growth (wsV RX5 117 RX5 yX5_growthOfAlike wsX5_growthOfAlike) := goodIn_app (goodIn_of _ (by decide +kernel)) ggX5_growth_X5_growthOfAlike
theorem dX5_growth_0 : decode cX5_growth 0 = .ok (.aload_n 0, 1) := by decide +kernel
theorem dX5_growth_1 : decode cX5_growth 1 = .ok (.iload_n 1, 1) := by decide +kernel
theorem dX5_growth_2 : decode cX5_growth 2 = .ok (.invokevirtual 88, 3) := by decide +kernel
theorem dX5_growth_5 : decode cX5_growth 5 = .ok (.ifCond .ne 7, 3) := by decide +kernel
theorem dX5_growth_8 : decode cX5_growth 8 = .ok (.ldc2_w 106, 3) := by decide +kernel
theorem dX5_growth_11 : decode cX5_growth 11 = .ok (.lreturn, 1) := by decide +kernel
theorem dX5_growth_12 : decode cX5_growth 12 = .ok (.aload_n 0, 1) := by decide +kernel
theorem dX5_growth_13 : decode cX5_growth 13 = .ok (.iload_n 2, 1) := by decide +kernel
theorem dX5_growth_14 : decode cX5_growth 14 = .ok (.iload_n 3, 1) := by decide +kernel
theorem dX5_growth_15 : decode cX5_growth 15 = .ok (.invokevirtual 108, 3) := by decide +kernel
theorem dX5_growth_18 : decode cX5_growth 18 = .ok (.ifCond .ne 7, 3) := by decide +kernel
theorem dX5_growth_21 : decode cX5_growth 21 = .ok (.ldc2_w 112, 3) := by decide +kernel
theorem dX5_growth_24 : decode cX5_growth 24 = .ok (.lreturn, 1) := by decide +kernel
theorem dX5_growth_25 : decode cX5_growth 25 = .ok (.aload_n 0, 1) := by decide +kernel
theorem dX5_growth_26 : decode cX5_growth 26 = .ok (.bipush 63, 2) := by decide +kernel
theorem dX5_growth_28 : decode cX5_growth 28 = .ok (.invokestatic 114, 3) := by decide +kernel
theorem dX5_growth_31 : decode cX5_growth 31 = .ok (.aload_n 0, 1) := by decide +kernel
theorem dX5_growth_32 : decode cX5_growth 32 = .ok (.getfield 10, 3) := by decide +kernel
theorem dX5_growth_35 : decode cX5_growth 35 = .ok (.iload_n 1, 1) := by decide +kernel
theorem dX5_growth_36 : decode cX5_growth 36 = .ok (.invokevirtual 60, 3) := by decide +kernel
theorem dX5_growth_39 : decode cX5_growth 39 = .ok (.checkcast 64, 3) := by decide +kernel
theorem dX5_growth_42 : decode cX5_growth 42 = .ok (.getfield 91, 3) := by decide +kernel
theorem dX5_growth_45 : decode cX5_growth 45 = .ok (.iload_n 2, 1) := by decide +kernel
theorem dX5_growth_46 : decode cX5_growth 46 = .ok (.iload_n 3, 1) := by decide +kernel
theorem dX5_growth_47 : decode cX5_growth 47 = .ok (.invokevirtual 117, 3) := by decide +kernel
theorem dX5_growth_50 : decode cX5_growth 50 = .ok (.lreturn, 1) := by decide +kernel
set_option maxRecDepth 20000 in
theorem ggX5_seen_X5_isSpan : GoodIn wsX5_seen wsX5_isSpan := goodIn_r _ [6, 7, 71, 72, 73, 74, 75, 76, 77, 78] (by decide +kernel) (by decide +kernel)
set_option maxRecDepth 20000 in
theorem gX5_seen_X5_isSpan : GoodIn wsX5_seen (wsV RX5 108 RX5 yX5_isSpan wsX5_isSpan) := goodIn_app (goodIn_of _ (by decide +kernel)) ggX5_seen_X5_isSpan
set_option maxRecDepth 20000 in
theorem ggX5_seen_X5_gatherSeen : GoodIn wsX5_seen wsX5_gatherSeen := goodIn_r _ [11, 1, 12, 13, 14, 15, 16, 17, 18, 19, 20, 21, 22, 23, 24, 25, 26, 27, 28, 29, 30, 31, 32, 33, 34, 35, 36, 37, 38, 39, 40, 41, 42, 43, 44, 45, 46, 47, 48, 49, 50, 51, 52, 53, 54, 55, 56, 57, 58, 59, 60, 61, 62, 63, 64, 65, 66, 67, 68, 69, 70, 71, 72, 73, 74, 75, 76, 77, 78, 81, 82, 83, 79, 80, 84, 85, 86] (by decide +kernel) (by decide +kernel)
set_option maxRecDepth 20000 in
theorem gX5_seen_X5_gatherSeen : GoodIn wsX5_seen (wsV RX5 121 RX5 yX5_gatherSeen wsX5_gatherSeen) := goodIn_app (goodIn_of _ (by decide +kernel)) ggX5_seen_X5_gatherSeen
theorem dX5_seen_0 : decode cX5_seen 0 = .ok (.aload_n 0, 1) := by decide +kernel
theorem dX5_seen_1 : decode cX5_seen 1 = .ok (.iload_n 1, 1) := by decide +kernel
theorem dX5_seen_2 : decode cX5_seen 2 = .ok (.iload_n 2, 1) := by decide +kernel
theorem dX5_seen_3 : decode cX5_seen 3 = .ok (.invokevirtual 108, 3) := by decide +kernel
theorem dX5_seen_6 : decode cX5_seen 6 = .ok (.ifCond .ne 6, 3) := by decide +kernel
theorem dX5_seen_9 : decode cX5_seen 9 = .ok (.bipush (-2), 2) := by decide +kernel
theorem dX5_seen_11 : decode cX5_seen 11 = .ok (.ireturn, 1) := by decide +kernel
theorem dX5_seen_12 : decode cX5_seen 12 = .ok (.aload_n 0, 1) := by decide +kernel
theorem dX5_seen_13 : decode cX5_seen 13 = .ok (.iload_n 1, 1) := by decide +kernel
theorem dX5_seen_14 : decode cX5_seen 14 = .ok (.iload_n 2, 1) := by decide +kernel
theorem dX5_seen_15 : decode cX5_seen 15 = .ok (.invokevirtual 121, 3) := by decide +kernel
theorem dX5_seen_18 : decode cX5_seen 18 = .ok (.aload_n 0, 1) := by decide +kernel
theorem dX5_seen_19 : decode cX5_seen 19 = .ok (.getfield 36, 3) := by decide +kernel
theorem dX5_seen_22 : decode cX5_seen 22 = .ok (.getfield 124, 3) := by decide +kernel
theorem dX5_seen_25 : decode cX5_seen 25 = .ok (.ireturn, 1) := by decide +kernel
set_option maxRecDepth 20000 in
theorem ggX5_values_X5_isMark : GoodIn wsX5_values wsX5_isMark := goodIn_r _ [4] (by decide +kernel) (by decide +kernel)
set_option maxRecDepth 20000 in
theorem gX5_values_X5_isMark : GoodIn wsX5_values (va_wsS RX5 126 yX5_isMark wsX5_isMark) := goodIn_app (goodIn_of _ (by decide +kernel)) ggX5_values_X5_isMark
set_option maxRecDepth 20000 in
theorem ggX5_values_X5_isSpan : GoodIn wsX5_values wsX5_isSpan := goodIn_r _ [8, 9, 88, 89, 90, 91, 92, 93, 94, 95] (by decide +kernel) (by decide +kernel)
set_option maxRecDepth 20000 in
theorem gX5_values_X5_isSpan : GoodIn wsX5_values (wsV RX5 108 RX5 yX5_isSpan wsX5_isSpan) := goodIn_app (goodIn_of _ (by decide +kernel)) ggX5_values_X5_isSpan
set_option maxRecDepth 20000 in
theorem ggX5_values_X5_gatherSeen : GoodIn wsX5_values wsX5_gatherSeen := goodIn_r _ [13, 14, 15, 16, 17, 18, 19, 20, 21, 22, 23, 24, 25, 26, 27, 28, 29, 30, 31, 32, 33, 34, 35, 36, 37, 38, 39, 40, 41, 42, 43, 44, 45, 46, 47, 48, 49, 50, 51, 52, 53, 54, 55, 56, 57, 58, 59, 60, 61, 62, 63, 64, 65, 66, 67, 68, 69, 70, 71, 72, 73, 88, 89, 90, 91, 92, 93, 94, 95, 96, 97, 98, 99, 100, 101, 102, 103] (by decide +kernel) (by decide +kernel)
set_option maxRecDepth 20000 in
theorem gX5_values_X5_gatherSeen : GoodIn wsX5_values (wsV RX5 121 RX5 yX5_gatherSeen wsX5_gatherSeen) := goodIn_app (goodIn_of _ (by decide +kernel)) ggX5_values_X5_gatherSeen
set_option maxRecDepth 20000 in
theorem ggX5_values_X5_namesLeftWithout : GoodIn wsX5_values wsX5_namesLeftWithout := goodIn_r _ [77, 78, 14, 79, 80, 3, 81, 82, 83, 84, 85, 86, 87, 17, 18, 19, 20, 21, 22, 52, 53, 54, 55, 56, 57, 58, 59, 60, 61, 62, 63, 64, 65, 66, 67, 68, 69, 70, 71, 72, 73, 88, 89, 90, 91, 92, 93, 94, 95, 99, 100] (by decide +kernel) (by decide +kernel)
set_option maxRecDepth 20000 in
theorem gX5_values_X5_namesLeftWithout : GoodIn wsX5_values (wsV RX5 129 RX5 yX5_namesLeftWithout wsX5_namesLeftWithout) := goodIn_app (goodIn_of _ (by decide +kernel)) ggX5_values_X5_namesLeftWithout
theorem dX5_values_0 : decode cX5_values 0 = .ok (.iload_n 1, 1) := by decide +kernel
theorem dX5_values_1 : decode cX5_values 1 = .ok (.invokestatic 126, 3) := by decide +kernel
theorem dX5_values_4 : decode cX5_values 4 = .ok (.ifCond .ne 5, 3) := by decide +kernel
theorem dX5_values_7 : decode cX5_values 7 = .ok (.iconst (-1), 1) := by decide +kernel
theorem dX5_values_8 : decode cX5_values 8 = .ok (.ireturn, 1) := by decide +kernel
theorem dX5_values_9 : decode cX5_values 9 = .ok (.aload_n 0, 1) := by decide +kernel
theorem dX5_values_10 : decode cX5_values 10 = .ok (.iload_n 2, 1) := by decide +kernel
theorem dX5_values_11 : decode cX5_values 11 = .ok (.iload_n 3, 1) := by decide +kernel
theorem dX5_values_12 : decode cX5_values 12 = .ok (.invokevirtual 108, 3) := by decide +kernel
theorem dX5_values_15 : decode cX5_values 15 = .ok (.ifCond .ne 6, 3) := by decide +kernel
theorem dX5_values_18 : decode cX5_values 18 = .ok (.bipush (-2), 2) := by decide +kernel
theorem dX5_values_20 : decode cX5_values 20 = .ok (.ireturn, 1) := by decide +kernel
theorem dX5_values_21 : decode cX5_values 21 = .ok (.aload_n 0, 1) := by decide +kernel
theorem dX5_values_22 : decode cX5_values 22 = .ok (.iload_n 2, 1) := by decide +kernel
theorem dX5_values_23 : decode cX5_values 23 = .ok (.iload_n 3, 1) := by decide +kernel
theorem dX5_values_24 : decode cX5_values 24 = .ok (.invokevirtual 121, 3) := by decide +kernel
theorem dX5_values_27 : decode cX5_values 27 = .ok (.aload_n 0, 1) := by decide +kernel
theorem dX5_values_28 : decode cX5_values 28 = .ok (.bipush 63, 2) := by decide +kernel
theorem dX5_values_30 : decode cX5_values 30 = .ok (.iconst 1, 1) := by decide +kernel
theorem dX5_values_31 : decode cX5_values 31 = .ok (.iload_n 1, 1) := by decide +kernel
theorem dX5_values_32 : decode cX5_values 32 = .ok (.ishl, 1) := by decide +kernel
theorem dX5_values_33 : decode cX5_values 33 = .ok (.ixor, 1) := by decide +kernel
theorem dX5_values_34 : decode cX5_values 34 = .ok (.invokevirtual 129, 3) := by decide +kernel
theorem dX5_values_37 : decode cX5_values 37 = .ok (.ireturn, 1) := by decide +kernel
set_option maxRecDepth 20000 in
theorem ggX5_unlike_X5_isSetOfMarks : GoodIn wsX5_unlike wsX5_isSetOfMarks := goodIn_r _ [4] (by decide +kernel) (by decide +kernel)
set_option maxRecDepth 20000 in
theorem gX5_unlike_X5_isSetOfMarks : GoodIn wsX5_unlike (va_wsS RX5 132 yX5_isSetOfMarks wsX5_isSetOfMarks) := goodIn_app (goodIn_of _ (by decide +kernel)) ggX5_unlike_X5_isSetOfMarks
set_option maxRecDepth 20000 in
theorem ggX5_unlike_X5_isSpan : GoodIn wsX5_unlike wsX5_isSpan := goodIn_r _ [8, 9, 88, 89, 90, 91, 92, 93, 94, 95] (by decide +kernel) (by decide +kernel)
set_option maxRecDepth 20000 in
theorem gX5_unlike_X5_isSpan : GoodIn wsX5_unlike (wsV RX5 108 RX5 yX5_isSpan wsX5_isSpan) := goodIn_app (goodIn_of _ (by decide +kernel)) ggX5_unlike_X5_isSpan
set_option maxRecDepth 20000 in
theorem ggX5_unlike_X5_gatherSeen : GoodIn wsX5_unlike wsX5_gatherSeen := goodIn_r _ [13, 14, 15, 16, 17, 18, 19, 20, 21, 22, 23, 24, 25, 26, 27, 28, 29, 30, 31, 32, 33, 34, 35, 36, 37, 38, 39, 40, 41, 42, 43, 44, 45, 46, 47, 48, 49, 50, 51, 52, 53, 54, 55, 56, 57, 58, 59, 60, 61, 62, 63, 64, 65, 66, 67, 68, 69, 70, 71, 72, 73, 88, 89, 90, 91, 92, 93, 94, 95, 96, 97, 98, 99, 100, 101, 102, 103] (by decide +kernel) (by decide +kernel)
set_option maxRecDepth 20000 in
theorem gX5_unlike_X5_gatherSeen : GoodIn wsX5_unlike (wsV RX5 121 RX5 yX5_gatherSeen wsX5_gatherSeen) := goodIn_app (goodIn_of _ (by decide +kernel)) ggX5_unlike_X5_gatherSeen
set_option maxRecDepth 20000 in
theorem ggX5_unlike_X5_namesLeftWithout : GoodIn wsX5_unlike wsX5_namesLeftWithout := goodIn_r _ [77, 78, 14, 79, 80, 3, 81, 82, 83, 84, 85, 86, 87, 17, 18, 19, 20, 21, 22, 52, 53, 54, 55, 56, 57, 58, 59, 60, 61, 62, 63, 64, 65, 66, 67, 68, 69, 70, 71, 72, 73, 88, 89, 90, 91, 92, 93, 94, 95, 99, 100] (by decide +kernel) (by decide +kernel)
set_option maxRecDepth 20000 in
theorem gX5_unlike_X5_namesLeftWithout : GoodIn wsX5_unlike (wsV RX5 129 RX5 yX5_namesLeftWithout wsX5_namesLeftWithout) := goodIn_app (goodIn_of _ (by decide +kernel)) ggX5_unlike_X5_namesLeftWithout
theorem dX5_unlike_0 : decode cX5_unlike 0 = .ok (.iload_n 1, 1) := by decide +kernel
theorem dX5_unlike_1 : decode cX5_unlike 1 = .ok (.invokestatic 132, 3) := by decide +kernel
theorem dX5_unlike_4 : decode cX5_unlike 4 = .ok (.ifCond .eq 12, 3) := by decide +kernel
theorem dX5_unlike_7 : decode cX5_unlike 7 = .ok (.aload_n 0, 1) := by decide +kernel
theorem dX5_unlike_8 : decode cX5_unlike 8 = .ok (.iload_n 2, 1) := by decide +kernel
theorem dX5_unlike_9 : decode cX5_unlike 9 = .ok (.iload_n 3, 1) := by decide +kernel
theorem dX5_unlike_10 : decode cX5_unlike 10 = .ok (.invokevirtual 108, 3) := by decide +kernel
theorem dX5_unlike_13 : decode cX5_unlike 13 = .ok (.ifCond .ne 6, 3) := by decide +kernel
theorem dX5_unlike_16 : decode cX5_unlike 16 = .ok (.bipush (-2), 2) := by decide +kernel
theorem dX5_unlike_18 : decode cX5_unlike 18 = .ok (.ireturn, 1) := by decide +kernel
theorem dX5_unlike_19 : decode cX5_unlike 19 = .ok (.aload_n 0, 1) := by decide +kernel
theorem dX5_unlike_20 : decode cX5_unlike 20 = .ok (.iload_n 2, 1) := by decide +kernel
theorem dX5_unlike_21 : decode cX5_unlike 21 = .ok (.iload_n 3, 1) := by decide +kernel
theorem dX5_unlike_22 : decode cX5_unlike 22 = .ok (.invokevirtual 121, 3) := by decide +kernel
theorem dX5_unlike_25 : decode cX5_unlike 25 = .ok (.aload_n 0, 1) := by decide +kernel
theorem dX5_unlike_26 : decode cX5_unlike 26 = .ok (.iload_n 1, 1) := by decide +kernel
theorem dX5_unlike_27 : decode cX5_unlike 27 = .ok (.invokevirtual 129, 3) := by decide +kernel
theorem dX5_unlike_30 : decode cX5_unlike 30 = .ok (.ireturn, 1) := by decide +kernel
set_option maxRecDepth 20000 in
theorem ggX5_kept_X5_isSpan : GoodIn wsX5_kept wsX5_isSpan := goodIn_r _ [9, 10, 89, 90, 91, 92, 93, 94, 95, 96] (by decide +kernel) (by decide +kernel)
set_option maxRecDepth 20000 in
theorem gX5_kept_X5_isSpan : GoodIn wsX5_kept (wsV RX5 108 RX5 yX5_isSpan wsX5_isSpan) := goodIn_app (goodIn_of _ (by decide +kernel)) ggX5_kept_X5_isSpan
set_option maxRecDepth 20000 in
theorem ggX5_kept_X1_makeEmpty : GoodIn wsX5_kept wsX1_makeEmpty := goodIn_r _ [15, 16, 100, 101] (by decide +kernel) (by decide +kernel)
set_option maxRecDepth 20000 in
theorem gX5_kept_X1_makeEmpty : GoodIn wsX5_kept (wsV RX5 135 RX1 yX1_makeEmpty wsX1_makeEmpty) := goodIn_app (goodIn_of _ (by decide +kernel)) ggX5_kept_X1_makeEmpty
set_option maxRecDepth 20000 in
theorem ggX5_kept_Jx4a65c_size_8abf5 : GoodIn wsX5_kept wsJx4a65c_size_8abf5 := goodIn_r _ [21, 22, 102, 103, 104] (by decide +kernel) (by decide +kernel)
set_option maxRecDepth 20000 in
theorem gX5_kept_Jx4a65c_size_8abf5 : GoodIn wsX5_kept (wsV RX5 69 RJx4a65c yJx4a65c_size_8abf5 wsJx4a65c_size_8abf5) := goodIn_app (goodIn_of _ (by decide +kernel)) ggX5_kept_Jx4a65c_size_8abf5
set_option maxRecDepth 20000 in
theorem ggX5_kept_Jx4a65c_get_915e3 : GoodIn wsX5_kept wsJx4a65c_get_915e3 := goodIn_r _ [26, 22, 27, 28, 29, 30, 31, 32, 33, 34, 35, 36, 37, 20, 38, 39, 102, 103, 104] (by decide +kernel) (by decide +kernel)
set_option maxRecDepth 20000 in
theorem gX5_kept_Jx4a65c_get_915e3 : GoodIn wsX5_kept (wsV RX5 60 RJx4a65c yJx4a65c_get_915e3 wsJx4a65c_get_915e3) := goodIn_app (goodIn_of _ (by decide +kernel)) ggX5_kept_Jx4a65c_get_915e3
set_option maxRecDepth 20000 in
theorem ggX5_kept_X2_isWithin : GoodIn wsX5_kept wsX2_isWithin := goodIn_r _ [44, 45, 97, 98, 99] (by decide +kernel) (by decide +kernel)
set_option maxRecDepth 20000 in
theorem gX5_kept_X2_isWithin : GoodIn wsX5_kept (wsV RX5 138 RX2 yX2_isWithin wsX2_isWithin) := goodIn_app (goodIn_of _ (by decide +kernel)) ggX5_kept_X2_isWithin
set_option maxRecDepth 20000 in
theorem ggX5_kept_X4_shorten : GoodIn wsX5_kept wsX4_shorten := goodIn_r _ [50, 51, 52, 53, 49, 54, 55, 56, 8, 57, 58, 59, 60, 61, 62, 63, 64, 65, 66, 105, 106] (by decide +kernel) (by decide +kernel)
set_option maxRecDepth 20000 in
theorem gX5_kept_X4_shorten : GoodIn wsX5_kept (wsV RX5 143 RX4 yX4_shorten wsX4_shorten) := goodIn_app (goodIn_of _ (by decide +kernel)) ggX5_kept_X4_shorten
set_option maxRecDepth 20000 in
theorem ggX5_kept_X1_put : GoodIn wsX5_kept wsX1_put := goodIn_r _ [70, 16, 71, 72, 73, 74, 75, 76, 77, 78, 14, 79, 80, 81, 82, 83, 84, 85, 86, 87, 88, 100, 101] (by decide +kernel) (by decide +kernel)
set_option maxRecDepth 20000 in
theorem gX5_kept_X1_put : GoodIn wsX5_kept (wsV RX5 146 RX1 yX1_put wsX1_put) := goodIn_app (goodIn_of _ (by decide +kernel)) ggX5_kept_X1_put
theorem dX5_kept_0 : decode cX5_kept 0 = .ok (.aload_n 0, 1) := by decide +kernel
theorem dX5_kept_1 : decode cX5_kept 1 = .ok (.iload_n 1, 1) := by decide +kernel
theorem dX5_kept_2 : decode cX5_kept 2 = .ok (.iload_n 2, 1) := by decide +kernel
theorem dX5_kept_3 : decode cX5_kept 3 = .ok (.invokevirtual 108, 3) := by decide +kernel
theorem dX5_kept_6 : decode cX5_kept 6 = .ok (.ifCond .ne 6, 3) := by decide +kernel
theorem dX5_kept_9 : decode cX5_kept 9 = .ok (.bipush (-2), 2) := by decide +kernel
theorem dX5_kept_11 : decode cX5_kept 11 = .ok (.ireturn, 1) := by decide +kernel
theorem dX5_kept_12 : decode cX5_kept 12 = .ok (.aload_n 0, 1) := by decide +kernel
theorem dX5_kept_13 : decode cX5_kept 13 = .ok (.getfield 40, 3) := by decide +kernel
theorem dX5_kept_16 : decode cX5_kept 16 = .ok (.invokevirtual 135, 3) := by decide +kernel
theorem dX5_kept_19 : decode cX5_kept 19 = .ok (.iconst 0, 1) := by decide +kernel
theorem dX5_kept_20 : decode cX5_kept 20 = .ok (.istore_n 3, 1) := by decide +kernel
theorem dX5_kept_21 : decode cX5_kept 21 = .ok (.iload_n 3, 1) := by decide +kernel
theorem dX5_kept_22 : decode cX5_kept 22 = .ok (.aload_n 0, 1) := by decide +kernel
theorem dX5_kept_23 : decode cX5_kept 23 = .ok (.getfield 16, 3) := by decide +kernel
theorem dX5_kept_26 : decode cX5_kept 26 = .ok (.invokevirtual 69, 3) := by decide +kernel
theorem dX5_kept_29 : decode cX5_kept 29 = .ok (.if_icmp .ge 56, 3) := by decide +kernel
theorem dX5_kept_32 : decode cX5_kept 32 = .ok (.aload_n 0, 1) := by decide +kernel
theorem dX5_kept_33 : decode cX5_kept 33 = .ok (.getfield 16, 3) := by decide +kernel
theorem dX5_kept_36 : decode cX5_kept 36 = .ok (.iload_n 3, 1) := by decide +kernel
theorem dX5_kept_37 : decode cX5_kept 37 = .ok (.invokevirtual 60, 3) := by decide +kernel
theorem dX5_kept_40 : decode cX5_kept 40 = .ok (.checkcast 83, 3) := by decide +kernel
theorem dX5_kept_43 : decode cX5_kept 43 = .ok (.astore 4, 2) := by decide +kernel
theorem dX5_kept_45 : decode cX5_kept 45 = .ok (.aload 4, 2) := by decide +kernel
theorem dX5_kept_47 : decode cX5_kept 47 = .ok (.iload_n 1, 1) := by decide +kernel
theorem dX5_kept_48 : decode cX5_kept 48 = .ok (.iload_n 2, 1) := by decide +kernel
theorem dX5_kept_49 : decode cX5_kept 49 = .ok (.invokevirtual 138, 3) := by decide +kernel
theorem dX5_kept_52 : decode cX5_kept 52 = .ok (.ifCond .eq 27, 3) := by decide +kernel
theorem dX5_kept_55 : decode cX5_kept 55 = .ok (.aload_n 0, 1) := by decide +kernel
theorem dX5_kept_56 : decode cX5_kept 56 = .ok (.getfield 40, 3) := by decide +kernel
theorem dX5_kept_59 : decode cX5_kept 59 = .ok (.aload_n 0, 1) := by decide +kernel
theorem dX5_kept_60 : decode cX5_kept 60 = .ok (.getfield 25, 3) := by decide +kernel
theorem dX5_kept_63 : decode cX5_kept 63 = .ok (.aload 4, 2) := by decide +kernel
theorem dX5_kept_65 : decode cX5_kept 65 = .ok (.getfield 141, 3) := by decide +kernel
theorem dX5_kept_68 : decode cX5_kept 68 = .ok (.aload 4, 2) := by decide +kernel
theorem dX5_kept_70 : decode cX5_kept 70 = .ok (.getfield 142, 3) := by decide +kernel
theorem dX5_kept_73 : decode cX5_kept 73 = .ok (.invokevirtual 143, 3) := by decide +kernel
theorem dX5_kept_76 : decode cX5_kept 76 = .ok (.invokevirtual 146, 3) := by decide +kernel
theorem dX5_kept_79 : decode cX5_kept 79 = .ok (.iinc 3 1, 3) := by decide +kernel
theorem dX5_kept_82 : decode cX5_kept 82 = .ok (.goto (-61), 3) := by decide +kernel
theorem dX5_kept_85 : decode cX5_kept 85 = .ok (.aload_n 0, 1) := by decide +kernel
theorem dX5_kept_86 : decode cX5_kept 86 = .ok (.getfield 40, 3) := by decide +kernel
theorem dX5_kept_89 : decode cX5_kept 89 = .ok (.getfield 124, 3) := by decide +kernel
theorem dX5_kept_92 : decode cX5_kept 92 = .ok (.ireturn, 1) := by decide +kernel
set_option maxRecDepth 20000 in
theorem ggX5_worst_X5_isSpan : GoodIn wsX5_worst wsX5_isSpan := goodIn_r _ [5, 6, 85, 86, 87, 88, 89, 90, 91, 92] (by decide +kernel) (by decide +kernel)
set_option maxRecDepth 20000 in
theorem gX5_worst_X5_isSpan : GoodIn wsX5_worst (wsV RX5 108 RX5 yX5_isSpan wsX5_isSpan) := goodIn_app (goodIn_of _ (by decide +kernel)) ggX5_worst_X5_isSpan
set_option maxRecDepth 20000 in
theorem ggX5_worst_X5_gatherSeen : GoodIn wsX5_worst wsX5_gatherSeen := goodIn_r _ [10, 11, 12, 13, 14, 15, 16, 17, 18, 19, 20, 21, 22, 23, 24, 25, 26, 27, 28, 29, 30, 31, 32, 33, 34, 35, 36, 37, 38, 39, 40, 41, 42, 43, 44, 45, 46, 47, 48, 49, 50, 51, 52, 53, 54, 55, 56, 57, 58, 59, 60, 61, 62, 63, 64, 65, 66, 67, 68, 69, 70, 85, 86, 87, 88, 89, 90, 91, 92, 93, 94, 95, 96, 97, 98, 99, 100] (by decide +kernel) (by decide +kernel)
set_option maxRecDepth 20000 in
theorem gX5_worst_X5_gatherSeen : GoodIn wsX5_worst (wsV RX5 121 RX5 yX5_gatherSeen wsX5_gatherSeen) := goodIn_app (goodIn_of _ (by decide +kernel)) ggX5_worst_X5_gatherSeen
set_option maxRecDepth 20000 in
theorem ggX5_worst_X5_namesLeftWithout : GoodIn wsX5_worst wsX5_namesLeftWithout := goodIn_r _ [74, 75, 11, 76, 77, 4, 78, 79, 80, 81, 82, 83, 84, 14, 15, 16, 17, 18, 19, 49, 50, 51, 52, 53, 54, 55, 56, 57, 58, 59, 60, 61, 62, 63, 64, 65, 66, 67, 68, 69, 70, 85, 86, 87, 88, 89, 90, 91, 92, 96, 97] (by decide +kernel) (by decide +kernel)
set_option maxRecDepth 20000 in
theorem gX5_worst_X5_namesLeftWithout : GoodIn wsX5_worst (wsV RX5 129 RX5 yX5_namesLeftWithout wsX5_namesLeftWithout) := goodIn_app (goodIn_of _ (by decide +kernel)) ggX5_worst_X5_namesLeftWithout
theorem dX5_worst_0 : decode cX5_worst 0 = .ok (.aload_n 0, 1) := by decide +kernel
theorem dX5_worst_1 : decode cX5_worst 1 = .ok (.iload_n 1, 1) := by decide +kernel
theorem dX5_worst_2 : decode cX5_worst 2 = .ok (.iload_n 2, 1) := by decide +kernel
theorem dX5_worst_3 : decode cX5_worst 3 = .ok (.invokevirtual 108, 3) := by decide +kernel
theorem dX5_worst_6 : decode cX5_worst 6 = .ok (.ifCond .ne 6, 3) := by decide +kernel
theorem dX5_worst_9 : decode cX5_worst 9 = .ok (.bipush (-2), 2) := by decide +kernel
theorem dX5_worst_11 : decode cX5_worst 11 = .ok (.ireturn, 1) := by decide +kernel
theorem dX5_worst_12 : decode cX5_worst 12 = .ok (.aload_n 0, 1) := by decide +kernel
theorem dX5_worst_13 : decode cX5_worst 13 = .ok (.iload_n 1, 1) := by decide +kernel
theorem dX5_worst_14 : decode cX5_worst 14 = .ok (.iload_n 2, 1) := by decide +kernel
theorem dX5_worst_15 : decode cX5_worst 15 = .ok (.invokevirtual 121, 3) := by decide +kernel
theorem dX5_worst_18 : decode cX5_worst 18 = .ok (.iconst 0, 1) := by decide +kernel
theorem dX5_worst_19 : decode cX5_worst 19 = .ok (.istore_n 3, 1) := by decide +kernel
theorem dX5_worst_20 : decode cX5_worst 20 = .ok (.aload_n 0, 1) := by decide +kernel
theorem dX5_worst_21 : decode cX5_worst 21 = .ok (.iconst 1, 1) := by decide +kernel
theorem dX5_worst_22 : decode cX5_worst 22 = .ok (.invokevirtual 129, 3) := by decide +kernel
theorem dX5_worst_25 : decode cX5_worst 25 = .ok (.istore 4, 2) := by decide +kernel
theorem dX5_worst_27 : decode cX5_worst 27 = .ok (.iconst 1, 1) := by decide +kernel
theorem dX5_worst_28 : decode cX5_worst 28 = .ok (.istore 5, 2) := by decide +kernel
theorem dX5_worst_30 : decode cX5_worst 30 = .ok (.iload 5, 2) := by decide +kernel
theorem dX5_worst_32 : decode cX5_worst 32 = .ok (.bipush 6, 2) := by decide +kernel
theorem dX5_worst_34 : decode cX5_worst 34 = .ok (.if_icmp .ge 33, 3) := by decide +kernel
theorem dX5_worst_37 : decode cX5_worst 37 = .ok (.aload_n 0, 1) := by decide +kernel
theorem dX5_worst_38 : decode cX5_worst 38 = .ok (.iconst 1, 1) := by decide +kernel
theorem dX5_worst_39 : decode cX5_worst 39 = .ok (.iload 5, 2) := by decide +kernel
theorem dX5_worst_41 : decode cX5_worst 41 = .ok (.ishl, 1) := by decide +kernel
theorem dX5_worst_42 : decode cX5_worst 42 = .ok (.invokevirtual 129, 3) := by decide +kernel
theorem dX5_worst_45 : decode cX5_worst 45 = .ok (.istore 6, 2) := by decide +kernel
theorem dX5_worst_47 : decode cX5_worst 47 = .ok (.iload 6, 2) := by decide +kernel
theorem dX5_worst_49 : decode cX5_worst 49 = .ok (.iload 4, 2) := by decide +kernel
theorem dX5_worst_51 : decode cX5_worst 51 = .ok (.if_icmp .ge 10, 3) := by decide +kernel
theorem dX5_worst_54 : decode cX5_worst 54 = .ok (.iload 6, 2) := by decide +kernel
theorem dX5_worst_56 : decode cX5_worst 56 = .ok (.istore 4, 2) := by decide +kernel
theorem dX5_worst_58 : decode cX5_worst 58 = .ok (.iload 5, 2) := by decide +kernel
theorem dX5_worst_60 : decode cX5_worst 60 = .ok (.istore_n 3, 1) := by decide +kernel
theorem dX5_worst_61 : decode cX5_worst 61 = .ok (.iinc 5 1, 3) := by decide +kernel
theorem dX5_worst_64 : decode cX5_worst 64 = .ok (.goto (-34), 3) := by decide +kernel
theorem dX5_worst_67 : decode cX5_worst 67 = .ok (.iload_n 3, 1) := by decide +kernel
theorem dX5_worst_68 : decode cX5_worst 68 = .ok (.ireturn, 1) := by decide +kernel
set_option maxRecDepth 20000 in
theorem ggX5_drop_X5_isMark : GoodIn wsX5_drop wsX5_isMark := goodIn_r _ [6] (by decide +kernel) (by decide +kernel)
set_option maxRecDepth 20000 in
theorem gX5_drop_X5_isMark : GoodIn wsX5_drop (va_wsS RX5 126 yX5_isMark wsX5_isMark) := goodIn_app (goodIn_of _ (by decide +kernel)) ggX5_drop_X5_isMark
set_option maxRecDepth 20000 in
theorem ggX5_drop_X4_isDropped : GoodIn wsX5_drop wsX4_isDropped := goodIn_r _ [11, 12, 13, 5, 14, 30, 31] (by decide +kernel) (by decide +kernel)
set_option maxRecDepth 20000 in
theorem gX5_drop_X4_isDropped : GoodIn wsX5_drop (wsV RX5 150 RX4 yX4_isDropped wsX4_isDropped) := goodIn_app (goodIn_of _ (by decide +kernel)) ggX5_drop_X4_isDropped
set_option maxRecDepth 20000 in
theorem ggX5_drop_X5_asNumber : GoodIn wsX5_drop wsX5_asNumber := goodIn_r _ [17] (by decide +kernel) (by decide +kernel)
set_option maxRecDepth 20000 in
theorem gX5_drop_X5_asNumber : GoodIn wsX5_drop (va_wsS RX5 153 yX5_asNumber wsX5_asNumber) := goodIn_app (goodIn_of _ (by decide +kernel)) ggX5_drop_X5_asNumber
set_option maxRecDepth 20000 in
theorem ggX5_drop_X4_setDropped : GoodIn wsX5_drop wsX4_setDropped := goodIn_r _ [21, 12, 30, 31] (by decide +kernel) (by decide +kernel)
set_option maxRecDepth 20000 in
theorem gX5_drop_X4_setDropped : GoodIn wsX5_drop (wsV RX5 157 RX4 yX4_setDropped wsX4_setDropped) := goodIn_app (goodIn_of _ (by decide +kernel)) ggX5_drop_X4_setDropped
theorem dX5_drop_0 : decode cX5_drop 0 = .ok (.iload_n 1, 1) := by decide +kernel
theorem dX5_drop_1 : decode cX5_drop 1 = .ok (.invokestatic 126, 3) := by decide +kernel
theorem dX5_drop_4 : decode cX5_drop 4 = .ok (.ifCond .ne 5, 3) := by decide +kernel
theorem dX5_drop_7 : decode cX5_drop 7 = .ok (.iconst (-1), 1) := by decide +kernel
theorem dX5_drop_8 : decode cX5_drop 8 = .ok (.ireturn, 1) := by decide +kernel
theorem dX5_drop_9 : decode cX5_drop 9 = .ok (.aload_n 0, 1) := by decide +kernel
theorem dX5_drop_10 : decode cX5_drop 10 = .ok (.getfield 25, 3) := by decide +kernel
theorem dX5_drop_13 : decode cX5_drop 13 = .ok (.iload_n 1, 1) := by decide +kernel
theorem dX5_drop_14 : decode cX5_drop 14 = .ok (.aload_n 0, 1) := by decide +kernel
theorem dX5_drop_15 : decode cX5_drop 15 = .ok (.getfield 43, 3) := by decide +kernel
theorem dX5_drop_18 : decode cX5_drop 18 = .ok (.invokevirtual 150, 3) := by decide +kernel
theorem dX5_drop_21 : decode cX5_drop 21 = .ok (.invokestatic 153, 3) := by decide +kernel
theorem dX5_drop_24 : decode cX5_drop 24 = .ok (.istore_n 3, 1) := by decide +kernel
theorem dX5_drop_25 : decode cX5_drop 25 = .ok (.aload_n 0, 1) := by decide +kernel
theorem dX5_drop_26 : decode cX5_drop 26 = .ok (.getfield 25, 3) := by decide +kernel
theorem dX5_drop_29 : decode cX5_drop 29 = .ok (.iload_n 1, 1) := by decide +kernel
theorem dX5_drop_30 : decode cX5_drop 30 = .ok (.iload_n 2, 1) := by decide +kernel
theorem dX5_drop_31 : decode cX5_drop 31 = .ok (.aload_n 0, 1) := by decide +kernel
theorem dX5_drop_32 : decode cX5_drop 32 = .ok (.getfield 43, 3) := by decide +kernel
theorem dX5_drop_35 : decode cX5_drop 35 = .ok (.invokevirtual 157, 3) := by decide +kernel
theorem dX5_drop_38 : decode cX5_drop 38 = .ok (.iload_n 3, 1) := by decide +kernel
theorem dX5_drop_39 : decode cX5_drop 39 = .ok (.ireturn, 1) := by decide +kernel
set_option maxRecDepth 20000 in
theorem ggX5_fold_X5_isMark : GoodIn wsX5_fold wsX5_isMark := goodIn_r _ [6] (by decide +kernel) (by decide +kernel)
set_option maxRecDepth 20000 in
theorem gX5_fold_X5_isMark : GoodIn wsX5_fold (va_wsS RX5 126 yX5_isMark wsX5_isMark) := goodIn_app (goodIn_of _ (by decide +kernel)) ggX5_fold_X5_isMark
set_option maxRecDepth 20000 in
theorem ggX5_fold_X5_isValue : GoodIn wsX5_fold wsX5_isValue := goodIn_r _ [9] (by decide +kernel) (by decide +kernel)
set_option maxRecDepth 20000 in
theorem gX5_fold_X5_isValue : GoodIn wsX5_fold (va_wsS RX5 161 yX5_isValue wsX5_isValue) := goodIn_app (goodIn_of _ (by decide +kernel)) ggX5_fold_X5_isValue
set_option maxRecDepth 20000 in
theorem ggX5_fold_X4_putTogether : GoodIn wsX5_fold wsX4_putTogether := goodIn_r _ [14, 15, 16, 17, 18, 19, 20, 21, 22, 13, 23, 24, 5, 25, 26, 27, 36, 37] (by decide +kernel) (by decide +kernel)
set_option maxRecDepth 20000 in
theorem gX5_fold_X4_putTogether : GoodIn wsX5_fold (wsV RX5 164 RX4 yX4_putTogether wsX4_putTogether) := goodIn_app (goodIn_of _ (by decide +kernel)) ggX5_fold_X4_putTogether
theorem dX5_fold_0 : decode cX5_fold 0 = .ok (.iload_n 1, 1) := by decide +kernel
theorem dX5_fold_1 : decode cX5_fold 1 = .ok (.invokestatic 126, 3) := by decide +kernel
theorem dX5_fold_4 : decode cX5_fold 4 = .ok (.ifCond .eq 17, 3) := by decide +kernel
theorem dX5_fold_7 : decode cX5_fold 7 = .ok (.iload_n 2, 1) := by decide +kernel
theorem dX5_fold_8 : decode cX5_fold 8 = .ok (.invokestatic 161, 3) := by decide +kernel
theorem dX5_fold_11 : decode cX5_fold 11 = .ok (.ifCond .eq 10, 3) := by decide +kernel
theorem dX5_fold_14 : decode cX5_fold 14 = .ok (.iload_n 3, 1) := by decide +kernel
theorem dX5_fold_15 : decode cX5_fold 15 = .ok (.invokestatic 161, 3) := by decide +kernel
theorem dX5_fold_18 : decode cX5_fold 18 = .ok (.ifCond .ne 5, 3) := by decide +kernel
theorem dX5_fold_21 : decode cX5_fold 21 = .ok (.iconst (-1), 1) := by decide +kernel
theorem dX5_fold_22 : decode cX5_fold 22 = .ok (.ireturn, 1) := by decide +kernel
theorem dX5_fold_23 : decode cX5_fold 23 = .ok (.aload_n 0, 1) := by decide +kernel
theorem dX5_fold_24 : decode cX5_fold 24 = .ok (.getfield 25, 3) := by decide +kernel
theorem dX5_fold_27 : decode cX5_fold 27 = .ok (.iload_n 1, 1) := by decide +kernel
theorem dX5_fold_28 : decode cX5_fold 28 = .ok (.iload_n 2, 1) := by decide +kernel
theorem dX5_fold_29 : decode cX5_fold 29 = .ok (.iload_n 3, 1) := by decide +kernel
theorem dX5_fold_30 : decode cX5_fold 30 = .ok (.aload_n 0, 1) := by decide +kernel
theorem dX5_fold_31 : decode cX5_fold 31 = .ok (.getfield 43, 3) := by decide +kernel
theorem dX5_fold_34 : decode cX5_fold 34 = .ok (.invokevirtual 164, 3) := by decide +kernel
theorem dX5_fold_37 : decode cX5_fold 37 = .ok (.ireturn, 1) := by decide +kernel
set_option maxRecDepth 20000 in
theorem ggX5_dropped_X5_isMark : GoodIn wsX5_dropped wsX5_isMark := goodIn_r _ [5] (by decide +kernel) (by decide +kernel)
set_option maxRecDepth 20000 in
theorem gX5_dropped_X5_isMark : GoodIn wsX5_dropped (va_wsS RX5 126 yX5_isMark wsX5_isMark) := goodIn_app (goodIn_of _ (by decide +kernel)) ggX5_dropped_X5_isMark
set_option maxRecDepth 20000 in
theorem ggX5_dropped_X5_isPastTick : GoodIn wsX5_dropped wsX5_isPastTick := goodIn_r _ [9, 10, 22, 23, 24, 25, 26, 27, 28, 29] (by decide +kernel) (by decide +kernel)
set_option maxRecDepth 20000 in
theorem gX5_dropped_X5_isPastTick : GoodIn wsX5_dropped (wsV RX5 168 RX5 yX5_isPastTick wsX5_isPastTick) := goodIn_app (goodIn_of _ (by decide +kernel)) ggX5_dropped_X5_isPastTick
set_option maxRecDepth 20000 in
theorem ggX5_dropped_X4_isDropped : GoodIn wsX5_dropped wsX4_isDropped := goodIn_r _ [15, 16, 17, 4, 18, 30, 31] (by decide +kernel) (by decide +kernel)
set_option maxRecDepth 20000 in
theorem gX5_dropped_X4_isDropped : GoodIn wsX5_dropped (wsV RX5 150 RX4 yX4_isDropped wsX4_isDropped) := goodIn_app (goodIn_of _ (by decide +kernel)) ggX5_dropped_X4_isDropped
set_option maxRecDepth 20000 in
theorem ggX5_dropped_X5_asNumber : GoodIn wsX5_dropped wsX5_asNumber := goodIn_r _ [21] (by decide +kernel) (by decide +kernel)
set_option maxRecDepth 20000 in
theorem gX5_dropped_X5_asNumber : GoodIn wsX5_dropped (va_wsS RX5 153 yX5_asNumber wsX5_asNumber) := goodIn_app (goodIn_of _ (by decide +kernel)) ggX5_dropped_X5_asNumber
theorem dX5_dropped_0 : decode cX5_dropped 0 = .ok (.iload_n 1, 1) := by decide +kernel
theorem dX5_dropped_1 : decode cX5_dropped 1 = .ok (.invokestatic 126, 3) := by decide +kernel
theorem dX5_dropped_4 : decode cX5_dropped 4 = .ok (.ifCond .ne 5, 3) := by decide +kernel
theorem dX5_dropped_7 : decode cX5_dropped 7 = .ok (.iconst (-1), 1) := by decide +kernel
theorem dX5_dropped_8 : decode cX5_dropped 8 = .ok (.ireturn, 1) := by decide +kernel
theorem dX5_dropped_9 : decode cX5_dropped 9 = .ok (.aload_n 0, 1) := by decide +kernel
theorem dX5_dropped_10 : decode cX5_dropped 10 = .ok (.iload_n 2, 1) := by decide +kernel
theorem dX5_dropped_11 : decode cX5_dropped 11 = .ok (.invokevirtual 168, 3) := by decide +kernel
theorem dX5_dropped_14 : decode cX5_dropped 14 = .ok (.ifCond .ne 6, 3) := by decide +kernel
theorem dX5_dropped_17 : decode cX5_dropped 17 = .ok (.bipush (-2), 2) := by decide +kernel
theorem dX5_dropped_19 : decode cX5_dropped 19 = .ok (.ireturn, 1) := by decide +kernel
theorem dX5_dropped_20 : decode cX5_dropped 20 = .ok (.aload_n 0, 1) := by decide +kernel
theorem dX5_dropped_21 : decode cX5_dropped 21 = .ok (.getfield 25, 3) := by decide +kernel
theorem dX5_dropped_24 : decode cX5_dropped 24 = .ok (.iload_n 1, 1) := by decide +kernel
theorem dX5_dropped_25 : decode cX5_dropped 25 = .ok (.iload_n 2, 1) := by decide +kernel
theorem dX5_dropped_26 : decode cX5_dropped 26 = .ok (.invokevirtual 150, 3) := by decide +kernel
theorem dX5_dropped_29 : decode cX5_dropped 29 = .ok (.invokestatic 153, 3) := by decide +kernel
theorem dX5_dropped_32 : decode cX5_dropped 32 = .ok (.ireturn, 1) := by decide +kernel
set_option maxRecDepth 20000 in
theorem ggX5_chief_X5_isMark : GoodIn wsX5_chief wsX5_isMark := goodIn_r _ [5] (by decide +kernel) (by decide +kernel)
set_option maxRecDepth 20000 in
theorem gX5_chief_X5_isMark : GoodIn wsX5_chief (va_wsS RX5 126 yX5_isMark wsX5_isMark) := goodIn_app (goodIn_of _ (by decide +kernel)) ggX5_chief_X5_isMark
set_option maxRecDepth 20000 in
theorem ggX5_chief_X5_isValue : GoodIn wsX5_chief wsX5_isValue := goodIn_r _ [8] (by decide +kernel) (by decide +kernel)
set_option maxRecDepth 20000 in
theorem gX5_chief_X5_isValue : GoodIn wsX5_chief (va_wsS RX5 161 yX5_isValue wsX5_isValue) := goodIn_app (goodIn_of _ (by decide +kernel)) ggX5_chief_X5_isValue
set_option maxRecDepth 20000 in
theorem ggX5_chief_X5_isPastTick : GoodIn wsX5_chief wsX5_isPastTick := goodIn_r _ [12, 13, 22, 23, 24, 25, 26, 27, 28, 29] (by decide +kernel) (by decide +kernel)
set_option maxRecDepth 20000 in
theorem gX5_chief_X5_isPastTick : GoodIn wsX5_chief (wsV RX5 168 RX5 yX5_isPastTick wsX5_isPastTick) := goodIn_app (goodIn_of _ (by decide +kernel)) ggX5_chief_X5_isPastTick
set_option maxRecDepth 20000 in
theorem ggX5_chief_X4_chiefOf : GoodIn wsX5_chief wsX4_chiefOf := goodIn_r _ [18, 19, 20, 4, 21, 30, 31] (by decide +kernel) (by decide +kernel)
set_option maxRecDepth 20000 in
theorem gX5_chief_X4_chiefOf : GoodIn wsX5_chief (wsV RX5 171 RX4 yX4_chiefOf wsX4_chiefOf) := goodIn_app (goodIn_of _ (by decide +kernel)) ggX5_chief_X4_chiefOf
theorem dX5_chief_0 : decode cX5_chief 0 = .ok (.iload_n 1, 1) := by decide +kernel
theorem dX5_chief_1 : decode cX5_chief 1 = .ok (.invokestatic 126, 3) := by decide +kernel
theorem dX5_chief_4 : decode cX5_chief 4 = .ok (.ifCond .eq 10, 3) := by decide +kernel
theorem dX5_chief_7 : decode cX5_chief 7 = .ok (.iload_n 2, 1) := by decide +kernel
theorem dX5_chief_8 : decode cX5_chief 8 = .ok (.invokestatic 161, 3) := by decide +kernel
theorem dX5_chief_11 : decode cX5_chief 11 = .ok (.ifCond .ne 5, 3) := by decide +kernel
theorem dX5_chief_14 : decode cX5_chief 14 = .ok (.iconst (-1), 1) := by decide +kernel
theorem dX5_chief_15 : decode cX5_chief 15 = .ok (.ireturn, 1) := by decide +kernel
theorem dX5_chief_16 : decode cX5_chief 16 = .ok (.aload_n 0, 1) := by decide +kernel
theorem dX5_chief_17 : decode cX5_chief 17 = .ok (.iload_n 3, 1) := by decide +kernel
theorem dX5_chief_18 : decode cX5_chief 18 = .ok (.invokevirtual 168, 3) := by decide +kernel
theorem dX5_chief_21 : decode cX5_chief 21 = .ok (.ifCond .ne 6, 3) := by decide +kernel
theorem dX5_chief_24 : decode cX5_chief 24 = .ok (.bipush (-2), 2) := by decide +kernel
theorem dX5_chief_26 : decode cX5_chief 26 = .ok (.ireturn, 1) := by decide +kernel
theorem dX5_chief_27 : decode cX5_chief 27 = .ok (.aload_n 0, 1) := by decide +kernel
theorem dX5_chief_28 : decode cX5_chief 28 = .ok (.getfield 25, 3) := by decide +kernel
theorem dX5_chief_31 : decode cX5_chief 31 = .ok (.iload_n 1, 1) := by decide +kernel
theorem dX5_chief_32 : decode cX5_chief 32 = .ok (.iload_n 2, 1) := by decide +kernel
theorem dX5_chief_33 : decode cX5_chief 33 = .ok (.iload_n 3, 1) := by decide +kernel
theorem dX5_chief_34 : decode cX5_chief 34 = .ok (.invokevirtual 171, 3) := by decide +kernel
theorem dX5_chief_37 : decode cX5_chief 37 = .ok (.ireturn, 1) := by decide +kernel
set_option maxRecDepth 20000 in
theorem ggX5_shortAt_X5_isName : GoodIn wsX5_shortAt wsX5_isName := goodIn_r _ [5, 6] (by decide +kernel) (by decide +kernel)
set_option maxRecDepth 20000 in
theorem gX5_shortAt_X5_isName : GoodIn wsX5_shortAt (va_wsS RX5 51 yX5_isName wsX5_isName) := goodIn_app (goodIn_of _ (by decide +kernel)) ggX5_shortAt_X5_isName
set_option maxRecDepth 20000 in
theorem ggX5_shortAt_X5_isPastTick : GoodIn wsX5_shortAt wsX5_isPastTick := goodIn_r _ [10, 11, 33, 34, 35, 36, 37, 38, 39, 40] (by decide +kernel) (by decide +kernel)
set_option maxRecDepth 20000 in
theorem gX5_shortAt_X5_isPastTick : GoodIn wsX5_shortAt (wsV RX5 168 RX5 yX5_isPastTick wsX5_isPastTick) := goodIn_app (goodIn_of _ (by decide +kernel)) ggX5_shortAt_X5_isPastTick
set_option maxRecDepth 20000 in
theorem ggX5_shortAt_X4_shorten : GoodIn wsX5_shortAt wsX4_shorten := goodIn_r _ [16, 17, 18, 19, 15, 20, 21, 22, 4, 23, 24, 25, 26, 27, 28, 29, 30, 31, 32, 41, 42] (by decide +kernel) (by decide +kernel)
set_option maxRecDepth 20000 in
theorem gX5_shortAt_X4_shorten : GoodIn wsX5_shortAt (wsV RX5 143 RX4 yX4_shorten wsX4_shorten) := goodIn_app (goodIn_of _ (by decide +kernel)) ggX5_shortAt_X4_shorten
theorem dX5_shortAt_0 : decode cX5_shortAt 0 = .ok (.iload_n 1, 1) := by decide +kernel
theorem dX5_shortAt_1 : decode cX5_shortAt 1 = .ok (.invokestatic 51, 3) := by decide +kernel
theorem dX5_shortAt_4 : decode cX5_shortAt 4 = .ok (.ifCond .eq 11, 3) := by decide +kernel
theorem dX5_shortAt_7 : decode cX5_shortAt 7 = .ok (.aload_n 0, 1) := by decide +kernel
theorem dX5_shortAt_8 : decode cX5_shortAt 8 = .ok (.iload_n 2, 1) := by decide +kernel
theorem dX5_shortAt_9 : decode cX5_shortAt 9 = .ok (.invokevirtual 168, 3) := by decide +kernel
theorem dX5_shortAt_12 : decode cX5_shortAt 12 = .ok (.ifCond .ne 6, 3) := by decide +kernel
theorem dX5_shortAt_15 : decode cX5_shortAt 15 = .ok (.bipush (-2), 2) := by decide +kernel
theorem dX5_shortAt_17 : decode cX5_shortAt 17 = .ok (.ireturn, 1) := by decide +kernel
theorem dX5_shortAt_18 : decode cX5_shortAt 18 = .ok (.aload_n 0, 1) := by decide +kernel
theorem dX5_shortAt_19 : decode cX5_shortAt 19 = .ok (.getfield 25, 3) := by decide +kernel
theorem dX5_shortAt_22 : decode cX5_shortAt 22 = .ok (.iload_n 1, 1) := by decide +kernel
theorem dX5_shortAt_23 : decode cX5_shortAt 23 = .ok (.iload_n 2, 1) := by decide +kernel
theorem dX5_shortAt_24 : decode cX5_shortAt 24 = .ok (.invokevirtual 143, 3) := by decide +kernel
theorem dX5_shortAt_27 : decode cX5_shortAt 27 = .ok (.ireturn, 1) := by decide +kernel
set_option maxRecDepth 20000 in
theorem ggX5_ask_X5_isSetOfMarks : GoodIn wsX5_ask wsX5_isSetOfMarks := goodIn_r _ [8] (by decide +kernel) (by decide +kernel)
set_option maxRecDepth 20000 in
theorem gX5_ask_X5_isSetOfMarks : GoodIn wsX5_ask (va_wsS RX5 132 yX5_isSetOfMarks wsX5_isSetOfMarks) := goodIn_app (goodIn_of _ (by decide +kernel)) ggX5_ask_X5_isSetOfMarks
set_option maxRecDepth 20000 in
theorem ggX5_ask_X5_isMark : GoodIn wsX5_ask wsX5_isMark := goodIn_r _ [11] (by decide +kernel) (by decide +kernel)
set_option maxRecDepth 20000 in
theorem gX5_ask_X5_isMark : GoodIn wsX5_ask (va_wsS RX5 126 yX5_isMark wsX5_isMark) := goodIn_app (goodIn_of _ (by decide +kernel)) ggX5_ask_X5_isMark
set_option maxRecDepth 20000 in
theorem ggX5_ask_X5_isValue : GoodIn wsX5_ask wsX5_isValue := goodIn_r _ [14] (by decide +kernel) (by decide +kernel)
set_option maxRecDepth 20000 in
theorem gX5_ask_X5_isValue : GoodIn wsX5_ask (va_wsS RX5 161 yX5_isValue wsX5_isValue) := goodIn_app (goodIn_of _ (by decide +kernel)) ggX5_ask_X5_isValue
set_option maxRecDepth 20000 in
theorem ggX5_ask_X5_hasBit : GoodIn wsX5_ask wsX5_hasBit := goodIn_r _ [17] (by decide +kernel) (by decide +kernel)
set_option maxRecDepth 20000 in
theorem gX5_ask_X5_hasBit : GoodIn wsX5_ask (va_wsS RX5 175 yX5_hasBit wsX5_hasBit) := goodIn_app (goodIn_of _ (by decide +kernel)) ggX5_ask_X5_hasBit
set_option maxRecDepth 20000 in
theorem ggX5_ask_Jx4a65c_size_8abf5 : GoodIn wsX5_ask wsJx4a65c_size_8abf5 := goodIn_r _ [22, 23, 106, 107, 108] (by decide +kernel) (by decide +kernel)
set_option maxRecDepth 20000 in
theorem gX5_ask_Jx4a65c_size_8abf5 : GoodIn wsX5_ask (wsV RX5 69 RJx4a65c yJx4a65c_size_8abf5 wsJx4a65c_size_8abf5) := goodIn_app (goodIn_of _ (by decide +kernel)) ggX5_ask_Jx4a65c_size_8abf5
set_option maxRecDepth 20000 in
theorem ggX5_ask_X0_init : GoodIn wsX5_ask wsX0_init := goodIn_r _ [26, 27, 28, 29, 30, 31, 32, 33, 34, 7, 35, 15, 16, 17, 36, 37, 38, 101, 102, 103, 104, 105] (by decide +kernel) (by decide +kernel)
set_option maxRecDepth 20000 in
theorem gX5_ask_X0_init : GoodIn wsX5_ask (wsX0_init) := ggX5_ask_X0_init
set_option maxRecDepth 20000 in
theorem ggX5_ask_Jx4a65c_add_9ea2d : GoodIn wsX5_ask wsJx4a65c_add_9ea2d := goodIn_r _ [42, 43, 44, 45, 23, 46, 47, 48, 21, 49, 50, 51, 52, 53, 54, 55, 56, 57, 58, 59, 60, 61, 62, 63, 64, 65, 66, 67, 68, 69, 70, 71, 72, 73, 74, 75, 76, 77, 78, 79, 80, 81, 82, 83, 84, 85, 86, 87, 88, 89, 90, 91, 92, 106, 107, 108] (by decide +kernel) (by decide +kernel)
set_option maxRecDepth 20000 in
theorem gX5_ask_Jx4a65c_add_9ea2d : GoodIn wsX5_ask (wsV RX5 75 RJx4a65c yJx4a65c_add_9ea2d wsJx4a65c_add_9ea2d) := goodIn_app (goodIn_of _ (by decide +kernel)) ggX5_ask_Jx4a65c_add_9ea2d
theorem dX5_ask_0 : decode cX5_ask 0 = .ok (.iload_n 1, 1) := by decide +kernel
theorem dX5_ask_1 : decode cX5_ask 1 = .ok (.invokestatic 132, 3) := by decide +kernel
theorem dX5_ask_4 : decode cX5_ask 4 = .ok (.ifCond .ne 6, 3) := by decide +kernel
theorem dX5_ask_7 : decode cX5_ask 7 = .ok (.bipush (-2), 2) := by decide +kernel
theorem dX5_ask_9 : decode cX5_ask 9 = .ok (.ireturn, 1) := by decide +kernel
theorem dX5_ask_10 : decode cX5_ask 10 = .ok (.iload_n 2, 1) := by decide +kernel
theorem dX5_ask_11 : decode cX5_ask 11 = .ok (.bipush (-9), 2) := by decide +kernel
theorem dX5_ask_13 : decode cX5_ask 13 = .ok (.if_icmp .eq 7, 3) := by decide +kernel
theorem dX5_ask_16 : decode cX5_ask 16 = .ok (.iconst 1, 1) := by decide +kernel
theorem dX5_ask_17 : decode cX5_ask 17 = .ok (.goto 4, 3) := by decide +kernel
theorem dX5_ask_20 : decode cX5_ask 20 = .ok (.iconst 0, 1) := by decide +kernel
theorem dX5_ask_21 : decode cX5_ask 21 = .ok (.istore 4, 2) := by decide +kernel
theorem dX5_ask_23 : decode cX5_ask 23 = .ok (.iload 4, 2) := by decide +kernel
theorem dX5_ask_25 : decode cX5_ask 25 = .ok (.ifCond .eq 19, 3) := by decide +kernel
theorem dX5_ask_28 : decode cX5_ask 28 = .ok (.iload_n 2, 1) := by decide +kernel
theorem dX5_ask_29 : decode cX5_ask 29 = .ok (.invokestatic 126, 3) := by decide +kernel
theorem dX5_ask_32 : decode cX5_ask 32 = .ok (.ifCond .eq 10, 3) := by decide +kernel
theorem dX5_ask_35 : decode cX5_ask 35 = .ok (.iload_n 3, 1) := by decide +kernel
theorem dX5_ask_36 : decode cX5_ask 36 = .ok (.invokestatic 161, 3) := by decide +kernel
theorem dX5_ask_39 : decode cX5_ask 39 = .ok (.ifCond .ne 5, 3) := by decide +kernel
theorem dX5_ask_42 : decode cX5_ask 42 = .ok (.iconst (-1), 1) := by decide +kernel
theorem dX5_ask_43 : decode cX5_ask 43 = .ok (.ireturn, 1) := by decide +kernel
theorem dX5_ask_44 : decode cX5_ask 44 = .ok (.iload 4, 2) := by decide +kernel
theorem dX5_ask_46 : decode cX5_ask 46 = .ok (.ifCond .eq 14, 3) := by decide +kernel
theorem dX5_ask_49 : decode cX5_ask 49 = .ok (.iload_n 1, 1) := by decide +kernel
theorem dX5_ask_50 : decode cX5_ask 50 = .ok (.iload_n 2, 1) := by decide +kernel
theorem dX5_ask_51 : decode cX5_ask 51 = .ok (.invokestatic 175, 3) := by decide +kernel
theorem dX5_ask_54 : decode cX5_ask 54 = .ok (.ifCond .ne 6, 3) := by decide +kernel
theorem dX5_ask_57 : decode cX5_ask 57 = .ok (.bipush (-3), 2) := by decide +kernel
theorem dX5_ask_59 : decode cX5_ask 59 = .ok (.ireturn, 1) := by decide +kernel
theorem dX5_ask_60 : decode cX5_ask 60 = .ok (.aload_n 0, 1) := by decide +kernel
theorem dX5_ask_61 : decode cX5_ask 61 = .ok (.getfield 19, 3) := by decide +kernel
theorem dX5_ask_64 : decode cX5_ask 64 = .ok (.invokevirtual 69, 3) := by decide +kernel
theorem dX5_ask_67 : decode cX5_ask 67 = .ok (.bipush 10, 2) := by decide +kernel
theorem dX5_ask_69 : decode cX5_ask 69 = .ok (.if_icmp .lt 6, 3) := by decide +kernel
theorem dX5_ask_72 : decode cX5_ask 72 = .ok (.bipush (-4), 2) := by decide +kernel
theorem dX5_ask_74 : decode cX5_ask 74 = .ok (.ireturn, 1) := by decide +kernel
theorem dX5_ask_75 : decode cX5_ask 75 = .ok (.aload_n 0, 1) := by decide +kernel
theorem dX5_ask_76 : decode cX5_ask 76 = .ok (.getfield 19, 3) := by decide +kernel
theorem dX5_ask_79 : decode cX5_ask 79 = .ok (.iload 4, 2) := by decide +kernel
theorem dX5_ask_81 : decode cX5_ask 81 = .ok (.ifCond .eq 16, 3) := by decide +kernel
theorem dX5_ask_84 : decode cX5_ask 84 = .ok (.new 178, 3) := by decide +kernel
theorem dX5_ask_87 : decode cX5_ask 87 = .ok (.dup, 1) := by decide +kernel
theorem dX5_ask_88 : decode cX5_ask 88 = .ok (.iload_n 1, 1) := by decide +kernel
theorem dX5_ask_89 : decode cX5_ask 89 = .ok (.iload_n 2, 1) := by decide +kernel
theorem dX5_ask_90 : decode cX5_ask 90 = .ok (.iload_n 3, 1) := by decide +kernel
theorem dX5_ask_91 : decode cX5_ask 91 = .ok (.invokespecial 180, 3) := by decide +kernel
theorem dX5_ask_94 : decode cX5_ask 94 = .ok (.goto 14, 3) := by decide +kernel
theorem dX5_ask_97 : decode cX5_ask 97 = .ok (.new 178, 3) := by decide +kernel
theorem dX5_ask_100 : decode cX5_ask 100 = .ok (.dup, 1) := by decide +kernel
theorem dX5_ask_101 : decode cX5_ask 101 = .ok (.iload_n 1, 1) := by decide +kernel
theorem dX5_ask_102 : decode cX5_ask 102 = .ok (.bipush (-9), 2) := by decide +kernel
theorem dX5_ask_104 : decode cX5_ask 104 = .ok (.iconst 0, 1) := by decide +kernel
theorem dX5_ask_105 : decode cX5_ask 105 = .ok (.invokespecial 180, 3) := by decide +kernel
theorem dX5_ask_108 : decode cX5_ask 108 = .ok (.invokevirtual 75, 3) := by decide +kernel
theorem dX5_ask_111 : decode cX5_ask 111 = .ok (.pop, 1) := by decide +kernel
theorem dX5_ask_112 : decode cX5_ask 112 = .ok (.aload_n 0, 1) := by decide +kernel
theorem dX5_ask_113 : decode cX5_ask 113 = .ok (.getfield 19, 3) := by decide +kernel
theorem dX5_ask_116 : decode cX5_ask 116 = .ok (.invokevirtual 69, 3) := by decide +kernel
theorem dX5_ask_119 : decode cX5_ask 119 = .ok (.iconst 1, 1) := by decide +kernel
theorem dX5_ask_120 : decode cX5_ask 120 = .ok (.isub, 1) := by decide +kernel
theorem dX5_ask_121 : decode cX5_ask 121 = .ok (.ireturn, 1) := by decide +kernel
set_option maxRecDepth 20000 in
theorem ggX5_answer_X5_isAsking : GoodIn wsX5_answer wsX5_isAsking := goodIn_r _ [9, 2, 10, 11, 12, 13, 14, 15, 64, 65, 66, 67, 68, 69, 70, 71, 77, 78, 79] (by decide +kernel) (by decide +kernel)
set_option maxRecDepth 20000 in
theorem gX5_answer_X5_isAsking : GoodIn wsX5_answer (wsV RX5 181 RX5 yX5_isAsking wsX5_isAsking) := goodIn_app (goodIn_of _ (by decide +kernel)) ggX5_answer_X5_isAsking
set_option maxRecDepth 20000 in
theorem ggX5_answer_Jx4a65c_get_915e3 : GoodIn wsX5_answer wsJx4a65c_get_915e3 := goodIn_r _ [19, 15, 20, 21, 22, 23, 24, 25, 26, 27, 28, 29, 30, 13, 31, 32, 77, 78, 79] (by decide +kernel) (by decide +kernel)
set_option maxRecDepth 20000 in
theorem gX5_answer_Jx4a65c_get_915e3 : GoodIn wsX5_answer (wsV RX5 60 RJx4a65c yJx4a65c_get_915e3 wsJx4a65c_get_915e3) := goodIn_app (goodIn_of _ (by decide +kernel)) ggX5_answer_Jx4a65c_get_915e3
set_option maxRecDepth 20000 in
theorem ggX5_answer_X5_isName : GoodIn wsX5_answer wsX5_isName := goodIn_r _ [35, 36] (by decide +kernel) (by decide +kernel)
set_option maxRecDepth 20000 in
theorem gX5_answer_X5_isName : GoodIn wsX5_answer (va_wsS RX5 51 yX5_isName wsX5_isName) := goodIn_app (goodIn_of _ (by decide +kernel)) ggX5_answer_X5_isName
set_option maxRecDepth 20000 in
theorem ggX5_answer_X0_keyOf : GoodIn wsX5_answer wsX0_keyOf := goodIn_r _ [41, 42, 43, 44, 45, 8, 46, 72, 73, 74, 75, 76] (by decide +kernel) (by decide +kernel)
set_option maxRecDepth 20000 in
theorem gX5_answer_X0_keyOf : GoodIn wsX5_answer (wsV RX5 184 RX0 yX0_keyOf wsX0_keyOf) := goodIn_app (goodIn_of _ (by decide +kernel)) ggX5_answer_X0_keyOf
set_option maxRecDepth 20000 in
theorem ggX5_answer_X5_isSpan : GoodIn wsX5_answer wsX5_isSpan := goodIn_r _ [50, 51, 64, 65, 66, 67, 68, 69, 70, 71] (by decide +kernel) (by decide +kernel)
set_option maxRecDepth 20000 in
theorem gX5_answer_X5_isSpan : GoodIn wsX5_answer (wsV RX5 108 RX5 yX5_isSpan wsX5_isSpan) := goodIn_app (goodIn_of _ (by decide +kernel)) ggX5_answer_X5_isSpan
set_option maxRecDepth 20000 in
theorem ggX5_answer_X5_growthOfAlike : GoodIn wsX5_answer wsX5_growthOfAlike := goodIn_r _ [55, 56, 57, 10, 11, 12, 13, 14, 15, 16, 17, 18, 19, 20, 21, 22, 23, 24, 25, 26, 27, 28, 29, 30, 31, 32, 58, 59, 60, 61, 62, 63, 64, 65, 66, 67, 68, 69, 70, 71, 80, 81, 82, 77, 78, 79] (by decide +kernel) (by decide +kernel)
set_option maxRecDepth 20000 in
theorem gX5_answer_X5_growthOfAlike : GoodIn wsX5_answer (wsV RX5 117 RX5 yX5_growthOfAlike wsX5_growthOfAlike) := goodIn_app (goodIn_of _ (by decide +kernel)) ggX5_answer_X5_growthOfAlike
theorem dX5_answer_0 : decode cX5_answer 0 = .ok (.aload_n 0, 1) := by decide +kernel
theorem dX5_answer_1 : decode cX5_answer 1 = .ok (.iload_n 1, 1) := by decide +kernel
theorem dX5_answer_2 : decode cX5_answer 2 = .ok (.invokevirtual 181, 3) := by decide +kernel
theorem dX5_answer_5 : decode cX5_answer 5 = .ok (.ifCond .ne 7, 3) := by decide +kernel
theorem dX5_answer_8 : decode cX5_answer 8 = .ok (.ldc2_w 106, 3) := by decide +kernel
theorem dX5_answer_11 : decode cX5_answer 11 = .ok (.lreturn, 1) := by decide +kernel
theorem dX5_answer_12 : decode cX5_answer 12 = .ok (.aload_n 0, 1) := by decide +kernel
theorem dX5_answer_13 : decode cX5_answer 13 = .ok (.getfield 19, 3) := by decide +kernel
theorem dX5_answer_16 : decode cX5_answer 16 = .ok (.iload_n 1, 1) := by decide +kernel
theorem dX5_answer_17 : decode cX5_answer 17 = .ok (.invokevirtual 60, 3) := by decide +kernel
theorem dX5_answer_20 : decode cX5_answer 20 = .ok (.checkcast 178, 3) := by decide +kernel
theorem dX5_answer_23 : decode cX5_answer 23 = .ok (.astore 5, 2) := by decide +kernel
theorem dX5_answer_25 : decode cX5_answer 25 = .ok (.iload_n 2, 1) := by decide +kernel
theorem dX5_answer_26 : decode cX5_answer 26 = .ok (.invokestatic 51, 3) := by decide +kernel
theorem dX5_answer_29 : decode cX5_answer 29 = .ok (.ifCond .eq 23, 3) := by decide +kernel
theorem dX5_answer_32 : decode cX5_answer 32 = .ok (.aload 5, 2) := by decide +kernel
theorem dX5_answer_34 : decode cX5_answer 34 = .ok (.iload_n 2, 1) := by decide +kernel
theorem dX5_answer_35 : decode cX5_answer 35 = .ok (.invokevirtual 184, 3) := by decide +kernel
theorem dX5_answer_38 : decode cX5_answer 38 = .ok (.iload_n 2, 1) := by decide +kernel
theorem dX5_answer_39 : decode cX5_answer 39 = .ok (.if_icmp .ne 13, 3) := by decide +kernel
theorem dX5_answer_42 : decode cX5_answer 42 = .ok (.aload_n 0, 1) := by decide +kernel
theorem dX5_answer_43 : decode cX5_answer 43 = .ok (.iload_n 3, 1) := by decide +kernel
theorem dX5_answer_44 : decode cX5_answer 44 = .ok (.iload 4, 2) := by decide +kernel
theorem dX5_answer_46 : decode cX5_answer 46 = .ok (.invokevirtual 108, 3) := by decide +kernel
theorem dX5_answer_49 : decode cX5_answer 49 = .ok (.ifCond .ne 7, 3) := by decide +kernel
theorem dX5_answer_52 : decode cX5_answer 52 = .ok (.ldc2_w 112, 3) := by decide +kernel
theorem dX5_answer_55 : decode cX5_answer 55 = .ok (.lreturn, 1) := by decide +kernel
theorem dX5_answer_56 : decode cX5_answer 56 = .ok (.aload_n 0, 1) := by decide +kernel
theorem dX5_answer_57 : decode cX5_answer 57 = .ok (.aload 5, 2) := by decide +kernel
theorem dX5_answer_59 : decode cX5_answer 59 = .ok (.getfield 187, 3) := by decide +kernel
theorem dX5_answer_62 : decode cX5_answer 62 = .ok (.iload_n 2, 1) := by decide +kernel
theorem dX5_answer_63 : decode cX5_answer 63 = .ok (.iload_n 3, 1) := by decide +kernel
theorem dX5_answer_64 : decode cX5_answer 64 = .ok (.iload 4, 2) := by decide +kernel
theorem dX5_answer_66 : decode cX5_answer 66 = .ok (.invokevirtual 117, 3) := by decide +kernel
theorem dX5_answer_69 : decode cX5_answer 69 = .ok (.lreturn, 1) := by decide +kernel
set_option maxRecDepth 20000 in
theorem ggX5_keys_X5_isAsking : GoodIn wsX5_keys wsX5_isAsking := goodIn_r _ [8, 1, 9, 10, 11, 12, 13, 14, 92, 93, 94, 95, 96, 97, 98, 99, 102, 103, 104] (by decide +kernel) (by decide +kernel)
set_option maxRecDepth 20000 in
theorem gX5_keys_X5_isAsking : GoodIn wsX5_keys (wsV RX5 181 RX5 yX5_isAsking wsX5_isAsking) := goodIn_app (goodIn_of _ (by decide +kernel)) ggX5_keys_X5_isAsking
set_option maxRecDepth 20000 in
theorem ggX5_keys_X5_isSpan : GoodIn wsX5_keys wsX5_isSpan := goodIn_r _ [18, 19, 92, 93, 94, 95, 96, 97, 98, 99] (by decide +kernel) (by decide +kernel)
set_option maxRecDepth 20000 in
theorem gX5_keys_X5_isSpan : GoodIn wsX5_keys (wsV RX5 108 RX5 yX5_isSpan wsX5_isSpan) := goodIn_app (goodIn_of _ (by decide +kernel)) ggX5_keys_X5_isSpan
set_option maxRecDepth 20000 in
theorem ggX5_keys_Jx4a65c_get_915e3 : GoodIn wsX5_keys wsJx4a65c_get_915e3 := goodIn_r _ [23, 14, 24, 25, 26, 27, 28, 29, 30, 31, 32, 33, 34, 12, 35, 36, 102, 103, 104] (by decide +kernel) (by decide +kernel)
set_option maxRecDepth 20000 in
theorem gX5_keys_Jx4a65c_get_915e3 : GoodIn wsX5_keys (wsV RX5 60 RJx4a65c yJx4a65c_get_915e3 wsJx4a65c_get_915e3) := goodIn_app (goodIn_of _ (by decide +kernel)) ggX5_keys_Jx4a65c_get_915e3
set_option maxRecDepth 20000 in
theorem ggX5_keys_X5_gatherKeys : GoodIn wsX5_keys wsX5_gatherKeys := goodIn_r _ [40, 3, 41, 42, 43, 44, 7, 45, 46, 47, 48, 49, 50, 51, 52, 53, 9, 10, 11, 12, 13, 14, 20, 21, 22, 23, 24, 25, 26, 27, 28, 29, 30, 31, 32, 33, 34, 35, 36, 54, 55, 56, 57, 58, 59, 60, 61, 62, 63, 64, 65, 66, 67, 68, 69, 70, 71, 72, 73, 74, 75, 76, 77, 78, 79, 80, 81, 82, 83, 84, 85, 86, 87, 88, 89, 90, 91, 92, 93, 94, 95, 96, 97, 98, 99, 100, 101, 105, 106, 107, 102, 103, 104, 108, 109, 110, 111, 112] (by decide +kernel) (by decide +kernel)
set_option maxRecDepth 20000 in
theorem gX5_keys_X5_gatherKeys : GoodIn wsX5_keys (wsV RX5 190 RX5 yX5_gatherKeys wsX5_gatherKeys) := goodIn_app (goodIn_of _ (by decide +kernel)) ggX5_keys_X5_gatherKeys
theorem dX5_keys_0 : decode cX5_keys 0 = .ok (.aload_n 0, 1) := by decide +kernel
theorem dX5_keys_1 : decode cX5_keys 1 = .ok (.iload_n 1, 1) := by decide +kernel
theorem dX5_keys_2 : decode cX5_keys 2 = .ok (.invokevirtual 181, 3) := by decide +kernel
theorem dX5_keys_5 : decode cX5_keys 5 = .ok (.ifCond .ne 5, 3) := by decide +kernel
theorem dX5_keys_8 : decode cX5_keys 8 = .ok (.iconst (-1), 1) := by decide +kernel
theorem dX5_keys_9 : decode cX5_keys 9 = .ok (.ireturn, 1) := by decide +kernel
theorem dX5_keys_10 : decode cX5_keys 10 = .ok (.aload_n 0, 1) := by decide +kernel
theorem dX5_keys_11 : decode cX5_keys 11 = .ok (.iload_n 2, 1) := by decide +kernel
theorem dX5_keys_12 : decode cX5_keys 12 = .ok (.iload_n 3, 1) := by decide +kernel
theorem dX5_keys_13 : decode cX5_keys 13 = .ok (.invokevirtual 108, 3) := by decide +kernel
theorem dX5_keys_16 : decode cX5_keys 16 = .ok (.ifCond .ne 6, 3) := by decide +kernel
theorem dX5_keys_19 : decode cX5_keys 19 = .ok (.bipush (-2), 2) := by decide +kernel
theorem dX5_keys_21 : decode cX5_keys 21 = .ok (.ireturn, 1) := by decide +kernel
theorem dX5_keys_22 : decode cX5_keys 22 = .ok (.aload_n 0, 1) := by decide +kernel
theorem dX5_keys_23 : decode cX5_keys 23 = .ok (.aload_n 0, 1) := by decide +kernel
theorem dX5_keys_24 : decode cX5_keys 24 = .ok (.getfield 19, 3) := by decide +kernel
theorem dX5_keys_27 : decode cX5_keys 27 = .ok (.iload_n 1, 1) := by decide +kernel
theorem dX5_keys_28 : decode cX5_keys 28 = .ok (.invokevirtual 60, 3) := by decide +kernel
theorem dX5_keys_31 : decode cX5_keys 31 = .ok (.checkcast 178, 3) := by decide +kernel
theorem dX5_keys_34 : decode cX5_keys 34 = .ok (.iload_n 2, 1) := by decide +kernel
theorem dX5_keys_35 : decode cX5_keys 35 = .ok (.iload_n 3, 1) := by decide +kernel
theorem dX5_keys_36 : decode cX5_keys 36 = .ok (.invokevirtual 190, 3) := by decide +kernel
theorem dX5_keys_39 : decode cX5_keys 39 = .ok (.aload_n 0, 1) := by decide +kernel
theorem dX5_keys_40 : decode cX5_keys 40 = .ok (.getfield 40, 3) := by decide +kernel
theorem dX5_keys_43 : decode cX5_keys 43 = .ok (.getfield 124, 3) := by decide +kernel
theorem dX5_keys_46 : decode cX5_keys 46 = .ok (.ireturn, 1) := by decide +kernel
set_option maxRecDepth 20000 in
theorem ggX5_key_X5_isAsking : GoodIn wsX5_key wsX5_isAsking := goodIn_r _ [8, 1, 9, 10, 11, 12, 13, 14, 92, 93, 94, 95, 96, 97, 98, 99, 102, 103, 104] (by decide +kernel) (by decide +kernel)
set_option maxRecDepth 20000 in
theorem gX5_key_X5_isAsking : GoodIn wsX5_key (wsV RX5 181 RX5 yX5_isAsking wsX5_isAsking) := goodIn_app (goodIn_of _ (by decide +kernel)) ggX5_key_X5_isAsking
set_option maxRecDepth 20000 in
theorem ggX5_key_X5_isSpan : GoodIn wsX5_key wsX5_isSpan := goodIn_r _ [18, 19, 92, 93, 94, 95, 96, 97, 98, 99] (by decide +kernel) (by decide +kernel)
set_option maxRecDepth 20000 in
theorem gX5_key_X5_isSpan : GoodIn wsX5_key (wsV RX5 108 RX5 yX5_isSpan wsX5_isSpan) := goodIn_app (goodIn_of _ (by decide +kernel)) ggX5_key_X5_isSpan
set_option maxRecDepth 20000 in
theorem ggX5_key_Jx4a65c_get_915e3 : GoodIn wsX5_key wsJx4a65c_get_915e3 := goodIn_r _ [23, 14, 24, 25, 26, 27, 28, 29, 30, 31, 32, 33, 34, 12, 35, 36, 102, 103, 104] (by decide +kernel) (by decide +kernel)
set_option maxRecDepth 20000 in
theorem gX5_key_Jx4a65c_get_915e3 : GoodIn wsX5_key (wsV RX5 60 RJx4a65c yJx4a65c_get_915e3 wsJx4a65c_get_915e3) := goodIn_app (goodIn_of _ (by decide +kernel)) ggX5_key_Jx4a65c_get_915e3
set_option maxRecDepth 20000 in
theorem ggX5_key_X5_gatherKeys : GoodIn wsX5_key wsX5_gatherKeys := goodIn_r _ [40, 3, 41, 42, 43, 44, 7, 45, 46, 47, 48, 49, 50, 51, 52, 53, 9, 10, 11, 12, 13, 14, 20, 21, 22, 23, 24, 25, 26, 27, 28, 29, 30, 31, 32, 33, 34, 35, 36, 54, 55, 56, 57, 58, 59, 60, 61, 62, 63, 64, 65, 66, 67, 68, 69, 70, 71, 72, 73, 74, 75, 76, 77, 78, 79, 80, 81, 82, 83, 84, 85, 86, 87, 88, 89, 90, 91, 92, 93, 94, 95, 96, 97, 98, 99, 100, 101, 105, 106, 107, 102, 103, 104, 108, 109, 110, 111, 112] (by decide +kernel) (by decide +kernel)
set_option maxRecDepth 20000 in
theorem gX5_key_X5_gatherKeys : GoodIn wsX5_key (wsV RX5 190 RX5 yX5_gatherKeys wsX5_gatherKeys) := goodIn_app (goodIn_of _ (by decide +kernel)) ggX5_key_X5_gatherKeys
theorem dX5_key_0 : decode cX5_key 0 = .ok (.aload_n 0, 1) := by decide +kernel
theorem dX5_key_1 : decode cX5_key 1 = .ok (.iload_n 1, 1) := by decide +kernel
theorem dX5_key_2 : decode cX5_key 2 = .ok (.invokevirtual 181, 3) := by decide +kernel
theorem dX5_key_5 : decode cX5_key 5 = .ok (.ifCond .ne 5, 3) := by decide +kernel
theorem dX5_key_8 : decode cX5_key 8 = .ok (.iconst (-1), 1) := by decide +kernel
theorem dX5_key_9 : decode cX5_key 9 = .ok (.ireturn, 1) := by decide +kernel
theorem dX5_key_10 : decode cX5_key 10 = .ok (.aload_n 0, 1) := by decide +kernel
theorem dX5_key_11 : decode cX5_key 11 = .ok (.iload_n 3, 1) := by decide +kernel
theorem dX5_key_12 : decode cX5_key 12 = .ok (.iload 4, 2) := by decide +kernel
theorem dX5_key_14 : decode cX5_key 14 = .ok (.invokevirtual 108, 3) := by decide +kernel
theorem dX5_key_17 : decode cX5_key 17 = .ok (.ifCond .ne 6, 3) := by decide +kernel
theorem dX5_key_20 : decode cX5_key 20 = .ok (.bipush (-2), 2) := by decide +kernel
theorem dX5_key_22 : decode cX5_key 22 = .ok (.ireturn, 1) := by decide +kernel
theorem dX5_key_23 : decode cX5_key 23 = .ok (.aload_n 0, 1) := by decide +kernel
theorem dX5_key_24 : decode cX5_key 24 = .ok (.aload_n 0, 1) := by decide +kernel
theorem dX5_key_25 : decode cX5_key 25 = .ok (.getfield 19, 3) := by decide +kernel
theorem dX5_key_28 : decode cX5_key 28 = .ok (.iload_n 1, 1) := by decide +kernel
theorem dX5_key_29 : decode cX5_key 29 = .ok (.invokevirtual 60, 3) := by decide +kernel
theorem dX5_key_32 : decode cX5_key 32 = .ok (.checkcast 178, 3) := by decide +kernel
theorem dX5_key_35 : decode cX5_key 35 = .ok (.iload_n 3, 1) := by decide +kernel
theorem dX5_key_36 : decode cX5_key 36 = .ok (.iload 4, 2) := by decide +kernel
theorem dX5_key_38 : decode cX5_key 38 = .ok (.invokevirtual 190, 3) := by decide +kernel
theorem dX5_key_41 : decode cX5_key 41 = .ok (.iload_n 2, 1) := by decide +kernel
theorem dX5_key_42 : decode cX5_key 42 = .ok (.ifCond .lt 14, 3) := by decide +kernel
theorem dX5_key_45 : decode cX5_key 45 = .ok (.iload_n 2, 1) := by decide +kernel
theorem dX5_key_46 : decode cX5_key 46 = .ok (.aload_n 0, 1) := by decide +kernel
theorem dX5_key_47 : decode cX5_key 47 = .ok (.getfield 40, 3) := by decide +kernel
theorem dX5_key_50 : decode cX5_key 50 = .ok (.getfield 124, 3) := by decide +kernel
theorem dX5_key_53 : decode cX5_key 53 = .ok (.if_icmp .lt 6, 3) := by decide +kernel
theorem dX5_key_56 : decode cX5_key 56 = .ok (.bipush (-9), 2) := by decide +kernel
theorem dX5_key_58 : decode cX5_key 58 = .ok (.ireturn, 1) := by decide +kernel
theorem dX5_key_59 : decode cX5_key 59 = .ok (.aload_n 0, 1) := by decide +kernel
theorem dX5_key_60 : decode cX5_key 60 = .ok (.getfield 40, 3) := by decide +kernel
theorem dX5_key_63 : decode cX5_key 63 = .ok (.getfield 194, 3) := by decide +kernel
theorem dX5_key_66 : decode cX5_key 66 = .ok (.iload_n 2, 1) := by decide +kernel
theorem dX5_key_67 : decode cX5_key 67 = .ok (.iaload, 1) := by decide +kernel
theorem dX5_key_68 : decode cX5_key 68 = .ok (.ireturn, 1) := by decide +kernel
set_option maxRecDepth 20000 in
theorem ggX5_works_X5_isAsking : GoodIn wsX5_works wsX5_isAsking := goodIn_r _ [8, 1, 9, 10, 11, 12, 13, 14, 50, 51, 52, 53, 54, 55, 56, 57, 63, 64, 65] (by decide +kernel) (by decide +kernel)
set_option maxRecDepth 20000 in
theorem gX5_works_X5_isAsking : GoodIn wsX5_works (wsV RX5 181 RX5 yX5_isAsking wsX5_isAsking) := goodIn_app (goodIn_of _ (by decide +kernel)) ggX5_works_X5_isAsking
set_option maxRecDepth 20000 in
theorem ggX5_works_X5_isSpan : GoodIn wsX5_works wsX5_isSpan := goodIn_r _ [18, 19, 50, 51, 52, 53, 54, 55, 56, 57] (by decide +kernel) (by decide +kernel)
set_option maxRecDepth 20000 in
theorem gX5_works_X5_isSpan : GoodIn wsX5_works (wsV RX5 108 RX5 yX5_isSpan wsX5_isSpan) := goodIn_app (goodIn_of _ (by decide +kernel)) ggX5_works_X5_isSpan
set_option maxRecDepth 20000 in
theorem ggX5_works_Jx4a65c_get_915e3 : GoodIn wsX5_works wsJx4a65c_get_915e3 := goodIn_r _ [23, 14, 24, 25, 26, 27, 28, 29, 30, 31, 32, 33, 34, 12, 35, 36, 63, 64, 65] (by decide +kernel) (by decide +kernel)
set_option maxRecDepth 20000 in
theorem gX5_works_Jx4a65c_get_915e3 : GoodIn wsX5_works (wsV RX5 60 RJx4a65c yJx4a65c_get_915e3 wsJx4a65c_get_915e3) := goodIn_app (goodIn_of _ (by decide +kernel)) ggX5_works_Jx4a65c_get_915e3
set_option maxRecDepth 20000 in
theorem ggX5_works_X5_firstLack : GoodIn wsX5_works wsX5_firstLack := goodIn_r _ [40, 3, 50, 51, 52, 53, 54, 55, 56, 57, 66, 67] (by decide +kernel) (by decide +kernel)
set_option maxRecDepth 20000 in
theorem gX5_works_X5_firstLack : GoodIn wsX5_works (wsV RX5 200 RX5 yX5_firstLack wsX5_firstLack) := goodIn_app (goodIn_of _ (by decide +kernel)) ggX5_works_X5_firstLack
set_option maxRecDepth 20000 in
theorem ggX5_works_X4_isAnyFolded : GoodIn wsX5_works wsX4_isAnyFolded := goodIn_r _ [45, 46, 47, 48, 7, 49, 66, 67] (by decide +kernel) (by decide +kernel)
set_option maxRecDepth 20000 in
theorem gX5_works_X4_isAnyFolded : GoodIn wsX5_works (wsV RX5 203 RX4 yX4_isAnyFolded wsX4_isAnyFolded) := goodIn_app (goodIn_of _ (by decide +kernel)) ggX5_works_X4_isAnyFolded
theorem dX5_works_0 : decode cX5_works 0 = .ok (.aload_n 0, 1) := by decide +kernel
theorem dX5_works_1 : decode cX5_works 1 = .ok (.iload_n 1, 1) := by decide +kernel
theorem dX5_works_2 : decode cX5_works 2 = .ok (.invokevirtual 181, 3) := by decide +kernel
theorem dX5_works_5 : decode cX5_works 5 = .ok (.ifCond .ne 5, 3) := by decide +kernel
theorem dX5_works_8 : decode cX5_works 8 = .ok (.iconst (-1), 1) := by decide +kernel
theorem dX5_works_9 : decode cX5_works 9 = .ok (.ireturn, 1) := by decide +kernel
theorem dX5_works_10 : decode cX5_works 10 = .ok (.aload_n 0, 1) := by decide +kernel
theorem dX5_works_11 : decode cX5_works 11 = .ok (.iload_n 2, 1) := by decide +kernel
theorem dX5_works_12 : decode cX5_works 12 = .ok (.iload_n 3, 1) := by decide +kernel
theorem dX5_works_13 : decode cX5_works 13 = .ok (.invokevirtual 108, 3) := by decide +kernel
theorem dX5_works_16 : decode cX5_works 16 = .ok (.ifCond .ne 6, 3) := by decide +kernel
theorem dX5_works_19 : decode cX5_works 19 = .ok (.bipush (-2), 2) := by decide +kernel
theorem dX5_works_21 : decode cX5_works 21 = .ok (.ireturn, 1) := by decide +kernel
theorem dX5_works_22 : decode cX5_works 22 = .ok (.aload_n 0, 1) := by decide +kernel
theorem dX5_works_23 : decode cX5_works 23 = .ok (.getfield 19, 3) := by decide +kernel
theorem dX5_works_26 : decode cX5_works 26 = .ok (.iload_n 1, 1) := by decide +kernel
theorem dX5_works_27 : decode cX5_works 27 = .ok (.invokevirtual 60, 3) := by decide +kernel
theorem dX5_works_30 : decode cX5_works 30 = .ok (.checkcast 178, 3) := by decide +kernel
theorem dX5_works_33 : decode cX5_works 33 = .ok (.getfield 197, 3) := by decide +kernel
theorem dX5_works_36 : decode cX5_works 36 = .ok (.istore 4, 2) := by decide +kernel
theorem dX5_works_38 : decode cX5_works 38 = .ok (.aload_n 0, 1) := by decide +kernel
theorem dX5_works_39 : decode cX5_works 39 = .ok (.iload 4, 2) := by decide +kernel
theorem dX5_works_41 : decode cX5_works 41 = .ok (.iload_n 2, 1) := by decide +kernel
theorem dX5_works_42 : decode cX5_works 42 = .ok (.iload_n 3, 1) := by decide +kernel
theorem dX5_works_43 : decode cX5_works 43 = .ok (.invokevirtual 200, 3) := by decide +kernel
theorem dX5_works_46 : decode cX5_works 46 = .ok (.bipush (-9), 2) := by decide +kernel
theorem dX5_works_48 : decode cX5_works 48 = .ok (.if_icmp .eq 5, 3) := by decide +kernel
theorem dX5_works_51 : decode cX5_works 51 = .ok (.iconst 0, 1) := by decide +kernel
theorem dX5_works_52 : decode cX5_works 52 = .ok (.ireturn, 1) := by decide +kernel
theorem dX5_works_53 : decode cX5_works 53 = .ok (.aload_n 0, 1) := by decide +kernel
theorem dX5_works_54 : decode cX5_works 54 = .ok (.getfield 25, 3) := by decide +kernel
theorem dX5_works_57 : decode cX5_works 57 = .ok (.iload 4, 2) := by decide +kernel
theorem dX5_works_59 : decode cX5_works 59 = .ok (.iload_n 3, 1) := by decide +kernel
theorem dX5_works_60 : decode cX5_works 60 = .ok (.invokevirtual 203, 3) := by decide +kernel
theorem dX5_works_63 : decode cX5_works 63 = .ok (.ifCond .eq 7, 3) := by decide +kernel
theorem dX5_works_66 : decode cX5_works 66 = .ok (.iconst 1, 1) := by decide +kernel
theorem dX5_works_67 : decode cX5_works 67 = .ok (.goto 4, 3) := by decide +kernel
theorem dX5_works_70 : decode cX5_works 70 = .ok (.iconst 2, 1) := by decide +kernel
theorem dX5_works_71 : decode cX5_works 71 = .ok (.ireturn, 1) := by decide +kernel
set_option maxRecDepth 20000 in
theorem ggX5_lacks_X5_isAsking : GoodIn wsX5_lacks wsX5_isAsking := goodIn_r _ [7, 1, 8, 9, 10, 11, 12, 13, 41, 42, 43, 44, 45, 46, 47, 48, 54, 55, 56] (by decide +kernel) (by decide +kernel)
set_option maxRecDepth 20000 in
theorem gX5_lacks_X5_isAsking : GoodIn wsX5_lacks (wsV RX5 181 RX5 yX5_isAsking wsX5_isAsking) := goodIn_app (goodIn_of _ (by decide +kernel)) ggX5_lacks_X5_isAsking
set_option maxRecDepth 20000 in
theorem ggX5_lacks_X5_isSpan : GoodIn wsX5_lacks wsX5_isSpan := goodIn_r _ [17, 18, 41, 42, 43, 44, 45, 46, 47, 48] (by decide +kernel) (by decide +kernel)
set_option maxRecDepth 20000 in
theorem gX5_lacks_X5_isSpan : GoodIn wsX5_lacks (wsV RX5 108 RX5 yX5_isSpan wsX5_isSpan) := goodIn_app (goodIn_of _ (by decide +kernel)) ggX5_lacks_X5_isSpan
set_option maxRecDepth 20000 in
theorem ggX5_lacks_Jx4a65c_get_915e3 : GoodIn wsX5_lacks wsJx4a65c_get_915e3 := goodIn_r _ [22, 13, 23, 24, 25, 26, 27, 28, 29, 30, 31, 32, 33, 11, 34, 35, 54, 55, 56] (by decide +kernel) (by decide +kernel)
set_option maxRecDepth 20000 in
theorem gX5_lacks_Jx4a65c_get_915e3 : GoodIn wsX5_lacks (wsV RX5 60 RJx4a65c yJx4a65c_get_915e3 wsJx4a65c_get_915e3) := goodIn_app (goodIn_of _ (by decide +kernel)) ggX5_lacks_Jx4a65c_get_915e3
set_option maxRecDepth 20000 in
theorem ggX5_lacks_X5_firstLack : GoodIn wsX5_lacks wsX5_firstLack := goodIn_r _ [39, 40, 41, 42, 43, 44, 45, 46, 47, 48, 57, 58] (by decide +kernel) (by decide +kernel)
set_option maxRecDepth 20000 in
theorem gX5_lacks_X5_firstLack : GoodIn wsX5_lacks (wsV RX5 200 RX5 yX5_firstLack wsX5_firstLack) := goodIn_app (goodIn_of _ (by decide +kernel)) ggX5_lacks_X5_firstLack
theorem dX5_lacks_0 : decode cX5_lacks 0 = .ok (.aload_n 0, 1) := by decide +kernel
theorem dX5_lacks_1 : decode cX5_lacks 1 = .ok (.iload_n 1, 1) := by decide +kernel
theorem dX5_lacks_2 : decode cX5_lacks 2 = .ok (.invokevirtual 181, 3) := by decide +kernel
theorem dX5_lacks_5 : decode cX5_lacks 5 = .ok (.ifCond .ne 5, 3) := by decide +kernel
theorem dX5_lacks_8 : decode cX5_lacks 8 = .ok (.iconst (-1), 1) := by decide +kernel
theorem dX5_lacks_9 : decode cX5_lacks 9 = .ok (.ireturn, 1) := by decide +kernel
theorem dX5_lacks_10 : decode cX5_lacks 10 = .ok (.aload_n 0, 1) := by decide +kernel
theorem dX5_lacks_11 : decode cX5_lacks 11 = .ok (.iload_n 2, 1) := by decide +kernel
theorem dX5_lacks_12 : decode cX5_lacks 12 = .ok (.iload_n 3, 1) := by decide +kernel
theorem dX5_lacks_13 : decode cX5_lacks 13 = .ok (.invokevirtual 108, 3) := by decide +kernel
theorem dX5_lacks_16 : decode cX5_lacks 16 = .ok (.ifCond .ne 6, 3) := by decide +kernel
theorem dX5_lacks_19 : decode cX5_lacks 19 = .ok (.bipush (-2), 2) := by decide +kernel
theorem dX5_lacks_21 : decode cX5_lacks 21 = .ok (.ireturn, 1) := by decide +kernel
theorem dX5_lacks_22 : decode cX5_lacks 22 = .ok (.aload_n 0, 1) := by decide +kernel
theorem dX5_lacks_23 : decode cX5_lacks 23 = .ok (.aload_n 0, 1) := by decide +kernel
theorem dX5_lacks_24 : decode cX5_lacks 24 = .ok (.getfield 19, 3) := by decide +kernel
theorem dX5_lacks_27 : decode cX5_lacks 27 = .ok (.iload_n 1, 1) := by decide +kernel
theorem dX5_lacks_28 : decode cX5_lacks 28 = .ok (.invokevirtual 60, 3) := by decide +kernel
theorem dX5_lacks_31 : decode cX5_lacks 31 = .ok (.checkcast 178, 3) := by decide +kernel
theorem dX5_lacks_34 : decode cX5_lacks 34 = .ok (.getfield 197, 3) := by decide +kernel
theorem dX5_lacks_37 : decode cX5_lacks 37 = .ok (.iload_n 2, 1) := by decide +kernel
theorem dX5_lacks_38 : decode cX5_lacks 38 = .ok (.iload_n 3, 1) := by decide +kernel
theorem dX5_lacks_39 : decode cX5_lacks 39 = .ok (.invokevirtual 200, 3) := by decide +kernel
theorem dX5_lacks_42 : decode cX5_lacks 42 = .ok (.ireturn, 1) := by decide +kernel
set_option maxRecDepth 20000 in
theorem ggX5_weigh_X5_isAsking : GoodIn wsX5_weigh wsX5_isAsking := goodIn_r _ [7, 1, 8, 9, 10, 11, 12, 13, 45, 46, 47, 48, 49, 50, 51, 52, 53, 54, 55] (by decide +kernel) (by decide +kernel)
set_option maxRecDepth 20000 in
theorem gX5_weigh_X5_isAsking : GoodIn wsX5_weigh (wsV RX5 181 RX5 yX5_isAsking wsX5_isAsking) := goodIn_app (goodIn_of _ (by decide +kernel)) ggX5_weigh_X5_isAsking
set_option maxRecDepth 20000 in
theorem ggX5_weigh_X5_isMark : GoodIn wsX5_weigh wsX5_isMark := goodIn_r _ [16] (by decide +kernel) (by decide +kernel)
set_option maxRecDepth 20000 in
theorem gX5_weigh_X5_isMark : GoodIn wsX5_weigh (va_wsS RX5 126 yX5_isMark wsX5_isMark) := goodIn_app (goodIn_of _ (by decide +kernel)) ggX5_weigh_X5_isMark
set_option maxRecDepth 20000 in
theorem ggX5_weigh_Jx4a65c_get_915e3 : GoodIn wsX5_weigh wsJx4a65c_get_915e3 := goodIn_r _ [20, 13, 21, 22, 23, 24, 25, 26, 27, 28, 29, 30, 31, 11, 32, 33, 53, 54, 55] (by decide +kernel) (by decide +kernel)
set_option maxRecDepth 20000 in
theorem gX5_weigh_Jx4a65c_get_915e3 : GoodIn wsX5_weigh (wsV RX5 60 RJx4a65c yJx4a65c_get_915e3 wsJx4a65c_get_915e3) := goodIn_app (goodIn_of _ (by decide +kernel)) ggX5_weigh_Jx4a65c_get_915e3
set_option maxRecDepth 20000 in
theorem ggX5_weigh_X0_changeWorth : GoodIn wsX5_weigh wsX0_changeWorth := goodIn_r _ [38, 39, 56, 57, 58, 59, 60] (by decide +kernel) (by decide +kernel)
set_option maxRecDepth 20000 in
theorem gX5_weigh_X0_changeWorth : GoodIn wsX5_weigh (wsV RX5 206 RX0 yX0_changeWorth wsX0_changeWorth) := goodIn_app (goodIn_of _ (by decide +kernel)) ggX5_weigh_X0_changeWorth
set_option maxRecDepth 20000 in
theorem ggX5_weigh_X5_changeWeight : GoodIn wsX5_weigh wsX5_changeWeight := goodIn_r _ [43, 44, 45, 46, 47, 48, 49, 50, 51, 52] (by decide +kernel) (by decide +kernel)
set_option maxRecDepth 20000 in
theorem gX5_weigh_X5_changeWeight : GoodIn wsX5_weigh (wsV RX5 209 RX5 yX5_changeWeight wsX5_changeWeight) := goodIn_app (goodIn_of _ (by decide +kernel)) ggX5_weigh_X5_changeWeight
theorem dX5_weigh_0 : decode cX5_weigh 0 = .ok (.iload_n 1, 1) := by decide +kernel
theorem dX5_weigh_1 : decode cX5_weigh 1 = .ok (.ifCond .eq 11, 3) := by decide +kernel
theorem dX5_weigh_4 : decode cX5_weigh 4 = .ok (.aload_n 0, 1) := by decide +kernel
theorem dX5_weigh_5 : decode cX5_weigh 5 = .ok (.iload_n 2, 1) := by decide +kernel
theorem dX5_weigh_6 : decode cX5_weigh 6 = .ok (.invokevirtual 181, 3) := by decide +kernel
theorem dX5_weigh_9 : decode cX5_weigh 9 = .ok (.goto 7, 3) := by decide +kernel
theorem dX5_weigh_12 : decode cX5_weigh 12 = .ok (.iload_n 2, 1) := by decide +kernel
theorem dX5_weigh_13 : decode cX5_weigh 13 = .ok (.invokestatic 126, 3) := by decide +kernel
theorem dX5_weigh_16 : decode cX5_weigh 16 = .ok (.istore 4, 2) := by decide +kernel
theorem dX5_weigh_18 : decode cX5_weigh 18 = .ok (.iload 4, 2) := by decide +kernel
theorem dX5_weigh_20 : decode cX5_weigh 20 = .ok (.ifCond .ne 5, 3) := by decide +kernel
theorem dX5_weigh_23 : decode cX5_weigh 23 = .ok (.iconst (-1), 1) := by decide +kernel
theorem dX5_weigh_24 : decode cX5_weigh 24 = .ok (.ireturn, 1) := by decide +kernel
theorem dX5_weigh_25 : decode cX5_weigh 25 = .ok (.iload_n 3, 1) := by decide +kernel
theorem dX5_weigh_26 : decode cX5_weigh 26 = .ok (.ifCond .lt 10, 3) := by decide +kernel
theorem dX5_weigh_29 : decode cX5_weigh 29 = .ok (.iload_n 3, 1) := by decide +kernel
theorem dX5_weigh_30 : decode cX5_weigh 30 = .ok (.sipush 1000, 3) := by decide +kernel
theorem dX5_weigh_33 : decode cX5_weigh 33 = .ok (.if_icmp .le 6, 3) := by decide +kernel
theorem dX5_weigh_36 : decode cX5_weigh 36 = .ok (.bipush (-2), 2) := by decide +kernel
theorem dX5_weigh_38 : decode cX5_weigh 38 = .ok (.ireturn, 1) := by decide +kernel
theorem dX5_weigh_39 : decode cX5_weigh 39 = .ok (.iload_n 1, 1) := by decide +kernel
theorem dX5_weigh_40 : decode cX5_weigh 40 = .ok (.ifCond .eq 21, 3) := by decide +kernel
theorem dX5_weigh_43 : decode cX5_weigh 43 = .ok (.aload_n 0, 1) := by decide +kernel
theorem dX5_weigh_44 : decode cX5_weigh 44 = .ok (.getfield 19, 3) := by decide +kernel
theorem dX5_weigh_47 : decode cX5_weigh 47 = .ok (.iload_n 2, 1) := by decide +kernel
theorem dX5_weigh_48 : decode cX5_weigh 48 = .ok (.invokevirtual 60, 3) := by decide +kernel
theorem dX5_weigh_51 : decode cX5_weigh 51 = .ok (.checkcast 178, 3) := by decide +kernel
theorem dX5_weigh_54 : decode cX5_weigh 54 = .ok (.iload_n 3, 1) := by decide +kernel
theorem dX5_weigh_55 : decode cX5_weigh 55 = .ok (.invokevirtual 206, 3) := by decide +kernel
theorem dX5_weigh_58 : decode cX5_weigh 58 = .ok (.goto 9, 3) := by decide +kernel
theorem dX5_weigh_61 : decode cX5_weigh 61 = .ok (.aload_n 0, 1) := by decide +kernel
theorem dX5_weigh_62 : decode cX5_weigh 62 = .ok (.iload_n 2, 1) := by decide +kernel
theorem dX5_weigh_63 : decode cX5_weigh 63 = .ok (.iload_n 3, 1) := by decide +kernel
theorem dX5_weigh_64 : decode cX5_weigh 64 = .ok (.invokevirtual 209, 3) := by decide +kernel
theorem dX5_weigh_67 : decode cX5_weigh 67 = .ok (.ireturn, 1) := by decide +kernel
set_option maxRecDepth 20000 in
theorem ggX5_loss_X5_isSetOfMarks : GoodIn wsX5_loss wsX5_isSetOfMarks := goodIn_r _ [4] (by decide +kernel) (by decide +kernel)
set_option maxRecDepth 20000 in
theorem gX5_loss_X5_isSetOfMarks : GoodIn wsX5_loss (va_wsS RX5 132 yX5_isSetOfMarks wsX5_isSetOfMarks) := goodIn_app (goodIn_of _ (by decide +kernel)) ggX5_loss_X5_isSetOfMarks
set_option maxRecDepth 20000 in
theorem ggX5_loss_X5_lossOf : GoodIn wsX5_loss wsX5_lossOf := goodIn_r _ [8, 9, 10, 11, 12, 13, 3, 14, 15, 16, 17, 18, 19, 20, 21, 22, 23, 24, 25, 26, 27, 28, 29, 30, 31, 32, 33, 34, 35, 36, 37, 38, 39, 40, 41, 42, 43, 44, 45, 46, 47, 48, 49, 50, 51, 52, 53] (by decide +kernel) (by decide +kernel)
set_option maxRecDepth 20000 in
theorem gX5_loss_X5_lossOf : GoodIn wsX5_loss (wsV RX5 212 RX5 yX5_lossOf wsX5_lossOf) := goodIn_app (goodIn_of _ (by decide +kernel)) ggX5_loss_X5_lossOf
theorem dX5_loss_0 : decode cX5_loss 0 = .ok (.iload_n 1, 1) := by decide +kernel
theorem dX5_loss_1 : decode cX5_loss 1 = .ok (.invokestatic 132, 3) := by decide +kernel
theorem dX5_loss_4 : decode cX5_loss 4 = .ok (.ifCond .ne 6, 3) := by decide +kernel
theorem dX5_loss_7 : decode cX5_loss 7 = .ok (.bipush (-2), 2) := by decide +kernel
theorem dX5_loss_9 : decode cX5_loss 9 = .ok (.ireturn, 1) := by decide +kernel
theorem dX5_loss_10 : decode cX5_loss 10 = .ok (.aload_n 0, 1) := by decide +kernel
theorem dX5_loss_11 : decode cX5_loss 11 = .ok (.iload_n 1, 1) := by decide +kernel
theorem dX5_loss_12 : decode cX5_loss 12 = .ok (.invokevirtual 212, 3) := by decide +kernel
theorem dX5_loss_15 : decode cX5_loss 15 = .ok (.ireturn, 1) := by decide +kernel
set_option maxRecDepth 20000 in
theorem ggX5_plan_X5_isSpan : GoodIn wsX5_plan wsX5_isSpan := goodIn_r _ [5, 6, 92, 93, 94, 95, 96, 97, 98, 99] (by decide +kernel) (by decide +kernel)
set_option maxRecDepth 20000 in
theorem gX5_plan_X5_isSpan : GoodIn wsX5_plan (wsV RX5 108 RX5 yX5_isSpan wsX5_isSpan) := goodIn_app (goodIn_of _ (by decide +kernel)) ggX5_plan_X5_isSpan
set_option maxRecDepth 20000 in
theorem ggX5_plan_X5_gatherSeen : GoodIn wsX5_plan wsX5_gatherSeen := goodIn_r _ [10, 11, 12, 13, 14, 15, 16, 17, 18, 19, 20, 21, 22, 23, 24, 25, 26, 27, 28, 29, 30, 31, 32, 33, 34, 35, 36, 37, 38, 39, 40, 41, 42, 43, 44, 45, 46, 47, 48, 49, 50, 51, 52, 53, 54, 55, 56, 57, 58, 59, 60, 61, 62, 63, 64, 65, 66, 67, 68, 69, 70, 92, 93, 94, 95, 96, 97, 98, 99, 100, 101, 102, 103, 104, 105, 106, 107] (by decide +kernel) (by decide +kernel)
set_option maxRecDepth 20000 in
theorem gX5_plan_X5_gatherSeen : GoodIn wsX5_plan (wsV RX5 121 RX5 yX5_gatherSeen wsX5_gatherSeen) := goodIn_app (goodIn_of _ (by decide +kernel)) ggX5_plan_X5_gatherSeen
set_option maxRecDepth 20000 in
theorem ggX5_plan_X5_namesLeftWithout : GoodIn wsX5_plan wsX5_namesLeftWithout := goodIn_r _ [74, 75, 11, 76, 77, 4, 78, 79, 80, 81, 82, 83, 84, 14, 15, 16, 17, 18, 19, 49, 50, 51, 52, 53, 54, 55, 56, 57, 58, 59, 60, 61, 62, 63, 64, 65, 66, 67, 68, 69, 70, 92, 93, 94, 95, 96, 97, 98, 99, 103, 104] (by decide +kernel) (by decide +kernel)
set_option maxRecDepth 20000 in
theorem gX5_plan_X5_namesLeftWithout : GoodIn wsX5_plan (wsV RX5 129 RX5 yX5_namesLeftWithout wsX5_namesLeftWithout) := goodIn_app (goodIn_of _ (by decide +kernel)) ggX5_plan_X5_namesLeftWithout
set_option maxRecDepth 20000 in
theorem ggX5_plan_X5_lossOf : GoodIn wsX5_plan wsX5_lossOf := goodIn_r _ [88, 89, 90, 91, 79, 80, 4, 81, 20, 21, 22, 23, 24, 25, 26, 27, 28, 29, 30, 31, 32, 33, 34, 35, 36, 37, 38, 39, 40, 41, 42, 92, 93, 94, 95, 96, 97, 98, 99, 108, 109, 110, 111, 112, 105, 106, 107] (by decide +kernel) (by decide +kernel)
set_option maxRecDepth 20000 in
theorem gX5_plan_X5_lossOf : GoodIn wsX5_plan (wsV RX5 212 RX5 yX5_lossOf wsX5_lossOf) := goodIn_app (goodIn_of _ (by decide +kernel)) ggX5_plan_X5_lossOf
theorem dX5_plan_0 : decode cX5_plan 0 = .ok (.iload_n 1, 1) := by decide +kernel
theorem dX5_plan_1 : decode cX5_plan 1 = .ok (.ifCond .lt 18, 3) := by decide +kernel
theorem dX5_plan_4 : decode cX5_plan 4 = .ok (.iload_n 1, 1) := by decide +kernel
theorem dX5_plan_5 : decode cX5_plan 5 = .ok (.bipush 120, 2) := by decide +kernel
theorem dX5_plan_7 : decode cX5_plan 7 = .ok (.if_icmp .gt 12, 3) := by decide +kernel
theorem dX5_plan_10 : decode cX5_plan 10 = .ok (.aload_n 0, 1) := by decide +kernel
theorem dX5_plan_11 : decode cX5_plan 11 = .ok (.iload_n 2, 1) := by decide +kernel
theorem dX5_plan_12 : decode cX5_plan 12 = .ok (.iload_n 3, 1) := by decide +kernel
theorem dX5_plan_13 : decode cX5_plan 13 = .ok (.invokevirtual 108, 3) := by decide +kernel
theorem dX5_plan_16 : decode cX5_plan 16 = .ok (.ifCond .ne 6, 3) := by decide +kernel
theorem dX5_plan_19 : decode cX5_plan 19 = .ok (.bipush (-2), 2) := by decide +kernel
theorem dX5_plan_21 : decode cX5_plan 21 = .ok (.ireturn, 1) := by decide +kernel
theorem dX5_plan_22 : decode cX5_plan 22 = .ok (.aload_n 0, 1) := by decide +kernel
theorem dX5_plan_23 : decode cX5_plan 23 = .ok (.iload_n 2, 1) := by decide +kernel
theorem dX5_plan_24 : decode cX5_plan 24 = .ok (.iload_n 3, 1) := by decide +kernel
theorem dX5_plan_25 : decode cX5_plan 25 = .ok (.invokevirtual 121, 3) := by decide +kernel
theorem dX5_plan_28 : decode cX5_plan 28 = .ok (.bipush (-9), 2) := by decide +kernel
theorem dX5_plan_30 : decode cX5_plan 30 = .ok (.istore 4, 2) := by decide +kernel
theorem dX5_plan_32 : decode cX5_plan 32 = .ok (.iconst 0, 1) := by decide +kernel
theorem dX5_plan_33 : decode cX5_plan 33 = .ok (.istore 5, 2) := by decide +kernel
theorem dX5_plan_35 : decode cX5_plan 35 = .ok (.iconst 0, 1) := by decide +kernel
theorem dX5_plan_36 : decode cX5_plan 36 = .ok (.istore 6, 2) := by decide +kernel
theorem dX5_plan_38 : decode cX5_plan 38 = .ok (.iconst 0, 1) := by decide +kernel
theorem dX5_plan_39 : decode cX5_plan 39 = .ok (.istore 7, 2) := by decide +kernel
theorem dX5_plan_41 : decode cX5_plan 41 = .ok (.iload 7, 2) := by decide +kernel
theorem dX5_plan_43 : decode cX5_plan 43 = .ok (.bipush 63, 2) := by decide +kernel
theorem dX5_plan_45 : decode cX5_plan 45 = .ok (.if_icmp .gt 83, 3) := by decide +kernel
theorem dX5_plan_48 : decode cX5_plan 48 = .ok (.aload_n 0, 1) := by decide +kernel
theorem dX5_plan_49 : decode cX5_plan 49 = .ok (.iload 7, 2) := by decide +kernel
theorem dX5_plan_51 : decode cX5_plan 51 = .ok (.invokevirtual 129, 3) := by decide +kernel
theorem dX5_plan_54 : decode cX5_plan 54 = .ok (.istore 8, 2) := by decide +kernel
theorem dX5_plan_56 : decode cX5_plan 56 = .ok (.aload_n 0, 1) := by decide +kernel
theorem dX5_plan_57 : decode cX5_plan 57 = .ok (.iload 7, 2) := by decide +kernel
theorem dX5_plan_59 : decode cX5_plan 59 = .ok (.invokevirtual 212, 3) := by decide +kernel
theorem dX5_plan_62 : decode cX5_plan 62 = .ok (.istore 9, 2) := by decide +kernel
theorem dX5_plan_64 : decode cX5_plan 64 = .ok (.iload 4, 2) := by decide +kernel
theorem dX5_plan_66 : decode cX5_plan 66 = .ok (.bipush (-9), 2) := by decide +kernel
theorem dX5_plan_68 : decode cX5_plan 68 = .ok (.if_icmp .eq 24, 3) := by decide +kernel
theorem dX5_plan_71 : decode cX5_plan 71 = .ok (.iload 9, 2) := by decide +kernel
theorem dX5_plan_73 : decode cX5_plan 73 = .ok (.iload 5, 2) := by decide +kernel
theorem dX5_plan_75 : decode cX5_plan 75 = .ok (.if_icmp .lt 17, 3) := by decide +kernel
theorem dX5_plan_78 : decode cX5_plan 78 = .ok (.iload 9, 2) := by decide +kernel
theorem dX5_plan_80 : decode cX5_plan 80 = .ok (.iload 5, 2) := by decide +kernel
theorem dX5_plan_82 : decode cX5_plan 82 = .ok (.if_icmp .ne 14, 3) := by decide +kernel
theorem dX5_plan_85 : decode cX5_plan 85 = .ok (.iload 8, 2) := by decide +kernel
theorem dX5_plan_87 : decode cX5_plan 87 = .ok (.iload 6, 2) := by decide +kernel
theorem dX5_plan_89 : decode cX5_plan 89 = .ok (.if_icmp .le 7, 3) := by decide +kernel
theorem dX5_plan_92 : decode cX5_plan 92 = .ok (.iconst 1, 1) := by decide +kernel
theorem dX5_plan_93 : decode cX5_plan 93 = .ok (.goto 4, 3) := by decide +kernel
theorem dX5_plan_96 : decode cX5_plan 96 = .ok (.iconst 0, 1) := by decide +kernel
theorem dX5_plan_97 : decode cX5_plan 97 = .ok (.istore 10, 2) := by decide +kernel
theorem dX5_plan_99 : decode cX5_plan 99 = .ok (.iload 8, 2) := by decide +kernel
theorem dX5_plan_101 : decode cX5_plan 101 = .ok (.iload_n 1, 1) := by decide +kernel
theorem dX5_plan_102 : decode cX5_plan 102 = .ok (.if_icmp .gt 20, 3) := by decide +kernel
theorem dX5_plan_105 : decode cX5_plan 105 = .ok (.iload 10, 2) := by decide +kernel
theorem dX5_plan_107 : decode cX5_plan 107 = .ok (.ifCond .eq 15, 3) := by decide +kernel
theorem dX5_plan_110 : decode cX5_plan 110 = .ok (.iload 7, 2) := by decide +kernel
theorem dX5_plan_112 : decode cX5_plan 112 = .ok (.istore 4, 2) := by decide +kernel
theorem dX5_plan_114 : decode cX5_plan 114 = .ok (.iload 9, 2) := by decide +kernel
theorem dX5_plan_116 : decode cX5_plan 116 = .ok (.istore 5, 2) := by decide +kernel
theorem dX5_plan_118 : decode cX5_plan 118 = .ok (.iload 8, 2) := by decide +kernel
theorem dX5_plan_120 : decode cX5_plan 120 = .ok (.istore 6, 2) := by decide +kernel
theorem dX5_plan_122 : decode cX5_plan 122 = .ok (.iinc 7 1, 3) := by decide +kernel
theorem dX5_plan_125 : decode cX5_plan 125 = .ok (.goto (-84), 3) := by decide +kernel
theorem dX5_plan_128 : decode cX5_plan 128 = .ok (.iload 4, 2) := by decide +kernel
theorem dX5_plan_130 : decode cX5_plan 130 = .ok (.ireturn, 1) := by decide +kernel
set_option maxRecDepth 20000 in
theorem ggX5_bill_X5_isMark : GoodIn wsX5_bill wsX5_isMark := goodIn_r _ [5] (by decide +kernel) (by decide +kernel)
set_option maxRecDepth 20000 in
theorem gX5_bill_X5_isMark : GoodIn wsX5_bill (va_wsS RX5 126 yX5_isMark wsX5_isMark) := goodIn_app (goodIn_of _ (by decide +kernel)) ggX5_bill_X5_isMark
set_option maxRecDepth 20000 in
theorem ggX5_bill_X5_isValue : GoodIn wsX5_bill wsX5_isValue := goodIn_r _ [8] (by decide +kernel) (by decide +kernel)
set_option maxRecDepth 20000 in
theorem gX5_bill_X5_isValue : GoodIn wsX5_bill (va_wsS RX5 161 yX5_isValue wsX5_isValue) := goodIn_app (goodIn_of _ (by decide +kernel)) ggX5_bill_X5_isValue
set_option maxRecDepth 20000 in
theorem ggX5_bill_X5_isSpan : GoodIn wsX5_bill wsX5_isSpan := goodIn_r _ [12, 13, 80, 81, 82, 83, 84, 85, 86, 87] (by decide +kernel) (by decide +kernel)
set_option maxRecDepth 20000 in
theorem gX5_bill_X5_isSpan : GoodIn wsX5_bill (wsV RX5 108 RX5 yX5_isSpan wsX5_isSpan) := goodIn_app (goodIn_of _ (by decide +kernel)) ggX5_bill_X5_isSpan
set_option maxRecDepth 20000 in
theorem ggX5_bill_X5_gatherSeen : GoodIn wsX5_bill wsX5_gatherSeen := goodIn_r _ [17, 1, 18, 19, 20, 21, 22, 23, 24, 25, 26, 27, 28, 29, 30, 31, 32, 33, 34, 35, 36, 37, 38, 39, 40, 41, 42, 43, 44, 45, 46, 47, 48, 49, 50, 51, 52, 53, 54, 55, 56, 57, 58, 59, 60, 61, 62, 63, 64, 65, 66, 67, 68, 69, 70, 71, 72, 73, 74, 75, 76, 80, 81, 82, 83, 84, 85, 86, 87, 90, 91, 92, 88, 89, 93, 94, 95] (by decide +kernel) (by decide +kernel)
set_option maxRecDepth 20000 in
theorem gX5_bill_X5_gatherSeen : GoodIn wsX5_bill (wsV RX5 121 RX5 yX5_gatherSeen wsX5_gatherSeen) := goodIn_app (goodIn_of _ (by decide +kernel)) ggX5_bill_X5_gatherSeen
set_option maxRecDepth 20000 in
theorem ggX5_bill_X5_digit : GoodIn wsX5_bill wsX5_digit := goodIn_r _ [79] (by decide +kernel) (by decide +kernel)
set_option maxRecDepth 20000 in
theorem gX5_bill_X5_digit : GoodIn wsX5_bill (va_wsS RX5 215 yX5_digit wsX5_digit) := goodIn_app (goodIn_of _ (by decide +kernel)) ggX5_bill_X5_digit
theorem dX5_bill_0 : decode cX5_bill 0 = .ok (.iload_n 1, 1) := by decide +kernel
theorem dX5_bill_1 : decode cX5_bill 1 = .ok (.invokestatic 126, 3) := by decide +kernel
theorem dX5_bill_4 : decode cX5_bill 4 = .ok (.ifCond .eq 10, 3) := by decide +kernel
theorem dX5_bill_7 : decode cX5_bill 7 = .ok (.iload_n 2, 1) := by decide +kernel
theorem dX5_bill_8 : decode cX5_bill 8 = .ok (.invokestatic 161, 3) := by decide +kernel
theorem dX5_bill_11 : decode cX5_bill 11 = .ok (.ifCond .ne 5, 3) := by decide +kernel
theorem dX5_bill_14 : decode cX5_bill 14 = .ok (.iconst (-1), 1) := by decide +kernel
theorem dX5_bill_15 : decode cX5_bill 15 = .ok (.ireturn, 1) := by decide +kernel
theorem dX5_bill_16 : decode cX5_bill 16 = .ok (.aload_n 0, 1) := by decide +kernel
theorem dX5_bill_17 : decode cX5_bill 17 = .ok (.iload_n 3, 1) := by decide +kernel
theorem dX5_bill_18 : decode cX5_bill 18 = .ok (.iload 4, 2) := by decide +kernel
theorem dX5_bill_20 : decode cX5_bill 20 = .ok (.invokevirtual 108, 3) := by decide +kernel
theorem dX5_bill_23 : decode cX5_bill 23 = .ok (.ifCond .ne 6, 3) := by decide +kernel
theorem dX5_bill_26 : decode cX5_bill 26 = .ok (.bipush (-2), 2) := by decide +kernel
theorem dX5_bill_28 : decode cX5_bill 28 = .ok (.ireturn, 1) := by decide +kernel
theorem dX5_bill_29 : decode cX5_bill 29 = .ok (.aload_n 0, 1) := by decide +kernel
theorem dX5_bill_30 : decode cX5_bill 30 = .ok (.iload_n 3, 1) := by decide +kernel
theorem dX5_bill_31 : decode cX5_bill 31 = .ok (.iload 4, 2) := by decide +kernel
theorem dX5_bill_33 : decode cX5_bill 33 = .ok (.invokevirtual 121, 3) := by decide +kernel
theorem dX5_bill_36 : decode cX5_bill 36 = .ok (.iconst 0, 1) := by decide +kernel
theorem dX5_bill_37 : decode cX5_bill 37 = .ok (.istore 5, 2) := by decide +kernel
theorem dX5_bill_39 : decode cX5_bill 39 = .ok (.iconst 0, 1) := by decide +kernel
theorem dX5_bill_40 : decode cX5_bill 40 = .ok (.istore 6, 2) := by decide +kernel
theorem dX5_bill_42 : decode cX5_bill 42 = .ok (.iload 6, 2) := by decide +kernel
theorem dX5_bill_44 : decode cX5_bill 44 = .ok (.aload_n 0, 1) := by decide +kernel
theorem dX5_bill_45 : decode cX5_bill 45 = .ok (.getfield 36, 3) := by decide +kernel
theorem dX5_bill_48 : decode cX5_bill 48 = .ok (.getfield 124, 3) := by decide +kernel
theorem dX5_bill_51 : decode cX5_bill 51 = .ok (.if_icmp .ge 30, 3) := by decide +kernel
theorem dX5_bill_54 : decode cX5_bill 54 = .ok (.aload_n 0, 1) := by decide +kernel
theorem dX5_bill_55 : decode cX5_bill 55 = .ok (.getfield 36, 3) := by decide +kernel
theorem dX5_bill_58 : decode cX5_bill 58 = .ok (.getfield 194, 3) := by decide +kernel
theorem dX5_bill_61 : decode cX5_bill 61 = .ok (.iload 6, 2) := by decide +kernel
theorem dX5_bill_63 : decode cX5_bill 63 = .ok (.iaload, 1) := by decide +kernel
theorem dX5_bill_64 : decode cX5_bill 64 = .ok (.iload_n 1, 1) := by decide +kernel
theorem dX5_bill_65 : decode cX5_bill 65 = .ok (.invokestatic 215, 3) := by decide +kernel
theorem dX5_bill_68 : decode cX5_bill 68 = .ok (.iload_n 2, 1) := by decide +kernel
theorem dX5_bill_69 : decode cX5_bill 69 = .ok (.if_icmp .ne 6, 3) := by decide +kernel
theorem dX5_bill_72 : decode cX5_bill 72 = .ok (.iinc 5 1, 3) := by decide +kernel
theorem dX5_bill_75 : decode cX5_bill 75 = .ok (.iinc 6 1, 3) := by decide +kernel
theorem dX5_bill_78 : decode cX5_bill 78 = .ok (.goto (-36), 3) := by decide +kernel
theorem dX5_bill_81 : decode cX5_bill 81 = .ok (.iload 5, 2) := by decide +kernel
theorem dX5_bill_83 : decode cX5_bill 83 = .ok (.ireturn, 1) := by decide +kernel
set_option maxRecDepth 20000 in
theorem ggX5_count_Jx4a65c_size_8abf5 : GoodIn wsX5_count wsJx4a65c_size_8abf5 := goodIn_r _ [10, 11, 29, 30, 31] (by decide +kernel) (by decide +kernel)
set_option maxRecDepth 20000 in
theorem gX5_count_Jx4a65c_size_8abf5 : GoodIn wsX5_count (wsV RX5 69 RJx4a65c yJx4a65c_size_8abf5 wsJx4a65c_size_8abf5) := goodIn_app (goodIn_of _ (by decide +kernel)) ggX5_count_Jx4a65c_size_8abf5
set_option maxRecDepth 20000 in
theorem ggX5_count_J6_bitCount_0f7a4 : GoodIn wsX5_count wsJ6_bitCount_0f7a4 := goodIn_r _ [15, 16, 17, 18] (by decide +kernel) (by decide +kernel)
set_option maxRecDepth 20000 in
theorem gX5_count_J6_bitCount_0f7a4 : GoodIn wsX5_count (va_wsS RX5 221 yJ6_bitCount_0f7a4 wsJ6_bitCount_0f7a4) := goodIn_app (goodIn_of _ (by decide +kernel)) ggX5_count_J6_bitCount_0f7a4
theorem dX5_count_0 : decode cX5_count 0 = .ok (.iload_n 1, 1) := by decide +kernel
theorem dX5_count_1 : decode cX5_count 1 = .ok (.tableswitch 80 0 4 #[35, 40, 48, 56, 64], 35) := by decide +kernel
theorem dX5_count_36 : decode cX5_count 36 = .ok (.aload_n 0, 1) := by decide +kernel
theorem dX5_count_37 : decode cX5_count 37 = .ok (.getfield 43, 3) := by decide +kernel
theorem dX5_count_40 : decode cX5_count 40 = .ok (.ireturn, 1) := by decide +kernel
theorem dX5_count_41 : decode cX5_count 41 = .ok (.aload_n 0, 1) := by decide +kernel
theorem dX5_count_42 : decode cX5_count 42 = .ok (.getfield 10, 3) := by decide +kernel
theorem dX5_count_45 : decode cX5_count 45 = .ok (.invokevirtual 69, 3) := by decide +kernel
theorem dX5_count_48 : decode cX5_count 48 = .ok (.ireturn, 1) := by decide +kernel
theorem dX5_count_49 : decode cX5_count 49 = .ok (.aload_n 0, 1) := by decide +kernel
theorem dX5_count_50 : decode cX5_count 50 = .ok (.getfield 16, 3) := by decide +kernel
theorem dX5_count_53 : decode cX5_count 53 = .ok (.invokevirtual 69, 3) := by decide +kernel
theorem dX5_count_56 : decode cX5_count 56 = .ok (.ireturn, 1) := by decide +kernel
theorem dX5_count_57 : decode cX5_count 57 = .ok (.aload_n 0, 1) := by decide +kernel
theorem dX5_count_58 : decode cX5_count 58 = .ok (.getfield 19, 3) := by decide +kernel
theorem dX5_count_61 : decode cX5_count 61 = .ok (.invokevirtual 69, 3) := by decide +kernel
theorem dX5_count_64 : decode cX5_count 64 = .ok (.ireturn, 1) := by decide +kernel
theorem dX5_count_65 : decode cX5_count 65 = .ok (.aload_n 0, 1) := by decide +kernel
theorem dX5_count_66 : decode cX5_count 66 = .ok (.getfield 25, 3) := by decide +kernel
theorem dX5_count_69 : decode cX5_count 69 = .ok (.getfield 218, 3) := by decide +kernel
theorem dX5_count_72 : decode cX5_count 72 = .ok (.aload_n 0, 1) := by decide +kernel
theorem dX5_count_73 : decode cX5_count 73 = .ok (.getfield 43, 3) := by decide +kernel
theorem dX5_count_76 : decode cX5_count 76 = .ok (.iaload, 1) := by decide +kernel
theorem dX5_count_77 : decode cX5_count 77 = .ok (.invokestatic 221, 3) := by decide +kernel
theorem dX5_count_80 : decode cX5_count 80 = .ok (.ireturn, 1) := by decide +kernel
theorem dX5_count_81 : decode cX5_count 81 = .ok (.bipush (-2), 2) := by decide +kernel
theorem dX5_count_83 : decode cX5_count 83 = .ok (.ireturn, 1) := by decide +kernel
theorem dX5_isMark_0 : decode cX5_isMark 0 = .ok (.iload_n 0, 1) := by decide +kernel
theorem dX5_isMark_1 : decode cX5_isMark 1 = .ok (.ifCond .lt 13, 3) := by decide +kernel
theorem dX5_isMark_4 : decode cX5_isMark 4 = .ok (.iload_n 0, 1) := by decide +kernel
theorem dX5_isMark_5 : decode cX5_isMark 5 = .ok (.bipush 6, 2) := by decide +kernel
theorem dX5_isMark_7 : decode cX5_isMark 7 = .ok (.if_icmp .ge 7, 3) := by decide +kernel
theorem dX5_isMark_10 : decode cX5_isMark 10 = .ok (.iconst 1, 1) := by decide +kernel
theorem dX5_isMark_11 : decode cX5_isMark 11 = .ok (.goto 4, 3) := by decide +kernel
theorem dX5_isMark_14 : decode cX5_isMark 14 = .ok (.iconst 0, 1) := by decide +kernel
theorem dX5_isMark_15 : decode cX5_isMark 15 = .ok (.ireturn, 1) := by decide +kernel
theorem dX5_isValue_0 : decode cX5_isValue 0 = .ok (.iload_n 0, 1) := by decide +kernel
theorem dX5_isValue_1 : decode cX5_isValue 1 = .ok (.ifCond .lt 13, 3) := by decide +kernel
theorem dX5_isValue_4 : decode cX5_isValue 4 = .ok (.iload_n 0, 1) := by decide +kernel
theorem dX5_isValue_5 : decode cX5_isValue 5 = .ok (.bipush 8, 2) := by decide +kernel
theorem dX5_isValue_7 : decode cX5_isValue 7 = .ok (.if_icmp .ge 7, 3) := by decide +kernel
theorem dX5_isValue_10 : decode cX5_isValue 10 = .ok (.iconst 1, 1) := by decide +kernel
theorem dX5_isValue_11 : decode cX5_isValue 11 = .ok (.goto 4, 3) := by decide +kernel
theorem dX5_isValue_14 : decode cX5_isValue 14 = .ok (.iconst 0, 1) := by decide +kernel
theorem dX5_isValue_15 : decode cX5_isValue 15 = .ok (.ireturn, 1) := by decide +kernel
theorem dX5_isName_0 : decode cX5_isName 0 = .ok (.iload_n 0, 1) := by decide +kernel
theorem dX5_isName_1 : decode cX5_isName 1 = .ok (.ifCond .lt 13, 3) := by decide +kernel
theorem dX5_isName_4 : decode cX5_isName 4 = .ok (.iload_n 0, 1) := by decide +kernel
theorem dX5_isName_5 : decode cX5_isName 5 = .ok (.ldc 226, 2) := by decide +kernel
theorem dX5_isName_7 : decode cX5_isName 7 = .ok (.if_icmp .gt 7, 3) := by decide +kernel
theorem dX5_isName_10 : decode cX5_isName 10 = .ok (.iconst 1, 1) := by decide +kernel
theorem dX5_isName_11 : decode cX5_isName 11 = .ok (.goto 4, 3) := by decide +kernel
theorem dX5_isName_14 : decode cX5_isName 14 = .ok (.iconst 0, 1) := by decide +kernel
theorem dX5_isName_15 : decode cX5_isName 15 = .ok (.ireturn, 1) := by decide +kernel
theorem dX5_isSetOfMarks_0 : decode cX5_isSetOfMarks 0 = .ok (.iload_n 0, 1) := by decide +kernel
theorem dX5_isSetOfMarks_1 : decode cX5_isSetOfMarks 1 = .ok (.ifCond .lt 13, 3) := by decide +kernel
theorem dX5_isSetOfMarks_4 : decode cX5_isSetOfMarks 4 = .ok (.iload_n 0, 1) := by decide +kernel
theorem dX5_isSetOfMarks_5 : decode cX5_isSetOfMarks 5 = .ok (.bipush 63, 2) := by decide +kernel
theorem dX5_isSetOfMarks_7 : decode cX5_isSetOfMarks 7 = .ok (.if_icmp .gt 7, 3) := by decide +kernel
theorem dX5_isSetOfMarks_10 : decode cX5_isSetOfMarks 10 = .ok (.iconst 1, 1) := by decide +kernel
theorem dX5_isSetOfMarks_11 : decode cX5_isSetOfMarks 11 = .ok (.goto 4, 3) := by decide +kernel
theorem dX5_isSetOfMarks_14 : decode cX5_isSetOfMarks 14 = .ok (.iconst 0, 1) := by decide +kernel
theorem dX5_isSetOfMarks_15 : decode cX5_isSetOfMarks 15 = .ok (.ireturn, 1) := by decide +kernel
set_option maxRecDepth 20000 in
theorem ggX5_isSeries_Jx4a65c_size_8abf5 : GoodIn wsX5_isSeries wsJx4a65c_size_8abf5 := goodIn_r _ [6, 7, 16, 17, 18] (by decide +kernel) (by decide +kernel)
set_option maxRecDepth 20000 in
theorem gX5_isSeries_Jx4a65c_size_8abf5 : GoodIn wsX5_isSeries (wsV RX5 69 RJx4a65c yJx4a65c_size_8abf5 wsJx4a65c_size_8abf5) := goodIn_app (goodIn_of _ (by decide +kernel)) ggX5_isSeries_Jx4a65c_size_8abf5
theorem dX5_isSeries_0 : decode cX5_isSeries 0 = .ok (.iload_n 1, 1) := by decide +kernel
theorem dX5_isSeries_1 : decode cX5_isSeries 1 = .ok (.ifCond .lt 18, 3) := by decide +kernel
theorem dX5_isSeries_4 : decode cX5_isSeries 4 = .ok (.iload_n 1, 1) := by decide +kernel
theorem dX5_isSeries_5 : decode cX5_isSeries 5 = .ok (.aload_n 0, 1) := by decide +kernel
theorem dX5_isSeries_6 : decode cX5_isSeries 6 = .ok (.getfield 10, 3) := by decide +kernel
theorem dX5_isSeries_9 : decode cX5_isSeries 9 = .ok (.invokevirtual 69, 3) := by decide +kernel
theorem dX5_isSeries_12 : decode cX5_isSeries 12 = .ok (.if_icmp .ge 7, 3) := by decide +kernel
theorem dX5_isSeries_15 : decode cX5_isSeries 15 = .ok (.iconst 1, 1) := by decide +kernel
theorem dX5_isSeries_16 : decode cX5_isSeries 16 = .ok (.goto 4, 3) := by decide +kernel
theorem dX5_isSeries_19 : decode cX5_isSeries 19 = .ok (.iconst 0, 1) := by decide +kernel
theorem dX5_isSeries_20 : decode cX5_isSeries 20 = .ok (.ireturn, 1) := by decide +kernel
set_option maxRecDepth 20000 in
theorem ggX5_isAsking_Jx4a65c_size_8abf5 : GoodIn wsX5_isAsking wsJx4a65c_size_8abf5 := goodIn_r _ [6, 7, 16, 17, 18] (by decide +kernel) (by decide +kernel)
set_option maxRecDepth 20000 in
theorem gX5_isAsking_Jx4a65c_size_8abf5 : GoodIn wsX5_isAsking (wsV RX5 69 RJx4a65c yJx4a65c_size_8abf5 wsJx4a65c_size_8abf5) := goodIn_app (goodIn_of _ (by decide +kernel)) ggX5_isAsking_Jx4a65c_size_8abf5
theorem dX5_isAsking_0 : decode cX5_isAsking 0 = .ok (.iload_n 1, 1) := by decide +kernel
theorem dX5_isAsking_1 : decode cX5_isAsking 1 = .ok (.ifCond .lt 18, 3) := by decide +kernel
theorem dX5_isAsking_4 : decode cX5_isAsking 4 = .ok (.iload_n 1, 1) := by decide +kernel
theorem dX5_isAsking_5 : decode cX5_isAsking 5 = .ok (.aload_n 0, 1) := by decide +kernel
theorem dX5_isAsking_6 : decode cX5_isAsking 6 = .ok (.getfield 19, 3) := by decide +kernel
theorem dX5_isAsking_9 : decode cX5_isAsking 9 = .ok (.invokevirtual 69, 3) := by decide +kernel
theorem dX5_isAsking_12 : decode cX5_isAsking 12 = .ok (.if_icmp .ge 7, 3) := by decide +kernel
theorem dX5_isAsking_15 : decode cX5_isAsking 15 = .ok (.iconst 1, 1) := by decide +kernel
theorem dX5_isAsking_16 : decode cX5_isAsking 16 = .ok (.goto 4, 3) := by decide +kernel
theorem dX5_isAsking_19 : decode cX5_isAsking 19 = .ok (.iconst 0, 1) := by decide +kernel
theorem dX5_isAsking_20 : decode cX5_isAsking 20 = .ok (.ireturn, 1) := by decide +kernel
theorem dX5_isPastTick_0 : decode cX5_isPastTick 0 = .ok (.iload_n 1, 1) := by decide +kernel
theorem dX5_isPastTick_1 : decode cX5_isPastTick 1 = .ok (.ifCond .lt 15, 3) := by decide +kernel
theorem dX5_isPastTick_4 : decode cX5_isPastTick 4 = .ok (.iload_n 1, 1) := by decide +kernel
theorem dX5_isPastTick_5 : decode cX5_isPastTick 5 = .ok (.aload_n 0, 1) := by decide +kernel
theorem dX5_isPastTick_6 : decode cX5_isPastTick 6 = .ok (.getfield 43, 3) := by decide +kernel
theorem dX5_isPastTick_9 : decode cX5_isPastTick 9 = .ok (.if_icmp .gt 7, 3) := by decide +kernel
theorem dX5_isPastTick_12 : decode cX5_isPastTick 12 = .ok (.iconst 1, 1) := by decide +kernel
theorem dX5_isPastTick_13 : decode cX5_isPastTick 13 = .ok (.goto 4, 3) := by decide +kernel
theorem dX5_isPastTick_16 : decode cX5_isPastTick 16 = .ok (.iconst 0, 1) := by decide +kernel
theorem dX5_isPastTick_17 : decode cX5_isPastTick 17 = .ok (.ireturn, 1) := by decide +kernel
theorem dX5_isSpan_0 : decode cX5_isSpan 0 = .ok (.iload_n 1, 1) := by decide +kernel
theorem dX5_isSpan_1 : decode cX5_isSpan 1 = .ok (.ifCond .lt 20, 3) := by decide +kernel
theorem dX5_isSpan_4 : decode cX5_isSpan 4 = .ok (.iload_n 1, 1) := by decide +kernel
theorem dX5_isSpan_5 : decode cX5_isSpan 5 = .ok (.iload_n 2, 1) := by decide +kernel
theorem dX5_isSpan_6 : decode cX5_isSpan 6 = .ok (.if_icmp .gt 15, 3) := by decide +kernel
theorem dX5_isSpan_9 : decode cX5_isSpan 9 = .ok (.iload_n 2, 1) := by decide +kernel
theorem dX5_isSpan_10 : decode cX5_isSpan 10 = .ok (.aload_n 0, 1) := by decide +kernel
theorem dX5_isSpan_11 : decode cX5_isSpan 11 = .ok (.getfield 43, 3) := by decide +kernel
theorem dX5_isSpan_14 : decode cX5_isSpan 14 = .ok (.if_icmp .gt 7, 3) := by decide +kernel
theorem dX5_isSpan_17 : decode cX5_isSpan 17 = .ok (.iconst 1, 1) := by decide +kernel
theorem dX5_isSpan_18 : decode cX5_isSpan 18 = .ok (.goto 4, 3) := by decide +kernel
theorem dX5_isSpan_21 : decode cX5_isSpan 21 = .ok (.iconst 0, 1) := by decide +kernel
theorem dX5_isSpan_22 : decode cX5_isSpan 22 = .ok (.ireturn, 1) := by decide +kernel
theorem dX5_digit_0 : decode cX5_digit 0 = .ok (.iload_n 0, 1) := by decide +kernel
theorem dX5_digit_1 : decode cX5_digit 1 = .ok (.iconst 3, 1) := by decide +kernel
theorem dX5_digit_2 : decode cX5_digit 2 = .ok (.iload_n 1, 1) := by decide +kernel
theorem dX5_digit_3 : decode cX5_digit 3 = .ok (.imul, 1) := by decide +kernel
theorem dX5_digit_4 : decode cX5_digit 4 = .ok (.ishr, 1) := by decide +kernel
theorem dX5_digit_5 : decode cX5_digit 5 = .ok (.bipush 7, 2) := by decide +kernel
theorem dX5_digit_7 : decode cX5_digit 7 = .ok (.iand, 1) := by decide +kernel
theorem dX5_digit_8 : decode cX5_digit 8 = .ok (.ireturn, 1) := by decide +kernel
theorem dX5_atPlace_0 : decode cX5_atPlace 0 = .ok (.iload_n 0, 1) := by decide +kernel
theorem dX5_atPlace_1 : decode cX5_atPlace 1 = .ok (.iconst 3, 1) := by decide +kernel
theorem dX5_atPlace_2 : decode cX5_atPlace 2 = .ok (.iload_n 1, 1) := by decide +kernel
theorem dX5_atPlace_3 : decode cX5_atPlace 3 = .ok (.imul, 1) := by decide +kernel
theorem dX5_atPlace_4 : decode cX5_atPlace 4 = .ok (.ishl, 1) := by decide +kernel
theorem dX5_atPlace_5 : decode cX5_atPlace 5 = .ok (.ireturn, 1) := by decide +kernel
theorem dX5_hasBit_0 : decode cX5_hasBit 0 = .ok (.iload_n 0, 1) := by decide +kernel
theorem dX5_hasBit_1 : decode cX5_hasBit 1 = .ok (.iload_n 1, 1) := by decide +kernel
theorem dX5_hasBit_2 : decode cX5_hasBit 2 = .ok (.ishr, 1) := by decide +kernel
theorem dX5_hasBit_3 : decode cX5_hasBit 3 = .ok (.iconst 1, 1) := by decide +kernel
theorem dX5_hasBit_4 : decode cX5_hasBit 4 = .ok (.iand, 1) := by decide +kernel
theorem dX5_hasBit_5 : decode cX5_hasBit 5 = .ok (.iconst 1, 1) := by decide +kernel
theorem dX5_hasBit_6 : decode cX5_hasBit 6 = .ok (.if_icmp .ne 7, 3) := by decide +kernel
theorem dX5_hasBit_9 : decode cX5_hasBit 9 = .ok (.iconst 1, 1) := by decide +kernel
theorem dX5_hasBit_10 : decode cX5_hasBit 10 = .ok (.goto 4, 3) := by decide +kernel
theorem dX5_hasBit_13 : decode cX5_hasBit 13 = .ok (.iconst 0, 1) := by decide +kernel
theorem dX5_hasBit_14 : decode cX5_hasBit 14 = .ok (.ireturn, 1) := by decide +kernel
theorem dX5_asNumber_0 : decode cX5_asNumber 0 = .ok (.iload_n 0, 1) := by decide +kernel
theorem dX5_asNumber_1 : decode cX5_asNumber 1 = .ok (.ifCond .eq 7, 3) := by decide +kernel
theorem dX5_asNumber_4 : decode cX5_asNumber 4 = .ok (.iconst 1, 1) := by decide +kernel
theorem dX5_asNumber_5 : decode cX5_asNumber 5 = .ok (.goto 4, 3) := by decide +kernel
theorem dX5_asNumber_8 : decode cX5_asNumber 8 = .ok (.iconst 0, 1) := by decide +kernel
theorem dX5_asNumber_9 : decode cX5_asNumber 9 = .ok (.ireturn, 1) := by decide +kernel
set_option maxRecDepth 20000 in
theorem ggX5_digitsOf_X5_hasBit : GoodIn wsX5_digitsOf wsX5_hasBit := goodIn_r _ [4] (by decide +kernel) (by decide +kernel)
set_option maxRecDepth 20000 in
theorem gX5_digitsOf_X5_hasBit : GoodIn wsX5_digitsOf (va_wsS RX5 175 yX5_hasBit wsX5_hasBit) := goodIn_app (goodIn_of _ (by decide +kernel)) ggX5_digitsOf_X5_hasBit
set_option maxRecDepth 20000 in
theorem ggX5_digitsOf_X5_atPlace : GoodIn wsX5_digitsOf wsX5_atPlace := goodIn_r _ [7] (by decide +kernel) (by decide +kernel)
set_option maxRecDepth 20000 in
theorem gX5_digitsOf_X5_atPlace : GoodIn wsX5_digitsOf (va_wsS RX5 227 yX5_atPlace wsX5_atPlace) := goodIn_app (goodIn_of _ (by decide +kernel)) ggX5_digitsOf_X5_atPlace
theorem dX5_digitsOf_0 : decode cX5_digitsOf 0 = .ok (.iconst 0, 1) := by decide +kernel
theorem dX5_digitsOf_1 : decode cX5_digitsOf 1 = .ok (.istore_n 1, 1) := by decide +kernel
theorem dX5_digitsOf_2 : decode cX5_digitsOf 2 = .ok (.iconst 0, 1) := by decide +kernel
theorem dX5_digitsOf_3 : decode cX5_digitsOf 3 = .ok (.istore_n 2, 1) := by decide +kernel
theorem dX5_digitsOf_4 : decode cX5_digitsOf 4 = .ok (.iload_n 2, 1) := by decide +kernel
theorem dX5_digitsOf_5 : decode cX5_digitsOf 5 = .ok (.bipush 6, 2) := by decide +kernel
theorem dX5_digitsOf_7 : decode cX5_digitsOf 7 = .ok (.if_icmp .ge 26, 3) := by decide +kernel
theorem dX5_digitsOf_10 : decode cX5_digitsOf 10 = .ok (.iload_n 0, 1) := by decide +kernel
theorem dX5_digitsOf_11 : decode cX5_digitsOf 11 = .ok (.iload_n 2, 1) := by decide +kernel
theorem dX5_digitsOf_12 : decode cX5_digitsOf 12 = .ok (.invokestatic 175, 3) := by decide +kernel
theorem dX5_digitsOf_15 : decode cX5_digitsOf 15 = .ok (.ifCond .eq 12, 3) := by decide +kernel
theorem dX5_digitsOf_18 : decode cX5_digitsOf 18 = .ok (.iload_n 1, 1) := by decide +kernel
theorem dX5_digitsOf_19 : decode cX5_digitsOf 19 = .ok (.bipush 7, 2) := by decide +kernel
theorem dX5_digitsOf_21 : decode cX5_digitsOf 21 = .ok (.iload_n 2, 1) := by decide +kernel
theorem dX5_digitsOf_22 : decode cX5_digitsOf 22 = .ok (.invokestatic 227, 3) := by decide +kernel
theorem dX5_digitsOf_25 : decode cX5_digitsOf 25 = .ok (.ior, 1) := by decide +kernel
theorem dX5_digitsOf_26 : decode cX5_digitsOf 26 = .ok (.istore_n 1, 1) := by decide +kernel
theorem dX5_digitsOf_27 : decode cX5_digitsOf 27 = .ok (.iinc 2 1, 3) := by decide +kernel
theorem dX5_digitsOf_30 : decode cX5_digitsOf 30 = .ok (.goto (-26), 3) := by decide +kernel
theorem dX5_digitsOf_33 : decode cX5_digitsOf 33 = .ok (.iload_n 1, 1) := by decide +kernel
theorem dX5_digitsOf_34 : decode cX5_digitsOf 34 = .ok (.ireturn, 1) := by decide +kernel
set_option maxRecDepth 20000 in
theorem ggX5_numberOf_Jx4a65c_size_8abf5 : GoodIn wsX5_numberOf wsJx4a65c_size_8abf5 := goodIn_r _ [7, 8, 40, 41, 42] (by decide +kernel) (by decide +kernel)
set_option maxRecDepth 20000 in
theorem gX5_numberOf_Jx4a65c_size_8abf5 : GoodIn wsX5_numberOf (wsV RX5 69 RJx4a65c yJx4a65c_size_8abf5 wsJx4a65c_size_8abf5) := goodIn_app (goodIn_of _ (by decide +kernel)) ggX5_numberOf_Jx4a65c_size_8abf5
set_option maxRecDepth 20000 in
theorem ggX5_numberOf_Jx4a65c_get_915e3 : GoodIn wsX5_numberOf wsJx4a65c_get_915e3 := goodIn_r _ [12, 8, 13, 14, 15, 16, 17, 18, 19, 20, 21, 22, 23, 6, 24, 25, 40, 41, 42] (by decide +kernel) (by decide +kernel)
set_option maxRecDepth 20000 in
theorem gX5_numberOf_Jx4a65c_get_915e3 : GoodIn wsX5_numberOf (wsV RX5 60 RJx4a65c yJx4a65c_get_915e3 wsJx4a65c_get_915e3) := goodIn_app (goodIn_of _ (by decide +kernel)) ggX5_numberOf_Jx4a65c_get_915e3
theorem dX5_numberOf_0 : decode cX5_numberOf 0 = .ok (.iconst 0, 1) := by decide +kernel
theorem dX5_numberOf_1 : decode cX5_numberOf 1 = .ok (.istore_n 2, 1) := by decide +kernel
theorem dX5_numberOf_2 : decode cX5_numberOf 2 = .ok (.iload_n 2, 1) := by decide +kernel
theorem dX5_numberOf_3 : decode cX5_numberOf 3 = .ok (.aload_n 0, 1) := by decide +kernel
theorem dX5_numberOf_4 : decode cX5_numberOf 4 = .ok (.getfield 10, 3) := by decide +kernel
theorem dX5_numberOf_7 : decode cX5_numberOf 7 = .ok (.invokevirtual 69, 3) := by decide +kernel
theorem dX5_numberOf_10 : decode cX5_numberOf 10 = .ok (.if_icmp .ge 29, 3) := by decide +kernel
theorem dX5_numberOf_13 : decode cX5_numberOf 13 = .ok (.aload_n 0, 1) := by decide +kernel
theorem dX5_numberOf_14 : decode cX5_numberOf 14 = .ok (.getfield 10, 3) := by decide +kernel
theorem dX5_numberOf_17 : decode cX5_numberOf 17 = .ok (.iload_n 2, 1) := by decide +kernel
theorem dX5_numberOf_18 : decode cX5_numberOf 18 = .ok (.invokevirtual 60, 3) := by decide +kernel
theorem dX5_numberOf_21 : decode cX5_numberOf 21 = .ok (.checkcast 64, 3) := by decide +kernel
theorem dX5_numberOf_24 : decode cX5_numberOf 24 = .ok (.getfield 91, 3) := by decide +kernel
theorem dX5_numberOf_27 : decode cX5_numberOf 27 = .ok (.iload_n 1, 1) := by decide +kernel
theorem dX5_numberOf_28 : decode cX5_numberOf 28 = .ok (.if_icmp .ne 5, 3) := by decide +kernel
theorem dX5_numberOf_31 : decode cX5_numberOf 31 = .ok (.iload_n 2, 1) := by decide +kernel
theorem dX5_numberOf_32 : decode cX5_numberOf 32 = .ok (.ireturn, 1) := by decide +kernel
theorem dX5_numberOf_33 : decode cX5_numberOf 33 = .ok (.iinc 2 1, 3) := by decide +kernel
theorem dX5_numberOf_36 : decode cX5_numberOf 36 = .ok (.goto (-34), 3) := by decide +kernel
theorem dX5_numberOf_39 : decode cX5_numberOf 39 = .ok (.bipush (-9), 2) := by decide +kernel
theorem dX5_numberOf_41 : decode cX5_numberOf 41 = .ok (.ireturn, 1) := by decide +kernel
set_option maxRecDepth 20000 in
theorem ggX5_growthOfAlike_Jx4a65c_size_8abf5 : GoodIn wsX5_growthOfAlike wsJx4a65c_size_8abf5 := goodIn_r _ [7, 8, 43, 44, 45] (by decide +kernel) (by decide +kernel)
set_option maxRecDepth 20000 in
theorem gX5_growthOfAlike_Jx4a65c_size_8abf5 : GoodIn wsX5_growthOfAlike (wsV RX5 69 RJx4a65c yJx4a65c_size_8abf5 wsJx4a65c_size_8abf5) := goodIn_app (goodIn_of _ (by decide +kernel)) ggX5_growthOfAlike_Jx4a65c_size_8abf5
set_option maxRecDepth 20000 in
theorem ggX5_growthOfAlike_Jx4a65c_get_915e3 : GoodIn wsX5_growthOfAlike wsJx4a65c_get_915e3 := goodIn_r _ [12, 8, 13, 14, 15, 16, 17, 18, 19, 20, 21, 22, 23, 6, 24, 25, 43, 44, 45] (by decide +kernel) (by decide +kernel)
set_option maxRecDepth 20000 in
theorem gX5_growthOfAlike_Jx4a65c_get_915e3 : GoodIn wsX5_growthOfAlike (wsV RX5 60 RJx4a65c yJx4a65c_get_915e3 wsJx4a65c_get_915e3) := goodIn_app (goodIn_of _ (by decide +kernel)) ggX5_growthOfAlike_Jx4a65c_get_915e3
set_option maxRecDepth 20000 in
theorem ggX5_growthOfAlike_X2_isWithin : GoodIn wsX5_growthOfAlike wsX2_isWithin := goodIn_r _ [30, 31, 40, 41, 42] (by decide +kernel) (by decide +kernel)
set_option maxRecDepth 20000 in
theorem gX5_growthOfAlike_X2_isWithin : GoodIn wsX5_growthOfAlike (wsV RX5 138 RX2 yX2_isWithin wsX2_isWithin) := goodIn_app (goodIn_of _ (by decide +kernel)) ggX5_growthOfAlike_X2_isWithin
theorem dX5_growthOfAlike_0 : decode cX5_growthOfAlike 0 = .ok (.lconst 0, 1) := by decide +kernel
theorem dX5_growthOfAlike_1 : decode cX5_growthOfAlike 1 = .ok (.lstore 5, 2) := by decide +kernel
theorem dX5_growthOfAlike_3 : decode cX5_growthOfAlike 3 = .ok (.iconst 0, 1) := by decide +kernel
theorem dX5_growthOfAlike_4 : decode cX5_growthOfAlike 4 = .ok (.istore 7, 2) := by decide +kernel
theorem dX5_growthOfAlike_6 : decode cX5_growthOfAlike 6 = .ok (.iload 7, 2) := by decide +kernel
theorem dX5_growthOfAlike_8 : decode cX5_growthOfAlike 8 = .ok (.aload_n 0, 1) := by decide +kernel
theorem dX5_growthOfAlike_9 : decode cX5_growthOfAlike 9 = .ok (.getfield 16, 3) := by decide +kernel
theorem dX5_growthOfAlike_12 : decode cX5_growthOfAlike 12 = .ok (.invokevirtual 69, 3) := by decide +kernel
theorem dX5_growthOfAlike_15 : decode cX5_growthOfAlike 15 = .ok (.if_icmp .ge 58, 3) := by decide +kernel
theorem dX5_growthOfAlike_18 : decode cX5_growthOfAlike 18 = .ok (.aload_n 0, 1) := by decide +kernel
theorem dX5_growthOfAlike_19 : decode cX5_growthOfAlike 19 = .ok (.getfield 16, 3) := by decide +kernel
theorem dX5_growthOfAlike_22 : decode cX5_growthOfAlike 22 = .ok (.iload 7, 2) := by decide +kernel
theorem dX5_growthOfAlike_24 : decode cX5_growthOfAlike 24 = .ok (.invokevirtual 60, 3) := by decide +kernel
theorem dX5_growthOfAlike_27 : decode cX5_growthOfAlike 27 = .ok (.checkcast 83, 3) := by decide +kernel
theorem dX5_growthOfAlike_30 : decode cX5_growthOfAlike 30 = .ok (.astore 8, 2) := by decide +kernel
theorem dX5_growthOfAlike_32 : decode cX5_growthOfAlike 32 = .ok (.aload 8, 2) := by decide +kernel
theorem dX5_growthOfAlike_34 : decode cX5_growthOfAlike 34 = .ok (.iload_n 3, 1) := by decide +kernel
theorem dX5_growthOfAlike_35 : decode cX5_growthOfAlike 35 = .ok (.iload 4, 2) := by decide +kernel
theorem dX5_growthOfAlike_37 : decode cX5_growthOfAlike 37 = .ok (.invokevirtual 138, 3) := by decide +kernel
theorem dX5_growthOfAlike_40 : decode cX5_growthOfAlike 40 = .ok (.ifCond .eq 27, 3) := by decide +kernel
theorem dX5_growthOfAlike_43 : decode cX5_growthOfAlike 43 = .ok (.aload 8, 2) := by decide +kernel
theorem dX5_growthOfAlike_45 : decode cX5_growthOfAlike 45 = .ok (.getfield 141, 3) := by decide +kernel
theorem dX5_growthOfAlike_48 : decode cX5_growthOfAlike 48 = .ok (.iload_n 1, 1) := by decide +kernel
theorem dX5_growthOfAlike_49 : decode cX5_growthOfAlike 49 = .ok (.iand, 1) := by decide +kernel
theorem dX5_growthOfAlike_50 : decode cX5_growthOfAlike 50 = .ok (.iload_n 2, 1) := by decide +kernel
theorem dX5_growthOfAlike_51 : decode cX5_growthOfAlike 51 = .ok (.iload_n 1, 1) := by decide +kernel
theorem dX5_growthOfAlike_52 : decode cX5_growthOfAlike 52 = .ok (.iand, 1) := by decide +kernel
theorem dX5_growthOfAlike_53 : decode cX5_growthOfAlike 53 = .ok (.if_icmp .ne 14, 3) := by decide +kernel
theorem dX5_growthOfAlike_56 : decode cX5_growthOfAlike 56 = .ok (.lload 5, 2) := by decide +kernel
theorem dX5_growthOfAlike_58 : decode cX5_growthOfAlike 58 = .ok (.aload 8, 2) := by decide +kernel
theorem dX5_growthOfAlike_60 : decode cX5_growthOfAlike 60 = .ok (.getfield 230, 3) := by decide +kernel
theorem dX5_growthOfAlike_63 : decode cX5_growthOfAlike 63 = .ok (.i2l, 1) := by decide +kernel
theorem dX5_growthOfAlike_64 : decode cX5_growthOfAlike 64 = .ok (.ladd, 1) := by decide +kernel
theorem dX5_growthOfAlike_65 : decode cX5_growthOfAlike 65 = .ok (.lstore 5, 2) := by decide +kernel
theorem dX5_growthOfAlike_67 : decode cX5_growthOfAlike 67 = .ok (.iinc 7 1, 3) := by decide +kernel
theorem dX5_growthOfAlike_70 : decode cX5_growthOfAlike 70 = .ok (.goto (-64), 3) := by decide +kernel
theorem dX5_growthOfAlike_73 : decode cX5_growthOfAlike 73 = .ok (.lload 5, 2) := by decide +kernel
theorem dX5_growthOfAlike_75 : decode cX5_growthOfAlike 75 = .ok (.lreturn, 1) := by decide +kernel
set_option maxRecDepth 20000 in
theorem ggX5_gatherSeen_X1_makeEmpty : GoodIn wsX5_gatherSeen wsX1_makeEmpty := goodIn_r _ [8, 9, 72, 73] (by decide +kernel) (by decide +kernel)
set_option maxRecDepth 20000 in
theorem gX5_gatherSeen_X1_makeEmpty : GoodIn wsX5_gatherSeen (wsV RX5 135 RX1 yX1_makeEmpty wsX1_makeEmpty) := goodIn_app (goodIn_of _ (by decide +kernel)) ggX5_gatherSeen_X1_makeEmpty
set_option maxRecDepth 20000 in
theorem ggX5_gatherSeen_Jx4a65c_size_8abf5 : GoodIn wsX5_gatherSeen wsJx4a65c_size_8abf5 := goodIn_r _ [14, 15, 74, 75, 76] (by decide +kernel) (by decide +kernel)
set_option maxRecDepth 20000 in
theorem gX5_gatherSeen_Jx4a65c_size_8abf5 : GoodIn wsX5_gatherSeen (wsV RX5 69 RJx4a65c yJx4a65c_size_8abf5 wsJx4a65c_size_8abf5) := goodIn_app (goodIn_of _ (by decide +kernel)) ggX5_gatherSeen_Jx4a65c_size_8abf5
set_option maxRecDepth 20000 in
theorem ggX5_gatherSeen_Jx4a65c_get_915e3 : GoodIn wsX5_gatherSeen wsJx4a65c_get_915e3 := goodIn_r _ [19, 15, 20, 21, 22, 23, 24, 25, 26, 27, 28, 29, 30, 13, 31, 32, 74, 75, 76] (by decide +kernel) (by decide +kernel)
set_option maxRecDepth 20000 in
theorem gX5_gatherSeen_Jx4a65c_get_915e3 : GoodIn wsX5_gatherSeen (wsV RX5 60 RJx4a65c yJx4a65c_get_915e3 wsJx4a65c_get_915e3) := goodIn_app (goodIn_of _ (by decide +kernel)) ggX5_gatherSeen_Jx4a65c_get_915e3
set_option maxRecDepth 20000 in
theorem ggX5_gatherSeen_X2_isWithin : GoodIn wsX5_gatherSeen wsX2_isWithin := goodIn_r _ [37, 38, 69, 70, 71] (by decide +kernel) (by decide +kernel)
set_option maxRecDepth 20000 in
theorem gX5_gatherSeen_X2_isWithin : GoodIn wsX5_gatherSeen (wsV RX5 138 RX2 yX2_isWithin wsX2_isWithin) := goodIn_app (goodIn_of _ (by decide +kernel)) ggX5_gatherSeen_X2_isWithin
set_option maxRecDepth 20000 in
theorem ggX5_gatherSeen_X1_put : GoodIn wsX5_gatherSeen wsX1_put := goodIn_r _ [42, 9, 43, 44, 45, 46, 47, 48, 49, 50, 7, 51, 52, 53, 54, 55, 56, 57, 58, 59, 60, 72, 73] (by decide +kernel) (by decide +kernel)
set_option maxRecDepth 20000 in
theorem gX5_gatherSeen_X1_put : GoodIn wsX5_gatherSeen (wsV RX5 146 RX1 yX1_put wsX1_put) := goodIn_app (goodIn_of _ (by decide +kernel)) ggX5_gatherSeen_X1_put
theorem dX5_gatherSeen_0 : decode cX5_gatherSeen 0 = .ok (.aload_n 0, 1) := by decide +kernel
theorem dX5_gatherSeen_1 : decode cX5_gatherSeen 1 = .ok (.getfield 36, 3) := by decide +kernel
theorem dX5_gatherSeen_4 : decode cX5_gatherSeen 4 = .ok (.invokevirtual 135, 3) := by decide +kernel
theorem dX5_gatherSeen_7 : decode cX5_gatherSeen 7 = .ok (.iconst 0, 1) := by decide +kernel
theorem dX5_gatherSeen_8 : decode cX5_gatherSeen 8 = .ok (.istore_n 3, 1) := by decide +kernel
theorem dX5_gatherSeen_9 : decode cX5_gatherSeen 9 = .ok (.iload_n 3, 1) := by decide +kernel
theorem dX5_gatherSeen_10 : decode cX5_gatherSeen 10 = .ok (.aload_n 0, 1) := by decide +kernel
theorem dX5_gatherSeen_11 : decode cX5_gatherSeen 11 = .ok (.getfield 16, 3) := by decide +kernel
theorem dX5_gatherSeen_14 : decode cX5_gatherSeen 14 = .ok (.invokevirtual 69, 3) := by decide +kernel
theorem dX5_gatherSeen_17 : decode cX5_gatherSeen 17 = .ok (.if_icmp .ge 44, 3) := by decide +kernel
theorem dX5_gatherSeen_20 : decode cX5_gatherSeen 20 = .ok (.aload_n 0, 1) := by decide +kernel
theorem dX5_gatherSeen_21 : decode cX5_gatherSeen 21 = .ok (.getfield 16, 3) := by decide +kernel
theorem dX5_gatherSeen_24 : decode cX5_gatherSeen 24 = .ok (.iload_n 3, 1) := by decide +kernel
theorem dX5_gatherSeen_25 : decode cX5_gatherSeen 25 = .ok (.invokevirtual 60, 3) := by decide +kernel
theorem dX5_gatherSeen_28 : decode cX5_gatherSeen 28 = .ok (.checkcast 83, 3) := by decide +kernel
theorem dX5_gatherSeen_31 : decode cX5_gatherSeen 31 = .ok (.astore 4, 2) := by decide +kernel
theorem dX5_gatherSeen_33 : decode cX5_gatherSeen 33 = .ok (.aload 4, 2) := by decide +kernel
theorem dX5_gatherSeen_35 : decode cX5_gatherSeen 35 = .ok (.iload_n 1, 1) := by decide +kernel
theorem dX5_gatherSeen_36 : decode cX5_gatherSeen 36 = .ok (.iload_n 2, 1) := by decide +kernel
theorem dX5_gatherSeen_37 : decode cX5_gatherSeen 37 = .ok (.invokevirtual 138, 3) := by decide +kernel
theorem dX5_gatherSeen_40 : decode cX5_gatherSeen 40 = .ok (.ifCond .eq 15, 3) := by decide +kernel
theorem dX5_gatherSeen_43 : decode cX5_gatherSeen 43 = .ok (.aload_n 0, 1) := by decide +kernel
theorem dX5_gatherSeen_44 : decode cX5_gatherSeen 44 = .ok (.getfield 36, 3) := by decide +kernel
theorem dX5_gatherSeen_47 : decode cX5_gatherSeen 47 = .ok (.aload 4, 2) := by decide +kernel
theorem dX5_gatherSeen_49 : decode cX5_gatherSeen 49 = .ok (.getfield 141, 3) := by decide +kernel
theorem dX5_gatherSeen_52 : decode cX5_gatherSeen 52 = .ok (.invokevirtual 146, 3) := by decide +kernel
theorem dX5_gatherSeen_55 : decode cX5_gatherSeen 55 = .ok (.iinc 3 1, 3) := by decide +kernel
theorem dX5_gatherSeen_58 : decode cX5_gatherSeen 58 = .ok (.goto (-49), 3) := by decide +kernel
theorem dX5_gatherSeen_61 : decode cX5_gatherSeen 61 = .ok (.return_, 1) := by decide +kernel
set_option maxRecDepth 20000 in
theorem ggX5_namesLeftWithout_X5_digitsOf : GoodIn wsX5_namesLeftWithout wsX5_digitsOf := goodIn_r _ [6, 7, 8, 5, 9, 10, 11, 12] (by decide +kernel) (by decide +kernel)
set_option maxRecDepth 20000 in
theorem gX5_namesLeftWithout_X5_digitsOf : GoodIn wsX5_namesLeftWithout (va_wsS RX5 114 yX5_digitsOf wsX5_digitsOf) := goodIn_app (goodIn_of _ (by decide +kernel)) ggX5_namesLeftWithout_X5_digitsOf
set_option maxRecDepth 20000 in
theorem ggX5_namesLeftWithout_X1_makeEmpty : GoodIn wsX5_namesLeftWithout wsX1_makeEmpty := goodIn_r _ [17, 18, 49, 50] (by decide +kernel) (by decide +kernel)
set_option maxRecDepth 20000 in
theorem gX5_namesLeftWithout_X1_makeEmpty : GoodIn wsX5_namesLeftWithout (wsV RX5 135 RX1 yX1_makeEmpty wsX1_makeEmpty) := goodIn_app (goodIn_of _ (by decide +kernel)) ggX5_namesLeftWithout_X1_makeEmpty
set_option maxRecDepth 20000 in
theorem ggX5_namesLeftWithout_X1_put : GoodIn wsX5_namesLeftWithout wsX1_put := goodIn_r _ [22, 18, 23, 24, 25, 26, 27, 28, 29, 30, 16, 31, 32, 33, 34, 35, 36, 37, 38, 39, 40, 49, 50] (by decide +kernel) (by decide +kernel)
set_option maxRecDepth 20000 in
theorem gX5_namesLeftWithout_X1_put : GoodIn wsX5_namesLeftWithout (wsV RX5 146 RX1 yX1_put wsX1_put) := goodIn_app (goodIn_of _ (by decide +kernel)) ggX5_namesLeftWithout_X1_put
theorem dX5_namesLeftWithout_0 : decode cX5_namesLeftWithout 0 = .ok (.bipush 63, 2) := by decide +kernel
theorem dX5_namesLeftWithout_2 : decode cX5_namesLeftWithout 2 = .ok (.iload_n 1, 1) := by decide +kernel
theorem dX5_namesLeftWithout_3 : decode cX5_namesLeftWithout 3 = .ok (.ixor, 1) := by decide +kernel
theorem dX5_namesLeftWithout_4 : decode cX5_namesLeftWithout 4 = .ok (.invokestatic 114, 3) := by decide +kernel
theorem dX5_namesLeftWithout_7 : decode cX5_namesLeftWithout 7 = .ok (.istore_n 2, 1) := by decide +kernel
theorem dX5_namesLeftWithout_8 : decode cX5_namesLeftWithout 8 = .ok (.aload_n 0, 1) := by decide +kernel
theorem dX5_namesLeftWithout_9 : decode cX5_namesLeftWithout 9 = .ok (.getfield 40, 3) := by decide +kernel
theorem dX5_namesLeftWithout_12 : decode cX5_namesLeftWithout 12 = .ok (.invokevirtual 135, 3) := by decide +kernel
theorem dX5_namesLeftWithout_15 : decode cX5_namesLeftWithout 15 = .ok (.iconst 0, 1) := by decide +kernel
theorem dX5_namesLeftWithout_16 : decode cX5_namesLeftWithout 16 = .ok (.istore_n 3, 1) := by decide +kernel
theorem dX5_namesLeftWithout_17 : decode cX5_namesLeftWithout 17 = .ok (.iload_n 3, 1) := by decide +kernel
theorem dX5_namesLeftWithout_18 : decode cX5_namesLeftWithout 18 = .ok (.aload_n 0, 1) := by decide +kernel
theorem dX5_namesLeftWithout_19 : decode cX5_namesLeftWithout 19 = .ok (.getfield 36, 3) := by decide +kernel
theorem dX5_namesLeftWithout_22 : decode cX5_namesLeftWithout 22 = .ok (.getfield 124, 3) := by decide +kernel
theorem dX5_namesLeftWithout_25 : decode cX5_namesLeftWithout 25 = .ok (.if_icmp .ge 27, 3) := by decide +kernel
theorem dX5_namesLeftWithout_28 : decode cX5_namesLeftWithout 28 = .ok (.aload_n 0, 1) := by decide +kernel
theorem dX5_namesLeftWithout_29 : decode cX5_namesLeftWithout 29 = .ok (.getfield 40, 3) := by decide +kernel
theorem dX5_namesLeftWithout_32 : decode cX5_namesLeftWithout 32 = .ok (.aload_n 0, 1) := by decide +kernel
theorem dX5_namesLeftWithout_33 : decode cX5_namesLeftWithout 33 = .ok (.getfield 36, 3) := by decide +kernel
theorem dX5_namesLeftWithout_36 : decode cX5_namesLeftWithout 36 = .ok (.getfield 194, 3) := by decide +kernel
theorem dX5_namesLeftWithout_39 : decode cX5_namesLeftWithout 39 = .ok (.iload_n 3, 1) := by decide +kernel
theorem dX5_namesLeftWithout_40 : decode cX5_namesLeftWithout 40 = .ok (.iaload, 1) := by decide +kernel
theorem dX5_namesLeftWithout_41 : decode cX5_namesLeftWithout 41 = .ok (.iload_n 2, 1) := by decide +kernel
theorem dX5_namesLeftWithout_42 : decode cX5_namesLeftWithout 42 = .ok (.iand, 1) := by decide +kernel
theorem dX5_namesLeftWithout_43 : decode cX5_namesLeftWithout 43 = .ok (.invokevirtual 146, 3) := by decide +kernel
theorem dX5_namesLeftWithout_46 : decode cX5_namesLeftWithout 46 = .ok (.iinc 3 1, 3) := by decide +kernel
theorem dX5_namesLeftWithout_49 : decode cX5_namesLeftWithout 49 = .ok (.goto (-32), 3) := by decide +kernel
theorem dX5_namesLeftWithout_52 : decode cX5_namesLeftWithout 52 = .ok (.aload_n 0, 1) := by decide +kernel
theorem dX5_namesLeftWithout_53 : decode cX5_namesLeftWithout 53 = .ok (.getfield 40, 3) := by decide +kernel
theorem dX5_namesLeftWithout_56 : decode cX5_namesLeftWithout 56 = .ok (.getfield 124, 3) := by decide +kernel
theorem dX5_namesLeftWithout_59 : decode cX5_namesLeftWithout 59 = .ok (.ireturn, 1) := by decide +kernel
set_option maxRecDepth 20000 in
theorem ggX5_gatherKeys_X5_gatherSeen : GoodIn wsX5_gatherKeys wsX5_gatherSeen := goodIn_r _ [7, 2, 8, 9, 10, 11, 12, 13, 14, 15, 16, 17, 18, 19, 20, 21, 22, 23, 24, 25, 26, 27, 28, 29, 30, 31, 32, 33, 34, 35, 36, 37, 38, 39, 40, 41, 42, 43, 44, 45, 46, 47, 48, 49, 50, 51, 52, 53, 54, 55, 56, 57, 58, 59, 60, 61, 62, 63, 64, 65, 66, 77, 78, 79, 80, 81, 82, 83, 84, 87, 88, 89, 85, 86, 90, 91, 92] (by decide +kernel) (by decide +kernel)
set_option maxRecDepth 20000 in
theorem gX5_gatherKeys_X5_gatherSeen : GoodIn wsX5_gatherKeys (wsV RX5 121 RX5 yX5_gatherSeen wsX5_gatherSeen) := goodIn_app (goodIn_of _ (by decide +kernel)) ggX5_gatherKeys_X5_gatherSeen
set_option maxRecDepth 20000 in
theorem ggX5_gatherKeys_X1_makeEmpty : GoodIn wsX5_gatherKeys wsX1_makeEmpty := goodIn_r _ [14, 15, 85, 86] (by decide +kernel) (by decide +kernel)
set_option maxRecDepth 20000 in
theorem gX5_gatherKeys_X1_makeEmpty : GoodIn wsX5_gatherKeys (wsV RX5 135 RX1 yX1_makeEmpty wsX1_makeEmpty) := goodIn_app (goodIn_of _ (by decide +kernel)) ggX5_gatherKeys_X1_makeEmpty
set_option maxRecDepth 20000 in
theorem ggX5_gatherKeys_X0_keyOf : GoodIn wsX5_gatherKeys wsX0_keyOf := goodIn_r _ [71, 72, 73, 74, 75, 6, 76, 93, 94, 95, 96, 97] (by decide +kernel) (by decide +kernel)
set_option maxRecDepth 20000 in
theorem gX5_gatherKeys_X0_keyOf : GoodIn wsX5_gatherKeys (wsV RX5 184 RX0 yX0_keyOf wsX0_keyOf) := goodIn_app (goodIn_of _ (by decide +kernel)) ggX5_gatherKeys_X0_keyOf
set_option maxRecDepth 20000 in
theorem ggX5_gatherKeys_X1_put : GoodIn wsX5_gatherKeys wsX1_put := goodIn_r _ [48, 15, 49, 50, 51, 52, 53, 54, 55, 56, 13, 57, 58, 59, 60, 61, 62, 63, 64, 65, 66, 85, 86] (by decide +kernel) (by decide +kernel)
set_option maxRecDepth 20000 in
theorem gX5_gatherKeys_X1_put : GoodIn wsX5_gatherKeys (wsV RX5 146 RX1 yX1_put wsX1_put) := goodIn_app (goodIn_of _ (by decide +kernel)) ggX5_gatherKeys_X1_put
theorem dX5_gatherKeys_0 : decode cX5_gatherKeys 0 = .ok (.aload_n 0, 1) := by decide +kernel
theorem dX5_gatherKeys_1 : decode cX5_gatherKeys 1 = .ok (.iload_n 2, 1) := by decide +kernel
theorem dX5_gatherKeys_2 : decode cX5_gatherKeys 2 = .ok (.iload_n 3, 1) := by decide +kernel
theorem dX5_gatherKeys_3 : decode cX5_gatherKeys 3 = .ok (.invokevirtual 121, 3) := by decide +kernel
theorem dX5_gatherKeys_6 : decode cX5_gatherKeys 6 = .ok (.aload_n 0, 1) := by decide +kernel
theorem dX5_gatherKeys_7 : decode cX5_gatherKeys 7 = .ok (.getfield 40, 3) := by decide +kernel
theorem dX5_gatherKeys_10 : decode cX5_gatherKeys 10 = .ok (.invokevirtual 135, 3) := by decide +kernel
theorem dX5_gatherKeys_13 : decode cX5_gatherKeys 13 = .ok (.iconst 0, 1) := by decide +kernel
theorem dX5_gatherKeys_14 : decode cX5_gatherKeys 14 = .ok (.istore 4, 2) := by decide +kernel
theorem dX5_gatherKeys_16 : decode cX5_gatherKeys 16 = .ok (.iload 4, 2) := by decide +kernel
theorem dX5_gatherKeys_18 : decode cX5_gatherKeys 18 = .ok (.aload_n 0, 1) := by decide +kernel
theorem dX5_gatherKeys_19 : decode cX5_gatherKeys 19 = .ok (.getfield 36, 3) := by decide +kernel
theorem dX5_gatherKeys_22 : decode cX5_gatherKeys 22 = .ok (.getfield 124, 3) := by decide +kernel
theorem dX5_gatherKeys_25 : decode cX5_gatherKeys 25 = .ok (.if_icmp .ge 41, 3) := by decide +kernel
theorem dX5_gatherKeys_28 : decode cX5_gatherKeys 28 = .ok (.aload_n 1, 1) := by decide +kernel
theorem dX5_gatherKeys_29 : decode cX5_gatherKeys 29 = .ok (.aload_n 0, 1) := by decide +kernel
theorem dX5_gatherKeys_30 : decode cX5_gatherKeys 30 = .ok (.getfield 36, 3) := by decide +kernel
theorem dX5_gatherKeys_33 : decode cX5_gatherKeys 33 = .ok (.getfield 194, 3) := by decide +kernel
theorem dX5_gatherKeys_36 : decode cX5_gatherKeys 36 = .ok (.iload 4, 2) := by decide +kernel
theorem dX5_gatherKeys_38 : decode cX5_gatherKeys 38 = .ok (.iaload, 1) := by decide +kernel
theorem dX5_gatherKeys_39 : decode cX5_gatherKeys 39 = .ok (.invokevirtual 184, 3) := by decide +kernel
theorem dX5_gatherKeys_42 : decode cX5_gatherKeys 42 = .ok (.istore 5, 2) := by decide +kernel
theorem dX5_gatherKeys_44 : decode cX5_gatherKeys 44 = .ok (.iload 5, 2) := by decide +kernel
theorem dX5_gatherKeys_46 : decode cX5_gatherKeys 46 = .ok (.bipush (-9), 2) := by decide +kernel
theorem dX5_gatherKeys_48 : decode cX5_gatherKeys 48 = .ok (.if_icmp .eq 12, 3) := by decide +kernel
theorem dX5_gatherKeys_51 : decode cX5_gatherKeys 51 = .ok (.aload_n 0, 1) := by decide +kernel
theorem dX5_gatherKeys_52 : decode cX5_gatherKeys 52 = .ok (.getfield 40, 3) := by decide +kernel
theorem dX5_gatherKeys_55 : decode cX5_gatherKeys 55 = .ok (.iload 5, 2) := by decide +kernel
theorem dX5_gatherKeys_57 : decode cX5_gatherKeys 57 = .ok (.invokevirtual 146, 3) := by decide +kernel
theorem dX5_gatherKeys_60 : decode cX5_gatherKeys 60 = .ok (.iinc 4 1, 3) := by decide +kernel
theorem dX5_gatherKeys_63 : decode cX5_gatherKeys 63 = .ok (.goto (-47), 3) := by decide +kernel
theorem dX5_gatherKeys_66 : decode cX5_gatherKeys 66 = .ok (.return_, 1) := by decide +kernel
theorem dX5_firstLack_0 : decode cX5_firstLack 0 = .ok (.iload_n 2, 1) := by decide +kernel
theorem dX5_firstLack_1 : decode cX5_firstLack 1 = .ok (.istore 4, 2) := by decide +kernel
theorem dX5_firstLack_3 : decode cX5_firstLack 3 = .ok (.iload 4, 2) := by decide +kernel
theorem dX5_firstLack_5 : decode cX5_firstLack 5 = .ok (.iload_n 3, 1) := by decide +kernel
theorem dX5_firstLack_6 : decode cX5_firstLack 6 = .ok (.if_icmp .gt 27, 3) := by decide +kernel
theorem dX5_firstLack_9 : decode cX5_firstLack 9 = .ok (.aload_n 0, 1) := by decide +kernel
theorem dX5_firstLack_10 : decode cX5_firstLack 10 = .ok (.getfield 25, 3) := by decide +kernel
theorem dX5_firstLack_13 : decode cX5_firstLack 13 = .ok (.getfield 218, 3) := by decide +kernel
theorem dX5_firstLack_16 : decode cX5_firstLack 16 = .ok (.iload 4, 2) := by decide +kernel
theorem dX5_firstLack_18 : decode cX5_firstLack 18 = .ok (.iaload, 1) := by decide +kernel
theorem dX5_firstLack_19 : decode cX5_firstLack 19 = .ok (.iload_n 1, 1) := by decide +kernel
theorem dX5_firstLack_20 : decode cX5_firstLack 20 = .ok (.iand, 1) := by decide +kernel
theorem dX5_firstLack_21 : decode cX5_firstLack 21 = .ok (.ifCond .eq 6, 3) := by decide +kernel
theorem dX5_firstLack_24 : decode cX5_firstLack 24 = .ok (.iload 4, 2) := by decide +kernel
theorem dX5_firstLack_26 : decode cX5_firstLack 26 = .ok (.ireturn, 1) := by decide +kernel
theorem dX5_firstLack_27 : decode cX5_firstLack 27 = .ok (.iinc 4 1, 3) := by decide +kernel
theorem dX5_firstLack_30 : decode cX5_firstLack 30 = .ok (.goto (-27), 3) := by decide +kernel
theorem dX5_firstLack_33 : decode cX5_firstLack 33 = .ok (.bipush (-9), 2) := by decide +kernel
theorem dX5_firstLack_35 : decode cX5_firstLack 35 = .ok (.ireturn, 1) := by decide +kernel
theorem dX5_changeWeight_0 : decode cX5_changeWeight 0 = .ok (.aload_n 0, 1) := by decide +kernel
theorem dX5_changeWeight_1 : decode cX5_changeWeight 1 = .ok (.getfield 29, 3) := by decide +kernel
theorem dX5_changeWeight_4 : decode cX5_changeWeight 4 = .ok (.iload_n 1, 1) := by decide +kernel
theorem dX5_changeWeight_5 : decode cX5_changeWeight 5 = .ok (.iaload, 1) := by decide +kernel
theorem dX5_changeWeight_6 : decode cX5_changeWeight 6 = .ok (.istore_n 3, 1) := by decide +kernel
theorem dX5_changeWeight_7 : decode cX5_changeWeight 7 = .ok (.aload_n 0, 1) := by decide +kernel
theorem dX5_changeWeight_8 : decode cX5_changeWeight 8 = .ok (.getfield 29, 3) := by decide +kernel
theorem dX5_changeWeight_11 : decode cX5_changeWeight 11 = .ok (.iload_n 1, 1) := by decide +kernel
theorem dX5_changeWeight_12 : decode cX5_changeWeight 12 = .ok (.iload_n 2, 1) := by decide +kernel
theorem dX5_changeWeight_13 : decode cX5_changeWeight 13 = .ok (.iastore, 1) := by decide +kernel
theorem dX5_changeWeight_14 : decode cX5_changeWeight 14 = .ok (.iload_n 3, 1) := by decide +kernel
theorem dX5_changeWeight_15 : decode cX5_changeWeight 15 = .ok (.ireturn, 1) := by decide +kernel
set_option maxRecDepth 20000 in
theorem ggX5_lossOf_X5_hasBit : GoodIn wsX5_lossOf wsX5_hasBit := goodIn_r _ [7] (by decide +kernel) (by decide +kernel)
set_option maxRecDepth 20000 in
theorem gX5_lossOf_X5_hasBit : GoodIn wsX5_lossOf (va_wsS RX5 175 yX5_hasBit wsX5_hasBit) := goodIn_app (goodIn_of _ (by decide +kernel)) ggX5_lossOf_X5_hasBit
set_option maxRecDepth 20000 in
theorem ggX5_lossOf_Jx4a65c_size_8abf5 : GoodIn wsX5_lossOf wsJx4a65c_size_8abf5 := goodIn_r _ [12, 13, 44, 45, 46] (by decide +kernel) (by decide +kernel)
set_option maxRecDepth 20000 in
theorem gX5_lossOf_Jx4a65c_size_8abf5 : GoodIn wsX5_lossOf (wsV RX5 69 RJx4a65c yJx4a65c_size_8abf5 wsJx4a65c_size_8abf5) := goodIn_app (goodIn_of _ (by decide +kernel)) ggX5_lossOf_Jx4a65c_size_8abf5
set_option maxRecDepth 20000 in
theorem ggX5_lossOf_Jx4a65c_get_915e3 : GoodIn wsX5_lossOf wsJx4a65c_get_915e3 := goodIn_r _ [17, 13, 18, 19, 20, 21, 22, 23, 24, 25, 26, 27, 28, 11, 29, 30, 44, 45, 46] (by decide +kernel) (by decide +kernel)
set_option maxRecDepth 20000 in
theorem gX5_lossOf_Jx4a65c_get_915e3 : GoodIn wsX5_lossOf (wsV RX5 60 RJx4a65c yJx4a65c_get_915e3 wsJx4a65c_get_915e3) := goodIn_app (goodIn_of _ (by decide +kernel)) ggX5_lossOf_Jx4a65c_get_915e3
theorem dX5_lossOf_0 : decode cX5_lossOf 0 = .ok (.iconst 0, 1) := by decide +kernel
theorem dX5_lossOf_1 : decode cX5_lossOf 1 = .ok (.istore_n 2, 1) := by decide +kernel
theorem dX5_lossOf_2 : decode cX5_lossOf 2 = .ok (.iconst 0, 1) := by decide +kernel
theorem dX5_lossOf_3 : decode cX5_lossOf 3 = .ok (.istore_n 3, 1) := by decide +kernel
theorem dX5_lossOf_4 : decode cX5_lossOf 4 = .ok (.iload_n 3, 1) := by decide +kernel
theorem dX5_lossOf_5 : decode cX5_lossOf 5 = .ok (.bipush 6, 2) := by decide +kernel
theorem dX5_lossOf_7 : decode cX5_lossOf 7 = .ok (.if_icmp .ge 26, 3) := by decide +kernel
theorem dX5_lossOf_10 : decode cX5_lossOf 10 = .ok (.iload_n 1, 1) := by decide +kernel
theorem dX5_lossOf_11 : decode cX5_lossOf 11 = .ok (.iload_n 3, 1) := by decide +kernel
theorem dX5_lossOf_12 : decode cX5_lossOf 12 = .ok (.invokestatic 175, 3) := by decide +kernel
theorem dX5_lossOf_15 : decode cX5_lossOf 15 = .ok (.ifCond .eq 12, 3) := by decide +kernel
theorem dX5_lossOf_18 : decode cX5_lossOf 18 = .ok (.iload_n 2, 1) := by decide +kernel
theorem dX5_lossOf_19 : decode cX5_lossOf 19 = .ok (.aload_n 0, 1) := by decide +kernel
theorem dX5_lossOf_20 : decode cX5_lossOf 20 = .ok (.getfield 29, 3) := by decide +kernel
theorem dX5_lossOf_23 : decode cX5_lossOf 23 = .ok (.iload_n 3, 1) := by decide +kernel
theorem dX5_lossOf_24 : decode cX5_lossOf 24 = .ok (.iaload, 1) := by decide +kernel
theorem dX5_lossOf_25 : decode cX5_lossOf 25 = .ok (.iadd, 1) := by decide +kernel
theorem dX5_lossOf_26 : decode cX5_lossOf 26 = .ok (.istore_n 2, 1) := by decide +kernel
theorem dX5_lossOf_27 : decode cX5_lossOf 27 = .ok (.iinc 3 1, 3) := by decide +kernel
theorem dX5_lossOf_30 : decode cX5_lossOf 30 = .ok (.goto (-26), 3) := by decide +kernel
theorem dX5_lossOf_33 : decode cX5_lossOf 33 = .ok (.iconst 0, 1) := by decide +kernel
theorem dX5_lossOf_34 : decode cX5_lossOf 34 = .ok (.istore_n 3, 1) := by decide +kernel
theorem dX5_lossOf_35 : decode cX5_lossOf 35 = .ok (.iload_n 3, 1) := by decide +kernel
theorem dX5_lossOf_36 : decode cX5_lossOf 36 = .ok (.aload_n 0, 1) := by decide +kernel
theorem dX5_lossOf_37 : decode cX5_lossOf 37 = .ok (.getfield 19, 3) := by decide +kernel
theorem dX5_lossOf_40 : decode cX5_lossOf 40 = .ok (.invokevirtual 69, 3) := by decide +kernel
theorem dX5_lossOf_43 : decode cX5_lossOf 43 = .ok (.if_icmp .ge 40, 3) := by decide +kernel
theorem dX5_lossOf_46 : decode cX5_lossOf 46 = .ok (.aload_n 0, 1) := by decide +kernel
theorem dX5_lossOf_47 : decode cX5_lossOf 47 = .ok (.getfield 19, 3) := by decide +kernel
theorem dX5_lossOf_50 : decode cX5_lossOf 50 = .ok (.iload_n 3, 1) := by decide +kernel
theorem dX5_lossOf_51 : decode cX5_lossOf 51 = .ok (.invokevirtual 60, 3) := by decide +kernel
theorem dX5_lossOf_54 : decode cX5_lossOf 54 = .ok (.checkcast 178, 3) := by decide +kernel
theorem dX5_lossOf_57 : decode cX5_lossOf 57 = .ok (.astore 4, 2) := by decide +kernel
theorem dX5_lossOf_59 : decode cX5_lossOf 59 = .ok (.aload 4, 2) := by decide +kernel
theorem dX5_lossOf_61 : decode cX5_lossOf 61 = .ok (.getfield 197, 3) := by decide +kernel
theorem dX5_lossOf_64 : decode cX5_lossOf 64 = .ok (.iload_n 1, 1) := by decide +kernel
theorem dX5_lossOf_65 : decode cX5_lossOf 65 = .ok (.iand, 1) := by decide +kernel
theorem dX5_lossOf_66 : decode cX5_lossOf 66 = .ok (.ifCond .eq 11, 3) := by decide +kernel
theorem dX5_lossOf_69 : decode cX5_lossOf 69 = .ok (.iload_n 2, 1) := by decide +kernel
theorem dX5_lossOf_70 : decode cX5_lossOf 70 = .ok (.aload 4, 2) := by decide +kernel
theorem dX5_lossOf_72 : decode cX5_lossOf 72 = .ok (.getfield 233, 3) := by decide +kernel
theorem dX5_lossOf_75 : decode cX5_lossOf 75 = .ok (.iadd, 1) := by decide +kernel
theorem dX5_lossOf_76 : decode cX5_lossOf 76 = .ok (.istore_n 2, 1) := by decide +kernel
theorem dX5_lossOf_77 : decode cX5_lossOf 77 = .ok (.iinc 3 1, 3) := by decide +kernel
theorem dX5_lossOf_80 : decode cX5_lossOf 80 = .ok (.goto (-45), 3) := by decide +kernel
theorem dX5_lossOf_83 : decode cX5_lossOf 83 = .ok (.iload_n 2, 1) := by decide +kernel
theorem dX5_lossOf_84 : decode cX5_lossOf 84 = .ok (.ireturn, 1) := by decide +kernel
theorem dX6_init_0 : decode cX6_init 0 = .ok (.aload_n 0, 1) := by decide +kernel
theorem dX6_init_1 : decode cX6_init 1 = .ok (.invokespecial 1, 3) := by decide +kernel
theorem dX6_init_4 : decode cX6_init 4 = .ok (.aload_n 0, 1) := by decide +kernel
theorem dX6_init_5 : decode cX6_init 5 = .ok (.sipush 1200, 3) := by decide +kernel
theorem dX6_init_8 : decode cX6_init 8 = .ok (.newarray .boolean, 2) := by decide +kernel
theorem dX6_init_10 : decode cX6_init 10 = .ok (.putfield 7, 3) := by decide +kernel
theorem dX6_init_13 : decode cX6_init 13 = .ok (.aload_n 0, 1) := by decide +kernel
theorem dX6_init_14 : decode cX6_init 14 = .ok (.sipush 9600, 3) := by decide +kernel
theorem dX6_init_17 : decode cX6_init 17 = .ok (.newarray .int, 2) := by decide +kernel
theorem dX6_init_19 : decode cX6_init 19 = .ok (.putfield 13, 3) := by decide +kernel
theorem dX6_init_22 : decode cX6_init 22 = .ok (.aload_n 0, 1) := by decide +kernel
theorem dX6_init_23 : decode cX6_init 23 = .ok (.bipush 120, 2) := by decide +kernel
theorem dX6_init_25 : decode cX6_init 25 = .ok (.newarray .int, 2) := by decide +kernel
theorem dX6_init_27 : decode cX6_init 27 = .ok (.putfield 17, 3) := by decide +kernel
theorem dX6_init_30 : decode cX6_init 30 = .ok (.aload_n 0, 1) := by decide +kernel
theorem dX6_init_31 : decode cX6_init 31 = .ok (.bipush 120, 2) := by decide +kernel
theorem dX6_init_33 : decode cX6_init 33 = .ok (.newarray .int, 2) := by decide +kernel
theorem dX6_init_35 : decode cX6_init 35 = .ok (.putfield 20, 3) := by decide +kernel
theorem dX6_init_38 : decode cX6_init 38 = .ok (.aload_n 0, 1) := by decide +kernel
theorem dX6_init_39 : decode cX6_init 39 = .ok (.bipush 120, 2) := by decide +kernel
theorem dX6_init_41 : decode cX6_init 41 = .ok (.newarray .int, 2) := by decide +kernel
theorem dX6_init_43 : decode cX6_init 43 = .ok (.putfield 23, 3) := by decide +kernel
theorem dX6_init_46 : decode cX6_init 46 = .ok (.aload_n 0, 1) := by decide +kernel
theorem dX6_init_47 : decode cX6_init 47 = .ok (.bipush 120, 2) := by decide +kernel
theorem dX6_init_49 : decode cX6_init 49 = .ok (.newarray .int, 2) := by decide +kernel
theorem dX6_init_51 : decode cX6_init 51 = .ok (.putfield 26, 3) := by decide +kernel
theorem dX6_init_54 : decode cX6_init 54 = .ok (.aload_n 0, 1) := by decide +kernel
theorem dX6_init_55 : decode cX6_init 55 = .ok (.bipush 120, 2) := by decide +kernel
theorem dX6_init_57 : decode cX6_init 57 = .ok (.newarray .int, 2) := by decide +kernel
theorem dX6_init_59 : decode cX6_init 59 = .ok (.putfield 29, 3) := by decide +kernel
theorem dX6_init_62 : decode cX6_init 62 = .ok (.aload_n 0, 1) := by decide +kernel
theorem dX6_init_63 : decode cX6_init 63 = .ok (.bipush 120, 2) := by decide +kernel
theorem dX6_init_65 : decode cX6_init 65 = .ok (.newarray .int, 2) := by decide +kernel
theorem dX6_init_67 : decode cX6_init 67 = .ok (.putfield 32, 3) := by decide +kernel
theorem dX6_init_70 : decode cX6_init 70 = .ok (.aload_n 0, 1) := by decide +kernel
theorem dX6_init_71 : decode cX6_init 71 = .ok (.sipush 2000, 3) := by decide +kernel
theorem dX6_init_74 : decode cX6_init 74 = .ok (.newarray .int, 2) := by decide +kernel
theorem dX6_init_76 : decode cX6_init 76 = .ok (.putfield 35, 3) := by decide +kernel
theorem dX6_init_79 : decode cX6_init 79 = .ok (.aload_n 0, 1) := by decide +kernel
theorem dX6_init_80 : decode cX6_init 80 = .ok (.sipush 2000, 3) := by decide +kernel
theorem dX6_init_83 : decode cX6_init 83 = .ok (.newarray .int, 2) := by decide +kernel
theorem dX6_init_85 : decode cX6_init 85 = .ok (.putfield 38, 3) := by decide +kernel
theorem dX6_init_88 : decode cX6_init 88 = .ok (.aload_n 0, 1) := by decide +kernel
theorem dX6_init_89 : decode cX6_init 89 = .ok (.sipush 2000, 3) := by decide +kernel
theorem dX6_init_92 : decode cX6_init 92 = .ok (.newarray .int, 2) := by decide +kernel
theorem dX6_init_94 : decode cX6_init 94 = .ok (.putfield 41, 3) := by decide +kernel
theorem dX6_init_97 : decode cX6_init 97 = .ok (.aload_n 0, 1) := by decide +kernel
theorem dX6_init_98 : decode cX6_init 98 = .ok (.bipush 120, 2) := by decide +kernel
theorem dX6_init_100 : decode cX6_init 100 = .ok (.newarray .boolean, 2) := by decide +kernel
theorem dX6_init_102 : decode cX6_init 102 = .ok (.putfield 44, 3) := by decide +kernel
theorem dX6_init_105 : decode cX6_init 105 = .ok (.aload_n 0, 1) := by decide +kernel
theorem dX6_init_106 : decode cX6_init 106 = .ok (.sipush 2000, 3) := by decide +kernel
theorem dX6_init_109 : decode cX6_init 109 = .ok (.newarray .int, 2) := by decide +kernel
theorem dX6_init_111 : decode cX6_init 111 = .ok (.putfield 47, 3) := by decide +kernel
theorem dX6_init_114 : decode cX6_init 114 = .ok (.aload_n 0, 1) := by decide +kernel
theorem dX6_init_115 : decode cX6_init 115 = .ok (.bipush 10, 2) := by decide +kernel
theorem dX6_init_117 : decode cX6_init 117 = .ok (.newarray .int, 2) := by decide +kernel
theorem dX6_init_119 : decode cX6_init 119 = .ok (.putfield 50, 3) := by decide +kernel
theorem dX6_init_122 : decode cX6_init 122 = .ok (.aload_n 0, 1) := by decide +kernel
theorem dX6_init_123 : decode cX6_init 123 = .ok (.bipush 10, 2) := by decide +kernel
theorem dX6_init_125 : decode cX6_init 125 = .ok (.newarray .int, 2) := by decide +kernel
theorem dX6_init_127 : decode cX6_init 127 = .ok (.putfield 53, 3) := by decide +kernel
theorem dX6_init_130 : decode cX6_init 130 = .ok (.aload_n 0, 1) := by decide +kernel
theorem dX6_init_131 : decode cX6_init 131 = .ok (.bipush 10, 2) := by decide +kernel
theorem dX6_init_133 : decode cX6_init 133 = .ok (.newarray .int, 2) := by decide +kernel
theorem dX6_init_135 : decode cX6_init 135 = .ok (.putfield 56, 3) := by decide +kernel
theorem dX6_init_138 : decode cX6_init 138 = .ok (.aload_n 0, 1) := by decide +kernel
theorem dX6_init_139 : decode cX6_init 139 = .ok (.bipush 10, 2) := by decide +kernel
theorem dX6_init_141 : decode cX6_init 141 = .ok (.newarray .int, 2) := by decide +kernel
theorem dX6_init_143 : decode cX6_init 143 = .ok (.putfield 59, 3) := by decide +kernel
theorem dX6_init_146 : decode cX6_init 146 = .ok (.aload_n 0, 1) := by decide +kernel
theorem dX6_init_147 : decode cX6_init 147 = .ok (.bipush 6, 2) := by decide +kernel
theorem dX6_init_149 : decode cX6_init 149 = .ok (.newarray .int, 2) := by decide +kernel
theorem dX6_init_151 : decode cX6_init 151 = .ok (.putfield 62, 3) := by decide +kernel
theorem dX6_init_154 : decode cX6_init 154 = .ok (.iconst 0, 1) := by decide +kernel
theorem dX6_init_155 : decode cX6_init 155 = .ok (.istore_n 1, 1) := by decide +kernel
theorem dX6_init_156 : decode cX6_init 156 = .ok (.iload_n 1, 1) := by decide +kernel
theorem dX6_init_157 : decode cX6_init 157 = .ok (.bipush 48, 2) := by decide +kernel
theorem dX6_init_159 : decode cX6_init 159 = .ok (.if_icmp .ge 19, 3) := by decide +kernel
theorem dX6_init_162 : decode cX6_init 162 = .ok (.aload_n 0, 1) := by decide +kernel
theorem dX6_init_163 : decode cX6_init 163 = .ok (.getfield 13, 3) := by decide +kernel
theorem dX6_init_166 : decode cX6_init 166 = .ok (.iload_n 1, 1) := by decide +kernel
theorem dX6_init_167 : decode cX6_init 167 = .ok (.iload_n 1, 1) := by decide +kernel
theorem dX6_init_168 : decode cX6_init 168 = .ok (.bipush 8, 2) := by decide +kernel
theorem dX6_init_170 : decode cX6_init 170 = .ok (.irem, 1) := by decide +kernel
theorem dX6_init_171 : decode cX6_init 171 = .ok (.iastore, 1) := by decide +kernel
theorem dX6_init_172 : decode cX6_init 172 = .ok (.iinc 1 1, 3) := by decide +kernel
theorem dX6_init_175 : decode cX6_init 175 = .ok (.goto (-19), 3) := by decide +kernel
theorem dX6_init_178 : decode cX6_init 178 = .ok (.return_, 1) := by decide +kernel
theorem dX6_in_0 : decode cX6_in 0 = .ok (.lload_n 0, 1) := by decide +kernel
theorem dX6_in_1 : decode cX6_in 1 = .ok (.lload_n 2, 1) := by decide +kernel
theorem dX6_in_2 : decode cX6_in 2 = .ok (.lcmp, 1) := by decide +kernel
theorem dX6_in_3 : decode cX6_in 3 = .ok (.ifCond .lt 14, 3) := by decide +kernel
theorem dX6_in_6 : decode cX6_in 6 = .ok (.lload_n 0, 1) := by decide +kernel
theorem dX6_in_7 : decode cX6_in 7 = .ok (.lload 4, 2) := by decide +kernel
theorem dX6_in_9 : decode cX6_in 9 = .ok (.lcmp, 1) := by decide +kernel
theorem dX6_in_10 : decode cX6_in 10 = .ok (.ifCond .gt 7, 3) := by decide +kernel
theorem dX6_in_13 : decode cX6_in 13 = .ok (.iconst 1, 1) := by decide +kernel
theorem dX6_in_14 : decode cX6_in 14 = .ok (.goto 4, 3) := by decide +kernel
theorem dX6_in_17 : decode cX6_in 17 = .ok (.iconst 0, 1) := by decide +kernel
theorem dX6_in_18 : decode cX6_in 18 = .ok (.ireturn, 1) := by decide +kernel
set_option maxRecDepth 20000 in
theorem ggX6_isSpan_X6_in : GoodIn wsX6_isSpan wsX6_in := goodIn_r _ [5] (by decide +kernel) (by decide +kernel)
set_option maxRecDepth 20000 in
theorem gX6_isSpan_X6_in : GoodIn wsX6_isSpan (va_wsS RX6 69 yX6_in wsX6_in) := goodIn_app (goodIn_of _ (by decide +kernel)) ggX6_isSpan_X6_in
theorem dX6_isSpan_0 : decode cX6_isSpan 0 = .ok (.iload_n 2, 1) := by decide +kernel
theorem dX6_isSpan_1 : decode cX6_isSpan 1 = .ok (.i2l, 1) := by decide +kernel
theorem dX6_isSpan_2 : decode cX6_isSpan 2 = .ok (.lconst 0, 1) := by decide +kernel
theorem dX6_isSpan_3 : decode cX6_isSpan 3 = .ok (.aload_n 0, 1) := by decide +kernel
theorem dX6_isSpan_4 : decode cX6_isSpan 4 = .ok (.getfield 65, 3) := by decide +kernel
theorem dX6_isSpan_7 : decode cX6_isSpan 7 = .ok (.i2l, 1) := by decide +kernel
theorem dX6_isSpan_8 : decode cX6_isSpan 8 = .ok (.invokestatic 69, 3) := by decide +kernel
theorem dX6_isSpan_11 : decode cX6_isSpan 11 = .ok (.ifCond .eq 18, 3) := by decide +kernel
theorem dX6_isSpan_14 : decode cX6_isSpan 14 = .ok (.iload_n 1, 1) := by decide +kernel
theorem dX6_isSpan_15 : decode cX6_isSpan 15 = .ok (.i2l, 1) := by decide +kernel
theorem dX6_isSpan_16 : decode cX6_isSpan 16 = .ok (.lconst 0, 1) := by decide +kernel
theorem dX6_isSpan_17 : decode cX6_isSpan 17 = .ok (.iload_n 2, 1) := by decide +kernel
theorem dX6_isSpan_18 : decode cX6_isSpan 18 = .ok (.i2l, 1) := by decide +kernel
theorem dX6_isSpan_19 : decode cX6_isSpan 19 = .ok (.invokestatic 69, 3) := by decide +kernel
theorem dX6_isSpan_22 : decode cX6_isSpan 22 = .ok (.ifCond .eq 7, 3) := by decide +kernel
theorem dX6_isSpan_25 : decode cX6_isSpan 25 = .ok (.iconst 1, 1) := by decide +kernel
theorem dX6_isSpan_26 : decode cX6_isSpan 26 = .ok (.goto 4, 3) := by decide +kernel
theorem dX6_isSpan_29 : decode cX6_isSpan 29 = .ok (.iconst 0, 1) := by decide +kernel
theorem dX6_isSpan_30 : decode cX6_isSpan 30 = .ok (.ireturn, 1) := by decide +kernel
set_option maxRecDepth 20000 in
theorem ggX6_isMark_X6_in : GoodIn wsX6_isMark wsX6_in := goodIn_r _ [5] (by decide +kernel) (by decide +kernel)
set_option maxRecDepth 20000 in
theorem gX6_isMark_X6_in : GoodIn wsX6_isMark (va_wsS RX6 69 yX6_in wsX6_in) := goodIn_app (goodIn_of _ (by decide +kernel)) ggX6_isMark_X6_in
theorem dX6_isMark_0 : decode cX6_isMark 0 = .ok (.iload_n 0, 1) := by decide +kernel
theorem dX6_isMark_1 : decode cX6_isMark 1 = .ok (.i2l, 1) := by decide +kernel
theorem dX6_isMark_2 : decode cX6_isMark 2 = .ok (.lconst 0, 1) := by decide +kernel
theorem dX6_isMark_3 : decode cX6_isMark 3 = .ok (.ldc2_w 73, 3) := by decide +kernel
theorem dX6_isMark_6 : decode cX6_isMark 6 = .ok (.invokestatic 69, 3) := by decide +kernel
theorem dX6_isMark_9 : decode cX6_isMark 9 = .ok (.ireturn, 1) := by decide +kernel
set_option maxRecDepth 20000 in
theorem ggX6_isValue_X6_in : GoodIn wsX6_isValue wsX6_in := goodIn_r _ [5] (by decide +kernel) (by decide +kernel)
set_option maxRecDepth 20000 in
theorem gX6_isValue_X6_in : GoodIn wsX6_isValue (va_wsS RX6 69 yX6_in wsX6_in) := goodIn_app (goodIn_of _ (by decide +kernel)) ggX6_isValue_X6_in
theorem dX6_isValue_0 : decode cX6_isValue 0 = .ok (.iload_n 0, 1) := by decide +kernel
theorem dX6_isValue_1 : decode cX6_isValue 1 = .ok (.i2l, 1) := by decide +kernel
theorem dX6_isValue_2 : decode cX6_isValue 2 = .ok (.lconst 0, 1) := by decide +kernel
theorem dX6_isValue_3 : decode cX6_isValue 3 = .ok (.ldc2_w 75, 3) := by decide +kernel
theorem dX6_isValue_6 : decode cX6_isValue 6 = .ok (.invokestatic 69, 3) := by decide +kernel
theorem dX6_isValue_9 : decode cX6_isValue 9 = .ok (.ireturn, 1) := by decide +kernel
set_option maxRecDepth 20000 in
theorem ggX6_isName_X6_in : GoodIn wsX6_isName wsX6_in := goodIn_r _ [5] (by decide +kernel) (by decide +kernel)
set_option maxRecDepth 20000 in
theorem gX6_isName_X6_in : GoodIn wsX6_isName (va_wsS RX6 69 yX6_in wsX6_in) := goodIn_app (goodIn_of _ (by decide +kernel)) ggX6_isName_X6_in
theorem dX6_isName_0 : decode cX6_isName 0 = .ok (.iload_n 0, 1) := by decide +kernel
theorem dX6_isName_1 : decode cX6_isName 1 = .ok (.i2l, 1) := by decide +kernel
theorem dX6_isName_2 : decode cX6_isName 2 = .ok (.lconst 0, 1) := by decide +kernel
theorem dX6_isName_3 : decode cX6_isName 3 = .ok (.ldc2_w 77, 3) := by decide +kernel
theorem dX6_isName_6 : decode cX6_isName 6 = .ok (.invokestatic 69, 3) := by decide +kernel
theorem dX6_isName_9 : decode cX6_isName 9 = .ok (.ireturn, 1) := by decide +kernel
theorem dX6_digit_0 : decode cX6_digit 0 = .ok (.iload_n 0, 1) := by decide +kernel
theorem dX6_digit_1 : decode cX6_digit 1 = .ok (.iconst 3, 1) := by decide +kernel
theorem dX6_digit_2 : decode cX6_digit 2 = .ok (.iload_n 1, 1) := by decide +kernel
theorem dX6_digit_3 : decode cX6_digit 3 = .ok (.imul, 1) := by decide +kernel
theorem dX6_digit_4 : decode cX6_digit 4 = .ok (.ishr, 1) := by decide +kernel
theorem dX6_digit_5 : decode cX6_digit 5 = .ok (.bipush 7, 2) := by decide +kernel
theorem dX6_digit_7 : decode cX6_digit 7 = .ok (.iand, 1) := by decide +kernel
theorem dX6_digit_8 : decode cX6_digit 8 = .ok (.ireturn, 1) := by decide +kernel
theorem dX6_without_0 : decode cX6_without 0 = .ok (.iload_n 0, 1) := by decide +kernel
theorem dX6_without_1 : decode cX6_without 1 = .ok (.istore_n 2, 1) := by decide +kernel
theorem dX6_without_2 : decode cX6_without 2 = .ok (.iconst 0, 1) := by decide +kernel
theorem dX6_without_3 : decode cX6_without 3 = .ok (.istore_n 3, 1) := by decide +kernel
theorem dX6_without_4 : decode cX6_without 4 = .ok (.iload_n 3, 1) := by decide +kernel
theorem dX6_without_5 : decode cX6_without 5 = .ok (.bipush 6, 2) := by decide +kernel
theorem dX6_without_7 : decode cX6_without 7 = .ok (.if_icmp .ge 33, 3) := by decide +kernel
theorem dX6_without_10 : decode cX6_without 10 = .ok (.iload_n 1, 1) := by decide +kernel
theorem dX6_without_11 : decode cX6_without 11 = .ok (.iload_n 3, 1) := by decide +kernel
theorem dX6_without_12 : decode cX6_without 12 = .ok (.ishr, 1) := by decide +kernel
theorem dX6_without_13 : decode cX6_without 13 = .ok (.iconst 1, 1) := by decide +kernel
theorem dX6_without_14 : decode cX6_without 14 = .ok (.iand, 1) := by decide +kernel
theorem dX6_without_15 : decode cX6_without 15 = .ok (.iconst 1, 1) := by decide +kernel
theorem dX6_without_16 : decode cX6_without 16 = .ok (.if_icmp .ne 16, 3) := by decide +kernel
theorem dX6_without_19 : decode cX6_without 19 = .ok (.iload_n 2, 1) := by decide +kernel
theorem dX6_without_20 : decode cX6_without 20 = .ok (.bipush 7, 2) := by decide +kernel
theorem dX6_without_22 : decode cX6_without 22 = .ok (.iconst 3, 1) := by decide +kernel
theorem dX6_without_23 : decode cX6_without 23 = .ok (.iload_n 3, 1) := by decide +kernel
theorem dX6_without_24 : decode cX6_without 24 = .ok (.imul, 1) := by decide +kernel
theorem dX6_without_25 : decode cX6_without 25 = .ok (.ishl, 1) := by decide +kernel
theorem dX6_without_26 : decode cX6_without 26 = .ok (.iconst (-1), 1) := by decide +kernel
theorem dX6_without_27 : decode cX6_without 27 = .ok (.ixor, 1) := by decide +kernel
theorem dX6_without_28 : decode cX6_without 28 = .ok (.iand, 1) := by decide +kernel
end
section
theorem dX6_without_29 : decode cX6_without 29 = .ok (.goto 4, 3) := by decide +kernel
theorem dX6_without_32 : decode cX6_without 32 = .ok (.iload_n 2, 1) := by decide +kernel
theorem dX6_without_33 : decode cX6_without 33 = .ok (.istore_n 2, 1) := by decide +kernel
theorem dX6_without_34 : decode cX6_without 34 = .ok (.iinc 3 1, 3) := by decide +kernel
theorem dX6_without_37 : decode cX6_without 37 = .ok (.goto (-33), 3) := by decide +kernel
theorem dX6_without_40 : decode cX6_without 40 = .ok (.iload_n 2, 1) := by decide +kernel
theorem dX6_without_41 : decode cX6_without 41 = .ok (.ireturn, 1) := by decide +kernel
set_option maxRecDepth 20000 in
theorem ggX6_pass_X6_in : GoodIn wsX6_pass wsX6_in := goodIn_r _ [8] (by decide +kernel) (by decide +kernel)
set_option maxRecDepth 20000 in
theorem gX6_pass_X6_in : GoodIn wsX6_pass (va_wsS RX6 69 yX6_in wsX6_in) := goodIn_app (goodIn_of _ (by decide +kernel)) ggX6_pass_X6_in
theorem dX6_pass_0 : decode cX6_pass 0 = .ok (.iload_n 1, 1) := by decide +kernel
theorem dX6_pass_1 : decode cX6_pass 1 = .ok (.i2l, 1) := by decide +kernel
theorem dX6_pass_2 : decode cX6_pass 2 = .ok (.lconst 1, 1) := by decide +kernel
theorem dX6_pass_3 : decode cX6_pass 3 = .ok (.ldc2_w 79, 3) := by decide +kernel
theorem dX6_pass_6 : decode cX6_pass 6 = .ok (.invokestatic 69, 3) := by decide +kernel
theorem dX6_pass_9 : decode cX6_pass 9 = .ok (.ifCond .ne 6, 3) := by decide +kernel
theorem dX6_pass_12 : decode cX6_pass 12 = .ok (.bipush (-2), 2) := by decide +kernel
theorem dX6_pass_14 : decode cX6_pass 14 = .ok (.ireturn, 1) := by decide +kernel
theorem dX6_pass_15 : decode cX6_pass 15 = .ok (.aload_n 0, 1) := by decide +kernel
theorem dX6_pass_16 : decode cX6_pass 16 = .ok (.getfield 65, 3) := by decide +kernel
theorem dX6_pass_19 : decode cX6_pass 19 = .ok (.iload_n 1, 1) := by decide +kernel
theorem dX6_pass_20 : decode cX6_pass 20 = .ok (.iadd, 1) := by decide +kernel
theorem dX6_pass_21 : decode cX6_pass 21 = .ok (.sipush 199, 3) := by decide +kernel
theorem dX6_pass_24 : decode cX6_pass 24 = .ok (.if_icmp .le 6, 3) := by decide +kernel
theorem dX6_pass_27 : decode cX6_pass 27 = .ok (.bipush (-4), 2) := by decide +kernel
theorem dX6_pass_29 : decode cX6_pass 29 = .ok (.ireturn, 1) := by decide +kernel
theorem dX6_pass_30 : decode cX6_pass 30 = .ok (.iconst 0, 1) := by decide +kernel
theorem dX6_pass_31 : decode cX6_pass 31 = .ok (.istore_n 2, 1) := by decide +kernel
theorem dX6_pass_32 : decode cX6_pass 32 = .ok (.iload_n 2, 1) := by decide +kernel
theorem dX6_pass_33 : decode cX6_pass 33 = .ok (.iload_n 1, 1) := by decide +kernel
theorem dX6_pass_34 : decode cX6_pass 34 = .ok (.if_icmp .ge 107, 3) := by decide +kernel
theorem dX6_pass_37 : decode cX6_pass 37 = .ok (.iconst 0, 1) := by decide +kernel
theorem dX6_pass_38 : decode cX6_pass 38 = .ok (.istore_n 3, 1) := by decide +kernel
theorem dX6_pass_39 : decode cX6_pass 39 = .ok (.iload_n 3, 1) := by decide +kernel
theorem dX6_pass_40 : decode cX6_pass 40 = .ok (.bipush 6, 2) := by decide +kernel
theorem dX6_pass_42 : decode cX6_pass 42 = .ok (.if_icmp .ge 39, 3) := by decide +kernel
theorem dX6_pass_45 : decode cX6_pass 45 = .ok (.aload_n 0, 1) := by decide +kernel
theorem dX6_pass_46 : decode cX6_pass 46 = .ok (.getfield 7, 3) := by decide +kernel
theorem dX6_pass_49 : decode cX6_pass 49 = .ok (.bipush 6, 2) := by decide +kernel
theorem dX6_pass_51 : decode cX6_pass 51 = .ok (.aload_n 0, 1) := by decide +kernel
theorem dX6_pass_52 : decode cX6_pass 52 = .ok (.getfield 65, 3) := by decide +kernel
theorem dX6_pass_55 : decode cX6_pass 55 = .ok (.iconst 1, 1) := by decide +kernel
theorem dX6_pass_56 : decode cX6_pass 56 = .ok (.iadd, 1) := by decide +kernel
theorem dX6_pass_57 : decode cX6_pass 57 = .ok (.imul, 1) := by decide +kernel
theorem dX6_pass_58 : decode cX6_pass 58 = .ok (.iload_n 3, 1) := by decide +kernel
theorem dX6_pass_59 : decode cX6_pass 59 = .ok (.iadd, 1) := by decide +kernel
theorem dX6_pass_60 : decode cX6_pass 60 = .ok (.aload_n 0, 1) := by decide +kernel
theorem dX6_pass_61 : decode cX6_pass 61 = .ok (.getfield 7, 3) := by decide +kernel
theorem dX6_pass_64 : decode cX6_pass 64 = .ok (.bipush 6, 2) := by decide +kernel
theorem dX6_pass_66 : decode cX6_pass 66 = .ok (.aload_n 0, 1) := by decide +kernel
theorem dX6_pass_67 : decode cX6_pass 67 = .ok (.getfield 65, 3) := by decide +kernel
theorem dX6_pass_70 : decode cX6_pass 70 = .ok (.imul, 1) := by decide +kernel
theorem dX6_pass_71 : decode cX6_pass 71 = .ok (.iload_n 3, 1) := by decide +kernel
theorem dX6_pass_72 : decode cX6_pass 72 = .ok (.iadd, 1) := by decide +kernel
theorem dX6_pass_73 : decode cX6_pass 73 = .ok (.baload, 1) := by decide +kernel
theorem dX6_pass_74 : decode cX6_pass 74 = .ok (.bastore, 1) := by decide +kernel
theorem dX6_pass_75 : decode cX6_pass 75 = .ok (.iinc 3 1, 3) := by decide +kernel
theorem dX6_pass_78 : decode cX6_pass 78 = .ok (.goto (-39), 3) := by decide +kernel
theorem dX6_pass_81 : decode cX6_pass 81 = .ok (.iconst 0, 1) := by decide +kernel
theorem dX6_pass_82 : decode cX6_pass 82 = .ok (.istore_n 3, 1) := by decide +kernel
theorem dX6_pass_83 : decode cX6_pass 83 = .ok (.iload_n 3, 1) := by decide +kernel
theorem dX6_pass_84 : decode cX6_pass 84 = .ok (.bipush 48, 2) := by decide +kernel
theorem dX6_pass_86 : decode cX6_pass 86 = .ok (.if_icmp .ge 39, 3) := by decide +kernel
theorem dX6_pass_89 : decode cX6_pass 89 = .ok (.aload_n 0, 1) := by decide +kernel
theorem dX6_pass_90 : decode cX6_pass 90 = .ok (.getfield 13, 3) := by decide +kernel
theorem dX6_pass_93 : decode cX6_pass 93 = .ok (.bipush 48, 2) := by decide +kernel
theorem dX6_pass_95 : decode cX6_pass 95 = .ok (.aload_n 0, 1) := by decide +kernel
theorem dX6_pass_96 : decode cX6_pass 96 = .ok (.getfield 65, 3) := by decide +kernel
theorem dX6_pass_99 : decode cX6_pass 99 = .ok (.iconst 1, 1) := by decide +kernel
theorem dX6_pass_100 : decode cX6_pass 100 = .ok (.iadd, 1) := by decide +kernel
theorem dX6_pass_101 : decode cX6_pass 101 = .ok (.imul, 1) := by decide +kernel
theorem dX6_pass_102 : decode cX6_pass 102 = .ok (.iload_n 3, 1) := by decide +kernel
theorem dX6_pass_103 : decode cX6_pass 103 = .ok (.iadd, 1) := by decide +kernel
theorem dX6_pass_104 : decode cX6_pass 104 = .ok (.aload_n 0, 1) := by decide +kernel
theorem dX6_pass_105 : decode cX6_pass 105 = .ok (.getfield 13, 3) := by decide +kernel
theorem dX6_pass_108 : decode cX6_pass 108 = .ok (.bipush 48, 2) := by decide +kernel
theorem dX6_pass_110 : decode cX6_pass 110 = .ok (.aload_n 0, 1) := by decide +kernel
theorem dX6_pass_111 : decode cX6_pass 111 = .ok (.getfield 65, 3) := by decide +kernel
theorem dX6_pass_114 : decode cX6_pass 114 = .ok (.imul, 1) := by decide +kernel
theorem dX6_pass_115 : decode cX6_pass 115 = .ok (.iload_n 3, 1) := by decide +kernel
theorem dX6_pass_116 : decode cX6_pass 116 = .ok (.iadd, 1) := by decide +kernel
theorem dX6_pass_117 : decode cX6_pass 117 = .ok (.iaload, 1) := by decide +kernel
theorem dX6_pass_118 : decode cX6_pass 118 = .ok (.iastore, 1) := by decide +kernel
theorem dX6_pass_119 : decode cX6_pass 119 = .ok (.iinc 3 1, 3) := by decide +kernel
theorem dX6_pass_122 : decode cX6_pass 122 = .ok (.goto (-39), 3) := by decide +kernel
theorem dX6_pass_125 : decode cX6_pass 125 = .ok (.aload_n 0, 1) := by decide +kernel
theorem dX6_pass_126 : decode cX6_pass 126 = .ok (.dup, 1) := by decide +kernel
theorem dX6_pass_127 : decode cX6_pass 127 = .ok (.getfield 65, 3) := by decide +kernel
theorem dX6_pass_130 : decode cX6_pass 130 = .ok (.iconst 1, 1) := by decide +kernel
theorem dX6_pass_131 : decode cX6_pass 131 = .ok (.iadd, 1) := by decide +kernel
theorem dX6_pass_132 : decode cX6_pass 132 = .ok (.putfield 65, 3) := by decide +kernel
theorem dX6_pass_135 : decode cX6_pass 135 = .ok (.iinc 2 1, 3) := by decide +kernel
theorem dX6_pass_138 : decode cX6_pass 138 = .ok (.goto (-106), 3) := by decide +kernel
theorem dX6_pass_141 : decode cX6_pass 141 = .ok (.aload_n 0, 1) := by decide +kernel
theorem dX6_pass_142 : decode cX6_pass 142 = .ok (.getfield 65, 3) := by decide +kernel
theorem dX6_pass_145 : decode cX6_pass 145 = .ok (.ireturn, 1) := by decide +kernel
theorem dX6_place_0 : decode cX6_place 0 = .ok (.iconst 0, 1) := by decide +kernel
theorem dX6_place_1 : decode cX6_place 1 = .ok (.istore_n 2, 1) := by decide +kernel
theorem dX6_place_2 : decode cX6_place 2 = .ok (.iload_n 2, 1) := by decide +kernel
theorem dX6_place_3 : decode cX6_place 3 = .ok (.aload_n 0, 1) := by decide +kernel
theorem dX6_place_4 : decode cX6_place 4 = .ok (.getfield 81, 3) := by decide +kernel
theorem dX6_place_7 : decode cX6_place 7 = .ok (.if_icmp .ge 21, 3) := by decide +kernel
theorem dX6_place_10 : decode cX6_place 10 = .ok (.aload_n 0, 1) := by decide +kernel
theorem dX6_place_11 : decode cX6_place 11 = .ok (.getfield 17, 3) := by decide +kernel
theorem dX6_place_14 : decode cX6_place 14 = .ok (.iload_n 2, 1) := by decide +kernel
theorem dX6_place_15 : decode cX6_place 15 = .ok (.iaload, 1) := by decide +kernel
theorem dX6_place_16 : decode cX6_place 16 = .ok (.iload_n 1, 1) := by decide +kernel
theorem dX6_place_17 : decode cX6_place 17 = .ok (.if_icmp .ne 5, 3) := by decide +kernel
theorem dX6_place_20 : decode cX6_place 20 = .ok (.iload_n 2, 1) := by decide +kernel
theorem dX6_place_21 : decode cX6_place 21 = .ok (.ireturn, 1) := by decide +kernel
theorem dX6_place_22 : decode cX6_place 22 = .ok (.iinc 2 1, 3) := by decide +kernel
theorem dX6_place_25 : decode cX6_place 25 = .ok (.goto (-23), 3) := by decide +kernel
theorem dX6_place_28 : decode cX6_place 28 = .ok (.bipush (-9), 2) := by decide +kernel
theorem dX6_place_30 : decode cX6_place 30 = .ok (.ireturn, 1) := by decide +kernel
set_option maxRecDepth 20000 in
theorem ggX6_tell_X6_isName : GoodIn wsX6_tell wsX6_isName := goodIn_r _ [17, 18, 19, 20, 16, 21] (by decide +kernel) (by decide +kernel)
set_option maxRecDepth 20000 in
theorem gX6_tell_X6_isName : GoodIn wsX6_tell (va_wsS RX6 84 yX6_isName wsX6_isName) := goodIn_app (goodIn_of _ (by decide +kernel)) ggX6_tell_X6_isName
set_option maxRecDepth 20000 in
theorem ggX6_tell_X6_in : GoodIn wsX6_tell wsX6_in := goodIn_r _ [21] (by decide +kernel) (by decide +kernel)
set_option maxRecDepth 20000 in
theorem gX6_tell_X6_in : GoodIn wsX6_tell (va_wsS RX6 69 yX6_in wsX6_in) := goodIn_app (goodIn_of _ (by decide +kernel)) ggX6_tell_X6_in
set_option maxRecDepth 20000 in
theorem ggX6_tell_X6_place : GoodIn wsX6_tell wsX6_place := goodIn_r _ [25, 4, 6, 26, 27, 28, 29, 30, 31, 32, 33, 34, 35, 36, 37, 38, 39, 40, 41, 42, 43, 44, 45, 46, 47, 48] (by decide +kernel) (by decide +kernel)
set_option maxRecDepth 20000 in
theorem gX6_tell_X6_place : GoodIn wsX6_tell (wsV RX6 90 RX6 yX6_place wsX6_place) := goodIn_app (goodIn_of _ (by decide +kernel)) ggX6_tell_X6_place
theorem dX6_tell_0 : decode cX6_tell 0 = .ok (.iload_n 1, 1) := by decide +kernel
theorem dX6_tell_1 : decode cX6_tell 1 = .ok (.invokestatic 84, 3) := by decide +kernel
theorem dX6_tell_4 : decode cX6_tell 4 = .ok (.ifCond .eq 15, 3) := by decide +kernel
theorem dX6_tell_7 : decode cX6_tell 7 = .ok (.iload_n 2, 1) := by decide +kernel
theorem dX6_tell_8 : decode cX6_tell 8 = .ok (.i2l, 1) := by decide +kernel
theorem dX6_tell_9 : decode cX6_tell 9 = .ok (.lconst 0, 1) := by decide +kernel
theorem dX6_tell_10 : decode cX6_tell 10 = .ok (.ldc2_w 88, 3) := by decide +kernel
theorem dX6_tell_13 : decode cX6_tell 13 = .ok (.invokestatic 69, 3) := by decide +kernel
theorem dX6_tell_16 : decode cX6_tell 16 = .ok (.ifCond .ne 6, 3) := by decide +kernel
theorem dX6_tell_19 : decode cX6_tell 19 = .ok (.bipush (-2), 2) := by decide +kernel
theorem dX6_tell_21 : decode cX6_tell 21 = .ok (.ireturn, 1) := by decide +kernel
theorem dX6_tell_22 : decode cX6_tell 22 = .ok (.aload_n 0, 1) := by decide +kernel
theorem dX6_tell_23 : decode cX6_tell 23 = .ok (.iload_n 1, 1) := by decide +kernel
theorem dX6_tell_24 : decode cX6_tell 24 = .ok (.invokevirtual 90, 3) := by decide +kernel
theorem dX6_tell_27 : decode cX6_tell 27 = .ok (.istore_n 3, 1) := by decide +kernel
theorem dX6_tell_28 : decode cX6_tell 28 = .ok (.iload_n 3, 1) := by decide +kernel
theorem dX6_tell_29 : decode cX6_tell 29 = .ok (.bipush (-9), 2) := by decide +kernel
theorem dX6_tell_31 : decode cX6_tell 31 = .ok (.if_icmp .eq 19, 3) := by decide +kernel
theorem dX6_tell_34 : decode cX6_tell 34 = .ok (.aload_n 0, 1) := by decide +kernel
theorem dX6_tell_35 : decode cX6_tell 35 = .ok (.getfield 29, 3) := by decide +kernel
theorem dX6_tell_38 : decode cX6_tell 38 = .ok (.iload_n 3, 1) := by decide +kernel
theorem dX6_tell_39 : decode cX6_tell 39 = .ok (.iaload, 1) := by decide +kernel
theorem dX6_tell_40 : decode cX6_tell 40 = .ok (.aload_n 0, 1) := by decide +kernel
theorem dX6_tell_41 : decode cX6_tell 41 = .ok (.getfield 65, 3) := by decide +kernel
theorem dX6_tell_44 : decode cX6_tell 44 = .ok (.if_icmp .ne 6, 3) := by decide +kernel
theorem dX6_tell_47 : decode cX6_tell 47 = .ok (.bipush (-3), 2) := by decide +kernel
theorem dX6_tell_49 : decode cX6_tell 49 = .ok (.ireturn, 1) := by decide +kernel
theorem dX6_tell_50 : decode cX6_tell 50 = .ok (.iload_n 3, 1) := by decide +kernel
theorem dX6_tell_51 : decode cX6_tell 51 = .ok (.bipush (-9), 2) := by decide +kernel
theorem dX6_tell_53 : decode cX6_tell 53 = .ok (.if_icmp .ne 12, 3) := by decide +kernel
theorem dX6_tell_56 : decode cX6_tell 56 = .ok (.aload_n 0, 1) := by decide +kernel
theorem dX6_tell_57 : decode cX6_tell 57 = .ok (.getfield 81, 3) := by decide +kernel
theorem dX6_tell_60 : decode cX6_tell 60 = .ok (.bipush 120, 2) := by decide +kernel
theorem dX6_tell_62 : decode cX6_tell 62 = .ok (.if_icmp .eq 13, 3) := by decide +kernel
theorem dX6_tell_65 : decode cX6_tell 65 = .ok (.aload_n 0, 1) := by decide +kernel
theorem dX6_tell_66 : decode cX6_tell 66 = .ok (.getfield 94, 3) := by decide +kernel
theorem dX6_tell_69 : decode cX6_tell 69 = .ok (.sipush 2000, 3) := by decide +kernel
theorem dX6_tell_72 : decode cX6_tell 72 = .ok (.if_icmp .ne 6, 3) := by decide +kernel
theorem dX6_tell_75 : decode cX6_tell 75 = .ok (.bipush (-4), 2) := by decide +kernel
theorem dX6_tell_77 : decode cX6_tell 77 = .ok (.ireturn, 1) := by decide +kernel
theorem dX6_tell_78 : decode cX6_tell 78 = .ok (.iload_n 3, 1) := by decide +kernel
theorem dX6_tell_79 : decode cX6_tell 79 = .ok (.bipush (-9), 2) := by decide +kernel
theorem dX6_tell_81 : decode cX6_tell 81 = .ok (.if_icmp .ne 35, 3) := by decide +kernel
theorem dX6_tell_84 : decode cX6_tell 84 = .ok (.aload_n 0, 1) := by decide +kernel
theorem dX6_tell_85 : decode cX6_tell 85 = .ok (.getfield 81, 3) := by decide +kernel
theorem dX6_tell_88 : decode cX6_tell 88 = .ok (.istore_n 3, 1) := by decide +kernel
theorem dX6_tell_89 : decode cX6_tell 89 = .ok (.aload_n 0, 1) := by decide +kernel
theorem dX6_tell_90 : decode cX6_tell 90 = .ok (.dup, 1) := by decide +kernel
theorem dX6_tell_91 : decode cX6_tell 91 = .ok (.getfield 81, 3) := by decide +kernel
theorem dX6_tell_94 : decode cX6_tell 94 = .ok (.iconst 1, 1) := by decide +kernel
theorem dX6_tell_95 : decode cX6_tell 95 = .ok (.iadd, 1) := by decide +kernel
theorem dX6_tell_96 : decode cX6_tell 96 = .ok (.putfield 81, 3) := by decide +kernel
theorem dX6_tell_99 : decode cX6_tell 99 = .ok (.aload_n 0, 1) := by decide +kernel
theorem dX6_tell_100 : decode cX6_tell 100 = .ok (.getfield 17, 3) := by decide +kernel
theorem dX6_tell_103 : decode cX6_tell 103 = .ok (.iload_n 3, 1) := by decide +kernel
theorem dX6_tell_104 : decode cX6_tell 104 = .ok (.iload_n 1, 1) := by decide +kernel
theorem dX6_tell_105 : decode cX6_tell 105 = .ok (.iastore, 1) := by decide +kernel
theorem dX6_tell_106 : decode cX6_tell 106 = .ok (.aload_n 0, 1) := by decide +kernel
theorem dX6_tell_107 : decode cX6_tell 107 = .ok (.getfield 26, 3) := by decide +kernel
theorem dX6_tell_110 : decode cX6_tell 110 = .ok (.iload_n 3, 1) := by decide +kernel
theorem dX6_tell_111 : decode cX6_tell 111 = .ok (.aload_n 0, 1) := by decide +kernel
theorem dX6_tell_112 : decode cX6_tell 112 = .ok (.getfield 65, 3) := by decide +kernel
theorem dX6_tell_115 : decode cX6_tell 115 = .ok (.iastore, 1) := by decide +kernel
theorem dX6_tell_116 : decode cX6_tell 116 = .ok (.aload_n 0, 1) := by decide +kernel
theorem dX6_tell_117 : decode cX6_tell 117 = .ok (.getfield 20, 3) := by decide +kernel
theorem dX6_tell_120 : decode cX6_tell 120 = .ok (.iload_n 3, 1) := by decide +kernel
theorem dX6_tell_121 : decode cX6_tell 121 = .ok (.iaload, 1) := by decide +kernel
theorem dX6_tell_122 : decode cX6_tell 122 = .ok (.ifCond .le 17, 3) := by decide +kernel
theorem dX6_tell_125 : decode cX6_tell 125 = .ok (.iload_n 2, 1) := by decide +kernel
theorem dX6_tell_126 : decode cX6_tell 126 = .ok (.aload_n 0, 1) := by decide +kernel
theorem dX6_tell_127 : decode cX6_tell 127 = .ok (.getfield 23, 3) := by decide +kernel
theorem dX6_tell_130 : decode cX6_tell 130 = .ok (.iload_n 3, 1) := by decide +kernel
theorem dX6_tell_131 : decode cX6_tell 131 = .ok (.iaload, 1) := by decide +kernel
theorem dX6_tell_132 : decode cX6_tell 132 = .ok (.if_icmp .ge 7, 3) := by decide +kernel
theorem dX6_tell_135 : decode cX6_tell 135 = .ok (.iconst 1, 1) := by decide +kernel
theorem dX6_tell_136 : decode cX6_tell 136 = .ok (.goto 4, 3) := by decide +kernel
theorem dX6_tell_139 : decode cX6_tell 139 = .ok (.iconst 0, 1) := by decide +kernel
theorem dX6_tell_140 : decode cX6_tell 140 = .ok (.istore 4, 2) := by decide +kernel
theorem dX6_tell_142 : decode cX6_tell 142 = .ok (.aload_n 0, 1) := by decide +kernel
theorem dX6_tell_143 : decode cX6_tell 143 = .ok (.getfield 35, 3) := by decide +kernel
theorem dX6_tell_146 : decode cX6_tell 146 = .ok (.aload_n 0, 1) := by decide +kernel
theorem dX6_tell_147 : decode cX6_tell 147 = .ok (.getfield 94, 3) := by decide +kernel
theorem dX6_tell_150 : decode cX6_tell 150 = .ok (.iload_n 3, 1) := by decide +kernel
theorem dX6_tell_151 : decode cX6_tell 151 = .ok (.iastore, 1) := by decide +kernel
theorem dX6_tell_152 : decode cX6_tell 152 = .ok (.aload_n 0, 1) := by decide +kernel
theorem dX6_tell_153 : decode cX6_tell 153 = .ok (.getfield 38, 3) := by decide +kernel
theorem dX6_tell_156 : decode cX6_tell 156 = .ok (.aload_n 0, 1) := by decide +kernel
theorem dX6_tell_157 : decode cX6_tell 157 = .ok (.getfield 94, 3) := by decide +kernel
theorem dX6_tell_160 : decode cX6_tell 160 = .ok (.aload_n 0, 1) := by decide +kernel
theorem dX6_tell_161 : decode cX6_tell 161 = .ok (.getfield 65, 3) := by decide +kernel
theorem dX6_tell_164 : decode cX6_tell 164 = .ok (.iastore, 1) := by decide +kernel
theorem dX6_tell_165 : decode cX6_tell 165 = .ok (.aload_n 0, 1) := by decide +kernel
theorem dX6_tell_166 : decode cX6_tell 166 = .ok (.getfield 41, 3) := by decide +kernel
theorem dX6_tell_169 : decode cX6_tell 169 = .ok (.aload_n 0, 1) := by decide +kernel
theorem dX6_tell_170 : decode cX6_tell 170 = .ok (.getfield 94, 3) := by decide +kernel
theorem dX6_tell_173 : decode cX6_tell 173 = .ok (.aload_n 0, 1) := by decide +kernel
theorem dX6_tell_174 : decode cX6_tell 174 = .ok (.getfield 20, 3) := by decide +kernel
theorem dX6_tell_177 : decode cX6_tell 177 = .ok (.iload_n 3, 1) := by decide +kernel
theorem dX6_tell_178 : decode cX6_tell 178 = .ok (.iaload, 1) := by decide +kernel
theorem dX6_tell_179 : decode cX6_tell 179 = .ok (.ifCond .eq 8, 3) := by decide +kernel
theorem dX6_tell_182 : decode cX6_tell 182 = .ok (.iload 4, 2) := by decide +kernel
theorem dX6_tell_184 : decode cX6_tell 184 = .ok (.ifCond .eq 7, 3) := by decide +kernel
theorem dX6_tell_187 : decode cX6_tell 187 = .ok (.iload_n 2, 1) := by decide +kernel
theorem dX6_tell_188 : decode cX6_tell 188 = .ok (.goto 11, 3) := by decide +kernel
theorem dX6_tell_191 : decode cX6_tell 191 = .ok (.iload_n 2, 1) := by decide +kernel
theorem dX6_tell_192 : decode cX6_tell 192 = .ok (.aload_n 0, 1) := by decide +kernel
theorem dX6_tell_193 : decode cX6_tell 193 = .ok (.getfield 23, 3) := by decide +kernel
theorem dX6_tell_196 : decode cX6_tell 196 = .ok (.iload_n 3, 1) := by decide +kernel
theorem dX6_tell_197 : decode cX6_tell 197 = .ok (.iaload, 1) := by decide +kernel
theorem dX6_tell_198 : decode cX6_tell 198 = .ok (.isub, 1) := by decide +kernel
theorem dX6_tell_199 : decode cX6_tell 199 = .ok (.iastore, 1) := by decide +kernel
theorem dX6_tell_200 : decode cX6_tell 200 = .ok (.aload_n 0, 1) := by decide +kernel
theorem dX6_tell_201 : decode cX6_tell 201 = .ok (.dup, 1) := by decide +kernel
theorem dX6_tell_202 : decode cX6_tell 202 = .ok (.getfield 94, 3) := by decide +kernel
theorem dX6_tell_205 : decode cX6_tell 205 = .ok (.iconst 1, 1) := by decide +kernel
theorem dX6_tell_206 : decode cX6_tell 206 = .ok (.iadd, 1) := by decide +kernel
theorem dX6_tell_207 : decode cX6_tell 207 = .ok (.putfield 94, 3) := by decide +kernel
theorem dX6_tell_210 : decode cX6_tell 210 = .ok (.aload_n 0, 1) := by decide +kernel
theorem dX6_tell_211 : decode cX6_tell 211 = .ok (.getfield 32, 3) := by decide +kernel
theorem dX6_tell_214 : decode cX6_tell 214 = .ok (.iload_n 3, 1) := by decide +kernel
theorem dX6_tell_215 : decode cX6_tell 215 = .ok (.dup2, 1) := by decide +kernel
theorem dX6_tell_216 : decode cX6_tell 216 = .ok (.iaload, 1) := by decide +kernel
theorem dX6_tell_217 : decode cX6_tell 217 = .ok (.iload 4, 2) := by decide +kernel
theorem dX6_tell_219 : decode cX6_tell 219 = .ok (.ifCond .eq 7, 3) := by decide +kernel
theorem dX6_tell_222 : decode cX6_tell 222 = .ok (.iconst 1, 1) := by decide +kernel
theorem dX6_tell_223 : decode cX6_tell 223 = .ok (.goto 4, 3) := by decide +kernel
theorem dX6_tell_226 : decode cX6_tell 226 = .ok (.iconst 0, 1) := by decide +kernel
theorem dX6_tell_227 : decode cX6_tell 227 = .ok (.iadd, 1) := by decide +kernel
theorem dX6_tell_228 : decode cX6_tell 228 = .ok (.iastore, 1) := by decide +kernel
theorem dX6_tell_229 : decode cX6_tell 229 = .ok (.aload_n 0, 1) := by decide +kernel
theorem dX6_tell_230 : decode cX6_tell 230 = .ok (.getfield 20, 3) := by decide +kernel
theorem dX6_tell_233 : decode cX6_tell 233 = .ok (.iload_n 3, 1) := by decide +kernel
theorem dX6_tell_234 : decode cX6_tell 234 = .ok (.dup2, 1) := by decide +kernel
theorem dX6_tell_235 : decode cX6_tell 235 = .ok (.iaload, 1) := by decide +kernel
theorem dX6_tell_236 : decode cX6_tell 236 = .ok (.iconst 1, 1) := by decide +kernel
theorem dX6_tell_237 : decode cX6_tell 237 = .ok (.iadd, 1) := by decide +kernel
theorem dX6_tell_238 : decode cX6_tell 238 = .ok (.iastore, 1) := by decide +kernel
theorem dX6_tell_239 : decode cX6_tell 239 = .ok (.aload_n 0, 1) := by decide +kernel
theorem dX6_tell_240 : decode cX6_tell 240 = .ok (.getfield 23, 3) := by decide +kernel
theorem dX6_tell_243 : decode cX6_tell 243 = .ok (.iload_n 3, 1) := by decide +kernel
theorem dX6_tell_244 : decode cX6_tell 244 = .ok (.iload_n 2, 1) := by decide +kernel
theorem dX6_tell_245 : decode cX6_tell 245 = .ok (.iastore, 1) := by decide +kernel
theorem dX6_tell_246 : decode cX6_tell 246 = .ok (.aload_n 0, 1) := by decide +kernel
theorem dX6_tell_247 : decode cX6_tell 247 = .ok (.getfield 29, 3) := by decide +kernel
theorem dX6_tell_250 : decode cX6_tell 250 = .ok (.iload_n 3, 1) := by decide +kernel
theorem dX6_tell_251 : decode cX6_tell 251 = .ok (.aload_n 0, 1) := by decide +kernel
theorem dX6_tell_252 : decode cX6_tell 252 = .ok (.getfield 65, 3) := by decide +kernel
theorem dX6_tell_255 : decode cX6_tell 255 = .ok (.iastore, 1) := by decide +kernel
theorem dX6_tell_256 : decode cX6_tell 256 = .ok (.iload_n 3, 1) := by decide +kernel
theorem dX6_tell_257 : decode cX6_tell 257 = .ok (.ireturn, 1) := by decide +kernel
set_option maxRecDepth 20000 in
theorem ggX6_series_X6_in : GoodIn wsX6_series wsX6_in := goodIn_r _ [11] (by decide +kernel) (by decide +kernel)
set_option maxRecDepth 20000 in
theorem gX6_series_X6_in : GoodIn wsX6_series (va_wsS RX6 69 yX6_in wsX6_in) := goodIn_app (goodIn_of _ (by decide +kernel)) ggX6_series_X6_in
theorem dX6_series_0 : decode cX6_series 0 = .ok (.iload_n 1, 1) := by decide +kernel
theorem dX6_series_1 : decode cX6_series 1 = .ok (.i2l, 1) := by decide +kernel
theorem dX6_series_2 : decode cX6_series 2 = .ok (.lconst 0, 1) := by decide +kernel
theorem dX6_series_3 : decode cX6_series 3 = .ok (.aload_n 0, 1) := by decide +kernel
theorem dX6_series_4 : decode cX6_series 4 = .ok (.getfield 81, 3) := by decide +kernel
theorem dX6_series_7 : decode cX6_series 7 = .ok (.iconst 1, 1) := by decide +kernel
theorem dX6_series_8 : decode cX6_series 8 = .ok (.isub, 1) := by decide +kernel
theorem dX6_series_9 : decode cX6_series 9 = .ok (.i2l, 1) := by decide +kernel
theorem dX6_series_10 : decode cX6_series 10 = .ok (.invokestatic 69, 3) := by decide +kernel
theorem dX6_series_13 : decode cX6_series 13 = .ok (.ifCond .ne 5, 3) := by decide +kernel
theorem dX6_series_16 : decode cX6_series 16 = .ok (.iconst (-1), 1) := by decide +kernel
theorem dX6_series_17 : decode cX6_series 17 = .ok (.ireturn, 1) := by decide +kernel
theorem dX6_series_18 : decode cX6_series 18 = .ok (.iload_n 2, 1) := by decide +kernel
theorem dX6_series_19 : decode cX6_series 19 = .ok (.tableswitch 79 0 5 #[37, 44, 51, 58, 65, 72], 37) := by decide +kernel
theorem dX6_series_56 : decode cX6_series 56 = .ok (.aload_n 0, 1) := by decide +kernel
theorem dX6_series_57 : decode cX6_series 57 = .ok (.getfield 17, 3) := by decide +kernel
theorem dX6_series_60 : decode cX6_series 60 = .ok (.iload_n 1, 1) := by decide +kernel
theorem dX6_series_61 : decode cX6_series 61 = .ok (.iaload, 1) := by decide +kernel
theorem dX6_series_62 : decode cX6_series 62 = .ok (.ireturn, 1) := by decide +kernel
theorem dX6_series_63 : decode cX6_series 63 = .ok (.aload_n 0, 1) := by decide +kernel
theorem dX6_series_64 : decode cX6_series 64 = .ok (.getfield 20, 3) := by decide +kernel
theorem dX6_series_67 : decode cX6_series 67 = .ok (.iload_n 1, 1) := by decide +kernel
theorem dX6_series_68 : decode cX6_series 68 = .ok (.iaload, 1) := by decide +kernel
theorem dX6_series_69 : decode cX6_series 69 = .ok (.ireturn, 1) := by decide +kernel
theorem dX6_series_70 : decode cX6_series 70 = .ok (.aload_n 0, 1) := by decide +kernel
theorem dX6_series_71 : decode cX6_series 71 = .ok (.getfield 23, 3) := by decide +kernel
theorem dX6_series_74 : decode cX6_series 74 = .ok (.iload_n 1, 1) := by decide +kernel
theorem dX6_series_75 : decode cX6_series 75 = .ok (.iaload, 1) := by decide +kernel
theorem dX6_series_76 : decode cX6_series 76 = .ok (.ireturn, 1) := by decide +kernel
theorem dX6_series_77 : decode cX6_series 77 = .ok (.aload_n 0, 1) := by decide +kernel
theorem dX6_series_78 : decode cX6_series 78 = .ok (.getfield 26, 3) := by decide +kernel
theorem dX6_series_81 : decode cX6_series 81 = .ok (.iload_n 1, 1) := by decide +kernel
theorem dX6_series_82 : decode cX6_series 82 = .ok (.iaload, 1) := by decide +kernel
theorem dX6_series_83 : decode cX6_series 83 = .ok (.ireturn, 1) := by decide +kernel
theorem dX6_series_84 : decode cX6_series 84 = .ok (.aload_n 0, 1) := by decide +kernel
theorem dX6_series_85 : decode cX6_series 85 = .ok (.getfield 29, 3) := by decide +kernel
theorem dX6_series_88 : decode cX6_series 88 = .ok (.iload_n 1, 1) := by decide +kernel
theorem dX6_series_89 : decode cX6_series 89 = .ok (.iaload, 1) := by decide +kernel
theorem dX6_series_90 : decode cX6_series 90 = .ok (.ireturn, 1) := by decide +kernel
theorem dX6_series_91 : decode cX6_series 91 = .ok (.aload_n 0, 1) := by decide +kernel
theorem dX6_series_92 : decode cX6_series 92 = .ok (.getfield 32, 3) := by decide +kernel
theorem dX6_series_95 : decode cX6_series 95 = .ok (.iload_n 1, 1) := by decide +kernel
theorem dX6_series_96 : decode cX6_series 96 = .ok (.iaload, 1) := by decide +kernel
theorem dX6_series_97 : decode cX6_series 97 = .ok (.ireturn, 1) := by decide +kernel
theorem dX6_series_98 : decode cX6_series 98 = .ok (.bipush (-2), 2) := by decide +kernel
theorem dX6_series_100 : decode cX6_series 100 = .ok (.ireturn, 1) := by decide +kernel
set_option maxRecDepth 20000 in
theorem ggX6_find_X6_isName : GoodIn wsX6_find wsX6_isName := goodIn_r _ [4, 5, 6, 7, 3, 8] (by decide +kernel) (by decide +kernel)
set_option maxRecDepth 20000 in
theorem gX6_find_X6_isName : GoodIn wsX6_find (va_wsS RX6 84 yX6_isName wsX6_isName) := goodIn_app (goodIn_of _ (by decide +kernel)) ggX6_find_X6_isName
set_option maxRecDepth 20000 in
theorem ggX6_find_X6_place : GoodIn wsX6_find wsX6_place := goodIn_r _ [12, 13, 14, 15, 16, 17, 18, 19, 20, 21, 22, 23, 24, 25, 26, 27, 28, 29, 30, 31, 32, 33, 34, 35, 36, 37] (by decide +kernel) (by decide +kernel)
set_option maxRecDepth 20000 in
theorem gX6_find_X6_place : GoodIn wsX6_find (wsV RX6 90 RX6 yX6_place wsX6_place) := goodIn_app (goodIn_of _ (by decide +kernel)) ggX6_find_X6_place
theorem dX6_find_0 : decode cX6_find 0 = .ok (.iload_n 1, 1) := by decide +kernel
theorem dX6_find_1 : decode cX6_find 1 = .ok (.invokestatic 84, 3) := by decide +kernel
theorem dX6_find_4 : decode cX6_find 4 = .ok (.ifCond .eq 11, 3) := by decide +kernel
theorem dX6_find_7 : decode cX6_find 7 = .ok (.aload_n 0, 1) := by decide +kernel
theorem dX6_find_8 : decode cX6_find 8 = .ok (.iload_n 1, 1) := by decide +kernel
theorem dX6_find_9 : decode cX6_find 9 = .ok (.invokevirtual 90, 3) := by decide +kernel
theorem dX6_find_12 : decode cX6_find 12 = .ok (.goto 5, 3) := by decide +kernel
theorem dX6_find_15 : decode cX6_find 15 = .ok (.bipush (-2), 2) := by decide +kernel
theorem dX6_find_17 : decode cX6_find 17 = .ok (.ireturn, 1) := by decide +kernel
theorem dX6_growthOf_0 : decode cX6_growthOf 0 = .ok (.lconst 0, 1) := by decide +kernel
theorem dX6_growthOf_1 : decode cX6_growthOf 1 = .ok (.lstore 4, 2) := by decide +kernel
theorem dX6_growthOf_3 : decode cX6_growthOf 3 = .ok (.iconst 0, 1) := by decide +kernel
theorem dX6_growthOf_4 : decode cX6_growthOf 4 = .ok (.istore 6, 2) := by decide +kernel
theorem dX6_growthOf_6 : decode cX6_growthOf 6 = .ok (.iload 6, 2) := by decide +kernel
theorem dX6_growthOf_8 : decode cX6_growthOf 8 = .ok (.aload_n 0, 1) := by decide +kernel
theorem dX6_growthOf_9 : decode cX6_growthOf 9 = .ok (.getfield 94, 3) := by decide +kernel
theorem dX6_growthOf_12 : decode cX6_growthOf 12 = .ok (.if_icmp .ge 59, 3) := by decide +kernel
theorem dX6_growthOf_15 : decode cX6_growthOf 15 = .ok (.lload 4, 2) := by decide +kernel
theorem dX6_growthOf_17 : decode cX6_growthOf 17 = .ok (.aload_n 0, 1) := by decide +kernel
theorem dX6_growthOf_18 : decode cX6_growthOf 18 = .ok (.getfield 35, 3) := by decide +kernel
theorem dX6_growthOf_21 : decode cX6_growthOf 21 = .ok (.iload 6, 2) := by decide +kernel
theorem dX6_growthOf_23 : decode cX6_growthOf 23 = .ok (.iaload, 1) := by decide +kernel
theorem dX6_growthOf_24 : decode cX6_growthOf 24 = .ok (.iload_n 1, 1) := by decide +kernel
theorem dX6_growthOf_25 : decode cX6_growthOf 25 = .ok (.if_icmp .ne 36, 3) := by decide +kernel
theorem dX6_growthOf_28 : decode cX6_growthOf 28 = .ok (.aload_n 0, 1) := by decide +kernel
theorem dX6_growthOf_29 : decode cX6_growthOf 29 = .ok (.getfield 38, 3) := by decide +kernel
theorem dX6_growthOf_32 : decode cX6_growthOf 32 = .ok (.iload 6, 2) := by decide +kernel
theorem dX6_growthOf_34 : decode cX6_growthOf 34 = .ok (.iaload, 1) := by decide +kernel
theorem dX6_growthOf_35 : decode cX6_growthOf 35 = .ok (.iload_n 2, 1) := by decide +kernel
theorem dX6_growthOf_36 : decode cX6_growthOf 36 = .ok (.if_icmp .lt 25, 3) := by decide +kernel
theorem dX6_growthOf_39 : decode cX6_growthOf 39 = .ok (.aload_n 0, 1) := by decide +kernel
theorem dX6_growthOf_40 : decode cX6_growthOf 40 = .ok (.getfield 38, 3) := by decide +kernel
theorem dX6_growthOf_43 : decode cX6_growthOf 43 = .ok (.iload 6, 2) := by decide +kernel
theorem dX6_growthOf_45 : decode cX6_growthOf 45 = .ok (.iaload, 1) := by decide +kernel
theorem dX6_growthOf_46 : decode cX6_growthOf 46 = .ok (.iload_n 3, 1) := by decide +kernel
theorem dX6_growthOf_47 : decode cX6_growthOf 47 = .ok (.if_icmp .gt 14, 3) := by decide +kernel
theorem dX6_growthOf_50 : decode cX6_growthOf 50 = .ok (.aload_n 0, 1) := by decide +kernel
theorem dX6_growthOf_51 : decode cX6_growthOf 51 = .ok (.getfield 41, 3) := by decide +kernel
theorem dX6_growthOf_54 : decode cX6_growthOf 54 = .ok (.iload 6, 2) := by decide +kernel
theorem dX6_growthOf_56 : decode cX6_growthOf 56 = .ok (.iaload, 1) := by decide +kernel
theorem dX6_growthOf_57 : decode cX6_growthOf 57 = .ok (.i2l, 1) := by decide +kernel
theorem dX6_growthOf_58 : decode cX6_growthOf 58 = .ok (.goto 4, 3) := by decide +kernel
theorem dX6_growthOf_61 : decode cX6_growthOf 61 = .ok (.lconst 0, 1) := by decide +kernel
theorem dX6_growthOf_62 : decode cX6_growthOf 62 = .ok (.ladd, 1) := by decide +kernel
theorem dX6_growthOf_63 : decode cX6_growthOf 63 = .ok (.lstore 4, 2) := by decide +kernel
theorem dX6_growthOf_65 : decode cX6_growthOf 65 = .ok (.iinc 6 1, 3) := by decide +kernel
theorem dX6_growthOf_68 : decode cX6_growthOf 68 = .ok (.goto (-62), 3) := by decide +kernel
theorem dX6_growthOf_71 : decode cX6_growthOf 71 = .ok (.lload 4, 2) := by decide +kernel
theorem dX6_growthOf_73 : decode cX6_growthOf 73 = .ok (.lreturn, 1) := by decide +kernel
set_option maxRecDepth 20000 in
theorem ggX6_growth_X6_in : GoodIn wsX6_growth wsX6_in := goodIn_r _ [7] (by decide +kernel) (by decide +kernel)
set_option maxRecDepth 20000 in
theorem gX6_growth_X6_in : GoodIn wsX6_growth (va_wsS RX6 69 yX6_in wsX6_in) := goodIn_app (goodIn_of _ (by decide +kernel)) ggX6_growth_X6_in
set_option maxRecDepth 20000 in
theorem ggX6_growth_X6_isSpan : GoodIn wsX6_growth wsX6_isSpan := goodIn_r _ [11, 12, 4, 5, 6, 7, 21, 22, 23, 24, 25, 26, 27, 28, 29, 30, 31, 32, 33, 34, 35, 36, 37, 38, 39, 40, 41, 42, 43] (by decide +kernel) (by decide +kernel)
set_option maxRecDepth 20000 in
theorem gX6_growth_X6_isSpan : GoodIn wsX6_growth (wsV RX6 99 RX6 yX6_isSpan wsX6_isSpan) := goodIn_app (goodIn_of _ (by decide +kernel)) ggX6_growth_X6_isSpan
set_option maxRecDepth 20000 in
theorem ggX6_growth_X6_growthOf : GoodIn wsX6_growth wsX6_growthOf := goodIn_r _ [16, 17, 18, 19, 20, 21, 22, 23, 24, 25, 26, 27, 28, 29, 30, 31, 32, 33, 34, 35, 36, 37, 38, 39, 40, 41, 42, 43] (by decide +kernel) (by decide +kernel)
set_option maxRecDepth 20000 in
theorem gX6_growth_X6_growthOf : GoodIn wsX6_growth (wsV RX6 103 RX6 yX6_growthOf wsX6_growthOf) := goodIn_app (goodIn_of _ (by decide +kernel)) ggX6_growth_X6_growthOf
theorem dX6_growth_0 : decode cX6_growth 0 = .ok (.iload_n 1, 1) := by decide +kernel
theorem dX6_growth_1 : decode cX6_growth 1 = .ok (.i2l, 1) := by decide +kernel
theorem dX6_growth_2 : decode cX6_growth 2 = .ok (.lconst 0, 1) := by decide +kernel
theorem dX6_growth_3 : decode cX6_growth 3 = .ok (.aload_n 0, 1) := by decide +kernel
theorem dX6_growth_4 : decode cX6_growth 4 = .ok (.getfield 81, 3) := by decide +kernel
theorem dX6_growth_7 : decode cX6_growth 7 = .ok (.iconst 1, 1) := by decide +kernel
theorem dX6_growth_8 : decode cX6_growth 8 = .ok (.isub, 1) := by decide +kernel
theorem dX6_growth_9 : decode cX6_growth 9 = .ok (.i2l, 1) := by decide +kernel
theorem dX6_growth_10 : decode cX6_growth 10 = .ok (.invokestatic 69, 3) := by decide +kernel
theorem dX6_growth_13 : decode cX6_growth 13 = .ok (.ifCond .ne 7, 3) := by decide +kernel
theorem dX6_growth_16 : decode cX6_growth 16 = .ok (.ldc2_w 97, 3) := by decide +kernel
theorem dX6_growth_19 : decode cX6_growth 19 = .ok (.lreturn, 1) := by decide +kernel
theorem dX6_growth_20 : decode cX6_growth 20 = .ok (.aload_n 0, 1) := by decide +kernel
theorem dX6_growth_21 : decode cX6_growth 21 = .ok (.iload_n 2, 1) := by decide +kernel
theorem dX6_growth_22 : decode cX6_growth 22 = .ok (.iload_n 3, 1) := by decide +kernel
theorem dX6_growth_23 : decode cX6_growth 23 = .ok (.invokevirtual 99, 3) := by decide +kernel
theorem dX6_growth_26 : decode cX6_growth 26 = .ok (.ifCond .eq 13, 3) := by decide +kernel
theorem dX6_growth_29 : decode cX6_growth 29 = .ok (.aload_n 0, 1) := by decide +kernel
theorem dX6_growth_30 : decode cX6_growth 30 = .ok (.iload_n 1, 1) := by decide +kernel
theorem dX6_growth_31 : decode cX6_growth 31 = .ok (.iload_n 2, 1) := by decide +kernel
theorem dX6_growth_32 : decode cX6_growth 32 = .ok (.iload_n 3, 1) := by decide +kernel
theorem dX6_growth_33 : decode cX6_growth 33 = .ok (.invokevirtual 103, 3) := by decide +kernel
theorem dX6_growth_36 : decode cX6_growth 36 = .ok (.goto 6, 3) := by decide +kernel
theorem dX6_growth_39 : decode cX6_growth 39 = .ok (.ldc2_w 107, 3) := by decide +kernel
theorem dX6_growth_42 : decode cX6_growth 42 = .ok (.lreturn, 1) := by decide +kernel
theorem dX6_look_0 : decode cX6_look 0 = .ok (.iconst 0, 1) := by decide +kernel
theorem dX6_look_1 : decode cX6_look 1 = .ok (.istore_n 3, 1) := by decide +kernel
theorem dX6_look_2 : decode cX6_look 2 = .ok (.iconst 0, 1) := by decide +kernel
theorem dX6_look_3 : decode cX6_look 3 = .ok (.istore 4, 2) := by decide +kernel
theorem dX6_look_5 : decode cX6_look 5 = .ok (.iload 4, 2) := by decide +kernel
theorem dX6_look_7 : decode cX6_look 7 = .ok (.aload_n 0, 1) := by decide +kernel
theorem dX6_look_8 : decode cX6_look 8 = .ok (.getfield 81, 3) := by decide +kernel
theorem dX6_look_11 : decode cX6_look 11 = .ok (.if_icmp .ge 17, 3) := by decide +kernel
theorem dX6_look_14 : decode cX6_look 14 = .ok (.aload_n 0, 1) := by decide +kernel
theorem dX6_look_15 : decode cX6_look 15 = .ok (.getfield 44, 3) := by decide +kernel
theorem dX6_look_18 : decode cX6_look 18 = .ok (.iload 4, 2) := by decide +kernel
theorem dX6_look_20 : decode cX6_look 20 = .ok (.iconst 0, 1) := by decide +kernel
theorem dX6_look_21 : decode cX6_look 21 = .ok (.bastore, 1) := by decide +kernel
theorem dX6_look_22 : decode cX6_look 22 = .ok (.iinc 4 1, 3) := by decide +kernel
theorem dX6_look_25 : decode cX6_look 25 = .ok (.goto (-20), 3) := by decide +kernel
theorem dX6_look_28 : decode cX6_look 28 = .ok (.iconst 0, 1) := by decide +kernel
theorem dX6_look_29 : decode cX6_look 29 = .ok (.istore 4, 2) := by decide +kernel
theorem dX6_look_31 : decode cX6_look 31 = .ok (.iload 4, 2) := by decide +kernel
theorem dX6_look_33 : decode cX6_look 33 = .ok (.aload_n 0, 1) := by decide +kernel
theorem dX6_look_34 : decode cX6_look 34 = .ok (.getfield 94, 3) := by decide +kernel
theorem dX6_look_37 : decode cX6_look 37 = .ok (.if_icmp .ge 62, 3) := by decide +kernel
theorem dX6_look_40 : decode cX6_look 40 = .ok (.aload_n 0, 1) := by decide +kernel
theorem dX6_look_41 : decode cX6_look 41 = .ok (.getfield 38, 3) := by decide +kernel
theorem dX6_look_44 : decode cX6_look 44 = .ok (.iload 4, 2) := by decide +kernel
theorem dX6_look_46 : decode cX6_look 46 = .ok (.iaload, 1) := by decide +kernel
theorem dX6_look_47 : decode cX6_look 47 = .ok (.iload_n 1, 1) := by decide +kernel
theorem dX6_look_48 : decode cX6_look 48 = .ok (.if_icmp .lt 45, 3) := by decide +kernel
theorem dX6_look_51 : decode cX6_look 51 = .ok (.aload_n 0, 1) := by decide +kernel
theorem dX6_look_52 : decode cX6_look 52 = .ok (.getfield 38, 3) := by decide +kernel
theorem dX6_look_55 : decode cX6_look 55 = .ok (.iload 4, 2) := by decide +kernel
theorem dX6_look_57 : decode cX6_look 57 = .ok (.iaload, 1) := by decide +kernel
theorem dX6_look_58 : decode cX6_look 58 = .ok (.iload_n 2, 1) := by decide +kernel
theorem dX6_look_59 : decode cX6_look 59 = .ok (.if_icmp .gt 34, 3) := by decide +kernel
theorem dX6_look_62 : decode cX6_look 62 = .ok (.aload_n 0, 1) := by decide +kernel
theorem dX6_look_63 : decode cX6_look 63 = .ok (.getfield 44, 3) := by decide +kernel
theorem dX6_look_66 : decode cX6_look 66 = .ok (.aload_n 0, 1) := by decide +kernel
theorem dX6_look_67 : decode cX6_look 67 = .ok (.getfield 35, 3) := by decide +kernel
theorem dX6_look_70 : decode cX6_look 70 = .ok (.iload 4, 2) := by decide +kernel
theorem dX6_look_72 : decode cX6_look 72 = .ok (.iaload, 1) := by decide +kernel
theorem dX6_look_73 : decode cX6_look 73 = .ok (.baload, 1) := by decide +kernel
theorem dX6_look_74 : decode cX6_look 74 = .ok (.ifCond .ne 19, 3) := by decide +kernel
theorem dX6_look_77 : decode cX6_look 77 = .ok (.aload_n 0, 1) := by decide +kernel
theorem dX6_look_78 : decode cX6_look 78 = .ok (.getfield 44, 3) := by decide +kernel
theorem dX6_look_81 : decode cX6_look 81 = .ok (.aload_n 0, 1) := by decide +kernel
theorem dX6_look_82 : decode cX6_look 82 = .ok (.getfield 35, 3) := by decide +kernel
theorem dX6_look_85 : decode cX6_look 85 = .ok (.iload 4, 2) := by decide +kernel
theorem dX6_look_87 : decode cX6_look 87 = .ok (.iaload, 1) := by decide +kernel
theorem dX6_look_88 : decode cX6_look 88 = .ok (.iconst 1, 1) := by decide +kernel
theorem dX6_look_89 : decode cX6_look 89 = .ok (.bastore, 1) := by decide +kernel
theorem dX6_look_90 : decode cX6_look 90 = .ok (.iinc 3 1, 3) := by decide +kernel
theorem dX6_look_93 : decode cX6_look 93 = .ok (.iinc 4 1, 3) := by decide +kernel
theorem dX6_look_96 : decode cX6_look 96 = .ok (.goto (-65), 3) := by decide +kernel
theorem dX6_look_99 : decode cX6_look 99 = .ok (.iload_n 3, 1) := by decide +kernel
theorem dX6_look_100 : decode cX6_look 100 = .ok (.ireturn, 1) := by decide +kernel
theorem dX6_note_0 : decode cX6_note 0 = .ok (.aload_n 0, 1) := by decide +kernel
theorem dX6_note_1 : decode cX6_note 1 = .ok (.getfield 109, 3) := by decide +kernel
theorem dX6_note_4 : decode cX6_note 4 = .ok (.istore_n 2, 1) := by decide +kernel
theorem dX6_note_5 : decode cX6_note 5 = .ok (.iload_n 2, 1) := by decide +kernel
theorem dX6_note_6 : decode cX6_note 6 = .ok (.ifCond .le 21, 3) := by decide +kernel
theorem dX6_note_9 : decode cX6_note 9 = .ok (.aload_n 0, 1) := by decide +kernel
theorem dX6_note_10 : decode cX6_note 10 = .ok (.getfield 47, 3) := by decide +kernel
theorem dX6_note_13 : decode cX6_note 13 = .ok (.iload_n 2, 1) := by decide +kernel
theorem dX6_note_14 : decode cX6_note 14 = .ok (.iconst 1, 1) := by decide +kernel
theorem dX6_note_15 : decode cX6_note 15 = .ok (.isub, 1) := by decide +kernel
theorem dX6_note_16 : decode cX6_note 16 = .ok (.iaload, 1) := by decide +kernel
theorem dX6_note_17 : decode cX6_note 17 = .ok (.iload_n 1, 1) := by decide +kernel
theorem dX6_note_18 : decode cX6_note 18 = .ok (.if_icmp .le 9, 3) := by decide +kernel
theorem dX6_note_21 : decode cX6_note 21 = .ok (.iinc 2 (-1), 3) := by decide +kernel
theorem dX6_note_24 : decode cX6_note 24 = .ok (.goto (-19), 3) := by decide +kernel
theorem dX6_note_27 : decode cX6_note 27 = .ok (.iload_n 2, 1) := by decide +kernel
theorem dX6_note_28 : decode cX6_note 28 = .ok (.ifCond .le 16, 3) := by decide +kernel
theorem dX6_note_31 : decode cX6_note 31 = .ok (.aload_n 0, 1) := by decide +kernel
theorem dX6_note_32 : decode cX6_note 32 = .ok (.getfield 47, 3) := by decide +kernel
theorem dX6_note_35 : decode cX6_note 35 = .ok (.iload_n 2, 1) := by decide +kernel
theorem dX6_note_36 : decode cX6_note 36 = .ok (.iconst 1, 1) := by decide +kernel
theorem dX6_note_37 : decode cX6_note 37 = .ok (.isub, 1) := by decide +kernel
theorem dX6_note_38 : decode cX6_note 38 = .ok (.iaload, 1) := by decide +kernel
theorem dX6_note_39 : decode cX6_note 39 = .ok (.iload_n 1, 1) := by decide +kernel
theorem dX6_note_40 : decode cX6_note 40 = .ok (.if_icmp .ne 4, 3) := by decide +kernel
theorem dX6_note_43 : decode cX6_note 43 = .ok (.return_, 1) := by decide +kernel
theorem dX6_note_44 : decode cX6_note 44 = .ok (.aload_n 0, 1) := by decide +kernel
theorem dX6_note_45 : decode cX6_note 45 = .ok (.getfield 109, 3) := by decide +kernel
theorem dX6_note_48 : decode cX6_note 48 = .ok (.istore_n 3, 1) := by decide +kernel
theorem dX6_note_49 : decode cX6_note 49 = .ok (.iload_n 3, 1) := by decide +kernel
theorem dX6_note_50 : decode cX6_note 50 = .ok (.iload_n 2, 1) := by decide +kernel
theorem dX6_note_51 : decode cX6_note 51 = .ok (.if_icmp .le 23, 3) := by decide +kernel
theorem dX6_note_54 : decode cX6_note 54 = .ok (.aload_n 0, 1) := by decide +kernel
theorem dX6_note_55 : decode cX6_note 55 = .ok (.getfield 47, 3) := by decide +kernel
theorem dX6_note_58 : decode cX6_note 58 = .ok (.iload_n 3, 1) := by decide +kernel
theorem dX6_note_59 : decode cX6_note 59 = .ok (.aload_n 0, 1) := by decide +kernel
theorem dX6_note_60 : decode cX6_note 60 = .ok (.getfield 47, 3) := by decide +kernel
theorem dX6_note_63 : decode cX6_note 63 = .ok (.iload_n 3, 1) := by decide +kernel
theorem dX6_note_64 : decode cX6_note 64 = .ok (.iconst 1, 1) := by decide +kernel
theorem dX6_note_65 : decode cX6_note 65 = .ok (.isub, 1) := by decide +kernel
theorem dX6_note_66 : decode cX6_note 66 = .ok (.iaload, 1) := by decide +kernel
theorem dX6_note_67 : decode cX6_note 67 = .ok (.iastore, 1) := by decide +kernel
theorem dX6_note_68 : decode cX6_note 68 = .ok (.iinc 3 (-1), 3) := by decide +kernel
theorem dX6_note_71 : decode cX6_note 71 = .ok (.goto (-22), 3) := by decide +kernel
theorem dX6_note_74 : decode cX6_note 74 = .ok (.aload_n 0, 1) := by decide +kernel
theorem dX6_note_75 : decode cX6_note 75 = .ok (.getfield 47, 3) := by decide +kernel
theorem dX6_note_78 : decode cX6_note 78 = .ok (.iload_n 2, 1) := by decide +kernel
theorem dX6_note_79 : decode cX6_note 79 = .ok (.iload_n 1, 1) := by decide +kernel
theorem dX6_note_80 : decode cX6_note 80 = .ok (.iastore, 1) := by decide +kernel
theorem dX6_note_81 : decode cX6_note 81 = .ok (.aload_n 0, 1) := by decide +kernel
theorem dX6_note_82 : decode cX6_note 82 = .ok (.dup, 1) := by decide +kernel
theorem dX6_note_83 : decode cX6_note 83 = .ok (.getfield 109, 3) := by decide +kernel
theorem dX6_note_86 : decode cX6_note 86 = .ok (.iconst 1, 1) := by decide +kernel
theorem dX6_note_87 : decode cX6_note 87 = .ok (.iadd, 1) := by decide +kernel
theorem dX6_note_88 : decode cX6_note 88 = .ok (.putfield 109, 3) := by decide +kernel
theorem dX6_note_91 : decode cX6_note 91 = .ok (.return_, 1) := by decide +kernel
set_option maxRecDepth 20000 in
theorem ggX6_seen_X6_isSpan : GoodIn wsX6_seen wsX6_isSpan := goodIn_r _ [5, 6, 7, 8, 4, 9, 19, 20, 21, 22, 23, 24, 25, 26, 27, 28, 29, 30, 31, 32, 33, 34, 35, 36, 37, 38, 39, 40, 41] (by decide +kernel) (by decide +kernel)
set_option maxRecDepth 20000 in
theorem gX6_seen_X6_isSpan : GoodIn wsX6_seen (wsV RX6 99 RX6 yX6_isSpan wsX6_isSpan) := goodIn_app (goodIn_of _ (by decide +kernel)) ggX6_seen_X6_isSpan
set_option maxRecDepth 20000 in
theorem ggX6_seen_X6_look : GoodIn wsX6_seen wsX6_look := goodIn_r _ [13, 14, 15, 16, 17, 18, 19, 20, 21, 22, 23, 24, 25, 26, 27, 28, 29, 30, 31, 32, 33, 34, 35, 36, 37, 38, 39, 40, 41] (by decide +kernel) (by decide +kernel)
set_option maxRecDepth 20000 in
theorem gX6_seen_X6_look : GoodIn wsX6_seen (wsV RX6 112 RX6 yX6_look wsX6_look) := goodIn_app (goodIn_of _ (by decide +kernel)) ggX6_seen_X6_look
theorem dX6_seen_0 : decode cX6_seen 0 = .ok (.aload_n 0, 1) := by decide +kernel
theorem dX6_seen_1 : decode cX6_seen 1 = .ok (.iload_n 1, 1) := by decide +kernel
theorem dX6_seen_2 : decode cX6_seen 2 = .ok (.iload_n 2, 1) := by decide +kernel
theorem dX6_seen_3 : decode cX6_seen 3 = .ok (.invokevirtual 99, 3) := by decide +kernel
theorem dX6_seen_6 : decode cX6_seen 6 = .ok (.ifCond .eq 12, 3) := by decide +kernel
theorem dX6_seen_9 : decode cX6_seen 9 = .ok (.aload_n 0, 1) := by decide +kernel
theorem dX6_seen_10 : decode cX6_seen 10 = .ok (.iload_n 1, 1) := by decide +kernel
theorem dX6_seen_11 : decode cX6_seen 11 = .ok (.iload_n 2, 1) := by decide +kernel
theorem dX6_seen_12 : decode cX6_seen 12 = .ok (.invokevirtual 112, 3) := by decide +kernel
theorem dX6_seen_15 : decode cX6_seen 15 = .ok (.goto 5, 3) := by decide +kernel
theorem dX6_seen_18 : decode cX6_seen 18 = .ok (.bipush (-2), 2) := by decide +kernel
theorem dX6_seen_20 : decode cX6_seen 20 = .ok (.ireturn, 1) := by decide +kernel
set_option maxRecDepth 20000 in
theorem ggX6_values_X6_isMark : GoodIn wsX6_values wsX6_isMark := goodIn_r _ [8, 9, 10, 11, 7, 12] (by decide +kernel) (by decide +kernel)
set_option maxRecDepth 20000 in
theorem gX6_values_X6_isMark : GoodIn wsX6_values (va_wsS RX6 116 yX6_isMark wsX6_isMark) := goodIn_app (goodIn_of _ (by decide +kernel)) ggX6_values_X6_isMark
set_option maxRecDepth 20000 in
theorem ggX6_values_X6_isSpan : GoodIn wsX6_values wsX6_isSpan := goodIn_r _ [16, 17, 10, 11, 7, 12, 33, 34, 35, 36, 37, 38, 39, 40, 41, 42, 43, 44, 45, 46, 47, 48, 49, 50, 51, 52, 53, 54, 55] (by decide +kernel) (by decide +kernel)
set_option maxRecDepth 20000 in
theorem gX6_values_X6_isSpan : GoodIn wsX6_values (wsV RX6 99 RX6 yX6_isSpan wsX6_isSpan) := goodIn_app (goodIn_of _ (by decide +kernel)) ggX6_values_X6_isSpan
set_option maxRecDepth 20000 in
theorem ggX6_values_X6_look : GoodIn wsX6_values wsX6_look := goodIn_r _ [21, 2, 3, 22, 23, 24, 33, 34, 35, 36, 37, 38, 39, 40, 41, 42, 43, 44, 45, 46, 47, 48, 49, 50, 51, 52, 53, 54, 55] (by decide +kernel) (by decide +kernel)
set_option maxRecDepth 20000 in
theorem gX6_values_X6_look : GoodIn wsX6_values (wsV RX6 112 RX6 yX6_look wsX6_look) := goodIn_app (goodIn_of _ (by decide +kernel)) ggX6_values_X6_look
set_option maxRecDepth 20000 in
theorem ggX6_values_X6_digit : GoodIn wsX6_values wsX6_digit := goodIn_r _ [27] (by decide +kernel) (by decide +kernel)
set_option maxRecDepth 20000 in
theorem gX6_values_X6_digit : GoodIn wsX6_values (va_wsS RX6 119 yX6_digit wsX6_digit) := goodIn_app (goodIn_of _ (by decide +kernel)) ggX6_values_X6_digit
set_option maxRecDepth 20000 in
theorem ggX6_values_X6_note : GoodIn wsX6_values wsX6_note := goodIn_r _ [31, 1, 32, 33, 34, 35, 36, 37, 38, 39, 40, 41, 42, 43, 44, 45, 46, 47, 48, 49, 50, 51, 52, 53, 54, 55] (by decide +kernel) (by decide +kernel)
set_option maxRecDepth 20000 in
theorem gX6_values_X6_note : GoodIn wsX6_values (wsV RX6 122 RX6 yX6_note wsX6_note) := goodIn_app (goodIn_of _ (by decide +kernel)) ggX6_values_X6_note
theorem dX6_values_0 : decode cX6_values 0 = .ok (.iload_n 1, 1) := by decide +kernel
theorem dX6_values_1 : decode cX6_values 1 = .ok (.invokestatic 116, 3) := by decide +kernel
theorem dX6_values_4 : decode cX6_values 4 = .ok (.ifCond .ne 5, 3) := by decide +kernel
theorem dX6_values_7 : decode cX6_values 7 = .ok (.iconst (-1), 1) := by decide +kernel
theorem dX6_values_8 : decode cX6_values 8 = .ok (.ireturn, 1) := by decide +kernel
theorem dX6_values_9 : decode cX6_values 9 = .ok (.aload_n 0, 1) := by decide +kernel
theorem dX6_values_10 : decode cX6_values 10 = .ok (.iload_n 2, 1) := by decide +kernel
theorem dX6_values_11 : decode cX6_values 11 = .ok (.iload_n 3, 1) := by decide +kernel
theorem dX6_values_12 : decode cX6_values 12 = .ok (.invokevirtual 99, 3) := by decide +kernel
theorem dX6_values_15 : decode cX6_values 15 = .ok (.ifCond .ne 6, 3) := by decide +kernel
theorem dX6_values_18 : decode cX6_values 18 = .ok (.bipush (-2), 2) := by decide +kernel
theorem dX6_values_20 : decode cX6_values 20 = .ok (.ireturn, 1) := by decide +kernel
theorem dX6_values_21 : decode cX6_values 21 = .ok (.aload_n 0, 1) := by decide +kernel
theorem dX6_values_22 : decode cX6_values 22 = .ok (.iload_n 2, 1) := by decide +kernel
theorem dX6_values_23 : decode cX6_values 23 = .ok (.iload_n 3, 1) := by decide +kernel
theorem dX6_values_24 : decode cX6_values 24 = .ok (.invokevirtual 112, 3) := by decide +kernel
theorem dX6_values_27 : decode cX6_values 27 = .ok (.istore 4, 2) := by decide +kernel
theorem dX6_values_29 : decode cX6_values 29 = .ok (.aload_n 0, 1) := by decide +kernel
theorem dX6_values_30 : decode cX6_values 30 = .ok (.iconst 0, 1) := by decide +kernel
theorem dX6_values_31 : decode cX6_values 31 = .ok (.putfield 109, 3) := by decide +kernel
theorem dX6_values_34 : decode cX6_values 34 = .ok (.iconst 0, 1) := by decide +kernel
theorem dX6_values_35 : decode cX6_values 35 = .ok (.istore 5, 2) := by decide +kernel
theorem dX6_values_37 : decode cX6_values 37 = .ok (.iload 5, 2) := by decide +kernel
theorem dX6_values_39 : decode cX6_values 39 = .ok (.aload_n 0, 1) := by decide +kernel
theorem dX6_values_40 : decode cX6_values 40 = .ok (.getfield 81, 3) := by decide +kernel
theorem dX6_values_43 : decode cX6_values 43 = .ok (.if_icmp .ge 34, 3) := by decide +kernel
theorem dX6_values_46 : decode cX6_values 46 = .ok (.aload_n 0, 1) := by decide +kernel
theorem dX6_values_47 : decode cX6_values 47 = .ok (.getfield 44, 3) := by decide +kernel
theorem dX6_values_50 : decode cX6_values 50 = .ok (.iload 5, 2) := by decide +kernel
theorem dX6_values_52 : decode cX6_values 52 = .ok (.baload, 1) := by decide +kernel
theorem dX6_values_53 : decode cX6_values 53 = .ok (.ifCond .eq 18, 3) := by decide +kernel
theorem dX6_values_56 : decode cX6_values 56 = .ok (.aload_n 0, 1) := by decide +kernel
theorem dX6_values_57 : decode cX6_values 57 = .ok (.aload_n 0, 1) := by decide +kernel
theorem dX6_values_58 : decode cX6_values 58 = .ok (.getfield 17, 3) := by decide +kernel
theorem dX6_values_61 : decode cX6_values 61 = .ok (.iload 5, 2) := by decide +kernel
theorem dX6_values_63 : decode cX6_values 63 = .ok (.iaload, 1) := by decide +kernel
theorem dX6_values_64 : decode cX6_values 64 = .ok (.iload_n 1, 1) := by decide +kernel
theorem dX6_values_65 : decode cX6_values 65 = .ok (.invokestatic 119, 3) := by decide +kernel
theorem dX6_values_68 : decode cX6_values 68 = .ok (.invokevirtual 122, 3) := by decide +kernel
theorem dX6_values_71 : decode cX6_values 71 = .ok (.iinc 5 1, 3) := by decide +kernel
theorem dX6_values_74 : decode cX6_values 74 = .ok (.goto (-37), 3) := by decide +kernel
theorem dX6_values_77 : decode cX6_values 77 = .ok (.aload_n 0, 1) := by decide +kernel
theorem dX6_values_78 : decode cX6_values 78 = .ok (.getfield 109, 3) := by decide +kernel
theorem dX6_values_81 : decode cX6_values 81 = .ok (.ireturn, 1) := by decide +kernel
set_option maxRecDepth 20000 in
theorem ggX6_unlikeWithout_X6_without : GoodIn wsX6_unlikeWithout wsX6_without := goodIn_r _ [8] (by decide +kernel) (by decide +kernel)
set_option maxRecDepth 20000 in
theorem gX6_unlikeWithout_X6_without : GoodIn wsX6_unlikeWithout (va_wsS RX6 126 yX6_without wsX6_without) := goodIn_app (goodIn_of _ (by decide +kernel)) ggX6_unlikeWithout_X6_without
set_option maxRecDepth 20000 in
theorem ggX6_unlikeWithout_X6_note : GoodIn wsX6_unlikeWithout wsX6_note := goodIn_r _ [12, 1, 13, 14, 15, 16, 17, 18, 19, 20, 21, 22, 23, 24, 25, 26, 27, 28, 29, 30, 31, 32, 33, 34, 35, 36] (by decide +kernel) (by decide +kernel)
set_option maxRecDepth 20000 in
theorem gX6_unlikeWithout_X6_note : GoodIn wsX6_unlikeWithout (wsV RX6 122 RX6 yX6_note wsX6_note) := goodIn_app (goodIn_of _ (by decide +kernel)) ggX6_unlikeWithout_X6_note
theorem dX6_unlikeWithout_0 : decode cX6_unlikeWithout 0 = .ok (.aload_n 0, 1) := by decide +kernel
theorem dX6_unlikeWithout_1 : decode cX6_unlikeWithout 1 = .ok (.iconst 0, 1) := by decide +kernel
theorem dX6_unlikeWithout_2 : decode cX6_unlikeWithout 2 = .ok (.putfield 109, 3) := by decide +kernel
theorem dX6_unlikeWithout_5 : decode cX6_unlikeWithout 5 = .ok (.iconst 0, 1) := by decide +kernel
theorem dX6_unlikeWithout_6 : decode cX6_unlikeWithout 6 = .ok (.istore_n 2, 1) := by decide +kernel
theorem dX6_unlikeWithout_7 : decode cX6_unlikeWithout 7 = .ok (.iload_n 2, 1) := by decide +kernel
theorem dX6_unlikeWithout_8 : decode cX6_unlikeWithout 8 = .ok (.aload_n 0, 1) := by decide +kernel
theorem dX6_unlikeWithout_9 : decode cX6_unlikeWithout 9 = .ok (.getfield 81, 3) := by decide +kernel
theorem dX6_unlikeWithout_12 : decode cX6_unlikeWithout 12 = .ok (.if_icmp .ge 32, 3) := by decide +kernel
theorem dX6_unlikeWithout_15 : decode cX6_unlikeWithout 15 = .ok (.aload_n 0, 1) := by decide +kernel
theorem dX6_unlikeWithout_16 : decode cX6_unlikeWithout 16 = .ok (.getfield 44, 3) := by decide +kernel
theorem dX6_unlikeWithout_19 : decode cX6_unlikeWithout 19 = .ok (.iload_n 2, 1) := by decide +kernel
theorem dX6_unlikeWithout_20 : decode cX6_unlikeWithout 20 = .ok (.baload, 1) := by decide +kernel
theorem dX6_unlikeWithout_21 : decode cX6_unlikeWithout 21 = .ok (.ifCond .eq 17, 3) := by decide +kernel
theorem dX6_unlikeWithout_24 : decode cX6_unlikeWithout 24 = .ok (.aload_n 0, 1) := by decide +kernel
theorem dX6_unlikeWithout_25 : decode cX6_unlikeWithout 25 = .ok (.aload_n 0, 1) := by decide +kernel
theorem dX6_unlikeWithout_26 : decode cX6_unlikeWithout 26 = .ok (.getfield 17, 3) := by decide +kernel
theorem dX6_unlikeWithout_29 : decode cX6_unlikeWithout 29 = .ok (.iload_n 2, 1) := by decide +kernel
theorem dX6_unlikeWithout_30 : decode cX6_unlikeWithout 30 = .ok (.iaload, 1) := by decide +kernel
theorem dX6_unlikeWithout_31 : decode cX6_unlikeWithout 31 = .ok (.iload_n 1, 1) := by decide +kernel
theorem dX6_unlikeWithout_32 : decode cX6_unlikeWithout 32 = .ok (.invokestatic 126, 3) := by decide +kernel
theorem dX6_unlikeWithout_35 : decode cX6_unlikeWithout 35 = .ok (.invokevirtual 122, 3) := by decide +kernel
theorem dX6_unlikeWithout_38 : decode cX6_unlikeWithout 38 = .ok (.iinc 2 1, 3) := by decide +kernel
theorem dX6_unlikeWithout_41 : decode cX6_unlikeWithout 41 = .ok (.goto (-34), 3) := by decide +kernel
theorem dX6_unlikeWithout_44 : decode cX6_unlikeWithout 44 = .ok (.aload_n 0, 1) := by decide +kernel
theorem dX6_unlikeWithout_45 : decode cX6_unlikeWithout 45 = .ok (.getfield 109, 3) := by decide +kernel
theorem dX6_unlikeWithout_48 : decode cX6_unlikeWithout 48 = .ok (.ireturn, 1) := by decide +kernel
set_option maxRecDepth 20000 in
theorem ggX6_unlike_X6_in : GoodIn wsX6_unlike wsX6_in := goodIn_r _ [5] (by decide +kernel) (by decide +kernel)
set_option maxRecDepth 20000 in
theorem gX6_unlike_X6_in : GoodIn wsX6_unlike (va_wsS RX6 69 yX6_in wsX6_in) := goodIn_app (goodIn_of _ (by decide +kernel)) ggX6_unlike_X6_in
set_option maxRecDepth 20000 in
theorem ggX6_unlike_X6_isSpan : GoodIn wsX6_unlike wsX6_isSpan := goodIn_r _ [9, 10, 2, 3, 4, 5, 34, 35, 36, 37, 38, 39, 40, 41, 42, 43, 44, 45, 46, 47, 48, 49, 50, 51, 52, 53, 54, 55, 56] (by decide +kernel) (by decide +kernel)
set_option maxRecDepth 20000 in
theorem gX6_unlike_X6_isSpan : GoodIn wsX6_unlike (wsV RX6 99 RX6 yX6_isSpan wsX6_isSpan) := goodIn_app (goodIn_of _ (by decide +kernel)) ggX6_unlike_X6_isSpan
set_option maxRecDepth 20000 in
theorem ggX6_unlike_X6_look : GoodIn wsX6_unlike wsX6_look := goodIn_r _ [14, 15, 16, 17, 18, 19, 34, 35, 36, 37, 38, 39, 40, 41, 42, 43, 44, 45, 46, 47, 48, 49, 50, 51, 52, 53, 54, 55, 56] (by decide +kernel) (by decide +kernel)
set_option maxRecDepth 20000 in
theorem gX6_unlike_X6_look : GoodIn wsX6_unlike (wsV RX6 112 RX6 yX6_look wsX6_look) := goodIn_app (goodIn_of _ (by decide +kernel)) ggX6_unlike_X6_look
set_option maxRecDepth 20000 in
theorem ggX6_unlike_X6_unlikeWithout : GoodIn wsX6_unlike wsX6_unlikeWithout := goodIn_r _ [23, 24, 15, 16, 25, 26, 27, 4, 28, 29, 30, 31, 32, 33, 34, 35, 36, 37, 38, 39, 40, 41, 42, 43, 44, 45, 46, 47, 48, 49, 50, 51, 52, 53, 54, 55, 56] (by decide +kernel) (by decide +kernel)
set_option maxRecDepth 20000 in
theorem gX6_unlike_X6_unlikeWithout : GoodIn wsX6_unlike (wsV RX6 131 RX6 yX6_unlikeWithout wsX6_unlikeWithout) := goodIn_app (goodIn_of _ (by decide +kernel)) ggX6_unlike_X6_unlikeWithout
theorem dX6_unlike_0 : decode cX6_unlike 0 = .ok (.iload_n 1, 1) := by decide +kernel
theorem dX6_unlike_1 : decode cX6_unlike 1 = .ok (.i2l, 1) := by decide +kernel
theorem dX6_unlike_2 : decode cX6_unlike 2 = .ok (.lconst 0, 1) := by decide +kernel
theorem dX6_unlike_3 : decode cX6_unlike 3 = .ok (.ldc2_w 129, 3) := by decide +kernel
theorem dX6_unlike_6 : decode cX6_unlike 6 = .ok (.invokestatic 69, 3) := by decide +kernel
theorem dX6_unlike_9 : decode cX6_unlike 9 = .ok (.ifCond .eq 12, 3) := by decide +kernel
theorem dX6_unlike_12 : decode cX6_unlike 12 = .ok (.aload_n 0, 1) := by decide +kernel
theorem dX6_unlike_13 : decode cX6_unlike 13 = .ok (.iload_n 2, 1) := by decide +kernel
theorem dX6_unlike_14 : decode cX6_unlike 14 = .ok (.iload_n 3, 1) := by decide +kernel
theorem dX6_unlike_15 : decode cX6_unlike 15 = .ok (.invokevirtual 99, 3) := by decide +kernel
theorem dX6_unlike_18 : decode cX6_unlike 18 = .ok (.ifCond .ne 6, 3) := by decide +kernel
theorem dX6_unlike_21 : decode cX6_unlike 21 = .ok (.bipush (-2), 2) := by decide +kernel
theorem dX6_unlike_23 : decode cX6_unlike 23 = .ok (.ireturn, 1) := by decide +kernel
theorem dX6_unlike_24 : decode cX6_unlike 24 = .ok (.aload_n 0, 1) := by decide +kernel
theorem dX6_unlike_25 : decode cX6_unlike 25 = .ok (.iload_n 2, 1) := by decide +kernel
theorem dX6_unlike_26 : decode cX6_unlike 26 = .ok (.iload_n 3, 1) := by decide +kernel
theorem dX6_unlike_27 : decode cX6_unlike 27 = .ok (.invokevirtual 112, 3) := by decide +kernel
theorem dX6_unlike_30 : decode cX6_unlike 30 = .ok (.istore 4, 2) := by decide +kernel
theorem dX6_unlike_32 : decode cX6_unlike 32 = .ok (.aload_n 0, 1) := by decide +kernel
theorem dX6_unlike_33 : decode cX6_unlike 33 = .ok (.iload_n 1, 1) := by decide +kernel
theorem dX6_unlike_34 : decode cX6_unlike 34 = .ok (.invokevirtual 131, 3) := by decide +kernel
theorem dX6_unlike_37 : decode cX6_unlike 37 = .ok (.ireturn, 1) := by decide +kernel
set_option maxRecDepth 20000 in
theorem ggX6_shorted_X6_digit : GoodIn wsX6_shorted wsX6_digit := goodIn_r _ [6] (by decide +kernel) (by decide +kernel)
set_option maxRecDepth 20000 in
theorem gX6_shorted_X6_digit : GoodIn wsX6_shorted (va_wsS RX6 119 yX6_digit wsX6_digit) := goodIn_app (goodIn_of _ (by decide +kernel)) ggX6_shorted_X6_digit
theorem dX6_shorted_0 : decode cX6_shorted 0 = .ok (.iconst 0, 1) := by decide +kernel
theorem dX6_shorted_1 : decode cX6_shorted 1 = .ok (.istore_n 3, 1) := by decide +kernel
theorem dX6_shorted_2 : decode cX6_shorted 2 = .ok (.iconst 0, 1) := by decide +kernel
theorem dX6_shorted_3 : decode cX6_shorted 3 = .ok (.istore 4, 2) := by decide +kernel
theorem dX6_shorted_5 : decode cX6_shorted 5 = .ok (.iload 4, 2) := by decide +kernel
theorem dX6_shorted_7 : decode cX6_shorted 7 = .ok (.bipush 6, 2) := by decide +kernel
theorem dX6_shorted_9 : decode cX6_shorted 9 = .ok (.if_icmp .ge 62, 3) := by decide +kernel
theorem dX6_shorted_12 : decode cX6_shorted 12 = .ok (.aload_n 0, 1) := by decide +kernel
theorem dX6_shorted_13 : decode cX6_shorted 13 = .ok (.getfield 7, 3) := by decide +kernel
theorem dX6_shorted_16 : decode cX6_shorted 16 = .ok (.bipush 6, 2) := by decide +kernel
theorem dX6_shorted_18 : decode cX6_shorted 18 = .ok (.iload_n 2, 1) := by decide +kernel
theorem dX6_shorted_19 : decode cX6_shorted 19 = .ok (.imul, 1) := by decide +kernel
theorem dX6_shorted_20 : decode cX6_shorted 20 = .ok (.iload 4, 2) := by decide +kernel
theorem dX6_shorted_22 : decode cX6_shorted 22 = .ok (.iadd, 1) := by decide +kernel
theorem dX6_shorted_23 : decode cX6_shorted 23 = .ok (.baload, 1) := by decide +kernel
theorem dX6_shorted_24 : decode cX6_shorted 24 = .ok (.ifCond .eq 7, 3) := by decide +kernel
theorem dX6_shorted_27 : decode cX6_shorted 27 = .ok (.iconst 0, 1) := by decide +kernel
theorem dX6_shorted_28 : decode cX6_shorted 28 = .ok (.goto 25, 3) := by decide +kernel
theorem dX6_shorted_31 : decode cX6_shorted 31 = .ok (.aload_n 0, 1) := by decide +kernel
theorem dX6_shorted_32 : decode cX6_shorted 32 = .ok (.getfield 13, 3) := by decide +kernel
theorem dX6_shorted_35 : decode cX6_shorted 35 = .ok (.bipush 48, 2) := by decide +kernel
theorem dX6_shorted_37 : decode cX6_shorted 37 = .ok (.iload_n 2, 1) := by decide +kernel
theorem dX6_shorted_38 : decode cX6_shorted 38 = .ok (.imul, 1) := by decide +kernel
theorem dX6_shorted_39 : decode cX6_shorted 39 = .ok (.bipush 8, 2) := by decide +kernel
theorem dX6_shorted_41 : decode cX6_shorted 41 = .ok (.iload 4, 2) := by decide +kernel
theorem dX6_shorted_43 : decode cX6_shorted 43 = .ok (.imul, 1) := by decide +kernel
theorem dX6_shorted_44 : decode cX6_shorted 44 = .ok (.iadd, 1) := by decide +kernel
theorem dX6_shorted_45 : decode cX6_shorted 45 = .ok (.iload_n 1, 1) := by decide +kernel
theorem dX6_shorted_46 : decode cX6_shorted 46 = .ok (.iload 4, 2) := by decide +kernel
theorem dX6_shorted_48 : decode cX6_shorted 48 = .ok (.invokestatic 119, 3) := by decide +kernel
theorem dX6_shorted_51 : decode cX6_shorted 51 = .ok (.iadd, 1) := by decide +kernel
theorem dX6_shorted_52 : decode cX6_shorted 52 = .ok (.iaload, 1) := by decide +kernel
theorem dX6_shorted_53 : decode cX6_shorted 53 = .ok (.istore 5, 2) := by decide +kernel
theorem dX6_shorted_55 : decode cX6_shorted 55 = .ok (.iload_n 3, 1) := by decide +kernel
theorem dX6_shorted_56 : decode cX6_shorted 56 = .ok (.iload 5, 2) := by decide +kernel
theorem dX6_shorted_58 : decode cX6_shorted 58 = .ok (.iconst 3, 1) := by decide +kernel
theorem dX6_shorted_59 : decode cX6_shorted 59 = .ok (.iload 4, 2) := by decide +kernel
theorem dX6_shorted_61 : decode cX6_shorted 61 = .ok (.imul, 1) := by decide +kernel
theorem dX6_shorted_62 : decode cX6_shorted 62 = .ok (.ishl, 1) := by decide +kernel
theorem dX6_shorted_63 : decode cX6_shorted 63 = .ok (.ior, 1) := by decide +kernel
theorem dX6_shorted_64 : decode cX6_shorted 64 = .ok (.istore_n 3, 1) := by decide +kernel
theorem dX6_shorted_65 : decode cX6_shorted 65 = .ok (.iinc 4 1, 3) := by decide +kernel
theorem dX6_shorted_68 : decode cX6_shorted 68 = .ok (.goto (-63), 3) := by decide +kernel
theorem dX6_shorted_71 : decode cX6_shorted 71 = .ok (.iload_n 3, 1) := by decide +kernel
theorem dX6_shorted_72 : decode cX6_shorted 72 = .ok (.ireturn, 1) := by decide +kernel
set_option maxRecDepth 20000 in
theorem ggX6_kept_X6_isSpan : GoodIn wsX6_kept wsX6_isSpan := goodIn_r _ [10, 11, 12, 13, 9, 14, 29, 30, 31, 32, 33, 34, 35, 36, 37, 38, 39, 40, 41, 42, 43, 44, 45, 46, 47, 48, 49, 50, 51] (by decide +kernel) (by decide +kernel)
set_option maxRecDepth 20000 in
theorem gX6_kept_X6_isSpan : GoodIn wsX6_kept (wsV RX6 99 RX6 yX6_isSpan wsX6_isSpan) := goodIn_app (goodIn_of _ (by decide +kernel)) ggX6_kept_X6_isSpan
set_option maxRecDepth 20000 in
theorem ggX6_kept_X6_shorted : GoodIn wsX6_kept wsX6_shorted := goodIn_r _ [18, 19, 20, 21, 22, 9, 23, 29, 30, 31, 32, 33, 34, 35, 36, 37, 38, 39, 40, 41, 42, 43, 44, 45, 46, 47, 48, 49, 50, 51] (by decide +kernel) (by decide +kernel)
set_option maxRecDepth 20000 in
theorem gX6_kept_X6_shorted : GoodIn wsX6_kept (wsV RX6 134 RX6 yX6_shorted wsX6_shorted) := goodIn_app (goodIn_of _ (by decide +kernel)) ggX6_kept_X6_shorted
set_option maxRecDepth 20000 in
theorem ggX6_kept_X6_note : GoodIn wsX6_kept wsX6_note := goodIn_r _ [27, 1, 28, 29, 30, 31, 32, 33, 34, 35, 36, 37, 38, 39, 40, 41, 42, 43, 44, 45, 46, 47, 48, 49, 50, 51] (by decide +kernel) (by decide +kernel)
set_option maxRecDepth 20000 in
theorem gX6_kept_X6_note : GoodIn wsX6_kept (wsV RX6 122 RX6 yX6_note wsX6_note) := goodIn_app (goodIn_of _ (by decide +kernel)) ggX6_kept_X6_note
theorem dX6_kept_0 : decode cX6_kept 0 = .ok (.aload_n 0, 1) := by decide +kernel
theorem dX6_kept_1 : decode cX6_kept 1 = .ok (.iload_n 1, 1) := by decide +kernel
theorem dX6_kept_2 : decode cX6_kept 2 = .ok (.iload_n 2, 1) := by decide +kernel
theorem dX6_kept_3 : decode cX6_kept 3 = .ok (.invokevirtual 99, 3) := by decide +kernel
theorem dX6_kept_6 : decode cX6_kept 6 = .ok (.ifCond .ne 6, 3) := by decide +kernel
theorem dX6_kept_9 : decode cX6_kept 9 = .ok (.bipush (-2), 2) := by decide +kernel
theorem dX6_kept_11 : decode cX6_kept 11 = .ok (.ireturn, 1) := by decide +kernel
theorem dX6_kept_12 : decode cX6_kept 12 = .ok (.aload_n 0, 1) := by decide +kernel
theorem dX6_kept_13 : decode cX6_kept 13 = .ok (.iconst 0, 1) := by decide +kernel
theorem dX6_kept_14 : decode cX6_kept 14 = .ok (.putfield 109, 3) := by decide +kernel
theorem dX6_kept_17 : decode cX6_kept 17 = .ok (.iconst 0, 1) := by decide +kernel
theorem dX6_kept_18 : decode cX6_kept 18 = .ok (.istore_n 3, 1) := by decide +kernel
theorem dX6_kept_19 : decode cX6_kept 19 = .ok (.iload_n 3, 1) := by decide +kernel
theorem dX6_kept_20 : decode cX6_kept 20 = .ok (.aload_n 0, 1) := by decide +kernel
theorem dX6_kept_21 : decode cX6_kept 21 = .ok (.getfield 94, 3) := by decide +kernel
theorem dX6_kept_24 : decode cX6_kept 24 = .ok (.if_icmp .ge 54, 3) := by decide +kernel
theorem dX6_kept_27 : decode cX6_kept 27 = .ok (.aload_n 0, 1) := by decide +kernel
theorem dX6_kept_28 : decode cX6_kept 28 = .ok (.getfield 38, 3) := by decide +kernel
theorem dX6_kept_31 : decode cX6_kept 31 = .ok (.iload_n 3, 1) := by decide +kernel
theorem dX6_kept_32 : decode cX6_kept 32 = .ok (.iaload, 1) := by decide +kernel
theorem dX6_kept_33 : decode cX6_kept 33 = .ok (.iload_n 1, 1) := by decide +kernel
theorem dX6_kept_34 : decode cX6_kept 34 = .ok (.if_icmp .lt 38, 3) := by decide +kernel
theorem dX6_kept_37 : decode cX6_kept 37 = .ok (.aload_n 0, 1) := by decide +kernel
theorem dX6_kept_38 : decode cX6_kept 38 = .ok (.getfield 38, 3) := by decide +kernel
theorem dX6_kept_41 : decode cX6_kept 41 = .ok (.iload_n 3, 1) := by decide +kernel
theorem dX6_kept_42 : decode cX6_kept 42 = .ok (.iaload, 1) := by decide +kernel
theorem dX6_kept_43 : decode cX6_kept 43 = .ok (.iload_n 2, 1) := by decide +kernel
theorem dX6_kept_44 : decode cX6_kept 44 = .ok (.if_icmp .gt 28, 3) := by decide +kernel
theorem dX6_kept_47 : decode cX6_kept 47 = .ok (.aload_n 0, 1) := by decide +kernel
theorem dX6_kept_48 : decode cX6_kept 48 = .ok (.aload_n 0, 1) := by decide +kernel
theorem dX6_kept_49 : decode cX6_kept 49 = .ok (.aload_n 0, 1) := by decide +kernel
theorem dX6_kept_50 : decode cX6_kept 50 = .ok (.getfield 17, 3) := by decide +kernel
theorem dX6_kept_53 : decode cX6_kept 53 = .ok (.aload_n 0, 1) := by decide +kernel
theorem dX6_kept_54 : decode cX6_kept 54 = .ok (.getfield 35, 3) := by decide +kernel
theorem dX6_kept_57 : decode cX6_kept 57 = .ok (.iload_n 3, 1) := by decide +kernel
theorem dX6_kept_58 : decode cX6_kept 58 = .ok (.iaload, 1) := by decide +kernel
theorem dX6_kept_59 : decode cX6_kept 59 = .ok (.iaload, 1) := by decide +kernel
theorem dX6_kept_60 : decode cX6_kept 60 = .ok (.aload_n 0, 1) := by decide +kernel
theorem dX6_kept_61 : decode cX6_kept 61 = .ok (.getfield 38, 3) := by decide +kernel
theorem dX6_kept_64 : decode cX6_kept 64 = .ok (.iload_n 3, 1) := by decide +kernel
theorem dX6_kept_65 : decode cX6_kept 65 = .ok (.iaload, 1) := by decide +kernel
theorem dX6_kept_66 : decode cX6_kept 66 = .ok (.invokevirtual 134, 3) := by decide +kernel
theorem dX6_kept_69 : decode cX6_kept 69 = .ok (.invokevirtual 122, 3) := by decide +kernel
theorem dX6_kept_72 : decode cX6_kept 72 = .ok (.iinc 3 1, 3) := by decide +kernel
theorem dX6_kept_75 : decode cX6_kept 75 = .ok (.goto (-56), 3) := by decide +kernel
theorem dX6_kept_78 : decode cX6_kept 78 = .ok (.aload_n 0, 1) := by decide +kernel
theorem dX6_kept_79 : decode cX6_kept 79 = .ok (.getfield 109, 3) := by decide +kernel
theorem dX6_kept_82 : decode cX6_kept 82 = .ok (.ireturn, 1) := by decide +kernel
set_option maxRecDepth 20000 in
theorem ggX6_worst_X6_isSpan : GoodIn wsX6_worst wsX6_isSpan := goodIn_r _ [5, 6, 7, 8, 4, 9, 33, 34, 35, 36, 37, 38, 39, 40, 41, 42, 43, 44, 45, 46, 47, 48, 49, 50, 51, 52, 53, 54, 55] (by decide +kernel) (by decide +kernel)
set_option maxRecDepth 20000 in
theorem gX6_worst_X6_isSpan : GoodIn wsX6_worst (wsV RX6 99 RX6 yX6_isSpan wsX6_isSpan) := goodIn_app (goodIn_of _ (by decide +kernel)) ggX6_worst_X6_isSpan
set_option maxRecDepth 20000 in
theorem ggX6_worst_X6_look : GoodIn wsX6_worst wsX6_look := goodIn_r _ [13, 14, 15, 16, 17, 18, 33, 34, 35, 36, 37, 38, 39, 40, 41, 42, 43, 44, 45, 46, 47, 48, 49, 50, 51, 52, 53, 54, 55] (by decide +kernel) (by decide +kernel)
set_option maxRecDepth 20000 in
theorem gX6_worst_X6_look : GoodIn wsX6_worst (wsV RX6 112 RX6 yX6_look wsX6_look) := goodIn_app (goodIn_of _ (by decide +kernel)) ggX6_worst_X6_look
set_option maxRecDepth 20000 in
theorem ggX6_worst_X6_unlikeWithout : GoodIn wsX6_worst wsX6_unlikeWithout := goodIn_r _ [22, 23, 14, 15, 24, 25, 26, 4, 27, 28, 29, 30, 31, 32, 33, 34, 35, 36, 37, 38, 39, 40, 41, 42, 43, 44, 45, 46, 47, 48, 49, 50, 51, 52, 53, 54, 55] (by decide +kernel) (by decide +kernel)
set_option maxRecDepth 20000 in
theorem gX6_worst_X6_unlikeWithout : GoodIn wsX6_worst (wsV RX6 131 RX6 yX6_unlikeWithout wsX6_unlikeWithout) := goodIn_app (goodIn_of _ (by decide +kernel)) ggX6_worst_X6_unlikeWithout
theorem dX6_worst_0 : decode cX6_worst 0 = .ok (.aload_n 0, 1) := by decide +kernel
theorem dX6_worst_1 : decode cX6_worst 1 = .ok (.iload_n 1, 1) := by decide +kernel
theorem dX6_worst_2 : decode cX6_worst 2 = .ok (.iload_n 2, 1) := by decide +kernel
theorem dX6_worst_3 : decode cX6_worst 3 = .ok (.invokevirtual 99, 3) := by decide +kernel
theorem dX6_worst_6 : decode cX6_worst 6 = .ok (.ifCond .ne 6, 3) := by decide +kernel
theorem dX6_worst_9 : decode cX6_worst 9 = .ok (.bipush (-2), 2) := by decide +kernel
theorem dX6_worst_11 : decode cX6_worst 11 = .ok (.ireturn, 1) := by decide +kernel
theorem dX6_worst_12 : decode cX6_worst 12 = .ok (.aload_n 0, 1) := by decide +kernel
theorem dX6_worst_13 : decode cX6_worst 13 = .ok (.iload_n 1, 1) := by decide +kernel
theorem dX6_worst_14 : decode cX6_worst 14 = .ok (.iload_n 2, 1) := by decide +kernel
theorem dX6_worst_15 : decode cX6_worst 15 = .ok (.invokevirtual 112, 3) := by decide +kernel
theorem dX6_worst_18 : decode cX6_worst 18 = .ok (.istore_n 3, 1) := by decide +kernel
theorem dX6_worst_19 : decode cX6_worst 19 = .ok (.iconst 0, 1) := by decide +kernel
theorem dX6_worst_20 : decode cX6_worst 20 = .ok (.istore 4, 2) := by decide +kernel
theorem dX6_worst_22 : decode cX6_worst 22 = .ok (.sipush 9999, 3) := by decide +kernel
theorem dX6_worst_25 : decode cX6_worst 25 = .ok (.istore 5, 2) := by decide +kernel
theorem dX6_worst_27 : decode cX6_worst 27 = .ok (.iconst 0, 1) := by decide +kernel
theorem dX6_worst_28 : decode cX6_worst 28 = .ok (.istore 6, 2) := by decide +kernel
theorem dX6_worst_30 : decode cX6_worst 30 = .ok (.iload 6, 2) := by decide +kernel
theorem dX6_worst_32 : decode cX6_worst 32 = .ok (.bipush 6, 2) := by decide +kernel
theorem dX6_worst_34 : decode cX6_worst 34 = .ok (.if_icmp .ge 34, 3) := by decide +kernel
theorem dX6_worst_37 : decode cX6_worst 37 = .ok (.aload_n 0, 1) := by decide +kernel
theorem dX6_worst_38 : decode cX6_worst 38 = .ok (.iconst 1, 1) := by decide +kernel
theorem dX6_worst_39 : decode cX6_worst 39 = .ok (.iload 6, 2) := by decide +kernel
theorem dX6_worst_41 : decode cX6_worst 41 = .ok (.ishl, 1) := by decide +kernel
theorem dX6_worst_42 : decode cX6_worst 42 = .ok (.invokevirtual 131, 3) := by decide +kernel
theorem dX6_worst_45 : decode cX6_worst 45 = .ok (.istore 7, 2) := by decide +kernel
theorem dX6_worst_47 : decode cX6_worst 47 = .ok (.iload 7, 2) := by decide +kernel
theorem dX6_worst_49 : decode cX6_worst 49 = .ok (.iload 5, 2) := by decide +kernel
theorem dX6_worst_51 : decode cX6_worst 51 = .ok (.if_icmp .ge 11, 3) := by decide +kernel
theorem dX6_worst_54 : decode cX6_worst 54 = .ok (.iload 7, 2) := by decide +kernel
theorem dX6_worst_56 : decode cX6_worst 56 = .ok (.istore 5, 2) := by decide +kernel
theorem dX6_worst_58 : decode cX6_worst 58 = .ok (.iload 6, 2) := by decide +kernel
theorem dX6_worst_60 : decode cX6_worst 60 = .ok (.istore 4, 2) := by decide +kernel
theorem dX6_worst_62 : decode cX6_worst 62 = .ok (.iinc 6 1, 3) := by decide +kernel
theorem dX6_worst_65 : decode cX6_worst 65 = .ok (.goto (-35), 3) := by decide +kernel
theorem dX6_worst_68 : decode cX6_worst 68 = .ok (.iload 4, 2) := by decide +kernel
theorem dX6_worst_70 : decode cX6_worst 70 = .ok (.ireturn, 1) := by decide +kernel
set_option maxRecDepth 20000 in
theorem ggX6_drop_X6_isMark : GoodIn wsX6_drop wsX6_isMark := goodIn_r _ [6, 7, 8, 9, 5, 10] (by decide +kernel) (by decide +kernel)
set_option maxRecDepth 20000 in
theorem gX6_drop_X6_isMark : GoodIn wsX6_drop (va_wsS RX6 116 yX6_isMark wsX6_isMark) := goodIn_app (goodIn_of _ (by decide +kernel)) ggX6_drop_X6_isMark
theorem dX6_drop_0 : decode cX6_drop 0 = .ok (.iload_n 1, 1) := by decide +kernel
theorem dX6_drop_1 : decode cX6_drop 1 = .ok (.invokestatic 116, 3) := by decide +kernel
theorem dX6_drop_4 : decode cX6_drop 4 = .ok (.ifCond .ne 5, 3) := by decide +kernel
theorem dX6_drop_7 : decode cX6_drop 7 = .ok (.iconst (-1), 1) := by decide +kernel
theorem dX6_drop_8 : decode cX6_drop 8 = .ok (.ireturn, 1) := by decide +kernel
theorem dX6_drop_9 : decode cX6_drop 9 = .ok (.aload_n 0, 1) := by decide +kernel
theorem dX6_drop_10 : decode cX6_drop 10 = .ok (.getfield 7, 3) := by decide +kernel
theorem dX6_drop_13 : decode cX6_drop 13 = .ok (.bipush 6, 2) := by decide +kernel
theorem dX6_drop_15 : decode cX6_drop 15 = .ok (.aload_n 0, 1) := by decide +kernel
theorem dX6_drop_16 : decode cX6_drop 16 = .ok (.getfield 65, 3) := by decide +kernel
theorem dX6_drop_19 : decode cX6_drop 19 = .ok (.imul, 1) := by decide +kernel
theorem dX6_drop_20 : decode cX6_drop 20 = .ok (.iload_n 1, 1) := by decide +kernel
theorem dX6_drop_21 : decode cX6_drop 21 = .ok (.iadd, 1) := by decide +kernel
theorem dX6_drop_22 : decode cX6_drop 22 = .ok (.baload, 1) := by decide +kernel
theorem dX6_drop_23 : decode cX6_drop 23 = .ok (.ifCond .eq 7, 3) := by decide +kernel
theorem dX6_drop_26 : decode cX6_drop 26 = .ok (.iconst 1, 1) := by decide +kernel
theorem dX6_drop_27 : decode cX6_drop 27 = .ok (.goto 4, 3) := by decide +kernel
theorem dX6_drop_30 : decode cX6_drop 30 = .ok (.iconst 0, 1) := by decide +kernel
theorem dX6_drop_31 : decode cX6_drop 31 = .ok (.istore_n 3, 1) := by decide +kernel
theorem dX6_drop_32 : decode cX6_drop 32 = .ok (.aload_n 0, 1) := by decide +kernel
theorem dX6_drop_33 : decode cX6_drop 33 = .ok (.getfield 7, 3) := by decide +kernel
theorem dX6_drop_36 : decode cX6_drop 36 = .ok (.bipush 6, 2) := by decide +kernel
theorem dX6_drop_38 : decode cX6_drop 38 = .ok (.aload_n 0, 1) := by decide +kernel
theorem dX6_drop_39 : decode cX6_drop 39 = .ok (.getfield 65, 3) := by decide +kernel
theorem dX6_drop_42 : decode cX6_drop 42 = .ok (.imul, 1) := by decide +kernel
theorem dX6_drop_43 : decode cX6_drop 43 = .ok (.iload_n 1, 1) := by decide +kernel
theorem dX6_drop_44 : decode cX6_drop 44 = .ok (.iadd, 1) := by decide +kernel
theorem dX6_drop_45 : decode cX6_drop 45 = .ok (.iload_n 2, 1) := by decide +kernel
theorem dX6_drop_46 : decode cX6_drop 46 = .ok (.bastore, 1) := by decide +kernel
theorem dX6_drop_47 : decode cX6_drop 47 = .ok (.iload_n 3, 1) := by decide +kernel
theorem dX6_drop_48 : decode cX6_drop 48 = .ok (.ireturn, 1) := by decide +kernel
set_option maxRecDepth 20000 in
theorem ggX6_fold_X6_isMark : GoodIn wsX6_fold wsX6_isMark := goodIn_r _ [6, 7, 8, 9, 5, 10] (by decide +kernel) (by decide +kernel)
set_option maxRecDepth 20000 in
theorem gX6_fold_X6_isMark : GoodIn wsX6_fold (va_wsS RX6 116 yX6_isMark wsX6_isMark) := goodIn_app (goodIn_of _ (by decide +kernel)) ggX6_fold_X6_isMark
set_option maxRecDepth 20000 in
theorem ggX6_fold_X6_isValue : GoodIn wsX6_fold wsX6_isValue := goodIn_r _ [13, 14, 8, 9, 5, 10] (by decide +kernel) (by decide +kernel)
set_option maxRecDepth 20000 in
theorem gX6_fold_X6_isValue : GoodIn wsX6_fold (va_wsS RX6 137 yX6_isValue wsX6_isValue) := goodIn_app (goodIn_of _ (by decide +kernel)) ggX6_fold_X6_isValue
theorem dX6_fold_0 : decode cX6_fold 0 = .ok (.iload_n 1, 1) := by decide +kernel
theorem dX6_fold_1 : decode cX6_fold 1 = .ok (.invokestatic 116, 3) := by decide +kernel
theorem dX6_fold_4 : decode cX6_fold 4 = .ok (.ifCond .eq 17, 3) := by decide +kernel
theorem dX6_fold_7 : decode cX6_fold 7 = .ok (.iload_n 2, 1) := by decide +kernel
theorem dX6_fold_8 : decode cX6_fold 8 = .ok (.invokestatic 137, 3) := by decide +kernel
theorem dX6_fold_11 : decode cX6_fold 11 = .ok (.ifCond .eq 10, 3) := by decide +kernel
theorem dX6_fold_14 : decode cX6_fold 14 = .ok (.iload_n 3, 1) := by decide +kernel
theorem dX6_fold_15 : decode cX6_fold 15 = .ok (.invokestatic 137, 3) := by decide +kernel
theorem dX6_fold_18 : decode cX6_fold 18 = .ok (.ifCond .ne 5, 3) := by decide +kernel
theorem dX6_fold_21 : decode cX6_fold 21 = .ok (.iconst (-1), 1) := by decide +kernel
theorem dX6_fold_22 : decode cX6_fold 22 = .ok (.ireturn, 1) := by decide +kernel
theorem dX6_fold_23 : decode cX6_fold 23 = .ok (.bipush 48, 2) := by decide +kernel
theorem dX6_fold_25 : decode cX6_fold 25 = .ok (.aload_n 0, 1) := by decide +kernel
theorem dX6_fold_26 : decode cX6_fold 26 = .ok (.getfield 65, 3) := by decide +kernel
theorem dX6_fold_29 : decode cX6_fold 29 = .ok (.imul, 1) := by decide +kernel
theorem dX6_fold_30 : decode cX6_fold 30 = .ok (.bipush 8, 2) := by decide +kernel
theorem dX6_fold_32 : decode cX6_fold 32 = .ok (.iload_n 1, 1) := by decide +kernel
theorem dX6_fold_33 : decode cX6_fold 33 = .ok (.imul, 1) := by decide +kernel
theorem dX6_fold_34 : decode cX6_fold 34 = .ok (.iadd, 1) := by decide +kernel
theorem dX6_fold_35 : decode cX6_fold 35 = .ok (.istore 4, 2) := by decide +kernel
theorem dX6_fold_37 : decode cX6_fold 37 = .ok (.aload_n 0, 1) := by decide +kernel
theorem dX6_fold_38 : decode cX6_fold 38 = .ok (.getfield 13, 3) := by decide +kernel
theorem dX6_fold_41 : decode cX6_fold 41 = .ok (.iload 4, 2) := by decide +kernel
theorem dX6_fold_43 : decode cX6_fold 43 = .ok (.iload_n 2, 1) := by decide +kernel
theorem dX6_fold_44 : decode cX6_fold 44 = .ok (.iadd, 1) := by decide +kernel
theorem dX6_fold_45 : decode cX6_fold 45 = .ok (.iaload, 1) := by decide +kernel
theorem dX6_fold_46 : decode cX6_fold 46 = .ok (.istore 5, 2) := by decide +kernel
theorem dX6_fold_48 : decode cX6_fold 48 = .ok (.aload_n 0, 1) := by decide +kernel
theorem dX6_fold_49 : decode cX6_fold 49 = .ok (.getfield 13, 3) := by decide +kernel
theorem dX6_fold_52 : decode cX6_fold 52 = .ok (.iload 4, 2) := by decide +kernel
theorem dX6_fold_54 : decode cX6_fold 54 = .ok (.iload_n 3, 1) := by decide +kernel
theorem dX6_fold_55 : decode cX6_fold 55 = .ok (.iadd, 1) := by decide +kernel
theorem dX6_fold_56 : decode cX6_fold 56 = .ok (.iaload, 1) := by decide +kernel
theorem dX6_fold_57 : decode cX6_fold 57 = .ok (.istore 6, 2) := by decide +kernel
theorem dX6_fold_59 : decode cX6_fold 59 = .ok (.iload 5, 2) := by decide +kernel
theorem dX6_fold_61 : decode cX6_fold 61 = .ok (.iload 6, 2) := by decide +kernel
theorem dX6_fold_63 : decode cX6_fold 63 = .ok (.if_icmp .ge 8, 3) := by decide +kernel
theorem dX6_fold_66 : decode cX6_fold 66 = .ok (.iload 5, 2) := by decide +kernel
theorem dX6_fold_68 : decode cX6_fold 68 = .ok (.goto 5, 3) := by decide +kernel
theorem dX6_fold_71 : decode cX6_fold 71 = .ok (.iload 6, 2) := by decide +kernel
theorem dX6_fold_73 : decode cX6_fold 73 = .ok (.istore 7, 2) := by decide +kernel
theorem dX6_fold_75 : decode cX6_fold 75 = .ok (.iconst 0, 1) := by decide +kernel
theorem dX6_fold_76 : decode cX6_fold 76 = .ok (.istore 8, 2) := by decide +kernel
theorem dX6_fold_78 : decode cX6_fold 78 = .ok (.iload 8, 2) := by decide +kernel
theorem dX6_fold_80 : decode cX6_fold 80 = .ok (.bipush 8, 2) := by decide +kernel
theorem dX6_fold_82 : decode cX6_fold 82 = .ok (.if_icmp .ge 51, 3) := by decide +kernel
theorem dX6_fold_85 : decode cX6_fold 85 = .ok (.aload_n 0, 1) := by decide +kernel
theorem dX6_fold_86 : decode cX6_fold 86 = .ok (.getfield 13, 3) := by decide +kernel
theorem dX6_fold_89 : decode cX6_fold 89 = .ok (.iload 4, 2) := by decide +kernel
theorem dX6_fold_91 : decode cX6_fold 91 = .ok (.iload 8, 2) := by decide +kernel
theorem dX6_fold_93 : decode cX6_fold 93 = .ok (.iadd, 1) := by decide +kernel
theorem dX6_fold_94 : decode cX6_fold 94 = .ok (.iaload, 1) := by decide +kernel
theorem dX6_fold_95 : decode cX6_fold 95 = .ok (.iload 5, 2) := by decide +kernel
theorem dX6_fold_97 : decode cX6_fold 97 = .ok (.if_icmp .eq 18, 3) := by decide +kernel
theorem dX6_fold_100 : decode cX6_fold 100 = .ok (.aload_n 0, 1) := by decide +kernel
theorem dX6_fold_101 : decode cX6_fold 101 = .ok (.getfield 13, 3) := by decide +kernel
theorem dX6_fold_104 : decode cX6_fold 104 = .ok (.iload 4, 2) := by decide +kernel
theorem dX6_fold_106 : decode cX6_fold 106 = .ok (.iload 8, 2) := by decide +kernel
theorem dX6_fold_108 : decode cX6_fold 108 = .ok (.iadd, 1) := by decide +kernel
theorem dX6_fold_109 : decode cX6_fold 109 = .ok (.iaload, 1) := by decide +kernel
theorem dX6_fold_110 : decode cX6_fold 110 = .ok (.iload 6, 2) := by decide +kernel
theorem dX6_fold_112 : decode cX6_fold 112 = .ok (.if_icmp .ne 15, 3) := by decide +kernel
theorem dX6_fold_115 : decode cX6_fold 115 = .ok (.aload_n 0, 1) := by decide +kernel
theorem dX6_fold_116 : decode cX6_fold 116 = .ok (.getfield 13, 3) := by decide +kernel
theorem dX6_fold_119 : decode cX6_fold 119 = .ok (.iload 4, 2) := by decide +kernel
theorem dX6_fold_121 : decode cX6_fold 121 = .ok (.iload 8, 2) := by decide +kernel
theorem dX6_fold_123 : decode cX6_fold 123 = .ok (.iadd, 1) := by decide +kernel
theorem dX6_fold_124 : decode cX6_fold 124 = .ok (.iload 7, 2) := by decide +kernel
theorem dX6_fold_126 : decode cX6_fold 126 = .ok (.iastore, 1) := by decide +kernel
theorem dX6_fold_127 : decode cX6_fold 127 = .ok (.iinc 8 1, 3) := by decide +kernel
theorem dX6_fold_130 : decode cX6_fold 130 = .ok (.goto (-52), 3) := by decide +kernel
theorem dX6_fold_133 : decode cX6_fold 133 = .ok (.iload 7, 2) := by decide +kernel
theorem dX6_fold_135 : decode cX6_fold 135 = .ok (.ireturn, 1) := by decide +kernel
set_option maxRecDepth 20000 in
theorem ggX6_dropped_X6_isMark : GoodIn wsX6_dropped wsX6_isMark := goodIn_r _ [6, 7, 8, 9, 5, 10] (by decide +kernel) (by decide +kernel)
set_option maxRecDepth 20000 in
theorem gX6_dropped_X6_isMark : GoodIn wsX6_dropped (va_wsS RX6 116 yX6_isMark wsX6_isMark) := goodIn_app (goodIn_of _ (by decide +kernel)) ggX6_dropped_X6_isMark
set_option maxRecDepth 20000 in
theorem ggX6_dropped_X6_in : GoodIn wsX6_dropped wsX6_in := goodIn_r _ [10] (by decide +kernel) (by decide +kernel)
set_option maxRecDepth 20000 in
theorem gX6_dropped_X6_in : GoodIn wsX6_dropped (va_wsS RX6 69 yX6_in wsX6_in) := goodIn_app (goodIn_of _ (by decide +kernel)) ggX6_dropped_X6_in
theorem dX6_dropped_0 : decode cX6_dropped 0 = .ok (.iload_n 1, 1) := by decide +kernel
theorem dX6_dropped_1 : decode cX6_dropped 1 = .ok (.invokestatic 116, 3) := by decide +kernel
theorem dX6_dropped_4 : decode cX6_dropped 4 = .ok (.ifCond .ne 5, 3) := by decide +kernel
theorem dX6_dropped_7 : decode cX6_dropped 7 = .ok (.iconst (-1), 1) := by decide +kernel
theorem dX6_dropped_8 : decode cX6_dropped 8 = .ok (.ireturn, 1) := by decide +kernel
theorem dX6_dropped_9 : decode cX6_dropped 9 = .ok (.iload_n 2, 1) := by decide +kernel
theorem dX6_dropped_10 : decode cX6_dropped 10 = .ok (.i2l, 1) := by decide +kernel
theorem dX6_dropped_11 : decode cX6_dropped 11 = .ok (.lconst 0, 1) := by decide +kernel
theorem dX6_dropped_12 : decode cX6_dropped 12 = .ok (.aload_n 0, 1) := by decide +kernel
theorem dX6_dropped_13 : decode cX6_dropped 13 = .ok (.getfield 65, 3) := by decide +kernel
theorem dX6_dropped_16 : decode cX6_dropped 16 = .ok (.i2l, 1) := by decide +kernel
theorem dX6_dropped_17 : decode cX6_dropped 17 = .ok (.invokestatic 69, 3) := by decide +kernel
theorem dX6_dropped_20 : decode cX6_dropped 20 = .ok (.ifCond .ne 8, 3) := by decide +kernel
theorem dX6_dropped_23 : decode cX6_dropped 23 = .ok (.bipush (-2), 2) := by decide +kernel
theorem dX6_dropped_25 : decode cX6_dropped 25 = .ok (.goto 22, 3) := by decide +kernel
theorem dX6_dropped_28 : decode cX6_dropped 28 = .ok (.aload_n 0, 1) := by decide +kernel
theorem dX6_dropped_29 : decode cX6_dropped 29 = .ok (.getfield 7, 3) := by decide +kernel
theorem dX6_dropped_32 : decode cX6_dropped 32 = .ok (.bipush 6, 2) := by decide +kernel
theorem dX6_dropped_34 : decode cX6_dropped 34 = .ok (.iload_n 2, 1) := by decide +kernel
theorem dX6_dropped_35 : decode cX6_dropped 35 = .ok (.imul, 1) := by decide +kernel
theorem dX6_dropped_36 : decode cX6_dropped 36 = .ok (.iload_n 1, 1) := by decide +kernel
theorem dX6_dropped_37 : decode cX6_dropped 37 = .ok (.iadd, 1) := by decide +kernel
theorem dX6_dropped_38 : decode cX6_dropped 38 = .ok (.baload, 1) := by decide +kernel
theorem dX6_dropped_39 : decode cX6_dropped 39 = .ok (.ifCond .eq 7, 3) := by decide +kernel
theorem dX6_dropped_42 : decode cX6_dropped 42 = .ok (.iconst 1, 1) := by decide +kernel
theorem dX6_dropped_43 : decode cX6_dropped 43 = .ok (.goto 4, 3) := by decide +kernel
theorem dX6_dropped_46 : decode cX6_dropped 46 = .ok (.iconst 0, 1) := by decide +kernel
theorem dX6_dropped_47 : decode cX6_dropped 47 = .ok (.ireturn, 1) := by decide +kernel
set_option maxRecDepth 20000 in
theorem ggX6_chief_X6_isMark : GoodIn wsX6_chief wsX6_isMark := goodIn_r _ [6, 7, 8, 9, 5, 10] (by decide +kernel) (by decide +kernel)
set_option maxRecDepth 20000 in
theorem gX6_chief_X6_isMark : GoodIn wsX6_chief (va_wsS RX6 116 yX6_isMark wsX6_isMark) := goodIn_app (goodIn_of _ (by decide +kernel)) ggX6_chief_X6_isMark
set_option maxRecDepth 20000 in
theorem ggX6_chief_X6_isValue : GoodIn wsX6_chief wsX6_isValue := goodIn_r _ [13, 14, 8, 9, 5, 10] (by decide +kernel) (by decide +kernel)
set_option maxRecDepth 20000 in
theorem gX6_chief_X6_isValue : GoodIn wsX6_chief (va_wsS RX6 137 yX6_isValue wsX6_isValue) := goodIn_app (goodIn_of _ (by decide +kernel)) ggX6_chief_X6_isValue
set_option maxRecDepth 20000 in
theorem ggX6_chief_X6_in : GoodIn wsX6_chief wsX6_in := goodIn_r _ [10] (by decide +kernel) (by decide +kernel)
set_option maxRecDepth 20000 in
theorem gX6_chief_X6_in : GoodIn wsX6_chief (va_wsS RX6 69 yX6_in wsX6_in) := goodIn_app (goodIn_of _ (by decide +kernel)) ggX6_chief_X6_in
theorem dX6_chief_0 : decode cX6_chief 0 = .ok (.iload_n 1, 1) := by decide +kernel
theorem dX6_chief_1 : decode cX6_chief 1 = .ok (.invokestatic 116, 3) := by decide +kernel
theorem dX6_chief_4 : decode cX6_chief 4 = .ok (.ifCond .eq 10, 3) := by decide +kernel
theorem dX6_chief_7 : decode cX6_chief 7 = .ok (.iload_n 2, 1) := by decide +kernel
theorem dX6_chief_8 : decode cX6_chief 8 = .ok (.invokestatic 137, 3) := by decide +kernel
theorem dX6_chief_11 : decode cX6_chief 11 = .ok (.ifCond .ne 5, 3) := by decide +kernel
theorem dX6_chief_14 : decode cX6_chief 14 = .ok (.iconst (-1), 1) := by decide +kernel
theorem dX6_chief_15 : decode cX6_chief 15 = .ok (.ireturn, 1) := by decide +kernel
theorem dX6_chief_16 : decode cX6_chief 16 = .ok (.iload_n 3, 1) := by decide +kernel
theorem dX6_chief_17 : decode cX6_chief 17 = .ok (.i2l, 1) := by decide +kernel
theorem dX6_chief_18 : decode cX6_chief 18 = .ok (.lconst 0, 1) := by decide +kernel
theorem dX6_chief_19 : decode cX6_chief 19 = .ok (.aload_n 0, 1) := by decide +kernel
theorem dX6_chief_20 : decode cX6_chief 20 = .ok (.getfield 65, 3) := by decide +kernel
theorem dX6_chief_23 : decode cX6_chief 23 = .ok (.i2l, 1) := by decide +kernel
theorem dX6_chief_24 : decode cX6_chief 24 = .ok (.invokestatic 69, 3) := by decide +kernel
theorem dX6_chief_27 : decode cX6_chief 27 = .ok (.ifCond .eq 22, 3) := by decide +kernel
theorem dX6_chief_30 : decode cX6_chief 30 = .ok (.aload_n 0, 1) := by decide +kernel
theorem dX6_chief_31 : decode cX6_chief 31 = .ok (.getfield 13, 3) := by decide +kernel
theorem dX6_chief_34 : decode cX6_chief 34 = .ok (.bipush 48, 2) := by decide +kernel
theorem dX6_chief_36 : decode cX6_chief 36 = .ok (.iload_n 3, 1) := by decide +kernel
theorem dX6_chief_37 : decode cX6_chief 37 = .ok (.imul, 1) := by decide +kernel
theorem dX6_chief_38 : decode cX6_chief 38 = .ok (.bipush 8, 2) := by decide +kernel
theorem dX6_chief_40 : decode cX6_chief 40 = .ok (.iload_n 1, 1) := by decide +kernel
theorem dX6_chief_41 : decode cX6_chief 41 = .ok (.imul, 1) := by decide +kernel
theorem dX6_chief_42 : decode cX6_chief 42 = .ok (.iadd, 1) := by decide +kernel
theorem dX6_chief_43 : decode cX6_chief 43 = .ok (.iload_n 2, 1) := by decide +kernel
theorem dX6_chief_44 : decode cX6_chief 44 = .ok (.iadd, 1) := by decide +kernel
theorem dX6_chief_45 : decode cX6_chief 45 = .ok (.iaload, 1) := by decide +kernel
theorem dX6_chief_46 : decode cX6_chief 46 = .ok (.goto 5, 3) := by decide +kernel
theorem dX6_chief_49 : decode cX6_chief 49 = .ok (.bipush (-2), 2) := by decide +kernel
theorem dX6_chief_51 : decode cX6_chief 51 = .ok (.ireturn, 1) := by decide +kernel
set_option maxRecDepth 20000 in
theorem ggX6_shortAt_X6_isName : GoodIn wsX6_shortAt wsX6_isName := goodIn_r _ [5, 6, 7, 8, 4, 9] (by decide +kernel) (by decide +kernel)
set_option maxRecDepth 20000 in
theorem gX6_shortAt_X6_isName : GoodIn wsX6_shortAt (va_wsS RX6 84 yX6_isName wsX6_isName) := goodIn_app (goodIn_of _ (by decide +kernel)) ggX6_shortAt_X6_isName
set_option maxRecDepth 20000 in
theorem ggX6_shortAt_X6_in : GoodIn wsX6_shortAt wsX6_in := goodIn_r _ [9] (by decide +kernel) (by decide +kernel)
set_option maxRecDepth 20000 in
theorem gX6_shortAt_X6_in : GoodIn wsX6_shortAt (va_wsS RX6 69 yX6_in wsX6_in) := goodIn_app (goodIn_of _ (by decide +kernel)) ggX6_shortAt_X6_in
set_option maxRecDepth 20000 in
theorem ggX6_shortAt_X6_shorted : GoodIn wsX6_shortAt wsX6_shorted := goodIn_r _ [13, 14, 15, 16, 17, 4, 18, 19, 20, 21, 22, 23, 24, 25, 26, 27, 28, 29, 30, 31, 32, 33, 34, 35, 36, 37, 38, 39, 40, 41] (by decide +kernel) (by decide +kernel)
set_option maxRecDepth 20000 in
theorem gX6_shortAt_X6_shorted : GoodIn wsX6_shortAt (wsV RX6 134 RX6 yX6_shorted wsX6_shorted) := goodIn_app (goodIn_of _ (by decide +kernel)) ggX6_shortAt_X6_shorted
theorem dX6_shortAt_0 : decode cX6_shortAt 0 = .ok (.iload_n 1, 1) := by decide +kernel
theorem dX6_shortAt_1 : decode cX6_shortAt 1 = .ok (.invokestatic 84, 3) := by decide +kernel
theorem dX6_shortAt_4 : decode cX6_shortAt 4 = .ok (.ifCond .eq 26, 3) := by decide +kernel
theorem dX6_shortAt_7 : decode cX6_shortAt 7 = .ok (.iload_n 2, 1) := by decide +kernel
theorem dX6_shortAt_8 : decode cX6_shortAt 8 = .ok (.i2l, 1) := by decide +kernel
theorem dX6_shortAt_9 : decode cX6_shortAt 9 = .ok (.lconst 0, 1) := by decide +kernel
theorem dX6_shortAt_10 : decode cX6_shortAt 10 = .ok (.aload_n 0, 1) := by decide +kernel
theorem dX6_shortAt_11 : decode cX6_shortAt 11 = .ok (.getfield 65, 3) := by decide +kernel
theorem dX6_shortAt_14 : decode cX6_shortAt 14 = .ok (.i2l, 1) := by decide +kernel
theorem dX6_shortAt_15 : decode cX6_shortAt 15 = .ok (.invokestatic 69, 3) := by decide +kernel
theorem dX6_shortAt_18 : decode cX6_shortAt 18 = .ok (.ifCond .eq 12, 3) := by decide +kernel
theorem dX6_shortAt_21 : decode cX6_shortAt 21 = .ok (.aload_n 0, 1) := by decide +kernel
theorem dX6_shortAt_22 : decode cX6_shortAt 22 = .ok (.iload_n 1, 1) := by decide +kernel
theorem dX6_shortAt_23 : decode cX6_shortAt 23 = .ok (.iload_n 2, 1) := by decide +kernel
theorem dX6_shortAt_24 : decode cX6_shortAt 24 = .ok (.invokevirtual 134, 3) := by decide +kernel
theorem dX6_shortAt_27 : decode cX6_shortAt 27 = .ok (.goto 5, 3) := by decide +kernel
theorem dX6_shortAt_30 : decode cX6_shortAt 30 = .ok (.bipush (-2), 2) := by decide +kernel
theorem dX6_shortAt_32 : decode cX6_shortAt 32 = .ok (.ireturn, 1) := by decide +kernel
set_option maxRecDepth 20000 in
theorem ggX6_ask_X6_in : GoodIn wsX6_ask wsX6_in := goodIn_r _ [10] (by decide +kernel) (by decide +kernel)
set_option maxRecDepth 20000 in
theorem gX6_ask_X6_in : GoodIn wsX6_ask (va_wsS RX6 69 yX6_in wsX6_in) := goodIn_app (goodIn_of _ (by decide +kernel)) ggX6_ask_X6_in
set_option maxRecDepth 20000 in
theorem ggX6_ask_X6_isMark : GoodIn wsX6_ask wsX6_isMark := goodIn_r _ [13, 14, 7, 8, 9, 10] (by decide +kernel) (by decide +kernel)
set_option maxRecDepth 20000 in
theorem gX6_ask_X6_isMark : GoodIn wsX6_ask (va_wsS RX6 116 yX6_isMark wsX6_isMark) := goodIn_app (goodIn_of _ (by decide +kernel)) ggX6_ask_X6_isMark
set_option maxRecDepth 20000 in
theorem ggX6_ask_X6_isValue : GoodIn wsX6_ask wsX6_isValue := goodIn_r _ [17, 18, 7, 8, 9, 10] (by decide +kernel) (by decide +kernel)
set_option maxRecDepth 20000 in
theorem gX6_ask_X6_isValue : GoodIn wsX6_ask (va_wsS RX6 137 yX6_isValue wsX6_isValue) := goodIn_app (goodIn_of _ (by decide +kernel)) ggX6_ask_X6_isValue
theorem dX6_ask_0 : decode cX6_ask 0 = .ok (.iload_n 1, 1) := by decide +kernel
theorem dX6_ask_1 : decode cX6_ask 1 = .ok (.i2l, 1) := by decide +kernel
theorem dX6_ask_2 : decode cX6_ask 2 = .ok (.lconst 0, 1) := by decide +kernel
theorem dX6_ask_3 : decode cX6_ask 3 = .ok (.ldc2_w 129, 3) := by decide +kernel
theorem dX6_ask_6 : decode cX6_ask 6 = .ok (.invokestatic 69, 3) := by decide +kernel
theorem dX6_ask_9 : decode cX6_ask 9 = .ok (.ifCond .ne 6, 3) := by decide +kernel
theorem dX6_ask_12 : decode cX6_ask 12 = .ok (.bipush (-2), 2) := by decide +kernel
theorem dX6_ask_14 : decode cX6_ask 14 = .ok (.ireturn, 1) := by decide +kernel
theorem dX6_ask_15 : decode cX6_ask 15 = .ok (.iload_n 2, 1) := by decide +kernel
theorem dX6_ask_16 : decode cX6_ask 16 = .ok (.bipush (-9), 2) := by decide +kernel
theorem dX6_ask_18 : decode cX6_ask 18 = .ok (.if_icmp .eq 19, 3) := by decide +kernel
theorem dX6_ask_21 : decode cX6_ask 21 = .ok (.iload_n 2, 1) := by decide +kernel
theorem dX6_ask_22 : decode cX6_ask 22 = .ok (.invokestatic 116, 3) := by decide +kernel
theorem dX6_ask_25 : decode cX6_ask 25 = .ok (.ifCond .eq 10, 3) := by decide +kernel
theorem dX6_ask_28 : decode cX6_ask 28 = .ok (.iload_n 3, 1) := by decide +kernel
theorem dX6_ask_29 : decode cX6_ask 29 = .ok (.invokestatic 137, 3) := by decide +kernel
theorem dX6_ask_32 : decode cX6_ask 32 = .ok (.ifCond .ne 5, 3) := by decide +kernel
theorem dX6_ask_35 : decode cX6_ask 35 = .ok (.iconst (-1), 1) := by decide +kernel
theorem dX6_ask_36 : decode cX6_ask 36 = .ok (.ireturn, 1) := by decide +kernel
theorem dX6_ask_37 : decode cX6_ask 37 = .ok (.iload_n 2, 1) := by decide +kernel
theorem dX6_ask_38 : decode cX6_ask 38 = .ok (.bipush (-9), 2) := by decide +kernel
theorem dX6_ask_40 : decode cX6_ask 40 = .ok (.if_icmp .eq 14, 3) := by decide +kernel
theorem dX6_ask_43 : decode cX6_ask 43 = .ok (.iload_n 1, 1) := by decide +kernel
theorem dX6_ask_44 : decode cX6_ask 44 = .ok (.iload_n 2, 1) := by decide +kernel
theorem dX6_ask_45 : decode cX6_ask 45 = .ok (.ishr, 1) := by decide +kernel
theorem dX6_ask_46 : decode cX6_ask 46 = .ok (.iconst 1, 1) := by decide +kernel
theorem dX6_ask_47 : decode cX6_ask 47 = .ok (.iand, 1) := by decide +kernel
theorem dX6_ask_48 : decode cX6_ask 48 = .ok (.ifCond .ne 6, 3) := by decide +kernel
theorem dX6_ask_51 : decode cX6_ask 51 = .ok (.bipush (-3), 2) := by decide +kernel
theorem dX6_ask_53 : decode cX6_ask 53 = .ok (.ireturn, 1) := by decide +kernel
theorem dX6_ask_54 : decode cX6_ask 54 = .ok (.aload_n 0, 1) := by decide +kernel
theorem dX6_ask_55 : decode cX6_ask 55 = .ok (.getfield 140, 3) := by decide +kernel
theorem dX6_ask_58 : decode cX6_ask 58 = .ok (.bipush 10, 2) := by decide +kernel
theorem dX6_ask_60 : decode cX6_ask 60 = .ok (.if_icmp .ne 6, 3) := by decide +kernel
theorem dX6_ask_63 : decode cX6_ask 63 = .ok (.bipush (-4), 2) := by decide +kernel
theorem dX6_ask_65 : decode cX6_ask 65 = .ok (.ireturn, 1) := by decide +kernel
theorem dX6_ask_66 : decode cX6_ask 66 = .ok (.aload_n 0, 1) := by decide +kernel
theorem dX6_ask_67 : decode cX6_ask 67 = .ok (.getfield 50, 3) := by decide +kernel
theorem dX6_ask_70 : decode cX6_ask 70 = .ok (.aload_n 0, 1) := by decide +kernel
theorem dX6_ask_71 : decode cX6_ask 71 = .ok (.getfield 140, 3) := by decide +kernel
theorem dX6_ask_74 : decode cX6_ask 74 = .ok (.iload_n 1, 1) := by decide +kernel
theorem dX6_ask_75 : decode cX6_ask 75 = .ok (.iastore, 1) := by decide +kernel
theorem dX6_ask_76 : decode cX6_ask 76 = .ok (.aload_n 0, 1) := by decide +kernel
theorem dX6_ask_77 : decode cX6_ask 77 = .ok (.getfield 53, 3) := by decide +kernel
theorem dX6_ask_80 : decode cX6_ask 80 = .ok (.aload_n 0, 1) := by decide +kernel
theorem dX6_ask_81 : decode cX6_ask 81 = .ok (.getfield 140, 3) := by decide +kernel
theorem dX6_ask_84 : decode cX6_ask 84 = .ok (.iload_n 2, 1) := by decide +kernel
theorem dX6_ask_85 : decode cX6_ask 85 = .ok (.iastore, 1) := by decide +kernel
theorem dX6_ask_86 : decode cX6_ask 86 = .ok (.aload_n 0, 1) := by decide +kernel
theorem dX6_ask_87 : decode cX6_ask 87 = .ok (.getfield 56, 3) := by decide +kernel
theorem dX6_ask_90 : decode cX6_ask 90 = .ok (.aload_n 0, 1) := by decide +kernel
theorem dX6_ask_91 : decode cX6_ask 91 = .ok (.getfield 140, 3) := by decide +kernel
theorem dX6_ask_94 : decode cX6_ask 94 = .ok (.iload_n 2, 1) := by decide +kernel
theorem dX6_ask_95 : decode cX6_ask 95 = .ok (.bipush (-9), 2) := by decide +kernel
theorem dX6_ask_97 : decode cX6_ask 97 = .ok (.if_icmp .ne 7, 3) := by decide +kernel
theorem dX6_ask_100 : decode cX6_ask 100 = .ok (.iconst 0, 1) := by decide +kernel
theorem dX6_ask_101 : decode cX6_ask 101 = .ok (.goto 4, 3) := by decide +kernel
theorem dX6_ask_104 : decode cX6_ask 104 = .ok (.iload_n 3, 1) := by decide +kernel
theorem dX6_ask_105 : decode cX6_ask 105 = .ok (.iastore, 1) := by decide +kernel
theorem dX6_ask_106 : decode cX6_ask 106 = .ok (.aload_n 0, 1) := by decide +kernel
theorem dX6_ask_107 : decode cX6_ask 107 = .ok (.getfield 59, 3) := by decide +kernel
theorem dX6_ask_110 : decode cX6_ask 110 = .ok (.aload_n 0, 1) := by decide +kernel
theorem dX6_ask_111 : decode cX6_ask 111 = .ok (.getfield 140, 3) := by decide +kernel
theorem dX6_ask_114 : decode cX6_ask 114 = .ok (.iconst 0, 1) := by decide +kernel
theorem dX6_ask_115 : decode cX6_ask 115 = .ok (.iastore, 1) := by decide +kernel
theorem dX6_ask_116 : decode cX6_ask 116 = .ok (.aload_n 0, 1) := by decide +kernel
theorem dX6_ask_117 : decode cX6_ask 117 = .ok (.dup, 1) := by decide +kernel
theorem dX6_ask_118 : decode cX6_ask 118 = .ok (.getfield 140, 3) := by decide +kernel
theorem dX6_ask_121 : decode cX6_ask 121 = .ok (.iconst 1, 1) := by decide +kernel
theorem dX6_ask_122 : decode cX6_ask 122 = .ok (.iadd, 1) := by decide +kernel
theorem dX6_ask_123 : decode cX6_ask 123 = .ok (.putfield 140, 3) := by decide +kernel
theorem dX6_ask_126 : decode cX6_ask 126 = .ok (.aload_n 0, 1) := by decide +kernel
theorem dX6_ask_127 : decode cX6_ask 127 = .ok (.getfield 140, 3) := by decide +kernel
theorem dX6_ask_130 : decode cX6_ask 130 = .ok (.iconst 1, 1) := by decide +kernel
theorem dX6_ask_131 : decode cX6_ask 131 = .ok (.isub, 1) := by decide +kernel
theorem dX6_ask_132 : decode cX6_ask 132 = .ok (.ireturn, 1) := by decide +kernel
set_option maxRecDepth 20000 in
theorem ggX6_isAsking_X6_in : GoodIn wsX6_isAsking wsX6_in := goodIn_r _ [5] (by decide +kernel) (by decide +kernel)
set_option maxRecDepth 20000 in
theorem gX6_isAsking_X6_in : GoodIn wsX6_isAsking (va_wsS RX6 69 yX6_in wsX6_in) := goodIn_app (goodIn_of _ (by decide +kernel)) ggX6_isAsking_X6_in
theorem dX6_isAsking_0 : decode cX6_isAsking 0 = .ok (.iload_n 1, 1) := by decide +kernel
theorem dX6_isAsking_1 : decode cX6_isAsking 1 = .ok (.i2l, 1) := by decide +kernel
theorem dX6_isAsking_2 : decode cX6_isAsking 2 = .ok (.lconst 0, 1) := by decide +kernel
theorem dX6_isAsking_3 : decode cX6_isAsking 3 = .ok (.aload_n 0, 1) := by decide +kernel
theorem dX6_isAsking_4 : decode cX6_isAsking 4 = .ok (.getfield 140, 3) := by decide +kernel
theorem dX6_isAsking_7 : decode cX6_isAsking 7 = .ok (.iconst 1, 1) := by decide +kernel
theorem dX6_isAsking_8 : decode cX6_isAsking 8 = .ok (.isub, 1) := by decide +kernel
theorem dX6_isAsking_9 : decode cX6_isAsking 9 = .ok (.i2l, 1) := by decide +kernel
theorem dX6_isAsking_10 : decode cX6_isAsking 10 = .ok (.invokestatic 69, 3) := by decide +kernel
theorem dX6_isAsking_13 : decode cX6_isAsking 13 = .ok (.ireturn, 1) := by decide +kernel
set_option maxRecDepth 20000 in
theorem ggX6_isWanted_X6_digit : GoodIn wsX6_isWanted wsX6_digit := goodIn_r _ [6] (by decide +kernel) (by decide +kernel)
set_option maxRecDepth 20000 in
theorem gX6_isWanted_X6_digit : GoodIn wsX6_isWanted (va_wsS RX6 119 yX6_digit wsX6_digit) := goodIn_app (goodIn_of _ (by decide +kernel)) ggX6_isWanted_X6_digit
theorem dX6_isWanted_0 : decode cX6_isWanted 0 = .ok (.aload_n 0, 1) := by decide +kernel
theorem dX6_isWanted_1 : decode cX6_isWanted 1 = .ok (.getfield 53, 3) := by decide +kernel
theorem dX6_isWanted_4 : decode cX6_isWanted 4 = .ok (.iload_n 1, 1) := by decide +kernel
theorem dX6_isWanted_5 : decode cX6_isWanted 5 = .ok (.iaload, 1) := by decide +kernel
theorem dX6_isWanted_6 : decode cX6_isWanted 6 = .ok (.bipush (-9), 2) := by decide +kernel
theorem dX6_isWanted_8 : decode cX6_isWanted 8 = .ok (.if_icmp .eq 22, 3) := by decide +kernel
theorem dX6_isWanted_11 : decode cX6_isWanted 11 = .ok (.iload_n 2, 1) := by decide +kernel
theorem dX6_isWanted_12 : decode cX6_isWanted 12 = .ok (.aload_n 0, 1) := by decide +kernel
theorem dX6_isWanted_13 : decode cX6_isWanted 13 = .ok (.getfield 53, 3) := by decide +kernel
theorem dX6_isWanted_16 : decode cX6_isWanted 16 = .ok (.iload_n 1, 1) := by decide +kernel
theorem dX6_isWanted_17 : decode cX6_isWanted 17 = .ok (.iaload, 1) := by decide +kernel
theorem dX6_isWanted_18 : decode cX6_isWanted 18 = .ok (.invokestatic 119, 3) := by decide +kernel
theorem dX6_isWanted_21 : decode cX6_isWanted 21 = .ok (.aload_n 0, 1) := by decide +kernel
theorem dX6_isWanted_22 : decode cX6_isWanted 22 = .ok (.getfield 56, 3) := by decide +kernel
theorem dX6_isWanted_25 : decode cX6_isWanted 25 = .ok (.iload_n 1, 1) := by decide +kernel
theorem dX6_isWanted_26 : decode cX6_isWanted 26 = .ok (.iaload, 1) := by decide +kernel
theorem dX6_isWanted_27 : decode cX6_isWanted 27 = .ok (.if_icmp .ne 7, 3) := by decide +kernel
theorem dX6_isWanted_30 : decode cX6_isWanted 30 = .ok (.iconst 1, 1) := by decide +kernel
theorem dX6_isWanted_31 : decode cX6_isWanted 31 = .ok (.goto 4, 3) := by decide +kernel
theorem dX6_isWanted_34 : decode cX6_isWanted 34 = .ok (.iconst 0, 1) := by decide +kernel
theorem dX6_isWanted_35 : decode cX6_isWanted 35 = .ok (.ireturn, 1) := by decide +kernel
set_option maxRecDepth 20000 in
theorem ggX6_keyOf_X6_without : GoodIn wsX6_keyOf wsX6_without := goodIn_r _ [5] (by decide +kernel) (by decide +kernel)
set_option maxRecDepth 20000 in
theorem gX6_keyOf_X6_without : GoodIn wsX6_keyOf (va_wsS RX6 126 yX6_without wsX6_without) := goodIn_app (goodIn_of _ (by decide +kernel)) ggX6_keyOf_X6_without
theorem dX6_keyOf_0 : decode cX6_keyOf 0 = .ok (.iload_n 2, 1) := by decide +kernel
theorem dX6_keyOf_1 : decode cX6_keyOf 1 = .ok (.bipush 63, 2) := by decide +kernel
theorem dX6_keyOf_3 : decode cX6_keyOf 3 = .ok (.aload_n 0, 1) := by decide +kernel
theorem dX6_keyOf_4 : decode cX6_keyOf 4 = .ok (.getfield 50, 3) := by decide +kernel
theorem dX6_keyOf_7 : decode cX6_keyOf 7 = .ok (.iload_n 1, 1) := by decide +kernel
theorem dX6_keyOf_8 : decode cX6_keyOf 8 = .ok (.iaload, 1) := by decide +kernel
theorem dX6_keyOf_9 : decode cX6_keyOf 9 = .ok (.iconst (-1), 1) := by decide +kernel
theorem dX6_keyOf_10 : decode cX6_keyOf 10 = .ok (.ixor, 1) := by decide +kernel
theorem dX6_keyOf_11 : decode cX6_keyOf 11 = .ok (.iand, 1) := by decide +kernel
theorem dX6_keyOf_12 : decode cX6_keyOf 12 = .ok (.invokestatic 126, 3) := by decide +kernel
theorem dX6_keyOf_15 : decode cX6_keyOf 15 = .ok (.ireturn, 1) := by decide +kernel
set_option maxRecDepth 20000 in
theorem ggX6_answer_X6_isAsking : GoodIn wsX6_answer wsX6_isAsking := goodIn_r _ [12, 13, 14, 15, 11, 16, 43, 44, 45, 46, 47, 48, 49, 50, 51, 52, 53, 54, 55, 56, 57, 58, 59, 60, 61, 62, 63, 64, 65] (by decide +kernel) (by decide +kernel)
set_option maxRecDepth 20000 in
theorem gX6_answer_X6_isAsking : GoodIn wsX6_answer (wsV RX6 143 RX6 yX6_isAsking wsX6_isAsking) := goodIn_app (goodIn_of _ (by decide +kernel)) ggX6_answer_X6_isAsking
set_option maxRecDepth 20000 in
theorem ggX6_answer_X6_isName : GoodIn wsX6_answer wsX6_isName := goodIn_r _ [19, 20, 14, 15, 11, 16] (by decide +kernel) (by decide +kernel)
set_option maxRecDepth 20000 in
theorem gX6_answer_X6_isName : GoodIn wsX6_answer (va_wsS RX6 84 yX6_isName wsX6_isName) := goodIn_app (goodIn_of _ (by decide +kernel)) ggX6_answer_X6_isName
set_option maxRecDepth 20000 in
theorem ggX6_answer_X6_keyOf : GoodIn wsX6_answer wsX6_keyOf := goodIn_r _ [24, 25, 26, 27, 11, 28, 43, 44, 45, 46, 47, 48, 49, 50, 51, 52, 53, 54, 55, 56, 57, 58, 59, 60, 61, 62, 63, 64, 65] (by decide +kernel) (by decide +kernel)
set_option maxRecDepth 20000 in
theorem gX6_answer_X6_keyOf : GoodIn wsX6_answer (wsV RX6 146 RX6 yX6_keyOf wsX6_keyOf) := goodIn_app (goodIn_of _ (by decide +kernel)) ggX6_answer_X6_keyOf
set_option maxRecDepth 20000 in
theorem ggX6_answer_X6_isWanted : GoodIn wsX6_answer wsX6_isWanted := goodIn_r _ [32, 33, 34, 35, 36, 11, 37, 43, 44, 45, 46, 47, 48, 49, 50, 51, 52, 53, 54, 55, 56, 57, 58, 59, 60, 61, 62, 63, 64, 65] (by decide +kernel) (by decide +kernel)
set_option maxRecDepth 20000 in
theorem gX6_answer_X6_isWanted : GoodIn wsX6_answer (wsV RX6 149 RX6 yX6_isWanted wsX6_isWanted) := goodIn_app (goodIn_of _ (by decide +kernel)) ggX6_answer_X6_isWanted
set_option maxRecDepth 20000 in
theorem ggX6_answer_X6_isSpan : GoodIn wsX6_answer wsX6_isSpan := goodIn_r _ [41, 42, 14, 15, 11, 16, 43, 44, 45, 46, 47, 48, 49, 50, 51, 52, 53, 54, 55, 56, 57, 58, 59, 60, 61, 62, 63, 64, 65] (by decide +kernel) (by decide +kernel)
set_option maxRecDepth 20000 in
theorem gX6_answer_X6_isSpan : GoodIn wsX6_answer (wsV RX6 99 RX6 yX6_isSpan wsX6_isSpan) := goodIn_app (goodIn_of _ (by decide +kernel)) ggX6_answer_X6_isSpan
theorem dX6_answer_0 : decode cX6_answer 0 = .ok (.aload_n 0, 1) := by decide +kernel
theorem dX6_answer_1 : decode cX6_answer 1 = .ok (.iload_n 1, 1) := by decide +kernel
theorem dX6_answer_2 : decode cX6_answer 2 = .ok (.invokevirtual 143, 3) := by decide +kernel
theorem dX6_answer_5 : decode cX6_answer 5 = .ok (.ifCond .ne 7, 3) := by decide +kernel
theorem dX6_answer_8 : decode cX6_answer 8 = .ok (.ldc2_w 97, 3) := by decide +kernel
theorem dX6_answer_11 : decode cX6_answer 11 = .ok (.lreturn, 1) := by decide +kernel
theorem dX6_answer_12 : decode cX6_answer 12 = .ok (.iload_n 2, 1) := by decide +kernel
theorem dX6_answer_13 : decode cX6_answer 13 = .ok (.invokestatic 84, 3) := by decide +kernel
theorem dX6_answer_16 : decode cX6_answer 16 = .ok (.ifCond .eq 32, 3) := by decide +kernel
theorem dX6_answer_19 : decode cX6_answer 19 = .ok (.aload_n 0, 1) := by decide +kernel
theorem dX6_answer_20 : decode cX6_answer 20 = .ok (.iload_n 1, 1) := by decide +kernel
theorem dX6_answer_21 : decode cX6_answer 21 = .ok (.iload_n 2, 1) := by decide +kernel
theorem dX6_answer_22 : decode cX6_answer 22 = .ok (.invokevirtual 146, 3) := by decide +kernel
theorem dX6_answer_25 : decode cX6_answer 25 = .ok (.iload_n 2, 1) := by decide +kernel
theorem dX6_answer_26 : decode cX6_answer 26 = .ok (.if_icmp .ne 22, 3) := by decide +kernel
theorem dX6_answer_29 : decode cX6_answer 29 = .ok (.aload_n 0, 1) := by decide +kernel
theorem dX6_answer_30 : decode cX6_answer 30 = .ok (.iload_n 1, 1) := by decide +kernel
theorem dX6_answer_31 : decode cX6_answer 31 = .ok (.iload_n 2, 1) := by decide +kernel
theorem dX6_answer_32 : decode cX6_answer 32 = .ok (.invokevirtual 149, 3) := by decide +kernel
theorem dX6_answer_35 : decode cX6_answer 35 = .ok (.ifCond .eq 13, 3) := by decide +kernel
theorem dX6_answer_38 : decode cX6_answer 38 = .ok (.aload_n 0, 1) := by decide +kernel
theorem dX6_answer_39 : decode cX6_answer 39 = .ok (.iload_n 3, 1) := by decide +kernel
theorem dX6_answer_40 : decode cX6_answer 40 = .ok (.iload 4, 2) := by decide +kernel
theorem dX6_answer_42 : decode cX6_answer 42 = .ok (.invokevirtual 99, 3) := by decide +kernel
theorem dX6_answer_45 : decode cX6_answer 45 = .ok (.ifCond .ne 7, 3) := by decide +kernel
theorem dX6_answer_48 : decode cX6_answer 48 = .ok (.ldc2_w 107, 3) := by decide +kernel
theorem dX6_answer_51 : decode cX6_answer 51 = .ok (.lreturn, 1) := by decide +kernel
theorem dX6_answer_52 : decode cX6_answer 52 = .ok (.lconst 0, 1) := by decide +kernel
theorem dX6_answer_53 : decode cX6_answer 53 = .ok (.lstore 5, 2) := by decide +kernel
theorem dX6_answer_55 : decode cX6_answer 55 = .ok (.iconst 0, 1) := by decide +kernel
theorem dX6_answer_56 : decode cX6_answer 56 = .ok (.istore 7, 2) := by decide +kernel
theorem dX6_answer_58 : decode cX6_answer 58 = .ok (.iload 7, 2) := by decide +kernel
theorem dX6_answer_60 : decode cX6_answer 60 = .ok (.aload_n 0, 1) := by decide +kernel
theorem dX6_answer_61 : decode cX6_answer 61 = .ok (.getfield 94, 3) := by decide +kernel
theorem dX6_answer_64 : decode cX6_answer 64 = .ok (.if_icmp .ge 82, 3) := by decide +kernel
theorem dX6_answer_67 : decode cX6_answer 67 = .ok (.aload_n 0, 1) := by decide +kernel
theorem dX6_answer_68 : decode cX6_answer 68 = .ok (.getfield 38, 3) := by decide +kernel
theorem dX6_answer_71 : decode cX6_answer 71 = .ok (.iload 7, 2) := by decide +kernel
theorem dX6_answer_73 : decode cX6_answer 73 = .ok (.iaload, 1) := by decide +kernel
theorem dX6_answer_74 : decode cX6_answer 74 = .ok (.iload_n 3, 1) := by decide +kernel
theorem dX6_answer_75 : decode cX6_answer 75 = .ok (.if_icmp .lt 40, 3) := by decide +kernel
theorem dX6_answer_78 : decode cX6_answer 78 = .ok (.aload_n 0, 1) := by decide +kernel
theorem dX6_answer_79 : decode cX6_answer 79 = .ok (.getfield 38, 3) := by decide +kernel
theorem dX6_answer_82 : decode cX6_answer 82 = .ok (.iload 7, 2) := by decide +kernel
theorem dX6_answer_84 : decode cX6_answer 84 = .ok (.iaload, 1) := by decide +kernel
theorem dX6_answer_85 : decode cX6_answer 85 = .ok (.iload 4, 2) := by decide +kernel
theorem dX6_answer_87 : decode cX6_answer 87 = .ok (.if_icmp .gt 28, 3) := by decide +kernel
theorem dX6_answer_90 : decode cX6_answer 90 = .ok (.aload_n 0, 1) := by decide +kernel
theorem dX6_answer_91 : decode cX6_answer 91 = .ok (.iload_n 1, 1) := by decide +kernel
theorem dX6_answer_92 : decode cX6_answer 92 = .ok (.aload_n 0, 1) := by decide +kernel
theorem dX6_answer_93 : decode cX6_answer 93 = .ok (.getfield 17, 3) := by decide +kernel
theorem dX6_answer_96 : decode cX6_answer 96 = .ok (.aload_n 0, 1) := by decide +kernel
theorem dX6_answer_97 : decode cX6_answer 97 = .ok (.getfield 35, 3) := by decide +kernel
theorem dX6_answer_100 : decode cX6_answer 100 = .ok (.iload 7, 2) := by decide +kernel
theorem dX6_answer_102 : decode cX6_answer 102 = .ok (.iaload, 1) := by decide +kernel
theorem dX6_answer_103 : decode cX6_answer 103 = .ok (.iaload, 1) := by decide +kernel
theorem dX6_answer_104 : decode cX6_answer 104 = .ok (.invokevirtual 146, 3) := by decide +kernel
theorem dX6_answer_107 : decode cX6_answer 107 = .ok (.iload_n 2, 1) := by decide +kernel
theorem dX6_answer_108 : decode cX6_answer 108 = .ok (.if_icmp .ne 7, 3) := by decide +kernel
theorem dX6_answer_111 : decode cX6_answer 111 = .ok (.iconst 1, 1) := by decide +kernel
theorem dX6_answer_112 : decode cX6_answer 112 = .ok (.goto 4, 3) := by decide +kernel
theorem dX6_answer_115 : decode cX6_answer 115 = .ok (.iconst 0, 1) := by decide +kernel
theorem dX6_answer_116 : decode cX6_answer 116 = .ok (.istore 8, 2) := by decide +kernel
theorem dX6_answer_118 : decode cX6_answer 118 = .ok (.lload 5, 2) := by decide +kernel
theorem dX6_answer_120 : decode cX6_answer 120 = .ok (.iload 8, 2) := by decide +kernel
theorem dX6_answer_122 : decode cX6_answer 122 = .ok (.ifCond .eq 14, 3) := by decide +kernel
theorem dX6_answer_125 : decode cX6_answer 125 = .ok (.aload_n 0, 1) := by decide +kernel
theorem dX6_answer_126 : decode cX6_answer 126 = .ok (.getfield 41, 3) := by decide +kernel
theorem dX6_answer_129 : decode cX6_answer 129 = .ok (.iload 7, 2) := by decide +kernel
theorem dX6_answer_131 : decode cX6_answer 131 = .ok (.iaload, 1) := by decide +kernel
theorem dX6_answer_132 : decode cX6_answer 132 = .ok (.i2l, 1) := by decide +kernel
theorem dX6_answer_133 : decode cX6_answer 133 = .ok (.goto 4, 3) := by decide +kernel
theorem dX6_answer_136 : decode cX6_answer 136 = .ok (.lconst 0, 1) := by decide +kernel
theorem dX6_answer_137 : decode cX6_answer 137 = .ok (.ladd, 1) := by decide +kernel
theorem dX6_answer_138 : decode cX6_answer 138 = .ok (.lstore 5, 2) := by decide +kernel
theorem dX6_answer_140 : decode cX6_answer 140 = .ok (.iinc 7 1, 3) := by decide +kernel
theorem dX6_answer_143 : decode cX6_answer 143 = .ok (.goto (-85), 3) := by decide +kernel
theorem dX6_answer_146 : decode cX6_answer 146 = .ok (.lload 5, 2) := by decide +kernel
theorem dX6_answer_148 : decode cX6_answer 148 = .ok (.lreturn, 1) := by decide +kernel
set_option maxRecDepth 20000 in
theorem ggX6_findKeys_X6_look : GoodIn wsX6_findKeys wsX6_look := goodIn_r _ [9, 2, 3, 10, 11, 12, 35, 36, 37, 38, 39, 40, 41, 42, 43, 44, 45, 46, 47, 48, 49, 50, 51, 52, 53, 54, 55, 56, 57] (by decide +kernel) (by decide +kernel)
set_option maxRecDepth 20000 in
theorem gX6_findKeys_X6_look : GoodIn wsX6_findKeys (wsV RX6 112 RX6 yX6_look wsX6_look) := goodIn_app (goodIn_of _ (by decide +kernel)) ggX6_findKeys_X6_look
set_option maxRecDepth 20000 in
theorem ggX6_findKeys_X6_isWanted : GoodIn wsX6_findKeys wsX6_isWanted := goodIn_r _ [16, 17, 18, 19, 20, 8, 21, 35, 36, 37, 38, 39, 40, 41, 42, 43, 44, 45, 46, 47, 48, 49, 50, 51, 52, 53, 54, 55, 56, 57] (by decide +kernel) (by decide +kernel)
set_option maxRecDepth 20000 in
theorem gX6_findKeys_X6_isWanted : GoodIn wsX6_findKeys (wsV RX6 149 RX6 yX6_isWanted wsX6_isWanted) := goodIn_app (goodIn_of _ (by decide +kernel)) ggX6_findKeys_X6_isWanted
set_option maxRecDepth 20000 in
theorem ggX6_findKeys_X6_keyOf : GoodIn wsX6_findKeys wsX6_keyOf := goodIn_r _ [25, 26, 27, 28, 8, 29, 35, 36, 37, 38, 39, 40, 41, 42, 43, 44, 45, 46, 47, 48, 49, 50, 51, 52, 53, 54, 55, 56, 57] (by decide +kernel) (by decide +kernel)
set_option maxRecDepth 20000 in
theorem gX6_findKeys_X6_keyOf : GoodIn wsX6_findKeys (wsV RX6 146 RX6 yX6_keyOf wsX6_keyOf) := goodIn_app (goodIn_of _ (by decide +kernel)) ggX6_findKeys_X6_keyOf
set_option maxRecDepth 20000 in
theorem ggX6_findKeys_X6_note : GoodIn wsX6_findKeys wsX6_note := goodIn_r _ [33, 1, 34, 35, 36, 37, 38, 39, 40, 41, 42, 43, 44, 45, 46, 47, 48, 49, 50, 51, 52, 53, 54, 55, 56, 57] (by decide +kernel) (by decide +kernel)
set_option maxRecDepth 20000 in
theorem gX6_findKeys_X6_note : GoodIn wsX6_findKeys (wsV RX6 122 RX6 yX6_note wsX6_note) := goodIn_app (goodIn_of _ (by decide +kernel)) ggX6_findKeys_X6_note
theorem dX6_findKeys_0 : decode cX6_findKeys 0 = .ok (.aload_n 0, 1) := by decide +kernel
theorem dX6_findKeys_1 : decode cX6_findKeys 1 = .ok (.iload_n 2, 1) := by decide +kernel
theorem dX6_findKeys_2 : decode cX6_findKeys 2 = .ok (.iload_n 3, 1) := by decide +kernel
theorem dX6_findKeys_3 : decode cX6_findKeys 3 = .ok (.invokevirtual 112, 3) := by decide +kernel
theorem dX6_findKeys_6 : decode cX6_findKeys 6 = .ok (.istore 4, 2) := by decide +kernel
theorem dX6_findKeys_8 : decode cX6_findKeys 8 = .ok (.aload_n 0, 1) := by decide +kernel
theorem dX6_findKeys_9 : decode cX6_findKeys 9 = .ok (.iconst 0, 1) := by decide +kernel
theorem dX6_findKeys_10 : decode cX6_findKeys 10 = .ok (.putfield 109, 3) := by decide +kernel
theorem dX6_findKeys_13 : decode cX6_findKeys 13 = .ok (.iconst 0, 1) := by decide +kernel
theorem dX6_findKeys_14 : decode cX6_findKeys 14 = .ok (.istore 5, 2) := by decide +kernel
theorem dX6_findKeys_16 : decode cX6_findKeys 16 = .ok (.iload 5, 2) := by decide +kernel
theorem dX6_findKeys_18 : decode cX6_findKeys 18 = .ok (.aload_n 0, 1) := by decide +kernel
theorem dX6_findKeys_19 : decode cX6_findKeys 19 = .ok (.getfield 81, 3) := by decide +kernel
theorem dX6_findKeys_22 : decode cX6_findKeys 22 = .ok (.if_icmp .ge 50, 3) := by decide +kernel
theorem dX6_findKeys_25 : decode cX6_findKeys 25 = .ok (.aload_n 0, 1) := by decide +kernel
theorem dX6_findKeys_26 : decode cX6_findKeys 26 = .ok (.getfield 44, 3) := by decide +kernel
theorem dX6_findKeys_29 : decode cX6_findKeys 29 = .ok (.iload 5, 2) := by decide +kernel
theorem dX6_findKeys_31 : decode cX6_findKeys 31 = .ok (.baload, 1) := by decide +kernel
theorem dX6_findKeys_32 : decode cX6_findKeys 32 = .ok (.ifCond .eq 34, 3) := by decide +kernel
theorem dX6_findKeys_35 : decode cX6_findKeys 35 = .ok (.aload_n 0, 1) := by decide +kernel
theorem dX6_findKeys_36 : decode cX6_findKeys 36 = .ok (.iload_n 1, 1) := by decide +kernel
theorem dX6_findKeys_37 : decode cX6_findKeys 37 = .ok (.aload_n 0, 1) := by decide +kernel
theorem dX6_findKeys_38 : decode cX6_findKeys 38 = .ok (.getfield 17, 3) := by decide +kernel
theorem dX6_findKeys_41 : decode cX6_findKeys 41 = .ok (.iload 5, 2) := by decide +kernel
theorem dX6_findKeys_43 : decode cX6_findKeys 43 = .ok (.iaload, 1) := by decide +kernel
theorem dX6_findKeys_44 : decode cX6_findKeys 44 = .ok (.invokevirtual 149, 3) := by decide +kernel
theorem dX6_findKeys_47 : decode cX6_findKeys 47 = .ok (.ifCond .eq 19, 3) := by decide +kernel
theorem dX6_findKeys_50 : decode cX6_findKeys 50 = .ok (.aload_n 0, 1) := by decide +kernel
theorem dX6_findKeys_51 : decode cX6_findKeys 51 = .ok (.aload_n 0, 1) := by decide +kernel
theorem dX6_findKeys_52 : decode cX6_findKeys 52 = .ok (.iload_n 1, 1) := by decide +kernel
theorem dX6_findKeys_53 : decode cX6_findKeys 53 = .ok (.aload_n 0, 1) := by decide +kernel
theorem dX6_findKeys_54 : decode cX6_findKeys 54 = .ok (.getfield 17, 3) := by decide +kernel
theorem dX6_findKeys_57 : decode cX6_findKeys 57 = .ok (.iload 5, 2) := by decide +kernel
theorem dX6_findKeys_59 : decode cX6_findKeys 59 = .ok (.iaload, 1) := by decide +kernel
theorem dX6_findKeys_60 : decode cX6_findKeys 60 = .ok (.invokevirtual 146, 3) := by decide +kernel
theorem dX6_findKeys_63 : decode cX6_findKeys 63 = .ok (.invokevirtual 122, 3) := by decide +kernel
theorem dX6_findKeys_66 : decode cX6_findKeys 66 = .ok (.iinc 5 1, 3) := by decide +kernel
theorem dX6_findKeys_69 : decode cX6_findKeys 69 = .ok (.goto (-53), 3) := by decide +kernel
theorem dX6_findKeys_72 : decode cX6_findKeys 72 = .ok (.aload_n 0, 1) := by decide +kernel
theorem dX6_findKeys_73 : decode cX6_findKeys 73 = .ok (.getfield 109, 3) := by decide +kernel
theorem dX6_findKeys_76 : decode cX6_findKeys 76 = .ok (.ireturn, 1) := by decide +kernel
set_option maxRecDepth 20000 in
theorem ggX6_keys_X6_isAsking : GoodIn wsX6_keys wsX6_isAsking := goodIn_r _ [5, 6, 7, 8, 4, 9, 52, 53, 54, 55, 56, 57, 58, 59, 60, 61, 62, 63, 64, 65, 66, 67, 68, 69, 70, 71, 72, 73, 74] (by decide +kernel) (by decide +kernel)
set_option maxRecDepth 20000 in
theorem gX6_keys_X6_isAsking : GoodIn wsX6_keys (wsV RX6 143 RX6 yX6_isAsking wsX6_isAsking) := goodIn_app (goodIn_of _ (by decide +kernel)) ggX6_keys_X6_isAsking
set_option maxRecDepth 20000 in
theorem ggX6_keys_X6_isSpan : GoodIn wsX6_keys wsX6_isSpan := goodIn_r _ [13, 14, 7, 8, 4, 9, 52, 53, 54, 55, 56, 57, 58, 59, 60, 61, 62, 63, 64, 65, 66, 67, 68, 69, 70, 71, 72, 73, 74] (by decide +kernel) (by decide +kernel)
set_option maxRecDepth 20000 in
theorem gX6_keys_X6_isSpan : GoodIn wsX6_keys (wsV RX6 99 RX6 yX6_isSpan wsX6_isSpan) := goodIn_app (goodIn_of _ (by decide +kernel)) ggX6_keys_X6_isSpan
set_option maxRecDepth 20000 in
theorem ggX6_keys_X6_findKeys : GoodIn wsX6_keys wsX6_findKeys := goodIn_r _ [18, 19, 20, 21, 22, 23, 24, 25, 4, 26, 27, 28, 29, 30, 31, 32, 33, 34, 35, 36, 37, 38, 39, 40, 41, 42, 43, 44, 45, 46, 47, 48, 49, 50, 51, 52, 53, 54, 55, 56, 57, 58, 59, 60, 61, 62, 63, 64, 65, 66, 67, 68, 69, 70, 71, 72, 73, 74] (by decide +kernel) (by decide +kernel)
set_option maxRecDepth 20000 in
theorem gX6_keys_X6_findKeys : GoodIn wsX6_keys (wsV RX6 152 RX6 yX6_findKeys wsX6_findKeys) := goodIn_app (goodIn_of _ (by decide +kernel)) ggX6_keys_X6_findKeys
theorem dX6_keys_0 : decode cX6_keys 0 = .ok (.aload_n 0, 1) := by decide +kernel
theorem dX6_keys_1 : decode cX6_keys 1 = .ok (.iload_n 1, 1) := by decide +kernel
theorem dX6_keys_2 : decode cX6_keys 2 = .ok (.invokevirtual 143, 3) := by decide +kernel
theorem dX6_keys_5 : decode cX6_keys 5 = .ok (.ifCond .ne 5, 3) := by decide +kernel
theorem dX6_keys_8 : decode cX6_keys 8 = .ok (.iconst (-1), 1) := by decide +kernel
theorem dX6_keys_9 : decode cX6_keys 9 = .ok (.ireturn, 1) := by decide +kernel
theorem dX6_keys_10 : decode cX6_keys 10 = .ok (.aload_n 0, 1) := by decide +kernel
theorem dX6_keys_11 : decode cX6_keys 11 = .ok (.iload_n 2, 1) := by decide +kernel
theorem dX6_keys_12 : decode cX6_keys 12 = .ok (.iload_n 3, 1) := by decide +kernel
theorem dX6_keys_13 : decode cX6_keys 13 = .ok (.invokevirtual 99, 3) := by decide +kernel
theorem dX6_keys_16 : decode cX6_keys 16 = .ok (.ifCond .eq 13, 3) := by decide +kernel
theorem dX6_keys_19 : decode cX6_keys 19 = .ok (.aload_n 0, 1) := by decide +kernel
theorem dX6_keys_20 : decode cX6_keys 20 = .ok (.iload_n 1, 1) := by decide +kernel
theorem dX6_keys_21 : decode cX6_keys 21 = .ok (.iload_n 2, 1) := by decide +kernel
theorem dX6_keys_22 : decode cX6_keys 22 = .ok (.iload_n 3, 1) := by decide +kernel
theorem dX6_keys_23 : decode cX6_keys 23 = .ok (.invokevirtual 152, 3) := by decide +kernel
theorem dX6_keys_26 : decode cX6_keys 26 = .ok (.goto 5, 3) := by decide +kernel
theorem dX6_keys_29 : decode cX6_keys 29 = .ok (.bipush (-2), 2) := by decide +kernel
theorem dX6_keys_31 : decode cX6_keys 31 = .ok (.ireturn, 1) := by decide +kernel
set_option maxRecDepth 20000 in
theorem ggX6_key_X6_isAsking : GoodIn wsX6_key wsX6_isAsking := goodIn_r _ [6, 7, 8, 9, 5, 10, 52, 53, 54, 55, 56, 57, 58, 59, 60, 61, 62, 63, 64, 65, 66, 67, 68, 69, 70, 71, 72, 73, 74] (by decide +kernel) (by decide +kernel)
set_option maxRecDepth 20000 in
theorem gX6_key_X6_isAsking : GoodIn wsX6_key (wsV RX6 143 RX6 yX6_isAsking wsX6_isAsking) := goodIn_app (goodIn_of _ (by decide +kernel)) ggX6_key_X6_isAsking
set_option maxRecDepth 20000 in
theorem ggX6_key_X6_isSpan : GoodIn wsX6_key wsX6_isSpan := goodIn_r _ [14, 15, 8, 9, 5, 10, 52, 53, 54, 55, 56, 57, 58, 59, 60, 61, 62, 63, 64, 65, 66, 67, 68, 69, 70, 71, 72, 73, 74] (by decide +kernel) (by decide +kernel)
set_option maxRecDepth 20000 in
theorem gX6_key_X6_isSpan : GoodIn wsX6_key (wsV RX6 99 RX6 yX6_isSpan wsX6_isSpan) := goodIn_app (goodIn_of _ (by decide +kernel)) ggX6_key_X6_isSpan
set_option maxRecDepth 20000 in
theorem ggX6_key_X6_findKeys : GoodIn wsX6_key wsX6_findKeys := goodIn_r _ [19, 20, 21, 22, 23, 24, 25, 26, 5, 27, 28, 29, 30, 31, 32, 33, 34, 35, 36, 37, 38, 39, 40, 41, 42, 43, 44, 45, 46, 47, 48, 49, 50, 51, 1, 52, 53, 54, 55, 56, 57, 58, 59, 60, 61, 62, 63, 64, 65, 66, 67, 68, 69, 70, 71, 72, 73, 74] (by decide +kernel) (by decide +kernel)
set_option maxRecDepth 20000 in
theorem gX6_key_X6_findKeys : GoodIn wsX6_key (wsV RX6 152 RX6 yX6_findKeys wsX6_findKeys) := goodIn_app (goodIn_of _ (by decide +kernel)) ggX6_key_X6_findKeys
set_option maxRecDepth 20000 in
theorem ggX6_key_X6_in : GoodIn wsX6_key wsX6_in := goodIn_r _ [10] (by decide +kernel) (by decide +kernel)
set_option maxRecDepth 20000 in
theorem gX6_key_X6_in : GoodIn wsX6_key (va_wsS RX6 69 yX6_in wsX6_in) := goodIn_app (goodIn_of _ (by decide +kernel)) ggX6_key_X6_in
theorem dX6_key_0 : decode cX6_key 0 = .ok (.aload_n 0, 1) := by decide +kernel
theorem dX6_key_1 : decode cX6_key 1 = .ok (.iload_n 1, 1) := by decide +kernel
theorem dX6_key_2 : decode cX6_key 2 = .ok (.invokevirtual 143, 3) := by decide +kernel
theorem dX6_key_5 : decode cX6_key 5 = .ok (.ifCond .ne 5, 3) := by decide +kernel
theorem dX6_key_8 : decode cX6_key 8 = .ok (.iconst (-1), 1) := by decide +kernel
theorem dX6_key_9 : decode cX6_key 9 = .ok (.ireturn, 1) := by decide +kernel
theorem dX6_key_10 : decode cX6_key 10 = .ok (.aload_n 0, 1) := by decide +kernel
theorem dX6_key_11 : decode cX6_key 11 = .ok (.iload_n 3, 1) := by decide +kernel
theorem dX6_key_12 : decode cX6_key 12 = .ok (.iload 4, 2) := by decide +kernel
theorem dX6_key_14 : decode cX6_key 14 = .ok (.invokevirtual 99, 3) := by decide +kernel
theorem dX6_key_17 : decode cX6_key 17 = .ok (.ifCond .ne 6, 3) := by decide +kernel
theorem dX6_key_20 : decode cX6_key 20 = .ok (.bipush (-2), 2) := by decide +kernel
theorem dX6_key_22 : decode cX6_key 22 = .ok (.ireturn, 1) := by decide +kernel
theorem dX6_key_23 : decode cX6_key 23 = .ok (.aload_n 0, 1) := by decide +kernel
theorem dX6_key_24 : decode cX6_key 24 = .ok (.iload_n 1, 1) := by decide +kernel
theorem dX6_key_25 : decode cX6_key 25 = .ok (.iload_n 3, 1) := by decide +kernel
theorem dX6_key_26 : decode cX6_key 26 = .ok (.iload 4, 2) := by decide +kernel
theorem dX6_key_28 : decode cX6_key 28 = .ok (.invokevirtual 152, 3) := by decide +kernel
theorem dX6_key_31 : decode cX6_key 31 = .ok (.istore 5, 2) := by decide +kernel
theorem dX6_key_33 : decode cX6_key 33 = .ok (.iload_n 2, 1) := by decide +kernel
theorem dX6_key_34 : decode cX6_key 34 = .ok (.i2l, 1) := by decide +kernel
theorem dX6_key_35 : decode cX6_key 35 = .ok (.lconst 0, 1) := by decide +kernel
theorem dX6_key_36 : decode cX6_key 36 = .ok (.iload 5, 2) := by decide +kernel
theorem dX6_key_38 : decode cX6_key 38 = .ok (.iconst 1, 1) := by decide +kernel
theorem dX6_key_39 : decode cX6_key 39 = .ok (.isub, 1) := by decide +kernel
theorem dX6_key_40 : decode cX6_key 40 = .ok (.i2l, 1) := by decide +kernel
theorem dX6_key_41 : decode cX6_key 41 = .ok (.invokestatic 69, 3) := by decide +kernel
theorem dX6_key_44 : decode cX6_key 44 = .ok (.ifCond .eq 12, 3) := by decide +kernel
theorem dX6_key_47 : decode cX6_key 47 = .ok (.aload_n 0, 1) := by decide +kernel
theorem dX6_key_48 : decode cX6_key 48 = .ok (.getfield 47, 3) := by decide +kernel
theorem dX6_key_51 : decode cX6_key 51 = .ok (.iload_n 2, 1) := by decide +kernel
theorem dX6_key_52 : decode cX6_key 52 = .ok (.iaload, 1) := by decide +kernel
theorem dX6_key_53 : decode cX6_key 53 = .ok (.goto 5, 3) := by decide +kernel
theorem dX6_key_56 : decode cX6_key 56 = .ok (.bipush (-9), 2) := by decide +kernel
theorem dX6_key_58 : decode cX6_key 58 = .ok (.ireturn, 1) := by decide +kernel
theorem dX6_lacksAt_0 : decode cX6_lacksAt 0 = .ok (.iconst 0, 1) := by decide +kernel
theorem dX6_lacksAt_1 : decode cX6_lacksAt 1 = .ok (.istore_n 3, 1) := by decide +kernel
theorem dX6_lacksAt_2 : decode cX6_lacksAt 2 = .ok (.iconst 0, 1) := by decide +kernel
theorem dX6_lacksAt_3 : decode cX6_lacksAt 3 = .ok (.istore 4, 2) := by decide +kernel
theorem dX6_lacksAt_5 : decode cX6_lacksAt 5 = .ok (.iload 4, 2) := by decide +kernel
theorem dX6_lacksAt_7 : decode cX6_lacksAt 7 = .ok (.bipush 6, 2) := by decide +kernel
theorem dX6_lacksAt_9 : decode cX6_lacksAt 9 = .ok (.if_icmp .ge 49, 3) := by decide +kernel
theorem dX6_lacksAt_12 : decode cX6_lacksAt 12 = .ok (.iload_n 3, 1) := by decide +kernel
theorem dX6_lacksAt_13 : decode cX6_lacksAt 13 = .ok (.ifCond .ne 33, 3) := by decide +kernel
theorem dX6_lacksAt_16 : decode cX6_lacksAt 16 = .ok (.aload_n 0, 1) := by decide +kernel
theorem dX6_lacksAt_17 : decode cX6_lacksAt 17 = .ok (.getfield 50, 3) := by decide +kernel
theorem dX6_lacksAt_20 : decode cX6_lacksAt 20 = .ok (.iload_n 1, 1) := by decide +kernel
theorem dX6_lacksAt_21 : decode cX6_lacksAt 21 = .ok (.iaload, 1) := by decide +kernel
theorem dX6_lacksAt_22 : decode cX6_lacksAt 22 = .ok (.iload 4, 2) := by decide +kernel
theorem dX6_lacksAt_24 : decode cX6_lacksAt 24 = .ok (.ishr, 1) := by decide +kernel
theorem dX6_lacksAt_25 : decode cX6_lacksAt 25 = .ok (.iconst 1, 1) := by decide +kernel
theorem dX6_lacksAt_26 : decode cX6_lacksAt 26 = .ok (.iand, 1) := by decide +kernel
theorem dX6_lacksAt_27 : decode cX6_lacksAt 27 = .ok (.iconst 1, 1) := by decide +kernel
theorem dX6_lacksAt_28 : decode cX6_lacksAt 28 = .ok (.if_icmp .ne 22, 3) := by decide +kernel
theorem dX6_lacksAt_31 : decode cX6_lacksAt 31 = .ok (.aload_n 0, 1) := by decide +kernel
theorem dX6_lacksAt_32 : decode cX6_lacksAt 32 = .ok (.getfield 7, 3) := by decide +kernel
theorem dX6_lacksAt_35 : decode cX6_lacksAt 35 = .ok (.bipush 6, 2) := by decide +kernel
theorem dX6_lacksAt_37 : decode cX6_lacksAt 37 = .ok (.iload_n 2, 1) := by decide +kernel
theorem dX6_lacksAt_38 : decode cX6_lacksAt 38 = .ok (.imul, 1) := by decide +kernel
theorem dX6_lacksAt_39 : decode cX6_lacksAt 39 = .ok (.iload 4, 2) := by decide +kernel
theorem dX6_lacksAt_41 : decode cX6_lacksAt 41 = .ok (.iadd, 1) := by decide +kernel
theorem dX6_lacksAt_42 : decode cX6_lacksAt 42 = .ok (.baload, 1) := by decide +kernel
theorem dX6_lacksAt_43 : decode cX6_lacksAt 43 = .ok (.ifCond .eq 7, 3) := by decide +kernel
theorem dX6_lacksAt_46 : decode cX6_lacksAt 46 = .ok (.iconst 1, 1) := by decide +kernel
theorem dX6_lacksAt_47 : decode cX6_lacksAt 47 = .ok (.goto 4, 3) := by decide +kernel
theorem dX6_lacksAt_50 : decode cX6_lacksAt 50 = .ok (.iconst 0, 1) := by decide +kernel
theorem dX6_lacksAt_51 : decode cX6_lacksAt 51 = .ok (.istore_n 3, 1) := by decide +kernel
theorem dX6_lacksAt_52 : decode cX6_lacksAt 52 = .ok (.iinc 4 1, 3) := by decide +kernel
theorem dX6_lacksAt_55 : decode cX6_lacksAt 55 = .ok (.goto (-50), 3) := by decide +kernel
theorem dX6_lacksAt_58 : decode cX6_lacksAt 58 = .ok (.iload_n 3, 1) := by decide +kernel
theorem dX6_lacksAt_59 : decode cX6_lacksAt 59 = .ok (.ireturn, 1) := by decide +kernel
theorem dX6_isFolded_0 : decode cX6_isFolded 0 = .ok (.iconst 0, 1) := by decide +kernel
theorem dX6_isFolded_1 : decode cX6_isFolded 1 = .ok (.istore_n 3, 1) := by decide +kernel
theorem dX6_isFolded_2 : decode cX6_isFolded 2 = .ok (.iconst 0, 1) := by decide +kernel
theorem dX6_isFolded_3 : decode cX6_isFolded 3 = .ok (.istore 4, 2) := by decide +kernel
theorem dX6_isFolded_5 : decode cX6_isFolded 5 = .ok (.iload 4, 2) := by decide +kernel
theorem dX6_isFolded_7 : decode cX6_isFolded 7 = .ok (.bipush 48, 2) := by decide +kernel
theorem dX6_isFolded_9 : decode cX6_isFolded 9 = .ok (.if_icmp .ge 57, 3) := by decide +kernel
theorem dX6_isFolded_12 : decode cX6_isFolded 12 = .ok (.iload_n 3, 1) := by decide +kernel
theorem dX6_isFolded_13 : decode cX6_isFolded 13 = .ok (.ifCond .ne 41, 3) := by decide +kernel
theorem dX6_isFolded_16 : decode cX6_isFolded 16 = .ok (.aload_n 0, 1) := by decide +kernel
theorem dX6_isFolded_17 : decode cX6_isFolded 17 = .ok (.getfield 50, 3) := by decide +kernel
theorem dX6_isFolded_20 : decode cX6_isFolded 20 = .ok (.iload_n 1, 1) := by decide +kernel
theorem dX6_isFolded_21 : decode cX6_isFolded 21 = .ok (.iaload, 1) := by decide +kernel
theorem dX6_isFolded_22 : decode cX6_isFolded 22 = .ok (.iload 4, 2) := by decide +kernel
theorem dX6_isFolded_24 : decode cX6_isFolded 24 = .ok (.bipush 8, 2) := by decide +kernel
theorem dX6_isFolded_26 : decode cX6_isFolded 26 = .ok (.idiv, 1) := by decide +kernel
theorem dX6_isFolded_27 : decode cX6_isFolded 27 = .ok (.ishr, 1) := by decide +kernel
theorem dX6_isFolded_28 : decode cX6_isFolded 28 = .ok (.iconst 1, 1) := by decide +kernel
theorem dX6_isFolded_29 : decode cX6_isFolded 29 = .ok (.iand, 1) := by decide +kernel
theorem dX6_isFolded_30 : decode cX6_isFolded 30 = .ok (.iconst 1, 1) := by decide +kernel
theorem dX6_isFolded_31 : decode cX6_isFolded 31 = .ok (.if_icmp .ne 27, 3) := by decide +kernel
theorem dX6_isFolded_34 : decode cX6_isFolded 34 = .ok (.aload_n 0, 1) := by decide +kernel
theorem dX6_isFolded_35 : decode cX6_isFolded 35 = .ok (.getfield 13, 3) := by decide +kernel
theorem dX6_isFolded_38 : decode cX6_isFolded 38 = .ok (.bipush 48, 2) := by decide +kernel
theorem dX6_isFolded_40 : decode cX6_isFolded 40 = .ok (.iload_n 2, 1) := by decide +kernel
theorem dX6_isFolded_41 : decode cX6_isFolded 41 = .ok (.imul, 1) := by decide +kernel
theorem dX6_isFolded_42 : decode cX6_isFolded 42 = .ok (.iload 4, 2) := by decide +kernel
theorem dX6_isFolded_44 : decode cX6_isFolded 44 = .ok (.iadd, 1) := by decide +kernel
theorem dX6_isFolded_45 : decode cX6_isFolded 45 = .ok (.iaload, 1) := by decide +kernel
theorem dX6_isFolded_46 : decode cX6_isFolded 46 = .ok (.iload 4, 2) := by decide +kernel
theorem dX6_isFolded_48 : decode cX6_isFolded 48 = .ok (.bipush 8, 2) := by decide +kernel
theorem dX6_isFolded_50 : decode cX6_isFolded 50 = .ok (.irem, 1) := by decide +kernel
theorem dX6_isFolded_51 : decode cX6_isFolded 51 = .ok (.if_icmp .eq 7, 3) := by decide +kernel
theorem dX6_isFolded_54 : decode cX6_isFolded 54 = .ok (.iconst 1, 1) := by decide +kernel
theorem dX6_isFolded_55 : decode cX6_isFolded 55 = .ok (.goto 4, 3) := by decide +kernel
theorem dX6_isFolded_58 : decode cX6_isFolded 58 = .ok (.iconst 0, 1) := by decide +kernel
theorem dX6_isFolded_59 : decode cX6_isFolded 59 = .ok (.istore_n 3, 1) := by decide +kernel
theorem dX6_isFolded_60 : decode cX6_isFolded 60 = .ok (.iinc 4 1, 3) := by decide +kernel
theorem dX6_isFolded_63 : decode cX6_isFolded 63 = .ok (.goto (-58), 3) := by decide +kernel
theorem dX6_isFolded_66 : decode cX6_isFolded 66 = .ok (.iload_n 3, 1) := by decide +kernel
theorem dX6_isFolded_67 : decode cX6_isFolded 67 = .ok (.ireturn, 1) := by decide +kernel
set_option maxRecDepth 20000 in
theorem ggX6_lacks_X6_isAsking : GoodIn wsX6_lacks wsX6_isAsking := goodIn_r _ [5, 6, 7, 8, 4, 9, 21, 22, 23, 24, 25, 26, 27, 28, 29, 30, 31, 32, 33, 34, 35, 36, 37, 38, 39, 40, 41, 42, 43] (by decide +kernel) (by decide +kernel)
set_option maxRecDepth 20000 in
theorem gX6_lacks_X6_isAsking : GoodIn wsX6_lacks (wsV RX6 143 RX6 yX6_isAsking wsX6_isAsking) := goodIn_app (goodIn_of _ (by decide +kernel)) ggX6_lacks_X6_isAsking
set_option maxRecDepth 20000 in
theorem ggX6_lacks_X6_isSpan : GoodIn wsX6_lacks wsX6_isSpan := goodIn_r _ [13, 14, 7, 8, 4, 9, 21, 22, 23, 24, 25, 26, 27, 28, 29, 30, 31, 32, 33, 34, 35, 36, 37, 38, 39, 40, 41, 42, 43] (by decide +kernel) (by decide +kernel)
set_option maxRecDepth 20000 in
theorem gX6_lacks_X6_isSpan : GoodIn wsX6_lacks (wsV RX6 99 RX6 yX6_isSpan wsX6_isSpan) := goodIn_app (goodIn_of _ (by decide +kernel)) ggX6_lacks_X6_isSpan
set_option maxRecDepth 20000 in
theorem ggX6_lacks_X6_lacksAt : GoodIn wsX6_lacks wsX6_lacksAt := goodIn_r _ [18, 19, 20, 21, 22, 23, 24, 25, 26, 27, 28, 29, 30, 31, 32, 33, 34, 35, 36, 37, 38, 39, 40, 41, 42, 43] (by decide +kernel) (by decide +kernel)
set_option maxRecDepth 20000 in
theorem gX6_lacks_X6_lacksAt : GoodIn wsX6_lacks (wsV RX6 156 RX6 yX6_lacksAt wsX6_lacksAt) := goodIn_app (goodIn_of _ (by decide +kernel)) ggX6_lacks_X6_lacksAt
theorem dX6_lacks_0 : decode cX6_lacks 0 = .ok (.aload_n 0, 1) := by decide +kernel
theorem dX6_lacks_1 : decode cX6_lacks 1 = .ok (.iload_n 1, 1) := by decide +kernel
theorem dX6_lacks_2 : decode cX6_lacks 2 = .ok (.invokevirtual 143, 3) := by decide +kernel
theorem dX6_lacks_5 : decode cX6_lacks 5 = .ok (.ifCond .ne 5, 3) := by decide +kernel
theorem dX6_lacks_8 : decode cX6_lacks 8 = .ok (.iconst (-1), 1) := by decide +kernel
theorem dX6_lacks_9 : decode cX6_lacks 9 = .ok (.ireturn, 1) := by decide +kernel
theorem dX6_lacks_10 : decode cX6_lacks 10 = .ok (.aload_n 0, 1) := by decide +kernel
theorem dX6_lacks_11 : decode cX6_lacks 11 = .ok (.iload_n 2, 1) := by decide +kernel
theorem dX6_lacks_12 : decode cX6_lacks 12 = .ok (.iload_n 3, 1) := by decide +kernel
theorem dX6_lacks_13 : decode cX6_lacks 13 = .ok (.invokevirtual 99, 3) := by decide +kernel
theorem dX6_lacks_16 : decode cX6_lacks 16 = .ok (.ifCond .ne 6, 3) := by decide +kernel
theorem dX6_lacks_19 : decode cX6_lacks 19 = .ok (.bipush (-2), 2) := by decide +kernel
theorem dX6_lacks_21 : decode cX6_lacks 21 = .ok (.ireturn, 1) := by decide +kernel
theorem dX6_lacks_22 : decode cX6_lacks 22 = .ok (.iload_n 2, 1) := by decide +kernel
theorem dX6_lacks_23 : decode cX6_lacks 23 = .ok (.istore 4, 2) := by decide +kernel
theorem dX6_lacks_25 : decode cX6_lacks 25 = .ok (.iload 4, 2) := by decide +kernel
theorem dX6_lacks_27 : decode cX6_lacks 27 = .ok (.iload_n 3, 1) := by decide +kernel
theorem dX6_lacks_28 : decode cX6_lacks 28 = .ok (.if_icmp .gt 22, 3) := by decide +kernel
theorem dX6_lacks_31 : decode cX6_lacks 31 = .ok (.aload_n 0, 1) := by decide +kernel
theorem dX6_lacks_32 : decode cX6_lacks 32 = .ok (.iload_n 1, 1) := by decide +kernel
theorem dX6_lacks_33 : decode cX6_lacks 33 = .ok (.iload 4, 2) := by decide +kernel
theorem dX6_lacks_35 : decode cX6_lacks 35 = .ok (.invokevirtual 156, 3) := by decide +kernel
theorem dX6_lacks_38 : decode cX6_lacks 38 = .ok (.ifCond .eq 6, 3) := by decide +kernel
theorem dX6_lacks_41 : decode cX6_lacks 41 = .ok (.iload 4, 2) := by decide +kernel
theorem dX6_lacks_43 : decode cX6_lacks 43 = .ok (.ireturn, 1) := by decide +kernel
theorem dX6_lacks_44 : decode cX6_lacks 44 = .ok (.iinc 4 1, 3) := by decide +kernel
theorem dX6_lacks_47 : decode cX6_lacks 47 = .ok (.goto (-22), 3) := by decide +kernel
theorem dX6_lacks_50 : decode cX6_lacks 50 = .ok (.bipush (-9), 2) := by decide +kernel
theorem dX6_lacks_52 : decode cX6_lacks 52 = .ok (.ireturn, 1) := by decide +kernel
set_option maxRecDepth 20000 in
theorem ggX6_works_X6_lacks : GoodIn wsX6_works wsX6_lacks := goodIn_r _ [5, 6, 7, 8, 4, 9, 10, 11, 12, 13, 14, 15, 16, 17, 18, 19, 20, 21, 22, 23, 24, 30, 31, 32, 33, 34, 35, 36, 37, 38, 39, 40, 41, 42, 43, 44, 45, 46, 47, 48, 49, 50, 51, 52] (by decide +kernel) (by decide +kernel)
set_option maxRecDepth 20000 in
theorem gX6_works_X6_lacks : GoodIn wsX6_works (wsV RX6 159 RX6 yX6_lacks wsX6_lacks) := goodIn_app (goodIn_of _ (by decide +kernel)) ggX6_works_X6_lacks
set_option maxRecDepth 20000 in
theorem ggX6_works_X6_isFolded : GoodIn wsX6_works wsX6_isFolded := goodIn_r _ [28, 23, 29, 30, 31, 32, 33, 34, 35, 36, 37, 38, 39, 40, 41, 42, 43, 44, 45, 46, 47, 48, 49, 50, 51, 52] (by decide +kernel) (by decide +kernel)
set_option maxRecDepth 20000 in
theorem gX6_works_X6_isFolded : GoodIn wsX6_works (wsV RX6 162 RX6 yX6_isFolded wsX6_isFolded) := goodIn_app (goodIn_of _ (by decide +kernel)) ggX6_works_X6_isFolded
theorem dX6_works_0 : decode cX6_works 0 = .ok (.aload_n 0, 1) := by decide +kernel
theorem dX6_works_1 : decode cX6_works 1 = .ok (.iload_n 1, 1) := by decide +kernel
theorem dX6_works_2 : decode cX6_works 2 = .ok (.iload_n 2, 1) := by decide +kernel
theorem dX6_works_3 : decode cX6_works 3 = .ok (.iload_n 3, 1) := by decide +kernel
theorem dX6_works_4 : decode cX6_works 4 = .ok (.invokevirtual 159, 3) := by decide +kernel
theorem dX6_works_7 : decode cX6_works 7 = .ok (.istore 4, 2) := by decide +kernel
theorem dX6_works_9 : decode cX6_works 9 = .ok (.iload 4, 2) := by decide +kernel
theorem dX6_works_11 : decode cX6_works 11 = .ok (.iconst (-1), 1) := by decide +kernel
theorem dX6_works_12 : decode cX6_works 12 = .ok (.if_icmp .eq 10, 3) := by decide +kernel
theorem dX6_works_15 : decode cX6_works 15 = .ok (.iload 4, 2) := by decide +kernel
theorem dX6_works_17 : decode cX6_works 17 = .ok (.bipush (-2), 2) := by decide +kernel
theorem dX6_works_19 : decode cX6_works 19 = .ok (.if_icmp .ne 6, 3) := by decide +kernel
theorem dX6_works_22 : decode cX6_works 22 = .ok (.iload 4, 2) := by decide +kernel
theorem dX6_works_24 : decode cX6_works 24 = .ok (.ireturn, 1) := by decide +kernel
theorem dX6_works_25 : decode cX6_works 25 = .ok (.iload 4, 2) := by decide +kernel
theorem dX6_works_27 : decode cX6_works 27 = .ok (.bipush (-9), 2) := by decide +kernel
theorem dX6_works_29 : decode cX6_works 29 = .ok (.if_icmp .eq 5, 3) := by decide +kernel
theorem dX6_works_32 : decode cX6_works 32 = .ok (.iconst 0, 1) := by decide +kernel
theorem dX6_works_33 : decode cX6_works 33 = .ok (.ireturn, 1) := by decide +kernel
theorem dX6_works_34 : decode cX6_works 34 = .ok (.iconst 0, 1) := by decide +kernel
theorem dX6_works_35 : decode cX6_works 35 = .ok (.istore 5, 2) := by decide +kernel
theorem dX6_works_37 : decode cX6_works 37 = .ok (.iload_n 2, 1) := by decide +kernel
theorem dX6_works_38 : decode cX6_works 38 = .ok (.istore 6, 2) := by decide +kernel
theorem dX6_works_40 : decode cX6_works 40 = .ok (.iload 6, 2) := by decide +kernel
theorem dX6_works_42 : decode cX6_works 42 = .ok (.iload_n 3, 1) := by decide +kernel
theorem dX6_works_43 : decode cX6_works 43 = .ok (.if_icmp .gt 31, 3) := by decide +kernel
theorem dX6_works_46 : decode cX6_works 46 = .ok (.iload 5, 2) := by decide +kernel
theorem dX6_works_48 : decode cX6_works 48 = .ok (.ifCond .ne 13, 3) := by decide +kernel
theorem dX6_works_51 : decode cX6_works 51 = .ok (.aload_n 0, 1) := by decide +kernel
theorem dX6_works_52 : decode cX6_works 52 = .ok (.iload_n 1, 1) := by decide +kernel
theorem dX6_works_53 : decode cX6_works 53 = .ok (.iload 6, 2) := by decide +kernel
theorem dX6_works_55 : decode cX6_works 55 = .ok (.invokevirtual 162, 3) := by decide +kernel
theorem dX6_works_58 : decode cX6_works 58 = .ok (.ifCond .eq 7, 3) := by decide +kernel
theorem dX6_works_61 : decode cX6_works 61 = .ok (.iconst 1, 1) := by decide +kernel
theorem dX6_works_62 : decode cX6_works 62 = .ok (.goto 4, 3) := by decide +kernel
theorem dX6_works_65 : decode cX6_works 65 = .ok (.iconst 0, 1) := by decide +kernel
theorem dX6_works_66 : decode cX6_works 66 = .ok (.istore 5, 2) := by decide +kernel
theorem dX6_works_68 : decode cX6_works 68 = .ok (.iinc 6 1, 3) := by decide +kernel
theorem dX6_works_71 : decode cX6_works 71 = .ok (.goto (-31), 3) := by decide +kernel
theorem dX6_works_74 : decode cX6_works 74 = .ok (.iload 5, 2) := by decide +kernel
theorem dX6_works_76 : decode cX6_works 76 = .ok (.ifCond .eq 7, 3) := by decide +kernel
theorem dX6_works_79 : decode cX6_works 79 = .ok (.iconst 1, 1) := by decide +kernel
theorem dX6_works_80 : decode cX6_works 80 = .ok (.goto 4, 3) := by decide +kernel
theorem dX6_works_83 : decode cX6_works 83 = .ok (.iconst 2, 1) := by decide +kernel
theorem dX6_works_84 : decode cX6_works 84 = .ok (.ireturn, 1) := by decide +kernel
set_option maxRecDepth 20000 in
theorem ggX6_weigh_X6_isAsking : GoodIn wsX6_weigh wsX6_isAsking := goodIn_r _ [8, 9, 10, 11, 7, 12, 17, 18, 19, 20, 21, 22, 23, 24, 25, 26, 27, 28, 29, 30, 31, 32, 33, 34, 35, 36, 37, 38, 39] (by decide +kernel) (by decide +kernel)
set_option maxRecDepth 20000 in
theorem gX6_weigh_X6_isAsking : GoodIn wsX6_weigh (wsV RX6 143 RX6 yX6_isAsking wsX6_isAsking) := goodIn_app (goodIn_of _ (by decide +kernel)) ggX6_weigh_X6_isAsking
set_option maxRecDepth 20000 in
theorem ggX6_weigh_X6_isMark : GoodIn wsX6_weigh wsX6_isMark := goodIn_r _ [15, 16, 10, 11, 7, 12] (by decide +kernel) (by decide +kernel)
set_option maxRecDepth 20000 in
theorem gX6_weigh_X6_isMark : GoodIn wsX6_weigh (va_wsS RX6 116 yX6_isMark wsX6_isMark) := goodIn_app (goodIn_of _ (by decide +kernel)) ggX6_weigh_X6_isMark
set_option maxRecDepth 20000 in
theorem ggX6_weigh_X6_in : GoodIn wsX6_weigh wsX6_in := goodIn_r _ [12] (by decide +kernel) (by decide +kernel)
set_option maxRecDepth 20000 in
theorem gX6_weigh_X6_in : GoodIn wsX6_weigh (va_wsS RX6 69 yX6_in wsX6_in) := goodIn_app (goodIn_of _ (by decide +kernel)) ggX6_weigh_X6_in
theorem dX6_weigh_0 : decode cX6_weigh 0 = .ok (.iload_n 1, 1) := by decide +kernel
theorem dX6_weigh_1 : decode cX6_weigh 1 = .ok (.ifCond .eq 14, 3) := by decide +kernel
theorem dX6_weigh_4 : decode cX6_weigh 4 = .ok (.aload_n 0, 1) := by decide +kernel
theorem dX6_weigh_5 : decode cX6_weigh 5 = .ok (.iload_n 2, 1) := by decide +kernel
theorem dX6_weigh_6 : decode cX6_weigh 6 = .ok (.invokevirtual 143, 3) := by decide +kernel
theorem dX6_weigh_9 : decode cX6_weigh 9 = .ok (.ifCond .ne 15, 3) := by decide +kernel
theorem dX6_weigh_12 : decode cX6_weigh 12 = .ok (.goto 10, 3) := by decide +kernel
theorem dX6_weigh_15 : decode cX6_weigh 15 = .ok (.iload_n 2, 1) := by decide +kernel
theorem dX6_weigh_16 : decode cX6_weigh 16 = .ok (.invokestatic 116, 3) := by decide +kernel
theorem dX6_weigh_19 : decode cX6_weigh 19 = .ok (.ifCond .ne 5, 3) := by decide +kernel
theorem dX6_weigh_22 : decode cX6_weigh 22 = .ok (.iconst (-1), 1) := by decide +kernel
theorem dX6_weigh_23 : decode cX6_weigh 23 = .ok (.ireturn, 1) := by decide +kernel
theorem dX6_weigh_24 : decode cX6_weigh 24 = .ok (.iload_n 3, 1) := by decide +kernel
theorem dX6_weigh_25 : decode cX6_weigh 25 = .ok (.i2l, 1) := by decide +kernel
theorem dX6_weigh_26 : decode cX6_weigh 26 = .ok (.lconst 0, 1) := by decide +kernel
theorem dX6_weigh_27 : decode cX6_weigh 27 = .ok (.ldc2_w 165, 3) := by decide +kernel
theorem dX6_weigh_30 : decode cX6_weigh 30 = .ok (.invokestatic 69, 3) := by decide +kernel
theorem dX6_weigh_33 : decode cX6_weigh 33 = .ok (.ifCond .ne 6, 3) := by decide +kernel
theorem dX6_weigh_36 : decode cX6_weigh 36 = .ok (.bipush (-2), 2) := by decide +kernel
theorem dX6_weigh_38 : decode cX6_weigh 38 = .ok (.ireturn, 1) := by decide +kernel
theorem dX6_weigh_39 : decode cX6_weigh 39 = .ok (.iload_n 1, 1) := by decide +kernel
theorem dX6_weigh_40 : decode cX6_weigh 40 = .ok (.ifCond .eq 12, 3) := by decide +kernel
theorem dX6_weigh_43 : decode cX6_weigh 43 = .ok (.aload_n 0, 1) := by decide +kernel
theorem dX6_weigh_44 : decode cX6_weigh 44 = .ok (.getfield 59, 3) := by decide +kernel
theorem dX6_weigh_47 : decode cX6_weigh 47 = .ok (.iload_n 2, 1) := by decide +kernel
theorem dX6_weigh_48 : decode cX6_weigh 48 = .ok (.iaload, 1) := by decide +kernel
theorem dX6_weigh_49 : decode cX6_weigh 49 = .ok (.goto 9, 3) := by decide +kernel
theorem dX6_weigh_52 : decode cX6_weigh 52 = .ok (.aload_n 0, 1) := by decide +kernel
theorem dX6_weigh_53 : decode cX6_weigh 53 = .ok (.getfield 62, 3) := by decide +kernel
theorem dX6_weigh_56 : decode cX6_weigh 56 = .ok (.iload_n 2, 1) := by decide +kernel
theorem dX6_weigh_57 : decode cX6_weigh 57 = .ok (.iaload, 1) := by decide +kernel
theorem dX6_weigh_58 : decode cX6_weigh 58 = .ok (.istore 4, 2) := by decide +kernel
theorem dX6_weigh_60 : decode cX6_weigh 60 = .ok (.iload_n 1, 1) := by decide +kernel
theorem dX6_weigh_61 : decode cX6_weigh 61 = .ok (.ifCond .eq 13, 3) := by decide +kernel
theorem dX6_weigh_64 : decode cX6_weigh 64 = .ok (.aload_n 0, 1) := by decide +kernel
theorem dX6_weigh_65 : decode cX6_weigh 65 = .ok (.getfield 59, 3) := by decide +kernel
theorem dX6_weigh_68 : decode cX6_weigh 68 = .ok (.iload_n 2, 1) := by decide +kernel
theorem dX6_weigh_69 : decode cX6_weigh 69 = .ok (.iload_n 3, 1) := by decide +kernel
theorem dX6_weigh_70 : decode cX6_weigh 70 = .ok (.iastore, 1) := by decide +kernel
theorem dX6_weigh_71 : decode cX6_weigh 71 = .ok (.goto 10, 3) := by decide +kernel
theorem dX6_weigh_74 : decode cX6_weigh 74 = .ok (.aload_n 0, 1) := by decide +kernel
theorem dX6_weigh_75 : decode cX6_weigh 75 = .ok (.getfield 62, 3) := by decide +kernel
theorem dX6_weigh_78 : decode cX6_weigh 78 = .ok (.iload_n 2, 1) := by decide +kernel
theorem dX6_weigh_79 : decode cX6_weigh 79 = .ok (.iload_n 3, 1) := by decide +kernel
theorem dX6_weigh_80 : decode cX6_weigh 80 = .ok (.iastore, 1) := by decide +kernel
theorem dX6_weigh_81 : decode cX6_weigh 81 = .ok (.iload 4, 2) := by decide +kernel
theorem dX6_weigh_83 : decode cX6_weigh 83 = .ok (.ireturn, 1) := by decide +kernel
theorem dX6_lossOf_0 : decode cX6_lossOf 0 = .ok (.iconst 0, 1) := by decide +kernel
theorem dX6_lossOf_1 : decode cX6_lossOf 1 = .ok (.istore_n 2, 1) := by decide +kernel
theorem dX6_lossOf_2 : decode cX6_lossOf 2 = .ok (.iconst 0, 1) := by decide +kernel
theorem dX6_lossOf_3 : decode cX6_lossOf 3 = .ok (.istore_n 3, 1) := by decide +kernel
theorem dX6_lossOf_4 : decode cX6_lossOf 4 = .ok (.iload_n 3, 1) := by decide +kernel
theorem dX6_lossOf_5 : decode cX6_lossOf 5 = .ok (.bipush 6, 2) := by decide +kernel
theorem dX6_lossOf_7 : decode cX6_lossOf 7 = .ok (.if_icmp .ge 31, 3) := by decide +kernel
theorem dX6_lossOf_10 : decode cX6_lossOf 10 = .ok (.iload_n 2, 1) := by decide +kernel
theorem dX6_lossOf_11 : decode cX6_lossOf 11 = .ok (.iload_n 1, 1) := by decide +kernel
theorem dX6_lossOf_12 : decode cX6_lossOf 12 = .ok (.iload_n 3, 1) := by decide +kernel
theorem dX6_lossOf_13 : decode cX6_lossOf 13 = .ok (.ishr, 1) := by decide +kernel
theorem dX6_lossOf_14 : decode cX6_lossOf 14 = .ok (.iconst 1, 1) := by decide +kernel
theorem dX6_lossOf_15 : decode cX6_lossOf 15 = .ok (.iand, 1) := by decide +kernel
theorem dX6_lossOf_16 : decode cX6_lossOf 16 = .ok (.iconst 1, 1) := by decide +kernel
theorem dX6_lossOf_17 : decode cX6_lossOf 17 = .ok (.if_icmp .ne 12, 3) := by decide +kernel
theorem dX6_lossOf_20 : decode cX6_lossOf 20 = .ok (.aload_n 0, 1) := by decide +kernel
theorem dX6_lossOf_21 : decode cX6_lossOf 21 = .ok (.getfield 62, 3) := by decide +kernel
theorem dX6_lossOf_24 : decode cX6_lossOf 24 = .ok (.iload_n 3, 1) := by decide +kernel
theorem dX6_lossOf_25 : decode cX6_lossOf 25 = .ok (.iaload, 1) := by decide +kernel
theorem dX6_lossOf_26 : decode cX6_lossOf 26 = .ok (.goto 4, 3) := by decide +kernel
theorem dX6_lossOf_29 : decode cX6_lossOf 29 = .ok (.iconst 0, 1) := by decide +kernel
theorem dX6_lossOf_30 : decode cX6_lossOf 30 = .ok (.iadd, 1) := by decide +kernel
theorem dX6_lossOf_31 : decode cX6_lossOf 31 = .ok (.istore_n 2, 1) := by decide +kernel
theorem dX6_lossOf_32 : decode cX6_lossOf 32 = .ok (.iinc 3 1, 3) := by decide +kernel
theorem dX6_lossOf_35 : decode cX6_lossOf 35 = .ok (.goto (-31), 3) := by decide +kernel
theorem dX6_lossOf_38 : decode cX6_lossOf 38 = .ok (.iconst 0, 1) := by decide +kernel
theorem dX6_lossOf_39 : decode cX6_lossOf 39 = .ok (.istore_n 3, 1) := by decide +kernel
theorem dX6_lossOf_40 : decode cX6_lossOf 40 = .ok (.iload_n 3, 1) := by decide +kernel
theorem dX6_lossOf_41 : decode cX6_lossOf 41 = .ok (.aload_n 0, 1) := by decide +kernel
theorem dX6_lossOf_42 : decode cX6_lossOf 42 = .ok (.getfield 140, 3) := by decide +kernel
theorem dX6_lossOf_45 : decode cX6_lossOf 45 = .ok (.if_icmp .ge 33, 3) := by decide +kernel
theorem dX6_lossOf_48 : decode cX6_lossOf 48 = .ok (.iload_n 2, 1) := by decide +kernel
theorem dX6_lossOf_49 : decode cX6_lossOf 49 = .ok (.aload_n 0, 1) := by decide +kernel
theorem dX6_lossOf_50 : decode cX6_lossOf 50 = .ok (.getfield 50, 3) := by decide +kernel
theorem dX6_lossOf_53 : decode cX6_lossOf 53 = .ok (.iload_n 3, 1) := by decide +kernel
theorem dX6_lossOf_54 : decode cX6_lossOf 54 = .ok (.iaload, 1) := by decide +kernel
theorem dX6_lossOf_55 : decode cX6_lossOf 55 = .ok (.iload_n 1, 1) := by decide +kernel
theorem dX6_lossOf_56 : decode cX6_lossOf 56 = .ok (.iand, 1) := by decide +kernel
theorem dX6_lossOf_57 : decode cX6_lossOf 57 = .ok (.ifCond .eq 12, 3) := by decide +kernel
theorem dX6_lossOf_60 : decode cX6_lossOf 60 = .ok (.aload_n 0, 1) := by decide +kernel
theorem dX6_lossOf_61 : decode cX6_lossOf 61 = .ok (.getfield 59, 3) := by decide +kernel
theorem dX6_lossOf_64 : decode cX6_lossOf 64 = .ok (.iload_n 3, 1) := by decide +kernel
theorem dX6_lossOf_65 : decode cX6_lossOf 65 = .ok (.iaload, 1) := by decide +kernel
theorem dX6_lossOf_66 : decode cX6_lossOf 66 = .ok (.goto 4, 3) := by decide +kernel
theorem dX6_lossOf_69 : decode cX6_lossOf 69 = .ok (.iconst 0, 1) := by decide +kernel
theorem dX6_lossOf_70 : decode cX6_lossOf 70 = .ok (.iadd, 1) := by decide +kernel
theorem dX6_lossOf_71 : decode cX6_lossOf 71 = .ok (.istore_n 2, 1) := by decide +kernel
theorem dX6_lossOf_72 : decode cX6_lossOf 72 = .ok (.iinc 3 1, 3) := by decide +kernel
theorem dX6_lossOf_75 : decode cX6_lossOf 75 = .ok (.goto (-35), 3) := by decide +kernel
theorem dX6_lossOf_78 : decode cX6_lossOf 78 = .ok (.iload_n 2, 1) := by decide +kernel
theorem dX6_lossOf_79 : decode cX6_lossOf 79 = .ok (.ireturn, 1) := by decide +kernel
set_option maxRecDepth 20000 in
theorem ggX6_loss_X6_in : GoodIn wsX6_loss wsX6_in := goodIn_r _ [5] (by decide +kernel) (by decide +kernel)
set_option maxRecDepth 20000 in
theorem gX6_loss_X6_in : GoodIn wsX6_loss (va_wsS RX6 69 yX6_in wsX6_in) := goodIn_app (goodIn_of _ (by decide +kernel)) ggX6_loss_X6_in
set_option maxRecDepth 20000 in
theorem ggX6_loss_X6_lossOf : GoodIn wsX6_loss wsX6_lossOf := goodIn_r _ [9, 10, 11, 12, 13, 14, 15, 16, 17, 18, 19, 20, 21, 22, 23, 24, 25, 26, 27, 28, 29, 30, 31, 32, 33, 34, 35, 36] (by decide +kernel) (by decide +kernel)
set_option maxRecDepth 20000 in
theorem gX6_loss_X6_lossOf : GoodIn wsX6_loss (wsV RX6 167 RX6 yX6_lossOf wsX6_lossOf) := goodIn_app (goodIn_of _ (by decide +kernel)) ggX6_loss_X6_lossOf
theorem dX6_loss_0 : decode cX6_loss 0 = .ok (.iload_n 1, 1) := by decide +kernel
theorem dX6_loss_1 : decode cX6_loss 1 = .ok (.i2l, 1) := by decide +kernel
theorem dX6_loss_2 : decode cX6_loss 2 = .ok (.lconst 0, 1) := by decide +kernel
theorem dX6_loss_3 : decode cX6_loss 3 = .ok (.ldc2_w 129, 3) := by decide +kernel
theorem dX6_loss_6 : decode cX6_loss 6 = .ok (.invokestatic 69, 3) := by decide +kernel
theorem dX6_loss_9 : decode cX6_loss 9 = .ok (.ifCond .eq 11, 3) := by decide +kernel
theorem dX6_loss_12 : decode cX6_loss 12 = .ok (.aload_n 0, 1) := by decide +kernel
theorem dX6_loss_13 : decode cX6_loss 13 = .ok (.iload_n 1, 1) := by decide +kernel
theorem dX6_loss_14 : decode cX6_loss 14 = .ok (.invokevirtual 167, 3) := by decide +kernel
theorem dX6_loss_17 : decode cX6_loss 17 = .ok (.goto 5, 3) := by decide +kernel
theorem dX6_loss_20 : decode cX6_loss 20 = .ok (.bipush (-2), 2) := by decide +kernel
theorem dX6_loss_22 : decode cX6_loss 22 = .ok (.ireturn, 1) := by decide +kernel
set_option maxRecDepth 20000 in
theorem ggX6_plan_X6_in : GoodIn wsX6_plan wsX6_in := goodIn_r _ [5] (by decide +kernel) (by decide +kernel)
set_option maxRecDepth 20000 in
theorem gX6_plan_X6_in : GoodIn wsX6_plan (va_wsS RX6 69 yX6_in wsX6_in) := goodIn_app (goodIn_of _ (by decide +kernel)) ggX6_plan_X6_in
set_option maxRecDepth 20000 in
theorem ggX6_plan_X6_isSpan : GoodIn wsX6_plan wsX6_isSpan := goodIn_r _ [9, 10, 2, 3, 4, 5, 42, 43, 44, 45, 46, 47, 48, 49, 50, 51, 52, 53, 54, 55, 56, 57, 58, 59, 60, 61, 62, 63, 64] (by decide +kernel) (by decide +kernel)
set_option maxRecDepth 20000 in
theorem gX6_plan_X6_isSpan : GoodIn wsX6_plan (wsV RX6 99 RX6 yX6_isSpan wsX6_isSpan) := goodIn_app (goodIn_of _ (by decide +kernel)) ggX6_plan_X6_isSpan
set_option maxRecDepth 20000 in
theorem ggX6_plan_X6_look : GoodIn wsX6_plan wsX6_look := goodIn_r _ [14, 15, 16, 17, 18, 19, 42, 43, 44, 45, 46, 47, 48, 49, 50, 51, 52, 53, 54, 55, 56, 57, 58, 59, 60, 61, 62, 63, 64] (by decide +kernel) (by decide +kernel)
set_option maxRecDepth 20000 in
theorem gX6_plan_X6_look : GoodIn wsX6_plan (wsV RX6 112 RX6 yX6_look wsX6_look) := goodIn_app (goodIn_of _ (by decide +kernel)) ggX6_plan_X6_look
set_option maxRecDepth 20000 in
theorem ggX6_plan_X6_unlikeWithout : GoodIn wsX6_plan wsX6_unlikeWithout := goodIn_r _ [23, 24, 15, 16, 25, 26, 27, 4, 28, 29, 30, 31, 32, 33, 42, 43, 44, 45, 46, 47, 48, 49, 50, 51, 52, 53, 54, 55, 56, 57, 58, 59, 60, 61, 62, 63, 64] (by decide +kernel) (by decide +kernel)
set_option maxRecDepth 20000 in
theorem gX6_plan_X6_unlikeWithout : GoodIn wsX6_plan (wsV RX6 131 RX6 yX6_unlikeWithout wsX6_unlikeWithout) := goodIn_app (goodIn_of _ (by decide +kernel)) ggX6_plan_X6_unlikeWithout
set_option maxRecDepth 20000 in
theorem ggX6_plan_X6_lossOf : GoodIn wsX6_plan wsX6_lossOf := goodIn_r _ [37, 38, 39, 40, 41, 42, 43, 44, 45, 46, 47, 48, 49, 50, 51, 52, 53, 54, 55, 56, 57, 58, 59, 60, 61, 62, 63, 64] (by decide +kernel) (by decide +kernel)
set_option maxRecDepth 20000 in
theorem gX6_plan_X6_lossOf : GoodIn wsX6_plan (wsV RX6 167 RX6 yX6_lossOf wsX6_lossOf) := goodIn_app (goodIn_of _ (by decide +kernel)) ggX6_plan_X6_lossOf
theorem dX6_plan_0 : decode cX6_plan 0 = .ok (.iload_n 1, 1) := by decide +kernel
theorem dX6_plan_1 : decode cX6_plan 1 = .ok (.i2l, 1) := by decide +kernel
theorem dX6_plan_2 : decode cX6_plan 2 = .ok (.lconst 0, 1) := by decide +kernel
theorem dX6_plan_3 : decode cX6_plan 3 = .ok (.ldc2_w 170, 3) := by decide +kernel
theorem dX6_plan_6 : decode cX6_plan 6 = .ok (.invokestatic 69, 3) := by decide +kernel
theorem dX6_plan_9 : decode cX6_plan 9 = .ok (.ifCond .eq 12, 3) := by decide +kernel
theorem dX6_plan_12 : decode cX6_plan 12 = .ok (.aload_n 0, 1) := by decide +kernel
theorem dX6_plan_13 : decode cX6_plan 13 = .ok (.iload_n 2, 1) := by decide +kernel
theorem dX6_plan_14 : decode cX6_plan 14 = .ok (.iload_n 3, 1) := by decide +kernel
theorem dX6_plan_15 : decode cX6_plan 15 = .ok (.invokevirtual 99, 3) := by decide +kernel
theorem dX6_plan_18 : decode cX6_plan 18 = .ok (.ifCond .ne 6, 3) := by decide +kernel
theorem dX6_plan_21 : decode cX6_plan 21 = .ok (.bipush (-2), 2) := by decide +kernel
theorem dX6_plan_23 : decode cX6_plan 23 = .ok (.ireturn, 1) := by decide +kernel
theorem dX6_plan_24 : decode cX6_plan 24 = .ok (.aload_n 0, 1) := by decide +kernel
theorem dX6_plan_25 : decode cX6_plan 25 = .ok (.iload_n 2, 1) := by decide +kernel
theorem dX6_plan_26 : decode cX6_plan 26 = .ok (.iload_n 3, 1) := by decide +kernel
theorem dX6_plan_27 : decode cX6_plan 27 = .ok (.invokevirtual 112, 3) := by decide +kernel
theorem dX6_plan_30 : decode cX6_plan 30 = .ok (.istore 4, 2) := by decide +kernel
theorem dX6_plan_32 : decode cX6_plan 32 = .ok (.bipush (-9), 2) := by decide +kernel
theorem dX6_plan_34 : decode cX6_plan 34 = .ok (.istore 5, 2) := by decide +kernel
theorem dX6_plan_36 : decode cX6_plan 36 = .ok (.iconst 0, 1) := by decide +kernel
theorem dX6_plan_37 : decode cX6_plan 37 = .ok (.istore 6, 2) := by decide +kernel
theorem dX6_plan_39 : decode cX6_plan 39 = .ok (.iconst 0, 1) := by decide +kernel
theorem dX6_plan_40 : decode cX6_plan 40 = .ok (.istore 7, 2) := by decide +kernel
theorem dX6_plan_42 : decode cX6_plan 42 = .ok (.iconst 0, 1) := by decide +kernel
theorem dX6_plan_43 : decode cX6_plan 43 = .ok (.istore 8, 2) := by decide +kernel
theorem dX6_plan_45 : decode cX6_plan 45 = .ok (.iload 8, 2) := by decide +kernel
theorem dX6_plan_47 : decode cX6_plan 47 = .ok (.bipush 64, 2) := by decide +kernel
theorem dX6_plan_49 : decode cX6_plan 49 = .ok (.if_icmp .ge 71, 3) := by decide +kernel
theorem dX6_plan_52 : decode cX6_plan 52 = .ok (.aload_n 0, 1) := by decide +kernel
theorem dX6_plan_53 : decode cX6_plan 53 = .ok (.iload 8, 2) := by decide +kernel
theorem dX6_plan_55 : decode cX6_plan 55 = .ok (.invokevirtual 131, 3) := by decide +kernel
theorem dX6_plan_58 : decode cX6_plan 58 = .ok (.istore 9, 2) := by decide +kernel
theorem dX6_plan_60 : decode cX6_plan 60 = .ok (.aload_n 0, 1) := by decide +kernel
theorem dX6_plan_61 : decode cX6_plan 61 = .ok (.iload 8, 2) := by decide +kernel
theorem dX6_plan_63 : decode cX6_plan 63 = .ok (.invokevirtual 167, 3) := by decide +kernel
theorem dX6_plan_66 : decode cX6_plan 66 = .ok (.istore 10, 2) := by decide +kernel
theorem dX6_plan_68 : decode cX6_plan 68 = .ok (.iload 9, 2) := by decide +kernel
theorem dX6_plan_70 : decode cX6_plan 70 = .ok (.iload_n 1, 1) := by decide +kernel
theorem dX6_plan_71 : decode cX6_plan 71 = .ok (.if_icmp .gt 43, 3) := by decide +kernel
theorem dX6_plan_74 : decode cX6_plan 74 = .ok (.iload 5, 2) := by decide +kernel
theorem dX6_plan_76 : decode cX6_plan 76 = .ok (.bipush (-9), 2) := by decide +kernel
theorem dX6_plan_78 : decode cX6_plan 78 = .ok (.if_icmp .eq 24, 3) := by decide +kernel
theorem dX6_plan_81 : decode cX6_plan 81 = .ok (.iload 10, 2) := by decide +kernel
theorem dX6_plan_83 : decode cX6_plan 83 = .ok (.iload 6, 2) := by decide +kernel
theorem dX6_plan_85 : decode cX6_plan 85 = .ok (.if_icmp .lt 17, 3) := by decide +kernel
theorem dX6_plan_88 : decode cX6_plan 88 = .ok (.iload 10, 2) := by decide +kernel
theorem dX6_plan_90 : decode cX6_plan 90 = .ok (.iload 6, 2) := by decide +kernel
theorem dX6_plan_92 : decode cX6_plan 92 = .ok (.if_icmp .ne 22, 3) := by decide +kernel
theorem dX6_plan_95 : decode cX6_plan 95 = .ok (.iload 9, 2) := by decide +kernel
theorem dX6_plan_97 : decode cX6_plan 97 = .ok (.iload 7, 2) := by decide +kernel
theorem dX6_plan_99 : decode cX6_plan 99 = .ok (.if_icmp .le 15, 3) := by decide +kernel
theorem dX6_plan_102 : decode cX6_plan 102 = .ok (.iload 8, 2) := by decide +kernel
theorem dX6_plan_104 : decode cX6_plan 104 = .ok (.istore 5, 2) := by decide +kernel
theorem dX6_plan_106 : decode cX6_plan 106 = .ok (.iload 10, 2) := by decide +kernel
theorem dX6_plan_108 : decode cX6_plan 108 = .ok (.istore 6, 2) := by decide +kernel
theorem dX6_plan_110 : decode cX6_plan 110 = .ok (.iload 9, 2) := by decide +kernel
theorem dX6_plan_112 : decode cX6_plan 112 = .ok (.istore 7, 2) := by decide +kernel
theorem dX6_plan_114 : decode cX6_plan 114 = .ok (.iinc 8 1, 3) := by decide +kernel
theorem dX6_plan_117 : decode cX6_plan 117 = .ok (.goto (-72), 3) := by decide +kernel
theorem dX6_plan_120 : decode cX6_plan 120 = .ok (.iload 5, 2) := by decide +kernel
theorem dX6_plan_122 : decode cX6_plan 122 = .ok (.ireturn, 1) := by decide +kernel
set_option maxRecDepth 20000 in
theorem ggX6_bill_X6_isMark : GoodIn wsX6_bill wsX6_isMark := goodIn_r _ [7, 8, 9, 10, 6, 11] (by decide +kernel) (by decide +kernel)
set_option maxRecDepth 20000 in
theorem gX6_bill_X6_isMark : GoodIn wsX6_bill (va_wsS RX6 116 yX6_isMark wsX6_isMark) := goodIn_app (goodIn_of _ (by decide +kernel)) ggX6_bill_X6_isMark
set_option maxRecDepth 20000 in
theorem ggX6_bill_X6_isValue : GoodIn wsX6_bill wsX6_isValue := goodIn_r _ [14, 15, 9, 10, 6, 11] (by decide +kernel) (by decide +kernel)
set_option maxRecDepth 20000 in
theorem gX6_bill_X6_isValue : GoodIn wsX6_bill (va_wsS RX6 137 yX6_isValue wsX6_isValue) := goodIn_app (goodIn_of _ (by decide +kernel)) ggX6_bill_X6_isValue
set_option maxRecDepth 20000 in
theorem ggX6_bill_X6_isSpan : GoodIn wsX6_bill wsX6_isSpan := goodIn_r _ [19, 20, 9, 10, 6, 11, 31, 32, 33, 34, 35, 36, 37, 38, 39, 40, 41, 42, 43, 44, 45, 46, 47, 48, 49, 50, 51, 52, 53] (by decide +kernel) (by decide +kernel)
set_option maxRecDepth 20000 in
theorem gX6_bill_X6_isSpan : GoodIn wsX6_bill (wsV RX6 99 RX6 yX6_isSpan wsX6_isSpan) := goodIn_app (goodIn_of _ (by decide +kernel)) ggX6_bill_X6_isSpan
set_option maxRecDepth 20000 in
theorem ggX6_bill_X6_look : GoodIn wsX6_bill wsX6_look := goodIn_r _ [24, 1, 2, 25, 26, 27, 31, 32, 33, 34, 35, 36, 37, 38, 39, 40, 41, 42, 43, 44, 45, 46, 47, 48, 49, 50, 51, 52, 53] (by decide +kernel) (by decide +kernel)
set_option maxRecDepth 20000 in
theorem gX6_bill_X6_look : GoodIn wsX6_bill (wsV RX6 112 RX6 yX6_look wsX6_look) := goodIn_app (goodIn_of _ (by decide +kernel)) ggX6_bill_X6_look
set_option maxRecDepth 20000 in
theorem ggX6_bill_X6_digit : GoodIn wsX6_bill wsX6_digit := goodIn_r _ [30] (by decide +kernel) (by decide +kernel)
set_option maxRecDepth 20000 in
theorem gX6_bill_X6_digit : GoodIn wsX6_bill (va_wsS RX6 119 yX6_digit wsX6_digit) := goodIn_app (goodIn_of _ (by decide +kernel)) ggX6_bill_X6_digit
theorem dX6_bill_0 : decode cX6_bill 0 = .ok (.iload_n 1, 1) := by decide +kernel
theorem dX6_bill_1 : decode cX6_bill 1 = .ok (.invokestatic 116, 3) := by decide +kernel
theorem dX6_bill_4 : decode cX6_bill 4 = .ok (.ifCond .eq 10, 3) := by decide +kernel
theorem dX6_bill_7 : decode cX6_bill 7 = .ok (.iload_n 2, 1) := by decide +kernel
theorem dX6_bill_8 : decode cX6_bill 8 = .ok (.invokestatic 137, 3) := by decide +kernel
theorem dX6_bill_11 : decode cX6_bill 11 = .ok (.ifCond .ne 5, 3) := by decide +kernel
theorem dX6_bill_14 : decode cX6_bill 14 = .ok (.iconst (-1), 1) := by decide +kernel
theorem dX6_bill_15 : decode cX6_bill 15 = .ok (.ireturn, 1) := by decide +kernel
theorem dX6_bill_16 : decode cX6_bill 16 = .ok (.aload_n 0, 1) := by decide +kernel
theorem dX6_bill_17 : decode cX6_bill 17 = .ok (.iload_n 3, 1) := by decide +kernel
theorem dX6_bill_18 : decode cX6_bill 18 = .ok (.iload 4, 2) := by decide +kernel
theorem dX6_bill_20 : decode cX6_bill 20 = .ok (.invokevirtual 99, 3) := by decide +kernel
theorem dX6_bill_23 : decode cX6_bill 23 = .ok (.ifCond .ne 6, 3) := by decide +kernel
theorem dX6_bill_26 : decode cX6_bill 26 = .ok (.bipush (-2), 2) := by decide +kernel
theorem dX6_bill_28 : decode cX6_bill 28 = .ok (.ireturn, 1) := by decide +kernel
theorem dX6_bill_29 : decode cX6_bill 29 = .ok (.aload_n 0, 1) := by decide +kernel
theorem dX6_bill_30 : decode cX6_bill 30 = .ok (.iload_n 3, 1) := by decide +kernel
theorem dX6_bill_31 : decode cX6_bill 31 = .ok (.iload 4, 2) := by decide +kernel
theorem dX6_bill_33 : decode cX6_bill 33 = .ok (.invokevirtual 112, 3) := by decide +kernel
theorem dX6_bill_36 : decode cX6_bill 36 = .ok (.istore 5, 2) := by decide +kernel
theorem dX6_bill_38 : decode cX6_bill 38 = .ok (.iconst 0, 1) := by decide +kernel
theorem dX6_bill_39 : decode cX6_bill 39 = .ok (.istore 6, 2) := by decide +kernel
theorem dX6_bill_41 : decode cX6_bill 41 = .ok (.iconst 0, 1) := by decide +kernel
theorem dX6_bill_42 : decode cX6_bill 42 = .ok (.istore 7, 2) := by decide +kernel
theorem dX6_bill_44 : decode cX6_bill 44 = .ok (.iload 7, 2) := by decide +kernel
theorem dX6_bill_46 : decode cX6_bill 46 = .ok (.aload_n 0, 1) := by decide +kernel
theorem dX6_bill_47 : decode cX6_bill 47 = .ok (.getfield 81, 3) := by decide +kernel
theorem dX6_bill_50 : decode cX6_bill 50 = .ok (.if_icmp .ge 44, 3) := by decide +kernel
theorem dX6_bill_53 : decode cX6_bill 53 = .ok (.iload 6, 2) := by decide +kernel
theorem dX6_bill_55 : decode cX6_bill 55 = .ok (.aload_n 0, 1) := by decide +kernel
theorem dX6_bill_56 : decode cX6_bill 56 = .ok (.getfield 44, 3) := by decide +kernel
theorem dX6_bill_59 : decode cX6_bill 59 = .ok (.iload 7, 2) := by decide +kernel
theorem dX6_bill_61 : decode cX6_bill 61 = .ok (.baload, 1) := by decide +kernel
theorem dX6_bill_62 : decode cX6_bill 62 = .ok (.ifCond .eq 22, 3) := by decide +kernel
theorem dX6_bill_65 : decode cX6_bill 65 = .ok (.aload_n 0, 1) := by decide +kernel
theorem dX6_bill_66 : decode cX6_bill 66 = .ok (.getfield 17, 3) := by decide +kernel
theorem dX6_bill_69 : decode cX6_bill 69 = .ok (.iload 7, 2) := by decide +kernel
theorem dX6_bill_71 : decode cX6_bill 71 = .ok (.iaload, 1) := by decide +kernel
theorem dX6_bill_72 : decode cX6_bill 72 = .ok (.iload_n 1, 1) := by decide +kernel
theorem dX6_bill_73 : decode cX6_bill 73 = .ok (.invokestatic 119, 3) := by decide +kernel
theorem dX6_bill_76 : decode cX6_bill 76 = .ok (.iload_n 2, 1) := by decide +kernel
theorem dX6_bill_77 : decode cX6_bill 77 = .ok (.if_icmp .ne 7, 3) := by decide +kernel
theorem dX6_bill_80 : decode cX6_bill 80 = .ok (.iconst 1, 1) := by decide +kernel
theorem dX6_bill_81 : decode cX6_bill 81 = .ok (.goto 4, 3) := by decide +kernel
theorem dX6_bill_84 : decode cX6_bill 84 = .ok (.iconst 0, 1) := by decide +kernel
theorem dX6_bill_85 : decode cX6_bill 85 = .ok (.iadd, 1) := by decide +kernel
theorem dX6_bill_86 : decode cX6_bill 86 = .ok (.istore 6, 2) := by decide +kernel
theorem dX6_bill_88 : decode cX6_bill 88 = .ok (.iinc 7 1, 3) := by decide +kernel
theorem dX6_bill_91 : decode cX6_bill 91 = .ok (.goto (-47), 3) := by decide +kernel
theorem dX6_bill_94 : decode cX6_bill 94 = .ok (.iload 6, 2) := by decide +kernel
theorem dX6_bill_96 : decode cX6_bill 96 = .ok (.ireturn, 1) := by decide +kernel
theorem dX6_count_0 : decode cX6_count 0 = .ok (.iconst 0, 1) := by decide +kernel
theorem dX6_count_1 : decode cX6_count 1 = .ok (.istore_n 2, 1) := by decide +kernel
theorem dX6_count_2 : decode cX6_count 2 = .ok (.iload_n 1, 1) := by decide +kernel
theorem dX6_count_3 : decode cX6_count 3 = .ok (.tableswitch 94 0 4 #[33, 38, 43, 48, 53], 33) := by decide +kernel
theorem dX6_count_36 : decode cX6_count 36 = .ok (.aload_n 0, 1) := by decide +kernel
theorem dX6_count_37 : decode cX6_count 37 = .ok (.getfield 65, 3) := by decide +kernel
theorem dX6_count_40 : decode cX6_count 40 = .ok (.ireturn, 1) := by decide +kernel
theorem dX6_count_41 : decode cX6_count 41 = .ok (.aload_n 0, 1) := by decide +kernel
theorem dX6_count_42 : decode cX6_count 42 = .ok (.getfield 81, 3) := by decide +kernel
theorem dX6_count_45 : decode cX6_count 45 = .ok (.ireturn, 1) := by decide +kernel
theorem dX6_count_46 : decode cX6_count 46 = .ok (.aload_n 0, 1) := by decide +kernel
theorem dX6_count_47 : decode cX6_count 47 = .ok (.getfield 94, 3) := by decide +kernel
theorem dX6_count_50 : decode cX6_count 50 = .ok (.ireturn, 1) := by decide +kernel
theorem dX6_count_51 : decode cX6_count 51 = .ok (.aload_n 0, 1) := by decide +kernel
theorem dX6_count_52 : decode cX6_count 52 = .ok (.getfield 140, 3) := by decide +kernel
theorem dX6_count_55 : decode cX6_count 55 = .ok (.ireturn, 1) := by decide +kernel
theorem dX6_count_56 : decode cX6_count 56 = .ok (.iconst 0, 1) := by decide +kernel
theorem dX6_count_57 : decode cX6_count 57 = .ok (.istore_n 3, 1) := by decide +kernel
theorem dX6_count_58 : decode cX6_count 58 = .ok (.iload_n 3, 1) := by decide +kernel
theorem dX6_count_59 : decode cX6_count 59 = .ok (.bipush 6, 2) := by decide +kernel
theorem dX6_count_61 : decode cX6_count 61 = .ok (.if_icmp .ge 34, 3) := by decide +kernel
theorem dX6_count_64 : decode cX6_count 64 = .ok (.iload_n 2, 1) := by decide +kernel
theorem dX6_count_65 : decode cX6_count 65 = .ok (.aload_n 0, 1) := by decide +kernel
theorem dX6_count_66 : decode cX6_count 66 = .ok (.getfield 7, 3) := by decide +kernel
theorem dX6_count_69 : decode cX6_count 69 = .ok (.bipush 6, 2) := by decide +kernel
theorem dX6_count_71 : decode cX6_count 71 = .ok (.aload_n 0, 1) := by decide +kernel
theorem dX6_count_72 : decode cX6_count 72 = .ok (.getfield 65, 3) := by decide +kernel
theorem dX6_count_75 : decode cX6_count 75 = .ok (.imul, 1) := by decide +kernel
theorem dX6_count_76 : decode cX6_count 76 = .ok (.iload_n 3, 1) := by decide +kernel
theorem dX6_count_77 : decode cX6_count 77 = .ok (.iadd, 1) := by decide +kernel
theorem dX6_count_78 : decode cX6_count 78 = .ok (.baload, 1) := by decide +kernel
theorem dX6_count_79 : decode cX6_count 79 = .ok (.ifCond .eq 7, 3) := by decide +kernel
theorem dX6_count_82 : decode cX6_count 82 = .ok (.iconst 1, 1) := by decide +kernel
theorem dX6_count_83 : decode cX6_count 83 = .ok (.goto 4, 3) := by decide +kernel
theorem dX6_count_86 : decode cX6_count 86 = .ok (.iconst 0, 1) := by decide +kernel
theorem dX6_count_87 : decode cX6_count 87 = .ok (.iadd, 1) := by decide +kernel
theorem dX6_count_88 : decode cX6_count 88 = .ok (.istore_n 2, 1) := by decide +kernel
theorem dX6_count_89 : decode cX6_count 89 = .ok (.iinc 3 1, 3) := by decide +kernel
theorem dX6_count_92 : decode cX6_count 92 = .ok (.goto (-34), 3) := by decide +kernel
theorem dX6_count_95 : decode cX6_count 95 = .ok (.iload_n 2, 1) := by decide +kernel
theorem dX6_count_96 : decode cX6_count 96 = .ok (.ireturn, 1) := by decide +kernel
theorem dX6_count_97 : decode cX6_count 97 = .ok (.bipush (-2), 2) := by decide +kernel
theorem dX6_count_99 : decode cX6_count 99 = .ok (.ireturn, 1) := by decide +kernel
set_option maxRecDepth 20000 in
theorem ggJ6_highestOneBit_0f7a4_J6_numberOfLeadingZeros_0f7a4 : GoodIn wsJ6_highestOneBit_0f7a4 wsJ6_numberOfLeadingZeros_0f7a4 := goodIn_r _ [5, 6] (by decide +kernel) (by decide +kernel)
set_option maxRecDepth 20000 in
theorem gJ6_highestOneBit_0f7a4_J6_numberOfLeadingZeros_0f7a4 : GoodIn wsJ6_highestOneBit_0f7a4 (va_wsS RJ6 51 yJ6_numberOfLeadingZeros_0f7a4 wsJ6_numberOfLeadingZeros_0f7a4) := goodIn_app (goodIn_of _ (by decide +kernel)) ggJ6_highestOneBit_0f7a4_J6_numberOfLeadingZeros_0f7a4
theorem dJ6_highestOneBit_0f7a4_0 : decode cJ6_highestOneBit_0f7a4 0 = .ok (.iload_n 0, 1) := by decide +kernel
theorem dJ6_highestOneBit_0f7a4_1 : decode cJ6_highestOneBit_0f7a4 1 = .ok (.ldc 127, 2) := by decide +kernel
theorem dJ6_highestOneBit_0f7a4_3 : decode cJ6_highestOneBit_0f7a4 3 = .ok (.iload_n 0, 1) := by decide +kernel
theorem dJ6_highestOneBit_0f7a4_4 : decode cJ6_highestOneBit_0f7a4 4 = .ok (.invokestatic 51, 3) := by decide +kernel
theorem dJ6_highestOneBit_0f7a4_7 : decode cJ6_highestOneBit_0f7a4 7 = .ok (.iushr, 1) := by decide +kernel
theorem dJ6_highestOneBit_0f7a4_8 : decode cJ6_highestOneBit_0f7a4 8 = .ok (.iand, 1) := by decide +kernel
theorem dJ6_highestOneBit_0f7a4_9 : decode cJ6_highestOneBit_0f7a4 9 = .ok (.ireturn, 1) := by decide +kernel
theorem dJ6_numberOfLeadingZeros_0f7a4_0 : decode cJ6_numberOfLeadingZeros_0f7a4 0 = .ok (.iload_n 0, 1) := by decide +kernel
theorem dJ6_numberOfLeadingZeros_0f7a4_1 : decode cJ6_numberOfLeadingZeros_0f7a4 1 = .ok (.ifCond .gt 14, 3) := by decide +kernel
theorem dJ6_numberOfLeadingZeros_0f7a4_4 : decode cJ6_numberOfLeadingZeros_0f7a4 4 = .ok (.iload_n 0, 1) := by decide +kernel
theorem dJ6_numberOfLeadingZeros_0f7a4_5 : decode cJ6_numberOfLeadingZeros_0f7a4 5 = .ok (.ifCond .ne 8, 3) := by decide +kernel
theorem dJ6_numberOfLeadingZeros_0f7a4_8 : decode cJ6_numberOfLeadingZeros_0f7a4 8 = .ok (.bipush 32, 2) := by decide +kernel
theorem dJ6_numberOfLeadingZeros_0f7a4_10 : decode cJ6_numberOfLeadingZeros_0f7a4 10 = .ok (.goto 4, 3) := by decide +kernel
theorem dJ6_numberOfLeadingZeros_0f7a4_13 : decode cJ6_numberOfLeadingZeros_0f7a4 13 = .ok (.iconst 0, 1) := by decide +kernel
theorem dJ6_numberOfLeadingZeros_0f7a4_14 : decode cJ6_numberOfLeadingZeros_0f7a4 14 = .ok (.ireturn, 1) := by decide +kernel
theorem dJ6_numberOfLeadingZeros_0f7a4_15 : decode cJ6_numberOfLeadingZeros_0f7a4 15 = .ok (.bipush 31, 2) := by decide +kernel
theorem dJ6_numberOfLeadingZeros_0f7a4_17 : decode cJ6_numberOfLeadingZeros_0f7a4 17 = .ok (.istore_n 1, 1) := by decide +kernel
theorem dJ6_numberOfLeadingZeros_0f7a4_18 : decode cJ6_numberOfLeadingZeros_0f7a4 18 = .ok (.iload_n 0, 1) := by decide +kernel
theorem dJ6_numberOfLeadingZeros_0f7a4_19 : decode cJ6_numberOfLeadingZeros_0f7a4 19 = .ok (.ldc_w 264, 3) := by decide +kernel
theorem dJ6_numberOfLeadingZeros_0f7a4_22 : decode cJ6_numberOfLeadingZeros_0f7a4 22 = .ok (.if_icmp .lt 11, 3) := by decide +kernel
theorem dJ6_numberOfLeadingZeros_0f7a4_25 : decode cJ6_numberOfLeadingZeros_0f7a4 25 = .ok (.iinc 1 (-16), 3) := by decide +kernel
theorem dJ6_numberOfLeadingZeros_0f7a4_28 : decode cJ6_numberOfLeadingZeros_0f7a4 28 = .ok (.iload_n 0, 1) := by decide +kernel
theorem dJ6_numberOfLeadingZeros_0f7a4_29 : decode cJ6_numberOfLeadingZeros_0f7a4 29 = .ok (.bipush 16, 2) := by decide +kernel
theorem dJ6_numberOfLeadingZeros_0f7a4_31 : decode cJ6_numberOfLeadingZeros_0f7a4 31 = .ok (.iushr, 1) := by decide +kernel
theorem dJ6_numberOfLeadingZeros_0f7a4_32 : decode cJ6_numberOfLeadingZeros_0f7a4 32 = .ok (.istore_n 0, 1) := by decide +kernel
theorem dJ6_numberOfLeadingZeros_0f7a4_33 : decode cJ6_numberOfLeadingZeros_0f7a4 33 = .ok (.iload_n 0, 1) := by decide +kernel
theorem dJ6_numberOfLeadingZeros_0f7a4_34 : decode cJ6_numberOfLeadingZeros_0f7a4 34 = .ok (.sipush 256, 3) := by decide +kernel
theorem dJ6_numberOfLeadingZeros_0f7a4_37 : decode cJ6_numberOfLeadingZeros_0f7a4 37 = .ok (.if_icmp .lt 11, 3) := by decide +kernel
theorem dJ6_numberOfLeadingZeros_0f7a4_40 : decode cJ6_numberOfLeadingZeros_0f7a4 40 = .ok (.iinc 1 (-8), 3) := by decide +kernel
theorem dJ6_numberOfLeadingZeros_0f7a4_43 : decode cJ6_numberOfLeadingZeros_0f7a4 43 = .ok (.iload_n 0, 1) := by decide +kernel
theorem dJ6_numberOfLeadingZeros_0f7a4_44 : decode cJ6_numberOfLeadingZeros_0f7a4 44 = .ok (.bipush 8, 2) := by decide +kernel
theorem dJ6_numberOfLeadingZeros_0f7a4_46 : decode cJ6_numberOfLeadingZeros_0f7a4 46 = .ok (.iushr, 1) := by decide +kernel
theorem dJ6_numberOfLeadingZeros_0f7a4_47 : decode cJ6_numberOfLeadingZeros_0f7a4 47 = .ok (.istore_n 0, 1) := by decide +kernel
theorem dJ6_numberOfLeadingZeros_0f7a4_48 : decode cJ6_numberOfLeadingZeros_0f7a4 48 = .ok (.iload_n 0, 1) := by decide +kernel
theorem dJ6_numberOfLeadingZeros_0f7a4_49 : decode cJ6_numberOfLeadingZeros_0f7a4 49 = .ok (.bipush 16, 2) := by decide +kernel
theorem dJ6_numberOfLeadingZeros_0f7a4_51 : decode cJ6_numberOfLeadingZeros_0f7a4 51 = .ok (.if_icmp .lt 10, 3) := by decide +kernel
theorem dJ6_numberOfLeadingZeros_0f7a4_54 : decode cJ6_numberOfLeadingZeros_0f7a4 54 = .ok (.iinc 1 (-4), 3) := by decide +kernel
theorem dJ6_numberOfLeadingZeros_0f7a4_57 : decode cJ6_numberOfLeadingZeros_0f7a4 57 = .ok (.iload_n 0, 1) := by decide +kernel
theorem dJ6_numberOfLeadingZeros_0f7a4_58 : decode cJ6_numberOfLeadingZeros_0f7a4 58 = .ok (.iconst 4, 1) := by decide +kernel
theorem dJ6_numberOfLeadingZeros_0f7a4_59 : decode cJ6_numberOfLeadingZeros_0f7a4 59 = .ok (.iushr, 1) := by decide +kernel
theorem dJ6_numberOfLeadingZeros_0f7a4_60 : decode cJ6_numberOfLeadingZeros_0f7a4 60 = .ok (.istore_n 0, 1) := by decide +kernel
theorem dJ6_numberOfLeadingZeros_0f7a4_61 : decode cJ6_numberOfLeadingZeros_0f7a4 61 = .ok (.iload_n 0, 1) := by decide +kernel
theorem dJ6_numberOfLeadingZeros_0f7a4_62 : decode cJ6_numberOfLeadingZeros_0f7a4 62 = .ok (.iconst 4, 1) := by decide +kernel
theorem dJ6_numberOfLeadingZeros_0f7a4_63 : decode cJ6_numberOfLeadingZeros_0f7a4 63 = .ok (.if_icmp .lt 10, 3) := by decide +kernel
theorem dJ6_numberOfLeadingZeros_0f7a4_66 : decode cJ6_numberOfLeadingZeros_0f7a4 66 = .ok (.iinc 1 (-2), 3) := by decide +kernel
theorem dJ6_numberOfLeadingZeros_0f7a4_69 : decode cJ6_numberOfLeadingZeros_0f7a4 69 = .ok (.iload_n 0, 1) := by decide +kernel
theorem dJ6_numberOfLeadingZeros_0f7a4_70 : decode cJ6_numberOfLeadingZeros_0f7a4 70 = .ok (.iconst 2, 1) := by decide +kernel
theorem dJ6_numberOfLeadingZeros_0f7a4_71 : decode cJ6_numberOfLeadingZeros_0f7a4 71 = .ok (.iushr, 1) := by decide +kernel
theorem dJ6_numberOfLeadingZeros_0f7a4_72 : decode cJ6_numberOfLeadingZeros_0f7a4 72 = .ok (.istore_n 0, 1) := by decide +kernel
theorem dJ6_numberOfLeadingZeros_0f7a4_73 : decode cJ6_numberOfLeadingZeros_0f7a4 73 = .ok (.iload_n 1, 1) := by decide +kernel
theorem dJ6_numberOfLeadingZeros_0f7a4_74 : decode cJ6_numberOfLeadingZeros_0f7a4 74 = .ok (.iload_n 0, 1) := by decide +kernel
theorem dJ6_numberOfLeadingZeros_0f7a4_75 : decode cJ6_numberOfLeadingZeros_0f7a4 75 = .ok (.iconst 1, 1) := by decide +kernel
theorem dJ6_numberOfLeadingZeros_0f7a4_76 : decode cJ6_numberOfLeadingZeros_0f7a4 76 = .ok (.iushr, 1) := by decide +kernel
theorem dJ6_numberOfLeadingZeros_0f7a4_77 : decode cJ6_numberOfLeadingZeros_0f7a4 77 = .ok (.isub, 1) := by decide +kernel
theorem dJ6_numberOfLeadingZeros_0f7a4_78 : decode cJ6_numberOfLeadingZeros_0f7a4 78 = .ok (.ireturn, 1) := by decide +kernel
theorem dJ6_bitCount_0f7a4_0 : decode cJ6_bitCount_0f7a4 0 = .ok (.iload_n 0, 1) := by decide +kernel
theorem dJ6_bitCount_0f7a4_1 : decode cJ6_bitCount_0f7a4 1 = .ok (.iload_n 0, 1) := by decide +kernel
theorem dJ6_bitCount_0f7a4_2 : decode cJ6_bitCount_0f7a4 2 = .ok (.iconst 1, 1) := by decide +kernel
theorem dJ6_bitCount_0f7a4_3 : decode cJ6_bitCount_0f7a4 3 = .ok (.iushr, 1) := by decide +kernel
theorem dJ6_bitCount_0f7a4_4 : decode cJ6_bitCount_0f7a4 4 = .ok (.ldc_w 265, 3) := by decide +kernel
theorem dJ6_bitCount_0f7a4_7 : decode cJ6_bitCount_0f7a4 7 = .ok (.iand, 1) := by decide +kernel
theorem dJ6_bitCount_0f7a4_8 : decode cJ6_bitCount_0f7a4 8 = .ok (.isub, 1) := by decide +kernel
theorem dJ6_bitCount_0f7a4_9 : decode cJ6_bitCount_0f7a4 9 = .ok (.istore_n 0, 1) := by decide +kernel
theorem dJ6_bitCount_0f7a4_10 : decode cJ6_bitCount_0f7a4 10 = .ok (.iload_n 0, 1) := by decide +kernel
theorem dJ6_bitCount_0f7a4_11 : decode cJ6_bitCount_0f7a4 11 = .ok (.ldc_w 266, 3) := by decide +kernel
theorem dJ6_bitCount_0f7a4_14 : decode cJ6_bitCount_0f7a4 14 = .ok (.iand, 1) := by decide +kernel
theorem dJ6_bitCount_0f7a4_15 : decode cJ6_bitCount_0f7a4 15 = .ok (.iload_n 0, 1) := by decide +kernel
theorem dJ6_bitCount_0f7a4_16 : decode cJ6_bitCount_0f7a4 16 = .ok (.iconst 2, 1) := by decide +kernel
theorem dJ6_bitCount_0f7a4_17 : decode cJ6_bitCount_0f7a4 17 = .ok (.iushr, 1) := by decide +kernel
theorem dJ6_bitCount_0f7a4_18 : decode cJ6_bitCount_0f7a4 18 = .ok (.ldc_w 266, 3) := by decide +kernel
theorem dJ6_bitCount_0f7a4_21 : decode cJ6_bitCount_0f7a4 21 = .ok (.iand, 1) := by decide +kernel
theorem dJ6_bitCount_0f7a4_22 : decode cJ6_bitCount_0f7a4 22 = .ok (.iadd, 1) := by decide +kernel
theorem dJ6_bitCount_0f7a4_23 : decode cJ6_bitCount_0f7a4 23 = .ok (.istore_n 0, 1) := by decide +kernel
theorem dJ6_bitCount_0f7a4_24 : decode cJ6_bitCount_0f7a4 24 = .ok (.iload_n 0, 1) := by decide +kernel
theorem dJ6_bitCount_0f7a4_25 : decode cJ6_bitCount_0f7a4 25 = .ok (.iload_n 0, 1) := by decide +kernel
theorem dJ6_bitCount_0f7a4_26 : decode cJ6_bitCount_0f7a4 26 = .ok (.iconst 4, 1) := by decide +kernel
theorem dJ6_bitCount_0f7a4_27 : decode cJ6_bitCount_0f7a4 27 = .ok (.iushr, 1) := by decide +kernel
theorem dJ6_bitCount_0f7a4_28 : decode cJ6_bitCount_0f7a4 28 = .ok (.iadd, 1) := by decide +kernel
theorem dJ6_bitCount_0f7a4_29 : decode cJ6_bitCount_0f7a4 29 = .ok (.ldc_w 267, 3) := by decide +kernel
theorem dJ6_bitCount_0f7a4_32 : decode cJ6_bitCount_0f7a4 32 = .ok (.iand, 1) := by decide +kernel
theorem dJ6_bitCount_0f7a4_33 : decode cJ6_bitCount_0f7a4 33 = .ok (.istore_n 0, 1) := by decide +kernel
theorem dJ6_bitCount_0f7a4_34 : decode cJ6_bitCount_0f7a4 34 = .ok (.iload_n 0, 1) := by decide +kernel
theorem dJ6_bitCount_0f7a4_35 : decode cJ6_bitCount_0f7a4 35 = .ok (.iload_n 0, 1) := by decide +kernel
theorem dJ6_bitCount_0f7a4_36 : decode cJ6_bitCount_0f7a4 36 = .ok (.bipush 8, 2) := by decide +kernel
theorem dJ6_bitCount_0f7a4_38 : decode cJ6_bitCount_0f7a4 38 = .ok (.iushr, 1) := by decide +kernel
theorem dJ6_bitCount_0f7a4_39 : decode cJ6_bitCount_0f7a4 39 = .ok (.iadd, 1) := by decide +kernel
theorem dJ6_bitCount_0f7a4_40 : decode cJ6_bitCount_0f7a4 40 = .ok (.istore_n 0, 1) := by decide +kernel
theorem dJ6_bitCount_0f7a4_41 : decode cJ6_bitCount_0f7a4 41 = .ok (.iload_n 0, 1) := by decide +kernel
theorem dJ6_bitCount_0f7a4_42 : decode cJ6_bitCount_0f7a4 42 = .ok (.iload_n 0, 1) := by decide +kernel
theorem dJ6_bitCount_0f7a4_43 : decode cJ6_bitCount_0f7a4 43 = .ok (.bipush 16, 2) := by decide +kernel
theorem dJ6_bitCount_0f7a4_45 : decode cJ6_bitCount_0f7a4 45 = .ok (.iushr, 1) := by decide +kernel
theorem dJ6_bitCount_0f7a4_46 : decode cJ6_bitCount_0f7a4 46 = .ok (.iadd, 1) := by decide +kernel
theorem dJ6_bitCount_0f7a4_47 : decode cJ6_bitCount_0f7a4 47 = .ok (.istore_n 0, 1) := by decide +kernel
theorem dJ6_bitCount_0f7a4_48 : decode cJ6_bitCount_0f7a4 48 = .ok (.iload_n 0, 1) := by decide +kernel
theorem dJ6_bitCount_0f7a4_49 : decode cJ6_bitCount_0f7a4 49 = .ok (.bipush 63, 2) := by decide +kernel
theorem dJ6_bitCount_0f7a4_51 : decode cJ6_bitCount_0f7a4 51 = .ok (.iand, 1) := by decide +kernel
theorem dJ6_bitCount_0f7a4_52 : decode cJ6_bitCount_0f7a4 52 = .ok (.ireturn, 1) := by decide +kernel
theorem dJ9_max_7cf53_0 : decode cJ9_max_7cf53 0 = .ok (.iload_n 0, 1) := by decide +kernel
theorem dJ9_max_7cf53_1 : decode cJ9_max_7cf53 1 = .ok (.iload_n 1, 1) := by decide +kernel
theorem dJ9_max_7cf53_2 : decode cJ9_max_7cf53 2 = .ok (.if_icmp .lt 7, 3) := by decide +kernel
theorem dJ9_max_7cf53_5 : decode cJ9_max_7cf53 5 = .ok (.iload_n 0, 1) := by decide +kernel
theorem dJ9_max_7cf53_6 : decode cJ9_max_7cf53 6 = .ok (.goto 4, 3) := by decide +kernel
theorem dJ9_max_7cf53_9 : decode cJ9_max_7cf53 9 = .ok (.iload_n 1, 1) := by decide +kernel
theorem dJ9_max_7cf53_10 : decode cJ9_max_7cf53 10 = .ok (.ireturn, 1) := by decide +kernel
theorem dJ9_min_7cf53_0 : decode cJ9_min_7cf53 0 = .ok (.iload_n 0, 1) := by decide +kernel
theorem dJ9_min_7cf53_1 : decode cJ9_min_7cf53 1 = .ok (.iload_n 1, 1) := by decide +kernel
theorem dJ9_min_7cf53_2 : decode cJ9_min_7cf53 2 = .ok (.if_icmp .gt 7, 3) := by decide +kernel
theorem dJ9_min_7cf53_5 : decode cJ9_min_7cf53 5 = .ok (.iload_n 0, 1) := by decide +kernel
theorem dJ9_min_7cf53_6 : decode cJ9_min_7cf53 6 = .ok (.goto 4, 3) := by decide +kernel
theorem dJ9_min_7cf53_9 : decode cJ9_min_7cf53 9 = .ok (.iload_n 1, 1) := by decide +kernel
theorem dJ9_min_7cf53_10 : decode cJ9_min_7cf53 10 = .ok (.ireturn, 1) := by decide +kernel
theorem dJxa1e45_init_da8c8_0 : decode cJxa1e45_init_da8c8 0 = .ok (.aload_n 0, 1) := by decide +kernel
theorem dJxa1e45_init_da8c8_1 : decode cJxa1e45_init_da8c8 1 = .ok (.invokespecial 1, 3) := by decide +kernel
theorem dJxa1e45_init_da8c8_4 : decode cJxa1e45_init_da8c8 4 = .ok (.return_, 1) := by decide +kernel
set_option maxRecDepth 20000 in
theorem ggJxc12de_init_da8c8_Jxa1e45_init_da8c8 : GoodIn wsJxc12de_init_da8c8 wsJxa1e45_init_da8c8 := goodIn_r _ [5, 6, 7, 8] (by decide +kernel) (by decide +kernel)
set_option maxRecDepth 20000 in
theorem gJxc12de_init_da8c8_Jxa1e45_init_da8c8 : GoodIn wsJxc12de_init_da8c8 (wsJxa1e45_init_da8c8) := ggJxc12de_init_da8c8_Jxa1e45_init_da8c8
theorem dJxc12de_init_da8c8_0 : decode cJxc12de_init_da8c8 0 = .ok (.aload_n 0, 1) := by decide +kernel
theorem dJxc12de_init_da8c8_1 : decode cJxc12de_init_da8c8 1 = .ok (.invokespecial 1, 3) := by decide +kernel
theorem dJxc12de_init_da8c8_4 : decode cJxc12de_init_da8c8 4 = .ok (.aload_n 0, 1) := by decide +kernel
theorem dJxc12de_init_da8c8_5 : decode cJxc12de_init_da8c8 5 = .ok (.iconst 0, 1) := by decide +kernel
theorem dJxc12de_init_da8c8_6 : decode cJxc12de_init_da8c8 6 = .ok (.putfield 7, 3) := by decide +kernel
theorem dJxc12de_init_da8c8_9 : decode cJxc12de_init_da8c8 9 = .ok (.return_, 1) := by decide +kernel
set_option maxRecDepth 20000 in
theorem ggJx4a65c_init_da8c8_Jxc12de_init_da8c8 : GoodIn wsJx4a65c_init_da8c8 wsJxc12de_init_da8c8 := goodIn_r _ [6, 7, 8, 9, 10, 11, 12, 13, 14, 15, 16, 17] (by decide +kernel) (by decide +kernel)
set_option maxRecDepth 20000 in
theorem gJx4a65c_init_da8c8_Jxc12de_init_da8c8 : GoodIn wsJx4a65c_init_da8c8 (wsJxc12de_init_da8c8) := ggJx4a65c_init_da8c8_Jxc12de_init_da8c8
theorem dJx4a65c_init_da8c8_0 : decode cJx4a65c_init_da8c8 0 = .ok (.aload_n 0, 1) := by decide +kernel
theorem dJx4a65c_init_da8c8_1 : decode cJx4a65c_init_da8c8 1 = .ok (.invokespecial 1, 3) := by decide +kernel
theorem dJx4a65c_init_da8c8_4 : decode cJx4a65c_init_da8c8 4 = .ok (.aload_n 0, 1) := by decide +kernel
theorem dJx4a65c_init_da8c8_5 : decode cJx4a65c_init_da8c8 5 = .ok (.getstatic 39, 3) := by decide +kernel
theorem dJx4a65c_init_da8c8_8 : decode cJx4a65c_init_da8c8 8 = .ok (.putfield 9, 3) := by decide +kernel
theorem dJx4a65c_init_da8c8_11 : decode cJx4a65c_init_da8c8 11 = .ok (.return_, 1) := by decide +kernel
set_option maxRecDepth 20000 in
theorem ggJx4a65c_grow_92f84_J8_newLength_cabcc : GoodIn wsJx4a65c_grow_92f84 wsJ8_newLength_cabcc := goodIn_r _ [11, 12, 4, 5, 6, 13, 14, 15, 10, 16] (by decide +kernel) (by decide +kernel)
set_option maxRecDepth 20000 in
theorem gJx4a65c_grow_92f84_J8_newLength_cabcc : GoodIn wsJx4a65c_grow_92f84 (va_wsS RJx4a65c 73 yJ8_newLength_cabcc wsJ8_newLength_cabcc) := goodIn_app (goodIn_of _ (by decide +kernel)) ggJx4a65c_grow_92f84_J8_newLength_cabcc
set_option maxRecDepth 20000 in
theorem ggJx4a65c_grow_92f84_J7_copyOf_1904c : GoodIn wsJx4a65c_grow_92f84 wsJ7_copyOf_1904c := goodIn_r _ [20, 21, 22, 23, 24, 25, 26, 19, 27, 28, 29, 30, 31, 5, 32, 33, 34, 35, 36] (by decide +kernel) (by decide +kernel)
set_option maxRecDepth 20000 in
theorem gJx4a65c_grow_92f84_J7_copyOf_1904c : GoodIn wsJx4a65c_grow_92f84 (va_wsS RJx4a65c 66 yJ7_copyOf_1904c wsJ7_copyOf_1904c) := goodIn_app (goodIn_of _ (by decide +kernel)) ggJx4a65c_grow_92f84_J7_copyOf_1904c
theorem dJx4a65c_grow_92f84_0 : decode cJx4a65c_grow_92f84 0 = .ok (.aload_n 0, 1) := by decide +kernel
theorem dJx4a65c_grow_92f84_1 : decode cJx4a65c_grow_92f84 1 = .ok (.getfield 9, 3) := by decide +kernel
theorem dJx4a65c_grow_92f84_4 : decode cJx4a65c_grow_92f84 4 = .ok (.arraylength, 1) := by decide +kernel
theorem dJx4a65c_grow_92f84_5 : decode cJx4a65c_grow_92f84 5 = .ok (.istore_n 2, 1) := by decide +kernel
theorem dJx4a65c_grow_92f84_6 : decode cJx4a65c_grow_92f84 6 = .ok (.iload_n 2, 1) := by decide +kernel
theorem dJx4a65c_grow_92f84_7 : decode cJx4a65c_grow_92f84 7 = .ok (.ifCond .gt 13, 3) := by decide +kernel
theorem dJx4a65c_grow_92f84_10 : decode cJx4a65c_grow_92f84 10 = .ok (.aload_n 0, 1) := by decide +kernel
theorem dJx4a65c_grow_92f84_11 : decode cJx4a65c_grow_92f84 11 = .ok (.getfield 9, 3) := by decide +kernel
theorem dJx4a65c_grow_92f84_14 : decode cJx4a65c_grow_92f84 14 = .ok (.getstatic 39, 3) := by decide +kernel
theorem dJx4a65c_grow_92f84_17 : decode cJx4a65c_grow_92f84 17 = .ok (.if_acmp .eq 28, 3) := by decide +kernel
theorem dJx4a65c_grow_92f84_20 : decode cJx4a65c_grow_92f84 20 = .ok (.iload_n 2, 1) := by decide +kernel
theorem dJx4a65c_grow_92f84_21 : decode cJx4a65c_grow_92f84 21 = .ok (.iload_n 1, 1) := by decide +kernel
theorem dJx4a65c_grow_92f84_22 : decode cJx4a65c_grow_92f84 22 = .ok (.iload_n 2, 1) := by decide +kernel
theorem dJx4a65c_grow_92f84_23 : decode cJx4a65c_grow_92f84 23 = .ok (.isub, 1) := by decide +kernel
theorem dJx4a65c_grow_92f84_24 : decode cJx4a65c_grow_92f84 24 = .ok (.iload_n 2, 1) := by decide +kernel
theorem dJx4a65c_grow_92f84_25 : decode cJx4a65c_grow_92f84 25 = .ok (.iconst 1, 1) := by decide +kernel
theorem dJx4a65c_grow_92f84_26 : decode cJx4a65c_grow_92f84 26 = .ok (.ishr, 1) := by decide +kernel
theorem dJx4a65c_grow_92f84_27 : decode cJx4a65c_grow_92f84 27 = .ok (.invokestatic 73, 3) := by decide +kernel
theorem dJx4a65c_grow_92f84_30 : decode cJx4a65c_grow_92f84 30 = .ok (.istore_n 3, 1) := by decide +kernel
theorem dJx4a65c_grow_92f84_31 : decode cJx4a65c_grow_92f84 31 = .ok (.aload_n 0, 1) := by decide +kernel
theorem dJx4a65c_grow_92f84_32 : decode cJx4a65c_grow_92f84 32 = .ok (.aload_n 0, 1) := by decide +kernel
theorem dJx4a65c_grow_92f84_33 : decode cJx4a65c_grow_92f84 33 = .ok (.getfield 9, 3) := by decide +kernel
theorem dJx4a65c_grow_92f84_36 : decode cJx4a65c_grow_92f84 36 = .ok (.iload_n 3, 1) := by decide +kernel
theorem dJx4a65c_grow_92f84_37 : decode cJx4a65c_grow_92f84 37 = .ok (.invokestatic 66, 3) := by decide +kernel
theorem dJx4a65c_grow_92f84_40 : decode cJx4a65c_grow_92f84 40 = .ok (.dup_x1, 1) := by decide +kernel
theorem dJx4a65c_grow_92f84_41 : decode cJx4a65c_grow_92f84 41 = .ok (.putfield 9, 3) := by decide +kernel
theorem dJx4a65c_grow_92f84_44 : decode cJx4a65c_grow_92f84 44 = .ok (.areturn, 1) := by decide +kernel
theorem dJx4a65c_grow_92f84_45 : decode cJx4a65c_grow_92f84 45 = .ok (.aload_n 0, 1) := by decide +kernel
theorem dJx4a65c_grow_92f84_46 : decode cJx4a65c_grow_92f84 46 = .ok (.bipush 10, 2) := by decide +kernel
theorem dJx4a65c_grow_92f84_48 : decode cJx4a65c_grow_92f84 48 = .ok (.iload_n 1, 1) := by decide +kernel
theorem dJx4a65c_grow_92f84_49 : decode cJx4a65c_grow_92f84 49 = .ok (.invokestatic 79, 3) := by decide +kernel
theorem dJx4a65c_grow_92f84_52 : decode cJx4a65c_grow_92f84 52 = .ok (.anewarray 7, 3) := by decide +kernel
theorem dJx4a65c_grow_92f84_55 : decode cJx4a65c_grow_92f84 55 = .ok (.dup_x1, 1) := by decide +kernel
theorem dJx4a65c_grow_92f84_56 : decode cJx4a65c_grow_92f84 56 = .ok (.putfield 9, 3) := by decide +kernel
theorem dJx4a65c_grow_92f84_59 : decode cJx4a65c_grow_92f84 59 = .ok (.areturn, 1) := by decide +kernel
set_option maxRecDepth 20000 in
theorem ggJx4a65c_grow_d5877_Jx4a65c_grow_92f84 : GoodIn wsJx4a65c_grow_d5877 wsJx4a65c_grow_92f84 := goodIn_r _ [6, 7, 8, 9, 10, 11, 12, 13, 14, 15, 16, 17, 18, 19, 20, 21, 22, 23, 24, 25, 26, 27, 28, 29, 30, 31, 32, 33, 34, 35, 36, 37, 38, 39, 40, 41, 42, 43, 44, 45] (by decide +kernel) (by decide +kernel)
set_option maxRecDepth 20000 in
theorem gJx4a65c_grow_d5877_Jx4a65c_grow_92f84 : GoodIn wsJx4a65c_grow_d5877 (wsV RJx4a65c 69 RJx4a65c yJx4a65c_grow_92f84 wsJx4a65c_grow_92f84) := goodIn_app (goodIn_of _ (by decide +kernel)) ggJx4a65c_grow_d5877_Jx4a65c_grow_92f84
theorem dJx4a65c_grow_d5877_0 : decode cJx4a65c_grow_d5877 0 = .ok (.aload_n 0, 1) := by decide +kernel
theorem dJx4a65c_grow_d5877_1 : decode cJx4a65c_grow_d5877 1 = .ok (.aload_n 0, 1) := by decide +kernel
theorem dJx4a65c_grow_d5877_2 : decode cJx4a65c_grow_d5877 2 = .ok (.getfield 48, 3) := by decide +kernel
theorem dJx4a65c_grow_d5877_5 : decode cJx4a65c_grow_d5877 5 = .ok (.iconst 1, 1) := by decide +kernel
theorem dJx4a65c_grow_d5877_6 : decode cJx4a65c_grow_d5877 6 = .ok (.iadd, 1) := by decide +kernel
theorem dJx4a65c_grow_d5877_7 : decode cJx4a65c_grow_d5877 7 = .ok (.invokevirtual 69, 3) := by decide +kernel
theorem dJx4a65c_grow_d5877_10 : decode cJx4a65c_grow_d5877 10 = .ok (.areturn, 1) := by decide +kernel
theorem dJx4a65c_size_8abf5_0 : decode cJx4a65c_size_8abf5 0 = .ok (.aload_n 0, 1) := by decide +kernel
theorem dJx4a65c_size_8abf5_1 : decode cJx4a65c_size_8abf5 1 = .ok (.getfield 48, 3) := by decide +kernel
theorem dJx4a65c_size_8abf5_4 : decode cJx4a65c_size_8abf5 4 = .ok (.ireturn, 1) := by decide +kernel
theorem dJx4a65c_elementData_915e3_0 : decode cJx4a65c_elementData_915e3 0 = .ok (.aload_n 0, 1) := by decide +kernel
theorem dJx4a65c_elementData_915e3_1 : decode cJx4a65c_elementData_915e3 1 = .ok (.getfield 9, 3) := by decide +kernel
theorem dJx4a65c_elementData_915e3_4 : decode cJx4a65c_elementData_915e3 4 = .ok (.iload_n 1, 1) := by decide +kernel
theorem dJx4a65c_elementData_915e3_5 : decode cJx4a65c_elementData_915e3 5 = .ok (.aaload, 1) := by decide +kernel
theorem dJx4a65c_elementData_915e3_6 : decode cJx4a65c_elementData_915e3 6 = .ok (.areturn, 1) := by decide +kernel
set_option maxRecDepth 20000 in
theorem ggJx4a65c_get_915e3_J15_checkIndex_7cf53 : GoodIn wsJx4a65c_get_915e3 wsJ15_checkIndex_7cf53 := goodIn_r _ [5, 6, 7, 8, 9] (by decide +kernel) (by decide +kernel)
set_option maxRecDepth 20000 in
theorem gJx4a65c_get_915e3_J15_checkIndex_7cf53 : GoodIn wsJx4a65c_get_915e3 (va_wsS RJx4a65c 118 yJ15_checkIndex_7cf53 wsJ15_checkIndex_7cf53) := goodIn_app (goodIn_of _ (by decide +kernel)) ggJx4a65c_get_915e3_J15_checkIndex_7cf53
set_option maxRecDepth 20000 in
theorem ggJx4a65c_get_915e3_Jx4a65c_elementData_915e3 : GoodIn wsJx4a65c_get_915e3 wsJx4a65c_elementData_915e3 := goodIn_r _ [14, 15, 16, 17, 18] (by decide +kernel) (by decide +kernel)
set_option maxRecDepth 20000 in
theorem gJx4a65c_get_915e3_Jx4a65c_elementData_915e3 : GoodIn wsJx4a65c_get_915e3 (wsV RJx4a65c 123 RJx4a65c yJx4a65c_elementData_915e3 wsJx4a65c_elementData_915e3) := goodIn_app (goodIn_of _ (by decide +kernel)) ggJx4a65c_get_915e3_Jx4a65c_elementData_915e3
theorem dJx4a65c_get_915e3_0 : decode cJx4a65c_get_915e3 0 = .ok (.iload_n 1, 1) := by decide +kernel
theorem dJx4a65c_get_915e3_1 : decode cJx4a65c_get_915e3 1 = .ok (.aload_n 0, 1) := by decide +kernel
theorem dJx4a65c_get_915e3_2 : decode cJx4a65c_get_915e3 2 = .ok (.getfield 48, 3) := by decide +kernel
theorem dJx4a65c_get_915e3_5 : decode cJx4a65c_get_915e3 5 = .ok (.invokestatic 118, 3) := by decide +kernel
theorem dJx4a65c_get_915e3_8 : decode cJx4a65c_get_915e3 8 = .ok (.pop, 1) := by decide +kernel
theorem dJx4a65c_get_915e3_9 : decode cJx4a65c_get_915e3 9 = .ok (.aload_n 0, 1) := by decide +kernel
theorem dJx4a65c_get_915e3_10 : decode cJx4a65c_get_915e3 10 = .ok (.iload_n 1, 1) := by decide +kernel
theorem dJx4a65c_get_915e3_11 : decode cJx4a65c_get_915e3 11 = .ok (.invokevirtual 123, 3) := by decide +kernel
theorem dJx4a65c_get_915e3_14 : decode cJx4a65c_get_915e3 14 = .ok (.areturn, 1) := by decide +kernel
set_option maxRecDepth 20000 in
theorem ggJx4a65c_add_72be8_Jx4a65c_grow_d5877 : GoodIn wsJx4a65c_add_72be8 wsJx4a65c_grow_d5877 := goodIn_r _ [6, 1, 7, 8, 9, 5, 10, 11, 12, 13, 14, 15, 16, 17, 18, 19, 20, 21, 22, 23, 24, 25, 26, 27, 28, 29, 30, 31, 32, 33, 34, 35, 36, 37, 38, 39, 40, 41, 42, 43, 44, 45, 46, 47, 48, 49] (by decide +kernel) (by decide +kernel)
set_option maxRecDepth 20000 in
theorem gJx4a65c_add_72be8_Jx4a65c_grow_d5877 : GoodIn wsJx4a65c_add_72be8 (wsV RJx4a65c 129 RJx4a65c yJx4a65c_grow_d5877 wsJx4a65c_grow_d5877) := goodIn_app (goodIn_of _ (by decide +kernel)) ggJx4a65c_add_72be8_Jx4a65c_grow_d5877
theorem dJx4a65c_add_72be8_0 : decode cJx4a65c_add_72be8 0 = .ok (.iload_n 3, 1) := by decide +kernel
theorem dJx4a65c_add_72be8_1 : decode cJx4a65c_add_72be8 1 = .ok (.aload_n 2, 1) := by decide +kernel
theorem dJx4a65c_add_72be8_2 : decode cJx4a65c_add_72be8 2 = .ok (.arraylength, 1) := by decide +kernel
theorem dJx4a65c_add_72be8_3 : decode cJx4a65c_add_72be8 3 = .ok (.if_icmp .ne 8, 3) := by decide +kernel
theorem dJx4a65c_add_72be8_6 : decode cJx4a65c_add_72be8 6 = .ok (.aload_n 0, 1) := by decide +kernel
theorem dJx4a65c_add_72be8_7 : decode cJx4a65c_add_72be8 7 = .ok (.invokevirtual 129, 3) := by decide +kernel
theorem dJx4a65c_add_72be8_10 : decode cJx4a65c_add_72be8 10 = .ok (.astore_n 2, 1) := by decide +kernel
theorem dJx4a65c_add_72be8_11 : decode cJx4a65c_add_72be8 11 = .ok (.aload_n 2, 1) := by decide +kernel
theorem dJx4a65c_add_72be8_12 : decode cJx4a65c_add_72be8 12 = .ok (.iload_n 3, 1) := by decide +kernel
theorem dJx4a65c_add_72be8_13 : decode cJx4a65c_add_72be8 13 = .ok (.aload_n 1, 1) := by decide +kernel
theorem dJx4a65c_add_72be8_14 : decode cJx4a65c_add_72be8 14 = .ok (.aastore, 1) := by decide +kernel
theorem dJx4a65c_add_72be8_15 : decode cJx4a65c_add_72be8 15 = .ok (.aload_n 0, 1) := by decide +kernel
theorem dJx4a65c_add_72be8_16 : decode cJx4a65c_add_72be8 16 = .ok (.iload_n 3, 1) := by decide +kernel
theorem dJx4a65c_add_72be8_17 : decode cJx4a65c_add_72be8 17 = .ok (.iconst 1, 1) := by decide +kernel
theorem dJx4a65c_add_72be8_18 : decode cJx4a65c_add_72be8 18 = .ok (.iadd, 1) := by decide +kernel
theorem dJx4a65c_add_72be8_19 : decode cJx4a65c_add_72be8 19 = .ok (.putfield 48, 3) := by decide +kernel
theorem dJx4a65c_add_72be8_22 : decode cJx4a65c_add_72be8 22 = .ok (.return_, 1) := by decide +kernel
set_option maxRecDepth 20000 in
theorem ggJx4a65c_add_9ea2d_Jx4a65c_add_72be8 : GoodIn wsJx4a65c_add_9ea2d wsJx4a65c_add_72be8 := goodIn_r _ [9, 4, 10, 11, 12, 8, 13, 14, 15, 16, 17, 3, 18, 19, 20, 21, 22, 23, 24, 25, 26, 27, 28, 29, 30, 31, 32, 33, 34, 35, 36, 37, 38, 39, 40, 41, 42, 43, 44, 45, 46, 47, 48, 49, 50, 51, 52, 53, 54, 55] (by decide +kernel) (by decide +kernel)
set_option maxRecDepth 20000 in
theorem gJx4a65c_add_9ea2d_Jx4a65c_add_72be8 : GoodIn wsJx4a65c_add_9ea2d (wsV RJx4a65c 131 RJx4a65c yJx4a65c_add_72be8 wsJx4a65c_add_72be8) := goodIn_app (goodIn_of _ (by decide +kernel)) ggJx4a65c_add_9ea2d_Jx4a65c_add_72be8
theorem dJx4a65c_add_9ea2d_0 : decode cJx4a65c_add_9ea2d 0 = .ok (.aload_n 0, 1) := by decide +kernel
theorem dJx4a65c_add_9ea2d_1 : decode cJx4a65c_add_9ea2d 1 = .ok (.dup, 1) := by decide +kernel
theorem dJx4a65c_add_9ea2d_2 : decode cJx4a65c_add_9ea2d 2 = .ok (.getfield 63, 3) := by decide +kernel
theorem dJx4a65c_add_9ea2d_5 : decode cJx4a65c_add_9ea2d 5 = .ok (.iconst 1, 1) := by decide +kernel
theorem dJx4a65c_add_9ea2d_6 : decode cJx4a65c_add_9ea2d 6 = .ok (.iadd, 1) := by decide +kernel
theorem dJx4a65c_add_9ea2d_7 : decode cJx4a65c_add_9ea2d 7 = .ok (.putfield 63, 3) := by decide +kernel
theorem dJx4a65c_add_9ea2d_10 : decode cJx4a65c_add_9ea2d 10 = .ok (.aload_n 0, 1) := by decide +kernel
theorem dJx4a65c_add_9ea2d_11 : decode cJx4a65c_add_9ea2d 11 = .ok (.aload_n 1, 1) := by decide +kernel
theorem dJx4a65c_add_9ea2d_12 : decode cJx4a65c_add_9ea2d 12 = .ok (.aload_n 0, 1) := by decide +kernel
theorem dJx4a65c_add_9ea2d_13 : decode cJx4a65c_add_9ea2d 13 = .ok (.getfield 9, 3) := by decide +kernel
theorem dJx4a65c_add_9ea2d_16 : decode cJx4a65c_add_9ea2d 16 = .ok (.aload_n 0, 1) := by decide +kernel
theorem dJx4a65c_add_9ea2d_17 : decode cJx4a65c_add_9ea2d 17 = .ok (.getfield 48, 3) := by decide +kernel
theorem dJx4a65c_add_9ea2d_20 : decode cJx4a65c_add_9ea2d 20 = .ok (.invokevirtual 131, 3) := by decide +kernel
theorem dJx4a65c_add_9ea2d_23 : decode cJx4a65c_add_9ea2d 23 = .ok (.iconst 1, 1) := by decide +kernel
theorem dJx4a65c_add_9ea2d_24 : decode cJx4a65c_add_9ea2d 24 = .ok (.ireturn, 1) := by decide +kernel
set_option maxRecDepth 20000 in
theorem ggJ7_copyOf_1904c_J7_copyOf_6403c : GoodIn wsJ7_copyOf_1904c wsJ7_copyOf_6403c := goodIn_r _ [8, 9, 10, 11, 12, 13, 14, 15, 16, 17, 18] (by decide +kernel) (by decide +kernel)
set_option maxRecDepth 20000 in
theorem gJ7_copyOf_1904c_J7_copyOf_6403c : GoodIn wsJ7_copyOf_1904c (va_wsS RJ7 300 yJ7_copyOf_6403c wsJ7_copyOf_6403c) := goodIn_app (goodIn_of _ (by decide +kernel)) ggJ7_copyOf_1904c_J7_copyOf_6403c
theorem dJ7_copyOf_1904c_0 : decode cJ7_copyOf_1904c 0 = .ok (.aload_n 0, 1) := by decide +kernel
theorem dJ7_copyOf_1904c_1 : decode cJ7_copyOf_1904c 1 = .ok (.iload_n 1, 1) := by decide +kernel
theorem dJ7_copyOf_1904c_2 : decode cJ7_copyOf_1904c 2 = .ok (.aload_n 0, 1) := by decide +kernel
theorem dJ7_copyOf_1904c_3 : decode cJ7_copyOf_1904c 3 = .ok (.invokevirtual 86, 3) := by decide +kernel
theorem dJ7_copyOf_1904c_6 : decode cJ7_copyOf_1904c 6 = .ok (.invokestatic 300, 3) := by decide +kernel
theorem dJ7_copyOf_1904c_9 : decode cJ7_copyOf_1904c 9 = .ok (.areturn, 1) := by decide +kernel
theorem dJ7_copyOf_6403c_0 : decode cJ7_copyOf_6403c 0 = .ok (.aload_n 2, 1) := by decide +kernel
theorem dJ7_copyOf_6403c_1 : decode cJ7_copyOf_6403c 1 = .ok (.ldc 110, 2) := by decide +kernel
theorem dJ7_copyOf_6403c_3 : decode cJ7_copyOf_6403c 3 = .ok (.if_acmp .ne 10, 3) := by decide +kernel
theorem dJ7_copyOf_6403c_6 : decode cJ7_copyOf_6403c 6 = .ok (.iload_n 1, 1) := by decide +kernel
theorem dJ7_copyOf_6403c_7 : decode cJ7_copyOf_6403c 7 = .ok (.anewarray 2, 3) := by decide +kernel
theorem dJ7_copyOf_6403c_10 : decode cJ7_copyOf_6403c 10 = .ok (.goto 14, 3) := by decide +kernel
theorem dJ7_copyOf_6403c_13 : decode cJ7_copyOf_6403c 13 = .ok (.aload_n 2, 1) := by decide +kernel
theorem dJ7_copyOf_6403c_14 : decode cJ7_copyOf_6403c 14 = .ok (.invokevirtual 90, 3) := by decide +kernel
theorem dJ7_copyOf_6403c_17 : decode cJ7_copyOf_6403c 17 = .ok (.iload_n 1, 1) := by decide +kernel
theorem dJ7_copyOf_6403c_18 : decode cJ7_copyOf_6403c 18 = .ok (.invokestatic 95, 3) := by decide +kernel
theorem dJ7_copyOf_6403c_21 : decode cJ7_copyOf_6403c 21 = .ok (.checkcast 110, 3) := by decide +kernel
theorem dJ7_copyOf_6403c_24 : decode cJ7_copyOf_6403c 24 = .ok (.astore_n 3, 1) := by decide +kernel
theorem dJ7_copyOf_6403c_25 : decode cJ7_copyOf_6403c 25 = .ok (.aload_n 0, 1) := by decide +kernel
theorem dJ7_copyOf_6403c_26 : decode cJ7_copyOf_6403c 26 = .ok (.iconst 0, 1) := by decide +kernel
theorem dJ7_copyOf_6403c_27 : decode cJ7_copyOf_6403c 27 = .ok (.aload_n 3, 1) := by decide +kernel
theorem dJ7_copyOf_6403c_28 : decode cJ7_copyOf_6403c 28 = .ok (.iconst 0, 1) := by decide +kernel
theorem dJ7_copyOf_6403c_29 : decode cJ7_copyOf_6403c 29 = .ok (.aload_n 0, 1) := by decide +kernel
theorem dJ7_copyOf_6403c_30 : decode cJ7_copyOf_6403c 30 = .ok (.arraylength, 1) := by decide +kernel
theorem dJ7_copyOf_6403c_31 : decode cJ7_copyOf_6403c 31 = .ok (.iload_n 1, 1) := by decide +kernel
theorem dJ7_copyOf_6403c_32 : decode cJ7_copyOf_6403c 32 = .ok (.invokestatic 304, 3) := by decide +kernel
theorem dJ7_copyOf_6403c_35 : decode cJ7_copyOf_6403c 35 = .ok (.invokestatic 150, 3) := by decide +kernel
theorem dJ7_copyOf_6403c_38 : decode cJ7_copyOf_6403c 38 = .ok (.aload_n 3, 1) := by decide +kernel
theorem dJ7_copyOf_6403c_39 : decode cJ7_copyOf_6403c 39 = .ok (.areturn, 1) := by decide +kernel
set_option maxRecDepth 20000 in
theorem ggJ15_checkIndex_7cf53_J3_checkIndex_8e157 : GoodIn wsJ15_checkIndex_7cf53 wsJ3_checkIndex_8e157 := goodIn_r _ [4] (by decide +kernel) (by decide +kernel)
set_option maxRecDepth 20000 in
theorem gJ15_checkIndex_7cf53_J3_checkIndex_8e157 : GoodIn wsJ15_checkIndex_7cf53 (va_wsS RJ15 105 yJ3_checkIndex_8e157 wsJ3_checkIndex_8e157) := goodIn_app (goodIn_of _ (by decide +kernel)) ggJ15_checkIndex_7cf53_J3_checkIndex_8e157
theorem dJ15_checkIndex_7cf53_0 : decode cJ15_checkIndex_7cf53 0 = .ok (.iload_n 0, 1) := by decide +kernel
theorem dJ15_checkIndex_7cf53_1 : decode cJ15_checkIndex_7cf53 1 = .ok (.iload_n 1, 1) := by decide +kernel
theorem dJ15_checkIndex_7cf53_2 : decode cJ15_checkIndex_7cf53 2 = .ok (.aconst_null, 1) := by decide +kernel
theorem dJ15_checkIndex_7cf53_3 : decode cJ15_checkIndex_7cf53 3 = .ok (.invokestatic 105, 3) := by decide +kernel
theorem dJ15_checkIndex_7cf53_6 : decode cJ15_checkIndex_7cf53 6 = .ok (.ireturn, 1) := by decide +kernel
set_option maxRecDepth 20000 in
theorem ggJ8_newLength_cabcc_J8_hugeLength_7cf53 : GoodIn wsJ8_newLength_cabcc wsJ8_hugeLength_7cf53 := goodIn_r _ [9, 5] (by decide +kernel) (by decide +kernel)
set_option maxRecDepth 20000 in
theorem gJ8_newLength_cabcc_J8_hugeLength_7cf53 : GoodIn wsJ8_newLength_cabcc (va_wsS RJ8 201 yJ8_hugeLength_7cf53 wsJ8_hugeLength_7cf53) := goodIn_app (goodIn_of _ (by decide +kernel)) ggJ8_newLength_cabcc_J8_hugeLength_7cf53
theorem dJ8_newLength_cabcc_0 : decode cJ8_newLength_cabcc 0 = .ok (.iload_n 0, 1) := by decide +kernel
theorem dJ8_newLength_cabcc_1 : decode cJ8_newLength_cabcc 1 = .ok (.iload_n 1, 1) := by decide +kernel
theorem dJ8_newLength_cabcc_2 : decode cJ8_newLength_cabcc 2 = .ok (.iload_n 2, 1) := by decide +kernel
theorem dJ8_newLength_cabcc_3 : decode cJ8_newLength_cabcc 3 = .ok (.invokestatic 194, 3) := by decide +kernel
theorem dJ8_newLength_cabcc_6 : decode cJ8_newLength_cabcc 6 = .ok (.iadd, 1) := by decide +kernel
theorem dJ8_newLength_cabcc_7 : decode cJ8_newLength_cabcc 7 = .ok (.istore_n 3, 1) := by decide +kernel
theorem dJ8_newLength_cabcc_8 : decode cJ8_newLength_cabcc 8 = .ok (.iconst 0, 1) := by decide +kernel
theorem dJ8_newLength_cabcc_9 : decode cJ8_newLength_cabcc 9 = .ok (.iload_n 3, 1) := by decide +kernel
theorem dJ8_newLength_cabcc_10 : decode cJ8_newLength_cabcc 10 = .ok (.if_icmp .ge 11, 3) := by decide +kernel
theorem dJ8_newLength_cabcc_13 : decode cJ8_newLength_cabcc 13 = .ok (.iload_n 3, 1) := by decide +kernel
theorem dJ8_newLength_cabcc_14 : decode cJ8_newLength_cabcc 14 = .ok (.ldc 200, 2) := by decide +kernel
theorem dJ8_newLength_cabcc_16 : decode cJ8_newLength_cabcc 16 = .ok (.if_icmp .gt 5, 3) := by decide +kernel
theorem dJ8_newLength_cabcc_19 : decode cJ8_newLength_cabcc 19 = .ok (.iload_n 3, 1) := by decide +kernel
theorem dJ8_newLength_cabcc_20 : decode cJ8_newLength_cabcc 20 = .ok (.ireturn, 1) := by decide +kernel
theorem dJ8_newLength_cabcc_21 : decode cJ8_newLength_cabcc 21 = .ok (.iload_n 0, 1) := by decide +kernel
theorem dJ8_newLength_cabcc_22 : decode cJ8_newLength_cabcc 22 = .ok (.iload_n 1, 1) := by decide +kernel
theorem dJ8_newLength_cabcc_23 : decode cJ8_newLength_cabcc 23 = .ok (.invokestatic 201, 3) := by decide +kernel
theorem dJ8_newLength_cabcc_26 : decode cJ8_newLength_cabcc 26 = .ok (.ireturn, 1) := by decide +kernel
theorem dJ8_hugeLength_7cf53_0 : decode cJ8_hugeLength_7cf53 0 = .ok (.iload_n 0, 1) := by decide +kernel
theorem dJ8_hugeLength_7cf53_1 : decode cJ8_hugeLength_7cf53 1 = .ok (.iload_n 1, 1) := by decide +kernel
theorem dJ8_hugeLength_7cf53_2 : decode cJ8_hugeLength_7cf53 2 = .ok (.iadd, 1) := by decide +kernel
theorem dJ8_hugeLength_7cf53_3 : decode cJ8_hugeLength_7cf53 3 = .ok (.istore_n 2, 1) := by decide +kernel
theorem dJ8_hugeLength_7cf53_4 : decode cJ8_hugeLength_7cf53 4 = .ok (.iload_n 2, 1) := by decide +kernel
theorem dJ8_hugeLength_7cf53_5 : decode cJ8_hugeLength_7cf53 5 = .ok (.ifCond .ge 44, 3) := by decide +kernel
theorem dJ8_hugeLength_7cf53_8 : decode cJ8_hugeLength_7cf53 8 = .ok (.new 204, 3) := by decide +kernel
theorem dJ8_hugeLength_7cf53_11 : decode cJ8_hugeLength_7cf53 11 = .ok (.dup, 1) := by decide +kernel
theorem dJ8_hugeLength_7cf53_12 : decode cJ8_hugeLength_7cf53 12 = .ok (.new 89, 3) := by decide +kernel
theorem dJ8_hugeLength_7cf53_15 : decode cJ8_hugeLength_7cf53 15 = .ok (.dup, 1) := by decide +kernel
theorem dJ8_hugeLength_7cf53_16 : decode cJ8_hugeLength_7cf53 16 = .ok (.invokespecial 91, 3) := by decide +kernel
theorem dJ8_hugeLength_7cf53_19 : decode cJ8_hugeLength_7cf53 19 = .ok (.ldc 206, 2) := by decide +kernel
theorem dJ8_hugeLength_7cf53_21 : decode cJ8_hugeLength_7cf53 21 = .ok (.invokevirtual 94, 3) := by decide +kernel
theorem dJ8_hugeLength_7cf53_24 : decode cJ8_hugeLength_7cf53 24 = .ok (.iload_n 0, 1) := by decide +kernel
theorem dJ8_hugeLength_7cf53_25 : decode cJ8_hugeLength_7cf53 25 = .ok (.invokevirtual 98, 3) := by decide +kernel
theorem dJ8_hugeLength_7cf53_28 : decode cJ8_hugeLength_7cf53 28 = .ok (.ldc 208, 2) := by decide +kernel
theorem dJ8_hugeLength_7cf53_30 : decode cJ8_hugeLength_7cf53 30 = .ok (.invokevirtual 94, 3) := by decide +kernel
theorem dJ8_hugeLength_7cf53_33 : decode cJ8_hugeLength_7cf53 33 = .ok (.iload_n 1, 1) := by decide +kernel
theorem dJ8_hugeLength_7cf53_34 : decode cJ8_hugeLength_7cf53 34 = .ok (.invokevirtual 98, 3) := by decide +kernel
theorem dJ8_hugeLength_7cf53_37 : decode cJ8_hugeLength_7cf53 37 = .ok (.ldc 210, 2) := by decide +kernel
theorem dJ8_hugeLength_7cf53_39 : decode cJ8_hugeLength_7cf53 39 = .ok (.invokevirtual 94, 3) := by decide +kernel
theorem dJ8_hugeLength_7cf53_42 : decode cJ8_hugeLength_7cf53 42 = .ok (.invokevirtual 101, 3) := by decide +kernel
theorem dJ8_hugeLength_7cf53_45 : decode cJ8_hugeLength_7cf53 45 = .ok (.invokespecial 212, 3) := by decide +kernel
theorem dJ8_hugeLength_7cf53_48 : decode cJ8_hugeLength_7cf53 48 = .ok (.athrow, 1) := by decide +kernel
theorem dJ8_hugeLength_7cf53_49 : decode cJ8_hugeLength_7cf53 49 = .ok (.iload_n 2, 1) := by decide +kernel
theorem dJ8_hugeLength_7cf53_50 : decode cJ8_hugeLength_7cf53 50 = .ok (.ldc 200, 2) := by decide +kernel
theorem dJ8_hugeLength_7cf53_52 : decode cJ8_hugeLength_7cf53 52 = .ok (.if_icmp .gt 6, 3) := by decide +kernel
theorem dJ8_hugeLength_7cf53_55 : decode cJ8_hugeLength_7cf53 55 = .ok (.ldc 200, 2) := by decide +kernel
theorem dJ8_hugeLength_7cf53_57 : decode cJ8_hugeLength_7cf53 57 = .ok (.ireturn, 1) := by decide +kernel
theorem dJ8_hugeLength_7cf53_58 : decode cJ8_hugeLength_7cf53 58 = .ok (.iload_n 2, 1) := by decide +kernel
theorem dJ8_hugeLength_7cf53_59 : decode cJ8_hugeLength_7cf53 59 = .ok (.ireturn, 1) := by decide +kernel
theorem dJ3_checkIndex_8e157_0 : decode cJ3_checkIndex_8e157 0 = .ok (.iload_n 0, 1) := by decide +kernel
theorem dJ3_checkIndex_8e157_1 : decode cJ3_checkIndex_8e157 1 = .ok (.ifCond .lt 8, 3) := by decide +kernel
theorem dJ3_checkIndex_8e157_4 : decode cJ3_checkIndex_8e157 4 = .ok (.iload_n 0, 1) := by decide +kernel
theorem dJ3_checkIndex_8e157_5 : decode cJ3_checkIndex_8e157 5 = .ok (.iload_n 1, 1) := by decide +kernel
theorem dJ3_checkIndex_8e157_6 : decode cJ3_checkIndex_8e157 6 = .ok (.if_icmp .lt 10, 3) := by decide +kernel
theorem dJ3_checkIndex_8e157_9 : decode cJ3_checkIndex_8e157 9 = .ok (.aload_n 2, 1) := by decide +kernel
theorem dJ3_checkIndex_8e157_10 : decode cJ3_checkIndex_8e157 10 = .ok (.iload_n 0, 1) := by decide +kernel
theorem dJ3_checkIndex_8e157_11 : decode cJ3_checkIndex_8e157 11 = .ok (.iload_n 1, 1) := by decide +kernel
theorem dJ3_checkIndex_8e157_12 : decode cJ3_checkIndex_8e157 12 = .ok (.invokestatic 95, 3) := by decide +kernel
theorem dJ3_checkIndex_8e157_15 : decode cJ3_checkIndex_8e157 15 = .ok (.athrow, 1) := by decide +kernel
theorem dJ3_checkIndex_8e157_16 : decode cJ3_checkIndex_8e157 16 = .ok (.iload_n 0, 1) := by decide +kernel
theorem dJ3_checkIndex_8e157_17 : decode cJ3_checkIndex_8e157 17 = .ok (.ireturn, 1) := by decide +kernel
end
section
abbrev vwCl : List vw_C := [(RJx4a65c, TJx4a65c, 3), (RX0, TX0, 5), (RX1, TX1, 2), (RX2, TX2, 3), (RX3, TX3, 6), (RX4, TX4, 2), (RX5, TX5, 8), (RX6, TX6, 23)]
end
section
/-! plain facts on numbers and arrays, to paste: each family by itself; over the kit's rows on nI and upd -/
/-! ===== order of ints, in all its forms, and through longs ===== -/
theorem fa_lt (a b : Int32) : a < b ↔ a.toInt < b.toInt := Int32.lt_iff_toInt_lt
theorem fa_le (a b : Int32) : a ≤ b ↔ a.toInt ≤ b.toInt := Int32.le_iff_toInt_le
theorem fa_eq (a b : Int32) : a = b ↔ a.toInt = b.toInt := Int32.toInt_inj.symm
theorem fa_lt64 (a b : Int64) : a < b ↔ a.toInt < b.toInt := Int64.lt_iff_toInt_lt
theorem fa_le64 (a b : Int64) : a ≤ b ↔ a.toInt ≤ b.toInt := Int64.le_iff_toInt_le
theorem fa_eq64 (a b : Int64) : a = b ↔ a.toInt = b.toInt := Int64.toInt_inj.symm
/-- a comparison of two ints taken as longs -/
theorem fa_wide_lt (a b : Int32) : a.toInt64 < b.toInt64 ↔ a < b := by rw [fa_lt64, fa_lt, Int32.toInt_toInt64, Int32.toInt_toInt64]
theorem fa_wide_le (a b : Int32) : a.toInt64 ≤ b.toInt64 ↔ a ≤ b := by rw [fa_le64, fa_le, Int32.toInt_toInt64, Int32.toInt_toInt64]
theorem fa_wide_eq (a b : Int32) : a.toInt64 = b.toInt64 ↔ a = b := by rw [fa_eq64, fa_eq, Int32.toInt_toInt64, Int32.toInt_toInt64]
/-- one strict comparison gives all the others -/
theorem fa_of_lt {a b : Int32} (h : a < b) : a ≤ b ∧ ¬ b ≤ a ∧ ¬ b < a ∧ a ≠ b ∧ b ≠ a := by
  rw [fa_lt] at h
  refine ⟨?_, ?_, ?_, ?_, ?_⟩
  · rw [fa_le]; omega
  · rw [fa_le]; omega
  · rw [fa_lt]; omega
  · intro e; rw [fa_eq] at e; omega
  · intro e; rw [fa_eq] at e; omega
theorem fa_of_nlt {a b : Int32} (h : ¬ a < b) : b ≤ a := by
  rw [fa_lt] at h
  rw [fa_le]
  omega
theorem fa_of_nle {a b : Int32} (h : ¬ a ≤ b) : b < a := by
  rw [fa_le] at h
  rw [fa_lt]
  omega
theorem fa_le_ne {a b : Int32} (h : a ≤ b) (h2 : a ≠ b) : a < b := by
  rw [fa_le] at h
  rw [fa_lt]
  have h3 : a.toInt ≠ b.toInt := fun e => h2 ((fa_eq a b).mpr e)
  omega
theorem fa_three (a b : Int32) : a < b ∨ a = b ∨ b < a := by
  rw [fa_lt, fa_lt, fa_eq]
  omega
theorem fa_trans {a b c : Int32} (h : a < b) (h2 : b ≤ c) : a < c := by
  rw [fa_lt] at *
  rw [fa_le] at h2
  omega
/-! ===== small literals as numbers ===== -/
theorem fa_lit (n : Nat) : (OfNat.ofNat n : Int32) = nI n := rfl
theorem fa_litL (n : Nat) : (OfNat.ofNat n : Int64) = lN n := rfl
/-! ===== bits of a number: 'or', masks, one bit ===== -/
theorem fa_and (a b : Nat) : nI a &&& nI b = nI (a &&& b) := by
  apply Int32.toBitVec_inj.1
  show BitVec.ofNat 32 a &&& BitVec.ofNat 32 b = BitVec.ofNat 32 (a &&& b)
  apply BitVec.eq_of_getLsbD_eq
  intro i hi
  simp [hi]
theorem fa_or (a b : Nat) : nI a ||| nI b = nI (a ||| b) := by
  apply Int32.toBitVec_inj.1
  show BitVec.ofNat 32 a ||| BitVec.ofNat 32 b = BitVec.ofNat 32 (a ||| b)
  apply BitVec.eq_of_getLsbD_eq
  intro i hi
  simp [hi]
/-- a remainder by a power of two, as a mask -/
theorem fa_mask (n k : Nat) : nI n &&& nI (2 ^ k - 1) = nI (n % 2 ^ k) := by rw [fa_and, Nat.and_two_pow_sub_one_eq_mod]
/-- 'or' of a high part and a low one that don't meet is their sum -/
theorem fa_or_sum {a k : Nat} (b : Nat) (h : a < 2 ^ k) : nI (2 ^ k * b) ||| nI a = nI (2 ^ k * b + a) := by rw [fa_or, Nat.two_pow_add_eq_or_of_lt h]
/-- one bit, by 'and' with a power of two -/
theorem fa_bit {n j : Nat} (hj : j < 31) : nI n &&& nI (2 ^ j) = 0 ↔ n.testBit j = false := by
  have h2 : (2 : Nat) ^ j < 2 ^ 31 := Nat.pow_lt_pow_right (by decide) hj
  have hle : n &&& 2 ^ j ≤ 2 ^ j := Nat.and_le_right
  have e : n &&& 2 ^ j = 0 ↔ n.testBit j = false := by
    constructor
    · intro h
      have h1 : (n &&& 2 ^ j).testBit j = false := by rw [h]; simp
      rw [Nat.testBit_and] at h1
      first | simpa using h1 | simpa [Nat.testBit_two_pow_self] using h1 | simpa [Nat.testBit_two_pow] using h1
    · intro h
      apply Nat.eq_of_testBit_eq
      intro i
      rw [Nat.testBit_and]
      by_cases hi : j = i
      · subst hi; simp [h]
      · first | (simp [Nat.testBit_two_pow, hi]; done) | (simp [Nat.testBit_two_pow_of_ne hi]; done)
  rw [fa_and]
  constructor
  · intro h
    apply e.mp
    rcases Nat.eq_zero_or_pos (n &&& 2 ^ j) with z | z
    · exact z
    · exact absurd h (nI_ne0 z (Nat.lt_of_le_of_lt hle h2))
  · intro h
    rw [e.mpr h]; exact nI_0
/-- a remainder by a power of two of a number that isn't negative, as Java divides -/
theorem fa_rem {a k : Nat} (ha : a < 2 ^ 31) (hk : k < 31) : nI a - nI a / nI (2 ^ k) * nI (2 ^ k) = nI (a % 2 ^ k) := pk_rem ha (Nat.two_pow_pos k) (Nat.pow_lt_pow_right (by decide) hk)
/-! ===== cuts to a byte, a short ===== -/
theorem fa_byte_xor (x y : Int32) : (x ^^^ y).toInt8 = x.toInt8 ^^^ y.toInt8 := by
  apply Int8.toBitVec_inj.1
  apply BitVec.eq_of_getLsbD_eq
  intro i hi
  first | (simp [hi]; done) | (simp [hi, BitVec.getLsbD_setWidth, BitVec.getLsbD_signExtend]; done)
theorem fa_short_xor (x y : Int32) : (x ^^^ y).toInt16 = x.toInt16 ^^^ y.toInt16 := by
  apply Int16.toBitVec_inj.1
  apply BitVec.eq_of_getLsbD_eq
  intro i hi
  first | (simp [hi]; done) | (simp [hi, BitVec.getLsbD_setWidth, BitVec.getLsbD_signExtend]; done)
/-- the cut to a byte sees the low byte alone -/
theorem fa_byte_low (x : Int32) : (x &&& 255).toInt8 = x.toInt8 := by
  apply Int8.toBitVec_inj.1
  apply BitVec.eq_of_getLsbD_eq
  intro i hi
  have h2 : (255 : Int32).toBitVec.getLsbD i = true := by
    have : ∀ j : Fin 8, (255 : Int32).toBitVec.getLsbD j.val = true := by decide +kernel
    exact this ⟨i, hi⟩
  have h4 : (x &&& 255).toBitVec.getLsbD i = x.toBitVec.getLsbD i := by
    show (x.toBitVec &&& (255 : Int32).toBitVec).getLsbD i = _
    rw [BitVec.getLsbD_and, h2, Bool.and_true]
  have h3 : i < 32 := by omega
  first
    | (show (((x &&& 255).toBitVec).signExtend 8).getLsbD i = (x.toBitVec.signExtend 8).getLsbD i; rw [BitVec.getLsbD_signExtend, BitVec.getLsbD_signExtend, if_pos h3, if_pos h3, h4])
    | (show (((x &&& 255).toBitVec).setWidth 8).getLsbD i = (x.toBitVec.setWidth 8).getLsbD i; rw [BitVec.getLsbD_setWidth, BitVec.getLsbD_setWidth, h4])
    | (simp [hi, h3, h4]; done)
theorem fa_short_low (x : Int32) : (x &&& 65535).toInt16 = x.toInt16 := by
  apply Int16.toBitVec_inj.1
  apply BitVec.eq_of_getLsbD_eq
  intro i hi
  have h2 : (65535 : Int32).toBitVec.getLsbD i = true := by
    have : ∀ j : Fin 16, (65535 : Int32).toBitVec.getLsbD j.val = true := by decide +kernel
    exact this ⟨i, hi⟩
  have h4 : (x &&& 65535).toBitVec.getLsbD i = x.toBitVec.getLsbD i := by
    show (x.toBitVec &&& (65535 : Int32).toBitVec).getLsbD i = _
    rw [BitVec.getLsbD_and, h2, Bool.and_true]
  have h3 : i < 32 := by omega
  first
    | (show (((x &&& 65535).toBitVec).signExtend 16).getLsbD i = (x.toBitVec.signExtend 16).getLsbD i; rw [BitVec.getLsbD_signExtend, BitVec.getLsbD_signExtend, if_pos h3, if_pos h3, h4])
    | (show (((x &&& 65535).toBitVec).setWidth 16).getLsbD i = (x.toBitVec.setWidth 16).getLsbD i; rw [BitVec.getLsbD_setWidth, BitVec.getLsbD_setWidth, h4])
    | (simp [hi, h3, h4]; done)
/-- a small number is its own byte, its own short -/
theorem fa_byte_small {n : Nat} (h : n < 128) : (nI n).toInt8.toInt32 = nI n := by
  have : ∀ j : Fin 128, (nI j.val).toInt8.toInt32 = nI j.val := by decide +kernel
  exact this ⟨n, h⟩
/-! ===== absolute difference ===== -/
theorem fa_absdiff {a b : Nat} (ha : a < 2 ^ 31) (hb : b < 2 ^ 31) : (if nI a < nI b then nI b - nI a else nI a - nI b) = nI (if a < b then b - a else a - b) := by
  by_cases h : a < b
  · rw [if_pos (nI_lt h hb), if_pos h]
    exact pk_sub (Nat.le_of_lt h)
  · rw [if_neg (nI_nlt (Nat.le_of_not_lt h) ha), if_neg h]
    exact pk_sub (Nat.le_of_not_lt h)
/-! ===== an array behind i stores, a conditional store, a row copied ===== -/
/-- f where k < i, what stood there else -/
def fa_fill {α : Type} (f g : Nat → α) (i : Nat) : Nat → α := fun k => if k < i then f k else g k
theorem fa_fill_0 {α : Type} (f g : Nat → α) : fa_fill f g 0 = g := funext fun k => if_neg (Nat.not_lt_zero k)
theorem fa_fill_in {α : Type} {f g : Nat → α} {i k : Nat} (h : k < i) : fa_fill f g i k = f k := if_pos h
theorem fa_fill_out {α : Type} {f g : Nat → α} {i k : Nat} (h : i ≤ k) : fa_fill f g i k = g k := if_neg (Nat.not_lt.mpr h)
theorem fa_fill_succ (f g : Nat → Int32) (i : Nat) : upd (fa_fill f g i) i (f i) = fa_fill f g (i + 1) := by
  funext k
  by_cases e : k = i
  · subst e
    rw [pk_us]
    exact (if_pos (Nat.lt_succ_self k)).symm
  · rw [pk_un e]
    by_cases h : k < i
    · rw [fa_fill_in h, fa_fill_in (Nat.lt_succ_of_lt h)]
    · rw [fa_fill_out (Nat.le_of_not_lt h), fa_fill_out (by omega)]
/-- a store that changes nothing -/
theorem fa_upd_same {f : Nat → Int32} {i : Nat} {x : Int32} (h : f i = x) : upd f i x = f := by
  funext k
  by_cases e : k = i
  · subst e
    rw [pk_us, h]
  · rw [pk_un e]
/-- a store under a condition, told as one -/
theorem fa_upd_if (c : Prop) [Decidable c] (f : Nat → Int32) (i : Nat) (x : Int32) : (if c then upd f i x else f) = upd f i (if c then x else f i) := by
  by_cases h : c
  · rw [if_pos h, if_pos h]
  · rw [if_neg h, if_neg h, fa_upd_same rfl]
/-- two stores at one place, at two -/
theorem fa_upd_twice (f : Nat → Int32) (i : Nat) (x y : Int32) : upd (upd f i x) i y = upd f i y := by
  funext k
  by_cases e : k = i
  · subst e
    rw [pk_us, pk_us]
  · rw [pk_un e, pk_un e, pk_un e]
theorem fa_upd_swap (f : Nat → Int32) {i j : Nat} (h : i ≠ j) (x y : Int32) : upd (upd f i x) j y = upd (upd f j y) i x := by
  funext k
  by_cases e : k = i
  · subst e
    rw [pk_un h, pk_us, pk_us]
  · by_cases e2 : k = j
    · subst e2
      rw [pk_us, pk_un e, pk_us]
    · rw [pk_un e2, pk_un e, pk_un e, pk_un e2]
/-! ===== the first index with a property; a count ===== -/
/-- the first k < n with p k, n if there is none -/
def fa_first (p : Nat → Bool) : Nat → Nat
  | 0 => 0
  | n + 1 => if fa_first p n < n then fa_first p n else if p n then n else n + 1
theorem fa_first_le (p : Nat → Bool) : ∀ n, fa_first p n ≤ n
  | 0 => Nat.le_refl 0
  | n + 1 => by
    have ih := fa_first_le p n
    unfold fa_first
    split
    · omega
    · split
      · omega
      · omega
theorem fa_first_no (p : Nat → Bool) : ∀ n k, k < fa_first p n → p k = false
  | 0, k, h => absurd h (Nat.not_lt_zero k)
  | n + 1, k, h => by
    have ih := fa_first_no p n
    have hl := fa_first_le p n
    unfold fa_first at h
    split at h
    · exact ih k h
    · rename_i h1
      split at h
      · exact ih k (by omega)
      · rename_i h2
        by_cases e : k = n
        · subst e
          exact Bool.eq_false_iff.mpr h2
        · exact ih k (by omega)
theorem fa_first_yes (p : Nat → Bool) : ∀ n, fa_first p n < n → p (fa_first p n) = true
  | 0, h => absurd h (Nat.not_lt_zero _)
  | n + 1, h => by
    have ih := fa_first_yes p n
    have hl := fa_first_le p n
    unfold fa_first at h ⊢
    split at h
    · rename_i h1
      rw [if_pos h1]
      exact ih h1
    · rename_i h1
      rw [if_neg h1]
      split at h
      · rename_i h2
        rw [if_pos h2]
        exact h2
      · omega
/-- how many k < n have p k -/
def fa_cnt (p : Nat → Bool) : Nat → Nat
  | 0 => 0
  | n + 1 => fa_cnt p n + if p n then 1 else 0
theorem fa_cnt_le (p : Nat → Bool) : ∀ n, fa_cnt p n ≤ n
  | 0 => Nat.le_refl 0
  | n + 1 => by
    have ih := fa_cnt_le p n
    unfold fa_cnt
    split
    · omega
    · omega
theorem fa_cnt_yes {p : Nat → Bool} {n : Nat} (h : p n = true) : fa_cnt p (n + 1) = fa_cnt p n + 1 := by rw [fa_cnt, if_pos h]
theorem fa_cnt_no {p : Nat → Bool} {n : Nat} (h : p n = false) : fa_cnt p (n + 1) = fa_cnt p n := by rw [fa_cnt, if_neg (by rw [h]; decide)]; rfl
theorem fa_cnt_cong {p q : Nat → Bool} : ∀ {n : Nat}, (∀ k, k < n → p k = q k) → fa_cnt p n = fa_cnt q n
  | 0, _ => rfl
  | n + 1, h => by rw [fa_cnt, fa_cnt, fa_cnt_cong (fun k hk => h k (Nat.lt_succ_of_lt hk)), h n (Nat.lt_succ_self n)]
/-! ===== an answer carried into a post; a branch on a boolean answer ===== -/
theorem fa_post {α : Type} {P : α → Prop} {x y : α} (h : x = y) (hp : P y) : P x := h ▸ hp
theorem fa_post2 {α β : Type} {P : α → β → Prop} {x y : α} {u v : β} (h : x = y) (h2 : u = v) (hp : P y v) : P x u := h ▸ h2 ▸ hp
theorem fa_bool {r : Int32} {b : Bool} (h : r = if b then 1 else 0) : (r = 0 ↔ b = false) ∧ (¬ r = 0 ↔ b = true) := by
  subst h
  cases b
  · exact ⟨⟨fun _ => rfl, fun _ => rfl⟩, ⟨fun h => absurd rfl h, fun h => absurd h (by decide)⟩⟩
  · exact ⟨⟨fun h => absurd h (by decide), fun h => absurd h (by decide)⟩, ⟨fun _ => rfl, fun _ => by decide⟩⟩
/-- a boolean's narrowing changes nothing -/
theorem fa_bool_and {r : Int32} (h : r = 0 ∨ r = 1) : r &&& 1 = r := by
  rcases h with rfl | rfl
  · decide
  · decide
theorem fa_bool_prop {c : Prop} [Decidable c] {r : Int32} (h : r = if c then 1 else 0) : (r = 0 ↔ ¬ c) ∧ (¬ r = 0 ↔ c) := by
  subst h
  by_cases hc : c
  · rw [if_pos hc]
    exact ⟨⟨fun h => absurd h (by decide), fun h => absurd hc h⟩, ⟨fun _ => hc, fun _ => by decide⟩⟩
  · rw [if_neg hc]
    exact ⟨⟨fun _ => hc, fun _ => rfl⟩, ⟨fun h => absurd rfl h, fun h => absurd h hc⟩⟩
/-! plain facts to paste, each family by itself; over the kit's nI, lN and upd -/
/-! ===== drawers: more things than places ===== -/
theorem fb_holes : ∀ (m n : Nat) (f : Nat → Nat), (∀ i, i < n → f i < m) → (∀ i j, i < j → j < n → f i ≠ f j) → n ≤ m := by
  intro m
  induction m with
  | zero =>
    intro n f h1 _
    rcases Nat.eq_zero_or_pos n with h | h
    · omega
    · exact absurd (h1 0 h) (Nat.not_lt_zero _)
  | succ m ih =>
    intro n f h1 h2
    by_cases hx : ∃ i, i < n ∧ f i = m
    · obtain ⟨a, ha, hfa⟩ := hx
      have hg := ih (n - 1) (fun i => if i < a then f i else f (i + 1)) (by
        intro i hi
        by_cases q : i < a
        · simp only [if_pos q]
          have b1 := h1 i (by omega)
          have b2 := h2 i a q ha
          omega
        · simp only [if_neg q]
          have b1 := h1 (i + 1) (by omega)
          have b2 := h2 a (i + 1) (by omega) (by omega)
          omega) (by
        intro i j hij hj
        by_cases q : i < a
        · by_cases r : j < a
          · simp only [if_pos q, if_pos r]
            exact h2 i j hij (by omega)
          · simp only [if_pos q, if_neg r]
            exact h2 i (j + 1) (by omega) (by omega)
        · have r : ¬ j < a := by omega
          simp only [if_neg q, if_neg r]
          exact h2 (i + 1) (j + 1) (by omega) (by omega))
      omega
    · have hg := ih n f (fun i hi => by
        have b1 := h1 i hi
        have b2 : f i ≠ m := fun e => hx ⟨i, hi, e⟩
        omega) h2
      omega
/-- two of them in one place -/
theorem fb_twice {m n : Nat} {f : Nat → Nat} (h : ∀ i, i < n → f i < m) (hm : m < n) : ∃ i j, i < j ∧ j < n ∧ f i = f j := by
  refine Classical.byContradiction fun hx => ?_
  have := fb_holes m n f h (fun i j hij hj e => hx ⟨i, j, hij, hj, e⟩)
  omega
/-- as many as places, none twice: each place is taken -/
theorem fb_onto {n : Nat} {f : Nat → Nat} (h : ∀ i, i < n → f i < n) (h2 : ∀ i j, i < j → j < n → f i ≠ f j) {y : Nat} (hy : y < n) : ∃ i, i < n ∧ f i = y := by
  refine Classical.byContradiction fun hx => ?_
  have hne : ∀ i, i < n → f i ≠ y := fun i hi e => hx ⟨i, hi, e⟩
  have := fb_holes (n - 1) n (fun i => if f i < y then f i else f i - 1) (by
    intro i hi
    have b1 := h i hi
    have b2 := hne i hi
    by_cases q : f i < y
    · simp only [if_pos q]; omega
    · simp only [if_neg q]; omega) (by
    intro i j hij hj
    have b1 := hne i (by omega)
    have b2 := hne j hj
    have b3 := h2 i j hij hj
    by_cases q : f i < y
    · by_cases r : f j < y
      · simp only [if_pos q, if_pos r]; exact b3
      · simp only [if_pos q, if_neg r]; omega
    · by_cases r : f j < y
      · simp only [if_neg q, if_pos r]; omega
      · simp only [if_neg q, if_neg r]; omega)
  omega
/-! ===== how many places have a property ===== -/
def fb_ct (p : Nat → Bool) : Nat → Nat
  | 0 => 0
  | n + 1 => fb_ct p n + (if p n then 1 else 0)
theorem fb_ct_succ (p : Nat → Bool) (n : Nat) : fb_ct p (n + 1) = fb_ct p n + (if p n then 1 else 0) := rfl
theorem fb_ct_le (p : Nat → Bool) : ∀ n, fb_ct p n ≤ n
  | 0 => Nat.le_refl _
  | n + 1 => by
    have h := fb_ct_le p n
    rw [fb_ct_succ]
    split <;> omega
theorem fb_ct_step (p : Nat → Bool) (m : Nat) : ∀ n, fb_ct p m ≤ fb_ct p (m + n)
  | 0 => Nat.le_refl _
  | n + 1 => by
    have h := fb_ct_step p m n
    show fb_ct p m ≤ fb_ct p (m + n + 1)
    rw [fb_ct_succ]
    omega
theorem fb_ct_mono (p : Nat → Bool) {m n : Nat} (h : m ≤ n) : fb_ct p m ≤ fb_ct p n := by
  have := fb_ct_step p m (n - m)
  rwa [Nat.add_sub_cancel' h] at this
theorem fb_ct_cong {p q : Nat → Bool} : ∀ {n : Nat}, (∀ k, k < n → p k = q k) → fb_ct p n = fb_ct q n
  | 0, _ => rfl
  | n + 1, h => by
    rw [fb_ct_succ, fb_ct_succ, fb_ct_cong (fun k hk => h k (by omega)), h n (by omega)]
/-- one place changed -/
theorem fb_ct_out (p : Nat → Bool) (b : Bool) {i n : Nat} (h : n ≤ i) : fb_ct (fun k => if k = i then b else p k) n = fb_ct p n :=
  fb_ct_cong fun k hk => if_neg (by omega)
theorem fb_ct_upd (p : Nat → Bool) (b : Bool) {i : Nat} : ∀ {n : Nat}, i < n → fb_ct (fun k => if k = i then b else p k) n + (if p i then 1 else 0) = fb_ct p n + (if b then 1 else 0)
  | 0, h => absurd h (Nat.not_lt_zero i)
  | n + 1, h => by
    rw [fb_ct_succ, fb_ct_succ]
    rcases Nat.lt_or_ge i n with q | q
    · have := fb_ct_upd p b q
      have e : (if n = i then b else p n) = p n := if_neg (by omega)
      rw [e]
      omega
    · have e : i = n := by omega
      subst e
      rw [fb_ct_out p b (Nat.le_refl _)]
      simp only [if_true]
      omega
theorem fb_ct_sub {p q : Nat → Bool} : ∀ {n : Nat}, (∀ k, k < n → p k = true → q k = true) → fb_ct p n ≤ fb_ct q n
  | 0, _ => Nat.le_refl _
  | n + 1, h => by
    have h1 := fb_ct_sub (n := n) (p := p) (q := q) (fun k hk => h k (by omega))
    have h2 := h n (by omega)
    rw [fb_ct_succ, fb_ct_succ]
    cases hp : p n <;> cases hq : q n <;> simp_all <;> omega
theorem fb_ct_or {p q : Nat → Bool} : ∀ {n : Nat}, (∀ k, k < n → ¬ (p k = true ∧ q k = true)) → fb_ct (fun k => p k || q k) n = fb_ct p n + fb_ct q n
  | 0, _ => rfl
  | n + 1, h => by
    have h1 := fb_ct_or (n := n) (p := p) (q := q) (fun k hk => h k (by omega))
    have h2 := h n (by omega)
    rw [fb_ct_succ, fb_ct_succ, fb_ct_succ, h1]
    cases hp : p n <;> cases hq : q n <;> simp_all <;> omega
theorem fb_ct_not (p : Nat → Bool) : ∀ n, fb_ct p n + fb_ct (fun k => !p k) n = n
  | 0 => rfl
  | n + 1 => by
    have h := fb_ct_not p n
    rw [fb_ct_succ, fb_ct_succ]
    cases p n <;> simp <;> omega
theorem fb_ct_split (p : Nat → Bool) (m : Nat) : ∀ n, fb_ct p (m + n) = fb_ct p m + fb_ct (fun k => p (m + k)) n
  | 0 => rfl
  | n + 1 => by
    have h := fb_ct_split p m n
    show fb_ct p (m + n + 1) = _
    rw [fb_ct_succ, fb_ct_succ, h, Nat.add_assoc]
theorem fb_ct_zero {p : Nat → Bool} : ∀ {n : Nat}, fb_ct p n = 0 ↔ ∀ k, k < n → p k = false
  | 0 => ⟨fun _ k hk => absurd hk (Nat.not_lt_zero k), fun _ => rfl⟩
  | n + 1 => by
    have h := fb_ct_zero (p := p) (n := n)
    rw [fb_ct_succ]
    constructor
    · intro e k hk
      have e1 : fb_ct p n = 0 := by omega
      rcases Nat.lt_or_ge k n with q | q
      · exact h.mp e1 k q
      · have ek : k = n := by omega
        subst ek
        cases hp : p k
        · rfl
        · simp [hp] at e
    · intro a
      rw [h.mpr (fun k hk => a k (by omega)), a n (by omega)]
      rfl
theorem fb_ct_pos {p : Nat → Bool} {n : Nat} : 0 < fb_ct p n ↔ ∃ k, k < n ∧ p k = true := by
  constructor
  · intro h
    refine Classical.byContradiction fun hx => ?_
    have := fb_ct_zero.mpr (fun k hk => by
      cases hp : p k
      · rfl
      · exact absurd ⟨k, hk, hp⟩ hx : ∀ k, k < n → p k = false)
    omega
  · rintro ⟨k, hk, hp⟩
    rcases Nat.eq_zero_or_pos (fb_ct p n) with e | e
    · have := fb_ct_zero.mp e k hk
      rw [this] at hp
      cases hp
    · exact e
theorem fb_ct_all {p : Nat → Bool} {n : Nat} : fb_ct p n = n ↔ ∀ k, k < n → p k = true := by
  have h := fb_ct_not p n
  constructor
  · intro e k hk
    have z : fb_ct (fun k => !p k) n = 0 := by omega
    have := fb_ct_zero.mp z k hk
    cases hp : p k
    · simp [hp] at this
    · rfl
  · intro a
    have z : fb_ct (fun k => !p k) n = 0 := fb_ct_zero.mpr (fun k hk => by simp [a k hk])
    omega
/-- the k-th place with the property -/
theorem fb_ct_kth {p : Nat → Bool} {k : Nat} : ∀ {n : Nat}, k < fb_ct p n → ∃ i, i < n ∧ p i = true ∧ fb_ct p i = k
  | 0, h => absurd h (Nat.not_lt_zero k)
  | n + 1, h => by
    rcases Nat.lt_or_ge k (fb_ct p n) with q | q
    · obtain ⟨i, h1, h2⟩ := fb_ct_kth q
      exact ⟨i, by omega, h2⟩
    · rw [fb_ct_succ] at h
      cases hp : p n
      · simp [hp] at h; omega
      · simp [hp] at h
        exact ⟨n, by omega, hp, by omega⟩
theorem fb_ct_kth_one {p : Nat → Bool} {i j : Nat} (hi : p i = true) (hj : p j = true) (e : fb_ct p i = fb_ct p j) : i = j := by
  have key : ∀ a b : Nat, a < b → p a = true → fb_ct p a < fb_ct p b := by
    intro a b hab ha
    have h := fb_ct_mono p (show a + 1 ≤ b from hab)
    rw [fb_ct_succ, ha] at h
    simp at h
    omega
  rcases Nat.lt_trichotomy i j with q | q | q
  · have := key i j q hi; omega
  · exact q
  · have := key j i q hj; omega
/-! ===== sums over a range: one place changed, parts, bounds ===== -/
def fb_sm (f : Nat → Nat) : Nat → Nat
  | 0 => 0
  | n + 1 => fb_sm f n + f n
theorem fb_sm_succ (f : Nat → Nat) (n : Nat) : fb_sm f (n + 1) = fb_sm f n + f n := rfl
theorem fb_sm_cong {f g : Nat → Nat} : ∀ {n : Nat}, (∀ k, k < n → f k = g k) → fb_sm f n = fb_sm g n
  | 0, _ => rfl
  | n + 1, h => by rw [fb_sm_succ, fb_sm_succ, fb_sm_cong (fun k hk => h k (by omega)), h n (by omega)]
theorem fb_sm_out (f : Nat → Nat) (v : Nat) {i n : Nat} (h : n ≤ i) : fb_sm (fun k => if k = i then v else f k) n = fb_sm f n :=
  fb_sm_cong fun k hk => if_neg (by omega)
theorem fb_sm_upd (f : Nat → Nat) (v : Nat) {i : Nat} : ∀ {n : Nat}, i < n → fb_sm (fun k => if k = i then v else f k) n + f i = fb_sm f n + v
  | 0, h => absurd h (Nat.not_lt_zero i)
  | n + 1, h => by
    rw [fb_sm_succ, fb_sm_succ]
    rcases Nat.lt_or_ge i n with q | q
    · have := fb_sm_upd f v q
      have e : (if n = i then v else f n) = f n := if_neg (by omega)
      rw [e]
      omega
    · have e : i = n := by omega
      subst e
      rw [fb_sm_out f v (Nat.le_refl _)]
      simp only [if_true]
      omega
theorem fb_sm_add (f g : Nat → Nat) : ∀ n, fb_sm (fun k => f k + g k) n = fb_sm f n + fb_sm g n
  | 0 => rfl
  | n + 1 => by
    have h := fb_sm_add f g n
    rw [fb_sm_succ, fb_sm_succ, fb_sm_succ, h]
    omega
theorem fb_sm_le {f g : Nat → Nat} : ∀ {n : Nat}, (∀ k, k < n → f k ≤ g k) → fb_sm f n ≤ fb_sm g n
  | 0, _ => Nat.le_refl _
  | n + 1, h => by
    have h1 := fb_sm_le (n := n) (f := f) (g := g) (fun k hk => h k (by omega))
    have h2 := h n (by omega)
    rw [fb_sm_succ, fb_sm_succ]
    omega
theorem fb_sm_const (c : Nat) : ∀ n, fb_sm (fun _ => c) n = n * c
  | 0 => by rw [Nat.zero_mul]; rfl
  | n + 1 => by rw [fb_sm_succ, fb_sm_const c n, Nat.succ_mul]
theorem fb_sm_bound {f : Nat → Nat} {c n : Nat} (h : ∀ k, k < n → f k ≤ c) : fb_sm f n ≤ n * c := by
  rw [← fb_sm_const c n]
  exact fb_sm_le h
theorem fb_sm_mono (f : Nat → Nat) (m : Nat) : ∀ n, fb_sm f m ≤ fb_sm f (m + n)
  | 0 => Nat.le_refl _
  | n + 1 => by
    have h := fb_sm_mono f m n
    show fb_sm f m ≤ fb_sm f (m + n + 1)
    rw [fb_sm_succ]
    omega
theorem fb_sm_part (f : Nat → Nat) {i n : Nat} (h : i < n) : fb_sm f i + f i ≤ fb_sm f n := by
  have := fb_sm_mono f (i + 1) (n - (i + 1))
  rw [fb_sm_succ, show i + 1 + (n - (i + 1)) = n by omega] at this
  exact this
theorem fb_sm_split (f : Nat → Nat) (m : Nat) : ∀ n, fb_sm f (m + n) = fb_sm f m + fb_sm (fun k => f (m + k)) n
  | 0 => rfl
  | n + 1 => by
    have h := fb_sm_split f m n
    show fb_sm f (m + n + 1) = _
    rw [fb_sm_succ, fb_sm_succ, h, Nat.add_assoc]
theorem fb_sm_zero {f : Nat → Nat} {n : Nat} (h : fb_sm f n = 0) : ∀ k, k < n → f k = 0 := fun k hk => by
  have := fb_sm_part f hk
  omega
/-- the same over whole numbers -/
def fb_si (f : Nat → Int) : Nat → Int
  | 0 => 0
  | n + 1 => fb_si f n + f n
theorem fb_si_succ (f : Nat → Int) (n : Nat) : fb_si f (n + 1) = fb_si f n + f n := rfl
theorem fb_si_cong {f g : Nat → Int} : ∀ {n : Nat}, (∀ k, k < n → f k = g k) → fb_si f n = fb_si g n
  | 0, _ => rfl
  | n + 1, h => by rw [fb_si_succ, fb_si_succ, fb_si_cong (fun k hk => h k (by omega)), h n (by omega)]
theorem fb_si_out (f : Nat → Int) (v : Int) {i n : Nat} (h : n ≤ i) : fb_si (fun k => if k = i then v else f k) n = fb_si f n :=
  fb_si_cong fun k hk => if_neg (by omega)
theorem fb_si_upd (f : Nat → Int) (v : Int) {i : Nat} : ∀ {n : Nat}, i < n → fb_si (fun k => if k = i then v else f k) n = fb_si f n - f i + v
  | 0, h => absurd h (Nat.not_lt_zero i)
  | n + 1, h => by
    rw [fb_si_succ, fb_si_succ]
    rcases Nat.lt_or_ge i n with q | q
    · have := fb_si_upd f v q
      have e : (if n = i then v else f n) = f n := if_neg (by omega)
      rw [e]
      omega
    · have e : i = n := by omega
      subst e
      rw [fb_si_out f v (Nat.le_refl _)]
      simp only [if_true]
      omega
theorem fb_si_add (f g : Nat → Int) : ∀ n, fb_si (fun k => f k + g k) n = fb_si f n + fb_si g n
  | 0 => rfl
  | n + 1 => by
    have h := fb_si_add f g n
    rw [fb_si_succ, fb_si_succ, fb_si_succ, h]
    omega
theorem fb_si_sub (f g : Nat → Int) : ∀ n, fb_si (fun k => f k - g k) n = fb_si f n - fb_si g n
  | 0 => rfl
  | n + 1 => by
    have h := fb_si_sub f g n
    rw [fb_si_succ, fb_si_succ, fb_si_succ, h]
    omega
theorem fb_si_mul (c : Int) (f : Nat → Int) : ∀ n, fb_si (fun k => c * f k) n = c * fb_si f n
  | 0 => (Int.mul_zero c).symm
  | n + 1 => by
    have h := fb_si_mul c f n
    rw [fb_si_succ, fb_si_succ, h, Int.mul_add]
theorem fb_si_split (f : Nat → Int) (m : Nat) : ∀ n, fb_si f (m + n) = fb_si f m + fb_si (fun k => f (m + k)) n
  | 0 => (Int.add_zero _).symm
  | n + 1 => by
    have h := fb_si_split f m n
    show fb_si f (m + n + 1) = _
    rw [fb_si_succ, fb_si_succ, h, Int.add_assoc]
theorem fb_si_nat (f : Nat → Nat) : ∀ n, fb_si (fun k => (f k : Int)) n = (fb_sm f n : Int)
  | 0 => rfl
  | n + 1 => by
    have h := fb_si_nat f n
    rw [fb_si_succ, fb_sm_succ, h]
    omega
theorem fb_si_bound {f : Nat → Int} {c : Int} (hc : 0 ≤ c) : ∀ {n : Nat}, (∀ k, k < n → -c ≤ f k ∧ f k ≤ c) → -(n * c) ≤ fb_si f n ∧ fb_si f n ≤ n * c
  | 0, _ => by simp [fb_si]
  | n + 1, h => by
    have h1 := fb_si_bound (n := n) (f := f) hc (fun k hk => h k (by omega))
    have h2 := h n (by omega)
    have e : ((n + 1 : Nat) : Int) * c = n * c + c := by rw [Int.natCast_add, Int.add_mul]; simp
    rw [fb_si_succ, e]
    omega
/-! ===== bits of a long that isn't negative ===== -/
theorem fb_andL (a b : Nat) : lN a &&& lN b = lN (a &&& b) := by
  apply Int64.toBitVec_inj.1
  show BitVec.ofNat 64 a &&& BitVec.ofNat 64 b = BitVec.ofNat 64 (a &&& b)
  apply BitVec.eq_of_getLsbD_eq
  intro i hi
  simp [hi]
theorem fb_orL (a b : Nat) : lN a ||| lN b = lN (a ||| b) := by
  apply Int64.toBitVec_inj.1
  show BitVec.ofNat 64 a ||| BitVec.ofNat 64 b = BitVec.ofNat 64 (a ||| b)
  apply BitVec.eq_of_getLsbD_eq
  intro i hi
  simp [hi]
theorem fb_xorL (a b : Nat) : lN a ^^^ lN b = lN (a ^^^ b) := by
  apply Int64.toBitVec_inj.1
  show BitVec.ofNat 64 a ^^^ BitVec.ofNat 64 b = BitVec.ofNat 64 (a ^^^ b)
  apply BitVec.eq_of_getLsbD_eq
  intro i hi
  simp [hi]
theorem fb_xorI (a b : Nat) : nI a ^^^ nI b = nI (a ^^^ b) := by
  apply Int32.toBitVec_inj.1
  show BitVec.ofNat 32 a ^^^ BitVec.ofNat 32 b = BitVec.ofNat 32 (a ^^^ b)
  apply BitVec.eq_of_getLsbD_eq
  intro i hi
  simp [hi]
theorem fb_maskL (n k : Nat) : lN n &&& lN (2 ^ k - 1) = lN (n % 2 ^ k) := by rw [fb_andL, Nat.and_two_pow_sub_one_eq_mod]
theorem fb_or_sumL {a k : Nat} (b : Nat) (h : a < 2 ^ k) : lN (2 ^ k * b) ||| lN a = lN (2 ^ k * b + a) := by rw [fb_orL, Nat.two_pow_add_eq_or_of_lt h]
theorem fb_lN_inj {a b : Nat} (ha : a < 2 ^ 63) (hb : b < 2 ^ 63) : lN a = lN b ↔ a = b := by
  constructor
  · intro h
    have h1 : (BitVec.ofNat 64 a).toNat = (BitVec.ofNat 64 b).toNat := congrArg (fun x : Int64 => x.toBitVec.toNat) h
    rw [BitVec.toNat_ofNat, BitVec.toNat_ofNat, Nat.mod_eq_of_lt (by omega), Nat.mod_eq_of_lt (by omega)] at h1
    exact h1
  · rintro rfl; rfl
theorem fb_bit_nat (n j : Nat) : n &&& 2 ^ j = 0 ↔ n.testBit j = false := by
  constructor
  · intro h
    have h1 : (n &&& 2 ^ j).testBit j = false := by rw [h]; simp
    rw [Nat.testBit_and] at h1
    simpa using h1
  · intro h
    apply Nat.eq_of_testBit_eq
    intro i
    rw [Nat.testBit_and]
    by_cases hi : j = i
    · subst hi; simp [h]
    · first | (simp [Nat.testBit_two_pow, hi]; done) | (simp [Nat.testBit_two_pow_of_ne hi]; done)
/-- one bit of a long -/
theorem fb_bitL {n j : Nat} (hj : j < 63) : lN n &&& lN (2 ^ j) = 0 ↔ n.testBit j = false := by
  have h2 : (2 : Nat) ^ j < 2 ^ 63 := Nat.pow_lt_pow_right (by decide) hj
  have hle : n &&& 2 ^ j ≤ 2 ^ j := Nat.and_le_right
  rw [fb_andL, ← fb_bit_nat, show (0 : Int64) = lN 0 from rfl]
  exact fb_lN_inj (by omega) (by decide)
/-- a bit set, a bit taken off -/
theorem fb_bit_set (n j i : Nat) : (n ||| 2 ^ j).testBit i = (n.testBit i || decide (i = j)) := by
  rw [Nat.testBit_or]
  by_cases h : j = i
  · subst h; simp
  · have h2 : ¬ i = j := fun e => h e.symm
    first | (simp [Nat.testBit_two_pow, h, h2]; done) | (simp [Nat.testBit_two_pow_of_ne h, h2]; done)
theorem fb_bit_flip (n j i : Nat) : (n ^^^ 2 ^ j).testBit i = (n.testBit i ^^ decide (i = j)) := by
  rw [Nat.testBit_xor]
  by_cases h : j = i
  · subst h; simp
  · have h2 : ¬ i = j := fun e => h e.symm
    first | (simp [Nat.testBit_two_pow, h, h2]; done) | (simp [Nat.testBit_two_pow_of_ne h, h2]; done)
/-! ===== a stretch of an array written over by a function ===== -/
def fb_put {α : Type} (f g : Nat → α) (a n : Nat) : Nat → α := fun k => if a ≤ k ∧ k < a + n then g (k - a) else f k
theorem fb_put_0 {α : Type} (f g : Nat → α) (a : Nat) : fb_put f g a 0 = f := funext fun k => if_neg (by omega)
theorem fb_put_in {α : Type} {f g : Nat → α} {a n k : Nat} (h1 : a ≤ k) (h2 : k < a + n) : fb_put f g a n k = g (k - a) := if_pos ⟨h1, h2⟩
theorem fb_put_out {α : Type} {f g : Nat → α} {a n k : Nat} (h : k < a ∨ a + n ≤ k) : fb_put f g a n k = f k := if_neg (by omega)
theorem fb_put_succ (f g : Nat → Int32) (a n : Nat) : upd (fb_put f g a n) (a + n) (g n) = fb_put f g a (n + 1) := by
  funext k
  by_cases h : k = a + n
  · subst h
    simp [upd, fb_put]
  · by_cases h1 : a ≤ k ∧ k < a + n
    · have h2 : a ≤ k ∧ k < a + (n + 1) := by omega
      simp only [upd, fb_put, if_neg h, if_pos h1, if_pos h2]
    · have h2 : ¬ (a ≤ k ∧ k < a + (n + 1)) := by omega
      simp only [upd, fb_put, if_neg h, if_neg h1, if_neg h2]
/-- .. from the far end down -/
theorem fb_put_down (f g : Nat → Int32) {a n m : Nat} (h : m < n) : upd (fb_put f (fun k => g (k + (m + 1))) (a + (m + 1)) (n - (m + 1))) (a + m) (g m) = fb_put f (fun k => g (k + m)) (a + m) (n - m) := by
  funext k
  by_cases h0 : k = a + m
  · subst h0
    simp only [upd, if_true]
    rw [fb_put_in (by omega) (by omega)]
    exact congrArg g (by omega)
  · simp only [upd, if_neg h0]
    by_cases h1 : a + (m + 1) ≤ k ∧ k < a + (m + 1) + (n - (m + 1))
    · rw [fb_put_in h1.1 h1.2, fb_put_in (by omega) (by omega)]
      exact congrArg g (by omega)
    · rw [fb_put_out (by omega), fb_put_out (by omega)]
theorem fb_put_cong {α : Type} {f f2 g g2 : Nat → α} {a n : Nat} (hf : ∀ k, (k < a ∨ a + n ≤ k) → f k = f2 k) (hg : ∀ k, k < n → g k = g2 k) : fb_put f g a n = fb_put f2 g2 a n := by
  funext k
  by_cases h : a ≤ k ∧ k < a + n
  · rw [fb_put_in h.1 h.2, fb_put_in h.1 h.2, hg _ (by omega)]
  · rw [fb_put_out (by omega), fb_put_out (by omega), hf _ (by omega)]
/-! ===== the least, the first, the best so far; that there is one alone ===== -/
theorem fb_first {p : Nat → Prop} [DecidablePred p] : ∀ {n : Nat}, (∃ i, i < n ∧ p i) → ∃ i, i < n ∧ p i ∧ ∀ j, j < i → ¬ p j
  | 0, h => by obtain ⟨i, hi, -⟩ := h; exact absurd hi (Nat.not_lt_zero i)
  | n + 1, h => by
    by_cases q : ∃ i, i < n ∧ p i
    · obtain ⟨i, h1, h2⟩ := fb_first q
      exact ⟨i, by omega, h2⟩
    · obtain ⟨i, h1, h2⟩ := h
      have e : i = n := by
        rcases Nat.lt_or_ge i n with r | r
        · exact absurd ⟨i, r, h2⟩ q
        · omega
      subst e
      exact ⟨i, by omega, h2, fun j hj hp => q ⟨j, hj, hp⟩⟩
theorem fb_first_one {p : Nat → Prop} {i j : Nat} (hi : p i) (hi2 : ∀ k, k < i → ¬ p k) (hj : p j) (hj2 : ∀ k, k < j → ¬ p k) : i = j := by
  rcases Nat.lt_trichotomy i j with q | q | q
  · exact absurd hi (hj2 i q)
  · exact q
  · exact absurd hj (hi2 j q)
theorem fb_last {p : Nat → Prop} [DecidablePred p] : ∀ {n : Nat}, (∃ i, i < n ∧ p i) → ∃ i, i < n ∧ p i ∧ ∀ j, i < j → j < n → ¬ p j
  | 0, h => by obtain ⟨i, hi, -⟩ := h; exact absurd hi (Nat.not_lt_zero i)
  | n + 1, h => by
    by_cases q : p n
    · exact ⟨n, by omega, q, fun j h1 h2 => by omega⟩
    · obtain ⟨i, h1, h2⟩ := h
      have hi : i < n := by
        rcases Nat.lt_or_ge i n with r | r
        · exact r
        · have e : i = n := by omega
          subst e
          exact absurd h2 q
      obtain ⟨i2, a1, a2, a3⟩ := fb_last (n := n) ⟨i, hi, h2⟩
      refine ⟨i2, by omega, a2, fun j b1 b2 => ?_⟩
      rcases Nat.lt_or_ge j n with r | r
      · exact a3 j b1 r
      · have e : j = n := by omega
        subst e
        exact q
/-- the first greatest -/
theorem fb_best (f : Nat → Int) : ∀ {n : Nat}, 0 < n → ∃ i, i < n ∧ (∀ j, j < n → f j ≤ f i) ∧ ∀ j, j < i → f j < f i
  | 0, h => absurd h (Nat.lt_irrefl 0)
  | 1, _ => ⟨0, by omega, fun j hj => by have e : j = 0 := by omega
                                         subst e; exact Int.le_refl _, fun j hj => absurd hj (Nat.not_lt_zero j)⟩
  | n + 2, _ => by
    obtain ⟨i, h1, h2, h3⟩ := fb_best f (n := n + 1) (by omega)
    by_cases q : f i < f (n + 1)
    · refine ⟨n + 1, by omega, fun j hj => ?_, fun j hj => ?_⟩
      · rcases Nat.lt_or_ge j (n + 1) with r | r
        · have := h2 j r; omega
        · have e : j = n + 1 := by omega
          subst e; exact Int.le_refl _
      · have := h2 j hj; omega
    · refine ⟨i, by omega, fun j hj => ?_, h3⟩
      rcases Nat.lt_or_ge j (n + 1) with r | r
      · exact h2 j r
      · have e : j = n + 1 := by omega
        subst e; omega
theorem fb_best_one {f : Nat → Int} {n i j : Nat} (hi : i < n) (hi2 : ∀ k, k < n → f k ≤ f i) (hi3 : ∀ k, k < i → f k < f i) (hj : j < n) (hj2 : ∀ k, k < n → f k ≤ f j) (hj3 : ∀ k, k < j → f k < f j) : i = j := by
  rcases Nat.lt_trichotomy i j with q | q | q
  · have a := hj3 i q
    have b := hi2 j hj
    omega
  · exact q
  · have a := hi3 j q
    have b := hj2 i hi
    omega
/-- the first least -/
theorem fb_low (f : Nat → Int) {n : Nat} (h : 0 < n) : ∃ i, i < n ∧ (∀ j, j < n → f i ≤ f j) ∧ ∀ j, j < i → f i < f j := by
  obtain ⟨i, h1, h2, h3⟩ := fb_best (fun k => -f k) h
  exact ⟨i, h1, fun j hj => by have := h2 j hj; omega, fun j hj => by have := h3 j hj; omega⟩
/-! ===== signed ints as whole numbers, within bounds ===== -/
theorem fb_rng (x : Int32) : -2147483648 ≤ x.toInt ∧ x.toInt < 2147483648 := by
  have h1 := Int32.le_toInt x
  have h2 := Int32.toInt_lt x
  omega
theorem fb_bmod {z : Int} (h1 : -2147483648 ≤ z) (h2 : z < 2147483648) : z.bmod (2 ^ 32) = z := by
  rw [Int.bmod_eq_of_le (by omega) (by omega)]
theorem fb_addI {x y : Int32} (h1 : -2147483648 ≤ x.toInt + y.toInt) (h2 : x.toInt + y.toInt < 2147483648) : (x + y).toInt = x.toInt + y.toInt := by
  rw [Int32.toInt_add, fb_bmod h1 h2]
theorem fb_subI {x y : Int32} (h1 : -2147483648 ≤ x.toInt - y.toInt) (h2 : x.toInt - y.toInt < 2147483648) : (x - y).toInt = x.toInt - y.toInt := by
  rw [Int32.toInt_sub, fb_bmod h1 h2]
theorem fb_mulI {x y : Int32} (h1 : -2147483648 ≤ x.toInt * y.toInt) (h2 : x.toInt * y.toInt < 2147483648) : (x * y).toInt = x.toInt * y.toInt := by
  rw [Int32.toInt_mul, fb_bmod h1 h2]
theorem fb_negI {x : Int32} (h : x.toInt ≠ -2147483648) : (-x).toInt = -x.toInt := by
  have := fb_rng x
  rw [Int32.toInt_neg, fb_bmod (by omega) (by omega)]
theorem fb_ofI {z : Int} (h1 : -2147483648 ≤ z) (h2 : z < 2147483648) : (Int32.ofInt z).toInt = z := by
  rw [Int32.toInt_ofInt, fb_bmod h1 h2]
theorem fb_asI (x : Int32) : Int32.ofInt x.toInt = x := Int32.ofInt_toInt x
theorem fb_rngL (x : Int64) : -9223372036854775808 ≤ x.toInt ∧ x.toInt < 9223372036854775808 := by
  have h1 := Int64.le_toInt x
  have h2 := Int64.toInt_lt x
  omega
theorem fb_bmodL {z : Int} (h1 : -9223372036854775808 ≤ z) (h2 : z < 9223372036854775808) : z.bmod (2 ^ 64) = z := by
  rw [Int.bmod_eq_of_le (by omega) (by omega)]
theorem fb_addL {x y : Int64} (h1 : -9223372036854775808 ≤ x.toInt + y.toInt) (h2 : x.toInt + y.toInt < 9223372036854775808) : (x + y).toInt = x.toInt + y.toInt := by
  rw [Int64.toInt_add, fb_bmodL h1 h2]
theorem fb_subL {x y : Int64} (h1 : -9223372036854775808 ≤ x.toInt - y.toInt) (h2 : x.toInt - y.toInt < 9223372036854775808) : (x - y).toInt = x.toInt - y.toInt := by
  rw [Int64.toInt_sub, fb_bmodL h1 h2]
theorem fb_mulL {x y : Int64} (h1 : -9223372036854775808 ≤ x.toInt * y.toInt) (h2 : x.toInt * y.toInt < 9223372036854775808) : (x * y).toInt = x.toInt * y.toInt := by
  rw [Int64.toInt_mul, fb_bmodL h1 h2]
/-! ===== cuts of what is narrow already ===== -/
theorem fb_byte {x : Int32} (h1 : -128 ≤ x.toInt) (h2 : x.toInt < 128) : x.toInt8.toInt32 = x := by
  apply Int32.toInt_inj.1
  rw [Int8.toInt_toInt32, Int32.toInt_toInt8, Int.bmod_eq_of_le (by omega) (by omega)]
theorem fb_short {x : Int32} (h1 : -32768 ≤ x.toInt) (h2 : x.toInt < 32768) : x.toInt16.toInt32 = x := by
  apply Int32.toInt_inj.1
  rw [Int16.toInt_toInt32, Int32.toInt_toInt16, Int.bmod_eq_of_le (by omega) (by omega)]
theorem fb_byte_rng (x : Int32) : -128 ≤ x.toInt8.toInt32.toInt ∧ x.toInt8.toInt32.toInt < 128 := by
  rw [Int8.toInt_toInt32]
  have h1 := Int8.le_toInt x.toInt8
  have h2 := Int8.toInt_lt x.toInt8
  omega
theorem fb_short_rng (x : Int32) : -32768 ≤ x.toInt16.toInt32.toInt ∧ x.toInt16.toInt32.toInt < 32768 := by
  rw [Int16.toInt_toInt32]
  have h1 := Int16.le_toInt x.toInt16
  have h2 := Int16.toInt_lt x.toInt16
  omega
theorem fb_byte_twice (x : Int32) : x.toInt8.toInt32.toInt8.toInt32 = x.toInt8.toInt32 := fb_byte (fb_byte_rng x).1 (fb_byte_rng x).2
theorem fb_short_twice (x : Int32) : x.toInt16.toInt32.toInt16.toInt32 = x.toInt16.toInt32 := fb_short (fb_short_rng x).1 (fb_short_rng x).2
theorem fb_char {n : Nat} (h : n < 65536) : (nI n).toUInt32.toUInt16.toUInt32.toInt32 = nI n := by
  apply Int32.toBitVec_inj.1
  apply BitVec.eq_of_toNat_eq
  have e1 : (nI n).toBitVec.toNat = n := by
    show (BitVec.ofNat 32 n).toNat = n
    rw [BitVec.toNat_ofNat, Nat.mod_eq_of_lt (by omega)]
  have e2 : ((nI n).toUInt32.toUInt16.toUInt32).toNat = n := by
    rw [UInt16.toNat_toUInt32, UInt32.toNat_toUInt16]
    show (nI n).toBitVec.toNat % 2 ^ 16 = n
    rw [e1, Nat.mod_eq_of_lt (by omega)]
  rw [e1]
  exact e2
end
section
/-! ===== small facts ===== -/
def b01 (P : Prop) [Decidable P] : Int32 := if P then 1 else 0
theorem b01_t {P : Prop} [Decidable P] (h : P) : b01 P = 1 := if_pos h
theorem b01_f {P : Prop} [Decidable P] (h : ¬ P) : b01 P = 0 := if_neg h
theorem b01_c {P Q : Prop} [Decidable P] [Decidable Q] (h : P ↔ Q) : b01 P = b01 Q := by
  by_cases hp : P
  · rw [b01_t hp, b01_t (h.mp hp)]
  · rw [b01_f hp, b01_f (fun q => hp (h.mpr q))]
theorem b01_or (P : Prop) [Decidable P] : b01 P = 0 ∨ b01 P = 1 := by
  by_cases h : P
  · exact Or.inr (b01_t h)
  · exact Or.inl (b01_f h)
theorem b01_0 {P : Prop} [Decidable P] (h : b01 P = 0) : ¬ P := fun q => by
  rw [b01_t q] at h
  exact absurd h (by decide)
theorem b01_n {P : Prop} [Decidable P] (h : ¬ b01 P = 0) : P := by
  by_cases q : P
  · exact q
  · exact absurd (b01_f q) h
theorem ti (n : Nat) (h : n < 2 ^ 31) : (OfNat.ofNat n : Int32).toInt = (n : Int) := by
  rw [fa_lit]; exact nI_toInt h
theorem ti_0 : (0 : Int32).toInt = 0 := by decide
theorem ti_1 : (1 : Int32).toInt = 1 := by decide
theorem ti_5 : (5 : Int32).toInt = 5 := by decide
theorem ti_6 : (6 : Int32).toInt = 6 := by decide
theorem ti_7 : (7 : Int32).toInt = 7 := by decide
theorem ti_8 : (8 : Int32).toInt = 8 := by decide
theorem ti_10 : (10 : Int32).toInt = 10 := by decide
theorem ti_48 : (48 : Int32).toInt = 48 := by decide
theorem ti_63 : (63 : Int32).toInt = 63 := by decide
theorem ti_64 : (64 : Int32).toInt = 64 := by decide
theorem ti_120 : (120 : Int32).toInt = 120 := by decide
theorem ti_199 : (199 : Int32).toInt = 199 := by decide
theorem ti_1000 : (1000 : Int32).toInt = 1000 := by decide
theorem ti_2000 : (2000 : Int32).toInt = 2000 := by decide
theorem ti_9999 : (9999 : Int32).toInt = 9999 := by decide
theorem ti_n : (262143 : Int32).toInt = 262143 := by decide
theorem ti_g : (1000000000 : Int32).toInt = 1000000000 := by decide
theorem ti_m1 : (-1 : Int32).toInt = -1 := by decide
theorem ti_m2 : (-2 : Int32).toInt = -2 := by decide
theorem ti_m9 : (-9 : Int32).toInt = -9 := by decide
theorem tl_0 : (0 : Int64).toInt = 0 := by decide
theorem tl_1 : (1 : Int64).toInt = 1 := by decide
theorem tl_5 : (5 : Int64).toInt = 5 := by decide
theorem tl_7 : (7 : Int64).toInt = 7 := by decide
theorem tl_63 : (63 : Int64).toInt = 63 := by decide
theorem tl_120 : (120 : Int64).toInt = 120 := by decide
theorem tl_199 : (199 : Int64).toInt = 199 := by decide
theorem tl_1000 : (1000 : Int64).toInt = 1000 := by decide
theorem tl_n : (262143 : Int64).toInt = 262143 := by decide
theorem tl_g : (1000000000 : Int64).toInt = 1000000000 := by decide
theorem t64 (x : Int32) : x.toInt64.toInt = x.toInt := Int32.toInt_toInt64 x
/-- an int that is a number of at most 31 bits -/
theorem nI_of_toInt {x : Int32} {n : Nat} (h : x.toInt = n) (hn : n < 2 ^ 31) : x = nI n := (fa_eq _ _).mpr (by rw [h, nI_toInt hn])
theorem nI_nat {x : Int32} (h : 0 ≤ x.toInt) : x = nI x.toInt.toNat := nI_of_toInt (by omega) (by have := fb_rng x; omega)
theorem in_of {x : Int32} {n : Nat} (h1 : 0 ≤ x.toInt) (h2 : x.toInt < n) : vp_in x n := vp_in_iff.mpr ⟨h1, h2⟩
theorem clamp_of_toInt {x : Int32} {n : Nat} (h : x.toInt = n) (hn : n < 2 ^ 31) : x.toNatClampNeg = n := by rw [nI_of_toInt h hn, nI_clamp hn]
end
section
/-! ===== rows of unlike numbers, the least first ===== -/
def ins (v : Int32) : List Int32 → List Int32
  | [] => [v]
  | x :: r => if v < x then v :: x :: r else if v = x then x :: r else x :: ins v r
def Sor (L : List Int32) : Prop := L.Pairwise (fun a b => a < b)
theorem mem_ins {v x : Int32} : ∀ {L : List Int32}, x ∈ ins v L ↔ x = v ∨ x ∈ L
  | [] => by simp [ins]
  | y :: r => by
    unfold ins
    by_cases h1 : v < y
    · rw [if_pos h1]; simp
    · rw [if_neg h1]
      by_cases h2 : v = y
      · rw [if_pos h2]; subst h2; simp
      · rw [if_neg h2, List.mem_cons, mem_ins, List.mem_cons]
        constructor
        · rintro (h | h | h)
          · exact Or.inr (Or.inl h)
          · exact Or.inl h
          · exact Or.inr (Or.inr h)
        · rintro (h | h | h)
          · exact Or.inr (Or.inl h)
          · exact Or.inl h
          · exact Or.inr (Or.inr h)
theorem lt_tr {a b c : Int32} (h1 : a < b) (h2 : b < c) : a < c := by
  rw [fa_lt] at *; omega
theorem lt_ir (a : Int32) : ¬ a < a := by rw [fa_lt]; omega
theorem lt_of_n {a b : Int32} (h1 : ¬ a < b) (h2 : ¬ a = b) : b < a := by
  rw [fa_lt] at *; rw [fa_eq] at h2; omega
theorem Sor.ins9 {v : Int32} : ∀ {L : List Int32}, Sor L → Sor (ins v L)
  | [], _ => List.pairwise_singleton _ _
  | y :: r, h => by
    have h0 := List.pairwise_cons.mp h
    show Sor (if v < y then v :: y :: r else if v = y then y :: r else y :: ins v r)
    by_cases h1 : v < y
    · rw [if_pos h1]
      refine List.pairwise_cons.mpr ⟨fun a ha => ?_, h⟩
      rcases List.mem_cons.mp ha with e | ha
      · subst e; exact h1
      · exact lt_tr h1 (h0.1 a ha)
    · rw [if_neg h1]
      by_cases h2 : v = y
      · rw [if_pos h2]; exact h
      · rw [if_neg h2]
        refine List.pairwise_cons.mpr ⟨fun a ha => ?_, Sor.ins9 h0.2⟩
        rcases mem_ins.mp ha with e | ha
        · subst e; exact lt_of_n h1 h2
        · exact h0.1 a ha
theorem Sor.ext : ∀ {L M : List Int32}, Sor L → Sor M → (∀ x, x ∈ L ↔ x ∈ M) → L = M
  | [], [], _, _, _ => rfl
  | [], y :: r, _, _, h => absurd ((h y).mpr List.mem_cons_self) List.not_mem_nil
  | y :: r, [], _, _, h => absurd ((h y).mp List.mem_cons_self) List.not_mem_nil
  | x :: r, y :: t, h1, h2, h => by
    have a1 := List.pairwise_cons.mp h1
    have a2 := List.pairwise_cons.mp h2
    have e : x = y := by
      rcases List.mem_cons.mp ((h x).mp List.mem_cons_self) with e | m1
      · exact e
      · rcases List.mem_cons.mp ((h y).mpr List.mem_cons_self) with e | m2
        · exact e.symm
        · exact absurd (lt_tr (a1.1 y m2) (a2.1 x m1)) (lt_ir x)
    subst e
    have : r = t := Sor.ext a1.2 a2.2 (fun z => by
      constructor
      · intro hz
        rcases List.mem_cons.mp ((h z).mp (List.mem_cons_of_mem _ hz)) with e | m
        · subst e; exact absurd (a1.1 z hz) (lt_ir z)
        · exact m
      · intro hz
        rcases List.mem_cons.mp ((h z).mpr (List.mem_cons_of_mem _ hz)) with e | m
        · subst e; exact absurd (a2.1 z hz) (lt_ir z)
        · exact m)
    rw [this]
theorem Sor.nodup {L : List Int32} (h : Sor L) : L.Nodup := List.Pairwise.imp (fun {a b} hab e => by subst e; exact lt_ir a hab) h
theorem ins_mem {v : Int32} {L : List Int32} (h : Sor L) (hv : v ∈ L) : ins v L = L := Sor.ext h.ins9 h (fun x => by
  rw [mem_ins]
  exact ⟨fun q => q.elim (fun e => e ▸ hv) id, Or.inr⟩)
theorem Sor.get {L : List Int32} (h : Sor L) {i j : Nat} (hij : i < j) (hj : j < L.length) : L[i] < L[j] := List.pairwise_iff_getElem.mp h i j (by omega) hj hij
theorem ins_at {v : Int32} {L : List Int32} (h : Sor L) {k : Nat} (hk : k ≤ L.length) (h1 : ∀ i (hi : i < L.length), i < k → L[i] < v) (h2 : ∀ i (hi : i < L.length), k ≤ i → v < L[i]) : ins v L = L.take k ++ v :: L.drop k := by
  refine Sor.ext h.ins9 ?_ (fun x => ?_)
  · refine List.pairwise_append.mpr ⟨List.Pairwise.sublist (List.take_sublist _ _) h, List.pairwise_cons.mpr ⟨fun a ha => ?_, List.Pairwise.sublist (List.drop_sublist _ _) h⟩, fun a ha b hb => ?_⟩
    · obtain ⟨i, hi, rfl⟩ := List.mem_iff_getElem.mp ha
      rw [List.getElem_drop]
      exact h2 _ _ (by omega)
    · obtain ⟨i, hi, rfl⟩ := List.mem_iff_getElem.mp ha
      rw [List.getElem_take]
      have hi2 : i < k := by rw [List.length_take] at hi; omega
      have hv : L[i] < v := h1 i (by omega) hi2
      rcases List.mem_cons.mp hb with e | hb
      · rw [e]; exact hv
      · obtain ⟨j, hj, rfl⟩ := List.mem_iff_getElem.mp hb
        rw [List.getElem_drop]
        exact lt_tr hv (h2 _ _ (by omega))
  · rw [mem_ins]
    rw [List.mem_append, List.mem_cons]
    have : x ∈ L ↔ x ∈ L.take k ∨ x ∈ L.drop k := by rw [← List.mem_append, List.take_append_drop]
    rw [this]
    constructor
    · rintro (h | h | h)
      · exact Or.inr (Or.inl h)
      · exact Or.inl h
      · exact Or.inr (Or.inr h)
    · rintro (h | h | h)
      · exact Or.inr (Or.inl h)
      · exact Or.inl h
      · exact Or.inr (Or.inr h)
/-- a row of the machine that begins with the numbers of L -/
def UL (f : Nat → Int32) (L : List Int32) : Prop := ∀ i (h : i < L.length), f i = L[i]
theorem UL.nil (f : Nat → Int32) : UL f [] := fun i h => absurd h (Nat.not_lt_zero i)
theorem UL.cong {f f2 : Nat → Int32} {L : List Int32} (h : UL f L) (hf : ∀ i, i < L.length → f2 i = f i) : UL f2 L := fun i hi => (hf i hi).trans (h i hi)
theorem UL.put {f f2 : Nat → Int32} {L : List Int32} {v : Int32} (h : UL f L) {k : Nat} (hk : k ≤ L.length) (h1 : ∀ i, i < k → f2 i = f i) (h2 : f2 k = v) (h3 : ∀ i, k < i → i ≤ L.length → f2 i = f (i - 1)) : UL f2 (L.take k ++ v :: L.drop k) := by
  intro i hi
  rw [List.length_append, List.length_cons, List.length_take, List.length_drop] at hi
  rcases Nat.lt_trichotomy i k with q | q | q
  · rw [List.getElem_append_left (by rw [List.length_take]; omega), List.getElem_take, h1 i q]
    exact h i (by omega)
  · subst q
    rw [List.getElem_append_right (by rw [List.length_take]; omega)]
    simp only [List.length_take, Nat.min_eq_left hk, Nat.sub_self, List.getElem_cons_zero]
    exact h2
  · rw [List.getElem_append_right (by rw [List.length_take]; omega), h3 i q (by omega), h (i - 1) (by omega)]
    obtain ⟨j, rfl⟩ : ∃ j, i = k + (j + 1) := ⟨i - k - 1, by omega⟩
    simp only [List.length_take, Nat.min_eq_left hk, Nat.add_sub_cancel_left, List.getElem_cons_succ, List.getElem_drop]
    rfl
theorem ins_len {v : Int32} {L : List Int32} (h : Sor L) (hv : v ∉ L) : (ins v L).length = L.length + 1 := by
  have p : (ins v L).Perm (v :: L) := (List.perm_ext_iff_of_nodup h.ins9.nodup (List.nodup_cons.mpr ⟨hv, h.nodup⟩)).mpr (fun x => by rw [mem_ins, List.mem_cons])
  rw [p.length_eq, List.length_cons]
theorem ins_le (v : Int32) : ∀ L : List Int32, (ins v L).length ≤ L.length + 1
  | [] => Nat.le_refl _
  | y :: r => by
    unfold ins
    by_cases h1 : v < y
    · rw [if_pos h1]; exact Nat.le_refl _
    · rw [if_neg h1]
      by_cases h2 : v = y
      · rw [if_pos h2]; simp
      · rw [if_neg h2]; simp only [List.length_cons]; have := ins_le v r; omega
/-- put in, one by one, those that are wanted -/
def insN (p : Nat → Bool) (h : Nat → Int32) : Nat → List Int32
  | 0 => []
  | i + 1 => bif p i then ins (h i) (insN p h i) else insN p h i
theorem insN_t {p : Nat → Bool} {h : Nat → Int32} {i : Nat} (q : p i = true) : insN p h (i + 1) = ins (h i) (insN p h i) := by simp [insN, q]
theorem insN_f {p : Nat → Bool} {h : Nat → Int32} {i : Nat} (q : p i = false) : insN p h (i + 1) = insN p h i := by simp [insN, q]
theorem insN_sor (p : Nat → Bool) (h : Nat → Int32) : ∀ n, Sor (insN p h n)
  | 0 => List.Pairwise.nil
  | i + 1 => by
    cases q : p i with
    | true => rw [insN_t q]; exact (insN_sor p h i).ins9
    | false => rw [insN_f q]; exact insN_sor p h i
theorem insN_len (p : Nat → Bool) (h : Nat → Int32) : ∀ n, (insN p h n).length ≤ n
  | 0 => Nat.le_refl _
  | i + 1 => by
    cases q : p i with
    | true => rw [insN_t q]; have := ins_le (h i) (insN p h i); have := insN_len p h i; omega
    | false => rw [insN_f q]; have := insN_len p h i; omega
theorem mem_insN {p : Nat → Bool} {h : Nat → Int32} {x : Int32} : ∀ {n : Nat}, x ∈ insN p h n ↔ ∃ i, i < n ∧ p i = true ∧ h i = x
  | 0 => ⟨fun q => absurd q List.not_mem_nil, fun ⟨i, q, _⟩ => absurd q (Nat.not_lt_zero i)⟩
  | n + 1 => by
    have ih := @mem_insN p h x n
    cases q : p n with
    | true =>
      rw [insN_t q, mem_ins, ih]
      constructor
      · rintro (e | ⟨i, h1, h2, h3⟩)
        · exact ⟨n, by omega, q, e.symm⟩
        · exact ⟨i, by omega, h2, h3⟩
      · rintro ⟨i, h1, h2, h3⟩
        rcases Nat.lt_or_ge i n with r | r
        · exact Or.inr ⟨i, r, h2, h3⟩
        · obtain rfl : i = n := by omega
          exact Or.inl h3.symm
    | false =>
      rw [insN_f q, ih]
      constructor
      · rintro ⟨i, h1, h2, h3⟩
        exact ⟨i, by omega, h2, h3⟩
      · rintro ⟨i, h1, h2, h3⟩
        rcases Nat.lt_or_ge i n with r | r
        · exact ⟨i, r, h2, h3⟩
        · obtain rfl : i = n := by omega
          rw [q] at h2; cases h2
end
section
/-! ===== the layer of views: a method's walk with its world as a list of cells that only grows ===== -/
/-- what stays through the whole run: the tables' numbers, the first free address, the classes of int[], boolean[], Object[], the static empty row, the class object of Object[] -/
abbrev gE : Type := va_G × Nat × ClassId × ClassId × ClassId × Nat × Nat
abbrev gD (E : gE) : va_G := E.1
abbrev gB (E : gE) : Nat := E.2.1
abbrev gI (E : gE) : ClassId := E.2.2.1
abbrev gZ (E : gE) : ClassId := E.2.2.2.1
abbrev gO (E : gE) : ClassId := E.2.2.2.2.1
abbrev gDe (E : gE) : Nat := E.2.2.2.2.2.1
abbrev gMi (E : gE) : Nat := E.2.2.2.2.2.2
abbrev gA (E : gE) : Nat → Prop := fun q => gB E ≤ q
abbrev gTy (E : gE) : List (ClassId × FieldType) := [(gI E, .int), (gZ E, .boolean), (gO E, .object "java/lang/Object")]
def gNf : List (Nat × String × String × String) := [(100, "SeriesMarks$Series", "firstTick", "I"), (103, "SeriesMarks$Series", "restarts", "I"), (124, "SeriesMarks$NameSet", "size", "I"), (141, "SeriesMarks$Sample", "name", "I"), (142, "SeriesMarks$Sample", "tick", "I"), (187, "SeriesMarks$Asking", "digits", "I"), (194, "SeriesMarks$NameSet", "row", "[I"), (197, "SeriesMarks$Asking", "marks", "I"), (218, "SeriesMarks$Shortening", "droppedAt", "[I"), (230, "SeriesMarks$Sample", "rise", "I"), (233, "SeriesMarks$Asking", "worth", "I"), (66, "SeriesMarks$Series", "latestTick", "I"), (91, "SeriesMarks$Series", "name", "I"), (94, "SeriesMarks$Series", "sampleCount", "I"), (97, "SeriesMarks$Series", "latestCount", "I")]
def gNm : List (String × Nat × MethodName) := [("SeriesMarks", 35, ⟨"SeriesMarks$NameSet", "<init>", "()V"⟩), ("SeriesMarks$Asking", 15, ⟨"SeriesMarks", "digitsOf", "(I)I"⟩), ("SeriesMarks$Asking", 28, ⟨"SeriesMarks", "digit", "(II)I"⟩), ("SeriesMarks$Shortening", 25, ⟨"SeriesMarks", "hasBit", "(II)Z"⟩), ("SeriesMarks$Shortening", 29, ⟨"SeriesMarks", "digit", "(II)I"⟩), ("SeriesMarks$Shortening", 42, ⟨"SeriesMarks", "atPlace", "(II)I"⟩)]
def gNc : List String := ["SeriesMarks$Series", "SeriesMarks$Sample", "SeriesMarks$Asking"]
def gP (E : gE) (w : va_W) (H : Heap) : Prop := va_P (gD E) vwCl w H ∧ va_D (gA E) w
def gS1 (E : gE) (U : State) : Prop := va_K (gD E) vwCl (gTy E) U ∧ gB E ≤ U.heap.size ∧ (∀ q ∈ gNf, va_Nw (.fieldLinkNest "SeriesMarks" q.1 q.2.1 q.2.2.1 q.2.2.2 "SeriesMarks") U) ∧ (∀ q ∈ gNm, va_Nw (.methodLinkNest q.1 q.2.1 q.2.2 "SeriesMarks") U) ∧ (∀ C ∈ gNc, va_Nw (.castable C "java/lang/Object") U)
def gS2 (E : gE) (U : State) : Prop := va_Z "java/util/ArrayList" "DEFAULTCAPACITY_EMPTY_ELEMENTDATA" "[Ljava/lang/Object;" (.ref (gDe E)) (gA E) U U.heap ∧ (∃ cell : Cell, U.heap[gDe E]? = some cell ∧ U.isArrayOf cell (.object "java/lang/Object") ∧ cell.slots.size = 0) ∧ gDe E < gB E ∧ va_Mi "[Ljava/lang/Object;" (gMi E) U ∧ va_Dc U
def gS (E : gE) (U : State) : Prop := gS1 E U ∧ gS2 E U
theorem gS.move {E : gE} {s U : State} {H : Heap} {locs : List Loc} (h : gS E s) (hS : va_S (gA E) s.heap H locs) (hU : U.heap = H) (hW : s.WarmedH U.vm) : gS E U := by
  obtain ⟨⟨h1, h2, h3, h4, h5⟩, h6, ⟨cell, h7, h8, h9⟩, h10, h11, h12⟩ := h
  have hne : ¬ gA E (gDe E) := Nat.not_le.mpr h10
  have hlt : gDe E < s.heap.size := Nat.lt_of_lt_of_le h10 h2
  refine ⟨⟨va_K.moved hW.alike h1, by rw [hU]; exact Nat.le_trans h2 hS.1, fun q hq => (h3 q hq).warmF hW, fun q hq => (h4 q hq).warmM hW, fun q hq => (h5 q hq).warmC hW⟩, ?_, ⟨cell, by rw [hU, hS.2.1 _ hlt hne]; exact h7, State.isArrayOf_alike hW.alike h8, h9⟩, h10, h11.moved hW.alike, h12.moved hW.alike⟩
  rw [hU]
  exact (h6.kept (fun a ha hb => hS.2.1 a ha hb)).moved hW.alike
theorem gS.calling {E : gE} {U : State} (g : JFrame) (mk : MethodId) (a : Array Value) (h : gS E U) : gS E (U.calling g mk a) := by
  obtain ⟨⟨h1, h2, h3, h4, h5⟩, h6, ⟨cell, h7, h8, h9⟩, h10, h11, h12⟩ := h
  have hv : U.vm.Alike (U.calling g mk a).vm := Vm.Alike.refl U.vm
  exact ⟨⟨va_K.moved hv h1, h2, fun q hq => (h3 q hq).same rfl rfl, fun q hq => (h4 q hq).same rfl rfl, fun q hq => (h5 q hq).same rfl rfl⟩, h6.moved hv, ⟨cell, h7, State.isArrayOf_alike hv h8, h9⟩, h10, h11.moved hv, h12.moved hv⟩
/-- a method's contract over worlds -/
def gQ (E : gE) (post : Option Value → va_W → Prop) : Array Value → State → Outcome → State → Prop := fun _ st oc t => (∃ (v : Option Value) (w' : va_W), oc = .returned v ∧ post v w' ∧ gP E w' t.heap) ∧ va_F (gA E) st t
def Ct (l : Launch) (y : MethodName) (ws0 : List Cond) (rm : Room) (E : gE) (av : List Value) (w : va_W) (post : Option Value → va_W → Prop) (mc ms : Nat) : Prop :=
  Met l y ws0 rm (va_Pc av (fun U => gP E w U.heap ∧ gS E U)) (gQ E post) mc ms (gA E)
theorem Ct.mono {l : Launch} {y : MethodName} {ws0 : List Cond} {rm : Room} {E : gE} {av : List Value} {w : va_W} {post post' : Option Value → va_W → Prop} {mc ms : Nat} (h : Ct l y ws0 rm E av w post mc ms) (hp : ∀ v w', post v w' → post' v w') : Ct l y ws0 rm E av w post' mc ms := by
  intro p e a b d s m args below hf happ hpre hk
  obtain ⟨k, o, h1, h2, h3, ⟨⟨v, w', g1, g2, g3⟩, g4⟩, g5⟩ := h p e a b d s m args below hf happ hpre hk
  exact ⟨k, o, h1, h2, h3, ⟨⟨v, w', g1, hp v w' g2, g3⟩, g4⟩, g5⟩
def vlk : List (Nat × Value) → Nat → Option Value
  | [], _ => none
  | (j, v) :: r, i => bif Nat.beq j i then some v else vlk r i
def vrm : List (Nat × Value) → Nat → List (Nat × Value)
  | [], _ => []
  | (j, v) :: r, i => bif Nat.beq j i then vrm r i else (j, v) :: vrm r i
def vst : List (Nat × Value) → Nat → Value → List (Nat × Value)
  | [], i, v => [(i, v)]
  | (j, u) :: r, i, v => bif Nat.beq j i then (i, v) :: vrm r i else (j, u) :: vst r i v
def vok : List (Nat × Value) → Nat → Bool
  | [], _ => true
  | (j, u) :: r, i => !(j + 1 == i && u.category == 2) && vok r i
theorem vlk_mem {i : Nat} {v : Value} : ∀ {lv : List (Nat × Value)}, vlk lv i = some v → (i, v) ∈ lv
  | [], h => by cases h
  | (j, u) :: r, h => by
    unfold vlk at h
    cases hb : Nat.beq j i with
    | true =>
      rw [hb] at h
      have : j = i := Nat.eq_of_beq_eq_true hb
      subst this
      cases h
      exact List.mem_cons_self
    | false =>
      rw [hb] at h
      exact List.mem_cons_of_mem _ (vlk_mem h)
theorem vlk_at {ls : Array Slot} {nL i : Nat} {lv : List (Nat × Value)} {v : Value} (h : lv_has ls nL lv) (hk : vlk lv i = some v) : ls[i]? = some (.val v) := h.2.2 (i, v) (vlk_mem hk)
theorem vrm_mem {i : Nat} {q : Nat × Value} : ∀ {lv : List (Nat × Value)}, q ∈ vrm lv i → q ∈ lv ∧ q.1 ≠ i
  | [], h => by cases h
  | (j, u) :: r, h => by
    unfold vrm at h
    cases hb : Nat.beq j i with
    | true =>
      rw [hb] at h
      exact ⟨List.mem_cons_of_mem _ (vrm_mem h).1, (vrm_mem h).2⟩
    | false =>
      rw [hb] at h
      rcases List.mem_cons.mp h with e | h
      · subst e
        exact ⟨List.mem_cons_self, fun e => by rw [show j = i from e] at hb; simp at hb⟩
      · exact ⟨List.mem_cons_of_mem _ (vrm_mem h).1, (vrm_mem h).2⟩
theorem vst_mem {i : Nat} {v : Value} {q : Nat × Value} : ∀ {lv : List (Nat × Value)}, q ∈ vst lv i v → q = (i, v) ∨ (q ∈ lv ∧ q.1 ≠ i)
  | [], h => by
    rcases List.mem_cons.mp h with e | h
    · exact Or.inl e
    · cases h
  | (j, u) :: r, h => by
    unfold vst at h
    cases hb : Nat.beq j i with
    | true =>
      rw [hb] at h
      rcases List.mem_cons.mp h with e | h
      · exact Or.inl e
      · exact Or.inr ⟨List.mem_cons_of_mem _ (vrm_mem h).1, (vrm_mem h).2⟩
    | false =>
      rw [hb] at h
      rcases List.mem_cons.mp h with e | h
      · subst e
        exact Or.inr ⟨List.mem_cons_self, fun e => by rw [show j = i from e] at hb; simp at hb⟩
      · rcases vst_mem h with e | ⟨h1, h2⟩
        · exact Or.inl e
        · exact Or.inr ⟨List.mem_cons_of_mem _ h1, h2⟩
theorem vok_mem {i : Nat} {q : Nat × Value} : ∀ {lv : List (Nat × Value)}, vok lv i = true → q ∈ lv → (!(q.1 + 1 == i && q.2.category == 2)) = true
  | [], _, h => by cases h
  | (j, u) :: r, hk, h => by
    unfold vok at hk
    rw [Bool.and_eq_true] at hk
    rcases List.mem_cons.mp h with e | h
    · subst e
      exact hk.1
    · exact vok_mem hk.2 h
theorem vst_has {ls : Array Slot} {nL i : Nat} {v : Value} {lv : List (Nat × Value)} (h : lv_has ls nL ((i, v) :: lv.filter (fun q => !(q.1 == i) && !(q.1 + 1 == i && q.2.category == 2)))) (hok : vok lv i = true) : lv_has ls nL (vst lv i v) := by
  refine ⟨h.1, h.2.1, fun q hq => h.2.2 q ?_⟩
  rcases vst_mem hq with e | ⟨h1, h2⟩
  · subst e
    exact List.mem_cons_self
  · refine List.mem_cons_of_mem _ (List.mem_filter.mpr ⟨h1, ?_⟩)
    rw [vok_mem hok h1, Bool.and_true]
    simpa using h2
theorem vst_has2 {ls : Array Slot} {nL i : Nat} {v : Value} {lv : List (Nat × Value)} (h : lv_has ls nL ((i, v) :: lv.filter (fun q => !(q.1 == i) && (!(q.1 == i + 1) && !(q.1 + 1 == i && q.2.category == 2))))) (hok : vok lv i = true) : lv_has ls nL (vst (vrm lv (i + 1)) i v) := by
  refine ⟨h.1, h.2.1, fun q hq => h.2.2 q ?_⟩
  rcases vst_mem hq with e | ⟨h1, h2⟩
  · subst e
    exact List.mem_cons_self
  · obtain ⟨h3, h4⟩ := vrm_mem h1
    refine List.mem_cons_of_mem _ (List.mem_filter.mpr ⟨h3, ?_⟩)
    rw [vok_mem hok h3, Bool.and_true]
    simp [h2, h4]
/-- the machine at pc, with the world w, the locals lv, the stack st, comes to Q -/
def V (p : Program) (l : Launch) (e : Env) (R : Room) (s : State) (m : MethodId) (args : Array Value) (below : List Frame) (meth : Method) (c : Code) (E : gE) (nL : Nat) (w : va_W) (cells slots : Nat) (Q : State → Prop) (pc : Nat) (lv : List (Nat × Value)) (st : List Value) : Prop :=
  ∀ (H : Heap) (locs : List Loc) (ls : Array Slot), gP E w H → va_S (gA E) s.heap H locs → lv_has ls nL lv → W p l e R s m args below meth c H locs cells slots Q (F0 m pc ls st)
def gC (p : Program) (s : State) (m : MethodId) (args : Array Value) (meth : Method) (c : Code) (E : gE) (cc : ByteArray) (nL : Nat) (Ts : List Cond) (own : String) : Prop := CallFix p m c cc nL s args Ts own ∧ meth.locks = false ∧ gS E s
section VL
variable {p : Program} {l : Launch} {e : Env} {R : Room} {s : State} {m : MethodId} {args : Array Value} {below : List Frame} {meth : Method} {c : Code} {cells slots : Nat} {Q : State → Prop}
variable {cc : ByteArray} {nL : Nat} {E : gE} {w : va_W} {pc : Nat} {lv : List (Nat × Value)} {rest : List Value} {Ts : List Cond} {own : String}
theorem v_iconst (C : gC p s m args meth c E cc nL Ts own) {n : Int} {v : Int32} (hdg : decode cc pc = .ok (.iconst n, 1)) (hv : Int32.ofInt n = v) (k : V p l e R s m args below meth c E nL w cells slots Q (pc + 1) lv (.int v :: rest)) : V p l e R s m args below meth c E nL w cells slots Q pc lv (rest) := fun H locs ls h1 h2 h3 => lv_iconst C.1.1 C.1.2.1 hdg hv (k H locs ls h1 h2 h3)
theorem v_bipush (C : gC p s m args meth c E cc nL Ts own) {n : Int} {v : Int32} (hdg : decode cc pc = .ok (.bipush n, 2)) (hv : (Int8.ofInt n).toInt32 = v) (k : V p l e R s m args below meth c E nL w cells slots Q (pc + 2) lv (.int v :: rest)) : V p l e R s m args below meth c E nL w cells slots Q pc lv (rest) := fun H locs ls h1 h2 h3 => lv_bipush C.1.1 C.1.2.1 hdg hv (k H locs ls h1 h2 h3)
theorem v_sipush (C : gC p s m args meth c E cc nL Ts own) {n : Int} {v : Int32} (hdg : decode cc pc = .ok (.sipush n, 3)) (hv : (Int16.ofInt n).toInt32 = v) (k : V p l e R s m args below meth c E nL w cells slots Q (pc + 3) lv (.int v :: rest)) : V p l e R s m args below meth c E nL w cells slots Q pc lv (rest) := fun H locs ls h1 h2 h3 => lv_sipush C.1.1 C.1.2.1 hdg hv (k H locs ls h1 h2 h3)
theorem v_lconst (C : gC p s m args meth c E cc nL Ts own) {n : Fin 2} {v : Int64} (hdg : decode cc pc = .ok (.lconst n, 1)) (hv : Int64.ofNat (n : Nat) = v) (k : V p l e R s m args below meth c E nL w cells slots Q (pc + 1) lv (.long v :: rest)) : V p l e R s m args below meth c E nL w cells slots Q pc lv (rest) := fun H locs ls h1 h2 h3 => lv_lconst C.1.1 C.1.2.1 hdg hv (k H locs ls h1 h2 h3)
theorem v_iload_n (C : gC p s m args meth c E cc nL Ts own) {k : Fin 4} {i : Nat} {x : Int32} (hdg : decode cc pc = .ok (.iload_n k, 1)) (hi : (k : Nat) = i) (hl : vlk lv i = some (.int x)) (k : V p l e R s m args below meth c E nL w cells slots Q (pc + 1) lv (.int x :: rest)) : V p l e R s m args below meth c E nL w cells slots Q pc lv rest := fun H locs ls h1 h2 h3 => lv_iload_n C.1.1 C.1.2.1 hdg hi (vlk_at h3 hl) (k H locs ls h1 h2 h3)
theorem v_iload (C : gC p s m args meth c E cc nL Ts own) {i : Nat} {x : Int32} (hdg : decode cc pc = .ok (.iload i, 2)) (hl : vlk lv i = some (.int x)) (k : V p l e R s m args below meth c E nL w cells slots Q (pc + 2) lv (.int x :: rest)) : V p l e R s m args below meth c E nL w cells slots Q pc lv rest := fun H locs ls h1 h2 h3 => lv_iload C.1.1 C.1.2.1 hdg (vlk_at h3 hl) (k H locs ls h1 h2 h3)
theorem v_lload_n (C : gC p s m args meth c E cc nL Ts own) {k : Fin 4} {i : Nat} {x : Int64} (hdg : decode cc pc = .ok (.lload_n k, 1)) (hi : (k : Nat) = i) (hl : vlk lv i = some (.long x)) (k : V p l e R s m args below meth c E nL w cells slots Q (pc + 1) lv (.long x :: rest)) : V p l e R s m args below meth c E nL w cells slots Q pc lv rest := fun H locs ls h1 h2 h3 => lv_lload_n C.1.1 C.1.2.1 hdg hi (vlk_at h3 hl) (k H locs ls h1 h2 h3)
theorem v_lload (C : gC p s m args meth c E cc nL Ts own) {i : Nat} {x : Int64} (hdg : decode cc pc = .ok (.lload i, 2)) (hl : vlk lv i = some (.long x)) (k : V p l e R s m args below meth c E nL w cells slots Q (pc + 2) lv (.long x :: rest)) : V p l e R s m args below meth c E nL w cells slots Q pc lv rest := fun H locs ls h1 h2 h3 => lv_lload C.1.1 C.1.2.1 hdg (vlk_at h3 hl) (k H locs ls h1 h2 h3)
theorem v_aload_n (C : gC p s m args meth c E cc nL Ts own) {k : Fin 4} {i : Nat} {x : Nat} (hdg : decode cc pc = .ok (.aload_n k, 1)) (hi : (k : Nat) = i) (hl : vlk lv i = some (.ref x)) (k : V p l e R s m args below meth c E nL w cells slots Q (pc + 1) lv (.ref x :: rest)) : V p l e R s m args below meth c E nL w cells slots Q pc lv rest := fun H locs ls h1 h2 h3 => lv_aload_n C.1.1 C.1.2.1 hdg hi (vlk_at h3 hl) (k H locs ls h1 h2 h3)
theorem v_aload (C : gC p s m args meth c E cc nL Ts own) {i : Nat} {x : Nat} (hdg : decode cc pc = .ok (.aload i, 2)) (hl : vlk lv i = some (.ref x)) (k : V p l e R s m args below meth c E nL w cells slots Q (pc + 2) lv (.ref x :: rest)) : V p l e R s m args below meth c E nL w cells slots Q pc lv rest := fun H locs ls h1 h2 h3 => lv_aload C.1.1 C.1.2.1 hdg (vlk_at h3 hl) (k H locs ls h1 h2 h3)
theorem v_istore_n (C : gC p s m args meth c E cc nL Ts own) {k : Fin 4} {i : Nat} {x : Int32} (hdg : decode cc pc = .ok (.istore_n k, 1)) (hi : (k : Nat) = i) (hn : i < nL) (hok : vok lv i = true) (k : V p l e R s m args below meth c E nL w cells slots Q (pc + 1) (vst lv i (.int x)) rest) : V p l e R s m args below meth c E nL w cells slots Q pc lv (.int x :: rest) := fun H locs ls h1 h2 h3 => lv_istore_n C.1.1 C.1.2.1 hdg hi h3 hn rfl (fun ls9 h9 => k H locs ls9 h1 h2 (vst_has h9 hok))
theorem v_istore (C : gC p s m args meth c E cc nL Ts own) {i : Nat} {x : Int32} (hdg : decode cc pc = .ok (.istore i, 2)) (hn : i < nL) (hok : vok lv i = true) (k : V p l e R s m args below meth c E nL w cells slots Q (pc + 2) (vst lv i (.int x)) rest) : V p l e R s m args below meth c E nL w cells slots Q pc lv (.int x :: rest) := fun H locs ls h1 h2 h3 => lv_istore C.1.1 C.1.2.1 hdg h3 hn rfl (fun ls9 h9 => k H locs ls9 h1 h2 (vst_has h9 hok))
theorem v_lstore_n (C : gC p s m args meth c E cc nL Ts own) {k : Fin 4} {i : Nat} {x : Int64} (hdg : decode cc pc = .ok (.lstore_n k, 1)) (hi : (k : Nat) = i) (hn : i + 1 < nL) (hok : vok lv i = true) (k : V p l e R s m args below meth c E nL w cells slots Q (pc + 1) (vst (vrm lv (i + 1)) i (.long x)) rest) : V p l e R s m args below meth c E nL w cells slots Q pc lv (.long x :: rest) := fun H locs ls h1 h2 h3 => lv_lstore_n C.1.1 C.1.2.1 hdg hi h3 hn rfl (fun ls9 h9 => k H locs ls9 h1 h2 (vst_has2 h9 hok))
theorem v_lstore (C : gC p s m args meth c E cc nL Ts own) {i : Nat} {x : Int64} (hdg : decode cc pc = .ok (.lstore i, 2)) (hn : i + 1 < nL) (hok : vok lv i = true) (k : V p l e R s m args below meth c E nL w cells slots Q (pc + 2) (vst (vrm lv (i + 1)) i (.long x)) rest) : V p l e R s m args below meth c E nL w cells slots Q pc lv (.long x :: rest) := fun H locs ls h1 h2 h3 => lv_lstore C.1.1 C.1.2.1 hdg h3 hn rfl (fun ls9 h9 => k H locs ls9 h1 h2 (vst_has2 h9 hok))
theorem v_astore_n (C : gC p s m args meth c E cc nL Ts own) {k : Fin 4} {i : Nat} {x : Nat} (hdg : decode cc pc = .ok (.astore_n k, 1)) (hi : (k : Nat) = i) (hn : i < nL) (hok : vok lv i = true) (k : V p l e R s m args below meth c E nL w cells slots Q (pc + 1) (vst lv i (.ref x)) rest) : V p l e R s m args below meth c E nL w cells slots Q pc lv (.ref x :: rest) := fun H locs ls h1 h2 h3 => lv_astore_n C.1.1 C.1.2.1 hdg hi h3 hn rfl (fun ls9 h9 => k H locs ls9 h1 h2 (vst_has h9 hok))
theorem v_astore (C : gC p s m args meth c E cc nL Ts own) {i : Nat} {x : Nat} (hdg : decode cc pc = .ok (.astore i, 2)) (hn : i < nL) (hok : vok lv i = true) (k : V p l e R s m args below meth c E nL w cells slots Q (pc + 2) (vst lv i (.ref x)) rest) : V p l e R s m args below meth c E nL w cells slots Q pc lv (.ref x :: rest) := fun H locs ls h1 h2 h3 => lv_astore C.1.1 C.1.2.1 hdg h3 hn rfl (fun ls9 h9 => k H locs ls9 h1 h2 (vst_has h9 hok))
theorem v_iinc (C : gC p s m args meth c E cc nL Ts own) {i : Nat} {n : Int} {x d : Int32} (hdg : decode cc pc = .ok (.iinc i n, 3)) (hd : Int32.ofInt n = d) (hl : vlk lv i = some (.int x)) (hn : i < nL) (hok : vok lv i = true) (k : V p l e R s m args below meth c E nL w cells slots Q (pc + 3) (vst lv i (.int (x + d))) rest) : V p l e R s m args below meth c E nL w cells slots Q pc lv rest := fun H locs ls h1 h2 h3 => by
  obtain ⟨j, hj⟩ := List.getElem?_of_mem (vlk_mem hl)
  exact lv_iinc C.1.1 C.1.2.1 hdg h3 hj (by rw [hd]) hn rfl (fun ls9 h9 => k H locs ls9 h1 h2 (vst_has h9 hok))
theorem v_iadd (C : gC p s m args meth c E cc nL Ts own) {x y : Int32} (hdg : decode cc pc = .ok (.iadd, 1)) (k : V p l e R s m args below meth c E nL w cells slots Q (pc + 1) lv (.int (x + y) :: rest)) : V p l e R s m args below meth c E nL w cells slots Q pc lv (.int y :: .int x :: rest) := fun H locs ls h1 h2 h3 => lv_iadd C.1.1 C.1.2.1 hdg (k H locs ls h1 h2 h3)
theorem v_isub (C : gC p s m args meth c E cc nL Ts own) {x y : Int32} (hdg : decode cc pc = .ok (.isub, 1)) (k : V p l e R s m args below meth c E nL w cells slots Q (pc + 1) lv (.int (x - y) :: rest)) : V p l e R s m args below meth c E nL w cells slots Q pc lv (.int y :: .int x :: rest) := fun H locs ls h1 h2 h3 => lv_isub C.1.1 C.1.2.1 hdg (k H locs ls h1 h2 h3)
theorem v_imul (C : gC p s m args meth c E cc nL Ts own) {x y : Int32} (hdg : decode cc pc = .ok (.imul, 1)) (k : V p l e R s m args below meth c E nL w cells slots Q (pc + 1) lv (.int (x * y) :: rest)) : V p l e R s m args below meth c E nL w cells slots Q pc lv (.int y :: .int x :: rest) := fun H locs ls h1 h2 h3 => lv_imul C.1.1 C.1.2.1 hdg (k H locs ls h1 h2 h3)
theorem v_iand (C : gC p s m args meth c E cc nL Ts own) {x y : Int32} (hdg : decode cc pc = .ok (.iand, 1)) (k : V p l e R s m args below meth c E nL w cells slots Q (pc + 1) lv (.int (x &&& y) :: rest)) : V p l e R s m args below meth c E nL w cells slots Q pc lv (.int y :: .int x :: rest) := fun H locs ls h1 h2 h3 => lv_iand C.1.1 C.1.2.1 hdg (k H locs ls h1 h2 h3)
theorem v_ior (C : gC p s m args meth c E cc nL Ts own) {x y : Int32} (hdg : decode cc pc = .ok (.ior, 1)) (k : V p l e R s m args below meth c E nL w cells slots Q (pc + 1) lv (.int (x ||| y) :: rest)) : V p l e R s m args below meth c E nL w cells slots Q pc lv (.int y :: .int x :: rest) := fun H locs ls h1 h2 h3 => lv_ior C.1.1 C.1.2.1 hdg (k H locs ls h1 h2 h3)
theorem v_ixor (C : gC p s m args meth c E cc nL Ts own) {x y : Int32} (hdg : decode cc pc = .ok (.ixor, 1)) (k : V p l e R s m args below meth c E nL w cells slots Q (pc + 1) lv (.int (x ^^^ y) :: rest)) : V p l e R s m args below meth c E nL w cells slots Q pc lv (.int y :: .int x :: rest) := fun H locs ls h1 h2 h3 => lv_ixor C.1.1 C.1.2.1 hdg (k H locs ls h1 h2 h3)
theorem v_ladd (C : gC p s m args meth c E cc nL Ts own) {x y : Int64} (hdg : decode cc pc = .ok (.ladd, 1)) (k : V p l e R s m args below meth c E nL w cells slots Q (pc + 1) lv (.long (x + y) :: rest)) : V p l e R s m args below meth c E nL w cells slots Q pc lv (.long y :: .long x :: rest) := fun H locs ls h1 h2 h3 => lv_ladd C.1.1 C.1.2.1 hdg (k H locs ls h1 h2 h3)
theorem v_ishl (C : gC p s m args meth c E cc nL Ts own) {x y : Int32} (hdg : decode cc pc = .ok (.ishl, 1)) (k : V p l e R s m args below meth c E nL w cells slots Q (pc + 1) lv (.int (x <<< (y &&& 31)) :: rest)) : V p l e R s m args below meth c E nL w cells slots Q pc lv (.int y :: .int x :: rest) := fun H locs ls h1 h2 h3 => lv_ishl C.1.1 C.1.2.1 hdg (k H locs ls h1 h2 h3)
theorem v_ishr (C : gC p s m args meth c E cc nL Ts own) {x y : Int32} (hdg : decode cc pc = .ok (.ishr, 1)) (k : V p l e R s m args below meth c E nL w cells slots Q (pc + 1) lv (.int (x >>> (y &&& 31)) :: rest)) : V p l e R s m args below meth c E nL w cells slots Q pc lv (.int y :: .int x :: rest) := fun H locs ls h1 h2 h3 => lv_ishr C.1.1 C.1.2.1 hdg (k H locs ls h1 h2 h3)
theorem v_iushr (C : gC p s m args meth c E cc nL Ts own) {x y v : Int32} (hdg : decode cc pc = .ok (.iushr, 1)) (hv : (x.toUInt32 >>> (y.toUInt32 &&& Int32.toUInt32 31)).toInt32 = v) (k : V p l e R s m args below meth c E nL w cells slots Q (pc + 1) lv (.int v :: rest)) : V p l e R s m args below meth c E nL w cells slots Q pc lv (.int y :: .int x :: rest) := fun H locs ls h1 h2 h3 => lv_iushr C.1.1 C.1.2.1 hdg hv (k H locs ls h1 h2 h3)
theorem v_idiv (C : gC p s m args meth c E cc nL Ts own) {x y : Int32} (hdg : decode cc pc = .ok (.idiv, 1)) (hne : ¬ y = 0) (k : V p l e R s m args below meth c E nL w cells slots Q (pc + 1) lv (.int (x / y) :: rest)) : V p l e R s m args below meth c E nL w cells slots Q pc lv (.int y :: .int x :: rest) := fun H locs ls h1 h2 h3 => lv_idiv C.1.1 C.1.2.1 hdg hne (k H locs ls h1 h2 h3)
theorem v_irem (C : gC p s m args meth c E cc nL Ts own) {x y : Int32} (hdg : decode cc pc = .ok (.irem, 1)) (hne : ¬ y = 0) (k : V p l e R s m args below meth c E nL w cells slots Q (pc + 1) lv (.int (x - x / y * y) :: rest)) : V p l e R s m args below meth c E nL w cells slots Q pc lv (.int y :: .int x :: rest) := fun H locs ls h1 h2 h3 => lv_irem C.1.1 C.1.2.1 hdg hne (k H locs ls h1 h2 h3)
theorem v_i2l (C : gC p s m args meth c E cc nL Ts own) {x : Int32} {v : Int64} (hdg : decode cc pc = .ok (.i2l, 1)) (hv : x.toInt64 = v) (k : V p l e R s m args below meth c E nL w cells slots Q (pc + 1) lv (.long v :: rest)) : V p l e R s m args below meth c E nL w cells slots Q pc lv (.int x :: rest) := fun H locs ls h1 h2 h3 => lv_i2l C.1.1 C.1.2.1 hdg hv (k H locs ls h1 h2 h3)
theorem v_l2i (C : gC p s m args meth c E cc nL Ts own) {x : Int64} {v : Int32} (hdg : decode cc pc = .ok (.l2i, 1)) (hv : x.toInt32 = v) (k : V p l e R s m args below meth c E nL w cells slots Q (pc + 1) lv (.int v :: rest)) : V p l e R s m args below meth c E nL w cells slots Q pc lv (.long x :: rest) := fun H locs ls h1 h2 h3 => lv_l2i C.1.1 C.1.2.1 hdg hv (k H locs ls h1 h2 h3)
theorem v_lcmp (C : gC p s m args meth c E cc nL Ts own) {x y : Int64} (hdg : decode cc pc = .ok (.lcmp, 1)) (k : V p l e R s m args below meth c E nL w cells slots Q (pc + 1) lv (.int (lg_cmp x y) :: rest)) : V p l e R s m args below meth c E nL w cells slots Q pc lv (.long y :: .long x :: rest) := fun H locs ls h1 h2 h3 => W.lcmp C.1.1 C.1.2.1 hdg (k H locs ls h1 h2 h3)
theorem v_dup (C : gC p s m args meth c E cc nL Ts own) {va : Value} (hdg : decode cc pc = .ok (.dup, 1)) (hva : va.category = 1) (k : V p l e R s m args below meth c E nL w cells slots Q (pc + 1) lv (va :: va :: rest)) : V p l e R s m args below meth c E nL w cells slots Q pc lv (va :: rest) := fun H locs ls h1 h2 h3 => lv_dup C.1.1 C.1.2.1 hdg hva (k H locs ls h1 h2 h3)
theorem v_pop (C : gC p s m args meth c E cc nL Ts own) {va : Value} (hdg : decode cc pc = .ok (.pop, 1)) (hva : va.category = 1) (k : V p l e R s m args below meth c E nL w cells slots Q (pc + 1) lv (rest)) : V p l e R s m args below meth c E nL w cells slots Q pc lv (va :: rest) := fun H locs ls h1 h2 h3 => lv_pop C.1.1 C.1.2.1 hdg hva (k H locs ls h1 h2 h3)
theorem v_dup_x1 (C : gC p s m args meth c E cc nL Ts own) {va vb : Value} (hdg : decode cc pc = .ok (.dup_x1, 1)) (hva : va.category = 1) (hvb : vb.category = 1) (k : V p l e R s m args below meth c E nL w cells slots Q (pc + 1) lv (va :: vb :: va :: rest)) : V p l e R s m args below meth c E nL w cells slots Q pc lv (va :: vb :: rest) := fun H locs ls h1 h2 h3 => lv_dup_x1 C.1.1 C.1.2.1 hdg hva hvb (k H locs ls h1 h2 h3)
theorem v_dup2_11 (C : gC p s m args meth c E cc nL Ts own) {va vb : Value} (hdg : decode cc pc = .ok (.dup2, 1)) (hva : va.category = 1) (hvb : vb.category = 1) (k : V p l e R s m args below meth c E nL w cells slots Q (pc + 1) lv (va :: vb :: va :: vb :: rest)) : V p l e R s m args below meth c E nL w cells slots Q pc lv (va :: vb :: rest) := fun H locs ls h1 h2 h3 => lv_dup2_11 C.1.1 C.1.2.1 hdg hva hvb (k H locs ls h1 h2 h3)
theorem v_if_eq (C : gC p s m args meth c E cc nL Ts own) {x : Int32} {off : Int} {tgt : Nat} (hdg : decode cc pc = .ok (.ifCond .eq off, 3)) (ht : (pc : Int) + off = (tgt : Int)) (kt : x = 0 → V p l e R s m args below meth c E nL w cells slots Q tgt lv rest) (kf : ¬ x = 0 → V p l e R s m args below meth c E nL w cells slots Q (pc + 3) lv rest) : V p l e R s m args below meth c E nL w cells slots Q pc lv (.int x :: rest) := fun H locs ls h1 h2 h3 => lv_if_eq C.1.1 C.1.2.1 hdg ht (fun q => kt q H locs ls h1 h2 h3) (fun q => kf q H locs ls h1 h2 h3)
theorem v_icmp_eq (C : gC p s m args meth c E cc nL Ts own) {x y : Int32} {off : Int} {tgt : Nat} (hdg : decode cc pc = .ok (.if_icmp .eq off, 3)) (ht : (pc : Int) + off = (tgt : Int)) (kt : x = y → V p l e R s m args below meth c E nL w cells slots Q tgt lv rest) (kf : ¬ x = y → V p l e R s m args below meth c E nL w cells slots Q (pc + 3) lv rest) : V p l e R s m args below meth c E nL w cells slots Q pc lv (.int y :: .int x :: rest) := fun H locs ls h1 h2 h3 => lv_icmp_eq C.1.1 C.1.2.1 hdg ht (fun q => kt q H locs ls h1 h2 h3) (fun q => kf q H locs ls h1 h2 h3)
theorem v_if_ne (C : gC p s m args meth c E cc nL Ts own) {x : Int32} {off : Int} {tgt : Nat} (hdg : decode cc pc = .ok (.ifCond .ne off, 3)) (ht : (pc : Int) + off = (tgt : Int)) (kt : ¬ x = 0 → V p l e R s m args below meth c E nL w cells slots Q tgt lv rest) (kf : x = 0 → V p l e R s m args below meth c E nL w cells slots Q (pc + 3) lv rest) : V p l e R s m args below meth c E nL w cells slots Q pc lv (.int x :: rest) := fun H locs ls h1 h2 h3 => lv_if_ne C.1.1 C.1.2.1 hdg ht (fun q => kt q H locs ls h1 h2 h3) (fun q => kf q H locs ls h1 h2 h3)
theorem v_icmp_ne (C : gC p s m args meth c E cc nL Ts own) {x y : Int32} {off : Int} {tgt : Nat} (hdg : decode cc pc = .ok (.if_icmp .ne off, 3)) (ht : (pc : Int) + off = (tgt : Int)) (kt : ¬ x = y → V p l e R s m args below meth c E nL w cells slots Q tgt lv rest) (kf : x = y → V p l e R s m args below meth c E nL w cells slots Q (pc + 3) lv rest) : V p l e R s m args below meth c E nL w cells slots Q pc lv (.int y :: .int x :: rest) := fun H locs ls h1 h2 h3 => lv_icmp_ne C.1.1 C.1.2.1 hdg ht (fun q => kt q H locs ls h1 h2 h3) (fun q => kf q H locs ls h1 h2 h3)
theorem v_if_lt (C : gC p s m args meth c E cc nL Ts own) {x : Int32} {off : Int} {tgt : Nat} (hdg : decode cc pc = .ok (.ifCond .lt off, 3)) (ht : (pc : Int) + off = (tgt : Int)) (kt : x < 0 → V p l e R s m args below meth c E nL w cells slots Q tgt lv rest) (kf : ¬ x < 0 → V p l e R s m args below meth c E nL w cells slots Q (pc + 3) lv rest) : V p l e R s m args below meth c E nL w cells slots Q pc lv (.int x :: rest) := fun H locs ls h1 h2 h3 => lv_if_lt C.1.1 C.1.2.1 hdg ht (fun q => kt q H locs ls h1 h2 h3) (fun q => kf q H locs ls h1 h2 h3)
theorem v_icmp_lt (C : gC p s m args meth c E cc nL Ts own) {x y : Int32} {off : Int} {tgt : Nat} (hdg : decode cc pc = .ok (.if_icmp .lt off, 3)) (ht : (pc : Int) + off = (tgt : Int)) (kt : x < y → V p l e R s m args below meth c E nL w cells slots Q tgt lv rest) (kf : ¬ x < y → V p l e R s m args below meth c E nL w cells slots Q (pc + 3) lv rest) : V p l e R s m args below meth c E nL w cells slots Q pc lv (.int y :: .int x :: rest) := fun H locs ls h1 h2 h3 => lv_icmp_lt C.1.1 C.1.2.1 hdg ht (fun q => kt q H locs ls h1 h2 h3) (fun q => kf q H locs ls h1 h2 h3)
theorem v_if_ge (C : gC p s m args meth c E cc nL Ts own) {x : Int32} {off : Int} {tgt : Nat} (hdg : decode cc pc = .ok (.ifCond .ge off, 3)) (ht : (pc : Int) + off = (tgt : Int)) (kt : 0 ≤ x → V p l e R s m args below meth c E nL w cells slots Q tgt lv rest) (kf : ¬ 0 ≤ x → V p l e R s m args below meth c E nL w cells slots Q (pc + 3) lv rest) : V p l e R s m args below meth c E nL w cells slots Q pc lv (.int x :: rest) := fun H locs ls h1 h2 h3 => lv_if_ge C.1.1 C.1.2.1 hdg ht (fun q => kt q H locs ls h1 h2 h3) (fun q => kf q H locs ls h1 h2 h3)
theorem v_icmp_ge (C : gC p s m args meth c E cc nL Ts own) {x y : Int32} {off : Int} {tgt : Nat} (hdg : decode cc pc = .ok (.if_icmp .ge off, 3)) (ht : (pc : Int) + off = (tgt : Int)) (kt : y ≤ x → V p l e R s m args below meth c E nL w cells slots Q tgt lv rest) (kf : ¬ y ≤ x → V p l e R s m args below meth c E nL w cells slots Q (pc + 3) lv rest) : V p l e R s m args below meth c E nL w cells slots Q pc lv (.int y :: .int x :: rest) := fun H locs ls h1 h2 h3 => lv_icmp_ge C.1.1 C.1.2.1 hdg ht (fun q => kt q H locs ls h1 h2 h3) (fun q => kf q H locs ls h1 h2 h3)
theorem v_if_gt (C : gC p s m args meth c E cc nL Ts own) {x : Int32} {off : Int} {tgt : Nat} (hdg : decode cc pc = .ok (.ifCond .gt off, 3)) (ht : (pc : Int) + off = (tgt : Int)) (kt : 0 < x → V p l e R s m args below meth c E nL w cells slots Q tgt lv rest) (kf : ¬ 0 < x → V p l e R s m args below meth c E nL w cells slots Q (pc + 3) lv rest) : V p l e R s m args below meth c E nL w cells slots Q pc lv (.int x :: rest) := fun H locs ls h1 h2 h3 => lv_if_gt C.1.1 C.1.2.1 hdg ht (fun q => kt q H locs ls h1 h2 h3) (fun q => kf q H locs ls h1 h2 h3)
theorem v_icmp_gt (C : gC p s m args meth c E cc nL Ts own) {x y : Int32} {off : Int} {tgt : Nat} (hdg : decode cc pc = .ok (.if_icmp .gt off, 3)) (ht : (pc : Int) + off = (tgt : Int)) (kt : y < x → V p l e R s m args below meth c E nL w cells slots Q tgt lv rest) (kf : ¬ y < x → V p l e R s m args below meth c E nL w cells slots Q (pc + 3) lv rest) : V p l e R s m args below meth c E nL w cells slots Q pc lv (.int y :: .int x :: rest) := fun H locs ls h1 h2 h3 => lv_icmp_gt C.1.1 C.1.2.1 hdg ht (fun q => kt q H locs ls h1 h2 h3) (fun q => kf q H locs ls h1 h2 h3)
theorem v_if_le (C : gC p s m args meth c E cc nL Ts own) {x : Int32} {off : Int} {tgt : Nat} (hdg : decode cc pc = .ok (.ifCond .le off, 3)) (ht : (pc : Int) + off = (tgt : Int)) (kt : x ≤ 0 → V p l e R s m args below meth c E nL w cells slots Q tgt lv rest) (kf : ¬ x ≤ 0 → V p l e R s m args below meth c E nL w cells slots Q (pc + 3) lv rest) : V p l e R s m args below meth c E nL w cells slots Q pc lv (.int x :: rest) := fun H locs ls h1 h2 h3 => lv_if_le C.1.1 C.1.2.1 hdg ht (fun q => kt q H locs ls h1 h2 h3) (fun q => kf q H locs ls h1 h2 h3)
theorem v_icmp_le (C : gC p s m args meth c E cc nL Ts own) {x y : Int32} {off : Int} {tgt : Nat} (hdg : decode cc pc = .ok (.if_icmp .le off, 3)) (ht : (pc : Int) + off = (tgt : Int)) (kt : x ≤ y → V p l e R s m args below meth c E nL w cells slots Q tgt lv rest) (kf : ¬ x ≤ y → V p l e R s m args below meth c E nL w cells slots Q (pc + 3) lv rest) : V p l e R s m args below meth c E nL w cells slots Q pc lv (.int y :: .int x :: rest) := fun H locs ls h1 h2 h3 => lv_icmp_le C.1.1 C.1.2.1 hdg ht (fun q => kt q H locs ls h1 h2 h3) (fun q => kf q H locs ls h1 h2 h3)
theorem v_goto (C : gC p s m args meth c E cc nL Ts own) {off : Int} {tgt : Nat} (hdg : decode cc pc = .ok (.goto off, 3)) (ht : (pc : Int) + off = (tgt : Int)) (k : V p l e R s m args below meth c E nL w cells slots Q tgt lv rest) : V p l e R s m args below meth c E nL w cells slots Q pc lv rest := fun H locs ls h1 h2 h3 => lv_goto C.1.1 C.1.2.1 hdg ht (k H locs ls h1 h2 h3)
theorem v_null (C : gC p s m args meth c E cc nL Ts own) (hdg : decode cc pc = .ok (.aconst_null, 1)) (k : V p l e R s m args below meth c E nL w cells slots Q (pc + 1) lv (.null :: rest)) : V p l e R s m args below meth c E nL w cells slots Q pc lv rest := fun H locs ls h1 h2 h3 => lv_null C.1.1 C.1.2.1 hdg (k H locs ls h1 h2 h3)
theorem v_tableOut (C : gC p s m args meth c E cc nL Ts own) {dflt lo hi : Int} {offs : Array Int} {len : Nat} {x : Int32} {tgt : Nat} (hdg : decode cc pc = .ok (.tableswitch dflt lo hi offs, len)) (h : x.toInt < lo ∨ hi < x.toInt) (ht : (pc : Int) + dflt = (tgt : Int)) (k : V p l e R s m args below meth c E nL w cells slots Q tgt lv rest) : V p l e R s m args below meth c E nL w cells slots Q pc lv (.int x :: rest) := fun H locs ls h1 h2 h3 => lv_tableOut C.1.1 C.1.2.1 hdg h ht (k H locs ls h1 h2 h3)
theorem v_tableIn (C : gC p s m args meth c E cc nL Ts own) {dflt lo hi : Int} {offs : Array Int} {len : Nat} {x : Int32} {off : Int} {tgt : Nat} (hdg : decode cc pc = .ok (.tableswitch dflt lo hi offs, len)) (g1 : ¬ x.toInt < lo) (g2 : ¬ hi < x.toInt) (ho : offs[(x.toInt - lo).toNat]? = some off) (ht : (pc : Int) + off = (tgt : Int)) (k : V p l e R s m args below meth c E nL w cells slots Q tgt lv rest) : V p l e R s m args below meth c E nL w cells slots Q pc lv (.int x :: rest) := fun H locs ls h1 h2 h3 => lv_tableIn C.1.1 C.1.2.1 hdg g1 g2 ho ht (k H locs ls h1 h2 h3)
theorem v_ldc (C : gC p s m args meth c E cc nL Ts own) {index : Nat} {v : Int32} (hconst : Jvm.Cond.constant own index v ∈ Ts) (hdg : decode cc pc = .ok (.ldc index, 2)) (k : V p l e R s m args below meth c E nL w cells slots Q (pc + 2) lv (.int v :: rest)) : V p l e R s m args below meth c E nL w cells slots Q pc lv rest := fun H locs ls h1 h2 h3 => lv_ldc C.1.1 C.1.2.1 C.1.2.2.2.1 (C.1.2.2.2.2 _ hconst) hdg (k H locs ls h1 h2 h3)
theorem v_ldcw (C : gC p s m args meth c E cc nL Ts own) {index : Nat} {v : Int32} (hconst : Jvm.Cond.constant own index v ∈ Ts) (hdg : decode cc pc = .ok (.ldc_w index, 3)) (k : V p l e R s m args below meth c E nL w cells slots Q (pc + 3) lv (.int v :: rest)) : V p l e R s m args below meth c E nL w cells slots Q pc lv rest := fun H locs ls h1 h2 h3 => lv_ldcw C.1.1 C.1.2.1 C.1.2.2.2.1 (C.1.2.2.2.2 _ hconst) hdg (k H locs ls h1 h2 h3)
theorem v_ldc2 (C : gC p s m args meth c E cc nL Ts own) {index : Nat} {v : Int64} (hconst : Jvm.Cond.constantLong own index v ∈ Ts) (hdg : decode cc pc = .ok (.ldc2_w index, 3)) (k : V p l e R s m args below meth c E nL w cells slots Q (pc + 3) lv (.long v :: rest)) : V p l e R s m args below meth c E nL w cells slots Q pc lv rest := fun H locs ls h1 h2 h3 => lv_ldc2 C.1.1 C.1.2.1 C.1.2.2.2.1 (C.1.2.2.2.2 _ hconst) hdg (k H locs ls h1 h2 h3)
theorem v_topi {x : Int32} (k : ∀ y : Int32, y = x → V p l e R s m args below meth c E nL w cells slots Q pc lv (.int y :: rest)) : V p l e R s m args below meth c E nL w cells slots Q pc lv (.int x :: rest) := k x rfl
theorem v_topl {x : Int64} (k : ∀ y : Int64, y = x → V p l e R s m args below meth c E nL w cells slots Q pc lv (.long y :: rest)) : V p l e R s m args below meth c E nL w cells slots Q pc lv (.long x :: rest) := k x rfl
theorem v_tov {x y : Int32} (h : x = y) (k : V p l e R s m args below meth c E nL w cells slots Q pc lv (.int y :: rest)) : V p l e R s m args below meth c E nL w cells slots Q pc lv (.int x :: rest) := h ▸ k
theorem v_tovl {x y : Int64} (h : x = y) (k : V p l e R s m args below meth c E nL w cells slots Q pc lv (.long y :: rest)) : V p l e R s m args below meth c E nL w cells slots Q pc lv (.long x :: rest) := h ▸ k
theorem v_lv {lv9 : List (Nat × Value)} {st : List Value} (h : ∀ q ∈ lv9, q ∈ lv) (k : V p l e R s m args below meth c E nL w cells slots Q pc lv9 st) : V p l e R s m args below meth c E nL w cells slots Q pc lv st := fun H locs ls h1 h2 h3 => k H locs ls h1 h2 ⟨h3.1, h3.2.1, fun q hq => h3.2.2 q (h q hq)⟩
theorem v_eqlv {lv9 : List (Nat × Value)} {st : List Value} (h : lv = lv9) (k : V p l e R s m args below meth c E nL w cells slots Q pc lv9 st) : V p l e R s m args below meth c E nL w cells slots Q pc lv st := h ▸ k
theorem v_at {pc9 : Nat} {st : List Value} (h : pc = pc9) (k : V p l e R s m args below meth c E nL w cells slots Q pc9 lv st) : V p l e R s m args below meth c E nL w cells slots Q pc lv st := h ▸ k
theorem v_widen {st : List Value} {kc ks : Nat} (hc : cells ≤ kc) (hs : slots ≤ ks) (k : V p l e R s m args below meth c E nL w kc ks Q pc lv st) : V p l e R s m args below meth c E nL w cells slots Q pc lv st := fun H locs ls h1 h2 h3 => W.widen hc hs (k H locs ls h1 h2 h3)
theorem v_get (C : gC p s m args meth c E cc nL Ts own) {ref Cn : String} {T : u_T} {N ci index a : Nat} {fs : List Value} {v : Value} (hin : ∀ x ∈ u_ws Cn T N, x ∈ Ts) (q0 : Nat) (he : w[q0]? = some (a, .inr (ci, fs))) (hc : vwCl[ci]? = some (Cn, T, N)) (k : Nat) (hk : k < N) (hlink : Cond.fieldLink own index ref (T k).2.1 (T k).2.2.1 ∈ Ts) (hsame : (T k).1 = ref) (hv : fs[k]? = some v) (hdg : decode cc pc = .ok (.getfield index, 3)) (kk : V p l e R s m args below meth c E nL w cells slots Q (pc + 3) lv (v :: rest)) : V p l e R s m args below meth c E nL w cells slots Q pc lv (.ref a :: rest) := fun H locs ls h1 h2 h3 => va_get C.1.1 C.1.2.1 C.1.2.2.2.2 hin C.1.2.2.2.1 C.2.2.1.1 h1.1 q0 he hc k hk (C.1.2.2.2.2 _ hlink) (fun x hx => by rw [← hsame]; exact hx) hv hdg (kk H locs ls h1 h2 h3)
theorem v_getI (C : gC p s m args meth c E cc nL Ts own) {ref Cn : String} {T : u_T} {N ci index a : Nat} {fs : List Value} {v : Value} (hin : ∀ x ∈ u_ws Cn T N, x ∈ Ts) (q0 : Nat) (he : w[q0]? = some (a, .inr (ci, fs))) (hc : vwCl[ci]? = some (Cn, T, N)) (k : Nat) (hk : k < N) (hlink : Cond.fieldLink own index ref (T k).2.1 (T k).2.2.1 ∈ Ts) (hsame : Cond.sameField ref (T k).1 (T k).2.1 (T k).2.2.1 ∈ Ts) (hv : fs[k]? = some v) (hdg : decode cc pc = .ok (.getfield index, 3)) (kk : V p l e R s m args below meth c E nL w cells slots Q (pc + 3) lv (v :: rest)) : V p l e R s m args below meth c E nL w cells slots Q pc lv (.ref a :: rest) := fun H locs ls h1 h2 h3 => va_get C.1.1 C.1.2.1 C.1.2.2.2.2 hin C.1.2.2.2.1 C.2.2.1.1 h1.1 q0 he hc k hk (C.1.2.2.2.2 _ hlink) (u_same (C.1.2.2.2.2 _ hsame)) hv hdg (kk H locs ls h1 h2 h3)
theorem v_getN (C : gC p s m args meth c E cc nL Ts own) {Cn : String} {T : u_T} {N ci index a : Nat} {fs : List Value} {v : Value} (hin : ∀ x ∈ u_ws Cn T N, x ∈ Ts) (hown : own = "SeriesMarks") (q0 : Nat) (he : w[q0]? = some (a, .inr (ci, fs))) (hc : vwCl[ci]? = some (Cn, T, N)) (k : Nat) (hk : k < N) (hlink : (index, (T k).1, (T k).2.1, (T k).2.2.1) ∈ gNf) (hv : fs[k]? = some v) (hdg : decode cc pc = .ok (.getfield index, 3)) (kk : V p l e R s m args below meth c E nL w cells slots Q (pc + 3) lv (v :: rest)) : V p l e R s m args below meth c E nL w cells slots Q pc lv (.ref a :: rest) := fun H locs ls h1 h2 h3 => va_getN (host := "SeriesMarks") C.1.1 C.1.2.1 C.1.2.2.2.2 hin C.1.2.2.2.1 C.2.2.1.1 h1.1 q0 he hc k hk (va_Nw.use rfl (by rw [hown]; exact C.2.2.1.2.2.1 _ hlink)) (fun x hx => hx) hv hdg (kk H locs ls h1 h2 h3)
theorem v_put (C : gC p s m args meth c E cc nL Ts own) {ref Cn : String} {T : u_T} {N ci index a : Nat} {fs : List Value} {v : Value} {ty : FieldType} (hin : ∀ x ∈ u_ws Cn T N, x ∈ Ts) (ty0 : Nat → FieldType) (hty : ∀ k, k < N → parseFieldDescriptor (T k).2.2.1 = some (ty0 k)) (hnm : ∀ a, a < N → ∀ b, b < N → a ≠ b → (T a).2.1 ≠ (T b).2.1) (q0 : Nat) (he : w[q0]? = some (a, .inr (ci, fs))) (hc : vwCl[ci]? = some (Cn, T, N)) (k : Nat) (hk : k < N) (hlink : Cond.fieldLink own index ref (T k).2.1 (T k).2.2.1 ∈ Ts) (hsame : (T k).1 = ref) (hfin : (T k).2.2.2 = false) (hd : parseFieldDescriptor (T k).2.2.1 = some ty) (hn : narrow ty v = v) (hfit : fits ty v = true) (hl : k < fs.length) (hdg : decode cc pc = .ok (.putfield index, 3)) (kk : V p l e R s m args below meth c E nL (w.set q0 (a, .inr (ci, fs.set k v))) cells slots Q (pc + 3) lv rest) : V p l e R s m args below meth c E nL w cells slots Q pc lv (v :: .ref a :: rest) := fun H locs ls h1 h2 h3 => va_put C.1.1 C.1.2.1 C.1.2.2.2.2 hin ty0 hty hnm C.1.2.2.2.1 C.2.2.1.1 h1.1 h1.2 h2 q0 he hc k hk (C.1.2.2.2.2 _ hlink) (fun x hx => by rw [← hsame]; exact hx) hfin hd hn hfit hl hdg (fun H1 locs1 g1 g2 g3 => kk H1 locs1 ls ⟨g1, g2⟩ g3 h3)
theorem v_putI (C : gC p s m args meth c E cc nL Ts own) {ref Cn : String} {T : u_T} {N ci index a : Nat} {fs : List Value} {v : Value} {ty : FieldType} (hin : ∀ x ∈ u_ws Cn T N, x ∈ Ts) (ty0 : Nat → FieldType) (hty : ∀ k, k < N → parseFieldDescriptor (T k).2.2.1 = some (ty0 k)) (hnm : ∀ a, a < N → ∀ b, b < N → a ≠ b → (T a).2.1 ≠ (T b).2.1) (q0 : Nat) (he : w[q0]? = some (a, .inr (ci, fs))) (hc : vwCl[ci]? = some (Cn, T, N)) (k : Nat) (hk : k < N) (hlink : Cond.fieldLink own index ref (T k).2.1 (T k).2.2.1 ∈ Ts) (hsame : Cond.sameField ref (T k).1 (T k).2.1 (T k).2.2.1 ∈ Ts) (hfin : (T k).2.2.2 = false) (hd : parseFieldDescriptor (T k).2.2.1 = some ty) (hn : narrow ty v = v) (hfit : fits ty v = true) (hl : k < fs.length) (hdg : decode cc pc = .ok (.putfield index, 3)) (kk : V p l e R s m args below meth c E nL (w.set q0 (a, .inr (ci, fs.set k v))) cells slots Q (pc + 3) lv rest) : V p l e R s m args below meth c E nL w cells slots Q pc lv (v :: .ref a :: rest) := fun H locs ls h1 h2 h3 => va_put C.1.1 C.1.2.1 C.1.2.2.2.2 hin ty0 hty hnm C.1.2.2.2.1 C.2.2.1.1 h1.1 h1.2 h2 q0 he hc k hk (C.1.2.2.2.2 _ hlink) (u_same (C.1.2.2.2.2 _ hsame)) hfin hd hn hfit hl hdg (fun H1 locs1 g1 g2 g3 => kk H1 locs1 ls ⟨g1, g2⟩ g3 h3)
theorem v_putF (C : gC p s m args meth c E cc nL Ts own) {ref Cn : String} {T : u_T} {N ci index a : Nat} {fs : List Value} {v : Value} {ty : FieldType} (hin : ∀ x ∈ u_ws Cn T N, x ∈ Ts) (ty0 : Nat → FieldType) (hty : ∀ k, k < N → parseFieldDescriptor (T k).2.2.1 = some (ty0 k)) (hnm : ∀ a, a < N → ∀ b, b < N → a ≠ b → (T a).2.1 ≠ (T b).2.1) (q0 : Nat) (he : w[q0]? = some (a, .inr (ci, fs))) (hc : vwCl[ci]? = some (Cn, T, N)) (k : Nat) (hk : k < N) (hlink : Cond.fieldLink own index ref (T k).2.1 (T k).2.2.1 ∈ Ts) (hsame : (T k).1 = ref) (hfin : (T k).2.2.2 = true) (hin2 : meth.name = "<init>") (hdecl : (T k).1 = own) (hd : parseFieldDescriptor (T k).2.2.1 = some ty) (hn : narrow ty v = v) (hfit : fits ty v = true) (hl : k < fs.length) (hdg : decode cc pc = .ok (.putfield index, 3)) (kk : V p l e R s m args below meth c E nL (w.set q0 (a, .inr (ci, fs.set k v))) cells slots Q (pc + 3) lv rest) : V p l e R s m args below meth c E nL w cells slots Q pc lv (v :: .ref a :: rest) := fun H locs ls h1 h2 h3 => va_putF C.1.1 C.1.2.1 C.1.2.2.2.2 hin ty0 hty hnm C.1.2.2.2.1 C.2.2.1.1 h1.1 h1.2 h2 q0 he hc k hk (C.1.2.2.2.2 _ hlink) (fun x hx => by rw [← hsame]; exact hx) hfin hin2 hdecl hd hn hfit hl hdg (fun H1 locs1 g1 g2 g3 => kk H1 locs1 ls ⟨g1, g2⟩ g3 h3)
theorem v_iald (C : gC p s m args meth c E cc nL Ts own) (q0 : Nat) {a n : Nat} {f : Nat → Int32} {i : Int32} (ha : w[q0]? = some (a, .inl (gI E, n, .inl f))) (hin : vp_in i n) (hdg : decode cc pc = .ok (.iaload, 1)) (kk : V p l e R s m args below meth c E nL w cells slots Q (pc + 1) lv (.int (f i.toNatClampNeg) :: rest)) : V p l e R s m args below meth c E nL w cells slots Q pc lv (.int i :: .ref a :: rest) := fun H locs ls h1 h2 h3 => va_iald C.1.1 C.1.2.1 C.2.2.1.1 h1.1 q0 0 ha rfl hin hdg (kk H locs ls h1 h2 h3)
theorem v_zald (C : gC p s m args meth c E cc nL Ts own) (q0 : Nat) {a n : Nat} {f : Nat → Int32} {i : Int32} (ha : w[q0]? = some (a, .inl (gZ E, n, .inl f))) (hin : vp_in i n) (hdg : decode cc pc = .ok (.baload, 1)) (kk : V p l e R s m args below meth c E nL w cells slots Q (pc + 1) lv (.int (f i.toNatClampNeg) :: rest)) : V p l e R s m args below meth c E nL w cells slots Q pc lv (.int i :: .ref a :: rest) := fun H locs ls h1 h2 h3 => va_zald C.1.1 C.1.2.1 C.2.2.1.1 h1.1 q0 1 ha rfl hin hdg (kk H locs ls h1 h2 h3)
theorem v_aald (C : gC p s m args meth c E cc nL Ts own) (q0 : Nat) {a n : Nat} {f : Nat → Option Nat} {i : Int32} (ha : w[q0]? = some (a, .inl (gO E, n, .inr (.inr (.inr (.inr f)))))) (hin : vp_in i n) (hdg : decode cc pc = .ok (.aaload, 1)) (kk : V p l e R s m args below meth c E nL w cells slots Q (pc + 1) lv (va_rf (f i.toNatClampNeg) :: rest)) : V p l e R s m args below meth c E nL w cells slots Q pc lv (.int i :: .ref a :: rest) := fun H locs ls h1 h2 h3 => va_aldq C.1.1 C.1.2.1 C.2.2.1.1 h1.1 q0 2 ha rfl hin hdg (kk H locs ls h1 h2 h3)
theorem v_iast (C : gC p s m args meth c E cc nL Ts own) (q0 : Nat) {a n : Nat} {f : Nat → Int32} {i x : Int32} (ha : w[q0]? = some (a, .inl (gI E, n, .inl f))) (hin : vp_in i n) (hdg : decode cc pc = .ok (.iastore, 1)) (kk : V p l e R s m args below meth c E nL (w.set q0 (a, .inl (gI E, n, .inl (upd f i.toNatClampNeg x)))) cells slots Q (pc + 1) lv rest) : V p l e R s m args below meth c E nL w cells slots Q pc lv (.int x :: .int i :: .ref a :: rest) := fun H locs ls h1 h2 h3 => va_iast C.1.1 C.1.2.1 C.2.2.1.1 h1.1 h1.2 h2 q0 0 ha rfl hin hdg (fun H1 locs1 g1 g2 g3 => kk H1 locs1 ls ⟨g1, g2⟩ g3 h3)
theorem v_zast (C : gC p s m args meth c E cc nL Ts own) (q0 : Nat) {a n : Nat} {f : Nat → Int32} {i x : Int32} (ha : w[q0]? = some (a, .inl (gZ E, n, .inl f))) (hin : vp_in i n) (hdg : decode cc pc = .ok (.bastore, 1)) (kk : V p l e R s m args below meth c E nL (w.set q0 (a, .inl (gZ E, n, .inl (upd f i.toNatClampNeg (vp_nar .boolean x))))) cells slots Q (pc + 1) lv rest) : V p l e R s m args below meth c E nL w cells slots Q pc lv (.int x :: .int i :: .ref a :: rest) := fun H locs ls h1 h2 h3 => va_zast C.1.1 C.1.2.1 C.2.2.1.1 h1.1 h1.2 h2 q0 1 ha rfl hin hdg (fun H1 locs1 g1 g2 g3 => kk H1 locs1 ls ⟨g1, g2⟩ g3 h3)
theorem v_alen (C : gC p s m args meth c E cc nL Ts own) (q0 t0 : Nat) {a : Nat} {cA : ClassId} {x : vp_A} {ty : FieldType} {v : Int32} (ha : w[q0]? = some (a, .inl (cA, x))) (ht : (gTy E)[t0]? = some (cA, ty)) (hv : Int32.ofNat x.1 = v) (hdg : decode cc pc = .ok (.arraylength, 1)) (kk : V p l e R s m args below meth c E nL w cells slots Q (pc + 1) lv (.int v :: rest)) : V p l e R s m args below meth c E nL w cells slots Q pc lv (.ref a :: rest) := fun H locs ls h1 h2 h3 => va_alen C.1.1 C.1.2.1 C.2.2.1.1 h1.1 q0 t0 ha ht hv hdg (kk H locs ls h1 h2 h3)
theorem gS.all {E : gE} {s : State} (h : gS E s) : ∀ q, s.heap.size ≤ q → gA E q := fun q hq => Nat.le_trans h.1.2.1 hq
theorem v_new (C : gC p s m args meth c E cc nL Ts own) {Cn : String} {T : u_T} {N index : Nat} (ci : Nat) (fs : List Value) (hin : ∀ x ∈ u_ws Cn T N, x ∈ Ts) (ty : Nat → FieldType) (hty : ∀ k, k < N → parseFieldDescriptor (T k).2.2.1 = some (ty k)) (hcl : Cond.classLink own index Cn ∈ Ts) (hinst : Cond.instantiable Cn N ∈ Ts) (hini : Cond.initialized Cn ∈ Ts) (hc : vwCl[ci]? = some (Cn, T, N)) (hfs : ∀ j, j < N → defaultValue (ty j) = vp_V fs j) (hcells : cells + 1 ≤ R.cells) (hslots : slots + N ≤ R.slots) (hdg : decode cc pc = .ok (.new index, 3)) (kk : ∀ q : Nat, V p l e R s m args below meth c E nL (w ++ [(q, .inr (ci, fs))]) (cells + 1) (slots + N) Q (pc + 3) lv (.ref q :: rest)) : V p l e R s m args below meth c E nL w cells slots Q pc lv rest := fun H locs ls h1 h2 h3 => va_new C.1.1 C.1.2.1 C.1.2.2.2.2 hin ty hty C.1.2.2.2.1 (C.1.2.2.2.2 _ hcl) (C.1.2.2.2.2 _ hinst) (C.1.2.2.2.2 _ hini) C.2.2.1.1 h1.1 h1.2 h2 C.2.2.all hc hfs hcells hslots hdg (fun q H1 g1 g2 g3 => kk q H1 locs ls ⟨g1, g2⟩ g3 h3)
theorem v_newi (C : gC p s m args meth c E cc nL Ts own) {n : Int32} (N : Nat) (harr : Cond.arrayClass .int ∈ Ts) (hn : ¬ n < 0) (hN : n.toNatClampNeg = N) (hb : N * 4 ≤ 536870912) (hcells : cells + 1 ≤ R.cells) (hslots : slots + N ≤ R.slots) (hdg : decode cc pc = .ok (.newarray .int, 2)) (kk : ∀ q : Nat, V p l e R s m args below meth c E nL (w ++ [(q, .inl (gI E, N, .inl (fun _ => 0)))]) (cells + 1) (slots + N) Q (pc + 2) lv (.ref q :: rest)) : V p l e R s m args below meth c E nL w cells slots Q pc lv (.int n :: rest) := fun H locs ls h1 h2 h3 => va_newa (atype := .int) C.1.1 C.1.2.1 (C.1.2.2.2.2 _ harr) (ty := .int) rfl C.2.2.1.1 h1.1 h1.2 h2 C.2.2.all (a0 := (N, .inl (fun _ => 0))) (fun cA => rfl) hn hN hb hcells hslots hdg (fun q cA H1 g0 g1 g2 g3 => by
  have e1 := (g0.2 3 _ rfl).2
  have e2 := (g0.2 0 _ rfl).2
  have e : cA = gI E := Option.some.inj (e1.symm.trans e2)
  subst e
  exact kk q H1 locs ls ⟨g1, g2⟩ g3 h3)
theorem v_newz (C : gC p s m args meth c E cc nL Ts own) {n : Int32} (N : Nat) (harr : Cond.arrayClass .boolean ∈ Ts) (hn : ¬ n < 0) (hN : n.toNatClampNeg = N) (hb : N * 1 ≤ 536870912) (hcells : cells + 1 ≤ R.cells) (hslots : slots + N ≤ R.slots) (hdg : decode cc pc = .ok (.newarray .boolean, 2)) (kk : ∀ q : Nat, V p l e R s m args below meth c E nL (w ++ [(q, .inl (gZ E, N, .inl (fun _ => 0)))]) (cells + 1) (slots + N) Q (pc + 2) lv (.ref q :: rest)) : V p l e R s m args below meth c E nL w cells slots Q pc lv (.int n :: rest) := fun H locs ls h1 h2 h3 => va_newa (atype := .boolean) C.1.1 C.1.2.1 (C.1.2.2.2.2 _ harr) (ty := .boolean) rfl C.2.2.1.1 h1.1 h1.2 h2 C.2.2.all (a0 := (N, .inl (fun _ => 0))) (fun cA => rfl) hn hN hb hcells hslots hdg (fun q cA H1 g0 g1 g2 g3 => by
  have e1 := (g0.2 3 _ rfl).2
  have e2 := (g0.2 1 _ rfl).2
  have e : cA = gZ E := Option.some.inj (e1.symm.trans e2)
  subst e
  exact kk q H1 locs ls ⟨g1, g2⟩ g3 h3)
theorem v_objInit (C : gC p s m args meth c E cc nL Ts own) {idx a : Nat} (hlink : Cond.methodLink own idx objectInit ∈ Ts) (hinst : Cond.instanceMethod objectInit ∈ Ts) (hcode : Cond.code objectInit ⟨#[0xb1]⟩ 1 none ∈ Ts) (hd : decode cc pc = .ok (.invokespecial idx, 3)) (hframes : 1 ≤ R.frames) (hlocals : (rest.map fun v => v.category).sum + 12 ≤ R.locals) (kk : V p l e R s m args below meth c E nL w cells slots Q (pc + 3) lv rest) : V p l e R s m args below meth c E nL w cells slots Q pc lv (.ref a :: rest) := fun H locs ls h1 h2 h3 => W.objInit C.1.1 C.1.2.1 C.1.2.2.2.1 (C.1.2.2.2.2 _ hlink) (C.1.2.2.2.2 _ hinst) (C.1.2.2.2.2 _ hcode) rfl (by rw [C.1.2.2.1]; exact h3.1) rfl hd hframes (by show 2 * 0 + _ + _ ≤ _; omega) (kk H locs ls h1 h2 h3)
theorem v_iret (C : gC p s m args meth c E cc nL Ts own) {post : Option Value → va_W → Prop} {mc ms : Nat} {v : Int32} (hr : meth.sig.returnType = some .int) (hdg : decode cc pc = .ok (.ireturn, 1)) (hc : cells ≤ mc) (hs : slots ≤ ms) (hp : post (some (.int v)) w) : V p l e R s m args below meth c E nL w cells slots (MQ below (gQ E post) args s mc ms (gA E)) pc lv [.int v] := fun H locs ls h1 h2 h3 => W.widen hc hs (W.iret C.1.1 C.1.2.1 hr (fun t ht hW => ⟨⟨_, w, rfl, hp, by rw [ht]; exact h1⟩, h2.F ht⟩) h2.2.2 hdg (hlocks := C.2.1))
theorem v_zret (C : gC p s m args meth c E cc nL Ts own) {post : Option Value → va_W → Prop} {mc ms : Nat} {v : Int32} (hr : meth.sig.returnType = some .boolean) (hdg : decode cc pc = .ok (.ireturn, 1)) (hv : v = 0 ∨ v = 1) (hc : cells ≤ mc) (hs : slots ≤ ms) (hp : post (some (.int v)) w) : V p l e R s m args below meth c E nL w cells slots (MQ below (gQ E post) args s mc ms (gA E)) pc lv [.int v] := fun H locs ls h1 h2 h3 => W.widen hc hs (W.zret C.1.1 C.1.2.1 hr (by rcases hv with rfl | rfl <;> rfl) (fun t ht hW => ⟨⟨_, w, rfl, hp, by rw [ht]; exact h1⟩, h2.F ht⟩) h2.2.2 hdg (hlocks := C.2.1))
theorem v_lret (C : gC p s m args meth c E cc nL Ts own) {post : Option Value → va_W → Prop} {mc ms : Nat} {v : Int64} (hr : meth.sig.returnType = some .long) (hdg : decode cc pc = .ok (.lreturn, 1)) (hc : cells ≤ mc) (hs : slots ≤ ms) (hp : post (some (.long v)) w) : V p l e R s m args below meth c E nL w cells slots (MQ below (gQ E post) args s mc ms (gA E)) pc lv [.long v] := fun H locs ls h1 h2 h3 => W.widen hc hs (W.lret C.1.1 C.1.2.1 hr (fun t ht hW => ⟨⟨_, w, rfl, hp, by rw [ht]; exact h1⟩, h2.F ht⟩) h2.2.2 hdg (hlocks := C.2.1))
theorem v_vret (C : gC p s m args meth c E cc nL Ts own) {post : Option Value → va_W → Prop} {mc ms : Nat} (hr : meth.sig.returnType = none) (hdg : decode cc pc = .ok (.return_, 1)) (hc : cells ≤ mc) (hs : slots ≤ ms) (hp : post none w) : V p l e R s m args below meth c E nL w cells slots (MQ below (gQ E post) args s mc ms (gA E)) pc lv [] := fun H locs ls h1 h2 h3 => W.widen hc hs (W.vret C.1.1 C.1.2.1 hr (fun t ht hW => ⟨⟨_, w, rfl, hp, by rw [ht]; exact h1⟩, h2.F ht⟩) h2.2.2 hdg (hlocks := C.2.1))
theorem v_aret (C : gC p s m args meth c E cc nL Ts own) {post : Option Value → va_W → Prop} {mc ms : Nat} {v : Value} {rt : FieldType} (hr : meth.sig.returnType = some rt) (hrt : (∃ n, rt = .object n) ∨ ∃ t, rt = .array t) (hv : v = .null ∨ ∃ a, v = .ref a) (hdg : decode cc pc = .ok (.areturn, 1)) (hc : cells ≤ mc) (hs : slots ≤ ms) (hp : post (some v) w) : V p l e R s m args below meth c E nL w cells slots (MQ below (gQ E post) args s mc ms (gA E)) pc lv [v] := fun H locs ls h1 h2 h3 => W.widen hc hs (W.aret C.1.1 C.1.2.1 hr hrt hv (fun t ht hW => ⟨⟨_, w, rfl, hp, by rw [ht]; exact h1⟩, h2.F ht⟩) h2.2.2 hdg (hlocks := C.2.1))
/-- a method's contract out of its walk -/
theorem Ct.of {y : MethodName} {ws0 ws1 : List Cond} {rm : Room} {ret : Option FieldType} {av : List Value} {post : Option Value → va_W → Prop} {mc ms : Nat} (hy : plainName y.cls = true) (hw : ws0 = Cond.code y cc nL ret :: ws1) (hlen : (lg_sl av).length ≤ nL)
    (body : ∀ (p : Program) (e : Env) (s : State) (m : MethodId) (args : Array Value) (below : List Frame) (meth : Method) (c : Code), gC p s m args meth c E cc nL ws0 y.cls → meth.sig.returnType = ret → meth.name = y.name → V p l e rm s m args below meth c E nL w 0 0 (MQ below (gQ E post) args s mc ms (gA E)) 0 (lv_args 0 av) []) : Ct l y ws0 rm E av w post mc ms := by
  refine Met.ofW (cc := cc) (maxL := nL) (ret := ret) hy hw ?_
  intro p e s m args below meth c s₁ B hml hv
  obtain ⟨rfl, h1, h2⟩ := hv
  have hts := atoms_spec (ws := ws0) B.pre
  have hown : s.vm.findClass y.cls = some m.cls := findClass_of_methodNamed B.named
  have hl := lv_entry av (n := nL) hlen
  rw [lg_entry_eq]
  exact body p e s m _ below meth c ⟨⟨B.exec, B.bytes, hml, hown, hts⟩, B.notSynchronized, h2⟩ B.returns (name_of_methodNamed B.named B.method).1 s.heap [] _ h1 va_S.rf hl
theorem g_after {H : Heap} {locs : List Loc} {ls : Array Slot} {st0 : List Value} {aa : Array Value} {mc ms : Nat} {post : Option Value → va_W → Prop} (hr : va_Run p l e R s m args below meth c H locs cells slots mc ms (F0 m pc ls st0) rest (gQ E post aa) (gA E)) (hS : va_S (gA E) s.heap H locs)
    (kk : ∀ (v : Option Value) (w1 : va_W) (H1 : Heap) (locs1 : List Loc), post v w1 → gP E w1 H1 → va_S (gA E) s.heap H1 locs1 → W p l e R s m args below meth c H1 locs1 (cells + mc) (slots + ms) Q (F0 m (pc + 3) ls (v.toList ++ rest))) : W p l e R s m args below meth c H locs cells slots Q (F0 m pc ls st0) := by
  intro T hT X
  obtain ⟨v, st₀, t, T', L, h0, X', hL, e1, e2, ⟨⟨v2, w1, hv, hp, hb⟩, hz, hk⟩, st⟩ := hr T hT X
  cases hv
  rw [h0] at hz hk
  obtain ⟨t2, a1, b1⟩ := kk v w1 T'.heap (locs ++ L) hp (by rw [e1]; exact hb)
    ⟨Nat.le_trans hS.1 (by rw [e1]; exact hz), fun q h1 h2 => by rw [e1, hk q (Nat.lt_of_lt_of_le h1 hS.1) h2]; exact hS.2.1 q h1 h2, fun q hq => by
      rcases List.mem_append.mp hq with h | h
      · exact hS.2.2 q h
      · exact hL q h⟩ T' rfl X'
  exact ⟨t2, st t2 a1, b1⟩
theorem Ct.blind {av : List Value} : FrameBlind (va_Pc av (fun U => gP E w U.heap ∧ gS E U)) := fun a U g mk h => ⟨h.1, h.2.1, h.2.2.calling g mk a⟩
theorem v_callV (C : gC p s m args meth c E cc nL Ts own) {y : MethodName} {ws1 : List Cond} {rm1 : Room} {bytes : ByteArray} {maxL mc ms n index : Nat} {ret : Option FieldType} {b : Nat} {Cn : String} {As : List Value} {post : Option Value → va_W → Prop} {st : List Value} (hM : Ct l y ws1 rm1 E (.ref b :: As) w post mc ms) (cw : CallW R s args own Cn index y bytes maxL ret ws1 rm1 mc ms n) (q0 ci : Nat) {fs : List Value} {T : u_T} {N : Nat} (he : w[q0]? = some (b, .inr (ci, fs))) (hc : vwCl[ci]? = some (Cn, T, N)) (hn : As.length = n) (hst : st = As.reverse ++ .ref b :: rest) (hW : (rest.map fun v => v.category).sum ≤ 8) (hdg : decode cc pc = .ok (.invokevirtual index, 3)) (hf : cells + mc ≤ R.cells ∧ slots + ms ≤ R.slots) (kk : ∀ (v : Option Value) (w1 : va_W), post v w1 → V p l e R s m args below meth c E nL w1 (cells + mc) (slots + ms) Q (pc + 3) lv (v.toList ++ rest)) : V p l e R s m args below meth c E nL w cells slots Q pc lv st := fun H locs ls h1 h2 h3 => g_after (va_runV (As := As) (rest := rest) C.1 hM cw ⟨Ct.blind, va_recv C.2.2.1.1 h1.1 hc he, fun U hU hW9 => ⟨rfl, by rw [hU]; exact h1, C.2.2.move h2 hU hW9⟩⟩ rfl hn h3.1 hst (lv_room hW) hdg hf) h2 (fun v w1 H1 locs1 g1 g2 g3 => kk v w1 g1 H1 locs1 ls g2 g3 h3)
theorem v_callVN (C : gC p s m args meth c E cc nL Ts own) {y : MethodName} {ws1 : List Cond} {rm1 : Room} {bytes : ByteArray} {maxL mc ms n index : Nat} {ret : Option FieldType} {b : Nat} {Cn : String} {As : List Value} {post : Option Value → va_W → Prop} {st : List Value} (hM : Ct l y ws1 rm1 E (.ref b :: As) w post mc ms) (cw : va_CN R s args own index y "SeriesMarks" bytes maxL ret ws1 rm1 mc ms n ∧ (Cond.instanceMethod y).before args s = true ∧ (Cond.selects Cn y y).before args s = true) (q0 ci : Nat) {fs : List Value} {T : u_T} {N : Nat} (he : w[q0]? = some (b, .inr (ci, fs))) (hc : vwCl[ci]? = some (Cn, T, N)) (hn : As.length = n) (hst : st = As.reverse ++ .ref b :: rest) (hW : (rest.map fun v => v.category).sum ≤ 8) (hdg : decode cc pc = .ok (.invokevirtual index, 3)) (hf : cells + mc ≤ R.cells ∧ slots + ms ≤ R.slots) (kk : ∀ (v : Option Value) (w1 : va_W), post v w1 → V p l e R s m args below meth c E nL w1 (cells + mc) (slots + ms) Q (pc + 3) lv (v.toList ++ rest)) : V p l e R s m args below meth c E nL w cells slots Q pc lv st := fun H locs ls h1 h2 h3 => g_after (va_runVN (As := As) (rest := rest) C.1 hM cw ⟨Ct.blind, va_recv C.2.2.1.1 h1.1 hc he, fun U hU hW9 => ⟨rfl, by rw [hU]; exact h1, C.2.2.move h2 hU hW9⟩⟩ rfl hn h3.1 hst (lv_room hW) hdg hf) h2 (fun v w1 H1 locs1 g1 g2 g3 => kk v w1 g1 H1 locs1 ls g2 g3 h3)
theorem v_callS (C : gC p s m args meth c E cc nL Ts own) {y : MethodName} {ws1 : List Cond} {rm1 : Room} {bytes : ByteArray} {maxL mc ms n index : Nat} {ret : Option FieldType} {As : List Value} {post : Option Value → va_W → Prop} {st : List Value} (hM : Ct l y ws1 rm1 E As w post mc ms) (cw : CallB R s args own index y bytes maxL ret ws1 rm1 mc ms n ∧ (Cond.static y).before args s = true) (hn : As.length = n) (hst : st = As.reverse ++ rest) (hW : (rest.map fun v => v.category).sum ≤ 8) (hdg : decode cc pc = .ok (.invokestatic index, 3)) (hf : cells + mc ≤ R.cells ∧ slots + ms ≤ R.slots) (kk : ∀ (v : Option Value) (w1 : va_W), post v w1 → V p l e R s m args below meth c E nL w1 (cells + mc) (slots + ms) Q (pc + 3) lv (v.toList ++ rest)) : V p l e R s m args below meth c E nL w cells slots Q pc lv st := fun H locs ls h1 h2 h3 => g_after (va_runS (As := As) (rest := rest) C.1 hM cw ⟨Ct.blind, fun U hU hW9 => ⟨rfl, by rw [hU]; exact h1, C.2.2.move h2 hU hW9⟩⟩ rfl hn h3.1 hst (lv_room hW) hdg hf) h2 (fun v w1 H1 locs1 g1 g2 g3 => kk v w1 g1 H1 locs1 ls g2 g3 h3)
theorem v_callSN (C : gC p s m args meth c E cc nL Ts own) {y : MethodName} {ws1 : List Cond} {rm1 : Room} {bytes : ByteArray} {maxL mc ms n index : Nat} {ret : Option FieldType} {As : List Value} {post : Option Value → va_W → Prop} {st : List Value} (hM : Ct l y ws1 rm1 E As w post mc ms) (cw : va_CN R s args own index y "SeriesMarks" bytes maxL ret ws1 rm1 mc ms n ∧ (Cond.static y).before args s = true ∧ True) (hn : As.length = n) (hst : st = As.reverse ++ rest) (hW : (rest.map fun v => v.category).sum ≤ 8) (hdg : decode cc pc = .ok (.invokestatic index, 3)) (hf : cells + mc ≤ R.cells ∧ slots + ms ≤ R.slots) (kk : ∀ (v : Option Value) (w1 : va_W), post v w1 → V p l e R s m args below meth c E nL w1 (cells + mc) (slots + ms) Q (pc + 3) lv (v.toList ++ rest)) : V p l e R s m args below meth c E nL w cells slots Q pc lv st := fun H locs ls h1 h2 h3 => g_after (va_runSN (As := As) (rest := rest) C.1 hM cw ⟨Ct.blind, fun U hU hW9 => ⟨rfl, by rw [hU]; exact h1, C.2.2.move h2 hU hW9⟩⟩ rfl hn h3.1 hst (lv_room hW) hdg hf) h2 (fun v w1 H1 locs1 g1 g2 g3 => kk v w1 g1 H1 locs1 ls g2 g3 h3)
theorem v_callI (C : gC p s m args meth c E cc nL Ts own) {y : MethodName} {ws1 : List Cond} {rm1 : Room} {bytes : ByteArray} {maxL mc ms n index : Nat} {b : Nat} {As : List Value} {post : Option Value → va_W → Prop} {st : List Value} (hM : Ct l y ws1 rm1 E (.ref b :: As) w post mc ms) (cw : CallB R s args own index y bytes maxL none ws1 rm1 mc ms n ∧ y.name = "<init>" ∧ (Cond.instanceMethod y).before args s = true) (hn : As.length = n) (hst : st = As.reverse ++ .ref b :: rest) (hW : (rest.map fun v => v.category).sum ≤ 8) (hdg : decode cc pc = .ok (.invokespecial index, 3)) (hf : cells + mc ≤ R.cells ∧ slots + ms ≤ R.slots) (kk : ∀ (v : Option Value) (w1 : va_W), post v w1 → V p l e R s m args below meth c E nL w1 (cells + mc) (slots + ms) Q (pc + 3) lv (v.toList ++ rest)) : V p l e R s m args below meth c E nL w cells slots Q pc lv st := fun H locs ls h1 h2 h3 => g_after (va_runI (As := As) (rest := rest) C.1 hM cw ⟨Ct.blind, fun U hU hW9 => ⟨rfl, by rw [hU]; exact h1, C.2.2.move h2 hU hW9⟩⟩ rfl hn h3.1 hst (lv_room hW) hdg hf) h2 (fun v w1 H1 locs1 g1 g2 g3 => kk v w1 g1 H1 locs1 ls g2 g3 h3)
theorem v_callIN (C : gC p s m args meth c E cc nL Ts own) {y : MethodName} {ws1 : List Cond} {rm1 : Room} {bytes : ByteArray} {maxL mc ms n index : Nat} {b : Nat} {As : List Value} {post : Option Value → va_W → Prop} {st : List Value} (hM : Ct l y ws1 rm1 E (.ref b :: As) w post mc ms) (cw : va_CN R s args own index y "SeriesMarks" bytes maxL none ws1 rm1 mc ms n ∧ y.name = "<init>" ∧ (Cond.instanceMethod y).before args s = true) (hn : As.length = n) (hst : st = As.reverse ++ .ref b :: rest) (hW : (rest.map fun v => v.category).sum ≤ 8) (hdg : decode cc pc = .ok (.invokespecial index, 3)) (hf : cells + mc ≤ R.cells ∧ slots + ms ≤ R.slots) (kk : ∀ (v : Option Value) (w1 : va_W), post v w1 → V p l e R s m args below meth c E nL w1 (cells + mc) (slots + ms) Q (pc + 3) lv (v.toList ++ rest)) : V p l e R s m args below meth c E nL w cells slots Q pc lv st := fun H locs ls h1 h2 h3 => g_after (va_runIN (As := As) (rest := rest) C.1 hM cw ⟨Ct.blind, fun U hU hW9 => ⟨rfl, by rw [hU]; exact h1, C.2.2.move h2 hU hW9⟩⟩ rfl hn h3.1 hst (lv_room hW) hdg hf) h2 (fun v w1 H1 locs1 g1 g2 g3 => kk v w1 g1 H1 locs1 ls g2 g3 h3)
abbrev CtI (l : Launch) (y : MethodName) (ws0 : List Cond) (rm : Room) (E : gE) (av : List Value) (w : va_W) (post : Int32 → va_W → Prop) (mc ms : Nat) : Prop := Ct l y ws0 rm E av w (fun v w1 => ∃ r : Int32, v = some (.int r) ∧ post r w1) mc ms
abbrev CtL (l : Launch) (y : MethodName) (ws0 : List Cond) (rm : Room) (E : gE) (av : List Value) (w : va_W) (post : Int64 → va_W → Prop) (mc ms : Nat) : Prop := Ct l y ws0 rm E av w (fun v w1 => ∃ r : Int64, v = some (.long r) ∧ post r w1) mc ms
abbrev CtA (l : Launch) (y : MethodName) (ws0 : List Cond) (rm : Room) (E : gE) (av : List Value) (w : va_W) (post : Nat → va_W → Prop) (mc ms : Nat) : Prop := Ct l y ws0 rm E av w (fun v w1 => ∃ r : Nat, v = some (.ref r) ∧ post r w1) mc ms
abbrev CtU (l : Launch) (y : MethodName) (ws0 : List Cond) (rm : Room) (E : gE) (av : List Value) (w : va_W) (post : va_W → Prop) (mc ms : Nat) : Prop := Ct l y ws0 rm E av w (fun v w1 => v = none ∧ post w1) mc ms
theorem v_callVi (C : gC p s m args meth c E cc nL Ts own) {y : MethodName} {ws1 : List Cond} {rm1 : Room} {bytes : ByteArray} {maxL mc ms n index : Nat} {ret : Option FieldType} {b : Nat} {Cn : String} {As : List Value} {post : Int32 → va_W → Prop} {st : List Value} (hM : CtI l y ws1 rm1 E (.ref b :: As) w post mc ms) (cw : CallW R s args own Cn index y bytes maxL ret ws1 rm1 mc ms n) (q0 ci : Nat) {fs : List Value} {T : u_T} {N : Nat} (he : w[q0]? = some (b, .inr (ci, fs))) (hc : vwCl[ci]? = some (Cn, T, N)) (hn : As.length = n) (hst : st = As.reverse ++ .ref b :: rest) (hW : (rest.map fun v => v.category).sum ≤ 8) (hdg : decode cc pc = .ok (.invokevirtual index, 3)) (hf : cells + mc ≤ R.cells ∧ slots + ms ≤ R.slots) (kk : ∀ (r : Int32) (w1 : va_W), post r w1 → V p l e R s m args below meth c E nL w1 (cells + mc) (slots + ms) Q (pc + 3) lv (.int r :: rest)) : V p l e R s m args below meth c E nL w cells slots Q pc lv st := v_callV C hM cw q0 ci he hc hn hst hW hdg hf (fun v w1 hp => by obtain ⟨r, rfl, hp⟩ := hp; exact kk r w1 hp)
theorem v_callVl (C : gC p s m args meth c E cc nL Ts own) {y : MethodName} {ws1 : List Cond} {rm1 : Room} {bytes : ByteArray} {maxL mc ms n index : Nat} {ret : Option FieldType} {b : Nat} {Cn : String} {As : List Value} {post : Int64 → va_W → Prop} {st : List Value} (hM : CtL l y ws1 rm1 E (.ref b :: As) w post mc ms) (cw : CallW R s args own Cn index y bytes maxL ret ws1 rm1 mc ms n) (q0 ci : Nat) {fs : List Value} {T : u_T} {N : Nat} (he : w[q0]? = some (b, .inr (ci, fs))) (hc : vwCl[ci]? = some (Cn, T, N)) (hn : As.length = n) (hst : st = As.reverse ++ .ref b :: rest) (hW : (rest.map fun v => v.category).sum ≤ 8) (hdg : decode cc pc = .ok (.invokevirtual index, 3)) (hf : cells + mc ≤ R.cells ∧ slots + ms ≤ R.slots) (kk : ∀ (r : Int64) (w1 : va_W), post r w1 → V p l e R s m args below meth c E nL w1 (cells + mc) (slots + ms) Q (pc + 3) lv (.long r :: rest)) : V p l e R s m args below meth c E nL w cells slots Q pc lv st := v_callV C hM cw q0 ci he hc hn hst hW hdg hf (fun v w1 hp => by obtain ⟨r, rfl, hp⟩ := hp; exact kk r w1 hp)
theorem v_callVu (C : gC p s m args meth c E cc nL Ts own) {y : MethodName} {ws1 : List Cond} {rm1 : Room} {bytes : ByteArray} {maxL mc ms n index : Nat} {ret : Option FieldType} {b : Nat} {Cn : String} {As : List Value} {post : va_W → Prop} {st : List Value} (hM : CtU l y ws1 rm1 E (.ref b :: As) w post mc ms) (cw : CallW R s args own Cn index y bytes maxL ret ws1 rm1 mc ms n) (q0 ci : Nat) {fs : List Value} {T : u_T} {N : Nat} (he : w[q0]? = some (b, .inr (ci, fs))) (hc : vwCl[ci]? = some (Cn, T, N)) (hn : As.length = n) (hst : st = As.reverse ++ .ref b :: rest) (hW : (rest.map fun v => v.category).sum ≤ 8) (hdg : decode cc pc = .ok (.invokevirtual index, 3)) (hf : cells + mc ≤ R.cells ∧ slots + ms ≤ R.slots) (kk : ∀ w1 : va_W, post w1 → V p l e R s m args below meth c E nL w1 (cells + mc) (slots + ms) Q (pc + 3) lv rest) : V p l e R s m args below meth c E nL w cells slots Q pc lv st := v_callV C hM cw q0 ci he hc hn hst hW hdg hf (fun v w1 hp => by obtain ⟨rfl, hp⟩ := hp; exact kk w1 hp)
theorem v_callVa (C : gC p s m args meth c E cc nL Ts own) {y : MethodName} {ws1 : List Cond} {rm1 : Room} {bytes : ByteArray} {maxL mc ms n index : Nat} {ret : Option FieldType} {b : Nat} {Cn : String} {As : List Value} {post : Nat → va_W → Prop} {st : List Value} (hM : CtA l y ws1 rm1 E (.ref b :: As) w post mc ms) (cw : CallW R s args own Cn index y bytes maxL ret ws1 rm1 mc ms n) (q0 ci : Nat) {fs : List Value} {T : u_T} {N : Nat} (he : w[q0]? = some (b, .inr (ci, fs))) (hc : vwCl[ci]? = some (Cn, T, N)) (hn : As.length = n) (hst : st = As.reverse ++ .ref b :: rest) (hW : (rest.map fun v => v.category).sum ≤ 8) (hdg : decode cc pc = .ok (.invokevirtual index, 3)) (hf : cells + mc ≤ R.cells ∧ slots + ms ≤ R.slots) (kk : ∀ (r : Nat) (w1 : va_W), post r w1 → V p l e R s m args below meth c E nL w1 (cells + mc) (slots + ms) Q (pc + 3) lv (.ref r :: rest)) : V p l e R s m args below meth c E nL w cells slots Q pc lv st := v_callV C hM cw q0 ci he hc hn hst hW hdg hf (fun v w1 hp => by obtain ⟨r, rfl, hp⟩ := hp; exact kk r w1 hp)
theorem v_callSi (C : gC p s m args meth c E cc nL Ts own) {y : MethodName} {ws1 : List Cond} {rm1 : Room} {bytes : ByteArray} {maxL mc ms n index : Nat} {ret : Option FieldType} {As : List Value} {post : Int32 → va_W → Prop} {st : List Value} (hM : CtI l y ws1 rm1 E As w post mc ms) (cw : CallB R s args own index y bytes maxL ret ws1 rm1 mc ms n ∧ (Cond.static y).before args s = true) (hn : As.length = n) (hst : st = As.reverse ++ rest) (hW : (rest.map fun v => v.category).sum ≤ 8) (hdg : decode cc pc = .ok (.invokestatic index, 3)) (hf : cells + mc ≤ R.cells ∧ slots + ms ≤ R.slots) (kk : ∀ (r : Int32) (w1 : va_W), post r w1 → V p l e R s m args below meth c E nL w1 (cells + mc) (slots + ms) Q (pc + 3) lv (.int r :: rest)) : V p l e R s m args below meth c E nL w cells slots Q pc lv st := v_callS C hM cw hn hst hW hdg hf (fun v w1 hp => by obtain ⟨r, rfl, hp⟩ := hp; exact kk r w1 hp)
theorem v_callSl (C : gC p s m args meth c E cc nL Ts own) {y : MethodName} {ws1 : List Cond} {rm1 : Room} {bytes : ByteArray} {maxL mc ms n index : Nat} {ret : Option FieldType} {As : List Value} {post : Int64 → va_W → Prop} {st : List Value} (hM : CtL l y ws1 rm1 E As w post mc ms) (cw : CallB R s args own index y bytes maxL ret ws1 rm1 mc ms n ∧ (Cond.static y).before args s = true) (hn : As.length = n) (hst : st = As.reverse ++ rest) (hW : (rest.map fun v => v.category).sum ≤ 8) (hdg : decode cc pc = .ok (.invokestatic index, 3)) (hf : cells + mc ≤ R.cells ∧ slots + ms ≤ R.slots) (kk : ∀ (r : Int64) (w1 : va_W), post r w1 → V p l e R s m args below meth c E nL w1 (cells + mc) (slots + ms) Q (pc + 3) lv (.long r :: rest)) : V p l e R s m args below meth c E nL w cells slots Q pc lv st := v_callS C hM cw hn hst hW hdg hf (fun v w1 hp => by obtain ⟨r, rfl, hp⟩ := hp; exact kk r w1 hp)
theorem v_callSa (C : gC p s m args meth c E cc nL Ts own) {y : MethodName} {ws1 : List Cond} {rm1 : Room} {bytes : ByteArray} {maxL mc ms n index : Nat} {ret : Option FieldType} {As : List Value} {post : Nat → va_W → Prop} {st : List Value} (hM : CtA l y ws1 rm1 E As w post mc ms) (cw : CallB R s args own index y bytes maxL ret ws1 rm1 mc ms n ∧ (Cond.static y).before args s = true) (hn : As.length = n) (hst : st = As.reverse ++ rest) (hW : (rest.map fun v => v.category).sum ≤ 8) (hdg : decode cc pc = .ok (.invokestatic index, 3)) (hf : cells + mc ≤ R.cells ∧ slots + ms ≤ R.slots) (kk : ∀ (r : Nat) (w1 : va_W), post r w1 → V p l e R s m args below meth c E nL w1 (cells + mc) (slots + ms) Q (pc + 3) lv (.ref r :: rest)) : V p l e R s m args below meth c E nL w cells slots Q pc lv st := v_callS C hM cw hn hst hW hdg hf (fun v w1 hp => by obtain ⟨r, rfl, hp⟩ := hp; exact kk r w1 hp)
theorem v_callSNi (C : gC p s m args meth c E cc nL Ts own) {y : MethodName} {ws1 : List Cond} {rm1 : Room} {bytes : ByteArray} {maxL mc ms n index : Nat} {ret : Option FieldType} {As : List Value} {post : Int32 → va_W → Prop} {st : List Value} (hM : CtI l y ws1 rm1 E As w post mc ms) (cw : va_CN R s args own index y "SeriesMarks" bytes maxL ret ws1 rm1 mc ms n ∧ (Cond.static y).before args s = true ∧ True) (hn : As.length = n) (hst : st = As.reverse ++ rest) (hW : (rest.map fun v => v.category).sum ≤ 8) (hdg : decode cc pc = .ok (.invokestatic index, 3)) (hf : cells + mc ≤ R.cells ∧ slots + ms ≤ R.slots) (kk : ∀ (r : Int32) (w1 : va_W), post r w1 → V p l e R s m args below meth c E nL w1 (cells + mc) (slots + ms) Q (pc + 3) lv (.int r :: rest)) : V p l e R s m args below meth c E nL w cells slots Q pc lv st := v_callSN C hM cw hn hst hW hdg hf (fun v w1 hp => by obtain ⟨r, rfl, hp⟩ := hp; exact kk r w1 hp)
theorem v_callIu (C : gC p s m args meth c E cc nL Ts own) {y : MethodName} {ws1 : List Cond} {rm1 : Room} {bytes : ByteArray} {maxL mc ms n index : Nat} {b : Nat} {As : List Value} {post : va_W → Prop} {st : List Value} (hM : CtU l y ws1 rm1 E (.ref b :: As) w post mc ms) (cw : CallB R s args own index y bytes maxL none ws1 rm1 mc ms n ∧ y.name = "<init>" ∧ (Cond.instanceMethod y).before args s = true) (hn : As.length = n) (hst : st = As.reverse ++ .ref b :: rest) (hW : (rest.map fun v => v.category).sum ≤ 8) (hdg : decode cc pc = .ok (.invokespecial index, 3)) (hf : cells + mc ≤ R.cells ∧ slots + ms ≤ R.slots) (kk : ∀ w1 : va_W, post w1 → V p l e R s m args below meth c E nL w1 (cells + mc) (slots + ms) Q (pc + 3) lv rest) : V p l e R s m args below meth c E nL w cells slots Q pc lv st := v_callI C hM cw hn hst hW hdg hf (fun v w1 hp => by obtain ⟨rfl, hp⟩ := hp; exact kk w1 hp)
theorem v_callINu (C : gC p s m args meth c E cc nL Ts own) {y : MethodName} {ws1 : List Cond} {rm1 : Room} {bytes : ByteArray} {maxL mc ms n index : Nat} {b : Nat} {As : List Value} {post : va_W → Prop} {st : List Value} (hM : CtU l y ws1 rm1 E (.ref b :: As) w post mc ms) (cw : va_CN R s args own index y "SeriesMarks" bytes maxL none ws1 rm1 mc ms n ∧ y.name = "<init>" ∧ (Cond.instanceMethod y).before args s = true) (hn : As.length = n) (hst : st = As.reverse ++ .ref b :: rest) (hW : (rest.map fun v => v.category).sum ≤ 8) (hdg : decode cc pc = .ok (.invokespecial index, 3)) (hf : cells + mc ≤ R.cells ∧ slots + ms ≤ R.slots) (kk : ∀ w1 : va_W, post w1 → V p l e R s m args below meth c E nL w1 (cells + mc) (slots + ms) Q (pc + 3) lv rest) : V p l e R s m args below meth c E nL w cells slots Q pc lv st := v_callIN C hM cw hn hst hW hdg hf (fun v w1 hp => by obtain ⟨rfl, hp⟩ := hp; exact kk w1 hp)
theorem v_iincN (C : gC p s m args meth c E cc nL Ts own) {i x : Nat} (hdg : decode cc pc = .ok (.iinc i 1, 3)) (hl : vlk lv i = some (.int (nI x))) (hn : i < nL) (hok : vok lv i = true) (k : V p l e R s m args below meth c E nL w cells slots Q (pc + 3) (vst lv i (.int (nI (x + 1)))) rest) : V p l e R s m args below meth c E nL w cells slots Q pc lv rest := v_iinc C hdg (d := 1) (by decide) hl hn hok (by rw [nI_1]; exact k)
end VL
end
section
/-! ===== the cells of the reference: places 12 .. 30 of the world; g: its whole numbers by field, ar: its rows by field ===== -/
def mfs (g : Nat → Int32) (ad : Nat → Nat) : List Value := [.int (g 0), .ref (ad 1), .ref (ad 2), .int (g 3), .ref (ad 4), .ref (ad 5), .ref (ad 6), .ref (ad 7), .ref (ad 8), .ref (ad 9), .int (g 10), .ref (ad 11), .ref (ad 12), .ref (ad 13), .ref (ad 14), .int (g 15), .ref (ad 16), .int (g 17), .ref (ad 18), .ref (ad 19), .ref (ad 20), .ref (ad 21), .ref (ad 22)]
def mcl (E : gE) (ad : Nat → Nat) (g : Nat → Int32) (ar : Nat → Nat → Int32) : va_W := [(ad 0, .inr (7, mfs g ad)), (ad 1, .inl (gZ E, 1200, .inl (ar 1))), (ad 2, .inl (gI E, 9600, .inl (ar 2))), (ad 4, .inl (gI E, 120, .inl (ar 4))), (ad 5, .inl (gI E, 120, .inl (ar 5))), (ad 6, .inl (gI E, 120, .inl (ar 6))), (ad 7, .inl (gI E, 120, .inl (ar 7))), (ad 8, .inl (gI E, 120, .inl (ar 8))), (ad 9, .inl (gI E, 120, .inl (ar 9))), (ad 11, .inl (gI E, 2000, .inl (ar 11))), (ad 12, .inl (gI E, 2000, .inl (ar 12))), (ad 13, .inl (gI E, 2000, .inl (ar 13))), (ad 14, .inl (gZ E, 120, .inl (ar 14))), (ad 16, .inl (gI E, 2000, .inl (ar 16))), (ad 18, .inl (gI E, 10, .inl (ar 18))), (ad 19, .inl (gI E, 10, .inl (ar 19))), (ad 20, .inl (gI E, 10, .inl (ar 20))), (ad 21, .inl (gI E, 10, .inl (ar 21))), (ad 22, .inl (gI E, 6, .inl (ar 22)))]
def mAt (w X : va_W) : Prop := ∀ (k : Nat) (q : Nat × va_E), X[k]? = some q → w[12 + k]? = some q
def mFr (w w1 : va_W) : Prop := w1.length = w.length ∧ ∀ k, (k < 12 ∨ 31 ≤ k) → w1[k]? = w[k]?
theorem mFr.rf (w : va_W) : mFr w w := ⟨rfl, fun _ _ => rfl⟩
theorem mFr.tr {w w1 w2 : va_W} (h : mFr w w1) (h2 : mFr w1 w2) : mFr w w2 := ⟨h2.1.trans h.1, fun k hk => (h2.2 k hk).trans (h.2 k hk)⟩
theorem mAt.set {w X : va_W} (h : mAt w X) {k : Nat} {q0 q : Nat × va_E} (hk : X[k]? = some q0) : mAt (w.set (12 + k) q) (X.set k q) := by
  intro j r hj
  by_cases e : j = k
  · subst e
    have hl := (List.getElem?_eq_some_iff.mp hk).1
    rw [List.getElem?_set_self hl] at hj
    have hw := (List.getElem?_eq_some_iff.mp (h j q0 hk)).1
    rw [List.getElem?_set_self hw]
    exact hj
  · rw [List.getElem?_set_ne (Ne.symm e)] at hj
    rw [List.getElem?_set_ne (by omega)]
    exact h j r hj
theorem mFr.set {w0 w : va_W} (h : mFr w0 w) {k : Nat} (hk : k < 19) (q : Nat × va_E) : mFr w0 (w.set (12 + k) q) := ⟨by rw [List.length_set]; exact h.1, fun j hj => by rw [List.getElem?_set_ne (by omega)]; exact h.2 j hj⟩
theorem mcl_len (E : gE) (ad : Nat → Nat) (g : Nat → Int32) (ar : Nat → Nat → Int32) : (mcl E ad g ar).length = 19 := rfl
section VM
variable {p : Program} {l : Launch} {e : Env} {R : Room} {s : State} {m : MethodId} {args : Array Value} {below : List Frame} {meth : Method} {c : Code} {cells slots : Nat} {Q : State → Prop}
variable {cc : ByteArray} {nL : Nat} {E : gE} {w w0 : va_W} {pc : Nat} {lv : List (Nat × Value)} {rest : List Value} {Ts : List Cond} {own : String}
variable {ad : Nat → Nat} {g : Nat → Int32} {ar : Nat → Nat → Int32}
theorem vm_get (C : gC p s m args meth c E cc nL Ts own) (hM : mAt w (mcl E ad g ar)) {index : Nat} {v : Value} (hin : ∀ x ∈ wsX60, x ∈ Ts) (k : Nat) (hk : k < 23) (hlink : Cond.fieldLink own index "SeriesMarksModel" (TX6 k).2.1 (TX6 k).2.2.1 ∈ Ts) (hsame : (TX6 k).1 = "SeriesMarksModel") (hv : (mfs g ad)[k]? = some v) (hdg : decode cc pc = .ok (.getfield index, 3)) (kk : V p l e R s m args below meth c E nL w cells slots Q (pc + 3) lv (v :: rest)) : V p l e R s m args below meth c E nL w cells slots Q pc lv (.ref (ad 0) :: rest) := v_get C hin 12 (hM 0 _ rfl) rfl k hk hlink hsame hv hdg kk
theorem vm_puti (C : gC p s m args meth c E cc nL Ts own) (hM : mAt w (mcl E ad g ar)) (hF : mFr w0 w) {index : Nat} {x : Int32} (hin : ∀ x ∈ wsX60, x ∈ Ts) (k : Nat) (hk : k < 23) (hlink : Cond.fieldLink own index "SeriesMarksModel" (TX6 k).2.1 (TX6 k).2.2.1 ∈ Ts) (hsame : (TX6 k).1 = "SeriesMarksModel") (hfin : (TX6 k).2.2.2 = false) (hd : parseFieldDescriptor (TX6 k).2.2.1 = some .int) (hset : (mcl E ad g ar).set 0 (ad 0, .inr (7, (mfs g ad).set k (.int x))) = mcl E ad (upd g k x) ar) (hdg : decode cc pc = .ok (.putfield index, 3)) (kk : ∀ w1 : va_W, mAt w1 (mcl E ad (upd g k x) ar) → mFr w0 w1 → V p l e R s m args below meth c E nL w1 cells slots Q (pc + 3) lv rest) : V p l e R s m args below meth c E nL w cells slots Q pc lv (.int x :: .ref (ad 0) :: rest) := v_put C hin tyX6 tyX6_ok nmX6 12 (hM 0 _ rfl) rfl k hk hlink hsame hfin hd rfl rfl hk hdg (kk _ (by rw [← hset]; exact hM.set (k := 0) rfl) (hF.set (k := 0) (by decide) _))
theorem vm_iald (C : gC p s m args meth c E cc nL Ts own) (hM : mAt w (mcl E ad g ar)) (j : Nat) {a n : Nat} {f : Nat → Int32} {i : Int32} (ha : (mcl E ad g ar)[j]? = some (a, .inl (gI E, n, .inl f))) (hin : vp_in i n) (hdg : decode cc pc = .ok (.iaload, 1)) (kk : V p l e R s m args below meth c E nL w cells slots Q (pc + 1) lv (.int (f i.toNatClampNeg) :: rest)) : V p l e R s m args below meth c E nL w cells slots Q pc lv (.int i :: .ref a :: rest) := v_iald C (12 + j) (hM j _ ha) hin hdg kk
theorem vm_zald (C : gC p s m args meth c E cc nL Ts own) (hM : mAt w (mcl E ad g ar)) (j : Nat) {a n : Nat} {f : Nat → Int32} {i : Int32} (ha : (mcl E ad g ar)[j]? = some (a, .inl (gZ E, n, .inl f))) (hin : vp_in i n) (hdg : decode cc pc = .ok (.baload, 1)) (kk : V p l e R s m args below meth c E nL w cells slots Q (pc + 1) lv (.int (f i.toNatClampNeg) :: rest)) : V p l e R s m args below meth c E nL w cells slots Q pc lv (.int i :: .ref a :: rest) := v_zald C (12 + j) (hM j _ ha) hin hdg kk
theorem vm_iast (C : gC p s m args meth c E cc nL Ts own) (hM : mAt w (mcl E ad g ar)) (hF : mFr w0 w) (k j : Nat) {a n : Nat} {i x : Int32} (ha : (mcl E ad g ar)[j]? = some (a, .inl (gI E, n, .inl (ar k)))) (hin : vp_in i n) (hset : (mcl E ad g ar).set j (a, .inl (gI E, n, .inl (upd (ar k) i.toNatClampNeg x))) = mcl E ad g (va_up ar k (upd (ar k) i.toNatClampNeg x))) (hdg : decode cc pc = .ok (.iastore, 1)) (kk : ∀ w1 : va_W, mAt w1 (mcl E ad g (va_up ar k (upd (ar k) i.toNatClampNeg x))) → mFr w0 w1 → V p l e R s m args below meth c E nL w1 cells slots Q (pc + 1) lv rest) : V p l e R s m args below meth c E nL w cells slots Q pc lv (.int x :: .int i :: .ref a :: rest) := v_iast C (12 + j) (hM j _ ha) hin hdg (kk _ (by rw [← hset]; exact hM.set ha) (hF.set (by have := (List.getElem?_eq_some_iff.mp ha).1; rw [mcl_len] at this; exact this) _))
theorem vm_zast (C : gC p s m args meth c E cc nL Ts own) (hM : mAt w (mcl E ad g ar)) (hF : mFr w0 w) (k j : Nat) {a n : Nat} {i x : Int32} (ha : (mcl E ad g ar)[j]? = some (a, .inl (gZ E, n, .inl (ar k)))) (hin : vp_in i n) (hset : (mcl E ad g ar).set j (a, .inl (gZ E, n, .inl (upd (ar k) i.toNatClampNeg (vp_nar .boolean x)))) = mcl E ad g (va_up ar k (upd (ar k) i.toNatClampNeg (vp_nar .boolean x)))) (hdg : decode cc pc = .ok (.bastore, 1)) (kk : ∀ w1 : va_W, mAt w1 (mcl E ad g (va_up ar k (upd (ar k) i.toNatClampNeg (vp_nar .boolean x)))) → mFr w0 w1 → V p l e R s m args below meth c E nL w1 cells slots Q (pc + 1) lv rest) : V p l e R s m args below meth c E nL w cells slots Q pc lv (.int x :: .int i :: .ref a :: rest) := v_zast C (12 + j) (hM j _ ha) hin hdg (kk _ (by rw [← hset]; exact hM.set ha) (hF.set (by have := (List.getElem?_eq_some_iff.mp ha).1; rw [mcl_len] at this; exact this) _))
end VM
end
section
set_option maxHeartbeats 4000000 in
set_option maxRecDepth 100000 in
theorem c_X6_in (l : Launch) (E : gE) (zw : va_W) (v lo hi : Int64) : CtI l yX6_in wsX6_in ({ frames := 0, cells := 0, slots := 0, locals := 0 }) E [.long v, .long lo, .long hi] zw (fun r w1 => zw = w1 ∧ r = b01 (lo.toInt ≤ v.toInt ∧ v.toInt ≤ hi.toInt)) 0 0 := by
  refine Ct.of (cc := cX6_in) (nL := 6) (ret := (some .boolean)) (by decide) rfl (Nat.le_of_ble_eq_true rfl) ?_
  intro p e s m args below meth c C hr hnm
  refine v_eqlv (lv9 := [(0, .long v), (2, .long lo), (4, .long hi)]) rfl ?_
  refine v_lload_n C dX6_in_0 rfl rfl ?_
  refine v_lload_n C dX6_in_1 rfl rfl ?_
  refine v_lcmp C dX6_in_2 ?_
  refine v_if_lt (tgt := 17) C dX6_in_3 (by decide) (fun c3 => ?_) (fun c3 => ?_)
  · refine v_iconst (v := 0) C dX6_in_17 (by decide) ?_
    exact v_zret C hr dX6_in_18 (by decide) (Nat.le_refl _) (Nat.le_refl _) ⟨_, rfl, ⟨rfl, by first | exact (b01_f (fun h => absurd ((fa_lt64 _ _).mp ((lg_cmp_lt _ _).mp c3)) (Int.not_lt.mpr h.1))).symm | exact (b01_f (fun h => absurd ((fa_lt64 _ _).mp ((lg_cmp_gt _ _).mp c10)) (Int.not_lt.mpr h.2))).symm | exact (b01_t ⟨Int.not_lt.mp (fun h => c3 ((lg_cmp_lt _ _).mpr ((fa_lt64 _ _).mpr h))), Int.not_lt.mp (fun h => c10 ((lg_cmp_gt _ _).mpr ((fa_lt64 _ _).mpr h)))⟩).symm⟩⟩
  · refine v_lload_n C dX6_in_6 rfl rfl ?_
    refine v_lload C dX6_in_7 rfl ?_
    refine v_lcmp C dX6_in_9 ?_
    refine v_if_gt (tgt := 17) C dX6_in_10 (by decide) (fun c10 => ?_) (fun c10 => ?_)
    · refine v_iconst (v := 0) C dX6_in_17 (by decide) ?_
      exact v_zret C hr dX6_in_18 (by decide) (Nat.le_refl _) (Nat.le_refl _) ⟨_, rfl, ⟨rfl, by first | exact (b01_f (fun h => absurd ((fa_lt64 _ _).mp ((lg_cmp_lt _ _).mp c3)) (Int.not_lt.mpr h.1))).symm | exact (b01_f (fun h => absurd ((fa_lt64 _ _).mp ((lg_cmp_gt _ _).mp c10)) (Int.not_lt.mpr h.2))).symm | exact (b01_t ⟨Int.not_lt.mp (fun h => c3 ((lg_cmp_lt _ _).mpr ((fa_lt64 _ _).mpr h))), Int.not_lt.mp (fun h => c10 ((lg_cmp_gt _ _).mpr ((fa_lt64 _ _).mpr h)))⟩).symm⟩⟩
    · refine v_iconst (v := 1) C dX6_in_13 (by decide) ?_
      refine v_goto (tgt := 18) C dX6_in_14 (by decide) ?_
      exact v_zret C hr dX6_in_18 (by decide) (Nat.le_refl _) (Nat.le_refl _) ⟨_, rfl, ⟨rfl, by first | exact (b01_f (fun h => absurd ((fa_lt64 _ _).mp ((lg_cmp_lt _ _).mp c3)) (Int.not_lt.mpr h.1))).symm | exact (b01_f (fun h => absurd ((fa_lt64 _ _).mp ((lg_cmp_gt _ _).mp c10)) (Int.not_lt.mpr h.2))).symm | exact (b01_t ⟨Int.not_lt.mp (fun h => c3 ((lg_cmp_lt _ _).mpr ((fa_lt64 _ _).mpr h))), Int.not_lt.mp (fun h => c10 ((lg_cmp_gt _ _).mpr ((fa_lt64 _ _).mpr h)))⟩).symm⟩⟩
theorem kwX6_isMark_c73 : Cond.constantLong RX6 73 (5) ∈ wsX6_isMark := by decide +kernel
set_option maxHeartbeats 4000000 in
set_option maxRecDepth 100000 in
theorem c_X6_isMark (l : Launch) (E : gE) (zw : va_W) (x : Int32) : CtI l yX6_isMark wsX6_isMark ({ frames := 1, cells := 0, slots := 0, locals := 25 }) E [.int x] zw (fun r w1 => zw = w1 ∧ r = b01 (0 ≤ x.toInt ∧ x.toInt ≤ 5)) 0 0 := by
  refine Ct.of (cc := cX6_isMark) (nL := 1) (ret := (some .boolean)) (by decide) rfl (Nat.le_of_ble_eq_true rfl) ?_
  intro p e s m args below meth c C hr hnm
  refine v_eqlv (lv9 := [(0, .int x)]) rfl ?_
  refine v_iload_n C dX6_isMark_0 rfl rfl ?_
  refine v_i2l C dX6_isMark_1 rfl ?_
  refine v_lconst (v := 0) C dX6_isMark_2 (by decide) ?_
  refine v_ldc2 C kwX6_isMark_c73 dX6_isMark_3 ?_
  refine v_callSi C (c_X6_in l E zw _ _ _) (va_cwS 3 C.1.2.2.2.2 gX6_isMark_X6_in rfl rfl rfl (by decide +kernel) ⟨by decide, by decide⟩) rfl rfl (Nat.le_of_ble_eq_true rfl) dX6_isMark_6 ⟨Nat.le_of_ble_eq_true rfl, Nat.le_of_ble_eq_true rfl⟩ (fun r w1 hp => ?_)
  obtain ⟨rfl, rfl⟩ := hp
  exact v_zret C hr dX6_isMark_9 (b01_or _) (Nat.le_refl _) (Nat.le_refl _) ⟨_, rfl, ⟨rfl, b01_c (by rw [t64, tl_0, tl_5])⟩⟩
theorem kwX6_isValue_c75 : Cond.constantLong RX6 75 (7) ∈ wsX6_isValue := by decide +kernel
set_option maxHeartbeats 4000000 in
set_option maxRecDepth 100000 in
theorem c_X6_isValue (l : Launch) (E : gE) (zw : va_W) (x : Int32) : CtI l yX6_isValue wsX6_isValue ({ frames := 1, cells := 0, slots := 0, locals := 25 }) E [.int x] zw (fun r w1 => zw = w1 ∧ r = b01 (0 ≤ x.toInt ∧ x.toInt ≤ 7)) 0 0 := by
  refine Ct.of (cc := cX6_isValue) (nL := 1) (ret := (some .boolean)) (by decide) rfl (Nat.le_of_ble_eq_true rfl) ?_
  intro p e s m args below meth c C hr hnm
  refine v_eqlv (lv9 := [(0, .int x)]) rfl ?_
  refine v_iload_n C dX6_isValue_0 rfl rfl ?_
  refine v_i2l C dX6_isValue_1 rfl ?_
  refine v_lconst (v := 0) C dX6_isValue_2 (by decide) ?_
  refine v_ldc2 C kwX6_isValue_c75 dX6_isValue_3 ?_
  refine v_callSi C (c_X6_in l E zw _ _ _) (va_cwS 3 C.1.2.2.2.2 gX6_isValue_X6_in rfl rfl rfl (by decide +kernel) ⟨by decide, by decide⟩) rfl rfl (Nat.le_of_ble_eq_true rfl) dX6_isValue_6 ⟨Nat.le_of_ble_eq_true rfl, Nat.le_of_ble_eq_true rfl⟩ (fun r w1 hp => ?_)
  obtain ⟨rfl, rfl⟩ := hp
  exact v_zret C hr dX6_isValue_9 (b01_or _) (Nat.le_refl _) (Nat.le_refl _) ⟨_, rfl, ⟨rfl, b01_c (by rw [t64, tl_0, tl_7])⟩⟩
theorem kwX6_isName_c77 : Cond.constantLong RX6 77 (262143) ∈ wsX6_isName := by decide +kernel
set_option maxHeartbeats 4000000 in
set_option maxRecDepth 100000 in
theorem c_X6_isName (l : Launch) (E : gE) (zw : va_W) (x : Int32) : CtI l yX6_isName wsX6_isName ({ frames := 1, cells := 0, slots := 0, locals := 25 }) E [.int x] zw (fun r w1 => zw = w1 ∧ r = b01 (0 ≤ x.toInt ∧ x.toInt ≤ 262143)) 0 0 := by
  refine Ct.of (cc := cX6_isName) (nL := 1) (ret := (some .boolean)) (by decide) rfl (Nat.le_of_ble_eq_true rfl) ?_
  intro p e s m args below meth c C hr hnm
  refine v_eqlv (lv9 := [(0, .int x)]) rfl ?_
  refine v_iload_n C dX6_isName_0 rfl rfl ?_
  refine v_i2l C dX6_isName_1 rfl ?_
  refine v_lconst (v := 0) C dX6_isName_2 (by decide) ?_
  refine v_ldc2 C kwX6_isName_c77 dX6_isName_3 ?_
  refine v_callSi C (c_X6_in l E zw _ _ _) (va_cwS 3 C.1.2.2.2.2 gX6_isName_X6_in rfl rfl rfl (by decide +kernel) ⟨by decide, by decide⟩) rfl rfl (Nat.le_of_ble_eq_true rfl) dX6_isName_6 ⟨Nat.le_of_ble_eq_true rfl, Nat.le_of_ble_eq_true rfl⟩ (fun r w1 hp => ?_)
  obtain ⟨rfl, rfl⟩ := hp
  exact v_zret C hr dX6_isName_9 (b01_or _) (Nat.le_refl _) (Nat.le_refl _) ⟨_, rfl, ⟨rfl, b01_c (by rw [t64, tl_0, tl_n])⟩⟩
/-- the octal digit of a name -/
def dgt (x mk : Int32) : Int32 := (x >>> ((3 * mk) &&& 31)) &&& 7
set_option maxHeartbeats 4000000 in
set_option maxRecDepth 100000 in
theorem c_X6_digit (l : Launch) (E : gE) (zw : va_W) (x mk : Int32) : CtI l yX6_digit wsX6_digit ({ frames := 0, cells := 0, slots := 0, locals := 0 }) E [.int x, .int mk] zw (fun r w1 => zw = w1 ∧ r = dgt x mk) 0 0 := by
  refine Ct.of (cc := cX6_digit) (nL := 2) (ret := (some .int)) (by decide) rfl (Nat.le_of_ble_eq_true rfl) ?_
  intro p e s m args below meth c C hr hnm
  refine v_eqlv (lv9 := [(0, .int x), (1, .int mk)]) rfl ?_
  refine v_iload_n C dX6_digit_0 rfl rfl ?_
  refine v_iconst (v := 3) C dX6_digit_1 (by decide) ?_
  refine v_iload_n C dX6_digit_2 rfl rfl ?_
  refine v_imul C dX6_digit_3 ?_
  refine v_ishr C dX6_digit_4 ?_
  refine v_bipush (v := 7) C dX6_digit_5 (by decide) ?_
  refine v_iand C dX6_digit_7 ?_
  exact v_iret C hr dX6_digit_8 (Nat.le_refl _) (Nat.le_refl _) ⟨_, rfl, ⟨rfl, rfl⟩⟩
/-- a name with the digits of some marks put to 0, mark by mark -/
def woI (x mk : Int32) : Nat → Int32
  | 0 => x
  | i + 1 => if (mk >>> (nI i &&& 31)) &&& 1 = 1 then woI x mk i &&& ((7 <<< ((3 * nI i) &&& 31)) ^^^ (-1)) else woI x mk i
set_option maxHeartbeats 4000000 in
set_option maxRecDepth 100000 in
theorem lp_X6_without {p : Program} {l : Launch} {e : Env} {R : Room} {s : State} {m : MethodId} {args : Array Value} {below : List Frame} {meth : Method} {c : Code} {cells slots : Nat} {Q : State → Prop} {E : gE} {zw : va_W} (C : gC p s m args meth c E cX6_without 4 wsX6_without yX6_without.cls) {x mk : Int32} (hK : V p l e R s m args below meth c E 4 zw cells slots Q 40 [(0, .int x), (1, .int mk), (2, .int (woI x mk 6)), (3, .int (nI 6))] []) : ∀ n i : Nat, i + n = 6 → V p l e R s m args below meth c E 4 zw cells slots Q 4 [(0, .int x), (1, .int mk), (2, .int (woI x mk i)), (3, .int (nI i))] [] := by
  intro n
  induction n with
  | zero =>
    intro i hi
    obtain rfl : i = 6 := by omega
    refine v_iload_n C dX6_without_4 rfl rfl ?_
    refine v_bipush (v := 6) C dX6_without_5 (by decide) ?_
    refine v_icmp_ge (tgt := 40) C dX6_without_7 (by decide) (fun c7 => ?_) (fun c7 => absurd (by rw [fa_le, ti_6, nI_toInt (by omega)]; omega) c7)
    exact hK
  | succ n ih =>
    intro i hi
    refine v_iload_n C dX6_without_4 rfl rfl ?_
    refine v_bipush (v := 6) C dX6_without_5 (by decide) ?_
    refine v_icmp_ge (tgt := 40) C dX6_without_7 (by decide) (fun c7 => absurd c7 (by rw [fa_le, ti_6, nI_toInt (by omega)]; omega)) (fun c7 => ?_)
    refine v_iload_n C dX6_without_10 rfl rfl ?_
    refine v_iload_n C dX6_without_11 rfl rfl ?_
    refine v_ishr C dX6_without_12 ?_
    refine v_iconst (v := 1) C dX6_without_13 (by decide) ?_
    refine v_iand C dX6_without_14 ?_
    refine v_iconst (v := 1) C dX6_without_15 (by decide) ?_
    refine v_at (pc9 := 16) rfl ?_
    refine v_icmp_ne (tgt := 32) C dX6_without_16 (by decide) (fun c16 => ?_) (fun c16 => ?_)
    · refine v_iload_n C dX6_without_32 rfl rfl ?_
      refine v_tov (show _ = woI x mk (i + 1) from by first | exact (if_pos c16).symm | exact (if_neg c16).symm | exact (if_pos (Decidable.of_not_not c16)).symm) ?_
      refine v_istore_n C dX6_without_33 rfl (by decide) rfl ?_
      refine v_iincN C dX6_without_34 rfl (by decide) rfl ?_
      refine v_goto (tgt := 4) C dX6_without_37 (by decide) ?_
      exact ih (i + 1) (by omega)
    · refine v_iload_n C dX6_without_19 rfl rfl ?_
      refine v_bipush (v := 7) C dX6_without_20 (by decide) ?_
      refine v_iconst (v := 3) C dX6_without_22 (by decide) ?_
      refine v_iload_n C dX6_without_23 rfl rfl ?_
      refine v_imul C dX6_without_24 ?_
      refine v_ishl C dX6_without_25 ?_
      refine v_iconst (v := (-1)) C dX6_without_26 (by decide) ?_
      refine v_ixor C dX6_without_27 ?_
      refine v_iand C dX6_without_28 ?_
      refine v_at (pc9 := 29) rfl ?_
      refine v_goto (tgt := 33) C dX6_without_29 (by decide) ?_
      refine v_tov (show _ = woI x mk (i + 1) from by first | exact (if_pos c16).symm | exact (if_neg c16).symm | exact (if_pos (Decidable.of_not_not c16)).symm) ?_
      refine v_istore_n C dX6_without_33 rfl (by decide) rfl ?_
      refine v_iincN C dX6_without_34 rfl (by decide) rfl ?_
      refine v_goto (tgt := 4) C dX6_without_37 (by decide) ?_
      exact ih (i + 1) (by omega)
set_option maxHeartbeats 4000000 in
set_option maxRecDepth 100000 in
theorem c_X6_without (l : Launch) (E : gE) (zw : va_W) (x mk : Int32) : CtI l yX6_without wsX6_without ({ frames := 0, cells := 0, slots := 0, locals := 0 }) E [.int x, .int mk] zw (fun r w1 => zw = w1 ∧ r = woI x mk 6) 0 0 := by
  refine Ct.of (cc := cX6_without) (nL := 4) (ret := (some .int)) (by decide) rfl (Nat.le_of_ble_eq_true rfl) ?_
  intro p e s m args below meth c C hr hnm
  refine v_eqlv (lv9 := [(0, .int x), (1, .int mk)]) rfl ?_
  refine v_iload_n C dX6_without_0 rfl rfl ?_
  refine v_istore_n C dX6_without_1 rfl (by decide) rfl ?_
  refine v_iconst (v := 0) C dX6_without_2 (by decide) ?_
  refine v_tov nI_0.symm ?_
  refine v_istore_n C dX6_without_3 rfl (by decide) rfl ?_
  refine lp_X6_without C ?_ 6 0 rfl
  refine v_iload_n C dX6_without_40 rfl rfl ?_
  exact v_iret C hr dX6_without_41 (Nat.le_refl _) (Nat.le_refl _) ⟨_, rfl, ⟨rfl, rfl⟩⟩
end
section
/-! ===== what holds of the reference's numbers through a run ===== -/
def MI (g : Nat → Int32) (ar : Nat → Nat → Int32) (tk ns np na : Nat) : Prop :=
  (g 0 = nI tk ∧ tk ≤ 199) ∧ (g 3 = nI ns ∧ ns ≤ 120) ∧ (g 10 = nI np ∧ np ≤ 2000) ∧ (g 17 = nI na ∧ na ≤ 10) ∧
  (∀ k, k < np → ∃ j, j < ns ∧ ar 11 k = nI j) ∧ (∀ k, k < np → ∃ t, t ≤ tk ∧ ar 12 k = nI t) ∧ (∀ i, i < ns → ∃ n, n < 262144 ∧ ar 4 i = nI n) ∧ (∀ i j, i < ns → j < ns → ar 4 i = ar 4 j → i = j) ∧
  (∀ i, i < 1200 → ar 1 i = 0 ∨ ar 1 i = 1) ∧ (∀ i, i < 9600 → ∃ v, v < 8 ∧ ar 2 i = nI v) ∧ (∀ i, ns ≤ i → i < 120 → ar 5 i = 0) ∧
  (∀ a, a < na → ∃ q, q < 64 ∧ ar 18 a = nI q) ∧ (∀ a, a < na → ar 19 a = (-9) ∨ ∃ q, q < 6 ∧ ar 19 a = nI q)
theorem MI.tick {g : Nat → Int32} {ar : Nat → Nat → Int32} {tk ns np na : Nat} (h : MI g ar tk ns np na) : (g 0).toInt = tk ∧ tk ≤ 199 := ⟨by rw [h.1.1, nI_toInt (by have := h.1.2; omega)], h.1.2⟩
theorem MI.ser {g : Nat → Int32} {ar : Nat → Nat → Int32} {tk ns np na : Nat} (h : MI g ar tk ns np na) : (g 3).toInt = ns ∧ ns ≤ 120 := ⟨by rw [h.2.1.1, nI_toInt (by have := h.2.1.2; omega)], h.2.1.2⟩
theorem MI.sam {g : Nat → Int32} {ar : Nat → Nat → Int32} {tk ns np na : Nat} (h : MI g ar tk ns np na) : (g 10).toInt = np ∧ np ≤ 2000 := ⟨by rw [h.2.2.1.1, nI_toInt (by have := h.2.2.1.2; omega)], h.2.2.1.2⟩
theorem MI.ask {g : Nat → Int32} {ar : Nat → Nat → Int32} {tk ns np na : Nat} (h : MI g ar tk ns np na) : (g 17).toInt = na ∧ na ≤ 10 := ⟨by rw [h.2.2.2.1.1, nI_toInt (by have := h.2.2.2.1.2; omega)], h.2.2.2.1.2⟩
theorem MI.of {g : Nat → Int32} {ar : Nat → Nat → Int32} {tk ns np na : Nat} (h : MI g ar tk ns np na) : ∀ k, k < np → ∃ j, j < ns ∧ ar 11 k = nI j := h.2.2.2.2.1
theorem MI.at {g : Nat → Int32} {ar : Nat → Nat → Int32} {tk ns np na : Nat} (h : MI g ar tk ns np na) : ∀ k, k < np → ∃ t, t ≤ tk ∧ ar 12 k = nI t := h.2.2.2.2.2.1
theorem MI.nam {g : Nat → Int32} {ar : Nat → Nat → Int32} {tk ns np na : Nat} (h : MI g ar tk ns np na) : ∀ i, i < ns → ∃ n, n < 262144 ∧ ar 4 i = nI n := h.2.2.2.2.2.2.1
theorem MI.inj {g : Nat → Int32} {ar : Nat → Nat → Int32} {tk ns np na : Nat} (h : MI g ar tk ns np na) : ∀ i j, i < ns → j < ns → ar 4 i = ar 4 j → i = j := h.2.2.2.2.2.2.2.1
theorem MI.dr {g : Nat → Int32} {ar : Nat → Nat → Int32} {tk ns np na : Nat} (h : MI g ar tk ns np na) : ∀ i, i < 1200 → ar 1 i = 0 ∨ ar 1 i = 1 := h.2.2.2.2.2.2.2.2.1
theorem MI.ch {g : Nat → Int32} {ar : Nat → Nat → Int32} {tk ns np na : Nat} (h : MI g ar tk ns np na) : ∀ i, i < 9600 → ∃ v, v < 8 ∧ ar 2 i = nI v := h.2.2.2.2.2.2.2.2.2.1
theorem MI.man {g : Nat → Int32} {ar : Nat → Nat → Int32} {tk ns np na : Nat} (h : MI g ar tk ns np na) : ∀ i, ns ≤ i → i < 120 → ar 5 i = 0 := h.2.2.2.2.2.2.2.2.2.2.1
theorem MI.par {g : Nat → Int32} {ar : Nat → Nat → Int32} {tk ns np na : Nat} (h : MI g ar tk ns np na) : ∀ a, a < na → ∃ q, q < 64 ∧ ar 18 a = nI q := h.2.2.2.2.2.2.2.2.2.2.2.1
theorem MI.wan {g : Nat → Int32} {ar : Nat → Nat → Int32} {tk ns np na : Nat} (h : MI g ar tk ns np na) : ∀ a, a < na → ar 19 a = (-9) ∨ ∃ q, q < 6 ∧ ar 19 a = nI q := h.2.2.2.2.2.2.2.2.2.2.2.2
theorem MI.ser1 {g : Nat → Int32} {ar : Nat → Nat → Int32} {tk ns np na : Nat} (h : MI g ar tk ns np na) : (g 3 - 1).toInt = (ns : Int) - 1 := by rw [fb_subI (by rw [h.ser.1, ti_1]; omega) (by rw [h.ser.1, ti_1]; have := h.ser.2; omega), h.ser.1, ti_1]
theorem MI.ask1 {g : Nat → Int32} {ar : Nat → Nat → Int32} {tk ns np na : Nat} (h : MI g ar tk ns np na) : (g 17 - 1).toInt = (na : Int) - 1 := by rw [fb_subI (by rw [h.ask.1, ti_1]; omega) (by rw [h.ask.1, ti_1]; have := h.ask.2; omega), h.ask.1, ti_1]
/-- the first place of x, from i on -/
def splF (f : Nat → Int32) (x : Int32) : Nat → Nat → Int32
  | 0, _ => -9
  | n + 1, i => if f i = x then nI i else splF f x n (i + 1)
def spl (f : Nat → Int32) (x : Int32) (n : Nat) : Int32 := splF f x n 0
/-- a sum over the samples that are wanted -/
def smL (p : Nat → Bool) (f : Nat → Int32) : Nat → Int64
  | 0 => 0
  | k + 1 => smL p f k + (bif p k then (f k).toInt64 else 0)
def inSp (f : Nat → Int32) (a b : Int32) (k : Nat) : Bool := decide (a.toInt ≤ (f k).toInt ∧ (f k).toInt ≤ b.toInt)
theorem inSp_lt {f : Nat → Int32} {a b : Int32} {k : Nat} (h : f k < a) : inSp f a b k = false := by
  simp only [inSp, decide_eq_false_iff_not]
  rw [fa_lt] at h
  omega
theorem inSp_gt {f : Nat → Int32} {a b : Int32} {k : Nat} (h : b < f k) : inSp f a b k = false := by
  simp only [inSp, decide_eq_false_iff_not]
  rw [fa_lt] at h
  omega
theorem inSp_in {f : Nat → Int32} {a b : Int32} {k : Nat} (h : ¬ f k < a) (h2 : ¬ b < f k) : inSp f a b k = true := by
  simp only [inSp, decide_eq_true_eq]
  rw [fa_lt] at h h2
  omega
theorem smL_t {p : Nat → Bool} {f : Nat → Int32} {k : Nat} (h : p k = true) : smL p f (k + 1) = smL p f k + (f k).toInt64 := by simp [smL, h]
theorem smL_f {p : Nat → Bool} {f : Nat → Int32} {k : Nat} (h : p k = false) : smL p f (k + 1) = smL p f k + 0 := by simp [smL, h]
theorem inX6_isSpan_X6 : ∀ x ∈ wsX60, x ∈ wsX6_isSpan := by decide +kernel
theorem kwX6_isSpan_65 : Cond.fieldLink RX6 65 "SeriesMarksModel" "tick" "I" ∈ wsX6_isSpan := by decide +kernel
set_option maxHeartbeats 4000000 in
set_option maxRecDepth 100000 in
theorem c_X6_isSpan (l : Launch) (E : gE) (zw : va_W) {ad : Nat → Nat} {g : Nat → Int32} {ar : Nat → Nat → Int32} (hM : mAt zw (mcl E ad g ar)) (f t : Int32) : CtI l yX6_isSpan wsX6_isSpan ({ frames := 1, cells := 0, slots := 0, locals := 25 }) E [.ref (ad 0), .int f, .int t] zw (fun r w1 => zw = w1 ∧ r = b01 (0 ≤ t.toInt ∧ t.toInt ≤ (g 0).toInt ∧ 0 ≤ f.toInt ∧ f.toInt ≤ t.toInt)) 0 0 := by
  refine Ct.of (cc := cX6_isSpan) (nL := 3) (ret := (some .boolean)) (by decide) rfl (Nat.le_of_ble_eq_true rfl) ?_
  intro p e s m args below meth c C hr hnm
  refine v_eqlv (lv9 := [(0, .ref (ad 0)), (1, .int f), (2, .int t)]) rfl ?_
  refine v_iload_n C dX6_isSpan_0 rfl rfl ?_
  refine v_i2l C dX6_isSpan_1 rfl ?_
  refine v_lconst (v := 0) C dX6_isSpan_2 (by decide) ?_
  refine v_aload_n C dX6_isSpan_3 rfl rfl ?_
  refine vm_get (v := .int (g 0)) C hM inX6_isSpan_X6 0 (by decide) kwX6_isSpan_65 rfl rfl dX6_isSpan_4 ?_
  refine v_i2l C dX6_isSpan_7 rfl ?_
  refine v_callSi C (c_X6_in l E zw _ _ _) (va_cwS 3 C.1.2.2.2.2 gX6_isSpan_X6_in rfl rfl rfl (by decide +kernel) ⟨by decide, by decide⟩) rfl rfl (Nat.le_of_ble_eq_true rfl) dX6_isSpan_8 ⟨Nat.le_of_ble_eq_true rfl, Nat.le_of_ble_eq_true rfl⟩ (fun r w1 hp => ?_)
  obtain ⟨rfl, rfl⟩ := hp
  refine v_if_eq (tgt := 29) C dX6_isSpan_11 (by decide) (fun c11 => ?_) (fun c11 => ?_)
  · have c11 := b01_0 c11
    simp only [t64, tl_0] at c11
    refine v_iconst (v := 0) C dX6_isSpan_29 (by decide) ?_
    exact v_zret C hr dX6_isSpan_30 (by decide) (Nat.le_refl _) (Nat.le_refl _) ⟨_, rfl, ⟨rfl, (by first | exact (b01_t (by omega)).symm | exact (b01_f (by omega)).symm)⟩⟩
  · have c11 := b01_n c11
    simp only [t64, tl_0] at c11
    refine v_iload_n C dX6_isSpan_14 rfl rfl ?_
    refine v_i2l C dX6_isSpan_15 rfl ?_
    refine v_lconst (v := 0) C dX6_isSpan_16 (by decide) ?_
    refine v_iload_n C dX6_isSpan_17 rfl rfl ?_
    refine v_i2l C dX6_isSpan_18 rfl ?_
    refine v_callSi C (c_X6_in l E zw _ _ _) (va_cwS 3 C.1.2.2.2.2 gX6_isSpan_X6_in rfl rfl rfl (by decide +kernel) ⟨by decide, by decide⟩) rfl rfl (Nat.le_of_ble_eq_true rfl) dX6_isSpan_19 ⟨Nat.le_of_ble_eq_true rfl, Nat.le_of_ble_eq_true rfl⟩ (fun r w1 hp => ?_)
    obtain ⟨rfl, rfl⟩ := hp
    refine v_if_eq (tgt := 29) C dX6_isSpan_22 (by decide) (fun c22 => ?_) (fun c22 => ?_)
    · have c22 := b01_0 c22
      simp only [t64, tl_0] at c22
      refine v_iconst (v := 0) C dX6_isSpan_29 (by decide) ?_
      exact v_zret C hr dX6_isSpan_30 (by decide) (Nat.le_refl _) (Nat.le_refl _) ⟨_, rfl, ⟨rfl, (by first | exact (b01_t (by omega)).symm | exact (b01_f (by omega)).symm)⟩⟩
    · have c22 := b01_n c22
      simp only [t64, tl_0] at c22
      refine v_iconst (v := 1) C dX6_isSpan_25 (by decide) ?_
      refine v_goto (tgt := 30) C dX6_isSpan_26 (by decide) ?_
      exact v_zret C hr dX6_isSpan_30 (by decide) (Nat.le_refl _) (Nat.le_refl _) ⟨_, rfl, ⟨rfl, (by first | exact (b01_t (by omega)).symm | exact (b01_f (by omega)).symm)⟩⟩
theorem inX6_isAsking_X6 : ∀ x ∈ wsX60, x ∈ wsX6_isAsking := by decide +kernel
theorem kwX6_isAsking_140 : Cond.fieldLink RX6 140 "SeriesMarksModel" "askings" "I" ∈ wsX6_isAsking := by decide +kernel
set_option maxHeartbeats 4000000 in
set_option maxRecDepth 100000 in
theorem c_X6_isAsking (l : Launch) (E : gE) (zw : va_W) {ad : Nat → Nat} {g : Nat → Int32} {ar : Nat → Nat → Int32} (hM : mAt zw (mcl E ad g ar)) {tk ns np na : Nat} (hI : MI g ar tk ns np na) (x : Int32) : CtI l yX6_isAsking wsX6_isAsking ({ frames := 1, cells := 0, slots := 0, locals := 25 }) E [.ref (ad 0), .int x] zw (fun r w1 => zw = w1 ∧ r = b01 (0 ≤ x.toInt ∧ x.toInt < na)) 0 0 := by
  refine Ct.of (cc := cX6_isAsking) (nL := 2) (ret := (some .boolean)) (by decide) rfl (Nat.le_of_ble_eq_true rfl) ?_
  intro p e s m args below meth c C hr hnm
  refine v_eqlv (lv9 := [(0, .ref (ad 0)), (1, .int x)]) rfl ?_
  refine v_iload_n C dX6_isAsking_0 rfl rfl ?_
  refine v_i2l C dX6_isAsking_1 rfl ?_
  refine v_lconst (v := 0) C dX6_isAsking_2 (by decide) ?_
  refine v_aload_n C dX6_isAsking_3 rfl rfl ?_
  refine vm_get (v := .int (g 17)) C hM inX6_isAsking_X6 17 (by decide) kwX6_isAsking_140 rfl rfl dX6_isAsking_4 ?_
  refine v_iconst (v := 1) C dX6_isAsking_7 (by decide) ?_
  refine v_isub C dX6_isAsking_8 ?_
  refine v_i2l C dX6_isAsking_9 rfl ?_
  refine v_callSi C (c_X6_in l E zw _ _ _) (va_cwS 3 C.1.2.2.2.2 gX6_isAsking_X6_in rfl rfl rfl (by decide +kernel) ⟨by decide, by decide⟩) rfl rfl (Nat.le_of_ble_eq_true rfl) dX6_isAsking_10 ⟨Nat.le_of_ble_eq_true rfl, Nat.le_of_ble_eq_true rfl⟩ (fun r w1 hp => ?_)
  obtain ⟨rfl, rfl⟩ := hp
  refine v_at (pc9 := 13) rfl ?_
  exact v_zret C hr dX6_isAsking_13 (b01_or _) (Nat.le_refl _) (Nat.le_refl _) ⟨_, rfl, ⟨rfl, b01_c (by rw [t64, t64, tl_0, hI.ask1]; omega)⟩⟩
theorem inX6_isWanted_X6 : ∀ x ∈ wsX60, x ∈ wsX6_isWanted := by decide +kernel
theorem kwX6_isWanted_53 : Cond.fieldLink RX6 53 "SeriesMarksModel" "wantedMark" "[I" ∈ wsX6_isWanted := by decide +kernel
theorem kwX6_isWanted_56 : Cond.fieldLink RX6 56 "SeriesMarksModel" "wantedValue" "[I" ∈ wsX6_isWanted := by decide +kernel
set_option maxHeartbeats 4000000 in
set_option maxRecDepth 100000 in
theorem c_X6_isWanted (l : Launch) (E : gE) (zw : va_W) {ad : Nat → Nat} {g : Nat → Int32} {ar : Nat → Nat → Int32} (hM : mAt zw (mcl E ad g ar)) {tk ns np na : Nat} (hI : MI g ar tk ns np na) (a x : Int32) (h1 : 0 ≤ a.toInt) (h2 : a.toInt < na) : CtI l yX6_isWanted wsX6_isWanted ({ frames := 1, cells := 0, slots := 0, locals := 21 }) E [.ref (ad 0), .int a, .int x] zw (fun r w1 => zw = w1 ∧ r = b01 (ar 19 a.toNatClampNeg = (-9) ∨ dgt x (ar 19 a.toNatClampNeg) = ar 20 a.toNatClampNeg)) 0 0 := by
  refine Ct.of (cc := cX6_isWanted) (nL := 3) (ret := (some .boolean)) (by decide) rfl (Nat.le_of_ble_eq_true rfl) ?_
  intro p e s m args below meth c C hr hnm
  refine v_eqlv (lv9 := [(0, .ref (ad 0)), (1, .int a), (2, .int x)]) rfl ?_
  refine v_aload_n C dX6_isWanted_0 rfl rfl ?_
  refine vm_get (v := .ref (ad 19)) C hM inX6_isWanted_X6 19 (by decide) kwX6_isWanted_53 rfl rfl dX6_isWanted_1 ?_
  refine v_iload_n C dX6_isWanted_4 rfl rfl ?_
  refine vm_iald (f := ar 19) C hM 15 rfl (in_of (by omega) (by have := hI.ask.2; omega)) dX6_isWanted_5 ?_
  refine v_bipush (v := (-9)) C dX6_isWanted_6 (by decide) ?_
  refine v_icmp_eq (tgt := 30) C dX6_isWanted_8 (by decide) (fun c8 => ?_) (fun c8 => ?_)
  · refine v_iconst (v := 1) C dX6_isWanted_30 (by decide) ?_
    refine v_goto (tgt := 35) C dX6_isWanted_31 (by decide) ?_
    exact v_zret C hr dX6_isWanted_35 (by decide) (Nat.le_refl _) (Nat.le_refl _) ⟨_, rfl, ⟨rfl, (by first | exact (b01_t (Or.inl c8)).symm | exact (b01_t (Or.inr (Decidable.of_not_not c27))).symm | exact (b01_t (Or.inr c27)).symm | exact (b01_f (fun h => h.elim c8 c27)).symm)⟩⟩
  · refine v_iload_n C dX6_isWanted_11 rfl rfl ?_
    refine v_aload_n C dX6_isWanted_12 rfl rfl ?_
    refine vm_get (v := .ref (ad 19)) C hM inX6_isWanted_X6 19 (by decide) kwX6_isWanted_53 rfl rfl dX6_isWanted_13 ?_
    refine v_iload_n C dX6_isWanted_16 rfl rfl ?_
    refine vm_iald (f := ar 19) C hM 15 rfl (in_of (by omega) (by have := hI.ask.2; omega)) dX6_isWanted_17 ?_
    refine v_callSi C (c_X6_digit l E zw _ _) (va_cwS 2 C.1.2.2.2.2 gX6_isWanted_X6_digit rfl rfl rfl (by decide +kernel) ⟨by decide, by decide⟩) rfl rfl (Nat.le_of_ble_eq_true rfl) dX6_isWanted_18 ⟨Nat.le_of_ble_eq_true rfl, Nat.le_of_ble_eq_true rfl⟩ (fun r w1 hp => ?_)
    obtain ⟨rfl, rfl⟩ := hp
    refine v_aload_n C dX6_isWanted_21 rfl rfl ?_
    refine vm_get (v := .ref (ad 20)) C hM inX6_isWanted_X6 20 (by decide) kwX6_isWanted_56 rfl rfl dX6_isWanted_22 ?_
    refine v_iload_n C dX6_isWanted_25 rfl rfl ?_
    refine v_at (pc9 := 26) rfl ?_
    refine vm_iald (f := ar 20) C hM 16 rfl (in_of (by omega) (by have := hI.ask.2; omega)) dX6_isWanted_26 ?_
    refine v_icmp_ne (tgt := 34) C dX6_isWanted_27 (by decide) (fun c27 => ?_) (fun c27 => ?_)
    · refine v_iconst (v := 0) C dX6_isWanted_34 (by decide) ?_
      exact v_zret C hr dX6_isWanted_35 (by decide) (Nat.le_refl _) (Nat.le_refl _) ⟨_, rfl, ⟨rfl, (by first | exact (b01_t (Or.inl c8)).symm | exact (b01_t (Or.inr (Decidable.of_not_not c27))).symm | exact (b01_t (Or.inr c27)).symm | exact (b01_f (fun h => h.elim c8 c27)).symm)⟩⟩
    · refine v_iconst (v := 1) C dX6_isWanted_30 (by decide) ?_
      refine v_goto (tgt := 35) C dX6_isWanted_31 (by decide) ?_
      exact v_zret C hr dX6_isWanted_35 (by decide) (Nat.le_refl _) (Nat.le_refl _) ⟨_, rfl, ⟨rfl, (by first | exact (b01_t (Or.inl c8)).symm | exact (b01_t (Or.inr (Decidable.of_not_not c27))).symm | exact (b01_t (Or.inr c27)).symm | exact (b01_f (fun h => h.elim c8 c27)).symm)⟩⟩
theorem inX6_keyOf_X6 : ∀ x ∈ wsX60, x ∈ wsX6_keyOf := by decide +kernel
theorem kwX6_keyOf_50 : Cond.fieldLink RX6 50 "SeriesMarksModel" "parts" "[I" ∈ wsX6_keyOf := by decide +kernel
set_option maxHeartbeats 4000000 in
set_option maxRecDepth 100000 in
theorem c_X6_keyOf (l : Launch) (E : gE) (zw : va_W) {ad : Nat → Nat} {g : Nat → Int32} {ar : Nat → Nat → Int32} (hM : mAt zw (mcl E ad g ar)) {tk ns np na : Nat} (hI : MI g ar tk ns np na) (a x : Int32) (h1 : 0 ≤ a.toInt) (h2 : a.toInt < na) : CtI l yX6_keyOf wsX6_keyOf ({ frames := 1, cells := 0, slots := 0, locals := 23 }) E [.ref (ad 0), .int a, .int x] zw (fun r w1 => zw = w1 ∧ r = woI x (63 &&& (ar 18 a.toNatClampNeg ^^^ (-1))) 6) 0 0 := by
  refine Ct.of (cc := cX6_keyOf) (nL := 3) (ret := (some .int)) (by decide) rfl (Nat.le_of_ble_eq_true rfl) ?_
  intro p e s m args below meth c C hr hnm
  refine v_eqlv (lv9 := [(0, .ref (ad 0)), (1, .int a), (2, .int x)]) rfl ?_
  refine v_iload_n C dX6_keyOf_0 rfl rfl ?_
  refine v_bipush (v := 63) C dX6_keyOf_1 (by decide) ?_
  refine v_aload_n C dX6_keyOf_3 rfl rfl ?_
  refine vm_get (v := .ref (ad 18)) C hM inX6_keyOf_X6 18 (by decide) kwX6_keyOf_50 rfl rfl dX6_keyOf_4 ?_
  refine v_iload_n C dX6_keyOf_7 rfl rfl ?_
  refine vm_iald (f := ar 18) C hM 14 rfl (in_of (by omega) (by have := hI.ask.2; omega)) dX6_keyOf_8 ?_
  refine v_iconst (v := (-1)) C dX6_keyOf_9 (by decide) ?_
  refine v_ixor C dX6_keyOf_10 ?_
  refine v_iand C dX6_keyOf_11 ?_
  refine v_at (pc9 := 12) rfl ?_
  refine v_callSi C (c_X6_without l E zw _ _) (va_cwS 2 C.1.2.2.2.2 gX6_keyOf_X6_without rfl rfl rfl (by decide +kernel) ⟨by decide, by decide⟩) rfl rfl (Nat.le_of_ble_eq_true rfl) dX6_keyOf_12 ⟨Nat.le_of_ble_eq_true rfl, Nat.le_of_ble_eq_true rfl⟩ (fun r w1 hp => ?_)
  obtain ⟨rfl, rfl⟩ := hp
  exact v_iret C hr dX6_keyOf_15 (Nat.le_refl _) (Nat.le_refl _) ⟨_, rfl, ⟨rfl, rfl⟩⟩
theorem inX6_place_X6 : ∀ x ∈ wsX60, x ∈ wsX6_place := by decide +kernel
theorem kwX6_place_81 : Cond.fieldLink RX6 81 "SeriesMarksModel" "series" "I" ∈ wsX6_place := by decide +kernel
theorem kwX6_place_17 : Cond.fieldLink RX6 17 "SeriesMarksModel" "name" "[I" ∈ wsX6_place := by decide +kernel
set_option maxHeartbeats 4000000 in
set_option maxRecDepth 100000 in
theorem lp_X6_place {p : Program} {l : Launch} {e : Env} {R : Room} {s : State} {m : MethodId} {args : Array Value} {below : List Frame} {meth : Method} {c : Code} {E : gE} {zw : va_W} (C : gC p s m args meth c E cX6_place 3 wsX6_place yX6_place.cls) (hr : meth.sig.returnType = some .int) {ad : Nat → Nat} {g : Nat → Int32} {ar : Nat → Nat → Int32} (hM : mAt zw (mcl E ad g ar)) {tk ns np na : Nat} (hI : MI g ar tk ns np na) (x : Int32) : ∀ n i : Nat, i + n = ns → splF (ar 4) x n i = spl (ar 4) x ns → V p l e R s m args below meth c E 3 zw 0 0 (MQ below (gQ E (fun v w1 => ∃ r : Int32, v = some (.int r) ∧ (zw = w1 ∧ r = spl (ar 4) x ns))) args s 0 0 (gA E)) 2 [(0, .ref (ad 0)), (1, .int x), (2, .int (nI i))] [] := by
  intro n
  induction n with
  | zero =>
    intro i hi hR
    obtain rfl : i = ns := by omega
    refine v_iload_n C dX6_place_2 rfl rfl ?_
    refine v_aload_n C dX6_place_3 rfl rfl ?_
    refine vm_get (v := .int (g 3)) C hM inX6_place_X6 3 (by decide) kwX6_place_81 rfl rfl dX6_place_4 ?_
    refine v_icmp_ge (tgt := 28) C dX6_place_7 (by decide) (fun c7 => ?_) (fun c7 => absurd (by rw [hI.2.1.1]; exact nI_le (Nat.le_refl _) (by have := hI.ser.2; omega)) c7)
    refine v_bipush (v := (-9)) C dX6_place_28 (by decide) ?_
    exact v_iret C hr dX6_place_30 (Nat.le_refl _) (Nat.le_refl _) ⟨_, rfl, ⟨rfl, hR⟩⟩
  | succ n ih =>
    intro i hi hR
    refine v_iload_n C dX6_place_2 rfl rfl ?_
    refine v_aload_n C dX6_place_3 rfl rfl ?_
    refine vm_get (v := .int (g 3)) C hM inX6_place_X6 3 (by decide) kwX6_place_81 rfl rfl dX6_place_4 ?_
    refine v_icmp_ge (tgt := 28) C dX6_place_7 (by decide) (fun c7 => absurd c7 (by rw [hI.2.1.1]; exact nI_ge (by omega) (by have := hI.ser.2; omega))) (fun c7 => ?_)
    refine v_aload_n C dX6_place_10 rfl rfl ?_
    refine vm_get (v := .ref (ad 4)) C hM inX6_place_X6 4 (by decide) kwX6_place_17 rfl rfl dX6_place_11 ?_
    refine v_iload_n C dX6_place_14 rfl rfl ?_
    refine vm_iald (f := ar 4) C hM 3 rfl (vp_in_nI (by have := hI.ser.2; omega) (by decide)) dX6_place_15 ?_
    rw [nI_clamp (show i < 2 ^ 31 by have := hI.ser.2; omega)]
    refine v_iload_n C dX6_place_16 rfl rfl ?_
    refine v_at (pc9 := 17) rfl ?_
    refine v_icmp_ne (tgt := 22) C dX6_place_17 (by decide) (fun c17 => ?_) (fun c17 => ?_)
    · refine v_iincN C dX6_place_22 rfl (by decide) rfl ?_
      refine v_goto (tgt := 2) C dX6_place_25 (by decide) ?_
      exact ih (i + 1) (by omega) (by rw [← hR]; exact (if_neg c17).symm)
    · refine v_iload_n C dX6_place_20 rfl rfl ?_
      exact v_iret C hr dX6_place_21 (Nat.le_refl _) (Nat.le_refl _) ⟨_, rfl, ⟨rfl, by rw [← hR]; exact (if_pos c17).symm⟩⟩
set_option maxHeartbeats 4000000 in
set_option maxRecDepth 100000 in
theorem c_X6_place (l : Launch) (E : gE) (zw : va_W) {ad : Nat → Nat} {g : Nat → Int32} {ar : Nat → Nat → Int32} (hM : mAt zw (mcl E ad g ar)) {tk ns np na : Nat} (hI : MI g ar tk ns np na) (x : Int32) : CtI l yX6_place wsX6_place ({ frames := 0, cells := 0, slots := 0, locals := 0 }) E [.ref (ad 0), .int x] zw (fun r w1 => zw = w1 ∧ r = spl (ar 4) x ns) 0 0 := by
  refine Ct.of (cc := cX6_place) (nL := 3) (ret := (some .int)) (by decide) rfl (Nat.le_of_ble_eq_true rfl) ?_
  intro p e s m args below meth c C hr hnm
  refine v_eqlv (lv9 := [(0, .ref (ad 0)), (1, .int x)]) rfl ?_
  refine v_iconst (v := 0) C dX6_place_0 (by decide) ?_
  refine v_tov nI_0.symm ?_
  refine v_istore_n C dX6_place_1 rfl (by decide) rfl ?_
  exact lp_X6_place C hr hM hI x ns 0 (Nat.zero_add _) rfl
set_option maxHeartbeats 4000000 in
set_option maxRecDepth 100000 in
theorem c_X6_find (l : Launch) (E : gE) (zw : va_W) {ad : Nat → Nat} {g : Nat → Int32} {ar : Nat → Nat → Int32} (hM : mAt zw (mcl E ad g ar)) {tk ns np na : Nat} (hI : MI g ar tk ns np na) (x : Int32) : CtI l yX6_find wsX6_find ({ frames := 2, cells := 0, slots := 0, locals := 45 }) E [.ref (ad 0), .int x] zw (fun r w1 => zw = w1 ∧ r = if 0 ≤ x.toInt ∧ x.toInt ≤ 262143 then spl (ar 4) x ns else (-2)) 0 0 := by
  refine Ct.of (cc := cX6_find) (nL := 2) (ret := (some .int)) (by decide) rfl (Nat.le_of_ble_eq_true rfl) ?_
  intro p e s m args below meth c C hr hnm
  refine v_eqlv (lv9 := [(0, .ref (ad 0)), (1, .int x)]) rfl ?_
  refine v_iload_n C dX6_find_0 rfl rfl ?_
  refine v_callSi C (c_X6_isName l E zw _) (va_cwS 1 C.1.2.2.2.2 gX6_find_X6_isName rfl rfl rfl (by decide +kernel) ⟨by decide, by decide⟩) rfl rfl (Nat.le_of_ble_eq_true rfl) dX6_find_1 ⟨Nat.le_of_ble_eq_true rfl, Nat.le_of_ble_eq_true rfl⟩ (fun r w1 hp => ?_)
  obtain ⟨rfl, rfl⟩ := hp
  refine v_if_eq (tgt := 15) C dX6_find_4 (by decide) (fun c4 => ?_) (fun c4 => ?_)
  · have c4 := b01_0 c4
    refine v_bipush (v := (-2)) C dX6_find_15 (by decide) ?_
    exact v_iret C hr dX6_find_17 (Nat.le_refl _) (Nat.le_refl _) ⟨_, rfl, ⟨rfl, (by first | exact (if_pos c4).symm | exact (if_neg c4).symm)⟩⟩
  · have c4 := b01_n c4
    refine v_aload_n C dX6_find_7 rfl rfl ?_
    refine v_iload_n C dX6_find_8 rfl rfl ?_
    refine v_callVi C (c_X6_place l E zw hM hI _) (cwV 1 C.1.2.2.2.2 gX6_find_X6_place rfl rfl rfl (by decide +kernel) ⟨by decide, by decide⟩) 12 7 (hM 0 _ rfl) rfl rfl rfl (Nat.le_of_ble_eq_true rfl) dX6_find_9 ⟨Nat.le_of_ble_eq_true rfl, Nat.le_of_ble_eq_true rfl⟩ (fun r w1 hp => ?_)
    obtain ⟨rfl, rfl⟩ := hp
    refine v_goto (tgt := 17) C dX6_find_12 (by decide) ?_
    exact v_iret C hr dX6_find_17 (Nat.le_refl _) (Nat.le_refl _) ⟨_, rfl, ⟨rfl, (by first | exact (if_pos c4).symm | exact (if_neg c4).symm)⟩⟩
theorem inX6_growthOf_X6 : ∀ x ∈ wsX60, x ∈ wsX6_growthOf := by decide +kernel
theorem kwX6_growthOf_94 : Cond.fieldLink RX6 94 "SeriesMarksModel" "samples" "I" ∈ wsX6_growthOf := by decide +kernel
theorem kwX6_growthOf_35 : Cond.fieldLink RX6 35 "SeriesMarksModel" "of" "[I" ∈ wsX6_growthOf := by decide +kernel
theorem kwX6_growthOf_38 : Cond.fieldLink RX6 38 "SeriesMarksModel" "at" "[I" ∈ wsX6_growthOf := by decide +kernel
theorem kwX6_growthOf_41 : Cond.fieldLink RX6 41 "SeriesMarksModel" "grown" "[I" ∈ wsX6_growthOf := by decide +kernel
set_option maxHeartbeats 4000000 in
set_option maxRecDepth 100000 in
theorem lp_X6_growthOf {p : Program} {l : Launch} {e : Env} {R : Room} {s : State} {m : MethodId} {args : Array Value} {below : List Frame} {meth : Method} {c : Code} {cells slots : Nat} {Q : State → Prop} {E : gE} {zw : va_W} (C : gC p s m args meth c E cX6_growthOf 7 wsX6_growthOf yX6_growthOf.cls) {ad : Nat → Nat} {g : Nat → Int32} {ar : Nat → Nat → Int32} (hM : mAt zw (mcl E ad g ar)) {tk ns np na : Nat} (hI : MI g ar tk ns np na) {i0 f t : Int32} (hK : V p l e R s m args below meth c E 7 zw cells slots Q 71 [(0, .ref (ad 0)), (1, .int i0), (2, .int f), (3, .int t), (4, .long (smL (fun k => decide (ar 11 k = i0) && inSp (ar 12) f t k) (ar 13) np)), (6, .int (nI np))] []) : ∀ n i : Nat, i + n = np → V p l e R s m args below meth c E 7 zw cells slots Q 6 [(0, .ref (ad 0)), (1, .int i0), (2, .int f), (3, .int t), (4, .long (smL (fun k => decide (ar 11 k = i0) && inSp (ar 12) f t k) (ar 13) i)), (6, .int (nI i))] [] := by
  intro n
  induction n with
  | zero =>
    intro i hi
    obtain rfl : i = np := by omega
    refine v_iload C dX6_growthOf_6 rfl ?_
    refine v_aload_n C dX6_growthOf_8 rfl rfl ?_
    refine vm_get (v := .int (g 10)) C hM inX6_growthOf_X6 10 (by decide) kwX6_growthOf_94 rfl rfl dX6_growthOf_9 ?_
    refine v_icmp_ge (tgt := 71) C dX6_growthOf_12 (by decide) (fun c12 => ?_) (fun c12 => absurd (by rw [hI.2.2.1.1]; exact nI_le (Nat.le_refl _) (by have := hI.sam.2; omega)) c12)
    exact hK
  | succ n ih =>
    intro i hi
    refine v_iload C dX6_growthOf_6 rfl ?_
    refine v_aload_n C dX6_growthOf_8 rfl rfl ?_
    refine vm_get (v := .int (g 10)) C hM inX6_growthOf_X6 10 (by decide) kwX6_growthOf_94 rfl rfl dX6_growthOf_9 ?_
    refine v_icmp_ge (tgt := 71) C dX6_growthOf_12 (by decide) (fun c12 => absurd c12 (by rw [hI.2.2.1.1]; exact nI_ge (by omega) (by have := hI.sam.2; omega))) (fun c12 => ?_)
    refine v_lload C dX6_growthOf_15 rfl ?_
    refine v_aload_n C dX6_growthOf_17 rfl rfl ?_
    refine vm_get (v := .ref (ad 11)) C hM inX6_growthOf_X6 11 (by decide) kwX6_growthOf_35 rfl rfl dX6_growthOf_18 ?_
    refine v_iload C dX6_growthOf_21 rfl ?_
    refine vm_iald (f := ar 11) C hM 9 rfl (vp_in_nI (by have := hI.sam.2; omega) (by decide)) dX6_growthOf_23 ?_
    refine v_at (pc9 := 24) rfl ?_
    rw [nI_clamp (show i < 2 ^ 31 by have := hI.sam.2; omega)]
    refine v_iload_n C dX6_growthOf_24 rfl rfl ?_
    refine v_icmp_ne (tgt := 61) C dX6_growthOf_25 (by decide) (fun c25 => ?_) (fun c25 => ?_)
    · have h9 : (fun k => decide (ar 11 k = i0) && inSp (ar 12) f t k) i = false := by simp [c25]
      refine v_lconst (v := 0) C dX6_growthOf_61 (by decide) ?_
      refine v_ladd C dX6_growthOf_62 ?_
      refine v_tovl (y := smL (fun k => decide (ar 11 k = i0) && inSp (ar 12) f t k) (ar 13) (i + 1)) (by first | exact (smL_t h9).symm | exact (smL_f h9).symm) ?_
      refine v_lstore C dX6_growthOf_63 (by decide) rfl ?_
      refine v_iincN C dX6_growthOf_65 rfl (by decide) rfl ?_
      refine v_goto (tgt := 6) C dX6_growthOf_68 (by decide) ?_
      exact ih (i + 1) (by omega)
    · refine v_aload_n C dX6_growthOf_28 rfl rfl ?_
      refine vm_get (v := .ref (ad 12)) C hM inX6_growthOf_X6 12 (by decide) kwX6_growthOf_38 rfl rfl dX6_growthOf_29 ?_
      refine v_iload C dX6_growthOf_32 rfl ?_
      refine vm_iald (f := ar 12) C hM 10 rfl (vp_in_nI (by have := hI.sam.2; omega) (by decide)) dX6_growthOf_34 ?_
      rw [nI_clamp (show i < 2 ^ 31 by have := hI.sam.2; omega)]
      refine v_iload_n C dX6_growthOf_35 rfl rfl ?_
      refine v_icmp_lt (tgt := 61) C dX6_growthOf_36 (by decide) (fun c36 => ?_) (fun c36 => ?_)
      · have h9 : (fun k => decide (ar 11 k = i0) && inSp (ar 12) f t k) i = false := by simp [inSp_lt c36]
        refine v_lconst (v := 0) C dX6_growthOf_61 (by decide) ?_
        refine v_ladd C dX6_growthOf_62 ?_
        refine v_tovl (y := smL (fun k => decide (ar 11 k = i0) && inSp (ar 12) f t k) (ar 13) (i + 1)) (by first | exact (smL_t h9).symm | exact (smL_f h9).symm) ?_
        refine v_lstore C dX6_growthOf_63 (by decide) rfl ?_
        refine v_iincN C dX6_growthOf_65 rfl (by decide) rfl ?_
        refine v_goto (tgt := 6) C dX6_growthOf_68 (by decide) ?_
        exact ih (i + 1) (by omega)
      · refine v_aload_n C dX6_growthOf_39 rfl rfl ?_
        refine vm_get (v := .ref (ad 12)) C hM inX6_growthOf_X6 12 (by decide) kwX6_growthOf_38 rfl rfl dX6_growthOf_40 ?_
        refine v_iload C dX6_growthOf_43 rfl ?_
        refine vm_iald (f := ar 12) C hM 10 rfl (vp_in_nI (by have := hI.sam.2; omega) (by decide)) dX6_growthOf_45 ?_
        rw [nI_clamp (show i < 2 ^ 31 by have := hI.sam.2; omega)]
        refine v_iload_n C dX6_growthOf_46 rfl rfl ?_
        refine v_icmp_gt (tgt := 61) C dX6_growthOf_47 (by decide) (fun c47 => ?_) (fun c47 => ?_)
        · have h9 : (fun k => decide (ar 11 k = i0) && inSp (ar 12) f t k) i = false := by simp [inSp_gt c47]
          refine v_lconst (v := 0) C dX6_growthOf_61 (by decide) ?_
          refine v_ladd C dX6_growthOf_62 ?_
          refine v_tovl (y := smL (fun k => decide (ar 11 k = i0) && inSp (ar 12) f t k) (ar 13) (i + 1)) (by first | exact (smL_t h9).symm | exact (smL_f h9).symm) ?_
          refine v_lstore C dX6_growthOf_63 (by decide) rfl ?_
          refine v_iincN C dX6_growthOf_65 rfl (by decide) rfl ?_
          refine v_goto (tgt := 6) C dX6_growthOf_68 (by decide) ?_
          exact ih (i + 1) (by omega)
        · have h9 : (fun k => decide (ar 11 k = i0) && inSp (ar 12) f t k) i = true := by simp [c25, inSp_in c36 c47]
          refine v_aload_n C dX6_growthOf_50 rfl rfl ?_
          refine vm_get (v := .ref (ad 13)) C hM inX6_growthOf_X6 13 (by decide) kwX6_growthOf_41 rfl rfl dX6_growthOf_51 ?_
          refine v_iload C dX6_growthOf_54 rfl ?_
          refine vm_iald (f := ar 13) C hM 11 rfl (vp_in_nI (by have := hI.sam.2; omega) (by decide)) dX6_growthOf_56 ?_
          rw [nI_clamp (show i < 2 ^ 31 by have := hI.sam.2; omega)]
          refine v_i2l C dX6_growthOf_57 rfl ?_
          refine v_goto (tgt := 62) C dX6_growthOf_58 (by decide) ?_
          refine v_ladd C dX6_growthOf_62 ?_
          refine v_tovl (y := smL (fun k => decide (ar 11 k = i0) && inSp (ar 12) f t k) (ar 13) (i + 1)) (by first | exact (smL_t h9).symm | exact (smL_f h9).symm) ?_
          refine v_lstore C dX6_growthOf_63 (by decide) rfl ?_
          refine v_iincN C dX6_growthOf_65 rfl (by decide) rfl ?_
          refine v_at (pc9 := 68) rfl ?_
          refine v_goto (tgt := 6) C dX6_growthOf_68 (by decide) ?_
          exact ih (i + 1) (by omega)
set_option maxHeartbeats 4000000 in
set_option maxRecDepth 100000 in
theorem c_X6_growthOf (l : Launch) (E : gE) (zw : va_W) {ad : Nat → Nat} {g : Nat → Int32} {ar : Nat → Nat → Int32} (hM : mAt zw (mcl E ad g ar)) {tk ns np na : Nat} (hI : MI g ar tk ns np na) (i0 f t : Int32) : CtL l yX6_growthOf wsX6_growthOf ({ frames := 0, cells := 0, slots := 0, locals := 0 }) E [.ref (ad 0), .int i0, .int f, .int t] zw (fun r w1 => zw = w1 ∧ r = smL (fun k => decide (ar 11 k = i0) && inSp (ar 12) f t k) (ar 13) np) 0 0 := by
  refine Ct.of (cc := cX6_growthOf) (nL := 7) (ret := (some .long)) (by decide) rfl (Nat.le_of_ble_eq_true rfl) ?_
  intro p e s m args below meth c C hr hnm
  refine v_eqlv (lv9 := [(0, .ref (ad 0)), (1, .int i0), (2, .int f), (3, .int t)]) rfl ?_
  refine v_lconst (v := 0) C dX6_growthOf_0 (by decide) ?_
  refine v_lstore C dX6_growthOf_1 (by decide) rfl ?_
  refine v_iconst (v := 0) C dX6_growthOf_3 (by decide) ?_
  refine v_tov nI_0.symm ?_
  refine v_istore C dX6_growthOf_4 (by decide) rfl ?_
  refine lp_X6_growthOf C hM hI ?_ np 0 (Nat.zero_add _)
  refine v_lload C dX6_growthOf_71 rfl ?_
  exact v_lret C hr dX6_growthOf_73 (Nat.le_refl _) (Nat.le_refl _) ⟨_, rfl, ⟨rfl, rfl⟩⟩
end
section
theorem inX6_growth_X6 : ∀ x ∈ wsX60, x ∈ wsX6_growth := by decide +kernel
theorem kwX6_growth_81 : Cond.fieldLink RX6 81 "SeriesMarksModel" "series" "I" ∈ wsX6_growth := by decide +kernel
theorem kwX6_growth_c107 : Cond.constantLong RX6 107 (-2) ∈ wsX6_growth := by decide +kernel
theorem kwX6_growth_c97 : Cond.constantLong RX6 97 (-1) ∈ wsX6_growth := by decide +kernel
set_option maxHeartbeats 4000000 in
set_option maxRecDepth 100000 in
theorem c_X6_growth (l : Launch) (E : gE) (zw : va_W) {ad : Nat → Nat} {g : Nat → Int32} {ar : Nat → Nat → Int32} (hM : mAt zw (mcl E ad g ar)) {tk ns np na : Nat} (hI : MI g ar tk ns np na) (i0 f t : Int32) : CtL l yX6_growth wsX6_growth ({ frames := 2, cells := 0, slots := 0, locals := 47 }) E [.ref (ad 0), .int i0, .int f, .int t] zw (fun r w1 => zw = w1 ∧ r = if 0 ≤ i0.toInt ∧ i0.toInt < ns then (if 0 ≤ t.toInt ∧ t.toInt ≤ (g 0).toInt ∧ 0 ≤ f.toInt ∧ f.toInt ≤ t.toInt then smL (fun k => decide (ar 11 k = i0) && inSp (ar 12) f t k) (ar 13) np else (-2)) else (-1)) 0 0 := by
  refine Ct.of (cc := cX6_growth) (nL := 4) (ret := (some .long)) (by decide) rfl (Nat.le_of_ble_eq_true rfl) ?_
  intro p e s m args below meth c C hr hnm
  refine v_eqlv (lv9 := [(0, .ref (ad 0)), (1, .int i0), (2, .int f), (3, .int t)]) rfl ?_
  refine v_iload_n C dX6_growth_0 rfl rfl ?_
  refine v_i2l C dX6_growth_1 rfl ?_
  refine v_lconst (v := 0) C dX6_growth_2 (by decide) ?_
  refine v_aload_n C dX6_growth_3 rfl rfl ?_
  refine vm_get (v := .int (g 3)) C hM inX6_growth_X6 3 (by decide) kwX6_growth_81 rfl rfl dX6_growth_4 ?_
  refine v_iconst (v := 1) C dX6_growth_7 (by decide) ?_
  refine v_isub C dX6_growth_8 ?_
  refine v_i2l C dX6_growth_9 rfl ?_
  refine v_callSi C (c_X6_in l E zw _ _ _) (va_cwS 3 C.1.2.2.2.2 gX6_growth_X6_in rfl rfl rfl (by decide +kernel) ⟨by decide, by decide⟩) rfl rfl (Nat.le_of_ble_eq_true rfl) dX6_growth_10 ⟨Nat.le_of_ble_eq_true rfl, Nat.le_of_ble_eq_true rfl⟩ (fun r w1 hp => ?_)
  obtain ⟨rfl, rfl⟩ := hp
  refine v_at (pc9 := 13) rfl ?_
  refine v_if_ne (tgt := 20) C dX6_growth_13 (by decide) (fun c13 => ?_) (fun c13 => ?_)
  · have c13 := b01_n c13
    simp only [t64, tl_0, hI.ser1] at c13
    refine v_aload_n C dX6_growth_20 rfl rfl ?_
    refine v_iload_n C dX6_growth_21 rfl rfl ?_
    refine v_iload_n C dX6_growth_22 rfl rfl ?_
    refine v_callVi C (c_X6_isSpan l E zw hM _ _) (cwV 2 C.1.2.2.2.2 gX6_growth_X6_isSpan rfl rfl rfl (by decide +kernel) ⟨by decide, by decide⟩) 12 7 (hM 0 _ rfl) rfl rfl rfl (Nat.le_of_ble_eq_true rfl) dX6_growth_23 ⟨Nat.le_of_ble_eq_true rfl, Nat.le_of_ble_eq_true rfl⟩ (fun r w1 hp => ?_)
    obtain ⟨rfl, rfl⟩ := hp
    refine v_if_eq (tgt := 39) C dX6_growth_26 (by decide) (fun c26 => ?_) (fun c26 => ?_)
    · have c26 := b01_0 c26
      refine v_ldc2 C kwX6_growth_c107 dX6_growth_39 ?_
      exact v_lret C hr dX6_growth_42 (Nat.le_refl _) (Nat.le_refl _) ⟨_, rfl, ⟨rfl, by first | (rw [if_pos (show 0 ≤ i0.toInt ∧ i0.toInt < ns by omega), if_pos c26]; done) | (rw [if_pos (show 0 ≤ i0.toInt ∧ i0.toInt < ns by omega), if_neg c26]; done) | (rw [if_neg (show ¬ (0 ≤ i0.toInt ∧ i0.toInt < ns) by omega)]; done)⟩⟩
    · have c26 := b01_n c26
      refine v_aload_n C dX6_growth_29 rfl rfl ?_
      refine v_iload_n C dX6_growth_30 rfl rfl ?_
      refine v_iload_n C dX6_growth_31 rfl rfl ?_
      refine v_iload_n C dX6_growth_32 rfl rfl ?_
      refine v_callVl C (c_X6_growthOf l E zw hM hI _ _ _) (cwV 3 C.1.2.2.2.2 gX6_growth_X6_growthOf rfl rfl rfl (by decide +kernel) ⟨by decide, by decide⟩) 12 7 (hM 0 _ rfl) rfl rfl rfl (Nat.le_of_ble_eq_true rfl) dX6_growth_33 ⟨Nat.le_of_ble_eq_true rfl, Nat.le_of_ble_eq_true rfl⟩ (fun r w1 hp => ?_)
      obtain ⟨rfl, rfl⟩ := hp
      refine v_goto (tgt := 42) C dX6_growth_36 (by decide) ?_
      exact v_lret C hr dX6_growth_42 (Nat.le_refl _) (Nat.le_refl _) ⟨_, rfl, ⟨rfl, by first | (rw [if_pos (show 0 ≤ i0.toInt ∧ i0.toInt < ns by omega), if_pos c26]; done) | (rw [if_pos (show 0 ≤ i0.toInt ∧ i0.toInt < ns by omega), if_neg c26]; done) | (rw [if_neg (show ¬ (0 ≤ i0.toInt ∧ i0.toInt < ns) by omega)]; done)⟩⟩
  · have c13 := b01_0 c13
    simp only [t64, tl_0, hI.ser1] at c13
    refine v_ldc2 C kwX6_growth_c97 dX6_growth_16 ?_
    exact v_lret C hr dX6_growth_19 (Nat.le_refl _) (Nat.le_refl _) ⟨_, rfl, ⟨rfl, by first | (rw [if_pos (show 0 ≤ i0.toInt ∧ i0.toInt < ns by omega), if_pos c26]; done) | (rw [if_pos (show 0 ≤ i0.toInt ∧ i0.toInt < ns by omega), if_neg c26]; done) | (rw [if_neg (show ¬ (0 ≤ i0.toInt ∧ i0.toInt < ns) by omega)]; done)⟩⟩
/-- what a series is asked for -/
def serW (ar : Nat → Nat → Int32) (i : Nat) (x : Int32) : Int32 := if x = 0 then ar 4 i else if x = 1 then ar 5 i else if x = 2 then ar 6 i else if x = 3 then ar 7 i else if x = 4 then ar 8 i else if x = 5 then ar 9 i else (-2)
theorem inX6_series_X6 : ∀ x ∈ wsX60, x ∈ wsX6_series := by decide +kernel
theorem kwX6_series_81 : Cond.fieldLink RX6 81 "SeriesMarksModel" "series" "I" ∈ wsX6_series := by decide +kernel
theorem kwX6_series_17 : Cond.fieldLink RX6 17 "SeriesMarksModel" "name" "[I" ∈ wsX6_series := by decide +kernel
theorem kwX6_series_20 : Cond.fieldLink RX6 20 "SeriesMarksModel" "many" "[I" ∈ wsX6_series := by decide +kernel
theorem kwX6_series_23 : Cond.fieldLink RX6 23 "SeriesMarksModel" "latest" "[I" ∈ wsX6_series := by decide +kernel
theorem kwX6_series_26 : Cond.fieldLink RX6 26 "SeriesMarksModel" "firstTick" "[I" ∈ wsX6_series := by decide +kernel
theorem kwX6_series_29 : Cond.fieldLink RX6 29 "SeriesMarksModel" "lastTick" "[I" ∈ wsX6_series := by decide +kernel
theorem kwX6_series_32 : Cond.fieldLink RX6 32 "SeriesMarksModel" "begun" "[I" ∈ wsX6_series := by decide +kernel
set_option maxHeartbeats 4000000 in
set_option maxRecDepth 100000 in
theorem c_X6_series (l : Launch) (E : gE) (zw : va_W) {ad : Nat → Nat} {g : Nat → Int32} {ar : Nat → Nat → Int32} (hM : mAt zw (mcl E ad g ar)) {tk ns np na : Nat} (hI : MI g ar tk ns np na) (i0 x : Int32) : CtI l yX6_series wsX6_series ({ frames := 1, cells := 0, slots := 0, locals := 25 }) E [.ref (ad 0), .int i0, .int x] zw (fun r w1 => zw = w1 ∧ r = if 0 ≤ i0.toInt ∧ i0.toInt < ns then serW ar i0.toNatClampNeg x else (-1)) 0 0 := by
  refine Ct.of (cc := cX6_series) (nL := 3) (ret := (some .int)) (by decide) rfl (Nat.le_of_ble_eq_true rfl) ?_
  intro p e s m args below meth c C hr hnm
  refine v_eqlv (lv9 := [(0, .ref (ad 0)), (1, .int i0), (2, .int x)]) rfl ?_
  refine v_iload_n C dX6_series_0 rfl rfl ?_
  refine v_i2l C dX6_series_1 rfl ?_
  refine v_lconst (v := 0) C dX6_series_2 (by decide) ?_
  refine v_aload_n C dX6_series_3 rfl rfl ?_
  refine vm_get (v := .int (g 3)) C hM inX6_series_X6 3 (by decide) kwX6_series_81 rfl rfl dX6_series_4 ?_
  refine v_iconst (v := 1) C dX6_series_7 (by decide) ?_
  refine v_isub C dX6_series_8 ?_
  refine v_i2l C dX6_series_9 rfl ?_
  refine v_callSi C (c_X6_in l E zw _ _ _) (va_cwS 3 C.1.2.2.2.2 gX6_series_X6_in rfl rfl rfl (by decide +kernel) ⟨by decide, by decide⟩) rfl rfl (Nat.le_of_ble_eq_true rfl) dX6_series_10 ⟨Nat.le_of_ble_eq_true rfl, Nat.le_of_ble_eq_true rfl⟩ (fun r w1 hp => ?_)
  obtain ⟨rfl, rfl⟩ := hp
  refine v_at (pc9 := 13) rfl ?_
  refine v_if_ne (tgt := 18) C dX6_series_13 (by decide) (fun c13 => ?_) (fun c13 => ?_)
  · have c13 := b01_n c13
    simp only [t64, tl_0, hI.ser1] at c13
    refine v_iload_n C dX6_series_18 rfl rfl ?_
    by_cases e0 : x = 0
    · subst e0
      refine v_tableIn (tgt := 56) C dX6_series_19 (by decide) (by decide) rfl (by decide) ?_
      refine v_aload_n C dX6_series_56 rfl rfl ?_
      refine vm_get (v := .ref (ad 4)) C hM inX6_series_X6 4 (by decide) kwX6_series_17 rfl rfl dX6_series_57 ?_
      refine v_iload_n C dX6_series_60 rfl rfl ?_
      refine vm_iald (f := ar 4) C hM 3 rfl (in_of (by omega) (by have := hI.ser.2; omega)) dX6_series_61 ?_
      exact v_iret C hr dX6_series_62 (Nat.le_refl _) (Nat.le_refl _) ⟨_, rfl, ⟨rfl, by first | (rw [if_pos (show 0 ≤ i0.toInt ∧ i0.toInt < ns by omega)]; simp [serW, *]; done) | (rw [if_neg (show ¬ (0 ≤ i0.toInt ∧ i0.toInt < ns) by omega)]; done)⟩⟩
    · skip
      by_cases e1 : x = 1
      · subst e1
        refine v_tableIn (tgt := 63) C dX6_series_19 (by decide) (by decide) rfl (by decide) ?_
        refine v_aload_n C dX6_series_63 rfl rfl ?_
        refine vm_get (v := .ref (ad 5)) C hM inX6_series_X6 5 (by decide) kwX6_series_20 rfl rfl dX6_series_64 ?_
        refine v_iload_n C dX6_series_67 rfl rfl ?_
        refine vm_iald (f := ar 5) C hM 4 rfl (in_of (by omega) (by have := hI.ser.2; omega)) dX6_series_68 ?_
        exact v_iret C hr dX6_series_69 (Nat.le_refl _) (Nat.le_refl _) ⟨_, rfl, ⟨rfl, by first | (rw [if_pos (show 0 ≤ i0.toInt ∧ i0.toInt < ns by omega)]; simp [serW, *]; done) | (rw [if_neg (show ¬ (0 ≤ i0.toInt ∧ i0.toInt < ns) by omega)]; done)⟩⟩
      · skip
        by_cases e2 : x = 2
        · subst e2
          refine v_tableIn (tgt := 70) C dX6_series_19 (by decide) (by decide) rfl (by decide) ?_
          refine v_aload_n C dX6_series_70 rfl rfl ?_
          refine vm_get (v := .ref (ad 6)) C hM inX6_series_X6 6 (by decide) kwX6_series_23 rfl rfl dX6_series_71 ?_
          refine v_iload_n C dX6_series_74 rfl rfl ?_
          refine vm_iald (f := ar 6) C hM 5 rfl (in_of (by omega) (by have := hI.ser.2; omega)) dX6_series_75 ?_
          exact v_iret C hr dX6_series_76 (Nat.le_refl _) (Nat.le_refl _) ⟨_, rfl, ⟨rfl, by first | (rw [if_pos (show 0 ≤ i0.toInt ∧ i0.toInt < ns by omega)]; simp [serW, *]; done) | (rw [if_neg (show ¬ (0 ≤ i0.toInt ∧ i0.toInt < ns) by omega)]; done)⟩⟩
        · skip
          by_cases e3 : x = 3
          · subst e3
            refine v_tableIn (tgt := 77) C dX6_series_19 (by decide) (by decide) rfl (by decide) ?_
            refine v_aload_n C dX6_series_77 rfl rfl ?_
            refine vm_get (v := .ref (ad 7)) C hM inX6_series_X6 7 (by decide) kwX6_series_26 rfl rfl dX6_series_78 ?_
            refine v_iload_n C dX6_series_81 rfl rfl ?_
            refine vm_iald (f := ar 7) C hM 6 rfl (in_of (by omega) (by have := hI.ser.2; omega)) dX6_series_82 ?_
            exact v_iret C hr dX6_series_83 (Nat.le_refl _) (Nat.le_refl _) ⟨_, rfl, ⟨rfl, by first | (rw [if_pos (show 0 ≤ i0.toInt ∧ i0.toInt < ns by omega)]; simp [serW, *]; done) | (rw [if_neg (show ¬ (0 ≤ i0.toInt ∧ i0.toInt < ns) by omega)]; done)⟩⟩
          · skip
            by_cases e4 : x = 4
            · subst e4
              refine v_tableIn (tgt := 84) C dX6_series_19 (by decide) (by decide) rfl (by decide) ?_
              refine v_aload_n C dX6_series_84 rfl rfl ?_
              refine vm_get (v := .ref (ad 8)) C hM inX6_series_X6 8 (by decide) kwX6_series_29 rfl rfl dX6_series_85 ?_
              refine v_iload_n C dX6_series_88 rfl rfl ?_
              refine vm_iald (f := ar 8) C hM 7 rfl (in_of (by omega) (by have := hI.ser.2; omega)) dX6_series_89 ?_
              exact v_iret C hr dX6_series_90 (Nat.le_refl _) (Nat.le_refl _) ⟨_, rfl, ⟨rfl, by first | (rw [if_pos (show 0 ≤ i0.toInt ∧ i0.toInt < ns by omega)]; simp [serW, *]; done) | (rw [if_neg (show ¬ (0 ≤ i0.toInt ∧ i0.toInt < ns) by omega)]; done)⟩⟩
            · skip
              by_cases e5 : x = 5
              · subst e5
                refine v_tableIn (tgt := 91) C dX6_series_19 (by decide) (by decide) rfl (by decide) ?_
                refine v_aload_n C dX6_series_91 rfl rfl ?_
                refine vm_get (v := .ref (ad 9)) C hM inX6_series_X6 9 (by decide) kwX6_series_32 rfl rfl dX6_series_92 ?_
                refine v_iload_n C dX6_series_95 rfl rfl ?_
                refine vm_iald (f := ar 9) C hM 8 rfl (in_of (by omega) (by have := hI.ser.2; omega)) dX6_series_96 ?_
                exact v_iret C hr dX6_series_97 (Nat.le_refl _) (Nat.le_refl _) ⟨_, rfl, ⟨rfl, by first | (rw [if_pos (show 0 ≤ i0.toInt ∧ i0.toInt < ns by omega)]; simp [serW, *]; done) | (rw [if_neg (show ¬ (0 ≤ i0.toInt ∧ i0.toInt < ns) by omega)]; done)⟩⟩
              · skip
                refine v_tableOut (tgt := 98) C dX6_series_19 (by have h0 := mt (fa_eq x 0).mpr e0; have h1 := mt (fa_eq x 1).mpr e1; have h2 := mt (fa_eq x 2).mpr e2; have h3 := mt (fa_eq x 3).mpr e3; have h4 := mt (fa_eq x 4).mpr e4; have h5 := mt (fa_eq x 5).mpr e5; rw [show (0 : Int32).toInt = 0 from rfl] at h0; rw [show (1 : Int32).toInt = 1 from rfl] at h1; rw [show (2 : Int32).toInt = 2 from rfl] at h2; rw [show (3 : Int32).toInt = 3 from rfl] at h3; rw [show (4 : Int32).toInt = 4 from rfl] at h4; rw [show (5 : Int32).toInt = 5 from rfl] at h5; omega) (by decide) ?_
                refine v_bipush (v := (-2)) C dX6_series_98 (by decide) ?_
                exact v_iret C hr dX6_series_100 (Nat.le_refl _) (Nat.le_refl _) ⟨_, rfl, ⟨rfl, by first | (rw [if_pos (show 0 ≤ i0.toInt ∧ i0.toInt < ns by omega)]; simp [serW, *]; done) | (rw [if_neg (show ¬ (0 ≤ i0.toInt ∧ i0.toInt < ns) by omega)]; done)⟩⟩
  · have c13 := b01_0 c13
    simp only [t64, tl_0, hI.ser1] at c13
    refine v_iconst (v := (-1)) C dX6_series_16 (by decide) ?_
    exact v_iret C hr dX6_series_17 (Nat.le_refl _) (Nat.le_refl _) ⟨_, rfl, ⟨rfl, by first | (rw [if_pos (show 0 ≤ i0.toInt ∧ i0.toInt < ns by omega)]; simp [serW, *]; done) | (rw [if_neg (show ¬ (0 ≤ i0.toInt ∧ i0.toInt < ns) by omega)]; done)⟩⟩
/-- whether a number comes up among those that are wanted; how many unlike ones have come -/
def senB (p : Nat → Bool) (q : Nat → Int32) (i : Nat) : Nat → Bool
  | 0 => false
  | k + 1 => senB p q i k || (p k && decide (q k = nI i))
def lkN (p : Nat → Bool) (q : Nat → Int32) : Nat → Nat
  | 0 => 0
  | k + 1 => bif (p k && !(senB p q (q k).toNatClampNeg k)) then lkN p q k + 1 else lkN p q k
theorem lkN_le (p : Nat → Bool) (q : Nat → Int32) : ∀ k, lkN p q k ≤ k
  | 0 => Nat.le_refl _
  | k + 1 => by
    have := lkN_le p q k
    unfold lkN
    cases (p k && !(senB p q (q k).toNatClampNeg k)) <;> simp <;> omega
theorem bx_k (ar : Nat → Nat → Int32) (k : Nat) : va_up ar k (ar k) = ar := by
  funext j
  by_cases h : j = k
  · subst h; exact va_up_self _ _ _
  · exact va_up_ne _ _ h
theorem inX6_look_X6 : ∀ x ∈ wsX60, x ∈ wsX6_look := by decide +kernel
theorem kwX6_look_81 : Cond.fieldLink RX6 81 "SeriesMarksModel" "series" "I" ∈ wsX6_look := by decide +kernel
theorem kwX6_look_44 : Cond.fieldLink RX6 44 "SeriesMarksModel" "isSeen" "[Z" ∈ wsX6_look := by decide +kernel
set_option maxHeartbeats 4000000 in
set_option maxRecDepth 100000 in
theorem lpA_X6_look {p : Program} {l : Launch} {e : Env} {R : Room} {s : State} {m : MethodId} {args : Array Value} {below : List Frame} {meth : Method} {c : Code} {cells slots : Nat} {Q : State → Prop} {E : gE} {w0 : va_W} (C : gC p s m args meth c E cX6_look 5 wsX6_look yX6_look.cls) {ad : Nat → Nat} {g : Nat → Int32} {ar : Nat → Nat → Int32} {tk ns np na : Nat} (hI : MI g ar tk ns np na) {f t : Int32} (hK : ∀ (zw : va_W) (zF : Nat → Int32), mAt zw (mcl E ad g (va_up ar 14 zF)) → mFr w0 zw → (∀ j, j < ns → zF j = 0) → V p l e R s m args below meth c E 5 zw cells slots Q 28 [(0, .ref (ad 0)), (1, .int f), (2, .int t), (3, .int 0), (4, .int (nI ns))] []) : ∀ n i : Nat, i + n = ns → ∀ (zw : va_W) (zF : Nat → Int32), mAt zw (mcl E ad g (va_up ar 14 zF)) → mFr w0 zw → (∀ j, j < i → zF j = 0) → V p l e R s m args below meth c E 5 zw cells slots Q 5 [(0, .ref (ad 0)), (1, .int f), (2, .int t), (3, .int 0), (4, .int (nI i))] [] := by
  intro n
  induction n with
  | zero =>
    intro i hi zw zF hM hF hz
    obtain rfl : i = ns := by omega
    refine v_iload C dX6_look_5 rfl ?_
    refine v_aload_n C dX6_look_7 rfl rfl ?_
    refine vm_get (v := .int (g 3)) C hM inX6_look_X6 3 (by decide) kwX6_look_81 rfl rfl dX6_look_8 ?_
    refine v_icmp_ge (tgt := 28) C dX6_look_11 (by decide) (fun c11 => ?_) (fun c11 => absurd (by rw [hI.2.1.1]; exact nI_le (Nat.le_refl _) (by have := hI.ser.2; omega)) c11)
    exact hK zw zF hM hF hz
  | succ n ih =>
    intro i hi zw zF hM hF hz
    refine v_iload C dX6_look_5 rfl ?_
    refine v_aload_n C dX6_look_7 rfl rfl ?_
    refine vm_get (v := .int (g 3)) C hM inX6_look_X6 3 (by decide) kwX6_look_81 rfl rfl dX6_look_8 ?_
    refine v_icmp_ge (tgt := 28) C dX6_look_11 (by decide) (fun c11 => absurd c11 (by rw [hI.2.1.1]; exact nI_ge (by omega) (by have := hI.ser.2; omega))) (fun c11 => ?_)
    refine v_aload_n C dX6_look_14 rfl rfl ?_
    refine vm_get (v := .ref (ad 14)) C hM inX6_look_X6 14 (by decide) kwX6_look_44 rfl rfl dX6_look_15 ?_
    refine v_iload C dX6_look_18 rfl ?_
    refine v_iconst (v := 0) C dX6_look_20 (by decide) ?_
    refine vm_zast C hM hF 14 12 rfl (vp_in_nI (by have := hI.ser.2; omega) (by decide)) rfl dX6_look_21 (fun zw hM hF => ?_)
    refine v_at (pc9 := 22) rfl ?_
    rw [bx_uu, va_up_self, nI_clamp (show i < 2 ^ 31 by have := hI.ser.2; omega), show vp_nar .boolean 0 = 0 from rfl] at hM
    refine v_iincN C dX6_look_22 rfl (by decide) rfl ?_
    refine v_goto (tgt := 5) C dX6_look_25 (by decide) ?_
    exact ih (i + 1) (by omega) zw _ hM hF (fun j hj => by
      by_cases e : j = i
      · subst e; exact pk_us
      · rw [pk_un e]; exact hz j (by omega))
theorem kwX6_look_94 : Cond.fieldLink RX6 94 "SeriesMarksModel" "samples" "I" ∈ wsX6_look := by decide +kernel
theorem kwX6_look_38 : Cond.fieldLink RX6 38 "SeriesMarksModel" "at" "[I" ∈ wsX6_look := by decide +kernel
theorem kwX6_look_35 : Cond.fieldLink RX6 35 "SeriesMarksModel" "of" "[I" ∈ wsX6_look := by decide +kernel
set_option maxHeartbeats 4000000 in
set_option maxRecDepth 100000 in
theorem lpB_X6_look {p : Program} {l : Launch} {e : Env} {R : Room} {s : State} {m : MethodId} {args : Array Value} {below : List Frame} {meth : Method} {c : Code} {cells slots : Nat} {Q : State → Prop} {E : gE} {w0 : va_W} (C : gC p s m args meth c E cX6_look 5 wsX6_look yX6_look.cls) {ad : Nat → Nat} {g : Nat → Int32} {ar : Nat → Nat → Int32} {tk ns np na : Nat} (hI : MI g ar tk ns np na) {f t : Int32} (hK : ∀ (zw : va_W) (zF : Nat → Int32), mAt zw (mcl E ad g (va_up ar 14 zF)) → mFr w0 zw → (∀ j, j < ns → zF j = b01 (senB (inSp (ar 12) f t) (ar 11) j np = true)) → V p l e R s m args below meth c E 5 zw cells slots Q 99 [(0, .ref (ad 0)), (1, .int f), (2, .int t), (3, .int (nI (lkN (inSp (ar 12) f t) (ar 11) np))), (4, .int (nI np))] []) : ∀ n i : Nat, i + n = np → ∀ (zw : va_W) (zF : Nat → Int32), mAt zw (mcl E ad g (va_up ar 14 zF)) → mFr w0 zw → (∀ j, j < ns → zF j = b01 (senB (inSp (ar 12) f t) (ar 11) j i = true)) → V p l e R s m args below meth c E 5 zw cells slots Q 31 [(0, .ref (ad 0)), (1, .int f), (2, .int t), (3, .int (nI (lkN (inSp (ar 12) f t) (ar 11) i))), (4, .int (nI i))] [] := by
  intro n
  induction n with
  | zero =>
    intro i hi zw zF hM hF hz
    obtain rfl : i = np := by omega
    refine v_iload C dX6_look_31 rfl ?_
    refine v_aload_n C dX6_look_33 rfl rfl ?_
    refine vm_get (v := .int (g 10)) C hM inX6_look_X6 10 (by decide) kwX6_look_94 rfl rfl dX6_look_34 ?_
    refine v_icmp_ge (tgt := 99) C dX6_look_37 (by decide) (fun c37 => ?_) (fun c37 => absurd (by rw [hI.2.2.1.1]; exact nI_le (Nat.le_refl _) (by have := hI.sam.2; omega)) c37)
    exact hK zw zF hM hF hz
  | succ n ih =>
    intro i hi zw zF hM hF hz
    refine v_iload C dX6_look_31 rfl ?_
    refine v_aload_n C dX6_look_33 rfl rfl ?_
    refine vm_get (v := .int (g 10)) C hM inX6_look_X6 10 (by decide) kwX6_look_94 rfl rfl dX6_look_34 ?_
    refine v_icmp_ge (tgt := 99) C dX6_look_37 (by decide) (fun c37 => absurd c37 (by rw [hI.2.2.1.1]; exact nI_ge (by omega) (by have := hI.sam.2; omega))) (fun c37 => ?_)
    refine v_aload_n C dX6_look_40 rfl rfl ?_
    refine vm_get (v := .ref (ad 12)) C hM inX6_look_X6 12 (by decide) kwX6_look_38 rfl rfl dX6_look_41 ?_
    refine v_iload C dX6_look_44 rfl ?_
    refine vm_iald (f := ar 12) C hM 10 rfl (vp_in_nI (by have := hI.sam.2; omega) (by decide)) dX6_look_46 ?_
    rw [nI_clamp (show i < 2 ^ 31 by have := hI.sam.2; omega)]
    refine v_iload_n C dX6_look_47 rfl rfl ?_
    refine v_at (pc9 := 48) rfl ?_
    refine v_icmp_lt (tgt := 93) C dX6_look_48 (by decide) (fun c48 => ?_) (fun c48 => ?_)
    · have hp : (inSp (ar 12) f t) i = false := inSp_lt c48
      have e1 : lkN (inSp (ar 12) f t) (ar 11) (i + 1) = lkN (inSp (ar 12) f t) (ar 11) i := by first | (simp [lkN, hp]; done) | (simp [lkN, hp, ho, nI_clamp (show j0 < 2 ^ 31 by have := hI.ser.2; omega), hs]; done)
      have e2 : ∀ j, j < ns → zF j = b01 (senB (inSp (ar 12) f t) (ar 11) j (i + 1) = true) := fun j hj => by
        rw [hz j hj]
        refine b01_c ?_
        first
        | (simp [senB, hp]; done)
        | (simp only [senB, hp, Bool.true_and, Bool.or_eq_true, decide_eq_true_eq]
           refine ⟨Or.inl, fun h => h.elim id (fun h => ?_)⟩
           have : j0 = j := (nI_eq (by have := hI.ser.2; omega) (by have := hI.ser.2; omega)).mp (ho.symm.trans h)
           rw [← this]; exact hs)
      refine v_iincN C dX6_look_93 rfl (by decide) rfl ?_
      refine v_goto (tgt := 31) C dX6_look_96 (by decide) ?_
      have ih9 := ih (i + 1) (by omega) zw _ hM hF e2
      rw [e1] at ih9
      exact ih9
    · refine v_aload_n C dX6_look_51 rfl rfl ?_
      refine vm_get (v := .ref (ad 12)) C hM inX6_look_X6 12 (by decide) kwX6_look_38 rfl rfl dX6_look_52 ?_
      refine v_iload C dX6_look_55 rfl ?_
      refine vm_iald (f := ar 12) C hM 10 rfl (vp_in_nI (by have := hI.sam.2; omega) (by decide)) dX6_look_57 ?_
      rw [nI_clamp (show i < 2 ^ 31 by have := hI.sam.2; omega)]
      refine v_iload_n C dX6_look_58 rfl rfl ?_
      refine v_icmp_gt (tgt := 93) C dX6_look_59 (by decide) (fun c59 => ?_) (fun c59 => ?_)
      · have hp : (inSp (ar 12) f t) i = false := inSp_gt c59
        have e1 : lkN (inSp (ar 12) f t) (ar 11) (i + 1) = lkN (inSp (ar 12) f t) (ar 11) i := by first | (simp [lkN, hp]; done) | (simp [lkN, hp, ho, nI_clamp (show j0 < 2 ^ 31 by have := hI.ser.2; omega), hs]; done)
        have e2 : ∀ j, j < ns → zF j = b01 (senB (inSp (ar 12) f t) (ar 11) j (i + 1) = true) := fun j hj => by
          rw [hz j hj]
          refine b01_c ?_
          first
          | (simp [senB, hp]; done)
          | (simp only [senB, hp, Bool.true_and, Bool.or_eq_true, decide_eq_true_eq]
             refine ⟨Or.inl, fun h => h.elim id (fun h => ?_)⟩
             have : j0 = j := (nI_eq (by have := hI.ser.2; omega) (by have := hI.ser.2; omega)).mp (ho.symm.trans h)
             rw [← this]; exact hs)
        refine v_iincN C dX6_look_93 rfl (by decide) rfl ?_
        refine v_goto (tgt := 31) C dX6_look_96 (by decide) ?_
        have ih9 := ih (i + 1) (by omega) zw _ hM hF e2
        rw [e1] at ih9
        exact ih9
      · obtain ⟨j0, hj0, ho⟩ := hI.of i (by omega)
        have hp : (inSp (ar 12) f t) i = true := inSp_in c48 c59
        refine v_aload_n C dX6_look_62 rfl rfl ?_
        refine vm_get (v := .ref (ad 14)) C hM inX6_look_X6 14 (by decide) kwX6_look_44 rfl rfl dX6_look_63 ?_
        refine v_aload_n C dX6_look_66 rfl rfl ?_
        refine vm_get (v := .ref (ad 11)) C hM inX6_look_X6 11 (by decide) kwX6_look_35 rfl rfl dX6_look_67 ?_
        refine v_iload C dX6_look_70 rfl ?_
        refine vm_iald (f := ar 11) C hM 9 rfl (vp_in_nI (by have := hI.sam.2; omega) (by decide)) dX6_look_72 ?_
        rw [nI_clamp (show i < 2 ^ 31 by have := hI.sam.2; omega)]
        rw [ho]
        refine vm_zald (f := zF) C hM 12 rfl (vp_in_nI (by have := hI.ser.2; omega) (by decide)) dX6_look_73 ?_
        rw [nI_clamp (show j0 < 2 ^ 31 by have := hI.ser.2; omega)]
        refine v_if_ne (tgt := 93) C dX6_look_74 (by decide) (fun c74 => ?_) (fun c74 => ?_)
        · have hs : senB (inSp (ar 12) f t) (ar 11) j0 i = true := b01_n (by rw [← hz j0 hj0]; exact c74)
          have e1 : lkN (inSp (ar 12) f t) (ar 11) (i + 1) = lkN (inSp (ar 12) f t) (ar 11) i := by first | (simp [lkN, hp]; done) | (simp [lkN, hp, ho, nI_clamp (show j0 < 2 ^ 31 by have := hI.ser.2; omega), hs]; done)
          have e2 : ∀ j, j < ns → zF j = b01 (senB (inSp (ar 12) f t) (ar 11) j (i + 1) = true) := fun j hj => by
            rw [hz j hj]
            refine b01_c ?_
            first
            | (simp [senB, hp]; done)
            | (simp only [senB, hp, Bool.true_and, Bool.or_eq_true, decide_eq_true_eq]
               refine ⟨Or.inl, fun h => h.elim id (fun h => ?_)⟩
               have : j0 = j := (nI_eq (by have := hI.ser.2; omega) (by have := hI.ser.2; omega)).mp (ho.symm.trans h)
               rw [← this]; exact hs)
          refine v_iincN C dX6_look_93 rfl (by decide) rfl ?_
          refine v_goto (tgt := 31) C dX6_look_96 (by decide) ?_
          have ih9 := ih (i + 1) (by omega) zw _ hM hF e2
          rw [e1] at ih9
          exact ih9
        · have hs : senB (inSp (ar 12) f t) (ar 11) j0 i = false := by
            have := b01_0 ((hz j0 hj0).symm.trans c74)
            simpa using this
          refine v_aload_n C dX6_look_77 rfl rfl ?_
          refine vm_get (v := .ref (ad 14)) C hM inX6_look_X6 14 (by decide) kwX6_look_44 rfl rfl dX6_look_78 ?_
          refine v_aload_n C dX6_look_81 rfl rfl ?_
          refine vm_get (v := .ref (ad 11)) C hM inX6_look_X6 11 (by decide) kwX6_look_35 rfl rfl dX6_look_82 ?_
          refine v_iload C dX6_look_85 rfl ?_
          refine vm_iald (f := ar 11) C hM 9 rfl (vp_in_nI (by have := hI.sam.2; omega) (by decide)) dX6_look_87 ?_
          rw [nI_clamp (show i < 2 ^ 31 by have := hI.sam.2; omega)]
          rw [ho]
          refine v_iconst (v := 1) C dX6_look_88 (by decide) ?_
          refine vm_zast C hM hF 14 12 rfl (vp_in_nI (by have := hI.ser.2; omega) (by decide)) rfl dX6_look_89 (fun zw hM hF => ?_)
          rw [bx_uu, va_up_self, nI_clamp (show j0 < 2 ^ 31 by have := hI.ser.2; omega), show vp_nar .boolean 1 = 1 from rfl] at hM
          refine v_iincN C dX6_look_90 rfl (by decide) rfl ?_
          have e1 : lkN (inSp (ar 12) f t) (ar 11) (i + 1) = lkN (inSp (ar 12) f t) (ar 11) i + 1 := by simp [lkN, hp, ho, nI_clamp (show j0 < 2 ^ 31 by have := hI.ser.2; omega), hs]
          have e2 : ∀ j, j < ns → upd zF j0 1 j = b01 (senB (inSp (ar 12) f t) (ar 11) j (i + 1) = true) := fun j hj => by
            by_cases e : j = j0
            · subst e
              rw [pk_us]
              exact (b01_t (by simp [senB, hp, ho])).symm
            · rw [pk_un e, hz j hj]
              refine b01_c ?_
              simp only [senB, hp, Bool.true_and, Bool.or_eq_true, decide_eq_true_eq]
              refine ⟨Or.inl, fun h => h.elim id (fun h => absurd ((nI_eq (by have := hI.ser.2; omega) (by have := hI.ser.2; omega)).mp (ho.symm.trans h)).symm e)⟩
          refine v_iincN C dX6_look_93 rfl (by decide) rfl ?_
          refine v_goto (tgt := 31) C dX6_look_96 (by decide) ?_
          have ih9 := ih (i + 1) (by omega) zw _ hM hF e2
          rw [e1] at ih9
          exact ih9
set_option maxHeartbeats 4000000 in
set_option maxRecDepth 100000 in
theorem c_X6_look (l : Launch) (E : gE) (zw : va_W) {ad : Nat → Nat} {g : Nat → Int32} {ar : Nat → Nat → Int32} (hM : mAt zw (mcl E ad g ar)) {tk ns np na : Nat} (hI : MI g ar tk ns np na) (f t : Int32) : CtI l yX6_look wsX6_look ({ frames := 0, cells := 0, slots := 0, locals := 0 }) E [.ref (ad 0), .int f, .int t] zw (fun r w1 => ∃ zF : Nat → Int32, mAt w1 (mcl E ad g (va_up ar 14 zF)) ∧ mFr zw w1 ∧ (∀ j, j < ns → zF j = b01 (senB (inSp (ar 12) f t) (ar 11) j np = true)) ∧ r = nI (lkN (inSp (ar 12) f t) (ar 11) np)) 0 0 := by
  refine Ct.of (cc := cX6_look) (nL := 5) (ret := (some .int)) (by decide) rfl (Nat.le_of_ble_eq_true rfl) ?_
  intro p e s m args below meth c C hr hnm
  refine v_eqlv (lv9 := [(0, .ref (ad 0)), (1, .int f), (2, .int t)]) rfl ?_
  refine v_iconst (v := 0) C dX6_look_0 (by decide) ?_
  refine v_istore_n C dX6_look_1 rfl (by decide) rfl ?_
  refine v_iconst (v := 0) C dX6_look_2 (by decide) ?_
  refine v_tov nI_0.symm ?_
  refine v_istore C dX6_look_3 (by decide) rfl ?_
  refine lpA_X6_look C hI (w0 := zw) ?_ ns 0 (Nat.zero_add _) zw (ar 14) (by rw [bx_k]; exact hM) (mFr.rf zw) (fun j hj => absurd hj (Nat.not_lt_zero j))
  intro w1 F1 hM1 hF1 hz1
  refine v_iconst (v := 0) C dX6_look_28 (by decide) ?_
  refine v_tov nI_0.symm ?_
  refine v_istore C dX6_look_29 (by decide) rfl ?_
  refine lpB_X6_look C hI (w0 := zw) ?_ np 0 (Nat.zero_add _) w1 F1 hM1 hF1 (fun j hj => (hz1 j hj).trans (b01_f (by simp [senB])).symm)
  intro w2 F2 hM2 hF2 hz2
  refine v_iload_n C dX6_look_99 rfl rfl ?_
  exact v_iret C hr dX6_look_100 (Nat.le_refl _) (Nat.le_refl _) ⟨_, rfl, ⟨F2, hM2, hF2, hz2, rfl⟩⟩
theorem inX6_note_X6 : ∀ x ∈ wsX60, x ∈ wsX6_note := by decide +kernel
theorem kwX6_note_47 : Cond.fieldLink RX6 47 "SeriesMarksModel" "unlike" "[I" ∈ wsX6_note := by decide +kernel
set_option maxHeartbeats 4000000 in
set_option maxRecDepth 100000 in
theorem lpA_X6_note {p : Program} {l : Launch} {e : Env} {R : Room} {s : State} {m : MethodId} {args : Array Value} {below : List Frame} {meth : Method} {c : Code} {cells slots : Nat} {Q : State → Prop} {E : gE} {zw : va_W} (C : gC p s m args meth c E cX6_note 4 wsX6_note yX6_note.cls) {ad : Nat → Nat} {g : Nat → Int32} {ar : Nat → Nat → Int32} (hM : mAt zw (mcl E ad g ar)) {L : List Int32} (hS : Sor L) (hU : UL (ar 16) L) (hn : g 15 = nI L.length) (hlt : L.length < 2000) {v : Int32} (hK : ∀ k : Nat, k ≤ L.length → (∀ i (hi : i < L.length), k ≤ i → v < L[i]) → (k = 0 ∨ ∃ h : k - 1 < L.length, L[k - 1] ≤ v) → V p l e R s m args below meth c E 4 zw cells slots Q 27 [(0, .ref (ad 0)), (1, .int v), (2, .int (nI k))] []) : ∀ k : Nat, k ≤ L.length → (∀ i (hi : i < L.length), k ≤ i → v < L[i]) → V p l e R s m args below meth c E 4 zw cells slots Q 5 [(0, .ref (ad 0)), (1, .int v), (2, .int (nI k))] [] := by
  intro k
  induction k with
  | zero =>
    intro hk hg
    refine v_iload_n C dX6_note_5 rfl rfl ?_
    refine v_if_le (tgt := 27) C dX6_note_6 (by decide) (fun c6 => ?_) (fun c6 => absurd (by rw [fa_le, ti_0, nI_toInt (by decide)]; decide) c6)
    exact hK 0 hk (fun i hi h => hg i hi h) (Or.inl rfl)
  | succ j ih =>
    intro hk hg
    refine v_iload_n C dX6_note_5 rfl rfl ?_
    refine v_if_le (tgt := 27) C dX6_note_6 (by decide) (fun c6 => absurd c6 (nI_nle (Nat.succ_pos _) (by omega))) (fun c6 => ?_)
    refine v_aload_n C dX6_note_9 rfl rfl ?_
    refine vm_get (v := .ref (ad 16)) C hM inX6_note_X6 16 (by decide) kwX6_note_47 rfl rfl dX6_note_10 ?_
    refine v_iload_n C dX6_note_13 rfl rfl ?_
    refine v_iconst (v := 1) C dX6_note_14 (by decide) ?_
    refine v_isub C dX6_note_15 ?_
    rw [nI_pred]
    refine vm_iald (f := ar 16) C hM 13 rfl (vp_in_nI (by omega) (by decide)) dX6_note_16 ?_
    rw [nI_clamp (show j < 2 ^ 31 by omega), hU j (by omega)]
    refine v_iload_n C dX6_note_17 rfl rfl ?_
    refine v_at (pc9 := 18) rfl ?_
    refine v_icmp_le (tgt := 27) C dX6_note_18 (by decide) (fun c18 => ?_) (fun c18 => ?_)
    · exact hK (j + 1) hk hg (Or.inr ⟨by omega, c18⟩)
    · refine v_iinc (d := -1) C dX6_note_21 (by decide) rfl (by decide) rfl ?_
      rw [pk_m1]
      refine v_goto (tgt := 5) C dX6_note_24 (by decide) ?_
      exact ih (by omega) (fun i hi h => by
        rcases Nat.lt_or_ge j i with q | q
        · exact hg i hi q
        · obtain rfl : i = j := by omega
          rw [fa_lt]; rw [fa_le] at c18; omega)
set_option maxHeartbeats 4000000 in
set_option maxRecDepth 100000 in
theorem lpB_X6_note {p : Program} {l : Launch} {e : Env} {R : Room} {s : State} {m : MethodId} {args : Array Value} {below : List Frame} {meth : Method} {c : Code} {cells slots : Nat} {Q : State → Prop} {E : gE} {w0 : va_W} (C : gC p s m args meth c E cX6_note 4 wsX6_note yX6_note.cls) {ad : Nat → Nat} {g : Nat → Int32} {ar : Nat → Nat → Int32} {v : Int32} {k nn : Nat} {f0 : Nat → Int32} (hn2 : nn < 2000) (hK : ∀ (zw : va_W) (zF : Nat → Int32), mAt zw (mcl E ad g (va_up ar 16 zF)) → mFr w0 zw → (∀ j, j ≤ k → zF j = f0 j) → (∀ j, k < j → j ≤ nn → zF j = f0 (j - 1)) → V p l e R s m args below meth c E 4 zw cells slots Q 74 [(0, .ref (ad 0)), (1, .int v), (2, .int (nI k)), (3, .int (nI k))] []) : ∀ d : Nat, k + d ≤ nn → ∀ (zw : va_W) (zF : Nat → Int32), mAt zw (mcl E ad g (va_up ar 16 zF)) → mFr w0 zw → ((∀ j, j ≤ k + d → zF j = f0 j) ∧ (∀ j, k + d < j → j ≤ nn → zF j = f0 (j - 1))) → V p l e R s m args below meth c E 4 zw cells slots Q 49 [(0, .ref (ad 0)), (1, .int v), (2, .int (nI k)), (3, .int (nI (k + d)))] [] := by
  intro d
  induction d with
  | zero =>
    intro hd zw zF hM hF hz
    refine v_iload_n C dX6_note_49 rfl rfl ?_
    refine v_iload_n C dX6_note_50 rfl rfl ?_
    refine v_icmp_le (tgt := 74) C dX6_note_51 (by decide) (fun c51 => ?_) (fun c51 => absurd (by exact nI_le (by omega) (by omega)) c51)
    exact hK zw zF hM hF hz.1 hz.2
  | succ d ih =>
    intro hd zw zF hM hF hz
    refine v_iload_n C dX6_note_49 rfl rfl ?_
    refine v_iload_n C dX6_note_50 rfl rfl ?_
    refine v_icmp_le (tgt := 74) C dX6_note_51 (by decide) (fun c51 => absurd c51 (nI_ge (by omega) (by omega))) (fun c51 => ?_)
    refine v_aload_n C dX6_note_54 rfl rfl ?_
    refine vm_get (v := .ref (ad 16)) C hM inX6_note_X6 16 (by decide) kwX6_note_47 rfl rfl dX6_note_55 ?_
    refine v_iload_n C dX6_note_58 rfl rfl ?_
    refine v_aload_n C dX6_note_59 rfl rfl ?_
    refine vm_get (v := .ref (ad 16)) C hM inX6_note_X6 16 (by decide) kwX6_note_47 rfl rfl dX6_note_60 ?_
    refine v_iload_n C dX6_note_63 rfl rfl ?_
    refine v_at (pc9 := 64) rfl ?_
    refine v_iconst (v := 1) C dX6_note_64 (by decide) ?_
    refine v_isub C dX6_note_65 ?_
    rw [show k + (d + 1) = (k + d) + 1 from rfl, nI_pred]
    refine vm_iald (f := zF) C hM 13 rfl (vp_in_nI (by omega) (by decide)) dX6_note_66 ?_
    rw [nI_clamp (show k + d < 2 ^ 31 by omega)]
    refine vm_iast C hM hF 16 13 rfl (vp_in_nI (by omega) (by decide)) rfl dX6_note_67 (fun zw hM hF => ?_)
    rw [bx_uu, va_up_self, nI_clamp (show k + d + 1 < 2 ^ 31 by omega)] at hM
    refine v_iinc (d := -1) C dX6_note_68 (by decide) rfl (by decide) rfl ?_
    rw [pk_m1]
    refine v_goto (tgt := 49) C dX6_note_71 (by decide) ?_
    exact ih (by omega) zw _ hM hF ⟨fun j hj => by rw [pk_un (by omega)]; exact hz.1 j (by omega), fun j h1 h2 => by
      by_cases e : j = k + d + 1
      · subst e; rw [pk_us]; exact hz.1 (k + d) (by omega)
      · rw [pk_un e]; exact hz.2 j (by omega) h2⟩
theorem kwX6_note_109 : Cond.fieldLink RX6 109 "SeriesMarksModel" "unlikes" "I" ∈ wsX6_note := by decide +kernel
set_option maxHeartbeats 4000000 in
set_option maxRecDepth 100000 in
theorem c_X6_note (l : Launch) (E : gE) (zw : va_W) {ad : Nat → Nat} {g : Nat → Int32} {ar : Nat → Nat → Int32} (hM : mAt zw (mcl E ad g ar)) {L : List Int32} (hS : Sor L) (hU : UL (ar 16) L) (hn : g 15 = nI L.length) (hlt : L.length < 2000) (v : Int32) : CtU l yX6_note wsX6_note ({ frames := 0, cells := 0, slots := 0, locals := 0 }) E [.ref (ad 0), .int v] zw (fun w1 => ∃ zF : Nat → Int32, mAt w1 (mcl E ad (upd g 15 (nI (ins v L).length)) (va_up ar 16 zF)) ∧ mFr zw w1 ∧ UL zF (ins v L)) 0 0 := by
  refine Ct.of (cc := cX6_note) (nL := 4) (ret := none) (by decide) rfl (Nat.le_of_ble_eq_true rfl) ?_
  intro p e s m args below meth c C hr hnm
  refine v_eqlv (lv9 := [(0, .ref (ad 0)), (1, .int v)]) rfl ?_
  refine v_aload_n C dX6_note_0 rfl rfl ?_
  refine vm_get (v := .int (g 15)) C hM inX6_note_X6 15 (by decide) kwX6_note_109 rfl rfl dX6_note_1 ?_
  rw [hn]
  refine v_istore_n C dX6_note_4 rfl (by decide) rfl ?_
  refine lpA_X6_note C hM hS hU hn hlt ?_ L.length (Nat.le_refl _) (fun i hi h => absurd hi (by omega))
  intro k hk hg hle
  refine v_iload_n C dX6_note_27 rfl rfl ?_
  refine v_if_le (tgt := 44) C dX6_note_28 (by decide) (fun c28 => ?_) (fun c28 => ?_)
  · have hk0 : k = 0 := by
      rcases Nat.eq_zero_or_pos k with q | q
      · exact q
      · exact absurd c28 (nI_nle q (by omega))
    have hlow : ∀ i (hi : i < L.length), i < k → L[i] < v := fun i hi h => absurd h (by omega)
    refine v_aload_n C dX6_note_44 rfl rfl ?_
    refine vm_get (v := .int (g 15)) C hM inX6_note_X6 15 (by decide) kwX6_note_109 rfl rfl dX6_note_45 ?_
    rw [hn]
    refine v_istore_n C dX6_note_48 rfl (by decide) rfl ?_
    obtain ⟨d, hd⟩ : ∃ d, L.length = k + d := ⟨L.length - (k), by omega⟩
    refine v_eqlv (lv9 := [(0, .ref (ad 0)), (1, .int v), (2, .int (nI (k))), (3, .int (nI (k + d)))]) (by rw [← hd]; rfl) ?_
    refine lpB_X6_note (w0 := zw) (nn := L.length) (f0 := ar 16) C hlt ?_ d (by omega) zw (ar 16) (by rw [bx_k]; exact hM) (mFr.rf zw) ⟨fun j hj => rfl, fun j h1 h2 => absurd h1 (by omega)⟩
    intro zw zF hM hF hz1 hz2
    refine v_aload_n C dX6_note_74 rfl rfl ?_
    refine vm_get (v := .ref (ad 16)) C hM inX6_note_X6 16 (by decide) kwX6_note_47 rfl rfl dX6_note_75 ?_
    refine v_iload_n C dX6_note_78 rfl rfl ?_
    refine v_iload_n C dX6_note_79 rfl rfl ?_
    refine vm_iast C hM hF 16 13 rfl (vp_in_nI (by omega) (by decide)) rfl dX6_note_80 (fun zw hM hF => ?_)
    rw [bx_uu, va_up_self, nI_clamp (by omega)] at hM
    refine v_aload_n C dX6_note_81 rfl rfl ?_
    refine v_dup C dX6_note_82 rfl ?_
    refine vm_get (v := .int (g 15)) C hM inX6_note_X6 15 (by decide) kwX6_note_109 rfl rfl dX6_note_83 ?_
    refine v_iconst (v := 1) C dX6_note_86 (by decide) ?_
    refine v_at (pc9 := 87) rfl ?_
    refine v_iadd C dX6_note_87 ?_
    rw [hn, nI_1]
    refine vm_puti C hM hF inX6_note_X6 15 (by decide) kwX6_note_109 rfl rfl (by decide +kernel) rfl dX6_note_88 (fun zw hM hF => ?_)
    exact v_vret C hr dX6_note_91 (Nat.le_refl _) (Nat.le_refl _) ⟨rfl, by
        have hv : v ∉ L := fun hm => by
          obtain ⟨i, hi, e⟩ := List.mem_iff_getElem.mp hm
          rcases Nat.lt_or_ge i (k) with q | q
          · exact lt_ir v (e ▸ hlow i hi q)
          · exact lt_ir v (e ▸ hg i hi q)
        refine ⟨_, by rw [ins_len hS hv]; exact hM, hF, ?_⟩
        rw [ins_at hS hk hlow hg]
        exact hU.put hk (fun i hi => by rw [pk_un (by omega)]; exact hz1 i (by omega)) pk_us (fun i h1 h2 => by rw [pk_un (by omega)]; exact hz2 i h1 h2)⟩
  · obtain ⟨j, rfl⟩ : ∃ j, k = j + 1 := ⟨k - 1, by
      rcases Nat.eq_zero_or_pos k with q | q
      · subst q; exact absurd (by rw [fa_le, ti_0, nI_toInt (by decide)]; decide) c28
      · omega⟩
    refine v_aload_n C dX6_note_31 rfl rfl ?_
    refine vm_get (v := .ref (ad 16)) C hM inX6_note_X6 16 (by decide) kwX6_note_47 rfl rfl dX6_note_32 ?_
    refine v_iload_n C dX6_note_35 rfl rfl ?_
    refine v_iconst (v := 1) C dX6_note_36 (by decide) ?_
    refine v_isub C dX6_note_37 ?_
    rw [nI_pred]
    refine vm_iald (f := ar 16) C hM 13 rfl (vp_in_nI (by omega) (by decide)) dX6_note_38 ?_
    rw [nI_clamp (show j < 2 ^ 31 by omega), hU j (by omega)]
    refine v_iload_n C dX6_note_39 rfl rfl ?_
    refine v_icmp_ne (tgt := 44) C dX6_note_40 (by decide) (fun c40 => ?_) (fun c40 => ?_)
    · have hlow : ∀ i (hi : i < L.length), i < j + 1 → L[i] < v := fun i hi h => by
        obtain ⟨h9, h8⟩ := hle.resolve_left (by omega)
        have h7 : L[j] < v := fa_le_ne h8 c40
        rcases Nat.lt_or_ge i j with q | q
        · exact lt_tr (hS.get q (by omega)) h7
        · obtain rfl : i = j := by omega
          exact h7
      refine v_aload_n C dX6_note_44 rfl rfl ?_
      refine vm_get (v := .int (g 15)) C hM inX6_note_X6 15 (by decide) kwX6_note_109 rfl rfl dX6_note_45 ?_
      rw [hn]
      refine v_istore_n C dX6_note_48 rfl (by decide) rfl ?_
      obtain ⟨d, hd⟩ : ∃ d, L.length = j + 1 + d := ⟨L.length - (j + 1), by omega⟩
      refine v_eqlv (lv9 := [(0, .ref (ad 0)), (1, .int v), (2, .int (nI (j + 1))), (3, .int (nI (j + 1 + d)))]) (by rw [← hd]; rfl) ?_
      refine lpB_X6_note (w0 := zw) (nn := L.length) (f0 := ar 16) C hlt ?_ d (by omega) zw (ar 16) (by rw [bx_k]; exact hM) (mFr.rf zw) ⟨fun j hj => rfl, fun j h1 h2 => absurd h1 (by omega)⟩
      intro zw zF hM hF hz1 hz2
      refine v_aload_n C dX6_note_74 rfl rfl ?_
      refine vm_get (v := .ref (ad 16)) C hM inX6_note_X6 16 (by decide) kwX6_note_47 rfl rfl dX6_note_75 ?_
      refine v_iload_n C dX6_note_78 rfl rfl ?_
      refine v_iload_n C dX6_note_79 rfl rfl ?_
      refine vm_iast C hM hF 16 13 rfl (vp_in_nI (by omega) (by decide)) rfl dX6_note_80 (fun zw hM hF => ?_)
      rw [bx_uu, va_up_self, nI_clamp (by omega)] at hM
      refine v_aload_n C dX6_note_81 rfl rfl ?_
      refine v_dup C dX6_note_82 rfl ?_
      refine vm_get (v := .int (g 15)) C hM inX6_note_X6 15 (by decide) kwX6_note_109 rfl rfl dX6_note_83 ?_
      refine v_iconst (v := 1) C dX6_note_86 (by decide) ?_
      refine v_at (pc9 := 87) rfl ?_
      refine v_iadd C dX6_note_87 ?_
      rw [hn, nI_1]
      refine vm_puti C hM hF inX6_note_X6 15 (by decide) kwX6_note_109 rfl rfl (by decide +kernel) rfl dX6_note_88 (fun zw hM hF => ?_)
      exact v_vret C hr dX6_note_91 (Nat.le_refl _) (Nat.le_refl _) ⟨rfl, by
          have hv : v ∉ L := fun hm => by
            obtain ⟨i, hi, e⟩ := List.mem_iff_getElem.mp hm
            rcases Nat.lt_or_ge i (j + 1) with q | q
            · exact lt_ir v (e ▸ hlow i hi q)
            · exact lt_ir v (e ▸ hg i hi q)
          refine ⟨_, by rw [ins_len hS hv]; exact hM, hF, ?_⟩
          rw [ins_at hS hk hlow hg]
          exact hU.put hk (fun i hi => by rw [pk_un (by omega)]; exact hz1 i (by omega)) pk_us (fun i h1 h2 => by rw [pk_un (by omega)]; exact hz2 i h1 h2)⟩
    · have hv : v ∈ L := by rw [← c40]; exact List.getElem_mem _
      exact v_vret C hr dX6_note_43 (Nat.le_refl _) (Nat.le_refl _) ⟨rfl, ⟨ar 16, by rw [ins_mem hS hv, ← hn, bx_k, fa_upd_same rfl]; exact hM, mFr.rf zw, by rw [ins_mem hS hv]; exact hU⟩⟩
/-- nothing changed but what is worked with: field 15, rows 14 and 16 -/
def mSc (g : Nat → Int32) (ar : Nat → Nat → Int32) (g1 : Nat → Int32) (ar1 : Nat → Nat → Int32) : Prop := (∀ k, k ≠ 15 → g1 k = g k) ∧ ∀ k, k ≠ 14 → k ≠ 16 → ar1 k = ar k
set_option maxHeartbeats 4000000 in
set_option maxRecDepth 100000 in
theorem c_X6_seen (l : Launch) (E : gE) (zw : va_W) {ad : Nat → Nat} {g : Nat → Int32} {ar : Nat → Nat → Int32} (hM : mAt zw (mcl E ad g ar)) {tk ns np na : Nat} (hI : MI g ar tk ns np na) (f t : Int32) : CtI l yX6_seen wsX6_seen ({ frames := 2, cells := 0, slots := 0, locals := 47 }) E [.ref (ad 0), .int f, .int t] zw (fun r w1 => ∃ (g1 : Nat → Int32) (ar1 : Nat → Nat → Int32), mAt w1 (mcl E ad g1 ar1) ∧ mFr zw w1 ∧ mSc g ar g1 ar1 ∧ r = if 0 ≤ t.toInt ∧ t.toInt ≤ (g 0).toInt ∧ 0 ≤ f.toInt ∧ f.toInt ≤ t.toInt then nI (lkN (inSp (ar 12) f t) (ar 11) np) else (-2)) 0 0 := by
  refine Ct.of (cc := cX6_seen) (nL := 3) (ret := (some .int)) (by decide) rfl (Nat.le_of_ble_eq_true rfl) ?_
  intro p e s m args below meth c C hr hnm
  refine v_eqlv (lv9 := [(0, .ref (ad 0)), (1, .int f), (2, .int t)]) rfl ?_
  refine v_aload_n C dX6_seen_0 rfl rfl ?_
  refine v_iload_n C dX6_seen_1 rfl rfl ?_
  refine v_iload_n C dX6_seen_2 rfl rfl ?_
  refine v_callVi C (c_X6_isSpan l E zw hM _ _) (cwV 2 C.1.2.2.2.2 gX6_seen_X6_isSpan rfl rfl rfl (by decide +kernel) ⟨by decide, by decide⟩) 12 7 (hM 0 _ rfl) rfl rfl rfl (Nat.le_of_ble_eq_true rfl) dX6_seen_3 ⟨Nat.le_of_ble_eq_true rfl, Nat.le_of_ble_eq_true rfl⟩ (fun r w1 hp => ?_)
  obtain ⟨rfl, rfl⟩ := hp
  refine v_if_eq (tgt := 18) C dX6_seen_6 (by decide) (fun c6 => ?_) (fun c6 => ?_)
  · have c6 := b01_0 c6
    refine v_bipush (v := (-2)) C dX6_seen_18 (by decide) ?_
    exact v_iret C hr dX6_seen_20 (Nat.le_refl _) (Nat.le_refl _) ⟨_, rfl, (by first | exact ⟨g, va_up ar 14 zF, hM, hF, ⟨fun _ _ => rfl, fun k h _ => va_up_ne _ _ h⟩, (if_pos c6).symm⟩ | exact ⟨g, ar, hM, mFr.rf _, ⟨fun _ _ => rfl, fun _ _ _ => rfl⟩, (if_neg c6).symm⟩)⟩
  · have c6 := b01_n c6
    refine v_aload_n C dX6_seen_9 rfl rfl ?_
    refine v_iload_n C dX6_seen_10 rfl rfl ?_
    refine v_iload_n C dX6_seen_11 rfl rfl ?_
    refine v_callVi C (c_X6_look l E zw hM hI _ _) (cwV 2 C.1.2.2.2.2 gX6_seen_X6_look rfl rfl rfl (by decide +kernel) ⟨by decide, by decide⟩) 12 7 (hM 0 _ rfl) rfl rfl rfl (Nat.le_of_ble_eq_true rfl) dX6_seen_12 ⟨Nat.le_of_ble_eq_true rfl, Nat.le_of_ble_eq_true rfl⟩ (fun r zw hp => ?_)
    obtain ⟨zF, hM, hF, hz, rfl⟩ := hp
    refine v_goto (tgt := 20) C dX6_seen_15 (by decide) ?_
    exact v_iret C hr dX6_seen_20 (Nat.le_refl _) (Nat.le_refl _) ⟨_, rfl, (by first | exact ⟨g, va_up ar 14 zF, hM, hF, ⟨fun _ _ => rfl, fun k h _ => va_up_ne _ _ h⟩, (if_pos c6).symm⟩ | exact ⟨g, ar, hM, mFr.rf _, ⟨fun _ _ => rfl, fun _ _ _ => rfl⟩, (if_neg c6).symm⟩)⟩
end
section
theorem MI.sc {g g1 : Nat → Int32} {ar ar1 : Nat → Nat → Int32} {tk ns np na : Nat} (h : MI g ar tk ns np na) (hs : mSc g ar g1 ar1) : MI g1 ar1 tk ns np na := by
  unfold MI
  rw [hs.1 0 (by decide), hs.1 3 (by decide), hs.1 10 (by decide), hs.1 17 (by decide), hs.2 11 (by decide) (by decide), hs.2 12 (by decide) (by decide), hs.2 4 (by decide) (by decide), hs.2 1 (by decide) (by decide), hs.2 2 (by decide) (by decide), hs.2 5 (by decide) (by decide), hs.2 18 (by decide) (by decide), hs.2 19 (by decide) (by decide)]
  exact h
theorem mSc.rf (g : Nat → Int32) (ar : Nat → Nat → Int32) : mSc g ar g ar := ⟨fun _ _ => rfl, fun _ _ _ => rfl⟩
theorem mSc.tr {g g1 g2 : Nat → Int32} {ar ar1 ar2 : Nat → Nat → Int32} (h : mSc g ar g1 ar1) (h2 : mSc g1 ar1 g2 ar2) : mSc g ar g2 ar2 := ⟨fun k hk => (h2.1 k hk).trans (h.1 k hk), fun k h3 h4 => (h2.2 k h3 h4).trans (h.2 k h3 h4)⟩
theorem mSc.u {g : Nat → Int32} {ar : Nat → Nat → Int32} (x : Int32) : mSc g ar (upd g 15 x) ar := ⟨fun k hk => pk_un hk, fun _ _ _ => rfl⟩
theorem mSc.h {g : Nat → Int32} {ar : Nat → Nat → Int32} (zF : Nat → Int32) : mSc g ar g (va_up ar 16 zF) := ⟨fun _ _ => rfl, fun k _ hk => va_up_ne _ _ hk⟩
theorem mSc.f {g : Nat → Int32} {ar : Nat → Nat → Int32} (zF : Nat → Int32) : mSc g ar g (va_up ar 14 zF) := ⟨fun _ _ => rfl, fun k hk _ => va_up_ne _ _ hk⟩
theorem q_f {q : Nat → Bool} {j : Nat} {x : Int32} (h : x = b01 (q j = true)) (c : x = 0) : q j = false := by
  have := b01_0 (h.symm.trans c)
  simpa using this
theorem q_t {q : Nat → Bool} {j : Nat} {x : Int32} (h : x = b01 (q j = true)) (c : ¬ x = 0) : q j = true := b01_n (fun e => c (h.trans e))
theorem inX6_unlikeWithout_X6 : ∀ x ∈ wsX60, x ∈ wsX6_unlikeWithout := by decide +kernel
theorem kwX6_unlikeWithout_81 : Cond.fieldLink RX6 81 "SeriesMarksModel" "series" "I" ∈ wsX6_unlikeWithout := by decide +kernel
theorem kwX6_unlikeWithout_44 : Cond.fieldLink RX6 44 "SeriesMarksModel" "isSeen" "[Z" ∈ wsX6_unlikeWithout := by decide +kernel
theorem kwX6_unlikeWithout_17 : Cond.fieldLink RX6 17 "SeriesMarksModel" "name" "[I" ∈ wsX6_unlikeWithout := by decide +kernel
set_option maxHeartbeats 4000000 in
set_option maxRecDepth 100000 in
theorem lp_X6_unlikeWithout {p : Program} {l : Launch} {e : Env} {s : State} {m : MethodId} {args : Array Value} {below : List Frame} {meth : Method} {c : Code} {Q : State → Prop} {E : gE} {w0 : va_W} (C : gC p s m args meth c E cX6_unlikeWithout 3 wsX6_unlikeWithout yX6_unlikeWithout.cls) {ad : Nat → Nat} {g : Nat → Int32} {ar : Nat → Nat → Int32} {tk ns np na : Nat} (hI : MI g ar tk ns np na) {mk : Int32} {q : Nat → Bool} (hq : ∀ j, j < ns → ar 14 j = b01 (q j = true))  (hK : ∀ (zw : va_W) (zH : Nat → Int32), mAt zw (mcl E ad (upd g 15 (nI (insN (q) (fun j => woI (ar 4 j) mk 6) ns).length)) (va_up ar 16 zH)) → mFr w0 zw → UL zH (insN (q) (fun j => woI (ar 4 j) mk 6) ns) → V p l e ({ frames := 1, cells := 0, slots := 0, locals := 23 }) s m args below meth c E 3 zw 0 0 Q 44 [(0, .ref (ad 0)), (1, .int mk), (2, .int (nI ns))] []) : ∀ n i : Nat, i + n = ns → ∀ (zw : va_W) (zH : Nat → Int32), mAt zw (mcl E ad (upd g 15 (nI (insN (q) (fun j => woI (ar 4 j) mk 6) i).length)) (va_up ar 16 zH)) → mFr w0 zw → UL zH (insN (q) (fun j => woI (ar 4 j) mk 6) i) → V p l e ({ frames := 1, cells := 0, slots := 0, locals := 23 }) s m args below meth c E 3 zw 0 0 Q 7 [(0, .ref (ad 0)), (1, .int mk), (2, .int (nI i))] [] := by
  intro n
  induction n with
  | zero =>
    intro i hi zw zH hM hF hU
    obtain rfl : i = ns := by omega
    refine v_iload_n C dX6_unlikeWithout_7 rfl rfl ?_
    refine v_aload_n C dX6_unlikeWithout_8 rfl rfl ?_
    refine vm_get (v := .int (g 3)) C hM inX6_unlikeWithout_X6 3 (by decide) kwX6_unlikeWithout_81 rfl rfl dX6_unlikeWithout_9 ?_
    refine v_icmp_ge (tgt := 44) C dX6_unlikeWithout_12 (by decide) (fun c12 => ?_) (fun c12 => absurd (by rw [hI.2.1.1]; exact nI_le (Nat.le_refl _) (by have := hI.ser.2; omega)) c12)
    exact hK zw zH hM hF hU
  | succ n ih =>
    intro i hi zw zH hM hF hU
    refine v_iload_n C dX6_unlikeWithout_7 rfl rfl ?_
    refine v_aload_n C dX6_unlikeWithout_8 rfl rfl ?_
    refine vm_get (v := .int (g 3)) C hM inX6_unlikeWithout_X6 3 (by decide) kwX6_unlikeWithout_81 rfl rfl dX6_unlikeWithout_9 ?_
    refine v_icmp_ge (tgt := 44) C dX6_unlikeWithout_12 (by decide) (fun c12 => absurd c12 (by rw [hI.2.1.1]; exact nI_ge (by omega) (by have := hI.ser.2; omega))) (fun c12 => ?_)
    refine v_aload_n C dX6_unlikeWithout_15 rfl rfl ?_
    refine vm_get (v := .ref (ad 14)) C hM inX6_unlikeWithout_X6 14 (by decide) kwX6_unlikeWithout_44 rfl rfl dX6_unlikeWithout_16 ?_
    refine v_iload_n C dX6_unlikeWithout_19 rfl rfl ?_
    refine vm_zald (f := ar 14) C hM 12 rfl (vp_in_nI (by have := hI.ser.2; omega) (by decide)) dX6_unlikeWithout_20 ?_
    rw [nI_clamp (show i < 2 ^ 31 by have := hI.ser.2; omega)]
    refine v_if_eq (tgt := 38) C dX6_unlikeWithout_21 (by decide) (fun c21 => ?_) (fun c21 => ?_)
    · have hq1 := q_f (hq i (by omega)) c21
      refine v_iincN C dX6_unlikeWithout_38 rfl (by decide) rfl ?_
      refine v_goto (tgt := 7) C dX6_unlikeWithout_41 (by decide) ?_
      first
      | (have e9 := insN_t (p := q) (h := fun j => woI (ar 4 j) mk 6) (i := i) (by simp [*]; done)
         exact ih (i + 1) (by omega) zw zH (by rw [e9]; exact hM) hF (by rw [e9]; exact hU))
      | (have e9 := insN_f (p := q) (h := fun j => woI (ar 4 j) mk 6) (i := i) (by simp [*]; done)
         exact ih (i + 1) (by omega) zw zH (by rw [e9]; exact hM) hF (by rw [e9]; exact hU))
    · have hq1 := q_t (hq i (by omega)) c21
      refine v_aload_n C dX6_unlikeWithout_24 rfl rfl ?_
      refine v_aload_n C dX6_unlikeWithout_25 rfl rfl ?_
      refine vm_get (v := .ref (ad 4)) C hM inX6_unlikeWithout_X6 4 (by decide) kwX6_unlikeWithout_17 rfl rfl dX6_unlikeWithout_26 ?_
      refine v_iload_n C dX6_unlikeWithout_29 rfl rfl ?_
      refine vm_iald (f := ar 4) C hM 3 rfl (vp_in_nI (by have := hI.ser.2; omega) (by decide)) dX6_unlikeWithout_30 ?_
      rw [nI_clamp (show i < 2 ^ 31 by have := hI.ser.2; omega)]
      refine v_iload_n C dX6_unlikeWithout_31 rfl rfl ?_
      refine v_callSi C (c_X6_without l E zw _ _) (va_cwS 2 C.1.2.2.2.2 gX6_unlikeWithout_X6_without rfl rfl rfl (by decide +kernel) ⟨by decide, by decide⟩) rfl rfl (Nat.le_of_ble_eq_true rfl) dX6_unlikeWithout_32 ⟨Nat.le_of_ble_eq_true rfl, Nat.le_of_ble_eq_true rfl⟩ (fun r w1 hp => ?_)
      obtain ⟨rfl, rfl⟩ := hp
      refine v_callVu C (c_X6_note l E zw hM (insN_sor _ _ i) hU pk_us (by have := insN_len (q) (fun j => woI (ar 4 j) mk 6) i; have := hI.ser.2; omega) _) (cwV 1 C.1.2.2.2.2 gX6_unlikeWithout_X6_note rfl rfl rfl (by decide +kernel) ⟨by decide, by decide⟩) 12 7 (hM 0 _ rfl) rfl rfl rfl (Nat.le_of_ble_eq_true rfl) dX6_unlikeWithout_35 ⟨Nat.le_of_ble_eq_true rfl, Nat.le_of_ble_eq_true rfl⟩ (fun zw hp => ?_)
      obtain ⟨zH, hM, hF1, hU⟩ := hp
      have hF := hF.tr hF1
      rw [fa_upd_twice, bx_uu] at hM
      refine v_iincN C dX6_unlikeWithout_38 rfl (by decide) rfl ?_
      refine v_goto (tgt := 7) C dX6_unlikeWithout_41 (by decide) ?_
      first
      | (have e9 := insN_t (p := q) (h := fun j => woI (ar 4 j) mk 6) (i := i) (by simp [*]; done)
         exact ih (i + 1) (by omega) zw zH (by rw [e9]; exact hM) hF (by rw [e9]; exact hU))
      | (have e9 := insN_f (p := q) (h := fun j => woI (ar 4 j) mk 6) (i := i) (by simp [*]; done)
         exact ih (i + 1) (by omega) zw zH (by rw [e9]; exact hM) hF (by rw [e9]; exact hU))
theorem kwX6_unlikeWithout_109 : Cond.fieldLink RX6 109 "SeriesMarksModel" "unlikes" "I" ∈ wsX6_unlikeWithout := by decide +kernel
set_option maxHeartbeats 4000000 in
set_option maxRecDepth 100000 in
theorem c_X6_unlikeWithout (l : Launch) (E : gE) (zw : va_W) {ad : Nat → Nat} {g : Nat → Int32} {ar : Nat → Nat → Int32} (hM : mAt zw (mcl E ad g ar)) {tk ns np na : Nat} (hI : MI g ar tk ns np na) {q : Nat → Bool} (hq : ∀ j, j < ns → ar 14 j = b01 (q j = true)) (mk : Int32) : CtI l yX6_unlikeWithout wsX6_unlikeWithout ({ frames := 1, cells := 0, slots := 0, locals := 23 }) E [.ref (ad 0), .int mk] zw (fun r w1 => ∃ zH : Nat → Int32, mAt w1 (mcl E ad (upd g 15 (nI (insN q (fun j => woI (ar 4 j) mk 6) ns).length)) (va_up ar 16 zH)) ∧ mFr zw w1 ∧ UL zH (insN q (fun j => woI (ar 4 j) mk 6) ns) ∧ r = nI (insN q (fun j => woI (ar 4 j) mk 6) ns).length) 0 0 := by
  refine Ct.of (cc := cX6_unlikeWithout) (nL := 3) (ret := (some .int)) (by decide) rfl (Nat.le_of_ble_eq_true rfl) ?_
  intro p e s m args below meth c C hr hnm
  refine v_eqlv (lv9 := [(0, .ref (ad 0)), (1, .int mk)]) rfl ?_
  obtain ⟨w0, hw0⟩ : ∃ w0 : va_W, w0 = zw := ⟨_, rfl⟩
  have hF : mFr w0 zw := by rw [hw0]; exact mFr.rf zw
  refine v_aload_n C dX6_unlikeWithout_0 rfl rfl ?_
  refine v_iconst (v := 0) C dX6_unlikeWithout_1 (by decide) ?_
  refine vm_puti C hM hF inX6_unlikeWithout_X6 15 (by decide) kwX6_unlikeWithout_109 rfl rfl (by decide +kernel) rfl dX6_unlikeWithout_2 (fun zw hM hF => ?_)
  refine v_iconst (v := 0) C dX6_unlikeWithout_5 (by decide) ?_
  refine v_tov nI_0.symm ?_
  refine v_istore_n C dX6_unlikeWithout_6 rfl (by decide) rfl ?_
  refine lp_X6_unlikeWithout (w0 := w0) C hI (mk := mk) hq ?_ ns 0 (Nat.zero_add _) zw (ar 16) (by rw [bx_k]; exact hM) hF (UL.nil _)
  intro zw zH hM hF hU
  refine v_aload_n C dX6_unlikeWithout_44 rfl rfl ?_
  refine vm_get (v := .int (upd g 15 (nI (insN q (fun j => woI (ar 4 j) mk 6) ns).length) 15)) C hM inX6_unlikeWithout_X6 15 (by decide) kwX6_unlikeWithout_109 rfl rfl dX6_unlikeWithout_45 ?_
  rw [pk_us]
  exact v_iret C hr dX6_unlikeWithout_48 (Nat.le_refl _) (Nat.le_refl _) ⟨_, rfl, ⟨zH, hM, hw0 ▸ hF, hU, rfl⟩⟩
theorem kwX6_unlike_c129 : Cond.constantLong RX6 129 (63) ∈ wsX6_unlike := by decide +kernel
set_option maxHeartbeats 4000000 in
set_option maxRecDepth 100000 in
theorem c_X6_unlike (l : Launch) (E : gE) (zw : va_W) {ad : Nat → Nat} {g : Nat → Int32} {ar : Nat → Nat → Int32} (hM : mAt zw (mcl E ad g ar)) {tk ns np na : Nat} (hI : MI g ar tk ns np na) (mk f t : Int32) : CtI l yX6_unlike wsX6_unlike ({ frames := 2, cells := 0, slots := 0, locals := 47 }) E [.ref (ad 0), .int mk, .int f, .int t] zw (fun r w1 => ∃ (g1 : Nat → Int32) (ar1 : Nat → Nat → Int32), mAt w1 (mcl E ad g1 ar1) ∧ mFr zw w1 ∧ mSc g ar g1 ar1 ∧ r = if (0 ≤ mk.toInt ∧ mk.toInt ≤ 63) ∧ (0 ≤ t.toInt ∧ t.toInt ≤ (g 0).toInt ∧ 0 ≤ f.toInt ∧ f.toInt ≤ t.toInt) then nI (insN (fun j => senB (inSp (ar 12) f t) (ar 11) j np) (fun j => woI (ar 4 j) mk 6) ns).length else (-2)) 0 0 := by
  refine Ct.of (cc := cX6_unlike) (nL := 5) (ret := (some .int)) (by decide) rfl (Nat.le_of_ble_eq_true rfl) ?_
  intro p e s m args below meth c C hr hnm
  refine v_eqlv (lv9 := [(0, .ref (ad 0)), (1, .int mk), (2, .int f), (3, .int t)]) rfl ?_
  refine v_iload_n C dX6_unlike_0 rfl rfl ?_
  refine v_i2l C dX6_unlike_1 rfl ?_
  refine v_lconst (v := 0) C dX6_unlike_2 (by decide) ?_
  refine v_ldc2 C kwX6_unlike_c129 dX6_unlike_3 ?_
  refine v_callSi C (c_X6_in l E zw _ _ _) (va_cwS 3 C.1.2.2.2.2 gX6_unlike_X6_in rfl rfl rfl (by decide +kernel) ⟨by decide, by decide⟩) rfl rfl (Nat.le_of_ble_eq_true rfl) dX6_unlike_6 ⟨Nat.le_of_ble_eq_true rfl, Nat.le_of_ble_eq_true rfl⟩ (fun r w1 hp => ?_)
  obtain ⟨rfl, rfl⟩ := hp
  refine v_if_eq (tgt := 21) C dX6_unlike_9 (by decide) (fun c9 => ?_) (fun c9 => ?_)
  · have c9 := b01_0 c9
    simp only [t64, tl_0, tl_63] at c9
    refine v_bipush (v := (-2)) C dX6_unlike_21 (by decide) ?_
    exact v_iret C hr dX6_unlike_23 (Nat.le_refl _) (Nat.le_refl _) ⟨_, rfl, (by first | exact ⟨_, _, hM, hF.tr hF1, (mSc.f zF).tr ((mSc.u _).tr (mSc.h zH)), by rw [if_pos ⟨c9, c18⟩] <;> rfl⟩ | exact ⟨g, ar, hM, mFr.rf _, mSc.rf g ar, by first | rw [if_neg (fun h => c9 h.1)] | rw [if_neg (fun h => c18 h.2)]⟩)⟩
  · have c9 := b01_n c9
    simp only [t64, tl_0, tl_63] at c9
    refine v_aload_n C dX6_unlike_12 rfl rfl ?_
    refine v_iload_n C dX6_unlike_13 rfl rfl ?_
    refine v_iload_n C dX6_unlike_14 rfl rfl ?_
    refine v_callVi C (c_X6_isSpan l E zw hM _ _) (cwV 2 C.1.2.2.2.2 gX6_unlike_X6_isSpan rfl rfl rfl (by decide +kernel) ⟨by decide, by decide⟩) 12 7 (hM 0 _ rfl) rfl rfl rfl (Nat.le_of_ble_eq_true rfl) dX6_unlike_15 ⟨Nat.le_of_ble_eq_true rfl, Nat.le_of_ble_eq_true rfl⟩ (fun r w1 hp => ?_)
    obtain ⟨rfl, rfl⟩ := hp
    refine v_if_ne (tgt := 24) C dX6_unlike_18 (by decide) (fun c18 => ?_) (fun c18 => ?_)
    · have c18 := b01_n c18
      refine v_aload_n C dX6_unlike_24 rfl rfl ?_
      refine v_iload_n C dX6_unlike_25 rfl rfl ?_
      refine v_iload_n C dX6_unlike_26 rfl rfl ?_
      refine v_callVi C (c_X6_look l E zw hM hI _ _) (cwV 2 C.1.2.2.2.2 gX6_unlike_X6_look rfl rfl rfl (by decide +kernel) ⟨by decide, by decide⟩) 12 7 (hM 0 _ rfl) rfl rfl rfl (Nat.le_of_ble_eq_true rfl) dX6_unlike_27 ⟨Nat.le_of_ble_eq_true rfl, Nat.le_of_ble_eq_true rfl⟩ (fun r zw hp => ?_)
      obtain ⟨zF, hM, hF, hz, rfl⟩ := hp
      refine v_istore C dX6_unlike_30 (by decide) rfl ?_
      refine v_aload_n C dX6_unlike_32 rfl rfl ?_
      refine v_iload_n C dX6_unlike_33 rfl rfl ?_
      refine v_callVi C (c_X6_unlikeWithout l E zw hM (hI.sc (mSc.f zF)) (q := (fun j => senB (inSp (ar 12) f t) (ar 11) j np)) hz _) (cwV 1 C.1.2.2.2.2 gX6_unlike_X6_unlikeWithout rfl rfl rfl (by decide +kernel) ⟨by decide, by decide⟩) 12 7 (hM 0 _ rfl) rfl rfl rfl (Nat.le_of_ble_eq_true rfl) dX6_unlike_34 ⟨Nat.le_of_ble_eq_true rfl, Nat.le_of_ble_eq_true rfl⟩ (fun r zw hp => ?_)
      obtain ⟨zH, hM, hF1, hU, rfl⟩ := hp
      exact v_iret C hr dX6_unlike_37 (Nat.le_refl _) (Nat.le_refl _) ⟨_, rfl, (by first | exact ⟨_, _, hM, hF.tr hF1, (mSc.f zF).tr ((mSc.u _).tr (mSc.h zH)), by rw [if_pos ⟨c9, c18⟩] <;> rfl⟩ | exact ⟨g, ar, hM, mFr.rf _, mSc.rf g ar, by first | rw [if_neg (fun h => c9 h.1)] | rw [if_neg (fun h => c18 h.2)]⟩)⟩
    · have c18 := b01_0 c18
      refine v_bipush (v := (-2)) C dX6_unlike_21 (by decide) ?_
      exact v_iret C hr dX6_unlike_23 (Nat.le_refl _) (Nat.le_refl _) ⟨_, rfl, (by first | exact ⟨_, _, hM, hF.tr hF1, (mSc.f zF).tr ((mSc.u _).tr (mSc.h zH)), by rw [if_pos ⟨c9, c18⟩] <;> rfl⟩ | exact ⟨g, ar, hM, mFr.rf _, mSc.rf g ar, by first | rw [if_neg (fun h => c9 h.1)] | rw [if_neg (fun h => c18 h.2)]⟩)⟩
theorem inX6_values_X6 : ∀ x ∈ wsX60, x ∈ wsX6_values := by decide +kernel
theorem kwX6_values_81 : Cond.fieldLink RX6 81 "SeriesMarksModel" "series" "I" ∈ wsX6_values := by decide +kernel
theorem kwX6_values_44 : Cond.fieldLink RX6 44 "SeriesMarksModel" "isSeen" "[Z" ∈ wsX6_values := by decide +kernel
theorem kwX6_values_17 : Cond.fieldLink RX6 17 "SeriesMarksModel" "name" "[I" ∈ wsX6_values := by decide +kernel
set_option maxHeartbeats 4000000 in
set_option maxRecDepth 100000 in
theorem lp_X6_values {p : Program} {l : Launch} {e : Env} {s : State} {m : MethodId} {args : Array Value} {below : List Frame} {meth : Method} {c : Code} {Q : State → Prop} {E : gE} {w0 : va_W} (C : gC p s m args meth c E cX6_values 6 wsX6_values yX6_values.cls) {ad : Nat → Nat} {g : Nat → Int32} {ar : Nat → Nat → Int32} {tk ns np na : Nat} (hI : MI g ar tk ns np na) {mk f t n4 : Int32} {q : Nat → Bool} (hq : ∀ j, j < ns → ar 14 j = b01 (q j = true))  (hK : ∀ (zw : va_W) (zH : Nat → Int32), mAt zw (mcl E ad (upd g 15 (nI (insN (q) (fun j => dgt (ar 4 j) mk) ns).length)) (va_up ar 16 zH)) → mFr w0 zw → UL zH (insN (q) (fun j => dgt (ar 4 j) mk) ns) → V p l e ({ frames := 2, cells := 0, slots := 0, locals := 47 }) s m args below meth c E 6 zw 0 0 Q 77 [(0, .ref (ad 0)), (1, .int mk), (2, .int f), (3, .int t), (4, .int n4), (5, .int (nI ns))] []) : ∀ n i : Nat, i + n = ns → ∀ (zw : va_W) (zH : Nat → Int32), mAt zw (mcl E ad (upd g 15 (nI (insN (q) (fun j => dgt (ar 4 j) mk) i).length)) (va_up ar 16 zH)) → mFr w0 zw → UL zH (insN (q) (fun j => dgt (ar 4 j) mk) i) → V p l e ({ frames := 2, cells := 0, slots := 0, locals := 47 }) s m args below meth c E 6 zw 0 0 Q 37 [(0, .ref (ad 0)), (1, .int mk), (2, .int f), (3, .int t), (4, .int n4), (5, .int (nI i))] [] := by
  intro n
  induction n with
  | zero =>
    intro i hi zw zH hM hF hU
    obtain rfl : i = ns := by omega
    refine v_iload C dX6_values_37 rfl ?_
    refine v_aload_n C dX6_values_39 rfl rfl ?_
    refine vm_get (v := .int (g 3)) C hM inX6_values_X6 3 (by decide) kwX6_values_81 rfl rfl dX6_values_40 ?_
    refine v_icmp_ge (tgt := 77) C dX6_values_43 (by decide) (fun c43 => ?_) (fun c43 => absurd (by rw [hI.2.1.1]; exact nI_le (Nat.le_refl _) (by have := hI.ser.2; omega)) c43)
    exact hK zw zH hM hF hU
  | succ n ih =>
    intro i hi zw zH hM hF hU
    refine v_iload C dX6_values_37 rfl ?_
    refine v_aload_n C dX6_values_39 rfl rfl ?_
    refine vm_get (v := .int (g 3)) C hM inX6_values_X6 3 (by decide) kwX6_values_81 rfl rfl dX6_values_40 ?_
    refine v_icmp_ge (tgt := 77) C dX6_values_43 (by decide) (fun c43 => absurd c43 (by rw [hI.2.1.1]; exact nI_ge (by omega) (by have := hI.ser.2; omega))) (fun c43 => ?_)
    refine v_aload_n C dX6_values_46 rfl rfl ?_
    refine vm_get (v := .ref (ad 14)) C hM inX6_values_X6 14 (by decide) kwX6_values_44 rfl rfl dX6_values_47 ?_
    refine v_iload C dX6_values_50 rfl ?_
    refine vm_zald (f := ar 14) C hM 12 rfl (vp_in_nI (by have := hI.ser.2; omega) (by decide)) dX6_values_52 ?_
    rw [nI_clamp (show i < 2 ^ 31 by have := hI.ser.2; omega)]
    refine v_if_eq (tgt := 71) C dX6_values_53 (by decide) (fun c53 => ?_) (fun c53 => ?_)
    · have hq1 := q_f (hq i (by omega)) c53
      refine v_iincN C dX6_values_71 rfl (by decide) rfl ?_
      refine v_goto (tgt := 37) C dX6_values_74 (by decide) ?_
      first
      | (have e9 := insN_t (p := q) (h := fun j => dgt (ar 4 j) mk) (i := i) (by simp [*]; done)
         exact ih (i + 1) (by omega) zw zH (by rw [e9]; exact hM) hF (by rw [e9]; exact hU))
      | (have e9 := insN_f (p := q) (h := fun j => dgt (ar 4 j) mk) (i := i) (by simp [*]; done)
         exact ih (i + 1) (by omega) zw zH (by rw [e9]; exact hM) hF (by rw [e9]; exact hU))
    · have hq1 := q_t (hq i (by omega)) c53
      refine v_aload_n C dX6_values_56 rfl rfl ?_
      refine v_aload_n C dX6_values_57 rfl rfl ?_
      refine vm_get (v := .ref (ad 4)) C hM inX6_values_X6 4 (by decide) kwX6_values_17 rfl rfl dX6_values_58 ?_
      refine v_iload C dX6_values_61 rfl ?_
      refine vm_iald (f := ar 4) C hM 3 rfl (vp_in_nI (by have := hI.ser.2; omega) (by decide)) dX6_values_63 ?_
      rw [nI_clamp (show i < 2 ^ 31 by have := hI.ser.2; omega)]
      refine v_iload_n C dX6_values_64 rfl rfl ?_
      refine v_callSi C (c_X6_digit l E zw _ _) (va_cwS 2 C.1.2.2.2.2 gX6_values_X6_digit rfl rfl rfl (by decide +kernel) ⟨by decide, by decide⟩) rfl rfl (Nat.le_of_ble_eq_true rfl) dX6_values_65 ⟨Nat.le_of_ble_eq_true rfl, Nat.le_of_ble_eq_true rfl⟩ (fun r w1 hp => ?_)
      obtain ⟨rfl, rfl⟩ := hp
      refine v_callVu C (c_X6_note l E zw hM (insN_sor _ _ i) hU pk_us (by have := insN_len (q) (fun j => dgt (ar 4 j) mk) i; have := hI.ser.2; omega) _) (cwV 1 C.1.2.2.2.2 gX6_values_X6_note rfl rfl rfl (by decide +kernel) ⟨by decide, by decide⟩) 12 7 (hM 0 _ rfl) rfl rfl rfl (Nat.le_of_ble_eq_true rfl) dX6_values_68 ⟨Nat.le_of_ble_eq_true rfl, Nat.le_of_ble_eq_true rfl⟩ (fun zw hp => ?_)
      obtain ⟨zH, hM, hF1, hU⟩ := hp
      have hF := hF.tr hF1
      rw [fa_upd_twice, bx_uu] at hM
      refine v_iincN C dX6_values_71 rfl (by decide) rfl ?_
      refine v_goto (tgt := 37) C dX6_values_74 (by decide) ?_
      first
      | (have e9 := insN_t (p := q) (h := fun j => dgt (ar 4 j) mk) (i := i) (by simp [*]; done)
         exact ih (i + 1) (by omega) zw zH (by rw [e9]; exact hM) hF (by rw [e9]; exact hU))
      | (have e9 := insN_f (p := q) (h := fun j => dgt (ar 4 j) mk) (i := i) (by simp [*]; done)
         exact ih (i + 1) (by omega) zw zH (by rw [e9]; exact hM) hF (by rw [e9]; exact hU))
theorem kwX6_values_109 : Cond.fieldLink RX6 109 "SeriesMarksModel" "unlikes" "I" ∈ wsX6_values := by decide +kernel
set_option maxHeartbeats 4000000 in
set_option maxRecDepth 100000 in
theorem c_X6_values (l : Launch) (E : gE) (zw : va_W) {ad : Nat → Nat} {g : Nat → Int32} {ar : Nat → Nat → Int32} (hM : mAt zw (mcl E ad g ar)) {tk ns np na : Nat} (hI : MI g ar tk ns np na) (mk f t : Int32) : CtI l yX6_values wsX6_values ({ frames := 2, cells := 0, slots := 0, locals := 47 }) E [.ref (ad 0), .int mk, .int f, .int t] zw (fun r w1 => ∃ (g1 : Nat → Int32) (ar1 : Nat → Nat → Int32), mAt w1 (mcl E ad g1 ar1) ∧ mFr zw w1 ∧ mSc g ar g1 ar1 ∧ r = if 0 ≤ mk.toInt ∧ mk.toInt ≤ 5 then (if 0 ≤ t.toInt ∧ t.toInt ≤ (g 0).toInt ∧ 0 ≤ f.toInt ∧ f.toInt ≤ t.toInt then nI (insN (fun j => senB (inSp (ar 12) f t) (ar 11) j np) (fun j => dgt (ar 4 j) mk) ns).length else (-2)) else (-1)) 0 0 := by
  refine Ct.of (cc := cX6_values) (nL := 6) (ret := (some .int)) (by decide) rfl (Nat.le_of_ble_eq_true rfl) ?_
  intro p e s m args below meth c C hr hnm
  refine v_eqlv (lv9 := [(0, .ref (ad 0)), (1, .int mk), (2, .int f), (3, .int t)]) rfl ?_
  obtain ⟨w0, hw0⟩ : ∃ w0 : va_W, w0 = zw := ⟨_, rfl⟩
  have hF : mFr w0 zw := by rw [hw0]; exact mFr.rf zw
  refine v_iload_n C dX6_values_0 rfl rfl ?_
  refine v_callSi C (c_X6_isMark l E zw _) (va_cwS 1 C.1.2.2.2.2 gX6_values_X6_isMark rfl rfl rfl (by decide +kernel) ⟨by decide, by decide⟩) rfl rfl (Nat.le_of_ble_eq_true rfl) dX6_values_1 ⟨Nat.le_of_ble_eq_true rfl, Nat.le_of_ble_eq_true rfl⟩ (fun r w1 hp => ?_)
  obtain ⟨rfl, rfl⟩ := hp
  refine v_if_ne (tgt := 9) C dX6_values_4 (by decide) (fun c4 => ?_) (fun c4 => ?_)
  · have c4 := b01_n c4
    refine v_aload_n C dX6_values_9 rfl rfl ?_
    refine v_iload_n C dX6_values_10 rfl rfl ?_
    refine v_iload_n C dX6_values_11 rfl rfl ?_
    refine v_callVi C (c_X6_isSpan l E zw hM _ _) (cwV 2 C.1.2.2.2.2 gX6_values_X6_isSpan rfl rfl rfl (by decide +kernel) ⟨by decide, by decide⟩) 12 7 (hM 0 _ rfl) rfl rfl rfl (Nat.le_of_ble_eq_true rfl) dX6_values_12 ⟨Nat.le_of_ble_eq_true rfl, Nat.le_of_ble_eq_true rfl⟩ (fun r w1 hp => ?_)
    obtain ⟨rfl, rfl⟩ := hp
    refine v_if_ne (tgt := 21) C dX6_values_15 (by decide) (fun c15 => ?_) (fun c15 => ?_)
    · have c15 := b01_n c15
      refine v_aload_n C dX6_values_21 rfl rfl ?_
      refine v_iload_n C dX6_values_22 rfl rfl ?_
      refine v_iload_n C dX6_values_23 rfl rfl ?_
      refine v_callVi C (c_X6_look l E zw hM hI _ _) (cwV 2 C.1.2.2.2.2 gX6_values_X6_look rfl rfl rfl (by decide +kernel) ⟨by decide, by decide⟩) 12 7 (hM 0 _ rfl) rfl rfl rfl (Nat.le_of_ble_eq_true rfl) dX6_values_24 ⟨Nat.le_of_ble_eq_true rfl, Nat.le_of_ble_eq_true rfl⟩ (fun r zw hp => ?_)
      obtain ⟨zF, hM, hF1, hz, rfl⟩ := hp
      have hF := hF.tr hF1
      refine v_istore C dX6_values_27 (by decide) rfl ?_
      refine v_aload_n C dX6_values_29 rfl rfl ?_
      refine v_iconst (v := 0) C dX6_values_30 (by decide) ?_
      refine vm_puti C hM hF inX6_values_X6 15 (by decide) kwX6_values_109 rfl rfl (by decide +kernel) rfl dX6_values_31 (fun zw hM hF => ?_)
      refine v_iconst (v := 0) C dX6_values_34 (by decide) ?_
      refine v_at (pc9 := 35) rfl ?_
      refine v_tov nI_0.symm ?_
      refine v_istore C dX6_values_35 (by decide) rfl ?_
      refine lp_X6_values (w0 := w0) (q := (fun j => senB (inSp (ar 12) f t) (ar 11) j np)) C (hI.sc (mSc.f zF)) (mk := mk) hz ?_ ns 0 (Nat.zero_add _) zw (ar 16) (by rw [show ar 16 = (va_up ar 14 zF) 16 from rfl, bx_k]; exact hM) hF (UL.nil _)
      intro zw zH hM hF hU
      refine v_aload_n C dX6_values_77 rfl rfl ?_
      refine vm_get (v := .int (upd g 15 (nI (insN (fun j => senB (inSp (ar 12) f t) (ar 11) j np) (fun j => dgt (ar 4 j) mk) ns).length) 15)) C hM inX6_values_X6 15 (by decide) kwX6_values_109 rfl rfl dX6_values_78 ?_
      rw [pk_us]
      exact v_iret C hr dX6_values_81 (Nat.le_refl _) (Nat.le_refl _) ⟨_, rfl, (by first | exact ⟨_, _, hM, hw0 ▸ hF, (mSc.f zF).tr ((mSc.u _).tr (mSc.h zH)), by rw [if_pos c4, if_pos c15] <;> rfl⟩ | exact ⟨g, ar, hM, hw0 ▸ hF, mSc.rf g ar, by first | (rw [if_neg c4]; done) | (rw [if_pos c4, if_neg c15]; done)⟩)⟩
    · have c15 := b01_0 c15
      refine v_bipush (v := (-2)) C dX6_values_18 (by decide) ?_
      exact v_iret C hr dX6_values_20 (Nat.le_refl _) (Nat.le_refl _) ⟨_, rfl, (by first | exact ⟨_, _, hM, hw0 ▸ hF, (mSc.f zF).tr ((mSc.u _).tr (mSc.h zH)), by rw [if_pos c4, if_pos c15] <;> rfl⟩ | exact ⟨g, ar, hM, hw0 ▸ hF, mSc.rf g ar, by first | (rw [if_neg c4]; done) | (rw [if_pos c4, if_neg c15]; done)⟩)⟩
  · have c4 := b01_0 c4
    refine v_iconst (v := (-1)) C dX6_values_7 (by decide) ?_
    exact v_iret C hr dX6_values_8 (Nat.le_refl _) (Nat.le_refl _) ⟨_, rfl, (by first | exact ⟨_, _, hM, hw0 ▸ hF, (mSc.f zF).tr ((mSc.u _).tr (mSc.h zH)), by rw [if_pos c4, if_pos c15] <;> rfl⟩ | exact ⟨g, ar, hM, hw0 ▸ hF, mSc.rf g ar, by first | (rw [if_neg c4]; done) | (rw [if_pos c4, if_neg c15]; done)⟩)⟩
theorem inX6_findKeys_X6 : ∀ x ∈ wsX60, x ∈ wsX6_findKeys := by decide +kernel
theorem kwX6_findKeys_81 : Cond.fieldLink RX6 81 "SeriesMarksModel" "series" "I" ∈ wsX6_findKeys := by decide +kernel
theorem kwX6_findKeys_44 : Cond.fieldLink RX6 44 "SeriesMarksModel" "isSeen" "[Z" ∈ wsX6_findKeys := by decide +kernel
theorem kwX6_findKeys_17 : Cond.fieldLink RX6 17 "SeriesMarksModel" "name" "[I" ∈ wsX6_findKeys := by decide +kernel
set_option maxHeartbeats 4000000 in
set_option maxRecDepth 100000 in
theorem lp_X6_findKeys {p : Program} {l : Launch} {e : Env} {s : State} {m : MethodId} {args : Array Value} {below : List Frame} {meth : Method} {c : Code} {Q : State → Prop} {E : gE} {w0 : va_W} (C : gC p s m args meth c E cX6_findKeys 6 wsX6_findKeys yX6_findKeys.cls) {ad : Nat → Nat} {g : Nat → Int32} {ar : Nat → Nat → Int32} {tk ns np na : Nat} (hI : MI g ar tk ns np na) {a f t n4 : Int32} (hw1 : 0 ≤ a.toInt) (hw2 : a.toInt < na) {q : Nat → Bool} (hq : ∀ j, j < ns → ar 14 j = b01 (q j = true))  (hK : ∀ (zw : va_W) (zH : Nat → Int32), mAt zw (mcl E ad (upd g 15 (nI (insN (fun j => q j && decide (ar 19 a.toNatClampNeg = (-9) ∨ dgt (ar 4 j) (ar 19 a.toNatClampNeg) = ar 20 a.toNatClampNeg)) (fun j => woI (ar 4 j) (63 &&& (ar 18 a.toNatClampNeg ^^^ (-1))) 6) ns).length)) (va_up ar 16 zH)) → mFr w0 zw → UL zH (insN (fun j => q j && decide (ar 19 a.toNatClampNeg = (-9) ∨ dgt (ar 4 j) (ar 19 a.toNatClampNeg) = ar 20 a.toNatClampNeg)) (fun j => woI (ar 4 j) (63 &&& (ar 18 a.toNatClampNeg ^^^ (-1))) 6) ns) → V p l e ({ frames := 2, cells := 0, slots := 0, locals := 45 }) s m args below meth c E 6 zw 0 0 Q 72 [(0, .ref (ad 0)), (1, .int a), (2, .int f), (3, .int t), (4, .int n4), (5, .int (nI ns))] []) : ∀ n i : Nat, i + n = ns → ∀ (zw : va_W) (zH : Nat → Int32), mAt zw (mcl E ad (upd g 15 (nI (insN (fun j => q j && decide (ar 19 a.toNatClampNeg = (-9) ∨ dgt (ar 4 j) (ar 19 a.toNatClampNeg) = ar 20 a.toNatClampNeg)) (fun j => woI (ar 4 j) (63 &&& (ar 18 a.toNatClampNeg ^^^ (-1))) 6) i).length)) (va_up ar 16 zH)) → mFr w0 zw → UL zH (insN (fun j => q j && decide (ar 19 a.toNatClampNeg = (-9) ∨ dgt (ar 4 j) (ar 19 a.toNatClampNeg) = ar 20 a.toNatClampNeg)) (fun j => woI (ar 4 j) (63 &&& (ar 18 a.toNatClampNeg ^^^ (-1))) 6) i) → V p l e ({ frames := 2, cells := 0, slots := 0, locals := 45 }) s m args below meth c E 6 zw 0 0 Q 16 [(0, .ref (ad 0)), (1, .int a), (2, .int f), (3, .int t), (4, .int n4), (5, .int (nI i))] [] := by
  intro n
  induction n with
  | zero =>
    intro i hi zw zH hM hF hU
    obtain rfl : i = ns := by omega
    refine v_iload C dX6_findKeys_16 rfl ?_
    refine v_aload_n C dX6_findKeys_18 rfl rfl ?_
    refine vm_get (v := .int (g 3)) C hM inX6_findKeys_X6 3 (by decide) kwX6_findKeys_81 rfl rfl dX6_findKeys_19 ?_
    refine v_icmp_ge (tgt := 72) C dX6_findKeys_22 (by decide) (fun c22 => ?_) (fun c22 => absurd (by rw [hI.2.1.1]; exact nI_le (Nat.le_refl _) (by have := hI.ser.2; omega)) c22)
    exact hK zw zH hM hF hU
  | succ n ih =>
    intro i hi zw zH hM hF hU
    refine v_iload C dX6_findKeys_16 rfl ?_
    refine v_aload_n C dX6_findKeys_18 rfl rfl ?_
    refine vm_get (v := .int (g 3)) C hM inX6_findKeys_X6 3 (by decide) kwX6_findKeys_81 rfl rfl dX6_findKeys_19 ?_
    refine v_icmp_ge (tgt := 72) C dX6_findKeys_22 (by decide) (fun c22 => absurd c22 (by rw [hI.2.1.1]; exact nI_ge (by omega) (by have := hI.ser.2; omega))) (fun c22 => ?_)
    refine v_aload_n C dX6_findKeys_25 rfl rfl ?_
    refine vm_get (v := .ref (ad 14)) C hM inX6_findKeys_X6 14 (by decide) kwX6_findKeys_44 rfl rfl dX6_findKeys_26 ?_
    refine v_iload C dX6_findKeys_29 rfl ?_
    refine vm_zald (f := ar 14) C hM 12 rfl (vp_in_nI (by have := hI.ser.2; omega) (by decide)) dX6_findKeys_31 ?_
    rw [nI_clamp (show i < 2 ^ 31 by have := hI.ser.2; omega)]
    refine v_if_eq (tgt := 66) C dX6_findKeys_32 (by decide) (fun c32 => ?_) (fun c32 => ?_)
    · have hq1 := q_f (hq i (by omega)) c32
      refine v_iincN C dX6_findKeys_66 rfl (by decide) rfl ?_
      refine v_goto (tgt := 16) C dX6_findKeys_69 (by decide) ?_
      first
      | (have e9 := insN_t (p := fun j => q j && decide (ar 19 a.toNatClampNeg = (-9) ∨ dgt (ar 4 j) (ar 19 a.toNatClampNeg) = ar 20 a.toNatClampNeg)) (h := fun j => woI (ar 4 j) (63 &&& (ar 18 a.toNatClampNeg ^^^ (-1))) 6) (i := i) (by simp [*]; done)
         exact ih (i + 1) (by omega) zw zH (by rw [e9]; exact hM) hF (by rw [e9]; exact hU))
      | (have e9 := insN_f (p := fun j => q j && decide (ar 19 a.toNatClampNeg = (-9) ∨ dgt (ar 4 j) (ar 19 a.toNatClampNeg) = ar 20 a.toNatClampNeg)) (h := fun j => woI (ar 4 j) (63 &&& (ar 18 a.toNatClampNeg ^^^ (-1))) 6) (i := i) (by simp [*]; done)
         exact ih (i + 1) (by omega) zw zH (by rw [e9]; exact hM) hF (by rw [e9]; exact hU))
    · have hq1 := q_t (hq i (by omega)) c32
      refine v_aload_n C dX6_findKeys_35 rfl rfl ?_
      refine v_iload_n C dX6_findKeys_36 rfl rfl ?_
      refine v_aload_n C dX6_findKeys_37 rfl rfl ?_
      refine vm_get (v := .ref (ad 4)) C hM inX6_findKeys_X6 4 (by decide) kwX6_findKeys_17 rfl rfl dX6_findKeys_38 ?_
      refine v_iload C dX6_findKeys_41 rfl ?_
      refine vm_iald (f := ar 4) C hM 3 rfl (vp_in_nI (by have := hI.ser.2; omega) (by decide)) dX6_findKeys_43 ?_
      rw [nI_clamp (show i < 2 ^ 31 by have := hI.ser.2; omega)]
      refine v_callVi C (c_X6_isWanted l E zw hM (hI.sc ((mSc.u _).tr (mSc.h zH))) _ _ hw1 hw2) (cwV 2 C.1.2.2.2.2 gX6_findKeys_X6_isWanted rfl rfl rfl (by decide +kernel) ⟨by decide, by decide⟩) 12 7 (hM 0 _ rfl) rfl rfl rfl (Nat.le_of_ble_eq_true rfl) dX6_findKeys_44 ⟨Nat.le_of_ble_eq_true rfl, Nat.le_of_ble_eq_true rfl⟩ (fun r w1 hp => ?_)
      obtain ⟨rfl, hr9⟩ := hp
      rw [hr9]
      clear hr9
      refine v_if_eq (tgt := 66) C dX6_findKeys_47 (by decide) (fun c47 => ?_) (fun c47 => ?_)
      · have hw9 : ¬ (ar 19 a.toNatClampNeg = (-9) ∨ dgt (ar 4 i) (ar 19 a.toNatClampNeg) = ar 20 a.toNatClampNeg) := b01_0 c47
        refine v_iincN C dX6_findKeys_66 rfl (by decide) rfl ?_
        refine v_goto (tgt := 16) C dX6_findKeys_69 (by decide) ?_
        first
        | (have e9 := insN_t (p := fun j => q j && decide (ar 19 a.toNatClampNeg = (-9) ∨ dgt (ar 4 j) (ar 19 a.toNatClampNeg) = ar 20 a.toNatClampNeg)) (h := fun j => woI (ar 4 j) (63 &&& (ar 18 a.toNatClampNeg ^^^ (-1))) 6) (i := i) (by simp [*]; done)
           exact ih (i + 1) (by omega) zw zH (by rw [e9]; exact hM) hF (by rw [e9]; exact hU))
        | (have e9 := insN_f (p := fun j => q j && decide (ar 19 a.toNatClampNeg = (-9) ∨ dgt (ar 4 j) (ar 19 a.toNatClampNeg) = ar 20 a.toNatClampNeg)) (h := fun j => woI (ar 4 j) (63 &&& (ar 18 a.toNatClampNeg ^^^ (-1))) 6) (i := i) (by simp [*]; done)
           exact ih (i + 1) (by omega) zw zH (by rw [e9]; exact hM) hF (by rw [e9]; exact hU))
      · have hw9 : (ar 19 a.toNatClampNeg = (-9) ∨ dgt (ar 4 i) (ar 19 a.toNatClampNeg) = ar 20 a.toNatClampNeg) := b01_n c47
        refine v_aload_n C dX6_findKeys_50 rfl rfl ?_
        refine v_aload_n C dX6_findKeys_51 rfl rfl ?_
        refine v_iload_n C dX6_findKeys_52 rfl rfl ?_
        refine v_aload_n C dX6_findKeys_53 rfl rfl ?_
        refine vm_get (v := .ref (ad 4)) C hM inX6_findKeys_X6 4 (by decide) kwX6_findKeys_17 rfl rfl dX6_findKeys_54 ?_
        refine v_iload C dX6_findKeys_57 rfl ?_
        refine vm_iald (f := ar 4) C hM 3 rfl (vp_in_nI (by have := hI.ser.2; omega) (by decide)) dX6_findKeys_59 ?_
        rw [nI_clamp (show i < 2 ^ 31 by have := hI.ser.2; omega)]
        refine v_callVi C (c_X6_keyOf l E zw hM (hI.sc ((mSc.u _).tr (mSc.h zH))) _ _ hw1 hw2) (cwV 2 C.1.2.2.2.2 gX6_findKeys_X6_keyOf rfl rfl rfl (by decide +kernel) ⟨by decide, by decide⟩) 12 7 (hM 0 _ rfl) rfl rfl rfl (Nat.le_of_ble_eq_true rfl) dX6_findKeys_60 ⟨Nat.le_of_ble_eq_true rfl, Nat.le_of_ble_eq_true rfl⟩ (fun r w1 hp => ?_)
        obtain ⟨rfl, hr9⟩ := hp
        rw [hr9]
        clear hr9
        refine v_callVu C (c_X6_note l E zw hM (insN_sor _ _ i) hU pk_us (by have := insN_len (fun j => q j && decide (ar 19 a.toNatClampNeg = (-9) ∨ dgt (ar 4 j) (ar 19 a.toNatClampNeg) = ar 20 a.toNatClampNeg)) (fun j => woI (ar 4 j) (63 &&& (ar 18 a.toNatClampNeg ^^^ (-1))) 6) i; have := hI.ser.2; omega) _) (cwV 1 C.1.2.2.2.2 gX6_findKeys_X6_note rfl rfl rfl (by decide +kernel) ⟨by decide, by decide⟩) 12 7 (hM 0 _ rfl) rfl rfl rfl (Nat.le_of_ble_eq_true rfl) dX6_findKeys_63 ⟨Nat.le_of_ble_eq_true rfl, Nat.le_of_ble_eq_true rfl⟩ (fun zw hp => ?_)
        obtain ⟨zH, hM, hF1, hU⟩ := hp
        have hF := hF.tr hF1
        rw [fa_upd_twice, bx_uu] at hM
        refine v_iincN C dX6_findKeys_66 rfl (by decide) rfl ?_
        refine v_goto (tgt := 16) C dX6_findKeys_69 (by decide) ?_
        first
        | (have e9 := insN_t (p := fun j => q j && decide (ar 19 a.toNatClampNeg = (-9) ∨ dgt (ar 4 j) (ar 19 a.toNatClampNeg) = ar 20 a.toNatClampNeg)) (h := fun j => woI (ar 4 j) (63 &&& (ar 18 a.toNatClampNeg ^^^ (-1))) 6) (i := i) (by simp [*]; done)
           exact ih (i + 1) (by omega) zw zH (by rw [e9]; exact hM) hF (by rw [e9]; exact hU))
        | (have e9 := insN_f (p := fun j => q j && decide (ar 19 a.toNatClampNeg = (-9) ∨ dgt (ar 4 j) (ar 19 a.toNatClampNeg) = ar 20 a.toNatClampNeg)) (h := fun j => woI (ar 4 j) (63 &&& (ar 18 a.toNatClampNeg ^^^ (-1))) 6) (i := i) (by simp [*]; done)
           exact ih (i + 1) (by omega) zw zH (by rw [e9]; exact hM) hF (by rw [e9]; exact hU))
theorem kwX6_findKeys_109 : Cond.fieldLink RX6 109 "SeriesMarksModel" "unlikes" "I" ∈ wsX6_findKeys := by decide +kernel
set_option maxHeartbeats 4000000 in
set_option maxRecDepth 100000 in
theorem c_X6_findKeys (l : Launch) (E : gE) (zw : va_W) {ad : Nat → Nat} {g : Nat → Int32} {ar : Nat → Nat → Int32} (hM : mAt zw (mcl E ad g ar)) {tk ns np na : Nat} (hI : MI g ar tk ns np na) (a f t : Int32) (hw1 : 0 ≤ a.toInt) (hw2 : a.toInt < na) : CtI l yX6_findKeys wsX6_findKeys ({ frames := 2, cells := 0, slots := 0, locals := 45 }) E [.ref (ad 0), .int a, .int f, .int t] zw (fun r w1 => ∃ (g1 : Nat → Int32) (ar1 : Nat → Nat → Int32), mAt w1 (mcl E ad g1 ar1) ∧ mFr zw w1 ∧ mSc g ar g1 ar1 ∧ UL (ar1 16) (insN (fun j => senB (inSp (ar 12) f t) (ar 11) j np && decide (ar 19 a.toNatClampNeg = (-9) ∨ dgt (ar 4 j) (ar 19 a.toNatClampNeg) = ar 20 a.toNatClampNeg)) (fun j => woI (ar 4 j) (63 &&& (ar 18 a.toNatClampNeg ^^^ (-1))) 6) ns) ∧ r = nI (insN (fun j => senB (inSp (ar 12) f t) (ar 11) j np && decide (ar 19 a.toNatClampNeg = (-9) ∨ dgt (ar 4 j) (ar 19 a.toNatClampNeg) = ar 20 a.toNatClampNeg)) (fun j => woI (ar 4 j) (63 &&& (ar 18 a.toNatClampNeg ^^^ (-1))) 6) ns).length) 0 0 := by
  refine Ct.of (cc := cX6_findKeys) (nL := 6) (ret := (some .int)) (by decide) rfl (Nat.le_of_ble_eq_true rfl) ?_
  intro p e s m args below meth c C hr hnm
  refine v_eqlv (lv9 := [(0, .ref (ad 0)), (1, .int a), (2, .int f), (3, .int t)]) rfl ?_
  obtain ⟨w0, hw0⟩ : ∃ w0 : va_W, w0 = zw := ⟨_, rfl⟩
  have hF : mFr w0 zw := by rw [hw0]; exact mFr.rf zw
  refine v_aload_n C dX6_findKeys_0 rfl rfl ?_
  refine v_iload_n C dX6_findKeys_1 rfl rfl ?_
  refine v_iload_n C dX6_findKeys_2 rfl rfl ?_
  refine v_callVi C (c_X6_look l E zw hM hI _ _) (cwV 2 C.1.2.2.2.2 gX6_findKeys_X6_look rfl rfl rfl (by decide +kernel) ⟨by decide, by decide⟩) 12 7 (hM 0 _ rfl) rfl rfl rfl (Nat.le_of_ble_eq_true rfl) dX6_findKeys_3 ⟨Nat.le_of_ble_eq_true rfl, Nat.le_of_ble_eq_true rfl⟩ (fun r zw hp => ?_)
  obtain ⟨zF, hM, hF1, hz, rfl⟩ := hp
  have hF := hF.tr hF1
  refine v_istore C dX6_findKeys_6 (by decide) rfl ?_
  refine v_aload_n C dX6_findKeys_8 rfl rfl ?_
  refine v_iconst (v := 0) C dX6_findKeys_9 (by decide) ?_
  refine vm_puti C hM hF inX6_findKeys_X6 15 (by decide) kwX6_findKeys_109 rfl rfl (by decide +kernel) rfl dX6_findKeys_10 (fun zw hM hF => ?_)
  refine v_iconst (v := 0) C dX6_findKeys_13 (by decide) ?_
  refine v_at (pc9 := 14) rfl ?_
  refine v_tov nI_0.symm ?_
  refine v_istore C dX6_findKeys_14 (by decide) rfl ?_
  refine lp_X6_findKeys (w0 := w0) (q := (fun j => senB (inSp (ar 12) f t) (ar 11) j np)) C (hI.sc (mSc.f zF)) hw1 hw2 hz ?_ ns 0 (Nat.zero_add _) zw (ar 16) (by rw [show ar 16 = (va_up ar 14 zF) 16 from rfl, bx_k]; exact hM) hF (UL.nil _)
  intro zw zH hM hF hU
  refine v_aload_n C dX6_findKeys_72 rfl rfl ?_
  refine vm_get (v := .int (upd g 15 (nI (insN (fun j => senB (inSp (ar 12) f t) (ar 11) j np && decide (ar 19 a.toNatClampNeg = (-9) ∨ dgt (ar 4 j) (ar 19 a.toNatClampNeg) = ar 20 a.toNatClampNeg)) (fun j => woI (ar 4 j) (63 &&& (ar 18 a.toNatClampNeg ^^^ (-1))) 6) ns).length) 15)) C hM inX6_findKeys_X6 15 (by decide) kwX6_findKeys_109 rfl rfl dX6_findKeys_73 ?_
  rw [pk_us]
  exact v_iret C hr dX6_findKeys_76 (Nat.le_refl _) (Nat.le_refl _) ⟨_, rfl, ⟨_, _, hM, hw0 ▸ hF, (mSc.f zF).tr ((mSc.u _).tr (mSc.h zH)), hU, rfl⟩⟩
set_option maxHeartbeats 4000000 in
set_option maxRecDepth 100000 in
theorem c_X6_keys (l : Launch) (E : gE) (zw : va_W) {ad : Nat → Nat} {g : Nat → Int32} {ar : Nat → Nat → Int32} (hM : mAt zw (mcl E ad g ar)) {tk ns np na : Nat} (hI : MI g ar tk ns np na) (a f t : Int32) : CtI l yX6_keys wsX6_keys ({ frames := 3, cells := 0, slots := 0, locals := 70 }) E [.ref (ad 0), .int a, .int f, .int t] zw (fun r w1 => ∃ (g1 : Nat → Int32) (ar1 : Nat → Nat → Int32), mAt w1 (mcl E ad g1 ar1) ∧ mFr zw w1 ∧ mSc g ar g1 ar1 ∧ r = if 0 ≤ a.toInt ∧ a.toInt < na then (if 0 ≤ t.toInt ∧ t.toInt ≤ (g 0).toInt ∧ 0 ≤ f.toInt ∧ f.toInt ≤ t.toInt then nI (insN (fun j => senB (inSp (ar 12) f t) (ar 11) j np && decide (ar 19 a.toNatClampNeg = (-9) ∨ dgt (ar 4 j) (ar 19 a.toNatClampNeg) = ar 20 a.toNatClampNeg)) (fun j => woI (ar 4 j) (63 &&& (ar 18 a.toNatClampNeg ^^^ (-1))) 6) ns).length else (-2)) else (-1)) 0 0 := by
  refine Ct.of (cc := cX6_keys) (nL := 4) (ret := (some .int)) (by decide) rfl (Nat.le_of_ble_eq_true rfl) ?_
  intro p e s m args below meth c C hr hnm
  refine v_eqlv (lv9 := [(0, .ref (ad 0)), (1, .int a), (2, .int f), (3, .int t)]) rfl ?_
  refine v_aload_n C dX6_keys_0 rfl rfl ?_
  refine v_iload_n C dX6_keys_1 rfl rfl ?_
  refine v_callVi C (c_X6_isAsking l E zw hM hI _) (cwV 1 C.1.2.2.2.2 gX6_keys_X6_isAsking rfl rfl rfl (by decide +kernel) ⟨by decide, by decide⟩) 12 7 (hM 0 _ rfl) rfl rfl rfl (Nat.le_of_ble_eq_true rfl) dX6_keys_2 ⟨Nat.le_of_ble_eq_true rfl, Nat.le_of_ble_eq_true rfl⟩ (fun r w1 hp => ?_)
  obtain ⟨rfl, rfl⟩ := hp
  refine v_if_ne (tgt := 10) C dX6_keys_5 (by decide) (fun c5 => ?_) (fun c5 => ?_)
  · have c5 := b01_n c5
    refine v_aload_n C dX6_keys_10 rfl rfl ?_
    refine v_iload_n C dX6_keys_11 rfl rfl ?_
    refine v_iload_n C dX6_keys_12 rfl rfl ?_
    refine v_callVi C (c_X6_isSpan l E zw hM _ _) (cwV 2 C.1.2.2.2.2 gX6_keys_X6_isSpan rfl rfl rfl (by decide +kernel) ⟨by decide, by decide⟩) 12 7 (hM 0 _ rfl) rfl rfl rfl (Nat.le_of_ble_eq_true rfl) dX6_keys_13 ⟨Nat.le_of_ble_eq_true rfl, Nat.le_of_ble_eq_true rfl⟩ (fun r w1 hp => ?_)
    obtain ⟨rfl, rfl⟩ := hp
    refine v_if_eq (tgt := 29) C dX6_keys_16 (by decide) (fun c16 => ?_) (fun c16 => ?_)
    · have c16 := b01_0 c16
      refine v_bipush (v := (-2)) C dX6_keys_29 (by decide) ?_
      exact v_iret C hr dX6_keys_31 (Nat.le_refl _) (Nat.le_refl _) ⟨_, rfl, (by first | exact ⟨g1, ar1, hM, hF, hs, by rw [if_pos c5, if_pos c16]⟩ | exact ⟨g, ar, hM, mFr.rf _, mSc.rf g ar, by first | (rw [if_neg c5]; done) | (rw [if_pos c5, if_neg c16]; done)⟩)⟩
    · have c16 := b01_n c16
      refine v_aload_n C dX6_keys_19 rfl rfl ?_
      refine v_iload_n C dX6_keys_20 rfl rfl ?_
      refine v_iload_n C dX6_keys_21 rfl rfl ?_
      refine v_iload_n C dX6_keys_22 rfl rfl ?_
      refine v_callVi C (c_X6_findKeys l E zw hM hI _ _ _ c5.1 c5.2) (cwV 3 C.1.2.2.2.2 gX6_keys_X6_findKeys rfl rfl rfl (by decide +kernel) ⟨by decide, by decide⟩) 12 7 (hM 0 _ rfl) rfl rfl rfl (Nat.le_of_ble_eq_true rfl) dX6_keys_23 ⟨Nat.le_of_ble_eq_true rfl, Nat.le_of_ble_eq_true rfl⟩ (fun r zw hp => ?_)
      obtain ⟨g1, ar1, hM, hF, hs, hU, rfl⟩ := hp
      refine v_goto (tgt := 31) C dX6_keys_26 (by decide) ?_
      exact v_iret C hr dX6_keys_31 (Nat.le_refl _) (Nat.le_refl _) ⟨_, rfl, (by first | exact ⟨g1, ar1, hM, hF, hs, by rw [if_pos c5, if_pos c16]⟩ | exact ⟨g, ar, hM, mFr.rf _, mSc.rf g ar, by first | (rw [if_neg c5]; done) | (rw [if_pos c5, if_neg c16]; done)⟩)⟩
  · have c5 := b01_0 c5
    refine v_iconst (v := (-1)) C dX6_keys_8 (by decide) ?_
    exact v_iret C hr dX6_keys_9 (Nat.le_refl _) (Nat.le_refl _) ⟨_, rfl, (by first | exact ⟨g1, ar1, hM, hF, hs, by rw [if_pos c5, if_pos c16]⟩ | exact ⟨g, ar, hM, mFr.rf _, mSc.rf g ar, by first | (rw [if_neg c5]; done) | (rw [if_pos c5, if_neg c16]; done)⟩)⟩
theorem inX6_key_X6 : ∀ x ∈ wsX60, x ∈ wsX6_key := by decide +kernel
theorem kwX6_key_47 : Cond.fieldLink RX6 47 "SeriesMarksModel" "unlike" "[I" ∈ wsX6_key := by decide +kernel
set_option maxHeartbeats 4000000 in
set_option maxRecDepth 100000 in
theorem c_X6_key (l : Launch) (E : gE) (zw : va_W) {ad : Nat → Nat} {g : Nat → Int32} {ar : Nat → Nat → Int32} (hM : mAt zw (mcl E ad g ar)) {tk ns np na : Nat} (hI : MI g ar tk ns np na) (a i0 f t : Int32) : CtI l yX6_key wsX6_key ({ frames := 3, cells := 0, slots := 0, locals := 70 }) E [.ref (ad 0), .int a, .int i0, .int f, .int t] zw (fun r w1 => ∃ (g1 : Nat → Int32) (ar1 : Nat → Nat → Int32), mAt w1 (mcl E ad g1 ar1) ∧ mFr zw w1 ∧ mSc g ar g1 ar1 ∧ r = if 0 ≤ a.toInt ∧ a.toInt < na then (if 0 ≤ t.toInt ∧ t.toInt ≤ (g 0).toInt ∧ 0 ≤ f.toInt ∧ f.toInt ≤ t.toInt then (if 0 ≤ i0.toInt ∧ i0.toInt < (insN (fun j => senB (inSp (ar 12) f t) (ar 11) j np && decide (ar 19 a.toNatClampNeg = (-9) ∨ dgt (ar 4 j) (ar 19 a.toNatClampNeg) = ar 20 a.toNatClampNeg)) (fun j => woI (ar 4 j) (63 &&& (ar 18 a.toNatClampNeg ^^^ (-1))) 6) ns).length then (insN (fun j => senB (inSp (ar 12) f t) (ar 11) j np && decide (ar 19 a.toNatClampNeg = (-9) ∨ dgt (ar 4 j) (ar 19 a.toNatClampNeg) = ar 20 a.toNatClampNeg)) (fun j => woI (ar 4 j) (63 &&& (ar 18 a.toNatClampNeg ^^^ (-1))) 6) ns).getD i0.toInt.toNat (-9) else (-9)) else (-2)) else (-1)) 0 0 := by
  refine Ct.of (cc := cX6_key) (nL := 6) (ret := (some .int)) (by decide) rfl (Nat.le_of_ble_eq_true rfl) ?_
  intro p e s m args below meth c C hr hnm
  refine v_eqlv (lv9 := [(0, .ref (ad 0)), (1, .int a), (2, .int i0), (3, .int f), (4, .int t)]) rfl ?_
  refine v_aload_n C dX6_key_0 rfl rfl ?_
  refine v_iload_n C dX6_key_1 rfl rfl ?_
  refine v_callVi C (c_X6_isAsking l E zw hM hI _) (cwV 1 C.1.2.2.2.2 gX6_key_X6_isAsking rfl rfl rfl (by decide +kernel) ⟨by decide, by decide⟩) 12 7 (hM 0 _ rfl) rfl rfl rfl (Nat.le_of_ble_eq_true rfl) dX6_key_2 ⟨Nat.le_of_ble_eq_true rfl, Nat.le_of_ble_eq_true rfl⟩ (fun r w1 hp => ?_)
  obtain ⟨rfl, rfl⟩ := hp
  refine v_if_ne (tgt := 10) C dX6_key_5 (by decide) (fun c5 => ?_) (fun c5 => ?_)
  · have c5 := b01_n c5
    refine v_aload_n C dX6_key_10 rfl rfl ?_
    refine v_iload_n C dX6_key_11 rfl rfl ?_
    refine v_iload C dX6_key_12 rfl ?_
    refine v_callVi C (c_X6_isSpan l E zw hM _ _) (cwV 2 C.1.2.2.2.2 gX6_key_X6_isSpan rfl rfl rfl (by decide +kernel) ⟨by decide, by decide⟩) 12 7 (hM 0 _ rfl) rfl rfl rfl (Nat.le_of_ble_eq_true rfl) dX6_key_14 ⟨Nat.le_of_ble_eq_true rfl, Nat.le_of_ble_eq_true rfl⟩ (fun r w1 hp => ?_)
    obtain ⟨rfl, rfl⟩ := hp
    refine v_if_ne (tgt := 23) C dX6_key_17 (by decide) (fun c17 => ?_) (fun c17 => ?_)
    · have c17 := b01_n c17
      refine v_aload_n C dX6_key_23 rfl rfl ?_
      refine v_iload_n C dX6_key_24 rfl rfl ?_
      refine v_iload_n C dX6_key_25 rfl rfl ?_
      refine v_iload C dX6_key_26 rfl ?_
      refine v_callVi C (c_X6_findKeys l E zw hM hI _ _ _ c5.1 c5.2) (cwV 3 C.1.2.2.2.2 gX6_key_X6_findKeys rfl rfl rfl (by decide +kernel) ⟨by decide, by decide⟩) 12 7 (hM 0 _ rfl) rfl rfl rfl (Nat.le_of_ble_eq_true rfl) dX6_key_28 ⟨Nat.le_of_ble_eq_true rfl, Nat.le_of_ble_eq_true rfl⟩ (fun r zw hp => ?_)
      obtain ⟨g1, ar1, hM, hF, hs, hU, rfl⟩ := hp
      have hl9 := insN_len (fun j => senB (inSp (ar 12) f t) (ar 11) j np && decide (ar 19 a.toNatClampNeg = (-9) ∨ dgt (ar 4 j) (ar 19 a.toNatClampNeg) = ar 20 a.toNatClampNeg)) (fun j => woI (ar 4 j) (63 &&& (ar 18 a.toNatClampNeg ^^^ (-1))) 6) ns
      have hn9 := hI.ser.2
      refine v_istore C dX6_key_31 (by decide) rfl ?_
      refine v_iload_n C dX6_key_33 rfl rfl ?_
      refine v_i2l C dX6_key_34 rfl ?_
      refine v_lconst (v := 0) C dX6_key_35 (by decide) ?_
      refine v_at (pc9 := 36) rfl ?_
      refine v_iload C dX6_key_36 rfl ?_
      refine v_iconst (v := 1) C dX6_key_38 (by decide) ?_
      refine v_isub C dX6_key_39 ?_
      refine v_i2l C dX6_key_40 rfl ?_
      refine v_callSi C (c_X6_in l E zw _ _ _) (va_cwS 3 C.1.2.2.2.2 gX6_key_X6_in rfl rfl rfl (by decide +kernel) ⟨by decide, by decide⟩) rfl rfl (Nat.le_of_ble_eq_true rfl) dX6_key_41 ⟨Nat.le_of_ble_eq_true rfl, Nat.le_of_ble_eq_true rfl⟩ (fun r w1 hp => ?_)
      obtain ⟨rfl, rfl⟩ := hp
      refine v_if_eq (tgt := 56) C dX6_key_44 (by decide) (fun c44 => ?_) (fun c44 => ?_)
      · have c44 := b01_0 c44
        simp only [t64, tl_0] at c44
        rw [fb_subI (by rw [nI_toInt (by omega), ti_1]; omega) (by rw [nI_toInt (by omega), ti_1]; omega), nI_toInt (by omega), ti_1] at c44
        refine v_bipush (v := (-9)) C dX6_key_56 (by decide) ?_
        exact v_iret C hr dX6_key_58 (Nat.le_refl _) (Nat.le_refl _) ⟨_, rfl, (by first
          | exact ⟨g1, ar1, hM, hF, hs, by rw [if_pos c5, if_pos c17, if_pos (show 0 ≤ i0.toInt ∧ i0.toInt < (insN (fun j => senB (inSp (ar 12) f t) (ar 11) j np && decide (ar 19 a.toNatClampNeg = (-9) ∨ dgt (ar 4 j) (ar 19 a.toNatClampNeg) = ar 20 a.toNatClampNeg)) (fun j => woI (ar 4 j) (63 &&& (ar 18 a.toNatClampNeg ^^^ (-1))) 6) ns).length by omega), clamp_of_toInt (n := i0.toInt.toNat) (by omega) (by omega), hU _ (by omega)]; exact (List.getElem_eq_getD _)⟩
          | exact ⟨g1, ar1, hM, hF, hs, by rw [if_pos c5, if_pos c17, if_neg (show ¬ (0 ≤ i0.toInt ∧ i0.toInt < (insN (fun j => senB (inSp (ar 12) f t) (ar 11) j np && decide (ar 19 a.toNatClampNeg = (-9) ∨ dgt (ar 4 j) (ar 19 a.toNatClampNeg) = ar 20 a.toNatClampNeg)) (fun j => woI (ar 4 j) (63 &&& (ar 18 a.toNatClampNeg ^^^ (-1))) 6) ns).length) by omega)]⟩
          | exact ⟨g, ar, hM, mFr.rf _, mSc.rf g ar, by first | (rw [if_neg c5]; done) | (rw [if_pos c5, if_neg c17]; done)⟩)⟩
      · have c44 := b01_n c44
        simp only [t64, tl_0] at c44
        rw [fb_subI (by rw [nI_toInt (by omega), ti_1]; omega) (by rw [nI_toInt (by omega), ti_1]; omega), nI_toInt (by omega), ti_1] at c44
        refine v_aload_n C dX6_key_47 rfl rfl ?_
        refine vm_get (v := .ref (ad 16)) C hM inX6_key_X6 16 (by decide) kwX6_key_47 rfl rfl dX6_key_48 ?_
        refine v_iload_n C dX6_key_51 rfl rfl ?_
        refine vm_iald (f := ar1 16) C hM 13 rfl (in_of (by omega) (by omega)) dX6_key_52 ?_
        refine v_goto (tgt := 58) C dX6_key_53 (by decide) ?_
        exact v_iret C hr dX6_key_58 (Nat.le_refl _) (Nat.le_refl _) ⟨_, rfl, (by first
          | exact ⟨g1, ar1, hM, hF, hs, by rw [if_pos c5, if_pos c17, if_pos (show 0 ≤ i0.toInt ∧ i0.toInt < (insN (fun j => senB (inSp (ar 12) f t) (ar 11) j np && decide (ar 19 a.toNatClampNeg = (-9) ∨ dgt (ar 4 j) (ar 19 a.toNatClampNeg) = ar 20 a.toNatClampNeg)) (fun j => woI (ar 4 j) (63 &&& (ar 18 a.toNatClampNeg ^^^ (-1))) 6) ns).length by omega), clamp_of_toInt (n := i0.toInt.toNat) (by omega) (by omega), hU _ (by omega)]; exact (List.getElem_eq_getD _)⟩
          | exact ⟨g1, ar1, hM, hF, hs, by rw [if_pos c5, if_pos c17, if_neg (show ¬ (0 ≤ i0.toInt ∧ i0.toInt < (insN (fun j => senB (inSp (ar 12) f t) (ar 11) j np && decide (ar 19 a.toNatClampNeg = (-9) ∨ dgt (ar 4 j) (ar 19 a.toNatClampNeg) = ar 20 a.toNatClampNeg)) (fun j => woI (ar 4 j) (63 &&& (ar 18 a.toNatClampNeg ^^^ (-1))) 6) ns).length) by omega)]⟩
          | exact ⟨g, ar, hM, mFr.rf _, mSc.rf g ar, by first | (rw [if_neg c5]; done) | (rw [if_pos c5, if_neg c17]; done)⟩)⟩
    · have c17 := b01_0 c17
      refine v_bipush (v := (-2)) C dX6_key_20 (by decide) ?_
      exact v_iret C hr dX6_key_22 (Nat.le_refl _) (Nat.le_refl _) ⟨_, rfl, (by first
        | exact ⟨g1, ar1, hM, hF, hs, by rw [if_pos c5, if_pos c17, if_pos (show 0 ≤ i0.toInt ∧ i0.toInt < (insN (fun j => senB (inSp (ar 12) f t) (ar 11) j np && decide (ar 19 a.toNatClampNeg = (-9) ∨ dgt (ar 4 j) (ar 19 a.toNatClampNeg) = ar 20 a.toNatClampNeg)) (fun j => woI (ar 4 j) (63 &&& (ar 18 a.toNatClampNeg ^^^ (-1))) 6) ns).length by omega), clamp_of_toInt (n := i0.toInt.toNat) (by omega) (by omega), hU _ (by omega)]; exact (List.getElem_eq_getD _)⟩
        | exact ⟨g1, ar1, hM, hF, hs, by rw [if_pos c5, if_pos c17, if_neg (show ¬ (0 ≤ i0.toInt ∧ i0.toInt < (insN (fun j => senB (inSp (ar 12) f t) (ar 11) j np && decide (ar 19 a.toNatClampNeg = (-9) ∨ dgt (ar 4 j) (ar 19 a.toNatClampNeg) = ar 20 a.toNatClampNeg)) (fun j => woI (ar 4 j) (63 &&& (ar 18 a.toNatClampNeg ^^^ (-1))) 6) ns).length) by omega)]⟩
        | exact ⟨g, ar, hM, mFr.rf _, mSc.rf g ar, by first | (rw [if_neg c5]; done) | (rw [if_pos c5, if_neg c17]; done)⟩)⟩
  · have c5 := b01_0 c5
    refine v_iconst (v := (-1)) C dX6_key_8 (by decide) ?_
    exact v_iret C hr dX6_key_9 (Nat.le_refl _) (Nat.le_refl _) ⟨_, rfl, (by first
      | exact ⟨g1, ar1, hM, hF, hs, by rw [if_pos c5, if_pos c17, if_pos (show 0 ≤ i0.toInt ∧ i0.toInt < (insN (fun j => senB (inSp (ar 12) f t) (ar 11) j np && decide (ar 19 a.toNatClampNeg = (-9) ∨ dgt (ar 4 j) (ar 19 a.toNatClampNeg) = ar 20 a.toNatClampNeg)) (fun j => woI (ar 4 j) (63 &&& (ar 18 a.toNatClampNeg ^^^ (-1))) 6) ns).length by omega), clamp_of_toInt (n := i0.toInt.toNat) (by omega) (by omega), hU _ (by omega)]; exact (List.getElem_eq_getD _)⟩
      | exact ⟨g1, ar1, hM, hF, hs, by rw [if_pos c5, if_pos c17, if_neg (show ¬ (0 ≤ i0.toInt ∧ i0.toInt < (insN (fun j => senB (inSp (ar 12) f t) (ar 11) j np && decide (ar 19 a.toNatClampNeg = (-9) ∨ dgt (ar 4 j) (ar 19 a.toNatClampNeg) = ar 20 a.toNatClampNeg)) (fun j => woI (ar 4 j) (63 &&& (ar 18 a.toNatClampNeg ^^^ (-1))) 6) ns).length) by omega)]⟩
      | exact ⟨g, ar, hM, mFr.rf _, mSc.rf g ar, by first | (rw [if_neg c5]; done) | (rw [if_pos c5, if_neg c17]; done)⟩)⟩
end
section
theorem zz_t : True := trivial
end
