section
-- ===== PART A: goes FIRST, ahead of the names: the tables' words, and 'selects' of the private methods out of them =====
/-- a private method of a class that the tables say can be made, by its rows of tables_1 -/
def lw_okq (q : MethodName × Nat) : Prop := (q.1.cls ≠ "java/lang/invoke/MethodHandle" ∧ q.1.cls ≠ "java/lang/invoke/VarHandle") ∧ Cond.instantiable q.1.cls q.2 ∈ tables_1 ∧ Cond.privateMethod q.1 ∈ tables_1 ∧ Cond.instanceMethod q.1 ∈ tables_1
theorem lw_p0 : lw_okq (⟨"LetteredRock", "letterAt", "(I)LLetteredRock$Letter;"⟩, 11) := ⟨⟨by decide +kernel, by decide +kernel⟩, List.mem_of_getElem? (i := 14) (by decide +kernel), List.mem_of_getElem? (i := 206) (by decide +kernel), List.mem_of_getElem? (i := 207) (by decide +kernel)⟩
theorem lw_p1 : lw_okq (⟨"LetteredRock", "wordAt", "(I)LLetteredRock$Word;"⟩, 11) := ⟨⟨by decide +kernel, by decide +kernel⟩, List.mem_of_getElem? (i := 14) (by decide +kernel), List.mem_of_getElem? (i := 223) (by decide +kernel), List.mem_of_getElem? (i := 224) (by decide +kernel)⟩
theorem lw_p2 : lw_okq (⟨"LetteredRock", "isLonger", "(LLetteredRock$Word;LLetteredRock$Word;)Z"⟩, 11) := ⟨⟨by decide +kernel, by decide +kernel⟩, List.mem_of_getElem? (i := 14) (by decide +kernel), List.mem_of_getElem? (i := 260) (by decide +kernel), List.mem_of_getElem? (i := 261) (by decide +kernel)⟩
theorem lw_p3 : lw_okq (⟨"LetteredRock", "troubleOfSheet", "(I)I"⟩, 11) := ⟨⟨by decide +kernel, by decide +kernel⟩, List.mem_of_getElem? (i := 14) (by decide +kernel), List.mem_of_getElem? (i := 290) (by decide +kernel), List.mem_of_getElem? (i := 291) (by decide +kernel)⟩
theorem lw_p4 : lw_okq (⟨"LetteredRock", "finding", "(I)I"⟩, 11) := ⟨⟨by decide +kernel, by decide +kernel⟩, List.mem_of_getElem? (i := 14) (by decide +kernel), List.mem_of_getElem? (i := 297) (by decide +kernel), List.mem_of_getElem? (i := 298) (by decide +kernel)⟩
theorem lw_p5 : lw_okq (⟨"LetteredRock", "readingsOfWord", "(ILLetteredRock$Sheet;)I"⟩, 11) := ⟨⟨by decide +kernel, by decide +kernel⟩, List.mem_of_getElem? (i := 14) (by decide +kernel), List.mem_of_getElem? (i := 301) (by decide +kernel), List.mem_of_getElem? (i := 302) (by decide +kernel)⟩
theorem lw_p6 : lw_okq (⟨"LetteredRock", "sticksOf", "(I)I"⟩, 11) := ⟨⟨by decide +kernel, by decide +kernel⟩, List.mem_of_getElem? (i := 14) (by decide +kernel), List.mem_of_getElem? (i := 389) (by decide +kernel), List.mem_of_getElem? (i := 390) (by decide +kernel)⟩
theorem lw_p7 : lw_okq (⟨"LetteredRock", "troubleOfItem", "(III)I"⟩, 11) := ⟨⟨by decide +kernel, by decide +kernel⟩, List.mem_of_getElem? (i := 14) (by decide +kernel), List.mem_of_getElem? (i := 548) (by decide +kernel), List.mem_of_getElem? (i := 549) (by decide +kernel)⟩
theorem lw_p8 : lw_okq (⟨"LetteredRock", "countFitting", "()I"⟩, 11) := ⟨⟨by decide +kernel, by decide +kernel⟩, List.mem_of_getElem? (i := 14) (by decide +kernel), List.mem_of_getElem? (i := 577) (by decide +kernel), List.mem_of_getElem? (i := 578) (by decide +kernel)⟩
theorem lw_p9 : lw_okq (⟨"LetteredRock", "countDamp", "()I"⟩, 11) := ⟨⟨by decide +kernel, by decide +kernel⟩, List.mem_of_getElem? (i := 14) (by decide +kernel), List.mem_of_getElem? (i := 581) (by decide +kernel), List.mem_of_getElem? (i := 582) (by decide +kernel)⟩
theorem lw_p10 : lw_okq (⟨"LetteredRockModel", "isLetter", "(I)Z"⟩, 28) := ⟨⟨by decide +kernel, by decide +kernel⟩, List.mem_of_getElem? (i := 595) (by decide +kernel), List.mem_of_getElem? (i := 700) (by decide +kernel), List.mem_of_getElem? (i := 701) (by decide +kernel)⟩
theorem lw_p11 : lw_okq (⟨"LetteredRockModel", "wideOf", "(I)I"⟩, 28) := ⟨⟨by decide +kernel, by decide +kernel⟩, List.mem_of_getElem? (i := 595) (by decide +kernel), List.mem_of_getElem? (i := 736) (by decide +kernel), List.mem_of_getElem? (i := 737) (by decide +kernel)⟩
theorem lw_p12 : lw_okq (⟨"LetteredRockModel", "fits", "(I)Z"⟩, 28) := ⟨⟨by decide +kernel, by decide +kernel⟩, List.mem_of_getElem? (i := 595) (by decide +kernel), List.mem_of_getElem? (i := 744) (by decide +kernel), List.mem_of_getElem? (i := 745) (by decide +kernel)⟩
theorem lw_p13 : lw_okq (⟨"LetteredRockModel", "lay", "(I)V"⟩, 28) := ⟨⟨by decide +kernel, by decide +kernel⟩, List.mem_of_getElem? (i := 595) (by decide +kernel), List.mem_of_getElem? (i := 752) (by decide +kernel), List.mem_of_getElem? (i := 753) (by decide +kernel)⟩
theorem lw_p14 : lw_okq (⟨"LetteredRockModel", "cutAt", "(III)I"⟩, 28) := ⟨⟨by decide +kernel, by decide +kernel⟩, List.mem_of_getElem? (i := 595) (by decide +kernel), List.mem_of_getElem? (i := 756) (by decide +kernel), List.mem_of_getElem? (i := 757) (by decide +kernel)⟩
theorem lw_p15 : lw_okq (⟨"LetteredRockModel", "lacks", "(I)I"⟩, 28) := ⟨⟨by decide +kernel, by decide +kernel⟩, List.mem_of_getElem? (i := 595) (by decide +kernel), List.mem_of_getElem? (i := 767) (by decide +kernel), List.mem_of_getElem? (i := 768) (by decide +kernel)⟩
def lw_privs_1 : List (MethodName × Nat) := [(⟨"LetteredRock", "letterAt", "(I)LLetteredRock$Letter;"⟩, 11), (⟨"LetteredRock", "wordAt", "(I)LLetteredRock$Word;"⟩, 11), (⟨"LetteredRock", "isLonger", "(LLetteredRock$Word;LLetteredRock$Word;)Z"⟩, 11), (⟨"LetteredRock", "troubleOfSheet", "(I)I"⟩, 11), (⟨"LetteredRock", "finding", "(I)I"⟩, 11), (⟨"LetteredRock", "readingsOfWord", "(ILLetteredRock$Sheet;)I"⟩, 11), (⟨"LetteredRock", "sticksOf", "(I)I"⟩, 11), (⟨"LetteredRock", "troubleOfItem", "(III)I"⟩, 11), (⟨"LetteredRock", "countFitting", "()I"⟩, 11), (⟨"LetteredRock", "countDamp", "()I"⟩, 11), (⟨"LetteredRockModel", "isLetter", "(I)Z"⟩, 28), (⟨"LetteredRockModel", "wideOf", "(I)I"⟩, 28), (⟨"LetteredRockModel", "fits", "(I)Z"⟩, 28), (⟨"LetteredRockModel", "lay", "(I)V"⟩, 28), (⟨"LetteredRockModel", "cutAt", "(III)I"⟩, 28), (⟨"LetteredRockModel", "lacks", "(I)I"⟩, 28)]
theorem lw_r1 : ∀ q ∈ lw_privs_1, lw_okq q := List.forall_mem_cons.mpr ⟨lw_p0, List.forall_mem_cons.mpr ⟨lw_p1, List.forall_mem_cons.mpr ⟨lw_p2, List.forall_mem_cons.mpr ⟨lw_p3, List.forall_mem_cons.mpr ⟨lw_p4, List.forall_mem_cons.mpr ⟨lw_p5, List.forall_mem_cons.mpr ⟨lw_p6, List.forall_mem_cons.mpr ⟨lw_p7, List.forall_mem_cons.mpr ⟨lw_p8, List.forall_mem_cons.mpr ⟨lw_p9, List.forall_mem_cons.mpr ⟨lw_p10, List.forall_mem_cons.mpr ⟨lw_p11, List.forall_mem_cons.mpr ⟨lw_p12, List.forall_mem_cons.mpr ⟨lw_p13, List.forall_mem_cons.mpr ⟨lw_p14, List.forall_mem_cons.mpr ⟨lw_p15, fun _ h => absurd h List.not_mem_nil⟩⟩⟩⟩⟩⟩⟩⟩⟩⟩⟩⟩⟩⟩⟩⟩
theorem lw_p16 : lw_okq (⟨"LetteredRockModel", "met", "(I)I"⟩, 28) := ⟨⟨by decide +kernel, by decide +kernel⟩, List.mem_of_getElem? (i := 595) (by decide +kernel), List.mem_of_getElem? (i := 774) (by decide +kernel), List.mem_of_getElem? (i := 775) (by decide +kernel)⟩
theorem lw_p17 : lw_okq (⟨"LetteredRockModel", "findReadings", "(II)V"⟩, 28) := ⟨⟨by decide +kernel, by decide +kernel⟩, List.mem_of_getElem? (i := 595) (by decide +kernel), List.mem_of_getElem? (i := 778) (by decide +kernel), List.mem_of_getElem? (i := 779) (by decide +kernel)⟩
theorem lw_p18 : lw_okq (⟨"LetteredRockModel", "isReading", "(III)Z"⟩, 28) := ⟨⟨by decide +kernel, by decide +kernel⟩, List.mem_of_getElem? (i := 595) (by decide +kernel), List.mem_of_getElem? (i := 782) (by decide +kernel), List.mem_of_getElem? (i := 783) (by decide +kernel)⟩
theorem lw_p19 : lw_okq (⟨"LetteredRockModel", "findOrder", "(I)V"⟩, 28) := ⟨⟨by decide +kernel, by decide +kernel⟩, List.mem_of_getElem? (i := 595) (by decide +kernel), List.mem_of_getElem? (i := 798) (by decide +kernel), List.mem_of_getElem? (i := 799) (by decide +kernel)⟩
theorem lw_p20 : lw_okq (⟨"LetteredRockModel", "foretoldOf", "(I)I"⟩, 28) := ⟨⟨by decide +kernel, by decide +kernel⟩, List.mem_of_getElem? (i := 595) (by decide +kernel), List.mem_of_getElem? (i := 843) (by decide +kernel), List.mem_of_getElem? (i := 844) (by decide +kernel)⟩
theorem lw_p21 : lw_okq (⟨"LetteredRockModel", "lacksItem", "(III)I"⟩, 28) := ⟨⟨by decide +kernel, by decide +kernel⟩, List.mem_of_getElem? (i := 595) (by decide +kernel), List.mem_of_getElem? (i := 880) (by decide +kernel), List.mem_of_getElem? (i := 881) (by decide +kernel)⟩
def lw_privs_2 : List (MethodName × Nat) := [(⟨"LetteredRockModel", "met", "(I)I"⟩, 28), (⟨"LetteredRockModel", "findReadings", "(II)V"⟩, 28), (⟨"LetteredRockModel", "isReading", "(III)Z"⟩, 28), (⟨"LetteredRockModel", "findOrder", "(I)V"⟩, 28), (⟨"LetteredRockModel", "foretoldOf", "(I)I"⟩, 28), (⟨"LetteredRockModel", "lacksItem", "(III)I"⟩, 28)]
theorem lw_r2 : ∀ q ∈ lw_privs_2, lw_okq q := List.forall_mem_cons.mpr ⟨lw_p16, List.forall_mem_cons.mpr ⟨lw_p17, List.forall_mem_cons.mpr ⟨lw_p18, List.forall_mem_cons.mpr ⟨lw_p19, List.forall_mem_cons.mpr ⟨lw_p20, List.forall_mem_cons.mpr ⟨lw_p21, fun _ h => absurd h List.not_mem_nil⟩⟩⟩⟩⟩⟩
def lw_privs : List (MethodName × Nat) := lw_privs_1 ++ (lw_privs_2)
def lw_tbl : List Cond := k2_sels lw_privs ++ tables_1
theorem lw_privs_ok : ∀ q ∈ lw_privs, lw_okq q := by
  show ∀ q ∈ lw_privs_1 ++ (lw_privs_2), lw_okq q
  exact List.forall_mem_append.mpr ⟨lw_r1, lw_r2⟩
end
section
/-! ===== BEGIN words of one list among another's, by their places ===== -/
theorem goodIn_r {big : List Cond} (ws : List Cond) (ps : List Nat) (hp : ws = ps.filterMap (fun i => big[i]?)) (h : ws.all goodWord = true) : GoodIn big ws := by
  intro w hw
  have h1 := List.all_eq_true.mp h w hw
  rw [hp] at hw
  obtain ⟨i, -, hi⟩ := List.mem_filterMap.mp hw
  have hm : w ∈ big := by first | exact List.mem_of_getElem? hi | exact List.getElem?_mem hi
  exact ⟨hm, good_of_word h1⟩
theorem goodIn_app {big a b : List Cond} (ha : GoodIn big a) (hb : GoodIn big b) : GoodIn big (a ++ b) := fun w h => (List.mem_append.mp h).elim (ha w) (hb w)
theorem goodIn_ca {big a b : List Cond} {c : Cond} (ha : GoodIn big (c :: a)) (hb : GoodIn big b) : GoodIn big (c :: (a ++ b)) := fun w h => (List.mem_cons.mp h).elim (fun e => ha w (List.mem_cons.mpr (Or.inl e))) (fun h => (List.mem_append.mp h).elim (fun h => ha w (List.mem_cons.mpr (Or.inr h))) (hb w))
theorem goodIn_sub {big ws : List Cond} (hm : ∀ w ∈ ws, w ∈ big) (h : ws.all goodWord = true) : GoodIn big ws := fun w hw => ⟨hm w hw, good_of_word (List.all_eq_true.mp h w hw)⟩
/-! ===== END ===== -/

/-! ===== BEGIN printed: names, fields, word lists, decode rows ===== -/
def RX0 : String := "LetteredRock$Letter"
def TX0 : u_T := fun k => match k with
  | 0 => ("LetteredRock$Letter", "width", "I", true)
  | 1 => ("LetteredRock$Letter", "minutes", "I", true)
  | 2 => ("LetteredRock$Letter", "soft", "I", true)
  | _ => ("LetteredRock$Letter", "strips", "[I", true)
def tyX0 : Nat → FieldType := fun k => match k with
  | 0 => .int
  | 1 => .int
  | 2 => .int
  | _ => .array .int
abbrev wsX00 : List Cond := u_ws RX0 TX0 4
theorem nmX0 : ∀ a, a < 4 → ∀ b, b < 4 → a ≠ b → (TX0 a).2.1 ≠ (TX0 b).2.1 := by decide +kernel
theorem tyX0_ok : ∀ k, k < 4 → parseFieldDescriptor (TX0 k).2.2.1 = some (tyX0 k) := by decide +kernel
abbrev cX0_init : ByteArray := prog_2_method_1_code
def yX0_init : MethodName := ⟨RX0, "<init>", "(III)V"⟩
abbrev cX0_hasStrip : ByteArray := prog_2_method_2_code
def yX0_hasStrip : MethodName := ⟨RX0, "hasStrip", "(I)Z"⟩
def RX1 : String := "LetteredRock$Lump"
def TX1 : u_T := fun k => match k with
  | 0 => ("LetteredRock$Lump", "word", "I", true)
  | 1 => ("LetteredRock$Lump", "hand", "I", true)
  | 2 => ("LetteredRock$Lump", "day", "I", true)
  | 3 => ("LetteredRock$Lump", "firstStick", "I", true)
  | 4 => ("LetteredRock$Lump", "sticks", "I", true)
  | _ => ("LetteredRock$Lump", "scrap", "I", true)
def tyX1 : Nat → FieldType := fun k => match k with
  | 0 => .int
  | 1 => .int
  | 2 => .int
  | 3 => .int
  | 4 => .int
  | _ => .int
abbrev wsX10 : List Cond := u_ws RX1 TX1 6
theorem nmX1 : ∀ a, a < 6 → ∀ b, b < 6 → a ≠ b → (TX1 a).2.1 ≠ (TX1 b).2.1 := by decide +kernel
theorem tyX1_ok : ∀ k, k < 6 → parseFieldDescriptor (TX1 k).2.2.1 = some (tyX1 k) := by decide +kernel
abbrev cX1_init : ByteArray := prog_3_method_1_code
def yX1_init : MethodName := ⟨RX1, "<init>", "(IIIIII)V"⟩
abbrev cX1_gave : ByteArray := prog_3_method_2_code
def yX1_gave : MethodName := ⟨RX1, "gave", "(I)Z"⟩
abbrev cX1_isRecalled : ByteArray := prog_3_method_3_code
def yX1_isRecalled : MethodName := ⟨RX1, "isRecalled", "(III)Z"⟩
def RX2 : String := "LetteredRock$LumpBook"
def TX2 : u_T := fun k => match k with
  | 0 => ("LetteredRock$LumpBook", "lumps", "[LLetteredRock$Lump;", true)
  | 1 => ("LetteredRock$LumpBook", "size", "I", false)
  | 2 => ("LetteredRock$LumpBook", "stickCount", "I", false)
  | _ => ("LetteredRock$LumpBook", "scrap", "I", false)
def tyX2 : Nat → FieldType := fun k => match k with
  | 0 => .array (.object "LetteredRock$Lump")
  | 1 => .int
  | 2 => .int
  | _ => .int
abbrev wsX20 : List Cond := u_ws RX2 TX2 4
theorem nmX2 : ∀ a, a < 4 → ∀ b, b < 4 → a ≠ b → (TX2 a).2.1 ≠ (TX2 b).2.1 := by decide +kernel
theorem tyX2_ok : ∀ k, k < 4 → parseFieldDescriptor (TX2 k).2.2.1 = some (tyX2 k) := by decide +kernel
abbrev cX2_init : ByteArray := prog_4_method_1_code
def yX2_init : MethodName := ⟨RX2, "<init>", "()V"⟩
abbrev cX2_isFull : ByteArray := prog_4_method_2_code
def yX2_isFull : MethodName := ⟨RX2, "isFull", "()Z"⟩
abbrev cX2_enter : ByteArray := prog_4_method_3_code
def yX2_enter : MethodName := ⟨RX2, "enter", "(LLetteredRock$Lump;)V"⟩
abbrev cX2_lumpAt : ByteArray := prog_4_method_4_code
def yX2_lumpAt : MethodName := ⟨RX2, "lumpAt", "(I)LLetteredRock$Lump;"⟩
abbrev cX2_latestDay : ByteArray := prog_4_method_5_code
def yX2_latestDay : MethodName := ⟨RX2, "latestDay", "()I"⟩
abbrev cX2_lumpOfStick : ByteArray := prog_4_method_6_code
def yX2_lumpOfStick : MethodName := ⟨RX2, "lumpOfStick", "(I)I"⟩
abbrev cX2_countSticks : ByteArray := prog_4_method_7_code
def yX2_countSticks : MethodName := ⟨RX2, "countSticks", "(III)I"⟩
def RX3 : String := "LetteredRock$Ring"
def TX3 : u_T := fun k => match k with
  | 0 => ("LetteredRock$Ring", "laid", "[I", true)
  | 1 => ("LetteredRock$Ring", "slotCount", "I", false)
  | _ => ("LetteredRock$Ring", "gapWidth", "I", false)
def tyX3 : Nat → FieldType := fun k => match k with
  | 0 => .array .int
  | 1 => .int
  | _ => .int
abbrev wsX30 : List Cond := u_ws RX3 TX3 3
theorem nmX3 : ∀ a, a < 3 → ∀ b, b < 3 → a ≠ b → (TX3 a).2.1 ≠ (TX3 b).2.1 := by decide +kernel
theorem tyX3_ok : ∀ k, k < 3 → parseFieldDescriptor (TX3 k).2.2.1 = some (tyX3 k) := by decide +kernel
abbrev cX3_init : ByteArray := prog_5_method_1_code
def yX3_init : MethodName := ⟨RX3, "<init>", "()V"⟩
abbrev cX3_widthOf : ByteArray := prog_5_method_2_code
def yX3_widthOf : MethodName := ⟨RX3, "widthOf", "(LLetteredRock$Word;)I"⟩
abbrev cX3_fits : ByteArray := prog_5_method_3_code
def yX3_fits : MethodName := ⟨RX3, "fits", "(LLetteredRock$Word;)Z"⟩
abbrev cX3_lay : ByteArray := prog_5_method_4_code
def yX3_lay : MethodName := ⟨RX3, "lay", "(LLetteredRock$Word;)V"⟩
abbrev cX3_seen : ByteArray := prog_5_method_5_code
def yX3_seen : MethodName := ⟨RX3, "seen", "(III)I"⟩
abbrev cX3_slotSeen : ByteArray := prog_5_method_6_code
def yX3_slotSeen : MethodName := ⟨RX3, "slotSeen", "(III)I"⟩
abbrev cX3_upsideDown : ByteArray := prog_5_method_7_code
def yX3_upsideDown : MethodName := ⟨RX3, "upsideDown", "(I)I"⟩
abbrev cX3_agrees : ByteArray := prog_5_method_8_code
def yX3_agrees : MethodName := ⟨RX3, "agrees", "(LLetteredRock$Sheet;II)Z"⟩
abbrev cX3_countReadings : ByteArray := prog_5_method_9_code
def yX3_countReadings : MethodName := ⟨RX3, "countReadings", "(LLetteredRock$Sheet;)I"⟩
abbrev cX3_readingOf : ByteArray := prog_5_method_10_code
def yX3_readingOf : MethodName := ⟨RX3, "readingOf", "(LLetteredRock$Sheet;I)I"⟩
def RX4 : String := "LetteredRock$Sheet"
def TX4 : u_T := fun k => match k with
  | 0 => ("LetteredRock$Sheet", "items", "[I", true)
  | 1 => ("LetteredRock$Sheet", "isLost", "Z", false)
  | 2 => ("LetteredRock$Sheet", "form", "I", false)
  | _ => ("LetteredRock$Sheet", "size", "I", false)
def tyX4 : Nat → FieldType := fun k => match k with
  | 0 => .array .int
  | 1 => .boolean
  | 2 => .int
  | _ => .int
abbrev wsX40 : List Cond := u_ws RX4 TX4 4
theorem nmX4 : ∀ a, a < 4 → ∀ b, b < 4 → a ≠ b → (TX4 a).2.1 ≠ (TX4 b).2.1 := by decide +kernel
theorem tyX4_ok : ∀ k, k < 4 → parseFieldDescriptor (TX4 k).2.2.1 = some (tyX4 k) := by decide +kernel
abbrev cX4_init : ByteArray := prog_6_method_1_code
def yX4_init : MethodName := ⟨RX4, "<init>", "()V"⟩
abbrev cX4_renew : ByteArray := prog_6_method_2_code
def yX4_renew : MethodName := ⟨RX4, "renew", "(II)V"⟩
abbrev cX4_hasItem : ByteArray := prog_6_method_3_code
def yX4_hasItem : MethodName := ⟨RX4, "hasItem", "(I)Z"⟩
abbrev cX4_hasRun : ByteArray := prog_6_method_4_code
def yX4_hasRun : MethodName := ⟨RX4, "hasRun", "(II)Z"⟩
abbrev cX4_write : ByteArray := prog_6_method_5_code
def yX4_write : MethodName := ⟨RX4, "write", "(II)V"⟩
abbrev cX4_wantAt : ByteArray := prog_6_method_6_code
def yX4_wantAt : MethodName := ⟨RX4, "wantAt", "(I)I"⟩
def RX5 : String := "LetteredRock$StockRun"
def TX5 : u_T := fun k => match k with
  | 0 => ("LetteredRock$StockRun", "left", "J", false)
  | 1 => ("LetteredRock$StockRun", "lacking", "J", false)
  | 2 => ("LetteredRock$StockRun", "lost", "J", false)
  | _ => ("LetteredRock$StockRun", "firstShort", "I", false)
def tyX5 : Nat → FieldType := fun k => match k with
  | 0 => .long
  | 1 => .long
  | 2 => .long
  | _ => .int
abbrev wsX50 : List Cond := u_ws RX5 TX5 4
theorem nmX5 : ∀ a, a < 4 → ∀ b, b < 4 → a ≠ b → (TX5 a).2.1 ≠ (TX5 b).2.1 := by decide +kernel
theorem tyX5_ok : ∀ k, k < 4 → parseFieldDescriptor (TX5 k).2.2.1 = some (tyX5 k) := by decide +kernel
abbrev cX5_init : ByteArray := prog_7_method_1_code
def yX5_init : MethodName := ⟨RX5, "<init>", "()V"⟩
abbrev cX5_beginWith : ByteArray := prog_7_method_2_code
def yX5_beginWith : MethodName := ⟨RX5, "beginWith", "(I)V"⟩
abbrev cX5_supply : ByteArray := prog_7_method_3_code
def yX5_supply : MethodName := ⟨RX5, "supply", "(III)V"⟩
abbrev cX5_soften : ByteArray := prog_7_method_4_code
def yX5_soften : MethodName := ⟨RX5, "soften", "(I)V"⟩
def RX6 : String := "LetteredRock$Word"
def TX6 : u_T := fun k => match k with
  | 0 => ("LetteredRock$Word", "letters", "[LLetteredRock$Letter;", true)
  | _ => ("LetteredRock$Word", "size", "I", false)
def tyX6 : Nat → FieldType := fun k => match k with
  | 0 => .array (.object "LetteredRock$Letter")
  | _ => .int
abbrev wsX60 : List Cond := u_ws RX6 TX6 2
theorem nmX6 : ∀ a, a < 2 → ∀ b, b < 2 → a ≠ b → (TX6 a).2.1 ≠ (TX6 b).2.1 := by decide +kernel
theorem tyX6_ok : ∀ k, k < 2 → parseFieldDescriptor (TX6 k).2.2.1 = some (tyX6 k) := by decide +kernel
abbrev cX6_init : ByteArray := prog_8_method_1_code
def yX6_init : MethodName := ⟨RX6, "<init>", "()V"⟩
abbrev cX6_append : ByteArray := prog_8_method_2_code
def yX6_append : MethodName := ⟨RX6, "append", "(LLetteredRock$Letter;)Z"⟩
abbrev cX6_isLaidBefore : ByteArray := prog_8_method_3_code
def yX6_isLaidBefore : MethodName := ⟨RX6, "isLaidBefore", "(II)Z"⟩
abbrev cX6_placeInOrder : ByteArray := prog_8_method_4_code
def yX6_placeInOrder : MethodName := ⟨RX6, "placeInOrder", "(I)I"⟩
abbrev cX6_rankOf : ByteArray := prog_8_method_5_code
def yX6_rankOf : MethodName := ⟨RX6, "rankOf", "(I)I"⟩
abbrev cX6_lateAt : ByteArray := prog_8_method_6_code
def yX6_lateAt : MethodName := ⟨RX6, "lateAt", "(I)I"⟩
abbrev cX6_greatestLate : ByteArray := prog_8_method_7_code
def yX6_greatestLate : MethodName := ⟨RX6, "greatestLate", "()I"⟩
abbrev cX6_countLate : ByteArray := prog_8_method_8_code
def yX6_countLate : MethodName := ⟨RX6, "countLate", "()I"⟩
def RX7 : String := "LetteredRock"
def TX7 : u_T := fun k => match k with
  | 0 => ("LetteredRock", "alphabet", "[LLetteredRock$Letter;", true)
  | 1 => ("LetteredRock", "letterCount", "I", false)
  | 2 => ("LetteredRock", "wordRow", "[LLetteredRock$Word;", true)
  | 3 => ("LetteredRock", "ring", "LLetteredRock$Ring;", true)
  | 4 => ("LetteredRock", "settings", "[I", true)
  | 5 => ("LetteredRock", "lumpBook", "LLetteredRock$LumpBook;", true)
  | 6 => ("LetteredRock", "dampWeeks", "[Z", true)
  | 7 => ("LetteredRock", "madeIn", "[I", true)
  | 8 => ("LetteredRock", "stockRun", "LLetteredRock$StockRun;", true)
  | 9 => ("LetteredRock", "sheetRow", "[LLetteredRock$Sheet;", true)
  | _ => ("LetteredRock", "latestFinding", "I", false)
def tyX7 : Nat → FieldType := fun k => match k with
  | 0 => .array (.object "LetteredRock$Letter")
  | 1 => .int
  | 2 => .array (.object "LetteredRock$Word")
  | 3 => .object "LetteredRock$Ring"
  | 4 => .array .int
  | 5 => .object "LetteredRock$LumpBook"
  | 6 => .array .boolean
  | 7 => .array .int
  | 8 => .object "LetteredRock$StockRun"
  | 9 => .array (.object "LetteredRock$Sheet")
  | _ => .int
abbrev wsX70 : List Cond := u_ws RX7 TX7 11
theorem nmX7 : ∀ a, a < 11 → ∀ b, b < 11 → a ≠ b → (TX7 a).2.1 ≠ (TX7 b).2.1 := by decide +kernel
theorem tyX7_ok : ∀ k, k < 11 → parseFieldDescriptor (TX7 k).2.2.1 = some (tyX7 k) := by decide +kernel
abbrev cX7_init : ByteArray := prog_1_method_1_code
def yX7_init : MethodName := ⟨RX7, "<init>", "()V"⟩
abbrev cX7_letter : ByteArray := prog_1_method_2_code
def yX7_letter : MethodName := ⟨RX7, "letter", "(III)I"⟩
abbrev cX7_strip : ByteArray := prog_1_method_3_code
def yX7_strip : MethodName := ⟨RX7, "strip", "(III)I"⟩
abbrev cX7_about : ByteArray := prog_1_method_4_code
def yX7_about : MethodName := ⟨RX7, "about", "(II)I"⟩
abbrev cX7_spell : ByteArray := prog_1_method_5_code
def yX7_spell : MethodName := ⟨RX7, "spell", "(II)I"⟩
abbrev cX7_wipe : ByteArray := prog_1_method_6_code
def yX7_wipe : MethodName := ⟨RX7, "wipe", "(I)I"⟩
abbrev cX7_slots : ByteArray := prog_1_method_7_code
def yX7_slots : MethodName := ⟨RX7, "slots", "(I)I"⟩
abbrev cX7_gap : ByteArray := prog_1_method_8_code
def yX7_gap : MethodName := ⟨RX7, "gap", "(I)I"⟩
abbrev cX7_wide : ByteArray := prog_1_method_9_code
def yX7_wide : MethodName := ⟨RX7, "wide", "(I)I"⟩
abbrev cX7_longest : ByteArray := prog_1_method_10_code
def yX7_longest : MethodName := ⟨RX7, "longest", "()I"⟩
abbrev cX7_isLonger : ByteArray := prog_1_method_11_code
def yX7_isLonger : MethodName := ⟨RX7, "isLonger", "(LLetteredRock$Word;LLetteredRock$Word;)Z"⟩
abbrev cX7_cut : ByteArray := prog_1_method_12_code
def yX7_cut : MethodName := ⟨RX7, "cut", "(IIII)I"⟩
abbrev cX7_readings : ByteArray := prog_1_method_13_code
def yX7_readings : MethodName := ⟨RX7, "readings", "(I)I"⟩
abbrev cX7_reading : ByteArray := prog_1_method_14_code
def yX7_reading : MethodName := ⟨RX7, "reading", "(II)I"⟩
abbrev cX7_words : ByteArray := prog_1_method_15_code
def yX7_words : MethodName := ⟨RX7, "words", "(I)I"⟩
abbrev cX7_readingsOfWord : ByteArray := prog_1_method_16_code
def yX7_readingsOfWord : MethodName := ⟨RX7, "readingsOfWord", "(ILLetteredRock$Sheet;)I"⟩
abbrev cX7_order : ByteArray := prog_1_method_17_code
def yX7_order : MethodName := ⟨RX7, "order", "(II)I"⟩
abbrev cX7_late : ByteArray := prog_1_method_18_code
def yX7_late : MethodName := ⟨RX7, "late", "(I)I"⟩
abbrev cX7_spoiled : ByteArray := prog_1_method_19_code
def yX7_spoiled : MethodName := ⟨RX7, "spoiled", "(I)I"⟩
abbrev cX7_set : ByteArray := prog_1_method_20_code
def yX7_set : MethodName := ⟨RX7, "set", "(II)I"⟩
abbrev cX7_lump : ByteArray := prog_1_method_21_code
def yX7_lump : MethodName := ⟨RX7, "lump", "(IIII)I"⟩
abbrev cX7_sticksOf : ByteArray := prog_1_method_22_code
def yX7_sticksOf : MethodName := ⟨RX7, "sticksOf", "(I)I"⟩
abbrev cX7_made : ByteArray := prog_1_method_23_code
def yX7_made : MethodName := ⟨RX7, "made", "(II)I"⟩
abbrev cX7_trace : ByteArray := prog_1_method_24_code
def yX7_trace : MethodName := ⟨RX7, "trace", "(I)I"⟩
abbrev cX7_recall : ByteArray := prog_1_method_25_code
def yX7_recall : MethodName := ⟨RX7, "recall", "(III)I"⟩
abbrev cX7_foretold : ByteArray := prog_1_method_26_code
def yX7_foretold : MethodName := ⟨RX7, "foretold", "(I)I"⟩
abbrev cX7_damp : ByteArray := prog_1_method_27_code
def yX7_damp : MethodName := ⟨RX7, "damp", "(IZ)I"⟩
abbrev cX7_make : ByteArray := prog_1_method_28_code
def yX7_make : MethodName := ⟨RX7, "make", "(II)I"⟩
abbrev cX7_stock : ByteArray := prog_1_method_29_code
def yX7_stock : MethodName := ⟨RX7, "stock", "(IIII)I"⟩
abbrev cX7_ahead : ByteArray := prog_1_method_30_code
def yX7_ahead : MethodName := ⟨RX7, "ahead", "(III)I"⟩
abbrev cX7_sheet : ByteArray := prog_1_method_31_code
def yX7_sheet : MethodName := ⟨RX7, "sheet", "(III)I"⟩
abbrev cX7_lose : ByteArray := prog_1_method_32_code
def yX7_lose : MethodName := ⟨RX7, "lose", "(I)I"⟩
abbrev cX7_put : ByteArray := prog_1_method_33_code
def yX7_put : MethodName := ⟨RX7, "put", "(IIII)I"⟩
abbrev cX7_get : ByteArray := prog_1_method_34_code
def yX7_get : MethodName := ⟨RX7, "get", "(III)I"⟩
abbrev cX7_copy : ByteArray := prog_1_method_35_code
def yX7_copy : MethodName := ⟨RX7, "copy", "(IIIII)I"⟩
abbrev cX7_count : ByteArray := prog_1_method_36_code
def yX7_count : MethodName := ⟨RX7, "count", "(I)I"⟩
abbrev cX7_digest : ByteArray := prog_1_method_37_code
def yX7_digest : MethodName := ⟨RX7, "digest", "()J"⟩
abbrev cX7_countFitting : ByteArray := prog_1_method_38_code
def yX7_countFitting : MethodName := ⟨RX7, "countFitting", "()I"⟩
abbrev cX7_countDamp : ByteArray := prog_1_method_39_code
def yX7_countDamp : MethodName := ⟨RX7, "countDamp", "()I"⟩
abbrev cX7_within : ByteArray := prog_1_method_40_code
def yX7_within : MethodName := ⟨RX7, "within", "(III)Z"⟩
abbrev cX7_isSpan : ByteArray := prog_1_method_41_code
def yX7_isSpan : MethodName := ⟨RX7, "isSpan", "(III)Z"⟩
abbrev cX7_isWeek : ByteArray := prog_1_method_42_code
def yX7_isWeek : MethodName := ⟨RX7, "isWeek", "(I)Z"⟩
abbrev cX7_isSheet : ByteArray := prog_1_method_43_code
def yX7_isSheet : MethodName := ⟨RX7, "isSheet", "(I)Z"⟩
abbrev cX7_isForm : ByteArray := prog_1_method_44_code
def yX7_isForm : MethodName := ⟨RX7, "isForm", "(I)Z"⟩
abbrev cX7_atMostInt : ByteArray := prog_1_method_45_code
def yX7_atMostInt : MethodName := ⟨RX7, "atMostInt", "(J)I"⟩
abbrev cX7_letterAt : ByteArray := prog_1_method_46_code
def yX7_letterAt : MethodName := ⟨RX7, "letterAt", "(I)LLetteredRock$Letter;"⟩
abbrev cX7_wordAt : ByteArray := prog_1_method_47_code
def yX7_wordAt : MethodName := ⟨RX7, "wordAt", "(I)LLetteredRock$Word;"⟩
abbrev cX7_finding : ByteArray := prog_1_method_48_code
def yX7_finding : MethodName := ⟨RX7, "finding", "(I)I"⟩
abbrev cX7_troubleOfSheet : ByteArray := prog_1_method_49_code
def yX7_troubleOfSheet : MethodName := ⟨RX7, "troubleOfSheet", "(I)I"⟩
abbrev cX7_troubleOfItem : ByteArray := prog_1_method_50_code
def yX7_troubleOfItem : MethodName := ⟨RX7, "troubleOfItem", "(III)I"⟩
def RX8 : String := "LetteredRockModel"
def TX8 : u_T := fun k => match k with
  | 0 => ("LetteredRockModel", "told", "[I", true)
  | 1 => ("LetteredRockModel", "letters", "I", false)
  | 2 => ("LetteredRockModel", "width", "[I", true)
  | 3 => ("LetteredRockModel", "minutes", "[I", true)
  | 4 => ("LetteredRockModel", "soft", "[I", true)
  | 5 => ("LetteredRockModel", "strips", "[I", true)
  | 6 => ("LetteredRockModel", "spelled", "[I", true)
  | 7 => ("LetteredRockModel", "words", "[I", true)
  | 8 => ("LetteredRockModel", "slots", "I", false)
  | 9 => ("LetteredRockModel", "gap", "I", false)
  | 10 => ("LetteredRockModel", "laid", "[I", true)
  | 11 => ("LetteredRockModel", "found", "I", false)
  | 12 => ("LetteredRockModel", "foundMany", "I", false)
  | 13 => ("LetteredRockModel", "foundWords", "I", false)
  | 14 => ("LetteredRockModel", "order", "[I", true)
  | 15 => ("LetteredRockModel", "worst", "I", false)
  | 16 => ("LetteredRockModel", "lateMany", "I", false)
  | 17 => ("LetteredRockModel", "lumps", "I", false)
  | 18 => ("LetteredRockModel", "made", "[I", true)
  | 19 => ("LetteredRockModel", "sticks", "I", false)
  | 20 => ("LetteredRockModel", "scrap", "I", false)
  | 21 => ("LetteredRockModel", "isDamp", "[Z", true)
  | 22 => ("LetteredRockModel", "makes", "[I", true)
  | 23 => ("LetteredRockModel", "forms", "[I", true)
  | 24 => ("LetteredRockModel", "sizes", "[I", true)
  | 25 => ("LetteredRockModel", "items", "[I", true)
  | 26 => ("LetteredRockModel", "moved", "[I", true)
  | _ => ("LetteredRockModel", "latest", "I", false)
def tyX8 : Nat → FieldType := fun k => match k with
  | 0 => .array .int
  | 1 => .int
  | 2 => .array .int
  | 3 => .array .int
  | 4 => .array .int
  | 5 => .array .int
  | 6 => .array .int
  | 7 => .array .int
  | 8 => .int
  | 9 => .int
  | 10 => .array .int
  | 11 => .int
  | 12 => .int
  | 13 => .int
  | 14 => .array .int
  | 15 => .int
  | 16 => .int
  | 17 => .int
  | 18 => .array .int
  | 19 => .int
  | 20 => .int
  | 21 => .array .boolean
  | 22 => .array .int
  | 23 => .array .int
  | 24 => .array .int
  | 25 => .array .int
  | 26 => .array .int
  | _ => .int
abbrev wsX80 : List Cond := u_ws RX8 TX8 28
theorem nmX8 : ∀ a, a < 28 → ∀ b, b < 28 → a ≠ b → (TX8 a).2.1 ≠ (TX8 b).2.1 := by decide +kernel
theorem tyX8_ok : ∀ k, k < 28 → parseFieldDescriptor (TX8 k).2.2.1 = some (tyX8 k) := by decide +kernel
abbrev cX8_init : ByteArray := prog_10_method_1_code
def yX8_init : MethodName := ⟨RX8, "<init>", "()V"⟩
abbrev cX8_in : ByteArray := prog_10_method_3_code
def yX8_in : MethodName := ⟨RX8, "in", "(JJJ)Z"⟩
abbrev cX8_isLetter : ByteArray := prog_10_method_4_code
def yX8_isLetter : MethodName := ⟨RX8, "isLetter", "(I)Z"⟩
abbrev cX8_isWord : ByteArray := prog_10_method_5_code
def yX8_isWord : MethodName := ⟨RX8, "isWord", "(I)Z"⟩
abbrev cX8_letter : ByteArray := prog_10_method_6_code
def yX8_letter : MethodName := ⟨RX8, "letter", "(III)I"⟩
abbrev cX8_strip : ByteArray := prog_10_method_7_code
def yX8_strip : MethodName := ⟨RX8, "strip", "(III)I"⟩
abbrev cX8_about : ByteArray := prog_10_method_8_code
def yX8_about : MethodName := ⟨RX8, "about", "(II)I"⟩
abbrev cX8_spell : ByteArray := prog_10_method_9_code
def yX8_spell : MethodName := ⟨RX8, "spell", "(II)I"⟩
abbrev cX8_wipe : ByteArray := prog_10_method_10_code
def yX8_wipe : MethodName := ⟨RX8, "wipe", "(I)I"⟩
abbrev cX8_slots : ByteArray := prog_10_method_11_code
def yX8_slots : MethodName := ⟨RX8, "slots", "(I)I"⟩
abbrev cX8_gap : ByteArray := prog_10_method_12_code
def yX8_gap : MethodName := ⟨RX8, "gap", "(I)I"⟩
abbrev cX8_wideOf : ByteArray := prog_10_method_13_code
def yX8_wideOf : MethodName := ⟨RX8, "wideOf", "(I)I"⟩
abbrev cX8_fits : ByteArray := prog_10_method_14_code
def yX8_fits : MethodName := ⟨RX8, "fits", "(I)Z"⟩
abbrev cX8_wide : ByteArray := prog_10_method_15_code
def yX8_wide : MethodName := ⟨RX8, "wide", "(I)I"⟩
abbrev cX8_longest : ByteArray := prog_10_method_16_code
def yX8_longest : MethodName := ⟨RX8, "longest", "()I"⟩
abbrev cX8_lay : ByteArray := prog_10_method_17_code
def yX8_lay : MethodName := ⟨RX8, "lay", "(I)V"⟩
abbrev cX8_upsideDown : ByteArray := prog_10_method_18_code
def yX8_upsideDown : MethodName := ⟨RX8, "upsideDown", "(I)I"⟩
abbrev cX8_cutAt : ByteArray := prog_10_method_19_code
def yX8_cutAt : MethodName := ⟨RX8, "cutAt", "(III)I"⟩
abbrev cX8_cut : ByteArray := prog_10_method_20_code
def yX8_cut : MethodName := ⟨RX8, "cut", "(IIII)I"⟩
abbrev cX8_isReading : ByteArray := prog_10_method_21_code
def yX8_isReading : MethodName := ⟨RX8, "isReading", "(III)Z"⟩
abbrev cX8_findReadings : ByteArray := prog_10_method_22_code
def yX8_findReadings : MethodName := ⟨RX8, "findReadings", "(II)V"⟩
abbrev cX8_lacks : ByteArray := prog_10_method_23_code
def yX8_lacks : MethodName := ⟨RX8, "lacks", "(I)I"⟩
abbrev cX8_readings : ByteArray := prog_10_method_24_code
def yX8_readings : MethodName := ⟨RX8, "readings", "(I)I"⟩
abbrev cX8_reading : ByteArray := prog_10_method_25_code
def yX8_reading : MethodName := ⟨RX8, "reading", "(II)I"⟩
abbrev cX8_words : ByteArray := prog_10_method_26_code
def yX8_words : MethodName := ⟨RX8, "words", "(I)I"⟩
abbrev cX8_findOrder : ByteArray := prog_10_method_27_code
def yX8_findOrder : MethodName := ⟨RX8, "findOrder", "(I)V"⟩
abbrev cX8_order : ByteArray := prog_10_method_28_code
def yX8_order : MethodName := ⟨RX8, "order", "(II)I"⟩
abbrev cX8_late : ByteArray := prog_10_method_29_code
def yX8_late : MethodName := ⟨RX8, "late", "(I)I"⟩
abbrev cX8_spoiled : ByteArray := prog_10_method_30_code
def yX8_spoiled : MethodName := ⟨RX8, "spoiled", "(I)I"⟩
abbrev cX8_set : ByteArray := prog_10_method_31_code
def yX8_set : MethodName := ⟨RX8, "set", "(II)I"⟩
abbrev cX8_lump : ByteArray := prog_10_method_32_code
def yX8_lump : MethodName := ⟨RX8, "lump", "(IIII)I"⟩
abbrev cX8_made : ByteArray := prog_10_method_33_code
def yX8_made : MethodName := ⟨RX8, "made", "(II)I"⟩
abbrev cX8_trace : ByteArray := prog_10_method_34_code
def yX8_trace : MethodName := ⟨RX8, "trace", "(I)I"⟩
abbrev cX8_recall : ByteArray := prog_10_method_35_code
def yX8_recall : MethodName := ⟨RX8, "recall", "(III)I"⟩
abbrev cX8_isWeek : ByteArray := prog_10_method_36_code
def yX8_isWeek : MethodName := ⟨RX8, "isWeek", "(I)Z"⟩
abbrev cX8_foretoldOf : ByteArray := prog_10_method_37_code
def yX8_foretoldOf : MethodName := ⟨RX8, "foretoldOf", "(I)I"⟩
abbrev cX8_foretold : ByteArray := prog_10_method_38_code
def yX8_foretold : MethodName := ⟨RX8, "foretold", "(I)I"⟩
abbrev cX8_damp : ByteArray := prog_10_method_39_code
def yX8_damp : MethodName := ⟨RX8, "damp", "(IZ)I"⟩
abbrev cX8_make : ByteArray := prog_10_method_40_code
def yX8_make : MethodName := ⟨RX8, "make", "(II)I"⟩
abbrev cX8_stock : ByteArray := prog_10_method_41_code
def yX8_stock : MethodName := ⟨RX8, "stock", "(IIII)I"⟩
abbrev cX8_ahead : ByteArray := prog_10_method_42_code
def yX8_ahead : MethodName := ⟨RX8, "ahead", "(III)I"⟩
abbrev cX8_met : ByteArray := prog_10_method_43_code
def yX8_met : MethodName := ⟨RX8, "met", "(I)I"⟩
abbrev cX8_isSheet : ByteArray := prog_10_method_44_code
def yX8_isSheet : MethodName := ⟨RX8, "isSheet", "(I)Z"⟩
abbrev cX8_sheet : ByteArray := prog_10_method_45_code
def yX8_sheet : MethodName := ⟨RX8, "sheet", "(III)I"⟩
abbrev cX8_lose : ByteArray := prog_10_method_46_code
def yX8_lose : MethodName := ⟨RX8, "lose", "(I)I"⟩
abbrev cX8_lacksItem : ByteArray := prog_10_method_47_code
def yX8_lacksItem : MethodName := ⟨RX8, "lacksItem", "(III)I"⟩
abbrev cX8_put : ByteArray := prog_10_method_48_code
def yX8_put : MethodName := ⟨RX8, "put", "(IIII)I"⟩
abbrev cX8_get : ByteArray := prog_10_method_49_code
def yX8_get : MethodName := ⟨RX8, "get", "(III)I"⟩
abbrev cX8_copy : ByteArray := prog_10_method_50_code
def yX8_copy : MethodName := ⟨RX8, "copy", "(IIIII)I"⟩
abbrev cX8_count : ByteArray := prog_10_method_51_code
def yX8_count : MethodName := ⟨RX8, "count", "(I)I"⟩
abbrev cX8_digest : ByteArray := prog_10_method_52_code
def yX8_digest : MethodName := ⟨RX8, "digest", "()J"⟩
def RJ9 : String := "java/lang/Math"
def TJ9 : u_T := fun k => match k with
  | _ => ("", "", "", false)
def tyJ9 : Nat → FieldType := fun k => match k with
  | _ => .int
abbrev wsJ90 : List Cond := u_ws RJ9 TJ9 0
theorem nmJ9 : ∀ a, a < 0 → ∀ b, b < 0 → a ≠ b → (TJ9 a).2.1 ≠ (TJ9 b).2.1 := by decide +kernel
theorem tyJ9_ok : ∀ k, k < 0 → parseFieldDescriptor (TJ9 k).2.2.1 = some (tyJ9 k) := by decide +kernel
abbrev cJ9_max_7cf53 : ByteArray := prog_11_method_65_code
def yJ9_max_7cf53 : MethodName := ⟨RJ9, "max", "(II)I"⟩
abbrev cJ9_max_f86c9 : ByteArray := prog_11_method_66_code
def yJ9_max_f86c9 : MethodName := ⟨RJ9, "max", "(JJ)J"⟩
abbrev cJ9_min_7cf53 : ByteArray := prog_11_method_69_code
def yJ9_min_7cf53 : MethodName := ⟨RJ9, "min", "(II)I"⟩
abbrev cJ9_min_f86c9 : ByteArray := prog_11_method_70_code
def yJ9_min_f86c9 : MethodName := ⟨RJ9, "min", "(JJ)J"⟩
def RJ10 : String := "java/lang/System"
def TJ10 : u_T := fun k => match k with
  | _ => ("", "", "", false)
def tyJ10 : Nat → FieldType := fun k => match k with
  | _ => .int
abbrev wsJ100 : List Cond := u_ws RJ10 TJ10 0
theorem nmJ10 : ∀ a, a < 0 → ∀ b, b < 0 → a ≠ b → (TJ10 a).2.1 ≠ (TJ10 b).2.1 := by decide +kernel
theorem tyJ10_ok : ∀ k, k < 0 → parseFieldDescriptor (TJ10 k).2.2.1 = some (tyJ10 k) := by decide +kernel
def RJ7 : String := "java/util/Arrays"
def TJ7 : u_T := fun k => match k with
  | _ => ("", "", "", false)
def tyJ7 : Nat → FieldType := fun k => match k with
  | _ => .int
abbrev wsJ70 : List Cond := u_ws RJ7 TJ7 0
theorem nmJ7 : ∀ a, a < 0 → ∀ b, b < 0 → a ≠ b → (TJ7 a).2.1 ≠ (TJ7 b).2.1 := by decide +kernel
theorem tyJ7_ok : ∀ k, k < 0 → parseFieldDescriptor (TJ7 k).2.2.1 = some (tyJ7 k) := by decide +kernel
abbrev cJ7_fill_53178 : ByteArray := prog_13_method_103_code
def yJ7_fill_53178 : MethodName := ⟨RJ7, "fill", "([II)V"⟩
def RL : String := "LetteredRockLaw"
abbrev cL_law : ByteArray := code
def yL_law : MethodName := ⟨RL, "law", "([I)Z"⟩
def wsX0_init : List Cond := .code yX0_init cX0_init 4 none :: ([.methodLink RX0 3 objectInit, .instanceMethod objectInit, .code objectInit ⟨#[0xb1]⟩ 1 none, .fieldLink RX0 9 "LetteredRock$Letter" "width" "I", .fieldLink RX0 15 "LetteredRock$Letter" "minutes" "I", .fieldLink RX0 18 "LetteredRock$Letter" "soft" "I", .arrayClass .int, .fieldLink RX0 21 "LetteredRock$Letter" "strips" "[I"] ++ wsX00)
def wsX7_within : List Cond := .code yX7_within cX7_within 3 (some .boolean) :: ([])
def wsX0_hasStrip : List Cond := .code yX0_hasStrip cX0_hasStrip 2 (some .boolean) :: ([.fieldLink RX0 9 "LetteredRock$Letter" "width" "I", .static yX7_within, .initialized RX7, .code yX7_within cX7_within 3 (some .boolean)] ++ wsX00)
def wsX1_init : List Cond := .code yX1_init cX1_init 7 none :: ([.methodLink RX1 3 objectInit, .instanceMethod objectInit, .code objectInit ⟨#[0xb1]⟩ 1 none, .fieldLink RX1 9 "LetteredRock$Lump" "word" "I", .fieldLink RX1 15 "LetteredRock$Lump" "hand" "I", .fieldLink RX1 18 "LetteredRock$Lump" "day" "I", .fieldLink RX1 21 "LetteredRock$Lump" "firstStick" "I", .fieldLink RX1 24 "LetteredRock$Lump" "sticks" "I", .fieldLink RX1 27 "LetteredRock$Lump" "scrap" "I"] ++ wsX10)
def wsX1_gave : List Cond := .code yX1_gave cX1_gave 2 (some .boolean) :: ([.fieldLink RX1 21 "LetteredRock$Lump" "firstStick" "I", .fieldLink RX1 24 "LetteredRock$Lump" "sticks" "I"] ++ wsX10)
def wsX1_isRecalled : List Cond := .code yX1_isRecalled cX1_isRecalled 4 (some .boolean) :: ([.fieldLink RX1 15 "LetteredRock$Lump" "hand" "I", .fieldLink RX1 18 "LetteredRock$Lump" "day" "I", .static yX7_within, .initialized RX7, .code yX7_within cX7_within 3 (some .boolean)] ++ wsX10)
def wsX2_init : List Cond := .code yX2_init cX2_init 1 none :: ([.methodLink RX2 3 objectInit, .instanceMethod objectInit, .code objectInit ⟨#[0xb1]⟩ 1 none, .classLink RX2 9 RX1, .fieldLink RX2 11 "LetteredRock$LumpBook" "lumps" "[LLetteredRock$Lump;", .fieldLink RX2 17 "LetteredRock$LumpBook" "size" "I", .fieldLink RX2 21 "LetteredRock$LumpBook" "stickCount" "I", .fieldLink RX2 24 "LetteredRock$LumpBook" "scrap" "I"] ++ wsX20)
def wsX2_isFull : List Cond := .code yX2_isFull cX2_isFull 1 (some .boolean) :: ([.fieldLink RX2 17 "LetteredRock$LumpBook" "size" "I"] ++ wsX20)
def wsX2_enter : List Cond := .code yX2_enter cX2_enter 2 none :: ([.fieldLink RX2 11 "LetteredRock$LumpBook" "lumps" "[LLetteredRock$Lump;", .fieldLink RX2 17 "LetteredRock$LumpBook" "size" "I", .fieldLink RX2 21 "LetteredRock$LumpBook" "stickCount" "I", .fieldLink RX2 31 "LetteredRock$Lump" "sticks" "I", .fieldLink RX2 24 "LetteredRock$LumpBook" "scrap" "I", .fieldLink RX2 34 "LetteredRock$Lump" "scrap" "I", .methodLink RX2 27 yX2_isFull, .instanceMethod yX2_isFull, .selects RX2 yX2_isFull yX2_isFull, .initialized RX2, .code yX2_isFull cX2_isFull 1 (some .boolean)] ++ wsX20 ++ wsX10)
def wsX2_lumpAt : List Cond := .code yX2_lumpAt cX2_lumpAt 2 (some (.object "LetteredRock$Lump")) :: ([.fieldLink RX2 17 "LetteredRock$LumpBook" "size" "I", .fieldLink RX2 11 "LetteredRock$LumpBook" "lumps" "[LLetteredRock$Lump;", .static yX7_within, .initialized RX7, .code yX7_within cX7_within 3 (some .boolean)] ++ wsX20)
def wsX2_latestDay : List Cond := .code yX2_latestDay cX2_latestDay 1 (some .int) :: ([.fieldLink RX2 17 "LetteredRock$LumpBook" "size" "I", .fieldLink RX2 11 "LetteredRock$LumpBook" "lumps" "[LLetteredRock$Lump;", .fieldLink RX2 39 "LetteredRock$Lump" "day" "I"] ++ wsX20 ++ wsX10)
def wsX2_lumpOfStick : List Cond := .code yX2_lumpOfStick cX2_lumpOfStick 3 (some .int) :: ([.fieldLink RX2 17 "LetteredRock$LumpBook" "size" "I", .fieldLink RX2 11 "LetteredRock$LumpBook" "lumps" "[LLetteredRock$Lump;", .methodLink RX2 42 yX1_gave, .instanceMethod yX1_gave, .selects RX1 yX1_gave yX1_gave, .initialized RX1, .code yX1_gave cX1_gave 2 (some .boolean), .fieldLink RX1 21 "LetteredRock$Lump" "firstStick" "I", .fieldLink RX1 24 "LetteredRock$Lump" "sticks" "I"] ++ wsX20 ++ wsX10)
def wsX2_countSticks : List Cond := .code yX2_countSticks cX2_countSticks 6 (some .int) :: ([.fieldLink RX2 17 "LetteredRock$LumpBook" "size" "I", .fieldLink RX2 11 "LetteredRock$LumpBook" "lumps" "[LLetteredRock$Lump;", .fieldLink RX2 31 "LetteredRock$Lump" "sticks" "I", .methodLink RX2 46 yX1_isRecalled, .instanceMethod yX1_isRecalled, .selects RX1 yX1_isRecalled yX1_isRecalled, .initialized RX1, .code yX1_isRecalled cX1_isRecalled 4 (some .boolean), .fieldLink RX1 15 "LetteredRock$Lump" "hand" "I", .fieldLink RX1 18 "LetteredRock$Lump" "day" "I", .static yX7_within, .initialized RX7, .code yX7_within cX7_within 3 (some .boolean)] ++ wsX20 ++ wsX10)
def wsX3_init : List Cond := .code yX3_init cX3_init 1 none :: ([.methodLink RX3 3 objectInit, .instanceMethod objectInit, .code objectInit ⟨#[0xb1]⟩ 1 none, .arrayClass .int, .fieldLink RX3 9 "LetteredRock$Ring" "laid" "[I", .fieldLink RX3 15 "LetteredRock$Ring" "slotCount" "I", .fieldLink RX3 19 "LetteredRock$Ring" "gapWidth" "I"] ++ wsX30)
def wsX3_widthOf : List Cond := .code yX3_widthOf cX3_widthOf 4 (some .int) :: ([.fieldLink RX3 22 "LetteredRock$Word" "size" "I", .fieldLink RX3 27 "LetteredRock$Word" "letters" "[LLetteredRock$Letter;", .fieldLink RX3 31 "LetteredRock$Letter" "width" "I", .fieldLink RX3 19 "LetteredRock$Ring" "gapWidth" "I"] ++ wsX60 ++ wsX00 ++ wsX30)
def wsX3_fits : List Cond := .code yX3_fits cX3_fits 2 (some .boolean) :: ([.fieldLink RX3 22 "LetteredRock$Word" "size" "I", .fieldLink RX3 15 "LetteredRock$Ring" "slotCount" "I", .methodLink RX3 36 yX3_widthOf, .instanceMethod yX3_widthOf, .selects RX3 yX3_widthOf yX3_widthOf, .initialized RX3, .code yX3_widthOf cX3_widthOf 4 (some .int), .fieldLink RX3 27 "LetteredRock$Word" "letters" "[LLetteredRock$Letter;", .fieldLink RX3 31 "LetteredRock$Letter" "width" "I", .fieldLink RX3 19 "LetteredRock$Ring" "gapWidth" "I"] ++ wsX60 ++ wsX30 ++ wsX00)
def wsJ7_fill_53178 : List Cond := .code yJ7_fill_53178 cJ7_fill_53178 4 none :: ([])
def wsX3_lay : List Cond := .code yX3_lay cX3_lay 6 none :: ([.fieldLink RX3 9 "LetteredRock$Ring" "laid" "[I", .fieldLink RX3 22 "LetteredRock$Word" "size" "I", .fieldLink RX3 27 "LetteredRock$Word" "letters" "[LLetteredRock$Letter;", .fieldLink RX3 31 "LetteredRock$Letter" "width" "I", .fieldLink RX3 46 "LetteredRock$Letter" "strips" "[I", .fieldLink RX3 19 "LetteredRock$Ring" "gapWidth" "I", .methodLink RX3 40 yJ7_fill_53178, .static yJ7_fill_53178, .initialized RJ7, .code yJ7_fill_53178 cJ7_fill_53178 4 none] ++ wsX30 ++ wsX60 ++ wsX00)
def wsX3_slotSeen : List Cond := .code yX3_slotSeen cX3_slotSeen 5 (some .int) :: ([.fieldLink RX3 15 "LetteredRock$Ring" "slotCount" "I"] ++ wsX30)
def wsX3_upsideDown : List Cond := .code yX3_upsideDown cX3_upsideDown 3 (some .int) :: ([])
def wsX3_seen : List Cond := .code yX3_seen cX3_seen 5 (some .int) :: ([.fieldLink RX3 9 "LetteredRock$Ring" "laid" "[I", .methodLink RX3 49 yX3_slotSeen, .instanceMethod yX3_slotSeen, .selects RX3 yX3_slotSeen yX3_slotSeen, .initialized RX3, .code yX3_slotSeen cX3_slotSeen 5 (some .int), .fieldLink RX3 15 "LetteredRock$Ring" "slotCount" "I", .methodLink RX3 53 yX3_upsideDown, .static yX3_upsideDown, .code yX3_upsideDown cX3_upsideDown 3 (some .int)] ++ wsX30)
def wsX3_agrees : List Cond := .code yX3_agrees cX3_agrees 7 (some .boolean) :: ([.fieldLink RX3 15 "LetteredRock$Ring" "slotCount" "I", .fieldLink RX3 57 "LetteredRock$Sheet" "size" "I", .methodLink RX3 60 Lib.Math.min.name, .static Lib.Math.min.name, .initialized "java/lang/Math", .code Lib.Math.min.name Lib.Math.min.code 2 (some .int), .fieldLink RX3 66 "LetteredRock$Sheet" "items" "[I", .static yX7_within, .initialized RX7, .code yX7_within cX7_within 3 (some .boolean), .methodLink RX3 73 yX3_seen, .instanceMethod yX3_seen, .selects RX3 yX3_seen yX3_seen, .initialized RX3, .code yX3_seen cX3_seen 5 (some .int), .fieldLink RX3 9 "LetteredRock$Ring" "laid" "[I", .methodLink RX3 49 yX3_slotSeen, .instanceMethod yX3_slotSeen, .selects RX3 yX3_slotSeen yX3_slotSeen, .code yX3_slotSeen cX3_slotSeen 5 (some .int), .methodLink RX3 53 yX3_upsideDown, .static yX3_upsideDown, .code yX3_upsideDown cX3_upsideDown 3 (some .int)] ++ wsX30 ++ wsX40)
def wsX3_countReadings_r1 : List Cond := [Cond.fieldLink RX3 15 "LetteredRock$Ring" "slotCount" "I", Cond.methodLink RX3 76 yX3_agrees, Cond.instanceMethod yX3_agrees, Cond.selects RX3 yX3_agrees yX3_agrees, Cond.initialized RX3, Cond.code yX3_agrees cX3_agrees 7 (some .boolean), Cond.fieldLink RX3 57 "LetteredRock$Sheet" "size" "I", Cond.methodLink RX3 60 Lib.Math.min.name, Cond.static Lib.Math.min.name, Cond.initialized "java/lang/Math", Cond.code Lib.Math.min.name Lib.Math.min.code 2 (some .int), Cond.fieldLink RX3 66 "LetteredRock$Sheet" "items" "[I", Cond.static yX7_within, Cond.initialized RX7, Cond.code yX7_within cX7_within 3 (some .boolean), Cond.methodLink RX3 73 yX3_seen, Cond.instanceMethod yX3_seen, Cond.selects RX3 yX3_seen yX3_seen, Cond.code yX3_seen cX3_seen 5 (some .int), Cond.fieldLink RX3 9 "LetteredRock$Ring" "laid" "[I", Cond.methodLink RX3 49 yX3_slotSeen, Cond.instanceMethod yX3_slotSeen, Cond.selects RX3 yX3_slotSeen yX3_slotSeen, Cond.code yX3_slotSeen cX3_slotSeen 5 (some .int)]
def wsX3_countReadings_r2 : List Cond := [Cond.methodLink RX3 53 yX3_upsideDown, Cond.static yX3_upsideDown, Cond.code yX3_upsideDown cX3_upsideDown 3 (some .int)]
def wsX3_countReadings : List Cond := .code yX3_countReadings cX3_countReadings 5 (some .int) :: ((wsX3_countReadings_r1 ++ wsX3_countReadings_r2) ++ wsX30 ++ wsX40)
def wsX3_readingOf_r1 : List Cond := [Cond.fieldLink RX3 15 "LetteredRock$Ring" "slotCount" "I", Cond.methodLink RX3 76 yX3_agrees, Cond.instanceMethod yX3_agrees, Cond.selects RX3 yX3_agrees yX3_agrees, Cond.initialized RX3, Cond.code yX3_agrees cX3_agrees 7 (some .boolean), Cond.fieldLink RX3 57 "LetteredRock$Sheet" "size" "I", Cond.methodLink RX3 60 Lib.Math.min.name, Cond.static Lib.Math.min.name, Cond.initialized "java/lang/Math", Cond.code Lib.Math.min.name Lib.Math.min.code 2 (some .int), Cond.fieldLink RX3 66 "LetteredRock$Sheet" "items" "[I", Cond.static yX7_within, Cond.initialized RX7, Cond.code yX7_within cX7_within 3 (some .boolean), Cond.methodLink RX3 73 yX3_seen, Cond.instanceMethod yX3_seen, Cond.selects RX3 yX3_seen yX3_seen, Cond.code yX3_seen cX3_seen 5 (some .int), Cond.fieldLink RX3 9 "LetteredRock$Ring" "laid" "[I", Cond.methodLink RX3 49 yX3_slotSeen, Cond.instanceMethod yX3_slotSeen, Cond.selects RX3 yX3_slotSeen yX3_slotSeen, Cond.code yX3_slotSeen cX3_slotSeen 5 (some .int)]
def wsX3_readingOf_r2 : List Cond := [Cond.methodLink RX3 53 yX3_upsideDown, Cond.static yX3_upsideDown, Cond.code yX3_upsideDown cX3_upsideDown 3 (some .int)]
def wsX3_readingOf : List Cond := .code yX3_readingOf cX3_readingOf 6 (some .int) :: ((wsX3_readingOf_r1 ++ wsX3_readingOf_r2) ++ wsX30 ++ wsX40)
def wsX4_init : List Cond := .code yX4_init cX4_init 1 none :: ([.methodLink RX4 3 objectInit, .instanceMethod objectInit, .code objectInit ⟨#[0xb1]⟩ 1 none, .arrayClass .int, .fieldLink RX4 9 "LetteredRock$Sheet" "items" "[I", .fieldLink RX4 15 "LetteredRock$Sheet" "isLost" "Z", .fieldLink RX4 19 "LetteredRock$Sheet" "form" "I", .fieldLink RX4 23 "LetteredRock$Sheet" "size" "I"] ++ wsX40)
def wsX4_renew : List Cond := .code yX4_renew cX4_renew 3 none :: ([.fieldLink RX4 15 "LetteredRock$Sheet" "isLost" "Z", .fieldLink RX4 19 "LetteredRock$Sheet" "form" "I", .fieldLink RX4 23 "LetteredRock$Sheet" "size" "I", .fieldLink RX4 9 "LetteredRock$Sheet" "items" "[I", .methodLink RX4 26 yJ7_fill_53178, .static yJ7_fill_53178, .initialized RJ7, .code yJ7_fill_53178 cJ7_fill_53178 4 none] ++ wsX40)
def wsX4_hasItem : List Cond := .code yX4_hasItem cX4_hasItem 2 (some .boolean) :: ([.fieldLink RX4 23 "LetteredRock$Sheet" "size" "I", .static yX7_within, .initialized RX7, .code yX7_within cX7_within 3 (some .boolean)] ++ wsX40)
def wsX4_hasRun : List Cond := .code yX4_hasRun cX4_hasRun 3 (some .boolean) :: ([.fieldLink RX4 23 "LetteredRock$Sheet" "size" "I"] ++ wsX40)
def wsX4_write : List Cond := .code yX4_write cX4_write 3 none :: ([.fieldLink RX4 19 "LetteredRock$Sheet" "form" "I", .fieldLink RX4 9 "LetteredRock$Sheet" "items" "[I"] ++ wsX40)
def wsX4_wantAt : List Cond := .code yX4_wantAt cX4_wantAt 2 (some .int) :: ([.fieldLink RX4 15 "LetteredRock$Sheet" "isLost" "Z", .fieldLink RX4 9 "LetteredRock$Sheet" "items" "[I", .methodLink RX4 36 yX4_hasItem, .instanceMethod yX4_hasItem, .selects RX4 yX4_hasItem yX4_hasItem, .initialized RX4, .code yX4_hasItem cX4_hasItem 2 (some .boolean), .fieldLink RX4 23 "LetteredRock$Sheet" "size" "I", .static yX7_within, .initialized RX7, .code yX7_within cX7_within 3 (some .boolean)] ++ wsX40)
def wsX5_init : List Cond := .code yX5_init cX5_init 1 none :: ([.methodLink RX5 3 objectInit, .instanceMethod objectInit, .code objectInit ⟨#[0xb1]⟩ 1 none])
def wsX5_beginWith : List Cond := .code yX5_beginWith cX5_beginWith 2 none :: ([.fieldLink RX5 9 "LetteredRock$StockRun" "left" "J", .fieldLink RX5 15 "LetteredRock$StockRun" "lacking" "J", .fieldLink RX5 18 "LetteredRock$StockRun" "lost" "J", .fieldLink RX5 21 "LetteredRock$StockRun" "firstShort" "I"] ++ wsX50)
def wsX5_supply : List Cond := .code yX5_supply cX5_supply 4 none :: ([.fieldLink RX5 9 "LetteredRock$StockRun" "left" "J", .fieldLink RX5 15 "LetteredRock$StockRun" "lacking" "J", .fieldLink RX5 21 "LetteredRock$StockRun" "firstShort" "I"] ++ wsX50)
def wsX5_soften : List Cond := .code yX5_soften cX5_soften 4 none :: ([.fieldLink RX5 9 "LetteredRock$StockRun" "left" "J", .constantLong RX5 25 (100), .fieldLink RX5 18 "LetteredRock$StockRun" "lost" "J"] ++ wsX50)
def wsX6_init : List Cond := .code yX6_init cX6_init 1 none :: ([.methodLink RX6 3 objectInit, .instanceMethod objectInit, .code objectInit ⟨#[0xb1]⟩ 1 none, .classLink RX6 9 RX0, .fieldLink RX6 11 "LetteredRock$Word" "letters" "[LLetteredRock$Letter;", .fieldLink RX6 17 "LetteredRock$Word" "size" "I"] ++ wsX60)
def wsX6_append : List Cond := .code yX6_append cX6_append 2 (some .boolean) :: ([.fieldLink RX6 17 "LetteredRock$Word" "size" "I", .fieldLink RX6 11 "LetteredRock$Word" "letters" "[LLetteredRock$Letter;"] ++ wsX60)
def wsX6_isLaidBefore : List Cond := .code yX6_isLaidBefore cX6_isLaidBefore 5 (some .boolean) :: ([.fieldLink RX6 11 "LetteredRock$Word" "letters" "[LLetteredRock$Letter;", .fieldLink RX6 21 "LetteredRock$Letter" "soft" "I"] ++ wsX60 ++ wsX00)
def wsX6_rankOf : List Cond := .code yX6_rankOf cX6_rankOf 4 (some .int) :: ([.fieldLink RX6 17 "LetteredRock$Word" "size" "I", .methodLink RX6 28 yX6_isLaidBefore, .instanceMethod yX6_isLaidBefore, .selects RX6 yX6_isLaidBefore yX6_isLaidBefore, .initialized RX6, .code yX6_isLaidBefore cX6_isLaidBefore 5 (some .boolean), .fieldLink RX6 11 "LetteredRock$Word" "letters" "[LLetteredRock$Letter;", .fieldLink RX6 21 "LetteredRock$Letter" "soft" "I"] ++ wsX60 ++ wsX00)
def wsX6_placeInOrder : List Cond := .code yX6_placeInOrder cX6_placeInOrder 3 (some .int) :: ([.fieldLink RX6 17 "LetteredRock$Word" "size" "I", .methodLink RX6 24 yX6_rankOf, .instanceMethod yX6_rankOf, .selects RX6 yX6_rankOf yX6_rankOf, .initialized RX6, .code yX6_rankOf cX6_rankOf 4 (some .int), .methodLink RX6 28 yX6_isLaidBefore, .instanceMethod yX6_isLaidBefore, .selects RX6 yX6_isLaidBefore yX6_isLaidBefore, .code yX6_isLaidBefore cX6_isLaidBefore 5 (some .boolean), .fieldLink RX6 11 "LetteredRock$Word" "letters" "[LLetteredRock$Letter;", .fieldLink RX6 21 "LetteredRock$Letter" "soft" "I"] ++ wsX60 ++ wsX00)
def wsX6_lateAt : List Cond := .code yX6_lateAt cX6_lateAt 4 (some .int) :: ([.fieldLink RX6 11 "LetteredRock$Word" "letters" "[LLetteredRock$Letter;", .fieldLink RX6 32 "LetteredRock$Letter" "minutes" "I", .fieldLink RX6 17 "LetteredRock$Word" "size" "I", .fieldLink RX6 21 "LetteredRock$Letter" "soft" "I", .methodLink RX6 28 yX6_isLaidBefore, .instanceMethod yX6_isLaidBefore, .selects RX6 yX6_isLaidBefore yX6_isLaidBefore, .initialized RX6, .code yX6_isLaidBefore cX6_isLaidBefore 5 (some .boolean)] ++ wsX60 ++ wsX00)
def wsX6_greatestLate : List Cond := .code yX6_greatestLate cX6_greatestLate 3 (some .int) :: ([.fieldLink RX6 17 "LetteredRock$Word" "size" "I", .methodLink RX6 38 Lib.Math.max.name, .static Lib.Math.max.name, .initialized "java/lang/Math", .code Lib.Math.max.name Lib.Math.max.code 2 (some .int), .methodLink RX6 35 yX6_lateAt, .instanceMethod yX6_lateAt, .selects RX6 yX6_lateAt yX6_lateAt, .initialized RX6, .code yX6_lateAt cX6_lateAt 4 (some .int), .fieldLink RX6 11 "LetteredRock$Word" "letters" "[LLetteredRock$Letter;", .fieldLink RX6 32 "LetteredRock$Letter" "minutes" "I", .fieldLink RX6 21 "LetteredRock$Letter" "soft" "I", .methodLink RX6 28 yX6_isLaidBefore, .instanceMethod yX6_isLaidBefore, .selects RX6 yX6_isLaidBefore yX6_isLaidBefore, .code yX6_isLaidBefore cX6_isLaidBefore 5 (some .boolean)] ++ wsX60 ++ wsX00)
def wsX6_countLate : List Cond := .code yX6_countLate cX6_countLate 3 (some .int) :: ([.fieldLink RX6 17 "LetteredRock$Word" "size" "I", .methodLink RX6 35 yX6_lateAt, .instanceMethod yX6_lateAt, .selects RX6 yX6_lateAt yX6_lateAt, .initialized RX6, .code yX6_lateAt cX6_lateAt 4 (some .int), .fieldLink RX6 11 "LetteredRock$Word" "letters" "[LLetteredRock$Letter;", .fieldLink RX6 32 "LetteredRock$Letter" "minutes" "I", .fieldLink RX6 21 "LetteredRock$Letter" "soft" "I", .methodLink RX6 28 yX6_isLaidBefore, .instanceMethod yX6_isLaidBefore, .selects RX6 yX6_isLaidBefore yX6_isLaidBefore, .code yX6_isLaidBefore cX6_isLaidBefore 5 (some .boolean)] ++ wsX60 ++ wsX00)
def wsX7_init_r1 : List Cond := [Cond.methodLink RX7 1 objectInit, Cond.instanceMethod objectInit, Cond.code objectInit ⟨#[0xb1]⟩ 1 none, Cond.classLink RX7 9 RX0, Cond.fieldLink RX7 11 "LetteredRock" "alphabet" "[LLetteredRock$Letter;", Cond.fieldLink RX7 15 "LetteredRock" "letterCount" "I", Cond.classLink RX7 19 RX6, Cond.fieldLink RX7 21 "LetteredRock" "wordRow" "[LLetteredRock$Word;", Cond.instantiable RX6 2, Cond.initialized RX6, Cond.classLink RX7 26 RX3, Cond.instantiable RX3 3, Cond.initialized RX3, Cond.fieldLink RX7 29 "LetteredRock" "ring" "LLetteredRock$Ring;", Cond.arrayClass .int, Cond.fieldLink RX7 33 "LetteredRock" "settings" "[I", Cond.classLink RX7 37 RX2, Cond.instantiable RX2 4, Cond.initialized RX2, Cond.fieldLink RX7 40 "LetteredRock" "lumpBook" "LLetteredRock$LumpBook;", Cond.arrayClass .boolean, Cond.fieldLink RX7 44 "LetteredRock" "dampWeeks" "[Z", Cond.fieldLink RX7 48 "LetteredRock" "madeIn" "[I", Cond.classLink RX7 51 RX5]
def wsX7_init_r2 : List Cond := [Cond.instantiable RX5 4, Cond.initialized RX5, Cond.fieldLink RX7 54 "LetteredRock" "stockRun" "LLetteredRock$StockRun;", Cond.classLink RX7 58 RX4, Cond.fieldLink RX7 60 "LetteredRock" "sheetRow" "[LLetteredRock$Sheet;", Cond.instantiable RX4 4, Cond.initialized RX4, Cond.fieldLink RX7 65 "LetteredRock" "latestFinding" "I", Cond.instanceMethod yX6_init, Cond.code yX6_init cX6_init 1 none, Cond.methodLink RX6 3 objectInit, Cond.classLink RX6 9 RX0, Cond.fieldLink RX6 11 "LetteredRock$Word" "letters" "[LLetteredRock$Letter;", Cond.fieldLink RX6 17 "LetteredRock$Word" "size" "I", Cond.instanceMethod yX3_init, Cond.code yX3_init cX3_init 1 none, Cond.methodLink RX3 3 objectInit, Cond.fieldLink RX3 9 "LetteredRock$Ring" "laid" "[I", Cond.fieldLink RX3 15 "LetteredRock$Ring" "slotCount" "I", Cond.fieldLink RX3 19 "LetteredRock$Ring" "gapWidth" "I", Cond.instanceMethod yX2_init, Cond.code yX2_init cX2_init 1 none, Cond.methodLink RX2 3 objectInit, Cond.classLink RX2 9 RX1]
def wsX7_init_r3 : List Cond := [Cond.fieldLink RX2 11 "LetteredRock$LumpBook" "lumps" "[LLetteredRock$Lump;", Cond.fieldLink RX2 17 "LetteredRock$LumpBook" "size" "I", Cond.fieldLink RX2 21 "LetteredRock$LumpBook" "stickCount" "I", Cond.fieldLink RX2 24 "LetteredRock$LumpBook" "scrap" "I", Cond.instanceMethod yX5_init, Cond.code yX5_init cX5_init 1 none, Cond.methodLink RX5 3 objectInit, Cond.instanceMethod yX4_init, Cond.code yX4_init cX4_init 1 none, Cond.methodLink RX4 3 objectInit, Cond.fieldLink RX4 9 "LetteredRock$Sheet" "items" "[I", Cond.fieldLink RX4 15 "LetteredRock$Sheet" "isLost" "Z", Cond.fieldLink RX4 19 "LetteredRock$Sheet" "form" "I", Cond.fieldLink RX4 23 "LetteredRock$Sheet" "size" "I"]
def wsX7_init : List Cond := .code yX7_init cX7_init 2 none :: ((wsX7_init_r1 ++ (wsX7_init_r2 ++ wsX7_init_r3)) ++ wsX70 ++ wsX60 ++ wsX30 ++ wsX20 ++ wsX50 ++ wsX40)
def wsX7_letter : List Cond := .code yX7_letter cX7_letter 4 (some .int) :: ([.fieldLink RX7 15 "LetteredRock" "letterCount" "I", .fieldLink RX7 11 "LetteredRock" "alphabet" "[LLetteredRock$Letter;", .classLink RX7 9 RX0, .instantiable RX0 4, .initialized RX0, .methodLink RX7 68 yX7_within, .static yX7_within, .initialized RX7, .code yX7_within cX7_within 3 (some .boolean), .methodLink RX7 72 yX0_init, .instanceMethod yX0_init, .code yX0_init cX0_init 4 none, .methodLink RX0 3 objectInit, .instanceMethod objectInit, .code objectInit ⟨#[0xb1]⟩ 1 none, .fieldLink RX0 9 "LetteredRock$Letter" "width" "I", .fieldLink RX0 15 "LetteredRock$Letter" "minutes" "I", .fieldLink RX0 18 "LetteredRock$Letter" "soft" "I", .arrayClass .int, .fieldLink RX0 21 "LetteredRock$Letter" "strips" "[I"] ++ wsX70 ++ wsX00)
def wsX7_letterAt : List Cond := .code yX7_letterAt cX7_letterAt 2 (some (.object "LetteredRock$Letter")) :: ([.fieldLink RX7 15 "LetteredRock" "letterCount" "I", .fieldLink RX7 11 "LetteredRock" "alphabet" "[LLetteredRock$Letter;", .methodLink RX7 68 yX7_within, .static yX7_within, .initialized RX7, .code yX7_within cX7_within 3 (some .boolean)] ++ wsX70)
def wsX7_strip : List Cond := .code yX7_strip cX7_strip 6 (some .int) :: ([.fieldLink RX7 83 "LetteredRock$Letter" "strips" "[I", .methodLink RX7 75 yX7_letterAt, .instanceMethod yX7_letterAt, .selects RX7 yX7_letterAt yX7_letterAt, .initialized RX7, .code yX7_letterAt cX7_letterAt 2 (some (.object "LetteredRock$Letter")), .fieldLink RX7 15 "LetteredRock" "letterCount" "I", .fieldLink RX7 11 "LetteredRock" "alphabet" "[LLetteredRock$Letter;", .methodLink RX7 68 yX7_within, .static yX7_within, .code yX7_within cX7_within 3 (some .boolean), .methodLink RX7 79 yX0_hasStrip, .instanceMethod yX0_hasStrip, .selects RX0 yX0_hasStrip yX0_hasStrip, .initialized RX0, .code yX0_hasStrip cX0_hasStrip 2 (some .boolean), .fieldLink RX0 9 "LetteredRock$Letter" "width" "I"] ++ wsX00 ++ wsX70)
def wsX7_about : List Cond := .code yX7_about cX7_about 4 (some .int) :: ([.fieldLink RX7 86 "LetteredRock$Letter" "width" "I", .fieldLink RX7 89 "LetteredRock$Letter" "minutes" "I", .fieldLink RX7 92 "LetteredRock$Letter" "soft" "I", .fieldLink RX7 83 "LetteredRock$Letter" "strips" "[I", .methodLink RX7 75 yX7_letterAt, .instanceMethod yX7_letterAt, .selects RX7 yX7_letterAt yX7_letterAt, .initialized RX7, .code yX7_letterAt cX7_letterAt 2 (some (.object "LetteredRock$Letter")), .fieldLink RX7 15 "LetteredRock" "letterCount" "I", .fieldLink RX7 11 "LetteredRock" "alphabet" "[LLetteredRock$Letter;", .methodLink RX7 68 yX7_within, .static yX7_within, .code yX7_within cX7_within 3 (some .boolean), .methodLink RX7 79 yX0_hasStrip, .instanceMethod yX0_hasStrip, .selects RX0 yX0_hasStrip yX0_hasStrip, .initialized RX0, .code yX0_hasStrip cX0_hasStrip 2 (some .boolean), .fieldLink RX0 9 "LetteredRock$Letter" "width" "I"] ++ wsX00 ++ wsX70)
def wsX7_wordAt : List Cond := .code yX7_wordAt cX7_wordAt 2 (some (.object "LetteredRock$Word")) :: ([.fieldLink RX7 21 "LetteredRock" "wordRow" "[LLetteredRock$Word;", .methodLink RX7 68 yX7_within, .static yX7_within, .initialized RX7, .code yX7_within cX7_within 3 (some .boolean)] ++ wsX70)
def wsX7_spell : List Cond := .code yX7_spell cX7_spell 5 (some .int) :: ([.fieldLink RX7 103 "LetteredRock$Word" "size" "I", .methodLink RX7 95 yX7_wordAt, .instanceMethod yX7_wordAt, .selects RX7 yX7_wordAt yX7_wordAt, .initialized RX7, .code yX7_wordAt cX7_wordAt 2 (some (.object "LetteredRock$Word")), .fieldLink RX7 21 "LetteredRock" "wordRow" "[LLetteredRock$Word;", .methodLink RX7 68 yX7_within, .static yX7_within, .code yX7_within cX7_within 3 (some .boolean), .methodLink RX7 75 yX7_letterAt, .instanceMethod yX7_letterAt, .selects RX7 yX7_letterAt yX7_letterAt, .code yX7_letterAt cX7_letterAt 2 (some (.object "LetteredRock$Letter")), .fieldLink RX7 15 "LetteredRock" "letterCount" "I", .fieldLink RX7 11 "LetteredRock" "alphabet" "[LLetteredRock$Letter;", .methodLink RX7 99 yX6_append, .instanceMethod yX6_append, .selects RX6 yX6_append yX6_append, .initialized RX6, .code yX6_append cX6_append 2 (some .boolean), .fieldLink RX6 17 "LetteredRock$Word" "size" "I", .fieldLink RX6 11 "LetteredRock$Word" "letters" "[LLetteredRock$Letter;"] ++ wsX60 ++ wsX70)
def wsX7_wipe : List Cond := .code yX7_wipe cX7_wipe 4 (some .int) :: ([.fieldLink RX7 103 "LetteredRock$Word" "size" "I", .methodLink RX7 95 yX7_wordAt, .instanceMethod yX7_wordAt, .selects RX7 yX7_wordAt yX7_wordAt, .initialized RX7, .code yX7_wordAt cX7_wordAt 2 (some (.object "LetteredRock$Word")), .fieldLink RX7 21 "LetteredRock" "wordRow" "[LLetteredRock$Word;", .methodLink RX7 68 yX7_within, .static yX7_within, .code yX7_within cX7_within 3 (some .boolean)] ++ wsX60 ++ wsX70)
def wsX7_slots : List Cond := .code yX7_slots cX7_slots 3 (some .int) :: ([.fieldLink RX7 29 "LetteredRock" "ring" "LLetteredRock$Ring;", .fieldLink RX7 106 "LetteredRock$Ring" "slotCount" "I", .methodLink RX7 68 yX7_within, .static yX7_within, .initialized RX7, .code yX7_within cX7_within 3 (some .boolean)] ++ wsX70 ++ wsX30)
def wsX7_gap : List Cond := .code yX7_gap cX7_gap 3 (some .int) :: ([.fieldLink RX7 29 "LetteredRock" "ring" "LLetteredRock$Ring;", .fieldLink RX7 109 "LetteredRock$Ring" "gapWidth" "I", .methodLink RX7 68 yX7_within, .static yX7_within, .initialized RX7, .code yX7_within cX7_within 3 (some .boolean)] ++ wsX70 ++ wsX30)
def wsX7_wide : List Cond := .code yX7_wide cX7_wide 3 (some .int) :: ([.fieldLink RX7 29 "LetteredRock" "ring" "LLetteredRock$Ring;", .methodLink RX7 95 yX7_wordAt, .instanceMethod yX7_wordAt, .selects RX7 yX7_wordAt yX7_wordAt, .initialized RX7, .code yX7_wordAt cX7_wordAt 2 (some (.object "LetteredRock$Word")), .fieldLink RX7 21 "LetteredRock" "wordRow" "[LLetteredRock$Word;", .methodLink RX7 68 yX7_within, .static yX7_within, .code yX7_within cX7_within 3 (some .boolean), .methodLink RX7 112 yX3_widthOf, .instanceMethod yX3_widthOf, .selects RX3 yX3_widthOf yX3_widthOf, .initialized RX3, .code yX3_widthOf cX3_widthOf 4 (some .int), .fieldLink RX3 22 "LetteredRock$Word" "size" "I", .fieldLink RX3 27 "LetteredRock$Word" "letters" "[LLetteredRock$Letter;", .fieldLink RX3 31 "LetteredRock$Letter" "width" "I", .fieldLink RX3 19 "LetteredRock$Ring" "gapWidth" "I"] ++ wsX70 ++ wsX60 ++ wsX00 ++ wsX30)
def wsX7_isLonger : List Cond := .code yX7_isLonger cX7_isLonger 3 (some .boolean) :: ([.fieldLink RX7 103 "LetteredRock$Word" "size" "I", .fieldLink RX7 29 "LetteredRock" "ring" "LLetteredRock$Ring;", .methodLink RX7 112 yX3_widthOf, .instanceMethod yX3_widthOf, .selects RX3 yX3_widthOf yX3_widthOf, .initialized RX3, .code yX3_widthOf cX3_widthOf 4 (some .int), .fieldLink RX3 22 "LetteredRock$Word" "size" "I", .fieldLink RX3 27 "LetteredRock$Word" "letters" "[LLetteredRock$Letter;", .fieldLink RX3 31 "LetteredRock$Letter" "width" "I", .fieldLink RX3 19 "LetteredRock$Ring" "gapWidth" "I"] ++ wsX60 ++ wsX70 ++ wsX00 ++ wsX30)
def wsX7_longest : List Cond := .code yX7_longest cX7_longest 3 (some .int) :: ([.fieldLink RX7 29 "LetteredRock" "ring" "LLetteredRock$Ring;", .fieldLink RX7 21 "LetteredRock" "wordRow" "[LLetteredRock$Word;", .methodLink RX7 116 yX3_fits, .instanceMethod yX3_fits, .selects RX3 yX3_fits yX3_fits, .initialized RX3, .code yX3_fits cX3_fits 2 (some .boolean), .fieldLink RX3 22 "LetteredRock$Word" "size" "I", .fieldLink RX3 15 "LetteredRock$Ring" "slotCount" "I", .methodLink RX3 36 yX3_widthOf, .instanceMethod yX3_widthOf, .selects RX3 yX3_widthOf yX3_widthOf, .code yX3_widthOf cX3_widthOf 4 (some .int), .fieldLink RX3 27 "LetteredRock$Word" "letters" "[LLetteredRock$Letter;", .fieldLink RX3 31 "LetteredRock$Letter" "width" "I", .fieldLink RX3 19 "LetteredRock$Ring" "gapWidth" "I", .methodLink RX7 120 yX7_isLonger, .instanceMethod yX7_isLonger, .selects RX7 yX7_isLonger yX7_isLonger, .initialized RX7, .code yX7_isLonger cX7_isLonger 3 (some .boolean), .fieldLink RX7 103 "LetteredRock$Word" "size" "I", .methodLink RX7 112 yX3_widthOf] ++ wsX70 ++ wsX60 ++ wsX30 ++ wsX00)
def wsX7_cut_r1 : List Cond := [Cond.fieldLink RX7 29 "LetteredRock" "ring" "LLetteredRock$Ring;", Cond.fieldLink RX7 106 "LetteredRock$Ring" "slotCount" "I", Cond.methodLink RX7 95 yX7_wordAt, Cond.instanceMethod yX7_wordAt, Cond.selects RX7 yX7_wordAt yX7_wordAt, Cond.initialized RX7, Cond.code yX7_wordAt cX7_wordAt 2 (some (.object "LetteredRock$Word")), Cond.fieldLink RX7 21 "LetteredRock" "wordRow" "[LLetteredRock$Word;", Cond.methodLink RX7 68 yX7_within, Cond.static yX7_within, Cond.code yX7_within cX7_within 3 (some .boolean), Cond.methodLink RX7 116 yX3_fits, Cond.instanceMethod yX3_fits, Cond.selects RX3 yX3_fits yX3_fits, Cond.initialized RX3, Cond.code yX3_fits cX3_fits 2 (some .boolean), Cond.fieldLink RX3 22 "LetteredRock$Word" "size" "I", Cond.fieldLink RX3 15 "LetteredRock$Ring" "slotCount" "I", Cond.methodLink RX3 36 yX3_widthOf, Cond.instanceMethod yX3_widthOf, Cond.selects RX3 yX3_widthOf yX3_widthOf, Cond.code yX3_widthOf cX3_widthOf 4 (some .int), Cond.fieldLink RX3 27 "LetteredRock$Word" "letters" "[LLetteredRock$Letter;", Cond.fieldLink RX3 31 "LetteredRock$Letter" "width" "I"]
def wsX7_cut_r2 : List Cond := [Cond.fieldLink RX3 19 "LetteredRock$Ring" "gapWidth" "I", Cond.methodLink RX7 124 yX3_lay, Cond.instanceMethod yX3_lay, Cond.selects RX3 yX3_lay yX3_lay, Cond.code yX3_lay cX3_lay 6 none, Cond.fieldLink RX3 9 "LetteredRock$Ring" "laid" "[I", Cond.fieldLink RX3 46 "LetteredRock$Letter" "strips" "[I", Cond.methodLink RX3 40 yJ7_fill_53178, Cond.static yJ7_fill_53178, Cond.initialized RJ7, Cond.code yJ7_fill_53178 cJ7_fill_53178 4 none, Cond.methodLink RX7 128 yX3_seen, Cond.instanceMethod yX3_seen, Cond.selects RX3 yX3_seen yX3_seen, Cond.code yX3_seen cX3_seen 5 (some .int), Cond.methodLink RX3 49 yX3_slotSeen, Cond.instanceMethod yX3_slotSeen, Cond.selects RX3 yX3_slotSeen yX3_slotSeen, Cond.code yX3_slotSeen cX3_slotSeen 5 (some .int), Cond.methodLink RX3 53 yX3_upsideDown, Cond.static yX3_upsideDown, Cond.code yX3_upsideDown cX3_upsideDown 3 (some .int)]
def wsX7_cut : List Cond := .code yX7_cut cX7_cut 7 (some .int) :: ((wsX7_cut_r1 ++ wsX7_cut_r2) ++ wsX70 ++ wsX30 ++ wsX60 ++ wsX00)
def wsX7_isSheet : List Cond := .code yX7_isSheet cX7_isSheet 1 (some .boolean) :: ([.methodLink RX7 68 yX7_within, .static yX7_within, .initialized RX7, .code yX7_within cX7_within 3 (some .boolean)])
def wsX7_finding : List Cond := .code yX7_finding cX7_finding 2 (some .int) :: ([.fieldLink RX7 65 "LetteredRock" "latestFinding" "I"] ++ wsX70)
def wsX7_troubleOfSheet : List Cond := .code yX7_troubleOfSheet cX7_troubleOfSheet 2 (some .int) :: ([.fieldLink RX7 60 "LetteredRock" "sheetRow" "[LLetteredRock$Sheet;", .fieldLink RX7 279 "LetteredRock$Sheet" "isLost" "Z", .methodLink RX7 266 yX7_isSheet, .static yX7_isSheet, .initialized RX7, .code yX7_isSheet cX7_isSheet 1 (some .boolean), .methodLink RX7 68 yX7_within, .static yX7_within, .code yX7_within cX7_within 3 (some .boolean), .methodLink RX7 272 yX7_finding, .instanceMethod yX7_finding, .selects RX7 yX7_finding yX7_finding, .code yX7_finding cX7_finding 2 (some .int), .fieldLink RX7 65 "LetteredRock" "latestFinding" "I"] ++ wsX70 ++ wsX40)
def wsX7_readingsOfWord_r1 : List Cond := [Cond.fieldLink RX7 29 "LetteredRock" "ring" "LLetteredRock$Ring;", Cond.fieldLink RX7 21 "LetteredRock" "wordRow" "[LLetteredRock$Word;", Cond.methodLink RX7 116 yX3_fits, Cond.instanceMethod yX3_fits, Cond.selects RX3 yX3_fits yX3_fits, Cond.initialized RX3, Cond.code yX3_fits cX3_fits 2 (some .boolean), Cond.fieldLink RX3 22 "LetteredRock$Word" "size" "I", Cond.fieldLink RX3 15 "LetteredRock$Ring" "slotCount" "I", Cond.methodLink RX3 36 yX3_widthOf, Cond.instanceMethod yX3_widthOf, Cond.selects RX3 yX3_widthOf yX3_widthOf, Cond.code yX3_widthOf cX3_widthOf 4 (some .int), Cond.fieldLink RX3 27 "LetteredRock$Word" "letters" "[LLetteredRock$Letter;", Cond.fieldLink RX3 31 "LetteredRock$Letter" "width" "I", Cond.fieldLink RX3 19 "LetteredRock$Ring" "gapWidth" "I", Cond.methodLink RX7 124 yX3_lay, Cond.instanceMethod yX3_lay, Cond.selects RX3 yX3_lay yX3_lay, Cond.code yX3_lay cX3_lay 6 none, Cond.fieldLink RX3 9 "LetteredRock$Ring" "laid" "[I", Cond.fieldLink RX3 46 "LetteredRock$Letter" "strips" "[I", Cond.methodLink RX3 40 yJ7_fill_53178, Cond.static yJ7_fill_53178]
def wsX7_readingsOfWord_r2 : List Cond := [Cond.initialized RJ7, Cond.code yJ7_fill_53178 cJ7_fill_53178 4 none, Cond.methodLink RX7 144 yX3_countReadings, Cond.instanceMethod yX3_countReadings, Cond.selects RX3 yX3_countReadings yX3_countReadings, Cond.code yX3_countReadings cX3_countReadings 5 (some .int), Cond.methodLink RX3 76 yX3_agrees, Cond.instanceMethod yX3_agrees, Cond.selects RX3 yX3_agrees yX3_agrees, Cond.code yX3_agrees cX3_agrees 7 (some .boolean), Cond.fieldLink RX3 57 "LetteredRock$Sheet" "size" "I", Cond.methodLink RX3 60 Lib.Math.min.name, Cond.static Lib.Math.min.name, Cond.initialized "java/lang/Math", Cond.code Lib.Math.min.name Lib.Math.min.code 2 (some .int), Cond.fieldLink RX3 66 "LetteredRock$Sheet" "items" "[I", Cond.static yX7_within, Cond.initialized RX7, Cond.code yX7_within cX7_within 3 (some .boolean), Cond.methodLink RX3 73 yX3_seen, Cond.instanceMethod yX3_seen, Cond.selects RX3 yX3_seen yX3_seen, Cond.code yX3_seen cX3_seen 5 (some .int), Cond.methodLink RX3 49 yX3_slotSeen]
def wsX7_readingsOfWord_r3 : List Cond := [Cond.instanceMethod yX3_slotSeen, Cond.selects RX3 yX3_slotSeen yX3_slotSeen, Cond.code yX3_slotSeen cX3_slotSeen 5 (some .int), Cond.methodLink RX3 53 yX3_upsideDown, Cond.static yX3_upsideDown, Cond.code yX3_upsideDown cX3_upsideDown 3 (some .int)]
def wsX7_readingsOfWord : List Cond := .code yX7_readingsOfWord cX7_readingsOfWord 3 (some .int) :: ((wsX7_readingsOfWord_r1 ++ (wsX7_readingsOfWord_r2 ++ wsX7_readingsOfWord_r3)) ++ wsX70 ++ wsX60 ++ wsX30 ++ wsX00 ++ wsX40)
def wsX7_readings_r1 : List Cond := [Cond.fieldLink RX7 60 "LetteredRock" "sheetRow" "[LLetteredRock$Sheet;", Cond.methodLink RX7 132 yX7_troubleOfSheet, Cond.instanceMethod yX7_troubleOfSheet, Cond.selects RX7 yX7_troubleOfSheet yX7_troubleOfSheet, Cond.initialized RX7, Cond.code yX7_troubleOfSheet cX7_troubleOfSheet 2 (some .int), Cond.fieldLink RX7 279 "LetteredRock$Sheet" "isLost" "Z", Cond.methodLink RX7 266 yX7_isSheet, Cond.static yX7_isSheet, Cond.code yX7_isSheet cX7_isSheet 1 (some .boolean), Cond.methodLink RX7 68 yX7_within, Cond.static yX7_within, Cond.code yX7_within cX7_within 3 (some .boolean), Cond.methodLink RX7 272 yX7_finding, Cond.instanceMethod yX7_finding, Cond.selects RX7 yX7_finding yX7_finding, Cond.code yX7_finding cX7_finding 2 (some .int), Cond.fieldLink RX7 65 "LetteredRock" "latestFinding" "I", Cond.methodLink RX7 136 yX7_readingsOfWord, Cond.instanceMethod yX7_readingsOfWord, Cond.selects RX7 yX7_readingsOfWord yX7_readingsOfWord, Cond.code yX7_readingsOfWord cX7_readingsOfWord 3 (some .int), Cond.fieldLink RX7 29 "LetteredRock" "ring" "LLetteredRock$Ring;", Cond.fieldLink RX7 21 "LetteredRock" "wordRow" "[LLetteredRock$Word;"]
def wsX7_readings_r2 : List Cond := [Cond.methodLink RX7 116 yX3_fits, Cond.instanceMethod yX3_fits, Cond.selects RX3 yX3_fits yX3_fits, Cond.initialized RX3, Cond.code yX3_fits cX3_fits 2 (some .boolean), Cond.fieldLink RX3 22 "LetteredRock$Word" "size" "I", Cond.fieldLink RX3 15 "LetteredRock$Ring" "slotCount" "I", Cond.methodLink RX3 36 yX3_widthOf, Cond.instanceMethod yX3_widthOf, Cond.selects RX3 yX3_widthOf yX3_widthOf, Cond.code yX3_widthOf cX3_widthOf 4 (some .int), Cond.fieldLink RX3 27 "LetteredRock$Word" "letters" "[LLetteredRock$Letter;", Cond.fieldLink RX3 31 "LetteredRock$Letter" "width" "I", Cond.fieldLink RX3 19 "LetteredRock$Ring" "gapWidth" "I", Cond.methodLink RX7 124 yX3_lay, Cond.instanceMethod yX3_lay, Cond.selects RX3 yX3_lay yX3_lay, Cond.code yX3_lay cX3_lay 6 none, Cond.fieldLink RX3 9 "LetteredRock$Ring" "laid" "[I", Cond.fieldLink RX3 46 "LetteredRock$Letter" "strips" "[I", Cond.methodLink RX3 40 yJ7_fill_53178, Cond.static yJ7_fill_53178, Cond.initialized RJ7, Cond.code yJ7_fill_53178 cJ7_fill_53178 4 none]
def wsX7_readings_r3 : List Cond := [Cond.methodLink RX7 144 yX3_countReadings, Cond.instanceMethod yX3_countReadings, Cond.selects RX3 yX3_countReadings yX3_countReadings, Cond.code yX3_countReadings cX3_countReadings 5 (some .int), Cond.methodLink RX3 76 yX3_agrees, Cond.instanceMethod yX3_agrees, Cond.selects RX3 yX3_agrees yX3_agrees, Cond.code yX3_agrees cX3_agrees 7 (some .boolean), Cond.fieldLink RX3 57 "LetteredRock$Sheet" "size" "I", Cond.methodLink RX3 60 Lib.Math.min.name, Cond.static Lib.Math.min.name, Cond.initialized "java/lang/Math", Cond.code Lib.Math.min.name Lib.Math.min.code 2 (some .int), Cond.fieldLink RX3 66 "LetteredRock$Sheet" "items" "[I", Cond.methodLink RX3 73 yX3_seen, Cond.instanceMethod yX3_seen, Cond.selects RX3 yX3_seen yX3_seen, Cond.code yX3_seen cX3_seen 5 (some .int), Cond.methodLink RX3 49 yX3_slotSeen, Cond.instanceMethod yX3_slotSeen, Cond.selects RX3 yX3_slotSeen yX3_slotSeen, Cond.code yX3_slotSeen cX3_slotSeen 5 (some .int), Cond.methodLink RX3 53 yX3_upsideDown, Cond.static yX3_upsideDown]
def wsX7_readings_r4 : List Cond := [Cond.code yX3_upsideDown cX3_upsideDown 3 (some .int)]
def wsX7_readings : List Cond := .code yX7_readings cX7_readings 5 (some .int) :: ((wsX7_readings_r1 ++ (wsX7_readings_r2 ++ (wsX7_readings_r3 ++ wsX7_readings_r4))) ++ wsX70 ++ wsX40 ++ wsX60 ++ wsX30 ++ wsX00)
def wsX7_reading_r1 : List Cond := [Cond.fieldLink RX7 60 "LetteredRock" "sheetRow" "[LLetteredRock$Sheet;", Cond.fieldLink RX7 29 "LetteredRock" "ring" "LLetteredRock$Ring;", Cond.methodLink RX7 132 yX7_troubleOfSheet, Cond.instanceMethod yX7_troubleOfSheet, Cond.selects RX7 yX7_troubleOfSheet yX7_troubleOfSheet, Cond.initialized RX7, Cond.code yX7_troubleOfSheet cX7_troubleOfSheet 2 (some .int), Cond.fieldLink RX7 279 "LetteredRock$Sheet" "isLost" "Z", Cond.methodLink RX7 266 yX7_isSheet, Cond.static yX7_isSheet, Cond.code yX7_isSheet cX7_isSheet 1 (some .boolean), Cond.methodLink RX7 68 yX7_within, Cond.static yX7_within, Cond.code yX7_within cX7_within 3 (some .boolean), Cond.methodLink RX7 272 yX7_finding, Cond.instanceMethod yX7_finding, Cond.selects RX7 yX7_finding yX7_finding, Cond.code yX7_finding cX7_finding 2 (some .int), Cond.fieldLink RX7 65 "LetteredRock" "latestFinding" "I", Cond.methodLink RX7 136 yX7_readingsOfWord, Cond.instanceMethod yX7_readingsOfWord, Cond.selects RX7 yX7_readingsOfWord yX7_readingsOfWord, Cond.code yX7_readingsOfWord cX7_readingsOfWord 3 (some .int), Cond.fieldLink RX7 21 "LetteredRock" "wordRow" "[LLetteredRock$Word;"]
def wsX7_reading_r2 : List Cond := [Cond.methodLink RX7 116 yX3_fits, Cond.instanceMethod yX3_fits, Cond.selects RX3 yX3_fits yX3_fits, Cond.initialized RX3, Cond.code yX3_fits cX3_fits 2 (some .boolean), Cond.fieldLink RX3 22 "LetteredRock$Word" "size" "I", Cond.fieldLink RX3 15 "LetteredRock$Ring" "slotCount" "I", Cond.methodLink RX3 36 yX3_widthOf, Cond.instanceMethod yX3_widthOf, Cond.selects RX3 yX3_widthOf yX3_widthOf, Cond.code yX3_widthOf cX3_widthOf 4 (some .int), Cond.fieldLink RX3 27 "LetteredRock$Word" "letters" "[LLetteredRock$Letter;", Cond.fieldLink RX3 31 "LetteredRock$Letter" "width" "I", Cond.fieldLink RX3 19 "LetteredRock$Ring" "gapWidth" "I", Cond.methodLink RX7 124 yX3_lay, Cond.instanceMethod yX3_lay, Cond.selects RX3 yX3_lay yX3_lay, Cond.code yX3_lay cX3_lay 6 none, Cond.fieldLink RX3 9 "LetteredRock$Ring" "laid" "[I", Cond.fieldLink RX3 46 "LetteredRock$Letter" "strips" "[I", Cond.methodLink RX3 40 yJ7_fill_53178, Cond.static yJ7_fill_53178, Cond.initialized RJ7, Cond.code yJ7_fill_53178 cJ7_fill_53178 4 none]
def wsX7_reading_r3 : List Cond := [Cond.methodLink RX7 144 yX3_countReadings, Cond.instanceMethod yX3_countReadings, Cond.selects RX3 yX3_countReadings yX3_countReadings, Cond.code yX3_countReadings cX3_countReadings 5 (some .int), Cond.methodLink RX3 76 yX3_agrees, Cond.instanceMethod yX3_agrees, Cond.selects RX3 yX3_agrees yX3_agrees, Cond.code yX3_agrees cX3_agrees 7 (some .boolean), Cond.fieldLink RX3 57 "LetteredRock$Sheet" "size" "I", Cond.methodLink RX3 60 Lib.Math.min.name, Cond.static Lib.Math.min.name, Cond.initialized "java/lang/Math", Cond.code Lib.Math.min.name Lib.Math.min.code 2 (some .int), Cond.fieldLink RX3 66 "LetteredRock$Sheet" "items" "[I", Cond.methodLink RX3 73 yX3_seen, Cond.instanceMethod yX3_seen, Cond.selects RX3 yX3_seen yX3_seen, Cond.code yX3_seen cX3_seen 5 (some .int), Cond.methodLink RX3 49 yX3_slotSeen, Cond.instanceMethod yX3_slotSeen, Cond.selects RX3 yX3_slotSeen yX3_slotSeen, Cond.code yX3_slotSeen cX3_slotSeen 5 (some .int), Cond.methodLink RX3 53 yX3_upsideDown, Cond.static yX3_upsideDown]
def wsX7_reading_r4 : List Cond := [Cond.code yX3_upsideDown cX3_upsideDown 3 (some .int), Cond.methodLink RX7 140 yX3_readingOf, Cond.instanceMethod yX3_readingOf, Cond.selects RX3 yX3_readingOf yX3_readingOf, Cond.code yX3_readingOf cX3_readingOf 6 (some .int)]
def wsX7_reading : List Cond := .code yX7_reading cX7_reading 7 (some .int) :: ((wsX7_reading_r1 ++ (wsX7_reading_r2 ++ (wsX7_reading_r3 ++ wsX7_reading_r4))) ++ wsX70 ++ wsX40 ++ wsX60 ++ wsX30 ++ wsX00)
def wsX7_words_r1 : List Cond := [Cond.fieldLink RX7 60 "LetteredRock" "sheetRow" "[LLetteredRock$Sheet;", Cond.methodLink RX7 132 yX7_troubleOfSheet, Cond.instanceMethod yX7_troubleOfSheet, Cond.selects RX7 yX7_troubleOfSheet yX7_troubleOfSheet, Cond.initialized RX7, Cond.code yX7_troubleOfSheet cX7_troubleOfSheet 2 (some .int), Cond.fieldLink RX7 279 "LetteredRock$Sheet" "isLost" "Z", Cond.methodLink RX7 266 yX7_isSheet, Cond.static yX7_isSheet, Cond.code yX7_isSheet cX7_isSheet 1 (some .boolean), Cond.methodLink RX7 68 yX7_within, Cond.static yX7_within, Cond.code yX7_within cX7_within 3 (some .boolean), Cond.methodLink RX7 272 yX7_finding, Cond.instanceMethod yX7_finding, Cond.selects RX7 yX7_finding yX7_finding, Cond.code yX7_finding cX7_finding 2 (some .int), Cond.fieldLink RX7 65 "LetteredRock" "latestFinding" "I", Cond.methodLink RX7 136 yX7_readingsOfWord, Cond.instanceMethod yX7_readingsOfWord, Cond.selects RX7 yX7_readingsOfWord yX7_readingsOfWord, Cond.code yX7_readingsOfWord cX7_readingsOfWord 3 (some .int), Cond.fieldLink RX7 29 "LetteredRock" "ring" "LLetteredRock$Ring;", Cond.fieldLink RX7 21 "LetteredRock" "wordRow" "[LLetteredRock$Word;"]
def wsX7_words_r2 : List Cond := [Cond.methodLink RX7 116 yX3_fits, Cond.instanceMethod yX3_fits, Cond.selects RX3 yX3_fits yX3_fits, Cond.initialized RX3, Cond.code yX3_fits cX3_fits 2 (some .boolean), Cond.fieldLink RX3 22 "LetteredRock$Word" "size" "I", Cond.fieldLink RX3 15 "LetteredRock$Ring" "slotCount" "I", Cond.methodLink RX3 36 yX3_widthOf, Cond.instanceMethod yX3_widthOf, Cond.selects RX3 yX3_widthOf yX3_widthOf, Cond.code yX3_widthOf cX3_widthOf 4 (some .int), Cond.fieldLink RX3 27 "LetteredRock$Word" "letters" "[LLetteredRock$Letter;", Cond.fieldLink RX3 31 "LetteredRock$Letter" "width" "I", Cond.fieldLink RX3 19 "LetteredRock$Ring" "gapWidth" "I", Cond.methodLink RX7 124 yX3_lay, Cond.instanceMethod yX3_lay, Cond.selects RX3 yX3_lay yX3_lay, Cond.code yX3_lay cX3_lay 6 none, Cond.fieldLink RX3 9 "LetteredRock$Ring" "laid" "[I", Cond.fieldLink RX3 46 "LetteredRock$Letter" "strips" "[I", Cond.methodLink RX3 40 yJ7_fill_53178, Cond.static yJ7_fill_53178, Cond.initialized RJ7, Cond.code yJ7_fill_53178 cJ7_fill_53178 4 none]
def wsX7_words_r3 : List Cond := [Cond.methodLink RX7 144 yX3_countReadings, Cond.instanceMethod yX3_countReadings, Cond.selects RX3 yX3_countReadings yX3_countReadings, Cond.code yX3_countReadings cX3_countReadings 5 (some .int), Cond.methodLink RX3 76 yX3_agrees, Cond.instanceMethod yX3_agrees, Cond.selects RX3 yX3_agrees yX3_agrees, Cond.code yX3_agrees cX3_agrees 7 (some .boolean), Cond.fieldLink RX3 57 "LetteredRock$Sheet" "size" "I", Cond.methodLink RX3 60 Lib.Math.min.name, Cond.static Lib.Math.min.name, Cond.initialized "java/lang/Math", Cond.code Lib.Math.min.name Lib.Math.min.code 2 (some .int), Cond.fieldLink RX3 66 "LetteredRock$Sheet" "items" "[I", Cond.methodLink RX3 73 yX3_seen, Cond.instanceMethod yX3_seen, Cond.selects RX3 yX3_seen yX3_seen, Cond.code yX3_seen cX3_seen 5 (some .int), Cond.methodLink RX3 49 yX3_slotSeen, Cond.instanceMethod yX3_slotSeen, Cond.selects RX3 yX3_slotSeen yX3_slotSeen, Cond.code yX3_slotSeen cX3_slotSeen 5 (some .int), Cond.methodLink RX3 53 yX3_upsideDown, Cond.static yX3_upsideDown]
def wsX7_words_r4 : List Cond := [Cond.code yX3_upsideDown cX3_upsideDown 3 (some .int)]
def wsX7_words : List Cond := .code yX7_words cX7_words 5 (some .int) :: ((wsX7_words_r1 ++ (wsX7_words_r2 ++ (wsX7_words_r3 ++ wsX7_words_r4))) ++ wsX70 ++ wsX40 ++ wsX60 ++ wsX30 ++ wsX00)
def wsX7_order_r1 : List Cond := [Cond.fieldLink RX7 103 "LetteredRock$Word" "size" "I", Cond.methodLink RX7 95 yX7_wordAt, Cond.instanceMethod yX7_wordAt, Cond.selects RX7 yX7_wordAt yX7_wordAt, Cond.initialized RX7, Cond.code yX7_wordAt cX7_wordAt 2 (some (.object "LetteredRock$Word")), Cond.fieldLink RX7 21 "LetteredRock" "wordRow" "[LLetteredRock$Word;", Cond.methodLink RX7 68 yX7_within, Cond.static yX7_within, Cond.code yX7_within cX7_within 3 (some .boolean), Cond.methodLink RX7 148 yX6_placeInOrder, Cond.instanceMethod yX6_placeInOrder, Cond.selects RX6 yX6_placeInOrder yX6_placeInOrder, Cond.initialized RX6, Cond.code yX6_placeInOrder cX6_placeInOrder 3 (some .int), Cond.fieldLink RX6 17 "LetteredRock$Word" "size" "I", Cond.methodLink RX6 24 yX6_rankOf, Cond.instanceMethod yX6_rankOf, Cond.selects RX6 yX6_rankOf yX6_rankOf, Cond.code yX6_rankOf cX6_rankOf 4 (some .int), Cond.methodLink RX6 28 yX6_isLaidBefore, Cond.instanceMethod yX6_isLaidBefore, Cond.selects RX6 yX6_isLaidBefore yX6_isLaidBefore, Cond.code yX6_isLaidBefore cX6_isLaidBefore 5 (some .boolean)]
def wsX7_order_r2 : List Cond := [Cond.fieldLink RX6 11 "LetteredRock$Word" "letters" "[LLetteredRock$Letter;", Cond.fieldLink RX6 21 "LetteredRock$Letter" "soft" "I"]
def wsX7_order : List Cond := .code yX7_order cX7_order 4 (some .int) :: ((wsX7_order_r1 ++ wsX7_order_r2) ++ wsX60 ++ wsX70 ++ wsX00)
def wsX7_late_r1 : List Cond := [Cond.methodLink RX7 95 yX7_wordAt, Cond.instanceMethod yX7_wordAt, Cond.selects RX7 yX7_wordAt yX7_wordAt, Cond.initialized RX7, Cond.code yX7_wordAt cX7_wordAt 2 (some (.object "LetteredRock$Word")), Cond.fieldLink RX7 21 "LetteredRock" "wordRow" "[LLetteredRock$Word;", Cond.methodLink RX7 68 yX7_within, Cond.static yX7_within, Cond.code yX7_within cX7_within 3 (some .boolean), Cond.methodLink RX7 151 yX6_greatestLate, Cond.instanceMethod yX6_greatestLate, Cond.selects RX6 yX6_greatestLate yX6_greatestLate, Cond.initialized RX6, Cond.code yX6_greatestLate cX6_greatestLate 3 (some .int), Cond.fieldLink RX6 17 "LetteredRock$Word" "size" "I", Cond.methodLink RX6 38 Lib.Math.max.name, Cond.static Lib.Math.max.name, Cond.initialized "java/lang/Math", Cond.code Lib.Math.max.name Lib.Math.max.code 2 (some .int), Cond.methodLink RX6 35 yX6_lateAt, Cond.instanceMethod yX6_lateAt, Cond.selects RX6 yX6_lateAt yX6_lateAt, Cond.code yX6_lateAt cX6_lateAt 4 (some .int), Cond.fieldLink RX6 11 "LetteredRock$Word" "letters" "[LLetteredRock$Letter;"]
def wsX7_late_r2 : List Cond := [Cond.fieldLink RX6 32 "LetteredRock$Letter" "minutes" "I", Cond.fieldLink RX6 21 "LetteredRock$Letter" "soft" "I", Cond.methodLink RX6 28 yX6_isLaidBefore, Cond.instanceMethod yX6_isLaidBefore, Cond.selects RX6 yX6_isLaidBefore yX6_isLaidBefore, Cond.code yX6_isLaidBefore cX6_isLaidBefore 5 (some .boolean)]
def wsX7_late : List Cond := .code yX7_late cX7_late 3 (some .int) :: ((wsX7_late_r1 ++ wsX7_late_r2) ++ wsX70 ++ wsX60 ++ wsX00)
def wsX7_spoiled_r1 : List Cond := [Cond.methodLink RX7 95 yX7_wordAt, Cond.instanceMethod yX7_wordAt, Cond.selects RX7 yX7_wordAt yX7_wordAt, Cond.initialized RX7, Cond.code yX7_wordAt cX7_wordAt 2 (some (.object "LetteredRock$Word")), Cond.fieldLink RX7 21 "LetteredRock" "wordRow" "[LLetteredRock$Word;", Cond.methodLink RX7 68 yX7_within, Cond.static yX7_within, Cond.code yX7_within cX7_within 3 (some .boolean), Cond.methodLink RX7 155 yX6_countLate, Cond.instanceMethod yX6_countLate, Cond.selects RX6 yX6_countLate yX6_countLate, Cond.initialized RX6, Cond.code yX6_countLate cX6_countLate 3 (some .int), Cond.fieldLink RX6 17 "LetteredRock$Word" "size" "I", Cond.methodLink RX6 35 yX6_lateAt, Cond.instanceMethod yX6_lateAt, Cond.selects RX6 yX6_lateAt yX6_lateAt, Cond.code yX6_lateAt cX6_lateAt 4 (some .int), Cond.fieldLink RX6 11 "LetteredRock$Word" "letters" "[LLetteredRock$Letter;", Cond.fieldLink RX6 32 "LetteredRock$Letter" "minutes" "I", Cond.fieldLink RX6 21 "LetteredRock$Letter" "soft" "I", Cond.methodLink RX6 28 yX6_isLaidBefore, Cond.instanceMethod yX6_isLaidBefore]
def wsX7_spoiled_r2 : List Cond := [Cond.selects RX6 yX6_isLaidBefore yX6_isLaidBefore, Cond.code yX6_isLaidBefore cX6_isLaidBefore 5 (some .boolean)]
def wsX7_spoiled : List Cond := .code yX7_spoiled cX7_spoiled 3 (some .int) :: ((wsX7_spoiled_r1 ++ wsX7_spoiled_r2) ++ wsX70 ++ wsX60 ++ wsX00)
def wsX7_set : List Cond := .code yX7_set cX7_set 4 (some .int) :: ([.fieldLink RX7 158 "LetteredRock" "LEAST_SETTING" "[I", .fieldLink RX7 161 "LetteredRock" "MOST_SETTING" "[I", .fieldLink RX7 33 "LetteredRock" "settings" "[I", .methodLink RX7 68 yX7_within, .static yX7_within, .initialized RX7, .code yX7_within cX7_within 3 (some .boolean)] ++ wsX70)
def wsX7_sticksOf : List Cond := .code yX7_sticksOf cX7_sticksOf 4 (some .int) :: ([.fieldLink RX7 33 "LetteredRock" "settings" "[I"] ++ wsX70)
def wsX7_lump_r1 : List Cond := [Cond.fieldLink RX7 40 "LetteredRock" "lumpBook" "LLetteredRock$LumpBook;", Cond.fieldLink RX7 29 "LetteredRock" "ring" "LLetteredRock$Ring;", Cond.fieldLink RX7 33 "LetteredRock" "settings" "[I", Cond.classLink RX7 174 RX1, Cond.instantiable RX1 6, Cond.initialized RX1, Cond.fieldLink RX7 176 "LetteredRock$LumpBook" "stickCount" "I", Cond.methodLink RX7 95 yX7_wordAt, Cond.instanceMethod yX7_wordAt, Cond.selects RX7 yX7_wordAt yX7_wordAt, Cond.initialized RX7, Cond.code yX7_wordAt cX7_wordAt 2 (some (.object "LetteredRock$Word")), Cond.fieldLink RX7 21 "LetteredRock" "wordRow" "[LLetteredRock$Word;", Cond.methodLink RX7 68 yX7_within, Cond.static yX7_within, Cond.code yX7_within cX7_within 3 (some .boolean), Cond.methodLink RX7 164 yX2_latestDay, Cond.instanceMethod yX2_latestDay, Cond.selects RX2 yX2_latestDay yX2_latestDay, Cond.initialized RX2, Cond.code yX2_latestDay cX2_latestDay 1 (some .int), Cond.fieldLink RX2 17 "LetteredRock$LumpBook" "size" "I", Cond.fieldLink RX2 11 "LetteredRock$LumpBook" "lumps" "[LLetteredRock$Lump;", Cond.fieldLink RX2 39 "LetteredRock$Lump" "day" "I"]
def wsX7_lump_r2 : List Cond := [Cond.methodLink RX7 116 yX3_fits, Cond.instanceMethod yX3_fits, Cond.selects RX3 yX3_fits yX3_fits, Cond.initialized RX3, Cond.code yX3_fits cX3_fits 2 (some .boolean), Cond.fieldLink RX3 22 "LetteredRock$Word" "size" "I", Cond.fieldLink RX3 15 "LetteredRock$Ring" "slotCount" "I", Cond.methodLink RX3 36 yX3_widthOf, Cond.instanceMethod yX3_widthOf, Cond.selects RX3 yX3_widthOf yX3_widthOf, Cond.code yX3_widthOf cX3_widthOf 4 (some .int), Cond.fieldLink RX3 27 "LetteredRock$Word" "letters" "[LLetteredRock$Letter;", Cond.fieldLink RX3 31 "LetteredRock$Letter" "width" "I", Cond.fieldLink RX3 19 "LetteredRock$Ring" "gapWidth" "I", Cond.methodLink RX7 167 yX2_isFull, Cond.instanceMethod yX2_isFull, Cond.selects RX2 yX2_isFull yX2_isFull, Cond.code yX2_isFull cX2_isFull 1 (some .boolean), Cond.methodLink RX7 171 yX7_sticksOf, Cond.instanceMethod yX7_sticksOf, Cond.selects RX7 yX7_sticksOf yX7_sticksOf, Cond.code yX7_sticksOf cX7_sticksOf 4 (some .int), Cond.methodLink RX7 179 yX1_init, Cond.instanceMethod yX1_init]
def wsX7_lump_r3 : List Cond := [Cond.code yX1_init cX1_init 7 none, Cond.methodLink RX1 3 objectInit, Cond.instanceMethod objectInit, Cond.code objectInit ⟨#[0xb1]⟩ 1 none, Cond.fieldLink RX1 9 "LetteredRock$Lump" "word" "I", Cond.fieldLink RX1 15 "LetteredRock$Lump" "hand" "I", Cond.fieldLink RX1 18 "LetteredRock$Lump" "day" "I", Cond.fieldLink RX1 21 "LetteredRock$Lump" "firstStick" "I", Cond.fieldLink RX1 24 "LetteredRock$Lump" "sticks" "I", Cond.fieldLink RX1 27 "LetteredRock$Lump" "scrap" "I", Cond.methodLink RX7 182 yX2_enter, Cond.instanceMethod yX2_enter, Cond.selects RX2 yX2_enter yX2_enter, Cond.code yX2_enter cX2_enter 2 none, Cond.fieldLink RX2 21 "LetteredRock$LumpBook" "stickCount" "I", Cond.fieldLink RX2 31 "LetteredRock$Lump" "sticks" "I", Cond.fieldLink RX2 24 "LetteredRock$LumpBook" "scrap" "I", Cond.fieldLink RX2 34 "LetteredRock$Lump" "scrap" "I", Cond.methodLink RX2 27 yX2_isFull]
def wsX7_lump : List Cond := .code yX7_lump cX7_lump 9 (some .int) :: ((wsX7_lump_r1 ++ (wsX7_lump_r2 ++ wsX7_lump_r3)) ++ wsX70 ++ wsX10 ++ wsX20 ++ wsX60 ++ wsX30 ++ wsX00)
def wsX7_made : List Cond := .code yX7_made cX7_made 4 (some .int) :: ([.fieldLink RX7 40 "LetteredRock" "lumpBook" "LLetteredRock$LumpBook;", .fieldLink RX7 190 "LetteredRock$Lump" "word" "I", .fieldLink RX7 193 "LetteredRock$Lump" "hand" "I", .fieldLink RX7 196 "LetteredRock$Lump" "day" "I", .fieldLink RX7 199 "LetteredRock$Lump" "firstStick" "I", .fieldLink RX7 202 "LetteredRock$Lump" "sticks" "I", .fieldLink RX7 205 "LetteredRock$Lump" "scrap" "I", .methodLink RX7 186 yX2_lumpAt, .instanceMethod yX2_lumpAt, .selects RX2 yX2_lumpAt yX2_lumpAt, .initialized RX2, .code yX2_lumpAt cX2_lumpAt 2 (some (.object "LetteredRock$Lump")), .fieldLink RX2 17 "LetteredRock$LumpBook" "size" "I", .fieldLink RX2 11 "LetteredRock$LumpBook" "lumps" "[LLetteredRock$Lump;", .static yX7_within, .initialized RX7, .code yX7_within cX7_within 3 (some .boolean)] ++ wsX70 ++ wsX10 ++ wsX20)
def wsX7_trace : List Cond := .code yX7_trace cX7_trace 3 (some .int) :: ([.fieldLink RX7 40 "LetteredRock" "lumpBook" "LLetteredRock$LumpBook;", .methodLink RX7 208 yX2_lumpOfStick, .instanceMethod yX2_lumpOfStick, .selects RX2 yX2_lumpOfStick yX2_lumpOfStick, .initialized RX2, .code yX2_lumpOfStick cX2_lumpOfStick 3 (some .int), .fieldLink RX2 17 "LetteredRock$LumpBook" "size" "I", .fieldLink RX2 11 "LetteredRock$LumpBook" "lumps" "[LLetteredRock$Lump;", .methodLink RX2 42 yX1_gave, .instanceMethod yX1_gave, .selects RX1 yX1_gave yX1_gave, .initialized RX1, .code yX1_gave cX1_gave 2 (some .boolean), .fieldLink RX1 21 "LetteredRock$Lump" "firstStick" "I", .fieldLink RX1 24 "LetteredRock$Lump" "sticks" "I"] ++ wsX70 ++ wsX20 ++ wsX10)
def wsX7_isSpan : List Cond := .code yX7_isSpan cX7_isSpan 3 (some .boolean) :: ([])
def wsX7_recall : List Cond := .code yX7_recall cX7_recall 4 (some .int) :: ([.fieldLink RX7 40 "LetteredRock" "lumpBook" "LLetteredRock$LumpBook;", .methodLink RX7 68 yX7_within, .static yX7_within, .initialized RX7, .code yX7_within cX7_within 3 (some .boolean), .methodLink RX7 211 yX7_isSpan, .static yX7_isSpan, .code yX7_isSpan cX7_isSpan 3 (some .boolean), .methodLink RX7 214 yX2_countSticks, .instanceMethod yX2_countSticks, .selects RX2 yX2_countSticks yX2_countSticks, .initialized RX2, .code yX2_countSticks cX2_countSticks 6 (some .int), .fieldLink RX2 17 "LetteredRock$LumpBook" "size" "I", .fieldLink RX2 11 "LetteredRock$LumpBook" "lumps" "[LLetteredRock$Lump;", .fieldLink RX2 31 "LetteredRock$Lump" "sticks" "I", .methodLink RX2 46 yX1_isRecalled, .instanceMethod yX1_isRecalled, .selects RX1 yX1_isRecalled yX1_isRecalled, .initialized RX1, .code yX1_isRecalled cX1_isRecalled 4 (some .boolean), .fieldLink RX1 15 "LetteredRock$Lump" "hand" "I", .fieldLink RX1 18 "LetteredRock$Lump" "day" "I"] ++ wsX70 ++ wsX20 ++ wsX10)
def wsX7_isWeek : List Cond := .code yX7_isWeek cX7_isWeek 1 (some .boolean) :: ([.methodLink RX7 68 yX7_within, .static yX7_within, .initialized RX7, .code yX7_within cX7_within 3 (some .boolean)])
def wsX7_foretold_r1 : List Cond := [Cond.fieldLink RX7 60 "LetteredRock" "sheetRow" "[LLetteredRock$Sheet;", Cond.methodLink RX7 223 Lib.Math.min.name, Cond.static Lib.Math.min.name, Cond.initialized "java/lang/Math", Cond.code Lib.Math.min.name Lib.Math.min.code 2 (some .int), Cond.methodLink RX7 229 Lib.Math.max.name, Cond.static Lib.Math.max.name, Cond.code Lib.Math.max.name Lib.Math.max.code 2 (some .int), Cond.methodLink RX7 217 yX7_isWeek, Cond.static yX7_isWeek, Cond.initialized RX7, Cond.code yX7_isWeek cX7_isWeek 1 (some .boolean), Cond.methodLink RX7 68 yX7_within, Cond.static yX7_within, Cond.code yX7_within cX7_within 3 (some .boolean), Cond.methodLink RX7 220 yX4_wantAt, Cond.instanceMethod yX4_wantAt, Cond.selects RX4 yX4_wantAt yX4_wantAt, Cond.initialized RX4, Cond.code yX4_wantAt cX4_wantAt 2 (some .int), Cond.fieldLink RX4 15 "LetteredRock$Sheet" "isLost" "Z", Cond.fieldLink RX4 9 "LetteredRock$Sheet" "items" "[I", Cond.methodLink RX4 36 yX4_hasItem, Cond.instanceMethod yX4_hasItem]
def wsX7_foretold_r2 : List Cond := [Cond.selects RX4 yX4_hasItem yX4_hasItem, Cond.code yX4_hasItem cX4_hasItem 2 (some .boolean), Cond.fieldLink RX4 23 "LetteredRock$Sheet" "size" "I"]
def wsX7_foretold : List Cond := .code yX7_foretold cX7_foretold 6 (some .int) :: ((wsX7_foretold_r1 ++ wsX7_foretold_r2) ++ wsX70 ++ wsX40)
def wsX7_damp : List Cond := .code yX7_damp cX7_damp 3 (some .int) :: ([.fieldLink RX7 44 "LetteredRock" "dampWeeks" "[Z", .methodLink RX7 217 yX7_isWeek, .static yX7_isWeek, .initialized RX7, .code yX7_isWeek cX7_isWeek 1 (some .boolean), .methodLink RX7 68 yX7_within, .static yX7_within, .code yX7_within cX7_within 3 (some .boolean)] ++ wsX70)
def wsX7_make : List Cond := .code yX7_make cX7_make 4 (some .int) :: ([.fieldLink RX7 48 "LetteredRock" "madeIn" "[I", .methodLink RX7 217 yX7_isWeek, .static yX7_isWeek, .initialized RX7, .code yX7_isWeek cX7_isWeek 1 (some .boolean), .methodLink RX7 68 yX7_within, .static yX7_within, .code yX7_within cX7_within 3 (some .boolean)] ++ wsX70)
def wsX7_atMostInt : List Cond := .code yX7_atMostInt cX7_atMostInt 2 (some .int) :: ([.constantLong RX7 333 (2147483647), .methodLink RX7 335 Lib.MathLoose.min_long.x, .static Lib.MathLoose.min_long.x, .initialized "java/lang/Math", .code Lib.MathLoose.min_long.x Lib.MathLoose.min_long.code 4 (some .long)])
def wsX7_stock_r1 : List Cond := [Cond.constant RX7 232 (100000), Cond.fieldLink RX7 54 "LetteredRock" "stockRun" "LLetteredRock$StockRun;", Cond.fieldLink RX7 48 "LetteredRock" "madeIn" "[I", Cond.fieldLink RX7 44 "LetteredRock" "dampWeeks" "[Z", Cond.fieldLink RX7 33 "LetteredRock" "settings" "[I", Cond.fieldLink RX7 246 "LetteredRock$StockRun" "left" "J", Cond.fieldLink RX7 254 "LetteredRock$StockRun" "lacking" "J", Cond.fieldLink RX7 257 "LetteredRock$StockRun" "lost" "J", Cond.fieldLink RX7 260 "LetteredRock$StockRun" "firstShort" "I", Cond.methodLink RX7 211 yX7_isSpan, Cond.static yX7_isSpan, Cond.initialized RX7, Cond.code yX7_isSpan cX7_isSpan 3 (some .boolean), Cond.methodLink RX7 68 yX7_within, Cond.static yX7_within, Cond.code yX7_within cX7_within 3 (some .boolean), Cond.methodLink RX7 233 yX5_beginWith, Cond.instanceMethod yX5_beginWith, Cond.selects RX5 yX5_beginWith yX5_beginWith, Cond.initialized RX5, Cond.code yX5_beginWith cX5_beginWith 2 none, Cond.fieldLink RX5 9 "LetteredRock$StockRun" "left" "J", Cond.fieldLink RX5 15 "LetteredRock$StockRun" "lacking" "J", Cond.fieldLink RX5 18 "LetteredRock$StockRun" "lost" "J"]
def wsX7_stock_r2 : List Cond := [Cond.fieldLink RX5 21 "LetteredRock$StockRun" "firstShort" "I", Cond.methodLink RX7 237 yX7_foretold, Cond.instanceMethod yX7_foretold, Cond.selects RX7 yX7_foretold yX7_foretold, Cond.code yX7_foretold cX7_foretold 6 (some .int), Cond.fieldLink RX7 60 "LetteredRock" "sheetRow" "[LLetteredRock$Sheet;", Cond.methodLink RX7 223 Lib.Math.min.name, Cond.static Lib.Math.min.name, Cond.initialized "java/lang/Math", Cond.code Lib.Math.min.name Lib.Math.min.code 2 (some .int), Cond.methodLink RX7 229 Lib.Math.max.name, Cond.static Lib.Math.max.name, Cond.code Lib.Math.max.name Lib.Math.max.code 2 (some .int), Cond.methodLink RX7 217 yX7_isWeek, Cond.static yX7_isWeek, Cond.code yX7_isWeek cX7_isWeek 1 (some .boolean), Cond.methodLink RX7 220 yX4_wantAt, Cond.instanceMethod yX4_wantAt, Cond.selects RX4 yX4_wantAt yX4_wantAt, Cond.initialized RX4, Cond.code yX4_wantAt cX4_wantAt 2 (some .int), Cond.fieldLink RX4 15 "LetteredRock$Sheet" "isLost" "Z", Cond.fieldLink RX4 9 "LetteredRock$Sheet" "items" "[I", Cond.methodLink RX4 36 yX4_hasItem]
def wsX7_stock_r3 : List Cond := [Cond.instanceMethod yX4_hasItem, Cond.selects RX4 yX4_hasItem yX4_hasItem, Cond.code yX4_hasItem cX4_hasItem 2 (some .boolean), Cond.fieldLink RX4 23 "LetteredRock$Sheet" "size" "I", Cond.methodLink RX7 240 yX5_supply, Cond.instanceMethod yX5_supply, Cond.selects RX5 yX5_supply yX5_supply, Cond.code yX5_supply cX5_supply 4 none, Cond.methodLink RX7 243 yX5_soften, Cond.instanceMethod yX5_soften, Cond.selects RX5 yX5_soften yX5_soften, Cond.code yX5_soften cX5_soften 4 none, Cond.constantLong RX5 25 (100), Cond.methodLink RX7 250 yX7_atMostInt, Cond.static yX7_atMostInt, Cond.code yX7_atMostInt cX7_atMostInt 2 (some .int), Cond.constantLong RX7 333 (2147483647), Cond.methodLink RX7 335 Lib.MathLoose.min_long.x, Cond.static Lib.MathLoose.min_long.x, Cond.code Lib.MathLoose.min_long.x Lib.MathLoose.min_long.code 4 (some .long)]
def wsX7_stock : List Cond := .code yX7_stock cX7_stock 6 (some .int) :: ((wsX7_stock_r1 ++ (wsX7_stock_r2 ++ wsX7_stock_r3)) ++ wsX70 ++ wsX50 ++ wsX40)
def wsX7_ahead_r1 : List Cond := [Cond.methodLink RX7 263 Lib.MathLoose.max_long.x, Cond.static Lib.MathLoose.max_long.x, Cond.initialized "java/lang/Math", Cond.code Lib.MathLoose.max_long.x Lib.MathLoose.max_long.code 4 (some .long), Cond.methodLink RX7 211 yX7_isSpan, Cond.static yX7_isSpan, Cond.initialized RX7, Cond.code yX7_isSpan cX7_isSpan 3 (some .boolean), Cond.methodLink RX7 68 yX7_within, Cond.static yX7_within, Cond.code yX7_within cX7_within 3 (some .boolean), Cond.methodLink RX7 237 yX7_foretold, Cond.instanceMethod yX7_foretold, Cond.selects RX7 yX7_foretold yX7_foretold, Cond.code yX7_foretold cX7_foretold 6 (some .int), Cond.fieldLink RX7 60 "LetteredRock" "sheetRow" "[LLetteredRock$Sheet;", Cond.methodLink RX7 223 Lib.Math.min.name, Cond.static Lib.Math.min.name, Cond.code Lib.Math.min.name Lib.Math.min.code 2 (some .int), Cond.methodLink RX7 229 Lib.Math.max.name, Cond.static Lib.Math.max.name, Cond.code Lib.Math.max.name Lib.Math.max.code 2 (some .int), Cond.methodLink RX7 217 yX7_isWeek, Cond.static yX7_isWeek]
def wsX7_ahead_r2 : List Cond := [Cond.code yX7_isWeek cX7_isWeek 1 (some .boolean), Cond.methodLink RX7 220 yX4_wantAt, Cond.instanceMethod yX4_wantAt, Cond.selects RX4 yX4_wantAt yX4_wantAt, Cond.initialized RX4, Cond.code yX4_wantAt cX4_wantAt 2 (some .int), Cond.fieldLink RX4 15 "LetteredRock$Sheet" "isLost" "Z", Cond.fieldLink RX4 9 "LetteredRock$Sheet" "items" "[I", Cond.methodLink RX4 36 yX4_hasItem, Cond.instanceMethod yX4_hasItem, Cond.selects RX4 yX4_hasItem yX4_hasItem, Cond.code yX4_hasItem cX4_hasItem 2 (some .boolean), Cond.fieldLink RX4 23 "LetteredRock$Sheet" "size" "I", Cond.methodLink RX7 250 yX7_atMostInt, Cond.static yX7_atMostInt, Cond.code yX7_atMostInt cX7_atMostInt 2 (some .int), Cond.constantLong RX7 333 (2147483647), Cond.methodLink RX7 335 Lib.MathLoose.min_long.x, Cond.static Lib.MathLoose.min_long.x, Cond.code Lib.MathLoose.min_long.x Lib.MathLoose.min_long.code 4 (some .long)]
def wsX7_ahead : List Cond := .code yX7_ahead cX7_ahead 9 (some .int) :: ((wsX7_ahead_r1 ++ wsX7_ahead_r2) ++ wsX70 ++ wsX40)
def wsX7_isForm : List Cond := .code yX7_isForm cX7_isForm 1 (some .boolean) :: ([.methodLink RX7 68 yX7_within, .static yX7_within, .initialized RX7, .code yX7_within cX7_within 3 (some .boolean)])
def wsX7_sheet_r1 : List Cond := [Cond.fieldLink RX7 60 "LetteredRock" "sheetRow" "[LLetteredRock$Sheet;", Cond.methodLink RX7 266 yX7_isSheet, Cond.static yX7_isSheet, Cond.initialized RX7, Cond.code yX7_isSheet cX7_isSheet 1 (some .boolean), Cond.methodLink RX7 68 yX7_within, Cond.static yX7_within, Cond.code yX7_within cX7_within 3 (some .boolean), Cond.methodLink RX7 269 yX7_isForm, Cond.static yX7_isForm, Cond.code yX7_isForm cX7_isForm 1 (some .boolean), Cond.methodLink RX7 272 yX7_finding, Cond.instanceMethod yX7_finding, Cond.selects RX7 yX7_finding yX7_finding, Cond.code yX7_finding cX7_finding 2 (some .int), Cond.fieldLink RX7 65 "LetteredRock" "latestFinding" "I", Cond.methodLink RX7 275 yX4_renew, Cond.instanceMethod yX4_renew, Cond.selects RX4 yX4_renew yX4_renew, Cond.initialized RX4, Cond.code yX4_renew cX4_renew 3 none, Cond.fieldLink RX4 15 "LetteredRock$Sheet" "isLost" "Z", Cond.fieldLink RX4 19 "LetteredRock$Sheet" "form" "I", Cond.fieldLink RX4 23 "LetteredRock$Sheet" "size" "I"]
def wsX7_sheet_r2 : List Cond := [Cond.fieldLink RX4 9 "LetteredRock$Sheet" "items" "[I", Cond.methodLink RX4 26 yJ7_fill_53178, Cond.static yJ7_fill_53178, Cond.initialized RJ7, Cond.code yJ7_fill_53178 cJ7_fill_53178 4 none]
def wsX7_sheet : List Cond := .code yX7_sheet cX7_sheet 4 (some .int) :: ((wsX7_sheet_r1 ++ wsX7_sheet_r2) ++ wsX70 ++ wsX40)
def wsX7_lose : List Cond := .code yX7_lose cX7_lose 3 (some .int) :: ([.fieldLink RX7 60 "LetteredRock" "sheetRow" "[LLetteredRock$Sheet;", .fieldLink RX7 279 "LetteredRock$Sheet" "isLost" "Z", .fieldLink RX7 283 "LetteredRock$Sheet" "size" "I", .methodLink RX7 132 yX7_troubleOfSheet, .instanceMethod yX7_troubleOfSheet, .selects RX7 yX7_troubleOfSheet yX7_troubleOfSheet, .initialized RX7, .code yX7_troubleOfSheet cX7_troubleOfSheet 2 (some .int), .methodLink RX7 266 yX7_isSheet, .static yX7_isSheet, .code yX7_isSheet cX7_isSheet 1 (some .boolean), .methodLink RX7 68 yX7_within, .static yX7_within, .code yX7_within cX7_within 3 (some .boolean), .methodLink RX7 272 yX7_finding, .instanceMethod yX7_finding, .selects RX7 yX7_finding yX7_finding, .code yX7_finding cX7_finding 2 (some .int), .fieldLink RX7 65 "LetteredRock" "latestFinding" "I"] ++ wsX70 ++ wsX40)
def wsX7_troubleOfItem_r1 : List Cond := [Cond.fieldLink RX7 60 "LetteredRock" "sheetRow" "[LLetteredRock$Sheet;", Cond.fieldLink RX7 296 "LetteredRock$Sheet" "form" "I", Cond.methodLink RX7 269 yX7_isForm, Cond.static yX7_isForm, Cond.initialized RX7, Cond.code yX7_isForm cX7_isForm 1 (some .boolean), Cond.methodLink RX7 68 yX7_within, Cond.static yX7_within, Cond.code yX7_within cX7_within 3 (some .boolean), Cond.methodLink RX7 132 yX7_troubleOfSheet, Cond.instanceMethod yX7_troubleOfSheet, Cond.selects RX7 yX7_troubleOfSheet yX7_troubleOfSheet, Cond.code yX7_troubleOfSheet cX7_troubleOfSheet 2 (some .int), Cond.fieldLink RX7 279 "LetteredRock$Sheet" "isLost" "Z", Cond.methodLink RX7 266 yX7_isSheet, Cond.static yX7_isSheet, Cond.code yX7_isSheet cX7_isSheet 1 (some .boolean), Cond.methodLink RX7 272 yX7_finding, Cond.instanceMethod yX7_finding, Cond.selects RX7 yX7_finding yX7_finding, Cond.code yX7_finding cX7_finding 2 (some .int), Cond.fieldLink RX7 65 "LetteredRock" "latestFinding" "I", Cond.methodLink RX7 337 yX4_hasItem, Cond.instanceMethod yX4_hasItem]
def wsX7_troubleOfItem_r2 : List Cond := [Cond.selects RX4 yX4_hasItem yX4_hasItem, Cond.initialized RX4, Cond.code yX4_hasItem cX4_hasItem 2 (some .boolean), Cond.fieldLink RX4 23 "LetteredRock$Sheet" "size" "I"]
def wsX7_troubleOfItem : List Cond := .code yX7_troubleOfItem cX7_troubleOfItem 5 (some .int) :: ((wsX7_troubleOfItem_r1 ++ wsX7_troubleOfItem_r2) ++ wsX70 ++ wsX40)
def wsX7_put_r1 : List Cond := [Cond.fieldLink RX7 60 "LetteredRock" "sheetRow" "[LLetteredRock$Sheet;", Cond.methodLink RX7 284 yX7_troubleOfItem, Cond.instanceMethod yX7_troubleOfItem, Cond.selects RX7 yX7_troubleOfItem yX7_troubleOfItem, Cond.initialized RX7, Cond.code yX7_troubleOfItem cX7_troubleOfItem 5 (some .int), Cond.fieldLink RX7 296 "LetteredRock$Sheet" "form" "I", Cond.methodLink RX7 269 yX7_isForm, Cond.static yX7_isForm, Cond.code yX7_isForm cX7_isForm 1 (some .boolean), Cond.methodLink RX7 68 yX7_within, Cond.static yX7_within, Cond.code yX7_within cX7_within 3 (some .boolean), Cond.methodLink RX7 132 yX7_troubleOfSheet, Cond.instanceMethod yX7_troubleOfSheet, Cond.selects RX7 yX7_troubleOfSheet yX7_troubleOfSheet, Cond.code yX7_troubleOfSheet cX7_troubleOfSheet 2 (some .int), Cond.fieldLink RX7 279 "LetteredRock$Sheet" "isLost" "Z", Cond.methodLink RX7 266 yX7_isSheet, Cond.static yX7_isSheet, Cond.code yX7_isSheet cX7_isSheet 1 (some .boolean), Cond.methodLink RX7 272 yX7_finding, Cond.instanceMethod yX7_finding, Cond.selects RX7 yX7_finding yX7_finding]
def wsX7_put_r2 : List Cond := [Cond.code yX7_finding cX7_finding 2 (some .int), Cond.fieldLink RX7 65 "LetteredRock" "latestFinding" "I", Cond.methodLink RX7 337 yX4_hasItem, Cond.instanceMethod yX4_hasItem, Cond.selects RX4 yX4_hasItem yX4_hasItem, Cond.initialized RX4, Cond.code yX4_hasItem cX4_hasItem 2 (some .boolean), Cond.fieldLink RX4 23 "LetteredRock$Sheet" "size" "I", Cond.methodLink RX7 287 yX4_write, Cond.instanceMethod yX4_write, Cond.selects RX4 yX4_write yX4_write, Cond.code yX4_write cX4_write 3 none, Cond.fieldLink RX4 19 "LetteredRock$Sheet" "form" "I", Cond.fieldLink RX4 9 "LetteredRock$Sheet" "items" "[I"]
def wsX7_put : List Cond := .code yX7_put cX7_put 6 (some .int) :: ((wsX7_put_r1 ++ wsX7_put_r2) ++ wsX70 ++ wsX40)
def wsX7_get_r1 : List Cond := [Cond.constant RX7 292 (-2147483648), Cond.fieldLink RX7 60 "LetteredRock" "sheetRow" "[LLetteredRock$Sheet;", Cond.fieldLink RX7 293 "LetteredRock$Sheet" "items" "[I", Cond.methodLink RX7 284 yX7_troubleOfItem, Cond.instanceMethod yX7_troubleOfItem, Cond.selects RX7 yX7_troubleOfItem yX7_troubleOfItem, Cond.initialized RX7, Cond.code yX7_troubleOfItem cX7_troubleOfItem 5 (some .int), Cond.fieldLink RX7 296 "LetteredRock$Sheet" "form" "I", Cond.methodLink RX7 269 yX7_isForm, Cond.static yX7_isForm, Cond.code yX7_isForm cX7_isForm 1 (some .boolean), Cond.methodLink RX7 68 yX7_within, Cond.static yX7_within, Cond.code yX7_within cX7_within 3 (some .boolean), Cond.methodLink RX7 132 yX7_troubleOfSheet, Cond.instanceMethod yX7_troubleOfSheet, Cond.selects RX7 yX7_troubleOfSheet yX7_troubleOfSheet, Cond.code yX7_troubleOfSheet cX7_troubleOfSheet 2 (some .int), Cond.fieldLink RX7 279 "LetteredRock$Sheet" "isLost" "Z", Cond.methodLink RX7 266 yX7_isSheet, Cond.static yX7_isSheet, Cond.code yX7_isSheet cX7_isSheet 1 (some .boolean), Cond.methodLink RX7 272 yX7_finding]
def wsX7_get_r2 : List Cond := [Cond.instanceMethod yX7_finding, Cond.selects RX7 yX7_finding yX7_finding, Cond.code yX7_finding cX7_finding 2 (some .int), Cond.fieldLink RX7 65 "LetteredRock" "latestFinding" "I", Cond.methodLink RX7 337 yX4_hasItem, Cond.instanceMethod yX4_hasItem, Cond.selects RX4 yX4_hasItem yX4_hasItem, Cond.initialized RX4, Cond.code yX4_hasItem cX4_hasItem 2 (some .boolean), Cond.fieldLink RX4 23 "LetteredRock$Sheet" "size" "I"]
def wsX7_get : List Cond := .code yX7_get cX7_get 4 (some .int) :: ((wsX7_get_r1 ++ wsX7_get_r2) ++ wsX70 ++ wsX40)
def wsX7_copy_r1 : List Cond := [Cond.fieldLink RX7 60 "LetteredRock" "sheetRow" "[LLetteredRock$Sheet;", Cond.fieldLink RX7 279 "LetteredRock$Sheet" "isLost" "Z", Cond.fieldLink RX7 296 "LetteredRock$Sheet" "form" "I", Cond.fieldLink RX7 293 "LetteredRock$Sheet" "items" "[I", Cond.methodLink RX7 303 arraycopyName, Cond.native arraycopyName, Cond.static arraycopyName, Cond.initialized "java/lang/System", Cond.methodLink RX7 266 yX7_isSheet, Cond.static yX7_isSheet, Cond.initialized RX7, Cond.code yX7_isSheet cX7_isSheet 1 (some .boolean), Cond.methodLink RX7 68 yX7_within, Cond.static yX7_within, Cond.code yX7_within cX7_within 3 (some .boolean), Cond.methodLink RX7 272 yX7_finding, Cond.instanceMethod yX7_finding, Cond.selects RX7 yX7_finding yX7_finding, Cond.code yX7_finding cX7_finding 2 (some .int), Cond.fieldLink RX7 65 "LetteredRock" "latestFinding" "I", Cond.methodLink RX7 299 yX4_hasRun, Cond.instanceMethod yX4_hasRun, Cond.selects RX4 yX4_hasRun yX4_hasRun, Cond.initialized RX4]
def wsX7_copy_r2 : List Cond := [Cond.code yX4_hasRun cX4_hasRun 3 (some .boolean), Cond.fieldLink RX4 23 "LetteredRock$Sheet" "size" "I"]
def wsX7_copy : List Cond := .code yX7_copy cX7_copy 8 (some .int) :: ((wsX7_copy_r1 ++ wsX7_copy_r2) ++ wsX70 ++ wsX40)
def wsX7_countFitting : List Cond := .code yX7_countFitting cX7_countFitting 3 (some .int) :: ([.fieldLink RX7 29 "LetteredRock" "ring" "LLetteredRock$Ring;", .fieldLink RX7 21 "LetteredRock" "wordRow" "[LLetteredRock$Word;", .methodLink RX7 116 yX3_fits, .instanceMethod yX3_fits, .selects RX3 yX3_fits yX3_fits, .initialized RX3, .code yX3_fits cX3_fits 2 (some .boolean), .fieldLink RX3 22 "LetteredRock$Word" "size" "I", .fieldLink RX3 15 "LetteredRock$Ring" "slotCount" "I", .methodLink RX3 36 yX3_widthOf, .instanceMethod yX3_widthOf, .selects RX3 yX3_widthOf yX3_widthOf, .code yX3_widthOf cX3_widthOf 4 (some .int), .fieldLink RX3 27 "LetteredRock$Word" "letters" "[LLetteredRock$Letter;", .fieldLink RX3 31 "LetteredRock$Letter" "width" "I", .fieldLink RX3 19 "LetteredRock$Ring" "gapWidth" "I"] ++ wsX70 ++ wsX60 ++ wsX30 ++ wsX00)
def wsX7_countDamp : List Cond := .code yX7_countDamp cX7_countDamp 3 (some .int) :: ([.fieldLink RX7 44 "LetteredRock" "dampWeeks" "[Z"] ++ wsX70)
def wsX7_count_r1 : List Cond := [Cond.fieldLink RX7 15 "LetteredRock" "letterCount" "I", Cond.fieldLink RX7 29 "LetteredRock" "ring" "LLetteredRock$Ring;", Cond.fieldLink RX7 106 "LetteredRock$Ring" "slotCount" "I", Cond.fieldLink RX7 109 "LetteredRock$Ring" "gapWidth" "I", Cond.fieldLink RX7 40 "LetteredRock" "lumpBook" "LLetteredRock$LumpBook;", Cond.fieldLink RX7 312 "LetteredRock$LumpBook" "size" "I", Cond.fieldLink RX7 176 "LetteredRock$LumpBook" "stickCount" "I", Cond.fieldLink RX7 65 "LetteredRock" "latestFinding" "I", Cond.fieldLink RX7 313 "LetteredRock$LumpBook" "scrap" "I", Cond.methodLink RX7 309 yX7_countFitting, Cond.instanceMethod yX7_countFitting, Cond.selects RX7 yX7_countFitting yX7_countFitting, Cond.initialized RX7, Cond.code yX7_countFitting cX7_countFitting 3 (some .int), Cond.fieldLink RX7 21 "LetteredRock" "wordRow" "[LLetteredRock$Word;", Cond.methodLink RX7 116 yX3_fits, Cond.instanceMethod yX3_fits, Cond.selects RX3 yX3_fits yX3_fits, Cond.initialized RX3, Cond.code yX3_fits cX3_fits 2 (some .boolean), Cond.fieldLink RX3 22 "LetteredRock$Word" "size" "I", Cond.fieldLink RX3 15 "LetteredRock$Ring" "slotCount" "I", Cond.methodLink RX3 36 yX3_widthOf, Cond.instanceMethod yX3_widthOf]
def wsX7_count_r2 : List Cond := [Cond.selects RX3 yX3_widthOf yX3_widthOf, Cond.code yX3_widthOf cX3_widthOf 4 (some .int), Cond.fieldLink RX3 27 "LetteredRock$Word" "letters" "[LLetteredRock$Letter;", Cond.fieldLink RX3 31 "LetteredRock$Letter" "width" "I", Cond.fieldLink RX3 19 "LetteredRock$Ring" "gapWidth" "I", Cond.methodLink RX7 314 yX7_countDamp, Cond.instanceMethod yX7_countDamp, Cond.selects RX7 yX7_countDamp yX7_countDamp, Cond.code yX7_countDamp cX7_countDamp 3 (some .int), Cond.fieldLink RX7 44 "LetteredRock" "dampWeeks" "[Z"]
def wsX7_count : List Cond := .code yX7_count cX7_count 2 (some .int) :: ((wsX7_count_r1 ++ wsX7_count_r2) ++ wsX70 ++ wsX30 ++ wsX20 ++ wsX60 ++ wsX00)
def wsX7_digest_r1 : List Cond := [Cond.constantLong RX7 317 (17), Cond.constantLong RX7 319 (31), Cond.fieldLink RX7 40 "LetteredRock" "lumpBook" "LLetteredRock$LumpBook;", Cond.fieldLink RX7 312 "LetteredRock$LumpBook" "size" "I", Cond.fieldLink RX7 33 "LetteredRock" "settings" "[I", Cond.methodLink RX7 321 yX7_count, Cond.instanceMethod yX7_count, Cond.selects RX7 yX7_count yX7_count, Cond.initialized RX7, Cond.code yX7_count cX7_count 2 (some .int), Cond.fieldLink RX7 15 "LetteredRock" "letterCount" "I", Cond.fieldLink RX7 29 "LetteredRock" "ring" "LLetteredRock$Ring;", Cond.fieldLink RX7 106 "LetteredRock$Ring" "slotCount" "I", Cond.fieldLink RX7 109 "LetteredRock$Ring" "gapWidth" "I", Cond.fieldLink RX7 176 "LetteredRock$LumpBook" "stickCount" "I", Cond.fieldLink RX7 65 "LetteredRock" "latestFinding" "I", Cond.fieldLink RX7 313 "LetteredRock$LumpBook" "scrap" "I", Cond.methodLink RX7 309 yX7_countFitting, Cond.instanceMethod yX7_countFitting, Cond.selects RX7 yX7_countFitting yX7_countFitting, Cond.code yX7_countFitting cX7_countFitting 3 (some .int), Cond.fieldLink RX7 21 "LetteredRock" "wordRow" "[LLetteredRock$Word;", Cond.methodLink RX7 116 yX3_fits, Cond.instanceMethod yX3_fits]
def wsX7_digest_r2 : List Cond := [Cond.selects RX3 yX3_fits yX3_fits, Cond.initialized RX3, Cond.code yX3_fits cX3_fits 2 (some .boolean), Cond.fieldLink RX3 22 "LetteredRock$Word" "size" "I", Cond.fieldLink RX3 15 "LetteredRock$Ring" "slotCount" "I", Cond.methodLink RX3 36 yX3_widthOf, Cond.instanceMethod yX3_widthOf, Cond.selects RX3 yX3_widthOf yX3_widthOf, Cond.code yX3_widthOf cX3_widthOf 4 (some .int), Cond.fieldLink RX3 27 "LetteredRock$Word" "letters" "[LLetteredRock$Letter;", Cond.fieldLink RX3 31 "LetteredRock$Letter" "width" "I", Cond.fieldLink RX3 19 "LetteredRock$Ring" "gapWidth" "I", Cond.methodLink RX7 314 yX7_countDamp, Cond.instanceMethod yX7_countDamp, Cond.selects RX7 yX7_countDamp yX7_countDamp, Cond.code yX7_countDamp cX7_countDamp 3 (some .int), Cond.fieldLink RX7 44 "LetteredRock" "dampWeeks" "[Z", Cond.methodLink RX7 324 yX7_wide, Cond.instanceMethod yX7_wide, Cond.selects RX7 yX7_wide yX7_wide, Cond.code yX7_wide cX7_wide 3 (some .int), Cond.methodLink RX7 95 yX7_wordAt, Cond.instanceMethod yX7_wordAt, Cond.selects RX7 yX7_wordAt yX7_wordAt]
def wsX7_digest_r3 : List Cond := [Cond.code yX7_wordAt cX7_wordAt 2 (some (.object "LetteredRock$Word")), Cond.methodLink RX7 68 yX7_within, Cond.static yX7_within, Cond.code yX7_within cX7_within 3 (some .boolean), Cond.methodLink RX7 112 yX3_widthOf, Cond.methodLink RX7 327 yX7_late, Cond.instanceMethod yX7_late, Cond.selects RX7 yX7_late yX7_late, Cond.code yX7_late cX7_late 3 (some .int), Cond.methodLink RX7 151 yX6_greatestLate, Cond.instanceMethod yX6_greatestLate, Cond.selects RX6 yX6_greatestLate yX6_greatestLate, Cond.initialized RX6, Cond.code yX6_greatestLate cX6_greatestLate 3 (some .int), Cond.fieldLink RX6 17 "LetteredRock$Word" "size" "I", Cond.methodLink RX6 38 Lib.Math.max.name, Cond.static Lib.Math.max.name, Cond.initialized "java/lang/Math", Cond.code Lib.Math.max.name Lib.Math.max.code 2 (some .int), Cond.methodLink RX6 35 yX6_lateAt, Cond.instanceMethod yX6_lateAt, Cond.selects RX6 yX6_lateAt yX6_lateAt, Cond.code yX6_lateAt cX6_lateAt 4 (some .int), Cond.fieldLink RX6 11 "LetteredRock$Word" "letters" "[LLetteredRock$Letter;"]
def wsX7_digest_r4 : List Cond := [Cond.fieldLink RX6 32 "LetteredRock$Letter" "minutes" "I", Cond.fieldLink RX6 21 "LetteredRock$Letter" "soft" "I", Cond.methodLink RX6 28 yX6_isLaidBefore, Cond.instanceMethod yX6_isLaidBefore, Cond.selects RX6 yX6_isLaidBefore yX6_isLaidBefore, Cond.code yX6_isLaidBefore cX6_isLaidBefore 5 (some .boolean), Cond.methodLink RX7 330 yX7_made, Cond.instanceMethod yX7_made, Cond.selects RX7 yX7_made yX7_made, Cond.code yX7_made cX7_made 4 (some .int), Cond.fieldLink RX7 190 "LetteredRock$Lump" "word" "I", Cond.fieldLink RX7 193 "LetteredRock$Lump" "hand" "I", Cond.fieldLink RX7 196 "LetteredRock$Lump" "day" "I", Cond.fieldLink RX7 199 "LetteredRock$Lump" "firstStick" "I", Cond.fieldLink RX7 202 "LetteredRock$Lump" "sticks" "I", Cond.fieldLink RX7 205 "LetteredRock$Lump" "scrap" "I", Cond.methodLink RX7 186 yX2_lumpAt, Cond.instanceMethod yX2_lumpAt, Cond.selects RX2 yX2_lumpAt yX2_lumpAt, Cond.initialized RX2, Cond.code yX2_lumpAt cX2_lumpAt 2 (some (.object "LetteredRock$Lump")), Cond.fieldLink RX2 17 "LetteredRock$LumpBook" "size" "I", Cond.fieldLink RX2 11 "LetteredRock$LumpBook" "lumps" "[LLetteredRock$Lump;", Cond.methodLink RX7 237 yX7_foretold]
def wsX7_digest_r5 : List Cond := [Cond.instanceMethod yX7_foretold, Cond.selects RX7 yX7_foretold yX7_foretold, Cond.code yX7_foretold cX7_foretold 6 (some .int), Cond.fieldLink RX7 60 "LetteredRock" "sheetRow" "[LLetteredRock$Sheet;", Cond.methodLink RX7 223 Lib.Math.min.name, Cond.static Lib.Math.min.name, Cond.code Lib.Math.min.name Lib.Math.min.code 2 (some .int), Cond.methodLink RX7 229 Lib.Math.max.name, Cond.methodLink RX7 217 yX7_isWeek, Cond.static yX7_isWeek, Cond.code yX7_isWeek cX7_isWeek 1 (some .boolean), Cond.methodLink RX7 220 yX4_wantAt, Cond.instanceMethod yX4_wantAt, Cond.selects RX4 yX4_wantAt yX4_wantAt, Cond.initialized RX4, Cond.code yX4_wantAt cX4_wantAt 2 (some .int), Cond.fieldLink RX4 15 "LetteredRock$Sheet" "isLost" "Z", Cond.fieldLink RX4 9 "LetteredRock$Sheet" "items" "[I", Cond.methodLink RX4 36 yX4_hasItem, Cond.instanceMethod yX4_hasItem, Cond.selects RX4 yX4_hasItem yX4_hasItem, Cond.code yX4_hasItem cX4_hasItem 2 (some .boolean), Cond.fieldLink RX4 23 "LetteredRock$Sheet" "size" "I"]
def wsX7_digest : List Cond := .code yX7_digest cX7_digest 5 (some .long) :: ((wsX7_digest_r1 ++ (wsX7_digest_r2 ++ (wsX7_digest_r3 ++ (wsX7_digest_r4 ++ wsX7_digest_r5)))) ++ wsX70 ++ wsX20 ++ wsX30 ++ wsX60 ++ wsX00 ++ wsX10 ++ wsX40)
def wsX8_init : List Cond := .code yX8_init cX8_init 2 none :: ([.methodLink RX8 1 objectInit, .instanceMethod objectInit, .code objectInit ⟨#[0xb1]⟩ 1 none, .arrayClass .int, .fieldLink RX8 7 "LetteredRockModel" "told" "[I", .fieldLink RX8 13 "LetteredRockModel" "width" "[I", .fieldLink RX8 16 "LetteredRockModel" "minutes" "[I", .fieldLink RX8 19 "LetteredRockModel" "soft" "[I", .fieldLink RX8 22 "LetteredRockModel" "strips" "[I", .fieldLink RX8 25 "LetteredRockModel" "spelled" "[I", .fieldLink RX8 28 "LetteredRockModel" "words" "[I", .fieldLink RX8 31 "LetteredRockModel" "slots" "I", .fieldLink RX8 35 "LetteredRockModel" "gap" "I", .fieldLink RX8 38 "LetteredRockModel" "laid" "[I", .fieldLink RX8 41 "LetteredRockModel" "order" "[I", .fieldLink RX8 44 "LetteredRockModel" "made" "[I", .arrayClass .boolean, .fieldLink RX8 47 "LetteredRockModel" "isDamp" "[Z", .fieldLink RX8 51 "LetteredRockModel" "makes" "[I", .fieldLink RX8 54 "LetteredRockModel" "forms" "[I", .fieldLink RX8 57 "LetteredRockModel" "sizes" "[I", .fieldLink RX8 60 "LetteredRockModel" "items" "[I", .fieldLink RX8 63 "LetteredRockModel" "moved" "[I"] ++ wsX80)
def wsX8_in : List Cond := .code yX8_in cX8_in 6 (some .boolean) :: ([])
def wsX8_isLetter : List Cond := .code yX8_isLetter cX8_isLetter 2 (some .boolean) :: ([.fieldLink RX8 66 "LetteredRockModel" "letters" "I", .methodLink RX8 69 yX8_in, .static yX8_in, .initialized RX8, .code yX8_in cX8_in 6 (some .boolean)] ++ wsX80)
def wsX8_isWord : List Cond := .code yX8_isWord cX8_isWord 1 (some .boolean) :: ([.constantLong RX8 73 (7), .methodLink RX8 69 yX8_in, .static yX8_in, .initialized RX8, .code yX8_in cX8_in 6 (some .boolean)])
def wsX8_letter : List Cond := .code yX8_letter cX8_letter 4 (some .int) :: ([.constantLong RX8 75 (5), .constantLong RX8 77 (9), .constantLong RX8 79 (99), .fieldLink RX8 66 "LetteredRockModel" "letters" "I", .fieldLink RX8 13 "LetteredRockModel" "width" "[I", .fieldLink RX8 16 "LetteredRockModel" "minutes" "[I", .fieldLink RX8 19 "LetteredRockModel" "soft" "[I", .methodLink RX8 69 yX8_in, .static yX8_in, .initialized RX8, .code yX8_in cX8_in 6 (some .boolean)] ++ wsX80)
def wsX8_strip : List Cond := .code yX8_strip cX8_strip 5 (some .int) :: ([.fieldLink RX8 13 "LetteredRockModel" "width" "[I", .constantLong RX8 85 (31), .fieldLink RX8 22 "LetteredRockModel" "strips" "[I", .methodLink RX8 81 yX8_isLetter, .instanceMethod yX8_isLetter, .selects RX8 yX8_isLetter yX8_isLetter, .initialized RX8, .code yX8_isLetter cX8_isLetter 2 (some .boolean), .fieldLink RX8 66 "LetteredRockModel" "letters" "I", .methodLink RX8 69 yX8_in, .static yX8_in, .code yX8_in cX8_in 6 (some .boolean)] ++ wsX80)
def wsX8_about : List Cond := .code yX8_about cX8_about 3 (some .int) :: ([.fieldLink RX8 13 "LetteredRockModel" "width" "[I", .fieldLink RX8 16 "LetteredRockModel" "minutes" "[I", .fieldLink RX8 19 "LetteredRockModel" "soft" "[I", .constantLong RX8 87 (10), .fieldLink RX8 22 "LetteredRockModel" "strips" "[I", .methodLink RX8 81 yX8_isLetter, .instanceMethod yX8_isLetter, .selects RX8 yX8_isLetter yX8_isLetter, .initialized RX8, .code yX8_isLetter cX8_isLetter 2 (some .boolean), .fieldLink RX8 66 "LetteredRockModel" "letters" "I", .methodLink RX8 69 yX8_in, .static yX8_in, .code yX8_in cX8_in 6 (some .boolean)] ++ wsX80)
def wsX8_spell : List Cond := .code yX8_spell cX8_spell 3 (some .int) :: ([.fieldLink RX8 25 "LetteredRockModel" "spelled" "[I", .fieldLink RX8 28 "LetteredRockModel" "words" "[I", .methodLink RX8 89 yX8_isWord, .static yX8_isWord, .initialized RX8, .code yX8_isWord cX8_isWord 1 (some .boolean), .constantLong RX8 73 (7), .methodLink RX8 69 yX8_in, .static yX8_in, .code yX8_in cX8_in 6 (some .boolean), .methodLink RX8 81 yX8_isLetter, .instanceMethod yX8_isLetter, .selects RX8 yX8_isLetter yX8_isLetter, .code yX8_isLetter cX8_isLetter 2 (some .boolean), .fieldLink RX8 66 "LetteredRockModel" "letters" "I"] ++ wsX80)
def wsX8_wipe : List Cond := .code yX8_wipe cX8_wipe 3 (some .int) :: ([.fieldLink RX8 25 "LetteredRockModel" "spelled" "[I", .methodLink RX8 89 yX8_isWord, .static yX8_isWord, .initialized RX8, .code yX8_isWord cX8_isWord 1 (some .boolean), .constantLong RX8 73 (7), .methodLink RX8 69 yX8_in, .static yX8_in, .code yX8_in cX8_in 6 (some .boolean)] ++ wsX80)
def wsX8_slots : List Cond := .code yX8_slots cX8_slots 3 (some .int) :: ([.constantLong RX8 75 (5), .constantLong RX8 92 (60), .fieldLink RX8 31 "LetteredRockModel" "slots" "I", .methodLink RX8 69 yX8_in, .static yX8_in, .initialized RX8, .code yX8_in cX8_in 6 (some .boolean)] ++ wsX80)
def wsX8_gap : List Cond := .code yX8_gap cX8_gap 3 (some .int) :: ([.constantLong RX8 94 (3), .fieldLink RX8 35 "LetteredRockModel" "gap" "I", .methodLink RX8 69 yX8_in, .static yX8_in, .initialized RX8, .code yX8_in cX8_in 6 (some .boolean)] ++ wsX80)
def wsX8_wideOf : List Cond := .code yX8_wideOf cX8_wideOf 4 (some .int) :: ([.fieldLink RX8 25 "LetteredRockModel" "spelled" "[I", .fieldLink RX8 13 "LetteredRockModel" "width" "[I", .fieldLink RX8 28 "LetteredRockModel" "words" "[I", .fieldLink RX8 35 "LetteredRockModel" "gap" "I"] ++ wsX80)
def wsX8_fits : List Cond := .code yX8_fits cX8_fits 2 (some .boolean) :: ([.fieldLink RX8 25 "LetteredRockModel" "spelled" "[I", .fieldLink RX8 31 "LetteredRockModel" "slots" "I", .methodLink RX8 96 yX8_wideOf, .instanceMethod yX8_wideOf, .selects RX8 yX8_wideOf yX8_wideOf, .initialized RX8, .code yX8_wideOf cX8_wideOf 4 (some .int), .fieldLink RX8 13 "LetteredRockModel" "width" "[I", .fieldLink RX8 28 "LetteredRockModel" "words" "[I", .fieldLink RX8 35 "LetteredRockModel" "gap" "I"] ++ wsX80)
def wsX8_wide : List Cond := .code yX8_wide cX8_wide 2 (some .int) :: ([.methodLink RX8 89 yX8_isWord, .static yX8_isWord, .initialized RX8, .code yX8_isWord cX8_isWord 1 (some .boolean), .constantLong RX8 73 (7), .methodLink RX8 69 yX8_in, .static yX8_in, .code yX8_in cX8_in 6 (some .boolean), .methodLink RX8 96 yX8_wideOf, .instanceMethod yX8_wideOf, .selects RX8 yX8_wideOf yX8_wideOf, .code yX8_wideOf cX8_wideOf 4 (some .int), .fieldLink RX8 25 "LetteredRockModel" "spelled" "[I", .fieldLink RX8 13 "LetteredRockModel" "width" "[I", .fieldLink RX8 28 "LetteredRockModel" "words" "[I", .fieldLink RX8 35 "LetteredRockModel" "gap" "I"] ++ wsX80)
def wsX8_longest : List Cond := .code yX8_longest cX8_longest 3 (some .int) :: ([.fieldLink RX8 25 "LetteredRockModel" "spelled" "[I", .methodLink RX8 100 yX8_fits, .instanceMethod yX8_fits, .selects RX8 yX8_fits yX8_fits, .initialized RX8, .code yX8_fits cX8_fits 2 (some .boolean), .fieldLink RX8 31 "LetteredRockModel" "slots" "I", .methodLink RX8 96 yX8_wideOf, .instanceMethod yX8_wideOf, .selects RX8 yX8_wideOf yX8_wideOf, .code yX8_wideOf cX8_wideOf 4 (some .int), .fieldLink RX8 13 "LetteredRockModel" "width" "[I", .fieldLink RX8 28 "LetteredRockModel" "words" "[I", .fieldLink RX8 35 "LetteredRockModel" "gap" "I"] ++ wsX80)
def wsX8_lay : List Cond := .code yX8_lay cX8_lay 6 none :: ([.fieldLink RX8 38 "LetteredRockModel" "laid" "[I", .fieldLink RX8 25 "LetteredRockModel" "spelled" "[I", .fieldLink RX8 28 "LetteredRockModel" "words" "[I", .fieldLink RX8 13 "LetteredRockModel" "width" "[I", .fieldLink RX8 22 "LetteredRockModel" "strips" "[I", .fieldLink RX8 35 "LetteredRockModel" "gap" "I"] ++ wsX80)
def wsX8_upsideDown : List Cond := .code yX8_upsideDown cX8_upsideDown 3 (some .int) :: ([])
def wsX8_cutAt : List Cond := .code yX8_cutAt cX8_cutAt 5 (some .int) :: ([.fieldLink RX8 31 "LetteredRockModel" "slots" "I", .fieldLink RX8 38 "LetteredRockModel" "laid" "[I", .methodLink RX8 103 yX8_upsideDown, .static yX8_upsideDown, .initialized RX8, .code yX8_upsideDown cX8_upsideDown 3 (some .int)] ++ wsX80)
def wsX8_cut_r1 : List Cond := [Cond.fieldLink RX8 31 "LetteredRockModel" "slots" "I", Cond.constantLong RX8 94 (3), Cond.methodLink RX8 89 yX8_isWord, Cond.static yX8_isWord, Cond.initialized RX8, Cond.code yX8_isWord cX8_isWord 1 (some .boolean), Cond.constantLong RX8 73 (7), Cond.methodLink RX8 69 yX8_in, Cond.static yX8_in, Cond.code yX8_in cX8_in 6 (some .boolean), Cond.methodLink RX8 100 yX8_fits, Cond.instanceMethod yX8_fits, Cond.selects RX8 yX8_fits yX8_fits, Cond.code yX8_fits cX8_fits 2 (some .boolean), Cond.fieldLink RX8 25 "LetteredRockModel" "spelled" "[I", Cond.methodLink RX8 96 yX8_wideOf, Cond.instanceMethod yX8_wideOf, Cond.selects RX8 yX8_wideOf yX8_wideOf, Cond.code yX8_wideOf cX8_wideOf 4 (some .int), Cond.fieldLink RX8 13 "LetteredRockModel" "width" "[I", Cond.fieldLink RX8 28 "LetteredRockModel" "words" "[I", Cond.fieldLink RX8 35 "LetteredRockModel" "gap" "I", Cond.methodLink RX8 106 yX8_lay, Cond.instanceMethod yX8_lay]
def wsX8_cut_r2 : List Cond := [Cond.selects RX8 yX8_lay yX8_lay, Cond.code yX8_lay cX8_lay 6 none, Cond.fieldLink RX8 38 "LetteredRockModel" "laid" "[I", Cond.fieldLink RX8 22 "LetteredRockModel" "strips" "[I", Cond.methodLink RX8 110 yX8_cutAt, Cond.instanceMethod yX8_cutAt, Cond.selects RX8 yX8_cutAt yX8_cutAt, Cond.code yX8_cutAt cX8_cutAt 5 (some .int), Cond.methodLink RX8 103 yX8_upsideDown, Cond.static yX8_upsideDown, Cond.code yX8_upsideDown cX8_upsideDown 3 (some .int)]
def wsX8_cut : List Cond := .code yX8_cut cX8_cut 5 (some .int) :: ((wsX8_cut_r1 ++ wsX8_cut_r2) ++ wsX80)
def wsX8_isReading : List Cond := .code yX8_isReading cX8_isReading 7 (some .boolean) :: ([.fieldLink RX8 31 "LetteredRockModel" "slots" "I", .fieldLink RX8 57 "LetteredRockModel" "sizes" "[I", .fieldLink RX8 60 "LetteredRockModel" "items" "[I", .constantLong RX8 85 (31), .methodLink RX8 69 yX8_in, .static yX8_in, .initialized RX8, .code yX8_in cX8_in 6 (some .boolean), .methodLink RX8 110 yX8_cutAt, .instanceMethod yX8_cutAt, .selects RX8 yX8_cutAt yX8_cutAt, .code yX8_cutAt cX8_cutAt 5 (some .int), .fieldLink RX8 38 "LetteredRockModel" "laid" "[I", .methodLink RX8 103 yX8_upsideDown, .static yX8_upsideDown, .code yX8_upsideDown cX8_upsideDown 3 (some .int)] ++ wsX80)
def wsX8_findReadings_r1 : List Cond := [Cond.fieldLink RX8 114 "LetteredRockModel" "found" "I", Cond.fieldLink RX8 117 "LetteredRockModel" "foundMany" "I", Cond.fieldLink RX8 120 "LetteredRockModel" "foundWords" "I", Cond.fieldLink RX8 31 "LetteredRockModel" "slots" "I", Cond.methodLink RX8 100 yX8_fits, Cond.instanceMethod yX8_fits, Cond.selects RX8 yX8_fits yX8_fits, Cond.initialized RX8, Cond.code yX8_fits cX8_fits 2 (some .boolean), Cond.fieldLink RX8 25 "LetteredRockModel" "spelled" "[I", Cond.methodLink RX8 96 yX8_wideOf, Cond.instanceMethod yX8_wideOf, Cond.selects RX8 yX8_wideOf yX8_wideOf, Cond.code yX8_wideOf cX8_wideOf 4 (some .int), Cond.fieldLink RX8 13 "LetteredRockModel" "width" "[I", Cond.fieldLink RX8 28 "LetteredRockModel" "words" "[I", Cond.fieldLink RX8 35 "LetteredRockModel" "gap" "I", Cond.methodLink RX8 106 yX8_lay, Cond.instanceMethod yX8_lay, Cond.selects RX8 yX8_lay yX8_lay, Cond.code yX8_lay cX8_lay 6 none, Cond.fieldLink RX8 38 "LetteredRockModel" "laid" "[I", Cond.fieldLink RX8 22 "LetteredRockModel" "strips" "[I", Cond.methodLink RX8 123 yX8_isReading]
def wsX8_findReadings_r2 : List Cond := [Cond.instanceMethod yX8_isReading, Cond.selects RX8 yX8_isReading yX8_isReading, Cond.code yX8_isReading cX8_isReading 7 (some .boolean), Cond.fieldLink RX8 57 "LetteredRockModel" "sizes" "[I", Cond.fieldLink RX8 60 "LetteredRockModel" "items" "[I", Cond.constantLong RX8 85 (31), Cond.methodLink RX8 69 yX8_in, Cond.static yX8_in, Cond.code yX8_in cX8_in 6 (some .boolean), Cond.methodLink RX8 110 yX8_cutAt, Cond.instanceMethod yX8_cutAt, Cond.selects RX8 yX8_cutAt yX8_cutAt, Cond.code yX8_cutAt cX8_cutAt 5 (some .int), Cond.methodLink RX8 103 yX8_upsideDown, Cond.static yX8_upsideDown, Cond.code yX8_upsideDown cX8_upsideDown 3 (some .int)]
def wsX8_findReadings : List Cond := .code yX8_findReadings cX8_findReadings 6 none :: ((wsX8_findReadings_r1 ++ wsX8_findReadings_r2) ++ wsX80)
def wsX8_isSheet : List Cond := .code yX8_isSheet cX8_isSheet 1 (some .boolean) :: ([.constantLong RX8 94 (3), .methodLink RX8 69 yX8_in, .static yX8_in, .initialized RX8, .code yX8_in cX8_in 6 (some .boolean)])
def wsX8_met : List Cond := .code yX8_met cX8_met 2 (some .int) :: ([.fieldLink RX8 183 "LetteredRockModel" "latest" "I"] ++ wsX80)
def wsX8_lacks : List Cond := .code yX8_lacks cX8_lacks 2 (some .int) :: ([.fieldLink RX8 54 "LetteredRockModel" "forms" "[I", .methodLink RX8 127 yX8_isSheet, .static yX8_isSheet, .initialized RX8, .code yX8_isSheet cX8_isSheet 1 (some .boolean), .constantLong RX8 94 (3), .methodLink RX8 69 yX8_in, .static yX8_in, .code yX8_in cX8_in 6 (some .boolean), .methodLink RX8 130 yX8_met, .instanceMethod yX8_met, .selects RX8 yX8_met yX8_met, .code yX8_met cX8_met 2 (some .int), .fieldLink RX8 183 "LetteredRockModel" "latest" "I"] ++ wsX80)
def wsX8_readings_r1 : List Cond := [Cond.fieldLink RX8 117 "LetteredRockModel" "foundMany" "I", Cond.methodLink RX8 133 yX8_lacks, Cond.instanceMethod yX8_lacks, Cond.selects RX8 yX8_lacks yX8_lacks, Cond.initialized RX8, Cond.code yX8_lacks cX8_lacks 2 (some .int), Cond.fieldLink RX8 54 "LetteredRockModel" "forms" "[I", Cond.methodLink RX8 127 yX8_isSheet, Cond.static yX8_isSheet, Cond.code yX8_isSheet cX8_isSheet 1 (some .boolean), Cond.constantLong RX8 94 (3), Cond.methodLink RX8 69 yX8_in, Cond.static yX8_in, Cond.code yX8_in cX8_in 6 (some .boolean), Cond.methodLink RX8 130 yX8_met, Cond.instanceMethod yX8_met, Cond.selects RX8 yX8_met yX8_met, Cond.code yX8_met cX8_met 2 (some .int), Cond.fieldLink RX8 183 "LetteredRockModel" "latest" "I", Cond.methodLink RX8 136 yX8_findReadings, Cond.instanceMethod yX8_findReadings, Cond.selects RX8 yX8_findReadings yX8_findReadings, Cond.code yX8_findReadings cX8_findReadings 6 none, Cond.fieldLink RX8 114 "LetteredRockModel" "found" "I"]
def wsX8_readings_r2 : List Cond := [Cond.fieldLink RX8 120 "LetteredRockModel" "foundWords" "I", Cond.fieldLink RX8 31 "LetteredRockModel" "slots" "I", Cond.methodLink RX8 100 yX8_fits, Cond.instanceMethod yX8_fits, Cond.selects RX8 yX8_fits yX8_fits, Cond.code yX8_fits cX8_fits 2 (some .boolean), Cond.fieldLink RX8 25 "LetteredRockModel" "spelled" "[I", Cond.methodLink RX8 96 yX8_wideOf, Cond.instanceMethod yX8_wideOf, Cond.selects RX8 yX8_wideOf yX8_wideOf, Cond.code yX8_wideOf cX8_wideOf 4 (some .int), Cond.fieldLink RX8 13 "LetteredRockModel" "width" "[I", Cond.fieldLink RX8 28 "LetteredRockModel" "words" "[I", Cond.fieldLink RX8 35 "LetteredRockModel" "gap" "I", Cond.methodLink RX8 106 yX8_lay, Cond.instanceMethod yX8_lay, Cond.selects RX8 yX8_lay yX8_lay, Cond.code yX8_lay cX8_lay 6 none, Cond.fieldLink RX8 38 "LetteredRockModel" "laid" "[I", Cond.fieldLink RX8 22 "LetteredRockModel" "strips" "[I", Cond.methodLink RX8 123 yX8_isReading, Cond.instanceMethod yX8_isReading, Cond.selects RX8 yX8_isReading yX8_isReading, Cond.code yX8_isReading cX8_isReading 7 (some .boolean)]
def wsX8_readings_r3 : List Cond := [Cond.fieldLink RX8 57 "LetteredRockModel" "sizes" "[I", Cond.fieldLink RX8 60 "LetteredRockModel" "items" "[I", Cond.constantLong RX8 85 (31), Cond.methodLink RX8 110 yX8_cutAt, Cond.instanceMethod yX8_cutAt, Cond.selects RX8 yX8_cutAt yX8_cutAt, Cond.code yX8_cutAt cX8_cutAt 5 (some .int), Cond.methodLink RX8 103 yX8_upsideDown, Cond.static yX8_upsideDown, Cond.code yX8_upsideDown cX8_upsideDown 3 (some .int)]
def wsX8_readings : List Cond := .code yX8_readings cX8_readings 3 (some .int) :: ((wsX8_readings_r1 ++ (wsX8_readings_r2 ++ wsX8_readings_r3)) ++ wsX80)
def wsX8_reading_r1 : List Cond := [Cond.fieldLink RX8 114 "LetteredRockModel" "found" "I", Cond.methodLink RX8 133 yX8_lacks, Cond.instanceMethod yX8_lacks, Cond.selects RX8 yX8_lacks yX8_lacks, Cond.initialized RX8, Cond.code yX8_lacks cX8_lacks 2 (some .int), Cond.fieldLink RX8 54 "LetteredRockModel" "forms" "[I", Cond.methodLink RX8 127 yX8_isSheet, Cond.static yX8_isSheet, Cond.code yX8_isSheet cX8_isSheet 1 (some .boolean), Cond.constantLong RX8 94 (3), Cond.methodLink RX8 69 yX8_in, Cond.static yX8_in, Cond.code yX8_in cX8_in 6 (some .boolean), Cond.methodLink RX8 130 yX8_met, Cond.instanceMethod yX8_met, Cond.selects RX8 yX8_met yX8_met, Cond.code yX8_met cX8_met 2 (some .int), Cond.fieldLink RX8 183 "LetteredRockModel" "latest" "I", Cond.methodLink RX8 136 yX8_findReadings, Cond.instanceMethod yX8_findReadings, Cond.selects RX8 yX8_findReadings yX8_findReadings, Cond.code yX8_findReadings cX8_findReadings 6 none, Cond.fieldLink RX8 117 "LetteredRockModel" "foundMany" "I"]
def wsX8_reading_r2 : List Cond := [Cond.fieldLink RX8 120 "LetteredRockModel" "foundWords" "I", Cond.fieldLink RX8 31 "LetteredRockModel" "slots" "I", Cond.methodLink RX8 100 yX8_fits, Cond.instanceMethod yX8_fits, Cond.selects RX8 yX8_fits yX8_fits, Cond.code yX8_fits cX8_fits 2 (some .boolean), Cond.fieldLink RX8 25 "LetteredRockModel" "spelled" "[I", Cond.methodLink RX8 96 yX8_wideOf, Cond.instanceMethod yX8_wideOf, Cond.selects RX8 yX8_wideOf yX8_wideOf, Cond.code yX8_wideOf cX8_wideOf 4 (some .int), Cond.fieldLink RX8 13 "LetteredRockModel" "width" "[I", Cond.fieldLink RX8 28 "LetteredRockModel" "words" "[I", Cond.fieldLink RX8 35 "LetteredRockModel" "gap" "I", Cond.methodLink RX8 106 yX8_lay, Cond.instanceMethod yX8_lay, Cond.selects RX8 yX8_lay yX8_lay, Cond.code yX8_lay cX8_lay 6 none, Cond.fieldLink RX8 38 "LetteredRockModel" "laid" "[I", Cond.fieldLink RX8 22 "LetteredRockModel" "strips" "[I", Cond.methodLink RX8 123 yX8_isReading, Cond.instanceMethod yX8_isReading, Cond.selects RX8 yX8_isReading yX8_isReading, Cond.code yX8_isReading cX8_isReading 7 (some .boolean)]
def wsX8_reading_r3 : List Cond := [Cond.fieldLink RX8 57 "LetteredRockModel" "sizes" "[I", Cond.fieldLink RX8 60 "LetteredRockModel" "items" "[I", Cond.constantLong RX8 85 (31), Cond.methodLink RX8 110 yX8_cutAt, Cond.instanceMethod yX8_cutAt, Cond.selects RX8 yX8_cutAt yX8_cutAt, Cond.code yX8_cutAt cX8_cutAt 5 (some .int), Cond.methodLink RX8 103 yX8_upsideDown, Cond.static yX8_upsideDown, Cond.code yX8_upsideDown cX8_upsideDown 3 (some .int)]
def wsX8_reading : List Cond := .code yX8_reading cX8_reading 4 (some .int) :: ((wsX8_reading_r1 ++ (wsX8_reading_r2 ++ wsX8_reading_r3)) ++ wsX80)
def wsX8_words_r1 : List Cond := [Cond.fieldLink RX8 120 "LetteredRockModel" "foundWords" "I", Cond.methodLink RX8 133 yX8_lacks, Cond.instanceMethod yX8_lacks, Cond.selects RX8 yX8_lacks yX8_lacks, Cond.initialized RX8, Cond.code yX8_lacks cX8_lacks 2 (some .int), Cond.fieldLink RX8 54 "LetteredRockModel" "forms" "[I", Cond.methodLink RX8 127 yX8_isSheet, Cond.static yX8_isSheet, Cond.code yX8_isSheet cX8_isSheet 1 (some .boolean), Cond.constantLong RX8 94 (3), Cond.methodLink RX8 69 yX8_in, Cond.static yX8_in, Cond.code yX8_in cX8_in 6 (some .boolean), Cond.methodLink RX8 130 yX8_met, Cond.instanceMethod yX8_met, Cond.selects RX8 yX8_met yX8_met, Cond.code yX8_met cX8_met 2 (some .int), Cond.fieldLink RX8 183 "LetteredRockModel" "latest" "I", Cond.methodLink RX8 136 yX8_findReadings, Cond.instanceMethod yX8_findReadings, Cond.selects RX8 yX8_findReadings yX8_findReadings, Cond.code yX8_findReadings cX8_findReadings 6 none, Cond.fieldLink RX8 114 "LetteredRockModel" "found" "I"]
def wsX8_words_r2 : List Cond := [Cond.fieldLink RX8 117 "LetteredRockModel" "foundMany" "I", Cond.fieldLink RX8 31 "LetteredRockModel" "slots" "I", Cond.methodLink RX8 100 yX8_fits, Cond.instanceMethod yX8_fits, Cond.selects RX8 yX8_fits yX8_fits, Cond.code yX8_fits cX8_fits 2 (some .boolean), Cond.fieldLink RX8 25 "LetteredRockModel" "spelled" "[I", Cond.methodLink RX8 96 yX8_wideOf, Cond.instanceMethod yX8_wideOf, Cond.selects RX8 yX8_wideOf yX8_wideOf, Cond.code yX8_wideOf cX8_wideOf 4 (some .int), Cond.fieldLink RX8 13 "LetteredRockModel" "width" "[I", Cond.fieldLink RX8 28 "LetteredRockModel" "words" "[I", Cond.fieldLink RX8 35 "LetteredRockModel" "gap" "I", Cond.methodLink RX8 106 yX8_lay, Cond.instanceMethod yX8_lay, Cond.selects RX8 yX8_lay yX8_lay, Cond.code yX8_lay cX8_lay 6 none, Cond.fieldLink RX8 38 "LetteredRockModel" "laid" "[I", Cond.fieldLink RX8 22 "LetteredRockModel" "strips" "[I", Cond.methodLink RX8 123 yX8_isReading, Cond.instanceMethod yX8_isReading, Cond.selects RX8 yX8_isReading yX8_isReading, Cond.code yX8_isReading cX8_isReading 7 (some .boolean)]
def wsX8_words_r3 : List Cond := [Cond.fieldLink RX8 57 "LetteredRockModel" "sizes" "[I", Cond.fieldLink RX8 60 "LetteredRockModel" "items" "[I", Cond.constantLong RX8 85 (31), Cond.methodLink RX8 110 yX8_cutAt, Cond.instanceMethod yX8_cutAt, Cond.selects RX8 yX8_cutAt yX8_cutAt, Cond.code yX8_cutAt cX8_cutAt 5 (some .int), Cond.methodLink RX8 103 yX8_upsideDown, Cond.static yX8_upsideDown, Cond.code yX8_upsideDown cX8_upsideDown 3 (some .int)]
def wsX8_words : List Cond := .code yX8_words cX8_words 3 (some .int) :: ((wsX8_words_r1 ++ (wsX8_words_r2 ++ wsX8_words_r3)) ++ wsX80)
def wsX8_findOrder : List Cond := .code yX8_findOrder cX8_findOrder 6 none :: ([.fieldLink RX8 25 "LetteredRockModel" "spelled" "[I", .fieldLink RX8 19 "LetteredRockModel" "soft" "[I", .fieldLink RX8 28 "LetteredRockModel" "words" "[I", .fieldLink RX8 41 "LetteredRockModel" "order" "[I", .fieldLink RX8 140 "LetteredRockModel" "worst" "I", .fieldLink RX8 143 "LetteredRockModel" "lateMany" "I", .fieldLink RX8 16 "LetteredRockModel" "minutes" "[I"] ++ wsX80)
def wsX8_order : List Cond := .code yX8_order cX8_order 3 (some .int) :: ([.fieldLink RX8 25 "LetteredRockModel" "spelled" "[I", .fieldLink RX8 41 "LetteredRockModel" "order" "[I", .methodLink RX8 89 yX8_isWord, .static yX8_isWord, .initialized RX8, .code yX8_isWord cX8_isWord 1 (some .boolean), .constantLong RX8 73 (7), .methodLink RX8 69 yX8_in, .static yX8_in, .code yX8_in cX8_in 6 (some .boolean), .methodLink RX8 146 yX8_findOrder, .instanceMethod yX8_findOrder, .selects RX8 yX8_findOrder yX8_findOrder, .code yX8_findOrder cX8_findOrder 6 none, .fieldLink RX8 19 "LetteredRockModel" "soft" "[I", .fieldLink RX8 28 "LetteredRockModel" "words" "[I", .fieldLink RX8 140 "LetteredRockModel" "worst" "I", .fieldLink RX8 143 "LetteredRockModel" "lateMany" "I", .fieldLink RX8 16 "LetteredRockModel" "minutes" "[I"] ++ wsX80)
def wsX8_late : List Cond := .code yX8_late cX8_late 2 (some .int) :: ([.fieldLink RX8 140 "LetteredRockModel" "worst" "I", .methodLink RX8 89 yX8_isWord, .static yX8_isWord, .initialized RX8, .code yX8_isWord cX8_isWord 1 (some .boolean), .constantLong RX8 73 (7), .methodLink RX8 69 yX8_in, .static yX8_in, .code yX8_in cX8_in 6 (some .boolean), .methodLink RX8 146 yX8_findOrder, .instanceMethod yX8_findOrder, .selects RX8 yX8_findOrder yX8_findOrder, .code yX8_findOrder cX8_findOrder 6 none, .fieldLink RX8 25 "LetteredRockModel" "spelled" "[I", .fieldLink RX8 19 "LetteredRockModel" "soft" "[I", .fieldLink RX8 28 "LetteredRockModel" "words" "[I", .fieldLink RX8 41 "LetteredRockModel" "order" "[I", .fieldLink RX8 143 "LetteredRockModel" "lateMany" "I", .fieldLink RX8 16 "LetteredRockModel" "minutes" "[I"] ++ wsX80)
def wsX8_spoiled : List Cond := .code yX8_spoiled cX8_spoiled 2 (some .int) :: ([.fieldLink RX8 143 "LetteredRockModel" "lateMany" "I", .methodLink RX8 89 yX8_isWord, .static yX8_isWord, .initialized RX8, .code yX8_isWord cX8_isWord 1 (some .boolean), .constantLong RX8 73 (7), .methodLink RX8 69 yX8_in, .static yX8_in, .code yX8_in cX8_in 6 (some .boolean), .methodLink RX8 146 yX8_findOrder, .instanceMethod yX8_findOrder, .selects RX8 yX8_findOrder yX8_findOrder, .code yX8_findOrder cX8_findOrder 6 none, .fieldLink RX8 25 "LetteredRockModel" "spelled" "[I", .fieldLink RX8 19 "LetteredRockModel" "soft" "[I", .fieldLink RX8 28 "LetteredRockModel" "words" "[I", .fieldLink RX8 41 "LetteredRockModel" "order" "[I", .fieldLink RX8 140 "LetteredRockModel" "worst" "I", .fieldLink RX8 16 "LetteredRockModel" "minutes" "[I"] ++ wsX80)
def wsX8_set : List Cond := .code yX8_set cX8_set 5 (some .int) :: ([.constantLong RX8 87 (10), .constantLong RX8 149 (200), .constantLong RX8 151 (1000), .constantLong RX8 153 (100), .fieldLink RX8 7 "LetteredRockModel" "told" "[I", .methodLink RX8 69 yX8_in, .static yX8_in, .initialized RX8, .code yX8_in cX8_in 6 (some .boolean)] ++ wsX80)
def wsX8_lump_r1 : List Cond := [Cond.fieldLink RX8 155 "LetteredRockModel" "lumps" "I", Cond.fieldLink RX8 44 "LetteredRockModel" "made" "[I", Cond.constantLong RX8 77 (9), Cond.constantLong RX8 158 (999), Cond.constantLong RX8 149 (200), Cond.fieldLink RX8 7 "LetteredRockModel" "told" "[I", Cond.fieldLink RX8 160 "LetteredRockModel" "sticks" "I", Cond.fieldLink RX8 163 "LetteredRockModel" "scrap" "I", Cond.methodLink RX8 89 yX8_isWord, Cond.static yX8_isWord, Cond.initialized RX8, Cond.code yX8_isWord cX8_isWord 1 (some .boolean), Cond.constantLong RX8 73 (7), Cond.methodLink RX8 69 yX8_in, Cond.static yX8_in, Cond.code yX8_in cX8_in 6 (some .boolean), Cond.methodLink RX8 100 yX8_fits, Cond.instanceMethod yX8_fits, Cond.selects RX8 yX8_fits yX8_fits, Cond.code yX8_fits cX8_fits 2 (some .boolean), Cond.fieldLink RX8 25 "LetteredRockModel" "spelled" "[I", Cond.fieldLink RX8 31 "LetteredRockModel" "slots" "I", Cond.methodLink RX8 96 yX8_wideOf, Cond.instanceMethod yX8_wideOf]
def wsX8_lump_r2 : List Cond := [Cond.selects RX8 yX8_wideOf yX8_wideOf, Cond.code yX8_wideOf cX8_wideOf 4 (some .int), Cond.fieldLink RX8 13 "LetteredRockModel" "width" "[I", Cond.fieldLink RX8 28 "LetteredRockModel" "words" "[I", Cond.fieldLink RX8 35 "LetteredRockModel" "gap" "I"]
def wsX8_lump : List Cond := .code yX8_lump cX8_lump 9 (some .int) :: ((wsX8_lump_r1 ++ wsX8_lump_r2) ++ wsX80)
def wsX8_made : List Cond := .code yX8_made cX8_made 3 (some .int) :: ([.fieldLink RX8 155 "LetteredRockModel" "lumps" "I", .constantLong RX8 75 (5), .fieldLink RX8 44 "LetteredRockModel" "made" "[I", .methodLink RX8 69 yX8_in, .static yX8_in, .initialized RX8, .code yX8_in cX8_in 6 (some .boolean)] ++ wsX80)
def wsX8_trace : List Cond := .code yX8_trace cX8_trace 3 (some .int) :: ([.fieldLink RX8 155 "LetteredRockModel" "lumps" "I", .fieldLink RX8 44 "LetteredRockModel" "made" "[I", .methodLink RX8 69 yX8_in, .static yX8_in, .initialized RX8, .code yX8_in cX8_in 6 (some .boolean)] ++ wsX80)
def wsX8_recall : List Cond := .code yX8_recall cX8_recall 7 (some .int) :: ([.constantLong RX8 166 (-1), .constantLong RX8 77 (9), .constantLong RX8 158 (999), .fieldLink RX8 155 "LetteredRockModel" "lumps" "I", .fieldLink RX8 44 "LetteredRockModel" "made" "[I", .methodLink RX8 69 yX8_in, .static yX8_in, .initialized RX8, .code yX8_in cX8_in 6 (some .boolean)] ++ wsX80)
def wsX8_isWeek : List Cond := .code yX8_isWeek cX8_isWeek 1 (some .boolean) :: ([.constantLong RX8 168 (51), .methodLink RX8 69 yX8_in, .static yX8_in, .initialized RX8, .code yX8_in cX8_in 6 (some .boolean)])
def wsX8_foretoldOf : List Cond := .code yX8_foretoldOf cX8_foretoldOf 8 (some .int) :: ([.constant RX8 170 (2147483647), .fieldLink RX8 54 "LetteredRockModel" "forms" "[I", .fieldLink RX8 57 "LetteredRockModel" "sizes" "[I", .fieldLink RX8 60 "LetteredRockModel" "items" "[I"] ++ wsX80)
def wsX8_foretold : List Cond := .code yX8_foretold cX8_foretold 2 (some .int) :: ([.methodLink RX8 171 yX8_isWeek, .static yX8_isWeek, .initialized RX8, .code yX8_isWeek cX8_isWeek 1 (some .boolean), .constantLong RX8 168 (51), .methodLink RX8 69 yX8_in, .static yX8_in, .code yX8_in cX8_in 6 (some .boolean), .methodLink RX8 174 yX8_foretoldOf, .instanceMethod yX8_foretoldOf, .selects RX8 yX8_foretoldOf yX8_foretoldOf, .code yX8_foretoldOf cX8_foretoldOf 8 (some .int), .constant RX8 170 (2147483647), .fieldLink RX8 54 "LetteredRockModel" "forms" "[I", .fieldLink RX8 57 "LetteredRockModel" "sizes" "[I", .fieldLink RX8 60 "LetteredRockModel" "items" "[I"] ++ wsX80)
def wsX8_damp : List Cond := .code yX8_damp cX8_damp 3 (some .int) :: ([.fieldLink RX8 47 "LetteredRockModel" "isDamp" "[Z", .methodLink RX8 171 yX8_isWeek, .static yX8_isWeek, .initialized RX8, .code yX8_isWeek cX8_isWeek 1 (some .boolean), .constantLong RX8 168 (51), .methodLink RX8 69 yX8_in, .static yX8_in, .code yX8_in cX8_in 6 (some .boolean)] ++ wsX80)
def wsX8_make : List Cond := .code yX8_make cX8_make 4 (some .int) :: ([.constantLong RX8 177 (10000), .fieldLink RX8 51 "LetteredRockModel" "makes" "[I", .methodLink RX8 171 yX8_isWeek, .static yX8_isWeek, .initialized RX8, .code yX8_isWeek cX8_isWeek 1 (some .boolean), .constantLong RX8 168 (51), .methodLink RX8 69 yX8_in, .static yX8_in, .code yX8_in cX8_in 6 (some .boolean)] ++ wsX80)
def wsX8_stock : List Cond := .code yX8_stock cX8_stock 15 (some .int) :: ([.constantLong RX8 179 (100000), .constantLong RX8 94 (3), .fieldLink RX8 51 "LetteredRockModel" "makes" "[I", .fieldLink RX8 47 "LetteredRockModel" "isDamp" "[Z", .fieldLink RX8 7 "LetteredRockModel" "told" "[I", .constantLong RX8 153 (100), .constantLong RX8 181 (2147483647), .constant RX8 170 (2147483647), .methodLink RX8 171 yX8_isWeek, .static yX8_isWeek, .initialized RX8, .code yX8_isWeek cX8_isWeek 1 (some .boolean), .constantLong RX8 168 (51), .methodLink RX8 69 yX8_in, .static yX8_in, .code yX8_in cX8_in 6 (some .boolean), .methodLink RX8 174 yX8_foretoldOf, .instanceMethod yX8_foretoldOf, .selects RX8 yX8_foretoldOf yX8_foretoldOf, .code yX8_foretoldOf cX8_foretoldOf 8 (some .int), .fieldLink RX8 54 "LetteredRockModel" "forms" "[I", .fieldLink RX8 57 "LetteredRockModel" "sizes" "[I", .fieldLink RX8 60 "LetteredRockModel" "items" "[I"] ++ wsX80)
def wsX8_ahead : List Cond := .code yX8_ahead cX8_ahead 9 (some .int) :: ([.constantLong RX8 177 (10000), .constantLong RX8 181 (2147483647), .constant RX8 170 (2147483647), .methodLink RX8 171 yX8_isWeek, .static yX8_isWeek, .initialized RX8, .code yX8_isWeek cX8_isWeek 1 (some .boolean), .constantLong RX8 168 (51), .methodLink RX8 69 yX8_in, .static yX8_in, .code yX8_in cX8_in 6 (some .boolean), .methodLink RX8 174 yX8_foretoldOf, .instanceMethod yX8_foretoldOf, .selects RX8 yX8_foretoldOf yX8_foretoldOf, .code yX8_foretoldOf cX8_foretoldOf 8 (some .int), .fieldLink RX8 54 "LetteredRockModel" "forms" "[I", .fieldLink RX8 57 "LetteredRockModel" "sizes" "[I", .fieldLink RX8 60 "LetteredRockModel" "items" "[I"] ++ wsX80)
def wsX8_sheet : List Cond := .code yX8_sheet cX8_sheet 5 (some .int) :: ([.constantLong RX8 186 (2), .fieldLink RX8 54 "LetteredRockModel" "forms" "[I", .fieldLink RX8 57 "LetteredRockModel" "sizes" "[I", .fieldLink RX8 60 "LetteredRockModel" "items" "[I", .methodLink RX8 127 yX8_isSheet, .static yX8_isSheet, .initialized RX8, .code yX8_isSheet cX8_isSheet 1 (some .boolean), .constantLong RX8 94 (3), .methodLink RX8 69 yX8_in, .static yX8_in, .code yX8_in cX8_in 6 (some .boolean), .methodLink RX8 130 yX8_met, .instanceMethod yX8_met, .selects RX8 yX8_met yX8_met, .code yX8_met cX8_met 2 (some .int), .fieldLink RX8 183 "LetteredRockModel" "latest" "I"] ++ wsX80)
def wsX8_lose : List Cond := .code yX8_lose cX8_lose 2 (some .int) :: ([.fieldLink RX8 54 "LetteredRockModel" "forms" "[I", .fieldLink RX8 57 "LetteredRockModel" "sizes" "[I", .methodLink RX8 127 yX8_isSheet, .static yX8_isSheet, .initialized RX8, .code yX8_isSheet cX8_isSheet 1 (some .boolean), .constantLong RX8 94 (3), .methodLink RX8 69 yX8_in, .static yX8_in, .code yX8_in cX8_in 6 (some .boolean), .methodLink RX8 130 yX8_met, .instanceMethod yX8_met, .selects RX8 yX8_met yX8_met, .code yX8_met cX8_met 2 (some .int), .fieldLink RX8 183 "LetteredRockModel" "latest" "I"] ++ wsX80)
def wsX8_lacksItem : List Cond := .code yX8_lacksItem cX8_lacksItem 4 (some .int) :: ([.fieldLink RX8 54 "LetteredRockModel" "forms" "[I", .fieldLink RX8 57 "LetteredRockModel" "sizes" "[I", .methodLink RX8 130 yX8_met, .instanceMethod yX8_met, .selects RX8 yX8_met yX8_met, .initialized RX8, .code yX8_met cX8_met 2 (some .int), .fieldLink RX8 183 "LetteredRockModel" "latest" "I", .methodLink RX8 69 yX8_in, .static yX8_in, .code yX8_in cX8_in 6 (some .boolean)] ++ wsX80)
def wsX8_put : List Cond := .code yX8_put cX8_put 6 (some .int) :: ([.constantLong RX8 186 (2), .fieldLink RX8 60 "LetteredRockModel" "items" "[I", .methodLink RX8 127 yX8_isSheet, .static yX8_isSheet, .initialized RX8, .code yX8_isSheet cX8_isSheet 1 (some .boolean), .constantLong RX8 94 (3), .methodLink RX8 69 yX8_in, .static yX8_in, .code yX8_in cX8_in 6 (some .boolean), .methodLink RX8 188 yX8_lacksItem, .instanceMethod yX8_lacksItem, .selects RX8 yX8_lacksItem yX8_lacksItem, .code yX8_lacksItem cX8_lacksItem 4 (some .int), .fieldLink RX8 54 "LetteredRockModel" "forms" "[I", .fieldLink RX8 57 "LetteredRockModel" "sizes" "[I", .methodLink RX8 130 yX8_met, .instanceMethod yX8_met, .selects RX8 yX8_met yX8_met, .code yX8_met cX8_met 2 (some .int), .fieldLink RX8 183 "LetteredRockModel" "latest" "I"] ++ wsX80)
def wsX8_get : List Cond := .code yX8_get cX8_get 4 (some .int) :: ([.constantLong RX8 186 (2), .constant RX8 191 (-2147483648), .fieldLink RX8 60 "LetteredRockModel" "items" "[I", .methodLink RX8 127 yX8_isSheet, .static yX8_isSheet, .initialized RX8, .code yX8_isSheet cX8_isSheet 1 (some .boolean), .constantLong RX8 94 (3), .methodLink RX8 69 yX8_in, .static yX8_in, .code yX8_in cX8_in 6 (some .boolean), .methodLink RX8 188 yX8_lacksItem, .instanceMethod yX8_lacksItem, .selects RX8 yX8_lacksItem yX8_lacksItem, .code yX8_lacksItem cX8_lacksItem 4 (some .int), .fieldLink RX8 54 "LetteredRockModel" "forms" "[I", .fieldLink RX8 57 "LetteredRockModel" "sizes" "[I", .methodLink RX8 130 yX8_met, .instanceMethod yX8_met, .selects RX8 yX8_met yX8_met, .code yX8_met cX8_met 2 (some .int), .fieldLink RX8 183 "LetteredRockModel" "latest" "I"] ++ wsX80)
def wsX8_copy : List Cond := .code yX8_copy cX8_copy 7 (some .int) :: ([.fieldLink RX8 54 "LetteredRockModel" "forms" "[I", .fieldLink RX8 57 "LetteredRockModel" "sizes" "[I", .fieldLink RX8 63 "LetteredRockModel" "moved" "[I", .fieldLink RX8 60 "LetteredRockModel" "items" "[I", .methodLink RX8 127 yX8_isSheet, .static yX8_isSheet, .initialized RX8, .code yX8_isSheet cX8_isSheet 1 (some .boolean), .constantLong RX8 94 (3), .methodLink RX8 69 yX8_in, .static yX8_in, .code yX8_in cX8_in 6 (some .boolean), .methodLink RX8 130 yX8_met, .instanceMethod yX8_met, .selects RX8 yX8_met yX8_met, .code yX8_met cX8_met 2 (some .int), .fieldLink RX8 183 "LetteredRockModel" "latest" "I"] ++ wsX80)
def wsX8_count : List Cond := .code yX8_count cX8_count 4 (some .int) :: ([.fieldLink RX8 66 "LetteredRockModel" "letters" "I", .fieldLink RX8 31 "LetteredRockModel" "slots" "I", .fieldLink RX8 35 "LetteredRockModel" "gap" "I", .fieldLink RX8 155 "LetteredRockModel" "lumps" "I", .fieldLink RX8 160 "LetteredRockModel" "sticks" "I", .fieldLink RX8 183 "LetteredRockModel" "latest" "I", .fieldLink RX8 163 "LetteredRockModel" "scrap" "I", .fieldLink RX8 47 "LetteredRockModel" "isDamp" "[Z", .methodLink RX8 100 yX8_fits, .instanceMethod yX8_fits, .selects RX8 yX8_fits yX8_fits, .initialized RX8, .code yX8_fits cX8_fits 2 (some .boolean), .fieldLink RX8 25 "LetteredRockModel" "spelled" "[I", .methodLink RX8 96 yX8_wideOf, .instanceMethod yX8_wideOf, .selects RX8 yX8_wideOf yX8_wideOf, .code yX8_wideOf cX8_wideOf 4 (some .int), .fieldLink RX8 13 "LetteredRockModel" "width" "[I", .fieldLink RX8 28 "LetteredRockModel" "words" "[I"] ++ wsX80)
def wsX8_digest_r1 : List Cond := [Cond.constantLong RX8 192 (17), Cond.constantLong RX8 85 (31), Cond.fieldLink RX8 140 "LetteredRockModel" "worst" "I", Cond.fieldLink RX8 155 "LetteredRockModel" "lumps" "I", Cond.fieldLink RX8 44 "LetteredRockModel" "made" "[I", Cond.fieldLink RX8 7 "LetteredRockModel" "told" "[I", Cond.methodLink RX8 194 yX8_count, Cond.instanceMethod yX8_count, Cond.selects RX8 yX8_count yX8_count, Cond.initialized RX8, Cond.code yX8_count cX8_count 4 (some .int), Cond.fieldLink RX8 66 "LetteredRockModel" "letters" "I", Cond.fieldLink RX8 31 "LetteredRockModel" "slots" "I", Cond.fieldLink RX8 35 "LetteredRockModel" "gap" "I", Cond.fieldLink RX8 160 "LetteredRockModel" "sticks" "I", Cond.fieldLink RX8 183 "LetteredRockModel" "latest" "I", Cond.fieldLink RX8 163 "LetteredRockModel" "scrap" "I", Cond.fieldLink RX8 47 "LetteredRockModel" "isDamp" "[Z", Cond.methodLink RX8 100 yX8_fits, Cond.instanceMethod yX8_fits, Cond.selects RX8 yX8_fits yX8_fits, Cond.code yX8_fits cX8_fits 2 (some .boolean), Cond.fieldLink RX8 25 "LetteredRockModel" "spelled" "[I", Cond.methodLink RX8 96 yX8_wideOf]
def wsX8_digest_r2 : List Cond := [Cond.instanceMethod yX8_wideOf, Cond.selects RX8 yX8_wideOf yX8_wideOf, Cond.code yX8_wideOf cX8_wideOf 4 (some .int), Cond.fieldLink RX8 13 "LetteredRockModel" "width" "[I", Cond.fieldLink RX8 28 "LetteredRockModel" "words" "[I", Cond.methodLink RX8 146 yX8_findOrder, Cond.instanceMethod yX8_findOrder, Cond.selects RX8 yX8_findOrder yX8_findOrder, Cond.code yX8_findOrder cX8_findOrder 6 none, Cond.fieldLink RX8 19 "LetteredRockModel" "soft" "[I", Cond.fieldLink RX8 41 "LetteredRockModel" "order" "[I", Cond.fieldLink RX8 143 "LetteredRockModel" "lateMany" "I", Cond.fieldLink RX8 16 "LetteredRockModel" "minutes" "[I", Cond.methodLink RX8 174 yX8_foretoldOf, Cond.instanceMethod yX8_foretoldOf, Cond.selects RX8 yX8_foretoldOf yX8_foretoldOf, Cond.code yX8_foretoldOf cX8_foretoldOf 8 (some .int), Cond.constant RX8 170 (2147483647), Cond.fieldLink RX8 54 "LetteredRockModel" "forms" "[I", Cond.fieldLink RX8 57 "LetteredRockModel" "sizes" "[I", Cond.fieldLink RX8 60 "LetteredRockModel" "items" "[I"]
def wsX8_digest : List Cond := .code yX8_digest cX8_digest 4 (some .long) :: ((wsX8_digest_r1 ++ wsX8_digest_r2) ++ wsX80)
def wsJ9_max_7cf53 : List Cond := .code yJ9_max_7cf53 cJ9_max_7cf53 2 (some .int) :: ([])
def wsJ9_max_f86c9 : List Cond := .code yJ9_max_f86c9 cJ9_max_f86c9 4 (some .long) :: ([])
def wsJ9_min_7cf53 : List Cond := .code yJ9_min_7cf53 cJ9_min_7cf53 2 (some .int) :: ([])
def wsJ9_min_f86c9 : List Cond := .code yJ9_min_f86c9 cJ9_min_f86c9 4 (some .long) :: ([])
def wsL_law_r1 : List Cond := [Cond.classLink RL 7 RX7, Cond.instantiable RX7 11, Cond.initialized RX7, Cond.classLink RL 10 RX8, Cond.instantiable RX8 28, Cond.initialized RX8, Cond.methodLink RL 9 yX7_init, Cond.instanceMethod yX7_init, Cond.code yX7_init cX7_init 2 none, Cond.methodLink RX7 1 objectInit, Cond.instanceMethod objectInit, Cond.code objectInit ⟨#[0xb1]⟩ 1 none, Cond.classLink RX7 9 RX0, Cond.fieldLink RX7 11 "LetteredRock" "alphabet" "[LLetteredRock$Letter;", Cond.fieldLink RX7 15 "LetteredRock" "letterCount" "I", Cond.classLink RX7 19 RX6, Cond.fieldLink RX7 21 "LetteredRock" "wordRow" "[LLetteredRock$Word;", Cond.instantiable RX6 2, Cond.initialized RX6, Cond.classLink RX7 26 RX3, Cond.instantiable RX3 3, Cond.initialized RX3, Cond.fieldLink RX7 29 "LetteredRock" "ring" "LLetteredRock$Ring;", Cond.arrayClass .int]
def wsL_law_r2 : List Cond := [Cond.fieldLink RX7 33 "LetteredRock" "settings" "[I", Cond.classLink RX7 37 RX2, Cond.instantiable RX2 4, Cond.initialized RX2, Cond.fieldLink RX7 40 "LetteredRock" "lumpBook" "LLetteredRock$LumpBook;", Cond.arrayClass .boolean, Cond.fieldLink RX7 44 "LetteredRock" "dampWeeks" "[Z", Cond.fieldLink RX7 48 "LetteredRock" "madeIn" "[I", Cond.classLink RX7 51 RX5, Cond.instantiable RX5 4, Cond.initialized RX5, Cond.fieldLink RX7 54 "LetteredRock" "stockRun" "LLetteredRock$StockRun;", Cond.classLink RX7 58 RX4, Cond.fieldLink RX7 60 "LetteredRock" "sheetRow" "[LLetteredRock$Sheet;", Cond.instantiable RX4 4, Cond.initialized RX4, Cond.fieldLink RX7 65 "LetteredRock" "latestFinding" "I", Cond.instanceMethod yX6_init, Cond.code yX6_init cX6_init 1 none, Cond.methodLink RX6 3 objectInit, Cond.classLink RX6 9 RX0, Cond.fieldLink RX6 11 "LetteredRock$Word" "letters" "[LLetteredRock$Letter;", Cond.fieldLink RX6 17 "LetteredRock$Word" "size" "I", Cond.instanceMethod yX3_init]
def wsL_law_r3 : List Cond := [Cond.code yX3_init cX3_init 1 none, Cond.methodLink RX3 3 objectInit, Cond.fieldLink RX3 9 "LetteredRock$Ring" "laid" "[I", Cond.fieldLink RX3 15 "LetteredRock$Ring" "slotCount" "I", Cond.fieldLink RX3 19 "LetteredRock$Ring" "gapWidth" "I", Cond.instanceMethod yX2_init, Cond.code yX2_init cX2_init 1 none, Cond.methodLink RX2 3 objectInit, Cond.classLink RX2 9 RX1, Cond.fieldLink RX2 11 "LetteredRock$LumpBook" "lumps" "[LLetteredRock$Lump;", Cond.fieldLink RX2 17 "LetteredRock$LumpBook" "size" "I", Cond.fieldLink RX2 21 "LetteredRock$LumpBook" "stickCount" "I", Cond.fieldLink RX2 24 "LetteredRock$LumpBook" "scrap" "I", Cond.instanceMethod yX5_init, Cond.code yX5_init cX5_init 1 none, Cond.methodLink RX5 3 objectInit, Cond.instanceMethod yX4_init, Cond.code yX4_init cX4_init 1 none, Cond.methodLink RX4 3 objectInit, Cond.fieldLink RX4 9 "LetteredRock$Sheet" "items" "[I", Cond.fieldLink RX4 15 "LetteredRock$Sheet" "isLost" "Z", Cond.fieldLink RX4 19 "LetteredRock$Sheet" "form" "I", Cond.fieldLink RX4 23 "LetteredRock$Sheet" "size" "I", Cond.methodLink RL 12 yX8_init]
def wsL_law_r4 : List Cond := [Cond.instanceMethod yX8_init, Cond.code yX8_init cX8_init 2 none, Cond.methodLink RX8 1 objectInit, Cond.fieldLink RX8 7 "LetteredRockModel" "told" "[I", Cond.fieldLink RX8 13 "LetteredRockModel" "width" "[I", Cond.fieldLink RX8 16 "LetteredRockModel" "minutes" "[I", Cond.fieldLink RX8 19 "LetteredRockModel" "soft" "[I", Cond.fieldLink RX8 22 "LetteredRockModel" "strips" "[I", Cond.fieldLink RX8 25 "LetteredRockModel" "spelled" "[I", Cond.fieldLink RX8 28 "LetteredRockModel" "words" "[I", Cond.fieldLink RX8 31 "LetteredRockModel" "slots" "I", Cond.fieldLink RX8 35 "LetteredRockModel" "gap" "I", Cond.fieldLink RX8 38 "LetteredRockModel" "laid" "[I", Cond.fieldLink RX8 41 "LetteredRockModel" "order" "[I", Cond.fieldLink RX8 44 "LetteredRockModel" "made" "[I", Cond.fieldLink RX8 47 "LetteredRockModel" "isDamp" "[Z", Cond.fieldLink RX8 51 "LetteredRockModel" "makes" "[I", Cond.fieldLink RX8 54 "LetteredRockModel" "forms" "[I", Cond.fieldLink RX8 57 "LetteredRockModel" "sizes" "[I", Cond.fieldLink RX8 60 "LetteredRockModel" "items" "[I", Cond.fieldLink RX8 63 "LetteredRockModel" "moved" "[I", Cond.methodLink RL 13 yX7_letter, Cond.instanceMethod yX7_letter, Cond.selects RX7 yX7_letter yX7_letter]
def wsL_law_r5 : List Cond := [Cond.code yX7_letter cX7_letter 4 (some .int), Cond.instantiable RX0 4, Cond.initialized RX0, Cond.methodLink RX7 68 yX7_within, Cond.static yX7_within, Cond.code yX7_within cX7_within 3 (some .boolean), Cond.methodLink RX7 72 yX0_init, Cond.instanceMethod yX0_init, Cond.code yX0_init cX0_init 4 none, Cond.methodLink RX0 3 objectInit, Cond.fieldLink RX0 9 "LetteredRock$Letter" "width" "I", Cond.fieldLink RX0 15 "LetteredRock$Letter" "minutes" "I", Cond.fieldLink RX0 18 "LetteredRock$Letter" "soft" "I", Cond.fieldLink RX0 21 "LetteredRock$Letter" "strips" "[I", Cond.methodLink RL 17 yX8_letter, Cond.instanceMethod yX8_letter, Cond.selects RX8 yX8_letter yX8_letter, Cond.code yX8_letter cX8_letter 4 (some .int), Cond.constantLong RX8 75 (5), Cond.constantLong RX8 77 (9), Cond.constantLong RX8 79 (99), Cond.fieldLink RX8 66 "LetteredRockModel" "letters" "I", Cond.methodLink RX8 69 yX8_in, Cond.static yX8_in]
def wsL_law_r6 : List Cond := [Cond.code yX8_in cX8_in 6 (some .boolean), Cond.methodLink RL 18 yX7_strip, Cond.instanceMethod yX7_strip, Cond.selects RX7 yX7_strip yX7_strip, Cond.code yX7_strip cX7_strip 6 (some .int), Cond.fieldLink RX7 83 "LetteredRock$Letter" "strips" "[I", Cond.methodLink RX7 75 yX7_letterAt, Cond.instanceMethod yX7_letterAt, Cond.selects RX7 yX7_letterAt yX7_letterAt, Cond.code yX7_letterAt cX7_letterAt 2 (some (.object "LetteredRock$Letter")), Cond.methodLink RX7 79 yX0_hasStrip, Cond.instanceMethod yX0_hasStrip, Cond.selects RX0 yX0_hasStrip yX0_hasStrip, Cond.code yX0_hasStrip cX0_hasStrip 2 (some .boolean), Cond.methodLink RL 21 yX8_strip, Cond.instanceMethod yX8_strip, Cond.selects RX8 yX8_strip yX8_strip, Cond.code yX8_strip cX8_strip 5 (some .int), Cond.constantLong RX8 85 (31), Cond.methodLink RX8 81 yX8_isLetter, Cond.instanceMethod yX8_isLetter, Cond.selects RX8 yX8_isLetter yX8_isLetter, Cond.code yX8_isLetter cX8_isLetter 2 (some .boolean), Cond.methodLink RL 22 yX7_about]
def wsL_law_r7 : List Cond := [Cond.instanceMethod yX7_about, Cond.selects RX7 yX7_about yX7_about, Cond.code yX7_about cX7_about 4 (some .int), Cond.fieldLink RX7 86 "LetteredRock$Letter" "width" "I", Cond.fieldLink RX7 89 "LetteredRock$Letter" "minutes" "I", Cond.fieldLink RX7 92 "LetteredRock$Letter" "soft" "I", Cond.methodLink RL 26 yX8_about, Cond.instanceMethod yX8_about, Cond.selects RX8 yX8_about yX8_about, Cond.code yX8_about cX8_about 3 (some .int), Cond.constantLong RX8 87 (10), Cond.methodLink RL 27 yX7_spell, Cond.instanceMethod yX7_spell, Cond.selects RX7 yX7_spell yX7_spell, Cond.code yX7_spell cX7_spell 5 (some .int), Cond.fieldLink RX7 103 "LetteredRock$Word" "size" "I", Cond.methodLink RX7 95 yX7_wordAt, Cond.instanceMethod yX7_wordAt, Cond.selects RX7 yX7_wordAt yX7_wordAt, Cond.code yX7_wordAt cX7_wordAt 2 (some (.object "LetteredRock$Word")), Cond.methodLink RX7 99 yX6_append, Cond.instanceMethod yX6_append, Cond.selects RX6 yX6_append yX6_append, Cond.code yX6_append cX6_append 2 (some .boolean)]
def wsL_law_r8 : List Cond := [Cond.methodLink RL 30 yX8_spell, Cond.instanceMethod yX8_spell, Cond.selects RX8 yX8_spell yX8_spell, Cond.code yX8_spell cX8_spell 3 (some .int), Cond.methodLink RX8 89 yX8_isWord, Cond.static yX8_isWord, Cond.code yX8_isWord cX8_isWord 1 (some .boolean), Cond.constantLong RX8 73 (7), Cond.methodLink RL 31 yX7_wipe, Cond.instanceMethod yX7_wipe, Cond.selects RX7 yX7_wipe yX7_wipe, Cond.code yX7_wipe cX7_wipe 4 (some .int), Cond.methodLink RL 35 yX8_wipe, Cond.instanceMethod yX8_wipe, Cond.selects RX8 yX8_wipe yX8_wipe, Cond.code yX8_wipe cX8_wipe 3 (some .int), Cond.methodLink RL 36 yX7_slots, Cond.instanceMethod yX7_slots, Cond.selects RX7 yX7_slots yX7_slots, Cond.code yX7_slots cX7_slots 3 (some .int), Cond.fieldLink RX7 106 "LetteredRock$Ring" "slotCount" "I", Cond.methodLink RL 39 yX8_slots, Cond.instanceMethod yX8_slots, Cond.selects RX8 yX8_slots yX8_slots]
def wsL_law_r9 : List Cond := [Cond.code yX8_slots cX8_slots 3 (some .int), Cond.constantLong RX8 92 (60), Cond.methodLink RL 40 yX7_gap, Cond.instanceMethod yX7_gap, Cond.selects RX7 yX7_gap yX7_gap, Cond.code yX7_gap cX7_gap 3 (some .int), Cond.fieldLink RX7 109 "LetteredRock$Ring" "gapWidth" "I", Cond.methodLink RL 43 yX8_gap, Cond.instanceMethod yX8_gap, Cond.selects RX8 yX8_gap yX8_gap, Cond.code yX8_gap cX8_gap 3 (some .int), Cond.constantLong RX8 94 (3), Cond.methodLink RL 44 yX7_wide, Cond.instanceMethod yX7_wide, Cond.selects RX7 yX7_wide yX7_wide, Cond.code yX7_wide cX7_wide 3 (some .int), Cond.methodLink RX7 112 yX3_widthOf, Cond.instanceMethod yX3_widthOf, Cond.selects RX3 yX3_widthOf yX3_widthOf, Cond.code yX3_widthOf cX3_widthOf 4 (some .int), Cond.fieldLink RX3 22 "LetteredRock$Word" "size" "I", Cond.fieldLink RX3 27 "LetteredRock$Word" "letters" "[LLetteredRock$Letter;", Cond.fieldLink RX3 31 "LetteredRock$Letter" "width" "I", Cond.methodLink RL 47 yX8_wide]
def wsL_law_r10 : List Cond := [Cond.instanceMethod yX8_wide, Cond.selects RX8 yX8_wide yX8_wide, Cond.code yX8_wide cX8_wide 2 (some .int), Cond.methodLink RX8 96 yX8_wideOf, Cond.instanceMethod yX8_wideOf, Cond.selects RX8 yX8_wideOf yX8_wideOf, Cond.code yX8_wideOf cX8_wideOf 4 (some .int), Cond.methodLink RL 48 yX7_longest, Cond.instanceMethod yX7_longest, Cond.selects RX7 yX7_longest yX7_longest, Cond.code yX7_longest cX7_longest 3 (some .int), Cond.methodLink RX7 116 yX3_fits, Cond.instanceMethod yX3_fits, Cond.selects RX3 yX3_fits yX3_fits, Cond.code yX3_fits cX3_fits 2 (some .boolean), Cond.methodLink RX3 36 yX3_widthOf, Cond.methodLink RX7 120 yX7_isLonger, Cond.instanceMethod yX7_isLonger, Cond.selects RX7 yX7_isLonger yX7_isLonger, Cond.code yX7_isLonger cX7_isLonger 3 (some .boolean), Cond.methodLink RL 52 yX8_longest, Cond.instanceMethod yX8_longest, Cond.selects RX8 yX8_longest yX8_longest, Cond.code yX8_longest cX8_longest 3 (some .int)]
def wsL_law_r11 : List Cond := [Cond.methodLink RX8 100 yX8_fits, Cond.instanceMethod yX8_fits, Cond.selects RX8 yX8_fits yX8_fits, Cond.code yX8_fits cX8_fits 2 (some .boolean), Cond.methodLink RL 53 yX7_cut, Cond.instanceMethod yX7_cut, Cond.selects RX7 yX7_cut yX7_cut, Cond.code yX7_cut cX7_cut 7 (some .int), Cond.methodLink RX7 124 yX3_lay, Cond.instanceMethod yX3_lay, Cond.selects RX3 yX3_lay yX3_lay, Cond.code yX3_lay cX3_lay 6 none, Cond.fieldLink RX3 46 "LetteredRock$Letter" "strips" "[I", Cond.methodLink RX3 40 yJ7_fill_53178, Cond.static yJ7_fill_53178, Cond.initialized RJ7, Cond.code yJ7_fill_53178 cJ7_fill_53178 4 none, Cond.methodLink RX7 128 yX3_seen, Cond.instanceMethod yX3_seen, Cond.selects RX3 yX3_seen yX3_seen, Cond.code yX3_seen cX3_seen 5 (some .int), Cond.methodLink RX3 49 yX3_slotSeen, Cond.instanceMethod yX3_slotSeen, Cond.selects RX3 yX3_slotSeen yX3_slotSeen]
def wsL_law_r12 : List Cond := [Cond.code yX3_slotSeen cX3_slotSeen 5 (some .int), Cond.methodLink RX3 53 yX3_upsideDown, Cond.static yX3_upsideDown, Cond.code yX3_upsideDown cX3_upsideDown 3 (some .int), Cond.methodLink RL 57 yX8_cut, Cond.instanceMethod yX8_cut, Cond.selects RX8 yX8_cut yX8_cut, Cond.code yX8_cut cX8_cut 5 (some .int), Cond.methodLink RX8 106 yX8_lay, Cond.instanceMethod yX8_lay, Cond.selects RX8 yX8_lay yX8_lay, Cond.code yX8_lay cX8_lay 6 none, Cond.methodLink RX8 110 yX8_cutAt, Cond.instanceMethod yX8_cutAt, Cond.selects RX8 yX8_cutAt yX8_cutAt, Cond.code yX8_cutAt cX8_cutAt 5 (some .int), Cond.methodLink RX8 103 yX8_upsideDown, Cond.static yX8_upsideDown, Cond.code yX8_upsideDown cX8_upsideDown 3 (some .int), Cond.methodLink RL 58 yX7_readings, Cond.instanceMethod yX7_readings, Cond.selects RX7 yX7_readings yX7_readings, Cond.code yX7_readings cX7_readings 5 (some .int), Cond.methodLink RX7 132 yX7_troubleOfSheet]
def wsL_law_r13 : List Cond := [Cond.instanceMethod yX7_troubleOfSheet, Cond.selects RX7 yX7_troubleOfSheet yX7_troubleOfSheet, Cond.code yX7_troubleOfSheet cX7_troubleOfSheet 2 (some .int), Cond.fieldLink RX7 279 "LetteredRock$Sheet" "isLost" "Z", Cond.methodLink RX7 266 yX7_isSheet, Cond.static yX7_isSheet, Cond.code yX7_isSheet cX7_isSheet 1 (some .boolean), Cond.methodLink RX7 272 yX7_finding, Cond.instanceMethod yX7_finding, Cond.selects RX7 yX7_finding yX7_finding, Cond.code yX7_finding cX7_finding 2 (some .int), Cond.methodLink RX7 136 yX7_readingsOfWord, Cond.instanceMethod yX7_readingsOfWord, Cond.selects RX7 yX7_readingsOfWord yX7_readingsOfWord, Cond.code yX7_readingsOfWord cX7_readingsOfWord 3 (some .int), Cond.methodLink RX7 144 yX3_countReadings, Cond.instanceMethod yX3_countReadings, Cond.selects RX3 yX3_countReadings yX3_countReadings, Cond.code yX3_countReadings cX3_countReadings 5 (some .int), Cond.methodLink RX3 76 yX3_agrees, Cond.instanceMethod yX3_agrees, Cond.selects RX3 yX3_agrees yX3_agrees, Cond.code yX3_agrees cX3_agrees 7 (some .boolean), Cond.fieldLink RX3 57 "LetteredRock$Sheet" "size" "I"]
def wsL_law_r14 : List Cond := [Cond.methodLink RX3 60 Lib.Math.min.name, Cond.static Lib.Math.min.name, Cond.initialized "java/lang/Math", Cond.code Lib.Math.min.name Lib.Math.min.code 2 (some .int), Cond.fieldLink RX3 66 "LetteredRock$Sheet" "items" "[I", Cond.methodLink RX3 73 yX3_seen, Cond.methodLink RL 61 yX8_readings, Cond.instanceMethod yX8_readings, Cond.selects RX8 yX8_readings yX8_readings, Cond.code yX8_readings cX8_readings 3 (some .int), Cond.fieldLink RX8 117 "LetteredRockModel" "foundMany" "I", Cond.methodLink RX8 133 yX8_lacks, Cond.instanceMethod yX8_lacks, Cond.selects RX8 yX8_lacks yX8_lacks, Cond.code yX8_lacks cX8_lacks 2 (some .int), Cond.methodLink RX8 127 yX8_isSheet, Cond.static yX8_isSheet, Cond.code yX8_isSheet cX8_isSheet 1 (some .boolean), Cond.methodLink RX8 130 yX8_met, Cond.instanceMethod yX8_met, Cond.selects RX8 yX8_met yX8_met, Cond.code yX8_met cX8_met 2 (some .int), Cond.fieldLink RX8 183 "LetteredRockModel" "latest" "I", Cond.methodLink RX8 136 yX8_findReadings]
def wsL_law_r15 : List Cond := [Cond.instanceMethod yX8_findReadings, Cond.selects RX8 yX8_findReadings yX8_findReadings, Cond.code yX8_findReadings cX8_findReadings 6 none, Cond.fieldLink RX8 114 "LetteredRockModel" "found" "I", Cond.fieldLink RX8 120 "LetteredRockModel" "foundWords" "I", Cond.methodLink RX8 123 yX8_isReading, Cond.instanceMethod yX8_isReading, Cond.selects RX8 yX8_isReading yX8_isReading, Cond.code yX8_isReading cX8_isReading 7 (some .boolean), Cond.methodLink RL 62 yX7_reading, Cond.instanceMethod yX7_reading, Cond.selects RX7 yX7_reading yX7_reading, Cond.code yX7_reading cX7_reading 7 (some .int), Cond.methodLink RX7 140 yX3_readingOf, Cond.instanceMethod yX3_readingOf, Cond.selects RX3 yX3_readingOf yX3_readingOf, Cond.code yX3_readingOf cX3_readingOf 6 (some .int), Cond.methodLink RL 65 yX8_reading, Cond.instanceMethod yX8_reading, Cond.selects RX8 yX8_reading yX8_reading, Cond.code yX8_reading cX8_reading 4 (some .int), Cond.methodLink RL 66 yX7_words, Cond.instanceMethod yX7_words, Cond.selects RX7 yX7_words yX7_words]
def wsL_law_r16 : List Cond := [Cond.code yX7_words cX7_words 5 (some .int), Cond.methodLink RL 69 yX8_words, Cond.instanceMethod yX8_words, Cond.selects RX8 yX8_words yX8_words, Cond.code yX8_words cX8_words 3 (some .int), Cond.methodLink RL 70 yX7_order, Cond.instanceMethod yX7_order, Cond.selects RX7 yX7_order yX7_order, Cond.code yX7_order cX7_order 4 (some .int), Cond.methodLink RX7 148 yX6_placeInOrder, Cond.instanceMethod yX6_placeInOrder, Cond.selects RX6 yX6_placeInOrder yX6_placeInOrder, Cond.code yX6_placeInOrder cX6_placeInOrder 3 (some .int), Cond.methodLink RX6 24 yX6_rankOf, Cond.instanceMethod yX6_rankOf, Cond.selects RX6 yX6_rankOf yX6_rankOf, Cond.code yX6_rankOf cX6_rankOf 4 (some .int), Cond.methodLink RX6 28 yX6_isLaidBefore, Cond.instanceMethod yX6_isLaidBefore, Cond.selects RX6 yX6_isLaidBefore yX6_isLaidBefore, Cond.code yX6_isLaidBefore cX6_isLaidBefore 5 (some .boolean), Cond.fieldLink RX6 21 "LetteredRock$Letter" "soft" "I", Cond.methodLink RL 73 yX8_order, Cond.instanceMethod yX8_order]
def wsL_law_r17 : List Cond := [Cond.selects RX8 yX8_order yX8_order, Cond.code yX8_order cX8_order 3 (some .int), Cond.methodLink RX8 146 yX8_findOrder, Cond.instanceMethod yX8_findOrder, Cond.selects RX8 yX8_findOrder yX8_findOrder, Cond.code yX8_findOrder cX8_findOrder 6 none, Cond.fieldLink RX8 140 "LetteredRockModel" "worst" "I", Cond.fieldLink RX8 143 "LetteredRockModel" "lateMany" "I", Cond.methodLink RL 74 yX7_late, Cond.instanceMethod yX7_late, Cond.selects RX7 yX7_late yX7_late, Cond.code yX7_late cX7_late 3 (some .int), Cond.methodLink RX7 151 yX6_greatestLate, Cond.instanceMethod yX6_greatestLate, Cond.selects RX6 yX6_greatestLate yX6_greatestLate, Cond.code yX6_greatestLate cX6_greatestLate 3 (some .int), Cond.methodLink RX6 38 Lib.Math.max.name, Cond.static Lib.Math.max.name, Cond.code Lib.Math.max.name Lib.Math.max.code 2 (some .int), Cond.methodLink RX6 35 yX6_lateAt, Cond.instanceMethod yX6_lateAt, Cond.selects RX6 yX6_lateAt yX6_lateAt, Cond.code yX6_lateAt cX6_lateAt 4 (some .int), Cond.fieldLink RX6 32 "LetteredRock$Letter" "minutes" "I"]
def wsL_law_r18 : List Cond := [Cond.methodLink RL 77 yX8_late, Cond.instanceMethod yX8_late, Cond.selects RX8 yX8_late yX8_late, Cond.code yX8_late cX8_late 2 (some .int), Cond.methodLink RL 78 yX7_spoiled, Cond.instanceMethod yX7_spoiled, Cond.selects RX7 yX7_spoiled yX7_spoiled, Cond.code yX7_spoiled cX7_spoiled 3 (some .int), Cond.methodLink RX7 155 yX6_countLate, Cond.instanceMethod yX6_countLate, Cond.selects RX6 yX6_countLate yX6_countLate, Cond.code yX6_countLate cX6_countLate 3 (some .int), Cond.methodLink RL 81 yX8_spoiled, Cond.instanceMethod yX8_spoiled, Cond.selects RX8 yX8_spoiled yX8_spoiled, Cond.code yX8_spoiled cX8_spoiled 2 (some .int), Cond.methodLink RL 82 yX7_set, Cond.instanceMethod yX7_set, Cond.selects RX7 yX7_set yX7_set, Cond.code yX7_set cX7_set 4 (some .int), Cond.fieldLink RX7 158 "LetteredRock" "LEAST_SETTING" "[I", Cond.fieldLink RX7 161 "LetteredRock" "MOST_SETTING" "[I", Cond.methodLink RL 85 yX8_set, Cond.instanceMethod yX8_set]
def wsL_law_r19 : List Cond := [Cond.selects RX8 yX8_set yX8_set, Cond.code yX8_set cX8_set 5 (some .int), Cond.constantLong RX8 149 (200), Cond.constantLong RX8 151 (1000), Cond.constantLong RX8 153 (100), Cond.methodLink RL 86 yX7_lump, Cond.instanceMethod yX7_lump, Cond.selects RX7 yX7_lump yX7_lump, Cond.code yX7_lump cX7_lump 9 (some .int), Cond.classLink RX7 174 RX1, Cond.instantiable RX1 6, Cond.initialized RX1, Cond.fieldLink RX7 176 "LetteredRock$LumpBook" "stickCount" "I", Cond.methodLink RX7 164 yX2_latestDay, Cond.instanceMethod yX2_latestDay, Cond.selects RX2 yX2_latestDay yX2_latestDay, Cond.code yX2_latestDay cX2_latestDay 1 (some .int), Cond.fieldLink RX2 39 "LetteredRock$Lump" "day" "I", Cond.methodLink RX7 167 yX2_isFull, Cond.instanceMethod yX2_isFull, Cond.selects RX2 yX2_isFull yX2_isFull, Cond.code yX2_isFull cX2_isFull 1 (some .boolean), Cond.methodLink RX7 171 yX7_sticksOf, Cond.instanceMethod yX7_sticksOf]
def wsL_law_r20 : List Cond := [Cond.selects RX7 yX7_sticksOf yX7_sticksOf, Cond.code yX7_sticksOf cX7_sticksOf 4 (some .int), Cond.methodLink RX7 179 yX1_init, Cond.instanceMethod yX1_init, Cond.code yX1_init cX1_init 7 none, Cond.methodLink RX1 3 objectInit, Cond.fieldLink RX1 9 "LetteredRock$Lump" "word" "I", Cond.fieldLink RX1 15 "LetteredRock$Lump" "hand" "I", Cond.fieldLink RX1 18 "LetteredRock$Lump" "day" "I", Cond.fieldLink RX1 21 "LetteredRock$Lump" "firstStick" "I", Cond.fieldLink RX1 24 "LetteredRock$Lump" "sticks" "I", Cond.fieldLink RX1 27 "LetteredRock$Lump" "scrap" "I", Cond.methodLink RX7 182 yX2_enter, Cond.instanceMethod yX2_enter, Cond.selects RX2 yX2_enter yX2_enter, Cond.code yX2_enter cX2_enter 2 none, Cond.fieldLink RX2 31 "LetteredRock$Lump" "sticks" "I", Cond.fieldLink RX2 34 "LetteredRock$Lump" "scrap" "I", Cond.methodLink RX2 27 yX2_isFull, Cond.methodLink RL 89 yX8_lump, Cond.instanceMethod yX8_lump, Cond.selects RX8 yX8_lump yX8_lump, Cond.code yX8_lump cX8_lump 9 (some .int), Cond.fieldLink RX8 155 "LetteredRockModel" "lumps" "I"]
def wsL_law_r21 : List Cond := [Cond.constantLong RX8 158 (999), Cond.fieldLink RX8 160 "LetteredRockModel" "sticks" "I", Cond.fieldLink RX8 163 "LetteredRockModel" "scrap" "I", Cond.methodLink RL 90 yX7_made, Cond.instanceMethod yX7_made, Cond.selects RX7 yX7_made yX7_made, Cond.code yX7_made cX7_made 4 (some .int), Cond.fieldLink RX7 190 "LetteredRock$Lump" "word" "I", Cond.fieldLink RX7 193 "LetteredRock$Lump" "hand" "I", Cond.fieldLink RX7 196 "LetteredRock$Lump" "day" "I", Cond.fieldLink RX7 199 "LetteredRock$Lump" "firstStick" "I", Cond.fieldLink RX7 202 "LetteredRock$Lump" "sticks" "I", Cond.fieldLink RX7 205 "LetteredRock$Lump" "scrap" "I", Cond.methodLink RX7 186 yX2_lumpAt, Cond.instanceMethod yX2_lumpAt, Cond.selects RX2 yX2_lumpAt yX2_lumpAt, Cond.code yX2_lumpAt cX2_lumpAt 2 (some (.object "LetteredRock$Lump")), Cond.methodLink RL 93 yX8_made, Cond.instanceMethod yX8_made, Cond.selects RX8 yX8_made yX8_made, Cond.code yX8_made cX8_made 3 (some .int), Cond.methodLink RL 94 yX7_trace, Cond.instanceMethod yX7_trace, Cond.selects RX7 yX7_trace yX7_trace]
def wsL_law_r22 : List Cond := [Cond.code yX7_trace cX7_trace 3 (some .int), Cond.methodLink RX7 208 yX2_lumpOfStick, Cond.instanceMethod yX2_lumpOfStick, Cond.selects RX2 yX2_lumpOfStick yX2_lumpOfStick, Cond.code yX2_lumpOfStick cX2_lumpOfStick 3 (some .int), Cond.methodLink RX2 42 yX1_gave, Cond.instanceMethod yX1_gave, Cond.selects RX1 yX1_gave yX1_gave, Cond.code yX1_gave cX1_gave 2 (some .boolean), Cond.methodLink RL 97 yX8_trace, Cond.instanceMethod yX8_trace, Cond.selects RX8 yX8_trace yX8_trace, Cond.code yX8_trace cX8_trace 3 (some .int), Cond.methodLink RL 98 yX7_recall, Cond.instanceMethod yX7_recall, Cond.selects RX7 yX7_recall yX7_recall, Cond.code yX7_recall cX7_recall 4 (some .int), Cond.methodLink RX7 211 yX7_isSpan, Cond.static yX7_isSpan, Cond.code yX7_isSpan cX7_isSpan 3 (some .boolean), Cond.methodLink RX7 214 yX2_countSticks, Cond.instanceMethod yX2_countSticks, Cond.selects RX2 yX2_countSticks yX2_countSticks, Cond.code yX2_countSticks cX2_countSticks 6 (some .int)]
def wsL_law_r23 : List Cond := [Cond.methodLink RX2 46 yX1_isRecalled, Cond.instanceMethod yX1_isRecalled, Cond.selects RX1 yX1_isRecalled yX1_isRecalled, Cond.code yX1_isRecalled cX1_isRecalled 4 (some .boolean), Cond.methodLink RL 101 yX8_recall, Cond.instanceMethod yX8_recall, Cond.selects RX8 yX8_recall yX8_recall, Cond.code yX8_recall cX8_recall 7 (some .int), Cond.constantLong RX8 166 (-1), Cond.methodLink RL 102 yX7_foretold, Cond.instanceMethod yX7_foretold, Cond.selects RX7 yX7_foretold yX7_foretold, Cond.code yX7_foretold cX7_foretold 6 (some .int), Cond.methodLink RX7 223 Lib.Math.min.name, Cond.methodLink RX7 229 Lib.Math.max.name, Cond.methodLink RX7 217 yX7_isWeek, Cond.static yX7_isWeek, Cond.code yX7_isWeek cX7_isWeek 1 (some .boolean), Cond.methodLink RX7 220 yX4_wantAt, Cond.instanceMethod yX4_wantAt, Cond.selects RX4 yX4_wantAt yX4_wantAt, Cond.code yX4_wantAt cX4_wantAt 2 (some .int), Cond.methodLink RX4 36 yX4_hasItem, Cond.instanceMethod yX4_hasItem]
def wsL_law_r24 : List Cond := [Cond.selects RX4 yX4_hasItem yX4_hasItem, Cond.code yX4_hasItem cX4_hasItem 2 (some .boolean), Cond.methodLink RL 105 yX8_foretold, Cond.instanceMethod yX8_foretold, Cond.selects RX8 yX8_foretold yX8_foretold, Cond.code yX8_foretold cX8_foretold 2 (some .int), Cond.methodLink RX8 171 yX8_isWeek, Cond.static yX8_isWeek, Cond.code yX8_isWeek cX8_isWeek 1 (some .boolean), Cond.constantLong RX8 168 (51), Cond.methodLink RX8 174 yX8_foretoldOf, Cond.instanceMethod yX8_foretoldOf, Cond.selects RX8 yX8_foretoldOf yX8_foretoldOf, Cond.code yX8_foretoldOf cX8_foretoldOf 8 (some .int), Cond.constant RX8 170 (2147483647), Cond.methodLink RL 106 yX7_damp, Cond.instanceMethod yX7_damp, Cond.selects RX7 yX7_damp yX7_damp, Cond.code yX7_damp cX7_damp 3 (some .int), Cond.methodLink RL 110 yX8_damp, Cond.instanceMethod yX8_damp, Cond.selects RX8 yX8_damp yX8_damp, Cond.code yX8_damp cX8_damp 3 (some .int), Cond.methodLink RL 111 yX7_make]
def wsL_law_r25 : List Cond := [Cond.instanceMethod yX7_make, Cond.selects RX7 yX7_make yX7_make, Cond.code yX7_make cX7_make 4 (some .int), Cond.methodLink RL 114 yX8_make, Cond.instanceMethod yX8_make, Cond.selects RX8 yX8_make yX8_make, Cond.code yX8_make cX8_make 4 (some .int), Cond.constantLong RX8 177 (10000), Cond.methodLink RL 115 yX7_stock, Cond.instanceMethod yX7_stock, Cond.selects RX7 yX7_stock yX7_stock, Cond.code yX7_stock cX7_stock 6 (some .int), Cond.constant RX7 232 (100000), Cond.fieldLink RX7 246 "LetteredRock$StockRun" "left" "J", Cond.fieldLink RX7 254 "LetteredRock$StockRun" "lacking" "J", Cond.fieldLink RX7 257 "LetteredRock$StockRun" "lost" "J", Cond.fieldLink RX7 260 "LetteredRock$StockRun" "firstShort" "I", Cond.methodLink RX7 233 yX5_beginWith, Cond.instanceMethod yX5_beginWith, Cond.selects RX5 yX5_beginWith yX5_beginWith, Cond.code yX5_beginWith cX5_beginWith 2 none, Cond.fieldLink RX5 9 "LetteredRock$StockRun" "left" "J", Cond.fieldLink RX5 15 "LetteredRock$StockRun" "lacking" "J", Cond.fieldLink RX5 18 "LetteredRock$StockRun" "lost" "J"]
def wsL_law_r26 : List Cond := [Cond.fieldLink RX5 21 "LetteredRock$StockRun" "firstShort" "I", Cond.methodLink RX7 237 yX7_foretold, Cond.methodLink RX7 240 yX5_supply, Cond.instanceMethod yX5_supply, Cond.selects RX5 yX5_supply yX5_supply, Cond.code yX5_supply cX5_supply 4 none, Cond.methodLink RX7 243 yX5_soften, Cond.instanceMethod yX5_soften, Cond.selects RX5 yX5_soften yX5_soften, Cond.code yX5_soften cX5_soften 4 none, Cond.constantLong RX5 25 (100), Cond.methodLink RX7 250 yX7_atMostInt, Cond.static yX7_atMostInt, Cond.code yX7_atMostInt cX7_atMostInt 2 (some .int), Cond.constantLong RX7 333 (2147483647), Cond.methodLink RX7 335 Lib.MathLoose.min_long.x, Cond.static Lib.MathLoose.min_long.x, Cond.code Lib.MathLoose.min_long.x Lib.MathLoose.min_long.code 4 (some .long), Cond.methodLink RL 118 yX8_stock, Cond.instanceMethod yX8_stock, Cond.selects RX8 yX8_stock yX8_stock, Cond.code yX8_stock cX8_stock 15 (some .int), Cond.constantLong RX8 179 (100000), Cond.constantLong RX8 181 (2147483647)]
def wsL_law_r27 : List Cond := [Cond.methodLink RL 119 yX7_ahead, Cond.instanceMethod yX7_ahead, Cond.selects RX7 yX7_ahead yX7_ahead, Cond.code yX7_ahead cX7_ahead 9 (some .int), Cond.methodLink RX7 263 Lib.MathLoose.max_long.x, Cond.static Lib.MathLoose.max_long.x, Cond.code Lib.MathLoose.max_long.x Lib.MathLoose.max_long.code 4 (some .long), Cond.methodLink RL 122 yX8_ahead, Cond.instanceMethod yX8_ahead, Cond.selects RX8 yX8_ahead yX8_ahead, Cond.code yX8_ahead cX8_ahead 9 (some .int), Cond.methodLink RL 123 yX7_sheet, Cond.instanceMethod yX7_sheet, Cond.selects RX7 yX7_sheet yX7_sheet, Cond.code yX7_sheet cX7_sheet 4 (some .int), Cond.methodLink RX7 269 yX7_isForm, Cond.static yX7_isForm, Cond.code yX7_isForm cX7_isForm 1 (some .boolean), Cond.methodLink RX7 275 yX4_renew, Cond.instanceMethod yX4_renew, Cond.selects RX4 yX4_renew yX4_renew, Cond.code yX4_renew cX4_renew 3 none, Cond.methodLink RX4 26 yJ7_fill_53178, Cond.methodLink RL 126 yX8_sheet]
def wsL_law_r28 : List Cond := [Cond.instanceMethod yX8_sheet, Cond.selects RX8 yX8_sheet yX8_sheet, Cond.code yX8_sheet cX8_sheet 5 (some .int), Cond.constantLong RX8 186 (2), Cond.methodLink RL 127 yX7_lose, Cond.instanceMethod yX7_lose, Cond.selects RX7 yX7_lose yX7_lose, Cond.code yX7_lose cX7_lose 3 (some .int), Cond.fieldLink RX7 283 "LetteredRock$Sheet" "size" "I", Cond.methodLink RL 130 yX8_lose, Cond.instanceMethod yX8_lose, Cond.selects RX8 yX8_lose yX8_lose, Cond.code yX8_lose cX8_lose 2 (some .int), Cond.methodLink RL 131 yX7_put, Cond.instanceMethod yX7_put, Cond.selects RX7 yX7_put yX7_put, Cond.code yX7_put cX7_put 6 (some .int), Cond.methodLink RX7 284 yX7_troubleOfItem, Cond.instanceMethod yX7_troubleOfItem, Cond.selects RX7 yX7_troubleOfItem yX7_troubleOfItem, Cond.code yX7_troubleOfItem cX7_troubleOfItem 5 (some .int), Cond.fieldLink RX7 296 "LetteredRock$Sheet" "form" "I", Cond.methodLink RX7 337 yX4_hasItem, Cond.methodLink RX7 287 yX4_write]
def wsL_law_r29 : List Cond := [Cond.instanceMethod yX4_write, Cond.selects RX4 yX4_write yX4_write, Cond.code yX4_write cX4_write 3 none, Cond.methodLink RL 134 yX8_put, Cond.instanceMethod yX8_put, Cond.selects RX8 yX8_put yX8_put, Cond.code yX8_put cX8_put 6 (some .int), Cond.methodLink RX8 188 yX8_lacksItem, Cond.instanceMethod yX8_lacksItem, Cond.selects RX8 yX8_lacksItem yX8_lacksItem, Cond.code yX8_lacksItem cX8_lacksItem 4 (some .int), Cond.methodLink RL 135 yX7_get, Cond.instanceMethod yX7_get, Cond.selects RX7 yX7_get yX7_get, Cond.code yX7_get cX7_get 4 (some .int), Cond.constant RX7 292 (-2147483648), Cond.fieldLink RX7 293 "LetteredRock$Sheet" "items" "[I", Cond.methodLink RL 138 yX8_get, Cond.instanceMethod yX8_get, Cond.selects RX8 yX8_get yX8_get, Cond.code yX8_get cX8_get 4 (some .int), Cond.constant RX8 191 (-2147483648), Cond.methodLink RL 139 yX7_copy, Cond.instanceMethod yX7_copy]
def wsL_law_r30 : List Cond := [Cond.selects RX7 yX7_copy yX7_copy, Cond.code yX7_copy cX7_copy 8 (some .int), Cond.methodLink RX7 303 arraycopyName, Cond.native arraycopyName, Cond.static arraycopyName, Cond.initialized "java/lang/System", Cond.methodLink RX7 299 yX4_hasRun, Cond.instanceMethod yX4_hasRun, Cond.selects RX4 yX4_hasRun yX4_hasRun, Cond.code yX4_hasRun cX4_hasRun 3 (some .boolean), Cond.methodLink RL 143 yX8_copy, Cond.instanceMethod yX8_copy, Cond.selects RX8 yX8_copy yX8_copy, Cond.code yX8_copy cX8_copy 7 (some .int), Cond.methodLink RL 144 yX7_count, Cond.instanceMethod yX7_count, Cond.selects RX7 yX7_count yX7_count, Cond.code yX7_count cX7_count 2 (some .int), Cond.fieldLink RX7 312 "LetteredRock$LumpBook" "size" "I", Cond.fieldLink RX7 313 "LetteredRock$LumpBook" "scrap" "I", Cond.methodLink RX7 309 yX7_countFitting, Cond.instanceMethod yX7_countFitting, Cond.selects RX7 yX7_countFitting yX7_countFitting, Cond.code yX7_countFitting cX7_countFitting 3 (some .int)]
def wsL_law_r31 : List Cond := [Cond.methodLink RX7 314 yX7_countDamp, Cond.instanceMethod yX7_countDamp, Cond.selects RX7 yX7_countDamp yX7_countDamp, Cond.code yX7_countDamp cX7_countDamp 3 (some .int), Cond.methodLink RL 147 yX8_count, Cond.instanceMethod yX8_count, Cond.selects RX8 yX8_count yX8_count, Cond.code yX8_count cX8_count 4 (some .int), Cond.methodLink RL 148 yX7_digest, Cond.instanceMethod yX7_digest, Cond.selects RX7 yX7_digest yX7_digest, Cond.code yX7_digest cX7_digest 5 (some .long), Cond.constantLong RX7 317 (17), Cond.constantLong RX7 319 (31), Cond.methodLink RX7 321 yX7_count, Cond.methodLink RX7 324 yX7_wide, Cond.methodLink RX7 327 yX7_late, Cond.methodLink RX7 330 yX7_made, Cond.methodLink RL 152 yX8_digest, Cond.instanceMethod yX8_digest, Cond.selects RX8 yX8_digest yX8_digest, Cond.code yX8_digest cX8_digest 4 (some .long), Cond.constantLong RX8 192 (17), Cond.methodLink RX8 194 yX8_count]
def wsL_law : List Cond := (wsL_law_r1 ++ (wsL_law_r2 ++ (wsL_law_r3 ++ (wsL_law_r4 ++ (wsL_law_r5 ++ (wsL_law_r6 ++ (wsL_law_r7 ++ (wsL_law_r8 ++ (wsL_law_r9 ++ (wsL_law_r10 ++ (wsL_law_r11 ++ (wsL_law_r12 ++ (wsL_law_r13 ++ (wsL_law_r14 ++ (wsL_law_r15 ++ (wsL_law_r16 ++ (wsL_law_r17 ++ (wsL_law_r18 ++ (wsL_law_r19 ++ (wsL_law_r20 ++ (wsL_law_r21 ++ (wsL_law_r22 ++ (wsL_law_r23 ++ (wsL_law_r24 ++ (wsL_law_r25 ++ (wsL_law_r26 ++ (wsL_law_r27 ++ (wsL_law_r28 ++ (wsL_law_r29 ++ (wsL_law_r30 ++ wsL_law_r31)))))))))))))))))))))))))))))) ++ wsX70 ++ wsX80 ++ wsX60 ++ wsX30 ++ wsX20 ++ wsX50 ++ wsX40 ++ wsX00 ++ wsX10 ++ ([] : List Cond)
theorem inlX0 : ∀ w ∈ wsX00, w ∈ wsL_law := fun _ h => List.mem_append_left _ (List.mem_append_left _ (List.mem_append_right _ h))
theorem inlX1 : ∀ w ∈ wsX10, w ∈ wsL_law := fun _ h => List.mem_append_left _ (List.mem_append_right _ h)
theorem inlX2 : ∀ w ∈ wsX20, w ∈ wsL_law := fun _ h => List.mem_append_left _ (List.mem_append_left _ (List.mem_append_left _ (List.mem_append_left _ (List.mem_append_left _ (List.mem_append_right _ h)))))
theorem inlX3 : ∀ w ∈ wsX30, w ∈ wsL_law := fun _ h => List.mem_append_left _ (List.mem_append_left _ (List.mem_append_left _ (List.mem_append_left _ (List.mem_append_left _ (List.mem_append_left _ (List.mem_append_right _ h))))))
theorem inlX4 : ∀ w ∈ wsX40, w ∈ wsL_law := fun _ h => List.mem_append_left _ (List.mem_append_left _ (List.mem_append_left _ (List.mem_append_right _ h)))
theorem inlX5 : ∀ w ∈ wsX50, w ∈ wsL_law := fun _ h => List.mem_append_left _ (List.mem_append_left _ (List.mem_append_left _ (List.mem_append_left _ (List.mem_append_right _ h))))
theorem inlX6 : ∀ w ∈ wsX60, w ∈ wsL_law := fun _ h => List.mem_append_left _ (List.mem_append_left _ (List.mem_append_left _ (List.mem_append_left _ (List.mem_append_left _ (List.mem_append_left _ (List.mem_append_left _ (List.mem_append_right _ h)))))))
theorem inlX7 : ∀ w ∈ wsX70, w ∈ wsL_law := fun _ h => List.mem_append_left _ (List.mem_append_left _ (List.mem_append_left _ (List.mem_append_left _ (List.mem_append_left _ (List.mem_append_left _ (List.mem_append_left _ (List.mem_append_left _ (List.mem_append_left _ (List.mem_append_right _ h)))))))))
theorem inlX8 : ∀ w ∈ wsX80, w ∈ wsL_law := fun _ h => List.mem_append_left _ (List.mem_append_left _ (List.mem_append_left _ (List.mem_append_left _ (List.mem_append_left _ (List.mem_append_left _ (List.mem_append_left _ (List.mem_append_left _ (List.mem_append_right _ h))))))))
end
section
theorem dX0_init_0 : decode cX0_init 0 = .ok (.aload_n 0, 1) := by decide +kernel
theorem dX0_init_1 : decode cX0_init 1 = .ok (.invokespecial 3, 3) := by decide +kernel
theorem dX0_init_4 : decode cX0_init 4 = .ok (.aload_n 0, 1) := by decide +kernel
theorem dX0_init_5 : decode cX0_init 5 = .ok (.iload_n 1, 1) := by decide +kernel
theorem dX0_init_6 : decode cX0_init 6 = .ok (.putfield 9, 3) := by decide +kernel
theorem dX0_init_9 : decode cX0_init 9 = .ok (.aload_n 0, 1) := by decide +kernel
theorem dX0_init_10 : decode cX0_init 10 = .ok (.iload_n 2, 1) := by decide +kernel
theorem dX0_init_11 : decode cX0_init 11 = .ok (.putfield 15, 3) := by decide +kernel
theorem dX0_init_14 : decode cX0_init 14 = .ok (.aload_n 0, 1) := by decide +kernel
theorem dX0_init_15 : decode cX0_init 15 = .ok (.iload_n 3, 1) := by decide +kernel
theorem dX0_init_16 : decode cX0_init 16 = .ok (.putfield 18, 3) := by decide +kernel
theorem dX0_init_19 : decode cX0_init 19 = .ok (.aload_n 0, 1) := by decide +kernel
theorem dX0_init_20 : decode cX0_init 20 = .ok (.iconst 5, 1) := by decide +kernel
theorem dX0_init_21 : decode cX0_init 21 = .ok (.newarray .int, 2) := by decide +kernel
theorem dX0_init_23 : decode cX0_init 23 = .ok (.putfield 21, 3) := by decide +kernel
theorem dX0_init_26 : decode cX0_init 26 = .ok (.return_, 1) := by decide +kernel
set_option maxRecDepth 20000 in
theorem ggX0_hasStrip_X7_within : GoodIn wsX0_hasStrip wsX7_within := goodIn_r _ [4] (by decide +kernel) (by decide +kernel)
set_option maxRecDepth 20000 in
theorem gX0_hasStrip_X7_within_n25 : GoodIn wsX0_hasStrip (wsX7_within) := ggX0_hasStrip_X7_within
theorem dX0_hasStrip_0 : decode cX0_hasStrip 0 = .ok (.iload_n 1, 1) := by decide +kernel
theorem dX0_hasStrip_1 : decode cX0_hasStrip 1 = .ok (.iconst 0, 1) := by decide +kernel
theorem dX0_hasStrip_2 : decode cX0_hasStrip 2 = .ok (.aload_n 0, 1) := by decide +kernel
theorem dX0_hasStrip_3 : decode cX0_hasStrip 3 = .ok (.getfield 9, 3) := by decide +kernel
theorem dX0_hasStrip_6 : decode cX0_hasStrip 6 = .ok (.iconst 1, 1) := by decide +kernel
theorem dX0_hasStrip_7 : decode cX0_hasStrip 7 = .ok (.isub, 1) := by decide +kernel
theorem dX0_hasStrip_8 : decode cX0_hasStrip 8 = .ok (.invokestatic 25, 3) := by decide +kernel
theorem dX0_hasStrip_11 : decode cX0_hasStrip 11 = .ok (.ireturn, 1) := by decide +kernel
theorem dX1_init_0 : decode cX1_init 0 = .ok (.aload_n 0, 1) := by decide +kernel
theorem dX1_init_1 : decode cX1_init 1 = .ok (.invokespecial 3, 3) := by decide +kernel
theorem dX1_init_4 : decode cX1_init 4 = .ok (.aload_n 0, 1) := by decide +kernel
theorem dX1_init_5 : decode cX1_init 5 = .ok (.iload_n 1, 1) := by decide +kernel
theorem dX1_init_6 : decode cX1_init 6 = .ok (.putfield 9, 3) := by decide +kernel
theorem dX1_init_9 : decode cX1_init 9 = .ok (.aload_n 0, 1) := by decide +kernel
theorem dX1_init_10 : decode cX1_init 10 = .ok (.iload_n 2, 1) := by decide +kernel
theorem dX1_init_11 : decode cX1_init 11 = .ok (.putfield 15, 3) := by decide +kernel
theorem dX1_init_14 : decode cX1_init 14 = .ok (.aload_n 0, 1) := by decide +kernel
theorem dX1_init_15 : decode cX1_init 15 = .ok (.iload_n 3, 1) := by decide +kernel
theorem dX1_init_16 : decode cX1_init 16 = .ok (.putfield 18, 3) := by decide +kernel
theorem dX1_init_19 : decode cX1_init 19 = .ok (.aload_n 0, 1) := by decide +kernel
theorem dX1_init_20 : decode cX1_init 20 = .ok (.iload 4, 2) := by decide +kernel
theorem dX1_init_22 : decode cX1_init 22 = .ok (.putfield 21, 3) := by decide +kernel
theorem dX1_init_25 : decode cX1_init 25 = .ok (.aload_n 0, 1) := by decide +kernel
theorem dX1_init_26 : decode cX1_init 26 = .ok (.iload 5, 2) := by decide +kernel
theorem dX1_init_28 : decode cX1_init 28 = .ok (.putfield 24, 3) := by decide +kernel
theorem dX1_init_31 : decode cX1_init 31 = .ok (.aload_n 0, 1) := by decide +kernel
theorem dX1_init_32 : decode cX1_init 32 = .ok (.iload 6, 2) := by decide +kernel
theorem dX1_init_34 : decode cX1_init 34 = .ok (.putfield 27, 3) := by decide +kernel
theorem dX1_init_37 : decode cX1_init 37 = .ok (.return_, 1) := by decide +kernel
theorem dX1_gave_0 : decode cX1_gave 0 = .ok (.iload_n 1, 1) := by decide +kernel
theorem dX1_gave_1 : decode cX1_gave 1 = .ok (.aload_n 0, 1) := by decide +kernel
theorem dX1_gave_2 : decode cX1_gave 2 = .ok (.getfield 21, 3) := by decide +kernel
theorem dX1_gave_5 : decode cX1_gave 5 = .ok (.if_icmp .lt 20, 3) := by decide +kernel
theorem dX1_gave_8 : decode cX1_gave 8 = .ok (.iload_n 1, 1) := by decide +kernel
theorem dX1_gave_9 : decode cX1_gave 9 = .ok (.aload_n 0, 1) := by decide +kernel
theorem dX1_gave_10 : decode cX1_gave 10 = .ok (.getfield 21, 3) := by decide +kernel
theorem dX1_gave_13 : decode cX1_gave 13 = .ok (.aload_n 0, 1) := by decide +kernel
theorem dX1_gave_14 : decode cX1_gave 14 = .ok (.getfield 24, 3) := by decide +kernel
theorem dX1_gave_17 : decode cX1_gave 17 = .ok (.iadd, 1) := by decide +kernel
theorem dX1_gave_18 : decode cX1_gave 18 = .ok (.if_icmp .ge 7, 3) := by decide +kernel
theorem dX1_gave_21 : decode cX1_gave 21 = .ok (.iconst 1, 1) := by decide +kernel
theorem dX1_gave_22 : decode cX1_gave 22 = .ok (.goto 4, 3) := by decide +kernel
theorem dX1_gave_25 : decode cX1_gave 25 = .ok (.iconst 0, 1) := by decide +kernel
theorem dX1_gave_26 : decode cX1_gave 26 = .ok (.ireturn, 1) := by decide +kernel
set_option maxRecDepth 20000 in
theorem ggX1_isRecalled_X7_within : GoodIn wsX1_isRecalled wsX7_within := goodIn_r _ [5] (by decide +kernel) (by decide +kernel)
set_option maxRecDepth 20000 in
theorem gX1_isRecalled_X7_within_n30 : GoodIn wsX1_isRecalled (wsX7_within) := ggX1_isRecalled_X7_within
theorem dX1_isRecalled_0 : decode cX1_isRecalled 0 = .ok (.iload_n 1, 1) := by decide +kernel
theorem dX1_isRecalled_1 : decode cX1_isRecalled 1 = .ok (.iconst (-1), 1) := by decide +kernel
theorem dX1_isRecalled_2 : decode cX1_isRecalled 2 = .ok (.if_icmp .eq 11, 3) := by decide +kernel
theorem dX1_isRecalled_5 : decode cX1_isRecalled 5 = .ok (.iload_n 1, 1) := by decide +kernel
theorem dX1_isRecalled_6 : decode cX1_isRecalled 6 = .ok (.aload_n 0, 1) := by decide +kernel
theorem dX1_isRecalled_7 : decode cX1_isRecalled 7 = .ok (.getfield 15, 3) := by decide +kernel
theorem dX1_isRecalled_10 : decode cX1_isRecalled 10 = .ok (.if_icmp .ne 19, 3) := by decide +kernel
theorem dX1_isRecalled_13 : decode cX1_isRecalled 13 = .ok (.aload_n 0, 1) := by decide +kernel
theorem dX1_isRecalled_14 : decode cX1_isRecalled 14 = .ok (.getfield 18, 3) := by decide +kernel
theorem dX1_isRecalled_17 : decode cX1_isRecalled 17 = .ok (.iload_n 2, 1) := by decide +kernel
theorem dX1_isRecalled_18 : decode cX1_isRecalled 18 = .ok (.iload_n 3, 1) := by decide +kernel
theorem dX1_isRecalled_19 : decode cX1_isRecalled 19 = .ok (.invokestatic 30, 3) := by decide +kernel
theorem dX1_isRecalled_22 : decode cX1_isRecalled 22 = .ok (.ifCond .eq 7, 3) := by decide +kernel
theorem dX1_isRecalled_25 : decode cX1_isRecalled 25 = .ok (.iconst 1, 1) := by decide +kernel
theorem dX1_isRecalled_26 : decode cX1_isRecalled 26 = .ok (.goto 4, 3) := by decide +kernel
theorem dX1_isRecalled_29 : decode cX1_isRecalled 29 = .ok (.iconst 0, 1) := by decide +kernel
theorem dX1_isRecalled_30 : decode cX1_isRecalled 30 = .ok (.ireturn, 1) := by decide +kernel
theorem dX2_init_0 : decode cX2_init 0 = .ok (.aload_n 0, 1) := by decide +kernel
theorem dX2_init_1 : decode cX2_init 1 = .ok (.invokespecial 3, 3) := by decide +kernel
theorem dX2_init_4 : decode cX2_init 4 = .ok (.aload_n 0, 1) := by decide +kernel
theorem dX2_init_5 : decode cX2_init 5 = .ok (.bipush 40, 2) := by decide +kernel
theorem dX2_init_7 : decode cX2_init 7 = .ok (.anewarray 9, 3) := by decide +kernel
theorem dX2_init_10 : decode cX2_init 10 = .ok (.putfield 11, 3) := by decide +kernel
theorem dX2_init_13 : decode cX2_init 13 = .ok (.aload_n 0, 1) := by decide +kernel
theorem dX2_init_14 : decode cX2_init 14 = .ok (.iconst 0, 1) := by decide +kernel
theorem dX2_init_15 : decode cX2_init 15 = .ok (.putfield 17, 3) := by decide +kernel
theorem dX2_init_18 : decode cX2_init 18 = .ok (.aload_n 0, 1) := by decide +kernel
theorem dX2_init_19 : decode cX2_init 19 = .ok (.iconst 0, 1) := by decide +kernel
theorem dX2_init_20 : decode cX2_init 20 = .ok (.putfield 21, 3) := by decide +kernel
theorem dX2_init_23 : decode cX2_init 23 = .ok (.aload_n 0, 1) := by decide +kernel
theorem dX2_init_24 : decode cX2_init 24 = .ok (.iconst 0, 1) := by decide +kernel
theorem dX2_init_25 : decode cX2_init 25 = .ok (.putfield 24, 3) := by decide +kernel
theorem dX2_init_28 : decode cX2_init 28 = .ok (.return_, 1) := by decide +kernel
theorem dX2_isFull_0 : decode cX2_isFull 0 = .ok (.aload_n 0, 1) := by decide +kernel
theorem dX2_isFull_1 : decode cX2_isFull 1 = .ok (.getfield 17, 3) := by decide +kernel
theorem dX2_isFull_4 : decode cX2_isFull 4 = .ok (.bipush 40, 2) := by decide +kernel
theorem dX2_isFull_6 : decode cX2_isFull 6 = .ok (.if_icmp .lt 7, 3) := by decide +kernel
theorem dX2_isFull_9 : decode cX2_isFull 9 = .ok (.iconst 1, 1) := by decide +kernel
theorem dX2_isFull_10 : decode cX2_isFull 10 = .ok (.goto 4, 3) := by decide +kernel
theorem dX2_isFull_13 : decode cX2_isFull 13 = .ok (.iconst 0, 1) := by decide +kernel
theorem dX2_isFull_14 : decode cX2_isFull 14 = .ok (.ireturn, 1) := by decide +kernel
set_option maxRecDepth 20000 in
theorem ggX2_enter_X2_isFull : GoodIn wsX2_enter wsX2_isFull := goodIn_r _ [11, 2, 12, 13, 14, 15] (by decide +kernel) (by decide +kernel)
set_option maxRecDepth 20000 in
theorem gX2_enter_X2_isFull : GoodIn wsX2_enter (wsV RX2 27 RX2 yX2_isFull wsX2_isFull) := goodIn_app (goodIn_of _ (by decide +kernel)) ggX2_enter_X2_isFull
theorem dX2_enter_0 : decode cX2_enter 0 = .ok (.aload_n 0, 1) := by decide +kernel
theorem dX2_enter_1 : decode cX2_enter 1 = .ok (.invokevirtual 27, 3) := by decide +kernel
theorem dX2_enter_4 : decode cX2_enter 4 = .ok (.ifCond .eq 4, 3) := by decide +kernel
theorem dX2_enter_7 : decode cX2_enter 7 = .ok (.return_, 1) := by decide +kernel
theorem dX2_enter_8 : decode cX2_enter 8 = .ok (.aload_n 0, 1) := by decide +kernel
theorem dX2_enter_9 : decode cX2_enter 9 = .ok (.getfield 11, 3) := by decide +kernel
theorem dX2_enter_12 : decode cX2_enter 12 = .ok (.aload_n 0, 1) := by decide +kernel
theorem dX2_enter_13 : decode cX2_enter 13 = .ok (.getfield 17, 3) := by decide +kernel
theorem dX2_enter_16 : decode cX2_enter 16 = .ok (.aload_n 1, 1) := by decide +kernel
theorem dX2_enter_17 : decode cX2_enter 17 = .ok (.aastore, 1) := by decide +kernel
theorem dX2_enter_18 : decode cX2_enter 18 = .ok (.aload_n 0, 1) := by decide +kernel
theorem dX2_enter_19 : decode cX2_enter 19 = .ok (.dup, 1) := by decide +kernel
theorem dX2_enter_20 : decode cX2_enter 20 = .ok (.getfield 17, 3) := by decide +kernel
theorem dX2_enter_23 : decode cX2_enter 23 = .ok (.iconst 1, 1) := by decide +kernel
theorem dX2_enter_24 : decode cX2_enter 24 = .ok (.iadd, 1) := by decide +kernel
theorem dX2_enter_25 : decode cX2_enter 25 = .ok (.putfield 17, 3) := by decide +kernel
theorem dX2_enter_28 : decode cX2_enter 28 = .ok (.aload_n 0, 1) := by decide +kernel
theorem dX2_enter_29 : decode cX2_enter 29 = .ok (.dup, 1) := by decide +kernel
theorem dX2_enter_30 : decode cX2_enter 30 = .ok (.getfield 21, 3) := by decide +kernel
theorem dX2_enter_33 : decode cX2_enter 33 = .ok (.aload_n 1, 1) := by decide +kernel
theorem dX2_enter_34 : decode cX2_enter 34 = .ok (.getfield 31, 3) := by decide +kernel
theorem dX2_enter_37 : decode cX2_enter 37 = .ok (.iadd, 1) := by decide +kernel
theorem dX2_enter_38 : decode cX2_enter 38 = .ok (.putfield 21, 3) := by decide +kernel
theorem dX2_enter_41 : decode cX2_enter 41 = .ok (.aload_n 0, 1) := by decide +kernel
theorem dX2_enter_42 : decode cX2_enter 42 = .ok (.dup, 1) := by decide +kernel
theorem dX2_enter_43 : decode cX2_enter 43 = .ok (.getfield 24, 3) := by decide +kernel
theorem dX2_enter_46 : decode cX2_enter 46 = .ok (.aload_n 1, 1) := by decide +kernel
theorem dX2_enter_47 : decode cX2_enter 47 = .ok (.getfield 34, 3) := by decide +kernel
theorem dX2_enter_50 : decode cX2_enter 50 = .ok (.iadd, 1) := by decide +kernel
theorem dX2_enter_51 : decode cX2_enter 51 = .ok (.putfield 24, 3) := by decide +kernel
theorem dX2_enter_54 : decode cX2_enter 54 = .ok (.return_, 1) := by decide +kernel
set_option maxRecDepth 20000 in
theorem ggX2_lumpAt_X7_within : GoodIn wsX2_lumpAt wsX7_within := goodIn_r _ [5] (by decide +kernel) (by decide +kernel)
set_option maxRecDepth 20000 in
theorem gX2_lumpAt_X7_within_n35 : GoodIn wsX2_lumpAt (wsX7_within) := ggX2_lumpAt_X7_within
theorem dX2_lumpAt_0 : decode cX2_lumpAt 0 = .ok (.iload_n 1, 1) := by decide +kernel
theorem dX2_lumpAt_1 : decode cX2_lumpAt 1 = .ok (.iconst 0, 1) := by decide +kernel
theorem dX2_lumpAt_2 : decode cX2_lumpAt 2 = .ok (.aload_n 0, 1) := by decide +kernel
theorem dX2_lumpAt_3 : decode cX2_lumpAt 3 = .ok (.getfield 17, 3) := by decide +kernel
theorem dX2_lumpAt_6 : decode cX2_lumpAt 6 = .ok (.iconst 1, 1) := by decide +kernel
theorem dX2_lumpAt_7 : decode cX2_lumpAt 7 = .ok (.isub, 1) := by decide +kernel
theorem dX2_lumpAt_8 : decode cX2_lumpAt 8 = .ok (.invokestatic 35, 3) := by decide +kernel
theorem dX2_lumpAt_11 : decode cX2_lumpAt 11 = .ok (.ifCond .eq 12, 3) := by decide +kernel
theorem dX2_lumpAt_14 : decode cX2_lumpAt 14 = .ok (.aload_n 0, 1) := by decide +kernel
theorem dX2_lumpAt_15 : decode cX2_lumpAt 15 = .ok (.getfield 11, 3) := by decide +kernel
theorem dX2_lumpAt_18 : decode cX2_lumpAt 18 = .ok (.iload_n 1, 1) := by decide +kernel
theorem dX2_lumpAt_19 : decode cX2_lumpAt 19 = .ok (.aaload, 1) := by decide +kernel
theorem dX2_lumpAt_20 : decode cX2_lumpAt 20 = .ok (.goto 4, 3) := by decide +kernel
theorem dX2_lumpAt_23 : decode cX2_lumpAt 23 = .ok (.aconst_null, 1) := by decide +kernel
theorem dX2_lumpAt_24 : decode cX2_lumpAt 24 = .ok (.areturn, 1) := by decide +kernel
theorem dX2_latestDay_0 : decode cX2_latestDay 0 = .ok (.aload_n 0, 1) := by decide +kernel
theorem dX2_latestDay_1 : decode cX2_latestDay 1 = .ok (.getfield 17, 3) := by decide +kernel
theorem dX2_latestDay_4 : decode cX2_latestDay 4 = .ok (.ifCond .ne 7, 3) := by decide +kernel
theorem dX2_latestDay_7 : decode cX2_latestDay 7 = .ok (.iconst 0, 1) := by decide +kernel
theorem dX2_latestDay_8 : decode cX2_latestDay 8 = .ok (.goto 17, 3) := by decide +kernel
theorem dX2_latestDay_11 : decode cX2_latestDay 11 = .ok (.aload_n 0, 1) := by decide +kernel
theorem dX2_latestDay_12 : decode cX2_latestDay 12 = .ok (.getfield 11, 3) := by decide +kernel
theorem dX2_latestDay_15 : decode cX2_latestDay 15 = .ok (.aload_n 0, 1) := by decide +kernel
theorem dX2_latestDay_16 : decode cX2_latestDay 16 = .ok (.getfield 17, 3) := by decide +kernel
theorem dX2_latestDay_19 : decode cX2_latestDay 19 = .ok (.iconst 1, 1) := by decide +kernel
theorem dX2_latestDay_20 : decode cX2_latestDay 20 = .ok (.isub, 1) := by decide +kernel
theorem dX2_latestDay_21 : decode cX2_latestDay 21 = .ok (.aaload, 1) := by decide +kernel
theorem dX2_latestDay_22 : decode cX2_latestDay 22 = .ok (.getfield 39, 3) := by decide +kernel
theorem dX2_latestDay_25 : decode cX2_latestDay 25 = .ok (.ireturn, 1) := by decide +kernel
set_option maxRecDepth 20000 in
theorem ggX2_lumpOfStick_X1_gave : GoodIn wsX2_lumpOfStick wsX1_gave := goodIn_r _ [7, 8, 9, 14, 15, 16, 17, 18, 19] (by decide +kernel) (by decide +kernel)
set_option maxRecDepth 20000 in
theorem gX2_lumpOfStick_X1_gave : GoodIn wsX2_lumpOfStick (wsV RX2 42 RX1 yX1_gave wsX1_gave) := goodIn_app (goodIn_of _ (by decide +kernel)) ggX2_lumpOfStick_X1_gave
theorem dX2_lumpOfStick_0 : decode cX2_lumpOfStick 0 = .ok (.iconst 0, 1) := by decide +kernel
theorem dX2_lumpOfStick_1 : decode cX2_lumpOfStick 1 = .ok (.istore_n 2, 1) := by decide +kernel
theorem dX2_lumpOfStick_2 : decode cX2_lumpOfStick 2 = .ok (.iload_n 2, 1) := by decide +kernel
theorem dX2_lumpOfStick_3 : decode cX2_lumpOfStick 3 = .ok (.aload_n 0, 1) := by decide +kernel
theorem dX2_lumpOfStick_4 : decode cX2_lumpOfStick 4 = .ok (.getfield 17, 3) := by decide +kernel
theorem dX2_lumpOfStick_7 : decode cX2_lumpOfStick 7 = .ok (.if_icmp .ge 24, 3) := by decide +kernel
theorem dX2_lumpOfStick_10 : decode cX2_lumpOfStick 10 = .ok (.aload_n 0, 1) := by decide +kernel
theorem dX2_lumpOfStick_11 : decode cX2_lumpOfStick 11 = .ok (.getfield 11, 3) := by decide +kernel
theorem dX2_lumpOfStick_14 : decode cX2_lumpOfStick 14 = .ok (.iload_n 2, 1) := by decide +kernel
theorem dX2_lumpOfStick_15 : decode cX2_lumpOfStick 15 = .ok (.aaload, 1) := by decide +kernel
theorem dX2_lumpOfStick_16 : decode cX2_lumpOfStick 16 = .ok (.iload_n 1, 1) := by decide +kernel
theorem dX2_lumpOfStick_17 : decode cX2_lumpOfStick 17 = .ok (.invokevirtual 42, 3) := by decide +kernel
theorem dX2_lumpOfStick_20 : decode cX2_lumpOfStick 20 = .ok (.ifCond .eq 5, 3) := by decide +kernel
theorem dX2_lumpOfStick_23 : decode cX2_lumpOfStick 23 = .ok (.iload_n 2, 1) := by decide +kernel
theorem dX2_lumpOfStick_24 : decode cX2_lumpOfStick 24 = .ok (.ireturn, 1) := by decide +kernel
theorem dX2_lumpOfStick_25 : decode cX2_lumpOfStick 25 = .ok (.iinc 2 1, 3) := by decide +kernel
theorem dX2_lumpOfStick_28 : decode cX2_lumpOfStick 28 = .ok (.goto (-26), 3) := by decide +kernel
theorem dX2_lumpOfStick_31 : decode cX2_lumpOfStick 31 = .ok (.iconst (-1), 1) := by decide +kernel
theorem dX2_lumpOfStick_32 : decode cX2_lumpOfStick 32 = .ok (.ireturn, 1) := by decide +kernel
set_option maxRecDepth 20000 in
theorem ggX2_countSticks_X1_isRecalled : GoodIn wsX2_countSticks wsX1_isRecalled := goodIn_r _ [8, 9, 10, 11, 12, 13, 18, 19, 20, 21, 22, 23] (by decide +kernel) (by decide +kernel)
set_option maxRecDepth 20000 in
theorem gX2_countSticks_X1_isRecalled : GoodIn wsX2_countSticks (wsV RX2 46 RX1 yX1_isRecalled wsX1_isRecalled) := goodIn_app (goodIn_of _ (by decide +kernel)) ggX2_countSticks_X1_isRecalled
theorem dX2_countSticks_0 : decode cX2_countSticks 0 = .ok (.iconst 0, 1) := by decide +kernel
theorem dX2_countSticks_1 : decode cX2_countSticks 1 = .ok (.istore 4, 2) := by decide +kernel
theorem dX2_countSticks_3 : decode cX2_countSticks 3 = .ok (.iconst 0, 1) := by decide +kernel
theorem dX2_countSticks_4 : decode cX2_countSticks 4 = .ok (.istore 5, 2) := by decide +kernel
theorem dX2_countSticks_6 : decode cX2_countSticks 6 = .ok (.iload 5, 2) := by decide +kernel
theorem dX2_countSticks_8 : decode cX2_countSticks 8 = .ok (.aload_n 0, 1) := by decide +kernel
theorem dX2_countSticks_9 : decode cX2_countSticks 9 = .ok (.getfield 17, 3) := by decide +kernel
theorem dX2_countSticks_12 : decode cX2_countSticks 12 = .ok (.if_icmp .ge 40, 3) := by decide +kernel
theorem dX2_countSticks_15 : decode cX2_countSticks 15 = .ok (.aload_n 0, 1) := by decide +kernel
theorem dX2_countSticks_16 : decode cX2_countSticks 16 = .ok (.getfield 11, 3) := by decide +kernel
theorem dX2_countSticks_19 : decode cX2_countSticks 19 = .ok (.iload 5, 2) := by decide +kernel
theorem dX2_countSticks_21 : decode cX2_countSticks 21 = .ok (.aaload, 1) := by decide +kernel
theorem dX2_countSticks_22 : decode cX2_countSticks 22 = .ok (.iload_n 1, 1) := by decide +kernel
theorem dX2_countSticks_23 : decode cX2_countSticks 23 = .ok (.iload_n 2, 1) := by decide +kernel
theorem dX2_countSticks_24 : decode cX2_countSticks 24 = .ok (.iload_n 3, 1) := by decide +kernel
theorem dX2_countSticks_25 : decode cX2_countSticks 25 = .ok (.invokevirtual 46, 3) := by decide +kernel
theorem dX2_countSticks_28 : decode cX2_countSticks 28 = .ok (.ifCond .eq 18, 3) := by decide +kernel
theorem dX2_countSticks_31 : decode cX2_countSticks 31 = .ok (.iload 4, 2) := by decide +kernel
theorem dX2_countSticks_33 : decode cX2_countSticks 33 = .ok (.aload_n 0, 1) := by decide +kernel
theorem dX2_countSticks_34 : decode cX2_countSticks 34 = .ok (.getfield 11, 3) := by decide +kernel
theorem dX2_countSticks_37 : decode cX2_countSticks 37 = .ok (.iload 5, 2) := by decide +kernel
theorem dX2_countSticks_39 : decode cX2_countSticks 39 = .ok (.aaload, 1) := by decide +kernel
theorem dX2_countSticks_40 : decode cX2_countSticks 40 = .ok (.getfield 31, 3) := by decide +kernel
theorem dX2_countSticks_43 : decode cX2_countSticks 43 = .ok (.iadd, 1) := by decide +kernel
theorem dX2_countSticks_44 : decode cX2_countSticks 44 = .ok (.istore 4, 2) := by decide +kernel
theorem dX2_countSticks_46 : decode cX2_countSticks 46 = .ok (.iinc 5 1, 3) := by decide +kernel
theorem dX2_countSticks_49 : decode cX2_countSticks 49 = .ok (.goto (-43), 3) := by decide +kernel
theorem dX2_countSticks_52 : decode cX2_countSticks 52 = .ok (.iload 4, 2) := by decide +kernel
theorem dX2_countSticks_54 : decode cX2_countSticks 54 = .ok (.ireturn, 1) := by decide +kernel
theorem dX3_init_0 : decode cX3_init 0 = .ok (.aload_n 0, 1) := by decide +kernel
theorem dX3_init_1 : decode cX3_init 1 = .ok (.invokespecial 3, 3) := by decide +kernel
theorem dX3_init_4 : decode cX3_init 4 = .ok (.aload_n 0, 1) := by decide +kernel
theorem dX3_init_5 : decode cX3_init 5 = .ok (.bipush 60, 2) := by decide +kernel
theorem dX3_init_7 : decode cX3_init 7 = .ok (.newarray .int, 2) := by decide +kernel
theorem dX3_init_9 : decode cX3_init 9 = .ok (.putfield 9, 3) := by decide +kernel
theorem dX3_init_12 : decode cX3_init 12 = .ok (.aload_n 0, 1) := by decide +kernel
theorem dX3_init_13 : decode cX3_init 13 = .ok (.bipush 30, 2) := by decide +kernel
theorem dX3_init_15 : decode cX3_init 15 = .ok (.putfield 15, 3) := by decide +kernel
theorem dX3_init_18 : decode cX3_init 18 = .ok (.aload_n 0, 1) := by decide +kernel
theorem dX3_init_19 : decode cX3_init 19 = .ok (.iconst 1, 1) := by decide +kernel
theorem dX3_init_20 : decode cX3_init 20 = .ok (.putfield 19, 3) := by decide +kernel
theorem dX3_init_23 : decode cX3_init 23 = .ok (.return_, 1) := by decide +kernel
theorem dX3_widthOf_0 : decode cX3_widthOf 0 = .ok (.iconst 0, 1) := by decide +kernel
theorem dX3_widthOf_1 : decode cX3_widthOf 1 = .ok (.istore_n 2, 1) := by decide +kernel
theorem dX3_widthOf_2 : decode cX3_widthOf 2 = .ok (.iconst 0, 1) := by decide +kernel
theorem dX3_widthOf_3 : decode cX3_widthOf 3 = .ok (.istore_n 3, 1) := by decide +kernel
theorem dX3_widthOf_4 : decode cX3_widthOf 4 = .ok (.iload_n 3, 1) := by decide +kernel
theorem dX3_widthOf_5 : decode cX3_widthOf 5 = .ok (.aload_n 1, 1) := by decide +kernel
theorem dX3_widthOf_6 : decode cX3_widthOf 6 = .ok (.getfield 22, 3) := by decide +kernel
theorem dX3_widthOf_9 : decode cX3_widthOf 9 = .ok (.if_icmp .ge 26, 3) := by decide +kernel
theorem dX3_widthOf_12 : decode cX3_widthOf 12 = .ok (.iload_n 2, 1) := by decide +kernel
theorem dX3_widthOf_13 : decode cX3_widthOf 13 = .ok (.aload_n 1, 1) := by decide +kernel
theorem dX3_widthOf_14 : decode cX3_widthOf 14 = .ok (.getfield 27, 3) := by decide +kernel
theorem dX3_widthOf_17 : decode cX3_widthOf 17 = .ok (.iload_n 3, 1) := by decide +kernel
theorem dX3_widthOf_18 : decode cX3_widthOf 18 = .ok (.aaload, 1) := by decide +kernel
theorem dX3_widthOf_19 : decode cX3_widthOf 19 = .ok (.getfield 31, 3) := by decide +kernel
theorem dX3_widthOf_22 : decode cX3_widthOf 22 = .ok (.aload_n 0, 1) := by decide +kernel
theorem dX3_widthOf_23 : decode cX3_widthOf 23 = .ok (.getfield 19, 3) := by decide +kernel
theorem dX3_widthOf_26 : decode cX3_widthOf 26 = .ok (.iadd, 1) := by decide +kernel
theorem dX3_widthOf_27 : decode cX3_widthOf 27 = .ok (.iadd, 1) := by decide +kernel
theorem dX3_widthOf_28 : decode cX3_widthOf 28 = .ok (.istore_n 2, 1) := by decide +kernel
theorem dX3_widthOf_29 : decode cX3_widthOf 29 = .ok (.iinc 3 1, 3) := by decide +kernel
theorem dX3_widthOf_32 : decode cX3_widthOf 32 = .ok (.goto (-28), 3) := by decide +kernel
theorem dX3_widthOf_35 : decode cX3_widthOf 35 = .ok (.iload_n 2, 1) := by decide +kernel
theorem dX3_widthOf_36 : decode cX3_widthOf 36 = .ok (.ireturn, 1) := by decide +kernel
set_option maxRecDepth 20000 in
theorem ggX3_fits_X3_widthOf : GoodIn wsX3_fits wsX3_widthOf := goodIn_r _ [7, 1, 8, 9, 10, 11, 12, 16, 17, 18, 19, 13, 14, 15] (by decide +kernel) (by decide +kernel)
set_option maxRecDepth 20000 in
theorem gX3_fits_X3_widthOf : GoodIn wsX3_fits (wsV RX3 36 RX3 yX3_widthOf wsX3_widthOf) := goodIn_app (goodIn_of _ (by decide +kernel)) ggX3_fits_X3_widthOf
theorem dX3_fits_0 : decode cX3_fits 0 = .ok (.aload_n 1, 1) := by decide +kernel
theorem dX3_fits_1 : decode cX3_fits 1 = .ok (.getfield 22, 3) := by decide +kernel
theorem dX3_fits_4 : decode cX3_fits 4 = .ok (.ifCond .le 19, 3) := by decide +kernel
theorem dX3_fits_7 : decode cX3_fits 7 = .ok (.aload_n 0, 1) := by decide +kernel
theorem dX3_fits_8 : decode cX3_fits 8 = .ok (.aload_n 1, 1) := by decide +kernel
theorem dX3_fits_9 : decode cX3_fits 9 = .ok (.invokevirtual 36, 3) := by decide +kernel
theorem dX3_fits_12 : decode cX3_fits 12 = .ok (.aload_n 0, 1) := by decide +kernel
theorem dX3_fits_13 : decode cX3_fits 13 = .ok (.getfield 15, 3) := by decide +kernel
theorem dX3_fits_16 : decode cX3_fits 16 = .ok (.if_icmp .gt 7, 3) := by decide +kernel
theorem dX3_fits_19 : decode cX3_fits 19 = .ok (.iconst 1, 1) := by decide +kernel
theorem dX3_fits_20 : decode cX3_fits 20 = .ok (.goto 4, 3) := by decide +kernel
theorem dX3_fits_23 : decode cX3_fits 23 = .ok (.iconst 0, 1) := by decide +kernel
theorem dX3_fits_24 : decode cX3_fits 24 = .ok (.ireturn, 1) := by decide +kernel
set_option maxRecDepth 20000 in
theorem ggX3_lay_J7_fill_53178 : GoodIn wsX3_lay wsJ7_fill_53178 := goodIn_r _ [10] (by decide +kernel) (by decide +kernel)
set_option maxRecDepth 20000 in
theorem gX3_lay_J7_fill_53178 : GoodIn wsX3_lay (va_wsS RX3 40 yJ7_fill_53178 wsJ7_fill_53178) := goodIn_app (goodIn_of _ (by decide +kernel)) ggX3_lay_J7_fill_53178
theorem dX3_lay_0 : decode cX3_lay 0 = .ok (.aload_n 0, 1) := by decide +kernel
theorem dX3_lay_1 : decode cX3_lay 1 = .ok (.getfield 9, 3) := by decide +kernel
theorem dX3_lay_4 : decode cX3_lay 4 = .ok (.iconst 0, 1) := by decide +kernel
theorem dX3_lay_5 : decode cX3_lay 5 = .ok (.invokestatic 40, 3) := by decide +kernel
theorem dX3_lay_8 : decode cX3_lay 8 = .ok (.iconst 0, 1) := by decide +kernel
theorem dX3_lay_9 : decode cX3_lay 9 = .ok (.istore_n 2, 1) := by decide +kernel
theorem dX3_lay_10 : decode cX3_lay 10 = .ok (.iconst 0, 1) := by decide +kernel
theorem dX3_lay_11 : decode cX3_lay 11 = .ok (.istore_n 3, 1) := by decide +kernel
theorem dX3_lay_12 : decode cX3_lay 12 = .ok (.iload_n 3, 1) := by decide +kernel
theorem dX3_lay_13 : decode cX3_lay 13 = .ok (.aload_n 1, 1) := by decide +kernel
theorem dX3_lay_14 : decode cX3_lay 14 = .ok (.getfield 22, 3) := by decide +kernel
theorem dX3_lay_17 : decode cX3_lay 17 = .ok (.if_icmp .ge 75, 3) := by decide +kernel
theorem dX3_lay_20 : decode cX3_lay 20 = .ok (.aload_n 1, 1) := by decide +kernel
theorem dX3_lay_21 : decode cX3_lay 21 = .ok (.getfield 27, 3) := by decide +kernel
theorem dX3_lay_24 : decode cX3_lay 24 = .ok (.iload_n 3, 1) := by decide +kernel
theorem dX3_lay_25 : decode cX3_lay 25 = .ok (.aaload, 1) := by decide +kernel
theorem dX3_lay_26 : decode cX3_lay 26 = .ok (.astore 4, 2) := by decide +kernel
theorem dX3_lay_28 : decode cX3_lay 28 = .ok (.iconst 0, 1) := by decide +kernel
theorem dX3_lay_29 : decode cX3_lay 29 = .ok (.istore 5, 2) := by decide +kernel
theorem dX3_lay_31 : decode cX3_lay 31 = .ok (.iload 5, 2) := by decide +kernel
theorem dX3_lay_33 : decode cX3_lay 33 = .ok (.aload 4, 2) := by decide +kernel
theorem dX3_lay_35 : decode cX3_lay 35 = .ok (.getfield 31, 3) := by decide +kernel
theorem dX3_lay_38 : decode cX3_lay 38 = .ok (.if_icmp .ge 35, 3) := by decide +kernel
theorem dX3_lay_41 : decode cX3_lay 41 = .ok (.iload_n 2, 1) := by decide +kernel
theorem dX3_lay_42 : decode cX3_lay 42 = .ok (.iload 5, 2) := by decide +kernel
theorem dX3_lay_44 : decode cX3_lay 44 = .ok (.iadd, 1) := by decide +kernel
theorem dX3_lay_45 : decode cX3_lay 45 = .ok (.bipush 60, 2) := by decide +kernel
theorem dX3_lay_47 : decode cX3_lay 47 = .ok (.if_icmp .ge 26, 3) := by decide +kernel
theorem dX3_lay_50 : decode cX3_lay 50 = .ok (.aload_n 0, 1) := by decide +kernel
theorem dX3_lay_51 : decode cX3_lay 51 = .ok (.getfield 9, 3) := by decide +kernel
theorem dX3_lay_54 : decode cX3_lay 54 = .ok (.iload_n 2, 1) := by decide +kernel
theorem dX3_lay_55 : decode cX3_lay 55 = .ok (.iload 5, 2) := by decide +kernel
theorem dX3_lay_57 : decode cX3_lay 57 = .ok (.iadd, 1) := by decide +kernel
theorem dX3_lay_58 : decode cX3_lay 58 = .ok (.aload 4, 2) := by decide +kernel
theorem dX3_lay_60 : decode cX3_lay 60 = .ok (.getfield 46, 3) := by decide +kernel
theorem dX3_lay_63 : decode cX3_lay 63 = .ok (.iload 5, 2) := by decide +kernel
theorem dX3_lay_65 : decode cX3_lay 65 = .ok (.iaload, 1) := by decide +kernel
theorem dX3_lay_66 : decode cX3_lay 66 = .ok (.iastore, 1) := by decide +kernel
theorem dX3_lay_67 : decode cX3_lay 67 = .ok (.iinc 5 1, 3) := by decide +kernel
theorem dX3_lay_70 : decode cX3_lay 70 = .ok (.goto (-39), 3) := by decide +kernel
theorem dX3_lay_73 : decode cX3_lay 73 = .ok (.iload_n 2, 1) := by decide +kernel
theorem dX3_lay_74 : decode cX3_lay 74 = .ok (.aload 4, 2) := by decide +kernel
theorem dX3_lay_76 : decode cX3_lay 76 = .ok (.getfield 31, 3) := by decide +kernel
theorem dX3_lay_79 : decode cX3_lay 79 = .ok (.aload_n 0, 1) := by decide +kernel
theorem dX3_lay_80 : decode cX3_lay 80 = .ok (.getfield 19, 3) := by decide +kernel
theorem dX3_lay_83 : decode cX3_lay 83 = .ok (.iadd, 1) := by decide +kernel
theorem dX3_lay_84 : decode cX3_lay 84 = .ok (.iadd, 1) := by decide +kernel
theorem dX3_lay_85 : decode cX3_lay 85 = .ok (.istore_n 2, 1) := by decide +kernel
theorem dX3_lay_86 : decode cX3_lay 86 = .ok (.iinc 3 1, 3) := by decide +kernel
theorem dX3_lay_89 : decode cX3_lay 89 = .ok (.goto (-77), 3) := by decide +kernel
theorem dX3_lay_92 : decode cX3_lay 92 = .ok (.return_, 1) := by decide +kernel
set_option maxRecDepth 20000 in
theorem ggX3_seen_X3_slotSeen : GoodIn wsX3_seen wsX3_slotSeen := goodIn_r _ [6, 7, 11, 12, 13] (by decide +kernel) (by decide +kernel)
set_option maxRecDepth 20000 in
theorem gX3_seen_X3_slotSeen : GoodIn wsX3_seen (wsV RX3 49 RX3 yX3_slotSeen wsX3_slotSeen) := goodIn_app (goodIn_of _ (by decide +kernel)) ggX3_seen_X3_slotSeen
set_option maxRecDepth 20000 in
theorem ggX3_seen_X3_upsideDown : GoodIn wsX3_seen wsX3_upsideDown := goodIn_r _ [10] (by decide +kernel) (by decide +kernel)
set_option maxRecDepth 20000 in
theorem gX3_seen_X3_upsideDown : GoodIn wsX3_seen (va_wsS RX3 53 yX3_upsideDown wsX3_upsideDown) := goodIn_app (goodIn_of _ (by decide +kernel)) ggX3_seen_X3_upsideDown
theorem dX3_seen_0 : decode cX3_seen 0 = .ok (.aload_n 0, 1) := by decide +kernel
theorem dX3_seen_1 : decode cX3_seen 1 = .ok (.getfield 9, 3) := by decide +kernel
theorem dX3_seen_4 : decode cX3_seen 4 = .ok (.aload_n 0, 1) := by decide +kernel
theorem dX3_seen_5 : decode cX3_seen 5 = .ok (.iload_n 1, 1) := by decide +kernel
theorem dX3_seen_6 : decode cX3_seen 6 = .ok (.iload_n 2, 1) := by decide +kernel
theorem dX3_seen_7 : decode cX3_seen 7 = .ok (.iload_n 3, 1) := by decide +kernel
theorem dX3_seen_8 : decode cX3_seen 8 = .ok (.invokevirtual 49, 3) := by decide +kernel
theorem dX3_seen_11 : decode cX3_seen 11 = .ok (.iaload, 1) := by decide +kernel
theorem dX3_seen_12 : decode cX3_seen 12 = .ok (.istore 4, 2) := by decide +kernel
theorem dX3_seen_14 : decode cX3_seen 14 = .ok (.iload_n 2, 1) := by decide +kernel
theorem dX3_seen_15 : decode cX3_seen 15 = .ok (.iconst 2, 1) := by decide +kernel
theorem dX3_seen_16 : decode cX3_seen 16 = .ok (.iand, 1) := by decide +kernel
theorem dX3_seen_17 : decode cX3_seen 17 = .ok (.ifCond .ne 8, 3) := by decide +kernel
theorem dX3_seen_20 : decode cX3_seen 20 = .ok (.iload 4, 2) := by decide +kernel
theorem dX3_seen_22 : decode cX3_seen 22 = .ok (.goto 8, 3) := by decide +kernel
theorem dX3_seen_25 : decode cX3_seen 25 = .ok (.iload 4, 2) := by decide +kernel
theorem dX3_seen_27 : decode cX3_seen 27 = .ok (.invokestatic 53, 3) := by decide +kernel
theorem dX3_seen_30 : decode cX3_seen 30 = .ok (.ireturn, 1) := by decide +kernel
theorem dX3_slotSeen_0 : decode cX3_slotSeen 0 = .ok (.iload_n 2, 1) := by decide +kernel
theorem dX3_slotSeen_1 : decode cX3_slotSeen 1 = .ok (.iconst 1, 1) := by decide +kernel
theorem dX3_slotSeen_2 : decode cX3_slotSeen 2 = .ok (.iand, 1) := by decide +kernel
theorem dX3_slotSeen_3 : decode cX3_slotSeen 3 = .ok (.ifCond .eq 23, 3) := by decide +kernel
theorem dX3_slotSeen_6 : decode cX3_slotSeen 6 = .ok (.iload_n 1, 1) := by decide +kernel
theorem dX3_slotSeen_7 : decode cX3_slotSeen 7 = .ok (.iload_n 3, 1) := by decide +kernel
theorem dX3_slotSeen_8 : decode cX3_slotSeen 8 = .ok (.if_icmp .lt 9, 3) := by decide +kernel
theorem dX3_slotSeen_11 : decode cX3_slotSeen 11 = .ok (.iload_n 1, 1) := by decide +kernel
theorem dX3_slotSeen_12 : decode cX3_slotSeen 12 = .ok (.iload_n 3, 1) := by decide +kernel
theorem dX3_slotSeen_13 : decode cX3_slotSeen 13 = .ok (.isub, 1) := by decide +kernel
theorem dX3_slotSeen_14 : decode cX3_slotSeen 14 = .ok (.goto 11, 3) := by decide +kernel
theorem dX3_slotSeen_17 : decode cX3_slotSeen 17 = .ok (.iload_n 1, 1) := by decide +kernel
theorem dX3_slotSeen_18 : decode cX3_slotSeen 18 = .ok (.iload_n 3, 1) := by decide +kernel
theorem dX3_slotSeen_19 : decode cX3_slotSeen 19 = .ok (.isub, 1) := by decide +kernel
theorem dX3_slotSeen_20 : decode cX3_slotSeen 20 = .ok (.aload_n 0, 1) := by decide +kernel
theorem dX3_slotSeen_21 : decode cX3_slotSeen 21 = .ok (.getfield 15, 3) := by decide +kernel
theorem dX3_slotSeen_24 : decode cX3_slotSeen 24 = .ok (.iadd, 1) := by decide +kernel
theorem dX3_slotSeen_25 : decode cX3_slotSeen 25 = .ok (.ireturn, 1) := by decide +kernel
theorem dX3_slotSeen_26 : decode cX3_slotSeen 26 = .ok (.iload_n 1, 1) := by decide +kernel
theorem dX3_slotSeen_27 : decode cX3_slotSeen 27 = .ok (.iload_n 3, 1) := by decide +kernel
theorem dX3_slotSeen_28 : decode cX3_slotSeen 28 = .ok (.iadd, 1) := by decide +kernel
theorem dX3_slotSeen_29 : decode cX3_slotSeen 29 = .ok (.istore 4, 2) := by decide +kernel
theorem dX3_slotSeen_31 : decode cX3_slotSeen 31 = .ok (.iload 4, 2) := by decide +kernel
theorem dX3_slotSeen_33 : decode cX3_slotSeen 33 = .ok (.aload_n 0, 1) := by decide +kernel
theorem dX3_slotSeen_34 : decode cX3_slotSeen 34 = .ok (.getfield 15, 3) := by decide +kernel
theorem dX3_slotSeen_37 : decode cX3_slotSeen 37 = .ok (.if_icmp .ge 8, 3) := by decide +kernel
theorem dX3_slotSeen_40 : decode cX3_slotSeen 40 = .ok (.iload 4, 2) := by decide +kernel
theorem dX3_slotSeen_42 : decode cX3_slotSeen 42 = .ok (.goto 10, 3) := by decide +kernel
theorem dX3_slotSeen_45 : decode cX3_slotSeen 45 = .ok (.iload 4, 2) := by decide +kernel
theorem dX3_slotSeen_47 : decode cX3_slotSeen 47 = .ok (.aload_n 0, 1) := by decide +kernel
theorem dX3_slotSeen_48 : decode cX3_slotSeen 48 = .ok (.getfield 15, 3) := by decide +kernel
theorem dX3_slotSeen_51 : decode cX3_slotSeen 51 = .ok (.isub, 1) := by decide +kernel
theorem dX3_slotSeen_52 : decode cX3_slotSeen 52 = .ok (.ireturn, 1) := by decide +kernel
theorem dX3_upsideDown_0 : decode cX3_upsideDown 0 = .ok (.iconst 0, 1) := by decide +kernel
theorem dX3_upsideDown_1 : decode cX3_upsideDown 1 = .ok (.istore_n 1, 1) := by decide +kernel
theorem dX3_upsideDown_2 : decode cX3_upsideDown 2 = .ok (.iconst 0, 1) := by decide +kernel
theorem dX3_upsideDown_3 : decode cX3_upsideDown 3 = .ok (.istore_n 2, 1) := by decide +kernel
theorem dX3_upsideDown_4 : decode cX3_upsideDown 4 = .ok (.iload_n 2, 1) := by decide +kernel
theorem dX3_upsideDown_5 : decode cX3_upsideDown 5 = .ok (.iconst 5, 1) := by decide +kernel
theorem dX3_upsideDown_6 : decode cX3_upsideDown 6 = .ok (.if_icmp .ge 19, 3) := by decide +kernel
theorem dX3_upsideDown_9 : decode cX3_upsideDown 9 = .ok (.iload_n 1, 1) := by decide +kernel
theorem dX3_upsideDown_10 : decode cX3_upsideDown 10 = .ok (.iconst 1, 1) := by decide +kernel
theorem dX3_upsideDown_11 : decode cX3_upsideDown 11 = .ok (.ishl, 1) := by decide +kernel
theorem dX3_upsideDown_12 : decode cX3_upsideDown 12 = .ok (.iload_n 0, 1) := by decide +kernel
theorem dX3_upsideDown_13 : decode cX3_upsideDown 13 = .ok (.iload_n 2, 1) := by decide +kernel
theorem dX3_upsideDown_14 : decode cX3_upsideDown 14 = .ok (.ishr, 1) := by decide +kernel
theorem dX3_upsideDown_15 : decode cX3_upsideDown 15 = .ok (.iconst 1, 1) := by decide +kernel
theorem dX3_upsideDown_16 : decode cX3_upsideDown 16 = .ok (.iand, 1) := by decide +kernel
theorem dX3_upsideDown_17 : decode cX3_upsideDown 17 = .ok (.ior, 1) := by decide +kernel
theorem dX3_upsideDown_18 : decode cX3_upsideDown 18 = .ok (.istore_n 1, 1) := by decide +kernel
theorem dX3_upsideDown_19 : decode cX3_upsideDown 19 = .ok (.iinc 2 1, 3) := by decide +kernel
theorem dX3_upsideDown_22 : decode cX3_upsideDown 22 = .ok (.goto (-18), 3) := by decide +kernel
theorem dX3_upsideDown_25 : decode cX3_upsideDown 25 = .ok (.iload_n 1, 1) := by decide +kernel
theorem dX3_upsideDown_26 : decode cX3_upsideDown 26 = .ok (.ireturn, 1) := by decide +kernel
set_option maxRecDepth 20000 in
theorem ggX3_agrees_X7_within : GoodIn wsX3_agrees wsX7_within := goodIn_r _ [10] (by decide +kernel) (by decide +kernel)
set_option maxRecDepth 20000 in
theorem gX3_agrees_X7_within_n69 : GoodIn wsX3_agrees (wsX7_within) := ggX3_agrees_X7_within
set_option maxRecDepth 20000 in
theorem ggX3_agrees_X3_seen : GoodIn wsX3_agrees wsX3_seen := goodIn_r _ [15, 16, 17, 18, 19, 14, 20, 1, 21, 22, 23, 24, 25, 26] (by decide +kernel) (by decide +kernel)
set_option maxRecDepth 20000 in
theorem gX3_agrees_X3_seen : GoodIn wsX3_agrees (wsV RX3 73 RX3 yX3_seen wsX3_seen) := goodIn_app (goodIn_of _ (by decide +kernel)) ggX3_agrees_X3_seen
theorem dX3_agrees_0 : decode cX3_agrees 0 = .ok (.aload_n 0, 1) := by decide +kernel
theorem dX3_agrees_1 : decode cX3_agrees 1 = .ok (.getfield 15, 3) := by decide +kernel
theorem dX3_agrees_4 : decode cX3_agrees 4 = .ok (.aload_n 1, 1) := by decide +kernel
theorem dX3_agrees_5 : decode cX3_agrees 5 = .ok (.getfield 57, 3) := by decide +kernel
theorem dX3_agrees_8 : decode cX3_agrees 8 = .ok (.invokestatic 60, 3) := by decide +kernel
theorem dX3_agrees_11 : decode cX3_agrees 11 = .ok (.istore 4, 2) := by decide +kernel
theorem dX3_agrees_13 : decode cX3_agrees 13 = .ok (.iconst 0, 1) := by decide +kernel
theorem dX3_agrees_14 : decode cX3_agrees 14 = .ok (.istore 5, 2) := by decide +kernel
theorem dX3_agrees_16 : decode cX3_agrees 16 = .ok (.iload 5, 2) := by decide +kernel
theorem dX3_agrees_18 : decode cX3_agrees 18 = .ok (.iload 4, 2) := by decide +kernel
theorem dX3_agrees_20 : decode cX3_agrees 20 = .ok (.if_icmp .ge 44, 3) := by decide +kernel
theorem dX3_agrees_23 : decode cX3_agrees 23 = .ok (.aload_n 1, 1) := by decide +kernel
theorem dX3_agrees_24 : decode cX3_agrees 24 = .ok (.getfield 66, 3) := by decide +kernel
theorem dX3_agrees_27 : decode cX3_agrees 27 = .ok (.iload 5, 2) := by decide +kernel
theorem dX3_agrees_29 : decode cX3_agrees 29 = .ok (.iaload, 1) := by decide +kernel
theorem dX3_agrees_30 : decode cX3_agrees 30 = .ok (.istore 6, 2) := by decide +kernel
theorem dX3_agrees_32 : decode cX3_agrees 32 = .ok (.iload 6, 2) := by decide +kernel
theorem dX3_agrees_34 : decode cX3_agrees 34 = .ok (.iconst 0, 1) := by decide +kernel
theorem dX3_agrees_35 : decode cX3_agrees 35 = .ok (.bipush 31, 2) := by decide +kernel
theorem dX3_agrees_37 : decode cX3_agrees 37 = .ok (.invokestatic 69, 3) := by decide +kernel
theorem dX3_agrees_40 : decode cX3_agrees 40 = .ok (.ifCond .eq 18, 3) := by decide +kernel
theorem dX3_agrees_43 : decode cX3_agrees 43 = .ok (.iload 6, 2) := by decide +kernel
theorem dX3_agrees_45 : decode cX3_agrees 45 = .ok (.aload_n 0, 1) := by decide +kernel
theorem dX3_agrees_46 : decode cX3_agrees 46 = .ok (.iload_n 3, 1) := by decide +kernel
theorem dX3_agrees_47 : decode cX3_agrees 47 = .ok (.iload_n 2, 1) := by decide +kernel
theorem dX3_agrees_48 : decode cX3_agrees 48 = .ok (.iload 5, 2) := by decide +kernel
theorem dX3_agrees_50 : decode cX3_agrees 50 = .ok (.invokevirtual 73, 3) := by decide +kernel
theorem dX3_agrees_53 : decode cX3_agrees 53 = .ok (.if_icmp .eq 5, 3) := by decide +kernel
theorem dX3_agrees_56 : decode cX3_agrees 56 = .ok (.iconst 0, 1) := by decide +kernel
theorem dX3_agrees_57 : decode cX3_agrees 57 = .ok (.ireturn, 1) := by decide +kernel
theorem dX3_agrees_58 : decode cX3_agrees 58 = .ok (.iinc 5 1, 3) := by decide +kernel
theorem dX3_agrees_61 : decode cX3_agrees 61 = .ok (.goto (-45), 3) := by decide +kernel
theorem dX3_agrees_64 : decode cX3_agrees 64 = .ok (.iconst 1, 1) := by decide +kernel
theorem dX3_agrees_65 : decode cX3_agrees 65 = .ok (.ireturn, 1) := by decide +kernel
set_option maxRecDepth 20000 in
theorem ggX3_countReadings_X3_agrees : GoodIn wsX3_countReadings wsX3_agrees := goodIn_r _ [6, 1, 7, 8, 9, 10, 11, 12, 13, 14, 15, 16, 17, 18, 5, 19, 20, 21, 22, 23, 24, 25, 26, 27, 28, 29, 30, 31, 32, 33, 34] (by decide +kernel) (by decide +kernel)
set_option maxRecDepth 20000 in
theorem gX3_countReadings_X3_agrees : GoodIn wsX3_countReadings (wsV RX3 76 RX3 yX3_agrees wsX3_agrees) := goodIn_app (goodIn_of _ (by decide +kernel)) ggX3_countReadings_X3_agrees
theorem dX3_countReadings_0 : decode cX3_countReadings 0 = .ok (.iconst 0, 1) := by decide +kernel
theorem dX3_countReadings_1 : decode cX3_countReadings 1 = .ok (.istore_n 2, 1) := by decide +kernel
theorem dX3_countReadings_2 : decode cX3_countReadings 2 = .ok (.iconst 0, 1) := by decide +kernel
theorem dX3_countReadings_3 : decode cX3_countReadings 3 = .ok (.istore_n 3, 1) := by decide +kernel
theorem dX3_countReadings_4 : decode cX3_countReadings 4 = .ok (.iload_n 3, 1) := by decide +kernel
theorem dX3_countReadings_5 : decode cX3_countReadings 5 = .ok (.iconst 4, 1) := by decide +kernel
theorem dX3_countReadings_6 : decode cX3_countReadings 6 = .ok (.if_icmp .ge 41, 3) := by decide +kernel
theorem dX3_countReadings_9 : decode cX3_countReadings 9 = .ok (.iconst 0, 1) := by decide +kernel
theorem dX3_countReadings_10 : decode cX3_countReadings 10 = .ok (.istore 4, 2) := by decide +kernel
theorem dX3_countReadings_12 : decode cX3_countReadings 12 = .ok (.iload 4, 2) := by decide +kernel
theorem dX3_countReadings_14 : decode cX3_countReadings 14 = .ok (.aload_n 0, 1) := by decide +kernel
theorem dX3_countReadings_15 : decode cX3_countReadings 15 = .ok (.getfield 15, 3) := by decide +kernel
theorem dX3_countReadings_18 : decode cX3_countReadings 18 = .ok (.if_icmp .ge 23, 3) := by decide +kernel
theorem dX3_countReadings_21 : decode cX3_countReadings 21 = .ok (.aload_n 0, 1) := by decide +kernel
theorem dX3_countReadings_22 : decode cX3_countReadings 22 = .ok (.aload_n 1, 1) := by decide +kernel
theorem dX3_countReadings_23 : decode cX3_countReadings 23 = .ok (.iload_n 3, 1) := by decide +kernel
theorem dX3_countReadings_24 : decode cX3_countReadings 24 = .ok (.iload 4, 2) := by decide +kernel
theorem dX3_countReadings_26 : decode cX3_countReadings 26 = .ok (.invokevirtual 76, 3) := by decide +kernel
theorem dX3_countReadings_29 : decode cX3_countReadings 29 = .ok (.ifCond .eq 6, 3) := by decide +kernel
theorem dX3_countReadings_32 : decode cX3_countReadings 32 = .ok (.iinc 2 1, 3) := by decide +kernel
theorem dX3_countReadings_35 : decode cX3_countReadings 35 = .ok (.iinc 4 1, 3) := by decide +kernel
theorem dX3_countReadings_38 : decode cX3_countReadings 38 = .ok (.goto (-26), 3) := by decide +kernel
theorem dX3_countReadings_41 : decode cX3_countReadings 41 = .ok (.iinc 3 1, 3) := by decide +kernel
theorem dX3_countReadings_44 : decode cX3_countReadings 44 = .ok (.goto (-40), 3) := by decide +kernel
theorem dX3_countReadings_47 : decode cX3_countReadings 47 = .ok (.iload_n 2, 1) := by decide +kernel
theorem dX3_countReadings_48 : decode cX3_countReadings 48 = .ok (.ireturn, 1) := by decide +kernel
set_option maxRecDepth 20000 in
theorem ggX3_readingOf_X3_agrees : GoodIn wsX3_readingOf wsX3_agrees := goodIn_r _ [6, 1, 7, 8, 9, 10, 11, 12, 13, 14, 15, 16, 17, 18, 5, 19, 20, 21, 22, 23, 24, 25, 26, 27, 28, 29, 30, 31, 32, 33, 34] (by decide +kernel) (by decide +kernel)
set_option maxRecDepth 20000 in
theorem gX3_readingOf_X3_agrees : GoodIn wsX3_readingOf (wsV RX3 76 RX3 yX3_agrees wsX3_agrees) := goodIn_app (goodIn_of _ (by decide +kernel)) ggX3_readingOf_X3_agrees
theorem dX3_readingOf_0 : decode cX3_readingOf 0 = .ok (.iconst 0, 1) := by decide +kernel
theorem dX3_readingOf_1 : decode cX3_readingOf 1 = .ok (.istore_n 3, 1) := by decide +kernel
theorem dX3_readingOf_2 : decode cX3_readingOf 2 = .ok (.iconst 0, 1) := by decide +kernel
theorem dX3_readingOf_3 : decode cX3_readingOf 3 = .ok (.istore 4, 2) := by decide +kernel
theorem dX3_readingOf_5 : decode cX3_readingOf 5 = .ok (.iload 4, 2) := by decide +kernel
theorem dX3_readingOf_7 : decode cX3_readingOf 7 = .ok (.iconst 4, 1) := by decide +kernel
theorem dX3_readingOf_8 : decode cX3_readingOf 8 = .ok (.if_icmp .ge 56, 3) := by decide +kernel
theorem dX3_readingOf_11 : decode cX3_readingOf 11 = .ok (.iconst 0, 1) := by decide +kernel
theorem dX3_readingOf_12 : decode cX3_readingOf 12 = .ok (.istore 5, 2) := by decide +kernel
theorem dX3_readingOf_14 : decode cX3_readingOf 14 = .ok (.iload 5, 2) := by decide +kernel
theorem dX3_readingOf_16 : decode cX3_readingOf 16 = .ok (.aload_n 0, 1) := by decide +kernel
theorem dX3_readingOf_17 : decode cX3_readingOf 17 = .ok (.getfield 15, 3) := by decide +kernel
theorem dX3_readingOf_20 : decode cX3_readingOf 20 = .ok (.if_icmp .ge 38, 3) := by decide +kernel
theorem dX3_readingOf_23 : decode cX3_readingOf 23 = .ok (.aload_n 0, 1) := by decide +kernel
theorem dX3_readingOf_24 : decode cX3_readingOf 24 = .ok (.aload_n 1, 1) := by decide +kernel
theorem dX3_readingOf_25 : decode cX3_readingOf 25 = .ok (.iload 4, 2) := by decide +kernel
theorem dX3_readingOf_27 : decode cX3_readingOf 27 = .ok (.iload 5, 2) := by decide +kernel
theorem dX3_readingOf_29 : decode cX3_readingOf 29 = .ok (.invokevirtual 76, 3) := by decide +kernel
theorem dX3_readingOf_32 : decode cX3_readingOf 32 = .ok (.ifCond .eq 20, 3) := by decide +kernel
theorem dX3_readingOf_35 : decode cX3_readingOf 35 = .ok (.iload_n 3, 1) := by decide +kernel
theorem dX3_readingOf_36 : decode cX3_readingOf 36 = .ok (.iload_n 2, 1) := by decide +kernel
theorem dX3_readingOf_37 : decode cX3_readingOf 37 = .ok (.if_icmp .ne 12, 3) := by decide +kernel
theorem dX3_readingOf_40 : decode cX3_readingOf 40 = .ok (.bipush 100, 2) := by decide +kernel
theorem dX3_readingOf_42 : decode cX3_readingOf 42 = .ok (.iload 4, 2) := by decide +kernel
theorem dX3_readingOf_44 : decode cX3_readingOf 44 = .ok (.imul, 1) := by decide +kernel
theorem dX3_readingOf_45 : decode cX3_readingOf 45 = .ok (.iload 5, 2) := by decide +kernel
theorem dX3_readingOf_47 : decode cX3_readingOf 47 = .ok (.iadd, 1) := by decide +kernel
theorem dX3_readingOf_48 : decode cX3_readingOf 48 = .ok (.ireturn, 1) := by decide +kernel
theorem dX3_readingOf_49 : decode cX3_readingOf 49 = .ok (.iinc 3 1, 3) := by decide +kernel
theorem dX3_readingOf_52 : decode cX3_readingOf 52 = .ok (.iinc 5 1, 3) := by decide +kernel
theorem dX3_readingOf_55 : decode cX3_readingOf 55 = .ok (.goto (-41), 3) := by decide +kernel
theorem dX3_readingOf_58 : decode cX3_readingOf 58 = .ok (.iinc 4 1, 3) := by decide +kernel
theorem dX3_readingOf_61 : decode cX3_readingOf 61 = .ok (.goto (-56), 3) := by decide +kernel
theorem dX3_readingOf_64 : decode cX3_readingOf 64 = .ok (.iconst (-1), 1) := by decide +kernel
theorem dX3_readingOf_65 : decode cX3_readingOf 65 = .ok (.ireturn, 1) := by decide +kernel
theorem dX4_init_0 : decode cX4_init 0 = .ok (.aload_n 0, 1) := by decide +kernel
theorem dX4_init_1 : decode cX4_init 1 = .ok (.invokespecial 3, 3) := by decide +kernel
theorem dX4_init_4 : decode cX4_init 4 = .ok (.aload_n 0, 1) := by decide +kernel
theorem dX4_init_5 : decode cX4_init 5 = .ok (.bipush 60, 2) := by decide +kernel
theorem dX4_init_7 : decode cX4_init 7 = .ok (.newarray .int, 2) := by decide +kernel
theorem dX4_init_9 : decode cX4_init 9 = .ok (.putfield 9, 3) := by decide +kernel
theorem dX4_init_12 : decode cX4_init 12 = .ok (.aload_n 0, 1) := by decide +kernel
theorem dX4_init_13 : decode cX4_init 13 = .ok (.iconst 1, 1) := by decide +kernel
theorem dX4_init_14 : decode cX4_init 14 = .ok (.putfield 15, 3) := by decide +kernel
theorem dX4_init_17 : decode cX4_init 17 = .ok (.aload_n 0, 1) := by decide +kernel
theorem dX4_init_18 : decode cX4_init 18 = .ok (.iconst 0, 1) := by decide +kernel
theorem dX4_init_19 : decode cX4_init 19 = .ok (.putfield 19, 3) := by decide +kernel
theorem dX4_init_22 : decode cX4_init 22 = .ok (.aload_n 0, 1) := by decide +kernel
theorem dX4_init_23 : decode cX4_init 23 = .ok (.iconst 0, 1) := by decide +kernel
theorem dX4_init_24 : decode cX4_init 24 = .ok (.putfield 23, 3) := by decide +kernel
theorem dX4_init_27 : decode cX4_init 27 = .ok (.return_, 1) := by decide +kernel
set_option maxRecDepth 20000 in
theorem ggX4_renew_J7_fill_53178 : GoodIn wsX4_renew wsJ7_fill_53178 := goodIn_r _ [8] (by decide +kernel) (by decide +kernel)
set_option maxRecDepth 20000 in
theorem gX4_renew_J7_fill_53178 : GoodIn wsX4_renew (va_wsS RX4 26 yJ7_fill_53178 wsJ7_fill_53178) := goodIn_app (goodIn_of _ (by decide +kernel)) ggX4_renew_J7_fill_53178
theorem dX4_renew_0 : decode cX4_renew 0 = .ok (.aload_n 0, 1) := by decide +kernel
theorem dX4_renew_1 : decode cX4_renew 1 = .ok (.iconst 0, 1) := by decide +kernel
theorem dX4_renew_2 : decode cX4_renew 2 = .ok (.putfield 15, 3) := by decide +kernel
theorem dX4_renew_5 : decode cX4_renew 5 = .ok (.aload_n 0, 1) := by decide +kernel
theorem dX4_renew_6 : decode cX4_renew 6 = .ok (.iload_n 1, 1) := by decide +kernel
theorem dX4_renew_7 : decode cX4_renew 7 = .ok (.putfield 19, 3) := by decide +kernel
theorem dX4_renew_10 : decode cX4_renew 10 = .ok (.aload_n 0, 1) := by decide +kernel
theorem dX4_renew_11 : decode cX4_renew 11 = .ok (.iload_n 2, 1) := by decide +kernel
theorem dX4_renew_12 : decode cX4_renew 12 = .ok (.putfield 23, 3) := by decide +kernel
theorem dX4_renew_15 : decode cX4_renew 15 = .ok (.aload_n 0, 1) := by decide +kernel
theorem dX4_renew_16 : decode cX4_renew 16 = .ok (.getfield 9, 3) := by decide +kernel
theorem dX4_renew_19 : decode cX4_renew 19 = .ok (.iconst 0, 1) := by decide +kernel
theorem dX4_renew_20 : decode cX4_renew 20 = .ok (.invokestatic 26, 3) := by decide +kernel
theorem dX4_renew_23 : decode cX4_renew 23 = .ok (.return_, 1) := by decide +kernel
set_option maxRecDepth 20000 in
theorem ggX4_hasItem_X7_within : GoodIn wsX4_hasItem wsX7_within := goodIn_r _ [4] (by decide +kernel) (by decide +kernel)
set_option maxRecDepth 20000 in
theorem gX4_hasItem_X7_within_n32 : GoodIn wsX4_hasItem (wsX7_within) := ggX4_hasItem_X7_within
theorem dX4_hasItem_0 : decode cX4_hasItem 0 = .ok (.iload_n 1, 1) := by decide +kernel
theorem dX4_hasItem_1 : decode cX4_hasItem 1 = .ok (.iconst 0, 1) := by decide +kernel
theorem dX4_hasItem_2 : decode cX4_hasItem 2 = .ok (.aload_n 0, 1) := by decide +kernel
theorem dX4_hasItem_3 : decode cX4_hasItem 3 = .ok (.getfield 23, 3) := by decide +kernel
theorem dX4_hasItem_6 : decode cX4_hasItem 6 = .ok (.iconst 1, 1) := by decide +kernel
theorem dX4_hasItem_7 : decode cX4_hasItem 7 = .ok (.isub, 1) := by decide +kernel
theorem dX4_hasItem_8 : decode cX4_hasItem 8 = .ok (.invokestatic 32, 3) := by decide +kernel
theorem dX4_hasItem_11 : decode cX4_hasItem 11 = .ok (.ireturn, 1) := by decide +kernel
theorem dX4_hasRun_0 : decode cX4_hasRun 0 = .ok (.iload_n 1, 1) := by decide +kernel
theorem dX4_hasRun_1 : decode cX4_hasRun 1 = .ok (.ifCond .lt 29, 3) := by decide +kernel
theorem dX4_hasRun_4 : decode cX4_hasRun 4 = .ok (.iload_n 2, 1) := by decide +kernel
theorem dX4_hasRun_5 : decode cX4_hasRun 5 = .ok (.ifCond .lt 25, 3) := by decide +kernel
theorem dX4_hasRun_8 : decode cX4_hasRun 8 = .ok (.iload_n 1, 1) := by decide +kernel
theorem dX4_hasRun_9 : decode cX4_hasRun 9 = .ok (.aload_n 0, 1) := by decide +kernel
theorem dX4_hasRun_10 : decode cX4_hasRun 10 = .ok (.getfield 23, 3) := by decide +kernel
theorem dX4_hasRun_13 : decode cX4_hasRun 13 = .ok (.if_icmp .gt 17, 3) := by decide +kernel
theorem dX4_hasRun_16 : decode cX4_hasRun 16 = .ok (.iload_n 2, 1) := by decide +kernel
theorem dX4_hasRun_17 : decode cX4_hasRun 17 = .ok (.aload_n 0, 1) := by decide +kernel
theorem dX4_hasRun_18 : decode cX4_hasRun 18 = .ok (.getfield 23, 3) := by decide +kernel
theorem dX4_hasRun_21 : decode cX4_hasRun 21 = .ok (.iload_n 1, 1) := by decide +kernel
theorem dX4_hasRun_22 : decode cX4_hasRun 22 = .ok (.isub, 1) := by decide +kernel
theorem dX4_hasRun_23 : decode cX4_hasRun 23 = .ok (.if_icmp .gt 7, 3) := by decide +kernel
theorem dX4_hasRun_26 : decode cX4_hasRun 26 = .ok (.iconst 1, 1) := by decide +kernel
theorem dX4_hasRun_27 : decode cX4_hasRun 27 = .ok (.goto 4, 3) := by decide +kernel
theorem dX4_hasRun_30 : decode cX4_hasRun 30 = .ok (.iconst 0, 1) := by decide +kernel
theorem dX4_hasRun_31 : decode cX4_hasRun 31 = .ok (.ireturn, 1) := by decide +kernel
theorem dX4_write_0 : decode cX4_write 0 = .ok (.aload_n 0, 1) := by decide +kernel
theorem dX4_write_1 : decode cX4_write 1 = .ok (.getfield 19, 3) := by decide +kernel
theorem dX4_write_4 : decode cX4_write 4 = .ok (.lookupswitch 50 #[(0, 28), (1, 39)], 28) := by decide +kernel
theorem dX4_write_32 : decode cX4_write 32 = .ok (.aload_n 0, 1) := by decide +kernel
theorem dX4_write_33 : decode cX4_write 33 = .ok (.getfield 9, 3) := by decide +kernel
theorem dX4_write_36 : decode cX4_write 36 = .ok (.iload_n 1, 1) := by decide +kernel
theorem dX4_write_37 : decode cX4_write 37 = .ok (.iload_n 2, 1) := by decide +kernel
theorem dX4_write_38 : decode cX4_write 38 = .ok (.i2b, 1) := by decide +kernel
theorem dX4_write_39 : decode cX4_write 39 = .ok (.iastore, 1) := by decide +kernel
theorem dX4_write_40 : decode cX4_write 40 = .ok (.goto 21, 3) := by decide +kernel
theorem dX4_write_43 : decode cX4_write 43 = .ok (.aload_n 0, 1) := by decide +kernel
theorem dX4_write_44 : decode cX4_write 44 = .ok (.getfield 9, 3) := by decide +kernel
theorem dX4_write_47 : decode cX4_write 47 = .ok (.iload_n 1, 1) := by decide +kernel
theorem dX4_write_48 : decode cX4_write 48 = .ok (.iload_n 2, 1) := by decide +kernel
theorem dX4_write_49 : decode cX4_write 49 = .ok (.i2s, 1) := by decide +kernel
theorem dX4_write_50 : decode cX4_write 50 = .ok (.iastore, 1) := by decide +kernel
theorem dX4_write_51 : decode cX4_write 51 = .ok (.goto 10, 3) := by decide +kernel
theorem dX4_write_54 : decode cX4_write 54 = .ok (.aload_n 0, 1) := by decide +kernel
theorem dX4_write_55 : decode cX4_write 55 = .ok (.getfield 9, 3) := by decide +kernel
theorem dX4_write_58 : decode cX4_write 58 = .ok (.iload_n 1, 1) := by decide +kernel
theorem dX4_write_59 : decode cX4_write 59 = .ok (.iload_n 2, 1) := by decide +kernel
theorem dX4_write_60 : decode cX4_write 60 = .ok (.iastore, 1) := by decide +kernel
theorem dX4_write_61 : decode cX4_write 61 = .ok (.return_, 1) := by decide +kernel
set_option maxRecDepth 20000 in
theorem ggX4_wantAt_X4_hasItem : GoodIn wsX4_wantAt wsX4_hasItem := goodIn_r _ [7, 8, 9, 10, 11, 12, 13, 14, 15] (by decide +kernel) (by decide +kernel)
set_option maxRecDepth 20000 in
theorem gX4_wantAt_X4_hasItem : GoodIn wsX4_wantAt (wsV RX4 36 RX4 yX4_hasItem wsX4_hasItem) := goodIn_app (goodIn_of _ (by decide +kernel)) ggX4_wantAt_X4_hasItem
theorem dX4_wantAt_0 : decode cX4_wantAt 0 = .ok (.aload_n 0, 1) := by decide +kernel
theorem dX4_wantAt_1 : decode cX4_wantAt 1 = .ok (.getfield 15, 3) := by decide +kernel
theorem dX4_wantAt_4 : decode cX4_wantAt 4 = .ok (.ifCond .ne 20, 3) := by decide +kernel
theorem dX4_wantAt_7 : decode cX4_wantAt 7 = .ok (.aload_n 0, 1) := by decide +kernel
theorem dX4_wantAt_8 : decode cX4_wantAt 8 = .ok (.iload_n 1, 1) := by decide +kernel
theorem dX4_wantAt_9 : decode cX4_wantAt 9 = .ok (.invokevirtual 36, 3) := by decide +kernel
theorem dX4_wantAt_12 : decode cX4_wantAt 12 = .ok (.ifCond .eq 12, 3) := by decide +kernel
theorem dX4_wantAt_15 : decode cX4_wantAt 15 = .ok (.aload_n 0, 1) := by decide +kernel
theorem dX4_wantAt_16 : decode cX4_wantAt 16 = .ok (.getfield 9, 3) := by decide +kernel
theorem dX4_wantAt_19 : decode cX4_wantAt 19 = .ok (.iload_n 1, 1) := by decide +kernel
theorem dX4_wantAt_20 : decode cX4_wantAt 20 = .ok (.iaload, 1) := by decide +kernel
theorem dX4_wantAt_21 : decode cX4_wantAt 21 = .ok (.ifCond .ge 7, 3) := by decide +kernel
theorem dX4_wantAt_24 : decode cX4_wantAt 24 = .ok (.iconst (-1), 1) := by decide +kernel
theorem dX4_wantAt_25 : decode cX4_wantAt 25 = .ok (.goto 9, 3) := by decide +kernel
theorem dX4_wantAt_28 : decode cX4_wantAt 28 = .ok (.aload_n 0, 1) := by decide +kernel
theorem dX4_wantAt_29 : decode cX4_wantAt 29 = .ok (.getfield 9, 3) := by decide +kernel
theorem dX4_wantAt_32 : decode cX4_wantAt 32 = .ok (.iload_n 1, 1) := by decide +kernel
theorem dX4_wantAt_33 : decode cX4_wantAt 33 = .ok (.iaload, 1) := by decide +kernel
theorem dX4_wantAt_34 : decode cX4_wantAt 34 = .ok (.ireturn, 1) := by decide +kernel
theorem dX5_init_0 : decode cX5_init 0 = .ok (.aload_n 0, 1) := by decide +kernel
theorem dX5_init_1 : decode cX5_init 1 = .ok (.invokespecial 3, 3) := by decide +kernel
theorem dX5_init_4 : decode cX5_init 4 = .ok (.return_, 1) := by decide +kernel
theorem dX5_beginWith_0 : decode cX5_beginWith 0 = .ok (.aload_n 0, 1) := by decide +kernel
theorem dX5_beginWith_1 : decode cX5_beginWith 1 = .ok (.iload_n 1, 1) := by decide +kernel
theorem dX5_beginWith_2 : decode cX5_beginWith 2 = .ok (.i2l, 1) := by decide +kernel
theorem dX5_beginWith_3 : decode cX5_beginWith 3 = .ok (.putfield 9, 3) := by decide +kernel
theorem dX5_beginWith_6 : decode cX5_beginWith 6 = .ok (.aload_n 0, 1) := by decide +kernel
theorem dX5_beginWith_7 : decode cX5_beginWith 7 = .ok (.lconst 0, 1) := by decide +kernel
theorem dX5_beginWith_8 : decode cX5_beginWith 8 = .ok (.putfield 15, 3) := by decide +kernel
theorem dX5_beginWith_11 : decode cX5_beginWith 11 = .ok (.aload_n 0, 1) := by decide +kernel
theorem dX5_beginWith_12 : decode cX5_beginWith 12 = .ok (.lconst 0, 1) := by decide +kernel
theorem dX5_beginWith_13 : decode cX5_beginWith 13 = .ok (.putfield 18, 3) := by decide +kernel
theorem dX5_beginWith_16 : decode cX5_beginWith 16 = .ok (.aload_n 0, 1) := by decide +kernel
theorem dX5_beginWith_17 : decode cX5_beginWith 17 = .ok (.iconst (-1), 1) := by decide +kernel
theorem dX5_beginWith_18 : decode cX5_beginWith 18 = .ok (.putfield 21, 3) := by decide +kernel
theorem dX5_beginWith_21 : decode cX5_beginWith 21 = .ok (.return_, 1) := by decide +kernel
theorem dX5_supply_0 : decode cX5_supply 0 = .ok (.aload_n 0, 1) := by decide +kernel
theorem dX5_supply_1 : decode cX5_supply 1 = .ok (.dup, 1) := by decide +kernel
theorem dX5_supply_2 : decode cX5_supply 2 = .ok (.getfield 9, 3) := by decide +kernel
theorem dX5_supply_5 : decode cX5_supply 5 = .ok (.iload_n 2, 1) := by decide +kernel
theorem dX5_supply_6 : decode cX5_supply 6 = .ok (.iload_n 3, 1) := by decide +kernel
theorem dX5_supply_7 : decode cX5_supply 7 = .ok (.isub, 1) := by decide +kernel
theorem dX5_supply_8 : decode cX5_supply 8 = .ok (.i2l, 1) := by decide +kernel
theorem dX5_supply_9 : decode cX5_supply 9 = .ok (.ladd, 1) := by decide +kernel
theorem dX5_supply_10 : decode cX5_supply 10 = .ok (.putfield 9, 3) := by decide +kernel
theorem dX5_supply_13 : decode cX5_supply 13 = .ok (.aload_n 0, 1) := by decide +kernel
theorem dX5_supply_14 : decode cX5_supply 14 = .ok (.getfield 9, 3) := by decide +kernel
theorem dX5_supply_17 : decode cX5_supply 17 = .ok (.lconst 0, 1) := by decide +kernel
theorem dX5_supply_18 : decode cX5_supply 18 = .ok (.lcmp, 1) := by decide +kernel
theorem dX5_supply_19 : decode cX5_supply 19 = .ok (.ifCond .lt 4, 3) := by decide +kernel
theorem dX5_supply_22 : decode cX5_supply 22 = .ok (.return_, 1) := by decide +kernel
theorem dX5_supply_23 : decode cX5_supply 23 = .ok (.aload_n 0, 1) := by decide +kernel
theorem dX5_supply_24 : decode cX5_supply 24 = .ok (.dup, 1) := by decide +kernel
theorem dX5_supply_25 : decode cX5_supply 25 = .ok (.getfield 15, 3) := by decide +kernel
theorem dX5_supply_28 : decode cX5_supply 28 = .ok (.aload_n 0, 1) := by decide +kernel
theorem dX5_supply_29 : decode cX5_supply 29 = .ok (.getfield 9, 3) := by decide +kernel
theorem dX5_supply_32 : decode cX5_supply 32 = .ok (.lsub, 1) := by decide +kernel
theorem dX5_supply_33 : decode cX5_supply 33 = .ok (.putfield 15, 3) := by decide +kernel
theorem dX5_supply_36 : decode cX5_supply 36 = .ok (.aload_n 0, 1) := by decide +kernel
theorem dX5_supply_37 : decode cX5_supply 37 = .ok (.lconst 0, 1) := by decide +kernel
theorem dX5_supply_38 : decode cX5_supply 38 = .ok (.putfield 9, 3) := by decide +kernel
theorem dX5_supply_41 : decode cX5_supply 41 = .ok (.aload_n 0, 1) := by decide +kernel
theorem dX5_supply_42 : decode cX5_supply 42 = .ok (.getfield 21, 3) := by decide +kernel
theorem dX5_supply_45 : decode cX5_supply 45 = .ok (.iconst (-1), 1) := by decide +kernel
theorem dX5_supply_46 : decode cX5_supply 46 = .ok (.if_icmp .ne 8, 3) := by decide +kernel
theorem dX5_supply_49 : decode cX5_supply 49 = .ok (.aload_n 0, 1) := by decide +kernel
theorem dX5_supply_50 : decode cX5_supply 50 = .ok (.iload_n 1, 1) := by decide +kernel
theorem dX5_supply_51 : decode cX5_supply 51 = .ok (.putfield 21, 3) := by decide +kernel
theorem dX5_supply_54 : decode cX5_supply 54 = .ok (.return_, 1) := by decide +kernel
theorem dX5_soften_0 : decode cX5_soften 0 = .ok (.aload_n 0, 1) := by decide +kernel
theorem dX5_soften_1 : decode cX5_soften 1 = .ok (.getfield 9, 3) := by decide +kernel
theorem dX5_soften_4 : decode cX5_soften 4 = .ok (.iload_n 1, 1) := by decide +kernel
theorem dX5_soften_5 : decode cX5_soften 5 = .ok (.i2l, 1) := by decide +kernel
theorem dX5_soften_6 : decode cX5_soften 6 = .ok (.lmul, 1) := by decide +kernel
theorem dX5_soften_7 : decode cX5_soften 7 = .ok (.ldc2_w 25, 3) := by decide +kernel
theorem dX5_soften_10 : decode cX5_soften 10 = .ok (.ldiv, 1) := by decide +kernel
theorem dX5_soften_11 : decode cX5_soften 11 = .ok (.lstore_n 2, 1) := by decide +kernel
theorem dX5_soften_12 : decode cX5_soften 12 = .ok (.aload_n 0, 1) := by decide +kernel
theorem dX5_soften_13 : decode cX5_soften 13 = .ok (.dup, 1) := by decide +kernel
theorem dX5_soften_14 : decode cX5_soften 14 = .ok (.getfield 9, 3) := by decide +kernel
theorem dX5_soften_17 : decode cX5_soften 17 = .ok (.lload_n 2, 1) := by decide +kernel
theorem dX5_soften_18 : decode cX5_soften 18 = .ok (.lsub, 1) := by decide +kernel
theorem dX5_soften_19 : decode cX5_soften 19 = .ok (.putfield 9, 3) := by decide +kernel
theorem dX5_soften_22 : decode cX5_soften 22 = .ok (.aload_n 0, 1) := by decide +kernel
theorem dX5_soften_23 : decode cX5_soften 23 = .ok (.dup, 1) := by decide +kernel
theorem dX5_soften_24 : decode cX5_soften 24 = .ok (.getfield 18, 3) := by decide +kernel
theorem dX5_soften_27 : decode cX5_soften 27 = .ok (.lload_n 2, 1) := by decide +kernel
theorem dX5_soften_28 : decode cX5_soften 28 = .ok (.ladd, 1) := by decide +kernel
theorem dX5_soften_29 : decode cX5_soften 29 = .ok (.putfield 18, 3) := by decide +kernel
theorem dX5_soften_32 : decode cX5_soften 32 = .ok (.return_, 1) := by decide +kernel
theorem dX6_init_0 : decode cX6_init 0 = .ok (.aload_n 0, 1) := by decide +kernel
theorem dX6_init_1 : decode cX6_init 1 = .ok (.invokespecial 3, 3) := by decide +kernel
theorem dX6_init_4 : decode cX6_init 4 = .ok (.aload_n 0, 1) := by decide +kernel
theorem dX6_init_5 : decode cX6_init 5 = .ok (.bipush 10, 2) := by decide +kernel
theorem dX6_init_7 : decode cX6_init 7 = .ok (.anewarray 9, 3) := by decide +kernel
theorem dX6_init_10 : decode cX6_init 10 = .ok (.putfield 11, 3) := by decide +kernel
theorem dX6_init_13 : decode cX6_init 13 = .ok (.aload_n 0, 1) := by decide +kernel
theorem dX6_init_14 : decode cX6_init 14 = .ok (.iconst 0, 1) := by decide +kernel
theorem dX6_init_15 : decode cX6_init 15 = .ok (.putfield 17, 3) := by decide +kernel
theorem dX6_init_18 : decode cX6_init 18 = .ok (.return_, 1) := by decide +kernel
theorem dX6_append_0 : decode cX6_append 0 = .ok (.aload_n 0, 1) := by decide +kernel
theorem dX6_append_1 : decode cX6_append 1 = .ok (.getfield 17, 3) := by decide +kernel
theorem dX6_append_4 : decode cX6_append 4 = .ok (.bipush 10, 2) := by decide +kernel
theorem dX6_append_6 : decode cX6_append 6 = .ok (.if_icmp .lt 5, 3) := by decide +kernel
theorem dX6_append_9 : decode cX6_append 9 = .ok (.iconst 0, 1) := by decide +kernel
theorem dX6_append_10 : decode cX6_append 10 = .ok (.ireturn, 1) := by decide +kernel
theorem dX6_append_11 : decode cX6_append 11 = .ok (.aload_n 0, 1) := by decide +kernel
theorem dX6_append_12 : decode cX6_append 12 = .ok (.getfield 11, 3) := by decide +kernel
theorem dX6_append_15 : decode cX6_append 15 = .ok (.aload_n 0, 1) := by decide +kernel
theorem dX6_append_16 : decode cX6_append 16 = .ok (.getfield 17, 3) := by decide +kernel
theorem dX6_append_19 : decode cX6_append 19 = .ok (.aload_n 1, 1) := by decide +kernel
theorem dX6_append_20 : decode cX6_append 20 = .ok (.aastore, 1) := by decide +kernel
theorem dX6_append_21 : decode cX6_append 21 = .ok (.aload_n 0, 1) := by decide +kernel
theorem dX6_append_22 : decode cX6_append 22 = .ok (.dup, 1) := by decide +kernel
theorem dX6_append_23 : decode cX6_append 23 = .ok (.getfield 17, 3) := by decide +kernel
theorem dX6_append_26 : decode cX6_append 26 = .ok (.iconst 1, 1) := by decide +kernel
theorem dX6_append_27 : decode cX6_append 27 = .ok (.iadd, 1) := by decide +kernel
theorem dX6_append_28 : decode cX6_append 28 = .ok (.putfield 17, 3) := by decide +kernel
theorem dX6_append_31 : decode cX6_append 31 = .ok (.iconst 1, 1) := by decide +kernel
theorem dX6_append_32 : decode cX6_append 32 = .ok (.ireturn, 1) := by decide +kernel
theorem dX6_isLaidBefore_0 : decode cX6_isLaidBefore 0 = .ok (.aload_n 0, 1) := by decide +kernel
theorem dX6_isLaidBefore_1 : decode cX6_isLaidBefore 1 = .ok (.getfield 11, 3) := by decide +kernel
theorem dX6_isLaidBefore_4 : decode cX6_isLaidBefore 4 = .ok (.iload_n 1, 1) := by decide +kernel
theorem dX6_isLaidBefore_5 : decode cX6_isLaidBefore 5 = .ok (.aaload, 1) := by decide +kernel
theorem dX6_isLaidBefore_6 : decode cX6_isLaidBefore 6 = .ok (.getfield 21, 3) := by decide +kernel
theorem dX6_isLaidBefore_9 : decode cX6_isLaidBefore 9 = .ok (.istore_n 3, 1) := by decide +kernel
theorem dX6_isLaidBefore_10 : decode cX6_isLaidBefore 10 = .ok (.aload_n 0, 1) := by decide +kernel
theorem dX6_isLaidBefore_11 : decode cX6_isLaidBefore 11 = .ok (.getfield 11, 3) := by decide +kernel
theorem dX6_isLaidBefore_14 : decode cX6_isLaidBefore 14 = .ok (.iload_n 2, 1) := by decide +kernel
theorem dX6_isLaidBefore_15 : decode cX6_isLaidBefore 15 = .ok (.aaload, 1) := by decide +kernel
theorem dX6_isLaidBefore_16 : decode cX6_isLaidBefore 16 = .ok (.getfield 21, 3) := by decide +kernel
theorem dX6_isLaidBefore_19 : decode cX6_isLaidBefore 19 = .ok (.istore 4, 2) := by decide +kernel
theorem dX6_isLaidBefore_21 : decode cX6_isLaidBefore 21 = .ok (.iload_n 3, 1) := by decide +kernel
theorem dX6_isLaidBefore_22 : decode cX6_isLaidBefore 22 = .ok (.iload 4, 2) := by decide +kernel
theorem dX6_isLaidBefore_24 : decode cX6_isLaidBefore 24 = .ok (.if_icmp .lt 14, 3) := by decide +kernel
theorem dX6_isLaidBefore_27 : decode cX6_isLaidBefore 27 = .ok (.iload_n 3, 1) := by decide +kernel
theorem dX6_isLaidBefore_28 : decode cX6_isLaidBefore 28 = .ok (.iload 4, 2) := by decide +kernel
theorem dX6_isLaidBefore_30 : decode cX6_isLaidBefore 30 = .ok (.if_icmp .ne 12, 3) := by decide +kernel
theorem dX6_isLaidBefore_33 : decode cX6_isLaidBefore 33 = .ok (.iload_n 1, 1) := by decide +kernel
theorem dX6_isLaidBefore_34 : decode cX6_isLaidBefore 34 = .ok (.iload_n 2, 1) := by decide +kernel
theorem dX6_isLaidBefore_35 : decode cX6_isLaidBefore 35 = .ok (.if_icmp .ge 7, 3) := by decide +kernel
theorem dX6_isLaidBefore_38 : decode cX6_isLaidBefore 38 = .ok (.iconst 1, 1) := by decide +kernel
theorem dX6_isLaidBefore_39 : decode cX6_isLaidBefore 39 = .ok (.goto 4, 3) := by decide +kernel
theorem dX6_isLaidBefore_42 : decode cX6_isLaidBefore 42 = .ok (.iconst 0, 1) := by decide +kernel
theorem dX6_isLaidBefore_43 : decode cX6_isLaidBefore 43 = .ok (.ireturn, 1) := by decide +kernel
set_option maxRecDepth 20000 in
theorem ggX6_placeInOrder_X6_rankOf : GoodIn wsX6_placeInOrder wsX6_rankOf := goodIn_r _ [6, 1, 7, 8, 9, 5, 10, 11, 12, 13, 14, 15, 16, 17, 18] (by decide +kernel) (by decide +kernel)
set_option maxRecDepth 20000 in
theorem gX6_placeInOrder_X6_rankOf : GoodIn wsX6_placeInOrder (wsV RX6 24 RX6 yX6_rankOf wsX6_rankOf) := goodIn_app (goodIn_of _ (by decide +kernel)) ggX6_placeInOrder_X6_rankOf
theorem dX6_placeInOrder_0 : decode cX6_placeInOrder 0 = .ok (.iconst 0, 1) := by decide +kernel
theorem dX6_placeInOrder_1 : decode cX6_placeInOrder 1 = .ok (.istore_n 2, 1) := by decide +kernel
theorem dX6_placeInOrder_2 : decode cX6_placeInOrder 2 = .ok (.iload_n 2, 1) := by decide +kernel
theorem dX6_placeInOrder_3 : decode cX6_placeInOrder 3 = .ok (.aload_n 0, 1) := by decide +kernel
theorem dX6_placeInOrder_4 : decode cX6_placeInOrder 4 = .ok (.getfield 17, 3) := by decide +kernel
theorem dX6_placeInOrder_7 : decode cX6_placeInOrder 7 = .ok (.if_icmp .ge 20, 3) := by decide +kernel
theorem dX6_placeInOrder_10 : decode cX6_placeInOrder 10 = .ok (.aload_n 0, 1) := by decide +kernel
theorem dX6_placeInOrder_11 : decode cX6_placeInOrder 11 = .ok (.iload_n 2, 1) := by decide +kernel
theorem dX6_placeInOrder_12 : decode cX6_placeInOrder 12 = .ok (.invokevirtual 24, 3) := by decide +kernel
theorem dX6_placeInOrder_15 : decode cX6_placeInOrder 15 = .ok (.iload_n 1, 1) := by decide +kernel
theorem dX6_placeInOrder_16 : decode cX6_placeInOrder 16 = .ok (.if_icmp .ne 5, 3) := by decide +kernel
theorem dX6_placeInOrder_19 : decode cX6_placeInOrder 19 = .ok (.iload_n 2, 1) := by decide +kernel
theorem dX6_placeInOrder_20 : decode cX6_placeInOrder 20 = .ok (.ireturn, 1) := by decide +kernel
theorem dX6_placeInOrder_21 : decode cX6_placeInOrder 21 = .ok (.iinc 2 1, 3) := by decide +kernel
theorem dX6_placeInOrder_24 : decode cX6_placeInOrder 24 = .ok (.goto (-22), 3) := by decide +kernel
theorem dX6_placeInOrder_27 : decode cX6_placeInOrder 27 = .ok (.bipush (-2), 2) := by decide +kernel
theorem dX6_placeInOrder_29 : decode cX6_placeInOrder 29 = .ok (.ireturn, 1) := by decide +kernel
set_option maxRecDepth 20000 in
theorem ggX6_rankOf_X6_isLaidBefore : GoodIn wsX6_rankOf wsX6_isLaidBefore := goodIn_r _ [6, 7, 8, 9, 10, 11, 12, 13, 14] (by decide +kernel) (by decide +kernel)
set_option maxRecDepth 20000 in
theorem gX6_rankOf_X6_isLaidBefore : GoodIn wsX6_rankOf (wsV RX6 28 RX6 yX6_isLaidBefore wsX6_isLaidBefore) := goodIn_app (goodIn_of _ (by decide +kernel)) ggX6_rankOf_X6_isLaidBefore
theorem dX6_rankOf_0 : decode cX6_rankOf 0 = .ok (.iconst 0, 1) := by decide +kernel
theorem dX6_rankOf_1 : decode cX6_rankOf 1 = .ok (.istore_n 2, 1) := by decide +kernel
theorem dX6_rankOf_2 : decode cX6_rankOf 2 = .ok (.iconst 0, 1) := by decide +kernel
theorem dX6_rankOf_3 : decode cX6_rankOf 3 = .ok (.istore_n 3, 1) := by decide +kernel
theorem dX6_rankOf_4 : decode cX6_rankOf 4 = .ok (.iload_n 3, 1) := by decide +kernel
theorem dX6_rankOf_5 : decode cX6_rankOf 5 = .ok (.aload_n 0, 1) := by decide +kernel
theorem dX6_rankOf_6 : decode cX6_rankOf 6 = .ok (.getfield 17, 3) := by decide +kernel
theorem dX6_rankOf_9 : decode cX6_rankOf 9 = .ok (.if_icmp .ge 21, 3) := by decide +kernel
theorem dX6_rankOf_12 : decode cX6_rankOf 12 = .ok (.aload_n 0, 1) := by decide +kernel
theorem dX6_rankOf_13 : decode cX6_rankOf 13 = .ok (.iload_n 3, 1) := by decide +kernel
theorem dX6_rankOf_14 : decode cX6_rankOf 14 = .ok (.iload_n 1, 1) := by decide +kernel
theorem dX6_rankOf_15 : decode cX6_rankOf 15 = .ok (.invokevirtual 28, 3) := by decide +kernel
theorem dX6_rankOf_18 : decode cX6_rankOf 18 = .ok (.ifCond .eq 6, 3) := by decide +kernel
theorem dX6_rankOf_21 : decode cX6_rankOf 21 = .ok (.iinc 2 1, 3) := by decide +kernel
theorem dX6_rankOf_24 : decode cX6_rankOf 24 = .ok (.iinc 3 1, 3) := by decide +kernel
theorem dX6_rankOf_27 : decode cX6_rankOf 27 = .ok (.goto (-23), 3) := by decide +kernel
theorem dX6_rankOf_30 : decode cX6_rankOf 30 = .ok (.iload_n 2, 1) := by decide +kernel
theorem dX6_rankOf_31 : decode cX6_rankOf 31 = .ok (.ireturn, 1) := by decide +kernel
set_option maxRecDepth 20000 in
theorem ggX6_lateAt_X6_isLaidBefore : GoodIn wsX6_lateAt wsX6_isLaidBefore := goodIn_r _ [9, 1, 4, 10, 11, 12, 13, 14, 15] (by decide +kernel) (by decide +kernel)
set_option maxRecDepth 20000 in
theorem gX6_lateAt_X6_isLaidBefore : GoodIn wsX6_lateAt (wsV RX6 28 RX6 yX6_isLaidBefore wsX6_isLaidBefore) := goodIn_app (goodIn_of _ (by decide +kernel)) ggX6_lateAt_X6_isLaidBefore
theorem dX6_lateAt_0 : decode cX6_lateAt 0 = .ok (.aload_n 0, 1) := by decide +kernel
theorem dX6_lateAt_1 : decode cX6_lateAt 1 = .ok (.getfield 11, 3) := by decide +kernel
theorem dX6_lateAt_4 : decode cX6_lateAt 4 = .ok (.iload_n 1, 1) := by decide +kernel
theorem dX6_lateAt_5 : decode cX6_lateAt 5 = .ok (.aaload, 1) := by decide +kernel
theorem dX6_lateAt_6 : decode cX6_lateAt 6 = .ok (.getfield 32, 3) := by decide +kernel
theorem dX6_lateAt_9 : decode cX6_lateAt 9 = .ok (.istore_n 2, 1) := by decide +kernel
theorem dX6_lateAt_10 : decode cX6_lateAt 10 = .ok (.iconst 0, 1) := by decide +kernel
theorem dX6_lateAt_11 : decode cX6_lateAt 11 = .ok (.istore_n 3, 1) := by decide +kernel
theorem dX6_lateAt_12 : decode cX6_lateAt 12 = .ok (.iload_n 3, 1) := by decide +kernel
theorem dX6_lateAt_13 : decode cX6_lateAt 13 = .ok (.aload_n 0, 1) := by decide +kernel
theorem dX6_lateAt_14 : decode cX6_lateAt 14 = .ok (.getfield 17, 3) := by decide +kernel
theorem dX6_lateAt_17 : decode cX6_lateAt 17 = .ok (.if_icmp .ge 30, 3) := by decide +kernel
theorem dX6_lateAt_20 : decode cX6_lateAt 20 = .ok (.aload_n 0, 1) := by decide +kernel
theorem dX6_lateAt_21 : decode cX6_lateAt 21 = .ok (.iload_n 3, 1) := by decide +kernel
theorem dX6_lateAt_22 : decode cX6_lateAt 22 = .ok (.iload_n 1, 1) := by decide +kernel
theorem dX6_lateAt_23 : decode cX6_lateAt 23 = .ok (.invokevirtual 28, 3) := by decide +kernel
theorem dX6_lateAt_26 : decode cX6_lateAt 26 = .ok (.ifCond .eq 15, 3) := by decide +kernel
theorem dX6_lateAt_29 : decode cX6_lateAt 29 = .ok (.iload_n 2, 1) := by decide +kernel
theorem dX6_lateAt_30 : decode cX6_lateAt 30 = .ok (.aload_n 0, 1) := by decide +kernel
theorem dX6_lateAt_31 : decode cX6_lateAt 31 = .ok (.getfield 11, 3) := by decide +kernel
theorem dX6_lateAt_34 : decode cX6_lateAt 34 = .ok (.iload_n 3, 1) := by decide +kernel
theorem dX6_lateAt_35 : decode cX6_lateAt 35 = .ok (.aaload, 1) := by decide +kernel
theorem dX6_lateAt_36 : decode cX6_lateAt 36 = .ok (.getfield 32, 3) := by decide +kernel
theorem dX6_lateAt_39 : decode cX6_lateAt 39 = .ok (.iadd, 1) := by decide +kernel
theorem dX6_lateAt_40 : decode cX6_lateAt 40 = .ok (.istore_n 2, 1) := by decide +kernel
theorem dX6_lateAt_41 : decode cX6_lateAt 41 = .ok (.iinc 3 1, 3) := by decide +kernel
theorem dX6_lateAt_44 : decode cX6_lateAt 44 = .ok (.goto (-32), 3) := by decide +kernel
theorem dX6_lateAt_47 : decode cX6_lateAt 47 = .ok (.iload_n 2, 1) := by decide +kernel
theorem dX6_lateAt_48 : decode cX6_lateAt 48 = .ok (.aload_n 0, 1) := by decide +kernel
theorem dX6_lateAt_49 : decode cX6_lateAt 49 = .ok (.getfield 11, 3) := by decide +kernel
theorem dX6_lateAt_52 : decode cX6_lateAt 52 = .ok (.iload_n 1, 1) := by decide +kernel
theorem dX6_lateAt_53 : decode cX6_lateAt 53 = .ok (.aaload, 1) := by decide +kernel
theorem dX6_lateAt_54 : decode cX6_lateAt 54 = .ok (.getfield 21, 3) := by decide +kernel
theorem dX6_lateAt_57 : decode cX6_lateAt 57 = .ok (.isub, 1) := by decide +kernel
theorem dX6_lateAt_58 : decode cX6_lateAt 58 = .ok (.ireturn, 1) := by decide +kernel
set_option maxRecDepth 20000 in
theorem ggX6_greatestLate_X6_lateAt : GoodIn wsX6_greatestLate wsX6_lateAt := goodIn_r _ [10, 11, 12, 1, 13, 14, 15, 16, 9, 17, 18, 19, 20, 21, 22, 23] (by decide +kernel) (by decide +kernel)
set_option maxRecDepth 20000 in
theorem gX6_greatestLate_X6_lateAt : GoodIn wsX6_greatestLate (wsV RX6 35 RX6 yX6_lateAt wsX6_lateAt) := goodIn_app (goodIn_of _ (by decide +kernel)) ggX6_greatestLate_X6_lateAt
theorem dX6_greatestLate_0 : decode cX6_greatestLate 0 = .ok (.iconst 0, 1) := by decide +kernel
theorem dX6_greatestLate_1 : decode cX6_greatestLate 1 = .ok (.istore_n 1, 1) := by decide +kernel
theorem dX6_greatestLate_2 : decode cX6_greatestLate 2 = .ok (.iconst 0, 1) := by decide +kernel
theorem dX6_greatestLate_3 : decode cX6_greatestLate 3 = .ok (.istore_n 2, 1) := by decide +kernel
theorem dX6_greatestLate_4 : decode cX6_greatestLate 4 = .ok (.iload_n 2, 1) := by decide +kernel
theorem dX6_greatestLate_5 : decode cX6_greatestLate 5 = .ok (.aload_n 0, 1) := by decide +kernel
theorem dX6_greatestLate_6 : decode cX6_greatestLate 6 = .ok (.getfield 17, 3) := by decide +kernel
theorem dX6_greatestLate_9 : decode cX6_greatestLate 9 = .ok (.if_icmp .ge 19, 3) := by decide +kernel
theorem dX6_greatestLate_12 : decode cX6_greatestLate 12 = .ok (.iload_n 1, 1) := by decide +kernel
theorem dX6_greatestLate_13 : decode cX6_greatestLate 13 = .ok (.aload_n 0, 1) := by decide +kernel
theorem dX6_greatestLate_14 : decode cX6_greatestLate 14 = .ok (.iload_n 2, 1) := by decide +kernel
theorem dX6_greatestLate_15 : decode cX6_greatestLate 15 = .ok (.invokevirtual 35, 3) := by decide +kernel
theorem dX6_greatestLate_18 : decode cX6_greatestLate 18 = .ok (.invokestatic 38, 3) := by decide +kernel
theorem dX6_greatestLate_21 : decode cX6_greatestLate 21 = .ok (.istore_n 1, 1) := by decide +kernel
theorem dX6_greatestLate_22 : decode cX6_greatestLate 22 = .ok (.iinc 2 1, 3) := by decide +kernel
theorem dX6_greatestLate_25 : decode cX6_greatestLate 25 = .ok (.goto (-21), 3) := by decide +kernel
theorem dX6_greatestLate_28 : decode cX6_greatestLate 28 = .ok (.iload_n 1, 1) := by decide +kernel
theorem dX6_greatestLate_29 : decode cX6_greatestLate 29 = .ok (.ireturn, 1) := by decide +kernel
set_option maxRecDepth 20000 in
theorem ggX6_countLate_X6_lateAt : GoodIn wsX6_countLate wsX6_lateAt := goodIn_r _ [6, 7, 8, 1, 9, 10, 11, 12, 5, 13, 14, 15, 16, 17, 18, 19] (by decide +kernel) (by decide +kernel)
set_option maxRecDepth 20000 in
theorem gX6_countLate_X6_lateAt : GoodIn wsX6_countLate (wsV RX6 35 RX6 yX6_lateAt wsX6_lateAt) := goodIn_app (goodIn_of _ (by decide +kernel)) ggX6_countLate_X6_lateAt
theorem dX6_countLate_0 : decode cX6_countLate 0 = .ok (.iconst 0, 1) := by decide +kernel
theorem dX6_countLate_1 : decode cX6_countLate 1 = .ok (.istore_n 1, 1) := by decide +kernel
theorem dX6_countLate_2 : decode cX6_countLate 2 = .ok (.iconst 0, 1) := by decide +kernel
theorem dX6_countLate_3 : decode cX6_countLate 3 = .ok (.istore_n 2, 1) := by decide +kernel
theorem dX6_countLate_4 : decode cX6_countLate 4 = .ok (.iload_n 2, 1) := by decide +kernel
theorem dX6_countLate_5 : decode cX6_countLate 5 = .ok (.aload_n 0, 1) := by decide +kernel
theorem dX6_countLate_6 : decode cX6_countLate 6 = .ok (.getfield 17, 3) := by decide +kernel
theorem dX6_countLate_9 : decode cX6_countLate 9 = .ok (.if_icmp .ge 20, 3) := by decide +kernel
theorem dX6_countLate_12 : decode cX6_countLate 12 = .ok (.aload_n 0, 1) := by decide +kernel
theorem dX6_countLate_13 : decode cX6_countLate 13 = .ok (.iload_n 2, 1) := by decide +kernel
theorem dX6_countLate_14 : decode cX6_countLate 14 = .ok (.invokevirtual 35, 3) := by decide +kernel
theorem dX6_countLate_17 : decode cX6_countLate 17 = .ok (.ifCond .le 6, 3) := by decide +kernel
theorem dX6_countLate_20 : decode cX6_countLate 20 = .ok (.iinc 1 1, 3) := by decide +kernel
theorem dX6_countLate_23 : decode cX6_countLate 23 = .ok (.iinc 2 1, 3) := by decide +kernel
theorem dX6_countLate_26 : decode cX6_countLate 26 = .ok (.goto (-22), 3) := by decide +kernel
theorem dX6_countLate_29 : decode cX6_countLate 29 = .ok (.iload_n 1, 1) := by decide +kernel
theorem dX6_countLate_30 : decode cX6_countLate 30 = .ok (.ireturn, 1) := by decide +kernel
set_option maxRecDepth 20000 in
theorem ggX7_init_X6_init : GoodIn wsX7_init wsX6_init := goodIn_r _ [34, 35, 2, 3, 36, 37, 38, 74, 75] (by decide +kernel) (by decide +kernel)
set_option maxRecDepth 20000 in
theorem gX7_init_X6_init_n25 : GoodIn wsX7_init (wsX6_init) := ggX7_init_X6_init
set_option maxRecDepth 20000 in
theorem ggX7_init_X3_init : GoodIn wsX7_init wsX3_init := goodIn_r _ [40, 41, 2, 3, 15, 42, 43, 44, 76, 77, 78] (by decide +kernel) (by decide +kernel)
set_option maxRecDepth 20000 in
theorem gX7_init_X3_init_n28 : GoodIn wsX7_init (wsX3_init) := ggX7_init_X3_init
end
section
set_option maxRecDepth 20000 in
theorem ggX7_init_X2_init : GoodIn wsX7_init wsX2_init := goodIn_r _ [46, 47, 2, 3, 48, 49, 50, 51, 52, 79, 80, 81, 82] (by decide +kernel) (by decide +kernel)
set_option maxRecDepth 20000 in
theorem gX7_init_X2_init_n39 : GoodIn wsX7_init (wsX2_init) := ggX7_init_X2_init
set_option maxRecDepth 20000 in
theorem ggX7_init_X5_init : GoodIn wsX7_init wsX5_init := goodIn_r _ [54, 55, 2, 3] (by decide +kernel) (by decide +kernel)
set_option maxRecDepth 20000 in
theorem gX7_init_X5_init_n53 : GoodIn wsX7_init (wsX5_init) := ggX7_init_X5_init
set_option maxRecDepth 20000 in
theorem ggX7_init_X4_init : GoodIn wsX7_init wsX4_init := goodIn_r _ [57, 58, 2, 3, 15, 59, 60, 61, 62, 87, 88, 89, 90] (by decide +kernel) (by decide +kernel)
set_option maxRecDepth 20000 in
theorem gX7_init_X4_init_n64 : GoodIn wsX7_init (wsX4_init) := ggX7_init_X4_init
theorem dX7_init_0 : decode cX7_init 0 = .ok (.aload_n 0, 1) := by decide +kernel
theorem dX7_init_1 : decode cX7_init 1 = .ok (.invokespecial 1, 3) := by decide +kernel
theorem dX7_init_4 : decode cX7_init 4 = .ok (.aload_n 0, 1) := by decide +kernel
theorem dX7_init_5 : decode cX7_init 5 = .ok (.bipush 16, 2) := by decide +kernel
theorem dX7_init_7 : decode cX7_init 7 = .ok (.anewarray 9, 3) := by decide +kernel
theorem dX7_init_10 : decode cX7_init 10 = .ok (.putfield 11, 3) := by decide +kernel
theorem dX7_init_13 : decode cX7_init 13 = .ok (.aload_n 0, 1) := by decide +kernel
theorem dX7_init_14 : decode cX7_init 14 = .ok (.iconst 0, 1) := by decide +kernel
theorem dX7_init_15 : decode cX7_init 15 = .ok (.putfield 15, 3) := by decide +kernel
theorem dX7_init_18 : decode cX7_init 18 = .ok (.aload_n 0, 1) := by decide +kernel
theorem dX7_init_19 : decode cX7_init 19 = .ok (.bipush 8, 2) := by decide +kernel
theorem dX7_init_21 : decode cX7_init 21 = .ok (.anewarray 19, 3) := by decide +kernel
theorem dX7_init_24 : decode cX7_init 24 = .ok (.putfield 21, 3) := by decide +kernel
theorem dX7_init_27 : decode cX7_init 27 = .ok (.iconst 0, 1) := by decide +kernel
theorem dX7_init_28 : decode cX7_init 28 = .ok (.istore_n 1, 1) := by decide +kernel
theorem dX7_init_29 : decode cX7_init 29 = .ok (.iload_n 1, 1) := by decide +kernel
theorem dX7_init_30 : decode cX7_init 30 = .ok (.bipush 8, 2) := by decide +kernel
theorem dX7_init_32 : decode cX7_init 32 = .ok (.if_icmp .ge 22, 3) := by decide +kernel
theorem dX7_init_35 : decode cX7_init 35 = .ok (.aload_n 0, 1) := by decide +kernel
theorem dX7_init_36 : decode cX7_init 36 = .ok (.getfield 21, 3) := by decide +kernel
theorem dX7_init_39 : decode cX7_init 39 = .ok (.iload_n 1, 1) := by decide +kernel
theorem dX7_init_40 : decode cX7_init 40 = .ok (.new 19, 3) := by decide +kernel
theorem dX7_init_43 : decode cX7_init 43 = .ok (.dup, 1) := by decide +kernel
theorem dX7_init_44 : decode cX7_init 44 = .ok (.invokespecial 25, 3) := by decide +kernel
theorem dX7_init_47 : decode cX7_init 47 = .ok (.aastore, 1) := by decide +kernel
theorem dX7_init_48 : decode cX7_init 48 = .ok (.iinc 1 1, 3) := by decide +kernel
theorem dX7_init_51 : decode cX7_init 51 = .ok (.goto (-22), 3) := by decide +kernel
theorem dX7_init_54 : decode cX7_init 54 = .ok (.aload_n 0, 1) := by decide +kernel
theorem dX7_init_55 : decode cX7_init 55 = .ok (.new 26, 3) := by decide +kernel
theorem dX7_init_58 : decode cX7_init 58 = .ok (.dup, 1) := by decide +kernel
theorem dX7_init_59 : decode cX7_init 59 = .ok (.invokespecial 28, 3) := by decide +kernel
theorem dX7_init_62 : decode cX7_init 62 = .ok (.putfield 29, 3) := by decide +kernel
theorem dX7_init_65 : decode cX7_init 65 = .ok (.aload_n 0, 1) := by decide +kernel
theorem dX7_init_66 : decode cX7_init 66 = .ok (.iconst 4, 1) := by decide +kernel
theorem dX7_init_67 : decode cX7_init 67 = .ok (.newarray .int, 2) := by decide +kernel
theorem dX7_init_69 : decode cX7_init 69 = .ok (.dup, 1) := by decide +kernel
theorem dX7_init_70 : decode cX7_init 70 = .ok (.iconst 0, 1) := by decide +kernel
theorem dX7_init_71 : decode cX7_init 71 = .ok (.bipush 100, 2) := by decide +kernel
theorem dX7_init_73 : decode cX7_init 73 = .ok (.iastore, 1) := by decide +kernel
theorem dX7_init_74 : decode cX7_init 74 = .ok (.dup, 1) := by decide +kernel
theorem dX7_init_75 : decode cX7_init 75 = .ok (.iconst 1, 1) := by decide +kernel
theorem dX7_init_76 : decode cX7_init 76 = .ok (.bipush 10, 2) := by decide +kernel
theorem dX7_init_78 : decode cX7_init 78 = .ok (.iastore, 1) := by decide +kernel
theorem dX7_init_79 : decode cX7_init 79 = .ok (.dup, 1) := by decide +kernel
theorem dX7_init_80 : decode cX7_init 80 = .ok (.iconst 2, 1) := by decide +kernel
theorem dX7_init_81 : decode cX7_init 81 = .ok (.bipush 20, 2) := by decide +kernel
theorem dX7_init_83 : decode cX7_init 83 = .ok (.iastore, 1) := by decide +kernel
theorem dX7_init_84 : decode cX7_init 84 = .ok (.dup, 1) := by decide +kernel
theorem dX7_init_85 : decode cX7_init 85 = .ok (.iconst 3, 1) := by decide +kernel
theorem dX7_init_86 : decode cX7_init 86 = .ok (.bipush 10, 2) := by decide +kernel
theorem dX7_init_88 : decode cX7_init 88 = .ok (.iastore, 1) := by decide +kernel
theorem dX7_init_89 : decode cX7_init 89 = .ok (.putfield 33, 3) := by decide +kernel
theorem dX7_init_92 : decode cX7_init 92 = .ok (.aload_n 0, 1) := by decide +kernel
theorem dX7_init_93 : decode cX7_init 93 = .ok (.new 37, 3) := by decide +kernel
theorem dX7_init_96 : decode cX7_init 96 = .ok (.dup, 1) := by decide +kernel
theorem dX7_init_97 : decode cX7_init 97 = .ok (.invokespecial 39, 3) := by decide +kernel
theorem dX7_init_100 : decode cX7_init 100 = .ok (.putfield 40, 3) := by decide +kernel
theorem dX7_init_103 : decode cX7_init 103 = .ok (.aload_n 0, 1) := by decide +kernel
theorem dX7_init_104 : decode cX7_init 104 = .ok (.bipush 52, 2) := by decide +kernel
theorem dX7_init_106 : decode cX7_init 106 = .ok (.newarray .boolean, 2) := by decide +kernel
theorem dX7_init_108 : decode cX7_init 108 = .ok (.putfield 44, 3) := by decide +kernel
theorem dX7_init_111 : decode cX7_init 111 = .ok (.aload_n 0, 1) := by decide +kernel
theorem dX7_init_112 : decode cX7_init 112 = .ok (.bipush 52, 2) := by decide +kernel
theorem dX7_init_114 : decode cX7_init 114 = .ok (.newarray .int, 2) := by decide +kernel
theorem dX7_init_116 : decode cX7_init 116 = .ok (.putfield 48, 3) := by decide +kernel
theorem dX7_init_119 : decode cX7_init 119 = .ok (.aload_n 0, 1) := by decide +kernel
theorem dX7_init_120 : decode cX7_init 120 = .ok (.new 51, 3) := by decide +kernel
theorem dX7_init_123 : decode cX7_init 123 = .ok (.dup, 1) := by decide +kernel
theorem dX7_init_124 : decode cX7_init 124 = .ok (.invokespecial 53, 3) := by decide +kernel
theorem dX7_init_127 : decode cX7_init 127 = .ok (.putfield 54, 3) := by decide +kernel
theorem dX7_init_130 : decode cX7_init 130 = .ok (.aload_n 0, 1) := by decide +kernel
theorem dX7_init_131 : decode cX7_init 131 = .ok (.iconst 4, 1) := by decide +kernel
theorem dX7_init_132 : decode cX7_init 132 = .ok (.anewarray 58, 3) := by decide +kernel
theorem dX7_init_135 : decode cX7_init 135 = .ok (.putfield 60, 3) := by decide +kernel
theorem dX7_init_138 : decode cX7_init 138 = .ok (.iconst 0, 1) := by decide +kernel
theorem dX7_init_139 : decode cX7_init 139 = .ok (.istore_n 1, 1) := by decide +kernel
theorem dX7_init_140 : decode cX7_init 140 = .ok (.iload_n 1, 1) := by decide +kernel
theorem dX7_init_141 : decode cX7_init 141 = .ok (.iconst 4, 1) := by decide +kernel
theorem dX7_init_142 : decode cX7_init 142 = .ok (.if_icmp .ge 22, 3) := by decide +kernel
theorem dX7_init_145 : decode cX7_init 145 = .ok (.aload_n 0, 1) := by decide +kernel
theorem dX7_init_146 : decode cX7_init 146 = .ok (.getfield 60, 3) := by decide +kernel
theorem dX7_init_149 : decode cX7_init 149 = .ok (.iload_n 1, 1) := by decide +kernel
theorem dX7_init_150 : decode cX7_init 150 = .ok (.new 58, 3) := by decide +kernel
theorem dX7_init_153 : decode cX7_init 153 = .ok (.dup, 1) := by decide +kernel
theorem dX7_init_154 : decode cX7_init 154 = .ok (.invokespecial 64, 3) := by decide +kernel
theorem dX7_init_157 : decode cX7_init 157 = .ok (.aastore, 1) := by decide +kernel
theorem dX7_init_158 : decode cX7_init 158 = .ok (.iinc 1 1, 3) := by decide +kernel
theorem dX7_init_161 : decode cX7_init 161 = .ok (.goto (-21), 3) := by decide +kernel
theorem dX7_init_164 : decode cX7_init 164 = .ok (.aload_n 0, 1) := by decide +kernel
theorem dX7_init_165 : decode cX7_init 165 = .ok (.iconst 0, 1) := by decide +kernel
theorem dX7_init_166 : decode cX7_init 166 = .ok (.putfield 65, 3) := by decide +kernel
theorem dX7_init_169 : decode cX7_init 169 = .ok (.return_, 1) := by decide +kernel
set_option maxRecDepth 20000 in
theorem ggX7_letter_X7_within : GoodIn wsX7_letter wsX7_within := goodIn_r _ [9] (by decide +kernel) (by decide +kernel)
set_option maxRecDepth 20000 in
theorem gX7_letter_X7_within : GoodIn wsX7_letter (va_wsS RX7 68 yX7_within wsX7_within) := goodIn_app (goodIn_of _ (by decide +kernel)) ggX7_letter_X7_within
set_option maxRecDepth 20000 in
theorem ggX7_letter_X0_init : GoodIn wsX7_letter wsX0_init := goodIn_r _ [12, 13, 14, 15, 16, 17, 18, 19, 20, 32, 33, 34, 35] (by decide +kernel) (by decide +kernel)
set_option maxRecDepth 20000 in
theorem gX7_letter_X0_init : GoodIn wsX7_letter (wsX0_init) := ggX7_letter_X0_init
theorem dX7_letter_0 : decode cX7_letter 0 = .ok (.iload_n 1, 1) := by decide +kernel
theorem dX7_letter_1 : decode cX7_letter 1 = .ok (.iconst 1, 1) := by decide +kernel
theorem dX7_letter_2 : decode cX7_letter 2 = .ok (.iconst 5, 1) := by decide +kernel
theorem dX7_letter_3 : decode cX7_letter 3 = .ok (.invokestatic 68, 3) := by decide +kernel
theorem dX7_letter_6 : decode cX7_letter 6 = .ok (.ifCond .eq 23, 3) := by decide +kernel
theorem dX7_letter_9 : decode cX7_letter 9 = .ok (.iload_n 2, 1) := by decide +kernel
theorem dX7_letter_10 : decode cX7_letter 10 = .ok (.iconst 1, 1) := by decide +kernel
theorem dX7_letter_11 : decode cX7_letter 11 = .ok (.bipush 9, 2) := by decide +kernel
theorem dX7_letter_13 : decode cX7_letter 13 = .ok (.invokestatic 68, 3) := by decide +kernel
theorem dX7_letter_16 : decode cX7_letter 16 = .ok (.ifCond .eq 13, 3) := by decide +kernel
theorem dX7_letter_19 : decode cX7_letter 19 = .ok (.iload_n 3, 1) := by decide +kernel
theorem dX7_letter_20 : decode cX7_letter 20 = .ok (.iconst 1, 1) := by decide +kernel
theorem dX7_letter_21 : decode cX7_letter 21 = .ok (.bipush 99, 2) := by decide +kernel
theorem dX7_letter_23 : decode cX7_letter 23 = .ok (.invokestatic 68, 3) := by decide +kernel
theorem dX7_letter_26 : decode cX7_letter 26 = .ok (.ifCond .ne 6, 3) := by decide +kernel
theorem dX7_letter_29 : decode cX7_letter 29 = .ok (.bipush (-2), 2) := by decide +kernel
theorem dX7_letter_31 : decode cX7_letter 31 = .ok (.ireturn, 1) := by decide +kernel
theorem dX7_letter_32 : decode cX7_letter 32 = .ok (.aload_n 0, 1) := by decide +kernel
theorem dX7_letter_33 : decode cX7_letter 33 = .ok (.getfield 15, 3) := by decide +kernel
theorem dX7_letter_36 : decode cX7_letter 36 = .ok (.bipush 16, 2) := by decide +kernel
theorem dX7_letter_38 : decode cX7_letter 38 = .ok (.if_icmp .lt 6, 3) := by decide +kernel
theorem dX7_letter_41 : decode cX7_letter 41 = .ok (.bipush (-4), 2) := by decide +kernel
theorem dX7_letter_43 : decode cX7_letter 43 = .ok (.ireturn, 1) := by decide +kernel
theorem dX7_letter_44 : decode cX7_letter 44 = .ok (.aload_n 0, 1) := by decide +kernel
theorem dX7_letter_45 : decode cX7_letter 45 = .ok (.getfield 11, 3) := by decide +kernel
theorem dX7_letter_48 : decode cX7_letter 48 = .ok (.aload_n 0, 1) := by decide +kernel
theorem dX7_letter_49 : decode cX7_letter 49 = .ok (.getfield 15, 3) := by decide +kernel
theorem dX7_letter_52 : decode cX7_letter 52 = .ok (.new 9, 3) := by decide +kernel
theorem dX7_letter_55 : decode cX7_letter 55 = .ok (.dup, 1) := by decide +kernel
theorem dX7_letter_56 : decode cX7_letter 56 = .ok (.iload_n 1, 1) := by decide +kernel
theorem dX7_letter_57 : decode cX7_letter 57 = .ok (.iload_n 2, 1) := by decide +kernel
theorem dX7_letter_58 : decode cX7_letter 58 = .ok (.iload_n 3, 1) := by decide +kernel
theorem dX7_letter_59 : decode cX7_letter 59 = .ok (.invokespecial 72, 3) := by decide +kernel
theorem dX7_letter_62 : decode cX7_letter 62 = .ok (.aastore, 1) := by decide +kernel
theorem dX7_letter_63 : decode cX7_letter 63 = .ok (.aload_n 0, 1) := by decide +kernel
theorem dX7_letter_64 : decode cX7_letter 64 = .ok (.dup, 1) := by decide +kernel
theorem dX7_letter_65 : decode cX7_letter 65 = .ok (.getfield 15, 3) := by decide +kernel
theorem dX7_letter_68 : decode cX7_letter 68 = .ok (.iconst 1, 1) := by decide +kernel
theorem dX7_letter_69 : decode cX7_letter 69 = .ok (.iadd, 1) := by decide +kernel
theorem dX7_letter_70 : decode cX7_letter 70 = .ok (.putfield 15, 3) := by decide +kernel
theorem dX7_letter_73 : decode cX7_letter 73 = .ok (.aload_n 0, 1) := by decide +kernel
theorem dX7_letter_74 : decode cX7_letter 74 = .ok (.getfield 15, 3) := by decide +kernel
theorem dX7_letter_77 : decode cX7_letter 77 = .ok (.iconst 1, 1) := by decide +kernel
theorem dX7_letter_78 : decode cX7_letter 78 = .ok (.isub, 1) := by decide +kernel
theorem dX7_letter_79 : decode cX7_letter 79 = .ok (.ireturn, 1) := by decide +kernel
set_option maxRecDepth 20000 in
theorem ggX7_strip_X7_letterAt : GoodIn wsX7_strip wsX7_letterAt := goodIn_r _ [6, 7, 8, 9, 10, 5, 11, 22, 23, 24, 25, 26, 27, 28, 29, 30, 31, 32] (by decide +kernel) (by decide +kernel)
set_option maxRecDepth 20000 in
theorem gX7_strip_X7_letterAt : GoodIn wsX7_strip (wsV RX7 75 RX7 yX7_letterAt wsX7_letterAt) := goodIn_app (goodIn_of _ (by decide +kernel)) ggX7_strip_X7_letterAt
set_option maxRecDepth 20000 in
theorem ggX7_strip_X0_hasStrip : GoodIn wsX7_strip wsX0_hasStrip := goodIn_r _ [16, 17, 10, 5, 11, 18, 19, 20, 21] (by decide +kernel) (by decide +kernel)
set_option maxRecDepth 20000 in
theorem gX7_strip_X0_hasStrip : GoodIn wsX7_strip (wsV RX7 79 RX0 yX0_hasStrip wsX0_hasStrip) := goodIn_app (goodIn_of _ (by decide +kernel)) ggX7_strip_X0_hasStrip
set_option maxRecDepth 20000 in
theorem ggX7_strip_X7_within : GoodIn wsX7_strip wsX7_within := goodIn_r _ [11] (by decide +kernel) (by decide +kernel)
set_option maxRecDepth 20000 in
theorem gX7_strip_X7_within : GoodIn wsX7_strip (va_wsS RX7 68 yX7_within wsX7_within) := goodIn_app (goodIn_of _ (by decide +kernel)) ggX7_strip_X7_within
theorem dX7_strip_0 : decode cX7_strip 0 = .ok (.aload_n 0, 1) := by decide +kernel
theorem dX7_strip_1 : decode cX7_strip 1 = .ok (.iload_n 1, 1) := by decide +kernel
theorem dX7_strip_2 : decode cX7_strip 2 = .ok (.invokevirtual 75, 3) := by decide +kernel
theorem dX7_strip_5 : decode cX7_strip 5 = .ok (.astore 4, 2) := by decide +kernel
theorem dX7_strip_7 : decode cX7_strip 7 = .ok (.aload 4, 2) := by decide +kernel
theorem dX7_strip_9 : decode cX7_strip 9 = .ok (.ifnull 22, 3) := by decide +kernel
theorem dX7_strip_12 : decode cX7_strip 12 = .ok (.aload 4, 2) := by decide +kernel
theorem dX7_strip_14 : decode cX7_strip 14 = .ok (.iload_n 2, 1) := by decide +kernel
theorem dX7_strip_15 : decode cX7_strip 15 = .ok (.invokevirtual 79, 3) := by decide +kernel
theorem dX7_strip_18 : decode cX7_strip 18 = .ok (.ifCond .eq 13, 3) := by decide +kernel
theorem dX7_strip_21 : decode cX7_strip 21 = .ok (.iload_n 3, 1) := by decide +kernel
theorem dX7_strip_22 : decode cX7_strip 22 = .ok (.iconst 0, 1) := by decide +kernel
theorem dX7_strip_23 : decode cX7_strip 23 = .ok (.bipush 31, 2) := by decide +kernel
theorem dX7_strip_25 : decode cX7_strip 25 = .ok (.invokestatic 68, 3) := by decide +kernel
theorem dX7_strip_28 : decode cX7_strip 28 = .ok (.ifCond .ne 6, 3) := by decide +kernel
theorem dX7_strip_31 : decode cX7_strip 31 = .ok (.bipush (-2), 2) := by decide +kernel
theorem dX7_strip_33 : decode cX7_strip 33 = .ok (.ireturn, 1) := by decide +kernel
theorem dX7_strip_34 : decode cX7_strip 34 = .ok (.aload 4, 2) := by decide +kernel
theorem dX7_strip_36 : decode cX7_strip 36 = .ok (.getfield 83, 3) := by decide +kernel
theorem dX7_strip_39 : decode cX7_strip 39 = .ok (.iload_n 2, 1) := by decide +kernel
theorem dX7_strip_40 : decode cX7_strip 40 = .ok (.iaload, 1) := by decide +kernel
theorem dX7_strip_41 : decode cX7_strip 41 = .ok (.istore 5, 2) := by decide +kernel
theorem dX7_strip_43 : decode cX7_strip 43 = .ok (.aload 4, 2) := by decide +kernel
theorem dX7_strip_45 : decode cX7_strip 45 = .ok (.getfield 83, 3) := by decide +kernel
theorem dX7_strip_48 : decode cX7_strip 48 = .ok (.iload_n 2, 1) := by decide +kernel
theorem dX7_strip_49 : decode cX7_strip 49 = .ok (.iload_n 3, 1) := by decide +kernel
theorem dX7_strip_50 : decode cX7_strip 50 = .ok (.iastore, 1) := by decide +kernel
theorem dX7_strip_51 : decode cX7_strip 51 = .ok (.iload 5, 2) := by decide +kernel
theorem dX7_strip_53 : decode cX7_strip 53 = .ok (.ireturn, 1) := by decide +kernel
set_option maxRecDepth 20000 in
theorem ggX7_about_X7_letterAt : GoodIn wsX7_about wsX7_letterAt := goodIn_r _ [9, 10, 11, 12, 13, 8, 14, 25, 26, 27, 28, 29, 30, 31, 32, 33, 34, 35] (by decide +kernel) (by decide +kernel)
set_option maxRecDepth 20000 in
theorem gX7_about_X7_letterAt : GoodIn wsX7_about (wsV RX7 75 RX7 yX7_letterAt wsX7_letterAt) := goodIn_app (goodIn_of _ (by decide +kernel)) ggX7_about_X7_letterAt
set_option maxRecDepth 20000 in
theorem ggX7_about_X0_hasStrip : GoodIn wsX7_about wsX0_hasStrip := goodIn_r _ [19, 20, 13, 8, 14, 21, 22, 23, 24] (by decide +kernel) (by decide +kernel)
set_option maxRecDepth 20000 in
theorem gX7_about_X0_hasStrip : GoodIn wsX7_about (wsV RX7 79 RX0 yX0_hasStrip wsX0_hasStrip) := goodIn_app (goodIn_of _ (by decide +kernel)) ggX7_about_X0_hasStrip
theorem dX7_about_0 : decode cX7_about 0 = .ok (.aload_n 0, 1) := by decide +kernel
theorem dX7_about_1 : decode cX7_about 1 = .ok (.iload_n 1, 1) := by decide +kernel
theorem dX7_about_2 : decode cX7_about 2 = .ok (.invokevirtual 75, 3) := by decide +kernel
theorem dX7_about_5 : decode cX7_about 5 = .ok (.astore_n 3, 1) := by decide +kernel
theorem dX7_about_6 : decode cX7_about 6 = .ok (.aload_n 3, 1) := by decide +kernel
theorem dX7_about_7 : decode cX7_about 7 = .ok (.ifnonnull 6, 3) := by decide +kernel
theorem dX7_about_10 : decode cX7_about 10 = .ok (.bipush (-2), 2) := by decide +kernel
theorem dX7_about_12 : decode cX7_about 12 = .ok (.ireturn, 1) := by decide +kernel
theorem dX7_about_13 : decode cX7_about 13 = .ok (.iload_n 2, 1) := by decide +kernel
theorem dX7_about_14 : decode cX7_about 14 = .ok (.tableswitch 41 0 2 #[26, 31, 36], 26) := by decide +kernel
theorem dX7_about_40 : decode cX7_about 40 = .ok (.aload_n 3, 1) := by decide +kernel
theorem dX7_about_41 : decode cX7_about 41 = .ok (.getfield 86, 3) := by decide +kernel
theorem dX7_about_44 : decode cX7_about 44 = .ok (.ireturn, 1) := by decide +kernel
theorem dX7_about_45 : decode cX7_about 45 = .ok (.aload_n 3, 1) := by decide +kernel
theorem dX7_about_46 : decode cX7_about 46 = .ok (.getfield 89, 3) := by decide +kernel
theorem dX7_about_49 : decode cX7_about 49 = .ok (.ireturn, 1) := by decide +kernel
theorem dX7_about_50 : decode cX7_about 50 = .ok (.aload_n 3, 1) := by decide +kernel
theorem dX7_about_51 : decode cX7_about 51 = .ok (.getfield 92, 3) := by decide +kernel
theorem dX7_about_54 : decode cX7_about 54 = .ok (.ireturn, 1) := by decide +kernel
theorem dX7_about_55 : decode cX7_about 55 = .ok (.iload_n 2, 1) := by decide +kernel
theorem dX7_about_56 : decode cX7_about 56 = .ok (.bipush 10, 2) := by decide +kernel
theorem dX7_about_58 : decode cX7_about 58 = .ok (.if_icmp .lt 26, 3) := by decide +kernel
theorem dX7_about_61 : decode cX7_about 61 = .ok (.aload_n 3, 1) := by decide +kernel
theorem dX7_about_62 : decode cX7_about 62 = .ok (.iload_n 2, 1) := by decide +kernel
theorem dX7_about_63 : decode cX7_about 63 = .ok (.bipush 10, 2) := by decide +kernel
theorem dX7_about_65 : decode cX7_about 65 = .ok (.isub, 1) := by decide +kernel
theorem dX7_about_66 : decode cX7_about 66 = .ok (.invokevirtual 79, 3) := by decide +kernel
theorem dX7_about_69 : decode cX7_about 69 = .ok (.ifCond .eq 15, 3) := by decide +kernel
theorem dX7_about_72 : decode cX7_about 72 = .ok (.aload_n 3, 1) := by decide +kernel
theorem dX7_about_73 : decode cX7_about 73 = .ok (.getfield 83, 3) := by decide +kernel
theorem dX7_about_76 : decode cX7_about 76 = .ok (.iload_n 2, 1) := by decide +kernel
theorem dX7_about_77 : decode cX7_about 77 = .ok (.bipush 10, 2) := by decide +kernel
theorem dX7_about_79 : decode cX7_about 79 = .ok (.isub, 1) := by decide +kernel
theorem dX7_about_80 : decode cX7_about 80 = .ok (.iaload, 1) := by decide +kernel
theorem dX7_about_81 : decode cX7_about 81 = .ok (.goto 5, 3) := by decide +kernel
theorem dX7_about_84 : decode cX7_about 84 = .ok (.bipush (-2), 2) := by decide +kernel
theorem dX7_about_86 : decode cX7_about 86 = .ok (.ireturn, 1) := by decide +kernel
set_option maxRecDepth 20000 in
theorem ggX7_spell_X7_wordAt : GoodIn wsX7_spell wsX7_wordAt := goodIn_r _ [6, 7, 8, 9, 5, 10, 26, 27, 28, 29, 30, 31, 32, 33, 34, 35, 36] (by decide +kernel) (by decide +kernel)
set_option maxRecDepth 20000 in
theorem gX7_spell_X7_wordAt : GoodIn wsX7_spell (wsV RX7 95 RX7 yX7_wordAt wsX7_wordAt) := goodIn_app (goodIn_of _ (by decide +kernel)) ggX7_spell_X7_wordAt
set_option maxRecDepth 20000 in
theorem ggX7_spell_X7_letterAt : GoodIn wsX7_spell wsX7_letterAt := goodIn_r _ [14, 15, 16, 8, 9, 5, 10, 26, 27, 28, 29, 30, 31, 32, 33, 34, 35, 36] (by decide +kernel) (by decide +kernel)
set_option maxRecDepth 20000 in
theorem gX7_spell_X7_letterAt : GoodIn wsX7_spell (wsV RX7 75 RX7 yX7_letterAt wsX7_letterAt) := goodIn_app (goodIn_of _ (by decide +kernel)) ggX7_spell_X7_letterAt
set_option maxRecDepth 20000 in
theorem ggX7_spell_X6_append : GoodIn wsX7_spell wsX6_append := goodIn_r _ [21, 22, 23, 24, 25] (by decide +kernel) (by decide +kernel)
set_option maxRecDepth 20000 in
theorem gX7_spell_X6_append : GoodIn wsX7_spell (wsV RX7 99 RX6 yX6_append wsX6_append) := goodIn_app (goodIn_of _ (by decide +kernel)) ggX7_spell_X6_append
theorem dX7_spell_0 : decode cX7_spell 0 = .ok (.aload_n 0, 1) := by decide +kernel
theorem dX7_spell_1 : decode cX7_spell 1 = .ok (.iload_n 1, 1) := by decide +kernel
theorem dX7_spell_2 : decode cX7_spell 2 = .ok (.invokevirtual 95, 3) := by decide +kernel
theorem dX7_spell_5 : decode cX7_spell 5 = .ok (.astore_n 3, 1) := by decide +kernel
theorem dX7_spell_6 : decode cX7_spell 6 = .ok (.aload_n 0, 1) := by decide +kernel
theorem dX7_spell_7 : decode cX7_spell 7 = .ok (.iload_n 2, 1) := by decide +kernel
theorem dX7_spell_8 : decode cX7_spell 8 = .ok (.invokevirtual 75, 3) := by decide +kernel
theorem dX7_spell_11 : decode cX7_spell 11 = .ok (.astore 4, 2) := by decide +kernel
theorem dX7_spell_13 : decode cX7_spell 13 = .ok (.aload_n 3, 1) := by decide +kernel
theorem dX7_spell_14 : decode cX7_spell 14 = .ok (.ifnull 8, 3) := by decide +kernel
theorem dX7_spell_17 : decode cX7_spell 17 = .ok (.aload 4, 2) := by decide +kernel
theorem dX7_spell_19 : decode cX7_spell 19 = .ok (.ifnonnull 6, 3) := by decide +kernel
theorem dX7_spell_22 : decode cX7_spell 22 = .ok (.bipush (-2), 2) := by decide +kernel
theorem dX7_spell_24 : decode cX7_spell 24 = .ok (.ireturn, 1) := by decide +kernel
theorem dX7_spell_25 : decode cX7_spell 25 = .ok (.aload_n 3, 1) := by decide +kernel
theorem dX7_spell_26 : decode cX7_spell 26 = .ok (.aload 4, 2) := by decide +kernel
theorem dX7_spell_28 : decode cX7_spell 28 = .ok (.invokevirtual 99, 3) := by decide +kernel
theorem dX7_spell_31 : decode cX7_spell 31 = .ok (.ifCond .eq 10, 3) := by decide +kernel
theorem dX7_spell_34 : decode cX7_spell 34 = .ok (.aload_n 3, 1) := by decide +kernel
theorem dX7_spell_35 : decode cX7_spell 35 = .ok (.getfield 103, 3) := by decide +kernel
theorem dX7_spell_38 : decode cX7_spell 38 = .ok (.goto 5, 3) := by decide +kernel
theorem dX7_spell_41 : decode cX7_spell 41 = .ok (.bipush (-4), 2) := by decide +kernel
theorem dX7_spell_43 : decode cX7_spell 43 = .ok (.ireturn, 1) := by decide +kernel
set_option maxRecDepth 20000 in
theorem ggX7_wipe_X7_wordAt : GoodIn wsX7_wipe wsX7_wordAt := goodIn_r _ [6, 7, 8, 9, 5, 10, 13, 14, 15, 16, 17, 18, 19, 20, 21, 22, 23] (by decide +kernel) (by decide +kernel)
set_option maxRecDepth 20000 in
theorem gX7_wipe_X7_wordAt : GoodIn wsX7_wipe (wsV RX7 95 RX7 yX7_wordAt wsX7_wordAt) := goodIn_app (goodIn_of _ (by decide +kernel)) ggX7_wipe_X7_wordAt
theorem dX7_wipe_0 : decode cX7_wipe 0 = .ok (.aload_n 0, 1) := by decide +kernel
theorem dX7_wipe_1 : decode cX7_wipe 1 = .ok (.iload_n 1, 1) := by decide +kernel
theorem dX7_wipe_2 : decode cX7_wipe 2 = .ok (.invokevirtual 95, 3) := by decide +kernel
theorem dX7_wipe_5 : decode cX7_wipe 5 = .ok (.astore_n 2, 1) := by decide +kernel
theorem dX7_wipe_6 : decode cX7_wipe 6 = .ok (.aload_n 2, 1) := by decide +kernel
theorem dX7_wipe_7 : decode cX7_wipe 7 = .ok (.ifnonnull 6, 3) := by decide +kernel
theorem dX7_wipe_10 : decode cX7_wipe 10 = .ok (.bipush (-2), 2) := by decide +kernel
theorem dX7_wipe_12 : decode cX7_wipe 12 = .ok (.ireturn, 1) := by decide +kernel
theorem dX7_wipe_13 : decode cX7_wipe 13 = .ok (.aload_n 2, 1) := by decide +kernel
theorem dX7_wipe_14 : decode cX7_wipe 14 = .ok (.getfield 103, 3) := by decide +kernel
theorem dX7_wipe_17 : decode cX7_wipe 17 = .ok (.istore_n 3, 1) := by decide +kernel
theorem dX7_wipe_18 : decode cX7_wipe 18 = .ok (.aload_n 2, 1) := by decide +kernel
theorem dX7_wipe_19 : decode cX7_wipe 19 = .ok (.iconst 0, 1) := by decide +kernel
theorem dX7_wipe_20 : decode cX7_wipe 20 = .ok (.putfield 103, 3) := by decide +kernel
theorem dX7_wipe_23 : decode cX7_wipe 23 = .ok (.iload_n 3, 1) := by decide +kernel
theorem dX7_wipe_24 : decode cX7_wipe 24 = .ok (.ireturn, 1) := by decide +kernel
set_option maxRecDepth 20000 in
theorem ggX7_slots_X7_within : GoodIn wsX7_slots wsX7_within := goodIn_r _ [6] (by decide +kernel) (by decide +kernel)
set_option maxRecDepth 20000 in
theorem gX7_slots_X7_within : GoodIn wsX7_slots (va_wsS RX7 68 yX7_within wsX7_within) := goodIn_app (goodIn_of _ (by decide +kernel)) ggX7_slots_X7_within
theorem dX7_slots_0 : decode cX7_slots 0 = .ok (.iload_n 1, 1) := by decide +kernel
theorem dX7_slots_1 : decode cX7_slots 1 = .ok (.iconst 5, 1) := by decide +kernel
theorem dX7_slots_2 : decode cX7_slots 2 = .ok (.bipush 60, 2) := by decide +kernel
theorem dX7_slots_4 : decode cX7_slots 4 = .ok (.invokestatic 68, 3) := by decide +kernel
theorem dX7_slots_7 : decode cX7_slots 7 = .ok (.ifCond .ne 6, 3) := by decide +kernel
theorem dX7_slots_10 : decode cX7_slots 10 = .ok (.bipush (-2), 2) := by decide +kernel
theorem dX7_slots_12 : decode cX7_slots 12 = .ok (.ireturn, 1) := by decide +kernel
theorem dX7_slots_13 : decode cX7_slots 13 = .ok (.aload_n 0, 1) := by decide +kernel
theorem dX7_slots_14 : decode cX7_slots 14 = .ok (.getfield 29, 3) := by decide +kernel
theorem dX7_slots_17 : decode cX7_slots 17 = .ok (.getfield 106, 3) := by decide +kernel
theorem dX7_slots_20 : decode cX7_slots 20 = .ok (.istore_n 2, 1) := by decide +kernel
theorem dX7_slots_21 : decode cX7_slots 21 = .ok (.aload_n 0, 1) := by decide +kernel
theorem dX7_slots_22 : decode cX7_slots 22 = .ok (.getfield 29, 3) := by decide +kernel
theorem dX7_slots_25 : decode cX7_slots 25 = .ok (.iload_n 1, 1) := by decide +kernel
theorem dX7_slots_26 : decode cX7_slots 26 = .ok (.putfield 106, 3) := by decide +kernel
theorem dX7_slots_29 : decode cX7_slots 29 = .ok (.iload_n 2, 1) := by decide +kernel
theorem dX7_slots_30 : decode cX7_slots 30 = .ok (.ireturn, 1) := by decide +kernel
set_option maxRecDepth 20000 in
theorem ggX7_gap_X7_within : GoodIn wsX7_gap wsX7_within := goodIn_r _ [6] (by decide +kernel) (by decide +kernel)
set_option maxRecDepth 20000 in
theorem gX7_gap_X7_within : GoodIn wsX7_gap (va_wsS RX7 68 yX7_within wsX7_within) := goodIn_app (goodIn_of _ (by decide +kernel)) ggX7_gap_X7_within
theorem dX7_gap_0 : decode cX7_gap 0 = .ok (.iload_n 1, 1) := by decide +kernel
theorem dX7_gap_1 : decode cX7_gap 1 = .ok (.iconst 0, 1) := by decide +kernel
theorem dX7_gap_2 : decode cX7_gap 2 = .ok (.iconst 3, 1) := by decide +kernel
theorem dX7_gap_3 : decode cX7_gap 3 = .ok (.invokestatic 68, 3) := by decide +kernel
theorem dX7_gap_6 : decode cX7_gap 6 = .ok (.ifCond .ne 6, 3) := by decide +kernel
theorem dX7_gap_9 : decode cX7_gap 9 = .ok (.bipush (-2), 2) := by decide +kernel
theorem dX7_gap_11 : decode cX7_gap 11 = .ok (.ireturn, 1) := by decide +kernel
theorem dX7_gap_12 : decode cX7_gap 12 = .ok (.aload_n 0, 1) := by decide +kernel
theorem dX7_gap_13 : decode cX7_gap 13 = .ok (.getfield 29, 3) := by decide +kernel
theorem dX7_gap_16 : decode cX7_gap 16 = .ok (.getfield 109, 3) := by decide +kernel
theorem dX7_gap_19 : decode cX7_gap 19 = .ok (.istore_n 2, 1) := by decide +kernel
theorem dX7_gap_20 : decode cX7_gap 20 = .ok (.aload_n 0, 1) := by decide +kernel
theorem dX7_gap_21 : decode cX7_gap 21 = .ok (.getfield 29, 3) := by decide +kernel
theorem dX7_gap_24 : decode cX7_gap 24 = .ok (.iload_n 1, 1) := by decide +kernel
theorem dX7_gap_25 : decode cX7_gap 25 = .ok (.putfield 109, 3) := by decide +kernel
theorem dX7_gap_28 : decode cX7_gap 28 = .ok (.iload_n 2, 1) := by decide +kernel
theorem dX7_gap_29 : decode cX7_gap 29 = .ok (.ireturn, 1) := by decide +kernel
set_option maxRecDepth 20000 in
theorem ggX7_wide_X7_wordAt : GoodIn wsX7_wide wsX7_wordAt := goodIn_r _ [6, 7, 8, 9, 5, 10, 20, 21, 22, 23, 24, 25, 26, 27, 28, 29, 30] (by decide +kernel) (by decide +kernel)
set_option maxRecDepth 20000 in
theorem gX7_wide_X7_wordAt : GoodIn wsX7_wide (wsV RX7 95 RX7 yX7_wordAt wsX7_wordAt) := goodIn_app (goodIn_of _ (by decide +kernel)) ggX7_wide_X7_wordAt
set_option maxRecDepth 20000 in
theorem ggX7_wide_X3_widthOf : GoodIn wsX7_wide wsX3_widthOf := goodIn_r _ [15, 16, 17, 18, 19, 31, 32, 33, 34, 35, 36, 37, 38, 39] (by decide +kernel) (by decide +kernel)
set_option maxRecDepth 20000 in
theorem gX7_wide_X3_widthOf : GoodIn wsX7_wide (wsV RX7 112 RX3 yX3_widthOf wsX3_widthOf) := goodIn_app (goodIn_of _ (by decide +kernel)) ggX7_wide_X3_widthOf
theorem dX7_wide_0 : decode cX7_wide 0 = .ok (.aload_n 0, 1) := by decide +kernel
theorem dX7_wide_1 : decode cX7_wide 1 = .ok (.iload_n 1, 1) := by decide +kernel
theorem dX7_wide_2 : decode cX7_wide 2 = .ok (.invokevirtual 95, 3) := by decide +kernel
theorem dX7_wide_5 : decode cX7_wide 5 = .ok (.astore_n 2, 1) := by decide +kernel
theorem dX7_wide_6 : decode cX7_wide 6 = .ok (.aload_n 2, 1) := by decide +kernel
theorem dX7_wide_7 : decode cX7_wide 7 = .ok (.ifnonnull 8, 3) := by decide +kernel
theorem dX7_wide_10 : decode cX7_wide 10 = .ok (.bipush (-2), 2) := by decide +kernel
theorem dX7_wide_12 : decode cX7_wide 12 = .ok (.goto 11, 3) := by decide +kernel
theorem dX7_wide_15 : decode cX7_wide 15 = .ok (.aload_n 0, 1) := by decide +kernel
theorem dX7_wide_16 : decode cX7_wide 16 = .ok (.getfield 29, 3) := by decide +kernel
theorem dX7_wide_19 : decode cX7_wide 19 = .ok (.aload_n 2, 1) := by decide +kernel
theorem dX7_wide_20 : decode cX7_wide 20 = .ok (.invokevirtual 112, 3) := by decide +kernel
theorem dX7_wide_23 : decode cX7_wide 23 = .ok (.ireturn, 1) := by decide +kernel
set_option maxRecDepth 20000 in
theorem ggX7_longest_X3_fits : GoodIn wsX7_longest wsX3_fits := goodIn_r _ [7, 8, 9, 10, 11, 12, 6, 13, 14, 15, 16, 35, 36, 37, 38, 39, 40, 41, 42, 43] (by decide +kernel) (by decide +kernel)
set_option maxRecDepth 20000 in
theorem gX7_longest_X3_fits : GoodIn wsX7_longest (wsV RX7 116 RX3 yX3_fits wsX3_fits) := goodIn_app (goodIn_of _ (by decide +kernel)) ggX7_longest_X3_fits
set_option maxRecDepth 20000 in
theorem ggX7_longest_X7_isLonger : GoodIn wsX7_longest wsX7_isLonger := goodIn_r _ [21, 22, 1, 23, 11, 12, 6, 13, 8, 14, 15, 16, 35, 36, 24, 25, 26, 27, 28, 29, 30, 31, 32, 33, 34, 40, 41, 42, 43, 37, 38, 39] (by decide +kernel) (by decide +kernel)
set_option maxRecDepth 20000 in
theorem gX7_longest_X7_isLonger : GoodIn wsX7_longest (wsV RX7 120 RX7 yX7_isLonger wsX7_isLonger) := goodIn_app (goodIn_of _ (by decide +kernel)) ggX7_longest_X7_isLonger
theorem dX7_longest_0 : decode cX7_longest 0 = .ok (.iconst (-1), 1) := by decide +kernel
theorem dX7_longest_1 : decode cX7_longest 1 = .ok (.istore_n 1, 1) := by decide +kernel
theorem dX7_longest_2 : decode cX7_longest 2 = .ok (.iconst 0, 1) := by decide +kernel
theorem dX7_longest_3 : decode cX7_longest 3 = .ok (.istore_n 2, 1) := by decide +kernel
theorem dX7_longest_4 : decode cX7_longest 4 = .ok (.iload_n 2, 1) := by decide +kernel
theorem dX7_longest_5 : decode cX7_longest 5 = .ok (.bipush 8, 2) := by decide +kernel
theorem dX7_longest_7 : decode cX7_longest 7 = .ok (.if_icmp .ge 51, 3) := by decide +kernel
theorem dX7_longest_10 : decode cX7_longest 10 = .ok (.aload_n 0, 1) := by decide +kernel
theorem dX7_longest_11 : decode cX7_longest 11 = .ok (.getfield 29, 3) := by decide +kernel
theorem dX7_longest_14 : decode cX7_longest 14 = .ok (.aload_n 0, 1) := by decide +kernel
theorem dX7_longest_15 : decode cX7_longest 15 = .ok (.getfield 21, 3) := by decide +kernel
theorem dX7_longest_18 : decode cX7_longest 18 = .ok (.iload_n 2, 1) := by decide +kernel
theorem dX7_longest_19 : decode cX7_longest 19 = .ok (.aaload, 1) := by decide +kernel
theorem dX7_longest_20 : decode cX7_longest 20 = .ok (.invokevirtual 116, 3) := by decide +kernel
theorem dX7_longest_23 : decode cX7_longest 23 = .ok (.ifCond .eq 29, 3) := by decide +kernel
theorem dX7_longest_26 : decode cX7_longest 26 = .ok (.iload_n 1, 1) := by decide +kernel
theorem dX7_longest_27 : decode cX7_longest 27 = .ok (.iconst (-1), 1) := by decide +kernel
theorem dX7_longest_28 : decode cX7_longest 28 = .ok (.if_icmp .eq 22, 3) := by decide +kernel
theorem dX7_longest_31 : decode cX7_longest 31 = .ok (.aload_n 0, 1) := by decide +kernel
theorem dX7_longest_32 : decode cX7_longest 32 = .ok (.aload_n 0, 1) := by decide +kernel
theorem dX7_longest_33 : decode cX7_longest 33 = .ok (.getfield 21, 3) := by decide +kernel
theorem dX7_longest_36 : decode cX7_longest 36 = .ok (.iload_n 2, 1) := by decide +kernel
theorem dX7_longest_37 : decode cX7_longest 37 = .ok (.aaload, 1) := by decide +kernel
theorem dX7_longest_38 : decode cX7_longest 38 = .ok (.aload_n 0, 1) := by decide +kernel
theorem dX7_longest_39 : decode cX7_longest 39 = .ok (.getfield 21, 3) := by decide +kernel
theorem dX7_longest_42 : decode cX7_longest 42 = .ok (.iload_n 1, 1) := by decide +kernel
theorem dX7_longest_43 : decode cX7_longest 43 = .ok (.aaload, 1) := by decide +kernel
theorem dX7_longest_44 : decode cX7_longest 44 = .ok (.invokevirtual 120, 3) := by decide +kernel
theorem dX7_longest_47 : decode cX7_longest 47 = .ok (.ifCond .eq 5, 3) := by decide +kernel
theorem dX7_longest_50 : decode cX7_longest 50 = .ok (.iload_n 2, 1) := by decide +kernel
theorem dX7_longest_51 : decode cX7_longest 51 = .ok (.istore_n 1, 1) := by decide +kernel
theorem dX7_longest_52 : decode cX7_longest 52 = .ok (.iinc 2 1, 3) := by decide +kernel
theorem dX7_longest_55 : decode cX7_longest 55 = .ok (.goto (-51), 3) := by decide +kernel
theorem dX7_longest_58 : decode cX7_longest 58 = .ok (.iload_n 1, 1) := by decide +kernel
theorem dX7_longest_59 : decode cX7_longest 59 = .ok (.ireturn, 1) := by decide +kernel
set_option maxRecDepth 20000 in
theorem ggX7_isLonger_X3_widthOf : GoodIn wsX7_isLonger wsX3_widthOf := goodIn_r _ [7, 8, 9, 10, 11, 12, 13, 25, 26, 27, 28, 29, 30, 31] (by decide +kernel) (by decide +kernel)
set_option maxRecDepth 20000 in
theorem gX7_isLonger_X3_widthOf : GoodIn wsX7_isLonger (wsV RX7 112 RX3 yX3_widthOf wsX3_widthOf) := goodIn_app (goodIn_of _ (by decide +kernel)) ggX7_isLonger_X3_widthOf
theorem dX7_isLonger_0 : decode cX7_isLonger 0 = .ok (.aload_n 1, 1) := by decide +kernel
theorem dX7_isLonger_1 : decode cX7_isLonger 1 = .ok (.getfield 103, 3) := by decide +kernel
theorem dX7_isLonger_4 : decode cX7_isLonger 4 = .ok (.aload_n 2, 1) := by decide +kernel
theorem dX7_isLonger_5 : decode cX7_isLonger 5 = .ok (.getfield 103, 3) := by decide +kernel
theorem dX7_isLonger_8 : decode cX7_isLonger 8 = .ok (.if_icmp .eq 20, 3) := by decide +kernel
theorem dX7_isLonger_11 : decode cX7_isLonger 11 = .ok (.aload_n 1, 1) := by decide +kernel
theorem dX7_isLonger_12 : decode cX7_isLonger 12 = .ok (.getfield 103, 3) := by decide +kernel
theorem dX7_isLonger_15 : decode cX7_isLonger 15 = .ok (.aload_n 2, 1) := by decide +kernel
theorem dX7_isLonger_16 : decode cX7_isLonger 16 = .ok (.getfield 103, 3) := by decide +kernel
theorem dX7_isLonger_19 : decode cX7_isLonger 19 = .ok (.if_icmp .le 7, 3) := by decide +kernel
theorem dX7_isLonger_22 : decode cX7_isLonger 22 = .ok (.iconst 1, 1) := by decide +kernel
theorem dX7_isLonger_23 : decode cX7_isLonger 23 = .ok (.goto 4, 3) := by decide +kernel
theorem dX7_isLonger_26 : decode cX7_isLonger 26 = .ok (.iconst 0, 1) := by decide +kernel
theorem dX7_isLonger_27 : decode cX7_isLonger 27 = .ok (.ireturn, 1) := by decide +kernel
theorem dX7_isLonger_28 : decode cX7_isLonger 28 = .ok (.aload_n 0, 1) := by decide +kernel
theorem dX7_isLonger_29 : decode cX7_isLonger 29 = .ok (.getfield 29, 3) := by decide +kernel
theorem dX7_isLonger_32 : decode cX7_isLonger 32 = .ok (.aload_n 1, 1) := by decide +kernel
theorem dX7_isLonger_33 : decode cX7_isLonger 33 = .ok (.invokevirtual 112, 3) := by decide +kernel
theorem dX7_isLonger_36 : decode cX7_isLonger 36 = .ok (.aload_n 0, 1) := by decide +kernel
theorem dX7_isLonger_37 : decode cX7_isLonger 37 = .ok (.getfield 29, 3) := by decide +kernel
theorem dX7_isLonger_40 : decode cX7_isLonger 40 = .ok (.aload_n 2, 1) := by decide +kernel
theorem dX7_isLonger_41 : decode cX7_isLonger 41 = .ok (.invokevirtual 112, 3) := by decide +kernel
theorem dX7_isLonger_44 : decode cX7_isLonger 44 = .ok (.if_icmp .le 7, 3) := by decide +kernel
theorem dX7_isLonger_47 : decode cX7_isLonger 47 = .ok (.iconst 1, 1) := by decide +kernel
theorem dX7_isLonger_48 : decode cX7_isLonger 48 = .ok (.goto 4, 3) := by decide +kernel
theorem dX7_isLonger_51 : decode cX7_isLonger 51 = .ok (.iconst 0, 1) := by decide +kernel
theorem dX7_isLonger_52 : decode cX7_isLonger 52 = .ok (.ireturn, 1) := by decide +kernel
set_option maxRecDepth 20000 in
theorem ggX7_cut_X7_wordAt : GoodIn wsX7_cut wsX7_wordAt := goodIn_r _ [7, 8, 9, 10, 6, 11, 47, 48, 49, 50, 51, 52, 53, 54, 55, 56, 57] (by decide +kernel) (by decide +kernel)
set_option maxRecDepth 20000 in
theorem gX7_cut_X7_wordAt : GoodIn wsX7_cut (wsV RX7 95 RX7 yX7_wordAt wsX7_wordAt) := goodIn_app (goodIn_of _ (by decide +kernel)) ggX7_cut_X7_wordAt
set_option maxRecDepth 20000 in
theorem ggX7_cut_X7_within : GoodIn wsX7_cut wsX7_within := goodIn_r _ [11] (by decide +kernel) (by decide +kernel)
set_option maxRecDepth 20000 in
theorem gX7_cut_X7_within : GoodIn wsX7_cut (va_wsS RX7 68 yX7_within wsX7_within) := goodIn_app (goodIn_of _ (by decide +kernel)) ggX7_cut_X7_within
set_option maxRecDepth 20000 in
theorem ggX7_cut_X3_fits : GoodIn wsX7_cut wsX3_fits := goodIn_r _ [16, 17, 18, 19, 20, 21, 15, 22, 23, 24, 25, 61, 62, 58, 59, 60, 63, 64, 65, 66] (by decide +kernel) (by decide +kernel)
set_option maxRecDepth 20000 in
theorem gX7_cut_X3_fits : GoodIn wsX7_cut (wsV RX7 116 RX3 yX3_fits wsX3_fits) := goodIn_app (goodIn_of _ (by decide +kernel)) ggX7_cut_X3_fits
set_option maxRecDepth 20000 in
theorem ggX7_cut_X3_lay : GoodIn wsX7_cut wsX3_lay := goodIn_r _ [29, 30, 17, 23, 24, 31, 25, 32, 33, 34, 35, 58, 59, 60, 61, 62, 63, 64, 65, 66] (by decide +kernel) (by decide +kernel)
set_option maxRecDepth 20000 in
theorem gX7_cut_X3_lay : GoodIn wsX7_cut (wsV RX7 124 RX3 yX3_lay wsX3_lay) := goodIn_app (goodIn_of _ (by decide +kernel)) ggX7_cut_X3_lay
set_option maxRecDepth 20000 in
theorem ggX7_cut_X3_seen : GoodIn wsX7_cut wsX3_seen := goodIn_r _ [39, 30, 40, 41, 42, 15, 43, 18, 44, 45, 46, 58, 59, 60] (by decide +kernel) (by decide +kernel)
set_option maxRecDepth 20000 in
theorem gX7_cut_X3_seen : GoodIn wsX7_cut (wsV RX7 128 RX3 yX3_seen wsX3_seen) := goodIn_app (goodIn_of _ (by decide +kernel)) ggX7_cut_X3_seen
theorem dX7_cut_0 : decode cX7_cut 0 = .ok (.aload_n 0, 1) := by decide +kernel
theorem dX7_cut_1 : decode cX7_cut 1 = .ok (.iload_n 1, 1) := by decide +kernel
theorem dX7_cut_2 : decode cX7_cut 2 = .ok (.invokevirtual 95, 3) := by decide +kernel
theorem dX7_cut_5 : decode cX7_cut 5 = .ok (.astore 5, 2) := by decide +kernel
theorem dX7_cut_7 : decode cX7_cut 7 = .ok (.aload_n 0, 1) := by decide +kernel
theorem dX7_cut_8 : decode cX7_cut 8 = .ok (.getfield 29, 3) := by decide +kernel
theorem dX7_cut_11 : decode cX7_cut 11 = .ok (.getfield 106, 3) := by decide +kernel
theorem dX7_cut_14 : decode cX7_cut 14 = .ok (.iconst 1, 1) := by decide +kernel
theorem dX7_cut_15 : decode cX7_cut 15 = .ok (.isub, 1) := by decide +kernel
theorem dX7_cut_16 : decode cX7_cut 16 = .ok (.istore 6, 2) := by decide +kernel
theorem dX7_cut_18 : decode cX7_cut 18 = .ok (.aload 5, 2) := by decide +kernel
theorem dX7_cut_20 : decode cX7_cut 20 = .ok (.ifnull 33, 3) := by decide +kernel
theorem dX7_cut_23 : decode cX7_cut 23 = .ok (.iload_n 2, 1) := by decide +kernel
theorem dX7_cut_24 : decode cX7_cut 24 = .ok (.iconst 0, 1) := by decide +kernel
theorem dX7_cut_25 : decode cX7_cut 25 = .ok (.iload 6, 2) := by decide +kernel
theorem dX7_cut_27 : decode cX7_cut 27 = .ok (.invokestatic 68, 3) := by decide +kernel
theorem dX7_cut_30 : decode cX7_cut 30 = .ok (.ifCond .eq 23, 3) := by decide +kernel
theorem dX7_cut_33 : decode cX7_cut 33 = .ok (.iload_n 3, 1) := by decide +kernel
theorem dX7_cut_34 : decode cX7_cut 34 = .ok (.iconst 0, 1) := by decide +kernel
theorem dX7_cut_35 : decode cX7_cut 35 = .ok (.iconst 3, 1) := by decide +kernel
theorem dX7_cut_36 : decode cX7_cut 36 = .ok (.invokestatic 68, 3) := by decide +kernel
theorem dX7_cut_39 : decode cX7_cut 39 = .ok (.ifCond .eq 14, 3) := by decide +kernel
theorem dX7_cut_42 : decode cX7_cut 42 = .ok (.iload 4, 2) := by decide +kernel
theorem dX7_cut_44 : decode cX7_cut 44 = .ok (.iconst 0, 1) := by decide +kernel
theorem dX7_cut_45 : decode cX7_cut 45 = .ok (.iload 6, 2) := by decide +kernel
theorem dX7_cut_47 : decode cX7_cut 47 = .ok (.invokestatic 68, 3) := by decide +kernel
theorem dX7_cut_50 : decode cX7_cut 50 = .ok (.ifCond .ne 6, 3) := by decide +kernel
theorem dX7_cut_53 : decode cX7_cut 53 = .ok (.bipush (-2), 2) := by decide +kernel
theorem dX7_cut_55 : decode cX7_cut 55 = .ok (.ireturn, 1) := by decide +kernel
theorem dX7_cut_56 : decode cX7_cut 56 = .ok (.aload_n 0, 1) := by decide +kernel
theorem dX7_cut_57 : decode cX7_cut 57 = .ok (.getfield 29, 3) := by decide +kernel
theorem dX7_cut_60 : decode cX7_cut 60 = .ok (.aload 5, 2) := by decide +kernel
theorem dX7_cut_62 : decode cX7_cut 62 = .ok (.invokevirtual 116, 3) := by decide +kernel
theorem dX7_cut_65 : decode cX7_cut 65 = .ok (.ifCond .ne 6, 3) := by decide +kernel
theorem dX7_cut_68 : decode cX7_cut 68 = .ok (.bipush (-3), 2) := by decide +kernel
theorem dX7_cut_70 : decode cX7_cut 70 = .ok (.ireturn, 1) := by decide +kernel
theorem dX7_cut_71 : decode cX7_cut 71 = .ok (.aload_n 0, 1) := by decide +kernel
theorem dX7_cut_72 : decode cX7_cut 72 = .ok (.getfield 29, 3) := by decide +kernel
theorem dX7_cut_75 : decode cX7_cut 75 = .ok (.aload 5, 2) := by decide +kernel
theorem dX7_cut_77 : decode cX7_cut 77 = .ok (.invokevirtual 124, 3) := by decide +kernel
theorem dX7_cut_80 : decode cX7_cut 80 = .ok (.aload_n 0, 1) := by decide +kernel
theorem dX7_cut_81 : decode cX7_cut 81 = .ok (.getfield 29, 3) := by decide +kernel
theorem dX7_cut_84 : decode cX7_cut 84 = .ok (.iload_n 2, 1) := by decide +kernel
theorem dX7_cut_85 : decode cX7_cut 85 = .ok (.iload_n 3, 1) := by decide +kernel
theorem dX7_cut_86 : decode cX7_cut 86 = .ok (.iload 4, 2) := by decide +kernel
theorem dX7_cut_88 : decode cX7_cut 88 = .ok (.invokevirtual 128, 3) := by decide +kernel
theorem dX7_cut_91 : decode cX7_cut 91 = .ok (.ireturn, 1) := by decide +kernel
set_option maxRecDepth 20000 in
theorem ggX7_readings_X7_troubleOfSheet : GoodIn wsX7_readings wsX7_troubleOfSheet := goodIn_r _ [6, 1, 7, 8, 9, 5, 10, 11, 12, 13, 14, 15, 16, 17, 18, 74, 75, 76, 77, 78, 79, 80, 81, 82, 83, 84, 85, 86, 87, 88] (by decide +kernel) (by decide +kernel)
set_option maxRecDepth 20000 in
theorem gX7_readings_X7_troubleOfSheet : GoodIn wsX7_readings (wsV RX7 132 RX7 yX7_troubleOfSheet wsX7_troubleOfSheet) := goodIn_app (goodIn_of _ (by decide +kernel)) ggX7_readings_X7_troubleOfSheet
set_option maxRecDepth 20000 in
theorem ggX7_readings_X7_readingsOfWord : GoodIn wsX7_readings wsX7_readingsOfWord := goodIn_r _ [22, 23, 24, 25, 26, 27, 28, 29, 30, 31, 32, 33, 34, 35, 36, 37, 38, 39, 40, 41, 42, 43, 44, 45, 46, 47, 48, 49, 50, 51, 52, 53, 54, 55, 56, 57, 58, 59, 60, 61, 62, 12, 5, 13, 63, 64, 65, 66, 67, 68, 69, 70, 71, 72, 73, 74, 75, 76, 77, 78, 79, 80, 81, 82, 83, 84, 89, 90, 91, 92, 93, 94, 95, 96, 97, 85, 86, 87, 88] (by decide +kernel) (by decide +kernel)
set_option maxRecDepth 20000 in
theorem gX7_readings_X7_readingsOfWord : GoodIn wsX7_readings (wsV RX7 136 RX7 yX7_readingsOfWord wsX7_readingsOfWord) := goodIn_app (goodIn_of _ (by decide +kernel)) ggX7_readings_X7_readingsOfWord
theorem dX7_readings_0 : decode cX7_readings 0 = .ok (.aload_n 0, 1) := by decide +kernel
theorem dX7_readings_1 : decode cX7_readings 1 = .ok (.iload_n 1, 1) := by decide +kernel
theorem dX7_readings_2 : decode cX7_readings 2 = .ok (.invokevirtual 132, 3) := by decide +kernel
theorem dX7_readings_5 : decode cX7_readings 5 = .ok (.istore_n 2, 1) := by decide +kernel
theorem dX7_readings_6 : decode cX7_readings 6 = .ok (.iload_n 2, 1) := by decide +kernel
theorem dX7_readings_7 : decode cX7_readings 7 = .ok (.ifCond .eq 5, 3) := by decide +kernel
theorem dX7_readings_10 : decode cX7_readings 10 = .ok (.iload_n 2, 1) := by decide +kernel
theorem dX7_readings_11 : decode cX7_readings 11 = .ok (.ireturn, 1) := by decide +kernel
theorem dX7_readings_12 : decode cX7_readings 12 = .ok (.iconst 0, 1) := by decide +kernel
theorem dX7_readings_13 : decode cX7_readings 13 = .ok (.istore_n 3, 1) := by decide +kernel
theorem dX7_readings_14 : decode cX7_readings 14 = .ok (.iconst 0, 1) := by decide +kernel
theorem dX7_readings_15 : decode cX7_readings 15 = .ok (.istore 4, 2) := by decide +kernel
theorem dX7_readings_17 : decode cX7_readings 17 = .ok (.iload 4, 2) := by decide +kernel
theorem dX7_readings_19 : decode cX7_readings 19 = .ok (.bipush 8, 2) := by decide +kernel
theorem dX7_readings_21 : decode cX7_readings 21 = .ok (.if_icmp .ge 24, 3) := by decide +kernel
theorem dX7_readings_24 : decode cX7_readings 24 = .ok (.iload_n 3, 1) := by decide +kernel
theorem dX7_readings_25 : decode cX7_readings 25 = .ok (.aload_n 0, 1) := by decide +kernel
theorem dX7_readings_26 : decode cX7_readings 26 = .ok (.iload 4, 2) := by decide +kernel
theorem dX7_readings_28 : decode cX7_readings 28 = .ok (.aload_n 0, 1) := by decide +kernel
theorem dX7_readings_29 : decode cX7_readings 29 = .ok (.getfield 60, 3) := by decide +kernel
theorem dX7_readings_32 : decode cX7_readings 32 = .ok (.iload_n 1, 1) := by decide +kernel
theorem dX7_readings_33 : decode cX7_readings 33 = .ok (.aaload, 1) := by decide +kernel
theorem dX7_readings_34 : decode cX7_readings 34 = .ok (.invokevirtual 136, 3) := by decide +kernel
theorem dX7_readings_37 : decode cX7_readings 37 = .ok (.iadd, 1) := by decide +kernel
theorem dX7_readings_38 : decode cX7_readings 38 = .ok (.istore_n 3, 1) := by decide +kernel
theorem dX7_readings_39 : decode cX7_readings 39 = .ok (.iinc 4 1, 3) := by decide +kernel
theorem dX7_readings_42 : decode cX7_readings 42 = .ok (.goto (-25), 3) := by decide +kernel
theorem dX7_readings_45 : decode cX7_readings 45 = .ok (.iload_n 3, 1) := by decide +kernel
theorem dX7_readings_46 : decode cX7_readings 46 = .ok (.ireturn, 1) := by decide +kernel
set_option maxRecDepth 20000 in
theorem ggX7_reading_X7_troubleOfSheet : GoodIn wsX7_reading wsX7_troubleOfSheet := goodIn_r _ [7, 1, 8, 9, 10, 6, 11, 12, 13, 14, 15, 16, 17, 18, 19, 78, 79, 80, 81, 82, 83, 84, 85, 86, 87, 88, 89, 90, 91, 92] (by decide +kernel) (by decide +kernel)
set_option maxRecDepth 20000 in
theorem gX7_reading_X7_troubleOfSheet : GoodIn wsX7_reading (wsV RX7 132 RX7 yX7_troubleOfSheet wsX7_troubleOfSheet) := goodIn_app (goodIn_of _ (by decide +kernel)) ggX7_reading_X7_troubleOfSheet
set_option maxRecDepth 20000 in
theorem ggX7_reading_X7_readingsOfWord : GoodIn wsX7_reading wsX7_readingsOfWord := goodIn_r _ [23, 2, 24, 25, 26, 27, 28, 29, 30, 31, 32, 33, 34, 35, 36, 37, 38, 39, 40, 41, 42, 43, 44, 45, 46, 47, 48, 49, 50, 51, 52, 53, 54, 55, 56, 57, 58, 59, 60, 61, 62, 13, 6, 14, 63, 64, 65, 66, 67, 68, 69, 70, 71, 72, 73, 78, 79, 80, 81, 82, 83, 84, 85, 86, 87, 88, 93, 94, 95, 96, 97, 98, 99, 100, 101, 89, 90, 91, 92] (by decide +kernel) (by decide +kernel)
set_option maxRecDepth 20000 in
theorem gX7_reading_X7_readingsOfWord : GoodIn wsX7_reading (wsV RX7 136 RX7 yX7_readingsOfWord wsX7_readingsOfWord) := goodIn_app (goodIn_of _ (by decide +kernel)) ggX7_reading_X7_readingsOfWord
set_option maxRecDepth 20000 in
theorem ggX7_reading_X3_readingOf : GoodIn wsX7_reading wsX3_readingOf := goodIn_r _ [77, 31, 53, 54, 55, 28, 56, 57, 58, 59, 60, 61, 62, 13, 6, 14, 63, 64, 65, 66, 43, 67, 68, 69, 70, 71, 72, 73, 95, 96, 97, 89, 90, 91, 92] (by decide +kernel) (by decide +kernel)
set_option maxRecDepth 20000 in
theorem gX7_reading_X3_readingOf : GoodIn wsX7_reading (wsV RX7 140 RX3 yX3_readingOf wsX3_readingOf) := goodIn_app (goodIn_of _ (by decide +kernel)) ggX7_reading_X3_readingOf
theorem dX7_reading_0 : decode cX7_reading 0 = .ok (.iload_n 2, 1) := by decide +kernel
theorem dX7_reading_1 : decode cX7_reading 1 = .ok (.ifCond .ge 6, 3) := by decide +kernel
theorem dX7_reading_4 : decode cX7_reading 4 = .ok (.bipush (-2), 2) := by decide +kernel
theorem dX7_reading_6 : decode cX7_reading 6 = .ok (.ireturn, 1) := by decide +kernel
theorem dX7_reading_7 : decode cX7_reading 7 = .ok (.aload_n 0, 1) := by decide +kernel
theorem dX7_reading_8 : decode cX7_reading 8 = .ok (.iload_n 1, 1) := by decide +kernel
theorem dX7_reading_9 : decode cX7_reading 9 = .ok (.invokevirtual 132, 3) := by decide +kernel
theorem dX7_reading_12 : decode cX7_reading 12 = .ok (.istore_n 3, 1) := by decide +kernel
theorem dX7_reading_13 : decode cX7_reading 13 = .ok (.iload_n 3, 1) := by decide +kernel
theorem dX7_reading_14 : decode cX7_reading 14 = .ok (.ifCond .eq 5, 3) := by decide +kernel
theorem dX7_reading_17 : decode cX7_reading 17 = .ok (.iload_n 3, 1) := by decide +kernel
theorem dX7_reading_18 : decode cX7_reading 18 = .ok (.ireturn, 1) := by decide +kernel
theorem dX7_reading_19 : decode cX7_reading 19 = .ok (.iload_n 2, 1) := by decide +kernel
theorem dX7_reading_20 : decode cX7_reading 20 = .ok (.istore 4, 2) := by decide +kernel
theorem dX7_reading_22 : decode cX7_reading 22 = .ok (.iconst 0, 1) := by decide +kernel
theorem dX7_reading_23 : decode cX7_reading 23 = .ok (.istore 5, 2) := by decide +kernel
theorem dX7_reading_25 : decode cX7_reading 25 = .ok (.iload 5, 2) := by decide +kernel
theorem dX7_reading_27 : decode cX7_reading 27 = .ok (.bipush 8, 2) := by decide +kernel
theorem dX7_reading_29 : decode cX7_reading 29 = .ok (.if_icmp .ge 60, 3) := by decide +kernel
theorem dX7_reading_32 : decode cX7_reading 32 = .ok (.aload_n 0, 1) := by decide +kernel
theorem dX7_reading_33 : decode cX7_reading 33 = .ok (.iload 5, 2) := by decide +kernel
theorem dX7_reading_35 : decode cX7_reading 35 = .ok (.aload_n 0, 1) := by decide +kernel
theorem dX7_reading_36 : decode cX7_reading 36 = .ok (.getfield 60, 3) := by decide +kernel
theorem dX7_reading_39 : decode cX7_reading 39 = .ok (.iload_n 1, 1) := by decide +kernel
theorem dX7_reading_40 : decode cX7_reading 40 = .ok (.aaload, 1) := by decide +kernel
theorem dX7_reading_41 : decode cX7_reading 41 = .ok (.invokevirtual 136, 3) := by decide +kernel
theorem dX7_reading_44 : decode cX7_reading 44 = .ok (.istore 6, 2) := by decide +kernel
theorem dX7_reading_46 : decode cX7_reading 46 = .ok (.iload 4, 2) := by decide +kernel
theorem dX7_reading_48 : decode cX7_reading 48 = .ok (.iload 6, 2) := by decide +kernel
theorem dX7_reading_50 : decode cX7_reading 50 = .ok (.if_icmp .ge 26, 3) := by decide +kernel
theorem dX7_reading_53 : decode cX7_reading 53 = .ok (.sipush 1000, 3) := by decide +kernel
theorem dX7_reading_56 : decode cX7_reading 56 = .ok (.iload 5, 2) := by decide +kernel
theorem dX7_reading_58 : decode cX7_reading 58 = .ok (.imul, 1) := by decide +kernel
theorem dX7_reading_59 : decode cX7_reading 59 = .ok (.aload_n 0, 1) := by decide +kernel
theorem dX7_reading_60 : decode cX7_reading 60 = .ok (.getfield 29, 3) := by decide +kernel
theorem dX7_reading_63 : decode cX7_reading 63 = .ok (.aload_n 0, 1) := by decide +kernel
theorem dX7_reading_64 : decode cX7_reading 64 = .ok (.getfield 60, 3) := by decide +kernel
theorem dX7_reading_67 : decode cX7_reading 67 = .ok (.iload_n 1, 1) := by decide +kernel
theorem dX7_reading_68 : decode cX7_reading 68 = .ok (.aaload, 1) := by decide +kernel
theorem dX7_reading_69 : decode cX7_reading 69 = .ok (.iload 4, 2) := by decide +kernel
theorem dX7_reading_71 : decode cX7_reading 71 = .ok (.invokevirtual 140, 3) := by decide +kernel
theorem dX7_reading_74 : decode cX7_reading 74 = .ok (.iadd, 1) := by decide +kernel
theorem dX7_reading_75 : decode cX7_reading 75 = .ok (.ireturn, 1) := by decide +kernel
theorem dX7_reading_76 : decode cX7_reading 76 = .ok (.iload 4, 2) := by decide +kernel
theorem dX7_reading_78 : decode cX7_reading 78 = .ok (.iload 6, 2) := by decide +kernel
theorem dX7_reading_80 : decode cX7_reading 80 = .ok (.isub, 1) := by decide +kernel
theorem dX7_reading_81 : decode cX7_reading 81 = .ok (.istore 4, 2) := by decide +kernel
theorem dX7_reading_83 : decode cX7_reading 83 = .ok (.iinc 5 1, 3) := by decide +kernel
theorem dX7_reading_86 : decode cX7_reading 86 = .ok (.goto (-61), 3) := by decide +kernel
theorem dX7_reading_89 : decode cX7_reading 89 = .ok (.iconst (-1), 1) := by decide +kernel
theorem dX7_reading_90 : decode cX7_reading 90 = .ok (.ireturn, 1) := by decide +kernel
set_option maxRecDepth 20000 in
theorem ggX7_words_X7_troubleOfSheet : GoodIn wsX7_words wsX7_troubleOfSheet := goodIn_r _ [6, 1, 7, 8, 9, 5, 10, 11, 12, 13, 14, 15, 16, 17, 18, 74, 75, 76, 77, 78, 79, 80, 81, 82, 83, 84, 85, 86, 87, 88] (by decide +kernel) (by decide +kernel)
set_option maxRecDepth 20000 in
theorem gX7_words_X7_troubleOfSheet : GoodIn wsX7_words (wsV RX7 132 RX7 yX7_troubleOfSheet wsX7_troubleOfSheet) := goodIn_app (goodIn_of _ (by decide +kernel)) ggX7_words_X7_troubleOfSheet
set_option maxRecDepth 20000 in
theorem ggX7_words_X7_readingsOfWord : GoodIn wsX7_words wsX7_readingsOfWord := goodIn_r _ [22, 23, 24, 25, 26, 27, 28, 29, 30, 31, 32, 33, 34, 35, 36, 37, 38, 39, 40, 41, 42, 43, 44, 45, 46, 47, 48, 49, 50, 51, 52, 53, 54, 55, 56, 57, 58, 59, 60, 61, 62, 12, 5, 13, 63, 64, 65, 66, 67, 68, 69, 70, 71, 72, 73, 74, 75, 76, 77, 78, 79, 80, 81, 82, 83, 84, 89, 90, 91, 92, 93, 94, 95, 96, 97, 85, 86, 87, 88] (by decide +kernel) (by decide +kernel)
set_option maxRecDepth 20000 in
theorem gX7_words_X7_readingsOfWord : GoodIn wsX7_words (wsV RX7 136 RX7 yX7_readingsOfWord wsX7_readingsOfWord) := goodIn_app (goodIn_of _ (by decide +kernel)) ggX7_words_X7_readingsOfWord
theorem dX7_words_0 : decode cX7_words 0 = .ok (.aload_n 0, 1) := by decide +kernel
theorem dX7_words_1 : decode cX7_words 1 = .ok (.iload_n 1, 1) := by decide +kernel
theorem dX7_words_2 : decode cX7_words 2 = .ok (.invokevirtual 132, 3) := by decide +kernel
theorem dX7_words_5 : decode cX7_words 5 = .ok (.istore_n 2, 1) := by decide +kernel
theorem dX7_words_6 : decode cX7_words 6 = .ok (.iload_n 2, 1) := by decide +kernel
theorem dX7_words_7 : decode cX7_words 7 = .ok (.ifCond .eq 5, 3) := by decide +kernel
theorem dX7_words_10 : decode cX7_words 10 = .ok (.iload_n 2, 1) := by decide +kernel
theorem dX7_words_11 : decode cX7_words 11 = .ok (.ireturn, 1) := by decide +kernel
theorem dX7_words_12 : decode cX7_words 12 = .ok (.iconst 0, 1) := by decide +kernel
theorem dX7_words_13 : decode cX7_words 13 = .ok (.istore_n 3, 1) := by decide +kernel
theorem dX7_words_14 : decode cX7_words 14 = .ok (.iconst 0, 1) := by decide +kernel
theorem dX7_words_15 : decode cX7_words 15 = .ok (.istore 4, 2) := by decide +kernel
theorem dX7_words_17 : decode cX7_words 17 = .ok (.iload 4, 2) := by decide +kernel
theorem dX7_words_19 : decode cX7_words 19 = .ok (.bipush 8, 2) := by decide +kernel
theorem dX7_words_21 : decode cX7_words 21 = .ok (.if_icmp .ge 31, 3) := by decide +kernel
theorem dX7_words_24 : decode cX7_words 24 = .ok (.aload_n 0, 1) := by decide +kernel
theorem dX7_words_25 : decode cX7_words 25 = .ok (.iload 4, 2) := by decide +kernel
theorem dX7_words_27 : decode cX7_words 27 = .ok (.aload_n 0, 1) := by decide +kernel
theorem dX7_words_28 : decode cX7_words 28 = .ok (.getfield 60, 3) := by decide +kernel
theorem dX7_words_31 : decode cX7_words 31 = .ok (.iload_n 1, 1) := by decide +kernel
theorem dX7_words_32 : decode cX7_words 32 = .ok (.aaload, 1) := by decide +kernel
theorem dX7_words_33 : decode cX7_words 33 = .ok (.invokevirtual 136, 3) := by decide +kernel
theorem dX7_words_36 : decode cX7_words 36 = .ok (.ifCond .le 10, 3) := by decide +kernel
theorem dX7_words_39 : decode cX7_words 39 = .ok (.iload_n 3, 1) := by decide +kernel
theorem dX7_words_40 : decode cX7_words 40 = .ok (.iconst 1, 1) := by decide +kernel
theorem dX7_words_41 : decode cX7_words 41 = .ok (.iload 4, 2) := by decide +kernel
theorem dX7_words_43 : decode cX7_words 43 = .ok (.ishl, 1) := by decide +kernel
theorem dX7_words_44 : decode cX7_words 44 = .ok (.ior, 1) := by decide +kernel
theorem dX7_words_45 : decode cX7_words 45 = .ok (.istore_n 3, 1) := by decide +kernel
theorem dX7_words_46 : decode cX7_words 46 = .ok (.iinc 4 1, 3) := by decide +kernel
theorem dX7_words_49 : decode cX7_words 49 = .ok (.goto (-32), 3) := by decide +kernel
theorem dX7_words_52 : decode cX7_words 52 = .ok (.iload_n 3, 1) := by decide +kernel
theorem dX7_words_53 : decode cX7_words 53 = .ok (.ireturn, 1) := by decide +kernel
set_option maxRecDepth 20000 in
theorem ggX7_readingsOfWord_X3_fits : GoodIn wsX7_readingsOfWord wsX3_fits := goodIn_r _ [7, 8, 9, 10, 11, 12, 6, 13, 14, 15, 16, 66, 67, 68, 69, 70, 71, 72, 73, 74] (by decide +kernel) (by decide +kernel)
set_option maxRecDepth 20000 in
theorem gX7_readingsOfWord_X3_fits : GoodIn wsX7_readingsOfWord (wsV RX7 116 RX3 yX3_fits wsX3_fits) := goodIn_app (goodIn_of _ (by decide +kernel)) ggX7_readingsOfWord_X3_fits
set_option maxRecDepth 20000 in
theorem ggX7_readingsOfWord_X3_lay : GoodIn wsX7_readingsOfWord wsX3_lay := goodIn_r _ [20, 21, 8, 14, 15, 22, 16, 23, 24, 25, 26, 68, 69, 70, 66, 67, 71, 72, 73, 74] (by decide +kernel) (by decide +kernel)
set_option maxRecDepth 20000 in
theorem gX7_readingsOfWord_X3_lay : GoodIn wsX7_readingsOfWord (wsV RX7 124 RX3 yX3_lay wsX3_lay) := goodIn_app (goodIn_of _ (by decide +kernel)) ggX7_readingsOfWord_X3_lay
set_option maxRecDepth 20000 in
theorem ggX7_readingsOfWord_X3_countReadings : GoodIn wsX7_readingsOfWord wsX3_countReadings := goodIn_r _ [30, 9, 31, 32, 33, 6, 34, 35, 36, 37, 38, 39, 40, 41, 42, 43, 44, 45, 46, 47, 21, 48, 49, 50, 51, 52, 53, 54, 68, 69, 70, 75, 76, 77, 78] (by decide +kernel) (by decide +kernel)
set_option maxRecDepth 20000 in
theorem gX7_readingsOfWord_X3_countReadings : GoodIn wsX7_readingsOfWord (wsV RX7 144 RX3 yX3_countReadings wsX3_countReadings) := goodIn_app (goodIn_of _ (by decide +kernel)) ggX7_readingsOfWord_X3_countReadings
theorem dX7_readingsOfWord_0 : decode cX7_readingsOfWord 0 = .ok (.aload_n 0, 1) := by decide +kernel
theorem dX7_readingsOfWord_1 : decode cX7_readingsOfWord 1 = .ok (.getfield 29, 3) := by decide +kernel
theorem dX7_readingsOfWord_4 : decode cX7_readingsOfWord 4 = .ok (.aload_n 0, 1) := by decide +kernel
theorem dX7_readingsOfWord_5 : decode cX7_readingsOfWord 5 = .ok (.getfield 21, 3) := by decide +kernel
theorem dX7_readingsOfWord_8 : decode cX7_readingsOfWord 8 = .ok (.iload_n 1, 1) := by decide +kernel
theorem dX7_readingsOfWord_9 : decode cX7_readingsOfWord 9 = .ok (.aaload, 1) := by decide +kernel
theorem dX7_readingsOfWord_10 : decode cX7_readingsOfWord 10 = .ok (.invokevirtual 116, 3) := by decide +kernel
theorem dX7_readingsOfWord_13 : decode cX7_readingsOfWord 13 = .ok (.ifCond .ne 5, 3) := by decide +kernel
theorem dX7_readingsOfWord_16 : decode cX7_readingsOfWord 16 = .ok (.iconst 0, 1) := by decide +kernel
theorem dX7_readingsOfWord_17 : decode cX7_readingsOfWord 17 = .ok (.ireturn, 1) := by decide +kernel
theorem dX7_readingsOfWord_18 : decode cX7_readingsOfWord 18 = .ok (.aload_n 0, 1) := by decide +kernel
theorem dX7_readingsOfWord_19 : decode cX7_readingsOfWord 19 = .ok (.getfield 29, 3) := by decide +kernel
theorem dX7_readingsOfWord_22 : decode cX7_readingsOfWord 22 = .ok (.aload_n 0, 1) := by decide +kernel
theorem dX7_readingsOfWord_23 : decode cX7_readingsOfWord 23 = .ok (.getfield 21, 3) := by decide +kernel
theorem dX7_readingsOfWord_26 : decode cX7_readingsOfWord 26 = .ok (.iload_n 1, 1) := by decide +kernel
theorem dX7_readingsOfWord_27 : decode cX7_readingsOfWord 27 = .ok (.aaload, 1) := by decide +kernel
theorem dX7_readingsOfWord_28 : decode cX7_readingsOfWord 28 = .ok (.invokevirtual 124, 3) := by decide +kernel
theorem dX7_readingsOfWord_31 : decode cX7_readingsOfWord 31 = .ok (.aload_n 0, 1) := by decide +kernel
theorem dX7_readingsOfWord_32 : decode cX7_readingsOfWord 32 = .ok (.getfield 29, 3) := by decide +kernel
theorem dX7_readingsOfWord_35 : decode cX7_readingsOfWord 35 = .ok (.aload_n 2, 1) := by decide +kernel
theorem dX7_readingsOfWord_36 : decode cX7_readingsOfWord 36 = .ok (.invokevirtual 144, 3) := by decide +kernel
theorem dX7_readingsOfWord_39 : decode cX7_readingsOfWord 39 = .ok (.ireturn, 1) := by decide +kernel
set_option maxRecDepth 20000 in
theorem ggX7_order_X7_wordAt : GoodIn wsX7_order wsX7_wordAt := goodIn_r _ [6, 7, 8, 9, 5, 10, 29, 30, 31, 32, 33, 34, 35, 36, 37, 38, 39] (by decide +kernel) (by decide +kernel)
set_option maxRecDepth 20000 in
theorem gX7_order_X7_wordAt : GoodIn wsX7_order (wsV RX7 95 RX7 yX7_wordAt wsX7_wordAt) := goodIn_app (goodIn_of _ (by decide +kernel)) ggX7_order_X7_wordAt
set_option maxRecDepth 20000 in
theorem ggX7_order_X7_within : GoodIn wsX7_order wsX7_within := goodIn_r _ [10] (by decide +kernel) (by decide +kernel)
set_option maxRecDepth 20000 in
theorem gX7_order_X7_within : GoodIn wsX7_order (va_wsS RX7 68 yX7_within wsX7_within) := goodIn_app (goodIn_of _ (by decide +kernel)) ggX7_order_X7_within
set_option maxRecDepth 20000 in
theorem ggX7_order_X6_placeInOrder : GoodIn wsX7_order wsX6_placeInOrder := goodIn_r _ [15, 16, 17, 18, 19, 14, 20, 21, 22, 23, 24, 25, 26, 27, 28, 40, 41, 42, 43] (by decide +kernel) (by decide +kernel)
set_option maxRecDepth 20000 in
theorem gX7_order_X6_placeInOrder : GoodIn wsX7_order (wsV RX7 148 RX6 yX6_placeInOrder wsX6_placeInOrder) := goodIn_app (goodIn_of _ (by decide +kernel)) ggX7_order_X6_placeInOrder
theorem dX7_order_0 : decode cX7_order 0 = .ok (.aload_n 0, 1) := by decide +kernel
theorem dX7_order_1 : decode cX7_order 1 = .ok (.iload_n 1, 1) := by decide +kernel
theorem dX7_order_2 : decode cX7_order 2 = .ok (.invokevirtual 95, 3) := by decide +kernel
theorem dX7_order_5 : decode cX7_order 5 = .ok (.astore_n 3, 1) := by decide +kernel
theorem dX7_order_6 : decode cX7_order 6 = .ok (.aload_n 3, 1) := by decide +kernel
theorem dX7_order_7 : decode cX7_order 7 = .ok (.ifnull 17, 3) := by decide +kernel
theorem dX7_order_10 : decode cX7_order 10 = .ok (.iload_n 2, 1) := by decide +kernel
theorem dX7_order_11 : decode cX7_order 11 = .ok (.iconst 0, 1) := by decide +kernel
theorem dX7_order_12 : decode cX7_order 12 = .ok (.aload_n 3, 1) := by decide +kernel
theorem dX7_order_13 : decode cX7_order 13 = .ok (.getfield 103, 3) := by decide +kernel
theorem dX7_order_16 : decode cX7_order 16 = .ok (.iconst 1, 1) := by decide +kernel
theorem dX7_order_17 : decode cX7_order 17 = .ok (.isub, 1) := by decide +kernel
theorem dX7_order_18 : decode cX7_order 18 = .ok (.invokestatic 68, 3) := by decide +kernel
theorem dX7_order_21 : decode cX7_order 21 = .ok (.ifCond .ne 6, 3) := by decide +kernel
theorem dX7_order_24 : decode cX7_order 24 = .ok (.bipush (-2), 2) := by decide +kernel
theorem dX7_order_26 : decode cX7_order 26 = .ok (.ireturn, 1) := by decide +kernel
theorem dX7_order_27 : decode cX7_order 27 = .ok (.aload_n 3, 1) := by decide +kernel
theorem dX7_order_28 : decode cX7_order 28 = .ok (.iload_n 2, 1) := by decide +kernel
theorem dX7_order_29 : decode cX7_order 29 = .ok (.invokevirtual 148, 3) := by decide +kernel
theorem dX7_order_32 : decode cX7_order 32 = .ok (.ireturn, 1) := by decide +kernel
set_option maxRecDepth 20000 in
theorem ggX7_late_X7_wordAt : GoodIn wsX7_late wsX7_wordAt := goodIn_r _ [5, 6, 7, 8, 4, 9, 31, 32, 33, 34, 35, 36, 37, 38, 39, 40, 41] (by decide +kernel) (by decide +kernel)
set_option maxRecDepth 20000 in
theorem gX7_late_X7_wordAt : GoodIn wsX7_late (wsV RX7 95 RX7 yX7_wordAt wsX7_wordAt) := goodIn_app (goodIn_of _ (by decide +kernel)) ggX7_late_X7_wordAt
set_option maxRecDepth 20000 in
theorem ggX7_late_X6_greatestLate : GoodIn wsX7_late wsX6_greatestLate := goodIn_r _ [14, 15, 16, 17, 18, 19, 20, 21, 22, 13, 23, 24, 25, 26, 27, 28, 29, 30, 42, 43, 44, 45, 46, 47] (by decide +kernel) (by decide +kernel)
set_option maxRecDepth 20000 in
theorem gX7_late_X6_greatestLate : GoodIn wsX7_late (wsV RX7 151 RX6 yX6_greatestLate wsX6_greatestLate) := goodIn_app (goodIn_of _ (by decide +kernel)) ggX7_late_X6_greatestLate
theorem dX7_late_0 : decode cX7_late 0 = .ok (.aload_n 0, 1) := by decide +kernel
theorem dX7_late_1 : decode cX7_late 1 = .ok (.iload_n 1, 1) := by decide +kernel
theorem dX7_late_2 : decode cX7_late 2 = .ok (.invokevirtual 95, 3) := by decide +kernel
theorem dX7_late_5 : decode cX7_late 5 = .ok (.astore_n 2, 1) := by decide +kernel
theorem dX7_late_6 : decode cX7_late 6 = .ok (.aload_n 2, 1) := by decide +kernel
theorem dX7_late_7 : decode cX7_late 7 = .ok (.ifnonnull 8, 3) := by decide +kernel
theorem dX7_late_10 : decode cX7_late 10 = .ok (.bipush (-2), 2) := by decide +kernel
theorem dX7_late_12 : decode cX7_late 12 = .ok (.goto 7, 3) := by decide +kernel
theorem dX7_late_15 : decode cX7_late 15 = .ok (.aload_n 2, 1) := by decide +kernel
theorem dX7_late_16 : decode cX7_late 16 = .ok (.invokevirtual 151, 3) := by decide +kernel
theorem dX7_late_19 : decode cX7_late 19 = .ok (.ireturn, 1) := by decide +kernel
set_option maxRecDepth 20000 in
theorem ggX7_spoiled_X7_wordAt : GoodIn wsX7_spoiled wsX7_wordAt := goodIn_r _ [5, 6, 7, 8, 4, 9, 27, 28, 29, 30, 31, 32, 33, 34, 35, 36, 37] (by decide +kernel) (by decide +kernel)
set_option maxRecDepth 20000 in
theorem gX7_spoiled_X7_wordAt : GoodIn wsX7_spoiled (wsV RX7 95 RX7 yX7_wordAt wsX7_wordAt) := goodIn_app (goodIn_of _ (by decide +kernel)) ggX7_spoiled_X7_wordAt
set_option maxRecDepth 20000 in
theorem ggX7_spoiled_X6_countLate : GoodIn wsX7_spoiled wsX6_countLate := goodIn_r _ [14, 15, 16, 17, 18, 13, 19, 20, 21, 22, 23, 24, 25, 26, 38, 39, 40, 41, 42, 43] (by decide +kernel) (by decide +kernel)
set_option maxRecDepth 20000 in
theorem gX7_spoiled_X6_countLate : GoodIn wsX7_spoiled (wsV RX7 155 RX6 yX6_countLate wsX6_countLate) := goodIn_app (goodIn_of _ (by decide +kernel)) ggX7_spoiled_X6_countLate
theorem dX7_spoiled_0 : decode cX7_spoiled 0 = .ok (.aload_n 0, 1) := by decide +kernel
theorem dX7_spoiled_1 : decode cX7_spoiled 1 = .ok (.iload_n 1, 1) := by decide +kernel
theorem dX7_spoiled_2 : decode cX7_spoiled 2 = .ok (.invokevirtual 95, 3) := by decide +kernel
theorem dX7_spoiled_5 : decode cX7_spoiled 5 = .ok (.astore_n 2, 1) := by decide +kernel
theorem dX7_spoiled_6 : decode cX7_spoiled 6 = .ok (.aload_n 2, 1) := by decide +kernel
theorem dX7_spoiled_7 : decode cX7_spoiled 7 = .ok (.ifnonnull 8, 3) := by decide +kernel
theorem dX7_spoiled_10 : decode cX7_spoiled 10 = .ok (.bipush (-2), 2) := by decide +kernel
theorem dX7_spoiled_12 : decode cX7_spoiled 12 = .ok (.goto 7, 3) := by decide +kernel
theorem dX7_spoiled_15 : decode cX7_spoiled 15 = .ok (.aload_n 2, 1) := by decide +kernel
theorem dX7_spoiled_16 : decode cX7_spoiled 16 = .ok (.invokevirtual 155, 3) := by decide +kernel
theorem dX7_spoiled_19 : decode cX7_spoiled 19 = .ok (.ireturn, 1) := by decide +kernel
set_option maxRecDepth 20000 in
theorem ggX7_set_X7_within : GoodIn wsX7_set wsX7_within := goodIn_r _ [7] (by decide +kernel) (by decide +kernel)
set_option maxRecDepth 20000 in
theorem gX7_set_X7_within : GoodIn wsX7_set (va_wsS RX7 68 yX7_within wsX7_within) := goodIn_app (goodIn_of _ (by decide +kernel)) ggX7_set_X7_within
theorem dX7_set_0 : decode cX7_set 0 = .ok (.iload_n 1, 1) := by decide +kernel
theorem dX7_set_1 : decode cX7_set 1 = .ok (.iconst 0, 1) := by decide +kernel
theorem dX7_set_2 : decode cX7_set 2 = .ok (.iconst 3, 1) := by decide +kernel
theorem dX7_set_3 : decode cX7_set 3 = .ok (.invokestatic 68, 3) := by decide +kernel
theorem dX7_set_6 : decode cX7_set 6 = .ok (.ifCond .eq 20, 3) := by decide +kernel
theorem dX7_set_9 : decode cX7_set 9 = .ok (.iload_n 2, 1) := by decide +kernel
theorem dX7_set_10 : decode cX7_set 10 = .ok (.getstatic 158, 3) := by decide +kernel
theorem dX7_set_13 : decode cX7_set 13 = .ok (.iload_n 1, 1) := by decide +kernel
theorem dX7_set_14 : decode cX7_set 14 = .ok (.iaload, 1) := by decide +kernel
theorem dX7_set_15 : decode cX7_set 15 = .ok (.getstatic 161, 3) := by decide +kernel
theorem dX7_set_18 : decode cX7_set 18 = .ok (.iload_n 1, 1) := by decide +kernel
theorem dX7_set_19 : decode cX7_set 19 = .ok (.iaload, 1) := by decide +kernel
theorem dX7_set_20 : decode cX7_set 20 = .ok (.invokestatic 68, 3) := by decide +kernel
theorem dX7_set_23 : decode cX7_set 23 = .ok (.ifCond .ne 6, 3) := by decide +kernel
theorem dX7_set_26 : decode cX7_set 26 = .ok (.bipush (-2), 2) := by decide +kernel
theorem dX7_set_28 : decode cX7_set 28 = .ok (.ireturn, 1) := by decide +kernel
theorem dX7_set_29 : decode cX7_set 29 = .ok (.aload_n 0, 1) := by decide +kernel
theorem dX7_set_30 : decode cX7_set 30 = .ok (.getfield 33, 3) := by decide +kernel
theorem dX7_set_33 : decode cX7_set 33 = .ok (.iload_n 1, 1) := by decide +kernel
theorem dX7_set_34 : decode cX7_set 34 = .ok (.iaload, 1) := by decide +kernel
theorem dX7_set_35 : decode cX7_set 35 = .ok (.istore_n 3, 1) := by decide +kernel
theorem dX7_set_36 : decode cX7_set 36 = .ok (.aload_n 0, 1) := by decide +kernel
theorem dX7_set_37 : decode cX7_set 37 = .ok (.getfield 33, 3) := by decide +kernel
theorem dX7_set_40 : decode cX7_set 40 = .ok (.iload_n 1, 1) := by decide +kernel
theorem dX7_set_41 : decode cX7_set 41 = .ok (.iload_n 2, 1) := by decide +kernel
theorem dX7_set_42 : decode cX7_set 42 = .ok (.iastore, 1) := by decide +kernel
theorem dX7_set_43 : decode cX7_set 43 = .ok (.iload_n 3, 1) := by decide +kernel
theorem dX7_set_44 : decode cX7_set 44 = .ok (.ireturn, 1) := by decide +kernel
set_option maxRecDepth 20000 in
theorem ggX7_lump_X7_wordAt : GoodIn wsX7_lump wsX7_wordAt := goodIn_r _ [12, 13, 14, 15, 11, 16, 68, 69, 70, 71, 72, 73, 74, 75, 76, 77, 78] (by decide +kernel) (by decide +kernel)
set_option maxRecDepth 20000 in
theorem gX7_lump_X7_wordAt : GoodIn wsX7_lump (wsV RX7 95 RX7 yX7_wordAt wsX7_wordAt) := goodIn_app (goodIn_of _ (by decide +kernel)) ggX7_lump_X7_wordAt
set_option maxRecDepth 20000 in
theorem ggX7_lump_X7_within : GoodIn wsX7_lump wsX7_within := goodIn_r _ [16] (by decide +kernel) (by decide +kernel)
set_option maxRecDepth 20000 in
theorem gX7_lump_X7_within : GoodIn wsX7_lump (va_wsS RX7 68 yX7_within wsX7_within) := goodIn_app (goodIn_of _ (by decide +kernel)) ggX7_lump_X7_within
set_option maxRecDepth 20000 in
theorem ggX7_lump_X2_latestDay : GoodIn wsX7_lump wsX2_latestDay := goodIn_r _ [21, 22, 23, 24, 85, 86, 87, 88, 79, 80, 81, 82, 83, 84] (by decide +kernel) (by decide +kernel)
set_option maxRecDepth 20000 in
theorem gX7_lump_X2_latestDay : GoodIn wsX7_lump (wsV RX7 164 RX2 yX2_latestDay wsX2_latestDay) := goodIn_app (goodIn_of _ (by decide +kernel)) ggX7_lump_X2_latestDay
set_option maxRecDepth 20000 in
theorem ggX7_lump_X3_fits : GoodIn wsX7_lump wsX3_fits := goodIn_r _ [29, 30, 31, 32, 33, 34, 28, 35, 36, 37, 38, 89, 90, 91, 92, 93, 94, 95, 96, 97] (by decide +kernel) (by decide +kernel)
set_option maxRecDepth 20000 in
theorem gX7_lump_X3_fits : GoodIn wsX7_lump (wsV RX7 116 RX3 yX3_fits wsX3_fits) := goodIn_app (goodIn_of _ (by decide +kernel)) ggX7_lump_X3_fits
set_option maxRecDepth 20000 in
theorem ggX7_lump_X2_isFull : GoodIn wsX7_lump wsX2_isFull := goodIn_r _ [42, 22, 85, 86, 87, 88] (by decide +kernel) (by decide +kernel)
set_option maxRecDepth 20000 in
theorem gX7_lump_X2_isFull : GoodIn wsX7_lump (wsV RX7 167 RX2 yX2_isFull wsX2_isFull) := goodIn_app (goodIn_of _ (by decide +kernel)) ggX7_lump_X2_isFull
set_option maxRecDepth 20000 in
theorem ggX7_lump_X7_sticksOf : GoodIn wsX7_lump wsX7_sticksOf := goodIn_r _ [46, 3, 68, 69, 70, 71, 72, 73, 74, 75, 76, 77, 78] (by decide +kernel) (by decide +kernel)
set_option maxRecDepth 20000 in
theorem gX7_lump_X7_sticksOf : GoodIn wsX7_lump (wsV RX7 171 RX7 yX7_sticksOf wsX7_sticksOf) := goodIn_app (goodIn_of _ (by decide +kernel)) ggX7_lump_X7_sticksOf
set_option maxRecDepth 20000 in
theorem ggX7_lump_X1_init : GoodIn wsX7_lump wsX1_init := goodIn_r _ [49, 50, 51, 52, 53, 54, 55, 56, 57, 58, 79, 80, 81, 82, 83, 84] (by decide +kernel) (by decide +kernel)
set_option maxRecDepth 20000 in
theorem gX7_lump_X1_init : GoodIn wsX7_lump (wsX1_init) := ggX7_lump_X1_init
set_option maxRecDepth 20000 in
theorem ggX7_lump_X2_enter : GoodIn wsX7_lump wsX2_enter := goodIn_r _ [62, 23, 22, 63, 64, 65, 66, 67, 40, 41, 20, 42, 85, 86, 87, 88, 79, 80, 81, 82, 83, 84] (by decide +kernel) (by decide +kernel)
set_option maxRecDepth 20000 in
theorem gX7_lump_X2_enter : GoodIn wsX7_lump (wsV RX7 182 RX2 yX2_enter wsX2_enter) := goodIn_app (goodIn_of _ (by decide +kernel)) ggX7_lump_X2_enter
theorem dX7_lump_0 : decode cX7_lump 0 = .ok (.aload_n 0, 1) := by decide +kernel
theorem dX7_lump_1 : decode cX7_lump 1 = .ok (.iload_n 1, 1) := by decide +kernel
theorem dX7_lump_2 : decode cX7_lump 2 = .ok (.invokevirtual 95, 3) := by decide +kernel
theorem dX7_lump_5 : decode cX7_lump 5 = .ok (.astore 5, 2) := by decide +kernel
theorem dX7_lump_7 : decode cX7_lump 7 = .ok (.aload 5, 2) := by decide +kernel
theorem dX7_lump_9 : decode cX7_lump 9 = .ok (.ifnull 25, 3) := by decide +kernel
theorem dX7_lump_12 : decode cX7_lump 12 = .ok (.iload_n 2, 1) := by decide +kernel
theorem dX7_lump_13 : decode cX7_lump 13 = .ok (.iconst 0, 1) := by decide +kernel
theorem dX7_lump_14 : decode cX7_lump 14 = .ok (.bipush 9, 2) := by decide +kernel
theorem dX7_lump_16 : decode cX7_lump 16 = .ok (.invokestatic 68, 3) := by decide +kernel
theorem dX7_lump_19 : decode cX7_lump 19 = .ok (.ifCond .eq 15, 3) := by decide +kernel
theorem dX7_lump_22 : decode cX7_lump 22 = .ok (.iload 4, 2) := by decide +kernel
theorem dX7_lump_24 : decode cX7_lump 24 = .ok (.iconst 1, 1) := by decide +kernel
theorem dX7_lump_25 : decode cX7_lump 25 = .ok (.sipush 200, 3) := by decide +kernel
theorem dX7_lump_28 : decode cX7_lump 28 = .ok (.invokestatic 68, 3) := by decide +kernel
theorem dX7_lump_31 : decode cX7_lump 31 = .ok (.ifCond .ne 6, 3) := by decide +kernel
theorem dX7_lump_34 : decode cX7_lump 34 = .ok (.bipush (-2), 2) := by decide +kernel
theorem dX7_lump_36 : decode cX7_lump 36 = .ok (.ireturn, 1) := by decide +kernel
theorem dX7_lump_37 : decode cX7_lump 37 = .ok (.iload_n 3, 1) := by decide +kernel
theorem dX7_lump_38 : decode cX7_lump 38 = .ok (.aload_n 0, 1) := by decide +kernel
theorem dX7_lump_39 : decode cX7_lump 39 = .ok (.getfield 40, 3) := by decide +kernel
theorem dX7_lump_42 : decode cX7_lump 42 = .ok (.invokevirtual 164, 3) := by decide +kernel
theorem dX7_lump_45 : decode cX7_lump 45 = .ok (.sipush 999, 3) := by decide +kernel
theorem dX7_lump_48 : decode cX7_lump 48 = .ok (.invokestatic 68, 3) := by decide +kernel
theorem dX7_lump_51 : decode cX7_lump 51 = .ok (.ifCond .ne 6, 3) := by decide +kernel
theorem dX7_lump_54 : decode cX7_lump 54 = .ok (.bipush (-2), 2) := by decide +kernel
theorem dX7_lump_56 : decode cX7_lump 56 = .ok (.ireturn, 1) := by decide +kernel
theorem dX7_lump_57 : decode cX7_lump 57 = .ok (.aload_n 0, 1) := by decide +kernel
theorem dX7_lump_58 : decode cX7_lump 58 = .ok (.getfield 29, 3) := by decide +kernel
theorem dX7_lump_61 : decode cX7_lump 61 = .ok (.aload 5, 2) := by decide +kernel
theorem dX7_lump_63 : decode cX7_lump 63 = .ok (.invokevirtual 116, 3) := by decide +kernel
theorem dX7_lump_66 : decode cX7_lump 66 = .ok (.ifCond .ne 6, 3) := by decide +kernel
theorem dX7_lump_69 : decode cX7_lump 69 = .ok (.bipush (-3), 2) := by decide +kernel
theorem dX7_lump_71 : decode cX7_lump 71 = .ok (.ireturn, 1) := by decide +kernel
theorem dX7_lump_72 : decode cX7_lump 72 = .ok (.aload_n 0, 1) := by decide +kernel
theorem dX7_lump_73 : decode cX7_lump 73 = .ok (.getfield 40, 3) := by decide +kernel
theorem dX7_lump_76 : decode cX7_lump 76 = .ok (.invokevirtual 167, 3) := by decide +kernel
theorem dX7_lump_79 : decode cX7_lump 79 = .ok (.ifCond .eq 6, 3) := by decide +kernel
theorem dX7_lump_82 : decode cX7_lump 82 = .ok (.bipush (-4), 2) := by decide +kernel
theorem dX7_lump_84 : decode cX7_lump 84 = .ok (.ireturn, 1) := by decide +kernel
theorem dX7_lump_85 : decode cX7_lump 85 = .ok (.iload 4, 2) := by decide +kernel
theorem dX7_lump_87 : decode cX7_lump 87 = .ok (.aload_n 0, 1) := by decide +kernel
theorem dX7_lump_88 : decode cX7_lump 88 = .ok (.getfield 33, 3) := by decide +kernel
theorem dX7_lump_91 : decode cX7_lump 91 = .ok (.iconst 0, 1) := by decide +kernel
theorem dX7_lump_92 : decode cX7_lump 92 = .ok (.iaload, 1) := by decide +kernel
theorem dX7_lump_93 : decode cX7_lump 93 = .ok (.imul, 1) := by decide +kernel
theorem dX7_lump_94 : decode cX7_lump 94 = .ok (.istore 6, 2) := by decide +kernel
theorem dX7_lump_96 : decode cX7_lump 96 = .ok (.aload_n 0, 1) := by decide +kernel
theorem dX7_lump_97 : decode cX7_lump 97 = .ok (.iload 6, 2) := by decide +kernel
theorem dX7_lump_99 : decode cX7_lump 99 = .ok (.invokevirtual 171, 3) := by decide +kernel
theorem dX7_lump_102 : decode cX7_lump 102 = .ok (.istore 7, 2) := by decide +kernel
theorem dX7_lump_104 : decode cX7_lump 104 = .ok (.iload 6, 2) := by decide +kernel
theorem dX7_lump_106 : decode cX7_lump 106 = .ok (.iload 7, 2) := by decide +kernel
theorem dX7_lump_108 : decode cX7_lump 108 = .ok (.aload_n 0, 1) := by decide +kernel
theorem dX7_lump_109 : decode cX7_lump 109 = .ok (.getfield 33, 3) := by decide +kernel
theorem dX7_lump_112 : decode cX7_lump 112 = .ok (.iconst 2, 1) := by decide +kernel
theorem dX7_lump_113 : decode cX7_lump 113 = .ok (.iaload, 1) := by decide +kernel
theorem dX7_lump_114 : decode cX7_lump 114 = .ok (.imul, 1) := by decide +kernel
theorem dX7_lump_115 : decode cX7_lump 115 = .ok (.isub, 1) := by decide +kernel
theorem dX7_lump_116 : decode cX7_lump 116 = .ok (.istore 8, 2) := by decide +kernel
theorem dX7_lump_118 : decode cX7_lump 118 = .ok (.aload_n 0, 1) := by decide +kernel
theorem dX7_lump_119 : decode cX7_lump 119 = .ok (.getfield 40, 3) := by decide +kernel
theorem dX7_lump_122 : decode cX7_lump 122 = .ok (.new 174, 3) := by decide +kernel
theorem dX7_lump_125 : decode cX7_lump 125 = .ok (.dup, 1) := by decide +kernel
theorem dX7_lump_126 : decode cX7_lump 126 = .ok (.iload_n 1, 1) := by decide +kernel
theorem dX7_lump_127 : decode cX7_lump 127 = .ok (.iload_n 2, 1) := by decide +kernel
theorem dX7_lump_128 : decode cX7_lump 128 = .ok (.iload_n 3, 1) := by decide +kernel
theorem dX7_lump_129 : decode cX7_lump 129 = .ok (.aload_n 0, 1) := by decide +kernel
theorem dX7_lump_130 : decode cX7_lump 130 = .ok (.getfield 40, 3) := by decide +kernel
theorem dX7_lump_133 : decode cX7_lump 133 = .ok (.getfield 176, 3) := by decide +kernel
theorem dX7_lump_136 : decode cX7_lump 136 = .ok (.iload 7, 2) := by decide +kernel
theorem dX7_lump_138 : decode cX7_lump 138 = .ok (.iload 8, 2) := by decide +kernel
theorem dX7_lump_140 : decode cX7_lump 140 = .ok (.invokespecial 179, 3) := by decide +kernel
theorem dX7_lump_143 : decode cX7_lump 143 = .ok (.invokevirtual 182, 3) := by decide +kernel
theorem dX7_lump_146 : decode cX7_lump 146 = .ok (.iload 7, 2) := by decide +kernel
theorem dX7_lump_148 : decode cX7_lump 148 = .ok (.ireturn, 1) := by decide +kernel
theorem dX7_sticksOf_0 : decode cX7_sticksOf 0 = .ok (.iload_n 1, 1) := by decide +kernel
theorem dX7_sticksOf_1 : decode cX7_sticksOf 1 = .ok (.iconst 2, 1) := by decide +kernel
theorem dX7_sticksOf_2 : decode cX7_sticksOf 2 = .ok (.aload_n 0, 1) := by decide +kernel
theorem dX7_sticksOf_3 : decode cX7_sticksOf 3 = .ok (.getfield 33, 3) := by decide +kernel
theorem dX7_sticksOf_6 : decode cX7_sticksOf 6 = .ok (.iconst 1, 1) := by decide +kernel
theorem dX7_sticksOf_7 : decode cX7_sticksOf 7 = .ok (.iaload, 1) := by decide +kernel
theorem dX7_sticksOf_8 : decode cX7_sticksOf 8 = .ok (.imul, 1) := by decide +kernel
theorem dX7_sticksOf_9 : decode cX7_sticksOf 9 = .ok (.isub, 1) := by decide +kernel
theorem dX7_sticksOf_10 : decode cX7_sticksOf 10 = .ok (.istore_n 2, 1) := by decide +kernel
theorem dX7_sticksOf_11 : decode cX7_sticksOf 11 = .ok (.aload_n 0, 1) := by decide +kernel
theorem dX7_sticksOf_12 : decode cX7_sticksOf 12 = .ok (.getfield 33, 3) := by decide +kernel
theorem dX7_sticksOf_15 : decode cX7_sticksOf 15 = .ok (.iconst 2, 1) := by decide +kernel
theorem dX7_sticksOf_16 : decode cX7_sticksOf 16 = .ok (.iaload, 1) := by decide +kernel
end
section
theorem dX7_sticksOf_17 : decode cX7_sticksOf 17 = .ok (.istore_n 3, 1) := by decide +kernel
theorem dX7_sticksOf_18 : decode cX7_sticksOf 18 = .ok (.iload_n 2, 1) := by decide +kernel
theorem dX7_sticksOf_19 : decode cX7_sticksOf 19 = .ok (.ifCond .lt 8, 3) := by decide +kernel
theorem dX7_sticksOf_22 : decode cX7_sticksOf 22 = .ok (.iload_n 3, 1) := by decide +kernel
theorem dX7_sticksOf_23 : decode cX7_sticksOf 23 = .ok (.iconst 1, 1) := by decide +kernel
theorem dX7_sticksOf_24 : decode cX7_sticksOf 24 = .ok (.if_icmp .ge 7, 3) := by decide +kernel
theorem dX7_sticksOf_27 : decode cX7_sticksOf 27 = .ok (.iconst 0, 1) := by decide +kernel
theorem dX7_sticksOf_28 : decode cX7_sticksOf 28 = .ok (.goto 6, 3) := by decide +kernel
theorem dX7_sticksOf_31 : decode cX7_sticksOf 31 = .ok (.iload_n 2, 1) := by decide +kernel
theorem dX7_sticksOf_32 : decode cX7_sticksOf 32 = .ok (.iload_n 3, 1) := by decide +kernel
theorem dX7_sticksOf_33 : decode cX7_sticksOf 33 = .ok (.idiv, 1) := by decide +kernel
theorem dX7_sticksOf_34 : decode cX7_sticksOf 34 = .ok (.ireturn, 1) := by decide +kernel
set_option maxRecDepth 20000 in
theorem ggX7_made_X2_lumpAt : GoodIn wsX7_made wsX2_lumpAt := goodIn_r _ [12, 13, 14, 15, 16, 17, 35, 36, 37, 38] (by decide +kernel) (by decide +kernel)
set_option maxRecDepth 20000 in
theorem gX7_made_X2_lumpAt : GoodIn wsX7_made (wsV RX7 186 RX2 yX2_lumpAt wsX2_lumpAt) := goodIn_app (goodIn_of _ (by decide +kernel)) ggX7_made_X2_lumpAt
theorem dX7_made_0 : decode cX7_made 0 = .ok (.aload_n 0, 1) := by decide +kernel
theorem dX7_made_1 : decode cX7_made 1 = .ok (.getfield 40, 3) := by decide +kernel
theorem dX7_made_4 : decode cX7_made 4 = .ok (.iload_n 1, 1) := by decide +kernel
theorem dX7_made_5 : decode cX7_made 5 = .ok (.invokevirtual 186, 3) := by decide +kernel
theorem dX7_made_8 : decode cX7_made 8 = .ok (.astore_n 3, 1) := by decide +kernel
theorem dX7_made_9 : decode cX7_made 9 = .ok (.aload_n 3, 1) := by decide +kernel
theorem dX7_made_10 : decode cX7_made 10 = .ok (.ifnonnull 6, 3) := by decide +kernel
theorem dX7_made_13 : decode cX7_made 13 = .ok (.bipush (-2), 2) := by decide +kernel
theorem dX7_made_15 : decode cX7_made 15 = .ok (.ireturn, 1) := by decide +kernel
theorem dX7_made_16 : decode cX7_made 16 = .ok (.iload_n 2, 1) := by decide +kernel
theorem dX7_made_17 : decode cX7_made 17 = .ok (.tableswitch 69 0 5 #[39, 44, 49, 54, 59, 64], 39) := by decide +kernel
theorem dX7_made_56 : decode cX7_made 56 = .ok (.aload_n 3, 1) := by decide +kernel
theorem dX7_made_57 : decode cX7_made 57 = .ok (.getfield 190, 3) := by decide +kernel
theorem dX7_made_60 : decode cX7_made 60 = .ok (.ireturn, 1) := by decide +kernel
theorem dX7_made_61 : decode cX7_made 61 = .ok (.aload_n 3, 1) := by decide +kernel
theorem dX7_made_62 : decode cX7_made 62 = .ok (.getfield 193, 3) := by decide +kernel
theorem dX7_made_65 : decode cX7_made 65 = .ok (.ireturn, 1) := by decide +kernel
theorem dX7_made_66 : decode cX7_made 66 = .ok (.aload_n 3, 1) := by decide +kernel
theorem dX7_made_67 : decode cX7_made 67 = .ok (.getfield 196, 3) := by decide +kernel
theorem dX7_made_70 : decode cX7_made 70 = .ok (.ireturn, 1) := by decide +kernel
theorem dX7_made_71 : decode cX7_made 71 = .ok (.aload_n 3, 1) := by decide +kernel
theorem dX7_made_72 : decode cX7_made 72 = .ok (.getfield 199, 3) := by decide +kernel
theorem dX7_made_75 : decode cX7_made 75 = .ok (.ireturn, 1) := by decide +kernel
theorem dX7_made_76 : decode cX7_made 76 = .ok (.aload_n 3, 1) := by decide +kernel
theorem dX7_made_77 : decode cX7_made 77 = .ok (.getfield 202, 3) := by decide +kernel
theorem dX7_made_80 : decode cX7_made 80 = .ok (.ireturn, 1) := by decide +kernel
theorem dX7_made_81 : decode cX7_made 81 = .ok (.aload_n 3, 1) := by decide +kernel
theorem dX7_made_82 : decode cX7_made 82 = .ok (.getfield 205, 3) := by decide +kernel
theorem dX7_made_85 : decode cX7_made 85 = .ok (.ireturn, 1) := by decide +kernel
theorem dX7_made_86 : decode cX7_made 86 = .ok (.bipush (-2), 2) := by decide +kernel
theorem dX7_made_88 : decode cX7_made 88 = .ok (.ireturn, 1) := by decide +kernel
set_option maxRecDepth 20000 in
theorem ggX7_trace_X2_lumpOfStick : GoodIn wsX7_trace wsX2_lumpOfStick := goodIn_r _ [6, 7, 8, 9, 10, 11, 12, 13, 14, 15, 27, 28, 29, 30, 31, 32, 33, 34, 35, 36] (by decide +kernel) (by decide +kernel)
set_option maxRecDepth 20000 in
theorem gX7_trace_X2_lumpOfStick : GoodIn wsX7_trace (wsV RX7 208 RX2 yX2_lumpOfStick wsX2_lumpOfStick) := goodIn_app (goodIn_of _ (by decide +kernel)) ggX7_trace_X2_lumpOfStick
theorem dX7_trace_0 : decode cX7_trace 0 = .ok (.aload_n 0, 1) := by decide +kernel
theorem dX7_trace_1 : decode cX7_trace 1 = .ok (.getfield 40, 3) := by decide +kernel
theorem dX7_trace_4 : decode cX7_trace 4 = .ok (.iload_n 1, 1) := by decide +kernel
theorem dX7_trace_5 : decode cX7_trace 5 = .ok (.invokevirtual 208, 3) := by decide +kernel
theorem dX7_trace_8 : decode cX7_trace 8 = .ok (.istore_n 2, 1) := by decide +kernel
theorem dX7_trace_9 : decode cX7_trace 9 = .ok (.iload_n 2, 1) := by decide +kernel
theorem dX7_trace_10 : decode cX7_trace 10 = .ok (.iconst (-1), 1) := by decide +kernel
theorem dX7_trace_11 : decode cX7_trace 11 = .ok (.if_icmp .ne 8, 3) := by decide +kernel
theorem dX7_trace_14 : decode cX7_trace 14 = .ok (.bipush (-2), 2) := by decide +kernel
theorem dX7_trace_16 : decode cX7_trace 16 = .ok (.goto 4, 3) := by decide +kernel
theorem dX7_trace_19 : decode cX7_trace 19 = .ok (.iload_n 2, 1) := by decide +kernel
theorem dX7_trace_20 : decode cX7_trace 20 = .ok (.ireturn, 1) := by decide +kernel
set_option maxRecDepth 20000 in
theorem ggX7_recall_X7_within : GoodIn wsX7_recall wsX7_within := goodIn_r _ [5] (by decide +kernel) (by decide +kernel)
set_option maxRecDepth 20000 in
theorem gX7_recall_X7_within : GoodIn wsX7_recall (va_wsS RX7 68 yX7_within wsX7_within) := goodIn_app (goodIn_of _ (by decide +kernel)) ggX7_recall_X7_within
set_option maxRecDepth 20000 in
theorem ggX7_recall_X7_isSpan : GoodIn wsX7_recall wsX7_isSpan := goodIn_r _ [8] (by decide +kernel) (by decide +kernel)
set_option maxRecDepth 20000 in
theorem gX7_recall_X7_isSpan : GoodIn wsX7_recall (va_wsS RX7 211 yX7_isSpan wsX7_isSpan) := goodIn_app (goodIn_of _ (by decide +kernel)) ggX7_recall_X7_isSpan
set_option maxRecDepth 20000 in
theorem ggX7_recall_X2_countSticks : GoodIn wsX7_recall wsX2_countSticks := goodIn_r _ [13, 14, 15, 16, 17, 18, 19, 20, 21, 22, 23, 3, 4, 5, 35, 36, 37, 38, 39, 40, 41, 42, 43, 44] (by decide +kernel) (by decide +kernel)
set_option maxRecDepth 20000 in
theorem gX7_recall_X2_countSticks : GoodIn wsX7_recall (wsV RX7 214 RX2 yX2_countSticks wsX2_countSticks) := goodIn_app (goodIn_of _ (by decide +kernel)) ggX7_recall_X2_countSticks
theorem dX7_recall_0 : decode cX7_recall 0 = .ok (.iload_n 1, 1) := by decide +kernel
theorem dX7_recall_1 : decode cX7_recall 1 = .ok (.iconst (-1), 1) := by decide +kernel
theorem dX7_recall_2 : decode cX7_recall 2 = .ok (.if_icmp .eq 16, 3) := by decide +kernel
theorem dX7_recall_5 : decode cX7_recall 5 = .ok (.iload_n 1, 1) := by decide +kernel
theorem dX7_recall_6 : decode cX7_recall 6 = .ok (.iconst 0, 1) := by decide +kernel
theorem dX7_recall_7 : decode cX7_recall 7 = .ok (.bipush 9, 2) := by decide +kernel
theorem dX7_recall_9 : decode cX7_recall 9 = .ok (.invokestatic 68, 3) := by decide +kernel
theorem dX7_recall_12 : decode cX7_recall 12 = .ok (.ifCond .ne 6, 3) := by decide +kernel
theorem dX7_recall_15 : decode cX7_recall 15 = .ok (.bipush (-2), 2) := by decide +kernel
theorem dX7_recall_17 : decode cX7_recall 17 = .ok (.ireturn, 1) := by decide +kernel
theorem dX7_recall_18 : decode cX7_recall 18 = .ok (.iload_n 2, 1) := by decide +kernel
theorem dX7_recall_19 : decode cX7_recall 19 = .ok (.iload_n 3, 1) := by decide +kernel
theorem dX7_recall_20 : decode cX7_recall 20 = .ok (.sipush 999, 3) := by decide +kernel
theorem dX7_recall_23 : decode cX7_recall 23 = .ok (.invokestatic 211, 3) := by decide +kernel
theorem dX7_recall_26 : decode cX7_recall 26 = .ok (.ifCond .ne 6, 3) := by decide +kernel
theorem dX7_recall_29 : decode cX7_recall 29 = .ok (.bipush (-2), 2) := by decide +kernel
theorem dX7_recall_31 : decode cX7_recall 31 = .ok (.ireturn, 1) := by decide +kernel
theorem dX7_recall_32 : decode cX7_recall 32 = .ok (.aload_n 0, 1) := by decide +kernel
theorem dX7_recall_33 : decode cX7_recall 33 = .ok (.getfield 40, 3) := by decide +kernel
theorem dX7_recall_36 : decode cX7_recall 36 = .ok (.iload_n 1, 1) := by decide +kernel
theorem dX7_recall_37 : decode cX7_recall 37 = .ok (.iload_n 2, 1) := by decide +kernel
theorem dX7_recall_38 : decode cX7_recall 38 = .ok (.iload_n 3, 1) := by decide +kernel
theorem dX7_recall_39 : decode cX7_recall 39 = .ok (.invokevirtual 214, 3) := by decide +kernel
theorem dX7_recall_42 : decode cX7_recall 42 = .ok (.ireturn, 1) := by decide +kernel
set_option maxRecDepth 20000 in
theorem ggX7_foretold_X7_isWeek : GoodIn wsX7_foretold wsX7_isWeek := goodIn_r _ [12, 13, 14, 11, 15] (by decide +kernel) (by decide +kernel)
set_option maxRecDepth 20000 in
theorem gX7_foretold_X7_isWeek : GoodIn wsX7_foretold (va_wsS RX7 217 yX7_isWeek wsX7_isWeek) := goodIn_app (goodIn_of _ (by decide +kernel)) ggX7_foretold_X7_isWeek
set_option maxRecDepth 20000 in
theorem ggX7_foretold_X4_wantAt : GoodIn wsX7_foretold wsX4_wantAt := goodIn_r _ [20, 21, 22, 23, 24, 25, 19, 26, 27, 14, 11, 15, 39, 40, 41, 42] (by decide +kernel) (by decide +kernel)
set_option maxRecDepth 20000 in
theorem gX7_foretold_X4_wantAt : GoodIn wsX7_foretold (wsV RX7 220 RX4 yX4_wantAt wsX4_wantAt) := goodIn_app (goodIn_of _ (by decide +kernel)) ggX7_foretold_X4_wantAt
theorem dX7_foretold_0 : decode cX7_foretold 0 = .ok (.iload_n 1, 1) := by decide +kernel
theorem dX7_foretold_1 : decode cX7_foretold 1 = .ok (.invokestatic 217, 3) := by decide +kernel
theorem dX7_foretold_4 : decode cX7_foretold 4 = .ok (.ifCond .ne 6, 3) := by decide +kernel
theorem dX7_foretold_7 : decode cX7_foretold 7 = .ok (.bipush (-2), 2) := by decide +kernel
theorem dX7_foretold_9 : decode cX7_foretold 9 = .ok (.ireturn, 1) := by decide +kernel
theorem dX7_foretold_10 : decode cX7_foretold 10 = .ok (.aload_n 0, 1) := by decide +kernel
theorem dX7_foretold_11 : decode cX7_foretold 11 = .ok (.getfield 60, 3) := by decide +kernel
theorem dX7_foretold_14 : decode cX7_foretold 14 = .ok (.iconst 0, 1) := by decide +kernel
theorem dX7_foretold_15 : decode cX7_foretold 15 = .ok (.aaload, 1) := by decide +kernel
theorem dX7_foretold_16 : decode cX7_foretold 16 = .ok (.iload_n 1, 1) := by decide +kernel
theorem dX7_foretold_17 : decode cX7_foretold 17 = .ok (.invokevirtual 220, 3) := by decide +kernel
theorem dX7_foretold_20 : decode cX7_foretold 20 = .ok (.istore_n 2, 1) := by decide +kernel
theorem dX7_foretold_21 : decode cX7_foretold 21 = .ok (.aload_n 0, 1) := by decide +kernel
theorem dX7_foretold_22 : decode cX7_foretold 22 = .ok (.getfield 60, 3) := by decide +kernel
theorem dX7_foretold_25 : decode cX7_foretold 25 = .ok (.iconst 1, 1) := by decide +kernel
theorem dX7_foretold_26 : decode cX7_foretold 26 = .ok (.aaload, 1) := by decide +kernel
theorem dX7_foretold_27 : decode cX7_foretold 27 = .ok (.iload_n 1, 1) := by decide +kernel
theorem dX7_foretold_28 : decode cX7_foretold 28 = .ok (.invokevirtual 220, 3) := by decide +kernel
theorem dX7_foretold_31 : decode cX7_foretold 31 = .ok (.istore_n 3, 1) := by decide +kernel
theorem dX7_foretold_32 : decode cX7_foretold 32 = .ok (.aload_n 0, 1) := by decide +kernel
theorem dX7_foretold_33 : decode cX7_foretold 33 = .ok (.getfield 60, 3) := by decide +kernel
theorem dX7_foretold_36 : decode cX7_foretold 36 = .ok (.iconst 2, 1) := by decide +kernel
theorem dX7_foretold_37 : decode cX7_foretold 37 = .ok (.aaload, 1) := by decide +kernel
theorem dX7_foretold_38 : decode cX7_foretold 38 = .ok (.iload_n 1, 1) := by decide +kernel
theorem dX7_foretold_39 : decode cX7_foretold 39 = .ok (.invokevirtual 220, 3) := by decide +kernel
theorem dX7_foretold_42 : decode cX7_foretold 42 = .ok (.istore 4, 2) := by decide +kernel
theorem dX7_foretold_44 : decode cX7_foretold 44 = .ok (.iload_n 2, 1) := by decide +kernel
theorem dX7_foretold_45 : decode cX7_foretold 45 = .ok (.iload_n 3, 1) := by decide +kernel
theorem dX7_foretold_46 : decode cX7_foretold 46 = .ok (.invokestatic 223, 3) := by decide +kernel
theorem dX7_foretold_49 : decode cX7_foretold 49 = .ok (.iload_n 2, 1) := by decide +kernel
theorem dX7_foretold_50 : decode cX7_foretold 50 = .ok (.iload_n 3, 1) := by decide +kernel
theorem dX7_foretold_51 : decode cX7_foretold 51 = .ok (.invokestatic 229, 3) := by decide +kernel
theorem dX7_foretold_54 : decode cX7_foretold 54 = .ok (.iload 4, 2) := by decide +kernel
theorem dX7_foretold_56 : decode cX7_foretold 56 = .ok (.invokestatic 223, 3) := by decide +kernel
theorem dX7_foretold_59 : decode cX7_foretold 59 = .ok (.invokestatic 229, 3) := by decide +kernel
theorem dX7_foretold_62 : decode cX7_foretold 62 = .ok (.istore 5, 2) := by decide +kernel
theorem dX7_foretold_64 : decode cX7_foretold 64 = .ok (.iload 5, 2) := by decide +kernel
theorem dX7_foretold_66 : decode cX7_foretold 66 = .ok (.iconst (-1), 1) := by decide +kernel
theorem dX7_foretold_67 : decode cX7_foretold 67 = .ok (.if_icmp .eq 6, 3) := by decide +kernel
theorem dX7_foretold_70 : decode cX7_foretold 70 = .ok (.iload 5, 2) := by decide +kernel
theorem dX7_foretold_72 : decode cX7_foretold 72 = .ok (.ireturn, 1) := by decide +kernel
theorem dX7_foretold_73 : decode cX7_foretold 73 = .ok (.iconst 0, 1) := by decide +kernel
theorem dX7_foretold_74 : decode cX7_foretold 74 = .ok (.iload_n 2, 1) := by decide +kernel
theorem dX7_foretold_75 : decode cX7_foretold 75 = .ok (.iload_n 3, 1) := by decide +kernel
theorem dX7_foretold_76 : decode cX7_foretold 76 = .ok (.iload 4, 2) := by decide +kernel
theorem dX7_foretold_78 : decode cX7_foretold 78 = .ok (.invokestatic 229, 3) := by decide +kernel
theorem dX7_foretold_81 : decode cX7_foretold 81 = .ok (.invokestatic 229, 3) := by decide +kernel
theorem dX7_foretold_84 : decode cX7_foretold 84 = .ok (.invokestatic 229, 3) := by decide +kernel
theorem dX7_foretold_87 : decode cX7_foretold 87 = .ok (.ireturn, 1) := by decide +kernel
set_option maxRecDepth 20000 in
theorem ggX7_damp_X7_isWeek : GoodIn wsX7_damp wsX7_isWeek := goodIn_r _ [5, 6, 7, 4, 8] (by decide +kernel) (by decide +kernel)
set_option maxRecDepth 20000 in
theorem gX7_damp_X7_isWeek : GoodIn wsX7_damp (va_wsS RX7 217 yX7_isWeek wsX7_isWeek) := goodIn_app (goodIn_of _ (by decide +kernel)) ggX7_damp_X7_isWeek
theorem dX7_damp_0 : decode cX7_damp 0 = .ok (.iload_n 1, 1) := by decide +kernel
theorem dX7_damp_1 : decode cX7_damp 1 = .ok (.invokestatic 217, 3) := by decide +kernel
theorem dX7_damp_4 : decode cX7_damp 4 = .ok (.ifCond .ne 6, 3) := by decide +kernel
theorem dX7_damp_7 : decode cX7_damp 7 = .ok (.bipush (-2), 2) := by decide +kernel
theorem dX7_damp_9 : decode cX7_damp 9 = .ok (.ireturn, 1) := by decide +kernel
theorem dX7_damp_10 : decode cX7_damp 10 = .ok (.aload_n 0, 1) := by decide +kernel
theorem dX7_damp_11 : decode cX7_damp 11 = .ok (.getfield 44, 3) := by decide +kernel
theorem dX7_damp_14 : decode cX7_damp 14 = .ok (.iload_n 1, 1) := by decide +kernel
theorem dX7_damp_15 : decode cX7_damp 15 = .ok (.iload_n 2, 1) := by decide +kernel
theorem dX7_damp_16 : decode cX7_damp 16 = .ok (.bastore, 1) := by decide +kernel
theorem dX7_damp_17 : decode cX7_damp 17 = .ok (.iconst 1, 1) := by decide +kernel
theorem dX7_damp_18 : decode cX7_damp 18 = .ok (.ireturn, 1) := by decide +kernel
set_option maxRecDepth 20000 in
theorem ggX7_make_X7_isWeek : GoodIn wsX7_make wsX7_isWeek := goodIn_r _ [5, 6, 7, 4, 8] (by decide +kernel) (by decide +kernel)
set_option maxRecDepth 20000 in
theorem gX7_make_X7_isWeek : GoodIn wsX7_make (va_wsS RX7 217 yX7_isWeek wsX7_isWeek) := goodIn_app (goodIn_of _ (by decide +kernel)) ggX7_make_X7_isWeek
set_option maxRecDepth 20000 in
theorem ggX7_make_X7_within : GoodIn wsX7_make wsX7_within := goodIn_r _ [8] (by decide +kernel) (by decide +kernel)
set_option maxRecDepth 20000 in
theorem gX7_make_X7_within : GoodIn wsX7_make (va_wsS RX7 68 yX7_within wsX7_within) := goodIn_app (goodIn_of _ (by decide +kernel)) ggX7_make_X7_within
theorem dX7_make_0 : decode cX7_make 0 = .ok (.iload_n 1, 1) := by decide +kernel
theorem dX7_make_1 : decode cX7_make 1 = .ok (.invokestatic 217, 3) := by decide +kernel
theorem dX7_make_4 : decode cX7_make 4 = .ok (.ifCond .eq 14, 3) := by decide +kernel
theorem dX7_make_7 : decode cX7_make 7 = .ok (.iload_n 2, 1) := by decide +kernel
theorem dX7_make_8 : decode cX7_make 8 = .ok (.iconst 0, 1) := by decide +kernel
theorem dX7_make_9 : decode cX7_make 9 = .ok (.sipush 10000, 3) := by decide +kernel
theorem dX7_make_12 : decode cX7_make 12 = .ok (.invokestatic 68, 3) := by decide +kernel
theorem dX7_make_15 : decode cX7_make 15 = .ok (.ifCond .ne 6, 3) := by decide +kernel
theorem dX7_make_18 : decode cX7_make 18 = .ok (.bipush (-2), 2) := by decide +kernel
theorem dX7_make_20 : decode cX7_make 20 = .ok (.ireturn, 1) := by decide +kernel
theorem dX7_make_21 : decode cX7_make 21 = .ok (.aload_n 0, 1) := by decide +kernel
theorem dX7_make_22 : decode cX7_make 22 = .ok (.getfield 48, 3) := by decide +kernel
theorem dX7_make_25 : decode cX7_make 25 = .ok (.iload_n 1, 1) := by decide +kernel
theorem dX7_make_26 : decode cX7_make 26 = .ok (.iaload, 1) := by decide +kernel
theorem dX7_make_27 : decode cX7_make 27 = .ok (.istore_n 3, 1) := by decide +kernel
theorem dX7_make_28 : decode cX7_make 28 = .ok (.aload_n 0, 1) := by decide +kernel
theorem dX7_make_29 : decode cX7_make 29 = .ok (.getfield 48, 3) := by decide +kernel
theorem dX7_make_32 : decode cX7_make 32 = .ok (.iload_n 1, 1) := by decide +kernel
theorem dX7_make_33 : decode cX7_make 33 = .ok (.iload_n 2, 1) := by decide +kernel
theorem dX7_make_34 : decode cX7_make 34 = .ok (.iastore, 1) := by decide +kernel
theorem dX7_make_35 : decode cX7_make 35 = .ok (.iload_n 3, 1) := by decide +kernel
theorem dX7_make_36 : decode cX7_make 36 = .ok (.ireturn, 1) := by decide +kernel
set_option maxRecDepth 20000 in
theorem ggX7_stock_X7_isSpan : GoodIn wsX7_stock wsX7_isSpan := goodIn_r _ [13] (by decide +kernel) (by decide +kernel)
set_option maxRecDepth 20000 in
theorem gX7_stock_X7_isSpan : GoodIn wsX7_stock (va_wsS RX7 211 yX7_isSpan wsX7_isSpan) := goodIn_app (goodIn_of _ (by decide +kernel)) ggX7_stock_X7_isSpan
set_option maxRecDepth 20000 in
theorem ggX7_stock_X7_within : GoodIn wsX7_stock wsX7_within := goodIn_r _ [16] (by decide +kernel) (by decide +kernel)
set_option maxRecDepth 20000 in
theorem gX7_stock_X7_within : GoodIn wsX7_stock (va_wsS RX7 68 yX7_within wsX7_within) := goodIn_app (goodIn_of _ (by decide +kernel)) ggX7_stock_X7_within
set_option maxRecDepth 20000 in
theorem ggX7_stock_X5_beginWith : GoodIn wsX7_stock wsX5_beginWith := goodIn_r _ [21, 22, 23, 24, 25, 80, 81, 82, 83] (by decide +kernel) (by decide +kernel)
set_option maxRecDepth 20000 in
theorem gX7_stock_X5_beginWith : GoodIn wsX7_stock (wsV RX7 233 RX5 yX5_beginWith wsX5_beginWith) := goodIn_app (goodIn_of _ (by decide +kernel)) ggX7_stock_X5_beginWith
set_option maxRecDepth 20000 in
theorem ggX7_stock_X7_foretold : GoodIn wsX7_stock wsX7_foretold := goodIn_r _ [29, 30, 31, 32, 33, 34, 35, 36, 37, 38, 39, 12, 40, 14, 15, 16, 41, 42, 43, 44, 45, 46, 47, 48, 49, 50, 51, 52, 69, 70, 71, 72, 73, 74, 75, 76, 77, 78, 79, 84, 85, 86, 87] (by decide +kernel) (by decide +kernel)
set_option maxRecDepth 20000 in
theorem gX7_stock_X7_foretold : GoodIn wsX7_stock (wsV RX7 237 RX7 yX7_foretold wsX7_foretold) := goodIn_app (goodIn_of _ (by decide +kernel)) ggX7_stock_X7_foretold
set_option maxRecDepth 20000 in
theorem ggX7_stock_X5_supply : GoodIn wsX7_stock wsX5_supply := goodIn_r _ [56, 22, 23, 25, 80, 81, 82, 83] (by decide +kernel) (by decide +kernel)
set_option maxRecDepth 20000 in
theorem gX7_stock_X5_supply : GoodIn wsX7_stock (wsV RX7 240 RX5 yX5_supply wsX5_supply) := goodIn_app (goodIn_of _ (by decide +kernel)) ggX7_stock_X5_supply
set_option maxRecDepth 20000 in
theorem ggX7_stock_X5_soften : GoodIn wsX7_stock wsX5_soften := goodIn_r _ [60, 22, 61, 24, 80, 81, 82, 83] (by decide +kernel) (by decide +kernel)
set_option maxRecDepth 20000 in
theorem gX7_stock_X5_soften : GoodIn wsX7_stock (wsV RX7 243 RX5 yX5_soften wsX5_soften) := goodIn_app (goodIn_of _ (by decide +kernel)) ggX7_stock_X5_soften
set_option maxRecDepth 20000 in
theorem ggX7_stock_X7_atMostInt : GoodIn wsX7_stock wsX7_atMostInt := goodIn_r _ [64, 65, 66, 67, 33, 68] (by decide +kernel) (by decide +kernel)
set_option maxRecDepth 20000 in
theorem gX7_stock_X7_atMostInt : GoodIn wsX7_stock (va_wsS RX7 250 yX7_atMostInt wsX7_atMostInt) := goodIn_app (goodIn_of _ (by decide +kernel)) ggX7_stock_X7_atMostInt
theorem dX7_stock_0 : decode cX7_stock 0 = .ok (.iload_n 1, 1) := by decide +kernel
theorem dX7_stock_1 : decode cX7_stock 1 = .ok (.iload_n 2, 1) := by decide +kernel
theorem dX7_stock_2 : decode cX7_stock 2 = .ok (.bipush 51, 2) := by decide +kernel
theorem dX7_stock_4 : decode cX7_stock 4 = .ok (.invokestatic 211, 3) := by decide +kernel
theorem dX7_stock_7 : decode cX7_stock 7 = .ok (.ifCond .eq 23, 3) := by decide +kernel
theorem dX7_stock_10 : decode cX7_stock 10 = .ok (.iload_n 3, 1) := by decide +kernel
theorem dX7_stock_11 : decode cX7_stock 11 = .ok (.iconst 0, 1) := by decide +kernel
theorem dX7_stock_12 : decode cX7_stock 12 = .ok (.ldc 232, 2) := by decide +kernel
theorem dX7_stock_14 : decode cX7_stock 14 = .ok (.invokestatic 68, 3) := by decide +kernel
theorem dX7_stock_17 : decode cX7_stock 17 = .ok (.ifCond .eq 13, 3) := by decide +kernel
theorem dX7_stock_20 : decode cX7_stock 20 = .ok (.iload 4, 2) := by decide +kernel
theorem dX7_stock_22 : decode cX7_stock 22 = .ok (.iconst 0, 1) := by decide +kernel
theorem dX7_stock_23 : decode cX7_stock 23 = .ok (.iconst 3, 1) := by decide +kernel
theorem dX7_stock_24 : decode cX7_stock 24 = .ok (.invokestatic 68, 3) := by decide +kernel
theorem dX7_stock_27 : decode cX7_stock 27 = .ok (.ifCond .ne 6, 3) := by decide +kernel
theorem dX7_stock_30 : decode cX7_stock 30 = .ok (.bipush (-2), 2) := by decide +kernel
theorem dX7_stock_32 : decode cX7_stock 32 = .ok (.ireturn, 1) := by decide +kernel
theorem dX7_stock_33 : decode cX7_stock 33 = .ok (.aload_n 0, 1) := by decide +kernel
theorem dX7_stock_34 : decode cX7_stock 34 = .ok (.getfield 54, 3) := by decide +kernel
theorem dX7_stock_37 : decode cX7_stock 37 = .ok (.iload_n 3, 1) := by decide +kernel
theorem dX7_stock_38 : decode cX7_stock 38 = .ok (.invokevirtual 233, 3) := by decide +kernel
theorem dX7_stock_41 : decode cX7_stock 41 = .ok (.iload_n 1, 1) := by decide +kernel
theorem dX7_stock_42 : decode cX7_stock 42 = .ok (.istore 5, 2) := by decide +kernel
theorem dX7_stock_44 : decode cX7_stock 44 = .ok (.iload 5, 2) := by decide +kernel
theorem dX7_stock_46 : decode cX7_stock 46 = .ok (.iload_n 2, 1) := by decide +kernel
theorem dX7_stock_47 : decode cX7_stock 47 = .ok (.if_icmp .gt 54, 3) := by decide +kernel
theorem dX7_stock_50 : decode cX7_stock 50 = .ok (.aload_n 0, 1) := by decide +kernel
theorem dX7_stock_51 : decode cX7_stock 51 = .ok (.getfield 54, 3) := by decide +kernel
theorem dX7_stock_54 : decode cX7_stock 54 = .ok (.iload 5, 2) := by decide +kernel
theorem dX7_stock_56 : decode cX7_stock 56 = .ok (.aload_n 0, 1) := by decide +kernel
theorem dX7_stock_57 : decode cX7_stock 57 = .ok (.getfield 48, 3) := by decide +kernel
theorem dX7_stock_60 : decode cX7_stock 60 = .ok (.iload 5, 2) := by decide +kernel
theorem dX7_stock_62 : decode cX7_stock 62 = .ok (.iaload, 1) := by decide +kernel
theorem dX7_stock_63 : decode cX7_stock 63 = .ok (.aload_n 0, 1) := by decide +kernel
theorem dX7_stock_64 : decode cX7_stock 64 = .ok (.iload 5, 2) := by decide +kernel
theorem dX7_stock_66 : decode cX7_stock 66 = .ok (.invokevirtual 237, 3) := by decide +kernel
theorem dX7_stock_69 : decode cX7_stock 69 = .ok (.invokevirtual 240, 3) := by decide +kernel
theorem dX7_stock_72 : decode cX7_stock 72 = .ok (.aload_n 0, 1) := by decide +kernel
theorem dX7_stock_73 : decode cX7_stock 73 = .ok (.getfield 44, 3) := by decide +kernel
theorem dX7_stock_76 : decode cX7_stock 76 = .ok (.iload 5, 2) := by decide +kernel
theorem dX7_stock_78 : decode cX7_stock 78 = .ok (.baload, 1) := by decide +kernel
theorem dX7_stock_79 : decode cX7_stock 79 = .ok (.ifCond .eq 16, 3) := by decide +kernel
theorem dX7_stock_82 : decode cX7_stock 82 = .ok (.aload_n 0, 1) := by decide +kernel
theorem dX7_stock_83 : decode cX7_stock 83 = .ok (.getfield 54, 3) := by decide +kernel
theorem dX7_stock_86 : decode cX7_stock 86 = .ok (.aload_n 0, 1) := by decide +kernel
theorem dX7_stock_87 : decode cX7_stock 87 = .ok (.getfield 33, 3) := by decide +kernel
theorem dX7_stock_90 : decode cX7_stock 90 = .ok (.iconst 3, 1) := by decide +kernel
theorem dX7_stock_91 : decode cX7_stock 91 = .ok (.iaload, 1) := by decide +kernel
theorem dX7_stock_92 : decode cX7_stock 92 = .ok (.invokevirtual 243, 3) := by decide +kernel
theorem dX7_stock_95 : decode cX7_stock 95 = .ok (.iinc 5 1, 3) := by decide +kernel
theorem dX7_stock_98 : decode cX7_stock 98 = .ok (.goto (-54), 3) := by decide +kernel
theorem dX7_stock_101 : decode cX7_stock 101 = .ok (.iload 4, 2) := by decide +kernel
theorem dX7_stock_103 : decode cX7_stock 103 = .ok (.tableswitch 58 0 2 #[25, 36, 47], 25) := by decide +kernel
theorem dX7_stock_128 : decode cX7_stock 128 = .ok (.aload_n 0, 1) := by decide +kernel
theorem dX7_stock_129 : decode cX7_stock 129 = .ok (.getfield 54, 3) := by decide +kernel
theorem dX7_stock_132 : decode cX7_stock 132 = .ok (.getfield 246, 3) := by decide +kernel
theorem dX7_stock_135 : decode cX7_stock 135 = .ok (.invokestatic 250, 3) := by decide +kernel
theorem dX7_stock_138 : decode cX7_stock 138 = .ok (.ireturn, 1) := by decide +kernel
theorem dX7_stock_139 : decode cX7_stock 139 = .ok (.aload_n 0, 1) := by decide +kernel
theorem dX7_stock_140 : decode cX7_stock 140 = .ok (.getfield 54, 3) := by decide +kernel
theorem dX7_stock_143 : decode cX7_stock 143 = .ok (.getfield 254, 3) := by decide +kernel
theorem dX7_stock_146 : decode cX7_stock 146 = .ok (.invokestatic 250, 3) := by decide +kernel
theorem dX7_stock_149 : decode cX7_stock 149 = .ok (.ireturn, 1) := by decide +kernel
theorem dX7_stock_150 : decode cX7_stock 150 = .ok (.aload_n 0, 1) := by decide +kernel
theorem dX7_stock_151 : decode cX7_stock 151 = .ok (.getfield 54, 3) := by decide +kernel
theorem dX7_stock_154 : decode cX7_stock 154 = .ok (.getfield 257, 3) := by decide +kernel
theorem dX7_stock_157 : decode cX7_stock 157 = .ok (.invokestatic 250, 3) := by decide +kernel
theorem dX7_stock_160 : decode cX7_stock 160 = .ok (.ireturn, 1) := by decide +kernel
theorem dX7_stock_161 : decode cX7_stock 161 = .ok (.aload_n 0, 1) := by decide +kernel
theorem dX7_stock_162 : decode cX7_stock 162 = .ok (.getfield 54, 3) := by decide +kernel
theorem dX7_stock_165 : decode cX7_stock 165 = .ok (.getfield 260, 3) := by decide +kernel
theorem dX7_stock_168 : decode cX7_stock 168 = .ok (.ireturn, 1) := by decide +kernel
set_option maxRecDepth 20000 in
theorem ggX7_ahead_X7_isSpan : GoodIn wsX7_ahead wsX7_isSpan := goodIn_r _ [8] (by decide +kernel) (by decide +kernel)
set_option maxRecDepth 20000 in
theorem gX7_ahead_X7_isSpan : GoodIn wsX7_ahead (va_wsS RX7 211 yX7_isSpan wsX7_isSpan) := goodIn_app (goodIn_of _ (by decide +kernel)) ggX7_ahead_X7_isSpan
set_option maxRecDepth 20000 in
theorem ggX7_ahead_X7_within : GoodIn wsX7_ahead wsX7_within := goodIn_r _ [11] (by decide +kernel) (by decide +kernel)
set_option maxRecDepth 20000 in
theorem gX7_ahead_X7_within : GoodIn wsX7_ahead (va_wsS RX7 68 yX7_within wsX7_within) := goodIn_app (goodIn_of _ (by decide +kernel)) ggX7_ahead_X7_within
set_option maxRecDepth 20000 in
theorem ggX7_ahead_X7_foretold : GoodIn wsX7_ahead wsX7_foretold := goodIn_r _ [15, 16, 17, 18, 3, 19, 20, 21, 22, 23, 24, 7, 25, 9, 10, 11, 26, 27, 28, 29, 30, 31, 32, 33, 34, 35, 36, 37, 45, 46, 47, 48, 49, 50, 51, 52, 53, 54, 55, 56, 57, 58, 59] (by decide +kernel) (by decide +kernel)
set_option maxRecDepth 20000 in
theorem gX7_ahead_X7_foretold : GoodIn wsX7_ahead (wsV RX7 237 RX7 yX7_foretold wsX7_foretold) := goodIn_app (goodIn_of _ (by decide +kernel)) ggX7_ahead_X7_foretold
set_option maxRecDepth 20000 in
theorem ggX7_ahead_X7_atMostInt : GoodIn wsX7_ahead wsX7_atMostInt := goodIn_r _ [40, 41, 42, 43, 3, 44] (by decide +kernel) (by decide +kernel)
set_option maxRecDepth 20000 in
theorem gX7_ahead_X7_atMostInt : GoodIn wsX7_ahead (va_wsS RX7 250 yX7_atMostInt wsX7_atMostInt) := goodIn_app (goodIn_of _ (by decide +kernel)) ggX7_ahead_X7_atMostInt
theorem dX7_ahead_0 : decode cX7_ahead 0 = .ok (.iload_n 1, 1) := by decide +kernel
theorem dX7_ahead_1 : decode cX7_ahead 1 = .ok (.iload_n 2, 1) := by decide +kernel
theorem dX7_ahead_2 : decode cX7_ahead 2 = .ok (.bipush 51, 2) := by decide +kernel
theorem dX7_ahead_4 : decode cX7_ahead 4 = .ok (.invokestatic 211, 3) := by decide +kernel
theorem dX7_ahead_7 : decode cX7_ahead 7 = .ok (.ifCond .eq 14, 3) := by decide +kernel
theorem dX7_ahead_10 : decode cX7_ahead 10 = .ok (.iload_n 3, 1) := by decide +kernel
theorem dX7_ahead_11 : decode cX7_ahead 11 = .ok (.iconst 0, 1) := by decide +kernel
theorem dX7_ahead_12 : decode cX7_ahead 12 = .ok (.sipush 10000, 3) := by decide +kernel
theorem dX7_ahead_15 : decode cX7_ahead 15 = .ok (.invokestatic 68, 3) := by decide +kernel
theorem dX7_ahead_18 : decode cX7_ahead 18 = .ok (.ifCond .ne 6, 3) := by decide +kernel
theorem dX7_ahead_21 : decode cX7_ahead 21 = .ok (.bipush (-2), 2) := by decide +kernel
theorem dX7_ahead_23 : decode cX7_ahead 23 = .ok (.ireturn, 1) := by decide +kernel
theorem dX7_ahead_24 : decode cX7_ahead 24 = .ok (.lconst 0, 1) := by decide +kernel
theorem dX7_ahead_25 : decode cX7_ahead 25 = .ok (.lstore 4, 2) := by decide +kernel
theorem dX7_ahead_27 : decode cX7_ahead 27 = .ok (.lconst 0, 1) := by decide +kernel
theorem dX7_ahead_28 : decode cX7_ahead 28 = .ok (.lstore 6, 2) := by decide +kernel
theorem dX7_ahead_30 : decode cX7_ahead 30 = .ok (.iload_n 1, 1) := by decide +kernel
theorem dX7_ahead_31 : decode cX7_ahead 31 = .ok (.istore 8, 2) := by decide +kernel
theorem dX7_ahead_33 : decode cX7_ahead 33 = .ok (.iload 8, 2) := by decide +kernel
theorem dX7_ahead_35 : decode cX7_ahead 35 = .ok (.iload_n 2, 1) := by decide +kernel
theorem dX7_ahead_36 : decode cX7_ahead 36 = .ok (.if_icmp .gt 32, 3) := by decide +kernel
theorem dX7_ahead_39 : decode cX7_ahead 39 = .ok (.lload 4, 2) := by decide +kernel
theorem dX7_ahead_41 : decode cX7_ahead 41 = .ok (.aload_n 0, 1) := by decide +kernel
theorem dX7_ahead_42 : decode cX7_ahead 42 = .ok (.iload 8, 2) := by decide +kernel
theorem dX7_ahead_44 : decode cX7_ahead 44 = .ok (.invokevirtual 237, 3) := by decide +kernel
theorem dX7_ahead_47 : decode cX7_ahead 47 = .ok (.iload_n 3, 1) := by decide +kernel
theorem dX7_ahead_48 : decode cX7_ahead 48 = .ok (.isub, 1) := by decide +kernel
theorem dX7_ahead_49 : decode cX7_ahead 49 = .ok (.i2l, 1) := by decide +kernel
theorem dX7_ahead_50 : decode cX7_ahead 50 = .ok (.ladd, 1) := by decide +kernel
theorem dX7_ahead_51 : decode cX7_ahead 51 = .ok (.lstore 4, 2) := by decide +kernel
theorem dX7_ahead_53 : decode cX7_ahead 53 = .ok (.lload 6, 2) := by decide +kernel
theorem dX7_ahead_55 : decode cX7_ahead 55 = .ok (.lload 4, 2) := by decide +kernel
theorem dX7_ahead_57 : decode cX7_ahead 57 = .ok (.invokestatic 263, 3) := by decide +kernel
theorem dX7_ahead_60 : decode cX7_ahead 60 = .ok (.lstore 6, 2) := by decide +kernel
theorem dX7_ahead_62 : decode cX7_ahead 62 = .ok (.iinc 8 1, 3) := by decide +kernel
theorem dX7_ahead_65 : decode cX7_ahead 65 = .ok (.goto (-32), 3) := by decide +kernel
theorem dX7_ahead_68 : decode cX7_ahead 68 = .ok (.lload 6, 2) := by decide +kernel
theorem dX7_ahead_70 : decode cX7_ahead 70 = .ok (.invokestatic 250, 3) := by decide +kernel
theorem dX7_ahead_73 : decode cX7_ahead 73 = .ok (.ireturn, 1) := by decide +kernel
set_option maxRecDepth 20000 in
theorem ggX7_sheet_X7_isSheet : GoodIn wsX7_sheet wsX7_isSheet := goodIn_r _ [5, 6, 7, 4, 8] (by decide +kernel) (by decide +kernel)
set_option maxRecDepth 20000 in
theorem gX7_sheet_X7_isSheet : GoodIn wsX7_sheet (va_wsS RX7 266 yX7_isSheet wsX7_isSheet) := goodIn_app (goodIn_of _ (by decide +kernel)) ggX7_sheet_X7_isSheet
set_option maxRecDepth 20000 in
theorem ggX7_sheet_X7_isForm : GoodIn wsX7_sheet wsX7_isForm := goodIn_r _ [11, 6, 7, 4, 8] (by decide +kernel) (by decide +kernel)
set_option maxRecDepth 20000 in
theorem gX7_sheet_X7_isForm : GoodIn wsX7_sheet (va_wsS RX7 269 yX7_isForm wsX7_isForm) := goodIn_app (goodIn_of _ (by decide +kernel)) ggX7_sheet_X7_isForm
set_option maxRecDepth 20000 in
theorem ggX7_sheet_X7_finding : GoodIn wsX7_sheet wsX7_finding := goodIn_r _ [15, 16, 30, 31, 32, 33, 34, 35, 36, 37, 38, 39, 40] (by decide +kernel) (by decide +kernel)
set_option maxRecDepth 20000 in
theorem gX7_sheet_X7_finding : GoodIn wsX7_sheet (wsV RX7 272 RX7 yX7_finding wsX7_finding) := goodIn_app (goodIn_of _ (by decide +kernel)) ggX7_sheet_X7_finding
set_option maxRecDepth 20000 in
theorem ggX7_sheet_X4_renew : GoodIn wsX7_sheet wsX4_renew := goodIn_r _ [21, 22, 23, 24, 25, 26, 27, 28, 29, 41, 42, 43, 44] (by decide +kernel) (by decide +kernel)
set_option maxRecDepth 20000 in
theorem gX7_sheet_X4_renew : GoodIn wsX7_sheet (wsV RX7 275 RX4 yX4_renew wsX4_renew) := goodIn_app (goodIn_of _ (by decide +kernel)) ggX7_sheet_X4_renew
theorem dX7_sheet_0 : decode cX7_sheet 0 = .ok (.iload_n 1, 1) := by decide +kernel
theorem dX7_sheet_1 : decode cX7_sheet 1 = .ok (.invokestatic 266, 3) := by decide +kernel
theorem dX7_sheet_4 : decode cX7_sheet 4 = .ok (.ifCond .eq 16, 3) := by decide +kernel
theorem dX7_sheet_7 : decode cX7_sheet 7 = .ok (.iload_n 2, 1) := by decide +kernel
theorem dX7_sheet_8 : decode cX7_sheet 8 = .ok (.invokestatic 269, 3) := by decide +kernel
theorem dX7_sheet_11 : decode cX7_sheet 11 = .ok (.ifCond .eq 9, 3) := by decide +kernel
theorem dX7_sheet_14 : decode cX7_sheet 14 = .ok (.iload_n 3, 1) := by decide +kernel
theorem dX7_sheet_15 : decode cX7_sheet 15 = .ok (.bipush 60, 2) := by decide +kernel
theorem dX7_sheet_17 : decode cX7_sheet 17 = .ok (.if_icmp .le 6, 3) := by decide +kernel
theorem dX7_sheet_20 : decode cX7_sheet 20 = .ok (.bipush (-2), 2) := by decide +kernel
theorem dX7_sheet_22 : decode cX7_sheet 22 = .ok (.ireturn, 1) := by decide +kernel
theorem dX7_sheet_23 : decode cX7_sheet 23 = .ok (.iload_n 3, 1) := by decide +kernel
theorem dX7_sheet_24 : decode cX7_sheet 24 = .ok (.ifCond .ge 9, 3) := by decide +kernel
theorem dX7_sheet_27 : decode cX7_sheet 27 = .ok (.aload_n 0, 1) := by decide +kernel
theorem dX7_sheet_28 : decode cX7_sheet 28 = .ok (.iconst 5, 1) := by decide +kernel
theorem dX7_sheet_29 : decode cX7_sheet 29 = .ok (.invokevirtual 272, 3) := by decide +kernel
theorem dX7_sheet_32 : decode cX7_sheet 32 = .ok (.ireturn, 1) := by decide +kernel
theorem dX7_sheet_33 : decode cX7_sheet 33 = .ok (.aload_n 0, 1) := by decide +kernel
theorem dX7_sheet_34 : decode cX7_sheet 34 = .ok (.getfield 60, 3) := by decide +kernel
theorem dX7_sheet_37 : decode cX7_sheet 37 = .ok (.iload_n 1, 1) := by decide +kernel
theorem dX7_sheet_38 : decode cX7_sheet 38 = .ok (.aaload, 1) := by decide +kernel
theorem dX7_sheet_39 : decode cX7_sheet 39 = .ok (.iload_n 2, 1) := by decide +kernel
theorem dX7_sheet_40 : decode cX7_sheet 40 = .ok (.iload_n 3, 1) := by decide +kernel
theorem dX7_sheet_41 : decode cX7_sheet 41 = .ok (.invokevirtual 275, 3) := by decide +kernel
theorem dX7_sheet_44 : decode cX7_sheet 44 = .ok (.iload_n 3, 1) := by decide +kernel
theorem dX7_sheet_45 : decode cX7_sheet 45 = .ok (.ireturn, 1) := by decide +kernel
set_option maxRecDepth 20000 in
theorem ggX7_lose_X7_troubleOfSheet : GoodIn wsX7_lose wsX7_troubleOfSheet := goodIn_r _ [8, 1, 2, 9, 10, 7, 11, 12, 13, 14, 15, 16, 17, 18, 19, 20, 21, 22, 23, 24, 25, 26, 27, 28, 29, 30, 31, 32, 33, 34] (by decide +kernel) (by decide +kernel)
set_option maxRecDepth 20000 in
theorem gX7_lose_X7_troubleOfSheet : GoodIn wsX7_lose (wsV RX7 132 RX7 yX7_troubleOfSheet wsX7_troubleOfSheet) := goodIn_app (goodIn_of _ (by decide +kernel)) ggX7_lose_X7_troubleOfSheet
theorem dX7_lose_0 : decode cX7_lose 0 = .ok (.aload_n 0, 1) := by decide +kernel
theorem dX7_lose_1 : decode cX7_lose 1 = .ok (.iload_n 1, 1) := by decide +kernel
theorem dX7_lose_2 : decode cX7_lose 2 = .ok (.invokevirtual 132, 3) := by decide +kernel
theorem dX7_lose_5 : decode cX7_lose 5 = .ok (.istore_n 2, 1) := by decide +kernel
theorem dX7_lose_6 : decode cX7_lose 6 = .ok (.iload_n 2, 1) := by decide +kernel
theorem dX7_lose_7 : decode cX7_lose 7 = .ok (.ifCond .eq 5, 3) := by decide +kernel
theorem dX7_lose_10 : decode cX7_lose 10 = .ok (.iload_n 2, 1) := by decide +kernel
theorem dX7_lose_11 : decode cX7_lose 11 = .ok (.ireturn, 1) := by decide +kernel
theorem dX7_lose_12 : decode cX7_lose 12 = .ok (.aload_n 0, 1) := by decide +kernel
theorem dX7_lose_13 : decode cX7_lose 13 = .ok (.getfield 60, 3) := by decide +kernel
theorem dX7_lose_16 : decode cX7_lose 16 = .ok (.iload_n 1, 1) := by decide +kernel
theorem dX7_lose_17 : decode cX7_lose 17 = .ok (.aaload, 1) := by decide +kernel
theorem dX7_lose_18 : decode cX7_lose 18 = .ok (.iconst 1, 1) := by decide +kernel
theorem dX7_lose_19 : decode cX7_lose 19 = .ok (.putfield 279, 3) := by decide +kernel
theorem dX7_lose_22 : decode cX7_lose 22 = .ok (.aload_n 0, 1) := by decide +kernel
theorem dX7_lose_23 : decode cX7_lose 23 = .ok (.getfield 60, 3) := by decide +kernel
theorem dX7_lose_26 : decode cX7_lose 26 = .ok (.iload_n 1, 1) := by decide +kernel
theorem dX7_lose_27 : decode cX7_lose 27 = .ok (.aaload, 1) := by decide +kernel
theorem dX7_lose_28 : decode cX7_lose 28 = .ok (.getfield 283, 3) := by decide +kernel
theorem dX7_lose_31 : decode cX7_lose 31 = .ok (.ireturn, 1) := by decide +kernel
set_option maxRecDepth 20000 in
theorem ggX7_put_X7_troubleOfItem : GoodIn wsX7_put wsX7_troubleOfItem := goodIn_r _ [6, 1, 7, 8, 9, 5, 10, 11, 12, 13, 14, 15, 16, 17, 18, 19, 20, 21, 22, 23, 24, 25, 26, 27, 28, 29, 30, 31, 32, 39, 40, 41, 42, 43, 44, 45, 46, 47, 48, 49, 50, 51, 52, 53] (by decide +kernel) (by decide +kernel)
set_option maxRecDepth 20000 in
theorem gX7_put_X7_troubleOfItem : GoodIn wsX7_put (wsV RX7 284 RX7 yX7_troubleOfItem wsX7_troubleOfItem) := goodIn_app (goodIn_of _ (by decide +kernel)) ggX7_put_X7_troubleOfItem
set_option maxRecDepth 20000 in
theorem ggX7_put_X4_write : GoodIn wsX7_put wsX4_write := goodIn_r _ [36, 37, 38, 50, 51, 52, 53] (by decide +kernel) (by decide +kernel)
set_option maxRecDepth 20000 in
theorem gX7_put_X4_write : GoodIn wsX7_put (wsV RX7 287 RX4 yX4_write wsX4_write) := goodIn_app (goodIn_of _ (by decide +kernel)) ggX7_put_X4_write
theorem dX7_put_0 : decode cX7_put 0 = .ok (.aload_n 0, 1) := by decide +kernel
theorem dX7_put_1 : decode cX7_put 1 = .ok (.iload_n 1, 1) := by decide +kernel
theorem dX7_put_2 : decode cX7_put 2 = .ok (.iload_n 2, 1) := by decide +kernel
theorem dX7_put_3 : decode cX7_put 3 = .ok (.iload_n 3, 1) := by decide +kernel
theorem dX7_put_4 : decode cX7_put 4 = .ok (.invokevirtual 284, 3) := by decide +kernel
theorem dX7_put_7 : decode cX7_put 7 = .ok (.istore 5, 2) := by decide +kernel
theorem dX7_put_9 : decode cX7_put 9 = .ok (.iload 5, 2) := by decide +kernel
theorem dX7_put_11 : decode cX7_put 11 = .ok (.ifCond .eq 6, 3) := by decide +kernel
theorem dX7_put_14 : decode cX7_put 14 = .ok (.iload 5, 2) := by decide +kernel
theorem dX7_put_16 : decode cX7_put 16 = .ok (.ireturn, 1) := by decide +kernel
theorem dX7_put_17 : decode cX7_put 17 = .ok (.aload_n 0, 1) := by decide +kernel
theorem dX7_put_18 : decode cX7_put 18 = .ok (.getfield 60, 3) := by decide +kernel
theorem dX7_put_21 : decode cX7_put 21 = .ok (.iload_n 1, 1) := by decide +kernel
theorem dX7_put_22 : decode cX7_put 22 = .ok (.aaload, 1) := by decide +kernel
theorem dX7_put_23 : decode cX7_put 23 = .ok (.iload_n 3, 1) := by decide +kernel
theorem dX7_put_24 : decode cX7_put 24 = .ok (.iload 4, 2) := by decide +kernel
theorem dX7_put_26 : decode cX7_put 26 = .ok (.invokevirtual 287, 3) := by decide +kernel
theorem dX7_put_29 : decode cX7_put 29 = .ok (.iconst 1, 1) := by decide +kernel
theorem dX7_put_30 : decode cX7_put 30 = .ok (.ireturn, 1) := by decide +kernel
set_option maxRecDepth 20000 in
theorem ggX7_get_X7_troubleOfItem : GoodIn wsX7_get wsX7_troubleOfItem := goodIn_r _ [8, 2, 9, 10, 11, 7, 12, 13, 14, 15, 16, 17, 18, 19, 20, 21, 22, 23, 24, 25, 26, 27, 28, 29, 30, 31, 32, 33, 34, 35, 36, 37, 38, 39, 40, 41, 42, 43, 44, 45, 46, 47, 48, 49] (by decide +kernel) (by decide +kernel)
set_option maxRecDepth 20000 in
theorem gX7_get_X7_troubleOfItem : GoodIn wsX7_get (wsV RX7 284 RX7 yX7_troubleOfItem wsX7_troubleOfItem) := goodIn_app (goodIn_of _ (by decide +kernel)) ggX7_get_X7_troubleOfItem
theorem dX7_get_0 : decode cX7_get 0 = .ok (.aload_n 0, 1) := by decide +kernel
theorem dX7_get_1 : decode cX7_get 1 = .ok (.iload_n 1, 1) := by decide +kernel
theorem dX7_get_2 : decode cX7_get 2 = .ok (.iload_n 2, 1) := by decide +kernel
theorem dX7_get_3 : decode cX7_get 3 = .ok (.iload_n 3, 1) := by decide +kernel
theorem dX7_get_4 : decode cX7_get 4 = .ok (.invokevirtual 284, 3) := by decide +kernel
theorem dX7_get_7 : decode cX7_get 7 = .ok (.ifCond .eq 9, 3) := by decide +kernel
theorem dX7_get_10 : decode cX7_get 10 = .ok (.ldc_w 292, 3) := by decide +kernel
theorem dX7_get_13 : decode cX7_get 13 = .ok (.goto 14, 3) := by decide +kernel
theorem dX7_get_16 : decode cX7_get 16 = .ok (.aload_n 0, 1) := by decide +kernel
theorem dX7_get_17 : decode cX7_get 17 = .ok (.getfield 60, 3) := by decide +kernel
theorem dX7_get_20 : decode cX7_get 20 = .ok (.iload_n 1, 1) := by decide +kernel
theorem dX7_get_21 : decode cX7_get 21 = .ok (.aaload, 1) := by decide +kernel
theorem dX7_get_22 : decode cX7_get 22 = .ok (.getfield 293, 3) := by decide +kernel
theorem dX7_get_25 : decode cX7_get 25 = .ok (.iload_n 3, 1) := by decide +kernel
theorem dX7_get_26 : decode cX7_get 26 = .ok (.iaload, 1) := by decide +kernel
theorem dX7_get_27 : decode cX7_get 27 = .ok (.ireturn, 1) := by decide +kernel
set_option maxRecDepth 20000 in
theorem ggX7_copy_X7_isSheet : GoodIn wsX7_copy wsX7_isSheet := goodIn_r _ [12, 13, 14, 11, 15] (by decide +kernel) (by decide +kernel)
set_option maxRecDepth 20000 in
theorem gX7_copy_X7_isSheet : GoodIn wsX7_copy (va_wsS RX7 266 yX7_isSheet wsX7_isSheet) := goodIn_app (goodIn_of _ (by decide +kernel)) ggX7_copy_X7_isSheet
set_option maxRecDepth 20000 in
theorem ggX7_copy_X7_finding : GoodIn wsX7_copy wsX7_finding := goodIn_r _ [19, 20, 27, 28, 29, 30, 31, 32, 33, 34, 35, 36, 37] (by decide +kernel) (by decide +kernel)
set_option maxRecDepth 20000 in
theorem gX7_copy_X7_finding : GoodIn wsX7_copy (wsV RX7 272 RX7 yX7_finding wsX7_finding) := goodIn_app (goodIn_of _ (by decide +kernel)) ggX7_copy_X7_finding
set_option maxRecDepth 20000 in
theorem ggX7_copy_X4_hasRun : GoodIn wsX7_copy wsX4_hasRun := goodIn_r _ [25, 26, 38, 39, 40, 41] (by decide +kernel) (by decide +kernel)
set_option maxRecDepth 20000 in
theorem gX7_copy_X4_hasRun : GoodIn wsX7_copy (wsV RX7 299 RX4 yX4_hasRun wsX4_hasRun) := goodIn_app (goodIn_of _ (by decide +kernel)) ggX7_copy_X4_hasRun
theorem dX7_copy_0 : decode cX7_copy 0 = .ok (.iload_n 1, 1) := by decide +kernel
theorem dX7_copy_1 : decode cX7_copy 1 = .ok (.invokestatic 266, 3) := by decide +kernel
theorem dX7_copy_4 : decode cX7_copy 4 = .ok (.ifCond .eq 10, 3) := by decide +kernel
theorem dX7_copy_7 : decode cX7_copy 7 = .ok (.iload_n 3, 1) := by decide +kernel
theorem dX7_copy_8 : decode cX7_copy 8 = .ok (.invokestatic 266, 3) := by decide +kernel
theorem dX7_copy_11 : decode cX7_copy 11 = .ok (.ifCond .ne 6, 3) := by decide +kernel
theorem dX7_copy_14 : decode cX7_copy 14 = .ok (.bipush (-2), 2) := by decide +kernel
theorem dX7_copy_16 : decode cX7_copy 16 = .ok (.ireturn, 1) := by decide +kernel
theorem dX7_copy_17 : decode cX7_copy 17 = .ok (.aload_n 0, 1) := by decide +kernel
theorem dX7_copy_18 : decode cX7_copy 18 = .ok (.getfield 60, 3) := by decide +kernel
theorem dX7_copy_21 : decode cX7_copy 21 = .ok (.iload_n 1, 1) := by decide +kernel
theorem dX7_copy_22 : decode cX7_copy 22 = .ok (.aaload, 1) := by decide +kernel
theorem dX7_copy_23 : decode cX7_copy 23 = .ok (.astore 6, 2) := by decide +kernel
theorem dX7_copy_25 : decode cX7_copy 25 = .ok (.aload_n 0, 1) := by decide +kernel
theorem dX7_copy_26 : decode cX7_copy 26 = .ok (.getfield 60, 3) := by decide +kernel
theorem dX7_copy_29 : decode cX7_copy 29 = .ok (.iload_n 3, 1) := by decide +kernel
theorem dX7_copy_30 : decode cX7_copy 30 = .ok (.aaload, 1) := by decide +kernel
theorem dX7_copy_31 : decode cX7_copy 31 = .ok (.astore 7, 2) := by decide +kernel
theorem dX7_copy_33 : decode cX7_copy 33 = .ok (.aload 6, 2) := by decide +kernel
theorem dX7_copy_35 : decode cX7_copy 35 = .ok (.getfield 279, 3) := by decide +kernel
theorem dX7_copy_38 : decode cX7_copy 38 = .ok (.ifCond .ne 11, 3) := by decide +kernel
theorem dX7_copy_41 : decode cX7_copy 41 = .ok (.aload 7, 2) := by decide +kernel
theorem dX7_copy_43 : decode cX7_copy 43 = .ok (.getfield 279, 3) := by decide +kernel
theorem dX7_copy_46 : decode cX7_copy 46 = .ok (.ifCond .eq 9, 3) := by decide +kernel
theorem dX7_copy_49 : decode cX7_copy 49 = .ok (.aload_n 0, 1) := by decide +kernel
theorem dX7_copy_50 : decode cX7_copy 50 = .ok (.iconst 1, 1) := by decide +kernel
theorem dX7_copy_51 : decode cX7_copy 51 = .ok (.invokevirtual 272, 3) := by decide +kernel
theorem dX7_copy_54 : decode cX7_copy 54 = .ok (.ireturn, 1) := by decide +kernel
theorem dX7_copy_55 : decode cX7_copy 55 = .ok (.aload 6, 2) := by decide +kernel
theorem dX7_copy_57 : decode cX7_copy 57 = .ok (.getfield 296, 3) := by decide +kernel
theorem dX7_copy_60 : decode cX7_copy 60 = .ok (.aload 7, 2) := by decide +kernel
theorem dX7_copy_62 : decode cX7_copy 62 = .ok (.getfield 296, 3) := by decide +kernel
theorem dX7_copy_65 : decode cX7_copy 65 = .ok (.if_icmp .eq 9, 3) := by decide +kernel
theorem dX7_copy_68 : decode cX7_copy 68 = .ok (.aload_n 0, 1) := by decide +kernel
theorem dX7_copy_69 : decode cX7_copy 69 = .ok (.iconst 4, 1) := by decide +kernel
theorem dX7_copy_70 : decode cX7_copy 70 = .ok (.invokevirtual 272, 3) := by decide +kernel
theorem dX7_copy_73 : decode cX7_copy 73 = .ok (.ireturn, 1) := by decide +kernel
theorem dX7_copy_74 : decode cX7_copy 74 = .ok (.aload 6, 2) := by decide +kernel
theorem dX7_copy_76 : decode cX7_copy 76 = .ok (.iload_n 2, 1) := by decide +kernel
theorem dX7_copy_77 : decode cX7_copy 77 = .ok (.iload 5, 2) := by decide +kernel
theorem dX7_copy_79 : decode cX7_copy 79 = .ok (.invokevirtual 299, 3) := by decide +kernel
theorem dX7_copy_82 : decode cX7_copy 82 = .ok (.ifCond .eq 15, 3) := by decide +kernel
theorem dX7_copy_85 : decode cX7_copy 85 = .ok (.aload 7, 2) := by decide +kernel
theorem dX7_copy_87 : decode cX7_copy 87 = .ok (.iload 4, 2) := by decide +kernel
theorem dX7_copy_89 : decode cX7_copy 89 = .ok (.iload 5, 2) := by decide +kernel
theorem dX7_copy_91 : decode cX7_copy 91 = .ok (.invokevirtual 299, 3) := by decide +kernel
theorem dX7_copy_94 : decode cX7_copy 94 = .ok (.ifCond .ne 9, 3) := by decide +kernel
theorem dX7_copy_97 : decode cX7_copy 97 = .ok (.aload_n 0, 1) := by decide +kernel
theorem dX7_copy_98 : decode cX7_copy 98 = .ok (.iconst 2, 1) := by decide +kernel
theorem dX7_copy_99 : decode cX7_copy 99 = .ok (.invokevirtual 272, 3) := by decide +kernel
theorem dX7_copy_102 : decode cX7_copy 102 = .ok (.ireturn, 1) := by decide +kernel
theorem dX7_copy_103 : decode cX7_copy 103 = .ok (.aload 6, 2) := by decide +kernel
theorem dX7_copy_105 : decode cX7_copy 105 = .ok (.getfield 293, 3) := by decide +kernel
theorem dX7_copy_108 : decode cX7_copy 108 = .ok (.iload_n 2, 1) := by decide +kernel
theorem dX7_copy_109 : decode cX7_copy 109 = .ok (.aload 7, 2) := by decide +kernel
theorem dX7_copy_111 : decode cX7_copy 111 = .ok (.getfield 293, 3) := by decide +kernel
theorem dX7_copy_114 : decode cX7_copy 114 = .ok (.iload 4, 2) := by decide +kernel
theorem dX7_copy_116 : decode cX7_copy 116 = .ok (.iload 5, 2) := by decide +kernel
theorem dX7_copy_118 : decode cX7_copy 118 = .ok (.invokestatic 303, 3) := by decide +kernel
theorem dX7_copy_121 : decode cX7_copy 121 = .ok (.iconst 1, 1) := by decide +kernel
theorem dX7_copy_122 : decode cX7_copy 122 = .ok (.ireturn, 1) := by decide +kernel
set_option maxRecDepth 20000 in
theorem ggX7_count_X7_countFitting : GoodIn wsX7_count wsX7_countFitting := goodIn_r _ [14, 2, 15, 16, 17, 18, 19, 20, 21, 22, 23, 24, 25, 26, 27, 28, 29, 35, 36, 37, 38, 39, 40, 41, 42, 43, 44, 45, 53, 54, 46, 47, 48, 55, 56, 57, 58] (by decide +kernel) (by decide +kernel)
set_option maxRecDepth 20000 in
theorem gX7_count_X7_countFitting : GoodIn wsX7_count (wsV RX7 309 RX7 yX7_countFitting wsX7_countFitting) := goodIn_app (goodIn_of _ (by decide +kernel)) ggX7_count_X7_countFitting
set_option maxRecDepth 20000 in
theorem ggX7_count_X7_countDamp : GoodIn wsX7_count wsX7_countDamp := goodIn_r _ [33, 34, 35, 36, 37, 38, 39, 40, 41, 42, 43, 44, 45] (by decide +kernel) (by decide +kernel)
set_option maxRecDepth 20000 in
theorem gX7_count_X7_countDamp : GoodIn wsX7_count (wsV RX7 314 RX7 yX7_countDamp wsX7_countDamp) := goodIn_app (goodIn_of _ (by decide +kernel)) ggX7_count_X7_countDamp
theorem dX7_count_0 : decode cX7_count 0 = .ok (.iload_n 1, 1) := by decide +kernel
theorem dX7_count_1 : decode cX7_count 1 = .ok (.tableswitch 111 0 8 #[51, 56, 61, 69, 77, 85, 93, 98, 106], 51) := by decide +kernel
theorem dX7_count_52 : decode cX7_count 52 = .ok (.aload_n 0, 1) := by decide +kernel
theorem dX7_count_53 : decode cX7_count 53 = .ok (.getfield 15, 3) := by decide +kernel
theorem dX7_count_56 : decode cX7_count 56 = .ok (.ireturn, 1) := by decide +kernel
theorem dX7_count_57 : decode cX7_count 57 = .ok (.aload_n 0, 1) := by decide +kernel
theorem dX7_count_58 : decode cX7_count 58 = .ok (.invokevirtual 309, 3) := by decide +kernel
theorem dX7_count_61 : decode cX7_count 61 = .ok (.ireturn, 1) := by decide +kernel
theorem dX7_count_62 : decode cX7_count 62 = .ok (.aload_n 0, 1) := by decide +kernel
theorem dX7_count_63 : decode cX7_count 63 = .ok (.getfield 29, 3) := by decide +kernel
theorem dX7_count_66 : decode cX7_count 66 = .ok (.getfield 106, 3) := by decide +kernel
theorem dX7_count_69 : decode cX7_count 69 = .ok (.ireturn, 1) := by decide +kernel
theorem dX7_count_70 : decode cX7_count 70 = .ok (.aload_n 0, 1) := by decide +kernel
theorem dX7_count_71 : decode cX7_count 71 = .ok (.getfield 29, 3) := by decide +kernel
theorem dX7_count_74 : decode cX7_count 74 = .ok (.getfield 109, 3) := by decide +kernel
theorem dX7_count_77 : decode cX7_count 77 = .ok (.ireturn, 1) := by decide +kernel
theorem dX7_count_78 : decode cX7_count 78 = .ok (.aload_n 0, 1) := by decide +kernel
theorem dX7_count_79 : decode cX7_count 79 = .ok (.getfield 40, 3) := by decide +kernel
theorem dX7_count_82 : decode cX7_count 82 = .ok (.getfield 312, 3) := by decide +kernel
theorem dX7_count_85 : decode cX7_count 85 = .ok (.ireturn, 1) := by decide +kernel
theorem dX7_count_86 : decode cX7_count 86 = .ok (.aload_n 0, 1) := by decide +kernel
theorem dX7_count_87 : decode cX7_count 87 = .ok (.getfield 40, 3) := by decide +kernel
theorem dX7_count_90 : decode cX7_count 90 = .ok (.getfield 176, 3) := by decide +kernel
theorem dX7_count_93 : decode cX7_count 93 = .ok (.ireturn, 1) := by decide +kernel
theorem dX7_count_94 : decode cX7_count 94 = .ok (.aload_n 0, 1) := by decide +kernel
theorem dX7_count_95 : decode cX7_count 95 = .ok (.getfield 65, 3) := by decide +kernel
theorem dX7_count_98 : decode cX7_count 98 = .ok (.ireturn, 1) := by decide +kernel
theorem dX7_count_99 : decode cX7_count 99 = .ok (.aload_n 0, 1) := by decide +kernel
theorem dX7_count_100 : decode cX7_count 100 = .ok (.getfield 40, 3) := by decide +kernel
theorem dX7_count_103 : decode cX7_count 103 = .ok (.getfield 313, 3) := by decide +kernel
theorem dX7_count_106 : decode cX7_count 106 = .ok (.ireturn, 1) := by decide +kernel
theorem dX7_count_107 : decode cX7_count 107 = .ok (.aload_n 0, 1) := by decide +kernel
theorem dX7_count_108 : decode cX7_count 108 = .ok (.invokevirtual 314, 3) := by decide +kernel
theorem dX7_count_111 : decode cX7_count 111 = .ok (.ireturn, 1) := by decide +kernel
theorem dX7_count_112 : decode cX7_count 112 = .ok (.bipush (-2), 2) := by decide +kernel
theorem dX7_count_114 : decode cX7_count 114 = .ok (.ireturn, 1) := by decide +kernel
set_option maxRecDepth 20000 in
theorem ggX7_digest_X7_count : GoodIn wsX7_digest wsX7_count := goodIn_r _ [10, 11, 12, 13, 14, 3, 4, 15, 16, 17, 18, 19, 20, 9, 21, 22, 23, 24, 25, 26, 27, 28, 29, 30, 31, 32, 33, 34, 35, 36, 37, 38, 39, 40, 41, 120, 121, 122, 123, 124, 125, 126, 127, 128, 129, 130, 135, 136, 137, 131, 132, 133, 134, 138, 139, 140, 141, 142, 143] (by decide +kernel) (by decide +kernel)
set_option maxRecDepth 20000 in
theorem gX7_digest_X7_count : GoodIn wsX7_digest (wsV RX7 321 RX7 yX7_count wsX7_count) := goodIn_app (goodIn_of _ (by decide +kernel)) ggX7_digest_X7_count
set_option maxRecDepth 20000 in
theorem ggX7_digest_X7_wide : GoodIn wsX7_digest wsX7_wide := goodIn_r _ [45, 12, 46, 47, 48, 9, 49, 22, 50, 51, 52, 53, 31, 32, 26, 33, 28, 34, 35, 36, 120, 121, 122, 123, 124, 125, 126, 127, 128, 129, 130, 138, 139, 140, 141, 142, 143, 135, 136, 137] (by decide +kernel) (by decide +kernel)
set_option maxRecDepth 20000 in
theorem gX7_digest_X7_wide : GoodIn wsX7_digest (wsV RX7 324 RX7 yX7_wide wsX7_wide) := goodIn_app (goodIn_of _ (by decide +kernel)) ggX7_digest_X7_wide
set_option maxRecDepth 20000 in
theorem ggX7_digest_X7_late : GoodIn wsX7_digest wsX7_late := goodIn_r _ [57, 46, 47, 48, 9, 49, 22, 50, 51, 52, 58, 59, 60, 61, 62, 63, 64, 65, 66, 67, 68, 69, 70, 71, 72, 73, 74, 75, 76, 77, 78, 120, 121, 122, 123, 124, 125, 126, 127, 128, 129, 130, 138, 139, 140, 141, 142, 143] (by decide +kernel) (by decide +kernel)
set_option maxRecDepth 20000 in
theorem gX7_digest_X7_late : GoodIn wsX7_digest (wsV RX7 327 RX7 yX7_late wsX7_late) := goodIn_app (goodIn_of _ (by decide +kernel)) ggX7_digest_X7_late
set_option maxRecDepth 20000 in
theorem ggX7_digest_X7_made : GoodIn wsX7_digest wsX7_made := goodIn_r _ [82, 3, 83, 84, 85, 86, 87, 88, 89, 90, 91, 92, 93, 94, 95, 51, 9, 52, 120, 121, 122, 123, 124, 125, 126, 127, 128, 129, 130, 144, 145, 146, 147, 148, 149, 131, 132, 133, 134] (by decide +kernel) (by decide +kernel)
set_option maxRecDepth 20000 in
theorem gX7_digest_X7_made : GoodIn wsX7_digest (wsV RX7 330 RX7 yX7_made wsX7_made) := goodIn_app (goodIn_of _ (by decide +kernel)) ggX7_digest_X7_made
set_option maxRecDepth 20000 in
theorem ggX7_digest_X7_foretold : GoodIn wsX7_digest wsX7_foretold := goodIn_r _ [99, 100, 101, 102, 66, 103, 104, 65, 67, 105, 106, 9, 107, 50, 51, 52, 108, 109, 110, 111, 112, 113, 114, 115, 116, 117, 118, 119, 120, 121, 122, 123, 124, 125, 126, 127, 128, 129, 130, 150, 151, 152, 153] (by decide +kernel) (by decide +kernel)
set_option maxRecDepth 20000 in
theorem gX7_digest_X7_foretold : GoodIn wsX7_digest (wsV RX7 237 RX7 yX7_foretold wsX7_foretold) := goodIn_app (goodIn_of _ (by decide +kernel)) ggX7_digest_X7_foretold
theorem dX7_digest_0 : decode cX7_digest 0 = .ok (.ldc2_w 317, 3) := by decide +kernel
theorem dX7_digest_3 : decode cX7_digest 3 = .ok (.lstore_n 1, 1) := by decide +kernel
theorem dX7_digest_4 : decode cX7_digest 4 = .ok (.iconst 0, 1) := by decide +kernel
theorem dX7_digest_5 : decode cX7_digest 5 = .ok (.istore_n 3, 1) := by decide +kernel
theorem dX7_digest_6 : decode cX7_digest 6 = .ok (.iload_n 3, 1) := by decide +kernel
theorem dX7_digest_7 : decode cX7_digest 7 = .ok (.bipush 8, 2) := by decide +kernel
theorem dX7_digest_9 : decode cX7_digest 9 = .ok (.if_icmp .gt 28, 3) := by decide +kernel
theorem dX7_digest_12 : decode cX7_digest 12 = .ok (.iload_n 3, 1) := by decide +kernel
theorem dX7_digest_13 : decode cX7_digest 13 = .ok (.bipush 6, 2) := by decide +kernel
theorem dX7_digest_15 : decode cX7_digest 15 = .ok (.if_icmp .eq 16, 3) := by decide +kernel
theorem dX7_digest_18 : decode cX7_digest 18 = .ok (.ldc2_w 319, 3) := by decide +kernel
theorem dX7_digest_21 : decode cX7_digest 21 = .ok (.lload_n 1, 1) := by decide +kernel
theorem dX7_digest_22 : decode cX7_digest 22 = .ok (.lmul, 1) := by decide +kernel
theorem dX7_digest_23 : decode cX7_digest 23 = .ok (.aload_n 0, 1) := by decide +kernel
theorem dX7_digest_24 : decode cX7_digest 24 = .ok (.iload_n 3, 1) := by decide +kernel
theorem dX7_digest_25 : decode cX7_digest 25 = .ok (.invokevirtual 321, 3) := by decide +kernel
theorem dX7_digest_28 : decode cX7_digest 28 = .ok (.i2l, 1) := by decide +kernel
theorem dX7_digest_29 : decode cX7_digest 29 = .ok (.ladd, 1) := by decide +kernel
theorem dX7_digest_30 : decode cX7_digest 30 = .ok (.lstore_n 1, 1) := by decide +kernel
theorem dX7_digest_31 : decode cX7_digest 31 = .ok (.iinc 3 1, 3) := by decide +kernel
theorem dX7_digest_34 : decode cX7_digest 34 = .ok (.goto (-28), 3) := by decide +kernel
theorem dX7_digest_37 : decode cX7_digest 37 = .ok (.iconst 0, 1) := by decide +kernel
theorem dX7_digest_38 : decode cX7_digest 38 = .ok (.istore_n 3, 1) := by decide +kernel
theorem dX7_digest_39 : decode cX7_digest 39 = .ok (.iload_n 3, 1) := by decide +kernel
theorem dX7_digest_40 : decode cX7_digest 40 = .ok (.bipush 8, 2) := by decide +kernel
theorem dX7_digest_42 : decode cX7_digest 42 = .ok (.if_icmp .ge 35, 3) := by decide +kernel
theorem dX7_digest_45 : decode cX7_digest 45 = .ok (.ldc2_w 319, 3) := by decide +kernel
theorem dX7_digest_48 : decode cX7_digest 48 = .ok (.lload_n 1, 1) := by decide +kernel
theorem dX7_digest_49 : decode cX7_digest 49 = .ok (.lmul, 1) := by decide +kernel
theorem dX7_digest_50 : decode cX7_digest 50 = .ok (.aload_n 0, 1) := by decide +kernel
theorem dX7_digest_51 : decode cX7_digest 51 = .ok (.iload_n 3, 1) := by decide +kernel
theorem dX7_digest_52 : decode cX7_digest 52 = .ok (.invokevirtual 324, 3) := by decide +kernel
theorem dX7_digest_55 : decode cX7_digest 55 = .ok (.i2l, 1) := by decide +kernel
theorem dX7_digest_56 : decode cX7_digest 56 = .ok (.ladd, 1) := by decide +kernel
theorem dX7_digest_57 : decode cX7_digest 57 = .ok (.lstore_n 1, 1) := by decide +kernel
theorem dX7_digest_58 : decode cX7_digest 58 = .ok (.ldc2_w 319, 3) := by decide +kernel
theorem dX7_digest_61 : decode cX7_digest 61 = .ok (.lload_n 1, 1) := by decide +kernel
theorem dX7_digest_62 : decode cX7_digest 62 = .ok (.lmul, 1) := by decide +kernel
theorem dX7_digest_63 : decode cX7_digest 63 = .ok (.aload_n 0, 1) := by decide +kernel
theorem dX7_digest_64 : decode cX7_digest 64 = .ok (.iload_n 3, 1) := by decide +kernel
theorem dX7_digest_65 : decode cX7_digest 65 = .ok (.invokevirtual 327, 3) := by decide +kernel
theorem dX7_digest_68 : decode cX7_digest 68 = .ok (.i2l, 1) := by decide +kernel
theorem dX7_digest_69 : decode cX7_digest 69 = .ok (.ladd, 1) := by decide +kernel
theorem dX7_digest_70 : decode cX7_digest 70 = .ok (.lstore_n 1, 1) := by decide +kernel
theorem dX7_digest_71 : decode cX7_digest 71 = .ok (.iinc 3 1, 3) := by decide +kernel
theorem dX7_digest_74 : decode cX7_digest 74 = .ok (.goto (-35), 3) := by decide +kernel
theorem dX7_digest_77 : decode cX7_digest 77 = .ok (.iconst 0, 1) := by decide +kernel
theorem dX7_digest_78 : decode cX7_digest 78 = .ok (.istore_n 3, 1) := by decide +kernel
theorem dX7_digest_79 : decode cX7_digest 79 = .ok (.iload_n 3, 1) := by decide +kernel
theorem dX7_digest_80 : decode cX7_digest 80 = .ok (.aload_n 0, 1) := by decide +kernel
theorem dX7_digest_81 : decode cX7_digest 81 = .ok (.getfield 40, 3) := by decide +kernel
theorem dX7_digest_84 : decode cX7_digest 84 = .ok (.getfield 312, 3) := by decide +kernel
theorem dX7_digest_87 : decode cX7_digest 87 = .ok (.if_icmp .ge 39, 3) := by decide +kernel
theorem dX7_digest_90 : decode cX7_digest 90 = .ok (.iconst 0, 1) := by decide +kernel
theorem dX7_digest_91 : decode cX7_digest 91 = .ok (.istore 4, 2) := by decide +kernel
theorem dX7_digest_93 : decode cX7_digest 93 = .ok (.iload 4, 2) := by decide +kernel
theorem dX7_digest_95 : decode cX7_digest 95 = .ok (.iconst 5, 1) := by decide +kernel
theorem dX7_digest_96 : decode cX7_digest 96 = .ok (.if_icmp .gt 24, 3) := by decide +kernel
theorem dX7_digest_99 : decode cX7_digest 99 = .ok (.ldc2_w 319, 3) := by decide +kernel
theorem dX7_digest_102 : decode cX7_digest 102 = .ok (.lload_n 1, 1) := by decide +kernel
theorem dX7_digest_103 : decode cX7_digest 103 = .ok (.lmul, 1) := by decide +kernel
theorem dX7_digest_104 : decode cX7_digest 104 = .ok (.aload_n 0, 1) := by decide +kernel
theorem dX7_digest_105 : decode cX7_digest 105 = .ok (.iload_n 3, 1) := by decide +kernel
theorem dX7_digest_106 : decode cX7_digest 106 = .ok (.iload 4, 2) := by decide +kernel
theorem dX7_digest_108 : decode cX7_digest 108 = .ok (.invokevirtual 330, 3) := by decide +kernel
theorem dX7_digest_111 : decode cX7_digest 111 = .ok (.i2l, 1) := by decide +kernel
theorem dX7_digest_112 : decode cX7_digest 112 = .ok (.ladd, 1) := by decide +kernel
theorem dX7_digest_113 : decode cX7_digest 113 = .ok (.lstore_n 1, 1) := by decide +kernel
theorem dX7_digest_114 : decode cX7_digest 114 = .ok (.iinc 4 1, 3) := by decide +kernel
theorem dX7_digest_117 : decode cX7_digest 117 = .ok (.goto (-24), 3) := by decide +kernel
theorem dX7_digest_120 : decode cX7_digest 120 = .ok (.iinc 3 1, 3) := by decide +kernel
theorem dX7_digest_123 : decode cX7_digest 123 = .ok (.goto (-44), 3) := by decide +kernel
theorem dX7_digest_126 : decode cX7_digest 126 = .ok (.iconst 0, 1) := by decide +kernel
theorem dX7_digest_127 : decode cX7_digest 127 = .ok (.istore_n 3, 1) := by decide +kernel
theorem dX7_digest_128 : decode cX7_digest 128 = .ok (.iload_n 3, 1) := by decide +kernel
theorem dX7_digest_129 : decode cX7_digest 129 = .ok (.bipush 52, 2) := by decide +kernel
theorem dX7_digest_131 : decode cX7_digest 131 = .ok (.if_icmp .ge 22, 3) := by decide +kernel
theorem dX7_digest_134 : decode cX7_digest 134 = .ok (.ldc2_w 319, 3) := by decide +kernel
theorem dX7_digest_137 : decode cX7_digest 137 = .ok (.lload_n 1, 1) := by decide +kernel
theorem dX7_digest_138 : decode cX7_digest 138 = .ok (.lmul, 1) := by decide +kernel
theorem dX7_digest_139 : decode cX7_digest 139 = .ok (.aload_n 0, 1) := by decide +kernel
theorem dX7_digest_140 : decode cX7_digest 140 = .ok (.iload_n 3, 1) := by decide +kernel
theorem dX7_digest_141 : decode cX7_digest 141 = .ok (.invokevirtual 237, 3) := by decide +kernel
theorem dX7_digest_144 : decode cX7_digest 144 = .ok (.i2l, 1) := by decide +kernel
theorem dX7_digest_145 : decode cX7_digest 145 = .ok (.ladd, 1) := by decide +kernel
theorem dX7_digest_146 : decode cX7_digest 146 = .ok (.lstore_n 1, 1) := by decide +kernel
theorem dX7_digest_147 : decode cX7_digest 147 = .ok (.iinc 3 1, 3) := by decide +kernel
theorem dX7_digest_150 : decode cX7_digest 150 = .ok (.goto (-22), 3) := by decide +kernel
theorem dX7_digest_153 : decode cX7_digest 153 = .ok (.iconst 0, 1) := by decide +kernel
theorem dX7_digest_154 : decode cX7_digest 154 = .ok (.istore_n 3, 1) := by decide +kernel
theorem dX7_digest_155 : decode cX7_digest 155 = .ok (.iload_n 3, 1) := by decide +kernel
theorem dX7_digest_156 : decode cX7_digest 156 = .ok (.iconst 4, 1) := by decide +kernel
theorem dX7_digest_157 : decode cX7_digest 157 = .ok (.if_icmp .ge 23, 3) := by decide +kernel
theorem dX7_digest_160 : decode cX7_digest 160 = .ok (.ldc2_w 319, 3) := by decide +kernel
theorem dX7_digest_163 : decode cX7_digest 163 = .ok (.lload_n 1, 1) := by decide +kernel
theorem dX7_digest_164 : decode cX7_digest 164 = .ok (.lmul, 1) := by decide +kernel
theorem dX7_digest_165 : decode cX7_digest 165 = .ok (.aload_n 0, 1) := by decide +kernel
theorem dX7_digest_166 : decode cX7_digest 166 = .ok (.getfield 33, 3) := by decide +kernel
theorem dX7_digest_169 : decode cX7_digest 169 = .ok (.iload_n 3, 1) := by decide +kernel
theorem dX7_digest_170 : decode cX7_digest 170 = .ok (.iaload, 1) := by decide +kernel
theorem dX7_digest_171 : decode cX7_digest 171 = .ok (.i2l, 1) := by decide +kernel
theorem dX7_digest_172 : decode cX7_digest 172 = .ok (.ladd, 1) := by decide +kernel
theorem dX7_digest_173 : decode cX7_digest 173 = .ok (.lstore_n 1, 1) := by decide +kernel
theorem dX7_digest_174 : decode cX7_digest 174 = .ok (.iinc 3 1, 3) := by decide +kernel
theorem dX7_digest_177 : decode cX7_digest 177 = .ok (.goto (-22), 3) := by decide +kernel
theorem dX7_digest_180 : decode cX7_digest 180 = .ok (.lload_n 1, 1) := by decide +kernel
theorem dX7_digest_181 : decode cX7_digest 181 = .ok (.lreturn, 1) := by decide +kernel
set_option maxRecDepth 20000 in
theorem ggX7_countFitting_X3_fits : GoodIn wsX7_countFitting wsX3_fits := goodIn_r _ [7, 8, 9, 10, 11, 12, 6, 13, 14, 15, 16, 28, 29, 30, 31, 32, 33, 34, 35, 36] (by decide +kernel) (by decide +kernel)
set_option maxRecDepth 20000 in
theorem gX7_countFitting_X3_fits : GoodIn wsX7_countFitting (wsV RX7 116 RX3 yX3_fits wsX3_fits) := goodIn_app (goodIn_of _ (by decide +kernel)) ggX7_countFitting_X3_fits
theorem dX7_countFitting_0 : decode cX7_countFitting 0 = .ok (.iconst 0, 1) := by decide +kernel
theorem dX7_countFitting_1 : decode cX7_countFitting 1 = .ok (.istore_n 1, 1) := by decide +kernel
theorem dX7_countFitting_2 : decode cX7_countFitting 2 = .ok (.iconst 0, 1) := by decide +kernel
theorem dX7_countFitting_3 : decode cX7_countFitting 3 = .ok (.istore_n 2, 1) := by decide +kernel
theorem dX7_countFitting_4 : decode cX7_countFitting 4 = .ok (.iload_n 2, 1) := by decide +kernel
theorem dX7_countFitting_5 : decode cX7_countFitting 5 = .ok (.bipush 8, 2) := by decide +kernel
theorem dX7_countFitting_7 : decode cX7_countFitting 7 = .ok (.if_icmp .ge 28, 3) := by decide +kernel
theorem dX7_countFitting_10 : decode cX7_countFitting 10 = .ok (.aload_n 0, 1) := by decide +kernel
theorem dX7_countFitting_11 : decode cX7_countFitting 11 = .ok (.getfield 29, 3) := by decide +kernel
theorem dX7_countFitting_14 : decode cX7_countFitting 14 = .ok (.aload_n 0, 1) := by decide +kernel
theorem dX7_countFitting_15 : decode cX7_countFitting 15 = .ok (.getfield 21, 3) := by decide +kernel
theorem dX7_countFitting_18 : decode cX7_countFitting 18 = .ok (.iload_n 2, 1) := by decide +kernel
theorem dX7_countFitting_19 : decode cX7_countFitting 19 = .ok (.aaload, 1) := by decide +kernel
theorem dX7_countFitting_20 : decode cX7_countFitting 20 = .ok (.invokevirtual 116, 3) := by decide +kernel
theorem dX7_countFitting_23 : decode cX7_countFitting 23 = .ok (.ifCond .eq 6, 3) := by decide +kernel
theorem dX7_countFitting_26 : decode cX7_countFitting 26 = .ok (.iinc 1 1, 3) := by decide +kernel
theorem dX7_countFitting_29 : decode cX7_countFitting 29 = .ok (.iinc 2 1, 3) := by decide +kernel
theorem dX7_countFitting_32 : decode cX7_countFitting 32 = .ok (.goto (-28), 3) := by decide +kernel
theorem dX7_countFitting_35 : decode cX7_countFitting 35 = .ok (.iload_n 1, 1) := by decide +kernel
theorem dX7_countFitting_36 : decode cX7_countFitting 36 = .ok (.ireturn, 1) := by decide +kernel
theorem dX7_countDamp_0 : decode cX7_countDamp 0 = .ok (.iconst 0, 1) := by decide +kernel
theorem dX7_countDamp_1 : decode cX7_countDamp 1 = .ok (.istore_n 1, 1) := by decide +kernel
theorem dX7_countDamp_2 : decode cX7_countDamp 2 = .ok (.iconst 0, 1) := by decide +kernel
theorem dX7_countDamp_3 : decode cX7_countDamp 3 = .ok (.istore_n 2, 1) := by decide +kernel
theorem dX7_countDamp_4 : decode cX7_countDamp 4 = .ok (.iload_n 2, 1) := by decide +kernel
theorem dX7_countDamp_5 : decode cX7_countDamp 5 = .ok (.bipush 52, 2) := by decide +kernel
theorem dX7_countDamp_7 : decode cX7_countDamp 7 = .ok (.if_icmp .ge 21, 3) := by decide +kernel
theorem dX7_countDamp_10 : decode cX7_countDamp 10 = .ok (.aload_n 0, 1) := by decide +kernel
theorem dX7_countDamp_11 : decode cX7_countDamp 11 = .ok (.getfield 44, 3) := by decide +kernel
theorem dX7_countDamp_14 : decode cX7_countDamp 14 = .ok (.iload_n 2, 1) := by decide +kernel
theorem dX7_countDamp_15 : decode cX7_countDamp 15 = .ok (.baload, 1) := by decide +kernel
theorem dX7_countDamp_16 : decode cX7_countDamp 16 = .ok (.ifCond .eq 6, 3) := by decide +kernel
theorem dX7_countDamp_19 : decode cX7_countDamp 19 = .ok (.iinc 1 1, 3) := by decide +kernel
theorem dX7_countDamp_22 : decode cX7_countDamp 22 = .ok (.iinc 2 1, 3) := by decide +kernel
theorem dX7_countDamp_25 : decode cX7_countDamp 25 = .ok (.goto (-21), 3) := by decide +kernel
theorem dX7_countDamp_28 : decode cX7_countDamp 28 = .ok (.iload_n 1, 1) := by decide +kernel
theorem dX7_countDamp_29 : decode cX7_countDamp 29 = .ok (.ireturn, 1) := by decide +kernel
theorem dX7_within_0 : decode cX7_within 0 = .ok (.iload_n 0, 1) := by decide +kernel
theorem dX7_within_1 : decode cX7_within 1 = .ok (.iload_n 1, 1) := by decide +kernel
theorem dX7_within_2 : decode cX7_within 2 = .ok (.if_icmp .lt 12, 3) := by decide +kernel
theorem dX7_within_5 : decode cX7_within 5 = .ok (.iload_n 0, 1) := by decide +kernel
theorem dX7_within_6 : decode cX7_within 6 = .ok (.iload_n 2, 1) := by decide +kernel
theorem dX7_within_7 : decode cX7_within 7 = .ok (.if_icmp .gt 7, 3) := by decide +kernel
theorem dX7_within_10 : decode cX7_within 10 = .ok (.iconst 1, 1) := by decide +kernel
theorem dX7_within_11 : decode cX7_within 11 = .ok (.goto 4, 3) := by decide +kernel
theorem dX7_within_14 : decode cX7_within 14 = .ok (.iconst 0, 1) := by decide +kernel
theorem dX7_within_15 : decode cX7_within 15 = .ok (.ireturn, 1) := by decide +kernel
theorem dX7_isSpan_0 : decode cX7_isSpan 0 = .ok (.iload_n 0, 1) := by decide +kernel
theorem dX7_isSpan_1 : decode cX7_isSpan 1 = .ok (.ifCond .lt 17, 3) := by decide +kernel
theorem dX7_isSpan_4 : decode cX7_isSpan 4 = .ok (.iload_n 0, 1) := by decide +kernel
theorem dX7_isSpan_5 : decode cX7_isSpan 5 = .ok (.iload_n 1, 1) := by decide +kernel
theorem dX7_isSpan_6 : decode cX7_isSpan 6 = .ok (.if_icmp .gt 12, 3) := by decide +kernel
theorem dX7_isSpan_9 : decode cX7_isSpan 9 = .ok (.iload_n 1, 1) := by decide +kernel
theorem dX7_isSpan_10 : decode cX7_isSpan 10 = .ok (.iload_n 2, 1) := by decide +kernel
theorem dX7_isSpan_11 : decode cX7_isSpan 11 = .ok (.if_icmp .gt 7, 3) := by decide +kernel
theorem dX7_isSpan_14 : decode cX7_isSpan 14 = .ok (.iconst 1, 1) := by decide +kernel
theorem dX7_isSpan_15 : decode cX7_isSpan 15 = .ok (.goto 4, 3) := by decide +kernel
theorem dX7_isSpan_18 : decode cX7_isSpan 18 = .ok (.iconst 0, 1) := by decide +kernel
theorem dX7_isSpan_19 : decode cX7_isSpan 19 = .ok (.ireturn, 1) := by decide +kernel
set_option maxRecDepth 20000 in
theorem ggX7_isWeek_X7_within : GoodIn wsX7_isWeek wsX7_within := goodIn_r _ [4] (by decide +kernel) (by decide +kernel)
set_option maxRecDepth 20000 in
theorem gX7_isWeek_X7_within : GoodIn wsX7_isWeek (va_wsS RX7 68 yX7_within wsX7_within) := goodIn_app (goodIn_of _ (by decide +kernel)) ggX7_isWeek_X7_within
theorem dX7_isWeek_0 : decode cX7_isWeek 0 = .ok (.iload_n 0, 1) := by decide +kernel
theorem dX7_isWeek_1 : decode cX7_isWeek 1 = .ok (.iconst 0, 1) := by decide +kernel
theorem dX7_isWeek_2 : decode cX7_isWeek 2 = .ok (.bipush 51, 2) := by decide +kernel
theorem dX7_isWeek_4 : decode cX7_isWeek 4 = .ok (.invokestatic 68, 3) := by decide +kernel
theorem dX7_isWeek_7 : decode cX7_isWeek 7 = .ok (.ireturn, 1) := by decide +kernel
set_option maxRecDepth 20000 in
theorem ggX7_isSheet_X7_within : GoodIn wsX7_isSheet wsX7_within := goodIn_r _ [4] (by decide +kernel) (by decide +kernel)
set_option maxRecDepth 20000 in
theorem gX7_isSheet_X7_within : GoodIn wsX7_isSheet (va_wsS RX7 68 yX7_within wsX7_within) := goodIn_app (goodIn_of _ (by decide +kernel)) ggX7_isSheet_X7_within
theorem dX7_isSheet_0 : decode cX7_isSheet 0 = .ok (.iload_n 0, 1) := by decide +kernel
theorem dX7_isSheet_1 : decode cX7_isSheet 1 = .ok (.iconst 0, 1) := by decide +kernel
theorem dX7_isSheet_2 : decode cX7_isSheet 2 = .ok (.iconst 3, 1) := by decide +kernel
theorem dX7_isSheet_3 : decode cX7_isSheet 3 = .ok (.invokestatic 68, 3) := by decide +kernel
theorem dX7_isSheet_6 : decode cX7_isSheet 6 = .ok (.ireturn, 1) := by decide +kernel
set_option maxRecDepth 20000 in
theorem ggX7_isForm_X7_within : GoodIn wsX7_isForm wsX7_within := goodIn_r _ [4] (by decide +kernel) (by decide +kernel)
set_option maxRecDepth 20000 in
theorem gX7_isForm_X7_within : GoodIn wsX7_isForm (va_wsS RX7 68 yX7_within wsX7_within) := goodIn_app (goodIn_of _ (by decide +kernel)) ggX7_isForm_X7_within
theorem dX7_isForm_0 : decode cX7_isForm 0 = .ok (.iload_n 0, 1) := by decide +kernel
theorem dX7_isForm_1 : decode cX7_isForm 1 = .ok (.iconst 0, 1) := by decide +kernel
theorem dX7_isForm_2 : decode cX7_isForm 2 = .ok (.iconst 2, 1) := by decide +kernel
theorem dX7_isForm_3 : decode cX7_isForm 3 = .ok (.invokestatic 68, 3) := by decide +kernel
theorem dX7_isForm_6 : decode cX7_isForm 6 = .ok (.ireturn, 1) := by decide +kernel
theorem dX7_atMostInt_0 : decode cX7_atMostInt 0 = .ok (.lload_n 0, 1) := by decide +kernel
theorem dX7_atMostInt_1 : decode cX7_atMostInt 1 = .ok (.ldc2_w 333, 3) := by decide +kernel
theorem dX7_atMostInt_4 : decode cX7_atMostInt 4 = .ok (.invokestatic 335, 3) := by decide +kernel
theorem dX7_atMostInt_7 : decode cX7_atMostInt 7 = .ok (.l2i, 1) := by decide +kernel
theorem dX7_atMostInt_8 : decode cX7_atMostInt 8 = .ok (.ireturn, 1) := by decide +kernel
set_option maxRecDepth 20000 in
theorem ggX7_letterAt_X7_within : GoodIn wsX7_letterAt wsX7_within := goodIn_r _ [6] (by decide +kernel) (by decide +kernel)
set_option maxRecDepth 20000 in
theorem gX7_letterAt_X7_within : GoodIn wsX7_letterAt (va_wsS RX7 68 yX7_within wsX7_within) := goodIn_app (goodIn_of _ (by decide +kernel)) ggX7_letterAt_X7_within
theorem dX7_letterAt_0 : decode cX7_letterAt 0 = .ok (.iload_n 1, 1) := by decide +kernel
theorem dX7_letterAt_1 : decode cX7_letterAt 1 = .ok (.iconst 0, 1) := by decide +kernel
theorem dX7_letterAt_2 : decode cX7_letterAt 2 = .ok (.aload_n 0, 1) := by decide +kernel
theorem dX7_letterAt_3 : decode cX7_letterAt 3 = .ok (.getfield 15, 3) := by decide +kernel
theorem dX7_letterAt_6 : decode cX7_letterAt 6 = .ok (.iconst 1, 1) := by decide +kernel
theorem dX7_letterAt_7 : decode cX7_letterAt 7 = .ok (.isub, 1) := by decide +kernel
theorem dX7_letterAt_8 : decode cX7_letterAt 8 = .ok (.invokestatic 68, 3) := by decide +kernel
theorem dX7_letterAt_11 : decode cX7_letterAt 11 = .ok (.ifCond .eq 12, 3) := by decide +kernel
theorem dX7_letterAt_14 : decode cX7_letterAt 14 = .ok (.aload_n 0, 1) := by decide +kernel
theorem dX7_letterAt_15 : decode cX7_letterAt 15 = .ok (.getfield 11, 3) := by decide +kernel
theorem dX7_letterAt_18 : decode cX7_letterAt 18 = .ok (.iload_n 1, 1) := by decide +kernel
theorem dX7_letterAt_19 : decode cX7_letterAt 19 = .ok (.aaload, 1) := by decide +kernel
theorem dX7_letterAt_20 : decode cX7_letterAt 20 = .ok (.goto 4, 3) := by decide +kernel
theorem dX7_letterAt_23 : decode cX7_letterAt 23 = .ok (.aconst_null, 1) := by decide +kernel
theorem dX7_letterAt_24 : decode cX7_letterAt 24 = .ok (.areturn, 1) := by decide +kernel
set_option maxRecDepth 20000 in
theorem ggX7_wordAt_X7_within : GoodIn wsX7_wordAt wsX7_within := goodIn_r _ [5] (by decide +kernel) (by decide +kernel)
set_option maxRecDepth 20000 in
theorem gX7_wordAt_X7_within : GoodIn wsX7_wordAt (va_wsS RX7 68 yX7_within wsX7_within) := goodIn_app (goodIn_of _ (by decide +kernel)) ggX7_wordAt_X7_within
theorem dX7_wordAt_0 : decode cX7_wordAt 0 = .ok (.iload_n 1, 1) := by decide +kernel
theorem dX7_wordAt_1 : decode cX7_wordAt 1 = .ok (.iconst 0, 1) := by decide +kernel
theorem dX7_wordAt_2 : decode cX7_wordAt 2 = .ok (.bipush 7, 2) := by decide +kernel
theorem dX7_wordAt_4 : decode cX7_wordAt 4 = .ok (.invokestatic 68, 3) := by decide +kernel
theorem dX7_wordAt_7 : decode cX7_wordAt 7 = .ok (.ifCond .eq 12, 3) := by decide +kernel
theorem dX7_wordAt_10 : decode cX7_wordAt 10 = .ok (.aload_n 0, 1) := by decide +kernel
theorem dX7_wordAt_11 : decode cX7_wordAt 11 = .ok (.getfield 21, 3) := by decide +kernel
theorem dX7_wordAt_14 : decode cX7_wordAt 14 = .ok (.iload_n 1, 1) := by decide +kernel
theorem dX7_wordAt_15 : decode cX7_wordAt 15 = .ok (.aaload, 1) := by decide +kernel
theorem dX7_wordAt_16 : decode cX7_wordAt 16 = .ok (.goto 4, 3) := by decide +kernel
theorem dX7_wordAt_19 : decode cX7_wordAt 19 = .ok (.aconst_null, 1) := by decide +kernel
theorem dX7_wordAt_20 : decode cX7_wordAt 20 = .ok (.areturn, 1) := by decide +kernel
theorem dX7_finding_0 : decode cX7_finding 0 = .ok (.aload_n 0, 1) := by decide +kernel
theorem dX7_finding_1 : decode cX7_finding 1 = .ok (.iload_n 1, 1) := by decide +kernel
theorem dX7_finding_2 : decode cX7_finding 2 = .ok (.putfield 65, 3) := by decide +kernel
theorem dX7_finding_5 : decode cX7_finding 5 = .ok (.bipush (-10), 2) := by decide +kernel
theorem dX7_finding_7 : decode cX7_finding 7 = .ok (.iload_n 1, 1) := by decide +kernel
theorem dX7_finding_8 : decode cX7_finding 8 = .ok (.isub, 1) := by decide +kernel
theorem dX7_finding_9 : decode cX7_finding 9 = .ok (.ireturn, 1) := by decide +kernel
set_option maxRecDepth 20000 in
theorem ggX7_troubleOfSheet_X7_isSheet : GoodIn wsX7_troubleOfSheet wsX7_isSheet := goodIn_r _ [6, 7, 8, 5, 9] (by decide +kernel) (by decide +kernel)
set_option maxRecDepth 20000 in
theorem gX7_troubleOfSheet_X7_isSheet : GoodIn wsX7_troubleOfSheet (va_wsS RX7 266 yX7_isSheet wsX7_isSheet) := goodIn_app (goodIn_of _ (by decide +kernel)) ggX7_troubleOfSheet_X7_isSheet
set_option maxRecDepth 20000 in
theorem ggX7_troubleOfSheet_X7_finding : GoodIn wsX7_troubleOfSheet wsX7_finding := goodIn_r _ [13, 14, 15, 16, 17, 18, 19, 20, 21, 22, 23, 24, 25] (by decide +kernel) (by decide +kernel)
set_option maxRecDepth 20000 in
theorem gX7_troubleOfSheet_X7_finding : GoodIn wsX7_troubleOfSheet (wsV RX7 272 RX7 yX7_finding wsX7_finding) := goodIn_app (goodIn_of _ (by decide +kernel)) ggX7_troubleOfSheet_X7_finding
theorem dX7_troubleOfSheet_0 : decode cX7_troubleOfSheet 0 = .ok (.iload_n 1, 1) := by decide +kernel
theorem dX7_troubleOfSheet_1 : decode cX7_troubleOfSheet 1 = .ok (.invokestatic 266, 3) := by decide +kernel
theorem dX7_troubleOfSheet_4 : decode cX7_troubleOfSheet 4 = .ok (.ifCond .ne 6, 3) := by decide +kernel
theorem dX7_troubleOfSheet_7 : decode cX7_troubleOfSheet 7 = .ok (.bipush (-2), 2) := by decide +kernel
theorem dX7_troubleOfSheet_9 : decode cX7_troubleOfSheet 9 = .ok (.ireturn, 1) := by decide +kernel
theorem dX7_troubleOfSheet_10 : decode cX7_troubleOfSheet 10 = .ok (.aload_n 0, 1) := by decide +kernel
theorem dX7_troubleOfSheet_11 : decode cX7_troubleOfSheet 11 = .ok (.getfield 60, 3) := by decide +kernel
theorem dX7_troubleOfSheet_14 : decode cX7_troubleOfSheet 14 = .ok (.iload_n 1, 1) := by decide +kernel
theorem dX7_troubleOfSheet_15 : decode cX7_troubleOfSheet 15 = .ok (.aaload, 1) := by decide +kernel
theorem dX7_troubleOfSheet_16 : decode cX7_troubleOfSheet 16 = .ok (.getfield 279, 3) := by decide +kernel
theorem dX7_troubleOfSheet_19 : decode cX7_troubleOfSheet 19 = .ok (.ifCond .eq 11, 3) := by decide +kernel
theorem dX7_troubleOfSheet_22 : decode cX7_troubleOfSheet 22 = .ok (.aload_n 0, 1) := by decide +kernel
theorem dX7_troubleOfSheet_23 : decode cX7_troubleOfSheet 23 = .ok (.iconst 1, 1) := by decide +kernel
theorem dX7_troubleOfSheet_24 : decode cX7_troubleOfSheet 24 = .ok (.invokevirtual 272, 3) := by decide +kernel
theorem dX7_troubleOfSheet_27 : decode cX7_troubleOfSheet 27 = .ok (.goto 4, 3) := by decide +kernel
theorem dX7_troubleOfSheet_30 : decode cX7_troubleOfSheet 30 = .ok (.iconst 0, 1) := by decide +kernel
theorem dX7_troubleOfSheet_31 : decode cX7_troubleOfSheet 31 = .ok (.ireturn, 1) := by decide +kernel
set_option maxRecDepth 20000 in
theorem ggX7_troubleOfItem_X7_isForm : GoodIn wsX7_troubleOfItem wsX7_isForm := goodIn_r _ [6, 7, 8, 5, 9] (by decide +kernel) (by decide +kernel)
set_option maxRecDepth 20000 in
theorem gX7_troubleOfItem_X7_isForm : GoodIn wsX7_troubleOfItem (va_wsS RX7 269 yX7_isForm wsX7_isForm) := goodIn_app (goodIn_of _ (by decide +kernel)) ggX7_troubleOfItem_X7_isForm
set_option maxRecDepth 20000 in
theorem ggX7_troubleOfItem_X7_troubleOfSheet : GoodIn wsX7_troubleOfItem wsX7_troubleOfSheet := goodIn_r _ [13, 1, 14, 15, 16, 5, 17, 7, 8, 9, 18, 19, 20, 21, 22, 29, 30, 31, 32, 33, 34, 35, 36, 37, 38, 39, 40, 41, 42, 43] (by decide +kernel) (by decide +kernel)
set_option maxRecDepth 20000 in
theorem gX7_troubleOfItem_X7_troubleOfSheet : GoodIn wsX7_troubleOfItem (wsV RX7 132 RX7 yX7_troubleOfSheet wsX7_troubleOfSheet) := goodIn_app (goodIn_of _ (by decide +kernel)) ggX7_troubleOfItem_X7_troubleOfSheet
set_option maxRecDepth 20000 in
theorem ggX7_troubleOfItem_X7_finding : GoodIn wsX7_troubleOfItem wsX7_finding := goodIn_r _ [21, 22, 29, 30, 31, 32, 33, 34, 35, 36, 37, 38, 39] (by decide +kernel) (by decide +kernel)
set_option maxRecDepth 20000 in
theorem gX7_troubleOfItem_X7_finding : GoodIn wsX7_troubleOfItem (wsV RX7 272 RX7 yX7_finding wsX7_finding) := goodIn_app (goodIn_of _ (by decide +kernel)) ggX7_troubleOfItem_X7_finding
set_option maxRecDepth 20000 in
theorem ggX7_troubleOfItem_X4_hasItem : GoodIn wsX7_troubleOfItem wsX4_hasItem := goodIn_r _ [27, 28, 8, 5, 9, 40, 41, 42, 43] (by decide +kernel) (by decide +kernel)
set_option maxRecDepth 20000 in
theorem gX7_troubleOfItem_X4_hasItem : GoodIn wsX7_troubleOfItem (wsV RX7 337 RX4 yX4_hasItem wsX4_hasItem) := goodIn_app (goodIn_of _ (by decide +kernel)) ggX7_troubleOfItem_X4_hasItem
theorem dX7_troubleOfItem_0 : decode cX7_troubleOfItem 0 = .ok (.iload_n 2, 1) := by decide +kernel
theorem dX7_troubleOfItem_1 : decode cX7_troubleOfItem 1 = .ok (.invokestatic 269, 3) := by decide +kernel
theorem dX7_troubleOfItem_4 : decode cX7_troubleOfItem 4 = .ok (.ifCond .ne 6, 3) := by decide +kernel
theorem dX7_troubleOfItem_7 : decode cX7_troubleOfItem 7 = .ok (.bipush (-2), 2) := by decide +kernel
theorem dX7_troubleOfItem_9 : decode cX7_troubleOfItem 9 = .ok (.ireturn, 1) := by decide +kernel
theorem dX7_troubleOfItem_10 : decode cX7_troubleOfItem 10 = .ok (.aload_n 0, 1) := by decide +kernel
theorem dX7_troubleOfItem_11 : decode cX7_troubleOfItem 11 = .ok (.iload_n 1, 1) := by decide +kernel
theorem dX7_troubleOfItem_12 : decode cX7_troubleOfItem 12 = .ok (.invokevirtual 132, 3) := by decide +kernel
end
section
theorem dX7_troubleOfItem_15 : decode cX7_troubleOfItem 15 = .ok (.istore 4, 2) := by decide +kernel
theorem dX7_troubleOfItem_17 : decode cX7_troubleOfItem 17 = .ok (.iload 4, 2) := by decide +kernel
theorem dX7_troubleOfItem_19 : decode cX7_troubleOfItem 19 = .ok (.ifCond .eq 6, 3) := by decide +kernel
theorem dX7_troubleOfItem_22 : decode cX7_troubleOfItem 22 = .ok (.iload 4, 2) := by decide +kernel
theorem dX7_troubleOfItem_24 : decode cX7_troubleOfItem 24 = .ok (.ireturn, 1) := by decide +kernel
theorem dX7_troubleOfItem_25 : decode cX7_troubleOfItem 25 = .ok (.aload_n 0, 1) := by decide +kernel
theorem dX7_troubleOfItem_26 : decode cX7_troubleOfItem 26 = .ok (.getfield 60, 3) := by decide +kernel
theorem dX7_troubleOfItem_29 : decode cX7_troubleOfItem 29 = .ok (.iload_n 1, 1) := by decide +kernel
theorem dX7_troubleOfItem_30 : decode cX7_troubleOfItem 30 = .ok (.aaload, 1) := by decide +kernel
theorem dX7_troubleOfItem_31 : decode cX7_troubleOfItem 31 = .ok (.getfield 296, 3) := by decide +kernel
theorem dX7_troubleOfItem_34 : decode cX7_troubleOfItem 34 = .ok (.iload_n 2, 1) := by decide +kernel
theorem dX7_troubleOfItem_35 : decode cX7_troubleOfItem 35 = .ok (.if_icmp .eq 9, 3) := by decide +kernel
theorem dX7_troubleOfItem_38 : decode cX7_troubleOfItem 38 = .ok (.aload_n 0, 1) := by decide +kernel
theorem dX7_troubleOfItem_39 : decode cX7_troubleOfItem 39 = .ok (.iconst 3, 1) := by decide +kernel
theorem dX7_troubleOfItem_40 : decode cX7_troubleOfItem 40 = .ok (.invokevirtual 272, 3) := by decide +kernel
theorem dX7_troubleOfItem_43 : decode cX7_troubleOfItem 43 = .ok (.ireturn, 1) := by decide +kernel
theorem dX7_troubleOfItem_44 : decode cX7_troubleOfItem 44 = .ok (.aload_n 0, 1) := by decide +kernel
theorem dX7_troubleOfItem_45 : decode cX7_troubleOfItem 45 = .ok (.getfield 60, 3) := by decide +kernel
theorem dX7_troubleOfItem_48 : decode cX7_troubleOfItem 48 = .ok (.iload_n 1, 1) := by decide +kernel
theorem dX7_troubleOfItem_49 : decode cX7_troubleOfItem 49 = .ok (.aaload, 1) := by decide +kernel
theorem dX7_troubleOfItem_50 : decode cX7_troubleOfItem 50 = .ok (.iload_n 3, 1) := by decide +kernel
theorem dX7_troubleOfItem_51 : decode cX7_troubleOfItem 51 = .ok (.invokevirtual 337, 3) := by decide +kernel
theorem dX7_troubleOfItem_54 : decode cX7_troubleOfItem 54 = .ok (.ifCond .eq 7, 3) := by decide +kernel
theorem dX7_troubleOfItem_57 : decode cX7_troubleOfItem 57 = .ok (.iconst 0, 1) := by decide +kernel
theorem dX7_troubleOfItem_58 : decode cX7_troubleOfItem 58 = .ok (.goto 8, 3) := by decide +kernel
theorem dX7_troubleOfItem_61 : decode cX7_troubleOfItem 61 = .ok (.aload_n 0, 1) := by decide +kernel
theorem dX7_troubleOfItem_62 : decode cX7_troubleOfItem 62 = .ok (.iconst 2, 1) := by decide +kernel
theorem dX7_troubleOfItem_63 : decode cX7_troubleOfItem 63 = .ok (.invokevirtual 272, 3) := by decide +kernel
theorem dX7_troubleOfItem_66 : decode cX7_troubleOfItem 66 = .ok (.ireturn, 1) := by decide +kernel
theorem dX8_init_0 : decode cX8_init 0 = .ok (.aload_n 0, 1) := by decide +kernel
theorem dX8_init_1 : decode cX8_init 1 = .ok (.invokespecial 1, 3) := by decide +kernel
theorem dX8_init_4 : decode cX8_init 4 = .ok (.aload_n 0, 1) := by decide +kernel
theorem dX8_init_5 : decode cX8_init 5 = .ok (.iconst 4, 1) := by decide +kernel
theorem dX8_init_6 : decode cX8_init 6 = .ok (.newarray .int, 2) := by decide +kernel
theorem dX8_init_8 : decode cX8_init 8 = .ok (.putfield 7, 3) := by decide +kernel
theorem dX8_init_11 : decode cX8_init 11 = .ok (.aload_n 0, 1) := by decide +kernel
theorem dX8_init_12 : decode cX8_init 12 = .ok (.bipush 16, 2) := by decide +kernel
theorem dX8_init_14 : decode cX8_init 14 = .ok (.newarray .int, 2) := by decide +kernel
theorem dX8_init_16 : decode cX8_init 16 = .ok (.putfield 13, 3) := by decide +kernel
theorem dX8_init_19 : decode cX8_init 19 = .ok (.aload_n 0, 1) := by decide +kernel
theorem dX8_init_20 : decode cX8_init 20 = .ok (.bipush 16, 2) := by decide +kernel
theorem dX8_init_22 : decode cX8_init 22 = .ok (.newarray .int, 2) := by decide +kernel
theorem dX8_init_24 : decode cX8_init 24 = .ok (.putfield 16, 3) := by decide +kernel
theorem dX8_init_27 : decode cX8_init 27 = .ok (.aload_n 0, 1) := by decide +kernel
theorem dX8_init_28 : decode cX8_init 28 = .ok (.bipush 16, 2) := by decide +kernel
theorem dX8_init_30 : decode cX8_init 30 = .ok (.newarray .int, 2) := by decide +kernel
theorem dX8_init_32 : decode cX8_init 32 = .ok (.putfield 19, 3) := by decide +kernel
theorem dX8_init_35 : decode cX8_init 35 = .ok (.aload_n 0, 1) := by decide +kernel
theorem dX8_init_36 : decode cX8_init 36 = .ok (.bipush 80, 2) := by decide +kernel
theorem dX8_init_38 : decode cX8_init 38 = .ok (.newarray .int, 2) := by decide +kernel
theorem dX8_init_40 : decode cX8_init 40 = .ok (.putfield 22, 3) := by decide +kernel
theorem dX8_init_43 : decode cX8_init 43 = .ok (.aload_n 0, 1) := by decide +kernel
theorem dX8_init_44 : decode cX8_init 44 = .ok (.bipush 8, 2) := by decide +kernel
theorem dX8_init_46 : decode cX8_init 46 = .ok (.newarray .int, 2) := by decide +kernel
theorem dX8_init_48 : decode cX8_init 48 = .ok (.putfield 25, 3) := by decide +kernel
theorem dX8_init_51 : decode cX8_init 51 = .ok (.aload_n 0, 1) := by decide +kernel
theorem dX8_init_52 : decode cX8_init 52 = .ok (.bipush 80, 2) := by decide +kernel
theorem dX8_init_54 : decode cX8_init 54 = .ok (.newarray .int, 2) := by decide +kernel
theorem dX8_init_56 : decode cX8_init 56 = .ok (.putfield 28, 3) := by decide +kernel
theorem dX8_init_59 : decode cX8_init 59 = .ok (.aload_n 0, 1) := by decide +kernel
theorem dX8_init_60 : decode cX8_init 60 = .ok (.bipush 30, 2) := by decide +kernel
theorem dX8_init_62 : decode cX8_init 62 = .ok (.putfield 31, 3) := by decide +kernel
theorem dX8_init_65 : decode cX8_init 65 = .ok (.aload_n 0, 1) := by decide +kernel
theorem dX8_init_66 : decode cX8_init 66 = .ok (.iconst 1, 1) := by decide +kernel
theorem dX8_init_67 : decode cX8_init 67 = .ok (.putfield 35, 3) := by decide +kernel
theorem dX8_init_70 : decode cX8_init 70 = .ok (.aload_n 0, 1) := by decide +kernel
theorem dX8_init_71 : decode cX8_init 71 = .ok (.bipush 60, 2) := by decide +kernel
theorem dX8_init_73 : decode cX8_init 73 = .ok (.newarray .int, 2) := by decide +kernel
theorem dX8_init_75 : decode cX8_init 75 = .ok (.putfield 38, 3) := by decide +kernel
theorem dX8_init_78 : decode cX8_init 78 = .ok (.aload_n 0, 1) := by decide +kernel
theorem dX8_init_79 : decode cX8_init 79 = .ok (.bipush 10, 2) := by decide +kernel
theorem dX8_init_81 : decode cX8_init 81 = .ok (.newarray .int, 2) := by decide +kernel
theorem dX8_init_83 : decode cX8_init 83 = .ok (.putfield 41, 3) := by decide +kernel
theorem dX8_init_86 : decode cX8_init 86 = .ok (.aload_n 0, 1) := by decide +kernel
theorem dX8_init_87 : decode cX8_init 87 = .ok (.sipush 240, 3) := by decide +kernel
theorem dX8_init_90 : decode cX8_init 90 = .ok (.newarray .int, 2) := by decide +kernel
theorem dX8_init_92 : decode cX8_init 92 = .ok (.putfield 44, 3) := by decide +kernel
theorem dX8_init_95 : decode cX8_init 95 = .ok (.aload_n 0, 1) := by decide +kernel
theorem dX8_init_96 : decode cX8_init 96 = .ok (.bipush 52, 2) := by decide +kernel
theorem dX8_init_98 : decode cX8_init 98 = .ok (.newarray .boolean, 2) := by decide +kernel
theorem dX8_init_100 : decode cX8_init 100 = .ok (.putfield 47, 3) := by decide +kernel
theorem dX8_init_103 : decode cX8_init 103 = .ok (.aload_n 0, 1) := by decide +kernel
theorem dX8_init_104 : decode cX8_init 104 = .ok (.bipush 52, 2) := by decide +kernel
theorem dX8_init_106 : decode cX8_init 106 = .ok (.newarray .int, 2) := by decide +kernel
theorem dX8_init_108 : decode cX8_init 108 = .ok (.putfield 51, 3) := by decide +kernel
theorem dX8_init_111 : decode cX8_init 111 = .ok (.aload_n 0, 1) := by decide +kernel
theorem dX8_init_112 : decode cX8_init 112 = .ok (.iconst 4, 1) := by decide +kernel
theorem dX8_init_113 : decode cX8_init 113 = .ok (.newarray .int, 2) := by decide +kernel
theorem dX8_init_115 : decode cX8_init 115 = .ok (.putfield 54, 3) := by decide +kernel
theorem dX8_init_118 : decode cX8_init 118 = .ok (.aload_n 0, 1) := by decide +kernel
theorem dX8_init_119 : decode cX8_init 119 = .ok (.iconst 4, 1) := by decide +kernel
theorem dX8_init_120 : decode cX8_init 120 = .ok (.newarray .int, 2) := by decide +kernel
theorem dX8_init_122 : decode cX8_init 122 = .ok (.putfield 57, 3) := by decide +kernel
theorem dX8_init_125 : decode cX8_init 125 = .ok (.aload_n 0, 1) := by decide +kernel
theorem dX8_init_126 : decode cX8_init 126 = .ok (.sipush 240, 3) := by decide +kernel
theorem dX8_init_129 : decode cX8_init 129 = .ok (.newarray .int, 2) := by decide +kernel
theorem dX8_init_131 : decode cX8_init 131 = .ok (.putfield 60, 3) := by decide +kernel
theorem dX8_init_134 : decode cX8_init 134 = .ok (.aload_n 0, 1) := by decide +kernel
theorem dX8_init_135 : decode cX8_init 135 = .ok (.bipush 60, 2) := by decide +kernel
theorem dX8_init_137 : decode cX8_init 137 = .ok (.newarray .int, 2) := by decide +kernel
theorem dX8_init_139 : decode cX8_init 139 = .ok (.putfield 63, 3) := by decide +kernel
theorem dX8_init_142 : decode cX8_init 142 = .ok (.aload_n 0, 1) := by decide +kernel
theorem dX8_init_143 : decode cX8_init 143 = .ok (.getfield 7, 3) := by decide +kernel
theorem dX8_init_146 : decode cX8_init 146 = .ok (.iconst 0, 1) := by decide +kernel
theorem dX8_init_147 : decode cX8_init 147 = .ok (.bipush 100, 2) := by decide +kernel
theorem dX8_init_149 : decode cX8_init 149 = .ok (.iastore, 1) := by decide +kernel
theorem dX8_init_150 : decode cX8_init 150 = .ok (.aload_n 0, 1) := by decide +kernel
theorem dX8_init_151 : decode cX8_init 151 = .ok (.getfield 7, 3) := by decide +kernel
theorem dX8_init_154 : decode cX8_init 154 = .ok (.iconst 1, 1) := by decide +kernel
theorem dX8_init_155 : decode cX8_init 155 = .ok (.bipush 10, 2) := by decide +kernel
theorem dX8_init_157 : decode cX8_init 157 = .ok (.iastore, 1) := by decide +kernel
theorem dX8_init_158 : decode cX8_init 158 = .ok (.aload_n 0, 1) := by decide +kernel
theorem dX8_init_159 : decode cX8_init 159 = .ok (.getfield 7, 3) := by decide +kernel
theorem dX8_init_162 : decode cX8_init 162 = .ok (.iconst 2, 1) := by decide +kernel
theorem dX8_init_163 : decode cX8_init 163 = .ok (.bipush 20, 2) := by decide +kernel
theorem dX8_init_165 : decode cX8_init 165 = .ok (.iastore, 1) := by decide +kernel
theorem dX8_init_166 : decode cX8_init 166 = .ok (.aload_n 0, 1) := by decide +kernel
theorem dX8_init_167 : decode cX8_init 167 = .ok (.getfield 7, 3) := by decide +kernel
theorem dX8_init_170 : decode cX8_init 170 = .ok (.iconst 3, 1) := by decide +kernel
theorem dX8_init_171 : decode cX8_init 171 = .ok (.bipush 10, 2) := by decide +kernel
theorem dX8_init_173 : decode cX8_init 173 = .ok (.iastore, 1) := by decide +kernel
theorem dX8_init_174 : decode cX8_init 174 = .ok (.iconst 0, 1) := by decide +kernel
theorem dX8_init_175 : decode cX8_init 175 = .ok (.istore_n 1, 1) := by decide +kernel
theorem dX8_init_176 : decode cX8_init 176 = .ok (.iload_n 1, 1) := by decide +kernel
theorem dX8_init_177 : decode cX8_init 177 = .ok (.iconst 4, 1) := by decide +kernel
theorem dX8_init_178 : decode cX8_init 178 = .ok (.if_icmp .ge 16, 3) := by decide +kernel
theorem dX8_init_181 : decode cX8_init 181 = .ok (.aload_n 0, 1) := by decide +kernel
theorem dX8_init_182 : decode cX8_init 182 = .ok (.getfield 54, 3) := by decide +kernel
theorem dX8_init_185 : decode cX8_init 185 = .ok (.iload_n 1, 1) := by decide +kernel
theorem dX8_init_186 : decode cX8_init 186 = .ok (.iconst (-1), 1) := by decide +kernel
theorem dX8_init_187 : decode cX8_init 187 = .ok (.iastore, 1) := by decide +kernel
theorem dX8_init_188 : decode cX8_init 188 = .ok (.iinc 1 1, 3) := by decide +kernel
theorem dX8_init_191 : decode cX8_init 191 = .ok (.goto (-15), 3) := by decide +kernel
theorem dX8_init_194 : decode cX8_init 194 = .ok (.return_, 1) := by decide +kernel
theorem dX8_in_0 : decode cX8_in 0 = .ok (.lload_n 0, 1) := by decide +kernel
theorem dX8_in_1 : decode cX8_in 1 = .ok (.lload_n 2, 1) := by decide +kernel
theorem dX8_in_2 : decode cX8_in 2 = .ok (.lcmp, 1) := by decide +kernel
theorem dX8_in_3 : decode cX8_in 3 = .ok (.ifCond .lt 14, 3) := by decide +kernel
theorem dX8_in_6 : decode cX8_in 6 = .ok (.lload_n 0, 1) := by decide +kernel
theorem dX8_in_7 : decode cX8_in 7 = .ok (.lload 4, 2) := by decide +kernel
theorem dX8_in_9 : decode cX8_in 9 = .ok (.lcmp, 1) := by decide +kernel
theorem dX8_in_10 : decode cX8_in 10 = .ok (.ifCond .gt 7, 3) := by decide +kernel
theorem dX8_in_13 : decode cX8_in 13 = .ok (.iconst 1, 1) := by decide +kernel
theorem dX8_in_14 : decode cX8_in 14 = .ok (.goto 4, 3) := by decide +kernel
theorem dX8_in_17 : decode cX8_in 17 = .ok (.iconst 0, 1) := by decide +kernel
theorem dX8_in_18 : decode cX8_in 18 = .ok (.ireturn, 1) := by decide +kernel
set_option maxRecDepth 20000 in
theorem ggX8_isLetter_X8_in : GoodIn wsX8_isLetter wsX8_in := goodIn_r _ [5] (by decide +kernel) (by decide +kernel)
set_option maxRecDepth 20000 in
theorem gX8_isLetter_X8_in : GoodIn wsX8_isLetter (va_wsS RX8 69 yX8_in wsX8_in) := goodIn_app (goodIn_of _ (by decide +kernel)) ggX8_isLetter_X8_in
theorem dX8_isLetter_0 : decode cX8_isLetter 0 = .ok (.iload_n 1, 1) := by decide +kernel
theorem dX8_isLetter_1 : decode cX8_isLetter 1 = .ok (.i2l, 1) := by decide +kernel
theorem dX8_isLetter_2 : decode cX8_isLetter 2 = .ok (.lconst 0, 1) := by decide +kernel
theorem dX8_isLetter_3 : decode cX8_isLetter 3 = .ok (.aload_n 0, 1) := by decide +kernel
theorem dX8_isLetter_4 : decode cX8_isLetter 4 = .ok (.getfield 66, 3) := by decide +kernel
theorem dX8_isLetter_7 : decode cX8_isLetter 7 = .ok (.iconst 1, 1) := by decide +kernel
theorem dX8_isLetter_8 : decode cX8_isLetter 8 = .ok (.isub, 1) := by decide +kernel
theorem dX8_isLetter_9 : decode cX8_isLetter 9 = .ok (.i2l, 1) := by decide +kernel
theorem dX8_isLetter_10 : decode cX8_isLetter 10 = .ok (.invokestatic 69, 3) := by decide +kernel
theorem dX8_isLetter_13 : decode cX8_isLetter 13 = .ok (.ireturn, 1) := by decide +kernel
set_option maxRecDepth 20000 in
theorem ggX8_isWord_X8_in : GoodIn wsX8_isWord wsX8_in := goodIn_r _ [5] (by decide +kernel) (by decide +kernel)
set_option maxRecDepth 20000 in
theorem gX8_isWord_X8_in : GoodIn wsX8_isWord (va_wsS RX8 69 yX8_in wsX8_in) := goodIn_app (goodIn_of _ (by decide +kernel)) ggX8_isWord_X8_in
theorem dX8_isWord_0 : decode cX8_isWord 0 = .ok (.iload_n 0, 1) := by decide +kernel
theorem dX8_isWord_1 : decode cX8_isWord 1 = .ok (.i2l, 1) := by decide +kernel
theorem dX8_isWord_2 : decode cX8_isWord 2 = .ok (.lconst 0, 1) := by decide +kernel
theorem dX8_isWord_3 : decode cX8_isWord 3 = .ok (.ldc2_w 73, 3) := by decide +kernel
theorem dX8_isWord_6 : decode cX8_isWord 6 = .ok (.invokestatic 69, 3) := by decide +kernel
theorem dX8_isWord_9 : decode cX8_isWord 9 = .ok (.ireturn, 1) := by decide +kernel
set_option maxRecDepth 20000 in
theorem ggX8_letter_X8_in : GoodIn wsX8_letter wsX8_in := goodIn_r _ [11] (by decide +kernel) (by decide +kernel)
set_option maxRecDepth 20000 in
theorem gX8_letter_X8_in : GoodIn wsX8_letter (va_wsS RX8 69 yX8_in wsX8_in) := goodIn_app (goodIn_of _ (by decide +kernel)) ggX8_letter_X8_in
theorem dX8_letter_0 : decode cX8_letter 0 = .ok (.iload_n 1, 1) := by decide +kernel
theorem dX8_letter_1 : decode cX8_letter 1 = .ok (.i2l, 1) := by decide +kernel
theorem dX8_letter_2 : decode cX8_letter 2 = .ok (.lconst 1, 1) := by decide +kernel
theorem dX8_letter_3 : decode cX8_letter 3 = .ok (.ldc2_w 75, 3) := by decide +kernel
theorem dX8_letter_6 : decode cX8_letter 6 = .ok (.invokestatic 69, 3) := by decide +kernel
theorem dX8_letter_9 : decode cX8_letter 9 = .ok (.ifCond .eq 27, 3) := by decide +kernel
theorem dX8_letter_12 : decode cX8_letter 12 = .ok (.iload_n 2, 1) := by decide +kernel
theorem dX8_letter_13 : decode cX8_letter 13 = .ok (.i2l, 1) := by decide +kernel
theorem dX8_letter_14 : decode cX8_letter 14 = .ok (.lconst 1, 1) := by decide +kernel
theorem dX8_letter_15 : decode cX8_letter 15 = .ok (.ldc2_w 77, 3) := by decide +kernel
theorem dX8_letter_18 : decode cX8_letter 18 = .ok (.invokestatic 69, 3) := by decide +kernel
theorem dX8_letter_21 : decode cX8_letter 21 = .ok (.ifCond .eq 15, 3) := by decide +kernel
theorem dX8_letter_24 : decode cX8_letter 24 = .ok (.iload_n 3, 1) := by decide +kernel
theorem dX8_letter_25 : decode cX8_letter 25 = .ok (.i2l, 1) := by decide +kernel
theorem dX8_letter_26 : decode cX8_letter 26 = .ok (.lconst 1, 1) := by decide +kernel
theorem dX8_letter_27 : decode cX8_letter 27 = .ok (.ldc2_w 79, 3) := by decide +kernel
theorem dX8_letter_30 : decode cX8_letter 30 = .ok (.invokestatic 69, 3) := by decide +kernel
theorem dX8_letter_33 : decode cX8_letter 33 = .ok (.ifCond .ne 6, 3) := by decide +kernel
theorem dX8_letter_36 : decode cX8_letter 36 = .ok (.bipush (-2), 2) := by decide +kernel
theorem dX8_letter_38 : decode cX8_letter 38 = .ok (.ireturn, 1) := by decide +kernel
theorem dX8_letter_39 : decode cX8_letter 39 = .ok (.aload_n 0, 1) := by decide +kernel
theorem dX8_letter_40 : decode cX8_letter 40 = .ok (.getfield 66, 3) := by decide +kernel
theorem dX8_letter_43 : decode cX8_letter 43 = .ok (.bipush 16, 2) := by decide +kernel
theorem dX8_letter_45 : decode cX8_letter 45 = .ok (.if_icmp .ne 6, 3) := by decide +kernel
theorem dX8_letter_48 : decode cX8_letter 48 = .ok (.bipush (-4), 2) := by decide +kernel
theorem dX8_letter_50 : decode cX8_letter 50 = .ok (.ireturn, 1) := by decide +kernel
theorem dX8_letter_51 : decode cX8_letter 51 = .ok (.aload_n 0, 1) := by decide +kernel
theorem dX8_letter_52 : decode cX8_letter 52 = .ok (.getfield 13, 3) := by decide +kernel
theorem dX8_letter_55 : decode cX8_letter 55 = .ok (.aload_n 0, 1) := by decide +kernel
theorem dX8_letter_56 : decode cX8_letter 56 = .ok (.getfield 66, 3) := by decide +kernel
theorem dX8_letter_59 : decode cX8_letter 59 = .ok (.iload_n 1, 1) := by decide +kernel
theorem dX8_letter_60 : decode cX8_letter 60 = .ok (.iastore, 1) := by decide +kernel
theorem dX8_letter_61 : decode cX8_letter 61 = .ok (.aload_n 0, 1) := by decide +kernel
theorem dX8_letter_62 : decode cX8_letter 62 = .ok (.getfield 16, 3) := by decide +kernel
theorem dX8_letter_65 : decode cX8_letter 65 = .ok (.aload_n 0, 1) := by decide +kernel
theorem dX8_letter_66 : decode cX8_letter 66 = .ok (.getfield 66, 3) := by decide +kernel
theorem dX8_letter_69 : decode cX8_letter 69 = .ok (.iload_n 2, 1) := by decide +kernel
theorem dX8_letter_70 : decode cX8_letter 70 = .ok (.iastore, 1) := by decide +kernel
theorem dX8_letter_71 : decode cX8_letter 71 = .ok (.aload_n 0, 1) := by decide +kernel
theorem dX8_letter_72 : decode cX8_letter 72 = .ok (.getfield 19, 3) := by decide +kernel
theorem dX8_letter_75 : decode cX8_letter 75 = .ok (.aload_n 0, 1) := by decide +kernel
theorem dX8_letter_76 : decode cX8_letter 76 = .ok (.getfield 66, 3) := by decide +kernel
theorem dX8_letter_79 : decode cX8_letter 79 = .ok (.iload_n 3, 1) := by decide +kernel
theorem dX8_letter_80 : decode cX8_letter 80 = .ok (.iastore, 1) := by decide +kernel
theorem dX8_letter_81 : decode cX8_letter 81 = .ok (.aload_n 0, 1) := by decide +kernel
theorem dX8_letter_82 : decode cX8_letter 82 = .ok (.dup, 1) := by decide +kernel
theorem dX8_letter_83 : decode cX8_letter 83 = .ok (.getfield 66, 3) := by decide +kernel
theorem dX8_letter_86 : decode cX8_letter 86 = .ok (.iconst 1, 1) := by decide +kernel
theorem dX8_letter_87 : decode cX8_letter 87 = .ok (.iadd, 1) := by decide +kernel
theorem dX8_letter_88 : decode cX8_letter 88 = .ok (.putfield 66, 3) := by decide +kernel
theorem dX8_letter_91 : decode cX8_letter 91 = .ok (.aload_n 0, 1) := by decide +kernel
theorem dX8_letter_92 : decode cX8_letter 92 = .ok (.getfield 66, 3) := by decide +kernel
theorem dX8_letter_95 : decode cX8_letter 95 = .ok (.iconst 1, 1) := by decide +kernel
theorem dX8_letter_96 : decode cX8_letter 96 = .ok (.isub, 1) := by decide +kernel
theorem dX8_letter_97 : decode cX8_letter 97 = .ok (.ireturn, 1) := by decide +kernel
set_option maxRecDepth 20000 in
theorem ggX8_strip_X8_isLetter : GoodIn wsX8_strip wsX8_isLetter := goodIn_r _ [8, 9, 10, 11, 7, 12, 13, 14, 15, 16, 17, 18, 19, 20, 21, 22, 23, 24, 25, 26, 27, 28, 29, 30, 31, 32, 33, 34, 35, 36, 37, 38, 39, 40] (by decide +kernel) (by decide +kernel)
set_option maxRecDepth 20000 in
theorem gX8_strip_X8_isLetter : GoodIn wsX8_strip (wsV RX8 81 RX8 yX8_isLetter wsX8_isLetter) := goodIn_app (goodIn_of _ (by decide +kernel)) ggX8_strip_X8_isLetter
set_option maxRecDepth 20000 in
theorem ggX8_strip_X8_in : GoodIn wsX8_strip wsX8_in := goodIn_r _ [12] (by decide +kernel) (by decide +kernel)
set_option maxRecDepth 20000 in
theorem gX8_strip_X8_in : GoodIn wsX8_strip (va_wsS RX8 69 yX8_in wsX8_in) := goodIn_app (goodIn_of _ (by decide +kernel)) ggX8_strip_X8_in
theorem dX8_strip_0 : decode cX8_strip 0 = .ok (.aload_n 0, 1) := by decide +kernel
theorem dX8_strip_1 : decode cX8_strip 1 = .ok (.iload_n 1, 1) := by decide +kernel
theorem dX8_strip_2 : decode cX8_strip 2 = .ok (.invokevirtual 81, 3) := by decide +kernel
theorem dX8_strip_5 : decode cX8_strip 5 = .ok (.ifCond .eq 33, 3) := by decide +kernel
theorem dX8_strip_8 : decode cX8_strip 8 = .ok (.iload_n 2, 1) := by decide +kernel
theorem dX8_strip_9 : decode cX8_strip 9 = .ok (.i2l, 1) := by decide +kernel
theorem dX8_strip_10 : decode cX8_strip 10 = .ok (.lconst 0, 1) := by decide +kernel
theorem dX8_strip_11 : decode cX8_strip 11 = .ok (.aload_n 0, 1) := by decide +kernel
theorem dX8_strip_12 : decode cX8_strip 12 = .ok (.getfield 13, 3) := by decide +kernel
theorem dX8_strip_15 : decode cX8_strip 15 = .ok (.iload_n 1, 1) := by decide +kernel
theorem dX8_strip_16 : decode cX8_strip 16 = .ok (.iaload, 1) := by decide +kernel
theorem dX8_strip_17 : decode cX8_strip 17 = .ok (.iconst 1, 1) := by decide +kernel
theorem dX8_strip_18 : decode cX8_strip 18 = .ok (.isub, 1) := by decide +kernel
theorem dX8_strip_19 : decode cX8_strip 19 = .ok (.i2l, 1) := by decide +kernel
theorem dX8_strip_20 : decode cX8_strip 20 = .ok (.invokestatic 69, 3) := by decide +kernel
theorem dX8_strip_23 : decode cX8_strip 23 = .ok (.ifCond .eq 15, 3) := by decide +kernel
theorem dX8_strip_26 : decode cX8_strip 26 = .ok (.iload_n 3, 1) := by decide +kernel
theorem dX8_strip_27 : decode cX8_strip 27 = .ok (.i2l, 1) := by decide +kernel
theorem dX8_strip_28 : decode cX8_strip 28 = .ok (.lconst 0, 1) := by decide +kernel
theorem dX8_strip_29 : decode cX8_strip 29 = .ok (.ldc2_w 85, 3) := by decide +kernel
theorem dX8_strip_32 : decode cX8_strip 32 = .ok (.invokestatic 69, 3) := by decide +kernel
theorem dX8_strip_35 : decode cX8_strip 35 = .ok (.ifCond .ne 6, 3) := by decide +kernel
theorem dX8_strip_38 : decode cX8_strip 38 = .ok (.bipush (-2), 2) := by decide +kernel
theorem dX8_strip_40 : decode cX8_strip 40 = .ok (.ireturn, 1) := by decide +kernel
theorem dX8_strip_41 : decode cX8_strip 41 = .ok (.aload_n 0, 1) := by decide +kernel
theorem dX8_strip_42 : decode cX8_strip 42 = .ok (.getfield 22, 3) := by decide +kernel
theorem dX8_strip_45 : decode cX8_strip 45 = .ok (.iconst 5, 1) := by decide +kernel
theorem dX8_strip_46 : decode cX8_strip 46 = .ok (.iload_n 1, 1) := by decide +kernel
theorem dX8_strip_47 : decode cX8_strip 47 = .ok (.imul, 1) := by decide +kernel
theorem dX8_strip_48 : decode cX8_strip 48 = .ok (.iload_n 2, 1) := by decide +kernel
theorem dX8_strip_49 : decode cX8_strip 49 = .ok (.iadd, 1) := by decide +kernel
theorem dX8_strip_50 : decode cX8_strip 50 = .ok (.iaload, 1) := by decide +kernel
theorem dX8_strip_51 : decode cX8_strip 51 = .ok (.istore 4, 2) := by decide +kernel
theorem dX8_strip_53 : decode cX8_strip 53 = .ok (.aload_n 0, 1) := by decide +kernel
theorem dX8_strip_54 : decode cX8_strip 54 = .ok (.getfield 22, 3) := by decide +kernel
theorem dX8_strip_57 : decode cX8_strip 57 = .ok (.iconst 5, 1) := by decide +kernel
theorem dX8_strip_58 : decode cX8_strip 58 = .ok (.iload_n 1, 1) := by decide +kernel
theorem dX8_strip_59 : decode cX8_strip 59 = .ok (.imul, 1) := by decide +kernel
theorem dX8_strip_60 : decode cX8_strip 60 = .ok (.iload_n 2, 1) := by decide +kernel
theorem dX8_strip_61 : decode cX8_strip 61 = .ok (.iadd, 1) := by decide +kernel
theorem dX8_strip_62 : decode cX8_strip 62 = .ok (.iload_n 3, 1) := by decide +kernel
theorem dX8_strip_63 : decode cX8_strip 63 = .ok (.iastore, 1) := by decide +kernel
theorem dX8_strip_64 : decode cX8_strip 64 = .ok (.iload 4, 2) := by decide +kernel
theorem dX8_strip_66 : decode cX8_strip 66 = .ok (.ireturn, 1) := by decide +kernel
set_option maxRecDepth 20000 in
theorem ggX8_about_X8_isLetter : GoodIn wsX8_about wsX8_isLetter := goodIn_r _ [10, 11, 12, 13, 9, 14, 15, 16, 17, 18, 19, 20, 21, 22, 23, 24, 25, 26, 27, 28, 29, 30, 31, 32, 33, 34, 35, 36, 37, 38, 39, 40, 41, 42] (by decide +kernel) (by decide +kernel)
set_option maxRecDepth 20000 in
theorem gX8_about_X8_isLetter : GoodIn wsX8_about (wsV RX8 81 RX8 yX8_isLetter wsX8_isLetter) := goodIn_app (goodIn_of _ (by decide +kernel)) ggX8_about_X8_isLetter
set_option maxRecDepth 20000 in
theorem ggX8_about_X8_in : GoodIn wsX8_about wsX8_in := goodIn_r _ [14] (by decide +kernel) (by decide +kernel)
set_option maxRecDepth 20000 in
theorem gX8_about_X8_in : GoodIn wsX8_about (va_wsS RX8 69 yX8_in wsX8_in) := goodIn_app (goodIn_of _ (by decide +kernel)) ggX8_about_X8_in
theorem dX8_about_0 : decode cX8_about 0 = .ok (.aload_n 0, 1) := by decide +kernel
theorem dX8_about_1 : decode cX8_about 1 = .ok (.iload_n 1, 1) := by decide +kernel
theorem dX8_about_2 : decode cX8_about 2 = .ok (.invokevirtual 81, 3) := by decide +kernel
theorem dX8_about_5 : decode cX8_about 5 = .ok (.ifCond .ne 6, 3) := by decide +kernel
theorem dX8_about_8 : decode cX8_about 8 = .ok (.bipush (-2), 2) := by decide +kernel
theorem dX8_about_10 : decode cX8_about 10 = .ok (.ireturn, 1) := by decide +kernel
theorem dX8_about_11 : decode cX8_about 11 = .ok (.iload_n 2, 1) := by decide +kernel
theorem dX8_about_12 : decode cX8_about 12 = .ok (.tableswitch 49 0 2 #[28, 35, 42], 28) := by decide +kernel
theorem dX8_about_40 : decode cX8_about 40 = .ok (.aload_n 0, 1) := by decide +kernel
theorem dX8_about_41 : decode cX8_about 41 = .ok (.getfield 13, 3) := by decide +kernel
theorem dX8_about_44 : decode cX8_about 44 = .ok (.iload_n 1, 1) := by decide +kernel
theorem dX8_about_45 : decode cX8_about 45 = .ok (.iaload, 1) := by decide +kernel
theorem dX8_about_46 : decode cX8_about 46 = .ok (.ireturn, 1) := by decide +kernel
theorem dX8_about_47 : decode cX8_about 47 = .ok (.aload_n 0, 1) := by decide +kernel
theorem dX8_about_48 : decode cX8_about 48 = .ok (.getfield 16, 3) := by decide +kernel
theorem dX8_about_51 : decode cX8_about 51 = .ok (.iload_n 1, 1) := by decide +kernel
theorem dX8_about_52 : decode cX8_about 52 = .ok (.iaload, 1) := by decide +kernel
theorem dX8_about_53 : decode cX8_about 53 = .ok (.ireturn, 1) := by decide +kernel
theorem dX8_about_54 : decode cX8_about 54 = .ok (.aload_n 0, 1) := by decide +kernel
theorem dX8_about_55 : decode cX8_about 55 = .ok (.getfield 19, 3) := by decide +kernel
theorem dX8_about_58 : decode cX8_about 58 = .ok (.iload_n 1, 1) := by decide +kernel
theorem dX8_about_59 : decode cX8_about 59 = .ok (.iaload, 1) := by decide +kernel
theorem dX8_about_60 : decode cX8_about 60 = .ok (.ireturn, 1) := by decide +kernel
theorem dX8_about_61 : decode cX8_about 61 = .ok (.iload_n 2, 1) := by decide +kernel
theorem dX8_about_62 : decode cX8_about 62 = .ok (.i2l, 1) := by decide +kernel
theorem dX8_about_63 : decode cX8_about 63 = .ok (.ldc2_w 87, 3) := by decide +kernel
theorem dX8_about_66 : decode cX8_about 66 = .ok (.bipush 9, 2) := by decide +kernel
theorem dX8_about_68 : decode cX8_about 68 = .ok (.aload_n 0, 1) := by decide +kernel
theorem dX8_about_69 : decode cX8_about 69 = .ok (.getfield 13, 3) := by decide +kernel
theorem dX8_about_72 : decode cX8_about 72 = .ok (.iload_n 1, 1) := by decide +kernel
theorem dX8_about_73 : decode cX8_about 73 = .ok (.iaload, 1) := by decide +kernel
theorem dX8_about_74 : decode cX8_about 74 = .ok (.iadd, 1) := by decide +kernel
theorem dX8_about_75 : decode cX8_about 75 = .ok (.i2l, 1) := by decide +kernel
theorem dX8_about_76 : decode cX8_about 76 = .ok (.invokestatic 69, 3) := by decide +kernel
theorem dX8_about_79 : decode cX8_about 79 = .ok (.ifCond .eq 19, 3) := by decide +kernel
theorem dX8_about_82 : decode cX8_about 82 = .ok (.aload_n 0, 1) := by decide +kernel
theorem dX8_about_83 : decode cX8_about 83 = .ok (.getfield 22, 3) := by decide +kernel
theorem dX8_about_86 : decode cX8_about 86 = .ok (.iconst 5, 1) := by decide +kernel
theorem dX8_about_87 : decode cX8_about 87 = .ok (.iload_n 1, 1) := by decide +kernel
theorem dX8_about_88 : decode cX8_about 88 = .ok (.imul, 1) := by decide +kernel
theorem dX8_about_89 : decode cX8_about 89 = .ok (.iload_n 2, 1) := by decide +kernel
theorem dX8_about_90 : decode cX8_about 90 = .ok (.iadd, 1) := by decide +kernel
theorem dX8_about_91 : decode cX8_about 91 = .ok (.bipush 10, 2) := by decide +kernel
theorem dX8_about_93 : decode cX8_about 93 = .ok (.isub, 1) := by decide +kernel
theorem dX8_about_94 : decode cX8_about 94 = .ok (.iaload, 1) := by decide +kernel
theorem dX8_about_95 : decode cX8_about 95 = .ok (.goto 5, 3) := by decide +kernel
theorem dX8_about_98 : decode cX8_about 98 = .ok (.bipush (-2), 2) := by decide +kernel
theorem dX8_about_100 : decode cX8_about 100 = .ok (.ireturn, 1) := by decide +kernel
set_option maxRecDepth 20000 in
theorem ggX8_spell_X8_isWord : GoodIn wsX8_spell wsX8_isWord := goodIn_r _ [6, 7, 8, 9, 5, 10] (by decide +kernel) (by decide +kernel)
set_option maxRecDepth 20000 in
theorem gX8_spell_X8_isWord : GoodIn wsX8_spell (va_wsS RX8 89 yX8_isWord wsX8_isWord) := goodIn_app (goodIn_of _ (by decide +kernel)) ggX8_spell_X8_isWord
set_option maxRecDepth 20000 in
theorem ggX8_spell_X8_isLetter : GoodIn wsX8_spell wsX8_isLetter := goodIn_r _ [14, 15, 8, 9, 5, 10, 16, 17, 18, 19, 20, 21, 22, 23, 24, 25, 26, 27, 28, 29, 30, 31, 32, 33, 34, 35, 36, 37, 38, 39, 40, 41, 42, 43] (by decide +kernel) (by decide +kernel)
set_option maxRecDepth 20000 in
theorem gX8_spell_X8_isLetter : GoodIn wsX8_spell (wsV RX8 81 RX8 yX8_isLetter wsX8_isLetter) := goodIn_app (goodIn_of _ (by decide +kernel)) ggX8_spell_X8_isLetter
theorem dX8_spell_0 : decode cX8_spell 0 = .ok (.iload_n 1, 1) := by decide +kernel
theorem dX8_spell_1 : decode cX8_spell 1 = .ok (.invokestatic 89, 3) := by decide +kernel
theorem dX8_spell_4 : decode cX8_spell 4 = .ok (.ifCond .eq 11, 3) := by decide +kernel
theorem dX8_spell_7 : decode cX8_spell 7 = .ok (.aload_n 0, 1) := by decide +kernel
theorem dX8_spell_8 : decode cX8_spell 8 = .ok (.iload_n 2, 1) := by decide +kernel
theorem dX8_spell_9 : decode cX8_spell 9 = .ok (.invokevirtual 81, 3) := by decide +kernel
theorem dX8_spell_12 : decode cX8_spell 12 = .ok (.ifCond .ne 6, 3) := by decide +kernel
theorem dX8_spell_15 : decode cX8_spell 15 = .ok (.bipush (-2), 2) := by decide +kernel
theorem dX8_spell_17 : decode cX8_spell 17 = .ok (.ireturn, 1) := by decide +kernel
theorem dX8_spell_18 : decode cX8_spell 18 = .ok (.aload_n 0, 1) := by decide +kernel
theorem dX8_spell_19 : decode cX8_spell 19 = .ok (.getfield 25, 3) := by decide +kernel
theorem dX8_spell_22 : decode cX8_spell 22 = .ok (.iload_n 1, 1) := by decide +kernel
theorem dX8_spell_23 : decode cX8_spell 23 = .ok (.iaload, 1) := by decide +kernel
theorem dX8_spell_24 : decode cX8_spell 24 = .ok (.bipush 10, 2) := by decide +kernel
theorem dX8_spell_26 : decode cX8_spell 26 = .ok (.if_icmp .ne 6, 3) := by decide +kernel
theorem dX8_spell_29 : decode cX8_spell 29 = .ok (.bipush (-4), 2) := by decide +kernel
theorem dX8_spell_31 : decode cX8_spell 31 = .ok (.ireturn, 1) := by decide +kernel
theorem dX8_spell_32 : decode cX8_spell 32 = .ok (.aload_n 0, 1) := by decide +kernel
theorem dX8_spell_33 : decode cX8_spell 33 = .ok (.getfield 28, 3) := by decide +kernel
theorem dX8_spell_36 : decode cX8_spell 36 = .ok (.bipush 10, 2) := by decide +kernel
theorem dX8_spell_38 : decode cX8_spell 38 = .ok (.iload_n 1, 1) := by decide +kernel
theorem dX8_spell_39 : decode cX8_spell 39 = .ok (.imul, 1) := by decide +kernel
theorem dX8_spell_40 : decode cX8_spell 40 = .ok (.aload_n 0, 1) := by decide +kernel
theorem dX8_spell_41 : decode cX8_spell 41 = .ok (.getfield 25, 3) := by decide +kernel
theorem dX8_spell_44 : decode cX8_spell 44 = .ok (.iload_n 1, 1) := by decide +kernel
theorem dX8_spell_45 : decode cX8_spell 45 = .ok (.iaload, 1) := by decide +kernel
theorem dX8_spell_46 : decode cX8_spell 46 = .ok (.iadd, 1) := by decide +kernel
theorem dX8_spell_47 : decode cX8_spell 47 = .ok (.iload_n 2, 1) := by decide +kernel
theorem dX8_spell_48 : decode cX8_spell 48 = .ok (.iastore, 1) := by decide +kernel
theorem dX8_spell_49 : decode cX8_spell 49 = .ok (.aload_n 0, 1) := by decide +kernel
theorem dX8_spell_50 : decode cX8_spell 50 = .ok (.getfield 25, 3) := by decide +kernel
theorem dX8_spell_53 : decode cX8_spell 53 = .ok (.iload_n 1, 1) := by decide +kernel
theorem dX8_spell_54 : decode cX8_spell 54 = .ok (.dup2, 1) := by decide +kernel
theorem dX8_spell_55 : decode cX8_spell 55 = .ok (.iaload, 1) := by decide +kernel
theorem dX8_spell_56 : decode cX8_spell 56 = .ok (.iconst 1, 1) := by decide +kernel
theorem dX8_spell_57 : decode cX8_spell 57 = .ok (.iadd, 1) := by decide +kernel
theorem dX8_spell_58 : decode cX8_spell 58 = .ok (.iastore, 1) := by decide +kernel
theorem dX8_spell_59 : decode cX8_spell 59 = .ok (.aload_n 0, 1) := by decide +kernel
theorem dX8_spell_60 : decode cX8_spell 60 = .ok (.getfield 25, 3) := by decide +kernel
theorem dX8_spell_63 : decode cX8_spell 63 = .ok (.iload_n 1, 1) := by decide +kernel
theorem dX8_spell_64 : decode cX8_spell 64 = .ok (.iaload, 1) := by decide +kernel
theorem dX8_spell_65 : decode cX8_spell 65 = .ok (.ireturn, 1) := by decide +kernel
set_option maxRecDepth 20000 in
theorem ggX8_wipe_X8_isWord : GoodIn wsX8_wipe wsX8_isWord := goodIn_r _ [5, 6, 7, 8, 4, 9] (by decide +kernel) (by decide +kernel)
set_option maxRecDepth 20000 in
theorem gX8_wipe_X8_isWord : GoodIn wsX8_wipe (va_wsS RX8 89 yX8_isWord wsX8_isWord) := goodIn_app (goodIn_of _ (by decide +kernel)) ggX8_wipe_X8_isWord
theorem dX8_wipe_0 : decode cX8_wipe 0 = .ok (.iload_n 1, 1) := by decide +kernel
theorem dX8_wipe_1 : decode cX8_wipe 1 = .ok (.invokestatic 89, 3) := by decide +kernel
theorem dX8_wipe_4 : decode cX8_wipe 4 = .ok (.ifCond .ne 6, 3) := by decide +kernel
theorem dX8_wipe_7 : decode cX8_wipe 7 = .ok (.bipush (-2), 2) := by decide +kernel
theorem dX8_wipe_9 : decode cX8_wipe 9 = .ok (.ireturn, 1) := by decide +kernel
theorem dX8_wipe_10 : decode cX8_wipe 10 = .ok (.aload_n 0, 1) := by decide +kernel
theorem dX8_wipe_11 : decode cX8_wipe 11 = .ok (.getfield 25, 3) := by decide +kernel
theorem dX8_wipe_14 : decode cX8_wipe 14 = .ok (.iload_n 1, 1) := by decide +kernel
theorem dX8_wipe_15 : decode cX8_wipe 15 = .ok (.iaload, 1) := by decide +kernel
theorem dX8_wipe_16 : decode cX8_wipe 16 = .ok (.istore_n 2, 1) := by decide +kernel
theorem dX8_wipe_17 : decode cX8_wipe 17 = .ok (.aload_n 0, 1) := by decide +kernel
theorem dX8_wipe_18 : decode cX8_wipe 18 = .ok (.getfield 25, 3) := by decide +kernel
theorem dX8_wipe_21 : decode cX8_wipe 21 = .ok (.iload_n 1, 1) := by decide +kernel
theorem dX8_wipe_22 : decode cX8_wipe 22 = .ok (.iconst 0, 1) := by decide +kernel
theorem dX8_wipe_23 : decode cX8_wipe 23 = .ok (.iastore, 1) := by decide +kernel
theorem dX8_wipe_24 : decode cX8_wipe 24 = .ok (.iload_n 2, 1) := by decide +kernel
theorem dX8_wipe_25 : decode cX8_wipe 25 = .ok (.ireturn, 1) := by decide +kernel
set_option maxRecDepth 20000 in
theorem ggX8_slots_X8_in : GoodIn wsX8_slots wsX8_in := goodIn_r _ [7] (by decide +kernel) (by decide +kernel)
set_option maxRecDepth 20000 in
theorem gX8_slots_X8_in : GoodIn wsX8_slots (va_wsS RX8 69 yX8_in wsX8_in) := goodIn_app (goodIn_of _ (by decide +kernel)) ggX8_slots_X8_in
theorem dX8_slots_0 : decode cX8_slots 0 = .ok (.iload_n 1, 1) := by decide +kernel
theorem dX8_slots_1 : decode cX8_slots 1 = .ok (.i2l, 1) := by decide +kernel
theorem dX8_slots_2 : decode cX8_slots 2 = .ok (.ldc2_w 75, 3) := by decide +kernel
theorem dX8_slots_5 : decode cX8_slots 5 = .ok (.ldc2_w 92, 3) := by decide +kernel
theorem dX8_slots_8 : decode cX8_slots 8 = .ok (.invokestatic 69, 3) := by decide +kernel
theorem dX8_slots_11 : decode cX8_slots 11 = .ok (.ifCond .ne 6, 3) := by decide +kernel
theorem dX8_slots_14 : decode cX8_slots 14 = .ok (.bipush (-2), 2) := by decide +kernel
theorem dX8_slots_16 : decode cX8_slots 16 = .ok (.ireturn, 1) := by decide +kernel
theorem dX8_slots_17 : decode cX8_slots 17 = .ok (.aload_n 0, 1) := by decide +kernel
theorem dX8_slots_18 : decode cX8_slots 18 = .ok (.getfield 31, 3) := by decide +kernel
theorem dX8_slots_21 : decode cX8_slots 21 = .ok (.istore_n 2, 1) := by decide +kernel
theorem dX8_slots_22 : decode cX8_slots 22 = .ok (.aload_n 0, 1) := by decide +kernel
theorem dX8_slots_23 : decode cX8_slots 23 = .ok (.iload_n 1, 1) := by decide +kernel
theorem dX8_slots_24 : decode cX8_slots 24 = .ok (.putfield 31, 3) := by decide +kernel
theorem dX8_slots_27 : decode cX8_slots 27 = .ok (.iload_n 2, 1) := by decide +kernel
theorem dX8_slots_28 : decode cX8_slots 28 = .ok (.ireturn, 1) := by decide +kernel
set_option maxRecDepth 20000 in
theorem ggX8_gap_X8_in : GoodIn wsX8_gap wsX8_in := goodIn_r _ [6] (by decide +kernel) (by decide +kernel)
set_option maxRecDepth 20000 in
theorem gX8_gap_X8_in : GoodIn wsX8_gap (va_wsS RX8 69 yX8_in wsX8_in) := goodIn_app (goodIn_of _ (by decide +kernel)) ggX8_gap_X8_in
theorem dX8_gap_0 : decode cX8_gap 0 = .ok (.iload_n 1, 1) := by decide +kernel
theorem dX8_gap_1 : decode cX8_gap 1 = .ok (.i2l, 1) := by decide +kernel
theorem dX8_gap_2 : decode cX8_gap 2 = .ok (.lconst 0, 1) := by decide +kernel
theorem dX8_gap_3 : decode cX8_gap 3 = .ok (.ldc2_w 94, 3) := by decide +kernel
theorem dX8_gap_6 : decode cX8_gap 6 = .ok (.invokestatic 69, 3) := by decide +kernel
theorem dX8_gap_9 : decode cX8_gap 9 = .ok (.ifCond .ne 6, 3) := by decide +kernel
theorem dX8_gap_12 : decode cX8_gap 12 = .ok (.bipush (-2), 2) := by decide +kernel
theorem dX8_gap_14 : decode cX8_gap 14 = .ok (.ireturn, 1) := by decide +kernel
theorem dX8_gap_15 : decode cX8_gap 15 = .ok (.aload_n 0, 1) := by decide +kernel
theorem dX8_gap_16 : decode cX8_gap 16 = .ok (.getfield 35, 3) := by decide +kernel
theorem dX8_gap_19 : decode cX8_gap 19 = .ok (.istore_n 2, 1) := by decide +kernel
theorem dX8_gap_20 : decode cX8_gap 20 = .ok (.aload_n 0, 1) := by decide +kernel
theorem dX8_gap_21 : decode cX8_gap 21 = .ok (.iload_n 1, 1) := by decide +kernel
theorem dX8_gap_22 : decode cX8_gap 22 = .ok (.putfield 35, 3) := by decide +kernel
theorem dX8_gap_25 : decode cX8_gap 25 = .ok (.iload_n 2, 1) := by decide +kernel
theorem dX8_gap_26 : decode cX8_gap 26 = .ok (.ireturn, 1) := by decide +kernel
theorem dX8_wideOf_0 : decode cX8_wideOf 0 = .ok (.iconst 0, 1) := by decide +kernel
theorem dX8_wideOf_1 : decode cX8_wideOf 1 = .ok (.istore_n 2, 1) := by decide +kernel
theorem dX8_wideOf_2 : decode cX8_wideOf 2 = .ok (.iconst 0, 1) := by decide +kernel
theorem dX8_wideOf_3 : decode cX8_wideOf 3 = .ok (.istore_n 3, 1) := by decide +kernel
theorem dX8_wideOf_4 : decode cX8_wideOf 4 = .ok (.iload_n 3, 1) := by decide +kernel
theorem dX8_wideOf_5 : decode cX8_wideOf 5 = .ok (.aload_n 0, 1) := by decide +kernel
theorem dX8_wideOf_6 : decode cX8_wideOf 6 = .ok (.getfield 25, 3) := by decide +kernel
theorem dX8_wideOf_9 : decode cX8_wideOf 9 = .ok (.iload_n 1, 1) := by decide +kernel
theorem dX8_wideOf_10 : decode cX8_wideOf 10 = .ok (.iaload, 1) := by decide +kernel
theorem dX8_wideOf_11 : decode cX8_wideOf 11 = .ok (.if_icmp .ge 33, 3) := by decide +kernel
theorem dX8_wideOf_14 : decode cX8_wideOf 14 = .ok (.iload_n 2, 1) := by decide +kernel
theorem dX8_wideOf_15 : decode cX8_wideOf 15 = .ok (.aload_n 0, 1) := by decide +kernel
theorem dX8_wideOf_16 : decode cX8_wideOf 16 = .ok (.getfield 13, 3) := by decide +kernel
theorem dX8_wideOf_19 : decode cX8_wideOf 19 = .ok (.aload_n 0, 1) := by decide +kernel
theorem dX8_wideOf_20 : decode cX8_wideOf 20 = .ok (.getfield 28, 3) := by decide +kernel
theorem dX8_wideOf_23 : decode cX8_wideOf 23 = .ok (.bipush 10, 2) := by decide +kernel
theorem dX8_wideOf_25 : decode cX8_wideOf 25 = .ok (.iload_n 1, 1) := by decide +kernel
theorem dX8_wideOf_26 : decode cX8_wideOf 26 = .ok (.imul, 1) := by decide +kernel
theorem dX8_wideOf_27 : decode cX8_wideOf 27 = .ok (.iload_n 3, 1) := by decide +kernel
theorem dX8_wideOf_28 : decode cX8_wideOf 28 = .ok (.iadd, 1) := by decide +kernel
theorem dX8_wideOf_29 : decode cX8_wideOf 29 = .ok (.iaload, 1) := by decide +kernel
theorem dX8_wideOf_30 : decode cX8_wideOf 30 = .ok (.iaload, 1) := by decide +kernel
theorem dX8_wideOf_31 : decode cX8_wideOf 31 = .ok (.aload_n 0, 1) := by decide +kernel
theorem dX8_wideOf_32 : decode cX8_wideOf 32 = .ok (.getfield 35, 3) := by decide +kernel
theorem dX8_wideOf_35 : decode cX8_wideOf 35 = .ok (.iadd, 1) := by decide +kernel
theorem dX8_wideOf_36 : decode cX8_wideOf 36 = .ok (.iadd, 1) := by decide +kernel
theorem dX8_wideOf_37 : decode cX8_wideOf 37 = .ok (.istore_n 2, 1) := by decide +kernel
theorem dX8_wideOf_38 : decode cX8_wideOf 38 = .ok (.iinc 3 1, 3) := by decide +kernel
theorem dX8_wideOf_41 : decode cX8_wideOf 41 = .ok (.goto (-37), 3) := by decide +kernel
theorem dX8_wideOf_44 : decode cX8_wideOf 44 = .ok (.iload_n 2, 1) := by decide +kernel
theorem dX8_wideOf_45 : decode cX8_wideOf 45 = .ok (.ireturn, 1) := by decide +kernel
set_option maxRecDepth 20000 in
theorem ggX8_fits_X8_wideOf : GoodIn wsX8_fits wsX8_wideOf := goodIn_r _ [7, 1, 8, 9, 10, 11, 12, 13, 14, 15, 16, 17, 18, 19, 20, 21, 22, 23, 24, 25, 26, 27, 28, 29, 30, 31, 32, 33, 34, 35, 36, 37, 38] (by decide +kernel) (by decide +kernel)
set_option maxRecDepth 20000 in
theorem gX8_fits_X8_wideOf : GoodIn wsX8_fits (wsV RX8 96 RX8 yX8_wideOf wsX8_wideOf) := goodIn_app (goodIn_of _ (by decide +kernel)) ggX8_fits_X8_wideOf
theorem dX8_fits_0 : decode cX8_fits 0 = .ok (.aload_n 0, 1) := by decide +kernel
theorem dX8_fits_1 : decode cX8_fits 1 = .ok (.getfield 25, 3) := by decide +kernel
theorem dX8_fits_4 : decode cX8_fits 4 = .ok (.iload_n 1, 1) := by decide +kernel
theorem dX8_fits_5 : decode cX8_fits 5 = .ok (.iaload, 1) := by decide +kernel
theorem dX8_fits_6 : decode cX8_fits 6 = .ok (.ifCond .le 19, 3) := by decide +kernel
theorem dX8_fits_9 : decode cX8_fits 9 = .ok (.aload_n 0, 1) := by decide +kernel
theorem dX8_fits_10 : decode cX8_fits 10 = .ok (.iload_n 1, 1) := by decide +kernel
theorem dX8_fits_11 : decode cX8_fits 11 = .ok (.invokevirtual 96, 3) := by decide +kernel
theorem dX8_fits_14 : decode cX8_fits 14 = .ok (.aload_n 0, 1) := by decide +kernel
theorem dX8_fits_15 : decode cX8_fits 15 = .ok (.getfield 31, 3) := by decide +kernel
theorem dX8_fits_18 : decode cX8_fits 18 = .ok (.if_icmp .gt 7, 3) := by decide +kernel
theorem dX8_fits_21 : decode cX8_fits 21 = .ok (.iconst 1, 1) := by decide +kernel
theorem dX8_fits_22 : decode cX8_fits 22 = .ok (.goto 4, 3) := by decide +kernel
theorem dX8_fits_25 : decode cX8_fits 25 = .ok (.iconst 0, 1) := by decide +kernel
theorem dX8_fits_26 : decode cX8_fits 26 = .ok (.ireturn, 1) := by decide +kernel
set_option maxRecDepth 20000 in
theorem ggX8_wide_X8_isWord : GoodIn wsX8_wide wsX8_isWord := goodIn_r _ [4, 5, 6, 7, 3, 8] (by decide +kernel) (by decide +kernel)
set_option maxRecDepth 20000 in
theorem gX8_wide_X8_isWord : GoodIn wsX8_wide (va_wsS RX8 89 yX8_isWord wsX8_isWord) := goodIn_app (goodIn_of _ (by decide +kernel)) ggX8_wide_X8_isWord
set_option maxRecDepth 20000 in
theorem ggX8_wide_X8_wideOf : GoodIn wsX8_wide wsX8_wideOf := goodIn_r _ [12, 13, 14, 15, 16, 17, 18, 19, 20, 21, 22, 23, 24, 25, 26, 27, 28, 29, 30, 31, 32, 33, 34, 35, 36, 37, 38, 39, 40, 41, 42, 43, 44] (by decide +kernel) (by decide +kernel)
set_option maxRecDepth 20000 in
theorem gX8_wide_X8_wideOf : GoodIn wsX8_wide (wsV RX8 96 RX8 yX8_wideOf wsX8_wideOf) := goodIn_app (goodIn_of _ (by decide +kernel)) ggX8_wide_X8_wideOf
theorem dX8_wide_0 : decode cX8_wide 0 = .ok (.iload_n 1, 1) := by decide +kernel
theorem dX8_wide_1 : decode cX8_wide 1 = .ok (.invokestatic 89, 3) := by decide +kernel
theorem dX8_wide_4 : decode cX8_wide 4 = .ok (.ifCond .eq 11, 3) := by decide +kernel
theorem dX8_wide_7 : decode cX8_wide 7 = .ok (.aload_n 0, 1) := by decide +kernel
theorem dX8_wide_8 : decode cX8_wide 8 = .ok (.iload_n 1, 1) := by decide +kernel
theorem dX8_wide_9 : decode cX8_wide 9 = .ok (.invokevirtual 96, 3) := by decide +kernel
theorem dX8_wide_12 : decode cX8_wide 12 = .ok (.goto 5, 3) := by decide +kernel
theorem dX8_wide_15 : decode cX8_wide 15 = .ok (.bipush (-2), 2) := by decide +kernel
theorem dX8_wide_17 : decode cX8_wide 17 = .ok (.ireturn, 1) := by decide +kernel
set_option maxRecDepth 20000 in
theorem ggX8_longest_X8_fits : GoodIn wsX8_longest wsX8_fits := goodIn_r _ [6, 1, 7, 8, 9, 10, 5, 11, 12, 13, 14, 15, 16, 17, 18, 19, 20, 21, 22, 23, 24, 25, 26, 27, 28, 29, 30, 31, 32, 33, 34, 35, 36, 37, 38, 39, 40, 41, 42] (by decide +kernel) (by decide +kernel)
set_option maxRecDepth 20000 in
theorem gX8_longest_X8_fits : GoodIn wsX8_longest (wsV RX8 100 RX8 yX8_fits wsX8_fits) := goodIn_app (goodIn_of _ (by decide +kernel)) ggX8_longest_X8_fits
set_option maxRecDepth 20000 in
theorem ggX8_longest_X8_wideOf : GoodIn wsX8_longest wsX8_wideOf := goodIn_r _ [11, 1, 12, 13, 14, 15, 16, 17, 18, 19, 20, 21, 22, 23, 24, 25, 26, 27, 28, 29, 30, 31, 32, 33, 34, 35, 36, 37, 38, 39, 40, 41, 42] (by decide +kernel) (by decide +kernel)
set_option maxRecDepth 20000 in
theorem gX8_longest_X8_wideOf : GoodIn wsX8_longest (wsV RX8 96 RX8 yX8_wideOf wsX8_wideOf) := goodIn_app (goodIn_of _ (by decide +kernel)) ggX8_longest_X8_wideOf
theorem dX8_longest_0 : decode cX8_longest 0 = .ok (.iconst (-1), 1) := by decide +kernel
theorem dX8_longest_1 : decode cX8_longest 1 = .ok (.istore_n 1, 1) := by decide +kernel
theorem dX8_longest_2 : decode cX8_longest 2 = .ok (.iconst 0, 1) := by decide +kernel
theorem dX8_longest_3 : decode cX8_longest 3 = .ok (.istore_n 2, 1) := by decide +kernel
theorem dX8_longest_4 : decode cX8_longest 4 = .ok (.iload_n 2, 1) := by decide +kernel
theorem dX8_longest_5 : decode cX8_longest 5 = .ok (.bipush 8, 2) := by decide +kernel
theorem dX8_longest_7 : decode cX8_longest 7 = .ok (.if_icmp .ge 67, 3) := by decide +kernel
theorem dX8_longest_10 : decode cX8_longest 10 = .ok (.aload_n 0, 1) := by decide +kernel
theorem dX8_longest_11 : decode cX8_longest 11 = .ok (.iload_n 2, 1) := by decide +kernel
theorem dX8_longest_12 : decode cX8_longest 12 = .ok (.invokevirtual 100, 3) := by decide +kernel
theorem dX8_longest_15 : decode cX8_longest 15 = .ok (.ifCond .eq 53, 3) := by decide +kernel
theorem dX8_longest_18 : decode cX8_longest 18 = .ok (.iload_n 1, 1) := by decide +kernel
theorem dX8_longest_19 : decode cX8_longest 19 = .ok (.iconst (-1), 1) := by decide +kernel
theorem dX8_longest_20 : decode cX8_longest 20 = .ok (.if_icmp .eq 46, 3) := by decide +kernel
theorem dX8_longest_23 : decode cX8_longest 23 = .ok (.aload_n 0, 1) := by decide +kernel
theorem dX8_longest_24 : decode cX8_longest 24 = .ok (.getfield 25, 3) := by decide +kernel
theorem dX8_longest_27 : decode cX8_longest 27 = .ok (.iload_n 2, 1) := by decide +kernel
theorem dX8_longest_28 : decode cX8_longest 28 = .ok (.iaload, 1) := by decide +kernel
theorem dX8_longest_29 : decode cX8_longest 29 = .ok (.aload_n 0, 1) := by decide +kernel
theorem dX8_longest_30 : decode cX8_longest 30 = .ok (.getfield 25, 3) := by decide +kernel
theorem dX8_longest_33 : decode cX8_longest 33 = .ok (.iload_n 1, 1) := by decide +kernel
theorem dX8_longest_34 : decode cX8_longest 34 = .ok (.iaload, 1) := by decide +kernel
theorem dX8_longest_35 : decode cX8_longest 35 = .ok (.if_icmp .gt 31, 3) := by decide +kernel
theorem dX8_longest_38 : decode cX8_longest 38 = .ok (.aload_n 0, 1) := by decide +kernel
theorem dX8_longest_39 : decode cX8_longest 39 = .ok (.getfield 25, 3) := by decide +kernel
theorem dX8_longest_42 : decode cX8_longest 42 = .ok (.iload_n 2, 1) := by decide +kernel
theorem dX8_longest_43 : decode cX8_longest 43 = .ok (.iaload, 1) := by decide +kernel
theorem dX8_longest_44 : decode cX8_longest 44 = .ok (.aload_n 0, 1) := by decide +kernel
theorem dX8_longest_45 : decode cX8_longest 45 = .ok (.getfield 25, 3) := by decide +kernel
theorem dX8_longest_48 : decode cX8_longest 48 = .ok (.iload_n 1, 1) := by decide +kernel
theorem dX8_longest_49 : decode cX8_longest 49 = .ok (.iaload, 1) := by decide +kernel
theorem dX8_longest_50 : decode cX8_longest 50 = .ok (.if_icmp .ne 18, 3) := by decide +kernel
theorem dX8_longest_53 : decode cX8_longest 53 = .ok (.aload_n 0, 1) := by decide +kernel
theorem dX8_longest_54 : decode cX8_longest 54 = .ok (.iload_n 2, 1) := by decide +kernel
theorem dX8_longest_55 : decode cX8_longest 55 = .ok (.invokevirtual 96, 3) := by decide +kernel
theorem dX8_longest_58 : decode cX8_longest 58 = .ok (.aload_n 0, 1) := by decide +kernel
theorem dX8_longest_59 : decode cX8_longest 59 = .ok (.iload_n 1, 1) := by decide +kernel
theorem dX8_longest_60 : decode cX8_longest 60 = .ok (.invokevirtual 96, 3) := by decide +kernel
theorem dX8_longest_63 : decode cX8_longest 63 = .ok (.if_icmp .le 5, 3) := by decide +kernel
theorem dX8_longest_66 : decode cX8_longest 66 = .ok (.iload_n 2, 1) := by decide +kernel
theorem dX8_longest_67 : decode cX8_longest 67 = .ok (.istore_n 1, 1) := by decide +kernel
theorem dX8_longest_68 : decode cX8_longest 68 = .ok (.iinc 2 1, 3) := by decide +kernel
theorem dX8_longest_71 : decode cX8_longest 71 = .ok (.goto (-67), 3) := by decide +kernel
theorem dX8_longest_74 : decode cX8_longest 74 = .ok (.iload_n 1, 1) := by decide +kernel
theorem dX8_longest_75 : decode cX8_longest 75 = .ok (.ireturn, 1) := by decide +kernel
theorem dX8_lay_0 : decode cX8_lay 0 = .ok (.iconst 0, 1) := by decide +kernel
theorem dX8_lay_1 : decode cX8_lay 1 = .ok (.istore_n 2, 1) := by decide +kernel
theorem dX8_lay_2 : decode cX8_lay 2 = .ok (.iload_n 2, 1) := by decide +kernel
theorem dX8_lay_3 : decode cX8_lay 3 = .ok (.bipush 60, 2) := by decide +kernel
theorem dX8_lay_5 : decode cX8_lay 5 = .ok (.if_icmp .ge 16, 3) := by decide +kernel
theorem dX8_lay_8 : decode cX8_lay 8 = .ok (.aload_n 0, 1) := by decide +kernel
theorem dX8_lay_9 : decode cX8_lay 9 = .ok (.getfield 38, 3) := by decide +kernel
theorem dX8_lay_12 : decode cX8_lay 12 = .ok (.iload_n 2, 1) := by decide +kernel
theorem dX8_lay_13 : decode cX8_lay 13 = .ok (.iconst 0, 1) := by decide +kernel
theorem dX8_lay_14 : decode cX8_lay 14 = .ok (.iastore, 1) := by decide +kernel
theorem dX8_lay_15 : decode cX8_lay 15 = .ok (.iinc 2 1, 3) := by decide +kernel
theorem dX8_lay_18 : decode cX8_lay 18 = .ok (.goto (-16), 3) := by decide +kernel
theorem dX8_lay_21 : decode cX8_lay 21 = .ok (.iconst 0, 1) := by decide +kernel
theorem dX8_lay_22 : decode cX8_lay 22 = .ok (.istore_n 2, 1) := by decide +kernel
theorem dX8_lay_23 : decode cX8_lay 23 = .ok (.iconst 0, 1) := by decide +kernel
theorem dX8_lay_24 : decode cX8_lay 24 = .ok (.istore_n 3, 1) := by decide +kernel
theorem dX8_lay_25 : decode cX8_lay 25 = .ok (.iload_n 3, 1) := by decide +kernel
theorem dX8_lay_26 : decode cX8_lay 26 = .ok (.aload_n 0, 1) := by decide +kernel
theorem dX8_lay_27 : decode cX8_lay 27 = .ok (.getfield 25, 3) := by decide +kernel
theorem dX8_lay_30 : decode cX8_lay 30 = .ok (.iload_n 1, 1) := by decide +kernel
theorem dX8_lay_31 : decode cX8_lay 31 = .ok (.iaload, 1) := by decide +kernel
theorem dX8_lay_32 : decode cX8_lay 32 = .ok (.if_icmp .ge 79, 3) := by decide +kernel
theorem dX8_lay_35 : decode cX8_lay 35 = .ok (.aload_n 0, 1) := by decide +kernel
theorem dX8_lay_36 : decode cX8_lay 36 = .ok (.getfield 28, 3) := by decide +kernel
theorem dX8_lay_39 : decode cX8_lay 39 = .ok (.bipush 10, 2) := by decide +kernel
theorem dX8_lay_41 : decode cX8_lay 41 = .ok (.iload_n 1, 1) := by decide +kernel
theorem dX8_lay_42 : decode cX8_lay 42 = .ok (.imul, 1) := by decide +kernel
theorem dX8_lay_43 : decode cX8_lay 43 = .ok (.iload_n 3, 1) := by decide +kernel
theorem dX8_lay_44 : decode cX8_lay 44 = .ok (.iadd, 1) := by decide +kernel
theorem dX8_lay_45 : decode cX8_lay 45 = .ok (.iaload, 1) := by decide +kernel
theorem dX8_lay_46 : decode cX8_lay 46 = .ok (.istore 4, 2) := by decide +kernel
theorem dX8_lay_48 : decode cX8_lay 48 = .ok (.iconst 0, 1) := by decide +kernel
theorem dX8_lay_49 : decode cX8_lay 49 = .ok (.istore 5, 2) := by decide +kernel
theorem dX8_lay_51 : decode cX8_lay 51 = .ok (.iload 5, 2) := by decide +kernel
theorem dX8_lay_53 : decode cX8_lay 53 = .ok (.aload_n 0, 1) := by decide +kernel
theorem dX8_lay_54 : decode cX8_lay 54 = .ok (.getfield 13, 3) := by decide +kernel
theorem dX8_lay_57 : decode cX8_lay 57 = .ok (.iload 4, 2) := by decide +kernel
theorem dX8_lay_59 : decode cX8_lay 59 = .ok (.iaload, 1) := by decide +kernel
theorem dX8_lay_60 : decode cX8_lay 60 = .ok (.if_icmp .ge 30, 3) := by decide +kernel
theorem dX8_lay_63 : decode cX8_lay 63 = .ok (.aload_n 0, 1) := by decide +kernel
theorem dX8_lay_64 : decode cX8_lay 64 = .ok (.getfield 38, 3) := by decide +kernel
theorem dX8_lay_67 : decode cX8_lay 67 = .ok (.iload_n 2, 1) := by decide +kernel
theorem dX8_lay_68 : decode cX8_lay 68 = .ok (.iload 5, 2) := by decide +kernel
theorem dX8_lay_70 : decode cX8_lay 70 = .ok (.iadd, 1) := by decide +kernel
theorem dX8_lay_71 : decode cX8_lay 71 = .ok (.aload_n 0, 1) := by decide +kernel
theorem dX8_lay_72 : decode cX8_lay 72 = .ok (.getfield 22, 3) := by decide +kernel
theorem dX8_lay_75 : decode cX8_lay 75 = .ok (.iconst 5, 1) := by decide +kernel
theorem dX8_lay_76 : decode cX8_lay 76 = .ok (.iload 4, 2) := by decide +kernel
theorem dX8_lay_78 : decode cX8_lay 78 = .ok (.imul, 1) := by decide +kernel
theorem dX8_lay_79 : decode cX8_lay 79 = .ok (.iload 5, 2) := by decide +kernel
theorem dX8_lay_81 : decode cX8_lay 81 = .ok (.iadd, 1) := by decide +kernel
theorem dX8_lay_82 : decode cX8_lay 82 = .ok (.iaload, 1) := by decide +kernel
theorem dX8_lay_83 : decode cX8_lay 83 = .ok (.iastore, 1) := by decide +kernel
theorem dX8_lay_84 : decode cX8_lay 84 = .ok (.iinc 5 1, 3) := by decide +kernel
theorem dX8_lay_87 : decode cX8_lay 87 = .ok (.goto (-36), 3) := by decide +kernel
theorem dX8_lay_90 : decode cX8_lay 90 = .ok (.iload_n 2, 1) := by decide +kernel
theorem dX8_lay_91 : decode cX8_lay 91 = .ok (.aload_n 0, 1) := by decide +kernel
theorem dX8_lay_92 : decode cX8_lay 92 = .ok (.getfield 13, 3) := by decide +kernel
theorem dX8_lay_95 : decode cX8_lay 95 = .ok (.iload 4, 2) := by decide +kernel
theorem dX8_lay_97 : decode cX8_lay 97 = .ok (.iaload, 1) := by decide +kernel
theorem dX8_lay_98 : decode cX8_lay 98 = .ok (.aload_n 0, 1) := by decide +kernel
theorem dX8_lay_99 : decode cX8_lay 99 = .ok (.getfield 35, 3) := by decide +kernel
theorem dX8_lay_102 : decode cX8_lay 102 = .ok (.iadd, 1) := by decide +kernel
theorem dX8_lay_103 : decode cX8_lay 103 = .ok (.iadd, 1) := by decide +kernel
theorem dX8_lay_104 : decode cX8_lay 104 = .ok (.istore_n 2, 1) := by decide +kernel
theorem dX8_lay_105 : decode cX8_lay 105 = .ok (.iinc 3 1, 3) := by decide +kernel
theorem dX8_lay_108 : decode cX8_lay 108 = .ok (.goto (-83), 3) := by decide +kernel
theorem dX8_lay_111 : decode cX8_lay 111 = .ok (.return_, 1) := by decide +kernel
theorem dX8_upsideDown_0 : decode cX8_upsideDown 0 = .ok (.iconst 0, 1) := by decide +kernel
theorem dX8_upsideDown_1 : decode cX8_upsideDown 1 = .ok (.istore_n 1, 1) := by decide +kernel
theorem dX8_upsideDown_2 : decode cX8_upsideDown 2 = .ok (.iconst 0, 1) := by decide +kernel
theorem dX8_upsideDown_3 : decode cX8_upsideDown 3 = .ok (.istore_n 2, 1) := by decide +kernel
theorem dX8_upsideDown_4 : decode cX8_upsideDown 4 = .ok (.iload_n 2, 1) := by decide +kernel
theorem dX8_upsideDown_5 : decode cX8_upsideDown 5 = .ok (.iconst 5, 1) := by decide +kernel
theorem dX8_upsideDown_6 : decode cX8_upsideDown 6 = .ok (.if_icmp .ge 21, 3) := by decide +kernel
theorem dX8_upsideDown_9 : decode cX8_upsideDown 9 = .ok (.iload_n 1, 1) := by decide +kernel
theorem dX8_upsideDown_10 : decode cX8_upsideDown 10 = .ok (.iload_n 0, 1) := by decide +kernel
theorem dX8_upsideDown_11 : decode cX8_upsideDown 11 = .ok (.iload_n 2, 1) := by decide +kernel
theorem dX8_upsideDown_12 : decode cX8_upsideDown 12 = .ok (.ishr, 1) := by decide +kernel
theorem dX8_upsideDown_13 : decode cX8_upsideDown 13 = .ok (.iconst 1, 1) := by decide +kernel
theorem dX8_upsideDown_14 : decode cX8_upsideDown 14 = .ok (.iand, 1) := by decide +kernel
theorem dX8_upsideDown_15 : decode cX8_upsideDown 15 = .ok (.iconst 4, 1) := by decide +kernel
theorem dX8_upsideDown_16 : decode cX8_upsideDown 16 = .ok (.iload_n 2, 1) := by decide +kernel
theorem dX8_upsideDown_17 : decode cX8_upsideDown 17 = .ok (.isub, 1) := by decide +kernel
theorem dX8_upsideDown_18 : decode cX8_upsideDown 18 = .ok (.ishl, 1) := by decide +kernel
theorem dX8_upsideDown_19 : decode cX8_upsideDown 19 = .ok (.ior, 1) := by decide +kernel
theorem dX8_upsideDown_20 : decode cX8_upsideDown 20 = .ok (.istore_n 1, 1) := by decide +kernel
theorem dX8_upsideDown_21 : decode cX8_upsideDown 21 = .ok (.iinc 2 1, 3) := by decide +kernel
theorem dX8_upsideDown_24 : decode cX8_upsideDown 24 = .ok (.goto (-20), 3) := by decide +kernel
theorem dX8_upsideDown_27 : decode cX8_upsideDown 27 = .ok (.iload_n 1, 1) := by decide +kernel
theorem dX8_upsideDown_28 : decode cX8_upsideDown 28 = .ok (.ireturn, 1) := by decide +kernel
set_option maxRecDepth 20000 in
theorem ggX8_cutAt_X8_upsideDown : GoodIn wsX8_cutAt wsX8_upsideDown := goodIn_r _ [6] (by decide +kernel) (by decide +kernel)
set_option maxRecDepth 20000 in
theorem gX8_cutAt_X8_upsideDown : GoodIn wsX8_cutAt (va_wsS RX8 103 yX8_upsideDown wsX8_upsideDown) := goodIn_app (goodIn_of _ (by decide +kernel)) ggX8_cutAt_X8_upsideDown
theorem dX8_cutAt_0 : decode cX8_cutAt 0 = .ok (.iload_n 2, 1) := by decide +kernel
theorem dX8_cutAt_1 : decode cX8_cutAt 1 = .ok (.iconst 1, 1) := by decide +kernel
theorem dX8_cutAt_2 : decode cX8_cutAt 2 = .ok (.iand, 1) := by decide +kernel
theorem dX8_cutAt_3 : decode cX8_cutAt 3 = .ok (.ifCond .ne 14, 3) := by decide +kernel
theorem dX8_cutAt_6 : decode cX8_cutAt 6 = .ok (.iload_n 3, 1) := by decide +kernel
theorem dX8_cutAt_7 : decode cX8_cutAt 7 = .ok (.iload_n 1, 1) := by decide +kernel
theorem dX8_cutAt_8 : decode cX8_cutAt 8 = .ok (.iadd, 1) := by decide +kernel
theorem dX8_cutAt_9 : decode cX8_cutAt 9 = .ok (.aload_n 0, 1) := by decide +kernel
theorem dX8_cutAt_10 : decode cX8_cutAt 10 = .ok (.getfield 31, 3) := by decide +kernel
theorem dX8_cutAt_13 : decode cX8_cutAt 13 = .ok (.irem, 1) := by decide +kernel
theorem dX8_cutAt_14 : decode cX8_cutAt 14 = .ok (.goto 16, 3) := by decide +kernel
theorem dX8_cutAt_17 : decode cX8_cutAt 17 = .ok (.iload_n 1, 1) := by decide +kernel
theorem dX8_cutAt_18 : decode cX8_cutAt 18 = .ok (.iload_n 3, 1) := by decide +kernel
theorem dX8_cutAt_19 : decode cX8_cutAt 19 = .ok (.isub, 1) := by decide +kernel
theorem dX8_cutAt_20 : decode cX8_cutAt 20 = .ok (.aload_n 0, 1) := by decide +kernel
theorem dX8_cutAt_21 : decode cX8_cutAt 21 = .ok (.getfield 31, 3) := by decide +kernel
theorem dX8_cutAt_24 : decode cX8_cutAt 24 = .ok (.iadd, 1) := by decide +kernel
theorem dX8_cutAt_25 : decode cX8_cutAt 25 = .ok (.aload_n 0, 1) := by decide +kernel
theorem dX8_cutAt_26 : decode cX8_cutAt 26 = .ok (.getfield 31, 3) := by decide +kernel
theorem dX8_cutAt_29 : decode cX8_cutAt 29 = .ok (.irem, 1) := by decide +kernel
theorem dX8_cutAt_30 : decode cX8_cutAt 30 = .ok (.istore 4, 2) := by decide +kernel
theorem dX8_cutAt_32 : decode cX8_cutAt 32 = .ok (.iload_n 2, 1) := by decide +kernel
theorem dX8_cutAt_33 : decode cX8_cutAt 33 = .ok (.iconst 2, 1) := by decide +kernel
theorem dX8_cutAt_34 : decode cX8_cutAt 34 = .ok (.if_icmp .ge 13, 3) := by decide +kernel
theorem dX8_cutAt_37 : decode cX8_cutAt 37 = .ok (.aload_n 0, 1) := by decide +kernel
theorem dX8_cutAt_38 : decode cX8_cutAt 38 = .ok (.getfield 38, 3) := by decide +kernel
theorem dX8_cutAt_41 : decode cX8_cutAt 41 = .ok (.iload 4, 2) := by decide +kernel
theorem dX8_cutAt_43 : decode cX8_cutAt 43 = .ok (.iaload, 1) := by decide +kernel
theorem dX8_cutAt_44 : decode cX8_cutAt 44 = .ok (.goto 13, 3) := by decide +kernel
theorem dX8_cutAt_47 : decode cX8_cutAt 47 = .ok (.aload_n 0, 1) := by decide +kernel
theorem dX8_cutAt_48 : decode cX8_cutAt 48 = .ok (.getfield 38, 3) := by decide +kernel
theorem dX8_cutAt_51 : decode cX8_cutAt 51 = .ok (.iload 4, 2) := by decide +kernel
theorem dX8_cutAt_53 : decode cX8_cutAt 53 = .ok (.iaload, 1) := by decide +kernel
theorem dX8_cutAt_54 : decode cX8_cutAt 54 = .ok (.invokestatic 103, 3) := by decide +kernel
theorem dX8_cutAt_57 : decode cX8_cutAt 57 = .ok (.ireturn, 1) := by decide +kernel
set_option maxRecDepth 20000 in
theorem ggX8_cut_X8_isWord : GoodIn wsX8_cut wsX8_isWord := goodIn_r _ [6, 7, 8, 9, 5, 10] (by decide +kernel) (by decide +kernel)
set_option maxRecDepth 20000 in
theorem gX8_cut_X8_isWord : GoodIn wsX8_cut (va_wsS RX8 89 yX8_isWord wsX8_isWord) := goodIn_app (goodIn_of _ (by decide +kernel)) ggX8_cut_X8_isWord
set_option maxRecDepth 20000 in
theorem ggX8_cut_X8_in : GoodIn wsX8_cut wsX8_in := goodIn_r _ [10] (by decide +kernel) (by decide +kernel)
set_option maxRecDepth 20000 in
theorem gX8_cut_X8_in : GoodIn wsX8_cut (va_wsS RX8 69 yX8_in wsX8_in) := goodIn_app (goodIn_of _ (by decide +kernel)) ggX8_cut_X8_in
set_option maxRecDepth 20000 in
theorem ggX8_cut_X8_fits : GoodIn wsX8_cut wsX8_fits := goodIn_r _ [14, 15, 1, 16, 17, 18, 5, 19, 20, 21, 22, 36, 37, 38, 39, 40, 41, 42, 43, 44, 45, 46, 47, 48, 49, 50, 51, 52, 53, 54, 55, 56, 57, 58, 59, 60, 61, 62, 63] (by decide +kernel) (by decide +kernel)
set_option maxRecDepth 20000 in
theorem gX8_cut_X8_fits : GoodIn wsX8_cut (wsV RX8 100 RX8 yX8_fits wsX8_fits) := goodIn_app (goodIn_of _ (by decide +kernel)) ggX8_cut_X8_fits
set_option maxRecDepth 20000 in
theorem ggX8_cut_X8_lay : GoodIn wsX8_cut wsX8_lay := goodIn_r _ [26, 27, 15, 21, 20, 28, 22, 36, 37, 38, 39, 40, 41, 42, 43, 44, 45, 46, 47, 48, 49, 50, 51, 52, 53, 54, 55, 56, 57, 58, 59, 60, 61, 62, 63] (by decide +kernel) (by decide +kernel)
set_option maxRecDepth 20000 in
theorem gX8_cut_X8_lay : GoodIn wsX8_cut (wsV RX8 106 RX8 yX8_lay wsX8_lay) := goodIn_app (goodIn_of _ (by decide +kernel)) ggX8_cut_X8_lay
set_option maxRecDepth 20000 in
theorem ggX8_cut_X8_cutAt : GoodIn wsX8_cut wsX8_cutAt := goodIn_r _ [32, 1, 27, 33, 34, 5, 35, 36, 37, 38, 39, 40, 41, 42, 43, 44, 45, 46, 47, 48, 49, 50, 51, 52, 53, 54, 55, 56, 57, 58, 59, 60, 61, 62, 63] (by decide +kernel) (by decide +kernel)
set_option maxRecDepth 20000 in
theorem gX8_cut_X8_cutAt : GoodIn wsX8_cut (wsV RX8 110 RX8 yX8_cutAt wsX8_cutAt) := goodIn_app (goodIn_of _ (by decide +kernel)) ggX8_cut_X8_cutAt
theorem dX8_cut_0 : decode cX8_cut 0 = .ok (.iload_n 1, 1) := by decide +kernel
theorem dX8_cut_1 : decode cX8_cut 1 = .ok (.invokestatic 89, 3) := by decide +kernel
theorem dX8_cut_4 : decode cX8_cut 4 = .ok (.ifCond .eq 48, 3) := by decide +kernel
theorem dX8_cut_7 : decode cX8_cut 7 = .ok (.iload_n 2, 1) := by decide +kernel
theorem dX8_cut_8 : decode cX8_cut 8 = .ok (.i2l, 1) := by decide +kernel
theorem dX8_cut_9 : decode cX8_cut 9 = .ok (.lconst 0, 1) := by decide +kernel
theorem dX8_cut_10 : decode cX8_cut 10 = .ok (.aload_n 0, 1) := by decide +kernel
theorem dX8_cut_11 : decode cX8_cut 11 = .ok (.getfield 31, 3) := by decide +kernel
theorem dX8_cut_14 : decode cX8_cut 14 = .ok (.iconst 1, 1) := by decide +kernel
theorem dX8_cut_15 : decode cX8_cut 15 = .ok (.isub, 1) := by decide +kernel
theorem dX8_cut_16 : decode cX8_cut 16 = .ok (.i2l, 1) := by decide +kernel
theorem dX8_cut_17 : decode cX8_cut 17 = .ok (.invokestatic 69, 3) := by decide +kernel
theorem dX8_cut_20 : decode cX8_cut 20 = .ok (.ifCond .eq 32, 3) := by decide +kernel
theorem dX8_cut_23 : decode cX8_cut 23 = .ok (.iload_n 3, 1) := by decide +kernel
theorem dX8_cut_24 : decode cX8_cut 24 = .ok (.i2l, 1) := by decide +kernel
theorem dX8_cut_25 : decode cX8_cut 25 = .ok (.lconst 0, 1) := by decide +kernel
theorem dX8_cut_26 : decode cX8_cut 26 = .ok (.ldc2_w 94, 3) := by decide +kernel
theorem dX8_cut_29 : decode cX8_cut 29 = .ok (.invokestatic 69, 3) := by decide +kernel
theorem dX8_cut_32 : decode cX8_cut 32 = .ok (.ifCond .eq 20, 3) := by decide +kernel
theorem dX8_cut_35 : decode cX8_cut 35 = .ok (.iload 4, 2) := by decide +kernel
theorem dX8_cut_37 : decode cX8_cut 37 = .ok (.i2l, 1) := by decide +kernel
theorem dX8_cut_38 : decode cX8_cut 38 = .ok (.lconst 0, 1) := by decide +kernel
theorem dX8_cut_39 : decode cX8_cut 39 = .ok (.aload_n 0, 1) := by decide +kernel
theorem dX8_cut_40 : decode cX8_cut 40 = .ok (.getfield 31, 3) := by decide +kernel
theorem dX8_cut_43 : decode cX8_cut 43 = .ok (.iconst 1, 1) := by decide +kernel
theorem dX8_cut_44 : decode cX8_cut 44 = .ok (.isub, 1) := by decide +kernel
theorem dX8_cut_45 : decode cX8_cut 45 = .ok (.i2l, 1) := by decide +kernel
theorem dX8_cut_46 : decode cX8_cut 46 = .ok (.invokestatic 69, 3) := by decide +kernel
theorem dX8_cut_49 : decode cX8_cut 49 = .ok (.ifCond .ne 6, 3) := by decide +kernel
theorem dX8_cut_52 : decode cX8_cut 52 = .ok (.bipush (-2), 2) := by decide +kernel
theorem dX8_cut_54 : decode cX8_cut 54 = .ok (.ireturn, 1) := by decide +kernel
theorem dX8_cut_55 : decode cX8_cut 55 = .ok (.aload_n 0, 1) := by decide +kernel
theorem dX8_cut_56 : decode cX8_cut 56 = .ok (.iload_n 1, 1) := by decide +kernel
theorem dX8_cut_57 : decode cX8_cut 57 = .ok (.invokevirtual 100, 3) := by decide +kernel
theorem dX8_cut_60 : decode cX8_cut 60 = .ok (.ifCond .ne 6, 3) := by decide +kernel
theorem dX8_cut_63 : decode cX8_cut 63 = .ok (.bipush (-3), 2) := by decide +kernel
theorem dX8_cut_65 : decode cX8_cut 65 = .ok (.ireturn, 1) := by decide +kernel
theorem dX8_cut_66 : decode cX8_cut 66 = .ok (.aload_n 0, 1) := by decide +kernel
theorem dX8_cut_67 : decode cX8_cut 67 = .ok (.iload_n 1, 1) := by decide +kernel
theorem dX8_cut_68 : decode cX8_cut 68 = .ok (.invokevirtual 106, 3) := by decide +kernel
theorem dX8_cut_71 : decode cX8_cut 71 = .ok (.aload_n 0, 1) := by decide +kernel
theorem dX8_cut_72 : decode cX8_cut 72 = .ok (.iload_n 2, 1) := by decide +kernel
theorem dX8_cut_73 : decode cX8_cut 73 = .ok (.iload_n 3, 1) := by decide +kernel
theorem dX8_cut_74 : decode cX8_cut 74 = .ok (.iload 4, 2) := by decide +kernel
theorem dX8_cut_76 : decode cX8_cut 76 = .ok (.invokevirtual 110, 3) := by decide +kernel
theorem dX8_cut_79 : decode cX8_cut 79 = .ok (.ireturn, 1) := by decide +kernel
set_option maxRecDepth 20000 in
theorem ggX8_isReading_X8_in : GoodIn wsX8_isReading wsX8_in := goodIn_r _ [8] (by decide +kernel) (by decide +kernel)
set_option maxRecDepth 20000 in
theorem gX8_isReading_X8_in : GoodIn wsX8_isReading (va_wsS RX8 69 yX8_in wsX8_in) := goodIn_app (goodIn_of _ (by decide +kernel)) ggX8_isReading_X8_in
set_option maxRecDepth 20000 in
theorem ggX8_isReading_X8_cutAt : GoodIn wsX8_isReading wsX8_cutAt := goodIn_r _ [12, 1, 13, 14, 15, 7, 16, 17, 18, 19, 20, 21, 22, 23, 24, 25, 26, 27, 28, 29, 30, 31, 32, 33, 34, 35, 36, 37, 38, 39, 40, 41, 42, 43, 44] (by decide +kernel) (by decide +kernel)
set_option maxRecDepth 20000 in
theorem gX8_isReading_X8_cutAt : GoodIn wsX8_isReading (wsV RX8 110 RX8 yX8_cutAt wsX8_cutAt) := goodIn_app (goodIn_of _ (by decide +kernel)) ggX8_isReading_X8_cutAt
theorem dX8_isReading_0 : decode cX8_isReading 0 = .ok (.iconst 1, 1) := by decide +kernel
theorem dX8_isReading_1 : decode cX8_isReading 1 = .ok (.istore 4, 2) := by decide +kernel
theorem dX8_isReading_3 : decode cX8_isReading 3 = .ok (.iconst 0, 1) := by decide +kernel
theorem dX8_isReading_4 : decode cX8_isReading 4 = .ok (.istore 5, 2) := by decide +kernel
theorem dX8_isReading_6 : decode cX8_isReading 6 = .ok (.iload 5, 2) := by decide +kernel
theorem dX8_isReading_8 : decode cX8_isReading 8 = .ok (.aload_n 0, 1) := by decide +kernel
theorem dX8_isReading_9 : decode cX8_isReading 9 = .ok (.getfield 31, 3) := by decide +kernel
theorem dX8_isReading_12 : decode cX8_isReading 12 = .ok (.if_icmp .ge 72, 3) := by decide +kernel
theorem dX8_isReading_15 : decode cX8_isReading 15 = .ok (.iload 5, 2) := by decide +kernel
theorem dX8_isReading_17 : decode cX8_isReading 17 = .ok (.aload_n 0, 1) := by decide +kernel
theorem dX8_isReading_18 : decode cX8_isReading 18 = .ok (.getfield 57, 3) := by decide +kernel
theorem dX8_isReading_21 : decode cX8_isReading 21 = .ok (.iload_n 1, 1) := by decide +kernel
theorem dX8_isReading_22 : decode cX8_isReading 22 = .ok (.iaload, 1) := by decide +kernel
theorem dX8_isReading_23 : decode cX8_isReading 23 = .ok (.if_icmp .ge 61, 3) := by decide +kernel
theorem dX8_isReading_26 : decode cX8_isReading 26 = .ok (.iload 4, 2) := by decide +kernel
theorem dX8_isReading_28 : decode cX8_isReading 28 = .ok (.ifCond .eq 56, 3) := by decide +kernel
theorem dX8_isReading_31 : decode cX8_isReading 31 = .ok (.aload_n 0, 1) := by decide +kernel
theorem dX8_isReading_32 : decode cX8_isReading 32 = .ok (.getfield 60, 3) := by decide +kernel
theorem dX8_isReading_35 : decode cX8_isReading 35 = .ok (.bipush 60, 2) := by decide +kernel
theorem dX8_isReading_37 : decode cX8_isReading 37 = .ok (.iload_n 1, 1) := by decide +kernel
theorem dX8_isReading_38 : decode cX8_isReading 38 = .ok (.imul, 1) := by decide +kernel
theorem dX8_isReading_39 : decode cX8_isReading 39 = .ok (.iload 5, 2) := by decide +kernel
theorem dX8_isReading_41 : decode cX8_isReading 41 = .ok (.iadd, 1) := by decide +kernel
theorem dX8_isReading_42 : decode cX8_isReading 42 = .ok (.iaload, 1) := by decide +kernel
theorem dX8_isReading_43 : decode cX8_isReading 43 = .ok (.istore 6, 2) := by decide +kernel
theorem dX8_isReading_45 : decode cX8_isReading 45 = .ok (.iload 6, 2) := by decide +kernel
theorem dX8_isReading_47 : decode cX8_isReading 47 = .ok (.i2l, 1) := by decide +kernel
theorem dX8_isReading_48 : decode cX8_isReading 48 = .ok (.lconst 0, 1) := by decide +kernel
theorem dX8_isReading_49 : decode cX8_isReading 49 = .ok (.ldc2_w 85, 3) := by decide +kernel
theorem dX8_isReading_52 : decode cX8_isReading 52 = .ok (.invokestatic 69, 3) := by decide +kernel
theorem dX8_isReading_55 : decode cX8_isReading 55 = .ok (.ifCond .eq 16, 3) := by decide +kernel
theorem dX8_isReading_58 : decode cX8_isReading 58 = .ok (.iload 6, 2) := by decide +kernel
theorem dX8_isReading_60 : decode cX8_isReading 60 = .ok (.aload_n 0, 1) := by decide +kernel
theorem dX8_isReading_61 : decode cX8_isReading 61 = .ok (.iload_n 2, 1) := by decide +kernel
theorem dX8_isReading_62 : decode cX8_isReading 62 = .ok (.iload_n 3, 1) := by decide +kernel
theorem dX8_isReading_63 : decode cX8_isReading 63 = .ok (.iload 5, 2) := by decide +kernel
theorem dX8_isReading_65 : decode cX8_isReading 65 = .ok (.invokevirtual 110, 3) := by decide +kernel
theorem dX8_isReading_68 : decode cX8_isReading 68 = .ok (.if_icmp .ne 7, 3) := by decide +kernel
theorem dX8_isReading_71 : decode cX8_isReading 71 = .ok (.iconst 1, 1) := by decide +kernel
theorem dX8_isReading_72 : decode cX8_isReading 72 = .ok (.goto 4, 3) := by decide +kernel
theorem dX8_isReading_75 : decode cX8_isReading 75 = .ok (.iconst 0, 1) := by decide +kernel
theorem dX8_isReading_76 : decode cX8_isReading 76 = .ok (.istore 4, 2) := by decide +kernel
theorem dX8_isReading_78 : decode cX8_isReading 78 = .ok (.iinc 5 1, 3) := by decide +kernel
theorem dX8_isReading_81 : decode cX8_isReading 81 = .ok (.goto (-75), 3) := by decide +kernel
theorem dX8_isReading_84 : decode cX8_isReading 84 = .ok (.iload 4, 2) := by decide +kernel
theorem dX8_isReading_86 : decode cX8_isReading 86 = .ok (.ireturn, 1) := by decide +kernel
set_option maxRecDepth 20000 in
theorem ggX8_findReadings_X8_fits : GoodIn wsX8_findReadings wsX8_fits := goodIn_r _ [9, 10, 4, 11, 12, 13, 8, 14, 15, 16, 17, 41, 42, 43, 44, 45, 46, 47, 48, 49, 50, 51, 52, 53, 54, 55, 56, 57, 58, 59, 60, 61, 62, 63, 64, 65, 66, 67, 68] (by decide +kernel) (by decide +kernel)
set_option maxRecDepth 20000 in
theorem gX8_findReadings_X8_fits : GoodIn wsX8_findReadings (wsV RX8 100 RX8 yX8_fits wsX8_fits) := goodIn_app (goodIn_of _ (by decide +kernel)) ggX8_findReadings_X8_fits
set_option maxRecDepth 20000 in
theorem ggX8_findReadings_X8_lay : GoodIn wsX8_findReadings wsX8_lay := goodIn_r _ [21, 22, 10, 16, 15, 23, 17, 41, 42, 43, 44, 45, 46, 47, 48, 49, 50, 51, 52, 53, 54, 55, 56, 57, 58, 59, 60, 61, 62, 63, 64, 65, 66, 67, 68] (by decide +kernel) (by decide +kernel)
set_option maxRecDepth 20000 in
theorem gX8_findReadings_X8_lay : GoodIn wsX8_findReadings (wsV RX8 106 RX8 yX8_lay wsX8_lay) := goodIn_app (goodIn_of _ (by decide +kernel)) ggX8_findReadings_X8_lay
set_option maxRecDepth 20000 in
theorem ggX8_findReadings_X8_isReading : GoodIn wsX8_findReadings wsX8_isReading := goodIn_r _ [27, 4, 28, 29, 30, 31, 32, 8, 33, 34, 35, 36, 37, 22, 38, 39, 40, 41, 42, 43, 44, 45, 46, 47, 48, 49, 50, 51, 52, 53, 54, 55, 56, 57, 58, 59, 60, 61, 62, 63, 64, 65, 66, 67, 68] (by decide +kernel) (by decide +kernel)
set_option maxRecDepth 20000 in
theorem gX8_findReadings_X8_isReading : GoodIn wsX8_findReadings (wsV RX8 123 RX8 yX8_isReading wsX8_isReading) := goodIn_app (goodIn_of _ (by decide +kernel)) ggX8_findReadings_X8_isReading
theorem dX8_findReadings_0 : decode cX8_findReadings 0 = .ok (.aload_n 0, 1) := by decide +kernel
theorem dX8_findReadings_1 : decode cX8_findReadings 1 = .ok (.iconst (-1), 1) := by decide +kernel
theorem dX8_findReadings_2 : decode cX8_findReadings 2 = .ok (.putfield 114, 3) := by decide +kernel
theorem dX8_findReadings_5 : decode cX8_findReadings 5 = .ok (.aload_n 0, 1) := by decide +kernel
theorem dX8_findReadings_6 : decode cX8_findReadings 6 = .ok (.iconst 0, 1) := by decide +kernel
theorem dX8_findReadings_7 : decode cX8_findReadings 7 = .ok (.putfield 117, 3) := by decide +kernel
theorem dX8_findReadings_10 : decode cX8_findReadings 10 = .ok (.aload_n 0, 1) := by decide +kernel
theorem dX8_findReadings_11 : decode cX8_findReadings 11 = .ok (.iconst 0, 1) := by decide +kernel
theorem dX8_findReadings_12 : decode cX8_findReadings 12 = .ok (.putfield 120, 3) := by decide +kernel
theorem dX8_findReadings_15 : decode cX8_findReadings 15 = .ok (.iconst 0, 1) := by decide +kernel
theorem dX8_findReadings_16 : decode cX8_findReadings 16 = .ok (.istore_n 3, 1) := by decide +kernel
theorem dX8_findReadings_17 : decode cX8_findReadings 17 = .ok (.iload_n 3, 1) := by decide +kernel
theorem dX8_findReadings_18 : decode cX8_findReadings 18 = .ok (.bipush 8, 2) := by decide +kernel
theorem dX8_findReadings_20 : decode cX8_findReadings 20 = .ok (.if_icmp .ge 115, 3) := by decide +kernel
theorem dX8_findReadings_23 : decode cX8_findReadings 23 = .ok (.aload_n 0, 1) := by decide +kernel
theorem dX8_findReadings_24 : decode cX8_findReadings 24 = .ok (.iload_n 3, 1) := by decide +kernel
theorem dX8_findReadings_25 : decode cX8_findReadings 25 = .ok (.invokevirtual 100, 3) := by decide +kernel
theorem dX8_findReadings_28 : decode cX8_findReadings 28 = .ok (.ifCond .eq 101, 3) := by decide +kernel
theorem dX8_findReadings_31 : decode cX8_findReadings 31 = .ok (.aload_n 0, 1) := by decide +kernel
theorem dX8_findReadings_32 : decode cX8_findReadings 32 = .ok (.iload_n 3, 1) := by decide +kernel
theorem dX8_findReadings_33 : decode cX8_findReadings 33 = .ok (.invokevirtual 106, 3) := by decide +kernel
theorem dX8_findReadings_36 : decode cX8_findReadings 36 = .ok (.iconst 0, 1) := by decide +kernel
theorem dX8_findReadings_37 : decode cX8_findReadings 37 = .ok (.istore 4, 2) := by decide +kernel
theorem dX8_findReadings_39 : decode cX8_findReadings 39 = .ok (.iload 4, 2) := by decide +kernel
theorem dX8_findReadings_41 : decode cX8_findReadings 41 = .ok (.iconst 4, 1) := by decide +kernel
theorem dX8_findReadings_42 : decode cX8_findReadings 42 = .ok (.if_icmp .ge 87, 3) := by decide +kernel
theorem dX8_findReadings_45 : decode cX8_findReadings 45 = .ok (.iconst 0, 1) := by decide +kernel
theorem dX8_findReadings_46 : decode cX8_findReadings 46 = .ok (.istore 5, 2) := by decide +kernel
theorem dX8_findReadings_48 : decode cX8_findReadings 48 = .ok (.iload 5, 2) := by decide +kernel
theorem dX8_findReadings_50 : decode cX8_findReadings 50 = .ok (.aload_n 0, 1) := by decide +kernel
theorem dX8_findReadings_51 : decode cX8_findReadings 51 = .ok (.getfield 31, 3) := by decide +kernel
theorem dX8_findReadings_54 : decode cX8_findReadings 54 = .ok (.if_icmp .ge 69, 3) := by decide +kernel
theorem dX8_findReadings_57 : decode cX8_findReadings 57 = .ok (.aload_n 0, 1) := by decide +kernel
theorem dX8_findReadings_58 : decode cX8_findReadings 58 = .ok (.iload_n 1, 1) := by decide +kernel
theorem dX8_findReadings_59 : decode cX8_findReadings 59 = .ok (.iload 5, 2) := by decide +kernel
theorem dX8_findReadings_61 : decode cX8_findReadings 61 = .ok (.iload 4, 2) := by decide +kernel
theorem dX8_findReadings_63 : decode cX8_findReadings 63 = .ok (.invokevirtual 123, 3) := by decide +kernel
theorem dX8_findReadings_66 : decode cX8_findReadings 66 = .ok (.ifCond .eq 51, 3) := by decide +kernel
theorem dX8_findReadings_69 : decode cX8_findReadings 69 = .ok (.aload_n 0, 1) := by decide +kernel
theorem dX8_findReadings_70 : decode cX8_findReadings 70 = .ok (.getfield 117, 3) := by decide +kernel
theorem dX8_findReadings_73 : decode cX8_findReadings 73 = .ok (.iload_n 2, 1) := by decide +kernel
theorem dX8_findReadings_74 : decode cX8_findReadings 74 = .ok (.if_icmp .ne 21, 3) := by decide +kernel
theorem dX8_findReadings_77 : decode cX8_findReadings 77 = .ok (.aload_n 0, 1) := by decide +kernel
theorem dX8_findReadings_78 : decode cX8_findReadings 78 = .ok (.sipush 1000, 3) := by decide +kernel
theorem dX8_findReadings_81 : decode cX8_findReadings 81 = .ok (.iload_n 3, 1) := by decide +kernel
theorem dX8_findReadings_82 : decode cX8_findReadings 82 = .ok (.imul, 1) := by decide +kernel
theorem dX8_findReadings_83 : decode cX8_findReadings 83 = .ok (.bipush 100, 2) := by decide +kernel
theorem dX8_findReadings_85 : decode cX8_findReadings 85 = .ok (.iload 4, 2) := by decide +kernel
theorem dX8_findReadings_87 : decode cX8_findReadings 87 = .ok (.imul, 1) := by decide +kernel
theorem dX8_findReadings_88 : decode cX8_findReadings 88 = .ok (.iadd, 1) := by decide +kernel
theorem dX8_findReadings_89 : decode cX8_findReadings 89 = .ok (.iload 5, 2) := by decide +kernel
theorem dX8_findReadings_91 : decode cX8_findReadings 91 = .ok (.iadd, 1) := by decide +kernel
theorem dX8_findReadings_92 : decode cX8_findReadings 92 = .ok (.putfield 114, 3) := by decide +kernel
theorem dX8_findReadings_95 : decode cX8_findReadings 95 = .ok (.aload_n 0, 1) := by decide +kernel
theorem dX8_findReadings_96 : decode cX8_findReadings 96 = .ok (.dup, 1) := by decide +kernel
theorem dX8_findReadings_97 : decode cX8_findReadings 97 = .ok (.getfield 117, 3) := by decide +kernel
theorem dX8_findReadings_100 : decode cX8_findReadings 100 = .ok (.iconst 1, 1) := by decide +kernel
theorem dX8_findReadings_101 : decode cX8_findReadings 101 = .ok (.iadd, 1) := by decide +kernel
theorem dX8_findReadings_102 : decode cX8_findReadings 102 = .ok (.putfield 117, 3) := by decide +kernel
theorem dX8_findReadings_105 : decode cX8_findReadings 105 = .ok (.aload_n 0, 1) := by decide +kernel
theorem dX8_findReadings_106 : decode cX8_findReadings 106 = .ok (.dup, 1) := by decide +kernel
theorem dX8_findReadings_107 : decode cX8_findReadings 107 = .ok (.getfield 120, 3) := by decide +kernel
theorem dX8_findReadings_110 : decode cX8_findReadings 110 = .ok (.iconst 1, 1) := by decide +kernel
theorem dX8_findReadings_111 : decode cX8_findReadings 111 = .ok (.iload_n 3, 1) := by decide +kernel
theorem dX8_findReadings_112 : decode cX8_findReadings 112 = .ok (.ishl, 1) := by decide +kernel
theorem dX8_findReadings_113 : decode cX8_findReadings 113 = .ok (.ior, 1) := by decide +kernel
theorem dX8_findReadings_114 : decode cX8_findReadings 114 = .ok (.putfield 120, 3) := by decide +kernel
theorem dX8_findReadings_117 : decode cX8_findReadings 117 = .ok (.iinc 5 1, 3) := by decide +kernel
theorem dX8_findReadings_120 : decode cX8_findReadings 120 = .ok (.goto (-72), 3) := by decide +kernel
theorem dX8_findReadings_123 : decode cX8_findReadings 123 = .ok (.iinc 4 1, 3) := by decide +kernel
end
section
theorem dX8_findReadings_126 : decode cX8_findReadings 126 = .ok (.goto (-87), 3) := by decide +kernel
theorem dX8_findReadings_129 : decode cX8_findReadings 129 = .ok (.iinc 3 1, 3) := by decide +kernel
theorem dX8_findReadings_132 : decode cX8_findReadings 132 = .ok (.goto (-115), 3) := by decide +kernel
theorem dX8_findReadings_135 : decode cX8_findReadings 135 = .ok (.return_, 1) := by decide +kernel
set_option maxRecDepth 20000 in
theorem ggX8_lacks_X8_isSheet : GoodIn wsX8_lacks wsX8_isSheet := goodIn_r _ [5, 6, 7, 8, 4, 9] (by decide +kernel) (by decide +kernel)
set_option maxRecDepth 20000 in
theorem gX8_lacks_X8_isSheet : GoodIn wsX8_lacks (va_wsS RX8 127 yX8_isSheet wsX8_isSheet) := goodIn_app (goodIn_of _ (by decide +kernel)) ggX8_lacks_X8_isSheet
set_option maxRecDepth 20000 in
theorem ggX8_lacks_X8_met : GoodIn wsX8_lacks wsX8_met := goodIn_r _ [13, 14, 15, 16, 17, 18, 19, 20, 21, 22, 23, 24, 25, 26, 27, 28, 29, 30, 31, 32, 33, 34, 35, 36, 37, 38, 39, 40, 41, 42] (by decide +kernel) (by decide +kernel)
set_option maxRecDepth 20000 in
theorem gX8_lacks_X8_met : GoodIn wsX8_lacks (wsV RX8 130 RX8 yX8_met wsX8_met) := goodIn_app (goodIn_of _ (by decide +kernel)) ggX8_lacks_X8_met
theorem dX8_lacks_0 : decode cX8_lacks 0 = .ok (.iload_n 1, 1) := by decide +kernel
theorem dX8_lacks_1 : decode cX8_lacks 1 = .ok (.invokestatic 127, 3) := by decide +kernel
theorem dX8_lacks_4 : decode cX8_lacks 4 = .ok (.ifCond .ne 8, 3) := by decide +kernel
theorem dX8_lacks_7 : decode cX8_lacks 7 = .ok (.bipush (-2), 2) := by decide +kernel
theorem dX8_lacks_9 : decode cX8_lacks 9 = .ok (.goto 21, 3) := by decide +kernel
theorem dX8_lacks_12 : decode cX8_lacks 12 = .ok (.aload_n 0, 1) := by decide +kernel
theorem dX8_lacks_13 : decode cX8_lacks 13 = .ok (.getfield 54, 3) := by decide +kernel
theorem dX8_lacks_16 : decode cX8_lacks 16 = .ok (.iload_n 1, 1) := by decide +kernel
theorem dX8_lacks_17 : decode cX8_lacks 17 = .ok (.iaload, 1) := by decide +kernel
theorem dX8_lacks_18 : decode cX8_lacks 18 = .ok (.ifCond .ge 11, 3) := by decide +kernel
theorem dX8_lacks_21 : decode cX8_lacks 21 = .ok (.aload_n 0, 1) := by decide +kernel
theorem dX8_lacks_22 : decode cX8_lacks 22 = .ok (.iconst 1, 1) := by decide +kernel
theorem dX8_lacks_23 : decode cX8_lacks 23 = .ok (.invokevirtual 130, 3) := by decide +kernel
theorem dX8_lacks_26 : decode cX8_lacks 26 = .ok (.goto 4, 3) := by decide +kernel
theorem dX8_lacks_29 : decode cX8_lacks 29 = .ok (.iconst 0, 1) := by decide +kernel
theorem dX8_lacks_30 : decode cX8_lacks 30 = .ok (.ireturn, 1) := by decide +kernel
set_option maxRecDepth 20000 in
theorem ggX8_readings_X8_lacks : GoodIn wsX8_readings wsX8_lacks := goodIn_r _ [6, 7, 8, 9, 5, 10, 11, 12, 13, 14, 15, 16, 17, 18, 19, 59, 60, 61, 62, 63, 64, 65, 66, 67, 68, 69, 70, 71, 72, 73, 74, 75, 76, 77, 78, 79, 80, 81, 82, 83, 84, 85, 86] (by decide +kernel) (by decide +kernel)
set_option maxRecDepth 20000 in
theorem gX8_readings_X8_lacks : GoodIn wsX8_readings (wsV RX8 133 RX8 yX8_lacks wsX8_lacks) := goodIn_app (goodIn_of _ (by decide +kernel)) ggX8_readings_X8_lacks
set_option maxRecDepth 20000 in
theorem ggX8_readings_X8_findReadings : GoodIn wsX8_readings wsX8_findReadings := goodIn_r _ [23, 24, 1, 25, 26, 27, 28, 29, 5, 30, 31, 32, 33, 34, 35, 36, 37, 38, 39, 40, 41, 42, 43, 44, 45, 46, 47, 48, 49, 50, 51, 12, 13, 14, 52, 53, 54, 55, 56, 57, 58, 59, 60, 61, 62, 63, 64, 65, 66, 67, 68, 69, 70, 71, 72, 73, 74, 75, 76, 77, 78, 79, 80, 81, 82, 83, 84, 85, 86] (by decide +kernel) (by decide +kernel)
set_option maxRecDepth 20000 in
theorem gX8_readings_X8_findReadings : GoodIn wsX8_readings (wsV RX8 136 RX8 yX8_findReadings wsX8_findReadings) := goodIn_app (goodIn_of _ (by decide +kernel)) ggX8_readings_X8_findReadings
theorem dX8_readings_0 : decode cX8_readings 0 = .ok (.aload_n 0, 1) := by decide +kernel
theorem dX8_readings_1 : decode cX8_readings 1 = .ok (.iload_n 1, 1) := by decide +kernel
theorem dX8_readings_2 : decode cX8_readings 2 = .ok (.invokevirtual 133, 3) := by decide +kernel
theorem dX8_readings_5 : decode cX8_readings 5 = .ok (.istore_n 2, 1) := by decide +kernel
theorem dX8_readings_6 : decode cX8_readings 6 = .ok (.iload_n 2, 1) := by decide +kernel
theorem dX8_readings_7 : decode cX8_readings 7 = .ok (.ifCond .eq 5, 3) := by decide +kernel
theorem dX8_readings_10 : decode cX8_readings 10 = .ok (.iload_n 2, 1) := by decide +kernel
theorem dX8_readings_11 : decode cX8_readings 11 = .ok (.ireturn, 1) := by decide +kernel
theorem dX8_readings_12 : decode cX8_readings 12 = .ok (.aload_n 0, 1) := by decide +kernel
theorem dX8_readings_13 : decode cX8_readings 13 = .ok (.iload_n 1, 1) := by decide +kernel
theorem dX8_readings_14 : decode cX8_readings 14 = .ok (.iconst (-1), 1) := by decide +kernel
theorem dX8_readings_15 : decode cX8_readings 15 = .ok (.invokevirtual 136, 3) := by decide +kernel
theorem dX8_readings_18 : decode cX8_readings 18 = .ok (.aload_n 0, 1) := by decide +kernel
theorem dX8_readings_19 : decode cX8_readings 19 = .ok (.getfield 117, 3) := by decide +kernel
theorem dX8_readings_22 : decode cX8_readings 22 = .ok (.ireturn, 1) := by decide +kernel
set_option maxRecDepth 20000 in
theorem ggX8_reading_X8_lacks : GoodIn wsX8_reading wsX8_lacks := goodIn_r _ [6, 7, 8, 9, 5, 10, 11, 12, 13, 14, 15, 16, 17, 18, 19, 59, 60, 61, 62, 63, 64, 65, 66, 67, 68, 69, 70, 71, 72, 73, 74, 75, 76, 77, 78, 79, 80, 81, 82, 83, 84, 85, 86] (by decide +kernel) (by decide +kernel)
set_option maxRecDepth 20000 in
theorem gX8_reading_X8_lacks : GoodIn wsX8_reading (wsV RX8 133 RX8 yX8_lacks wsX8_lacks) := goodIn_app (goodIn_of _ (by decide +kernel)) ggX8_reading_X8_lacks
set_option maxRecDepth 20000 in
theorem ggX8_reading_X8_findReadings : GoodIn wsX8_reading wsX8_findReadings := goodIn_r _ [23, 1, 24, 25, 26, 27, 28, 29, 5, 30, 31, 32, 33, 34, 35, 36, 37, 38, 39, 40, 41, 42, 43, 44, 45, 46, 47, 48, 49, 50, 51, 12, 13, 14, 52, 53, 54, 55, 56, 57, 58, 59, 60, 61, 62, 63, 64, 65, 66, 67, 68, 69, 70, 71, 72, 73, 74, 75, 76, 77, 78, 79, 80, 81, 82, 83, 84, 85, 86] (by decide +kernel) (by decide +kernel)
set_option maxRecDepth 20000 in
theorem gX8_reading_X8_findReadings : GoodIn wsX8_reading (wsV RX8 136 RX8 yX8_findReadings wsX8_findReadings) := goodIn_app (goodIn_of _ (by decide +kernel)) ggX8_reading_X8_findReadings
theorem dX8_reading_0 : decode cX8_reading 0 = .ok (.iload_n 2, 1) := by decide +kernel
theorem dX8_reading_1 : decode cX8_reading 1 = .ok (.ifCond .ge 6, 3) := by decide +kernel
theorem dX8_reading_4 : decode cX8_reading 4 = .ok (.bipush (-2), 2) := by decide +kernel
theorem dX8_reading_6 : decode cX8_reading 6 = .ok (.ireturn, 1) := by decide +kernel
theorem dX8_reading_7 : decode cX8_reading 7 = .ok (.aload_n 0, 1) := by decide +kernel
theorem dX8_reading_8 : decode cX8_reading 8 = .ok (.iload_n 1, 1) := by decide +kernel
theorem dX8_reading_9 : decode cX8_reading 9 = .ok (.invokevirtual 133, 3) := by decide +kernel
theorem dX8_reading_12 : decode cX8_reading 12 = .ok (.istore_n 3, 1) := by decide +kernel
theorem dX8_reading_13 : decode cX8_reading 13 = .ok (.iload_n 3, 1) := by decide +kernel
theorem dX8_reading_14 : decode cX8_reading 14 = .ok (.ifCond .eq 5, 3) := by decide +kernel
theorem dX8_reading_17 : decode cX8_reading 17 = .ok (.iload_n 3, 1) := by decide +kernel
theorem dX8_reading_18 : decode cX8_reading 18 = .ok (.ireturn, 1) := by decide +kernel
theorem dX8_reading_19 : decode cX8_reading 19 = .ok (.aload_n 0, 1) := by decide +kernel
theorem dX8_reading_20 : decode cX8_reading 20 = .ok (.iload_n 1, 1) := by decide +kernel
theorem dX8_reading_21 : decode cX8_reading 21 = .ok (.iload_n 2, 1) := by decide +kernel
theorem dX8_reading_22 : decode cX8_reading 22 = .ok (.invokevirtual 136, 3) := by decide +kernel
theorem dX8_reading_25 : decode cX8_reading 25 = .ok (.aload_n 0, 1) := by decide +kernel
theorem dX8_reading_26 : decode cX8_reading 26 = .ok (.getfield 114, 3) := by decide +kernel
theorem dX8_reading_29 : decode cX8_reading 29 = .ok (.ireturn, 1) := by decide +kernel
set_option maxRecDepth 20000 in
theorem ggX8_words_X8_lacks : GoodIn wsX8_words wsX8_lacks := goodIn_r _ [6, 7, 8, 9, 5, 10, 11, 12, 13, 14, 15, 16, 17, 18, 19, 59, 60, 61, 62, 63, 64, 65, 66, 67, 68, 69, 70, 71, 72, 73, 74, 75, 76, 77, 78, 79, 80, 81, 82, 83, 84, 85, 86] (by decide +kernel) (by decide +kernel)
set_option maxRecDepth 20000 in
theorem gX8_words_X8_lacks : GoodIn wsX8_words (wsV RX8 133 RX8 yX8_lacks wsX8_lacks) := goodIn_app (goodIn_of _ (by decide +kernel)) ggX8_words_X8_lacks
set_option maxRecDepth 20000 in
theorem ggX8_words_X8_findReadings : GoodIn wsX8_words wsX8_findReadings := goodIn_r _ [23, 24, 25, 1, 26, 27, 28, 29, 5, 30, 31, 32, 33, 34, 35, 36, 37, 38, 39, 40, 41, 42, 43, 44, 45, 46, 47, 48, 49, 50, 51, 12, 13, 14, 52, 53, 54, 55, 56, 57, 58, 59, 60, 61, 62, 63, 64, 65, 66, 67, 68, 69, 70, 71, 72, 73, 74, 75, 76, 77, 78, 79, 80, 81, 82, 83, 84, 85, 86] (by decide +kernel) (by decide +kernel)
set_option maxRecDepth 20000 in
theorem gX8_words_X8_findReadings : GoodIn wsX8_words (wsV RX8 136 RX8 yX8_findReadings wsX8_findReadings) := goodIn_app (goodIn_of _ (by decide +kernel)) ggX8_words_X8_findReadings
theorem dX8_words_0 : decode cX8_words 0 = .ok (.aload_n 0, 1) := by decide +kernel
theorem dX8_words_1 : decode cX8_words 1 = .ok (.iload_n 1, 1) := by decide +kernel
theorem dX8_words_2 : decode cX8_words 2 = .ok (.invokevirtual 133, 3) := by decide +kernel
theorem dX8_words_5 : decode cX8_words 5 = .ok (.istore_n 2, 1) := by decide +kernel
theorem dX8_words_6 : decode cX8_words 6 = .ok (.iload_n 2, 1) := by decide +kernel
theorem dX8_words_7 : decode cX8_words 7 = .ok (.ifCond .eq 5, 3) := by decide +kernel
theorem dX8_words_10 : decode cX8_words 10 = .ok (.iload_n 2, 1) := by decide +kernel
theorem dX8_words_11 : decode cX8_words 11 = .ok (.ireturn, 1) := by decide +kernel
theorem dX8_words_12 : decode cX8_words 12 = .ok (.aload_n 0, 1) := by decide +kernel
theorem dX8_words_13 : decode cX8_words 13 = .ok (.iload_n 1, 1) := by decide +kernel
theorem dX8_words_14 : decode cX8_words 14 = .ok (.iconst (-1), 1) := by decide +kernel
theorem dX8_words_15 : decode cX8_words 15 = .ok (.invokevirtual 136, 3) := by decide +kernel
theorem dX8_words_18 : decode cX8_words 18 = .ok (.aload_n 0, 1) := by decide +kernel
theorem dX8_words_19 : decode cX8_words 19 = .ok (.getfield 120, 3) := by decide +kernel
theorem dX8_words_22 : decode cX8_words 22 = .ok (.ireturn, 1) := by decide +kernel
theorem dX8_findOrder_0 : decode cX8_findOrder 0 = .ok (.iconst 0, 1) := by decide +kernel
theorem dX8_findOrder_1 : decode cX8_findOrder 1 = .ok (.istore_n 2, 1) := by decide +kernel
theorem dX8_findOrder_2 : decode cX8_findOrder 2 = .ok (.iload_n 2, 1) := by decide +kernel
theorem dX8_findOrder_3 : decode cX8_findOrder 3 = .ok (.aload_n 0, 1) := by decide +kernel
theorem dX8_findOrder_4 : decode cX8_findOrder 4 = .ok (.getfield 25, 3) := by decide +kernel
theorem dX8_findOrder_7 : decode cX8_findOrder 7 = .ok (.iload_n 1, 1) := by decide +kernel
theorem dX8_findOrder_8 : decode cX8_findOrder 8 = .ok (.iaload, 1) := by decide +kernel
theorem dX8_findOrder_9 : decode cX8_findOrder 9 = .ok (.if_icmp .ge 84, 3) := by decide +kernel
theorem dX8_findOrder_12 : decode cX8_findOrder 12 = .ok (.iload_n 2, 1) := by decide +kernel
theorem dX8_findOrder_13 : decode cX8_findOrder 13 = .ok (.istore_n 3, 1) := by decide +kernel
theorem dX8_findOrder_14 : decode cX8_findOrder 14 = .ok (.iload_n 3, 1) := by decide +kernel
theorem dX8_findOrder_15 : decode cX8_findOrder 15 = .ok (.ifCond .le 65, 3) := by decide +kernel
theorem dX8_findOrder_18 : decode cX8_findOrder 18 = .ok (.aload_n 0, 1) := by decide +kernel
theorem dX8_findOrder_19 : decode cX8_findOrder 19 = .ok (.getfield 19, 3) := by decide +kernel
theorem dX8_findOrder_22 : decode cX8_findOrder 22 = .ok (.aload_n 0, 1) := by decide +kernel
theorem dX8_findOrder_23 : decode cX8_findOrder 23 = .ok (.getfield 28, 3) := by decide +kernel
theorem dX8_findOrder_26 : decode cX8_findOrder 26 = .ok (.bipush 10, 2) := by decide +kernel
theorem dX8_findOrder_28 : decode cX8_findOrder 28 = .ok (.iload_n 1, 1) := by decide +kernel
theorem dX8_findOrder_29 : decode cX8_findOrder 29 = .ok (.imul, 1) := by decide +kernel
theorem dX8_findOrder_30 : decode cX8_findOrder 30 = .ok (.aload_n 0, 1) := by decide +kernel
theorem dX8_findOrder_31 : decode cX8_findOrder 31 = .ok (.getfield 41, 3) := by decide +kernel
theorem dX8_findOrder_34 : decode cX8_findOrder 34 = .ok (.iload_n 3, 1) := by decide +kernel
theorem dX8_findOrder_35 : decode cX8_findOrder 35 = .ok (.iconst 1, 1) := by decide +kernel
theorem dX8_findOrder_36 : decode cX8_findOrder 36 = .ok (.isub, 1) := by decide +kernel
theorem dX8_findOrder_37 : decode cX8_findOrder 37 = .ok (.iaload, 1) := by decide +kernel
theorem dX8_findOrder_38 : decode cX8_findOrder 38 = .ok (.iadd, 1) := by decide +kernel
theorem dX8_findOrder_39 : decode cX8_findOrder 39 = .ok (.iaload, 1) := by decide +kernel
theorem dX8_findOrder_40 : decode cX8_findOrder 40 = .ok (.iaload, 1) := by decide +kernel
theorem dX8_findOrder_41 : decode cX8_findOrder 41 = .ok (.aload_n 0, 1) := by decide +kernel
theorem dX8_findOrder_42 : decode cX8_findOrder 42 = .ok (.getfield 19, 3) := by decide +kernel
theorem dX8_findOrder_45 : decode cX8_findOrder 45 = .ok (.aload_n 0, 1) := by decide +kernel
theorem dX8_findOrder_46 : decode cX8_findOrder 46 = .ok (.getfield 28, 3) := by decide +kernel
theorem dX8_findOrder_49 : decode cX8_findOrder 49 = .ok (.bipush 10, 2) := by decide +kernel
theorem dX8_findOrder_51 : decode cX8_findOrder 51 = .ok (.iload_n 1, 1) := by decide +kernel
theorem dX8_findOrder_52 : decode cX8_findOrder 52 = .ok (.imul, 1) := by decide +kernel
theorem dX8_findOrder_53 : decode cX8_findOrder 53 = .ok (.iload_n 2, 1) := by decide +kernel
theorem dX8_findOrder_54 : decode cX8_findOrder 54 = .ok (.iadd, 1) := by decide +kernel
theorem dX8_findOrder_55 : decode cX8_findOrder 55 = .ok (.iaload, 1) := by decide +kernel
theorem dX8_findOrder_56 : decode cX8_findOrder 56 = .ok (.iaload, 1) := by decide +kernel
theorem dX8_findOrder_57 : decode cX8_findOrder 57 = .ok (.if_icmp .le 23, 3) := by decide +kernel
theorem dX8_findOrder_60 : decode cX8_findOrder 60 = .ok (.aload_n 0, 1) := by decide +kernel
theorem dX8_findOrder_61 : decode cX8_findOrder 61 = .ok (.getfield 41, 3) := by decide +kernel
theorem dX8_findOrder_64 : decode cX8_findOrder 64 = .ok (.iload_n 3, 1) := by decide +kernel
theorem dX8_findOrder_65 : decode cX8_findOrder 65 = .ok (.aload_n 0, 1) := by decide +kernel
theorem dX8_findOrder_66 : decode cX8_findOrder 66 = .ok (.getfield 41, 3) := by decide +kernel
theorem dX8_findOrder_69 : decode cX8_findOrder 69 = .ok (.iload_n 3, 1) := by decide +kernel
theorem dX8_findOrder_70 : decode cX8_findOrder 70 = .ok (.iconst 1, 1) := by decide +kernel
theorem dX8_findOrder_71 : decode cX8_findOrder 71 = .ok (.isub, 1) := by decide +kernel
theorem dX8_findOrder_72 : decode cX8_findOrder 72 = .ok (.iaload, 1) := by decide +kernel
theorem dX8_findOrder_73 : decode cX8_findOrder 73 = .ok (.iastore, 1) := by decide +kernel
theorem dX8_findOrder_74 : decode cX8_findOrder 74 = .ok (.iinc 3 (-1), 3) := by decide +kernel
theorem dX8_findOrder_77 : decode cX8_findOrder 77 = .ok (.goto (-63), 3) := by decide +kernel
theorem dX8_findOrder_80 : decode cX8_findOrder 80 = .ok (.aload_n 0, 1) := by decide +kernel
theorem dX8_findOrder_81 : decode cX8_findOrder 81 = .ok (.getfield 41, 3) := by decide +kernel
theorem dX8_findOrder_84 : decode cX8_findOrder 84 = .ok (.iload_n 3, 1) := by decide +kernel
theorem dX8_findOrder_85 : decode cX8_findOrder 85 = .ok (.iload_n 2, 1) := by decide +kernel
theorem dX8_findOrder_86 : decode cX8_findOrder 86 = .ok (.iastore, 1) := by decide +kernel
theorem dX8_findOrder_87 : decode cX8_findOrder 87 = .ok (.iinc 2 1, 3) := by decide +kernel
theorem dX8_findOrder_90 : decode cX8_findOrder 90 = .ok (.goto (-88), 3) := by decide +kernel
theorem dX8_findOrder_93 : decode cX8_findOrder 93 = .ok (.aload_n 0, 1) := by decide +kernel
theorem dX8_findOrder_94 : decode cX8_findOrder 94 = .ok (.iconst 0, 1) := by decide +kernel
theorem dX8_findOrder_95 : decode cX8_findOrder 95 = .ok (.putfield 140, 3) := by decide +kernel
theorem dX8_findOrder_98 : decode cX8_findOrder 98 = .ok (.aload_n 0, 1) := by decide +kernel
theorem dX8_findOrder_99 : decode cX8_findOrder 99 = .ok (.iconst 0, 1) := by decide +kernel
theorem dX8_findOrder_100 : decode cX8_findOrder 100 = .ok (.putfield 143, 3) := by decide +kernel
theorem dX8_findOrder_103 : decode cX8_findOrder 103 = .ok (.iconst 0, 1) := by decide +kernel
theorem dX8_findOrder_104 : decode cX8_findOrder 104 = .ok (.istore_n 2, 1) := by decide +kernel
theorem dX8_findOrder_105 : decode cX8_findOrder 105 = .ok (.iconst 0, 1) := by decide +kernel
theorem dX8_findOrder_106 : decode cX8_findOrder 106 = .ok (.istore_n 3, 1) := by decide +kernel
theorem dX8_findOrder_107 : decode cX8_findOrder 107 = .ok (.iload_n 3, 1) := by decide +kernel
theorem dX8_findOrder_108 : decode cX8_findOrder 108 = .ok (.aload_n 0, 1) := by decide +kernel
theorem dX8_findOrder_109 : decode cX8_findOrder 109 = .ok (.getfield 25, 3) := by decide +kernel
theorem dX8_findOrder_112 : decode cX8_findOrder 112 = .ok (.iload_n 1, 1) := by decide +kernel
theorem dX8_findOrder_113 : decode cX8_findOrder 113 = .ok (.iaload, 1) := by decide +kernel
theorem dX8_findOrder_114 : decode cX8_findOrder 114 = .ok (.if_icmp .ge 89, 3) := by decide +kernel
theorem dX8_findOrder_117 : decode cX8_findOrder 117 = .ok (.aload_n 0, 1) := by decide +kernel
theorem dX8_findOrder_118 : decode cX8_findOrder 118 = .ok (.getfield 28, 3) := by decide +kernel
theorem dX8_findOrder_121 : decode cX8_findOrder 121 = .ok (.bipush 10, 2) := by decide +kernel
theorem dX8_findOrder_123 : decode cX8_findOrder 123 = .ok (.iload_n 1, 1) := by decide +kernel
theorem dX8_findOrder_124 : decode cX8_findOrder 124 = .ok (.imul, 1) := by decide +kernel
theorem dX8_findOrder_125 : decode cX8_findOrder 125 = .ok (.aload_n 0, 1) := by decide +kernel
theorem dX8_findOrder_126 : decode cX8_findOrder 126 = .ok (.getfield 41, 3) := by decide +kernel
theorem dX8_findOrder_129 : decode cX8_findOrder 129 = .ok (.iload_n 3, 1) := by decide +kernel
theorem dX8_findOrder_130 : decode cX8_findOrder 130 = .ok (.iaload, 1) := by decide +kernel
theorem dX8_findOrder_131 : decode cX8_findOrder 131 = .ok (.iadd, 1) := by decide +kernel
theorem dX8_findOrder_132 : decode cX8_findOrder 132 = .ok (.iaload, 1) := by decide +kernel
theorem dX8_findOrder_133 : decode cX8_findOrder 133 = .ok (.istore 4, 2) := by decide +kernel
theorem dX8_findOrder_135 : decode cX8_findOrder 135 = .ok (.iload_n 2, 1) := by decide +kernel
theorem dX8_findOrder_136 : decode cX8_findOrder 136 = .ok (.aload_n 0, 1) := by decide +kernel
theorem dX8_findOrder_137 : decode cX8_findOrder 137 = .ok (.getfield 16, 3) := by decide +kernel
theorem dX8_findOrder_140 : decode cX8_findOrder 140 = .ok (.iload 4, 2) := by decide +kernel
theorem dX8_findOrder_142 : decode cX8_findOrder 142 = .ok (.iaload, 1) := by decide +kernel
theorem dX8_findOrder_143 : decode cX8_findOrder 143 = .ok (.iadd, 1) := by decide +kernel
theorem dX8_findOrder_144 : decode cX8_findOrder 144 = .ok (.istore_n 2, 1) := by decide +kernel
theorem dX8_findOrder_145 : decode cX8_findOrder 145 = .ok (.iload_n 2, 1) := by decide +kernel
theorem dX8_findOrder_146 : decode cX8_findOrder 146 = .ok (.aload_n 0, 1) := by decide +kernel
theorem dX8_findOrder_147 : decode cX8_findOrder 147 = .ok (.getfield 19, 3) := by decide +kernel
theorem dX8_findOrder_150 : decode cX8_findOrder 150 = .ok (.iload 4, 2) := by decide +kernel
theorem dX8_findOrder_152 : decode cX8_findOrder 152 = .ok (.iaload, 1) := by decide +kernel
theorem dX8_findOrder_153 : decode cX8_findOrder 153 = .ok (.isub, 1) := by decide +kernel
theorem dX8_findOrder_154 : decode cX8_findOrder 154 = .ok (.istore 5, 2) := by decide +kernel
theorem dX8_findOrder_156 : decode cX8_findOrder 156 = .ok (.aload_n 0, 1) := by decide +kernel
theorem dX8_findOrder_157 : decode cX8_findOrder 157 = .ok (.iload 5, 2) := by decide +kernel
theorem dX8_findOrder_159 : decode cX8_findOrder 159 = .ok (.aload_n 0, 1) := by decide +kernel
theorem dX8_findOrder_160 : decode cX8_findOrder 160 = .ok (.getfield 140, 3) := by decide +kernel
theorem dX8_findOrder_163 : decode cX8_findOrder 163 = .ok (.if_icmp .le 8, 3) := by decide +kernel
theorem dX8_findOrder_166 : decode cX8_findOrder 166 = .ok (.iload 5, 2) := by decide +kernel
theorem dX8_findOrder_168 : decode cX8_findOrder 168 = .ok (.goto 7, 3) := by decide +kernel
theorem dX8_findOrder_171 : decode cX8_findOrder 171 = .ok (.aload_n 0, 1) := by decide +kernel
theorem dX8_findOrder_172 : decode cX8_findOrder 172 = .ok (.getfield 140, 3) := by decide +kernel
theorem dX8_findOrder_175 : decode cX8_findOrder 175 = .ok (.putfield 140, 3) := by decide +kernel
theorem dX8_findOrder_178 : decode cX8_findOrder 178 = .ok (.aload_n 0, 1) := by decide +kernel
theorem dX8_findOrder_179 : decode cX8_findOrder 179 = .ok (.dup, 1) := by decide +kernel
theorem dX8_findOrder_180 : decode cX8_findOrder 180 = .ok (.getfield 143, 3) := by decide +kernel
theorem dX8_findOrder_183 : decode cX8_findOrder 183 = .ok (.iload 5, 2) := by decide +kernel
theorem dX8_findOrder_185 : decode cX8_findOrder 185 = .ok (.ifCond .le 7, 3) := by decide +kernel
theorem dX8_findOrder_188 : decode cX8_findOrder 188 = .ok (.iconst 1, 1) := by decide +kernel
theorem dX8_findOrder_189 : decode cX8_findOrder 189 = .ok (.goto 4, 3) := by decide +kernel
theorem dX8_findOrder_192 : decode cX8_findOrder 192 = .ok (.iconst 0, 1) := by decide +kernel
theorem dX8_findOrder_193 : decode cX8_findOrder 193 = .ok (.iadd, 1) := by decide +kernel
theorem dX8_findOrder_194 : decode cX8_findOrder 194 = .ok (.putfield 143, 3) := by decide +kernel
theorem dX8_findOrder_197 : decode cX8_findOrder 197 = .ok (.iinc 3 1, 3) := by decide +kernel
theorem dX8_findOrder_200 : decode cX8_findOrder 200 = .ok (.goto (-93), 3) := by decide +kernel
theorem dX8_findOrder_203 : decode cX8_findOrder 203 = .ok (.return_, 1) := by decide +kernel
set_option maxRecDepth 20000 in
theorem ggX8_order_X8_isWord : GoodIn wsX8_order wsX8_isWord := goodIn_r _ [6, 7, 8, 9, 5, 10] (by decide +kernel) (by decide +kernel)
set_option maxRecDepth 20000 in
theorem gX8_order_X8_isWord : GoodIn wsX8_order (va_wsS RX8 89 yX8_isWord wsX8_isWord) := goodIn_app (goodIn_of _ (by decide +kernel)) ggX8_order_X8_isWord
set_option maxRecDepth 20000 in
theorem ggX8_order_X8_in : GoodIn wsX8_order wsX8_in := goodIn_r _ [10] (by decide +kernel) (by decide +kernel)
set_option maxRecDepth 20000 in
theorem gX8_order_X8_in : GoodIn wsX8_order (va_wsS RX8 69 yX8_in wsX8_in) := goodIn_app (goodIn_of _ (by decide +kernel)) ggX8_order_X8_in
set_option maxRecDepth 20000 in
theorem ggX8_order_X8_findOrder : GoodIn wsX8_order wsX8_findOrder := goodIn_r _ [14, 1, 15, 16, 2, 17, 18, 19, 20, 21, 22, 23, 24, 25, 26, 27, 28, 29, 30, 31, 32, 33, 34, 35, 36, 37, 38, 39, 40, 41, 42, 43, 44, 45, 46, 47] (by decide +kernel) (by decide +kernel)
set_option maxRecDepth 20000 in
theorem gX8_order_X8_findOrder : GoodIn wsX8_order (wsV RX8 146 RX8 yX8_findOrder wsX8_findOrder) := goodIn_app (goodIn_of _ (by decide +kernel)) ggX8_order_X8_findOrder
theorem dX8_order_0 : decode cX8_order 0 = .ok (.iload_n 1, 1) := by decide +kernel
theorem dX8_order_1 : decode cX8_order 1 = .ok (.invokestatic 89, 3) := by decide +kernel
theorem dX8_order_4 : decode cX8_order 4 = .ok (.ifCond .eq 21, 3) := by decide +kernel
theorem dX8_order_7 : decode cX8_order 7 = .ok (.iload_n 2, 1) := by decide +kernel
theorem dX8_order_8 : decode cX8_order 8 = .ok (.i2l, 1) := by decide +kernel
theorem dX8_order_9 : decode cX8_order 9 = .ok (.lconst 0, 1) := by decide +kernel
theorem dX8_order_10 : decode cX8_order 10 = .ok (.aload_n 0, 1) := by decide +kernel
theorem dX8_order_11 : decode cX8_order 11 = .ok (.getfield 25, 3) := by decide +kernel
theorem dX8_order_14 : decode cX8_order 14 = .ok (.iload_n 1, 1) := by decide +kernel
theorem dX8_order_15 : decode cX8_order 15 = .ok (.iaload, 1) := by decide +kernel
theorem dX8_order_16 : decode cX8_order 16 = .ok (.iconst 1, 1) := by decide +kernel
theorem dX8_order_17 : decode cX8_order 17 = .ok (.isub, 1) := by decide +kernel
theorem dX8_order_18 : decode cX8_order 18 = .ok (.i2l, 1) := by decide +kernel
theorem dX8_order_19 : decode cX8_order 19 = .ok (.invokestatic 69, 3) := by decide +kernel
theorem dX8_order_22 : decode cX8_order 22 = .ok (.ifCond .ne 6, 3) := by decide +kernel
theorem dX8_order_25 : decode cX8_order 25 = .ok (.bipush (-2), 2) := by decide +kernel
theorem dX8_order_27 : decode cX8_order 27 = .ok (.ireturn, 1) := by decide +kernel
theorem dX8_order_28 : decode cX8_order 28 = .ok (.aload_n 0, 1) := by decide +kernel
theorem dX8_order_29 : decode cX8_order 29 = .ok (.iload_n 1, 1) := by decide +kernel
theorem dX8_order_30 : decode cX8_order 30 = .ok (.invokevirtual 146, 3) := by decide +kernel
theorem dX8_order_33 : decode cX8_order 33 = .ok (.aload_n 0, 1) := by decide +kernel
theorem dX8_order_34 : decode cX8_order 34 = .ok (.getfield 41, 3) := by decide +kernel
theorem dX8_order_37 : decode cX8_order 37 = .ok (.iload_n 2, 1) := by decide +kernel
theorem dX8_order_38 : decode cX8_order 38 = .ok (.iaload, 1) := by decide +kernel
theorem dX8_order_39 : decode cX8_order 39 = .ok (.ireturn, 1) := by decide +kernel
set_option maxRecDepth 20000 in
theorem ggX8_late_X8_isWord : GoodIn wsX8_late wsX8_isWord := goodIn_r _ [5, 6, 7, 8, 4, 9] (by decide +kernel) (by decide +kernel)
set_option maxRecDepth 20000 in
theorem gX8_late_X8_isWord : GoodIn wsX8_late (va_wsS RX8 89 yX8_isWord wsX8_isWord) := goodIn_app (goodIn_of _ (by decide +kernel)) ggX8_late_X8_isWord
set_option maxRecDepth 20000 in
theorem ggX8_late_X8_findOrder : GoodIn wsX8_late wsX8_findOrder := goodIn_r _ [13, 14, 15, 16, 17, 1, 18, 19, 20, 21, 22, 23, 24, 25, 26, 27, 28, 29, 30, 31, 32, 33, 34, 35, 36, 37, 38, 39, 40, 41, 42, 43, 44, 45, 46, 47] (by decide +kernel) (by decide +kernel)
set_option maxRecDepth 20000 in
theorem gX8_late_X8_findOrder : GoodIn wsX8_late (wsV RX8 146 RX8 yX8_findOrder wsX8_findOrder) := goodIn_app (goodIn_of _ (by decide +kernel)) ggX8_late_X8_findOrder
theorem dX8_late_0 : decode cX8_late 0 = .ok (.iload_n 1, 1) := by decide +kernel
theorem dX8_late_1 : decode cX8_late 1 = .ok (.invokestatic 89, 3) := by decide +kernel
theorem dX8_late_4 : decode cX8_late 4 = .ok (.ifCond .ne 6, 3) := by decide +kernel
theorem dX8_late_7 : decode cX8_late 7 = .ok (.bipush (-2), 2) := by decide +kernel
theorem dX8_late_9 : decode cX8_late 9 = .ok (.ireturn, 1) := by decide +kernel
theorem dX8_late_10 : decode cX8_late 10 = .ok (.aload_n 0, 1) := by decide +kernel
theorem dX8_late_11 : decode cX8_late 11 = .ok (.iload_n 1, 1) := by decide +kernel
theorem dX8_late_12 : decode cX8_late 12 = .ok (.invokevirtual 146, 3) := by decide +kernel
theorem dX8_late_15 : decode cX8_late 15 = .ok (.aload_n 0, 1) := by decide +kernel
theorem dX8_late_16 : decode cX8_late 16 = .ok (.getfield 140, 3) := by decide +kernel
theorem dX8_late_19 : decode cX8_late 19 = .ok (.ireturn, 1) := by decide +kernel
set_option maxRecDepth 20000 in
theorem ggX8_spoiled_X8_isWord : GoodIn wsX8_spoiled wsX8_isWord := goodIn_r _ [5, 6, 7, 8, 4, 9] (by decide +kernel) (by decide +kernel)
set_option maxRecDepth 20000 in
theorem gX8_spoiled_X8_isWord : GoodIn wsX8_spoiled (va_wsS RX8 89 yX8_isWord wsX8_isWord) := goodIn_app (goodIn_of _ (by decide +kernel)) ggX8_spoiled_X8_isWord
set_option maxRecDepth 20000 in
theorem ggX8_spoiled_X8_findOrder : GoodIn wsX8_spoiled wsX8_findOrder := goodIn_r _ [13, 14, 15, 16, 17, 18, 1, 19, 20, 21, 22, 23, 24, 25, 26, 27, 28, 29, 30, 31, 32, 33, 34, 35, 36, 37, 38, 39, 40, 41, 42, 43, 44, 45, 46, 47] (by decide +kernel) (by decide +kernel)
set_option maxRecDepth 20000 in
theorem gX8_spoiled_X8_findOrder : GoodIn wsX8_spoiled (wsV RX8 146 RX8 yX8_findOrder wsX8_findOrder) := goodIn_app (goodIn_of _ (by decide +kernel)) ggX8_spoiled_X8_findOrder
theorem dX8_spoiled_0 : decode cX8_spoiled 0 = .ok (.iload_n 1, 1) := by decide +kernel
theorem dX8_spoiled_1 : decode cX8_spoiled 1 = .ok (.invokestatic 89, 3) := by decide +kernel
theorem dX8_spoiled_4 : decode cX8_spoiled 4 = .ok (.ifCond .ne 6, 3) := by decide +kernel
theorem dX8_spoiled_7 : decode cX8_spoiled 7 = .ok (.bipush (-2), 2) := by decide +kernel
theorem dX8_spoiled_9 : decode cX8_spoiled 9 = .ok (.ireturn, 1) := by decide +kernel
theorem dX8_spoiled_10 : decode cX8_spoiled 10 = .ok (.aload_n 0, 1) := by decide +kernel
theorem dX8_spoiled_11 : decode cX8_spoiled 11 = .ok (.iload_n 1, 1) := by decide +kernel
theorem dX8_spoiled_12 : decode cX8_spoiled 12 = .ok (.invokevirtual 146, 3) := by decide +kernel
theorem dX8_spoiled_15 : decode cX8_spoiled 15 = .ok (.aload_n 0, 1) := by decide +kernel
theorem dX8_spoiled_16 : decode cX8_spoiled 16 = .ok (.getfield 143, 3) := by decide +kernel
theorem dX8_spoiled_19 : decode cX8_spoiled 19 = .ok (.ireturn, 1) := by decide +kernel
set_option maxRecDepth 20000 in
theorem ggX8_set_X8_in : GoodIn wsX8_set wsX8_in := goodIn_r _ [9] (by decide +kernel) (by decide +kernel)
set_option maxRecDepth 20000 in
theorem gX8_set_X8_in : GoodIn wsX8_set (va_wsS RX8 69 yX8_in wsX8_in) := goodIn_app (goodIn_of _ (by decide +kernel)) ggX8_set_X8_in
theorem dX8_set_0 : decode cX8_set 0 = .ok (.iload_n 1, 1) := by decide +kernel
theorem dX8_set_1 : decode cX8_set 1 = .ok (.ifCond .ne 17, 3) := by decide +kernel
theorem dX8_set_4 : decode cX8_set 4 = .ok (.iload_n 2, 1) := by decide +kernel
theorem dX8_set_5 : decode cX8_set 5 = .ok (.i2l, 1) := by decide +kernel
theorem dX8_set_6 : decode cX8_set 6 = .ok (.ldc2_w 87, 3) := by decide +kernel
theorem dX8_set_9 : decode cX8_set 9 = .ok (.ldc2_w 149, 3) := by decide +kernel
theorem dX8_set_12 : decode cX8_set 12 = .ok (.invokestatic 69, 3) := by decide +kernel
theorem dX8_set_15 : decode cX8_set 15 = .ok (.goto 59, 3) := by decide +kernel
theorem dX8_set_18 : decode cX8_set 18 = .ok (.iload_n 1, 1) := by decide +kernel
theorem dX8_set_19 : decode cX8_set 19 = .ok (.iconst 1, 1) := by decide +kernel
theorem dX8_set_20 : decode cX8_set 20 = .ok (.if_icmp .ne 15, 3) := by decide +kernel
theorem dX8_set_23 : decode cX8_set 23 = .ok (.iload_n 2, 1) := by decide +kernel
theorem dX8_set_24 : decode cX8_set 24 = .ok (.i2l, 1) := by decide +kernel
theorem dX8_set_25 : decode cX8_set 25 = .ok (.lconst 0, 1) := by decide +kernel
theorem dX8_set_26 : decode cX8_set 26 = .ok (.ldc2_w 151, 3) := by decide +kernel
theorem dX8_set_29 : decode cX8_set 29 = .ok (.invokestatic 69, 3) := by decide +kernel
theorem dX8_set_32 : decode cX8_set 32 = .ok (.goto 42, 3) := by decide +kernel
theorem dX8_set_35 : decode cX8_set 35 = .ok (.iload_n 1, 1) := by decide +kernel
theorem dX8_set_36 : decode cX8_set 36 = .ok (.iconst 2, 1) := by decide +kernel
theorem dX8_set_37 : decode cX8_set 37 = .ok (.if_icmp .ne 15, 3) := by decide +kernel
theorem dX8_set_40 : decode cX8_set 40 = .ok (.iload_n 2, 1) := by decide +kernel
theorem dX8_set_41 : decode cX8_set 41 = .ok (.i2l, 1) := by decide +kernel
theorem dX8_set_42 : decode cX8_set 42 = .ok (.lconst 1, 1) := by decide +kernel
theorem dX8_set_43 : decode cX8_set 43 = .ok (.ldc2_w 151, 3) := by decide +kernel
theorem dX8_set_46 : decode cX8_set 46 = .ok (.invokestatic 69, 3) := by decide +kernel
theorem dX8_set_49 : decode cX8_set 49 = .ok (.goto 25, 3) := by decide +kernel
theorem dX8_set_52 : decode cX8_set 52 = .ok (.iload_n 1, 1) := by decide +kernel
theorem dX8_set_53 : decode cX8_set 53 = .ok (.iconst 3, 1) := by decide +kernel
theorem dX8_set_54 : decode cX8_set 54 = .ok (.if_icmp .ne 19, 3) := by decide +kernel
theorem dX8_set_57 : decode cX8_set 57 = .ok (.iload_n 2, 1) := by decide +kernel
theorem dX8_set_58 : decode cX8_set 58 = .ok (.i2l, 1) := by decide +kernel
theorem dX8_set_59 : decode cX8_set 59 = .ok (.lconst 0, 1) := by decide +kernel
theorem dX8_set_60 : decode cX8_set 60 = .ok (.ldc2_w 153, 3) := by decide +kernel
theorem dX8_set_63 : decode cX8_set 63 = .ok (.invokestatic 69, 3) := by decide +kernel
theorem dX8_set_66 : decode cX8_set 66 = .ok (.ifCond .eq 7, 3) := by decide +kernel
theorem dX8_set_69 : decode cX8_set 69 = .ok (.iconst 1, 1) := by decide +kernel
theorem dX8_set_70 : decode cX8_set 70 = .ok (.goto 4, 3) := by decide +kernel
theorem dX8_set_73 : decode cX8_set 73 = .ok (.iconst 0, 1) := by decide +kernel
theorem dX8_set_74 : decode cX8_set 74 = .ok (.istore_n 3, 1) := by decide +kernel
theorem dX8_set_75 : decode cX8_set 75 = .ok (.iload_n 3, 1) := by decide +kernel
theorem dX8_set_76 : decode cX8_set 76 = .ok (.ifCond .ne 6, 3) := by decide +kernel
theorem dX8_set_79 : decode cX8_set 79 = .ok (.bipush (-2), 2) := by decide +kernel
theorem dX8_set_81 : decode cX8_set 81 = .ok (.ireturn, 1) := by decide +kernel
theorem dX8_set_82 : decode cX8_set 82 = .ok (.aload_n 0, 1) := by decide +kernel
theorem dX8_set_83 : decode cX8_set 83 = .ok (.getfield 7, 3) := by decide +kernel
theorem dX8_set_86 : decode cX8_set 86 = .ok (.iload_n 1, 1) := by decide +kernel
theorem dX8_set_87 : decode cX8_set 87 = .ok (.iaload, 1) := by decide +kernel
theorem dX8_set_88 : decode cX8_set 88 = .ok (.istore 4, 2) := by decide +kernel
theorem dX8_set_90 : decode cX8_set 90 = .ok (.aload_n 0, 1) := by decide +kernel
theorem dX8_set_91 : decode cX8_set 91 = .ok (.getfield 7, 3) := by decide +kernel
theorem dX8_set_94 : decode cX8_set 94 = .ok (.iload_n 1, 1) := by decide +kernel
theorem dX8_set_95 : decode cX8_set 95 = .ok (.iload_n 2, 1) := by decide +kernel
theorem dX8_set_96 : decode cX8_set 96 = .ok (.iastore, 1) := by decide +kernel
theorem dX8_set_97 : decode cX8_set 97 = .ok (.iload 4, 2) := by decide +kernel
theorem dX8_set_99 : decode cX8_set 99 = .ok (.ireturn, 1) := by decide +kernel
set_option maxRecDepth 20000 in
theorem ggX8_lump_X8_isWord : GoodIn wsX8_lump wsX8_isWord := goodIn_r _ [12, 13, 14, 15, 11, 16] (by decide +kernel) (by decide +kernel)
set_option maxRecDepth 20000 in
theorem gX8_lump_X8_isWord : GoodIn wsX8_lump (va_wsS RX8 89 yX8_isWord wsX8_isWord) := goodIn_app (goodIn_of _ (by decide +kernel)) ggX8_lump_X8_isWord
set_option maxRecDepth 20000 in
theorem ggX8_lump_X8_in : GoodIn wsX8_lump wsX8_in := goodIn_r _ [16] (by decide +kernel) (by decide +kernel)
set_option maxRecDepth 20000 in
theorem gX8_lump_X8_in : GoodIn wsX8_lump (va_wsS RX8 69 yX8_in wsX8_in) := goodIn_app (goodIn_of _ (by decide +kernel)) ggX8_lump_X8_in
set_option maxRecDepth 20000 in
theorem ggX8_lump_X8_fits : GoodIn wsX8_lump wsX8_fits := goodIn_r _ [20, 21, 22, 23, 24, 25, 11, 26, 27, 28, 29, 30, 31, 32, 33, 34, 35, 36, 37, 38, 39, 40, 41, 42, 43, 44, 45, 46, 47, 48, 49, 50, 51, 52, 53, 54, 55, 56, 57] (by decide +kernel) (by decide +kernel)
set_option maxRecDepth 20000 in
theorem gX8_lump_X8_fits : GoodIn wsX8_lump (wsV RX8 100 RX8 yX8_fits wsX8_fits) := goodIn_app (goodIn_of _ (by decide +kernel)) ggX8_lump_X8_fits
theorem dX8_lump_0 : decode cX8_lump 0 = .ok (.aload_n 0, 1) := by decide +kernel
theorem dX8_lump_1 : decode cX8_lump 1 = .ok (.getfield 155, 3) := by decide +kernel
theorem dX8_lump_4 : decode cX8_lump 4 = .ok (.ifCond .ne 7, 3) := by decide +kernel
theorem dX8_lump_7 : decode cX8_lump 7 = .ok (.iconst 0, 1) := by decide +kernel
theorem dX8_lump_8 : decode cX8_lump 8 = .ok (.goto 17, 3) := by decide +kernel
theorem dX8_lump_11 : decode cX8_lump 11 = .ok (.aload_n 0, 1) := by decide +kernel
theorem dX8_lump_12 : decode cX8_lump 12 = .ok (.getfield 44, 3) := by decide +kernel
theorem dX8_lump_15 : decode cX8_lump 15 = .ok (.bipush 6, 2) := by decide +kernel
theorem dX8_lump_17 : decode cX8_lump 17 = .ok (.aload_n 0, 1) := by decide +kernel
theorem dX8_lump_18 : decode cX8_lump 18 = .ok (.getfield 155, 3) := by decide +kernel
theorem dX8_lump_21 : decode cX8_lump 21 = .ok (.imul, 1) := by decide +kernel
theorem dX8_lump_22 : decode cX8_lump 22 = .ok (.iconst 4, 1) := by decide +kernel
theorem dX8_lump_23 : decode cX8_lump 23 = .ok (.isub, 1) := by decide +kernel
theorem dX8_lump_24 : decode cX8_lump 24 = .ok (.iaload, 1) := by decide +kernel
theorem dX8_lump_25 : decode cX8_lump 25 = .ok (.istore 5, 2) := by decide +kernel
theorem dX8_lump_27 : decode cX8_lump 27 = .ok (.iload_n 1, 1) := by decide +kernel
theorem dX8_lump_28 : decode cX8_lump 28 = .ok (.invokestatic 89, 3) := by decide +kernel
theorem dX8_lump_31 : decode cX8_lump 31 = .ok (.ifCond .eq 42, 3) := by decide +kernel
theorem dX8_lump_34 : decode cX8_lump 34 = .ok (.iload_n 2, 1) := by decide +kernel
theorem dX8_lump_35 : decode cX8_lump 35 = .ok (.i2l, 1) := by decide +kernel
theorem dX8_lump_36 : decode cX8_lump 36 = .ok (.lconst 0, 1) := by decide +kernel
theorem dX8_lump_37 : decode cX8_lump 37 = .ok (.ldc2_w 77, 3) := by decide +kernel
theorem dX8_lump_40 : decode cX8_lump 40 = .ok (.invokestatic 69, 3) := by decide +kernel
theorem dX8_lump_43 : decode cX8_lump 43 = .ok (.ifCond .eq 30, 3) := by decide +kernel
theorem dX8_lump_46 : decode cX8_lump 46 = .ok (.iload_n 3, 1) := by decide +kernel
theorem dX8_lump_47 : decode cX8_lump 47 = .ok (.i2l, 1) := by decide +kernel
theorem dX8_lump_48 : decode cX8_lump 48 = .ok (.iload 5, 2) := by decide +kernel
theorem dX8_lump_50 : decode cX8_lump 50 = .ok (.i2l, 1) := by decide +kernel
theorem dX8_lump_51 : decode cX8_lump 51 = .ok (.ldc2_w 158, 3) := by decide +kernel
theorem dX8_lump_54 : decode cX8_lump 54 = .ok (.invokestatic 69, 3) := by decide +kernel
theorem dX8_lump_57 : decode cX8_lump 57 = .ok (.ifCond .eq 16, 3) := by decide +kernel
theorem dX8_lump_60 : decode cX8_lump 60 = .ok (.iload 4, 2) := by decide +kernel
theorem dX8_lump_62 : decode cX8_lump 62 = .ok (.i2l, 1) := by decide +kernel
theorem dX8_lump_63 : decode cX8_lump 63 = .ok (.lconst 1, 1) := by decide +kernel
theorem dX8_lump_64 : decode cX8_lump 64 = .ok (.ldc2_w 149, 3) := by decide +kernel
theorem dX8_lump_67 : decode cX8_lump 67 = .ok (.invokestatic 69, 3) := by decide +kernel
theorem dX8_lump_70 : decode cX8_lump 70 = .ok (.ifCond .ne 6, 3) := by decide +kernel
theorem dX8_lump_73 : decode cX8_lump 73 = .ok (.bipush (-2), 2) := by decide +kernel
theorem dX8_lump_75 : decode cX8_lump 75 = .ok (.ireturn, 1) := by decide +kernel
theorem dX8_lump_76 : decode cX8_lump 76 = .ok (.aload_n 0, 1) := by decide +kernel
theorem dX8_lump_77 : decode cX8_lump 77 = .ok (.iload_n 1, 1) := by decide +kernel
theorem dX8_lump_78 : decode cX8_lump 78 = .ok (.invokevirtual 100, 3) := by decide +kernel
theorem dX8_lump_81 : decode cX8_lump 81 = .ok (.ifCond .ne 6, 3) := by decide +kernel
theorem dX8_lump_84 : decode cX8_lump 84 = .ok (.bipush (-3), 2) := by decide +kernel
theorem dX8_lump_86 : decode cX8_lump 86 = .ok (.ireturn, 1) := by decide +kernel
theorem dX8_lump_87 : decode cX8_lump 87 = .ok (.aload_n 0, 1) := by decide +kernel
theorem dX8_lump_88 : decode cX8_lump 88 = .ok (.getfield 155, 3) := by decide +kernel
theorem dX8_lump_91 : decode cX8_lump 91 = .ok (.bipush 40, 2) := by decide +kernel
theorem dX8_lump_93 : decode cX8_lump 93 = .ok (.if_icmp .ne 6, 3) := by decide +kernel
theorem dX8_lump_96 : decode cX8_lump 96 = .ok (.bipush (-4), 2) := by decide +kernel
theorem dX8_lump_98 : decode cX8_lump 98 = .ok (.ireturn, 1) := by decide +kernel
theorem dX8_lump_99 : decode cX8_lump 99 = .ok (.iload 4, 2) := by decide +kernel
theorem dX8_lump_101 : decode cX8_lump 101 = .ok (.aload_n 0, 1) := by decide +kernel
theorem dX8_lump_102 : decode cX8_lump 102 = .ok (.getfield 7, 3) := by decide +kernel
theorem dX8_lump_105 : decode cX8_lump 105 = .ok (.iconst 0, 1) := by decide +kernel
theorem dX8_lump_106 : decode cX8_lump 106 = .ok (.iaload, 1) := by decide +kernel
theorem dX8_lump_107 : decode cX8_lump 107 = .ok (.imul, 1) := by decide +kernel
theorem dX8_lump_108 : decode cX8_lump 108 = .ok (.istore 6, 2) := by decide +kernel
theorem dX8_lump_110 : decode cX8_lump 110 = .ok (.iload 6, 2) := by decide +kernel
theorem dX8_lump_112 : decode cX8_lump 112 = .ok (.iconst 2, 1) := by decide +kernel
theorem dX8_lump_113 : decode cX8_lump 113 = .ok (.aload_n 0, 1) := by decide +kernel
theorem dX8_lump_114 : decode cX8_lump 114 = .ok (.getfield 7, 3) := by decide +kernel
theorem dX8_lump_117 : decode cX8_lump 117 = .ok (.iconst 1, 1) := by decide +kernel
theorem dX8_lump_118 : decode cX8_lump 118 = .ok (.iaload, 1) := by decide +kernel
theorem dX8_lump_119 : decode cX8_lump 119 = .ok (.imul, 1) := by decide +kernel
theorem dX8_lump_120 : decode cX8_lump 120 = .ok (.if_icmp .le 24, 3) := by decide +kernel
theorem dX8_lump_123 : decode cX8_lump 123 = .ok (.iload 6, 2) := by decide +kernel
theorem dX8_lump_125 : decode cX8_lump 125 = .ok (.iconst 2, 1) := by decide +kernel
theorem dX8_lump_126 : decode cX8_lump 126 = .ok (.aload_n 0, 1) := by decide +kernel
theorem dX8_lump_127 : decode cX8_lump 127 = .ok (.getfield 7, 3) := by decide +kernel
theorem dX8_lump_130 : decode cX8_lump 130 = .ok (.iconst 1, 1) := by decide +kernel
theorem dX8_lump_131 : decode cX8_lump 131 = .ok (.iaload, 1) := by decide +kernel
theorem dX8_lump_132 : decode cX8_lump 132 = .ok (.imul, 1) := by decide +kernel
theorem dX8_lump_133 : decode cX8_lump 133 = .ok (.isub, 1) := by decide +kernel
theorem dX8_lump_134 : decode cX8_lump 134 = .ok (.aload_n 0, 1) := by decide +kernel
theorem dX8_lump_135 : decode cX8_lump 135 = .ok (.getfield 7, 3) := by decide +kernel
theorem dX8_lump_138 : decode cX8_lump 138 = .ok (.iconst 2, 1) := by decide +kernel
theorem dX8_lump_139 : decode cX8_lump 139 = .ok (.iaload, 1) := by decide +kernel
theorem dX8_lump_140 : decode cX8_lump 140 = .ok (.idiv, 1) := by decide +kernel
theorem dX8_lump_141 : decode cX8_lump 141 = .ok (.goto 4, 3) := by decide +kernel
theorem dX8_lump_144 : decode cX8_lump 144 = .ok (.iconst 0, 1) := by decide +kernel
theorem dX8_lump_145 : decode cX8_lump 145 = .ok (.istore 7, 2) := by decide +kernel
theorem dX8_lump_147 : decode cX8_lump 147 = .ok (.bipush 6, 2) := by decide +kernel
theorem dX8_lump_149 : decode cX8_lump 149 = .ok (.aload_n 0, 1) := by decide +kernel
theorem dX8_lump_150 : decode cX8_lump 150 = .ok (.getfield 155, 3) := by decide +kernel
theorem dX8_lump_153 : decode cX8_lump 153 = .ok (.imul, 1) := by decide +kernel
theorem dX8_lump_154 : decode cX8_lump 154 = .ok (.istore 8, 2) := by decide +kernel
theorem dX8_lump_156 : decode cX8_lump 156 = .ok (.aload_n 0, 1) := by decide +kernel
theorem dX8_lump_157 : decode cX8_lump 157 = .ok (.getfield 44, 3) := by decide +kernel
theorem dX8_lump_160 : decode cX8_lump 160 = .ok (.iload 8, 2) := by decide +kernel
theorem dX8_lump_162 : decode cX8_lump 162 = .ok (.iload_n 1, 1) := by decide +kernel
theorem dX8_lump_163 : decode cX8_lump 163 = .ok (.iastore, 1) := by decide +kernel
theorem dX8_lump_164 : decode cX8_lump 164 = .ok (.aload_n 0, 1) := by decide +kernel
theorem dX8_lump_165 : decode cX8_lump 165 = .ok (.getfield 44, 3) := by decide +kernel
theorem dX8_lump_168 : decode cX8_lump 168 = .ok (.iload 8, 2) := by decide +kernel
theorem dX8_lump_170 : decode cX8_lump 170 = .ok (.iconst 1, 1) := by decide +kernel
theorem dX8_lump_171 : decode cX8_lump 171 = .ok (.iadd, 1) := by decide +kernel
theorem dX8_lump_172 : decode cX8_lump 172 = .ok (.iload_n 2, 1) := by decide +kernel
theorem dX8_lump_173 : decode cX8_lump 173 = .ok (.iastore, 1) := by decide +kernel
theorem dX8_lump_174 : decode cX8_lump 174 = .ok (.aload_n 0, 1) := by decide +kernel
theorem dX8_lump_175 : decode cX8_lump 175 = .ok (.getfield 44, 3) := by decide +kernel
theorem dX8_lump_178 : decode cX8_lump 178 = .ok (.iload 8, 2) := by decide +kernel
theorem dX8_lump_180 : decode cX8_lump 180 = .ok (.iconst 2, 1) := by decide +kernel
theorem dX8_lump_181 : decode cX8_lump 181 = .ok (.iadd, 1) := by decide +kernel
theorem dX8_lump_182 : decode cX8_lump 182 = .ok (.iload_n 3, 1) := by decide +kernel
theorem dX8_lump_183 : decode cX8_lump 183 = .ok (.iastore, 1) := by decide +kernel
theorem dX8_lump_184 : decode cX8_lump 184 = .ok (.aload_n 0, 1) := by decide +kernel
theorem dX8_lump_185 : decode cX8_lump 185 = .ok (.getfield 44, 3) := by decide +kernel
theorem dX8_lump_188 : decode cX8_lump 188 = .ok (.iload 8, 2) := by decide +kernel
theorem dX8_lump_190 : decode cX8_lump 190 = .ok (.iconst 3, 1) := by decide +kernel
theorem dX8_lump_191 : decode cX8_lump 191 = .ok (.iadd, 1) := by decide +kernel
theorem dX8_lump_192 : decode cX8_lump 192 = .ok (.aload_n 0, 1) := by decide +kernel
theorem dX8_lump_193 : decode cX8_lump 193 = .ok (.getfield 160, 3) := by decide +kernel
theorem dX8_lump_196 : decode cX8_lump 196 = .ok (.iastore, 1) := by decide +kernel
theorem dX8_lump_197 : decode cX8_lump 197 = .ok (.aload_n 0, 1) := by decide +kernel
theorem dX8_lump_198 : decode cX8_lump 198 = .ok (.getfield 44, 3) := by decide +kernel
theorem dX8_lump_201 : decode cX8_lump 201 = .ok (.iload 8, 2) := by decide +kernel
theorem dX8_lump_203 : decode cX8_lump 203 = .ok (.iconst 4, 1) := by decide +kernel
theorem dX8_lump_204 : decode cX8_lump 204 = .ok (.iadd, 1) := by decide +kernel
theorem dX8_lump_205 : decode cX8_lump 205 = .ok (.iload 7, 2) := by decide +kernel
theorem dX8_lump_207 : decode cX8_lump 207 = .ok (.iastore, 1) := by decide +kernel
theorem dX8_lump_208 : decode cX8_lump 208 = .ok (.aload_n 0, 1) := by decide +kernel
theorem dX8_lump_209 : decode cX8_lump 209 = .ok (.getfield 44, 3) := by decide +kernel
theorem dX8_lump_212 : decode cX8_lump 212 = .ok (.iload 8, 2) := by decide +kernel
theorem dX8_lump_214 : decode cX8_lump 214 = .ok (.iconst 5, 1) := by decide +kernel
theorem dX8_lump_215 : decode cX8_lump 215 = .ok (.iadd, 1) := by decide +kernel
theorem dX8_lump_216 : decode cX8_lump 216 = .ok (.iload 6, 2) := by decide +kernel
theorem dX8_lump_218 : decode cX8_lump 218 = .ok (.iload 7, 2) := by decide +kernel
theorem dX8_lump_220 : decode cX8_lump 220 = .ok (.aload_n 0, 1) := by decide +kernel
theorem dX8_lump_221 : decode cX8_lump 221 = .ok (.getfield 7, 3) := by decide +kernel
theorem dX8_lump_224 : decode cX8_lump 224 = .ok (.iconst 2, 1) := by decide +kernel
theorem dX8_lump_225 : decode cX8_lump 225 = .ok (.iaload, 1) := by decide +kernel
theorem dX8_lump_226 : decode cX8_lump 226 = .ok (.imul, 1) := by decide +kernel
theorem dX8_lump_227 : decode cX8_lump 227 = .ok (.isub, 1) := by decide +kernel
theorem dX8_lump_228 : decode cX8_lump 228 = .ok (.iastore, 1) := by decide +kernel
theorem dX8_lump_229 : decode cX8_lump 229 = .ok (.aload_n 0, 1) := by decide +kernel
theorem dX8_lump_230 : decode cX8_lump 230 = .ok (.dup, 1) := by decide +kernel
theorem dX8_lump_231 : decode cX8_lump 231 = .ok (.getfield 160, 3) := by decide +kernel
theorem dX8_lump_234 : decode cX8_lump 234 = .ok (.iload 7, 2) := by decide +kernel
theorem dX8_lump_236 : decode cX8_lump 236 = .ok (.iadd, 1) := by decide +kernel
theorem dX8_lump_237 : decode cX8_lump 237 = .ok (.putfield 160, 3) := by decide +kernel
theorem dX8_lump_240 : decode cX8_lump 240 = .ok (.aload_n 0, 1) := by decide +kernel
theorem dX8_lump_241 : decode cX8_lump 241 = .ok (.dup, 1) := by decide +kernel
theorem dX8_lump_242 : decode cX8_lump 242 = .ok (.getfield 163, 3) := by decide +kernel
theorem dX8_lump_245 : decode cX8_lump 245 = .ok (.aload_n 0, 1) := by decide +kernel
theorem dX8_lump_246 : decode cX8_lump 246 = .ok (.getfield 44, 3) := by decide +kernel
theorem dX8_lump_249 : decode cX8_lump 249 = .ok (.iload 8, 2) := by decide +kernel
theorem dX8_lump_251 : decode cX8_lump 251 = .ok (.iconst 5, 1) := by decide +kernel
theorem dX8_lump_252 : decode cX8_lump 252 = .ok (.iadd, 1) := by decide +kernel
theorem dX8_lump_253 : decode cX8_lump 253 = .ok (.iaload, 1) := by decide +kernel
theorem dX8_lump_254 : decode cX8_lump 254 = .ok (.iadd, 1) := by decide +kernel
theorem dX8_lump_255 : decode cX8_lump 255 = .ok (.putfield 163, 3) := by decide +kernel
theorem dX8_lump_258 : decode cX8_lump 258 = .ok (.aload_n 0, 1) := by decide +kernel
theorem dX8_lump_259 : decode cX8_lump 259 = .ok (.dup, 1) := by decide +kernel
theorem dX8_lump_260 : decode cX8_lump 260 = .ok (.getfield 155, 3) := by decide +kernel
theorem dX8_lump_263 : decode cX8_lump 263 = .ok (.iconst 1, 1) := by decide +kernel
theorem dX8_lump_264 : decode cX8_lump 264 = .ok (.iadd, 1) := by decide +kernel
theorem dX8_lump_265 : decode cX8_lump 265 = .ok (.putfield 155, 3) := by decide +kernel
theorem dX8_lump_268 : decode cX8_lump 268 = .ok (.iload 7, 2) := by decide +kernel
theorem dX8_lump_270 : decode cX8_lump 270 = .ok (.ireturn, 1) := by decide +kernel
set_option maxRecDepth 20000 in
theorem ggX8_made_X8_in : GoodIn wsX8_made wsX8_in := goodIn_r _ [7] (by decide +kernel) (by decide +kernel)
set_option maxRecDepth 20000 in
theorem gX8_made_X8_in : GoodIn wsX8_made (va_wsS RX8 69 yX8_in wsX8_in) := goodIn_app (goodIn_of _ (by decide +kernel)) ggX8_made_X8_in
theorem dX8_made_0 : decode cX8_made 0 = .ok (.iload_n 1, 1) := by decide +kernel
theorem dX8_made_1 : decode cX8_made 1 = .ok (.i2l, 1) := by decide +kernel
theorem dX8_made_2 : decode cX8_made 2 = .ok (.lconst 0, 1) := by decide +kernel
theorem dX8_made_3 : decode cX8_made 3 = .ok (.aload_n 0, 1) := by decide +kernel
theorem dX8_made_4 : decode cX8_made 4 = .ok (.getfield 155, 3) := by decide +kernel
theorem dX8_made_7 : decode cX8_made 7 = .ok (.iconst 1, 1) := by decide +kernel
theorem dX8_made_8 : decode cX8_made 8 = .ok (.isub, 1) := by decide +kernel
theorem dX8_made_9 : decode cX8_made 9 = .ok (.i2l, 1) := by decide +kernel
theorem dX8_made_10 : decode cX8_made 10 = .ok (.invokestatic 69, 3) := by decide +kernel
theorem dX8_made_13 : decode cX8_made 13 = .ok (.ifCond .eq 29, 3) := by decide +kernel
theorem dX8_made_16 : decode cX8_made 16 = .ok (.iload_n 2, 1) := by decide +kernel
theorem dX8_made_17 : decode cX8_made 17 = .ok (.i2l, 1) := by decide +kernel
theorem dX8_made_18 : decode cX8_made 18 = .ok (.lconst 0, 1) := by decide +kernel
theorem dX8_made_19 : decode cX8_made 19 = .ok (.ldc2_w 75, 3) := by decide +kernel
theorem dX8_made_22 : decode cX8_made 22 = .ok (.invokestatic 69, 3) := by decide +kernel
theorem dX8_made_25 : decode cX8_made 25 = .ok (.ifCond .eq 17, 3) := by decide +kernel
theorem dX8_made_28 : decode cX8_made 28 = .ok (.aload_n 0, 1) := by decide +kernel
theorem dX8_made_29 : decode cX8_made 29 = .ok (.getfield 44, 3) := by decide +kernel
theorem dX8_made_32 : decode cX8_made 32 = .ok (.bipush 6, 2) := by decide +kernel
theorem dX8_made_34 : decode cX8_made 34 = .ok (.iload_n 1, 1) := by decide +kernel
theorem dX8_made_35 : decode cX8_made 35 = .ok (.imul, 1) := by decide +kernel
theorem dX8_made_36 : decode cX8_made 36 = .ok (.iload_n 2, 1) := by decide +kernel
theorem dX8_made_37 : decode cX8_made 37 = .ok (.iadd, 1) := by decide +kernel
theorem dX8_made_38 : decode cX8_made 38 = .ok (.iaload, 1) := by decide +kernel
theorem dX8_made_39 : decode cX8_made 39 = .ok (.goto 5, 3) := by decide +kernel
theorem dX8_made_42 : decode cX8_made 42 = .ok (.bipush (-2), 2) := by decide +kernel
theorem dX8_made_44 : decode cX8_made 44 = .ok (.ireturn, 1) := by decide +kernel
set_option maxRecDepth 20000 in
theorem ggX8_trace_X8_in : GoodIn wsX8_trace wsX8_in := goodIn_r _ [6] (by decide +kernel) (by decide +kernel)
set_option maxRecDepth 20000 in
theorem gX8_trace_X8_in : GoodIn wsX8_trace (va_wsS RX8 69 yX8_in wsX8_in) := goodIn_app (goodIn_of _ (by decide +kernel)) ggX8_trace_X8_in
theorem dX8_trace_0 : decode cX8_trace 0 = .ok (.iconst 0, 1) := by decide +kernel
theorem dX8_trace_1 : decode cX8_trace 1 = .ok (.istore_n 2, 1) := by decide +kernel
theorem dX8_trace_2 : decode cX8_trace 2 = .ok (.iload_n 2, 1) := by decide +kernel
theorem dX8_trace_3 : decode cX8_trace 3 = .ok (.aload_n 0, 1) := by decide +kernel
theorem dX8_trace_4 : decode cX8_trace 4 = .ok (.getfield 155, 3) := by decide +kernel
theorem dX8_trace_7 : decode cX8_trace 7 = .ok (.if_icmp .ge 57, 3) := by decide +kernel
theorem dX8_trace_10 : decode cX8_trace 10 = .ok (.iload_n 1, 1) := by decide +kernel
theorem dX8_trace_11 : decode cX8_trace 11 = .ok (.i2l, 1) := by decide +kernel
theorem dX8_trace_12 : decode cX8_trace 12 = .ok (.aload_n 0, 1) := by decide +kernel
theorem dX8_trace_13 : decode cX8_trace 13 = .ok (.getfield 44, 3) := by decide +kernel
theorem dX8_trace_16 : decode cX8_trace 16 = .ok (.bipush 6, 2) := by decide +kernel
theorem dX8_trace_18 : decode cX8_trace 18 = .ok (.iload_n 2, 1) := by decide +kernel
theorem dX8_trace_19 : decode cX8_trace 19 = .ok (.imul, 1) := by decide +kernel
theorem dX8_trace_20 : decode cX8_trace 20 = .ok (.iconst 3, 1) := by decide +kernel
theorem dX8_trace_21 : decode cX8_trace 21 = .ok (.iadd, 1) := by decide +kernel
theorem dX8_trace_22 : decode cX8_trace 22 = .ok (.iaload, 1) := by decide +kernel
theorem dX8_trace_23 : decode cX8_trace 23 = .ok (.i2l, 1) := by decide +kernel
theorem dX8_trace_24 : decode cX8_trace 24 = .ok (.aload_n 0, 1) := by decide +kernel
theorem dX8_trace_25 : decode cX8_trace 25 = .ok (.getfield 44, 3) := by decide +kernel
theorem dX8_trace_28 : decode cX8_trace 28 = .ok (.bipush 6, 2) := by decide +kernel
theorem dX8_trace_30 : decode cX8_trace 30 = .ok (.iload_n 2, 1) := by decide +kernel
theorem dX8_trace_31 : decode cX8_trace 31 = .ok (.imul, 1) := by decide +kernel
theorem dX8_trace_32 : decode cX8_trace 32 = .ok (.iconst 3, 1) := by decide +kernel
theorem dX8_trace_33 : decode cX8_trace 33 = .ok (.iadd, 1) := by decide +kernel
theorem dX8_trace_34 : decode cX8_trace 34 = .ok (.iaload, 1) := by decide +kernel
theorem dX8_trace_35 : decode cX8_trace 35 = .ok (.aload_n 0, 1) := by decide +kernel
theorem dX8_trace_36 : decode cX8_trace 36 = .ok (.getfield 44, 3) := by decide +kernel
theorem dX8_trace_39 : decode cX8_trace 39 = .ok (.bipush 6, 2) := by decide +kernel
theorem dX8_trace_41 : decode cX8_trace 41 = .ok (.iload_n 2, 1) := by decide +kernel
theorem dX8_trace_42 : decode cX8_trace 42 = .ok (.imul, 1) := by decide +kernel
theorem dX8_trace_43 : decode cX8_trace 43 = .ok (.iconst 4, 1) := by decide +kernel
theorem dX8_trace_44 : decode cX8_trace 44 = .ok (.iadd, 1) := by decide +kernel
theorem dX8_trace_45 : decode cX8_trace 45 = .ok (.iaload, 1) := by decide +kernel
theorem dX8_trace_46 : decode cX8_trace 46 = .ok (.iadd, 1) := by decide +kernel
theorem dX8_trace_47 : decode cX8_trace 47 = .ok (.iconst 1, 1) := by decide +kernel
theorem dX8_trace_48 : decode cX8_trace 48 = .ok (.isub, 1) := by decide +kernel
theorem dX8_trace_49 : decode cX8_trace 49 = .ok (.i2l, 1) := by decide +kernel
theorem dX8_trace_50 : decode cX8_trace 50 = .ok (.invokestatic 69, 3) := by decide +kernel
theorem dX8_trace_53 : decode cX8_trace 53 = .ok (.ifCond .eq 5, 3) := by decide +kernel
theorem dX8_trace_56 : decode cX8_trace 56 = .ok (.iload_n 2, 1) := by decide +kernel
theorem dX8_trace_57 : decode cX8_trace 57 = .ok (.ireturn, 1) := by decide +kernel
theorem dX8_trace_58 : decode cX8_trace 58 = .ok (.iinc 2 1, 3) := by decide +kernel
theorem dX8_trace_61 : decode cX8_trace 61 = .ok (.goto (-59), 3) := by decide +kernel
theorem dX8_trace_64 : decode cX8_trace 64 = .ok (.bipush (-2), 2) := by decide +kernel
theorem dX8_trace_66 : decode cX8_trace 66 = .ok (.ireturn, 1) := by decide +kernel
set_option maxRecDepth 20000 in
theorem ggX8_recall_X8_in : GoodIn wsX8_recall wsX8_in := goodIn_r _ [9] (by decide +kernel) (by decide +kernel)
set_option maxRecDepth 20000 in
theorem gX8_recall_X8_in : GoodIn wsX8_recall (va_wsS RX8 69 yX8_in wsX8_in) := goodIn_app (goodIn_of _ (by decide +kernel)) ggX8_recall_X8_in
theorem dX8_recall_0 : decode cX8_recall 0 = .ok (.iload_n 1, 1) := by decide +kernel
theorem dX8_recall_1 : decode cX8_recall 1 = .ok (.i2l, 1) := by decide +kernel
theorem dX8_recall_2 : decode cX8_recall 2 = .ok (.ldc2_w 166, 3) := by decide +kernel
theorem dX8_recall_5 : decode cX8_recall 5 = .ok (.ldc2_w 77, 3) := by decide +kernel
theorem dX8_recall_8 : decode cX8_recall 8 = .ok (.invokestatic 69, 3) := by decide +kernel
theorem dX8_recall_11 : decode cX8_recall 11 = .ok (.ifCond .eq 26, 3) := by decide +kernel
theorem dX8_recall_14 : decode cX8_recall 14 = .ok (.iload_n 3, 1) := by decide +kernel
theorem dX8_recall_15 : decode cX8_recall 15 = .ok (.i2l, 1) := by decide +kernel
theorem dX8_recall_16 : decode cX8_recall 16 = .ok (.lconst 0, 1) := by decide +kernel
theorem dX8_recall_17 : decode cX8_recall 17 = .ok (.ldc2_w 158, 3) := by decide +kernel
theorem dX8_recall_20 : decode cX8_recall 20 = .ok (.invokestatic 69, 3) := by decide +kernel
theorem dX8_recall_23 : decode cX8_recall 23 = .ok (.ifCond .eq 14, 3) := by decide +kernel
theorem dX8_recall_26 : decode cX8_recall 26 = .ok (.iload_n 2, 1) := by decide +kernel
theorem dX8_recall_27 : decode cX8_recall 27 = .ok (.i2l, 1) := by decide +kernel
theorem dX8_recall_28 : decode cX8_recall 28 = .ok (.lconst 0, 1) := by decide +kernel
theorem dX8_recall_29 : decode cX8_recall 29 = .ok (.iload_n 3, 1) := by decide +kernel
theorem dX8_recall_30 : decode cX8_recall 30 = .ok (.i2l, 1) := by decide +kernel
theorem dX8_recall_31 : decode cX8_recall 31 = .ok (.invokestatic 69, 3) := by decide +kernel
theorem dX8_recall_34 : decode cX8_recall 34 = .ok (.ifCond .ne 6, 3) := by decide +kernel
theorem dX8_recall_37 : decode cX8_recall 37 = .ok (.bipush (-2), 2) := by decide +kernel
theorem dX8_recall_39 : decode cX8_recall 39 = .ok (.ireturn, 1) := by decide +kernel
theorem dX8_recall_40 : decode cX8_recall 40 = .ok (.iconst 0, 1) := by decide +kernel
theorem dX8_recall_41 : decode cX8_recall 41 = .ok (.istore 4, 2) := by decide +kernel
theorem dX8_recall_43 : decode cX8_recall 43 = .ok (.iconst 0, 1) := by decide +kernel
theorem dX8_recall_44 : decode cX8_recall 44 = .ok (.istore 5, 2) := by decide +kernel
theorem dX8_recall_46 : decode cX8_recall 46 = .ok (.iload 5, 2) := by decide +kernel
theorem dX8_recall_48 : decode cX8_recall 48 = .ok (.aload_n 0, 1) := by decide +kernel
theorem dX8_recall_49 : decode cX8_recall 49 = .ok (.getfield 155, 3) := by decide +kernel
theorem dX8_recall_52 : decode cX8_recall 52 = .ok (.if_icmp .ge 86, 3) := by decide +kernel
theorem dX8_recall_55 : decode cX8_recall 55 = .ok (.iload_n 1, 1) := by decide +kernel
theorem dX8_recall_56 : decode cX8_recall 56 = .ok (.iconst (-1), 1) := by decide +kernel
theorem dX8_recall_57 : decode cX8_recall 57 = .ok (.if_icmp .eq 19, 3) := by decide +kernel
theorem dX8_recall_60 : decode cX8_recall 60 = .ok (.aload_n 0, 1) := by decide +kernel
theorem dX8_recall_61 : decode cX8_recall 61 = .ok (.getfield 44, 3) := by decide +kernel
theorem dX8_recall_64 : decode cX8_recall 64 = .ok (.bipush 6, 2) := by decide +kernel
theorem dX8_recall_66 : decode cX8_recall 66 = .ok (.iload 5, 2) := by decide +kernel
theorem dX8_recall_68 : decode cX8_recall 68 = .ok (.imul, 1) := by decide +kernel
theorem dX8_recall_69 : decode cX8_recall 69 = .ok (.iconst 1, 1) := by decide +kernel
theorem dX8_recall_70 : decode cX8_recall 70 = .ok (.iadd, 1) := by decide +kernel
theorem dX8_recall_71 : decode cX8_recall 71 = .ok (.iaload, 1) := by decide +kernel
theorem dX8_recall_72 : decode cX8_recall 72 = .ok (.iload_n 1, 1) := by decide +kernel
theorem dX8_recall_73 : decode cX8_recall 73 = .ok (.if_icmp .ne 30, 3) := by decide +kernel
theorem dX8_recall_76 : decode cX8_recall 76 = .ok (.aload_n 0, 1) := by decide +kernel
theorem dX8_recall_77 : decode cX8_recall 77 = .ok (.getfield 44, 3) := by decide +kernel
theorem dX8_recall_80 : decode cX8_recall 80 = .ok (.bipush 6, 2) := by decide +kernel
theorem dX8_recall_82 : decode cX8_recall 82 = .ok (.iload 5, 2) := by decide +kernel
theorem dX8_recall_84 : decode cX8_recall 84 = .ok (.imul, 1) := by decide +kernel
theorem dX8_recall_85 : decode cX8_recall 85 = .ok (.iconst 2, 1) := by decide +kernel
theorem dX8_recall_86 : decode cX8_recall 86 = .ok (.iadd, 1) := by decide +kernel
theorem dX8_recall_87 : decode cX8_recall 87 = .ok (.iaload, 1) := by decide +kernel
theorem dX8_recall_88 : decode cX8_recall 88 = .ok (.i2l, 1) := by decide +kernel
theorem dX8_recall_89 : decode cX8_recall 89 = .ok (.iload_n 2, 1) := by decide +kernel
theorem dX8_recall_90 : decode cX8_recall 90 = .ok (.i2l, 1) := by decide +kernel
theorem dX8_recall_91 : decode cX8_recall 91 = .ok (.iload_n 3, 1) := by decide +kernel
theorem dX8_recall_92 : decode cX8_recall 92 = .ok (.i2l, 1) := by decide +kernel
theorem dX8_recall_93 : decode cX8_recall 93 = .ok (.invokestatic 69, 3) := by decide +kernel
theorem dX8_recall_96 : decode cX8_recall 96 = .ok (.ifCond .eq 7, 3) := by decide +kernel
theorem dX8_recall_99 : decode cX8_recall 99 = .ok (.iconst 1, 1) := by decide +kernel
theorem dX8_recall_100 : decode cX8_recall 100 = .ok (.goto 4, 3) := by decide +kernel
theorem dX8_recall_103 : decode cX8_recall 103 = .ok (.iconst 0, 1) := by decide +kernel
theorem dX8_recall_104 : decode cX8_recall 104 = .ok (.istore 6, 2) := by decide +kernel
theorem dX8_recall_106 : decode cX8_recall 106 = .ok (.iload 4, 2) := by decide +kernel
theorem dX8_recall_108 : decode cX8_recall 108 = .ok (.iload 6, 2) := by decide +kernel
theorem dX8_recall_110 : decode cX8_recall 110 = .ok (.ifCond .eq 18, 3) := by decide +kernel
theorem dX8_recall_113 : decode cX8_recall 113 = .ok (.aload_n 0, 1) := by decide +kernel
theorem dX8_recall_114 : decode cX8_recall 114 = .ok (.getfield 44, 3) := by decide +kernel
theorem dX8_recall_117 : decode cX8_recall 117 = .ok (.bipush 6, 2) := by decide +kernel
theorem dX8_recall_119 : decode cX8_recall 119 = .ok (.iload 5, 2) := by decide +kernel
theorem dX8_recall_121 : decode cX8_recall 121 = .ok (.imul, 1) := by decide +kernel
theorem dX8_recall_122 : decode cX8_recall 122 = .ok (.iconst 4, 1) := by decide +kernel
theorem dX8_recall_123 : decode cX8_recall 123 = .ok (.iadd, 1) := by decide +kernel
theorem dX8_recall_124 : decode cX8_recall 124 = .ok (.iaload, 1) := by decide +kernel
theorem dX8_recall_125 : decode cX8_recall 125 = .ok (.goto 4, 3) := by decide +kernel
theorem dX8_recall_128 : decode cX8_recall 128 = .ok (.iconst 0, 1) := by decide +kernel
theorem dX8_recall_129 : decode cX8_recall 129 = .ok (.iadd, 1) := by decide +kernel
theorem dX8_recall_130 : decode cX8_recall 130 = .ok (.istore 4, 2) := by decide +kernel
theorem dX8_recall_132 : decode cX8_recall 132 = .ok (.iinc 5 1, 3) := by decide +kernel
theorem dX8_recall_135 : decode cX8_recall 135 = .ok (.goto (-89), 3) := by decide +kernel
theorem dX8_recall_138 : decode cX8_recall 138 = .ok (.iload 4, 2) := by decide +kernel
theorem dX8_recall_140 : decode cX8_recall 140 = .ok (.ireturn, 1) := by decide +kernel
set_option maxRecDepth 20000 in
theorem ggX8_isWeek_X8_in : GoodIn wsX8_isWeek wsX8_in := goodIn_r _ [5] (by decide +kernel) (by decide +kernel)
set_option maxRecDepth 20000 in
theorem gX8_isWeek_X8_in : GoodIn wsX8_isWeek (va_wsS RX8 69 yX8_in wsX8_in) := goodIn_app (goodIn_of _ (by decide +kernel)) ggX8_isWeek_X8_in
theorem dX8_isWeek_0 : decode cX8_isWeek 0 = .ok (.iload_n 0, 1) := by decide +kernel
theorem dX8_isWeek_1 : decode cX8_isWeek 1 = .ok (.i2l, 1) := by decide +kernel
theorem dX8_isWeek_2 : decode cX8_isWeek 2 = .ok (.lconst 0, 1) := by decide +kernel
theorem dX8_isWeek_3 : decode cX8_isWeek 3 = .ok (.ldc2_w 168, 3) := by decide +kernel
theorem dX8_isWeek_6 : decode cX8_isWeek 6 = .ok (.invokestatic 69, 3) := by decide +kernel
theorem dX8_isWeek_9 : decode cX8_isWeek 9 = .ok (.ireturn, 1) := by decide +kernel
theorem dX8_foretoldOf_0 : decode cX8_foretoldOf 0 = .ok (.ldc 170, 2) := by decide +kernel
theorem dX8_foretoldOf_2 : decode cX8_foretoldOf 2 = .ok (.istore_n 2, 1) := by decide +kernel
theorem dX8_foretoldOf_3 : decode cX8_foretoldOf 3 = .ok (.ldc 170, 2) := by decide +kernel
theorem dX8_foretoldOf_5 : decode cX8_foretoldOf 5 = .ok (.istore_n 3, 1) := by decide +kernel
theorem dX8_foretoldOf_6 : decode cX8_foretoldOf 6 = .ok (.ldc 170, 2) := by decide +kernel
theorem dX8_foretoldOf_8 : decode cX8_foretoldOf 8 = .ok (.istore 4, 2) := by decide +kernel
theorem dX8_foretoldOf_10 : decode cX8_foretoldOf 10 = .ok (.iconst 0, 1) := by decide +kernel
theorem dX8_foretoldOf_11 : decode cX8_foretoldOf 11 = .ok (.istore 5, 2) := by decide +kernel
theorem dX8_foretoldOf_13 : decode cX8_foretoldOf 13 = .ok (.iconst 0, 1) := by decide +kernel
theorem dX8_foretoldOf_14 : decode cX8_foretoldOf 14 = .ok (.istore 6, 2) := by decide +kernel
theorem dX8_foretoldOf_16 : decode cX8_foretoldOf 16 = .ok (.iload 6, 2) := by decide +kernel
theorem dX8_foretoldOf_18 : decode cX8_foretoldOf 18 = .ok (.iconst 3, 1) := by decide +kernel
theorem dX8_foretoldOf_19 : decode cX8_foretoldOf 19 = .ok (.if_icmp .ge 92, 3) := by decide +kernel
theorem dX8_foretoldOf_22 : decode cX8_foretoldOf 22 = .ok (.aload_n 0, 1) := by decide +kernel
theorem dX8_foretoldOf_23 : decode cX8_foretoldOf 23 = .ok (.getfield 54, 3) := by decide +kernel
theorem dX8_foretoldOf_26 : decode cX8_foretoldOf 26 = .ok (.iload 6, 2) := by decide +kernel
theorem dX8_foretoldOf_28 : decode cX8_foretoldOf 28 = .ok (.iaload, 1) := by decide +kernel
theorem dX8_foretoldOf_29 : decode cX8_foretoldOf 29 = .ok (.ifCond .lt 14, 3) := by decide +kernel
theorem dX8_foretoldOf_32 : decode cX8_foretoldOf 32 = .ok (.iload_n 1, 1) := by decide +kernel
theorem dX8_foretoldOf_33 : decode cX8_foretoldOf 33 = .ok (.aload_n 0, 1) := by decide +kernel
theorem dX8_foretoldOf_34 : decode cX8_foretoldOf 34 = .ok (.getfield 57, 3) := by decide +kernel
theorem dX8_foretoldOf_37 : decode cX8_foretoldOf 37 = .ok (.iload 6, 2) := by decide +kernel
theorem dX8_foretoldOf_39 : decode cX8_foretoldOf 39 = .ok (.iaload, 1) := by decide +kernel
theorem dX8_foretoldOf_40 : decode cX8_foretoldOf 40 = .ok (.if_icmp .lt 7, 3) := by decide +kernel
theorem dX8_foretoldOf_43 : decode cX8_foretoldOf 43 = .ok (.iconst (-1), 1) := by decide +kernel
theorem dX8_foretoldOf_44 : decode cX8_foretoldOf 44 = .ok (.goto 15, 3) := by decide +kernel
theorem dX8_foretoldOf_47 : decode cX8_foretoldOf 47 = .ok (.aload_n 0, 1) := by decide +kernel
theorem dX8_foretoldOf_48 : decode cX8_foretoldOf 48 = .ok (.getfield 60, 3) := by decide +kernel
theorem dX8_foretoldOf_51 : decode cX8_foretoldOf 51 = .ok (.bipush 60, 2) := by decide +kernel
theorem dX8_foretoldOf_53 : decode cX8_foretoldOf 53 = .ok (.iload 6, 2) := by decide +kernel
theorem dX8_foretoldOf_55 : decode cX8_foretoldOf 55 = .ok (.imul, 1) := by decide +kernel
theorem dX8_foretoldOf_56 : decode cX8_foretoldOf 56 = .ok (.iload_n 1, 1) := by decide +kernel
theorem dX8_foretoldOf_57 : decode cX8_foretoldOf 57 = .ok (.iadd, 1) := by decide +kernel
theorem dX8_foretoldOf_58 : decode cX8_foretoldOf 58 = .ok (.iaload, 1) := by decide +kernel
theorem dX8_foretoldOf_59 : decode cX8_foretoldOf 59 = .ok (.istore 7, 2) := by decide +kernel
theorem dX8_foretoldOf_61 : decode cX8_foretoldOf 61 = .ok (.iload 7, 2) := by decide +kernel
theorem dX8_foretoldOf_63 : decode cX8_foretoldOf 63 = .ok (.ifCond .lt 42, 3) := by decide +kernel
theorem dX8_foretoldOf_66 : decode cX8_foretoldOf 66 = .ok (.iinc 5 1, 3) := by decide +kernel
theorem dX8_foretoldOf_69 : decode cX8_foretoldOf 69 = .ok (.iload 7, 2) := by decide +kernel
theorem dX8_foretoldOf_71 : decode cX8_foretoldOf 71 = .ok (.iload_n 2, 1) := by decide +kernel
theorem dX8_foretoldOf_72 : decode cX8_foretoldOf 72 = .ok (.if_icmp .ge 14, 3) := by decide +kernel
theorem dX8_foretoldOf_75 : decode cX8_foretoldOf 75 = .ok (.iload_n 3, 1) := by decide +kernel
theorem dX8_foretoldOf_76 : decode cX8_foretoldOf 76 = .ok (.istore 4, 2) := by decide +kernel
theorem dX8_foretoldOf_78 : decode cX8_foretoldOf 78 = .ok (.iload_n 2, 1) := by decide +kernel
theorem dX8_foretoldOf_79 : decode cX8_foretoldOf 79 = .ok (.istore_n 3, 1) := by decide +kernel
theorem dX8_foretoldOf_80 : decode cX8_foretoldOf 80 = .ok (.iload 7, 2) := by decide +kernel
theorem dX8_foretoldOf_82 : decode cX8_foretoldOf 82 = .ok (.istore_n 2, 1) := by decide +kernel
theorem dX8_foretoldOf_83 : decode cX8_foretoldOf 83 = .ok (.goto 22, 3) := by decide +kernel
theorem dX8_foretoldOf_86 : decode cX8_foretoldOf 86 = .ok (.iload 7, 2) := by decide +kernel
theorem dX8_foretoldOf_88 : decode cX8_foretoldOf 88 = .ok (.iload_n 3, 1) := by decide +kernel
theorem dX8_foretoldOf_89 : decode cX8_foretoldOf 89 = .ok (.if_icmp .ge 12, 3) := by decide +kernel
theorem dX8_foretoldOf_92 : decode cX8_foretoldOf 92 = .ok (.iload_n 3, 1) := by decide +kernel
theorem dX8_foretoldOf_93 : decode cX8_foretoldOf 93 = .ok (.istore 4, 2) := by decide +kernel
theorem dX8_foretoldOf_95 : decode cX8_foretoldOf 95 = .ok (.iload 7, 2) := by decide +kernel
theorem dX8_foretoldOf_97 : decode cX8_foretoldOf 97 = .ok (.istore_n 3, 1) := by decide +kernel
theorem dX8_foretoldOf_98 : decode cX8_foretoldOf 98 = .ok (.goto 7, 3) := by decide +kernel
theorem dX8_foretoldOf_101 : decode cX8_foretoldOf 101 = .ok (.iload 7, 2) := by decide +kernel
theorem dX8_foretoldOf_103 : decode cX8_foretoldOf 103 = .ok (.istore 4, 2) := by decide +kernel
theorem dX8_foretoldOf_105 : decode cX8_foretoldOf 105 = .ok (.iinc 6 1, 3) := by decide +kernel
theorem dX8_foretoldOf_108 : decode cX8_foretoldOf 108 = .ok (.goto (-92), 3) := by decide +kernel
theorem dX8_foretoldOf_111 : decode cX8_foretoldOf 111 = .ok (.iload 5, 2) := by decide +kernel
theorem dX8_foretoldOf_113 : decode cX8_foretoldOf 113 = .ok (.ifCond .ne 7, 3) := by decide +kernel
theorem dX8_foretoldOf_116 : decode cX8_foretoldOf 116 = .ok (.iconst 0, 1) := by decide +kernel
theorem dX8_foretoldOf_117 : decode cX8_foretoldOf 117 = .ok (.goto 14, 3) := by decide +kernel
theorem dX8_foretoldOf_120 : decode cX8_foretoldOf 120 = .ok (.iload 5, 2) := by decide +kernel
theorem dX8_foretoldOf_122 : decode cX8_foretoldOf 122 = .ok (.iconst 3, 1) := by decide +kernel
theorem dX8_foretoldOf_123 : decode cX8_foretoldOf 123 = .ok (.if_icmp .ne 7, 3) := by decide +kernel
theorem dX8_foretoldOf_126 : decode cX8_foretoldOf 126 = .ok (.iload_n 3, 1) := by decide +kernel
theorem dX8_foretoldOf_127 : decode cX8_foretoldOf 127 = .ok (.goto 4, 3) := by decide +kernel
theorem dX8_foretoldOf_130 : decode cX8_foretoldOf 130 = .ok (.iload_n 2, 1) := by decide +kernel
theorem dX8_foretoldOf_131 : decode cX8_foretoldOf 131 = .ok (.ireturn, 1) := by decide +kernel
set_option maxRecDepth 20000 in
theorem ggX8_foretold_X8_isWeek : GoodIn wsX8_foretold wsX8_isWeek := goodIn_r _ [4, 5, 6, 7, 3, 8] (by decide +kernel) (by decide +kernel)
set_option maxRecDepth 20000 in
theorem gX8_foretold_X8_isWeek : GoodIn wsX8_foretold (va_wsS RX8 171 yX8_isWeek wsX8_isWeek) := goodIn_app (goodIn_of _ (by decide +kernel)) ggX8_foretold_X8_isWeek
set_option maxRecDepth 20000 in
theorem ggX8_foretold_X8_foretoldOf : GoodIn wsX8_foretold wsX8_foretoldOf := goodIn_r _ [12, 13, 14, 15, 16, 17, 18, 19, 20, 21, 22, 23, 24, 25, 26, 27, 28, 29, 30, 31, 32, 33, 34, 35, 36, 37, 38, 39, 40, 41, 42, 43, 44] (by decide +kernel) (by decide +kernel)
set_option maxRecDepth 20000 in
theorem gX8_foretold_X8_foretoldOf : GoodIn wsX8_foretold (wsV RX8 174 RX8 yX8_foretoldOf wsX8_foretoldOf) := goodIn_app (goodIn_of _ (by decide +kernel)) ggX8_foretold_X8_foretoldOf
theorem dX8_foretold_0 : decode cX8_foretold 0 = .ok (.iload_n 1, 1) := by decide +kernel
theorem dX8_foretold_1 : decode cX8_foretold 1 = .ok (.invokestatic 171, 3) := by decide +kernel
theorem dX8_foretold_4 : decode cX8_foretold 4 = .ok (.ifCond .eq 11, 3) := by decide +kernel
theorem dX8_foretold_7 : decode cX8_foretold 7 = .ok (.aload_n 0, 1) := by decide +kernel
theorem dX8_foretold_8 : decode cX8_foretold 8 = .ok (.iload_n 1, 1) := by decide +kernel
theorem dX8_foretold_9 : decode cX8_foretold 9 = .ok (.invokevirtual 174, 3) := by decide +kernel
theorem dX8_foretold_12 : decode cX8_foretold 12 = .ok (.goto 5, 3) := by decide +kernel
theorem dX8_foretold_15 : decode cX8_foretold 15 = .ok (.bipush (-2), 2) := by decide +kernel
theorem dX8_foretold_17 : decode cX8_foretold 17 = .ok (.ireturn, 1) := by decide +kernel
set_option maxRecDepth 20000 in
theorem ggX8_damp_X8_isWeek : GoodIn wsX8_damp wsX8_isWeek := goodIn_r _ [5, 6, 7, 8, 4, 9] (by decide +kernel) (by decide +kernel)
set_option maxRecDepth 20000 in
theorem gX8_damp_X8_isWeek : GoodIn wsX8_damp (va_wsS RX8 171 yX8_isWeek wsX8_isWeek) := goodIn_app (goodIn_of _ (by decide +kernel)) ggX8_damp_X8_isWeek
theorem dX8_damp_0 : decode cX8_damp 0 = .ok (.iload_n 1, 1) := by decide +kernel
theorem dX8_damp_1 : decode cX8_damp 1 = .ok (.invokestatic 171, 3) := by decide +kernel
theorem dX8_damp_4 : decode cX8_damp 4 = .ok (.ifCond .ne 6, 3) := by decide +kernel
theorem dX8_damp_7 : decode cX8_damp 7 = .ok (.bipush (-2), 2) := by decide +kernel
theorem dX8_damp_9 : decode cX8_damp 9 = .ok (.ireturn, 1) := by decide +kernel
theorem dX8_damp_10 : decode cX8_damp 10 = .ok (.aload_n 0, 1) := by decide +kernel
theorem dX8_damp_11 : decode cX8_damp 11 = .ok (.getfield 47, 3) := by decide +kernel
theorem dX8_damp_14 : decode cX8_damp 14 = .ok (.iload_n 1, 1) := by decide +kernel
theorem dX8_damp_15 : decode cX8_damp 15 = .ok (.iload_n 2, 1) := by decide +kernel
theorem dX8_damp_16 : decode cX8_damp 16 = .ok (.bastore, 1) := by decide +kernel
theorem dX8_damp_17 : decode cX8_damp 17 = .ok (.iconst 1, 1) := by decide +kernel
theorem dX8_damp_18 : decode cX8_damp 18 = .ok (.ireturn, 1) := by decide +kernel
set_option maxRecDepth 20000 in
theorem ggX8_make_X8_isWeek : GoodIn wsX8_make wsX8_isWeek := goodIn_r _ [6, 7, 8, 9, 5, 10] (by decide +kernel) (by decide +kernel)
set_option maxRecDepth 20000 in
theorem gX8_make_X8_isWeek : GoodIn wsX8_make (va_wsS RX8 171 yX8_isWeek wsX8_isWeek) := goodIn_app (goodIn_of _ (by decide +kernel)) ggX8_make_X8_isWeek
set_option maxRecDepth 20000 in
theorem ggX8_make_X8_in : GoodIn wsX8_make wsX8_in := goodIn_r _ [10] (by decide +kernel) (by decide +kernel)
set_option maxRecDepth 20000 in
theorem gX8_make_X8_in : GoodIn wsX8_make (va_wsS RX8 69 yX8_in wsX8_in) := goodIn_app (goodIn_of _ (by decide +kernel)) ggX8_make_X8_in
theorem dX8_make_0 : decode cX8_make 0 = .ok (.iload_n 1, 1) := by decide +kernel
theorem dX8_make_1 : decode cX8_make 1 = .ok (.invokestatic 171, 3) := by decide +kernel
theorem dX8_make_4 : decode cX8_make 4 = .ok (.ifCond .eq 15, 3) := by decide +kernel
theorem dX8_make_7 : decode cX8_make 7 = .ok (.iload_n 2, 1) := by decide +kernel
theorem dX8_make_8 : decode cX8_make 8 = .ok (.i2l, 1) := by decide +kernel
theorem dX8_make_9 : decode cX8_make 9 = .ok (.lconst 0, 1) := by decide +kernel
theorem dX8_make_10 : decode cX8_make 10 = .ok (.ldc2_w 177, 3) := by decide +kernel
theorem dX8_make_13 : decode cX8_make 13 = .ok (.invokestatic 69, 3) := by decide +kernel
theorem dX8_make_16 : decode cX8_make 16 = .ok (.ifCond .ne 6, 3) := by decide +kernel
theorem dX8_make_19 : decode cX8_make 19 = .ok (.bipush (-2), 2) := by decide +kernel
theorem dX8_make_21 : decode cX8_make 21 = .ok (.ireturn, 1) := by decide +kernel
theorem dX8_make_22 : decode cX8_make 22 = .ok (.aload_n 0, 1) := by decide +kernel
theorem dX8_make_23 : decode cX8_make 23 = .ok (.getfield 51, 3) := by decide +kernel
theorem dX8_make_26 : decode cX8_make 26 = .ok (.iload_n 1, 1) := by decide +kernel
theorem dX8_make_27 : decode cX8_make 27 = .ok (.iaload, 1) := by decide +kernel
theorem dX8_make_28 : decode cX8_make 28 = .ok (.istore_n 3, 1) := by decide +kernel
theorem dX8_make_29 : decode cX8_make 29 = .ok (.aload_n 0, 1) := by decide +kernel
theorem dX8_make_30 : decode cX8_make 30 = .ok (.getfield 51, 3) := by decide +kernel
theorem dX8_make_33 : decode cX8_make 33 = .ok (.iload_n 1, 1) := by decide +kernel
theorem dX8_make_34 : decode cX8_make 34 = .ok (.iload_n 2, 1) := by decide +kernel
theorem dX8_make_35 : decode cX8_make 35 = .ok (.iastore, 1) := by decide +kernel
theorem dX8_make_36 : decode cX8_make 36 = .ok (.iload_n 3, 1) := by decide +kernel
theorem dX8_make_37 : decode cX8_make 37 = .ok (.ireturn, 1) := by decide +kernel
set_option maxRecDepth 20000 in
theorem ggX8_stock_X8_isWeek : GoodIn wsX8_stock wsX8_isWeek := goodIn_r _ [12, 13, 14, 15, 11, 16] (by decide +kernel) (by decide +kernel)
set_option maxRecDepth 20000 in
theorem gX8_stock_X8_isWeek : GoodIn wsX8_stock (va_wsS RX8 171 yX8_isWeek wsX8_isWeek) := goodIn_app (goodIn_of _ (by decide +kernel)) ggX8_stock_X8_isWeek
set_option maxRecDepth 20000 in
theorem ggX8_stock_X8_in : GoodIn wsX8_stock wsX8_in := goodIn_r _ [16] (by decide +kernel) (by decide +kernel)
set_option maxRecDepth 20000 in
theorem gX8_stock_X8_in : GoodIn wsX8_stock (va_wsS RX8 69 yX8_in wsX8_in) := goodIn_app (goodIn_of _ (by decide +kernel)) ggX8_stock_X8_in
set_option maxRecDepth 20000 in
theorem ggX8_stock_X8_foretoldOf : GoodIn wsX8_stock wsX8_foretoldOf := goodIn_r _ [20, 8, 21, 22, 23, 24, 25, 26, 27, 28, 29, 30, 31, 32, 33, 34, 35, 36, 37, 38, 39, 40, 41, 42, 43, 44, 45, 46, 47, 48, 49, 50, 51] (by decide +kernel) (by decide +kernel)
set_option maxRecDepth 20000 in
theorem gX8_stock_X8_foretoldOf : GoodIn wsX8_stock (wsV RX8 174 RX8 yX8_foretoldOf wsX8_foretoldOf) := goodIn_app (goodIn_of _ (by decide +kernel)) ggX8_stock_X8_foretoldOf
theorem dX8_stock_0 : decode cX8_stock 0 = .ok (.iload_n 2, 1) := by decide +kernel
theorem dX8_stock_1 : decode cX8_stock 1 = .ok (.invokestatic 171, 3) := by decide +kernel
theorem dX8_stock_4 : decode cX8_stock 4 = .ok (.ifCond .eq 39, 3) := by decide +kernel
theorem dX8_stock_7 : decode cX8_stock 7 = .ok (.iload_n 1, 1) := by decide +kernel
theorem dX8_stock_8 : decode cX8_stock 8 = .ok (.i2l, 1) := by decide +kernel
theorem dX8_stock_9 : decode cX8_stock 9 = .ok (.lconst 0, 1) := by decide +kernel
theorem dX8_stock_10 : decode cX8_stock 10 = .ok (.iload_n 2, 1) := by decide +kernel
theorem dX8_stock_11 : decode cX8_stock 11 = .ok (.i2l, 1) := by decide +kernel
theorem dX8_stock_12 : decode cX8_stock 12 = .ok (.invokestatic 69, 3) := by decide +kernel
theorem dX8_stock_15 : decode cX8_stock 15 = .ok (.ifCond .eq 28, 3) := by decide +kernel
theorem dX8_stock_18 : decode cX8_stock 18 = .ok (.iload_n 3, 1) := by decide +kernel
theorem dX8_stock_19 : decode cX8_stock 19 = .ok (.i2l, 1) := by decide +kernel
theorem dX8_stock_20 : decode cX8_stock 20 = .ok (.lconst 0, 1) := by decide +kernel
theorem dX8_stock_21 : decode cX8_stock 21 = .ok (.ldc2_w 179, 3) := by decide +kernel
theorem dX8_stock_24 : decode cX8_stock 24 = .ok (.invokestatic 69, 3) := by decide +kernel
theorem dX8_stock_27 : decode cX8_stock 27 = .ok (.ifCond .eq 16, 3) := by decide +kernel
theorem dX8_stock_30 : decode cX8_stock 30 = .ok (.iload 4, 2) := by decide +kernel
theorem dX8_stock_32 : decode cX8_stock 32 = .ok (.i2l, 1) := by decide +kernel
theorem dX8_stock_33 : decode cX8_stock 33 = .ok (.lconst 0, 1) := by decide +kernel
theorem dX8_stock_34 : decode cX8_stock 34 = .ok (.ldc2_w 94, 3) := by decide +kernel
theorem dX8_stock_37 : decode cX8_stock 37 = .ok (.invokestatic 69, 3) := by decide +kernel
theorem dX8_stock_40 : decode cX8_stock 40 = .ok (.ifCond .ne 6, 3) := by decide +kernel
theorem dX8_stock_43 : decode cX8_stock 43 = .ok (.bipush (-2), 2) := by decide +kernel
theorem dX8_stock_45 : decode cX8_stock 45 = .ok (.ireturn, 1) := by decide +kernel
theorem dX8_stock_46 : decode cX8_stock 46 = .ok (.iload_n 3, 1) := by decide +kernel
theorem dX8_stock_47 : decode cX8_stock 47 = .ok (.i2l, 1) := by decide +kernel
theorem dX8_stock_48 : decode cX8_stock 48 = .ok (.lstore 5, 2) := by decide +kernel
theorem dX8_stock_50 : decode cX8_stock 50 = .ok (.lconst 0, 1) := by decide +kernel
theorem dX8_stock_51 : decode cX8_stock 51 = .ok (.lstore 7, 2) := by decide +kernel
theorem dX8_stock_53 : decode cX8_stock 53 = .ok (.lconst 0, 1) := by decide +kernel
theorem dX8_stock_54 : decode cX8_stock 54 = .ok (.lstore 9, 2) := by decide +kernel
theorem dX8_stock_56 : decode cX8_stock 56 = .ok (.iconst (-1), 1) := by decide +kernel
theorem dX8_stock_57 : decode cX8_stock 57 = .ok (.istore 11, 2) := by decide +kernel
theorem dX8_stock_59 : decode cX8_stock 59 = .ok (.iload_n 1, 1) := by decide +kernel
theorem dX8_stock_60 : decode cX8_stock 60 = .ok (.istore 12, 2) := by decide +kernel
theorem dX8_stock_62 : decode cX8_stock 62 = .ok (.iload 12, 2) := by decide +kernel
theorem dX8_stock_64 : decode cX8_stock 64 = .ok (.iload_n 2, 1) := by decide +kernel
theorem dX8_stock_65 : decode cX8_stock 65 = .ok (.if_icmp .gt 110, 3) := by decide +kernel
theorem dX8_stock_68 : decode cX8_stock 68 = .ok (.lload 5, 2) := by decide +kernel
theorem dX8_stock_70 : decode cX8_stock 70 = .ok (.aload_n 0, 1) := by decide +kernel
theorem dX8_stock_71 : decode cX8_stock 71 = .ok (.getfield 51, 3) := by decide +kernel
theorem dX8_stock_74 : decode cX8_stock 74 = .ok (.iload 12, 2) := by decide +kernel
theorem dX8_stock_76 : decode cX8_stock 76 = .ok (.iaload, 1) := by decide +kernel
theorem dX8_stock_77 : decode cX8_stock 77 = .ok (.i2l, 1) := by decide +kernel
theorem dX8_stock_78 : decode cX8_stock 78 = .ok (.ladd, 1) := by decide +kernel
theorem dX8_stock_79 : decode cX8_stock 79 = .ok (.lstore 5, 2) := by decide +kernel
theorem dX8_stock_81 : decode cX8_stock 81 = .ok (.lload 5, 2) := by decide +kernel
theorem dX8_stock_83 : decode cX8_stock 83 = .ok (.aload_n 0, 1) := by decide +kernel
end
section
theorem dX8_stock_84 : decode cX8_stock 84 = .ok (.iload 12, 2) := by decide +kernel
theorem dX8_stock_86 : decode cX8_stock 86 = .ok (.invokevirtual 174, 3) := by decide +kernel
theorem dX8_stock_89 : decode cX8_stock 89 = .ok (.i2l, 1) := by decide +kernel
theorem dX8_stock_90 : decode cX8_stock 90 = .ok (.lsub, 1) := by decide +kernel
theorem dX8_stock_91 : decode cX8_stock 91 = .ok (.lstore 5, 2) := by decide +kernel
theorem dX8_stock_93 : decode cX8_stock 93 = .ok (.lload 5, 2) := by decide +kernel
theorem dX8_stock_95 : decode cX8_stock 95 = .ok (.lconst 0, 1) := by decide +kernel
theorem dX8_stock_96 : decode cX8_stock 96 = .ok (.lcmp, 1) := by decide +kernel
theorem dX8_stock_97 : decode cX8_stock 97 = .ok (.ifCond .ge 28, 3) := by decide +kernel
theorem dX8_stock_100 : decode cX8_stock 100 = .ok (.lload 7, 2) := by decide +kernel
theorem dX8_stock_102 : decode cX8_stock 102 = .ok (.lload 5, 2) := by decide +kernel
theorem dX8_stock_104 : decode cX8_stock 104 = .ok (.lsub, 1) := by decide +kernel
theorem dX8_stock_105 : decode cX8_stock 105 = .ok (.lstore 7, 2) := by decide +kernel
theorem dX8_stock_107 : decode cX8_stock 107 = .ok (.iload 11, 2) := by decide +kernel
theorem dX8_stock_109 : decode cX8_stock 109 = .ok (.iconst (-1), 1) := by decide +kernel
theorem dX8_stock_110 : decode cX8_stock 110 = .ok (.if_icmp .ne 8, 3) := by decide +kernel
theorem dX8_stock_113 : decode cX8_stock 113 = .ok (.iload 12, 2) := by decide +kernel
theorem dX8_stock_115 : decode cX8_stock 115 = .ok (.goto 5, 3) := by decide +kernel
theorem dX8_stock_118 : decode cX8_stock 118 = .ok (.iload 11, 2) := by decide +kernel
theorem dX8_stock_120 : decode cX8_stock 120 = .ok (.istore 11, 2) := by decide +kernel
theorem dX8_stock_122 : decode cX8_stock 122 = .ok (.lconst 0, 1) := by decide +kernel
theorem dX8_stock_123 : decode cX8_stock 123 = .ok (.lstore 5, 2) := by decide +kernel
theorem dX8_stock_125 : decode cX8_stock 125 = .ok (.aload_n 0, 1) := by decide +kernel
theorem dX8_stock_126 : decode cX8_stock 126 = .ok (.getfield 47, 3) := by decide +kernel
theorem dX8_stock_129 : decode cX8_stock 129 = .ok (.iload 12, 2) := by decide +kernel
theorem dX8_stock_131 : decode cX8_stock 131 = .ok (.baload, 1) := by decide +kernel
theorem dX8_stock_132 : decode cX8_stock 132 = .ok (.ifCond .eq 20, 3) := by decide +kernel
theorem dX8_stock_135 : decode cX8_stock 135 = .ok (.lload 5, 2) := by decide +kernel
theorem dX8_stock_137 : decode cX8_stock 137 = .ok (.aload_n 0, 1) := by decide +kernel
theorem dX8_stock_138 : decode cX8_stock 138 = .ok (.getfield 7, 3) := by decide +kernel
theorem dX8_stock_141 : decode cX8_stock 141 = .ok (.iconst 3, 1) := by decide +kernel
theorem dX8_stock_142 : decode cX8_stock 142 = .ok (.iaload, 1) := by decide +kernel
theorem dX8_stock_143 : decode cX8_stock 143 = .ok (.i2l, 1) := by decide +kernel
theorem dX8_stock_144 : decode cX8_stock 144 = .ok (.lmul, 1) := by decide +kernel
theorem dX8_stock_145 : decode cX8_stock 145 = .ok (.ldc2_w 153, 3) := by decide +kernel
theorem dX8_stock_148 : decode cX8_stock 148 = .ok (.ldiv, 1) := by decide +kernel
theorem dX8_stock_149 : decode cX8_stock 149 = .ok (.goto 4, 3) := by decide +kernel
theorem dX8_stock_152 : decode cX8_stock 152 = .ok (.lconst 0, 1) := by decide +kernel
theorem dX8_stock_153 : decode cX8_stock 153 = .ok (.lstore 13, 2) := by decide +kernel
theorem dX8_stock_155 : decode cX8_stock 155 = .ok (.lload 5, 2) := by decide +kernel
theorem dX8_stock_157 : decode cX8_stock 157 = .ok (.lload 13, 2) := by decide +kernel
theorem dX8_stock_159 : decode cX8_stock 159 = .ok (.lsub, 1) := by decide +kernel
theorem dX8_stock_160 : decode cX8_stock 160 = .ok (.lstore 5, 2) := by decide +kernel
theorem dX8_stock_162 : decode cX8_stock 162 = .ok (.lload 9, 2) := by decide +kernel
theorem dX8_stock_164 : decode cX8_stock 164 = .ok (.lload 13, 2) := by decide +kernel
theorem dX8_stock_166 : decode cX8_stock 166 = .ok (.ladd, 1) := by decide +kernel
theorem dX8_stock_167 : decode cX8_stock 167 = .ok (.lstore 9, 2) := by decide +kernel
theorem dX8_stock_169 : decode cX8_stock 169 = .ok (.iinc 12 1, 3) := by decide +kernel
theorem dX8_stock_172 : decode cX8_stock 172 = .ok (.goto (-110), 3) := by decide +kernel
theorem dX8_stock_175 : decode cX8_stock 175 = .ok (.iload 4, 2) := by decide +kernel
theorem dX8_stock_177 : decode cX8_stock 177 = .ok (.tableswitch 53 0 2 #[27, 31, 49], 27) := by decide +kernel
theorem dX8_stock_204 : decode cX8_stock 204 = .ok (.lload 5, 2) := by decide +kernel
theorem dX8_stock_206 : decode cX8_stock 206 = .ok (.l2i, 1) := by decide +kernel
theorem dX8_stock_207 : decode cX8_stock 207 = .ok (.ireturn, 1) := by decide +kernel
theorem dX8_stock_208 : decode cX8_stock 208 = .ok (.lload 7, 2) := by decide +kernel
theorem dX8_stock_210 : decode cX8_stock 210 = .ok (.ldc2_w 181, 3) := by decide +kernel
theorem dX8_stock_213 : decode cX8_stock 213 = .ok (.lcmp, 1) := by decide +kernel
theorem dX8_stock_214 : decode cX8_stock 214 = .ok (.ifCond .le 8, 3) := by decide +kernel
theorem dX8_stock_217 : decode cX8_stock 217 = .ok (.ldc 170, 2) := by decide +kernel
theorem dX8_stock_219 : decode cX8_stock 219 = .ok (.goto 6, 3) := by decide +kernel
theorem dX8_stock_222 : decode cX8_stock 222 = .ok (.lload 7, 2) := by decide +kernel
theorem dX8_stock_224 : decode cX8_stock 224 = .ok (.l2i, 1) := by decide +kernel
theorem dX8_stock_225 : decode cX8_stock 225 = .ok (.ireturn, 1) := by decide +kernel
theorem dX8_stock_226 : decode cX8_stock 226 = .ok (.lload 9, 2) := by decide +kernel
theorem dX8_stock_228 : decode cX8_stock 228 = .ok (.l2i, 1) := by decide +kernel
theorem dX8_stock_229 : decode cX8_stock 229 = .ok (.ireturn, 1) := by decide +kernel
theorem dX8_stock_230 : decode cX8_stock 230 = .ok (.iload 11, 2) := by decide +kernel
theorem dX8_stock_232 : decode cX8_stock 232 = .ok (.ireturn, 1) := by decide +kernel
set_option maxRecDepth 20000 in
theorem ggX8_ahead_X8_isWeek : GoodIn wsX8_ahead wsX8_isWeek := goodIn_r _ [7, 8, 9, 10, 6, 11] (by decide +kernel) (by decide +kernel)
set_option maxRecDepth 20000 in
theorem gX8_ahead_X8_isWeek : GoodIn wsX8_ahead (va_wsS RX8 171 yX8_isWeek wsX8_isWeek) := goodIn_app (goodIn_of _ (by decide +kernel)) ggX8_ahead_X8_isWeek
set_option maxRecDepth 20000 in
theorem ggX8_ahead_X8_in : GoodIn wsX8_ahead wsX8_in := goodIn_r _ [11] (by decide +kernel) (by decide +kernel)
set_option maxRecDepth 20000 in
theorem gX8_ahead_X8_in : GoodIn wsX8_ahead (va_wsS RX8 69 yX8_in wsX8_in) := goodIn_app (goodIn_of _ (by decide +kernel)) ggX8_ahead_X8_in
set_option maxRecDepth 20000 in
theorem ggX8_ahead_X8_foretoldOf : GoodIn wsX8_ahead wsX8_foretoldOf := goodIn_r _ [15, 3, 16, 17, 18, 19, 20, 21, 22, 23, 24, 25, 26, 27, 28, 29, 30, 31, 32, 33, 34, 35, 36, 37, 38, 39, 40, 41, 42, 43, 44, 45, 46] (by decide +kernel) (by decide +kernel)
set_option maxRecDepth 20000 in
theorem gX8_ahead_X8_foretoldOf : GoodIn wsX8_ahead (wsV RX8 174 RX8 yX8_foretoldOf wsX8_foretoldOf) := goodIn_app (goodIn_of _ (by decide +kernel)) ggX8_ahead_X8_foretoldOf
theorem dX8_ahead_0 : decode cX8_ahead 0 = .ok (.iload_n 2, 1) := by decide +kernel
theorem dX8_ahead_1 : decode cX8_ahead 1 = .ok (.invokestatic 171, 3) := by decide +kernel
theorem dX8_ahead_4 : decode cX8_ahead 4 = .ok (.ifCond .eq 26, 3) := by decide +kernel
theorem dX8_ahead_7 : decode cX8_ahead 7 = .ok (.iload_n 1, 1) := by decide +kernel
theorem dX8_ahead_8 : decode cX8_ahead 8 = .ok (.i2l, 1) := by decide +kernel
theorem dX8_ahead_9 : decode cX8_ahead 9 = .ok (.lconst 0, 1) := by decide +kernel
theorem dX8_ahead_10 : decode cX8_ahead 10 = .ok (.iload_n 2, 1) := by decide +kernel
theorem dX8_ahead_11 : decode cX8_ahead 11 = .ok (.i2l, 1) := by decide +kernel
theorem dX8_ahead_12 : decode cX8_ahead 12 = .ok (.invokestatic 69, 3) := by decide +kernel
theorem dX8_ahead_15 : decode cX8_ahead 15 = .ok (.ifCond .eq 15, 3) := by decide +kernel
theorem dX8_ahead_18 : decode cX8_ahead 18 = .ok (.iload_n 3, 1) := by decide +kernel
theorem dX8_ahead_19 : decode cX8_ahead 19 = .ok (.i2l, 1) := by decide +kernel
theorem dX8_ahead_20 : decode cX8_ahead 20 = .ok (.lconst 0, 1) := by decide +kernel
theorem dX8_ahead_21 : decode cX8_ahead 21 = .ok (.ldc2_w 177, 3) := by decide +kernel
theorem dX8_ahead_24 : decode cX8_ahead 24 = .ok (.invokestatic 69, 3) := by decide +kernel
theorem dX8_ahead_27 : decode cX8_ahead 27 = .ok (.ifCond .ne 6, 3) := by decide +kernel
theorem dX8_ahead_30 : decode cX8_ahead 30 = .ok (.bipush (-2), 2) := by decide +kernel
theorem dX8_ahead_32 : decode cX8_ahead 32 = .ok (.ireturn, 1) := by decide +kernel
theorem dX8_ahead_33 : decode cX8_ahead 33 = .ok (.lconst 0, 1) := by decide +kernel
theorem dX8_ahead_34 : decode cX8_ahead 34 = .ok (.lstore 4, 2) := by decide +kernel
theorem dX8_ahead_36 : decode cX8_ahead 36 = .ok (.lconst 0, 1) := by decide +kernel
theorem dX8_ahead_37 : decode cX8_ahead 37 = .ok (.lstore 6, 2) := by decide +kernel
theorem dX8_ahead_39 : decode cX8_ahead 39 = .ok (.iload_n 1, 1) := by decide +kernel
theorem dX8_ahead_40 : decode cX8_ahead 40 = .ok (.istore 8, 2) := by decide +kernel
theorem dX8_ahead_42 : decode cX8_ahead 42 = .ok (.iload 8, 2) := by decide +kernel
theorem dX8_ahead_44 : decode cX8_ahead 44 = .ok (.iload_n 2, 1) := by decide +kernel
theorem dX8_ahead_45 : decode cX8_ahead 45 = .ok (.if_icmp .gt 41, 3) := by decide +kernel
theorem dX8_ahead_48 : decode cX8_ahead 48 = .ok (.lload 6, 2) := by decide +kernel
theorem dX8_ahead_50 : decode cX8_ahead 50 = .ok (.aload_n 0, 1) := by decide +kernel
theorem dX8_ahead_51 : decode cX8_ahead 51 = .ok (.iload 8, 2) := by decide +kernel
theorem dX8_ahead_53 : decode cX8_ahead 53 = .ok (.invokevirtual 174, 3) := by decide +kernel
theorem dX8_ahead_56 : decode cX8_ahead 56 = .ok (.i2l, 1) := by decide +kernel
theorem dX8_ahead_57 : decode cX8_ahead 57 = .ok (.iload_n 3, 1) := by decide +kernel
theorem dX8_ahead_58 : decode cX8_ahead 58 = .ok (.i2l, 1) := by decide +kernel
theorem dX8_ahead_59 : decode cX8_ahead 59 = .ok (.lsub, 1) := by decide +kernel
theorem dX8_ahead_60 : decode cX8_ahead 60 = .ok (.ladd, 1) := by decide +kernel
theorem dX8_ahead_61 : decode cX8_ahead 61 = .ok (.lstore 6, 2) := by decide +kernel
theorem dX8_ahead_63 : decode cX8_ahead 63 = .ok (.lload 6, 2) := by decide +kernel
theorem dX8_ahead_65 : decode cX8_ahead 65 = .ok (.lload 4, 2) := by decide +kernel
theorem dX8_ahead_67 : decode cX8_ahead 67 = .ok (.lcmp, 1) := by decide +kernel
theorem dX8_ahead_68 : decode cX8_ahead 68 = .ok (.ifCond .le 8, 3) := by decide +kernel
theorem dX8_ahead_71 : decode cX8_ahead 71 = .ok (.lload 6, 2) := by decide +kernel
theorem dX8_ahead_73 : decode cX8_ahead 73 = .ok (.goto 5, 3) := by decide +kernel
theorem dX8_ahead_76 : decode cX8_ahead 76 = .ok (.lload 4, 2) := by decide +kernel
theorem dX8_ahead_78 : decode cX8_ahead 78 = .ok (.lstore 4, 2) := by decide +kernel
theorem dX8_ahead_80 : decode cX8_ahead 80 = .ok (.iinc 8 1, 3) := by decide +kernel
theorem dX8_ahead_83 : decode cX8_ahead 83 = .ok (.goto (-41), 3) := by decide +kernel
theorem dX8_ahead_86 : decode cX8_ahead 86 = .ok (.lload 4, 2) := by decide +kernel
theorem dX8_ahead_88 : decode cX8_ahead 88 = .ok (.ldc2_w 181, 3) := by decide +kernel
theorem dX8_ahead_91 : decode cX8_ahead 91 = .ok (.lcmp, 1) := by decide +kernel
theorem dX8_ahead_92 : decode cX8_ahead 92 = .ok (.ifCond .le 8, 3) := by decide +kernel
theorem dX8_ahead_95 : decode cX8_ahead 95 = .ok (.ldc 170, 2) := by decide +kernel
theorem dX8_ahead_97 : decode cX8_ahead 97 = .ok (.goto 6, 3) := by decide +kernel
theorem dX8_ahead_100 : decode cX8_ahead 100 = .ok (.lload 4, 2) := by decide +kernel
theorem dX8_ahead_102 : decode cX8_ahead 102 = .ok (.l2i, 1) := by decide +kernel
theorem dX8_ahead_103 : decode cX8_ahead 103 = .ok (.ireturn, 1) := by decide +kernel
theorem dX8_met_0 : decode cX8_met 0 = .ok (.aload_n 0, 1) := by decide +kernel
theorem dX8_met_1 : decode cX8_met 1 = .ok (.iload_n 1, 1) := by decide +kernel
theorem dX8_met_2 : decode cX8_met 2 = .ok (.putfield 183, 3) := by decide +kernel
theorem dX8_met_5 : decode cX8_met 5 = .ok (.bipush (-10), 2) := by decide +kernel
theorem dX8_met_7 : decode cX8_met 7 = .ok (.iload_n 1, 1) := by decide +kernel
theorem dX8_met_8 : decode cX8_met 8 = .ok (.isub, 1) := by decide +kernel
theorem dX8_met_9 : decode cX8_met 9 = .ok (.ireturn, 1) := by decide +kernel
set_option maxRecDepth 20000 in
theorem ggX8_isSheet_X8_in : GoodIn wsX8_isSheet wsX8_in := goodIn_r _ [5] (by decide +kernel) (by decide +kernel)
set_option maxRecDepth 20000 in
theorem gX8_isSheet_X8_in : GoodIn wsX8_isSheet (va_wsS RX8 69 yX8_in wsX8_in) := goodIn_app (goodIn_of _ (by decide +kernel)) ggX8_isSheet_X8_in
theorem dX8_isSheet_0 : decode cX8_isSheet 0 = .ok (.iload_n 0, 1) := by decide +kernel
theorem dX8_isSheet_1 : decode cX8_isSheet 1 = .ok (.i2l, 1) := by decide +kernel
theorem dX8_isSheet_2 : decode cX8_isSheet 2 = .ok (.lconst 0, 1) := by decide +kernel
theorem dX8_isSheet_3 : decode cX8_isSheet 3 = .ok (.ldc2_w 94, 3) := by decide +kernel
theorem dX8_isSheet_6 : decode cX8_isSheet 6 = .ok (.invokestatic 69, 3) := by decide +kernel
theorem dX8_isSheet_9 : decode cX8_isSheet 9 = .ok (.ireturn, 1) := by decide +kernel
set_option maxRecDepth 20000 in
theorem ggX8_sheet_X8_isSheet : GoodIn wsX8_sheet wsX8_isSheet := goodIn_r _ [8, 9, 10, 11, 7, 12] (by decide +kernel) (by decide +kernel)
set_option maxRecDepth 20000 in
theorem gX8_sheet_X8_isSheet : GoodIn wsX8_sheet (va_wsS RX8 127 yX8_isSheet wsX8_isSheet) := goodIn_app (goodIn_of _ (by decide +kernel)) ggX8_sheet_X8_isSheet
set_option maxRecDepth 20000 in
theorem ggX8_sheet_X8_in : GoodIn wsX8_sheet wsX8_in := goodIn_r _ [12] (by decide +kernel) (by decide +kernel)
set_option maxRecDepth 20000 in
theorem gX8_sheet_X8_in : GoodIn wsX8_sheet (va_wsS RX8 69 yX8_in wsX8_in) := goodIn_app (goodIn_of _ (by decide +kernel)) ggX8_sheet_X8_in
set_option maxRecDepth 20000 in
theorem ggX8_sheet_X8_met : GoodIn wsX8_sheet wsX8_met := goodIn_r _ [16, 17, 18, 19, 20, 21, 22, 23, 24, 25, 26, 27, 28, 29, 30, 31, 32, 33, 34, 35, 36, 37, 38, 39, 40, 41, 42, 43, 44, 45] (by decide +kernel) (by decide +kernel)
set_option maxRecDepth 20000 in
theorem gX8_sheet_X8_met : GoodIn wsX8_sheet (wsV RX8 130 RX8 yX8_met wsX8_met) := goodIn_app (goodIn_of _ (by decide +kernel)) ggX8_sheet_X8_met
theorem dX8_sheet_0 : decode cX8_sheet 0 = .ok (.iload_n 1, 1) := by decide +kernel
theorem dX8_sheet_1 : decode cX8_sheet 1 = .ok (.invokestatic 127, 3) := by decide +kernel
theorem dX8_sheet_4 : decode cX8_sheet 4 = .ok (.ifCond .eq 21, 3) := by decide +kernel
theorem dX8_sheet_7 : decode cX8_sheet 7 = .ok (.iload_n 2, 1) := by decide +kernel
theorem dX8_sheet_8 : decode cX8_sheet 8 = .ok (.i2l, 1) := by decide +kernel
theorem dX8_sheet_9 : decode cX8_sheet 9 = .ok (.lconst 0, 1) := by decide +kernel
theorem dX8_sheet_10 : decode cX8_sheet 10 = .ok (.ldc2_w 186, 3) := by decide +kernel
theorem dX8_sheet_13 : decode cX8_sheet 13 = .ok (.invokestatic 69, 3) := by decide +kernel
theorem dX8_sheet_16 : decode cX8_sheet 16 = .ok (.ifCond .eq 9, 3) := by decide +kernel
theorem dX8_sheet_19 : decode cX8_sheet 19 = .ok (.iload_n 3, 1) := by decide +kernel
theorem dX8_sheet_20 : decode cX8_sheet 20 = .ok (.bipush 60, 2) := by decide +kernel
theorem dX8_sheet_22 : decode cX8_sheet 22 = .ok (.if_icmp .le 6, 3) := by decide +kernel
theorem dX8_sheet_25 : decode cX8_sheet 25 = .ok (.bipush (-2), 2) := by decide +kernel
theorem dX8_sheet_27 : decode cX8_sheet 27 = .ok (.ireturn, 1) := by decide +kernel
theorem dX8_sheet_28 : decode cX8_sheet 28 = .ok (.iload_n 3, 1) := by decide +kernel
theorem dX8_sheet_29 : decode cX8_sheet 29 = .ok (.ifCond .ge 9, 3) := by decide +kernel
theorem dX8_sheet_32 : decode cX8_sheet 32 = .ok (.aload_n 0, 1) := by decide +kernel
theorem dX8_sheet_33 : decode cX8_sheet 33 = .ok (.iconst 5, 1) := by decide +kernel
theorem dX8_sheet_34 : decode cX8_sheet 34 = .ok (.invokevirtual 130, 3) := by decide +kernel
theorem dX8_sheet_37 : decode cX8_sheet 37 = .ok (.ireturn, 1) := by decide +kernel
theorem dX8_sheet_38 : decode cX8_sheet 38 = .ok (.aload_n 0, 1) := by decide +kernel
theorem dX8_sheet_39 : decode cX8_sheet 39 = .ok (.getfield 54, 3) := by decide +kernel
theorem dX8_sheet_42 : decode cX8_sheet 42 = .ok (.iload_n 1, 1) := by decide +kernel
theorem dX8_sheet_43 : decode cX8_sheet 43 = .ok (.iload_n 2, 1) := by decide +kernel
theorem dX8_sheet_44 : decode cX8_sheet 44 = .ok (.iastore, 1) := by decide +kernel
theorem dX8_sheet_45 : decode cX8_sheet 45 = .ok (.aload_n 0, 1) := by decide +kernel
theorem dX8_sheet_46 : decode cX8_sheet 46 = .ok (.getfield 57, 3) := by decide +kernel
theorem dX8_sheet_49 : decode cX8_sheet 49 = .ok (.iload_n 1, 1) := by decide +kernel
theorem dX8_sheet_50 : decode cX8_sheet 50 = .ok (.iload_n 3, 1) := by decide +kernel
theorem dX8_sheet_51 : decode cX8_sheet 51 = .ok (.iastore, 1) := by decide +kernel
theorem dX8_sheet_52 : decode cX8_sheet 52 = .ok (.iconst 0, 1) := by decide +kernel
theorem dX8_sheet_53 : decode cX8_sheet 53 = .ok (.istore 4, 2) := by decide +kernel
theorem dX8_sheet_55 : decode cX8_sheet 55 = .ok (.iload 4, 2) := by decide +kernel
theorem dX8_sheet_57 : decode cX8_sheet 57 = .ok (.iload_n 3, 1) := by decide +kernel
theorem dX8_sheet_58 : decode cX8_sheet 58 = .ok (.if_icmp .ge 22, 3) := by decide +kernel
theorem dX8_sheet_61 : decode cX8_sheet 61 = .ok (.aload_n 0, 1) := by decide +kernel
theorem dX8_sheet_62 : decode cX8_sheet 62 = .ok (.getfield 60, 3) := by decide +kernel
theorem dX8_sheet_65 : decode cX8_sheet 65 = .ok (.bipush 60, 2) := by decide +kernel
theorem dX8_sheet_67 : decode cX8_sheet 67 = .ok (.iload_n 1, 1) := by decide +kernel
theorem dX8_sheet_68 : decode cX8_sheet 68 = .ok (.imul, 1) := by decide +kernel
theorem dX8_sheet_69 : decode cX8_sheet 69 = .ok (.iload 4, 2) := by decide +kernel
theorem dX8_sheet_71 : decode cX8_sheet 71 = .ok (.iadd, 1) := by decide +kernel
theorem dX8_sheet_72 : decode cX8_sheet 72 = .ok (.iconst 0, 1) := by decide +kernel
theorem dX8_sheet_73 : decode cX8_sheet 73 = .ok (.iastore, 1) := by decide +kernel
theorem dX8_sheet_74 : decode cX8_sheet 74 = .ok (.iinc 4 1, 3) := by decide +kernel
theorem dX8_sheet_77 : decode cX8_sheet 77 = .ok (.goto (-22), 3) := by decide +kernel
theorem dX8_sheet_80 : decode cX8_sheet 80 = .ok (.iload_n 3, 1) := by decide +kernel
theorem dX8_sheet_81 : decode cX8_sheet 81 = .ok (.ireturn, 1) := by decide +kernel
set_option maxRecDepth 20000 in
theorem ggX8_lose_X8_isSheet : GoodIn wsX8_lose wsX8_isSheet := goodIn_r _ [6, 7, 8, 9, 5, 10] (by decide +kernel) (by decide +kernel)
set_option maxRecDepth 20000 in
theorem gX8_lose_X8_isSheet : GoodIn wsX8_lose (va_wsS RX8 127 yX8_isSheet wsX8_isSheet) := goodIn_app (goodIn_of _ (by decide +kernel)) ggX8_lose_X8_isSheet
set_option maxRecDepth 20000 in
theorem ggX8_lose_X8_met : GoodIn wsX8_lose wsX8_met := goodIn_r _ [14, 15, 16, 17, 18, 19, 20, 21, 22, 23, 24, 25, 26, 27, 28, 29, 30, 31, 32, 33, 34, 35, 36, 37, 38, 39, 40, 41, 42, 43] (by decide +kernel) (by decide +kernel)
set_option maxRecDepth 20000 in
theorem gX8_lose_X8_met : GoodIn wsX8_lose (wsV RX8 130 RX8 yX8_met wsX8_met) := goodIn_app (goodIn_of _ (by decide +kernel)) ggX8_lose_X8_met
theorem dX8_lose_0 : decode cX8_lose 0 = .ok (.iload_n 1, 1) := by decide +kernel
theorem dX8_lose_1 : decode cX8_lose 1 = .ok (.invokestatic 127, 3) := by decide +kernel
theorem dX8_lose_4 : decode cX8_lose 4 = .ok (.ifCond .ne 6, 3) := by decide +kernel
theorem dX8_lose_7 : decode cX8_lose 7 = .ok (.bipush (-2), 2) := by decide +kernel
theorem dX8_lose_9 : decode cX8_lose 9 = .ok (.ireturn, 1) := by decide +kernel
theorem dX8_lose_10 : decode cX8_lose 10 = .ok (.aload_n 0, 1) := by decide +kernel
theorem dX8_lose_11 : decode cX8_lose 11 = .ok (.getfield 54, 3) := by decide +kernel
theorem dX8_lose_14 : decode cX8_lose 14 = .ok (.iload_n 1, 1) := by decide +kernel
theorem dX8_lose_15 : decode cX8_lose 15 = .ok (.iaload, 1) := by decide +kernel
theorem dX8_lose_16 : decode cX8_lose 16 = .ok (.ifCond .ge 9, 3) := by decide +kernel
theorem dX8_lose_19 : decode cX8_lose 19 = .ok (.aload_n 0, 1) := by decide +kernel
theorem dX8_lose_20 : decode cX8_lose 20 = .ok (.iconst 1, 1) := by decide +kernel
theorem dX8_lose_21 : decode cX8_lose 21 = .ok (.invokevirtual 130, 3) := by decide +kernel
theorem dX8_lose_24 : decode cX8_lose 24 = .ok (.ireturn, 1) := by decide +kernel
theorem dX8_lose_25 : decode cX8_lose 25 = .ok (.aload_n 0, 1) := by decide +kernel
theorem dX8_lose_26 : decode cX8_lose 26 = .ok (.getfield 54, 3) := by decide +kernel
theorem dX8_lose_29 : decode cX8_lose 29 = .ok (.iload_n 1, 1) := by decide +kernel
theorem dX8_lose_30 : decode cX8_lose 30 = .ok (.iconst (-1), 1) := by decide +kernel
theorem dX8_lose_31 : decode cX8_lose 31 = .ok (.iastore, 1) := by decide +kernel
theorem dX8_lose_32 : decode cX8_lose 32 = .ok (.aload_n 0, 1) := by decide +kernel
theorem dX8_lose_33 : decode cX8_lose 33 = .ok (.getfield 57, 3) := by decide +kernel
theorem dX8_lose_36 : decode cX8_lose 36 = .ok (.iload_n 1, 1) := by decide +kernel
theorem dX8_lose_37 : decode cX8_lose 37 = .ok (.iaload, 1) := by decide +kernel
theorem dX8_lose_38 : decode cX8_lose 38 = .ok (.ireturn, 1) := by decide +kernel
set_option maxRecDepth 20000 in
theorem ggX8_lacksItem_X8_met : GoodIn wsX8_lacksItem wsX8_met := goodIn_r _ [7, 8, 12, 13, 14, 15, 16, 17, 18, 19, 20, 21, 22, 23, 24, 25, 26, 27, 28, 29, 30, 31, 32, 33, 34, 35, 36, 37, 38, 39] (by decide +kernel) (by decide +kernel)
set_option maxRecDepth 20000 in
theorem gX8_lacksItem_X8_met : GoodIn wsX8_lacksItem (wsV RX8 130 RX8 yX8_met wsX8_met) := goodIn_app (goodIn_of _ (by decide +kernel)) ggX8_lacksItem_X8_met
set_option maxRecDepth 20000 in
theorem ggX8_lacksItem_X8_in : GoodIn wsX8_lacksItem wsX8_in := goodIn_r _ [11] (by decide +kernel) (by decide +kernel)
set_option maxRecDepth 20000 in
theorem gX8_lacksItem_X8_in : GoodIn wsX8_lacksItem (va_wsS RX8 69 yX8_in wsX8_in) := goodIn_app (goodIn_of _ (by decide +kernel)) ggX8_lacksItem_X8_in
theorem dX8_lacksItem_0 : decode cX8_lacksItem 0 = .ok (.aload_n 0, 1) := by decide +kernel
theorem dX8_lacksItem_1 : decode cX8_lacksItem 1 = .ok (.getfield 54, 3) := by decide +kernel
theorem dX8_lacksItem_4 : decode cX8_lacksItem 4 = .ok (.iload_n 1, 1) := by decide +kernel
theorem dX8_lacksItem_5 : decode cX8_lacksItem 5 = .ok (.iaload, 1) := by decide +kernel
theorem dX8_lacksItem_6 : decode cX8_lacksItem 6 = .ok (.ifCond .ge 9, 3) := by decide +kernel
theorem dX8_lacksItem_9 : decode cX8_lacksItem 9 = .ok (.aload_n 0, 1) := by decide +kernel
theorem dX8_lacksItem_10 : decode cX8_lacksItem 10 = .ok (.iconst 1, 1) := by decide +kernel
theorem dX8_lacksItem_11 : decode cX8_lacksItem 11 = .ok (.invokevirtual 130, 3) := by decide +kernel
theorem dX8_lacksItem_14 : decode cX8_lacksItem 14 = .ok (.ireturn, 1) := by decide +kernel
theorem dX8_lacksItem_15 : decode cX8_lacksItem 15 = .ok (.aload_n 0, 1) := by decide +kernel
theorem dX8_lacksItem_16 : decode cX8_lacksItem 16 = .ok (.getfield 54, 3) := by decide +kernel
theorem dX8_lacksItem_19 : decode cX8_lacksItem 19 = .ok (.iload_n 1, 1) := by decide +kernel
theorem dX8_lacksItem_20 : decode cX8_lacksItem 20 = .ok (.iaload, 1) := by decide +kernel
theorem dX8_lacksItem_21 : decode cX8_lacksItem 21 = .ok (.iload_n 2, 1) := by decide +kernel
theorem dX8_lacksItem_22 : decode cX8_lacksItem 22 = .ok (.if_icmp .eq 9, 3) := by decide +kernel
theorem dX8_lacksItem_25 : decode cX8_lacksItem 25 = .ok (.aload_n 0, 1) := by decide +kernel
theorem dX8_lacksItem_26 : decode cX8_lacksItem 26 = .ok (.iconst 3, 1) := by decide +kernel
theorem dX8_lacksItem_27 : decode cX8_lacksItem 27 = .ok (.invokevirtual 130, 3) := by decide +kernel
theorem dX8_lacksItem_30 : decode cX8_lacksItem 30 = .ok (.ireturn, 1) := by decide +kernel
theorem dX8_lacksItem_31 : decode cX8_lacksItem 31 = .ok (.iload_n 3, 1) := by decide +kernel
theorem dX8_lacksItem_32 : decode cX8_lacksItem 32 = .ok (.i2l, 1) := by decide +kernel
theorem dX8_lacksItem_33 : decode cX8_lacksItem 33 = .ok (.lconst 0, 1) := by decide +kernel
theorem dX8_lacksItem_34 : decode cX8_lacksItem 34 = .ok (.aload_n 0, 1) := by decide +kernel
theorem dX8_lacksItem_35 : decode cX8_lacksItem 35 = .ok (.getfield 57, 3) := by decide +kernel
theorem dX8_lacksItem_38 : decode cX8_lacksItem 38 = .ok (.iload_n 1, 1) := by decide +kernel
theorem dX8_lacksItem_39 : decode cX8_lacksItem 39 = .ok (.iaload, 1) := by decide +kernel
theorem dX8_lacksItem_40 : decode cX8_lacksItem 40 = .ok (.iconst 1, 1) := by decide +kernel
theorem dX8_lacksItem_41 : decode cX8_lacksItem 41 = .ok (.isub, 1) := by decide +kernel
theorem dX8_lacksItem_42 : decode cX8_lacksItem 42 = .ok (.i2l, 1) := by decide +kernel
theorem dX8_lacksItem_43 : decode cX8_lacksItem 43 = .ok (.invokestatic 69, 3) := by decide +kernel
theorem dX8_lacksItem_46 : decode cX8_lacksItem 46 = .ok (.ifCond .eq 7, 3) := by decide +kernel
theorem dX8_lacksItem_49 : decode cX8_lacksItem 49 = .ok (.iconst 0, 1) := by decide +kernel
theorem dX8_lacksItem_50 : decode cX8_lacksItem 50 = .ok (.goto 8, 3) := by decide +kernel
theorem dX8_lacksItem_53 : decode cX8_lacksItem 53 = .ok (.aload_n 0, 1) := by decide +kernel
theorem dX8_lacksItem_54 : decode cX8_lacksItem 54 = .ok (.iconst 2, 1) := by decide +kernel
theorem dX8_lacksItem_55 : decode cX8_lacksItem 55 = .ok (.invokevirtual 130, 3) := by decide +kernel
theorem dX8_lacksItem_58 : decode cX8_lacksItem 58 = .ok (.ireturn, 1) := by decide +kernel
set_option maxRecDepth 20000 in
theorem ggX8_put_X8_isSheet : GoodIn wsX8_put wsX8_isSheet := goodIn_r _ [6, 7, 8, 9, 5, 10] (by decide +kernel) (by decide +kernel)
set_option maxRecDepth 20000 in
theorem gX8_put_X8_isSheet : GoodIn wsX8_put (va_wsS RX8 127 yX8_isSheet wsX8_isSheet) := goodIn_app (goodIn_of _ (by decide +kernel)) ggX8_put_X8_isSheet
set_option maxRecDepth 20000 in
theorem ggX8_put_X8_in : GoodIn wsX8_put wsX8_in := goodIn_r _ [10] (by decide +kernel) (by decide +kernel)
set_option maxRecDepth 20000 in
theorem gX8_put_X8_in : GoodIn wsX8_put (va_wsS RX8 69 yX8_in wsX8_in) := goodIn_app (goodIn_of _ (by decide +kernel)) ggX8_put_X8_in
set_option maxRecDepth 20000 in
theorem ggX8_put_X8_lacksItem : GoodIn wsX8_put wsX8_lacksItem := goodIn_r _ [14, 15, 16, 17, 18, 19, 5, 20, 21, 8, 9, 10, 22, 23, 24, 25, 26, 27, 28, 29, 30, 31, 32, 33, 34, 35, 36, 37, 38, 39, 40, 41, 42, 43, 44, 45, 46, 47, 48, 49] (by decide +kernel) (by decide +kernel)
set_option maxRecDepth 20000 in
theorem gX8_put_X8_lacksItem : GoodIn wsX8_put (wsV RX8 188 RX8 yX8_lacksItem wsX8_lacksItem) := goodIn_app (goodIn_of _ (by decide +kernel)) ggX8_put_X8_lacksItem
theorem dX8_put_0 : decode cX8_put 0 = .ok (.iload_n 1, 1) := by decide +kernel
theorem dX8_put_1 : decode cX8_put 1 = .ok (.invokestatic 127, 3) := by decide +kernel
theorem dX8_put_4 : decode cX8_put 4 = .ok (.ifCond .eq 15, 3) := by decide +kernel
theorem dX8_put_7 : decode cX8_put 7 = .ok (.iload_n 2, 1) := by decide +kernel
theorem dX8_put_8 : decode cX8_put 8 = .ok (.i2l, 1) := by decide +kernel
theorem dX8_put_9 : decode cX8_put 9 = .ok (.lconst 0, 1) := by decide +kernel
theorem dX8_put_10 : decode cX8_put 10 = .ok (.ldc2_w 186, 3) := by decide +kernel
theorem dX8_put_13 : decode cX8_put 13 = .ok (.invokestatic 69, 3) := by decide +kernel
theorem dX8_put_16 : decode cX8_put 16 = .ok (.ifCond .ne 6, 3) := by decide +kernel
theorem dX8_put_19 : decode cX8_put 19 = .ok (.bipush (-2), 2) := by decide +kernel
theorem dX8_put_21 : decode cX8_put 21 = .ok (.ireturn, 1) := by decide +kernel
theorem dX8_put_22 : decode cX8_put 22 = .ok (.aload_n 0, 1) := by decide +kernel
theorem dX8_put_23 : decode cX8_put 23 = .ok (.iload_n 1, 1) := by decide +kernel
theorem dX8_put_24 : decode cX8_put 24 = .ok (.iload_n 2, 1) := by decide +kernel
theorem dX8_put_25 : decode cX8_put 25 = .ok (.iload_n 3, 1) := by decide +kernel
theorem dX8_put_26 : decode cX8_put 26 = .ok (.invokevirtual 188, 3) := by decide +kernel
theorem dX8_put_29 : decode cX8_put 29 = .ok (.istore 5, 2) := by decide +kernel
theorem dX8_put_31 : decode cX8_put 31 = .ok (.iload 5, 2) := by decide +kernel
theorem dX8_put_33 : decode cX8_put 33 = .ok (.ifCond .eq 6, 3) := by decide +kernel
theorem dX8_put_36 : decode cX8_put 36 = .ok (.iload 5, 2) := by decide +kernel
theorem dX8_put_38 : decode cX8_put 38 = .ok (.ireturn, 1) := by decide +kernel
theorem dX8_put_39 : decode cX8_put 39 = .ok (.aload_n 0, 1) := by decide +kernel
theorem dX8_put_40 : decode cX8_put 40 = .ok (.getfield 60, 3) := by decide +kernel
theorem dX8_put_43 : decode cX8_put 43 = .ok (.bipush 60, 2) := by decide +kernel
theorem dX8_put_45 : decode cX8_put 45 = .ok (.iload_n 1, 1) := by decide +kernel
theorem dX8_put_46 : decode cX8_put 46 = .ok (.imul, 1) := by decide +kernel
theorem dX8_put_47 : decode cX8_put 47 = .ok (.iload_n 3, 1) := by decide +kernel
theorem dX8_put_48 : decode cX8_put 48 = .ok (.iadd, 1) := by decide +kernel
theorem dX8_put_49 : decode cX8_put 49 = .ok (.iload_n 2, 1) := by decide +kernel
theorem dX8_put_50 : decode cX8_put 50 = .ok (.ifCond .ne 9, 3) := by decide +kernel
theorem dX8_put_53 : decode cX8_put 53 = .ok (.iload 4, 2) := by decide +kernel
theorem dX8_put_55 : decode cX8_put 55 = .ok (.i2b, 1) := by decide +kernel
theorem dX8_put_56 : decode cX8_put 56 = .ok (.goto 16, 3) := by decide +kernel
theorem dX8_put_59 : decode cX8_put 59 = .ok (.iload_n 2, 1) := by decide +kernel
theorem dX8_put_60 : decode cX8_put 60 = .ok (.iconst 1, 1) := by decide +kernel
theorem dX8_put_61 : decode cX8_put 61 = .ok (.if_icmp .ne 9, 3) := by decide +kernel
theorem dX8_put_64 : decode cX8_put 64 = .ok (.iload 4, 2) := by decide +kernel
theorem dX8_put_66 : decode cX8_put 66 = .ok (.i2s, 1) := by decide +kernel
theorem dX8_put_67 : decode cX8_put 67 = .ok (.goto 5, 3) := by decide +kernel
theorem dX8_put_70 : decode cX8_put 70 = .ok (.iload 4, 2) := by decide +kernel
theorem dX8_put_72 : decode cX8_put 72 = .ok (.iastore, 1) := by decide +kernel
theorem dX8_put_73 : decode cX8_put 73 = .ok (.iconst 1, 1) := by decide +kernel
theorem dX8_put_74 : decode cX8_put 74 = .ok (.ireturn, 1) := by decide +kernel
set_option maxRecDepth 20000 in
theorem ggX8_get_X8_isSheet : GoodIn wsX8_get wsX8_isSheet := goodIn_r _ [7, 8, 9, 10, 6, 11] (by decide +kernel) (by decide +kernel)
set_option maxRecDepth 20000 in
theorem gX8_get_X8_isSheet : GoodIn wsX8_get (va_wsS RX8 127 yX8_isSheet wsX8_isSheet) := goodIn_app (goodIn_of _ (by decide +kernel)) ggX8_get_X8_isSheet
set_option maxRecDepth 20000 in
theorem ggX8_get_X8_in : GoodIn wsX8_get wsX8_in := goodIn_r _ [11] (by decide +kernel) (by decide +kernel)
set_option maxRecDepth 20000 in
theorem gX8_get_X8_in : GoodIn wsX8_get (va_wsS RX8 69 yX8_in wsX8_in) := goodIn_app (goodIn_of _ (by decide +kernel)) ggX8_get_X8_in
set_option maxRecDepth 20000 in
theorem ggX8_get_X8_lacksItem : GoodIn wsX8_get wsX8_lacksItem := goodIn_r _ [15, 16, 17, 18, 19, 20, 6, 21, 22, 9, 10, 11, 23, 24, 25, 26, 27, 28, 29, 30, 31, 32, 33, 34, 35, 36, 37, 38, 39, 40, 41, 42, 43, 44, 45, 46, 47, 48, 49, 50] (by decide +kernel) (by decide +kernel)
set_option maxRecDepth 20000 in
theorem gX8_get_X8_lacksItem : GoodIn wsX8_get (wsV RX8 188 RX8 yX8_lacksItem wsX8_lacksItem) := goodIn_app (goodIn_of _ (by decide +kernel)) ggX8_get_X8_lacksItem
theorem dX8_get_0 : decode cX8_get 0 = .ok (.iload_n 1, 1) := by decide +kernel
theorem dX8_get_1 : decode cX8_get 1 = .ok (.invokestatic 127, 3) := by decide +kernel
theorem dX8_get_4 : decode cX8_get 4 = .ok (.ifCond .eq 25, 3) := by decide +kernel
theorem dX8_get_7 : decode cX8_get 7 = .ok (.iload_n 2, 1) := by decide +kernel
theorem dX8_get_8 : decode cX8_get 8 = .ok (.i2l, 1) := by decide +kernel
theorem dX8_get_9 : decode cX8_get 9 = .ok (.lconst 0, 1) := by decide +kernel
theorem dX8_get_10 : decode cX8_get 10 = .ok (.ldc2_w 186, 3) := by decide +kernel
theorem dX8_get_13 : decode cX8_get 13 = .ok (.invokestatic 69, 3) := by decide +kernel
theorem dX8_get_16 : decode cX8_get 16 = .ok (.ifCond .eq 13, 3) := by decide +kernel
theorem dX8_get_19 : decode cX8_get 19 = .ok (.aload_n 0, 1) := by decide +kernel
theorem dX8_get_20 : decode cX8_get 20 = .ok (.iload_n 1, 1) := by decide +kernel
theorem dX8_get_21 : decode cX8_get 21 = .ok (.iload_n 2, 1) := by decide +kernel
theorem dX8_get_22 : decode cX8_get 22 = .ok (.iload_n 3, 1) := by decide +kernel
theorem dX8_get_23 : decode cX8_get 23 = .ok (.invokevirtual 188, 3) := by decide +kernel
theorem dX8_get_26 : decode cX8_get 26 = .ok (.ifCond .eq 6, 3) := by decide +kernel
theorem dX8_get_29 : decode cX8_get 29 = .ok (.ldc 191, 2) := by decide +kernel
theorem dX8_get_31 : decode cX8_get 31 = .ok (.ireturn, 1) := by decide +kernel
theorem dX8_get_32 : decode cX8_get 32 = .ok (.aload_n 0, 1) := by decide +kernel
theorem dX8_get_33 : decode cX8_get 33 = .ok (.getfield 60, 3) := by decide +kernel
theorem dX8_get_36 : decode cX8_get 36 = .ok (.bipush 60, 2) := by decide +kernel
theorem dX8_get_38 : decode cX8_get 38 = .ok (.iload_n 1, 1) := by decide +kernel
theorem dX8_get_39 : decode cX8_get 39 = .ok (.imul, 1) := by decide +kernel
theorem dX8_get_40 : decode cX8_get 40 = .ok (.iload_n 3, 1) := by decide +kernel
theorem dX8_get_41 : decode cX8_get 41 = .ok (.iadd, 1) := by decide +kernel
theorem dX8_get_42 : decode cX8_get 42 = .ok (.iaload, 1) := by decide +kernel
theorem dX8_get_43 : decode cX8_get 43 = .ok (.ireturn, 1) := by decide +kernel
set_option maxRecDepth 20000 in
theorem ggX8_copy_X8_isSheet : GoodIn wsX8_copy wsX8_isSheet := goodIn_r _ [8, 9, 10, 11, 7, 12] (by decide +kernel) (by decide +kernel)
set_option maxRecDepth 20000 in
theorem gX8_copy_X8_isSheet : GoodIn wsX8_copy (va_wsS RX8 127 yX8_isSheet wsX8_isSheet) := goodIn_app (goodIn_of _ (by decide +kernel)) ggX8_copy_X8_isSheet
set_option maxRecDepth 20000 in
theorem ggX8_copy_X8_met : GoodIn wsX8_copy wsX8_met := goodIn_r _ [16, 17, 18, 19, 20, 21, 22, 23, 24, 25, 26, 27, 28, 29, 30, 31, 32, 33, 34, 35, 36, 37, 38, 39, 40, 41, 42, 43, 44, 45] (by decide +kernel) (by decide +kernel)
set_option maxRecDepth 20000 in
theorem gX8_copy_X8_met : GoodIn wsX8_copy (wsV RX8 130 RX8 yX8_met wsX8_met) := goodIn_app (goodIn_of _ (by decide +kernel)) ggX8_copy_X8_met
theorem dX8_copy_0 : decode cX8_copy 0 = .ok (.iload_n 1, 1) := by decide +kernel
theorem dX8_copy_1 : decode cX8_copy 1 = .ok (.invokestatic 127, 3) := by decide +kernel
theorem dX8_copy_4 : decode cX8_copy 4 = .ok (.ifCond .eq 10, 3) := by decide +kernel
theorem dX8_copy_7 : decode cX8_copy 7 = .ok (.iload_n 3, 1) := by decide +kernel
theorem dX8_copy_8 : decode cX8_copy 8 = .ok (.invokestatic 127, 3) := by decide +kernel
theorem dX8_copy_11 : decode cX8_copy 11 = .ok (.ifCond .ne 6, 3) := by decide +kernel
theorem dX8_copy_14 : decode cX8_copy 14 = .ok (.bipush (-2), 2) := by decide +kernel
theorem dX8_copy_16 : decode cX8_copy 16 = .ok (.ireturn, 1) := by decide +kernel
theorem dX8_copy_17 : decode cX8_copy 17 = .ok (.aload_n 0, 1) := by decide +kernel
theorem dX8_copy_18 : decode cX8_copy 18 = .ok (.getfield 54, 3) := by decide +kernel
theorem dX8_copy_21 : decode cX8_copy 21 = .ok (.iload_n 1, 1) := by decide +kernel
theorem dX8_copy_22 : decode cX8_copy 22 = .ok (.iaload, 1) := by decide +kernel
theorem dX8_copy_23 : decode cX8_copy 23 = .ok (.ifCond .lt 12, 3) := by decide +kernel
theorem dX8_copy_26 : decode cX8_copy 26 = .ok (.aload_n 0, 1) := by decide +kernel
theorem dX8_copy_27 : decode cX8_copy 27 = .ok (.getfield 54, 3) := by decide +kernel
theorem dX8_copy_30 : decode cX8_copy 30 = .ok (.iload_n 3, 1) := by decide +kernel
theorem dX8_copy_31 : decode cX8_copy 31 = .ok (.iaload, 1) := by decide +kernel
theorem dX8_copy_32 : decode cX8_copy 32 = .ok (.ifCond .ge 9, 3) := by decide +kernel
theorem dX8_copy_35 : decode cX8_copy 35 = .ok (.aload_n 0, 1) := by decide +kernel
theorem dX8_copy_36 : decode cX8_copy 36 = .ok (.iconst 1, 1) := by decide +kernel
theorem dX8_copy_37 : decode cX8_copy 37 = .ok (.invokevirtual 130, 3) := by decide +kernel
theorem dX8_copy_40 : decode cX8_copy 40 = .ok (.ireturn, 1) := by decide +kernel
theorem dX8_copy_41 : decode cX8_copy 41 = .ok (.aload_n 0, 1) := by decide +kernel
theorem dX8_copy_42 : decode cX8_copy 42 = .ok (.getfield 54, 3) := by decide +kernel
theorem dX8_copy_45 : decode cX8_copy 45 = .ok (.iload_n 1, 1) := by decide +kernel
theorem dX8_copy_46 : decode cX8_copy 46 = .ok (.iaload, 1) := by decide +kernel
theorem dX8_copy_47 : decode cX8_copy 47 = .ok (.aload_n 0, 1) := by decide +kernel
theorem dX8_copy_48 : decode cX8_copy 48 = .ok (.getfield 54, 3) := by decide +kernel
theorem dX8_copy_51 : decode cX8_copy 51 = .ok (.iload_n 3, 1) := by decide +kernel
theorem dX8_copy_52 : decode cX8_copy 52 = .ok (.iaload, 1) := by decide +kernel
theorem dX8_copy_53 : decode cX8_copy 53 = .ok (.if_icmp .eq 9, 3) := by decide +kernel
theorem dX8_copy_56 : decode cX8_copy 56 = .ok (.aload_n 0, 1) := by decide +kernel
theorem dX8_copy_57 : decode cX8_copy 57 = .ok (.iconst 4, 1) := by decide +kernel
theorem dX8_copy_58 : decode cX8_copy 58 = .ok (.invokevirtual 130, 3) := by decide +kernel
theorem dX8_copy_61 : decode cX8_copy 61 = .ok (.ireturn, 1) := by decide +kernel
theorem dX8_copy_62 : decode cX8_copy 62 = .ok (.iload_n 2, 1) := by decide +kernel
theorem dX8_copy_63 : decode cX8_copy 63 = .ok (.ifCond .lt 48, 3) := by decide +kernel
theorem dX8_copy_66 : decode cX8_copy 66 = .ok (.iload 4, 2) := by decide +kernel
theorem dX8_copy_68 : decode cX8_copy 68 = .ok (.ifCond .lt 43, 3) := by decide +kernel
theorem dX8_copy_71 : decode cX8_copy 71 = .ok (.iload 5, 2) := by decide +kernel
theorem dX8_copy_73 : decode cX8_copy 73 = .ok (.ifCond .lt 38, 3) := by decide +kernel
theorem dX8_copy_76 : decode cX8_copy 76 = .ok (.iload_n 2, 1) := by decide +kernel
theorem dX8_copy_77 : decode cX8_copy 77 = .ok (.i2l, 1) := by decide +kernel
theorem dX8_copy_78 : decode cX8_copy 78 = .ok (.iload 5, 2) := by decide +kernel
theorem dX8_copy_80 : decode cX8_copy 80 = .ok (.i2l, 1) := by decide +kernel
theorem dX8_copy_81 : decode cX8_copy 81 = .ok (.ladd, 1) := by decide +kernel
theorem dX8_copy_82 : decode cX8_copy 82 = .ok (.aload_n 0, 1) := by decide +kernel
theorem dX8_copy_83 : decode cX8_copy 83 = .ok (.getfield 57, 3) := by decide +kernel
theorem dX8_copy_86 : decode cX8_copy 86 = .ok (.iload_n 1, 1) := by decide +kernel
theorem dX8_copy_87 : decode cX8_copy 87 = .ok (.iaload, 1) := by decide +kernel
theorem dX8_copy_88 : decode cX8_copy 88 = .ok (.i2l, 1) := by decide +kernel
theorem dX8_copy_89 : decode cX8_copy 89 = .ok (.lcmp, 1) := by decide +kernel
theorem dX8_copy_90 : decode cX8_copy 90 = .ok (.ifCond .gt 21, 3) := by decide +kernel
theorem dX8_copy_93 : decode cX8_copy 93 = .ok (.iload 4, 2) := by decide +kernel
theorem dX8_copy_95 : decode cX8_copy 95 = .ok (.i2l, 1) := by decide +kernel
theorem dX8_copy_96 : decode cX8_copy 96 = .ok (.iload 5, 2) := by decide +kernel
theorem dX8_copy_98 : decode cX8_copy 98 = .ok (.i2l, 1) := by decide +kernel
theorem dX8_copy_99 : decode cX8_copy 99 = .ok (.ladd, 1) := by decide +kernel
theorem dX8_copy_100 : decode cX8_copy 100 = .ok (.aload_n 0, 1) := by decide +kernel
theorem dX8_copy_101 : decode cX8_copy 101 = .ok (.getfield 57, 3) := by decide +kernel
theorem dX8_copy_104 : decode cX8_copy 104 = .ok (.iload_n 3, 1) := by decide +kernel
theorem dX8_copy_105 : decode cX8_copy 105 = .ok (.iaload, 1) := by decide +kernel
theorem dX8_copy_106 : decode cX8_copy 106 = .ok (.i2l, 1) := by decide +kernel
theorem dX8_copy_107 : decode cX8_copy 107 = .ok (.lcmp, 1) := by decide +kernel
theorem dX8_copy_108 : decode cX8_copy 108 = .ok (.ifCond .le 9, 3) := by decide +kernel
theorem dX8_copy_111 : decode cX8_copy 111 = .ok (.aload_n 0, 1) := by decide +kernel
theorem dX8_copy_112 : decode cX8_copy 112 = .ok (.iconst 2, 1) := by decide +kernel
theorem dX8_copy_113 : decode cX8_copy 113 = .ok (.invokevirtual 130, 3) := by decide +kernel
theorem dX8_copy_116 : decode cX8_copy 116 = .ok (.ireturn, 1) := by decide +kernel
theorem dX8_copy_117 : decode cX8_copy 117 = .ok (.iconst 0, 1) := by decide +kernel
theorem dX8_copy_118 : decode cX8_copy 118 = .ok (.istore 6, 2) := by decide +kernel
theorem dX8_copy_120 : decode cX8_copy 120 = .ok (.iload 6, 2) := by decide +kernel
theorem dX8_copy_122 : decode cX8_copy 122 = .ok (.iload 5, 2) := by decide +kernel
theorem dX8_copy_124 : decode cX8_copy 124 = .ok (.if_icmp .ge 30, 3) := by decide +kernel
theorem dX8_copy_127 : decode cX8_copy 127 = .ok (.aload_n 0, 1) := by decide +kernel
theorem dX8_copy_128 : decode cX8_copy 128 = .ok (.getfield 63, 3) := by decide +kernel
theorem dX8_copy_131 : decode cX8_copy 131 = .ok (.iload 6, 2) := by decide +kernel
theorem dX8_copy_133 : decode cX8_copy 133 = .ok (.aload_n 0, 1) := by decide +kernel
theorem dX8_copy_134 : decode cX8_copy 134 = .ok (.getfield 60, 3) := by decide +kernel
theorem dX8_copy_137 : decode cX8_copy 137 = .ok (.bipush 60, 2) := by decide +kernel
theorem dX8_copy_139 : decode cX8_copy 139 = .ok (.iload_n 1, 1) := by decide +kernel
theorem dX8_copy_140 : decode cX8_copy 140 = .ok (.imul, 1) := by decide +kernel
theorem dX8_copy_141 : decode cX8_copy 141 = .ok (.iload_n 2, 1) := by decide +kernel
theorem dX8_copy_142 : decode cX8_copy 142 = .ok (.iadd, 1) := by decide +kernel
theorem dX8_copy_143 : decode cX8_copy 143 = .ok (.iload 6, 2) := by decide +kernel
theorem dX8_copy_145 : decode cX8_copy 145 = .ok (.iadd, 1) := by decide +kernel
theorem dX8_copy_146 : decode cX8_copy 146 = .ok (.iaload, 1) := by decide +kernel
theorem dX8_copy_147 : decode cX8_copy 147 = .ok (.iastore, 1) := by decide +kernel
theorem dX8_copy_148 : decode cX8_copy 148 = .ok (.iinc 6 1, 3) := by decide +kernel
theorem dX8_copy_151 : decode cX8_copy 151 = .ok (.goto (-31), 3) := by decide +kernel
theorem dX8_copy_154 : decode cX8_copy 154 = .ok (.iconst 0, 1) := by decide +kernel
theorem dX8_copy_155 : decode cX8_copy 155 = .ok (.istore 6, 2) := by decide +kernel
theorem dX8_copy_157 : decode cX8_copy 157 = .ok (.iload 6, 2) := by decide +kernel
theorem dX8_copy_159 : decode cX8_copy 159 = .ok (.iload 5, 2) := by decide +kernel
theorem dX8_copy_161 : decode cX8_copy 161 = .ok (.if_icmp .ge 31, 3) := by decide +kernel
theorem dX8_copy_164 : decode cX8_copy 164 = .ok (.aload_n 0, 1) := by decide +kernel
theorem dX8_copy_165 : decode cX8_copy 165 = .ok (.getfield 60, 3) := by decide +kernel
theorem dX8_copy_168 : decode cX8_copy 168 = .ok (.bipush 60, 2) := by decide +kernel
theorem dX8_copy_170 : decode cX8_copy 170 = .ok (.iload_n 3, 1) := by decide +kernel
theorem dX8_copy_171 : decode cX8_copy 171 = .ok (.imul, 1) := by decide +kernel
theorem dX8_copy_172 : decode cX8_copy 172 = .ok (.iload 4, 2) := by decide +kernel
theorem dX8_copy_174 : decode cX8_copy 174 = .ok (.iadd, 1) := by decide +kernel
theorem dX8_copy_175 : decode cX8_copy 175 = .ok (.iload 6, 2) := by decide +kernel
theorem dX8_copy_177 : decode cX8_copy 177 = .ok (.iadd, 1) := by decide +kernel
theorem dX8_copy_178 : decode cX8_copy 178 = .ok (.aload_n 0, 1) := by decide +kernel
theorem dX8_copy_179 : decode cX8_copy 179 = .ok (.getfield 63, 3) := by decide +kernel
theorem dX8_copy_182 : decode cX8_copy 182 = .ok (.iload 6, 2) := by decide +kernel
theorem dX8_copy_184 : decode cX8_copy 184 = .ok (.iaload, 1) := by decide +kernel
theorem dX8_copy_185 : decode cX8_copy 185 = .ok (.iastore, 1) := by decide +kernel
theorem dX8_copy_186 : decode cX8_copy 186 = .ok (.iinc 6 1, 3) := by decide +kernel
theorem dX8_copy_189 : decode cX8_copy 189 = .ok (.goto (-32), 3) := by decide +kernel
theorem dX8_copy_192 : decode cX8_copy 192 = .ok (.iconst 1, 1) := by decide +kernel
theorem dX8_copy_193 : decode cX8_copy 193 = .ok (.ireturn, 1) := by decide +kernel
set_option maxRecDepth 20000 in
theorem ggX8_count_X8_fits : GoodIn wsX8_count wsX8_fits := goodIn_r _ [13, 14, 2, 15, 16, 17, 12, 18, 19, 20, 3, 21, 22, 23, 24, 25, 26, 27, 28, 29, 30, 31, 32, 33, 34, 35, 36, 37, 38, 39, 40, 41, 42, 43, 44, 45, 46, 47, 48] (by decide +kernel) (by decide +kernel)
set_option maxRecDepth 20000 in
theorem gX8_count_X8_fits : GoodIn wsX8_count (wsV RX8 100 RX8 yX8_fits wsX8_fits) := goodIn_app (goodIn_of _ (by decide +kernel)) ggX8_count_X8_fits
theorem dX8_count_0 : decode cX8_count 0 = .ok (.iconst 0, 1) := by decide +kernel
theorem dX8_count_1 : decode cX8_count 1 = .ok (.istore_n 2, 1) := by decide +kernel
theorem dX8_count_2 : decode cX8_count 2 = .ok (.iload_n 1, 1) := by decide +kernel
theorem dX8_count_3 : decode cX8_count 3 = .ok (.tableswitch 149 0 8 #[49, 54, 86, 91, 96, 101, 106, 111, 116], 49) := by decide +kernel
theorem dX8_count_52 : decode cX8_count 52 = .ok (.aload_n 0, 1) := by decide +kernel
theorem dX8_count_53 : decode cX8_count 53 = .ok (.getfield 66, 3) := by decide +kernel
theorem dX8_count_56 : decode cX8_count 56 = .ok (.ireturn, 1) := by decide +kernel
theorem dX8_count_57 : decode cX8_count 57 = .ok (.iconst 0, 1) := by decide +kernel
theorem dX8_count_58 : decode cX8_count 58 = .ok (.istore_n 3, 1) := by decide +kernel
theorem dX8_count_59 : decode cX8_count 59 = .ok (.iload_n 3, 1) := by decide +kernel
theorem dX8_count_60 : decode cX8_count 60 = .ok (.bipush 8, 2) := by decide +kernel
theorem dX8_count_62 : decode cX8_count 62 = .ok (.if_icmp .ge 25, 3) := by decide +kernel
theorem dX8_count_65 : decode cX8_count 65 = .ok (.iload_n 2, 1) := by decide +kernel
theorem dX8_count_66 : decode cX8_count 66 = .ok (.aload_n 0, 1) := by decide +kernel
theorem dX8_count_67 : decode cX8_count 67 = .ok (.iload_n 3, 1) := by decide +kernel
theorem dX8_count_68 : decode cX8_count 68 = .ok (.invokevirtual 100, 3) := by decide +kernel
theorem dX8_count_71 : decode cX8_count 71 = .ok (.ifCond .eq 7, 3) := by decide +kernel
theorem dX8_count_74 : decode cX8_count 74 = .ok (.iconst 1, 1) := by decide +kernel
theorem dX8_count_75 : decode cX8_count 75 = .ok (.goto 4, 3) := by decide +kernel
theorem dX8_count_78 : decode cX8_count 78 = .ok (.iconst 0, 1) := by decide +kernel
theorem dX8_count_79 : decode cX8_count 79 = .ok (.iadd, 1) := by decide +kernel
theorem dX8_count_80 : decode cX8_count 80 = .ok (.istore_n 2, 1) := by decide +kernel
theorem dX8_count_81 : decode cX8_count 81 = .ok (.iinc 3 1, 3) := by decide +kernel
theorem dX8_count_84 : decode cX8_count 84 = .ok (.goto (-25), 3) := by decide +kernel
theorem dX8_count_87 : decode cX8_count 87 = .ok (.iload_n 2, 1) := by decide +kernel
theorem dX8_count_88 : decode cX8_count 88 = .ok (.ireturn, 1) := by decide +kernel
theorem dX8_count_89 : decode cX8_count 89 = .ok (.aload_n 0, 1) := by decide +kernel
theorem dX8_count_90 : decode cX8_count 90 = .ok (.getfield 31, 3) := by decide +kernel
theorem dX8_count_93 : decode cX8_count 93 = .ok (.ireturn, 1) := by decide +kernel
theorem dX8_count_94 : decode cX8_count 94 = .ok (.aload_n 0, 1) := by decide +kernel
theorem dX8_count_95 : decode cX8_count 95 = .ok (.getfield 35, 3) := by decide +kernel
theorem dX8_count_98 : decode cX8_count 98 = .ok (.ireturn, 1) := by decide +kernel
theorem dX8_count_99 : decode cX8_count 99 = .ok (.aload_n 0, 1) := by decide +kernel
theorem dX8_count_100 : decode cX8_count 100 = .ok (.getfield 155, 3) := by decide +kernel
theorem dX8_count_103 : decode cX8_count 103 = .ok (.ireturn, 1) := by decide +kernel
theorem dX8_count_104 : decode cX8_count 104 = .ok (.aload_n 0, 1) := by decide +kernel
theorem dX8_count_105 : decode cX8_count 105 = .ok (.getfield 160, 3) := by decide +kernel
theorem dX8_count_108 : decode cX8_count 108 = .ok (.ireturn, 1) := by decide +kernel
theorem dX8_count_109 : decode cX8_count 109 = .ok (.aload_n 0, 1) := by decide +kernel
theorem dX8_count_110 : decode cX8_count 110 = .ok (.getfield 183, 3) := by decide +kernel
theorem dX8_count_113 : decode cX8_count 113 = .ok (.ireturn, 1) := by decide +kernel
theorem dX8_count_114 : decode cX8_count 114 = .ok (.aload_n 0, 1) := by decide +kernel
theorem dX8_count_115 : decode cX8_count 115 = .ok (.getfield 163, 3) := by decide +kernel
theorem dX8_count_118 : decode cX8_count 118 = .ok (.ireturn, 1) := by decide +kernel
theorem dX8_count_119 : decode cX8_count 119 = .ok (.iconst 0, 1) := by decide +kernel
theorem dX8_count_120 : decode cX8_count 120 = .ok (.istore_n 3, 1) := by decide +kernel
theorem dX8_count_121 : decode cX8_count 121 = .ok (.iload_n 3, 1) := by decide +kernel
theorem dX8_count_122 : decode cX8_count 122 = .ok (.bipush 52, 2) := by decide +kernel
theorem dX8_count_124 : decode cX8_count 124 = .ok (.if_icmp .ge 26, 3) := by decide +kernel
theorem dX8_count_127 : decode cX8_count 127 = .ok (.iload_n 2, 1) := by decide +kernel
theorem dX8_count_128 : decode cX8_count 128 = .ok (.aload_n 0, 1) := by decide +kernel
theorem dX8_count_129 : decode cX8_count 129 = .ok (.getfield 47, 3) := by decide +kernel
theorem dX8_count_132 : decode cX8_count 132 = .ok (.iload_n 3, 1) := by decide +kernel
theorem dX8_count_133 : decode cX8_count 133 = .ok (.baload, 1) := by decide +kernel
theorem dX8_count_134 : decode cX8_count 134 = .ok (.ifCond .eq 7, 3) := by decide +kernel
theorem dX8_count_137 : decode cX8_count 137 = .ok (.iconst 1, 1) := by decide +kernel
theorem dX8_count_138 : decode cX8_count 138 = .ok (.goto 4, 3) := by decide +kernel
theorem dX8_count_141 : decode cX8_count 141 = .ok (.iconst 0, 1) := by decide +kernel
theorem dX8_count_142 : decode cX8_count 142 = .ok (.iadd, 1) := by decide +kernel
theorem dX8_count_143 : decode cX8_count 143 = .ok (.istore_n 2, 1) := by decide +kernel
theorem dX8_count_144 : decode cX8_count 144 = .ok (.iinc 3 1, 3) := by decide +kernel
theorem dX8_count_147 : decode cX8_count 147 = .ok (.goto (-26), 3) := by decide +kernel
theorem dX8_count_150 : decode cX8_count 150 = .ok (.iload_n 2, 1) := by decide +kernel
theorem dX8_count_151 : decode cX8_count 151 = .ok (.ireturn, 1) := by decide +kernel
theorem dX8_count_152 : decode cX8_count 152 = .ok (.bipush (-2), 2) := by decide +kernel
theorem dX8_count_154 : decode cX8_count 154 = .ok (.ireturn, 1) := by decide +kernel
set_option maxRecDepth 20000 in
theorem ggX8_digest_X8_count : GoodIn wsX8_digest wsX8_count := goodIn_r _ [11, 12, 13, 14, 4, 15, 16, 17, 18, 19, 20, 21, 10, 22, 23, 24, 25, 26, 27, 28, 29, 46, 47, 48, 49, 50, 51, 52, 53, 54, 55, 56, 57, 58, 59, 60, 61, 62, 63, 64, 65, 66, 67, 68, 69, 70, 71, 72, 73] (by decide +kernel) (by decide +kernel)
set_option maxRecDepth 20000 in
theorem gX8_digest_X8_count : GoodIn wsX8_digest (wsV RX8 194 RX8 yX8_count wsX8_count) := goodIn_app (goodIn_of _ (by decide +kernel)) ggX8_digest_X8_count
set_option maxRecDepth 20000 in
theorem ggX8_digest_X8_wideOf : GoodIn wsX8_digest wsX8_wideOf := goodIn_r _ [27, 23, 28, 29, 14, 46, 47, 48, 49, 50, 51, 52, 53, 54, 55, 56, 57, 58, 59, 60, 61, 62, 63, 64, 65, 66, 67, 68, 69, 70, 71, 72, 73] (by decide +kernel) (by decide +kernel)
set_option maxRecDepth 20000 in
theorem gX8_digest_X8_wideOf : GoodIn wsX8_digest (wsV RX8 96 RX8 yX8_wideOf wsX8_wideOf) := goodIn_app (goodIn_of _ (by decide +kernel)) ggX8_digest_X8_wideOf
set_option maxRecDepth 20000 in
theorem ggX8_digest_X8_findOrder : GoodIn wsX8_digest wsX8_findOrder := goodIn_r _ [33, 23, 34, 29, 35, 3, 36, 37, 46, 47, 48, 49, 50, 51, 52, 53, 54, 55, 56, 57, 58, 59, 60, 61, 62, 63, 64, 65, 66, 67, 68, 69, 70, 71, 72, 73] (by decide +kernel) (by decide +kernel)
set_option maxRecDepth 20000 in
theorem gX8_digest_X8_findOrder : GoodIn wsX8_digest (wsV RX8 146 RX8 yX8_findOrder wsX8_findOrder) := goodIn_app (goodIn_of _ (by decide +kernel)) ggX8_digest_X8_findOrder
set_option maxRecDepth 20000 in
theorem ggX8_digest_X8_foretoldOf : GoodIn wsX8_digest wsX8_foretoldOf := goodIn_r _ [41, 42, 43, 44, 45, 46, 47, 48, 49, 50, 51, 52, 53, 54, 55, 56, 57, 58, 59, 60, 61, 62, 63, 64, 65, 66, 67, 68, 69, 70, 71, 72, 73] (by decide +kernel) (by decide +kernel)
set_option maxRecDepth 20000 in
theorem gX8_digest_X8_foretoldOf : GoodIn wsX8_digest (wsV RX8 174 RX8 yX8_foretoldOf wsX8_foretoldOf) := goodIn_app (goodIn_of _ (by decide +kernel)) ggX8_digest_X8_foretoldOf
theorem dX8_digest_0 : decode cX8_digest 0 = .ok (.ldc2_w 192, 3) := by decide +kernel
theorem dX8_digest_3 : decode cX8_digest 3 = .ok (.lstore_n 1, 1) := by decide +kernel
theorem dX8_digest_4 : decode cX8_digest 4 = .ok (.iconst 0, 1) := by decide +kernel
theorem dX8_digest_5 : decode cX8_digest 5 = .ok (.istore_n 3, 1) := by decide +kernel
theorem dX8_digest_6 : decode cX8_digest 6 = .ok (.iload_n 3, 1) := by decide +kernel
theorem dX8_digest_7 : decode cX8_digest 7 = .ok (.bipush 9, 2) := by decide +kernel
theorem dX8_digest_9 : decode cX8_digest 9 = .ok (.if_icmp .ge 32, 3) := by decide +kernel
theorem dX8_digest_12 : decode cX8_digest 12 = .ok (.iload_n 3, 1) := by decide +kernel
theorem dX8_digest_13 : decode cX8_digest 13 = .ok (.bipush 6, 2) := by decide +kernel
theorem dX8_digest_15 : decode cX8_digest 15 = .ok (.if_icmp .ne 7, 3) := by decide +kernel
theorem dX8_digest_18 : decode cX8_digest 18 = .ok (.lload_n 1, 1) := by decide +kernel
theorem dX8_digest_19 : decode cX8_digest 19 = .ok (.goto 15, 3) := by decide +kernel
theorem dX8_digest_22 : decode cX8_digest 22 = .ok (.ldc2_w 85, 3) := by decide +kernel
theorem dX8_digest_25 : decode cX8_digest 25 = .ok (.lload_n 1, 1) := by decide +kernel
theorem dX8_digest_26 : decode cX8_digest 26 = .ok (.lmul, 1) := by decide +kernel
theorem dX8_digest_27 : decode cX8_digest 27 = .ok (.aload_n 0, 1) := by decide +kernel
theorem dX8_digest_28 : decode cX8_digest 28 = .ok (.iload_n 3, 1) := by decide +kernel
theorem dX8_digest_29 : decode cX8_digest 29 = .ok (.invokevirtual 194, 3) := by decide +kernel
theorem dX8_digest_32 : decode cX8_digest 32 = .ok (.i2l, 1) := by decide +kernel
theorem dX8_digest_33 : decode cX8_digest 33 = .ok (.ladd, 1) := by decide +kernel
theorem dX8_digest_34 : decode cX8_digest 34 = .ok (.lstore_n 1, 1) := by decide +kernel
theorem dX8_digest_35 : decode cX8_digest 35 = .ok (.iinc 3 1, 3) := by decide +kernel
theorem dX8_digest_38 : decode cX8_digest 38 = .ok (.goto (-32), 3) := by decide +kernel
theorem dX8_digest_41 : decode cX8_digest 41 = .ok (.iconst 0, 1) := by decide +kernel
theorem dX8_digest_42 : decode cX8_digest 42 = .ok (.istore_n 3, 1) := by decide +kernel
theorem dX8_digest_43 : decode cX8_digest 43 = .ok (.iload_n 3, 1) := by decide +kernel
theorem dX8_digest_44 : decode cX8_digest 44 = .ok (.bipush 8, 2) := by decide +kernel
theorem dX8_digest_46 : decode cX8_digest 46 = .ok (.if_icmp .ge 39, 3) := by decide +kernel
theorem dX8_digest_49 : decode cX8_digest 49 = .ok (.ldc2_w 85, 3) := by decide +kernel
theorem dX8_digest_52 : decode cX8_digest 52 = .ok (.lload_n 1, 1) := by decide +kernel
theorem dX8_digest_53 : decode cX8_digest 53 = .ok (.lmul, 1) := by decide +kernel
theorem dX8_digest_54 : decode cX8_digest 54 = .ok (.aload_n 0, 1) := by decide +kernel
theorem dX8_digest_55 : decode cX8_digest 55 = .ok (.iload_n 3, 1) := by decide +kernel
theorem dX8_digest_56 : decode cX8_digest 56 = .ok (.invokevirtual 96, 3) := by decide +kernel
theorem dX8_digest_59 : decode cX8_digest 59 = .ok (.i2l, 1) := by decide +kernel
theorem dX8_digest_60 : decode cX8_digest 60 = .ok (.ladd, 1) := by decide +kernel
theorem dX8_digest_61 : decode cX8_digest 61 = .ok (.lstore_n 1, 1) := by decide +kernel
theorem dX8_digest_62 : decode cX8_digest 62 = .ok (.aload_n 0, 1) := by decide +kernel
theorem dX8_digest_63 : decode cX8_digest 63 = .ok (.iload_n 3, 1) := by decide +kernel
theorem dX8_digest_64 : decode cX8_digest 64 = .ok (.invokevirtual 146, 3) := by decide +kernel
theorem dX8_digest_67 : decode cX8_digest 67 = .ok (.ldc2_w 85, 3) := by decide +kernel
theorem dX8_digest_70 : decode cX8_digest 70 = .ok (.lload_n 1, 1) := by decide +kernel
theorem dX8_digest_71 : decode cX8_digest 71 = .ok (.lmul, 1) := by decide +kernel
theorem dX8_digest_72 : decode cX8_digest 72 = .ok (.aload_n 0, 1) := by decide +kernel
theorem dX8_digest_73 : decode cX8_digest 73 = .ok (.getfield 140, 3) := by decide +kernel
theorem dX8_digest_76 : decode cX8_digest 76 = .ok (.i2l, 1) := by decide +kernel
theorem dX8_digest_77 : decode cX8_digest 77 = .ok (.ladd, 1) := by decide +kernel
theorem dX8_digest_78 : decode cX8_digest 78 = .ok (.lstore_n 1, 1) := by decide +kernel
theorem dX8_digest_79 : decode cX8_digest 79 = .ok (.iinc 3 1, 3) := by decide +kernel
theorem dX8_digest_82 : decode cX8_digest 82 = .ok (.goto (-39), 3) := by decide +kernel
theorem dX8_digest_85 : decode cX8_digest 85 = .ok (.iconst 0, 1) := by decide +kernel
theorem dX8_digest_86 : decode cX8_digest 86 = .ok (.istore_n 3, 1) := by decide +kernel
theorem dX8_digest_87 : decode cX8_digest 87 = .ok (.iload_n 3, 1) := by decide +kernel
theorem dX8_digest_88 : decode cX8_digest 88 = .ok (.bipush 6, 2) := by decide +kernel
theorem dX8_digest_90 : decode cX8_digest 90 = .ok (.aload_n 0, 1) := by decide +kernel
theorem dX8_digest_91 : decode cX8_digest 91 = .ok (.getfield 155, 3) := by decide +kernel
theorem dX8_digest_94 : decode cX8_digest 94 = .ok (.imul, 1) := by decide +kernel
theorem dX8_digest_95 : decode cX8_digest 95 = .ok (.if_icmp .ge 23, 3) := by decide +kernel
theorem dX8_digest_98 : decode cX8_digest 98 = .ok (.ldc2_w 85, 3) := by decide +kernel
theorem dX8_digest_101 : decode cX8_digest 101 = .ok (.lload_n 1, 1) := by decide +kernel
theorem dX8_digest_102 : decode cX8_digest 102 = .ok (.lmul, 1) := by decide +kernel
theorem dX8_digest_103 : decode cX8_digest 103 = .ok (.aload_n 0, 1) := by decide +kernel
theorem dX8_digest_104 : decode cX8_digest 104 = .ok (.getfield 44, 3) := by decide +kernel
theorem dX8_digest_107 : decode cX8_digest 107 = .ok (.iload_n 3, 1) := by decide +kernel
theorem dX8_digest_108 : decode cX8_digest 108 = .ok (.iaload, 1) := by decide +kernel
theorem dX8_digest_109 : decode cX8_digest 109 = .ok (.i2l, 1) := by decide +kernel
theorem dX8_digest_110 : decode cX8_digest 110 = .ok (.ladd, 1) := by decide +kernel
theorem dX8_digest_111 : decode cX8_digest 111 = .ok (.lstore_n 1, 1) := by decide +kernel
theorem dX8_digest_112 : decode cX8_digest 112 = .ok (.iinc 3 1, 3) := by decide +kernel
theorem dX8_digest_115 : decode cX8_digest 115 = .ok (.goto (-28), 3) := by decide +kernel
theorem dX8_digest_118 : decode cX8_digest 118 = .ok (.iconst 0, 1) := by decide +kernel
theorem dX8_digest_119 : decode cX8_digest 119 = .ok (.istore_n 3, 1) := by decide +kernel
theorem dX8_digest_120 : decode cX8_digest 120 = .ok (.iload_n 3, 1) := by decide +kernel
theorem dX8_digest_121 : decode cX8_digest 121 = .ok (.bipush 52, 2) := by decide +kernel
theorem dX8_digest_123 : decode cX8_digest 123 = .ok (.if_icmp .ge 22, 3) := by decide +kernel
theorem dX8_digest_126 : decode cX8_digest 126 = .ok (.ldc2_w 85, 3) := by decide +kernel
theorem dX8_digest_129 : decode cX8_digest 129 = .ok (.lload_n 1, 1) := by decide +kernel
theorem dX8_digest_130 : decode cX8_digest 130 = .ok (.lmul, 1) := by decide +kernel
theorem dX8_digest_131 : decode cX8_digest 131 = .ok (.aload_n 0, 1) := by decide +kernel
theorem dX8_digest_132 : decode cX8_digest 132 = .ok (.iload_n 3, 1) := by decide +kernel
theorem dX8_digest_133 : decode cX8_digest 133 = .ok (.invokevirtual 174, 3) := by decide +kernel
theorem dX8_digest_136 : decode cX8_digest 136 = .ok (.i2l, 1) := by decide +kernel
theorem dX8_digest_137 : decode cX8_digest 137 = .ok (.ladd, 1) := by decide +kernel
theorem dX8_digest_138 : decode cX8_digest 138 = .ok (.lstore_n 1, 1) := by decide +kernel
theorem dX8_digest_139 : decode cX8_digest 139 = .ok (.iinc 3 1, 3) := by decide +kernel
theorem dX8_digest_142 : decode cX8_digest 142 = .ok (.goto (-22), 3) := by decide +kernel
theorem dX8_digest_145 : decode cX8_digest 145 = .ok (.iconst 0, 1) := by decide +kernel
theorem dX8_digest_146 : decode cX8_digest 146 = .ok (.istore_n 3, 1) := by decide +kernel
theorem dX8_digest_147 : decode cX8_digest 147 = .ok (.iload_n 3, 1) := by decide +kernel
theorem dX8_digest_148 : decode cX8_digest 148 = .ok (.iconst 4, 1) := by decide +kernel
theorem dX8_digest_149 : decode cX8_digest 149 = .ok (.if_icmp .ge 23, 3) := by decide +kernel
theorem dX8_digest_152 : decode cX8_digest 152 = .ok (.ldc2_w 85, 3) := by decide +kernel
theorem dX8_digest_155 : decode cX8_digest 155 = .ok (.lload_n 1, 1) := by decide +kernel
theorem dX8_digest_156 : decode cX8_digest 156 = .ok (.lmul, 1) := by decide +kernel
theorem dX8_digest_157 : decode cX8_digest 157 = .ok (.aload_n 0, 1) := by decide +kernel
theorem dX8_digest_158 : decode cX8_digest 158 = .ok (.getfield 7, 3) := by decide +kernel
theorem dX8_digest_161 : decode cX8_digest 161 = .ok (.iload_n 3, 1) := by decide +kernel
theorem dX8_digest_162 : decode cX8_digest 162 = .ok (.iaload, 1) := by decide +kernel
theorem dX8_digest_163 : decode cX8_digest 163 = .ok (.i2l, 1) := by decide +kernel
theorem dX8_digest_164 : decode cX8_digest 164 = .ok (.ladd, 1) := by decide +kernel
theorem dX8_digest_165 : decode cX8_digest 165 = .ok (.lstore_n 1, 1) := by decide +kernel
theorem dX8_digest_166 : decode cX8_digest 166 = .ok (.iinc 3 1, 3) := by decide +kernel
theorem dX8_digest_169 : decode cX8_digest 169 = .ok (.goto (-22), 3) := by decide +kernel
theorem dX8_digest_172 : decode cX8_digest 172 = .ok (.lload_n 1, 1) := by decide +kernel
theorem dX8_digest_173 : decode cX8_digest 173 = .ok (.lreturn, 1) := by decide +kernel
theorem dJ9_max_7cf53_0 : decode cJ9_max_7cf53 0 = .ok (.iload_n 0, 1) := by decide +kernel
theorem dJ9_max_7cf53_1 : decode cJ9_max_7cf53 1 = .ok (.iload_n 1, 1) := by decide +kernel
theorem dJ9_max_7cf53_2 : decode cJ9_max_7cf53 2 = .ok (.if_icmp .lt 7, 3) := by decide +kernel
theorem dJ9_max_7cf53_5 : decode cJ9_max_7cf53 5 = .ok (.iload_n 0, 1) := by decide +kernel
theorem dJ9_max_7cf53_6 : decode cJ9_max_7cf53 6 = .ok (.goto 4, 3) := by decide +kernel
theorem dJ9_max_7cf53_9 : decode cJ9_max_7cf53 9 = .ok (.iload_n 1, 1) := by decide +kernel
theorem dJ9_max_7cf53_10 : decode cJ9_max_7cf53 10 = .ok (.ireturn, 1) := by decide +kernel
theorem dJ9_max_f86c9_0 : decode cJ9_max_f86c9 0 = .ok (.lload_n 0, 1) := by decide +kernel
theorem dJ9_max_f86c9_1 : decode cJ9_max_f86c9 1 = .ok (.lload_n 2, 1) := by decide +kernel
theorem dJ9_max_f86c9_2 : decode cJ9_max_f86c9 2 = .ok (.lcmp, 1) := by decide +kernel
theorem dJ9_max_f86c9_3 : decode cJ9_max_f86c9 3 = .ok (.ifCond .lt 7, 3) := by decide +kernel
theorem dJ9_max_f86c9_6 : decode cJ9_max_f86c9 6 = .ok (.lload_n 0, 1) := by decide +kernel
theorem dJ9_max_f86c9_7 : decode cJ9_max_f86c9 7 = .ok (.goto 4, 3) := by decide +kernel
theorem dJ9_max_f86c9_10 : decode cJ9_max_f86c9 10 = .ok (.lload_n 2, 1) := by decide +kernel
theorem dJ9_max_f86c9_11 : decode cJ9_max_f86c9 11 = .ok (.lreturn, 1) := by decide +kernel
theorem dJ9_min_7cf53_0 : decode cJ9_min_7cf53 0 = .ok (.iload_n 0, 1) := by decide +kernel
theorem dJ9_min_7cf53_1 : decode cJ9_min_7cf53 1 = .ok (.iload_n 1, 1) := by decide +kernel
theorem dJ9_min_7cf53_2 : decode cJ9_min_7cf53 2 = .ok (.if_icmp .gt 7, 3) := by decide +kernel
theorem dJ9_min_7cf53_5 : decode cJ9_min_7cf53 5 = .ok (.iload_n 0, 1) := by decide +kernel
theorem dJ9_min_7cf53_6 : decode cJ9_min_7cf53 6 = .ok (.goto 4, 3) := by decide +kernel
theorem dJ9_min_7cf53_9 : decode cJ9_min_7cf53 9 = .ok (.iload_n 1, 1) := by decide +kernel
theorem dJ9_min_7cf53_10 : decode cJ9_min_7cf53 10 = .ok (.ireturn, 1) := by decide +kernel
theorem dJ9_min_f86c9_0 : decode cJ9_min_f86c9 0 = .ok (.lload_n 0, 1) := by decide +kernel
theorem dJ9_min_f86c9_1 : decode cJ9_min_f86c9 1 = .ok (.lload_n 2, 1) := by decide +kernel
theorem dJ9_min_f86c9_2 : decode cJ9_min_f86c9 2 = .ok (.lcmp, 1) := by decide +kernel
theorem dJ9_min_f86c9_3 : decode cJ9_min_f86c9 3 = .ok (.ifCond .gt 7, 3) := by decide +kernel
theorem dJ9_min_f86c9_6 : decode cJ9_min_f86c9 6 = .ok (.lload_n 0, 1) := by decide +kernel
theorem dJ9_min_f86c9_7 : decode cJ9_min_f86c9 7 = .ok (.goto 4, 3) := by decide +kernel
theorem dJ9_min_f86c9_10 : decode cJ9_min_f86c9 10 = .ok (.lload_n 2, 1) := by decide +kernel
theorem dJ9_min_f86c9_11 : decode cJ9_min_f86c9 11 = .ok (.lreturn, 1) := by decide +kernel
theorem dJ7_fill_53178_0 : decode cJ7_fill_53178 0 = .ok (.iconst 0, 1) := by decide +kernel
theorem dJ7_fill_53178_1 : decode cJ7_fill_53178 1 = .ok (.istore_n 2, 1) := by decide +kernel
theorem dJ7_fill_53178_2 : decode cJ7_fill_53178 2 = .ok (.aload_n 0, 1) := by decide +kernel
theorem dJ7_fill_53178_3 : decode cJ7_fill_53178 3 = .ok (.arraylength, 1) := by decide +kernel
theorem dJ7_fill_53178_4 : decode cJ7_fill_53178 4 = .ok (.istore_n 3, 1) := by decide +kernel
theorem dJ7_fill_53178_5 : decode cJ7_fill_53178 5 = .ok (.iload_n 2, 1) := by decide +kernel
theorem dJ7_fill_53178_6 : decode cJ7_fill_53178 6 = .ok (.iload_n 3, 1) := by decide +kernel
theorem dJ7_fill_53178_7 : decode cJ7_fill_53178 7 = .ok (.if_icmp .ge 13, 3) := by decide +kernel
theorem dJ7_fill_53178_10 : decode cJ7_fill_53178 10 = .ok (.aload_n 0, 1) := by decide +kernel
theorem dJ7_fill_53178_11 : decode cJ7_fill_53178 11 = .ok (.iload_n 2, 1) := by decide +kernel
theorem dJ7_fill_53178_12 : decode cJ7_fill_53178 12 = .ok (.iload_n 1, 1) := by decide +kernel
theorem dJ7_fill_53178_13 : decode cJ7_fill_53178 13 = .ok (.iastore, 1) := by decide +kernel
theorem dJ7_fill_53178_14 : decode cJ7_fill_53178 14 = .ok (.iinc 2 1, 3) := by decide +kernel
theorem dJ7_fill_53178_17 : decode cJ7_fill_53178 17 = .ok (.goto (-12), 3) := by decide +kernel
theorem dJ7_fill_53178_20 : decode cJ7_fill_53178 20 = .ok (.return_, 1) := by decide +kernel
set_option maxRecDepth 20000 in
theorem ggL_law_X7_init : GoodIn wsL_law wsX7_init := goodIn_r _ [8, 9, 10, 11, 12, 13, 14, 15, 16, 17, 18, 19, 20, 21, 22, 23, 24, 25, 26, 27, 28, 29, 30, 31, 32, 33, 34, 35, 36, 37, 38, 39, 40, 41, 42, 43, 44, 45, 46, 47, 48, 49, 50, 51, 52, 53, 54, 55, 56, 57, 58, 59, 60, 61, 62, 63, 64, 65, 66, 67, 68, 69, 70, 744, 745, 746, 747, 748, 749, 750, 751, 752, 753, 754, 783, 784, 785, 786, 787, 788, 789, 790, 791, 792, 793, 794, 795, 796, 797, 798, 799] (by decide +kernel) (by decide +kernel)
set_option maxRecDepth 20000 in
theorem gL_law_X7_init : GoodIn wsL_law (wsX7_init) := ggL_law_X7_init
set_option maxRecDepth 20000 in
theorem ggL_law_X8_init : GoodIn wsL_law wsX8_init := goodIn_r _ [73, 74, 10, 11, 23, 75, 76, 77, 78, 79, 80, 81, 82, 83, 84, 85, 86, 29, 87, 88, 89, 90, 91, 92, 755, 756, 757, 758, 759, 760, 761, 762, 763, 764, 765, 766, 767, 768, 769, 770, 771, 772, 773, 774, 775, 776, 777, 778, 779, 780, 781, 782] (by decide +kernel) (by decide +kernel)
set_option maxRecDepth 20000 in
theorem gL_law_X8_init : GoodIn wsL_law (wsX8_init) := ggL_law_X8_init
set_option maxRecDepth 20000 in
theorem ggL_law_X7_letter : GoodIn wsL_law wsX7_letter := goodIn_r _ [96, 14, 13, 12, 97, 98, 99, 100, 2, 101, 102, 103, 104, 105, 10, 11, 106, 107, 108, 23, 109, 744, 745, 746, 747, 748, 749, 750, 751, 752, 753, 754, 800, 801, 802, 803] (by decide +kernel) (by decide +kernel)
set_option maxRecDepth 20000 in
theorem gL_law_X7_letter : GoodIn wsL_law (wsV RL 13 RX7 yX7_letter wsX7_letter) := goodIn_app (goodIn_of _ (by decide +kernel)) ggL_law_X7_letter
set_option maxRecDepth 20000 in
theorem ggL_law_X8_letter : GoodIn wsL_law wsX8_letter := goodIn_r _ [113, 114, 115, 116, 117, 76, 77, 78, 118, 119, 5, 120, 755, 756, 757, 758, 759, 760, 761, 762, 763, 764, 765, 766, 767, 768, 769, 770, 771, 772, 773, 774, 775, 776, 777, 778, 779, 780, 781, 782] (by decide +kernel) (by decide +kernel)
set_option maxRecDepth 20000 in
theorem gL_law_X8_letter : GoodIn wsL_law (wsV RL 17 RX8 yX8_letter wsX8_letter) := goodIn_app (goodIn_of _ (by decide +kernel)) ggL_law_X8_letter
set_option maxRecDepth 20000 in
theorem ggL_law_X7_strip : GoodIn wsL_law wsX7_strip := goodIn_r _ [124, 125, 126, 127, 128, 2, 129, 14, 13, 99, 100, 101, 130, 131, 132, 98, 133, 106, 800, 801, 802, 803, 744, 745, 746, 747, 748, 749, 750, 751, 752, 753, 754] (by decide +kernel) (by decide +kernel)
set_option maxRecDepth 20000 in
theorem gL_law_X7_strip : GoodIn wsL_law (wsV RL 18 RX7 yX7_strip wsX7_strip) := goodIn_app (goodIn_of _ (by decide +kernel)) ggL_law_X7_strip
set_option maxRecDepth 20000 in
theorem ggL_law_X8_strip : GoodIn wsL_law wsX8_strip := goodIn_r _ [137, 76, 138, 79, 139, 140, 141, 5, 142, 117, 118, 119, 120, 755, 756, 757, 758, 759, 760, 761, 762, 763, 764, 765, 766, 767, 768, 769, 770, 771, 772, 773, 774, 775, 776, 777, 778, 779, 780, 781, 782] (by decide +kernel) (by decide +kernel)
set_option maxRecDepth 20000 in
theorem gL_law_X8_strip : GoodIn wsL_law (wsV RL 21 RX8 yX8_strip wsX8_strip) := goodIn_app (goodIn_of _ (by decide +kernel)) ggL_law_X8_strip
set_option maxRecDepth 20000 in
theorem ggL_law_X7_about : GoodIn wsL_law wsX7_about := goodIn_r _ [146, 147, 148, 149, 125, 126, 127, 128, 2, 129, 14, 13, 99, 100, 101, 130, 131, 132, 98, 133, 106, 800, 801, 802, 803, 744, 745, 746, 747, 748, 749, 750, 751, 752, 753, 754] (by decide +kernel) (by decide +kernel)
set_option maxRecDepth 20000 in
theorem gL_law_X7_about : GoodIn wsL_law (wsV RL 22 RX7 yX7_about wsX7_about) := goodIn_app (goodIn_of _ (by decide +kernel)) ggL_law_X7_about
set_option maxRecDepth 20000 in
theorem ggL_law_X8_about : GoodIn wsL_law wsX8_about := goodIn_r _ [153, 76, 77, 78, 154, 79, 139, 140, 141, 5, 142, 117, 118, 119, 120, 755, 756, 757, 758, 759, 760, 761, 762, 763, 764, 765, 766, 767, 768, 769, 770, 771, 772, 773, 774, 775, 776, 777, 778, 779, 780, 781, 782] (by decide +kernel) (by decide +kernel)
set_option maxRecDepth 20000 in
theorem gL_law_X8_about : GoodIn wsL_law (wsV RL 26 RX8 yX8_about wsX8_about) := goodIn_app (goodIn_of _ (by decide +kernel)) ggL_law_X8_about
set_option maxRecDepth 20000 in
theorem ggL_law_X7_spell : GoodIn wsL_law wsX7_spell := goodIn_r _ [158, 159, 160, 161, 162, 2, 163, 16, 99, 100, 101, 126, 127, 128, 129, 14, 13, 164, 165, 166, 18, 167, 46, 45, 783, 784, 744, 745, 746, 747, 748, 749, 750, 751, 752, 753, 754] (by decide +kernel) (by decide +kernel)
set_option maxRecDepth 20000 in
theorem gL_law_X7_spell : GoodIn wsL_law (wsV RL 27 RX7 yX7_spell wsX7_spell) := goodIn_app (goodIn_of _ (by decide +kernel)) ggL_law_X7_spell
set_option maxRecDepth 20000 in
theorem ggL_law_X8_spell : GoodIn wsL_law wsX8_spell := goodIn_r _ [171, 80, 81, 172, 173, 5, 174, 175, 118, 119, 120, 139, 140, 141, 142, 117, 755, 756, 757, 758, 759, 760, 761, 762, 763, 764, 765, 766, 767, 768, 769, 770, 771, 772, 773, 774, 775, 776, 777, 778, 779, 780, 781, 782] (by decide +kernel) (by decide +kernel)
set_option maxRecDepth 20000 in
theorem gL_law_X8_spell : GoodIn wsL_law (wsV RL 30 RX8 yX8_spell wsX8_spell) := goodIn_app (goodIn_of _ (by decide +kernel)) ggL_law_X8_spell
set_option maxRecDepth 20000 in
theorem ggL_law_X7_wipe : GoodIn wsL_law wsX7_wipe := goodIn_r _ [179, 159, 160, 161, 162, 2, 163, 16, 99, 100, 101, 783, 784, 744, 745, 746, 747, 748, 749, 750, 751, 752, 753, 754] (by decide +kernel) (by decide +kernel)
set_option maxRecDepth 20000 in
theorem gL_law_X7_wipe : GoodIn wsL_law (wsV RL 31 RX7 yX7_wipe wsX7_wipe) := goodIn_app (goodIn_of _ (by decide +kernel)) ggL_law_X7_wipe
set_option maxRecDepth 20000 in
theorem ggL_law_X8_wipe : GoodIn wsL_law wsX8_wipe := goodIn_r _ [183, 80, 172, 173, 5, 174, 175, 118, 119, 120, 755, 756, 757, 758, 759, 760, 761, 762, 763, 764, 765, 766, 767, 768, 769, 770, 771, 772, 773, 774, 775, 776, 777, 778, 779, 780, 781, 782] (by decide +kernel) (by decide +kernel)
set_option maxRecDepth 20000 in
theorem gL_law_X8_wipe : GoodIn wsL_law (wsV RL 35 RX8 yX8_wipe wsX8_wipe) := goodIn_app (goodIn_of _ (by decide +kernel)) ggL_law_X8_wipe
set_option maxRecDepth 20000 in
theorem ggL_law_X7_slots : GoodIn wsL_law wsX7_slots := goodIn_r _ [187, 22, 188, 99, 100, 2, 101, 744, 745, 746, 747, 748, 749, 750, 751, 752, 753, 754, 785, 786, 787] (by decide +kernel) (by decide +kernel)
set_option maxRecDepth 20000 in
theorem gL_law_X7_slots : GoodIn wsL_law (wsV RL 36 RX7 yX7_slots wsX7_slots) := goodIn_app (goodIn_of _ (by decide +kernel)) ggL_law_X7_slots
set_option maxRecDepth 20000 in
theorem ggL_law_X8_slots : GoodIn wsL_law wsX8_slots := goodIn_r _ [192, 114, 193, 82, 118, 119, 5, 120, 755, 756, 757, 758, 759, 760, 761, 762, 763, 764, 765, 766, 767, 768, 769, 770, 771, 772, 773, 774, 775, 776, 777, 778, 779, 780, 781, 782] (by decide +kernel) (by decide +kernel)
set_option maxRecDepth 20000 in
theorem gL_law_X8_slots : GoodIn wsL_law (wsV RL 39 RX8 yX8_slots wsX8_slots) := goodIn_app (goodIn_of _ (by decide +kernel)) ggL_law_X8_slots
set_option maxRecDepth 20000 in
theorem ggL_law_X7_gap : GoodIn wsL_law wsX7_gap := goodIn_r _ [197, 22, 198, 99, 100, 2, 101, 744, 745, 746, 747, 748, 749, 750, 751, 752, 753, 754, 785, 786, 787] (by decide +kernel) (by decide +kernel)
set_option maxRecDepth 20000 in
theorem gL_law_X7_gap : GoodIn wsL_law (wsV RL 40 RX7 yX7_gap wsX7_gap) := goodIn_app (goodIn_of _ (by decide +kernel)) ggL_law_X7_gap
set_option maxRecDepth 20000 in
theorem ggL_law_X8_gap : GoodIn wsL_law wsX8_gap := goodIn_r _ [202, 203, 83, 118, 119, 5, 120, 755, 756, 757, 758, 759, 760, 761, 762, 763, 764, 765, 766, 767, 768, 769, 770, 771, 772, 773, 774, 775, 776, 777, 778, 779, 780, 781, 782] (by decide +kernel) (by decide +kernel)
set_option maxRecDepth 20000 in
theorem gL_law_X8_gap : GoodIn wsL_law (wsV RL 43 RX8 yX8_gap wsX8_gap) := goodIn_app (goodIn_of _ (by decide +kernel)) ggL_law_X8_gap
set_option maxRecDepth 20000 in
theorem ggL_law_X7_wide : GoodIn wsL_law wsX7_wide := goodIn_r _ [207, 22, 160, 161, 162, 2, 163, 16, 99, 100, 101, 208, 209, 210, 21, 211, 212, 213, 214, 52, 744, 745, 746, 747, 748, 749, 750, 751, 752, 753, 754, 783, 784, 800, 801, 802, 803, 785, 786, 787] (by decide +kernel) (by decide +kernel)
set_option maxRecDepth 20000 in
theorem gL_law_X7_wide : GoodIn wsL_law (wsV RL 44 RX7 yX7_wide wsX7_wide) := goodIn_app (goodIn_of _ (by decide +kernel)) ggL_law_X7_wide
set_option maxRecDepth 20000 in
theorem ggL_law_X8_wide : GoodIn wsL_law wsX8_wide := goodIn_r _ [218, 172, 173, 5, 174, 175, 118, 119, 120, 219, 220, 221, 222, 80, 76, 81, 83, 755, 756, 757, 758, 759, 760, 761, 762, 763, 764, 765, 766, 767, 768, 769, 770, 771, 772, 773, 774, 775, 776, 777, 778, 779, 780, 781, 782] (by decide +kernel) (by decide +kernel)
set_option maxRecDepth 20000 in
theorem gL_law_X8_wide : GoodIn wsL_law (wsV RL 47 RX8 yX8_wide wsX8_wide) := goodIn_app (goodIn_of _ (by decide +kernel)) ggL_law_X8_wide
set_option maxRecDepth 20000 in
theorem ggL_law_X7_longest : GoodIn wsL_law wsX7_longest := goodIn_r _ [226, 22, 16, 227, 228, 229, 21, 230, 212, 51, 231, 209, 210, 211, 213, 214, 52, 232, 233, 234, 2, 235, 159, 208, 744, 745, 746, 747, 748, 749, 750, 751, 752, 753, 754, 783, 784, 785, 786, 787, 800, 801, 802, 803] (by decide +kernel) (by decide +kernel)
set_option maxRecDepth 20000 in
theorem gL_law_X7_longest : GoodIn wsL_law (wsV RL 48 RX7 yX7_longest wsX7_longest) := goodIn_app (goodIn_of _ (by decide +kernel)) ggL_law_X7_longest
set_option maxRecDepth 20000 in
theorem ggL_law_X8_longest : GoodIn wsL_law wsX8_longest := goodIn_r _ [239, 80, 240, 241, 242, 5, 243, 82, 219, 220, 221, 222, 76, 81, 83, 755, 756, 757, 758, 759, 760, 761, 762, 763, 764, 765, 766, 767, 768, 769, 770, 771, 772, 773, 774, 775, 776, 777, 778, 779, 780, 781, 782] (by decide +kernel) (by decide +kernel)
set_option maxRecDepth 20000 in
theorem gL_law_X8_longest : GoodIn wsL_law (wsV RL 52 RX8 yX8_longest wsX8_longest) := goodIn_app (goodIn_of _ (by decide +kernel)) ggL_law_X8_longest
set_option maxRecDepth 20000 in
theorem ggL_law_X7_cut : GoodIn wsL_law wsX7_cut := goodIn_r _ [247, 22, 188, 160, 161, 162, 2, 163, 16, 99, 100, 101, 227, 228, 229, 21, 230, 212, 51, 231, 209, 210, 211, 213, 214, 52, 248, 249, 250, 251, 50, 252, 253, 254, 255, 256, 257, 258, 259, 260, 261, 262, 263, 264, 265, 266, 267, 744, 745, 746, 747, 748, 749, 750, 751, 752, 753, 754, 785, 786, 787, 783, 784, 800, 801, 802, 803] (by decide +kernel) (by decide +kernel)
set_option maxRecDepth 20000 in
theorem gL_law_X7_cut : GoodIn wsL_law (wsV RL 53 RX7 yX7_cut wsX7_cut) := goodIn_app (goodIn_of _ (by decide +kernel)) ggL_law_X7_cut
set_option maxRecDepth 20000 in
theorem ggL_law_X8_cut : GoodIn wsL_law wsX8_cut := goodIn_r _ [271, 82, 203, 172, 173, 5, 174, 175, 118, 119, 120, 240, 241, 242, 243, 80, 219, 220, 221, 222, 76, 81, 83, 272, 273, 274, 275, 84, 79, 276, 277, 278, 279, 280, 281, 282, 755, 756, 757, 758, 759, 760, 761, 762, 763, 764, 765, 766, 767, 768, 769, 770, 771, 772, 773, 774, 775, 776, 777, 778, 779, 780, 781, 782] (by decide +kernel) (by decide +kernel)
set_option maxRecDepth 20000 in
theorem gL_law_X8_cut : GoodIn wsL_law (wsV RL 57 RX8 yX8_cut wsX8_cut) := goodIn_app (goodIn_of _ (by decide +kernel)) ggL_law_X8_cut
set_option maxRecDepth 20000 in
theorem ggL_law_X7_readings : GoodIn wsL_law wsX7_readings := goodIn_r _ [286, 37, 287, 288, 289, 2, 290, 291, 292, 293, 294, 99, 100, 101, 295, 296, 297, 298, 40, 299, 300, 301, 302, 22, 16, 227, 228, 229, 21, 230, 212, 51, 231, 209, 210, 211, 213, 214, 52, 248, 249, 250, 251, 50, 252, 253, 254, 255, 256, 303, 304, 305, 306, 307, 308, 309, 310, 311, 312, 313, 314, 315, 316, 317, 258, 259, 260, 261, 262, 263, 264, 265, 266, 267, 744, 745, 746, 747, 748, 749, 750, 751, 752, 753, 754, 796, 797, 798, 799, 783, 784, 785, 786, 787, 800, 801, 802, 803] (by decide +kernel) (by decide +kernel)
set_option maxRecDepth 20000 in
theorem gL_law_X7_readings : GoodIn wsL_law (wsV RL 58 RX7 yX7_readings wsX7_readings) := goodIn_app (goodIn_of _ (by decide +kernel)) ggL_law_X7_readings
set_option maxRecDepth 20000 in
theorem ggL_law_X8_readings : GoodIn wsL_law wsX8_readings := goodIn_r _ [321, 322, 323, 324, 325, 5, 326, 89, 327, 328, 329, 203, 118, 119, 120, 330, 331, 332, 333, 334, 335, 336, 337, 338, 339, 340, 82, 240, 241, 242, 243, 80, 219, 220, 221, 222, 76, 81, 83, 272, 273, 274, 275, 84, 79, 341, 342, 343, 344, 90, 91, 138, 276, 277, 278, 279, 280, 281, 282, 755, 756, 757, 758, 759, 760, 761, 762, 763, 764, 765, 766, 767, 768, 769, 770, 771, 772, 773, 774, 775, 776, 777, 778, 779, 780, 781, 782] (by decide +kernel) (by decide +kernel)
set_option maxRecDepth 20000 in
theorem gL_law_X8_readings : GoodIn wsL_law (wsV RL 61 RX8 yX8_readings wsX8_readings) := goodIn_app (goodIn_of _ (by decide +kernel)) ggL_law_X8_readings
set_option maxRecDepth 20000 in
theorem ggL_law_X7_reading : GoodIn wsL_law wsX7_reading := goodIn_r _ [348, 37, 22, 287, 288, 289, 2, 290, 291, 292, 293, 294, 99, 100, 101, 295, 296, 297, 298, 40, 299, 300, 301, 302, 16, 227, 228, 229, 21, 230, 212, 51, 231, 209, 210, 211, 213, 214, 52, 248, 249, 250, 251, 50, 252, 253, 254, 255, 256, 303, 304, 305, 306, 307, 308, 309, 310, 311, 312, 313, 314, 315, 316, 317, 258, 259, 260, 261, 262, 263, 264, 265, 266, 267, 349, 350, 351, 352, 744, 745, 746, 747, 748, 749, 750, 751, 752, 753, 754, 796, 797, 798, 799, 783, 784, 785, 786, 787, 800, 801, 802, 803] (by decide +kernel) (by decide +kernel)
set_option maxRecDepth 20000 in
theorem gL_law_X7_reading : GoodIn wsL_law (wsV RL 62 RX7 yX7_reading wsX7_reading) := goodIn_app (goodIn_of _ (by decide +kernel)) ggL_law_X7_reading
set_option maxRecDepth 20000 in
theorem ggL_law_X8_reading : GoodIn wsL_law wsX8_reading := goodIn_r _ [356, 339, 323, 324, 325, 5, 326, 89, 327, 328, 329, 203, 118, 119, 120, 330, 331, 332, 333, 334, 335, 336, 337, 338, 322, 340, 82, 240, 241, 242, 243, 80, 219, 220, 221, 222, 76, 81, 83, 272, 273, 274, 275, 84, 79, 341, 342, 343, 344, 90, 91, 138, 276, 277, 278, 279, 280, 281, 282, 755, 756, 757, 758, 759, 760, 761, 762, 763, 764, 765, 766, 767, 768, 769, 770, 771, 772, 773, 774, 775, 776, 777, 778, 779, 780, 781, 782] (by decide +kernel) (by decide +kernel)
set_option maxRecDepth 20000 in
theorem gL_law_X8_reading : GoodIn wsL_law (wsV RL 65 RX8 yX8_reading wsX8_reading) := goodIn_app (goodIn_of _ (by decide +kernel)) ggL_law_X8_reading
set_option maxRecDepth 20000 in
theorem ggL_law_X7_words : GoodIn wsL_law wsX7_words := goodIn_r _ [360, 37, 287, 288, 289, 2, 290, 291, 292, 293, 294, 99, 100, 101, 295, 296, 297, 298, 40, 299, 300, 301, 302, 22, 16, 227, 228, 229, 21, 230, 212, 51, 231, 209, 210, 211, 213, 214, 52, 248, 249, 250, 251, 50, 252, 253, 254, 255, 256, 303, 304, 305, 306, 307, 308, 309, 310, 311, 312, 313, 314, 315, 316, 317, 258, 259, 260, 261, 262, 263, 264, 265, 266, 267, 744, 745, 746, 747, 748, 749, 750, 751, 752, 753, 754, 796, 797, 798, 799, 783, 784, 785, 786, 787, 800, 801, 802, 803] (by decide +kernel) (by decide +kernel)
set_option maxRecDepth 20000 in
theorem gL_law_X7_words : GoodIn wsL_law (wsV RL 66 RX7 yX7_words wsX7_words) := goodIn_app (goodIn_of _ (by decide +kernel)) ggL_law_X7_words
set_option maxRecDepth 20000 in
theorem ggL_law_X8_words : GoodIn wsL_law wsX8_words := goodIn_r _ [364, 340, 323, 324, 325, 5, 326, 89, 327, 328, 329, 203, 118, 119, 120, 330, 331, 332, 333, 334, 335, 336, 337, 338, 339, 322, 82, 240, 241, 242, 243, 80, 219, 220, 221, 222, 76, 81, 83, 272, 273, 274, 275, 84, 79, 341, 342, 343, 344, 90, 91, 138, 276, 277, 278, 279, 280, 281, 282, 755, 756, 757, 758, 759, 760, 761, 762, 763, 764, 765, 766, 767, 768, 769, 770, 771, 772, 773, 774, 775, 776, 777, 778, 779, 780, 781, 782] (by decide +kernel) (by decide +kernel)
set_option maxRecDepth 20000 in
theorem gL_law_X8_words : GoodIn wsL_law (wsV RL 69 RX8 yX8_words wsX8_words) := goodIn_app (goodIn_of _ (by decide +kernel)) ggL_law_X8_words
set_option maxRecDepth 20000 in
theorem ggL_law_X7_order : GoodIn wsL_law wsX7_order := goodIn_r _ [368, 159, 160, 161, 162, 2, 163, 16, 99, 100, 101, 369, 370, 371, 18, 372, 46, 373, 374, 375, 376, 377, 378, 379, 380, 45, 381, 783, 784, 744, 745, 746, 747, 748, 749, 750, 751, 752, 753, 754, 800, 801, 802, 803] (by decide +kernel) (by decide +kernel)
set_option maxRecDepth 20000 in
theorem gL_law_X7_order : GoodIn wsL_law (wsV RL 70 RX7 yX7_order wsX7_order) := goodIn_app (goodIn_of _ (by decide +kernel)) ggL_law_X7_order
set_option maxRecDepth 20000 in
theorem ggL_law_X8_order : GoodIn wsL_law wsX8_order := goodIn_r _ [385, 80, 85, 172, 173, 5, 174, 175, 118, 119, 120, 386, 387, 388, 389, 78, 81, 390, 391, 77, 755, 756, 757, 758, 759, 760, 761, 762, 763, 764, 765, 766, 767, 768, 769, 770, 771, 772, 773, 774, 775, 776, 777, 778, 779, 780, 781, 782] (by decide +kernel) (by decide +kernel)
set_option maxRecDepth 20000 in
theorem gL_law_X8_order : GoodIn wsL_law (wsV RL 73 RX8 yX8_order wsX8_order) := goodIn_app (goodIn_of _ (by decide +kernel)) ggL_law_X8_order
set_option maxRecDepth 20000 in
theorem ggL_law_X7_late : GoodIn wsL_law wsX7_late := goodIn_r _ [395, 160, 161, 162, 2, 163, 16, 99, 100, 101, 396, 397, 398, 18, 399, 46, 400, 401, 314, 402, 403, 404, 405, 406, 45, 407, 381, 377, 378, 379, 380, 744, 745, 746, 747, 748, 749, 750, 751, 752, 753, 754, 783, 784, 800, 801, 802, 803] (by decide +kernel) (by decide +kernel)
set_option maxRecDepth 20000 in
theorem gL_law_X7_late : GoodIn wsL_law (wsV RL 74 RX7 yX7_late wsX7_late) := goodIn_app (goodIn_of _ (by decide +kernel)) ggL_law_X7_late
set_option maxRecDepth 20000 in
theorem ggL_law_X8_late : GoodIn wsL_law wsX8_late := goodIn_r _ [411, 390, 172, 173, 5, 174, 175, 118, 119, 120, 386, 387, 388, 389, 80, 78, 81, 85, 391, 77, 755, 756, 757, 758, 759, 760, 761, 762, 763, 764, 765, 766, 767, 768, 769, 770, 771, 772, 773, 774, 775, 776, 777, 778, 779, 780, 781, 782] (by decide +kernel) (by decide +kernel)
set_option maxRecDepth 20000 in
theorem gL_law_X8_late : GoodIn wsL_law (wsV RL 77 RX8 yX8_late wsX8_late) := goodIn_app (goodIn_of _ (by decide +kernel)) ggL_law_X8_late
set_option maxRecDepth 20000 in
theorem ggL_law_X7_spoiled : GoodIn wsL_law wsX7_spoiled := goodIn_r _ [415, 160, 161, 162, 2, 163, 16, 99, 100, 101, 416, 417, 418, 18, 419, 46, 403, 404, 405, 406, 45, 407, 381, 377, 378, 379, 380, 744, 745, 746, 747, 748, 749, 750, 751, 752, 753, 754, 783, 784, 800, 801, 802, 803] (by decide +kernel) (by decide +kernel)
set_option maxRecDepth 20000 in
theorem gL_law_X7_spoiled : GoodIn wsL_law (wsV RL 78 RX7 yX7_spoiled wsX7_spoiled) := goodIn_app (goodIn_of _ (by decide +kernel)) ggL_law_X7_spoiled
set_option maxRecDepth 20000 in
theorem ggL_law_X8_spoiled : GoodIn wsL_law wsX8_spoiled := goodIn_r _ [423, 391, 172, 173, 5, 174, 175, 118, 119, 120, 386, 387, 388, 389, 80, 78, 81, 85, 390, 77, 755, 756, 757, 758, 759, 760, 761, 762, 763, 764, 765, 766, 767, 768, 769, 770, 771, 772, 773, 774, 775, 776, 777, 778, 779, 780, 781, 782] (by decide +kernel) (by decide +kernel)
set_option maxRecDepth 20000 in
theorem gL_law_X8_spoiled : GoodIn wsL_law (wsV RL 81 RX8 yX8_spoiled wsX8_spoiled) := goodIn_app (goodIn_of _ (by decide +kernel)) ggL_law_X8_spoiled
set_option maxRecDepth 20000 in
theorem ggL_law_X7_set : GoodIn wsL_law wsX7_set := goodIn_r _ [427, 428, 429, 24, 99, 100, 2, 101, 744, 745, 746, 747, 748, 749, 750, 751, 752, 753, 754] (by decide +kernel) (by decide +kernel)
set_option maxRecDepth 20000 in
theorem gL_law_X7_set : GoodIn wsL_law (wsV RL 82 RX7 yX7_set wsX7_set) := goodIn_app (goodIn_of _ (by decide +kernel)) ggL_law_X7_set
set_option maxRecDepth 20000 in
theorem ggL_law_X8_set : GoodIn wsL_law wsX8_set := goodIn_r _ [433, 154, 434, 435, 436, 75, 118, 119, 5, 120, 755, 756, 757, 758, 759, 760, 761, 762, 763, 764, 765, 766, 767, 768, 769, 770, 771, 772, 773, 774, 775, 776, 777, 778, 779, 780, 781, 782] (by decide +kernel) (by decide +kernel)
set_option maxRecDepth 20000 in
theorem gL_law_X8_set : GoodIn wsL_law (wsV RL 85 RX8 yX8_set wsX8_set) := goodIn_app (goodIn_of _ (by decide +kernel)) ggL_law_X8_set
set_option maxRecDepth 20000 in
theorem ggL_law_X7_lump : GoodIn wsL_law wsX7_lump := goodIn_r _ [440, 28, 22, 24, 441, 442, 443, 444, 160, 161, 162, 2, 163, 16, 99, 100, 101, 445, 446, 447, 27, 448, 58, 57, 449, 227, 228, 229, 21, 230, 212, 51, 231, 209, 210, 211, 213, 214, 52, 450, 451, 452, 453, 454, 455, 456, 457, 458, 459, 460, 461, 10, 11, 462, 463, 464, 465, 466, 467, 468, 469, 470, 471, 59, 472, 60, 473, 474, 744, 745, 746, 747, 748, 749, 750, 751, 752, 753, 754, 804, 805, 806, 807, 808, 809, 788, 789, 790, 791, 783, 784, 785, 786, 787, 800, 801, 802, 803] (by decide +kernel) (by decide +kernel)
set_option maxRecDepth 20000 in
theorem gL_law_X7_lump : GoodIn wsL_law (wsV RL 86 RX7 yX7_lump wsX7_lump) := goodIn_app (goodIn_of _ (by decide +kernel)) ggL_law_X7_lump
set_option maxRecDepth 20000 in
theorem ggL_law_X8_lump : GoodIn wsL_law wsX8_lump := goodIn_r _ [478, 479, 86, 115, 480, 434, 75, 481, 482, 172, 173, 5, 174, 175, 118, 119, 120, 240, 241, 242, 243, 80, 82, 219, 220, 221, 222, 76, 81, 83, 755, 756, 757, 758, 759, 760, 761, 762, 763, 764, 765, 766, 767, 768, 769, 770, 771, 772, 773, 774, 775, 776, 777, 778, 779, 780, 781, 782] (by decide +kernel) (by decide +kernel)
set_option maxRecDepth 20000 in
theorem gL_law_X8_lump : GoodIn wsL_law (wsV RL 89 RX8 yX8_lump wsX8_lump) := goodIn_app (goodIn_of _ (by decide +kernel)) ggL_law_X8_lump
set_option maxRecDepth 20000 in
theorem ggL_law_X7_made : GoodIn wsL_law wsX7_made := goodIn_r _ [486, 28, 487, 488, 489, 490, 491, 492, 493, 494, 495, 27, 496, 58, 57, 100, 2, 101, 744, 745, 746, 747, 748, 749, 750, 751, 752, 753, 754, 804, 805, 806, 807, 808, 809, 788, 789, 790, 791] (by decide +kernel) (by decide +kernel)
set_option maxRecDepth 20000 in
theorem gL_law_X7_made : GoodIn wsL_law (wsV RL 90 RX7 yX7_made wsX7_made) := goodIn_app (goodIn_of _ (by decide +kernel)) ggL_law_X7_made
set_option maxRecDepth 20000 in
theorem ggL_law_X8_made : GoodIn wsL_law wsX8_made := goodIn_r _ [500, 479, 114, 86, 118, 119, 5, 120, 755, 756, 757, 758, 759, 760, 761, 762, 763, 764, 765, 766, 767, 768, 769, 770, 771, 772, 773, 774, 775, 776, 777, 778, 779, 780, 781, 782] (by decide +kernel) (by decide +kernel)
set_option maxRecDepth 20000 in
theorem gL_law_X8_made : GoodIn wsL_law (wsV RL 93 RX8 yX8_made wsX8_made) := goodIn_app (goodIn_of _ (by decide +kernel)) ggL_law_X8_made
end
section
set_option maxRecDepth 20000 in
theorem ggL_law_X7_trace : GoodIn wsL_law wsX7_trace := goodIn_r _ [504, 28, 505, 506, 507, 27, 508, 58, 57, 509, 510, 511, 443, 512, 465, 466, 744, 745, 746, 747, 748, 749, 750, 751, 752, 753, 754, 788, 789, 790, 791, 804, 805, 806, 807, 808, 809] (by decide +kernel) (by decide +kernel)
set_option maxRecDepth 20000 in
theorem gL_law_X7_trace : GoodIn wsL_law (wsV RL 94 RX7 yX7_trace wsX7_trace) := goodIn_app (goodIn_of _ (by decide +kernel)) ggL_law_X7_trace
set_option maxRecDepth 20000 in
theorem ggL_law_X8_trace : GoodIn wsL_law wsX8_trace := goodIn_r _ [516, 479, 86, 118, 119, 5, 120, 755, 756, 757, 758, 759, 760, 761, 762, 763, 764, 765, 766, 767, 768, 769, 770, 771, 772, 773, 774, 775, 776, 777, 778, 779, 780, 781, 782] (by decide +kernel) (by decide +kernel)
set_option maxRecDepth 20000 in
theorem gL_law_X8_trace : GoodIn wsL_law (wsV RL 97 RX8 yX8_trace wsX8_trace) := goodIn_app (goodIn_of _ (by decide +kernel)) ggL_law_X8_trace
set_option maxRecDepth 20000 in
theorem ggL_law_X7_recall : GoodIn wsL_law wsX7_recall := goodIn_r _ [520, 28, 99, 100, 2, 101, 521, 522, 523, 524, 525, 526, 27, 527, 58, 57, 472, 528, 529, 530, 443, 531, 463, 464, 744, 745, 746, 747, 748, 749, 750, 751, 752, 753, 754, 788, 789, 790, 791, 804, 805, 806, 807, 808, 809] (by decide +kernel) (by decide +kernel)
set_option maxRecDepth 20000 in
theorem gL_law_X7_recall : GoodIn wsL_law (wsV RL 98 RX7 yX7_recall wsX7_recall) := goodIn_app (goodIn_of _ (by decide +kernel)) ggL_law_X7_recall
set_option maxRecDepth 20000 in
theorem ggL_law_X8_recall : GoodIn wsL_law wsX8_recall := goodIn_r _ [535, 536, 115, 480, 479, 86, 118, 119, 5, 120, 755, 756, 757, 758, 759, 760, 761, 762, 763, 764, 765, 766, 767, 768, 769, 770, 771, 772, 773, 774, 775, 776, 777, 778, 779, 780, 781, 782] (by decide +kernel) (by decide +kernel)
set_option maxRecDepth 20000 in
theorem gL_law_X8_recall : GoodIn wsL_law (wsV RL 101 RX8 yX8_recall wsX8_recall) := goodIn_app (goodIn_of _ (by decide +kernel)) ggL_law_X8_recall
set_option maxRecDepth 20000 in
theorem ggL_law_X7_foretold : GoodIn wsL_law wsX7_foretold := goodIn_r _ [540, 37, 541, 313, 314, 315, 542, 401, 402, 543, 544, 2, 545, 99, 100, 101, 546, 547, 548, 39, 549, 68, 67, 550, 551, 552, 553, 70, 744, 745, 746, 747, 748, 749, 750, 751, 752, 753, 754, 796, 797, 798, 799] (by decide +kernel) (by decide +kernel)
set_option maxRecDepth 20000 in
theorem gL_law_X7_foretold : GoodIn wsL_law (wsV RL 102 RX7 yX7_foretold wsX7_foretold) := goodIn_app (goodIn_of _ (by decide +kernel)) ggL_law_X7_foretold
set_option maxRecDepth 20000 in
theorem ggL_law_X8_foretold : GoodIn wsL_law wsX8_foretold := goodIn_r _ [557, 558, 559, 5, 560, 561, 118, 119, 120, 562, 563, 564, 565, 566, 89, 90, 91, 755, 756, 757, 758, 759, 760, 761, 762, 763, 764, 765, 766, 767, 768, 769, 770, 771, 772, 773, 774, 775, 776, 777, 778, 779, 780, 781, 782] (by decide +kernel) (by decide +kernel)
set_option maxRecDepth 20000 in
theorem gL_law_X8_foretold : GoodIn wsL_law (wsV RL 105 RX8 yX8_foretold wsX8_foretold) := goodIn_app (goodIn_of _ (by decide +kernel)) ggL_law_X8_foretold
set_option maxRecDepth 20000 in
theorem ggL_law_X7_damp : GoodIn wsL_law wsX7_damp := goodIn_r _ [570, 30, 543, 544, 2, 545, 99, 100, 101, 744, 745, 746, 747, 748, 749, 750, 751, 752, 753, 754] (by decide +kernel) (by decide +kernel)
set_option maxRecDepth 20000 in
theorem gL_law_X7_damp : GoodIn wsL_law (wsV RL 106 RX7 yX7_damp wsX7_damp) := goodIn_app (goodIn_of _ (by decide +kernel)) ggL_law_X7_damp
set_option maxRecDepth 20000 in
theorem ggL_law_X8_damp : GoodIn wsL_law wsX8_damp := goodIn_r _ [574, 87, 558, 559, 5, 560, 561, 118, 119, 120, 755, 756, 757, 758, 759, 760, 761, 762, 763, 764, 765, 766, 767, 768, 769, 770, 771, 772, 773, 774, 775, 776, 777, 778, 779, 780, 781, 782] (by decide +kernel) (by decide +kernel)
set_option maxRecDepth 20000 in
theorem gL_law_X8_damp : GoodIn wsL_law (wsV RL 110 RX8 yX8_damp wsX8_damp) := goodIn_app (goodIn_of _ (by decide +kernel)) ggL_law_X8_damp
set_option maxRecDepth 20000 in
theorem ggL_law_X7_make : GoodIn wsL_law wsX7_make := goodIn_r _ [578, 31, 543, 544, 2, 545, 99, 100, 101, 744, 745, 746, 747, 748, 749, 750, 751, 752, 753, 754] (by decide +kernel) (by decide +kernel)
set_option maxRecDepth 20000 in
theorem gL_law_X7_make : GoodIn wsL_law (wsV RL 111 RX7 yX7_make wsX7_make) := goodIn_app (goodIn_of _ (by decide +kernel)) ggL_law_X7_make
set_option maxRecDepth 20000 in
theorem ggL_law_X8_make : GoodIn wsL_law wsX8_make := goodIn_r _ [582, 583, 88, 558, 559, 5, 560, 561, 118, 119, 120, 755, 756, 757, 758, 759, 760, 761, 762, 763, 764, 765, 766, 767, 768, 769, 770, 771, 772, 773, 774, 775, 776, 777, 778, 779, 780, 781, 782] (by decide +kernel) (by decide +kernel)
set_option maxRecDepth 20000 in
theorem gL_law_X8_make : GoodIn wsL_law (wsV RL 114 RX8 yX8_make wsX8_make) := goodIn_app (goodIn_of _ (by decide +kernel)) ggL_law_X8_make
set_option maxRecDepth 20000 in
theorem ggL_law_X7_stock : GoodIn wsL_law wsX7_stock := goodIn_r _ [587, 588, 35, 31, 30, 24, 589, 590, 591, 592, 521, 522, 2, 523, 99, 100, 101, 593, 594, 595, 34, 596, 597, 598, 599, 600, 601, 538, 539, 540, 37, 541, 313, 314, 315, 542, 401, 402, 543, 544, 545, 546, 547, 548, 39, 549, 68, 67, 550, 551, 552, 553, 70, 602, 603, 604, 605, 606, 607, 608, 609, 610, 611, 612, 613, 614, 615, 616, 617, 744, 745, 746, 747, 748, 749, 750, 751, 752, 753, 754, 792, 793, 794, 795, 796, 797, 798, 799] (by decide +kernel) (by decide +kernel)
set_option maxRecDepth 20000 in
theorem gL_law_X7_stock : GoodIn wsL_law (wsV RL 115 RX7 yX7_stock wsX7_stock) := goodIn_app (goodIn_of _ (by decide +kernel)) ggL_law_X7_stock
set_option maxRecDepth 20000 in
theorem ggL_law_X8_stock : GoodIn wsL_law wsX8_stock := goodIn_r _ [621, 622, 203, 88, 87, 75, 436, 623, 566, 558, 559, 5, 560, 561, 118, 119, 120, 562, 563, 564, 565, 89, 90, 91, 755, 756, 757, 758, 759, 760, 761, 762, 763, 764, 765, 766, 767, 768, 769, 770, 771, 772, 773, 774, 775, 776, 777, 778, 779, 780, 781, 782] (by decide +kernel) (by decide +kernel)
set_option maxRecDepth 20000 in
theorem gL_law_X8_stock : GoodIn wsL_law (wsV RL 118 RX8 yX8_stock wsX8_stock) := goodIn_app (goodIn_of _ (by decide +kernel)) ggL_law_X8_stock
set_option maxRecDepth 20000 in
theorem ggL_law_X7_ahead : GoodIn wsL_law wsX7_ahead := goodIn_r _ [627, 628, 629, 314, 630, 521, 522, 2, 523, 99, 100, 101, 601, 538, 539, 540, 37, 541, 313, 315, 542, 401, 402, 543, 544, 545, 546, 547, 548, 39, 549, 68, 67, 550, 551, 552, 553, 70, 611, 612, 613, 614, 615, 616, 617, 744, 745, 746, 747, 748, 749, 750, 751, 752, 753, 754, 796, 797, 798, 799] (by decide +kernel) (by decide +kernel)
set_option maxRecDepth 20000 in
theorem gL_law_X7_ahead : GoodIn wsL_law (wsV RL 119 RX7 yX7_ahead wsX7_ahead) := goodIn_app (goodIn_of _ (by decide +kernel)) ggL_law_X7_ahead
set_option maxRecDepth 20000 in
theorem ggL_law_X8_ahead : GoodIn wsL_law wsX8_ahead := goodIn_r _ [634, 583, 623, 566, 558, 559, 5, 560, 561, 118, 119, 120, 562, 563, 564, 565, 89, 90, 91, 755, 756, 757, 758, 759, 760, 761, 762, 763, 764, 765, 766, 767, 768, 769, 770, 771, 772, 773, 774, 775, 776, 777, 778, 779, 780, 781, 782] (by decide +kernel) (by decide +kernel)
set_option maxRecDepth 20000 in
theorem gL_law_X8_ahead : GoodIn wsL_law (wsV RL 122 RX8 yX8_ahead wsX8_ahead) := goodIn_app (goodIn_of _ (by decide +kernel)) ggL_law_X8_ahead
set_option maxRecDepth 20000 in
theorem ggL_law_X7_sheet : GoodIn wsL_law wsX7_sheet := goodIn_r _ [638, 37, 292, 293, 2, 294, 99, 100, 101, 639, 640, 641, 295, 296, 297, 298, 40, 642, 643, 644, 39, 645, 68, 69, 70, 67, 646, 254, 255, 256, 744, 745, 746, 747, 748, 749, 750, 751, 752, 753, 754, 796, 797, 798, 799] (by decide +kernel) (by decide +kernel)
set_option maxRecDepth 20000 in
theorem gL_law_X7_sheet : GoodIn wsL_law (wsV RL 123 RX7 yX7_sheet wsX7_sheet) := goodIn_app (goodIn_of _ (by decide +kernel)) ggL_law_X7_sheet
set_option maxRecDepth 20000 in
theorem ggL_law_X8_sheet : GoodIn wsL_law wsX8_sheet := goodIn_r _ [650, 651, 89, 90, 91, 327, 328, 5, 329, 203, 118, 119, 120, 330, 331, 332, 333, 334, 755, 756, 757, 758, 759, 760, 761, 762, 763, 764, 765, 766, 767, 768, 769, 770, 771, 772, 773, 774, 775, 776, 777, 778, 779, 780, 781, 782] (by decide +kernel) (by decide +kernel)
set_option maxRecDepth 20000 in
theorem gL_law_X8_sheet : GoodIn wsL_law (wsV RL 126 RX8 yX8_sheet wsX8_sheet) := goodIn_app (goodIn_of _ (by decide +kernel)) ggL_law_X8_sheet
set_option maxRecDepth 20000 in
theorem ggL_law_X7_lose : GoodIn wsL_law wsX7_lose := goodIn_r _ [655, 37, 291, 656, 287, 288, 289, 2, 290, 292, 293, 294, 99, 100, 101, 295, 296, 297, 298, 40, 744, 745, 746, 747, 748, 749, 750, 751, 752, 753, 754, 796, 797, 798, 799] (by decide +kernel) (by decide +kernel)
set_option maxRecDepth 20000 in
theorem gL_law_X7_lose : GoodIn wsL_law (wsV RL 127 RX7 yX7_lose wsX7_lose) := goodIn_app (goodIn_of _ (by decide +kernel)) ggL_law_X7_lose
set_option maxRecDepth 20000 in
theorem ggL_law_X8_lose : GoodIn wsL_law wsX8_lose := goodIn_r _ [660, 89, 90, 327, 328, 5, 329, 203, 118, 119, 120, 330, 331, 332, 333, 334, 755, 756, 757, 758, 759, 760, 761, 762, 763, 764, 765, 766, 767, 768, 769, 770, 771, 772, 773, 774, 775, 776, 777, 778, 779, 780, 781, 782] (by decide +kernel) (by decide +kernel)
set_option maxRecDepth 20000 in
theorem gL_law_X8_lose : GoodIn wsL_law (wsV RL 130 RX8 yX8_lose wsX8_lose) := goodIn_app (goodIn_of _ (by decide +kernel)) ggL_law_X8_lose
set_option maxRecDepth 20000 in
theorem ggL_law_X7_put : GoodIn wsL_law wsX7_put := goodIn_r _ [664, 37, 665, 666, 667, 2, 668, 669, 639, 640, 641, 99, 100, 101, 287, 288, 289, 290, 291, 292, 293, 294, 295, 296, 297, 298, 40, 670, 551, 552, 39, 553, 70, 671, 672, 673, 674, 69, 67, 744, 745, 746, 747, 748, 749, 750, 751, 752, 753, 754, 796, 797, 798, 799] (by decide +kernel) (by decide +kernel)
set_option maxRecDepth 20000 in
theorem gL_law_X7_put : GoodIn wsL_law (wsV RL 131 RX7 yX7_put wsX7_put) := goodIn_app (goodIn_of _ (by decide +kernel)) ggL_law_X7_put
set_option maxRecDepth 20000 in
theorem ggL_law_X8_put : GoodIn wsL_law wsX8_put := goodIn_r _ [678, 651, 91, 327, 328, 5, 329, 203, 118, 119, 120, 679, 680, 681, 682, 89, 90, 330, 331, 332, 333, 334, 755, 756, 757, 758, 759, 760, 761, 762, 763, 764, 765, 766, 767, 768, 769, 770, 771, 772, 773, 774, 775, 776, 777, 778, 779, 780, 781, 782] (by decide +kernel) (by decide +kernel)
set_option maxRecDepth 20000 in
theorem gL_law_X8_put : GoodIn wsL_law (wsV RL 134 RX8 yX8_put wsX8_put) := goodIn_app (goodIn_of _ (by decide +kernel)) ggL_law_X8_put
set_option maxRecDepth 20000 in
theorem ggL_law_X7_get : GoodIn wsL_law wsX7_get := goodIn_r _ [686, 687, 37, 688, 665, 666, 667, 2, 668, 669, 639, 640, 641, 99, 100, 101, 287, 288, 289, 290, 291, 292, 293, 294, 295, 296, 297, 298, 40, 670, 551, 552, 39, 553, 70, 744, 745, 746, 747, 748, 749, 750, 751, 752, 753, 754, 796, 797, 798, 799] (by decide +kernel) (by decide +kernel)
set_option maxRecDepth 20000 in
theorem gL_law_X7_get : GoodIn wsL_law (wsV RL 135 RX7 yX7_get wsX7_get) := goodIn_app (goodIn_of _ (by decide +kernel)) ggL_law_X7_get
set_option maxRecDepth 20000 in
theorem ggL_law_X8_get : GoodIn wsL_law wsX8_get := goodIn_r _ [692, 651, 693, 91, 327, 328, 5, 329, 203, 118, 119, 120, 679, 680, 681, 682, 89, 90, 330, 331, 332, 333, 334, 755, 756, 757, 758, 759, 760, 761, 762, 763, 764, 765, 766, 767, 768, 769, 770, 771, 772, 773, 774, 775, 776, 777, 778, 779, 780, 781, 782] (by decide +kernel) (by decide +kernel)
set_option maxRecDepth 20000 in
theorem gL_law_X8_get : GoodIn wsL_law (wsV RL 138 RX8 yX8_get wsX8_get) := goodIn_app (goodIn_of _ (by decide +kernel)) ggL_law_X8_get
set_option maxRecDepth 20000 in
theorem ggL_law_X7_copy : GoodIn wsL_law wsX7_copy := goodIn_r _ [697, 37, 291, 669, 688, 698, 699, 700, 701, 292, 293, 2, 294, 99, 100, 101, 295, 296, 297, 298, 40, 702, 703, 704, 39, 705, 70, 744, 745, 746, 747, 748, 749, 750, 751, 752, 753, 754, 796, 797, 798, 799] (by decide +kernel) (by decide +kernel)
set_option maxRecDepth 20000 in
theorem gL_law_X7_copy : GoodIn wsL_law (wsV RL 139 RX7 yX7_copy wsX7_copy) := goodIn_app (goodIn_of _ (by decide +kernel)) ggL_law_X7_copy
set_option maxRecDepth 20000 in
theorem ggL_law_X8_copy : GoodIn wsL_law wsX8_copy := goodIn_r _ [709, 89, 90, 92, 91, 327, 328, 5, 329, 203, 118, 119, 120, 330, 331, 332, 333, 334, 755, 756, 757, 758, 759, 760, 761, 762, 763, 764, 765, 766, 767, 768, 769, 770, 771, 772, 773, 774, 775, 776, 777, 778, 779, 780, 781, 782] (by decide +kernel) (by decide +kernel)
set_option maxRecDepth 20000 in
theorem gL_law_X8_copy : GoodIn wsL_law (wsV RL 143 RX8 yX8_copy wsX8_copy) := goodIn_app (goodIn_of _ (by decide +kernel)) ggL_law_X8_copy
set_option maxRecDepth 20000 in
theorem ggL_law_X7_count : GoodIn wsL_law wsX7_count := goodIn_r _ [713, 14, 22, 188, 198, 28, 714, 444, 40, 715, 716, 717, 718, 2, 719, 16, 227, 228, 229, 21, 230, 212, 51, 231, 209, 210, 211, 213, 214, 52, 720, 721, 722, 723, 30, 744, 745, 746, 747, 748, 749, 750, 751, 752, 753, 754, 785, 786, 787, 788, 789, 790, 791, 783, 784, 800, 801, 802, 803] (by decide +kernel) (by decide +kernel)
set_option maxRecDepth 20000 in
theorem gL_law_X7_count : GoodIn wsL_law (wsV RL 144 RX7 yX7_count wsX7_count) := goodIn_app (goodIn_of _ (by decide +kernel)) ggL_law_X7_count
set_option maxRecDepth 20000 in
theorem ggL_law_X8_count : GoodIn wsL_law wsX8_count := goodIn_r _ [727, 117, 82, 83, 479, 481, 334, 482, 87, 240, 241, 242, 5, 243, 80, 219, 220, 221, 222, 76, 81, 755, 756, 757, 758, 759, 760, 761, 762, 763, 764, 765, 766, 767, 768, 769, 770, 771, 772, 773, 774, 775, 776, 777, 778, 779, 780, 781, 782] (by decide +kernel) (by decide +kernel)
set_option maxRecDepth 20000 in
theorem gL_law_X8_count : GoodIn wsL_law (wsV RL 147 RX8 yX8_count wsX8_count) := goodIn_app (goodIn_of _ (by decide +kernel)) ggL_law_X8_count
set_option maxRecDepth 20000 in
theorem ggL_law_X7_digest : GoodIn wsL_law wsX7_digest := goodIn_r _ [731, 732, 733, 28, 714, 24, 734, 711, 712, 2, 713, 14, 22, 188, 198, 444, 40, 715, 716, 717, 718, 719, 16, 227, 228, 229, 21, 230, 212, 51, 231, 209, 210, 211, 213, 214, 52, 720, 721, 722, 723, 30, 735, 205, 206, 207, 160, 161, 162, 163, 99, 100, 101, 208, 736, 393, 394, 395, 396, 397, 398, 18, 399, 46, 400, 401, 314, 402, 403, 404, 405, 406, 45, 407, 381, 377, 378, 379, 380, 737, 484, 485, 486, 487, 488, 489, 490, 491, 492, 493, 494, 495, 27, 496, 58, 57, 601, 538, 539, 540, 37, 541, 313, 315, 542, 543, 544, 545, 546, 547, 548, 39, 549, 68, 67, 550, 551, 552, 553, 70, 744, 745, 746, 747, 748, 749, 750, 751, 752, 753, 754, 788, 789, 790, 791, 785, 786, 787, 783, 784, 800, 801, 802, 803, 804, 805, 806, 807, 808, 809, 796, 797, 798, 799] (by decide +kernel) (by decide +kernel)
set_option maxRecDepth 20000 in
theorem gL_law_X7_digest : GoodIn wsL_law (wsV RL 148 RX7 yX7_digest wsX7_digest) := goodIn_app (goodIn_of _ (by decide +kernel)) ggL_law_X7_digest
set_option maxRecDepth 20000 in
theorem ggL_law_X8_digest : GoodIn wsL_law wsX8_digest := goodIn_r _ [741, 742, 138, 390, 479, 86, 75, 743, 725, 726, 5, 727, 117, 82, 83, 481, 334, 482, 87, 240, 241, 242, 243, 80, 219, 220, 221, 222, 76, 81, 386, 387, 388, 389, 78, 85, 391, 77, 562, 563, 564, 565, 566, 89, 90, 91, 755, 756, 757, 758, 759, 760, 761, 762, 763, 764, 765, 766, 767, 768, 769, 770, 771, 772, 773, 774, 775, 776, 777, 778, 779, 780, 781, 782] (by decide +kernel) (by decide +kernel)
set_option maxRecDepth 20000 in
theorem gL_law_X8_digest : GoodIn wsL_law (wsV RL 152 RX8 yX8_digest wsX8_digest) := goodIn_app (goodIn_of _ (by decide +kernel)) ggL_law_X8_digest
theorem dL_law_0 : decode cL_law 0 = .ok (.new 7, 3) := by decide +kernel
theorem dL_law_3 : decode cL_law 3 = .ok (.dup, 1) := by decide +kernel
theorem dL_law_4 : decode cL_law 4 = .ok (.invokespecial 9, 3) := by decide +kernel
theorem dL_law_7 : decode cL_law 7 = .ok (.astore_n 1, 1) := by decide +kernel
theorem dL_law_8 : decode cL_law 8 = .ok (.new 10, 3) := by decide +kernel
theorem dL_law_11 : decode cL_law 11 = .ok (.dup, 1) := by decide +kernel
theorem dL_law_12 : decode cL_law 12 = .ok (.invokespecial 12, 3) := by decide +kernel
theorem dL_law_15 : decode cL_law 15 = .ok (.astore_n 2, 1) := by decide +kernel
theorem dL_law_16 : decode cL_law 16 = .ok (.iconst 0, 1) := by decide +kernel
theorem dL_law_17 : decode cL_law 17 = .ok (.istore_n 3, 1) := by decide +kernel
theorem dL_law_18 : decode cL_law 18 = .ok (.iload_n 3, 1) := by decide +kernel
theorem dL_law_19 : decode cL_law 19 = .ok (.aload_n 0, 1) := by decide +kernel
theorem dL_law_20 : decode cL_law 20 = .ok (.arraylength, 1) := by decide +kernel
theorem dL_law_21 : decode cL_law 21 = .ok (.bipush 6, 2) := by decide +kernel
theorem dL_law_23 : decode cL_law 23 = .ok (.isub, 1) := by decide +kernel
theorem dL_law_24 : decode cL_law 24 = .ok (.if_icmp .gt 1278, 3) := by decide +kernel
theorem dL_law_27 : decode cL_law 27 = .ok (.aload_n 0, 1) := by decide +kernel
theorem dL_law_28 : decode cL_law 28 = .ok (.iload_n 3, 1) := by decide +kernel
theorem dL_law_29 : decode cL_law 29 = .ok (.iaload, 1) := by decide +kernel
theorem dL_law_30 : decode cL_law 30 = .ok (.bipush 63, 2) := by decide +kernel
theorem dL_law_32 : decode cL_law 32 = .ok (.iand, 1) := by decide +kernel
theorem dL_law_33 : decode cL_law 33 = .ok (.tableswitch 1263 0 32 #[147, 190, 233, 266, 299, 322, 345, 368, 391, 404, 457, 480, 513, 536, 569, 592, 615, 648, 701, 734, 757, 800, 823, 872, 905, 958, 1001, 1044, 1067, 1120, 1163, 1226, 1249], 147) := by decide +kernel
theorem dL_law_180 : decode cL_law 180 = .ok (.aload_n 1, 1) := by decide +kernel
theorem dL_law_181 : decode cL_law 181 = .ok (.aload_n 0, 1) := by decide +kernel
theorem dL_law_182 : decode cL_law 182 = .ok (.iload_n 3, 1) := by decide +kernel
theorem dL_law_183 : decode cL_law 183 = .ok (.iconst 1, 1) := by decide +kernel
theorem dL_law_184 : decode cL_law 184 = .ok (.iadd, 1) := by decide +kernel
theorem dL_law_185 : decode cL_law 185 = .ok (.iaload, 1) := by decide +kernel
theorem dL_law_186 : decode cL_law 186 = .ok (.aload_n 0, 1) := by decide +kernel
theorem dL_law_187 : decode cL_law 187 = .ok (.iload_n 3, 1) := by decide +kernel
theorem dL_law_188 : decode cL_law 188 = .ok (.iconst 2, 1) := by decide +kernel
theorem dL_law_189 : decode cL_law 189 = .ok (.iadd, 1) := by decide +kernel
theorem dL_law_190 : decode cL_law 190 = .ok (.iaload, 1) := by decide +kernel
theorem dL_law_191 : decode cL_law 191 = .ok (.aload_n 0, 1) := by decide +kernel
theorem dL_law_192 : decode cL_law 192 = .ok (.iload_n 3, 1) := by decide +kernel
theorem dL_law_193 : decode cL_law 193 = .ok (.iconst 3, 1) := by decide +kernel
theorem dL_law_194 : decode cL_law 194 = .ok (.iadd, 1) := by decide +kernel
theorem dL_law_195 : decode cL_law 195 = .ok (.iaload, 1) := by decide +kernel
theorem dL_law_196 : decode cL_law 196 = .ok (.invokevirtual 13, 3) := by decide +kernel
theorem dL_law_199 : decode cL_law 199 = .ok (.aload_n 2, 1) := by decide +kernel
theorem dL_law_200 : decode cL_law 200 = .ok (.aload_n 0, 1) := by decide +kernel
theorem dL_law_201 : decode cL_law 201 = .ok (.iload_n 3, 1) := by decide +kernel
theorem dL_law_202 : decode cL_law 202 = .ok (.iconst 1, 1) := by decide +kernel
theorem dL_law_203 : decode cL_law 203 = .ok (.iadd, 1) := by decide +kernel
theorem dL_law_204 : decode cL_law 204 = .ok (.iaload, 1) := by decide +kernel
theorem dL_law_205 : decode cL_law 205 = .ok (.aload_n 0, 1) := by decide +kernel
theorem dL_law_206 : decode cL_law 206 = .ok (.iload_n 3, 1) := by decide +kernel
theorem dL_law_207 : decode cL_law 207 = .ok (.iconst 2, 1) := by decide +kernel
theorem dL_law_208 : decode cL_law 208 = .ok (.iadd, 1) := by decide +kernel
theorem dL_law_209 : decode cL_law 209 = .ok (.iaload, 1) := by decide +kernel
theorem dL_law_210 : decode cL_law 210 = .ok (.aload_n 0, 1) := by decide +kernel
theorem dL_law_211 : decode cL_law 211 = .ok (.iload_n 3, 1) := by decide +kernel
theorem dL_law_212 : decode cL_law 212 = .ok (.iconst 3, 1) := by decide +kernel
theorem dL_law_213 : decode cL_law 213 = .ok (.iadd, 1) := by decide +kernel
theorem dL_law_214 : decode cL_law 214 = .ok (.iaload, 1) := by decide +kernel
theorem dL_law_215 : decode cL_law 215 = .ok (.invokevirtual 17, 3) := by decide +kernel
theorem dL_law_218 : decode cL_law 218 = .ok (.if_icmp .eq 1078, 3) := by decide +kernel
theorem dL_law_221 : decode cL_law 221 = .ok (.iconst 0, 1) := by decide +kernel
theorem dL_law_222 : decode cL_law 222 = .ok (.ireturn, 1) := by decide +kernel
theorem dL_law_223 : decode cL_law 223 = .ok (.aload_n 1, 1) := by decide +kernel
theorem dL_law_224 : decode cL_law 224 = .ok (.aload_n 0, 1) := by decide +kernel
theorem dL_law_225 : decode cL_law 225 = .ok (.iload_n 3, 1) := by decide +kernel
theorem dL_law_226 : decode cL_law 226 = .ok (.iconst 1, 1) := by decide +kernel
theorem dL_law_227 : decode cL_law 227 = .ok (.iadd, 1) := by decide +kernel
theorem dL_law_228 : decode cL_law 228 = .ok (.iaload, 1) := by decide +kernel
theorem dL_law_229 : decode cL_law 229 = .ok (.aload_n 0, 1) := by decide +kernel
theorem dL_law_230 : decode cL_law 230 = .ok (.iload_n 3, 1) := by decide +kernel
theorem dL_law_231 : decode cL_law 231 = .ok (.iconst 2, 1) := by decide +kernel
theorem dL_law_232 : decode cL_law 232 = .ok (.iadd, 1) := by decide +kernel
theorem dL_law_233 : decode cL_law 233 = .ok (.iaload, 1) := by decide +kernel
theorem dL_law_234 : decode cL_law 234 = .ok (.aload_n 0, 1) := by decide +kernel
theorem dL_law_235 : decode cL_law 235 = .ok (.iload_n 3, 1) := by decide +kernel
theorem dL_law_236 : decode cL_law 236 = .ok (.iconst 3, 1) := by decide +kernel
theorem dL_law_237 : decode cL_law 237 = .ok (.iadd, 1) := by decide +kernel
theorem dL_law_238 : decode cL_law 238 = .ok (.iaload, 1) := by decide +kernel
theorem dL_law_239 : decode cL_law 239 = .ok (.invokevirtual 18, 3) := by decide +kernel
theorem dL_law_242 : decode cL_law 242 = .ok (.aload_n 2, 1) := by decide +kernel
theorem dL_law_243 : decode cL_law 243 = .ok (.aload_n 0, 1) := by decide +kernel
theorem dL_law_244 : decode cL_law 244 = .ok (.iload_n 3, 1) := by decide +kernel
theorem dL_law_245 : decode cL_law 245 = .ok (.iconst 1, 1) := by decide +kernel
theorem dL_law_246 : decode cL_law 246 = .ok (.iadd, 1) := by decide +kernel
theorem dL_law_247 : decode cL_law 247 = .ok (.iaload, 1) := by decide +kernel
theorem dL_law_248 : decode cL_law 248 = .ok (.aload_n 0, 1) := by decide +kernel
theorem dL_law_249 : decode cL_law 249 = .ok (.iload_n 3, 1) := by decide +kernel
theorem dL_law_250 : decode cL_law 250 = .ok (.iconst 2, 1) := by decide +kernel
theorem dL_law_251 : decode cL_law 251 = .ok (.iadd, 1) := by decide +kernel
theorem dL_law_252 : decode cL_law 252 = .ok (.iaload, 1) := by decide +kernel
theorem dL_law_253 : decode cL_law 253 = .ok (.aload_n 0, 1) := by decide +kernel
theorem dL_law_254 : decode cL_law 254 = .ok (.iload_n 3, 1) := by decide +kernel
theorem dL_law_255 : decode cL_law 255 = .ok (.iconst 3, 1) := by decide +kernel
theorem dL_law_256 : decode cL_law 256 = .ok (.iadd, 1) := by decide +kernel
theorem dL_law_257 : decode cL_law 257 = .ok (.iaload, 1) := by decide +kernel
theorem dL_law_258 : decode cL_law 258 = .ok (.invokevirtual 21, 3) := by decide +kernel
theorem dL_law_261 : decode cL_law 261 = .ok (.if_icmp .eq 1035, 3) := by decide +kernel
theorem dL_law_264 : decode cL_law 264 = .ok (.iconst 0, 1) := by decide +kernel
theorem dL_law_265 : decode cL_law 265 = .ok (.ireturn, 1) := by decide +kernel
theorem dL_law_266 : decode cL_law 266 = .ok (.aload_n 1, 1) := by decide +kernel
theorem dL_law_267 : decode cL_law 267 = .ok (.aload_n 0, 1) := by decide +kernel
theorem dL_law_268 : decode cL_law 268 = .ok (.iload_n 3, 1) := by decide +kernel
theorem dL_law_269 : decode cL_law 269 = .ok (.iconst 1, 1) := by decide +kernel
theorem dL_law_270 : decode cL_law 270 = .ok (.iadd, 1) := by decide +kernel
theorem dL_law_271 : decode cL_law 271 = .ok (.iaload, 1) := by decide +kernel
theorem dL_law_272 : decode cL_law 272 = .ok (.aload_n 0, 1) := by decide +kernel
theorem dL_law_273 : decode cL_law 273 = .ok (.iload_n 3, 1) := by decide +kernel
theorem dL_law_274 : decode cL_law 274 = .ok (.iconst 2, 1) := by decide +kernel
theorem dL_law_275 : decode cL_law 275 = .ok (.iadd, 1) := by decide +kernel
theorem dL_law_276 : decode cL_law 276 = .ok (.iaload, 1) := by decide +kernel
theorem dL_law_277 : decode cL_law 277 = .ok (.invokevirtual 22, 3) := by decide +kernel
theorem dL_law_280 : decode cL_law 280 = .ok (.aload_n 2, 1) := by decide +kernel
theorem dL_law_281 : decode cL_law 281 = .ok (.aload_n 0, 1) := by decide +kernel
theorem dL_law_282 : decode cL_law 282 = .ok (.iload_n 3, 1) := by decide +kernel
theorem dL_law_283 : decode cL_law 283 = .ok (.iconst 1, 1) := by decide +kernel
theorem dL_law_284 : decode cL_law 284 = .ok (.iadd, 1) := by decide +kernel
theorem dL_law_285 : decode cL_law 285 = .ok (.iaload, 1) := by decide +kernel
theorem dL_law_286 : decode cL_law 286 = .ok (.aload_n 0, 1) := by decide +kernel
theorem dL_law_287 : decode cL_law 287 = .ok (.iload_n 3, 1) := by decide +kernel
theorem dL_law_288 : decode cL_law 288 = .ok (.iconst 2, 1) := by decide +kernel
theorem dL_law_289 : decode cL_law 289 = .ok (.iadd, 1) := by decide +kernel
theorem dL_law_290 : decode cL_law 290 = .ok (.iaload, 1) := by decide +kernel
theorem dL_law_291 : decode cL_law 291 = .ok (.invokevirtual 26, 3) := by decide +kernel
theorem dL_law_294 : decode cL_law 294 = .ok (.if_icmp .eq 1002, 3) := by decide +kernel
theorem dL_law_297 : decode cL_law 297 = .ok (.iconst 0, 1) := by decide +kernel
theorem dL_law_298 : decode cL_law 298 = .ok (.ireturn, 1) := by decide +kernel
theorem dL_law_299 : decode cL_law 299 = .ok (.aload_n 1, 1) := by decide +kernel
theorem dL_law_300 : decode cL_law 300 = .ok (.aload_n 0, 1) := by decide +kernel
theorem dL_law_301 : decode cL_law 301 = .ok (.iload_n 3, 1) := by decide +kernel
theorem dL_law_302 : decode cL_law 302 = .ok (.iconst 1, 1) := by decide +kernel
theorem dL_law_303 : decode cL_law 303 = .ok (.iadd, 1) := by decide +kernel
theorem dL_law_304 : decode cL_law 304 = .ok (.iaload, 1) := by decide +kernel
theorem dL_law_305 : decode cL_law 305 = .ok (.aload_n 0, 1) := by decide +kernel
theorem dL_law_306 : decode cL_law 306 = .ok (.iload_n 3, 1) := by decide +kernel
theorem dL_law_307 : decode cL_law 307 = .ok (.iconst 2, 1) := by decide +kernel
theorem dL_law_308 : decode cL_law 308 = .ok (.iadd, 1) := by decide +kernel
theorem dL_law_309 : decode cL_law 309 = .ok (.iaload, 1) := by decide +kernel
theorem dL_law_310 : decode cL_law 310 = .ok (.invokevirtual 27, 3) := by decide +kernel
theorem dL_law_313 : decode cL_law 313 = .ok (.aload_n 2, 1) := by decide +kernel
theorem dL_law_314 : decode cL_law 314 = .ok (.aload_n 0, 1) := by decide +kernel
theorem dL_law_315 : decode cL_law 315 = .ok (.iload_n 3, 1) := by decide +kernel
theorem dL_law_316 : decode cL_law 316 = .ok (.iconst 1, 1) := by decide +kernel
theorem dL_law_317 : decode cL_law 317 = .ok (.iadd, 1) := by decide +kernel
theorem dL_law_318 : decode cL_law 318 = .ok (.iaload, 1) := by decide +kernel
theorem dL_law_319 : decode cL_law 319 = .ok (.aload_n 0, 1) := by decide +kernel
theorem dL_law_320 : decode cL_law 320 = .ok (.iload_n 3, 1) := by decide +kernel
theorem dL_law_321 : decode cL_law 321 = .ok (.iconst 2, 1) := by decide +kernel
theorem dL_law_322 : decode cL_law 322 = .ok (.iadd, 1) := by decide +kernel
theorem dL_law_323 : decode cL_law 323 = .ok (.iaload, 1) := by decide +kernel
theorem dL_law_324 : decode cL_law 324 = .ok (.invokevirtual 30, 3) := by decide +kernel
theorem dL_law_327 : decode cL_law 327 = .ok (.if_icmp .eq 969, 3) := by decide +kernel
theorem dL_law_330 : decode cL_law 330 = .ok (.iconst 0, 1) := by decide +kernel
theorem dL_law_331 : decode cL_law 331 = .ok (.ireturn, 1) := by decide +kernel
theorem dL_law_332 : decode cL_law 332 = .ok (.aload_n 1, 1) := by decide +kernel
theorem dL_law_333 : decode cL_law 333 = .ok (.aload_n 0, 1) := by decide +kernel
theorem dL_law_334 : decode cL_law 334 = .ok (.iload_n 3, 1) := by decide +kernel
theorem dL_law_335 : decode cL_law 335 = .ok (.iconst 1, 1) := by decide +kernel
theorem dL_law_336 : decode cL_law 336 = .ok (.iadd, 1) := by decide +kernel
theorem dL_law_337 : decode cL_law 337 = .ok (.iaload, 1) := by decide +kernel
theorem dL_law_338 : decode cL_law 338 = .ok (.invokevirtual 31, 3) := by decide +kernel
theorem dL_law_341 : decode cL_law 341 = .ok (.aload_n 2, 1) := by decide +kernel
theorem dL_law_342 : decode cL_law 342 = .ok (.aload_n 0, 1) := by decide +kernel
theorem dL_law_343 : decode cL_law 343 = .ok (.iload_n 3, 1) := by decide +kernel
theorem dL_law_344 : decode cL_law 344 = .ok (.iconst 1, 1) := by decide +kernel
theorem dL_law_345 : decode cL_law 345 = .ok (.iadd, 1) := by decide +kernel
theorem dL_law_346 : decode cL_law 346 = .ok (.iaload, 1) := by decide +kernel
theorem dL_law_347 : decode cL_law 347 = .ok (.invokevirtual 35, 3) := by decide +kernel
theorem dL_law_350 : decode cL_law 350 = .ok (.if_icmp .eq 946, 3) := by decide +kernel
theorem dL_law_353 : decode cL_law 353 = .ok (.iconst 0, 1) := by decide +kernel
theorem dL_law_354 : decode cL_law 354 = .ok (.ireturn, 1) := by decide +kernel
theorem dL_law_355 : decode cL_law 355 = .ok (.aload_n 1, 1) := by decide +kernel
theorem dL_law_356 : decode cL_law 356 = .ok (.aload_n 0, 1) := by decide +kernel
theorem dL_law_357 : decode cL_law 357 = .ok (.iload_n 3, 1) := by decide +kernel
theorem dL_law_358 : decode cL_law 358 = .ok (.iconst 1, 1) := by decide +kernel
theorem dL_law_359 : decode cL_law 359 = .ok (.iadd, 1) := by decide +kernel
theorem dL_law_360 : decode cL_law 360 = .ok (.iaload, 1) := by decide +kernel
theorem dL_law_361 : decode cL_law 361 = .ok (.invokevirtual 36, 3) := by decide +kernel
theorem dL_law_364 : decode cL_law 364 = .ok (.aload_n 2, 1) := by decide +kernel
theorem dL_law_365 : decode cL_law 365 = .ok (.aload_n 0, 1) := by decide +kernel
theorem dL_law_366 : decode cL_law 366 = .ok (.iload_n 3, 1) := by decide +kernel
theorem dL_law_367 : decode cL_law 367 = .ok (.iconst 1, 1) := by decide +kernel
theorem dL_law_368 : decode cL_law 368 = .ok (.iadd, 1) := by decide +kernel
theorem dL_law_369 : decode cL_law 369 = .ok (.iaload, 1) := by decide +kernel
theorem dL_law_370 : decode cL_law 370 = .ok (.invokevirtual 39, 3) := by decide +kernel
theorem dL_law_373 : decode cL_law 373 = .ok (.if_icmp .eq 923, 3) := by decide +kernel
theorem dL_law_376 : decode cL_law 376 = .ok (.iconst 0, 1) := by decide +kernel
theorem dL_law_377 : decode cL_law 377 = .ok (.ireturn, 1) := by decide +kernel
theorem dL_law_378 : decode cL_law 378 = .ok (.aload_n 1, 1) := by decide +kernel
theorem dL_law_379 : decode cL_law 379 = .ok (.aload_n 0, 1) := by decide +kernel
theorem dL_law_380 : decode cL_law 380 = .ok (.iload_n 3, 1) := by decide +kernel
theorem dL_law_381 : decode cL_law 381 = .ok (.iconst 1, 1) := by decide +kernel
theorem dL_law_382 : decode cL_law 382 = .ok (.iadd, 1) := by decide +kernel
theorem dL_law_383 : decode cL_law 383 = .ok (.iaload, 1) := by decide +kernel
theorem dL_law_384 : decode cL_law 384 = .ok (.invokevirtual 40, 3) := by decide +kernel
theorem dL_law_387 : decode cL_law 387 = .ok (.aload_n 2, 1) := by decide +kernel
theorem dL_law_388 : decode cL_law 388 = .ok (.aload_n 0, 1) := by decide +kernel
theorem dL_law_389 : decode cL_law 389 = .ok (.iload_n 3, 1) := by decide +kernel
theorem dL_law_390 : decode cL_law 390 = .ok (.iconst 1, 1) := by decide +kernel
theorem dL_law_391 : decode cL_law 391 = .ok (.iadd, 1) := by decide +kernel
theorem dL_law_392 : decode cL_law 392 = .ok (.iaload, 1) := by decide +kernel
theorem dL_law_393 : decode cL_law 393 = .ok (.invokevirtual 43, 3) := by decide +kernel
theorem dL_law_396 : decode cL_law 396 = .ok (.if_icmp .eq 900, 3) := by decide +kernel
theorem dL_law_399 : decode cL_law 399 = .ok (.iconst 0, 1) := by decide +kernel
theorem dL_law_400 : decode cL_law 400 = .ok (.ireturn, 1) := by decide +kernel
theorem dL_law_401 : decode cL_law 401 = .ok (.aload_n 1, 1) := by decide +kernel
theorem dL_law_402 : decode cL_law 402 = .ok (.aload_n 0, 1) := by decide +kernel
theorem dL_law_403 : decode cL_law 403 = .ok (.iload_n 3, 1) := by decide +kernel
theorem dL_law_404 : decode cL_law 404 = .ok (.iconst 1, 1) := by decide +kernel
theorem dL_law_405 : decode cL_law 405 = .ok (.iadd, 1) := by decide +kernel
theorem dL_law_406 : decode cL_law 406 = .ok (.iaload, 1) := by decide +kernel
theorem dL_law_407 : decode cL_law 407 = .ok (.invokevirtual 44, 3) := by decide +kernel
theorem dL_law_410 : decode cL_law 410 = .ok (.aload_n 2, 1) := by decide +kernel
theorem dL_law_411 : decode cL_law 411 = .ok (.aload_n 0, 1) := by decide +kernel
theorem dL_law_412 : decode cL_law 412 = .ok (.iload_n 3, 1) := by decide +kernel
theorem dL_law_413 : decode cL_law 413 = .ok (.iconst 1, 1) := by decide +kernel
theorem dL_law_414 : decode cL_law 414 = .ok (.iadd, 1) := by decide +kernel
theorem dL_law_415 : decode cL_law 415 = .ok (.iaload, 1) := by decide +kernel
theorem dL_law_416 : decode cL_law 416 = .ok (.invokevirtual 47, 3) := by decide +kernel
theorem dL_law_419 : decode cL_law 419 = .ok (.if_icmp .eq 877, 3) := by decide +kernel
theorem dL_law_422 : decode cL_law 422 = .ok (.iconst 0, 1) := by decide +kernel
theorem dL_law_423 : decode cL_law 423 = .ok (.ireturn, 1) := by decide +kernel
theorem dL_law_424 : decode cL_law 424 = .ok (.aload_n 1, 1) := by decide +kernel
theorem dL_law_425 : decode cL_law 425 = .ok (.invokevirtual 48, 3) := by decide +kernel
theorem dL_law_428 : decode cL_law 428 = .ok (.aload_n 2, 1) := by decide +kernel
theorem dL_law_429 : decode cL_law 429 = .ok (.invokevirtual 52, 3) := by decide +kernel
theorem dL_law_432 : decode cL_law 432 = .ok (.if_icmp .eq 864, 3) := by decide +kernel
theorem dL_law_435 : decode cL_law 435 = .ok (.iconst 0, 1) := by decide +kernel
theorem dL_law_436 : decode cL_law 436 = .ok (.ireturn, 1) := by decide +kernel
theorem dL_law_437 : decode cL_law 437 = .ok (.aload_n 1, 1) := by decide +kernel
theorem dL_law_438 : decode cL_law 438 = .ok (.aload_n 0, 1) := by decide +kernel
theorem dL_law_439 : decode cL_law 439 = .ok (.iload_n 3, 1) := by decide +kernel
theorem dL_law_440 : decode cL_law 440 = .ok (.iconst 1, 1) := by decide +kernel
theorem dL_law_441 : decode cL_law 441 = .ok (.iadd, 1) := by decide +kernel
theorem dL_law_442 : decode cL_law 442 = .ok (.iaload, 1) := by decide +kernel
theorem dL_law_443 : decode cL_law 443 = .ok (.aload_n 0, 1) := by decide +kernel
theorem dL_law_444 : decode cL_law 444 = .ok (.iload_n 3, 1) := by decide +kernel
theorem dL_law_445 : decode cL_law 445 = .ok (.iconst 2, 1) := by decide +kernel
theorem dL_law_446 : decode cL_law 446 = .ok (.iadd, 1) := by decide +kernel
theorem dL_law_447 : decode cL_law 447 = .ok (.iaload, 1) := by decide +kernel
theorem dL_law_448 : decode cL_law 448 = .ok (.aload_n 0, 1) := by decide +kernel
theorem dL_law_449 : decode cL_law 449 = .ok (.iload_n 3, 1) := by decide +kernel
theorem dL_law_450 : decode cL_law 450 = .ok (.iconst 3, 1) := by decide +kernel
theorem dL_law_451 : decode cL_law 451 = .ok (.iadd, 1) := by decide +kernel
theorem dL_law_452 : decode cL_law 452 = .ok (.iaload, 1) := by decide +kernel
theorem dL_law_453 : decode cL_law 453 = .ok (.aload_n 0, 1) := by decide +kernel
theorem dL_law_454 : decode cL_law 454 = .ok (.iload_n 3, 1) := by decide +kernel
theorem dL_law_455 : decode cL_law 455 = .ok (.iconst 4, 1) := by decide +kernel
theorem dL_law_456 : decode cL_law 456 = .ok (.iadd, 1) := by decide +kernel
theorem dL_law_457 : decode cL_law 457 = .ok (.iaload, 1) := by decide +kernel
theorem dL_law_458 : decode cL_law 458 = .ok (.invokevirtual 53, 3) := by decide +kernel
theorem dL_law_461 : decode cL_law 461 = .ok (.aload_n 2, 1) := by decide +kernel
theorem dL_law_462 : decode cL_law 462 = .ok (.aload_n 0, 1) := by decide +kernel
theorem dL_law_463 : decode cL_law 463 = .ok (.iload_n 3, 1) := by decide +kernel
theorem dL_law_464 : decode cL_law 464 = .ok (.iconst 1, 1) := by decide +kernel
theorem dL_law_465 : decode cL_law 465 = .ok (.iadd, 1) := by decide +kernel
theorem dL_law_466 : decode cL_law 466 = .ok (.iaload, 1) := by decide +kernel
theorem dL_law_467 : decode cL_law 467 = .ok (.aload_n 0, 1) := by decide +kernel
theorem dL_law_468 : decode cL_law 468 = .ok (.iload_n 3, 1) := by decide +kernel
theorem dL_law_469 : decode cL_law 469 = .ok (.iconst 2, 1) := by decide +kernel
theorem dL_law_470 : decode cL_law 470 = .ok (.iadd, 1) := by decide +kernel
theorem dL_law_471 : decode cL_law 471 = .ok (.iaload, 1) := by decide +kernel
theorem dL_law_472 : decode cL_law 472 = .ok (.aload_n 0, 1) := by decide +kernel
theorem dL_law_473 : decode cL_law 473 = .ok (.iload_n 3, 1) := by decide +kernel
theorem dL_law_474 : decode cL_law 474 = .ok (.iconst 3, 1) := by decide +kernel
theorem dL_law_475 : decode cL_law 475 = .ok (.iadd, 1) := by decide +kernel
theorem dL_law_476 : decode cL_law 476 = .ok (.iaload, 1) := by decide +kernel
theorem dL_law_477 : decode cL_law 477 = .ok (.aload_n 0, 1) := by decide +kernel
theorem dL_law_478 : decode cL_law 478 = .ok (.iload_n 3, 1) := by decide +kernel
theorem dL_law_479 : decode cL_law 479 = .ok (.iconst 4, 1) := by decide +kernel
theorem dL_law_480 : decode cL_law 480 = .ok (.iadd, 1) := by decide +kernel
theorem dL_law_481 : decode cL_law 481 = .ok (.iaload, 1) := by decide +kernel
theorem dL_law_482 : decode cL_law 482 = .ok (.invokevirtual 57, 3) := by decide +kernel
theorem dL_law_485 : decode cL_law 485 = .ok (.if_icmp .eq 811, 3) := by decide +kernel
theorem dL_law_488 : decode cL_law 488 = .ok (.iconst 0, 1) := by decide +kernel
theorem dL_law_489 : decode cL_law 489 = .ok (.ireturn, 1) := by decide +kernel
theorem dL_law_490 : decode cL_law 490 = .ok (.aload_n 1, 1) := by decide +kernel
theorem dL_law_491 : decode cL_law 491 = .ok (.aload_n 0, 1) := by decide +kernel
theorem dL_law_492 : decode cL_law 492 = .ok (.iload_n 3, 1) := by decide +kernel
theorem dL_law_493 : decode cL_law 493 = .ok (.iconst 1, 1) := by decide +kernel
theorem dL_law_494 : decode cL_law 494 = .ok (.iadd, 1) := by decide +kernel
theorem dL_law_495 : decode cL_law 495 = .ok (.iaload, 1) := by decide +kernel
theorem dL_law_496 : decode cL_law 496 = .ok (.invokevirtual 58, 3) := by decide +kernel
theorem dL_law_499 : decode cL_law 499 = .ok (.aload_n 2, 1) := by decide +kernel
theorem dL_law_500 : decode cL_law 500 = .ok (.aload_n 0, 1) := by decide +kernel
theorem dL_law_501 : decode cL_law 501 = .ok (.iload_n 3, 1) := by decide +kernel
theorem dL_law_502 : decode cL_law 502 = .ok (.iconst 1, 1) := by decide +kernel
theorem dL_law_503 : decode cL_law 503 = .ok (.iadd, 1) := by decide +kernel
theorem dL_law_504 : decode cL_law 504 = .ok (.iaload, 1) := by decide +kernel
theorem dL_law_505 : decode cL_law 505 = .ok (.invokevirtual 61, 3) := by decide +kernel
theorem dL_law_508 : decode cL_law 508 = .ok (.if_icmp .eq 788, 3) := by decide +kernel
theorem dL_law_511 : decode cL_law 511 = .ok (.iconst 0, 1) := by decide +kernel
theorem dL_law_512 : decode cL_law 512 = .ok (.ireturn, 1) := by decide +kernel
theorem dL_law_513 : decode cL_law 513 = .ok (.aload_n 1, 1) := by decide +kernel
theorem dL_law_514 : decode cL_law 514 = .ok (.aload_n 0, 1) := by decide +kernel
theorem dL_law_515 : decode cL_law 515 = .ok (.iload_n 3, 1) := by decide +kernel
theorem dL_law_516 : decode cL_law 516 = .ok (.iconst 1, 1) := by decide +kernel
theorem dL_law_517 : decode cL_law 517 = .ok (.iadd, 1) := by decide +kernel
theorem dL_law_518 : decode cL_law 518 = .ok (.iaload, 1) := by decide +kernel
theorem dL_law_519 : decode cL_law 519 = .ok (.aload_n 0, 1) := by decide +kernel
theorem dL_law_520 : decode cL_law 520 = .ok (.iload_n 3, 1) := by decide +kernel
theorem dL_law_521 : decode cL_law 521 = .ok (.iconst 2, 1) := by decide +kernel
theorem dL_law_522 : decode cL_law 522 = .ok (.iadd, 1) := by decide +kernel
theorem dL_law_523 : decode cL_law 523 = .ok (.iaload, 1) := by decide +kernel
theorem dL_law_524 : decode cL_law 524 = .ok (.invokevirtual 62, 3) := by decide +kernel
theorem dL_law_527 : decode cL_law 527 = .ok (.aload_n 2, 1) := by decide +kernel
theorem dL_law_528 : decode cL_law 528 = .ok (.aload_n 0, 1) := by decide +kernel
theorem dL_law_529 : decode cL_law 529 = .ok (.iload_n 3, 1) := by decide +kernel
theorem dL_law_530 : decode cL_law 530 = .ok (.iconst 1, 1) := by decide +kernel
theorem dL_law_531 : decode cL_law 531 = .ok (.iadd, 1) := by decide +kernel
theorem dL_law_532 : decode cL_law 532 = .ok (.iaload, 1) := by decide +kernel
theorem dL_law_533 : decode cL_law 533 = .ok (.aload_n 0, 1) := by decide +kernel
theorem dL_law_534 : decode cL_law 534 = .ok (.iload_n 3, 1) := by decide +kernel
theorem dL_law_535 : decode cL_law 535 = .ok (.iconst 2, 1) := by decide +kernel
theorem dL_law_536 : decode cL_law 536 = .ok (.iadd, 1) := by decide +kernel
theorem dL_law_537 : decode cL_law 537 = .ok (.iaload, 1) := by decide +kernel
theorem dL_law_538 : decode cL_law 538 = .ok (.invokevirtual 65, 3) := by decide +kernel
theorem dL_law_541 : decode cL_law 541 = .ok (.if_icmp .eq 755, 3) := by decide +kernel
theorem dL_law_544 : decode cL_law 544 = .ok (.iconst 0, 1) := by decide +kernel
theorem dL_law_545 : decode cL_law 545 = .ok (.ireturn, 1) := by decide +kernel
theorem dL_law_546 : decode cL_law 546 = .ok (.aload_n 1, 1) := by decide +kernel
theorem dL_law_547 : decode cL_law 547 = .ok (.aload_n 0, 1) := by decide +kernel
theorem dL_law_548 : decode cL_law 548 = .ok (.iload_n 3, 1) := by decide +kernel
theorem dL_law_549 : decode cL_law 549 = .ok (.iconst 1, 1) := by decide +kernel
theorem dL_law_550 : decode cL_law 550 = .ok (.iadd, 1) := by decide +kernel
theorem dL_law_551 : decode cL_law 551 = .ok (.iaload, 1) := by decide +kernel
theorem dL_law_552 : decode cL_law 552 = .ok (.invokevirtual 66, 3) := by decide +kernel
theorem dL_law_555 : decode cL_law 555 = .ok (.aload_n 2, 1) := by decide +kernel
theorem dL_law_556 : decode cL_law 556 = .ok (.aload_n 0, 1) := by decide +kernel
theorem dL_law_557 : decode cL_law 557 = .ok (.iload_n 3, 1) := by decide +kernel
theorem dL_law_558 : decode cL_law 558 = .ok (.iconst 1, 1) := by decide +kernel
theorem dL_law_559 : decode cL_law 559 = .ok (.iadd, 1) := by decide +kernel
theorem dL_law_560 : decode cL_law 560 = .ok (.iaload, 1) := by decide +kernel
theorem dL_law_561 : decode cL_law 561 = .ok (.invokevirtual 69, 3) := by decide +kernel
theorem dL_law_564 : decode cL_law 564 = .ok (.if_icmp .eq 732, 3) := by decide +kernel
theorem dL_law_567 : decode cL_law 567 = .ok (.iconst 0, 1) := by decide +kernel
theorem dL_law_568 : decode cL_law 568 = .ok (.ireturn, 1) := by decide +kernel
theorem dL_law_569 : decode cL_law 569 = .ok (.aload_n 1, 1) := by decide +kernel
theorem dL_law_570 : decode cL_law 570 = .ok (.aload_n 0, 1) := by decide +kernel
theorem dL_law_571 : decode cL_law 571 = .ok (.iload_n 3, 1) := by decide +kernel
theorem dL_law_572 : decode cL_law 572 = .ok (.iconst 1, 1) := by decide +kernel
theorem dL_law_573 : decode cL_law 573 = .ok (.iadd, 1) := by decide +kernel
theorem dL_law_574 : decode cL_law 574 = .ok (.iaload, 1) := by decide +kernel
theorem dL_law_575 : decode cL_law 575 = .ok (.aload_n 0, 1) := by decide +kernel
theorem dL_law_576 : decode cL_law 576 = .ok (.iload_n 3, 1) := by decide +kernel
theorem dL_law_577 : decode cL_law 577 = .ok (.iconst 2, 1) := by decide +kernel
theorem dL_law_578 : decode cL_law 578 = .ok (.iadd, 1) := by decide +kernel
theorem dL_law_579 : decode cL_law 579 = .ok (.iaload, 1) := by decide +kernel
theorem dL_law_580 : decode cL_law 580 = .ok (.invokevirtual 70, 3) := by decide +kernel
theorem dL_law_583 : decode cL_law 583 = .ok (.aload_n 2, 1) := by decide +kernel
theorem dL_law_584 : decode cL_law 584 = .ok (.aload_n 0, 1) := by decide +kernel
theorem dL_law_585 : decode cL_law 585 = .ok (.iload_n 3, 1) := by decide +kernel
theorem dL_law_586 : decode cL_law 586 = .ok (.iconst 1, 1) := by decide +kernel
theorem dL_law_587 : decode cL_law 587 = .ok (.iadd, 1) := by decide +kernel
theorem dL_law_588 : decode cL_law 588 = .ok (.iaload, 1) := by decide +kernel
theorem dL_law_589 : decode cL_law 589 = .ok (.aload_n 0, 1) := by decide +kernel
theorem dL_law_590 : decode cL_law 590 = .ok (.iload_n 3, 1) := by decide +kernel
theorem dL_law_591 : decode cL_law 591 = .ok (.iconst 2, 1) := by decide +kernel
theorem dL_law_592 : decode cL_law 592 = .ok (.iadd, 1) := by decide +kernel
theorem dL_law_593 : decode cL_law 593 = .ok (.iaload, 1) := by decide +kernel
theorem dL_law_594 : decode cL_law 594 = .ok (.invokevirtual 73, 3) := by decide +kernel
theorem dL_law_597 : decode cL_law 597 = .ok (.if_icmp .eq 699, 3) := by decide +kernel
theorem dL_law_600 : decode cL_law 600 = .ok (.iconst 0, 1) := by decide +kernel
theorem dL_law_601 : decode cL_law 601 = .ok (.ireturn, 1) := by decide +kernel
theorem dL_law_602 : decode cL_law 602 = .ok (.aload_n 1, 1) := by decide +kernel
theorem dL_law_603 : decode cL_law 603 = .ok (.aload_n 0, 1) := by decide +kernel
theorem dL_law_604 : decode cL_law 604 = .ok (.iload_n 3, 1) := by decide +kernel
theorem dL_law_605 : decode cL_law 605 = .ok (.iconst 1, 1) := by decide +kernel
theorem dL_law_606 : decode cL_law 606 = .ok (.iadd, 1) := by decide +kernel
theorem dL_law_607 : decode cL_law 607 = .ok (.iaload, 1) := by decide +kernel
theorem dL_law_608 : decode cL_law 608 = .ok (.invokevirtual 74, 3) := by decide +kernel
theorem dL_law_611 : decode cL_law 611 = .ok (.aload_n 2, 1) := by decide +kernel
theorem dL_law_612 : decode cL_law 612 = .ok (.aload_n 0, 1) := by decide +kernel
theorem dL_law_613 : decode cL_law 613 = .ok (.iload_n 3, 1) := by decide +kernel
theorem dL_law_614 : decode cL_law 614 = .ok (.iconst 1, 1) := by decide +kernel
theorem dL_law_615 : decode cL_law 615 = .ok (.iadd, 1) := by decide +kernel
theorem dL_law_616 : decode cL_law 616 = .ok (.iaload, 1) := by decide +kernel
theorem dL_law_617 : decode cL_law 617 = .ok (.invokevirtual 77, 3) := by decide +kernel
theorem dL_law_620 : decode cL_law 620 = .ok (.if_icmp .eq 676, 3) := by decide +kernel
theorem dL_law_623 : decode cL_law 623 = .ok (.iconst 0, 1) := by decide +kernel
theorem dL_law_624 : decode cL_law 624 = .ok (.ireturn, 1) := by decide +kernel
theorem dL_law_625 : decode cL_law 625 = .ok (.aload_n 1, 1) := by decide +kernel
theorem dL_law_626 : decode cL_law 626 = .ok (.aload_n 0, 1) := by decide +kernel
theorem dL_law_627 : decode cL_law 627 = .ok (.iload_n 3, 1) := by decide +kernel
theorem dL_law_628 : decode cL_law 628 = .ok (.iconst 1, 1) := by decide +kernel
theorem dL_law_629 : decode cL_law 629 = .ok (.iadd, 1) := by decide +kernel
theorem dL_law_630 : decode cL_law 630 = .ok (.iaload, 1) := by decide +kernel
theorem dL_law_631 : decode cL_law 631 = .ok (.invokevirtual 78, 3) := by decide +kernel
theorem dL_law_634 : decode cL_law 634 = .ok (.aload_n 2, 1) := by decide +kernel
theorem dL_law_635 : decode cL_law 635 = .ok (.aload_n 0, 1) := by decide +kernel
theorem dL_law_636 : decode cL_law 636 = .ok (.iload_n 3, 1) := by decide +kernel
theorem dL_law_637 : decode cL_law 637 = .ok (.iconst 1, 1) := by decide +kernel
theorem dL_law_638 : decode cL_law 638 = .ok (.iadd, 1) := by decide +kernel
theorem dL_law_639 : decode cL_law 639 = .ok (.iaload, 1) := by decide +kernel
theorem dL_law_640 : decode cL_law 640 = .ok (.invokevirtual 81, 3) := by decide +kernel
theorem dL_law_643 : decode cL_law 643 = .ok (.if_icmp .eq 653, 3) := by decide +kernel
theorem dL_law_646 : decode cL_law 646 = .ok (.iconst 0, 1) := by decide +kernel
theorem dL_law_647 : decode cL_law 647 = .ok (.ireturn, 1) := by decide +kernel
theorem dL_law_648 : decode cL_law 648 = .ok (.aload_n 1, 1) := by decide +kernel
theorem dL_law_649 : decode cL_law 649 = .ok (.aload_n 0, 1) := by decide +kernel
theorem dL_law_650 : decode cL_law 650 = .ok (.iload_n 3, 1) := by decide +kernel
theorem dL_law_651 : decode cL_law 651 = .ok (.iconst 1, 1) := by decide +kernel
theorem dL_law_652 : decode cL_law 652 = .ok (.iadd, 1) := by decide +kernel
theorem dL_law_653 : decode cL_law 653 = .ok (.iaload, 1) := by decide +kernel
theorem dL_law_654 : decode cL_law 654 = .ok (.aload_n 0, 1) := by decide +kernel
theorem dL_law_655 : decode cL_law 655 = .ok (.iload_n 3, 1) := by decide +kernel
theorem dL_law_656 : decode cL_law 656 = .ok (.iconst 2, 1) := by decide +kernel
theorem dL_law_657 : decode cL_law 657 = .ok (.iadd, 1) := by decide +kernel
theorem dL_law_658 : decode cL_law 658 = .ok (.iaload, 1) := by decide +kernel
theorem dL_law_659 : decode cL_law 659 = .ok (.invokevirtual 82, 3) := by decide +kernel
theorem dL_law_662 : decode cL_law 662 = .ok (.aload_n 2, 1) := by decide +kernel
theorem dL_law_663 : decode cL_law 663 = .ok (.aload_n 0, 1) := by decide +kernel
theorem dL_law_664 : decode cL_law 664 = .ok (.iload_n 3, 1) := by decide +kernel
theorem dL_law_665 : decode cL_law 665 = .ok (.iconst 1, 1) := by decide +kernel
theorem dL_law_666 : decode cL_law 666 = .ok (.iadd, 1) := by decide +kernel
theorem dL_law_667 : decode cL_law 667 = .ok (.iaload, 1) := by decide +kernel
theorem dL_law_668 : decode cL_law 668 = .ok (.aload_n 0, 1) := by decide +kernel
theorem dL_law_669 : decode cL_law 669 = .ok (.iload_n 3, 1) := by decide +kernel
theorem dL_law_670 : decode cL_law 670 = .ok (.iconst 2, 1) := by decide +kernel
theorem dL_law_671 : decode cL_law 671 = .ok (.iadd, 1) := by decide +kernel
theorem dL_law_672 : decode cL_law 672 = .ok (.iaload, 1) := by decide +kernel
theorem dL_law_673 : decode cL_law 673 = .ok (.invokevirtual 85, 3) := by decide +kernel
theorem dL_law_676 : decode cL_law 676 = .ok (.if_icmp .eq 620, 3) := by decide +kernel
theorem dL_law_679 : decode cL_law 679 = .ok (.iconst 0, 1) := by decide +kernel
theorem dL_law_680 : decode cL_law 680 = .ok (.ireturn, 1) := by decide +kernel
theorem dL_law_681 : decode cL_law 681 = .ok (.aload_n 1, 1) := by decide +kernel
theorem dL_law_682 : decode cL_law 682 = .ok (.aload_n 0, 1) := by decide +kernel
theorem dL_law_683 : decode cL_law 683 = .ok (.iload_n 3, 1) := by decide +kernel
theorem dL_law_684 : decode cL_law 684 = .ok (.iconst 1, 1) := by decide +kernel
theorem dL_law_685 : decode cL_law 685 = .ok (.iadd, 1) := by decide +kernel
theorem dL_law_686 : decode cL_law 686 = .ok (.iaload, 1) := by decide +kernel
theorem dL_law_687 : decode cL_law 687 = .ok (.aload_n 0, 1) := by decide +kernel
theorem dL_law_688 : decode cL_law 688 = .ok (.iload_n 3, 1) := by decide +kernel
theorem dL_law_689 : decode cL_law 689 = .ok (.iconst 2, 1) := by decide +kernel
theorem dL_law_690 : decode cL_law 690 = .ok (.iadd, 1) := by decide +kernel
theorem dL_law_691 : decode cL_law 691 = .ok (.iaload, 1) := by decide +kernel
theorem dL_law_692 : decode cL_law 692 = .ok (.aload_n 0, 1) := by decide +kernel
theorem dL_law_693 : decode cL_law 693 = .ok (.iload_n 3, 1) := by decide +kernel
theorem dL_law_694 : decode cL_law 694 = .ok (.iconst 3, 1) := by decide +kernel
theorem dL_law_695 : decode cL_law 695 = .ok (.iadd, 1) := by decide +kernel
theorem dL_law_696 : decode cL_law 696 = .ok (.iaload, 1) := by decide +kernel
theorem dL_law_697 : decode cL_law 697 = .ok (.aload_n 0, 1) := by decide +kernel
theorem dL_law_698 : decode cL_law 698 = .ok (.iload_n 3, 1) := by decide +kernel
theorem dL_law_699 : decode cL_law 699 = .ok (.iconst 4, 1) := by decide +kernel
theorem dL_law_700 : decode cL_law 700 = .ok (.iadd, 1) := by decide +kernel
theorem dL_law_701 : decode cL_law 701 = .ok (.iaload, 1) := by decide +kernel
theorem dL_law_702 : decode cL_law 702 = .ok (.invokevirtual 86, 3) := by decide +kernel
theorem dL_law_705 : decode cL_law 705 = .ok (.aload_n 2, 1) := by decide +kernel
theorem dL_law_706 : decode cL_law 706 = .ok (.aload_n 0, 1) := by decide +kernel
theorem dL_law_707 : decode cL_law 707 = .ok (.iload_n 3, 1) := by decide +kernel
theorem dL_law_708 : decode cL_law 708 = .ok (.iconst 1, 1) := by decide +kernel
theorem dL_law_709 : decode cL_law 709 = .ok (.iadd, 1) := by decide +kernel
theorem dL_law_710 : decode cL_law 710 = .ok (.iaload, 1) := by decide +kernel
theorem dL_law_711 : decode cL_law 711 = .ok (.aload_n 0, 1) := by decide +kernel
theorem dL_law_712 : decode cL_law 712 = .ok (.iload_n 3, 1) := by decide +kernel
theorem dL_law_713 : decode cL_law 713 = .ok (.iconst 2, 1) := by decide +kernel
theorem dL_law_714 : decode cL_law 714 = .ok (.iadd, 1) := by decide +kernel
theorem dL_law_715 : decode cL_law 715 = .ok (.iaload, 1) := by decide +kernel
theorem dL_law_716 : decode cL_law 716 = .ok (.aload_n 0, 1) := by decide +kernel
theorem dL_law_717 : decode cL_law 717 = .ok (.iload_n 3, 1) := by decide +kernel
theorem dL_law_718 : decode cL_law 718 = .ok (.iconst 3, 1) := by decide +kernel
theorem dL_law_719 : decode cL_law 719 = .ok (.iadd, 1) := by decide +kernel
theorem dL_law_720 : decode cL_law 720 = .ok (.iaload, 1) := by decide +kernel
theorem dL_law_721 : decode cL_law 721 = .ok (.aload_n 0, 1) := by decide +kernel
theorem dL_law_722 : decode cL_law 722 = .ok (.iload_n 3, 1) := by decide +kernel
theorem dL_law_723 : decode cL_law 723 = .ok (.iconst 4, 1) := by decide +kernel
theorem dL_law_724 : decode cL_law 724 = .ok (.iadd, 1) := by decide +kernel
theorem dL_law_725 : decode cL_law 725 = .ok (.iaload, 1) := by decide +kernel
theorem dL_law_726 : decode cL_law 726 = .ok (.invokevirtual 89, 3) := by decide +kernel
theorem dL_law_729 : decode cL_law 729 = .ok (.if_icmp .eq 567, 3) := by decide +kernel
theorem dL_law_732 : decode cL_law 732 = .ok (.iconst 0, 1) := by decide +kernel
theorem dL_law_733 : decode cL_law 733 = .ok (.ireturn, 1) := by decide +kernel
theorem dL_law_734 : decode cL_law 734 = .ok (.aload_n 1, 1) := by decide +kernel
theorem dL_law_735 : decode cL_law 735 = .ok (.aload_n 0, 1) := by decide +kernel
theorem dL_law_736 : decode cL_law 736 = .ok (.iload_n 3, 1) := by decide +kernel
theorem dL_law_737 : decode cL_law 737 = .ok (.iconst 1, 1) := by decide +kernel
theorem dL_law_738 : decode cL_law 738 = .ok (.iadd, 1) := by decide +kernel
theorem dL_law_739 : decode cL_law 739 = .ok (.iaload, 1) := by decide +kernel
theorem dL_law_740 : decode cL_law 740 = .ok (.aload_n 0, 1) := by decide +kernel
theorem dL_law_741 : decode cL_law 741 = .ok (.iload_n 3, 1) := by decide +kernel
theorem dL_law_742 : decode cL_law 742 = .ok (.iconst 2, 1) := by decide +kernel
theorem dL_law_743 : decode cL_law 743 = .ok (.iadd, 1) := by decide +kernel
theorem dL_law_744 : decode cL_law 744 = .ok (.iaload, 1) := by decide +kernel
theorem dL_law_745 : decode cL_law 745 = .ok (.invokevirtual 90, 3) := by decide +kernel
theorem dL_law_748 : decode cL_law 748 = .ok (.aload_n 2, 1) := by decide +kernel
theorem dL_law_749 : decode cL_law 749 = .ok (.aload_n 0, 1) := by decide +kernel
theorem dL_law_750 : decode cL_law 750 = .ok (.iload_n 3, 1) := by decide +kernel
theorem dL_law_751 : decode cL_law 751 = .ok (.iconst 1, 1) := by decide +kernel
theorem dL_law_752 : decode cL_law 752 = .ok (.iadd, 1) := by decide +kernel
theorem dL_law_753 : decode cL_law 753 = .ok (.iaload, 1) := by decide +kernel
theorem dL_law_754 : decode cL_law 754 = .ok (.aload_n 0, 1) := by decide +kernel
theorem dL_law_755 : decode cL_law 755 = .ok (.iload_n 3, 1) := by decide +kernel
theorem dL_law_756 : decode cL_law 756 = .ok (.iconst 2, 1) := by decide +kernel
theorem dL_law_757 : decode cL_law 757 = .ok (.iadd, 1) := by decide +kernel
theorem dL_law_758 : decode cL_law 758 = .ok (.iaload, 1) := by decide +kernel
theorem dL_law_759 : decode cL_law 759 = .ok (.invokevirtual 93, 3) := by decide +kernel
theorem dL_law_762 : decode cL_law 762 = .ok (.if_icmp .eq 534, 3) := by decide +kernel
theorem dL_law_765 : decode cL_law 765 = .ok (.iconst 0, 1) := by decide +kernel
theorem dL_law_766 : decode cL_law 766 = .ok (.ireturn, 1) := by decide +kernel
theorem dL_law_767 : decode cL_law 767 = .ok (.aload_n 1, 1) := by decide +kernel
theorem dL_law_768 : decode cL_law 768 = .ok (.aload_n 0, 1) := by decide +kernel
theorem dL_law_769 : decode cL_law 769 = .ok (.iload_n 3, 1) := by decide +kernel
theorem dL_law_770 : decode cL_law 770 = .ok (.iconst 1, 1) := by decide +kernel
theorem dL_law_771 : decode cL_law 771 = .ok (.iadd, 1) := by decide +kernel
theorem dL_law_772 : decode cL_law 772 = .ok (.iaload, 1) := by decide +kernel
theorem dL_law_773 : decode cL_law 773 = .ok (.invokevirtual 94, 3) := by decide +kernel
theorem dL_law_776 : decode cL_law 776 = .ok (.aload_n 2, 1) := by decide +kernel
theorem dL_law_777 : decode cL_law 777 = .ok (.aload_n 0, 1) := by decide +kernel
theorem dL_law_778 : decode cL_law 778 = .ok (.iload_n 3, 1) := by decide +kernel
theorem dL_law_779 : decode cL_law 779 = .ok (.iconst 1, 1) := by decide +kernel
theorem dL_law_780 : decode cL_law 780 = .ok (.iadd, 1) := by decide +kernel
theorem dL_law_781 : decode cL_law 781 = .ok (.iaload, 1) := by decide +kernel
theorem dL_law_782 : decode cL_law 782 = .ok (.invokevirtual 97, 3) := by decide +kernel
theorem dL_law_785 : decode cL_law 785 = .ok (.if_icmp .eq 511, 3) := by decide +kernel
theorem dL_law_788 : decode cL_law 788 = .ok (.iconst 0, 1) := by decide +kernel
theorem dL_law_789 : decode cL_law 789 = .ok (.ireturn, 1) := by decide +kernel
theorem dL_law_790 : decode cL_law 790 = .ok (.aload_n 1, 1) := by decide +kernel
theorem dL_law_791 : decode cL_law 791 = .ok (.aload_n 0, 1) := by decide +kernel
theorem dL_law_792 : decode cL_law 792 = .ok (.iload_n 3, 1) := by decide +kernel
theorem dL_law_793 : decode cL_law 793 = .ok (.iconst 1, 1) := by decide +kernel
theorem dL_law_794 : decode cL_law 794 = .ok (.iadd, 1) := by decide +kernel
theorem dL_law_795 : decode cL_law 795 = .ok (.iaload, 1) := by decide +kernel
theorem dL_law_796 : decode cL_law 796 = .ok (.aload_n 0, 1) := by decide +kernel
theorem dL_law_797 : decode cL_law 797 = .ok (.iload_n 3, 1) := by decide +kernel
theorem dL_law_798 : decode cL_law 798 = .ok (.iconst 2, 1) := by decide +kernel
theorem dL_law_799 : decode cL_law 799 = .ok (.iadd, 1) := by decide +kernel
theorem dL_law_800 : decode cL_law 800 = .ok (.iaload, 1) := by decide +kernel
theorem dL_law_801 : decode cL_law 801 = .ok (.aload_n 0, 1) := by decide +kernel
theorem dL_law_802 : decode cL_law 802 = .ok (.iload_n 3, 1) := by decide +kernel
theorem dL_law_803 : decode cL_law 803 = .ok (.iconst 3, 1) := by decide +kernel
theorem dL_law_804 : decode cL_law 804 = .ok (.iadd, 1) := by decide +kernel
theorem dL_law_805 : decode cL_law 805 = .ok (.iaload, 1) := by decide +kernel
theorem dL_law_806 : decode cL_law 806 = .ok (.invokevirtual 98, 3) := by decide +kernel
theorem dL_law_809 : decode cL_law 809 = .ok (.aload_n 2, 1) := by decide +kernel
theorem dL_law_810 : decode cL_law 810 = .ok (.aload_n 0, 1) := by decide +kernel
theorem dL_law_811 : decode cL_law 811 = .ok (.iload_n 3, 1) := by decide +kernel
theorem dL_law_812 : decode cL_law 812 = .ok (.iconst 1, 1) := by decide +kernel
theorem dL_law_813 : decode cL_law 813 = .ok (.iadd, 1) := by decide +kernel
theorem dL_law_814 : decode cL_law 814 = .ok (.iaload, 1) := by decide +kernel
theorem dL_law_815 : decode cL_law 815 = .ok (.aload_n 0, 1) := by decide +kernel
theorem dL_law_816 : decode cL_law 816 = .ok (.iload_n 3, 1) := by decide +kernel
theorem dL_law_817 : decode cL_law 817 = .ok (.iconst 2, 1) := by decide +kernel
theorem dL_law_818 : decode cL_law 818 = .ok (.iadd, 1) := by decide +kernel
theorem dL_law_819 : decode cL_law 819 = .ok (.iaload, 1) := by decide +kernel
theorem dL_law_820 : decode cL_law 820 = .ok (.aload_n 0, 1) := by decide +kernel
theorem dL_law_821 : decode cL_law 821 = .ok (.iload_n 3, 1) := by decide +kernel
theorem dL_law_822 : decode cL_law 822 = .ok (.iconst 3, 1) := by decide +kernel
theorem dL_law_823 : decode cL_law 823 = .ok (.iadd, 1) := by decide +kernel
theorem dL_law_824 : decode cL_law 824 = .ok (.iaload, 1) := by decide +kernel
theorem dL_law_825 : decode cL_law 825 = .ok (.invokevirtual 101, 3) := by decide +kernel
theorem dL_law_828 : decode cL_law 828 = .ok (.if_icmp .eq 468, 3) := by decide +kernel
theorem dL_law_831 : decode cL_law 831 = .ok (.iconst 0, 1) := by decide +kernel
theorem dL_law_832 : decode cL_law 832 = .ok (.ireturn, 1) := by decide +kernel
theorem dL_law_833 : decode cL_law 833 = .ok (.aload_n 1, 1) := by decide +kernel
theorem dL_law_834 : decode cL_law 834 = .ok (.aload_n 0, 1) := by decide +kernel
theorem dL_law_835 : decode cL_law 835 = .ok (.iload_n 3, 1) := by decide +kernel
theorem dL_law_836 : decode cL_law 836 = .ok (.iconst 1, 1) := by decide +kernel
theorem dL_law_837 : decode cL_law 837 = .ok (.iadd, 1) := by decide +kernel
theorem dL_law_838 : decode cL_law 838 = .ok (.iaload, 1) := by decide +kernel
theorem dL_law_839 : decode cL_law 839 = .ok (.invokevirtual 102, 3) := by decide +kernel
theorem dL_law_842 : decode cL_law 842 = .ok (.aload_n 2, 1) := by decide +kernel
theorem dL_law_843 : decode cL_law 843 = .ok (.aload_n 0, 1) := by decide +kernel
theorem dL_law_844 : decode cL_law 844 = .ok (.iload_n 3, 1) := by decide +kernel
theorem dL_law_845 : decode cL_law 845 = .ok (.iconst 1, 1) := by decide +kernel
theorem dL_law_846 : decode cL_law 846 = .ok (.iadd, 1) := by decide +kernel
theorem dL_law_847 : decode cL_law 847 = .ok (.iaload, 1) := by decide +kernel
theorem dL_law_848 : decode cL_law 848 = .ok (.invokevirtual 105, 3) := by decide +kernel
theorem dL_law_851 : decode cL_law 851 = .ok (.if_icmp .eq 445, 3) := by decide +kernel
theorem dL_law_854 : decode cL_law 854 = .ok (.iconst 0, 1) := by decide +kernel
theorem dL_law_855 : decode cL_law 855 = .ok (.ireturn, 1) := by decide +kernel
theorem dL_law_856 : decode cL_law 856 = .ok (.aload_n 1, 1) := by decide +kernel
theorem dL_law_857 : decode cL_law 857 = .ok (.aload_n 0, 1) := by decide +kernel
theorem dL_law_858 : decode cL_law 858 = .ok (.iload_n 3, 1) := by decide +kernel
theorem dL_law_859 : decode cL_law 859 = .ok (.iconst 1, 1) := by decide +kernel
theorem dL_law_860 : decode cL_law 860 = .ok (.iadd, 1) := by decide +kernel
theorem dL_law_861 : decode cL_law 861 = .ok (.iaload, 1) := by decide +kernel
theorem dL_law_862 : decode cL_law 862 = .ok (.aload_n 0, 1) := by decide +kernel
theorem dL_law_863 : decode cL_law 863 = .ok (.iload_n 3, 1) := by decide +kernel
theorem dL_law_864 : decode cL_law 864 = .ok (.iconst 2, 1) := by decide +kernel
theorem dL_law_865 : decode cL_law 865 = .ok (.iadd, 1) := by decide +kernel
theorem dL_law_866 : decode cL_law 866 = .ok (.iaload, 1) := by decide +kernel
theorem dL_law_867 : decode cL_law 867 = .ok (.ifCond .eq 7, 3) := by decide +kernel
theorem dL_law_870 : decode cL_law 870 = .ok (.iconst 1, 1) := by decide +kernel
theorem dL_law_871 : decode cL_law 871 = .ok (.goto 4, 3) := by decide +kernel
theorem dL_law_874 : decode cL_law 874 = .ok (.iconst 0, 1) := by decide +kernel
theorem dL_law_875 : decode cL_law 875 = .ok (.invokevirtual 106, 3) := by decide +kernel
theorem dL_law_878 : decode cL_law 878 = .ok (.aload_n 2, 1) := by decide +kernel
theorem dL_law_879 : decode cL_law 879 = .ok (.aload_n 0, 1) := by decide +kernel
theorem dL_law_880 : decode cL_law 880 = .ok (.iload_n 3, 1) := by decide +kernel
theorem dL_law_881 : decode cL_law 881 = .ok (.iconst 1, 1) := by decide +kernel
theorem dL_law_882 : decode cL_law 882 = .ok (.iadd, 1) := by decide +kernel
theorem dL_law_883 : decode cL_law 883 = .ok (.iaload, 1) := by decide +kernel
theorem dL_law_884 : decode cL_law 884 = .ok (.aload_n 0, 1) := by decide +kernel
theorem dL_law_885 : decode cL_law 885 = .ok (.iload_n 3, 1) := by decide +kernel
theorem dL_law_886 : decode cL_law 886 = .ok (.iconst 2, 1) := by decide +kernel
theorem dL_law_887 : decode cL_law 887 = .ok (.iadd, 1) := by decide +kernel
theorem dL_law_888 : decode cL_law 888 = .ok (.iaload, 1) := by decide +kernel
theorem dL_law_889 : decode cL_law 889 = .ok (.ifCond .eq 7, 3) := by decide +kernel
theorem dL_law_892 : decode cL_law 892 = .ok (.iconst 1, 1) := by decide +kernel
theorem dL_law_893 : decode cL_law 893 = .ok (.goto 4, 3) := by decide +kernel
theorem dL_law_896 : decode cL_law 896 = .ok (.iconst 0, 1) := by decide +kernel
theorem dL_law_897 : decode cL_law 897 = .ok (.invokevirtual 110, 3) := by decide +kernel
theorem dL_law_900 : decode cL_law 900 = .ok (.if_icmp .eq 396, 3) := by decide +kernel
theorem dL_law_903 : decode cL_law 903 = .ok (.iconst 0, 1) := by decide +kernel
theorem dL_law_904 : decode cL_law 904 = .ok (.ireturn, 1) := by decide +kernel
theorem dL_law_905 : decode cL_law 905 = .ok (.aload_n 1, 1) := by decide +kernel
theorem dL_law_906 : decode cL_law 906 = .ok (.aload_n 0, 1) := by decide +kernel
theorem dL_law_907 : decode cL_law 907 = .ok (.iload_n 3, 1) := by decide +kernel
theorem dL_law_908 : decode cL_law 908 = .ok (.iconst 1, 1) := by decide +kernel
theorem dL_law_909 : decode cL_law 909 = .ok (.iadd, 1) := by decide +kernel
theorem dL_law_910 : decode cL_law 910 = .ok (.iaload, 1) := by decide +kernel
theorem dL_law_911 : decode cL_law 911 = .ok (.aload_n 0, 1) := by decide +kernel
theorem dL_law_912 : decode cL_law 912 = .ok (.iload_n 3, 1) := by decide +kernel
theorem dL_law_913 : decode cL_law 913 = .ok (.iconst 2, 1) := by decide +kernel
theorem dL_law_914 : decode cL_law 914 = .ok (.iadd, 1) := by decide +kernel
theorem dL_law_915 : decode cL_law 915 = .ok (.iaload, 1) := by decide +kernel
theorem dL_law_916 : decode cL_law 916 = .ok (.invokevirtual 111, 3) := by decide +kernel
theorem dL_law_919 : decode cL_law 919 = .ok (.aload_n 2, 1) := by decide +kernel
theorem dL_law_920 : decode cL_law 920 = .ok (.aload_n 0, 1) := by decide +kernel
theorem dL_law_921 : decode cL_law 921 = .ok (.iload_n 3, 1) := by decide +kernel
theorem dL_law_922 : decode cL_law 922 = .ok (.iconst 1, 1) := by decide +kernel
theorem dL_law_923 : decode cL_law 923 = .ok (.iadd, 1) := by decide +kernel
theorem dL_law_924 : decode cL_law 924 = .ok (.iaload, 1) := by decide +kernel
theorem dL_law_925 : decode cL_law 925 = .ok (.aload_n 0, 1) := by decide +kernel
theorem dL_law_926 : decode cL_law 926 = .ok (.iload_n 3, 1) := by decide +kernel
theorem dL_law_927 : decode cL_law 927 = .ok (.iconst 2, 1) := by decide +kernel
theorem dL_law_928 : decode cL_law 928 = .ok (.iadd, 1) := by decide +kernel
theorem dL_law_929 : decode cL_law 929 = .ok (.iaload, 1) := by decide +kernel
theorem dL_law_930 : decode cL_law 930 = .ok (.invokevirtual 114, 3) := by decide +kernel
theorem dL_law_933 : decode cL_law 933 = .ok (.if_icmp .eq 363, 3) := by decide +kernel
theorem dL_law_936 : decode cL_law 936 = .ok (.iconst 0, 1) := by decide +kernel
theorem dL_law_937 : decode cL_law 937 = .ok (.ireturn, 1) := by decide +kernel
theorem dL_law_938 : decode cL_law 938 = .ok (.aload_n 1, 1) := by decide +kernel
theorem dL_law_939 : decode cL_law 939 = .ok (.aload_n 0, 1) := by decide +kernel
theorem dL_law_940 : decode cL_law 940 = .ok (.iload_n 3, 1) := by decide +kernel
theorem dL_law_941 : decode cL_law 941 = .ok (.iconst 1, 1) := by decide +kernel
theorem dL_law_942 : decode cL_law 942 = .ok (.iadd, 1) := by decide +kernel
theorem dL_law_943 : decode cL_law 943 = .ok (.iaload, 1) := by decide +kernel
theorem dL_law_944 : decode cL_law 944 = .ok (.aload_n 0, 1) := by decide +kernel
theorem dL_law_945 : decode cL_law 945 = .ok (.iload_n 3, 1) := by decide +kernel
theorem dL_law_946 : decode cL_law 946 = .ok (.iconst 2, 1) := by decide +kernel
theorem dL_law_947 : decode cL_law 947 = .ok (.iadd, 1) := by decide +kernel
theorem dL_law_948 : decode cL_law 948 = .ok (.iaload, 1) := by decide +kernel
theorem dL_law_949 : decode cL_law 949 = .ok (.aload_n 0, 1) := by decide +kernel
theorem dL_law_950 : decode cL_law 950 = .ok (.iload_n 3, 1) := by decide +kernel
theorem dL_law_951 : decode cL_law 951 = .ok (.iconst 3, 1) := by decide +kernel
theorem dL_law_952 : decode cL_law 952 = .ok (.iadd, 1) := by decide +kernel
theorem dL_law_953 : decode cL_law 953 = .ok (.iaload, 1) := by decide +kernel
theorem dL_law_954 : decode cL_law 954 = .ok (.aload_n 0, 1) := by decide +kernel
theorem dL_law_955 : decode cL_law 955 = .ok (.iload_n 3, 1) := by decide +kernel
theorem dL_law_956 : decode cL_law 956 = .ok (.iconst 4, 1) := by decide +kernel
theorem dL_law_957 : decode cL_law 957 = .ok (.iadd, 1) := by decide +kernel
theorem dL_law_958 : decode cL_law 958 = .ok (.iaload, 1) := by decide +kernel
theorem dL_law_959 : decode cL_law 959 = .ok (.invokevirtual 115, 3) := by decide +kernel
theorem dL_law_962 : decode cL_law 962 = .ok (.aload_n 2, 1) := by decide +kernel
theorem dL_law_963 : decode cL_law 963 = .ok (.aload_n 0, 1) := by decide +kernel
theorem dL_law_964 : decode cL_law 964 = .ok (.iload_n 3, 1) := by decide +kernel
theorem dL_law_965 : decode cL_law 965 = .ok (.iconst 1, 1) := by decide +kernel
theorem dL_law_966 : decode cL_law 966 = .ok (.iadd, 1) := by decide +kernel
theorem dL_law_967 : decode cL_law 967 = .ok (.iaload, 1) := by decide +kernel
theorem dL_law_968 : decode cL_law 968 = .ok (.aload_n 0, 1) := by decide +kernel
theorem dL_law_969 : decode cL_law 969 = .ok (.iload_n 3, 1) := by decide +kernel
theorem dL_law_970 : decode cL_law 970 = .ok (.iconst 2, 1) := by decide +kernel
theorem dL_law_971 : decode cL_law 971 = .ok (.iadd, 1) := by decide +kernel
theorem dL_law_972 : decode cL_law 972 = .ok (.iaload, 1) := by decide +kernel
theorem dL_law_973 : decode cL_law 973 = .ok (.aload_n 0, 1) := by decide +kernel
theorem dL_law_974 : decode cL_law 974 = .ok (.iload_n 3, 1) := by decide +kernel
theorem dL_law_975 : decode cL_law 975 = .ok (.iconst 3, 1) := by decide +kernel
theorem dL_law_976 : decode cL_law 976 = .ok (.iadd, 1) := by decide +kernel
theorem dL_law_977 : decode cL_law 977 = .ok (.iaload, 1) := by decide +kernel
theorem dL_law_978 : decode cL_law 978 = .ok (.aload_n 0, 1) := by decide +kernel
theorem dL_law_979 : decode cL_law 979 = .ok (.iload_n 3, 1) := by decide +kernel
theorem dL_law_980 : decode cL_law 980 = .ok (.iconst 4, 1) := by decide +kernel
theorem dL_law_981 : decode cL_law 981 = .ok (.iadd, 1) := by decide +kernel
theorem dL_law_982 : decode cL_law 982 = .ok (.iaload, 1) := by decide +kernel
theorem dL_law_983 : decode cL_law 983 = .ok (.invokevirtual 118, 3) := by decide +kernel
theorem dL_law_986 : decode cL_law 986 = .ok (.if_icmp .eq 310, 3) := by decide +kernel
theorem dL_law_989 : decode cL_law 989 = .ok (.iconst 0, 1) := by decide +kernel
theorem dL_law_990 : decode cL_law 990 = .ok (.ireturn, 1) := by decide +kernel
theorem dL_law_991 : decode cL_law 991 = .ok (.aload_n 1, 1) := by decide +kernel
theorem dL_law_992 : decode cL_law 992 = .ok (.aload_n 0, 1) := by decide +kernel
theorem dL_law_993 : decode cL_law 993 = .ok (.iload_n 3, 1) := by decide +kernel
theorem dL_law_994 : decode cL_law 994 = .ok (.iconst 1, 1) := by decide +kernel
theorem dL_law_995 : decode cL_law 995 = .ok (.iadd, 1) := by decide +kernel
theorem dL_law_996 : decode cL_law 996 = .ok (.iaload, 1) := by decide +kernel
theorem dL_law_997 : decode cL_law 997 = .ok (.aload_n 0, 1) := by decide +kernel
theorem dL_law_998 : decode cL_law 998 = .ok (.iload_n 3, 1) := by decide +kernel
theorem dL_law_999 : decode cL_law 999 = .ok (.iconst 2, 1) := by decide +kernel
theorem dL_law_1000 : decode cL_law 1000 = .ok (.iadd, 1) := by decide +kernel
theorem dL_law_1001 : decode cL_law 1001 = .ok (.iaload, 1) := by decide +kernel
theorem dL_law_1002 : decode cL_law 1002 = .ok (.aload_n 0, 1) := by decide +kernel
theorem dL_law_1003 : decode cL_law 1003 = .ok (.iload_n 3, 1) := by decide +kernel
theorem dL_law_1004 : decode cL_law 1004 = .ok (.iconst 3, 1) := by decide +kernel
theorem dL_law_1005 : decode cL_law 1005 = .ok (.iadd, 1) := by decide +kernel
theorem dL_law_1006 : decode cL_law 1006 = .ok (.iaload, 1) := by decide +kernel
theorem dL_law_1007 : decode cL_law 1007 = .ok (.invokevirtual 119, 3) := by decide +kernel
theorem dL_law_1010 : decode cL_law 1010 = .ok (.aload_n 2, 1) := by decide +kernel
theorem dL_law_1011 : decode cL_law 1011 = .ok (.aload_n 0, 1) := by decide +kernel
theorem dL_law_1012 : decode cL_law 1012 = .ok (.iload_n 3, 1) := by decide +kernel
theorem dL_law_1013 : decode cL_law 1013 = .ok (.iconst 1, 1) := by decide +kernel
theorem dL_law_1014 : decode cL_law 1014 = .ok (.iadd, 1) := by decide +kernel
theorem dL_law_1015 : decode cL_law 1015 = .ok (.iaload, 1) := by decide +kernel
theorem dL_law_1016 : decode cL_law 1016 = .ok (.aload_n 0, 1) := by decide +kernel
theorem dL_law_1017 : decode cL_law 1017 = .ok (.iload_n 3, 1) := by decide +kernel
theorem dL_law_1018 : decode cL_law 1018 = .ok (.iconst 2, 1) := by decide +kernel
theorem dL_law_1019 : decode cL_law 1019 = .ok (.iadd, 1) := by decide +kernel
theorem dL_law_1020 : decode cL_law 1020 = .ok (.iaload, 1) := by decide +kernel
theorem dL_law_1021 : decode cL_law 1021 = .ok (.aload_n 0, 1) := by decide +kernel
theorem dL_law_1022 : decode cL_law 1022 = .ok (.iload_n 3, 1) := by decide +kernel
theorem dL_law_1023 : decode cL_law 1023 = .ok (.iconst 3, 1) := by decide +kernel
theorem dL_law_1024 : decode cL_law 1024 = .ok (.iadd, 1) := by decide +kernel
theorem dL_law_1025 : decode cL_law 1025 = .ok (.iaload, 1) := by decide +kernel
theorem dL_law_1026 : decode cL_law 1026 = .ok (.invokevirtual 122, 3) := by decide +kernel
theorem dL_law_1029 : decode cL_law 1029 = .ok (.if_icmp .eq 267, 3) := by decide +kernel
theorem dL_law_1032 : decode cL_law 1032 = .ok (.iconst 0, 1) := by decide +kernel
theorem dL_law_1033 : decode cL_law 1033 = .ok (.ireturn, 1) := by decide +kernel
theorem dL_law_1034 : decode cL_law 1034 = .ok (.aload_n 1, 1) := by decide +kernel
theorem dL_law_1035 : decode cL_law 1035 = .ok (.aload_n 0, 1) := by decide +kernel
theorem dL_law_1036 : decode cL_law 1036 = .ok (.iload_n 3, 1) := by decide +kernel
theorem dL_law_1037 : decode cL_law 1037 = .ok (.iconst 1, 1) := by decide +kernel
theorem dL_law_1038 : decode cL_law 1038 = .ok (.iadd, 1) := by decide +kernel
theorem dL_law_1039 : decode cL_law 1039 = .ok (.iaload, 1) := by decide +kernel
theorem dL_law_1040 : decode cL_law 1040 = .ok (.aload_n 0, 1) := by decide +kernel
theorem dL_law_1041 : decode cL_law 1041 = .ok (.iload_n 3, 1) := by decide +kernel
theorem dL_law_1042 : decode cL_law 1042 = .ok (.iconst 2, 1) := by decide +kernel
theorem dL_law_1043 : decode cL_law 1043 = .ok (.iadd, 1) := by decide +kernel
theorem dL_law_1044 : decode cL_law 1044 = .ok (.iaload, 1) := by decide +kernel
theorem dL_law_1045 : decode cL_law 1045 = .ok (.aload_n 0, 1) := by decide +kernel
theorem dL_law_1046 : decode cL_law 1046 = .ok (.iload_n 3, 1) := by decide +kernel
theorem dL_law_1047 : decode cL_law 1047 = .ok (.iconst 3, 1) := by decide +kernel
theorem dL_law_1048 : decode cL_law 1048 = .ok (.iadd, 1) := by decide +kernel
theorem dL_law_1049 : decode cL_law 1049 = .ok (.iaload, 1) := by decide +kernel
theorem dL_law_1050 : decode cL_law 1050 = .ok (.invokevirtual 123, 3) := by decide +kernel
theorem dL_law_1053 : decode cL_law 1053 = .ok (.aload_n 2, 1) := by decide +kernel
theorem dL_law_1054 : decode cL_law 1054 = .ok (.aload_n 0, 1) := by decide +kernel
theorem dL_law_1055 : decode cL_law 1055 = .ok (.iload_n 3, 1) := by decide +kernel
theorem dL_law_1056 : decode cL_law 1056 = .ok (.iconst 1, 1) := by decide +kernel
theorem dL_law_1057 : decode cL_law 1057 = .ok (.iadd, 1) := by decide +kernel
theorem dL_law_1058 : decode cL_law 1058 = .ok (.iaload, 1) := by decide +kernel
theorem dL_law_1059 : decode cL_law 1059 = .ok (.aload_n 0, 1) := by decide +kernel
theorem dL_law_1060 : decode cL_law 1060 = .ok (.iload_n 3, 1) := by decide +kernel
theorem dL_law_1061 : decode cL_law 1061 = .ok (.iconst 2, 1) := by decide +kernel
theorem dL_law_1062 : decode cL_law 1062 = .ok (.iadd, 1) := by decide +kernel
theorem dL_law_1063 : decode cL_law 1063 = .ok (.iaload, 1) := by decide +kernel
theorem dL_law_1064 : decode cL_law 1064 = .ok (.aload_n 0, 1) := by decide +kernel
theorem dL_law_1065 : decode cL_law 1065 = .ok (.iload_n 3, 1) := by decide +kernel
theorem dL_law_1066 : decode cL_law 1066 = .ok (.iconst 3, 1) := by decide +kernel
theorem dL_law_1067 : decode cL_law 1067 = .ok (.iadd, 1) := by decide +kernel
theorem dL_law_1068 : decode cL_law 1068 = .ok (.iaload, 1) := by decide +kernel
theorem dL_law_1069 : decode cL_law 1069 = .ok (.invokevirtual 126, 3) := by decide +kernel
theorem dL_law_1072 : decode cL_law 1072 = .ok (.if_icmp .eq 224, 3) := by decide +kernel
theorem dL_law_1075 : decode cL_law 1075 = .ok (.iconst 0, 1) := by decide +kernel
theorem dL_law_1076 : decode cL_law 1076 = .ok (.ireturn, 1) := by decide +kernel
theorem dL_law_1077 : decode cL_law 1077 = .ok (.aload_n 1, 1) := by decide +kernel
theorem dL_law_1078 : decode cL_law 1078 = .ok (.aload_n 0, 1) := by decide +kernel
theorem dL_law_1079 : decode cL_law 1079 = .ok (.iload_n 3, 1) := by decide +kernel
theorem dL_law_1080 : decode cL_law 1080 = .ok (.iconst 1, 1) := by decide +kernel
theorem dL_law_1081 : decode cL_law 1081 = .ok (.iadd, 1) := by decide +kernel
theorem dL_law_1082 : decode cL_law 1082 = .ok (.iaload, 1) := by decide +kernel
theorem dL_law_1083 : decode cL_law 1083 = .ok (.invokevirtual 127, 3) := by decide +kernel
theorem dL_law_1086 : decode cL_law 1086 = .ok (.aload_n 2, 1) := by decide +kernel
theorem dL_law_1087 : decode cL_law 1087 = .ok (.aload_n 0, 1) := by decide +kernel
theorem dL_law_1088 : decode cL_law 1088 = .ok (.iload_n 3, 1) := by decide +kernel
theorem dL_law_1089 : decode cL_law 1089 = .ok (.iconst 1, 1) := by decide +kernel
theorem dL_law_1090 : decode cL_law 1090 = .ok (.iadd, 1) := by decide +kernel
theorem dL_law_1091 : decode cL_law 1091 = .ok (.iaload, 1) := by decide +kernel
theorem dL_law_1092 : decode cL_law 1092 = .ok (.invokevirtual 130, 3) := by decide +kernel
theorem dL_law_1095 : decode cL_law 1095 = .ok (.if_icmp .eq 201, 3) := by decide +kernel
theorem dL_law_1098 : decode cL_law 1098 = .ok (.iconst 0, 1) := by decide +kernel
theorem dL_law_1099 : decode cL_law 1099 = .ok (.ireturn, 1) := by decide +kernel
theorem dL_law_1100 : decode cL_law 1100 = .ok (.aload_n 1, 1) := by decide +kernel
theorem dL_law_1101 : decode cL_law 1101 = .ok (.aload_n 0, 1) := by decide +kernel
theorem dL_law_1102 : decode cL_law 1102 = .ok (.iload_n 3, 1) := by decide +kernel
theorem dL_law_1103 : decode cL_law 1103 = .ok (.iconst 1, 1) := by decide +kernel
theorem dL_law_1104 : decode cL_law 1104 = .ok (.iadd, 1) := by decide +kernel
theorem dL_law_1105 : decode cL_law 1105 = .ok (.iaload, 1) := by decide +kernel
theorem dL_law_1106 : decode cL_law 1106 = .ok (.aload_n 0, 1) := by decide +kernel
theorem dL_law_1107 : decode cL_law 1107 = .ok (.iload_n 3, 1) := by decide +kernel
theorem dL_law_1108 : decode cL_law 1108 = .ok (.iconst 2, 1) := by decide +kernel
theorem dL_law_1109 : decode cL_law 1109 = .ok (.iadd, 1) := by decide +kernel
theorem dL_law_1110 : decode cL_law 1110 = .ok (.iaload, 1) := by decide +kernel
theorem dL_law_1111 : decode cL_law 1111 = .ok (.aload_n 0, 1) := by decide +kernel
theorem dL_law_1112 : decode cL_law 1112 = .ok (.iload_n 3, 1) := by decide +kernel
theorem dL_law_1113 : decode cL_law 1113 = .ok (.iconst 3, 1) := by decide +kernel
theorem dL_law_1114 : decode cL_law 1114 = .ok (.iadd, 1) := by decide +kernel
theorem dL_law_1115 : decode cL_law 1115 = .ok (.iaload, 1) := by decide +kernel
theorem dL_law_1116 : decode cL_law 1116 = .ok (.aload_n 0, 1) := by decide +kernel
theorem dL_law_1117 : decode cL_law 1117 = .ok (.iload_n 3, 1) := by decide +kernel
theorem dL_law_1118 : decode cL_law 1118 = .ok (.iconst 4, 1) := by decide +kernel
theorem dL_law_1119 : decode cL_law 1119 = .ok (.iadd, 1) := by decide +kernel
theorem dL_law_1120 : decode cL_law 1120 = .ok (.iaload, 1) := by decide +kernel
theorem dL_law_1121 : decode cL_law 1121 = .ok (.invokevirtual 131, 3) := by decide +kernel
end
section
theorem dL_law_1124 : decode cL_law 1124 = .ok (.aload_n 2, 1) := by decide +kernel
theorem dL_law_1125 : decode cL_law 1125 = .ok (.aload_n 0, 1) := by decide +kernel
theorem dL_law_1126 : decode cL_law 1126 = .ok (.iload_n 3, 1) := by decide +kernel
theorem dL_law_1127 : decode cL_law 1127 = .ok (.iconst 1, 1) := by decide +kernel
theorem dL_law_1128 : decode cL_law 1128 = .ok (.iadd, 1) := by decide +kernel
theorem dL_law_1129 : decode cL_law 1129 = .ok (.iaload, 1) := by decide +kernel
theorem dL_law_1130 : decode cL_law 1130 = .ok (.aload_n 0, 1) := by decide +kernel
theorem dL_law_1131 : decode cL_law 1131 = .ok (.iload_n 3, 1) := by decide +kernel
theorem dL_law_1132 : decode cL_law 1132 = .ok (.iconst 2, 1) := by decide +kernel
theorem dL_law_1133 : decode cL_law 1133 = .ok (.iadd, 1) := by decide +kernel
theorem dL_law_1134 : decode cL_law 1134 = .ok (.iaload, 1) := by decide +kernel
theorem dL_law_1135 : decode cL_law 1135 = .ok (.aload_n 0, 1) := by decide +kernel
theorem dL_law_1136 : decode cL_law 1136 = .ok (.iload_n 3, 1) := by decide +kernel
theorem dL_law_1137 : decode cL_law 1137 = .ok (.iconst 3, 1) := by decide +kernel
theorem dL_law_1138 : decode cL_law 1138 = .ok (.iadd, 1) := by decide +kernel
theorem dL_law_1139 : decode cL_law 1139 = .ok (.iaload, 1) := by decide +kernel
theorem dL_law_1140 : decode cL_law 1140 = .ok (.aload_n 0, 1) := by decide +kernel
theorem dL_law_1141 : decode cL_law 1141 = .ok (.iload_n 3, 1) := by decide +kernel
theorem dL_law_1142 : decode cL_law 1142 = .ok (.iconst 4, 1) := by decide +kernel
theorem dL_law_1143 : decode cL_law 1143 = .ok (.iadd, 1) := by decide +kernel
theorem dL_law_1144 : decode cL_law 1144 = .ok (.iaload, 1) := by decide +kernel
theorem dL_law_1145 : decode cL_law 1145 = .ok (.invokevirtual 134, 3) := by decide +kernel
theorem dL_law_1148 : decode cL_law 1148 = .ok (.if_icmp .eq 148, 3) := by decide +kernel
theorem dL_law_1151 : decode cL_law 1151 = .ok (.iconst 0, 1) := by decide +kernel
theorem dL_law_1152 : decode cL_law 1152 = .ok (.ireturn, 1) := by decide +kernel
theorem dL_law_1153 : decode cL_law 1153 = .ok (.aload_n 1, 1) := by decide +kernel
theorem dL_law_1154 : decode cL_law 1154 = .ok (.aload_n 0, 1) := by decide +kernel
theorem dL_law_1155 : decode cL_law 1155 = .ok (.iload_n 3, 1) := by decide +kernel
theorem dL_law_1156 : decode cL_law 1156 = .ok (.iconst 1, 1) := by decide +kernel
theorem dL_law_1157 : decode cL_law 1157 = .ok (.iadd, 1) := by decide +kernel
theorem dL_law_1158 : decode cL_law 1158 = .ok (.iaload, 1) := by decide +kernel
theorem dL_law_1159 : decode cL_law 1159 = .ok (.aload_n 0, 1) := by decide +kernel
theorem dL_law_1160 : decode cL_law 1160 = .ok (.iload_n 3, 1) := by decide +kernel
theorem dL_law_1161 : decode cL_law 1161 = .ok (.iconst 2, 1) := by decide +kernel
theorem dL_law_1162 : decode cL_law 1162 = .ok (.iadd, 1) := by decide +kernel
theorem dL_law_1163 : decode cL_law 1163 = .ok (.iaload, 1) := by decide +kernel
theorem dL_law_1164 : decode cL_law 1164 = .ok (.aload_n 0, 1) := by decide +kernel
theorem dL_law_1165 : decode cL_law 1165 = .ok (.iload_n 3, 1) := by decide +kernel
theorem dL_law_1166 : decode cL_law 1166 = .ok (.iconst 3, 1) := by decide +kernel
theorem dL_law_1167 : decode cL_law 1167 = .ok (.iadd, 1) := by decide +kernel
theorem dL_law_1168 : decode cL_law 1168 = .ok (.iaload, 1) := by decide +kernel
theorem dL_law_1169 : decode cL_law 1169 = .ok (.invokevirtual 135, 3) := by decide +kernel
theorem dL_law_1172 : decode cL_law 1172 = .ok (.aload_n 2, 1) := by decide +kernel
theorem dL_law_1173 : decode cL_law 1173 = .ok (.aload_n 0, 1) := by decide +kernel
theorem dL_law_1174 : decode cL_law 1174 = .ok (.iload_n 3, 1) := by decide +kernel
theorem dL_law_1175 : decode cL_law 1175 = .ok (.iconst 1, 1) := by decide +kernel
theorem dL_law_1176 : decode cL_law 1176 = .ok (.iadd, 1) := by decide +kernel
theorem dL_law_1177 : decode cL_law 1177 = .ok (.iaload, 1) := by decide +kernel
theorem dL_law_1178 : decode cL_law 1178 = .ok (.aload_n 0, 1) := by decide +kernel
theorem dL_law_1179 : decode cL_law 1179 = .ok (.iload_n 3, 1) := by decide +kernel
theorem dL_law_1180 : decode cL_law 1180 = .ok (.iconst 2, 1) := by decide +kernel
theorem dL_law_1181 : decode cL_law 1181 = .ok (.iadd, 1) := by decide +kernel
theorem dL_law_1182 : decode cL_law 1182 = .ok (.iaload, 1) := by decide +kernel
theorem dL_law_1183 : decode cL_law 1183 = .ok (.aload_n 0, 1) := by decide +kernel
theorem dL_law_1184 : decode cL_law 1184 = .ok (.iload_n 3, 1) := by decide +kernel
theorem dL_law_1185 : decode cL_law 1185 = .ok (.iconst 3, 1) := by decide +kernel
theorem dL_law_1186 : decode cL_law 1186 = .ok (.iadd, 1) := by decide +kernel
theorem dL_law_1187 : decode cL_law 1187 = .ok (.iaload, 1) := by decide +kernel
theorem dL_law_1188 : decode cL_law 1188 = .ok (.invokevirtual 138, 3) := by decide +kernel
theorem dL_law_1191 : decode cL_law 1191 = .ok (.if_icmp .eq 105, 3) := by decide +kernel
theorem dL_law_1194 : decode cL_law 1194 = .ok (.iconst 0, 1) := by decide +kernel
theorem dL_law_1195 : decode cL_law 1195 = .ok (.ireturn, 1) := by decide +kernel
theorem dL_law_1196 : decode cL_law 1196 = .ok (.aload_n 1, 1) := by decide +kernel
theorem dL_law_1197 : decode cL_law 1197 = .ok (.aload_n 0, 1) := by decide +kernel
theorem dL_law_1198 : decode cL_law 1198 = .ok (.iload_n 3, 1) := by decide +kernel
theorem dL_law_1199 : decode cL_law 1199 = .ok (.iconst 1, 1) := by decide +kernel
theorem dL_law_1200 : decode cL_law 1200 = .ok (.iadd, 1) := by decide +kernel
theorem dL_law_1201 : decode cL_law 1201 = .ok (.iaload, 1) := by decide +kernel
theorem dL_law_1202 : decode cL_law 1202 = .ok (.aload_n 0, 1) := by decide +kernel
theorem dL_law_1203 : decode cL_law 1203 = .ok (.iload_n 3, 1) := by decide +kernel
theorem dL_law_1204 : decode cL_law 1204 = .ok (.iconst 2, 1) := by decide +kernel
theorem dL_law_1205 : decode cL_law 1205 = .ok (.iadd, 1) := by decide +kernel
theorem dL_law_1206 : decode cL_law 1206 = .ok (.iaload, 1) := by decide +kernel
theorem dL_law_1207 : decode cL_law 1207 = .ok (.aload_n 0, 1) := by decide +kernel
theorem dL_law_1208 : decode cL_law 1208 = .ok (.iload_n 3, 1) := by decide +kernel
theorem dL_law_1209 : decode cL_law 1209 = .ok (.iconst 3, 1) := by decide +kernel
theorem dL_law_1210 : decode cL_law 1210 = .ok (.iadd, 1) := by decide +kernel
theorem dL_law_1211 : decode cL_law 1211 = .ok (.iaload, 1) := by decide +kernel
theorem dL_law_1212 : decode cL_law 1212 = .ok (.aload_n 0, 1) := by decide +kernel
theorem dL_law_1213 : decode cL_law 1213 = .ok (.iload_n 3, 1) := by decide +kernel
theorem dL_law_1214 : decode cL_law 1214 = .ok (.iconst 4, 1) := by decide +kernel
theorem dL_law_1215 : decode cL_law 1215 = .ok (.iadd, 1) := by decide +kernel
theorem dL_law_1216 : decode cL_law 1216 = .ok (.iaload, 1) := by decide +kernel
theorem dL_law_1217 : decode cL_law 1217 = .ok (.aload_n 0, 1) := by decide +kernel
theorem dL_law_1218 : decode cL_law 1218 = .ok (.iload_n 3, 1) := by decide +kernel
theorem dL_law_1219 : decode cL_law 1219 = .ok (.iconst 5, 1) := by decide +kernel
theorem dL_law_1220 : decode cL_law 1220 = .ok (.iadd, 1) := by decide +kernel
theorem dL_law_1221 : decode cL_law 1221 = .ok (.iaload, 1) := by decide +kernel
theorem dL_law_1222 : decode cL_law 1222 = .ok (.invokevirtual 139, 3) := by decide +kernel
theorem dL_law_1225 : decode cL_law 1225 = .ok (.aload_n 2, 1) := by decide +kernel
theorem dL_law_1226 : decode cL_law 1226 = .ok (.aload_n 0, 1) := by decide +kernel
theorem dL_law_1227 : decode cL_law 1227 = .ok (.iload_n 3, 1) := by decide +kernel
theorem dL_law_1228 : decode cL_law 1228 = .ok (.iconst 1, 1) := by decide +kernel
theorem dL_law_1229 : decode cL_law 1229 = .ok (.iadd, 1) := by decide +kernel
theorem dL_law_1230 : decode cL_law 1230 = .ok (.iaload, 1) := by decide +kernel
theorem dL_law_1231 : decode cL_law 1231 = .ok (.aload_n 0, 1) := by decide +kernel
theorem dL_law_1232 : decode cL_law 1232 = .ok (.iload_n 3, 1) := by decide +kernel
theorem dL_law_1233 : decode cL_law 1233 = .ok (.iconst 2, 1) := by decide +kernel
theorem dL_law_1234 : decode cL_law 1234 = .ok (.iadd, 1) := by decide +kernel
theorem dL_law_1235 : decode cL_law 1235 = .ok (.iaload, 1) := by decide +kernel
theorem dL_law_1236 : decode cL_law 1236 = .ok (.aload_n 0, 1) := by decide +kernel
theorem dL_law_1237 : decode cL_law 1237 = .ok (.iload_n 3, 1) := by decide +kernel
theorem dL_law_1238 : decode cL_law 1238 = .ok (.iconst 3, 1) := by decide +kernel
theorem dL_law_1239 : decode cL_law 1239 = .ok (.iadd, 1) := by decide +kernel
theorem dL_law_1240 : decode cL_law 1240 = .ok (.iaload, 1) := by decide +kernel
theorem dL_law_1241 : decode cL_law 1241 = .ok (.aload_n 0, 1) := by decide +kernel
theorem dL_law_1242 : decode cL_law 1242 = .ok (.iload_n 3, 1) := by decide +kernel
theorem dL_law_1243 : decode cL_law 1243 = .ok (.iconst 4, 1) := by decide +kernel
theorem dL_law_1244 : decode cL_law 1244 = .ok (.iadd, 1) := by decide +kernel
theorem dL_law_1245 : decode cL_law 1245 = .ok (.iaload, 1) := by decide +kernel
theorem dL_law_1246 : decode cL_law 1246 = .ok (.aload_n 0, 1) := by decide +kernel
theorem dL_law_1247 : decode cL_law 1247 = .ok (.iload_n 3, 1) := by decide +kernel
theorem dL_law_1248 : decode cL_law 1248 = .ok (.iconst 5, 1) := by decide +kernel
theorem dL_law_1249 : decode cL_law 1249 = .ok (.iadd, 1) := by decide +kernel
theorem dL_law_1250 : decode cL_law 1250 = .ok (.iaload, 1) := by decide +kernel
theorem dL_law_1251 : decode cL_law 1251 = .ok (.invokevirtual 143, 3) := by decide +kernel
theorem dL_law_1254 : decode cL_law 1254 = .ok (.if_icmp .eq 42, 3) := by decide +kernel
theorem dL_law_1257 : decode cL_law 1257 = .ok (.iconst 0, 1) := by decide +kernel
theorem dL_law_1258 : decode cL_law 1258 = .ok (.ireturn, 1) := by decide +kernel
theorem dL_law_1259 : decode cL_law 1259 = .ok (.aload_n 1, 1) := by decide +kernel
theorem dL_law_1260 : decode cL_law 1260 = .ok (.aload_n 0, 1) := by decide +kernel
theorem dL_law_1261 : decode cL_law 1261 = .ok (.iload_n 3, 1) := by decide +kernel
theorem dL_law_1262 : decode cL_law 1262 = .ok (.iconst 1, 1) := by decide +kernel
theorem dL_law_1263 : decode cL_law 1263 = .ok (.iadd, 1) := by decide +kernel
theorem dL_law_1264 : decode cL_law 1264 = .ok (.iaload, 1) := by decide +kernel
theorem dL_law_1265 : decode cL_law 1265 = .ok (.invokevirtual 144, 3) := by decide +kernel
theorem dL_law_1268 : decode cL_law 1268 = .ok (.aload_n 2, 1) := by decide +kernel
theorem dL_law_1269 : decode cL_law 1269 = .ok (.aload_n 0, 1) := by decide +kernel
theorem dL_law_1270 : decode cL_law 1270 = .ok (.iload_n 3, 1) := by decide +kernel
theorem dL_law_1271 : decode cL_law 1271 = .ok (.iconst 1, 1) := by decide +kernel
theorem dL_law_1272 : decode cL_law 1272 = .ok (.iadd, 1) := by decide +kernel
theorem dL_law_1273 : decode cL_law 1273 = .ok (.iaload, 1) := by decide +kernel
theorem dL_law_1274 : decode cL_law 1274 = .ok (.invokevirtual 147, 3) := by decide +kernel
theorem dL_law_1277 : decode cL_law 1277 = .ok (.if_icmp .eq 19, 3) := by decide +kernel
theorem dL_law_1280 : decode cL_law 1280 = .ok (.iconst 0, 1) := by decide +kernel
theorem dL_law_1281 : decode cL_law 1281 = .ok (.ireturn, 1) := by decide +kernel
theorem dL_law_1282 : decode cL_law 1282 = .ok (.aload_n 1, 1) := by decide +kernel
theorem dL_law_1283 : decode cL_law 1283 = .ok (.invokevirtual 148, 3) := by decide +kernel
theorem dL_law_1286 : decode cL_law 1286 = .ok (.aload_n 2, 1) := by decide +kernel
theorem dL_law_1287 : decode cL_law 1287 = .ok (.invokevirtual 152, 3) := by decide +kernel
theorem dL_law_1290 : decode cL_law 1290 = .ok (.lcmp, 1) := by decide +kernel
theorem dL_law_1291 : decode cL_law 1291 = .ok (.ifCond .eq 5, 3) := by decide +kernel
theorem dL_law_1294 : decode cL_law 1294 = .ok (.iconst 0, 1) := by decide +kernel
theorem dL_law_1295 : decode cL_law 1295 = .ok (.ireturn, 1) := by decide +kernel
theorem dL_law_1296 : decode cL_law 1296 = .ok (.iinc 3 6, 3) := by decide +kernel
theorem dL_law_1299 : decode cL_law 1299 = .ok (.goto (-1281), 3) := by decide +kernel
theorem dL_law_1302 : decode cL_law 1302 = .ok (.iconst 1, 1) := by decide +kernel
theorem dL_law_1303 : decode cL_law 1303 = .ok (.ireturn, 1) := by decide +kernel
abbrev vwCl : List vw_C := [(RX0, TX0, 4), (RX1, TX1, 6), (RX2, TX2, 4), (RX3, TX3, 3), (RX4, TX4, 4), (RX5, TX5, 4), (RX6, TX6, 2), (RX7, TX7, 11), (RX8, TX8, 28)]
end
section
/-! ===== BASE: one world for class and reference: cells by CODE (a number of mine for each role), a : code -> address ===== -/
/-- the kind of the cell with code k: 0..8 the classes of vwCl, 9 int[], 10 boolean[], 11 Letter[], 12 Lump[], 13 Sheet[], 14 Word[] -/
def kd (k : Nat) : Nat :=
  if k < 20 then [7, 11, 14, 3, 9, 9, 2, 12, 10, 9, 5, 13].getD k 9
  else if k < 30 then 6 else if k < 40 then 11 else if k < 50 then 4 else if k < 100 then 9
  else if k < 120 then 0 else if k < 200 then 9 else if k < 300 then 1 else if k = 300 then 8 else if k = 322 then 10 else 9
/-- its length, if it is an array -/
def ln (k : Nat) : Nat :=
  if k < 20 then [0, 16, 8, 0, 60, 4, 0, 40, 52, 52, 0, 4].getD k 0
  else if k < 30 then 0 else if k < 40 then 10 else if k < 50 then 0 else if k < 100 then 60
  else if k < 120 then 0 else if k < 200 then 5 else if k < 300 then 0
  else [0, 4, 0, 16, 16, 16, 80, 8, 80, 0, 0, 60, 0, 0, 0, 10, 0, 0, 0, 240, 0, 0, 52, 52, 4, 4, 240, 60].getD (k - 300) 0
abbrev Wo : Type := (Nat → Nat) × List Nat × (Nat → Nat → Int32) × (Nat → Nat → Int64) × (Nat → Nat → Option Nat)
def zr (a : Nat → Nat) (r : Nat → Nat → Option Nat) (k j : Nat) : Value := va_rf ((r k j).map a)
/-- what the cell with code k holds -/
def zF (cy : Nat → ClassId) (a : Nat → Nat) (c : Nat → Nat → Int32) (g : Nat → Nat → Int64) (r : Nat → Nat → Option Nat) (k : Nat) : va_E :=
  match kd k with
  | 0 => .inr (0, [.int (c k 0), .int (c k 1), .int (c k 2), zr a r k 3])
  | 1 => .inr (1, [.int (c k 0), .int (c k 1), .int (c k 2), .int (c k 3), .int (c k 4), .int (c k 5)])
  | 2 => .inr (2, [zr a r k 0, .int (c k 1), .int (c k 2), .int (c k 3)])
  | 3 => .inr (3, [zr a r k 0, .int (c k 1), .int (c k 2)])
  | 4 => .inr (4, [zr a r k 0, .int (c k 1), .int (c k 2), .int (c k 3)])
  | 5 => .inr (5, [.long (g k 0), .long (g k 1), .long (g k 2), .int (c k 3)])
  | 6 => .inr (6, [zr a r k 0, .int (c k 1)])
  | 7 => .inr (7, [zr a r k 0, .int (c k 1), zr a r k 2, zr a r k 3, zr a r k 4, zr a r k 5, zr a r k 6, zr a r k 7, zr a r k 8, zr a r k 9, .int (c k 10)])
  | 8 => .inr (8, [zr a r k 0, .int (c k 1), zr a r k 2, zr a r k 3, zr a r k 4, zr a r k 5, zr a r k 6, zr a r k 7, .int (c k 8), .int (c k 9), zr a r k 10, .int (c k 11), .int (c k 12), .int (c k 13), zr a r k 14, .int (c k 15), .int (c k 16), .int (c k 17), zr a r k 18, .int (c k 19), .int (c k 20), zr a r k 21, zr a r k 22, zr a r k 23, zr a r k 24, zr a r k 25, zr a r k 26, .int (c k 27)])
  | 9 => .inl (cy 9, ln k, .inl (c k))
  | 10 => .inl (cy 10, ln k, .inl (c k))
  | n => .inl (cy n, ln k, .inr (.inr (.inr (.inr (fun i => (r k i).map a)))))
/-- the world's list of cells -/
def wd (cy : Nat → ClassId) (a : Nat → Nat) (L : List Nat) (c : Nat → Nat → Int32) (g : Nat → Nat → Int64) (r : Nat → Nat → Option Nat) : va_W := L.map (fun k => (a k, zF cy a c g r k))
abbrev zT (cy : Nat → ClassId) : List (ClassId × FieldType) := [(cy 9, .int), (cy 10, .boolean), (cy 11, .object RX0), (cy 12, .object RX1), (cy 13, .object RX4), (cy 14, .object RX6)]
/-- the nest's words: private constructors and 'within' -/
def zN (U : State) : Prop := va_Nw (.methodLinkNest RX7 25 yX6_init RX7) U ∧ va_Nw (.methodLinkNest RX7 28 yX3_init RX7) U ∧ va_Nw (.methodLinkNest RX7 39 yX2_init RX7) U ∧ va_Nw (.methodLinkNest RX7 53 yX5_init RX7) U ∧ va_Nw (.methodLinkNest RX7 64 yX4_init RX7) U ∧ va_Nw (.methodLinkNest RX0 25 yX7_within RX7) U ∧ va_Nw (.methodLinkNest RX3 69 yX7_within RX7) U ∧ va_Nw (.methodLinkNest RX2 35 yX7_within RX7) U ∧ va_Nw (.methodLinkNest RX1 30 yX7_within RX7) U ∧ va_Nw (.methodLinkNest RX4 32 yX7_within RX7) U
theorem zN.same {u U : State} (h : u.vm = U.vm) (hz : zN u) : zN U := by
  obtain ⟨h0, h1, h2, h3, h4, h5, h6, h7, h8, h9⟩ := hz
  exact ⟨h0.same rfl h, h1.same rfl h, h2.same rfl h, h3.same rfl h, h4.same rfl h, h5.same rfl h, h6.same rfl h, h7.same rfl h, h8.same rfl h, h9.same rfl h⟩
theorem zN.warm {s U : State} (hW : s.WarmedH U.vm) (hz : zN s) : zN U := by
  obtain ⟨h0, h1, h2, h3, h4, h5, h6, h7, h8, h9⟩ := hz
  exact ⟨h0.warmM hW, h1.warmM hW, h2.warmM hW, h3.warmM hW, h4.warmM hW, h5.warmM hW, h6.warmM hW, h7.warmM hW, h8.warmM hW, h9.warmM hW⟩
def zK (D : va_G) (cy : Nat → ClassId) (U : State) : Prop := va_K D vwCl (zT cy) U ∧ zN U
theorem zK.warm {D : va_G} {cy : Nat → ClassId} {s U : State} (hW : s.WarmedH U.vm) (h : zK D cy s) : zK D cy U := ⟨va_K.moved hW.alike h.1, h.2.warm hW⟩
def zW (D : va_G) (cy : Nat → ClassId) (a : Nat → Nat) (L : List Nat) (c : Nat → Nat → Int32) (g : Nat → Nat → Int64) (r : Nat → Nat → Option Nat) (A : Nat → Prop) (H : Heap) : Prop := va_P D vwCl (wd cy a L c g r) H ∧ va_D A (wd cy a L c g r)
def zA (a : Nat → Nat) (L : List Nat) (sz : Nat) : Nat → Prop := fun q => (∃ k, k ∈ L ∧ q = a k) ∨ sz ≤ q
theorem wd_at (cy : Nat → ClassId) (a : Nat → Nat) {L : List Nat} (c : Nat → Nat → Int32) (g : Nat → Nat → Int64) (r : Nat → Nat → Option Nat) {q k : Nat} (h : L[q]? = some k) : (wd cy a L c g r)[q]? = some (a k, zF cy a c g r k) := by
  unfold wd
  rw [List.getElem?_map, h]; rfl
theorem wd_inv {cy : Nat → ClassId} {a : Nat → Nat} {L : List Nat} {c : Nat → Nat → Int32} {g : Nat → Nat → Int64} {r : Nat → Nat → Option Nat} {q : Nat} {x : Nat × va_E} (h : (wd cy a L c g r)[q]? = some x) : ∃ k, L[q]? = some k ∧ x = (a k, zF cy a c g r k) := by
  unfold wd at h
  rw [List.getElem?_map] at h
  cases hq : L[q]? with
  | none => rw [hq] at h; cases h
  | some k => rw [hq] at h; exact ⟨k, rfl, (Option.some.inj h).symm⟩
theorem zW.A {D : va_G} {cy : Nat → ClassId} {a : Nat → Nat} {L : List Nat} {c : Nat → Nat → Int32} {g : Nat → Nat → Int64} {r : Nat → Nat → Option Nat} {A : Nat → Prop} {H : Heap} (h : zW D cy a L c g r A H) {k : Nat} (hk : k ∈ L) : A (a k) := by
  obtain ⟨q, hq⟩ := List.getElem?_of_mem hk
  exact h.2.2 q _ (wd_at cy a c g r hq)
theorem zW.inj {D : va_G} {cy : Nat → ClassId} {a : Nat → Nat} {L : List Nat} {c : Nat → Nat → Int32} {g : Nat → Nat → Int64} {r : Nat → Nat → Option Nat} {A : Nat → Prop} {H : Heap} (h : zW D cy a L c g r A H) {i j : Nat} (hi : i ∈ L) (hj : j ∈ L) (e : a i = a j) : i = j := by
  obtain ⟨q, hq⟩ := List.getElem?_of_mem hi
  obtain ⟨q', hq'⟩ := List.getElem?_of_mem hj
  have := h.2.1 q q' _ _ (wd_at cy a c g r hq) (wd_at cy a c g r hq') e
  subst this
  rw [hq] at hq'; exact Option.some.inj hq'
/-- a world after a change of one cell's contents -/
theorem wd_set {D : va_G} {cy : Nat → ClassId} {a : Nat → Nat} {L : List Nat} {c c' : Nat → Nat → Int32} {g g' : Nat → Nat → Int64} {r r' : Nat → Nat → Option Nat} {A : Nat → Prop} {H : Heap} (h : zW D cy a L c g r A H) {q k : Nat} (hq : L[q]? = some k) {e : va_E} (he : zF cy a c' g' r' k = e) (ho : ∀ j, j ≠ k → zF cy a c' g' r' j = zF cy a c g r j) : (wd cy a L c g r).set q (a k, e) = wd cy a L c' g' r' := by
  apply List.ext_getElem?
  intro i
  by_cases hi : q = i
  · subst hi
    rw [List.getElem?_set_self (List.getElem?_eq_some_iff.mp (wd_at cy a c g r hq)).1, wd_at cy a c' g' r' hq, he]
  · rw [List.getElem?_set_ne hi]
    unfold wd
    rw [List.getElem?_map, List.getElem?_map]
    cases hx : L[i]? with
    | none => rfl
    | some j =>
      have hne : j ≠ k := by
        intro e1; subst e1
        exact hi (h.2.1 q i _ _ (wd_at cy a c g r hq) (wd_at cy a c g r hx) rfl)
      simp only [Option.map_some, ho j hne]
def up2 {α : Type} (c : Nat → Nat → α) (k i : Nat) (v : α) : Nat → Nat → α := fun k' i' => if k' = k then (if i' = i then v else c k i') else c k' i'
def up1 {α : Type} (c : Nat → Nat → α) (k : Nat) (f : Nat → α) : Nat → Nat → α := fun k' => if k' = k then f else c k'
theorem up2_self {α : Type} (c : Nat → Nat → α) (k i : Nat) (v : α) : up2 c k i v k i = v := by simp [up2]
theorem up2_k {α : Type} (c : Nat → Nat → α) {k k' : Nat} (i i' : Nat) (v : α) (h : k' ≠ k) : up2 c k i v k' i' = c k' i' := by simp [up2, h]
theorem up2_i {α : Type} (c : Nat → Nat → α) (k k' : Nat) {i i' : Nat} (v : α) (h : i' ≠ i) : up2 c k i v k' i' = c k' i' := by
  unfold up2
  split
  · rename_i e; subst e; simp [h]
  · rfl
theorem up2_row {α : Type} (c : Nat → Nat → α) {k k' : Nat} (i : Nat) (v : α) (h : k' ≠ k) : up2 c k i v k' = c k' := by funext i'; simp [up2, h]
theorem up1_self {α : Type} (c : Nat → Nat → α) (k : Nat) (f : Nat → α) : up1 c k f k = f := by simp [up1]
theorem up1_k {α : Type} (c : Nat → Nat → α) {k k' : Nat} (f : Nat → α) (h : k' ≠ k) : up1 c k f k' = c k' := by simp [up1, h]
theorem up2_upd (c : Nat → Nat → Int32) (k i : Nat) (v : Int32) : up2 c k i v k = upd (c k) i v := by funext j; simp [up2, upd]
theorem up2_vup {α : Type} (c : Nat → Nat → α) (k i : Nat) (v : α) : up2 c k i v k = va_up (c k) i v := by funext j; simp [up2, va_up]
theorem zF_c (cy : Nat → ClassId) (a : Nat → Nat) {c c' : Nat → Nat → Int32} (g : Nat → Nat → Int64) (r : Nat → Nat → Option Nat) {k : Nat} (h : c' k = c k) : zF cy a c' g r k = zF cy a c g r k := by
  unfold zF; rw [h]
theorem zF_g (cy : Nat → ClassId) (a : Nat → Nat) (c : Nat → Nat → Int32) {g g' : Nat → Nat → Int64} (r : Nat → Nat → Option Nat) {k : Nat} (h : g' k = g k) : zF cy a c g' r k = zF cy a c g r k := by
  unfold zF; rw [h]
theorem zF_r (cy : Nat → ClassId) (a : Nat → Nat) (c : Nat → Nat → Int32) (g : Nat → Nat → Int64) {r r' : Nat → Nat → Option Nat} {k : Nat} (h : r' k = r k) : zF cy a c g r' k = zF cy a c g r k := by
  unfold zF zr; rw [h]
section ZZ
variable {p : Program} {l : Launch} {e : Env} {R : Room} {s : State} {m : MethodId} {args : Array Value} {below : List Frame} {meth : Method} {co : Code}
variable {D : va_G} {cy : Nat → ClassId} {A : Nat → Prop} {cc : ByteArray} {nL : Nat} {ret : Option FieldType} {Ts : List Cond} {own : String}
variable {a : Nat → Nat} {L : List Nat} {c : Nat → Nat → Int32} {g : Nat → Nat → Int64} {r : Nat → Nat → Option Nat} {Q : State → Prop} {cells slots pc : Nat} {lv : List (Nat × Value)} {st : List Value}
/-- what stays the same throughout a method -/
def zC (p : Program) (s : State) (m : MethodId) (args : Array Value) (meth : Method) (co : Code) (D : va_G) (cy : Nat → ClassId) (A : Nat → Prop) (cc : ByteArray) (nL : Nat) (ret : Option FieldType) (Ts : List Cond) (own : String) : Prop :=
  p.tables.exec = Jvm.exec ∧ co.code = cc ∧ meth.sig.returnType = ret ∧ co.maxLocals = nL ∧ s.vm.findClass own = some m.cls ∧ (∀ w ∈ Ts, w.before args s = true) ∧ zK D cy s ∧ (∀ q : Nat, s.heap.size ≤ q → A q) ∧ meth.locks = false
/-- the judgement: at pc, with the world, the locals lv and the stack st, the machine comes to a state with Q -/
def zG (p : Program) (l : Launch) (e : Env) (R : Room) (s : State) (m : MethodId) (args : Array Value) (below : List Frame) (meth : Method) (co : Code) (D : va_G) (cy : Nat → ClassId) (A : Nat → Prop) (nL : Nat) (Q : State → Prop) (cells slots : Nat) (a : Nat → Nat) (L : List Nat) (c : Nat → Nat → Int32) (g : Nat → Nat → Int64) (r : Nat → Nat → Option Nat) (lv : List (Nat × Value)) (pc : Nat) (st : List Value) : Prop :=
  ∀ (H : Heap) (locs : List Loc) (ls : Array Slot), zW D cy a L c g r A H → va_S A s.heap H locs → lv_has ls nL lv → W p l e R s m args below meth co H locs cells slots Q (F0 m pc ls st)
end ZZ
end
section
section ZR
variable {p : Program} {l : Launch} {e : Env} {R : Room} {s : State} {m : MethodId} {args : Array Value} {below : List Frame} {meth : Method} {co : Code}
variable {D : va_G} {cy : Nat → ClassId} {A : Nat → Prop} {cc : ByteArray} {nL : Nat} {ret : Option FieldType} {Ts : List Cond} {own : String}
variable {a : Nat → Nat} {L : List Nat} {c : Nat → Nat → Int32} {g : Nat → Nat → Int64} {r : Nat → Nat → Option Nat} {Q : State → Prop} {cells slots pc : Nat} {lv : List (Nat × Value)} {st : List Value}
theorem z_iconst (C : zC p s m args meth co D cy A cc nL ret Ts own) {n : Int} {v : Int32} (hd : decode cc pc = .ok (.iconst n, 1)) (hv : Int32.ofInt n = v) (kk : zG p l e R s m args below meth co D cy A nL Q cells slots a L c g r lv (pc + 1) (.int v :: st)) : zG p l e R s m args below meth co D cy A nL Q cells slots a L c g r lv pc st := fun H locs ls hW hS hl => lv_iconst C.1 C.2.1 hd hv (kk H locs ls hW hS hl)
theorem z_bipush (C : zC p s m args meth co D cy A cc nL ret Ts own) {n : Int} {v : Int32} (hd : decode cc pc = .ok (.bipush n, 2)) (hv : (Int8.ofInt n).toInt32 = v) (kk : zG p l e R s m args below meth co D cy A nL Q cells slots a L c g r lv (pc + 2) (.int v :: st)) : zG p l e R s m args below meth co D cy A nL Q cells slots a L c g r lv pc st := fun H locs ls hW hS hl => lv_bipush C.1 C.2.1 hd hv (kk H locs ls hW hS hl)
theorem z_sipush (C : zC p s m args meth co D cy A cc nL ret Ts own) {n : Int} {v : Int32} (hd : decode cc pc = .ok (.sipush n, 3)) (hv : (Int16.ofInt n).toInt32 = v) (kk : zG p l e R s m args below meth co D cy A nL Q cells slots a L c g r lv (pc + 3) (.int v :: st)) : zG p l e R s m args below meth co D cy A nL Q cells slots a L c g r lv pc st := fun H locs ls hW hS hl => lv_sipush C.1 C.2.1 hd hv (kk H locs ls hW hS hl)
theorem z_lconst (C : zC p s m args meth co D cy A cc nL ret Ts own) {n : Fin 2} {v : Int64} (hd : decode cc pc = .ok (.lconst n, 1)) (hv : Int64.ofNat (n : Nat) = v) (kk : zG p l e R s m args below meth co D cy A nL Q cells slots a L c g r lv (pc + 1) (.long v :: st)) : zG p l e R s m args below meth co D cy A nL Q cells slots a L c g r lv pc st := fun H locs ls hW hS hl => lv_lconst C.1 C.2.1 hd hv (kk H locs ls hW hS hl)
theorem z_ldc (C : zC p s m args meth co D cy A cc nL ret Ts own) {index : Nat} {v : Int32} (hd : decode cc pc = .ok (.ldc index, 2)) (hw : Jvm.Cond.constant own index v ∈ Ts) (kk : zG p l e R s m args below meth co D cy A nL Q cells slots a L c g r lv (pc + 2) (.int v :: st)) : zG p l e R s m args below meth co D cy A nL Q cells slots a L c g r lv pc st := fun H locs ls hW hS hl => lv_ldc C.1 C.2.1 C.2.2.2.2.1 (C.2.2.2.2.2.1 _ hw) hd (kk H locs ls hW hS hl)
theorem z_ldc2 (C : zC p s m args meth co D cy A cc nL ret Ts own) {index : Nat} {v : Int64} (hd : decode cc pc = .ok (.ldc2_w index, 3)) (hw : Jvm.Cond.constantLong own index v ∈ Ts) (kk : zG p l e R s m args below meth co D cy A nL Q cells slots a L c g r lv (pc + 3) (.long v :: st)) : zG p l e R s m args below meth co D cy A nL Q cells slots a L c g r lv pc st := fun H locs ls hW hS hl => lv_ldc2 C.1 C.2.1 C.2.2.2.2.1 (C.2.2.2.2.2.1 _ hw) hd (kk H locs ls hW hS hl)
theorem z_null (C : zC p s m args meth co D cy A cc nL ret Ts own)  (hd : decode cc pc = .ok (.aconst_null, 1)) (kk : zG p l e R s m args below meth co D cy A nL Q cells slots a L c g r lv (pc + 1) (.null :: st)) : zG p l e R s m args below meth co D cy A nL Q cells slots a L c g r lv pc st := fun H locs ls hW hS hl => lv_null C.1 C.2.1 hd (kk H locs ls hW hS hl)
theorem z_iload_n (C : zC p s m args meth co D cy A cc nL ret Ts own) {k : Fin 4} {i q : Nat} {x : Int32} (hd : decode cc pc = .ok (.iload_n k, 1)) (hi : (k : Nat) = i) (hq : lv[q]? = some (i, .int x)) (kk : zG p l e R s m args below meth co D cy A nL Q cells slots a L c g r lv (pc + 1) (.int x :: st)) : zG p l e R s m args below meth co D cy A nL Q cells slots a L c g r lv pc st := fun H locs ls hW hS hl => lv_iload_n C.1 C.2.1 hd hi (lv_at hl q hq) (kk H locs ls hW hS hl)
theorem z_iload (C : zC p s m args meth co D cy A cc nL ret Ts own) {i q : Nat} {x : Int32} (hd : decode cc pc = .ok (.iload i, 2)) (hq : lv[q]? = some (i, .int x)) (kk : zG p l e R s m args below meth co D cy A nL Q cells slots a L c g r lv (pc + 2) (.int x :: st)) : zG p l e R s m args below meth co D cy A nL Q cells slots a L c g r lv pc st := fun H locs ls hW hS hl => lv_iload C.1 C.2.1 hd (lv_at hl q hq) (kk H locs ls hW hS hl)
theorem z_istore_n (C : zC p s m args meth co D cy A cc nL ret Ts own) {k : Fin 4} {i : Nat} {x : Int32} {lv' : List (Nat × Value)} (hd : decode cc pc = .ok (.istore_n k, 1)) (hi : (k : Nat) = i) (hn : i < nL) (hl2 : (i, Value.int x) :: lv.filter (fun q => !(q.1 == i) && !(q.1 + 1 == i && q.2.category == 2)) = lv') (kk : zG p l e R s m args below meth co D cy A nL Q cells slots a L c g r lv' (pc + 1) st) : zG p l e R s m args below meth co D cy A nL Q cells slots a L c g r lv pc (.int x :: st) := fun H locs ls hW hS hl => lv_istore_n C.1 C.2.1 hd hi hl hn hl2 (fun ls' h' => kk H locs ls' hW hS h')
theorem z_istore (C : zC p s m args meth co D cy A cc nL ret Ts own) {i : Nat} {x : Int32} {lv' : List (Nat × Value)} (hd : decode cc pc = .ok (.istore i, 2)) (hn : i < nL) (hl2 : (i, Value.int x) :: lv.filter (fun q => !(q.1 == i) && !(q.1 + 1 == i && q.2.category == 2)) = lv') (kk : zG p l e R s m args below meth co D cy A nL Q cells slots a L c g r lv' (pc + 2) st) : zG p l e R s m args below meth co D cy A nL Q cells slots a L c g r lv pc (.int x :: st) := fun H locs ls hW hS hl => lv_istore C.1 C.2.1 hd hl hn hl2 (fun ls' h' => kk H locs ls' hW hS h')
theorem z_lload_n (C : zC p s m args meth co D cy A cc nL ret Ts own) {k : Fin 4} {i q : Nat} {x : Int64} (hd : decode cc pc = .ok (.lload_n k, 1)) (hi : (k : Nat) = i) (hq : lv[q]? = some (i, .long x)) (kk : zG p l e R s m args below meth co D cy A nL Q cells slots a L c g r lv (pc + 1) (.long x :: st)) : zG p l e R s m args below meth co D cy A nL Q cells slots a L c g r lv pc st := fun H locs ls hW hS hl => lv_lload_n C.1 C.2.1 hd hi (lv_at hl q hq) (kk H locs ls hW hS hl)
theorem z_lload (C : zC p s m args meth co D cy A cc nL ret Ts own) {i q : Nat} {x : Int64} (hd : decode cc pc = .ok (.lload i, 2)) (hq : lv[q]? = some (i, .long x)) (kk : zG p l e R s m args below meth co D cy A nL Q cells slots a L c g r lv (pc + 2) (.long x :: st)) : zG p l e R s m args below meth co D cy A nL Q cells slots a L c g r lv pc st := fun H locs ls hW hS hl => lv_lload C.1 C.2.1 hd (lv_at hl q hq) (kk H locs ls hW hS hl)
theorem z_lstore_n (C : zC p s m args meth co D cy A cc nL ret Ts own) {k : Fin 4} {i : Nat} {x : Int64} {lv' : List (Nat × Value)} (hd : decode cc pc = .ok (.lstore_n k, 1)) (hi : (k : Nat) = i) (hn : i + 1 < nL) (hl2 : (i, Value.long x) :: lv.filter (fun q => !(q.1 == i) && (!(q.1 == i + 1) && !(q.1 + 1 == i && q.2.category == 2))) = lv') (kk : zG p l e R s m args below meth co D cy A nL Q cells slots a L c g r lv' (pc + 1) st) : zG p l e R s m args below meth co D cy A nL Q cells slots a L c g r lv pc (.long x :: st) := fun H locs ls hW hS hl => lv_lstore_n C.1 C.2.1 hd hi hl hn hl2 (fun ls' h' => kk H locs ls' hW hS h')
theorem z_lstore (C : zC p s m args meth co D cy A cc nL ret Ts own) {i : Nat} {x : Int64} {lv' : List (Nat × Value)} (hd : decode cc pc = .ok (.lstore i, 2)) (hn : i + 1 < nL) (hl2 : (i, Value.long x) :: lv.filter (fun q => !(q.1 == i) && (!(q.1 == i + 1) && !(q.1 + 1 == i && q.2.category == 2))) = lv') (kk : zG p l e R s m args below meth co D cy A nL Q cells slots a L c g r lv' (pc + 2) st) : zG p l e R s m args below meth co D cy A nL Q cells slots a L c g r lv pc (.long x :: st) := fun H locs ls hW hS hl => lv_lstore C.1 C.2.1 hd hl hn hl2 (fun ls' h' => kk H locs ls' hW hS h')
theorem z_aload_n (C : zC p s m args meth co D cy A cc nL ret Ts own) {k : Fin 4} {i q : Nat} {x : Nat} (hd : decode cc pc = .ok (.aload_n k, 1)) (hi : (k : Nat) = i) (hq : lv[q]? = some (i, .ref x)) (kk : zG p l e R s m args below meth co D cy A nL Q cells slots a L c g r lv (pc + 1) (.ref x :: st)) : zG p l e R s m args below meth co D cy A nL Q cells slots a L c g r lv pc st := fun H locs ls hW hS hl => lv_aload_n C.1 C.2.1 hd hi (lv_at hl q hq) (kk H locs ls hW hS hl)
theorem z_aload (C : zC p s m args meth co D cy A cc nL ret Ts own) {i q : Nat} {x : Nat} (hd : decode cc pc = .ok (.aload i, 2)) (hq : lv[q]? = some (i, .ref x)) (kk : zG p l e R s m args below meth co D cy A nL Q cells slots a L c g r lv (pc + 2) (.ref x :: st)) : zG p l e R s m args below meth co D cy A nL Q cells slots a L c g r lv pc st := fun H locs ls hW hS hl => lv_aload C.1 C.2.1 hd (lv_at hl q hq) (kk H locs ls hW hS hl)
theorem z_astore_n (C : zC p s m args meth co D cy A cc nL ret Ts own) {k : Fin 4} {i : Nat} {x : Nat} {lv' : List (Nat × Value)} (hd : decode cc pc = .ok (.astore_n k, 1)) (hi : (k : Nat) = i) (hn : i < nL) (hl2 : (i, Value.ref x) :: lv.filter (fun q => !(q.1 == i) && !(q.1 + 1 == i && q.2.category == 2)) = lv') (kk : zG p l e R s m args below meth co D cy A nL Q cells slots a L c g r lv' (pc + 1) st) : zG p l e R s m args below meth co D cy A nL Q cells slots a L c g r lv pc (.ref x :: st) := fun H locs ls hW hS hl => lv_astore_n C.1 C.2.1 hd hi hl hn hl2 (fun ls' h' => kk H locs ls' hW hS h')
theorem z_astore (C : zC p s m args meth co D cy A cc nL ret Ts own) {i : Nat} {x : Nat} {lv' : List (Nat × Value)} (hd : decode cc pc = .ok (.astore i, 2)) (hn : i < nL) (hl2 : (i, Value.ref x) :: lv.filter (fun q => !(q.1 == i) && !(q.1 + 1 == i && q.2.category == 2)) = lv') (kk : zG p l e R s m args below meth co D cy A nL Q cells slots a L c g r lv' (pc + 2) st) : zG p l e R s m args below meth co D cy A nL Q cells slots a L c g r lv pc (.ref x :: st) := fun H locs ls hW hS hl => lv_astore C.1 C.2.1 hd hl hn hl2 (fun ls' h' => kk H locs ls' hW hS h')
theorem z_astore_nN (C : zC p s m args meth co D cy A cc nL ret Ts own) {k : Fin 4} {i : Nat} {lv' : List (Nat × Value)} (hd : decode cc pc = .ok (.astore_n k, 1)) (hi : (k : Nat) = i) (hn : i < nL) (hl2 : (i, Value.null) :: lv.filter (fun q => !(q.1 == i) && !(q.1 + 1 == i && q.2.category == 2)) = lv') (kk : zG p l e R s m args below meth co D cy A nL Q cells slots a L c g r lv' (pc + 1) st) : zG p l e R s m args below meth co D cy A nL Q cells slots a L c g r lv pc (.null :: st) := fun H locs ls hW hS hl => lv_astore_nN C.1 C.2.1 hd hi hl hn hl2 (fun ls' h' => kk H locs ls' hW hS h')
theorem z_astoreN (C : zC p s m args meth co D cy A cc nL ret Ts own) {i : Nat} {lv' : List (Nat × Value)} (hd : decode cc pc = .ok (.astore i, 2)) (hn : i < nL) (hl2 : (i, Value.null) :: lv.filter (fun q => !(q.1 == i) && !(q.1 + 1 == i && q.2.category == 2)) = lv') (kk : zG p l e R s m args below meth co D cy A nL Q cells slots a L c g r lv' (pc + 2) st) : zG p l e R s m args below meth co D cy A nL Q cells slots a L c g r lv pc (.null :: st) := fun H locs ls hW hS hl => lv_astoreN C.1 C.2.1 hd hl hn hl2 (fun ls' h' => kk H locs ls' hW hS h')
theorem z_iinc (C : zC p s m args meth co D cy A cc nL ret Ts own) {i q : Nat} {n : Int} {x v : Int32} {lv' : List (Nat × Value)} (hd : decode cc pc = .ok (.iinc i n, 3)) (hq : lv[q]? = some (i, .int x)) (hv : x + Int32.ofInt n = v) (hn : i < nL) (hl2 : (i, Value.int v) :: lv.filter (fun q => !(q.1 == i) && !(q.1 + 1 == i && q.2.category == 2)) = lv') (kk : zG p l e R s m args below meth co D cy A nL Q cells slots a L c g r lv' (pc + 3) st) : zG p l e R s m args below meth co D cy A nL Q cells slots a L c g r lv pc st := fun H locs ls hW hS hl => lv_iinc C.1 C.2.1 hd hl hq hv hn hl2 (fun ls' h' => kk H locs ls' hW hS h')
theorem z_iadd (C : zC p s m args meth co D cy A cc nL ret Ts own) {x v : Int32} {y : Int32} (hd : decode cc pc = .ok (.iadd, 1)) (hv : x + y = v) (kk : zG p l e R s m args below meth co D cy A nL Q cells slots a L c g r lv (pc + 1) (.int v :: st)) : zG p l e R s m args below meth co D cy A nL Q cells slots a L c g r lv pc (.int y :: .int x :: st) := fun H locs ls hW hS hl => by subst hv; exact lv_iadd C.1 C.2.1 hd (kk H locs ls hW hS hl)
theorem z_isub (C : zC p s m args meth co D cy A cc nL ret Ts own) {x v : Int32} {y : Int32} (hd : decode cc pc = .ok (.isub, 1)) (hv : x - y = v) (kk : zG p l e R s m args below meth co D cy A nL Q cells slots a L c g r lv (pc + 1) (.int v :: st)) : zG p l e R s m args below meth co D cy A nL Q cells slots a L c g r lv pc (.int y :: .int x :: st) := fun H locs ls hW hS hl => by subst hv; exact lv_isub C.1 C.2.1 hd (kk H locs ls hW hS hl)
theorem z_imul (C : zC p s m args meth co D cy A cc nL ret Ts own) {x v : Int32} {y : Int32} (hd : decode cc pc = .ok (.imul, 1)) (hv : x * y = v) (kk : zG p l e R s m args below meth co D cy A nL Q cells slots a L c g r lv (pc + 1) (.int v :: st)) : zG p l e R s m args below meth co D cy A nL Q cells slots a L c g r lv pc (.int y :: .int x :: st) := fun H locs ls hW hS hl => by subst hv; exact lv_imul C.1 C.2.1 hd (kk H locs ls hW hS hl)
theorem z_iand (C : zC p s m args meth co D cy A cc nL ret Ts own) {x v : Int32} {y : Int32} (hd : decode cc pc = .ok (.iand, 1)) (hv : x &&& y = v) (kk : zG p l e R s m args below meth co D cy A nL Q cells slots a L c g r lv (pc + 1) (.int v :: st)) : zG p l e R s m args below meth co D cy A nL Q cells slots a L c g r lv pc (.int y :: .int x :: st) := fun H locs ls hW hS hl => by subst hv; exact lv_iand C.1 C.2.1 hd (kk H locs ls hW hS hl)
theorem z_ior (C : zC p s m args meth co D cy A cc nL ret Ts own) {x v : Int32} {y : Int32} (hd : decode cc pc = .ok (.ior, 1)) (hv : x ||| y = v) (kk : zG p l e R s m args below meth co D cy A nL Q cells slots a L c g r lv (pc + 1) (.int v :: st)) : zG p l e R s m args below meth co D cy A nL Q cells slots a L c g r lv pc (.int y :: .int x :: st) := fun H locs ls hW hS hl => by subst hv; exact lv_ior C.1 C.2.1 hd (kk H locs ls hW hS hl)
theorem z_ladd (C : zC p s m args meth co D cy A cc nL ret Ts own) {x v : Int64} {y : Int64} (hd : decode cc pc = .ok (.ladd, 1)) (hv : x + y = v) (kk : zG p l e R s m args below meth co D cy A nL Q cells slots a L c g r lv (pc + 1) (.long v :: st)) : zG p l e R s m args below meth co D cy A nL Q cells slots a L c g r lv pc (.long y :: .long x :: st) := fun H locs ls hW hS hl => by subst hv; exact lv_ladd C.1 C.2.1 hd (kk H locs ls hW hS hl)
theorem z_lsub (C : zC p s m args meth co D cy A cc nL ret Ts own) {x v : Int64} {y : Int64} (hd : decode cc pc = .ok (.lsub, 1)) (hv : x - y = v) (kk : zG p l e R s m args below meth co D cy A nL Q cells slots a L c g r lv (pc + 1) (.long v :: st)) : zG p l e R s m args below meth co D cy A nL Q cells slots a L c g r lv pc (.long y :: .long x :: st) := fun H locs ls hW hS hl => by subst hv; exact lv_lsub C.1 C.2.1 hd (kk H locs ls hW hS hl)
theorem z_lmul (C : zC p s m args meth co D cy A cc nL ret Ts own) {x v : Int64} {y : Int64} (hd : decode cc pc = .ok (.lmul, 1)) (hv : x * y = v) (kk : zG p l e R s m args below meth co D cy A nL Q cells slots a L c g r lv (pc + 1) (.long v :: st)) : zG p l e R s m args below meth co D cy A nL Q cells slots a L c g r lv pc (.long y :: .long x :: st) := fun H locs ls hW hS hl => by subst hv; exact lv_lmul C.1 C.2.1 hd (kk H locs ls hW hS hl)
theorem z_idiv (C : zC p s m args meth co D cy A cc nL ret Ts own) {x v : Int32} {y : Int32} (hd : decode cc pc = .ok (.idiv, 1)) (hne : ¬ y = 0) (hv : x / y = v) (kk : zG p l e R s m args below meth co D cy A nL Q cells slots a L c g r lv (pc + 1) (.int v :: st)) : zG p l e R s m args below meth co D cy A nL Q cells slots a L c g r lv pc (.int y :: .int x :: st) := fun H locs ls hW hS hl => by subst hv; exact lv_idiv C.1 C.2.1 hd hne (kk H locs ls hW hS hl)
theorem z_ldiv (C : zC p s m args meth co D cy A cc nL ret Ts own) {x v : Int64} {y : Int64} (hd : decode cc pc = .ok (.ldiv, 1)) (hne : ¬ y = 0) (hv : x / y = v) (kk : zG p l e R s m args below meth co D cy A nL Q cells slots a L c g r lv (pc + 1) (.long v :: st)) : zG p l e R s m args below meth co D cy A nL Q cells slots a L c g r lv pc (.long y :: .long x :: st) := fun H locs ls hW hS hl => by subst hv; exact lv_ldiv C.1 C.2.1 hd hne (kk H locs ls hW hS hl)
theorem z_irem (C : zC p s m args meth co D cy A cc nL ret Ts own) {x v : Int32} {y : Int32} (hd : decode cc pc = .ok (.irem, 1)) (hne : ¬ y = 0) (hv : x - x / y * y = v) (kk : zG p l e R s m args below meth co D cy A nL Q cells slots a L c g r lv (pc + 1) (.int v :: st)) : zG p l e R s m args below meth co D cy A nL Q cells slots a L c g r lv pc (.int y :: .int x :: st) := fun H locs ls hW hS hl => by subst hv; exact lv_irem C.1 C.2.1 hd hne (kk H locs ls hW hS hl)
theorem z_ishl (C : zC p s m args meth co D cy A cc nL ret Ts own) {x v : Int32} {y : Int32} (hd : decode cc pc = .ok (.ishl, 1)) (hv : x <<< (y &&& 31) = v) (kk : zG p l e R s m args below meth co D cy A nL Q cells slots a L c g r lv (pc + 1) (.int v :: st)) : zG p l e R s m args below meth co D cy A nL Q cells slots a L c g r lv pc (.int y :: .int x :: st) := fun H locs ls hW hS hl => by subst hv; exact lv_ishl C.1 C.2.1 hd (kk H locs ls hW hS hl)
theorem z_ishr (C : zC p s m args meth co D cy A cc nL ret Ts own) {x v : Int32} {y : Int32} (hd : decode cc pc = .ok (.ishr, 1)) (hv : x >>> (y &&& 31) = v) (kk : zG p l e R s m args below meth co D cy A nL Q cells slots a L c g r lv (pc + 1) (.int v :: st)) : zG p l e R s m args below meth co D cy A nL Q cells slots a L c g r lv pc (.int y :: .int x :: st) := fun H locs ls hW hS hl => by subst hv; exact lv_ishr C.1 C.2.1 hd (kk H locs ls hW hS hl)
theorem z_i2l (C : zC p s m args meth co D cy A cc nL ret Ts own) {x : Int32} {v : Int64} (hd : decode cc pc = .ok (.i2l, 1)) (hv : x.toInt64 = v) (kk : zG p l e R s m args below meth co D cy A nL Q cells slots a L c g r lv (pc + 1) (.long v :: st)) : zG p l e R s m args below meth co D cy A nL Q cells slots a L c g r lv pc (.int x :: st) := fun H locs ls hW hS hl => lv_i2l C.1 C.2.1 hd hv (kk H locs ls hW hS hl)
theorem z_l2i (C : zC p s m args meth co D cy A cc nL ret Ts own) {x : Int64} {v : Int32} (hd : decode cc pc = .ok (.l2i, 1)) (hv : x.toInt32 = v) (kk : zG p l e R s m args below meth co D cy A nL Q cells slots a L c g r lv (pc + 1) (.int v :: st)) : zG p l e R s m args below meth co D cy A nL Q cells slots a L c g r lv pc (.long x :: st) := fun H locs ls hW hS hl => lv_l2i C.1 C.2.1 hd hv (kk H locs ls hW hS hl)
theorem z_i2b (C : zC p s m args meth co D cy A cc nL ret Ts own) {x : Int32} {v : Int32} (hd : decode cc pc = .ok (.i2b, 1)) (hv : x.toInt8.toInt32 = v) (kk : zG p l e R s m args below meth co D cy A nL Q cells slots a L c g r lv (pc + 1) (.int v :: st)) : zG p l e R s m args below meth co D cy A nL Q cells slots a L c g r lv pc (.int x :: st) := fun H locs ls hW hS hl => lv_i2b C.1 C.2.1 hd hv (kk H locs ls hW hS hl)
theorem z_i2s (C : zC p s m args meth co D cy A cc nL ret Ts own) {x : Int32} {v : Int32} (hd : decode cc pc = .ok (.i2s, 1)) (hv : x.toInt16.toInt32 = v) (kk : zG p l e R s m args below meth co D cy A nL Q cells slots a L c g r lv (pc + 1) (.int v :: st)) : zG p l e R s m args below meth co D cy A nL Q cells slots a L c g r lv pc (.int x :: st) := fun H locs ls hW hS hl => lv_i2s C.1 C.2.1 hd hv (kk H locs ls hW hS hl)
theorem z_lcmp (C : zC p s m args meth co D cy A cc nL ret Ts own) {x y : Int64} (hd : decode cc pc = .ok (.lcmp, 1)) (kk : zG p l e R s m args below meth co D cy A nL Q cells slots a L c g r lv (pc + 1) (.int (lg_cmp x y) :: st)) : zG p l e R s m args below meth co D cy A nL Q cells slots a L c g r lv pc (.long y :: .long x :: st) := fun H locs ls hW hS hl => W.lcmp C.1 C.2.1 hd (kk H locs ls hW hS hl)
theorem z_dup (C : zC p s m args meth co D cy A cc nL ret Ts own) {x : Value} (hd : decode cc pc = .ok (.dup, 1)) (hx : x.category = 1) (kk : zG p l e R s m args below meth co D cy A nL Q cells slots a L c g r lv (pc + 1) (x :: x :: st)) : zG p l e R s m args below meth co D cy A nL Q cells slots a L c g r lv pc (x :: st) := fun H locs ls hW hS hl => lv_dup C.1 C.2.1 hd hx (kk H locs ls hW hS hl)
theorem z_dup2 (C : zC p s m args meth co D cy A cc nL ret Ts own) {x y : Value} (hd : decode cc pc = .ok (.dup2, 1)) (hx : x.category = 1) (hy : y.category = 1) (kk : zG p l e R s m args below meth co D cy A nL Q cells slots a L c g r lv (pc + 1) (x :: y :: x :: y :: st)) : zG p l e R s m args below meth co D cy A nL Q cells slots a L c g r lv pc (x :: y :: st) := fun H locs ls hW hS hl => lv_dup2_11 C.1 C.2.1 hd hx hy (kk H locs ls hW hS hl)
theorem z_if_eq (C : zC p s m args meth co D cy A cc nL ret Ts own) {x : Int32} {off : Int} {tgt : Nat} (hd : decode cc pc = .ok (.ifCond .eq off, 3)) (ht : (pc : Int) + off = (tgt : Int)) (kt : x = 0 → zG p l e R s m args below meth co D cy A nL Q cells slots a L c g r lv tgt st) (kf : ¬ x = 0 → zG p l e R s m args below meth co D cy A nL Q cells slots a L c g r lv (pc + 3) st) : zG p l e R s m args below meth co D cy A nL Q cells slots a L c g r lv pc (.int x :: st) := fun H locs ls hW hS hl => lv_if_eq C.1 C.2.1 hd ht (fun h => kt h H locs ls hW hS hl) (fun h => kf h H locs ls hW hS hl)
theorem z_icmp_eq (C : zC p s m args meth co D cy A cc nL ret Ts own) {x y : Int32} {off : Int} {tgt : Nat} (hd : decode cc pc = .ok (.if_icmp .eq off, 3)) (ht : (pc : Int) + off = (tgt : Int)) (kt : x = y → zG p l e R s m args below meth co D cy A nL Q cells slots a L c g r lv tgt st) (kf : ¬ x = y → zG p l e R s m args below meth co D cy A nL Q cells slots a L c g r lv (pc + 3) st) : zG p l e R s m args below meth co D cy A nL Q cells slots a L c g r lv pc (.int y :: .int x :: st) := fun H locs ls hW hS hl => lv_icmp_eq C.1 C.2.1 hd ht (fun h => kt h H locs ls hW hS hl) (fun h => kf h H locs ls hW hS hl)
theorem z_if_ne (C : zC p s m args meth co D cy A cc nL ret Ts own) {x : Int32} {off : Int} {tgt : Nat} (hd : decode cc pc = .ok (.ifCond .ne off, 3)) (ht : (pc : Int) + off = (tgt : Int)) (kt : ¬ x = 0 → zG p l e R s m args below meth co D cy A nL Q cells slots a L c g r lv tgt st) (kf : x = 0 → zG p l e R s m args below meth co D cy A nL Q cells slots a L c g r lv (pc + 3) st) : zG p l e R s m args below meth co D cy A nL Q cells slots a L c g r lv pc (.int x :: st) := fun H locs ls hW hS hl => lv_if_ne C.1 C.2.1 hd ht (fun h => kt h H locs ls hW hS hl) (fun h => kf h H locs ls hW hS hl)
theorem z_icmp_ne (C : zC p s m args meth co D cy A cc nL ret Ts own) {x y : Int32} {off : Int} {tgt : Nat} (hd : decode cc pc = .ok (.if_icmp .ne off, 3)) (ht : (pc : Int) + off = (tgt : Int)) (kt : ¬ x = y → zG p l e R s m args below meth co D cy A nL Q cells slots a L c g r lv tgt st) (kf : x = y → zG p l e R s m args below meth co D cy A nL Q cells slots a L c g r lv (pc + 3) st) : zG p l e R s m args below meth co D cy A nL Q cells slots a L c g r lv pc (.int y :: .int x :: st) := fun H locs ls hW hS hl => lv_icmp_ne C.1 C.2.1 hd ht (fun h => kt h H locs ls hW hS hl) (fun h => kf h H locs ls hW hS hl)
theorem z_if_lt (C : zC p s m args meth co D cy A cc nL ret Ts own) {x : Int32} {off : Int} {tgt : Nat} (hd : decode cc pc = .ok (.ifCond .lt off, 3)) (ht : (pc : Int) + off = (tgt : Int)) (kt : x < 0 → zG p l e R s m args below meth co D cy A nL Q cells slots a L c g r lv tgt st) (kf : ¬ x < 0 → zG p l e R s m args below meth co D cy A nL Q cells slots a L c g r lv (pc + 3) st) : zG p l e R s m args below meth co D cy A nL Q cells slots a L c g r lv pc (.int x :: st) := fun H locs ls hW hS hl => lv_if_lt C.1 C.2.1 hd ht (fun h => kt h H locs ls hW hS hl) (fun h => kf h H locs ls hW hS hl)
theorem z_icmp_lt (C : zC p s m args meth co D cy A cc nL ret Ts own) {x y : Int32} {off : Int} {tgt : Nat} (hd : decode cc pc = .ok (.if_icmp .lt off, 3)) (ht : (pc : Int) + off = (tgt : Int)) (kt : x < y → zG p l e R s m args below meth co D cy A nL Q cells slots a L c g r lv tgt st) (kf : ¬ x < y → zG p l e R s m args below meth co D cy A nL Q cells slots a L c g r lv (pc + 3) st) : zG p l e R s m args below meth co D cy A nL Q cells slots a L c g r lv pc (.int y :: .int x :: st) := fun H locs ls hW hS hl => lv_icmp_lt C.1 C.2.1 hd ht (fun h => kt h H locs ls hW hS hl) (fun h => kf h H locs ls hW hS hl)
theorem z_if_ge (C : zC p s m args meth co D cy A cc nL ret Ts own) {x : Int32} {off : Int} {tgt : Nat} (hd : decode cc pc = .ok (.ifCond .ge off, 3)) (ht : (pc : Int) + off = (tgt : Int)) (kt : 0 ≤ x → zG p l e R s m args below meth co D cy A nL Q cells slots a L c g r lv tgt st) (kf : ¬ 0 ≤ x → zG p l e R s m args below meth co D cy A nL Q cells slots a L c g r lv (pc + 3) st) : zG p l e R s m args below meth co D cy A nL Q cells slots a L c g r lv pc (.int x :: st) := fun H locs ls hW hS hl => lv_if_ge C.1 C.2.1 hd ht (fun h => kt h H locs ls hW hS hl) (fun h => kf h H locs ls hW hS hl)
theorem z_icmp_ge (C : zC p s m args meth co D cy A cc nL ret Ts own) {x y : Int32} {off : Int} {tgt : Nat} (hd : decode cc pc = .ok (.if_icmp .ge off, 3)) (ht : (pc : Int) + off = (tgt : Int)) (kt : y ≤ x → zG p l e R s m args below meth co D cy A nL Q cells slots a L c g r lv tgt st) (kf : ¬ y ≤ x → zG p l e R s m args below meth co D cy A nL Q cells slots a L c g r lv (pc + 3) st) : zG p l e R s m args below meth co D cy A nL Q cells slots a L c g r lv pc (.int y :: .int x :: st) := fun H locs ls hW hS hl => lv_icmp_ge C.1 C.2.1 hd ht (fun h => kt h H locs ls hW hS hl) (fun h => kf h H locs ls hW hS hl)
theorem z_if_gt (C : zC p s m args meth co D cy A cc nL ret Ts own) {x : Int32} {off : Int} {tgt : Nat} (hd : decode cc pc = .ok (.ifCond .gt off, 3)) (ht : (pc : Int) + off = (tgt : Int)) (kt : 0 < x → zG p l e R s m args below meth co D cy A nL Q cells slots a L c g r lv tgt st) (kf : ¬ 0 < x → zG p l e R s m args below meth co D cy A nL Q cells slots a L c g r lv (pc + 3) st) : zG p l e R s m args below meth co D cy A nL Q cells slots a L c g r lv pc (.int x :: st) := fun H locs ls hW hS hl => lv_if_gt C.1 C.2.1 hd ht (fun h => kt h H locs ls hW hS hl) (fun h => kf h H locs ls hW hS hl)
theorem z_icmp_gt (C : zC p s m args meth co D cy A cc nL ret Ts own) {x y : Int32} {off : Int} {tgt : Nat} (hd : decode cc pc = .ok (.if_icmp .gt off, 3)) (ht : (pc : Int) + off = (tgt : Int)) (kt : y < x → zG p l e R s m args below meth co D cy A nL Q cells slots a L c g r lv tgt st) (kf : ¬ y < x → zG p l e R s m args below meth co D cy A nL Q cells slots a L c g r lv (pc + 3) st) : zG p l e R s m args below meth co D cy A nL Q cells slots a L c g r lv pc (.int y :: .int x :: st) := fun H locs ls hW hS hl => lv_icmp_gt C.1 C.2.1 hd ht (fun h => kt h H locs ls hW hS hl) (fun h => kf h H locs ls hW hS hl)
theorem z_if_le (C : zC p s m args meth co D cy A cc nL ret Ts own) {x : Int32} {off : Int} {tgt : Nat} (hd : decode cc pc = .ok (.ifCond .le off, 3)) (ht : (pc : Int) + off = (tgt : Int)) (kt : x ≤ 0 → zG p l e R s m args below meth co D cy A nL Q cells slots a L c g r lv tgt st) (kf : ¬ x ≤ 0 → zG p l e R s m args below meth co D cy A nL Q cells slots a L c g r lv (pc + 3) st) : zG p l e R s m args below meth co D cy A nL Q cells slots a L c g r lv pc (.int x :: st) := fun H locs ls hW hS hl => lv_if_le C.1 C.2.1 hd ht (fun h => kt h H locs ls hW hS hl) (fun h => kf h H locs ls hW hS hl)
theorem z_icmp_le (C : zC p s m args meth co D cy A cc nL ret Ts own) {x y : Int32} {off : Int} {tgt : Nat} (hd : decode cc pc = .ok (.if_icmp .le off, 3)) (ht : (pc : Int) + off = (tgt : Int)) (kt : x ≤ y → zG p l e R s m args below meth co D cy A nL Q cells slots a L c g r lv tgt st) (kf : ¬ x ≤ y → zG p l e R s m args below meth co D cy A nL Q cells slots a L c g r lv (pc + 3) st) : zG p l e R s m args below meth co D cy A nL Q cells slots a L c g r lv pc (.int y :: .int x :: st) := fun H locs ls hW hS hl => lv_icmp_le C.1 C.2.1 hd ht (fun h => kt h H locs ls hW hS hl) (fun h => kf h H locs ls hW hS hl)
theorem z_goto (C : zC p s m args meth co D cy A cc nL ret Ts own) {off : Int} {tgt : Nat} (hd : decode cc pc = .ok (.goto off, 3)) (ht : (pc : Int) + off = (tgt : Int)) (kk : zG p l e R s m args below meth co D cy A nL Q cells slots a L c g r lv tgt st) : zG p l e R s m args below meth co D cy A nL Q cells slots a L c g r lv pc st := fun H locs ls hW hS hl => lv_goto C.1 C.2.1 hd ht (kk H locs ls hW hS hl)
theorem z_ifnull (C : zC p s m args meth co D cy A cc nL ret Ts own) {x : Nat} {off : Int} (hd : decode cc pc = .ok (.ifnull off, 3)) (kk : zG p l e R s m args below meth co D cy A nL Q cells slots a L c g r lv (pc + 3) st) : zG p l e R s m args below meth co D cy A nL Q cells slots a L c g r lv pc (.ref x :: st) := fun H locs ls hW hS hl => lv_ifnull C.1 C.2.1 hd (kk H locs ls hW hS hl)
theorem z_ifnullN (C : zC p s m args meth co D cy A cc nL ret Ts own) {off : Int} {tgt : Nat} (hd : decode cc pc = .ok (.ifnull off, 3)) (ht : (pc : Int) + off = (tgt : Int)) (kk : zG p l e R s m args below meth co D cy A nL Q cells slots a L c g r lv tgt st) : zG p l e R s m args below meth co D cy A nL Q cells slots a L c g r lv pc (.null :: st) := fun H locs ls hW hS hl => lv_ifnullN C.1 C.2.1 hd ht (kk H locs ls hW hS hl)
theorem z_ifnonnull (C : zC p s m args meth co D cy A cc nL ret Ts own) {x : Nat} {off : Int} {tgt : Nat} (hd : decode cc pc = .ok (.ifnonnull off, 3)) (ht : (pc : Int) + off = (tgt : Int)) (kk : zG p l e R s m args below meth co D cy A nL Q cells slots a L c g r lv tgt st) : zG p l e R s m args below meth co D cy A nL Q cells slots a L c g r lv pc (.ref x :: st) := fun H locs ls hW hS hl => lv_ifnonnull C.1 C.2.1 hd ht (kk H locs ls hW hS hl)
theorem z_ifnonnullN (C : zC p s m args meth co D cy A cc nL ret Ts own) {off : Int} (hd : decode cc pc = .ok (.ifnonnull off, 3)) (kk : zG p l e R s m args below meth co D cy A nL Q cells slots a L c g r lv (pc + 3) st) : zG p l e R s m args below meth co D cy A nL Q cells slots a L c g r lv pc (.null :: st) := fun H locs ls hW hS hl => lv_ifnonnullN C.1 C.2.1 hd (kk H locs ls hW hS hl)
theorem z_tableIn (C : zC p s m args meth co D cy A cc nL ret Ts own) {dflt lo hi : Int} {offs : Array Int} {len : Nat} {x : Int32} {off : Int} {tgt : Nat} (hd : decode cc pc = .ok (.tableswitch dflt lo hi offs, len)) (h1 : ¬ x.toInt < lo) (h2 : ¬ hi < x.toInt) (ho : offs[(x.toInt - lo).toNat]? = some off) (ht : (pc : Int) + off = (tgt : Int)) (kk : zG p l e R s m args below meth co D cy A nL Q cells slots a L c g r lv tgt st) : zG p l e R s m args below meth co D cy A nL Q cells slots a L c g r lv pc (.int x :: st) := fun H locs ls hW hS hl => lv_tableIn C.1 C.2.1 hd h1 h2 ho ht (kk H locs ls hW hS hl)
theorem z_tableOut (C : zC p s m args meth co D cy A cc nL ret Ts own) {dflt lo hi : Int} {offs : Array Int} {len : Nat} {x : Int32} {tgt : Nat} (hd : decode cc pc = .ok (.tableswitch dflt lo hi offs, len)) (h : x.toInt < lo ∨ hi < x.toInt) (ht : (pc : Int) + dflt = (tgt : Int)) (kk : zG p l e R s m args below meth co D cy A nL Q cells slots a L c g r lv tgt st) : zG p l e R s m args below meth co D cy A nL Q cells slots a L c g r lv pc (.int x :: st) := fun H locs ls hW hS hl => lv_tableOut C.1 C.2.1 hd h ht (kk H locs ls hW hS hl)
theorem z_lookup (C : zC p s m args meth co D cy A cc nL ret Ts own) {dflt : Int} {ps : Array (Int × Int)} {len : Nat} {x : Int32} {off : Int} {tgt : Nat} (hd : decode cc pc = .ok (.lookupswitch dflt ps, len)) (hp : (ps.toList.zip (ps.toList.drop 1)).all (fun (a, next) => a.1 < next.1) = true) (ho : Op.lookupswitch.offset ps.toList dflt x.toInt = off) (ht : (pc : Int) + off = (tgt : Int)) (kk : zG p l e R s m args below meth co D cy A nL Q cells slots a L c g r lv tgt st) : zG p l e R s m args below meth co D cy A nL Q cells slots a L c g r lv pc (.int x :: st) := fun H locs ls hW hS hl => lv_lookup C.1 C.2.1 hd hp ho ht (kk H locs ls hW hS hl)
theorem z_get (C : zC p s m args meth co D cy A cc nL ret Ts own) {k : Nat} (hk : k ∈ L) {ci : Nat} {fs : List Value} (hF : zF cy a c g r k = .inr (ci, fs)) {Cn : String} {T : u_T} {N index : Nat} (hc : vwCl[ci]? = some (Cn, T, N)) (j : Nat) (hj : j < N) (hin : ∀ w ∈ u_ws Cn T N, w ∈ Ts) (hlink : Cond.fieldLink own index (T j).1 (T j).2.1 (T j).2.2.1 ∈ Ts) {v : Value} (hv : fs[j]? = some v) (hd : decode cc pc = .ok (.getfield index, 3)) (kk : zG p l e R s m args below meth co D cy A nL Q cells slots a L c g r lv (pc + 3) (v :: st)) : zG p l e R s m args below meth co D cy A nL Q cells slots a L c g r lv pc (.ref (a k) :: st) := by
  intro H locs ls hW hS hl
  obtain ⟨q, hq⟩ := List.getElem?_of_mem hk
  have he := wd_at cy a c g r hq
  rw [hF] at he
  exact va_get C.1 C.2.1 C.2.2.2.2.2.1 hin C.2.2.2.2.1 C.2.2.2.2.2.2.1.1 hW.1 q he hc j hj (C.2.2.2.2.2.1 _ hlink) (fun _ h9 => h9) hv hd (kk H locs ls hW hS hl)
theorem z_put (C : zC p s m args meth co D cy A cc nL ret Ts own) {k : Nat} (hk : k ∈ L) {ci : Nat} {fs : List Value} (hF : zF cy a c g r k = .inr (ci, fs)) {Cn : String} {T : u_T} {N index : Nat} (hc : vwCl[ci]? = some (Cn, T, N)) (ty0 : Nat → FieldType) (hty : ∀ k, k < N → parseFieldDescriptor (T k).2.2.1 = some (ty0 k)) (hnm : ∀ a, a < N → ∀ b, b < N → a ≠ b → (T a).2.1 ≠ (T b).2.1) (j : Nat) (hj : j < N) (hin : ∀ w ∈ u_ws Cn T N, w ∈ Ts) (hlink : Cond.fieldLink own index (T j).1 (T j).2.1 (T j).2.2.1 ∈ Ts) (hfin : (T j).2.2.2 = false ∨ ((T j).2.2.2 = true ∧ meth.name = "<init>" ∧ (T j).1 = own)) {v : Value} (hn : narrow (ty0 j) v = v) (hfit : fits (ty0 j) v = true) (hlen : j < fs.length) {c' : Nat → Nat → Int32} {g' : Nat → Nat → Int64} {r' : Nat → Nat → Option Nat} (he' : zF cy a c' g' r' k = .inr (ci, fs.set j v)) (ho : ∀ i, i ≠ k → zF cy a c' g' r' i = zF cy a c g r i) (hd : decode cc pc = .ok (.putfield index, 3)) (kk : zG p l e R s m args below meth co D cy A nL Q cells slots a L c' g' r' lv (pc + 3) st) : zG p l e R s m args below meth co D cy A nL Q cells slots a L c g r lv pc (v :: .ref (a k) :: st) := by
  intro H locs ls hW hS hl
  obtain ⟨q, hq⟩ := List.getElem?_of_mem hk
  have he := wd_at cy a c g r hq
  rw [hF] at he
  have hset := wd_set hW hq he' ho
  rcases hfin with hfin | ⟨hfin, hi2, hdecl⟩
  · refine va_put C.1 C.2.1 C.2.2.2.2.2.1 hin ty0 hty hnm C.2.2.2.2.1 C.2.2.2.2.2.2.1.1 hW.1 hW.2 hS q he hc j hj (C.2.2.2.2.2.1 _ hlink) (fun _ h9 => h9) hfin (hty j hj) hn hfit hlen hd (fun H1 locs1 h1 h2 h3 => ?_)
    rw [hset] at h1 h2
    exact kk H1 locs1 ls ⟨h1, h2⟩ h3 hl
  · refine va_putF C.1 C.2.1 C.2.2.2.2.2.1 hin ty0 hty hnm C.2.2.2.2.1 C.2.2.2.2.2.2.1.1 hW.1 hW.2 hS q he hc j hj (C.2.2.2.2.2.1 _ hlink) (fun _ h9 => h9) hfin hi2 hdecl (hty j hj) hn hfit hlen hd (fun H1 locs1 h1 h2 h3 => ?_)
    rw [hset] at h1 h2
    exact kk H1 locs1 ls ⟨h1, h2⟩ h3 hl
theorem zF_int {k : Nat} (h : kd k = 9) : zF cy a c g r k = .inl (cy 9, ln k, .inl (c k)) := by simp [zF, h]
theorem zF_bool {k : Nat} (h : kd k = 10) : zF cy a c g r k = .inl (cy 10, ln k, .inl (c k)) := by simp [zF, h]
theorem zF_ref {k n : Nat} (h : kd k = n) (hn : n = 11 ∨ n = 12 ∨ n = 13 ∨ n = 14) : zF cy a c g r k = .inl (cy n, ln k, .inr (.inr (.inr (.inr (fun i => (r k i).map a))))) := by
  rcases hn with rfl | rfl | rfl | rfl <;> simp [zF, h]
theorem zF_rl {k n : Nat} (h : ln k = n) : zF cy a c g r k = zF cy a c g r k := rfl
theorem z_iaload (C : zC p s m args meth co D cy A cc nL ret Ts own) {k : Nat} (hk : k ∈ L) (hkd : kd k = 9) {i : Int32} {j : Nat} {v : Int32} (hi : i = nI j) (hj : j < ln k) (hs : ln k < 2 ^ 31) (hv : c k j = v) (hd : decode cc pc = .ok (.iaload, 1)) (kk : zG p l e R s m args below meth co D cy A nL Q cells slots a L c g r lv (pc + 1) (.int v :: st)) : zG p l e R s m args below meth co D cy A nL Q cells slots a L c g r lv pc (.int i :: .ref (a k) :: st) := by
  intro H locs ls hW hS hl
  obtain ⟨q, hq⟩ := List.getElem?_of_mem hk
  have he := wd_at cy a c g r hq
  rw [zF_int hkd] at he
  subst hi hv
  refine va_iald C.1 C.2.1 C.2.2.2.2.2.2.1.1 hW.1 q 0 he rfl (vp_in_nI hj hs) hd ?_
  rw [nI_clamp (Nat.lt_trans hj hs)]
  exact kk H locs ls hW hS hl
theorem z_baload (C : zC p s m args meth co D cy A cc nL ret Ts own) {k : Nat} (hk : k ∈ L) (hkd : kd k = 10) {i : Int32} {j : Nat} {v : Int32} (hi : i = nI j) (hj : j < ln k) (hs : ln k < 2 ^ 31) (hv : c k j = v) (hd : decode cc pc = .ok (.baload, 1)) (kk : zG p l e R s m args below meth co D cy A nL Q cells slots a L c g r lv (pc + 1) (.int v :: st)) : zG p l e R s m args below meth co D cy A nL Q cells slots a L c g r lv pc (.int i :: .ref (a k) :: st) := by
  intro H locs ls hW hS hl
  obtain ⟨q, hq⟩ := List.getElem?_of_mem hk
  have he := wd_at cy a c g r hq
  rw [zF_bool hkd] at he
  subst hi hv
  refine va_zald C.1 C.2.1 C.2.2.2.2.2.2.1.1 hW.1 q 1 he rfl (vp_in_nI hj hs) hd ?_
  rw [nI_clamp (Nat.lt_trans hj hs)]
  exact kk H locs ls hW hS hl
theorem z_alen (C : zC p s m args meth co D cy A cc nL ret Ts own) {k : Nat} (hk : k ∈ L) (hkd : kd k = 9) {v : Int32} (hv : nI (ln k) = v) (hd : decode cc pc = .ok (.arraylength, 1)) (kk : zG p l e R s m args below meth co D cy A nL Q cells slots a L c g r lv (pc + 1) (.int v :: st)) : zG p l e R s m args below meth co D cy A nL Q cells slots a L c g r lv pc (.ref (a k) :: st) := by
  intro H locs ls hW hS hl
  obtain ⟨q, hq⟩ := List.getElem?_of_mem hk
  have he := wd_at cy a c g r hq
  rw [zF_int hkd] at he
  exact va_alen C.1 C.2.1 C.2.2.2.2.2.2.1.1 hW.1 q 0 he rfl hv hd (kk H locs ls hW hS hl)
theorem z_iastore (C : zC p s m args meth co D cy A cc nL ret Ts own) {k : Nat} (hk : k ∈ L) (hkd : kd k = 9) {i x : Int32} {j : Nat} (hi : i = nI j) (hj : j < ln k) (hs : ln k < 2 ^ 31) (hd : decode cc pc = .ok (.iastore, 1)) (kk : zG p l e R s m args below meth co D cy A nL Q cells slots a L (up2 c k j x) g r lv (pc + 1) st) : zG p l e R s m args below meth co D cy A nL Q cells slots a L c g r lv pc (.int x :: .int i :: .ref (a k) :: st) := by
  intro H locs ls hW hS hl
  obtain ⟨q, hq⟩ := List.getElem?_of_mem hk
  have he := wd_at cy a c g r hq
  rw [zF_int hkd] at he
  subst hi
  refine va_iast C.1 C.2.1 C.2.2.2.2.2.2.1.1 hW.1 hW.2 hS q 0 he rfl (vp_in_nI hj hs) hd (fun H1 locs1 h1 h2 h3 => ?_)
  rw [nI_clamp (Nat.lt_trans hj hs), ← up2_upd, wd_set hW hq (zF_int hkd) (fun i hi => zF_c cy a g r (up2_row c j x hi))] at h1 h2
  exact kk H1 locs1 ls ⟨h1, h2⟩ h3 hl
theorem z_bastore (C : zC p s m args meth co D cy A cc nL ret Ts own) {k : Nat} (hk : k ∈ L) (hkd : kd k = 10) {i x : Int32} {j : Nat} (hi : i = nI j) (hj : j < ln k) (hs : ln k < 2 ^ 31) (hx : vp_nar .boolean x = x) (hd : decode cc pc = .ok (.bastore, 1)) (kk : zG p l e R s m args below meth co D cy A nL Q cells slots a L (up2 c k j x) g r lv (pc + 1) st) : zG p l e R s m args below meth co D cy A nL Q cells slots a L c g r lv pc (.int x :: .int i :: .ref (a k) :: st) := by
  intro H locs ls hW hS hl
  obtain ⟨q, hq⟩ := List.getElem?_of_mem hk
  have he := wd_at cy a c g r hq
  rw [zF_bool hkd] at he
  subst hi
  refine va_zast C.1 C.2.1 C.2.2.2.2.2.2.1.1 hW.1 hW.2 hS q 1 he rfl (vp_in_nI hj hs) hd (fun H1 locs1 h1 h2 h3 => ?_)
  rw [nI_clamp (Nat.lt_trans hj hs), hx, ← up2_upd, wd_set hW hq (zF_bool hkd) (fun i hi => zF_c cy a g r (up2_row c j x hi))] at h1 h2
  exact kk H1 locs1 ls ⟨h1, h2⟩ h3 hl
theorem zT_ref {n : Nat} {Cn : String} (hn : (n = 11 ∧ Cn = RX0) ∨ (n = 12 ∧ Cn = RX1) ∨ (n = 13 ∧ Cn = RX4) ∨ (n = 14 ∧ Cn = RX6)) : ∃ t : Nat, (zT cy)[t]? = some (cy n, FieldType.object Cn) := by
  rcases hn with ⟨rfl, rfl⟩ | ⟨rfl, rfl⟩ | ⟨rfl, rfl⟩ | ⟨rfl, rfl⟩
  · exact ⟨2, rfl⟩
  · exact ⟨3, rfl⟩
  · exact ⟨4, rfl⟩
  · exact ⟨5, rfl⟩
theorem z_aaload (C : zC p s m args meth co D cy A cc nL ret Ts own) {k n : Nat} (hk : k ∈ L) (hkd : kd k = n) (hn : n = 11 ∨ n = 12 ∨ n = 13 ∨ n = 14) {i : Int32} {j : Nat} {v : Value} (hi : i = nI j) (hj : j < ln k) (hs : ln k < 2 ^ 31) (hv : va_rf ((r k j).map a) = v) (hd : decode cc pc = .ok (.aaload, 1)) (kk : zG p l e R s m args below meth co D cy A nL Q cells slots a L c g r lv (pc + 1) (v :: st)) : zG p l e R s m args below meth co D cy A nL Q cells slots a L c g r lv pc (.int i :: .ref (a k) :: st) := by
  intro H locs ls hW hS hl
  obtain ⟨q, hq⟩ := List.getElem?_of_mem hk
  have he := wd_at cy a c g r hq
  rw [zF_ref hkd hn] at he
  subst hi hv
  obtain ⟨Cn, hCn⟩ : ∃ Cn, (n = 11 ∧ Cn = RX0) ∨ (n = 12 ∧ Cn = RX1) ∨ (n = 13 ∧ Cn = RX4) ∨ (n = 14 ∧ Cn = RX6) := by
    rcases hn with rfl | rfl | rfl | rfl
    · exact ⟨_, Or.inl ⟨rfl, rfl⟩⟩
    · exact ⟨_, Or.inr (Or.inl ⟨rfl, rfl⟩)⟩
    · exact ⟨_, Or.inr (Or.inr (Or.inl ⟨rfl, rfl⟩))⟩
    · exact ⟨_, Or.inr (Or.inr (Or.inr ⟨rfl, rfl⟩))⟩
  obtain ⟨t, ht⟩ := zT_ref (cy := cy) hCn
  refine va_aldq C.1 C.2.1 C.2.2.2.2.2.2.1.1 hW.1 q t he ht (vp_in_nI hj hs) hd ?_
  rw [nI_clamp (Nat.lt_trans hj hs)]
  exact kk H locs ls hW hS hl
theorem z_aastore (C : zC p s m args meth co D cy A cc nL ret Ts own) {k n y ci : Nat} (hk : k ∈ L) (hkd : kd k = n) (hn : (n = 11 ∧ ci = 0) ∨ (n = 12 ∧ ci = 1) ∨ (n = 13 ∧ ci = 4) ∨ (n = 14 ∧ ci = 6)) (hy : y ∈ L) {fs : List Value} (hyF : zF cy a c g r y = .inr (ci, fs)) {i : Int32} {j : Nat} (hi : i = nI j) (hj : j < ln k) (hs : ln k < 2 ^ 31) (hd : decode cc pc = .ok (.aastore, 1)) (kk : zG p l e R s m args below meth co D cy A nL Q cells slots a L c g (up2 r k j (some y)) lv (pc + 1) st) : zG p l e R s m args below meth co D cy A nL Q cells slots a L c g r lv pc (.ref (a y) :: .int i :: .ref (a k) :: st) := by
  intro H locs ls hW hS hl
  obtain ⟨q, hq⟩ := List.getElem?_of_mem hk
  obtain ⟨qy, hqy⟩ := List.getElem?_of_mem hy
  have hn1 : n = 11 ∨ n = 12 ∨ n = 13 ∨ n = 14 := by rcases hn with h | h | h | h <;> simp [h.1]
  have he := wd_at cy a c g r hq
  rw [zF_ref hkd hn1] at he
  have hey := wd_at cy a c g r hqy
  rw [hyF] at hey
  subst hi
  obtain ⟨rc, t, hrc, ht⟩ : ∃ (rc : vw_C) (t : Nat), vwCl[ci]? = some rc ∧ (zT cy)[t]? = some (cy n, FieldType.object rc.1) := by
    rcases hn with ⟨rfl, rfl⟩ | ⟨rfl, rfl⟩ | ⟨rfl, rfl⟩ | ⟨rfl, rfl⟩
    · exact ⟨_, 2, rfl, rfl⟩
    · exact ⟨_, 3, rfl, rfl⟩
    · exact ⟨_, 4, rfl, rfl⟩
    · exact ⟨_, 5, rfl, rfl⟩
  refine va_astq C.1 C.2.1 C.2.2.2.2.2.2.1.1 hW.1 hW.2 hS q t qy ci he ht hey hrc (vp_in_nI hj hs) hd (fun H1 locs1 h1 h2 h3 => ?_)
  have e9 : va_up (fun i => (r k i).map a) j (some (a y)) = fun i => (up2 r k j (some y) k i).map a := by
    funext i
    by_cases hij : i = j
    · subst hij; simp [va_up, up2]
    · simp [va_up, up2, hij]
  rw [nI_clamp (Nat.lt_trans hj hs), e9, wd_set hW hq (zF_ref hkd hn1) (fun i hi => zF_r cy a c g (up2_row r j (some y) hi))] at h1 h2
  exact kk H1 locs1 ls ⟨h1, h2⟩ h3 hl
end ZR
end
section
def zPre (D : va_G) (cy : Nat → ClassId) (a : Nat → Nat) (L : List Nat) (c : Nat → Nat → Int32) (g : Nat → Nat → Int64) (r : Nat → Nat → Option Nat) (sz : Nat) (U : State) : Prop := U.heap.size = sz ∧ zW D cy a L c g r (fun _ => True) U.heap ∧ zK D cy U
/-- the world behind a method -/
def zB (D : va_G) (cy : Nat → ClassId) (A : Nat → Prop) (ω : Wo) (t : State) : Prop := zW D cy ω.1 ω.2.1 ω.2.2.1 ω.2.2.2.1 ω.2.2.2.2 A t.heap
abbrev Qx : Type := Array Value → State → Outcome → State → Prop
/-- a contract over the world -/
def zM (l : Launch) (y : MethodName) (ws : List Cond) (rm : Room) (D : va_G) (cy : Nat → ClassId) (a : Nat → Nat) (L : List Nat) (c : Nat → Nat → Int32) (g : Nat → Nat → Int64) (r : Nat → Nat → Option Nat) (av : List Value) (Qf : Nat → Qx) (mc ms : Nat) : Prop := ∀ sz, Met l y ws rm (va_Pc av (zPre D cy a L c g r sz)) (Qf sz) mc ms (zA a L sz)

def zQI (D : va_G) (cy : Nat → ClassId) (a : Nat → Nat) (L : List Nat) (c : Nat → Nat → Int32) (g : Nat → Nat → Int64) (r : Nat → Nat → Option Nat) (post : Int32 → Wo → Prop) (sz : Nat) : Qx := va_Qi post (zB D cy (zA a L sz)) (zA a L sz)
def zQL (D : va_G) (cy : Nat → ClassId) (a : Nat → Nat) (L : List Nat) (c : Nat → Nat → Int32) (g : Nat → Nat → Int64) (r : Nat → Nat → Option Nat) (post : Int64 → Wo → Prop) (sz : Nat) : Qx := va_Ql post (zB D cy (zA a L sz)) (zA a L sz)
def zQQ (D : va_G) (cy : Nat → ClassId) (a : Nat → Nat) (L : List Nat) (c : Nat → Nat → Int32) (g : Nat → Nat → Int64) (r : Nat → Nat → Option Nat) (post : Option Nat → Wo → Prop) (sz : Nat) : Qx := va_Qq (fun v ω => ∃ o : Option Nat, v = o.map ω.1 ∧ post o ω) (zB D cy (zA a L sz)) (zA a L sz)
def zQV (D : va_G) (cy : Nat → ClassId) (a : Nat → Nat) (L : List Nat) (c : Nat → Nat → Int32) (g : Nat → Nat → Int64) (r : Nat → Nat → Option Nat) (post : Wo → Prop) (sz : Nat) : Qx := va_Qv post (zB D cy (zA a L sz)) (zA a L sz)
/-- nothing changes -/
def zPI (l : Launch) (y : MethodName) (ws : List Cond) (rm : Room) (D : va_G) (cy : Nat → ClassId) (a : Nat → Nat) (L : List Nat) (c : Nat → Nat → Int32) (g : Nat → Nat → Int64) (r : Nat → Nat → Option Nat) (av : List Value) (P : Int32 → Prop) : Prop := zM l y ws rm D cy a L c g r av (zQI D cy a L c g r (fun v ω => ω = (a, L, c, g, r) ∧ P v)) 0 0
/-- the ints change -/
def zCI (l : Launch) (y : MethodName) (ws : List Cond) (rm : Room) (D : va_G) (cy : Nat → ClassId) (a : Nat → Nat) (L : List Nat) (c : Nat → Nat → Int32) (g : Nat → Nat → Int64) (r : Nat → Nat → Option Nat) (av : List Value) (P : Int32 → (Nat → Nat → Int32) → Prop) : Prop := zM l y ws rm D cy a L c g r av (zQI D cy a L c g r (fun v ω => ∃ c', ω = (a, L, c', g, r) ∧ P v c')) 0 0
/-- anything changes -/
def zXI (l : Launch) (y : MethodName) (ws : List Cond) (rm : Room) (D : va_G) (cy : Nat → ClassId) (a : Nat → Nat) (L : List Nat) (c : Nat → Nat → Int32) (g : Nat → Nat → Int64) (r : Nat → Nat → Option Nat) (av : List Value) (P : Int32 → Wo → Prop) (mc ms : Nat) : Prop := zM l y ws rm D cy a L c g r av (zQI D cy a L c g r P) mc ms
/-- nothing changes -/
def zPL (l : Launch) (y : MethodName) (ws : List Cond) (rm : Room) (D : va_G) (cy : Nat → ClassId) (a : Nat → Nat) (L : List Nat) (c : Nat → Nat → Int32) (g : Nat → Nat → Int64) (r : Nat → Nat → Option Nat) (av : List Value) (P : Int64 → Prop) : Prop := zM l y ws rm D cy a L c g r av (zQL D cy a L c g r (fun v ω => ω = (a, L, c, g, r) ∧ P v)) 0 0
/-- the ints change -/
def zCL (l : Launch) (y : MethodName) (ws : List Cond) (rm : Room) (D : va_G) (cy : Nat → ClassId) (a : Nat → Nat) (L : List Nat) (c : Nat → Nat → Int32) (g : Nat → Nat → Int64) (r : Nat → Nat → Option Nat) (av : List Value) (P : Int64 → (Nat → Nat → Int32) → Prop) : Prop := zM l y ws rm D cy a L c g r av (zQL D cy a L c g r (fun v ω => ∃ c', ω = (a, L, c', g, r) ∧ P v c')) 0 0
/-- anything changes -/
def zXL (l : Launch) (y : MethodName) (ws : List Cond) (rm : Room) (D : va_G) (cy : Nat → ClassId) (a : Nat → Nat) (L : List Nat) (c : Nat → Nat → Int32) (g : Nat → Nat → Int64) (r : Nat → Nat → Option Nat) (av : List Value) (P : Int64 → Wo → Prop) (mc ms : Nat) : Prop := zM l y ws rm D cy a L c g r av (zQL D cy a L c g r P) mc ms
/-- nothing changes -/
def zPQ (l : Launch) (y : MethodName) (ws : List Cond) (rm : Room) (D : va_G) (cy : Nat → ClassId) (a : Nat → Nat) (L : List Nat) (c : Nat → Nat → Int32) (g : Nat → Nat → Int64) (r : Nat → Nat → Option Nat) (av : List Value) (P : Option Nat → Prop) : Prop := zM l y ws rm D cy a L c g r av (zQQ D cy a L c g r (fun v ω => ω = (a, L, c, g, r) ∧ P v)) 0 0
/-- the ints change -/
def zCQ (l : Launch) (y : MethodName) (ws : List Cond) (rm : Room) (D : va_G) (cy : Nat → ClassId) (a : Nat → Nat) (L : List Nat) (c : Nat → Nat → Int32) (g : Nat → Nat → Int64) (r : Nat → Nat → Option Nat) (av : List Value) (P : Option Nat → (Nat → Nat → Int32) → Prop) : Prop := zM l y ws rm D cy a L c g r av (zQQ D cy a L c g r (fun v ω => ∃ c', ω = (a, L, c', g, r) ∧ P v c')) 0 0
/-- anything changes -/
def zXQ (l : Launch) (y : MethodName) (ws : List Cond) (rm : Room) (D : va_G) (cy : Nat → ClassId) (a : Nat → Nat) (L : List Nat) (c : Nat → Nat → Int32) (g : Nat → Nat → Int64) (r : Nat → Nat → Option Nat) (av : List Value) (P : Option Nat → Wo → Prop) (mc ms : Nat) : Prop := zM l y ws rm D cy a L c g r av (zQQ D cy a L c g r P) mc ms
def zCV (l : Launch) (y : MethodName) (ws : List Cond) (rm : Room) (D : va_G) (cy : Nat → ClassId) (a : Nat → Nat) (L : List Nat) (c : Nat → Nat → Int32) (g : Nat → Nat → Int64) (r : Nat → Nat → Option Nat) (av : List Value) (P : (Nat → Nat → Int32) → Prop) : Prop := zM l y ws rm D cy a L c g r av (zQV D cy a L c g r (fun ω => ∃ c', ω = (a, L, c', g, r) ∧ P c')) 0 0
def zGV (l : Launch) (y : MethodName) (ws : List Cond) (rm : Room) (D : va_G) (cy : Nat → ClassId) (a : Nat → Nat) (L : List Nat) (c : Nat → Nat → Int32) (g : Nat → Nat → Int64) (r : Nat → Nat → Option Nat) (av : List Value) (P : (Nat → Nat → Int32) → (Nat → Nat → Int64) → Prop) : Prop := zM l y ws rm D cy a L c g r av (zQV D cy a L c g r (fun ω => ∃ c' g', ω = (a, L, c', g', r) ∧ P c' g')) 0 0
def zXV (l : Launch) (y : MethodName) (ws : List Cond) (rm : Room) (D : va_G) (cy : Nat → ClassId) (a : Nat → Nat) (L : List Nat) (c : Nat → Nat → Int32) (g : Nat → Nat → Int64) (r : Nat → Nat → Option Nat) (av : List Value) (P : Wo → Prop) (mc ms : Nat) : Prop := zM l y ws rm D cy a L c g r av (zQV D cy a L c g r P) mc ms
section ZCALL
variable {p : Program} {l : Launch} {e : Env} {R : Room} {s : State} {m : MethodId} {args : Array Value} {below : List Frame} {meth : Method} {co : Code}
variable {D : va_G} {cy : Nat → ClassId} {A : Nat → Prop} {cc : ByteArray} {nL : Nat} {ret : Option FieldType} {Ts : List Cond} {own : String}
variable {a : Nat → Nat} {L : List Nat} {c : Nat → Nat → Int32} {g : Nat → Nat → Int64} {r : Nat → Nat → Option Nat} {Q : State → Prop} {cells slots pc : Nat} {lv : List (Nat × Value)} {st : List Value}
theorem zPre_blind {av : List Value} {sz : Nat} : FrameBlind (va_Pc av (zPre D cy a L c g r sz)) := fun a' U g' mk q => by
  obtain ⟨q0, q1, qW, qK⟩ := q
  exact ⟨q0, q1, qW, va_K.moved (u := U) (U := U.calling g' mk a') (Vm.Alike.refl U.vm) qK.1, qK.2.same rfl⟩
theorem zPre_at {sz : Nat} {H : Heap} {av : List Value} (hK : zK D cy s) (hW : zW D cy a L c g r A H) (hsz : H.size = sz) : ∀ U : State, U.heap = H → s.WarmedH U.vm → va_Pc av (zPre D cy a L c g r sz) av.toArray U := fun U hU hw => ⟨rfl, by rw [hU, hsz], by rw [hU]; exact ⟨hW.1, hW.2.weaken (fun _ _ _ _ => trivial)⟩, hK.warm hw⟩
/-- a call that runs -/
def zRun (p : Program) (l : Launch) (e : Env) (R : Room) (s : State) (m : MethodId) (args : Array Value) (below : List Frame) (meth : Method) (co : Code) (D : va_G) (cy : Nat → ClassId) (A : Nat → Prop) (nL cells slots : Nat) (a : Nat → Nat) (L : List Nat) (c : Nat → Nat → Int32) (g : Nat → Nat → Int64) (r : Nat → Nat → Option Nat) (lv : List (Nat × Value)) (pc : Nat) (st rest : List Value) (Qf : Nat → Qx) (mc ms : Nat) : Prop :=
  ∀ (H : Heap) (locs : List Loc) (ls : Array Slot), zW D cy a L c g r A H → va_S A s.heap H locs → lv_has ls nL lv → ∃ av : Array Value, va_Run p l e R s m args below meth co H locs cells slots mc ms (F0 m pc ls st) rest (Qf H.size av) (zA a L H.size)
theorem z_runV (C : zC p s m args meth co D cy A cc nL ret Ts own) {y : MethodName} {ws : List Cond} {rm : Room} {Qf : Nat → Qx} {mc ms n index maxL : Nat} {bytes : ByteArray} {rt : Option FieldType} {As rest : List Value} {Cn : String} {kb ci : Nat} {fs : List Value} {rc : vw_C} (hM : zM l y ws rm D cy a L c g r (.ref (a kb) :: As) Qf mc ms) (cw : CallW R s args own Cn index y bytes maxL rt ws rm mc ms n) (hk : kb ∈ L) (hF : zF cy a c g r kb = .inr (ci, fs)) (hc : vwCl[ci]? = some rc) (hcn : rc.1 = Cn) (hn : As.length = n) (hst : st = As.reverse ++ .ref (a kb) :: rest) (hroom : (rest.map fun v => v.category).sum ≤ 8) (hd : decode cc pc = .ok (.invokevirtual index, 3)) (hf : cells + mc ≤ R.cells ∧ slots + ms ≤ R.slots) : zRun p l e R s m args below meth co D cy A nL cells slots a L c g r lv pc st rest Qf mc ms := by
  intro H locs ls hW hS hl
  obtain ⟨q, hq⟩ := List.getElem?_of_mem hk
  have he := wd_at cy a c g r hq
  rw [hF] at he
  subst hcn
  exact ⟨_, va_runV (As := As) (rest := rest) ⟨C.1, C.2.1, C.2.2.2.1, C.2.2.2.2.1, C.2.2.2.2.2.1⟩ (hM H.size) cw ⟨zPre_blind, va_recv C.2.2.2.2.2.2.1.1 hW.1 hc he, zPre_at C.2.2.2.2.2.2.1 hW rfl⟩ rfl hn hl.1 hst (lv_room hroom) hd hf⟩
theorem z_runS (C : zC p s m args meth co D cy A cc nL ret Ts own) {y : MethodName} {ws : List Cond} {rm : Room} {Qf : Nat → Qx} {mc ms n index maxL : Nat} {bytes : ByteArray} {rt : Option FieldType} {As rest : List Value} (hM : zM l y ws rm D cy a L c g r As Qf mc ms) (cw : CallB R s args own index y bytes maxL rt ws rm mc ms n ∧ (Cond.static y).before args s = true) (hn : As.length = n) (hst : st = As.reverse ++ rest) (hroom : (rest.map fun v => v.category).sum ≤ 8) (hd : decode cc pc = .ok (.invokestatic index, 3)) (hf : cells + mc ≤ R.cells ∧ slots + ms ≤ R.slots) : zRun p l e R s m args below meth co D cy A nL cells slots a L c g r lv pc st rest Qf mc ms := fun H locs ls hW hS hl =>
  ⟨_, va_runS (As := As) (rest := rest) ⟨C.1, C.2.1, C.2.2.2.1, C.2.2.2.2.1, C.2.2.2.2.2.1⟩ (hM H.size) cw ⟨zPre_blind, zPre_at C.2.2.2.2.2.2.1 hW rfl⟩ rfl hn hl.1 hst (lv_room hroom) hd hf⟩
theorem z_runSN (C : zC p s m args meth co D cy A cc nL ret Ts own) {y : MethodName} {ws : List Cond} {rm : Room} {Qf : Nat → Qx} {mc ms n index maxL : Nat} {bytes : ByteArray} {rt : Option FieldType} {As rest : List Value} {host : String} (hM : zM l y ws rm D cy a L c g r As Qf mc ms) (cw : va_CN R s args own index y host bytes maxL rt ws rm mc ms n ∧ (Cond.static y).before args s = true ∧ True) (hn : As.length = n) (hst : st = As.reverse ++ rest) (hroom : (rest.map fun v => v.category).sum ≤ 8) (hd : decode cc pc = .ok (.invokestatic index, 3)) (hf : cells + mc ≤ R.cells ∧ slots + ms ≤ R.slots) : zRun p l e R s m args below meth co D cy A nL cells slots a L c g r lv pc st rest Qf mc ms := fun H locs ls hW hS hl =>
  ⟨_, va_runSN (As := As) (rest := rest) ⟨C.1, C.2.1, C.2.2.2.1, C.2.2.2.2.1, C.2.2.2.2.2.1⟩ (hM H.size) cw ⟨zPre_blind, zPre_at C.2.2.2.2.2.2.1 hW rfl⟩ rfl hn hl.1 hst (lv_room hroom) hd hf⟩
theorem z_runI (C : zC p s m args meth co D cy A cc nL ret Ts own) {y : MethodName} {ws : List Cond} {rm : Room} {Qf : Nat → Qx} {mc ms n index maxL : Nat} {bytes : ByteArray} {rt : Option FieldType} {As rest : List Value} {b : Nat} (hM : zM l y ws rm D cy a L c g r (.ref b :: As) Qf mc ms) (cw : CallB R s args own index y bytes maxL none ws rm mc ms n ∧ y.name = "<init>" ∧ (Cond.instanceMethod y).before args s = true) (hn : As.length = n) (hst : st = As.reverse ++ .ref b :: rest) (hroom : (rest.map fun v => v.category).sum ≤ 8) (hd : decode cc pc = .ok (.invokespecial index, 3)) (hf : cells + mc ≤ R.cells ∧ slots + ms ≤ R.slots) : zRun p l e R s m args below meth co D cy A nL cells slots a L c g r lv pc st rest Qf mc ms := fun H locs ls hW hS hl =>
  ⟨_, va_runI (As := As) (rest := rest) ⟨C.1, C.2.1, C.2.2.2.1, C.2.2.2.2.1, C.2.2.2.2.2.1⟩ (hM H.size) cw ⟨zPre_blind, zPre_at C.2.2.2.2.2.2.1 hW rfl⟩ rfl hn hl.1 hst (lv_room hroom) hd hf⟩
theorem z_runIN (C : zC p s m args meth co D cy A cc nL ret Ts own) {y : MethodName} {ws : List Cond} {rm : Room} {Qf : Nat → Qx} {mc ms n index maxL : Nat} {bytes : ByteArray} {rt : Option FieldType} {As rest : List Value} {b : Nat} {host : String} (hM : zM l y ws rm D cy a L c g r (.ref b :: As) Qf mc ms) (cw : va_CN R s args own index y host bytes maxL none ws rm mc ms n ∧ y.name = "<init>" ∧ (Cond.instanceMethod y).before args s = true) (hn : As.length = n) (hst : st = As.reverse ++ .ref b :: rest) (hroom : (rest.map fun v => v.category).sum ≤ 8) (hd : decode cc pc = .ok (.invokespecial index, 3)) (hf : cells + mc ≤ R.cells ∧ slots + ms ≤ R.slots) : zRun p l e R s m args below meth co D cy A nL cells slots a L c g r lv pc st rest Qf mc ms := fun H locs ls hW hS hl =>
  ⟨_, va_runIN (As := As) (rest := rest) ⟨C.1, C.2.1, C.2.2.2.1, C.2.2.2.2.1, C.2.2.2.2.2.1⟩ (hM H.size) cw ⟨zPre_blind, zPre_at C.2.2.2.2.2.2.1 hW rfl⟩ rfl hn hl.1 hst (lv_room hroom) hd hf⟩
theorem zA_in {H : Heap} (hW : zW D cy a L c g r A H) (hA : ∀ q : Nat, s.heap.size ≤ q → A q) {locs : List Loc} (hS : va_S A s.heap H locs) : ∀ q, zA a L H.size q → A q := by
  intro q h
  rcases h with ⟨k, hk, rfl⟩ | h
  · exact hW.A hk
  · exact hA q (Nat.le_trans hS.1 h)
theorem z_xI (C : zC p s m args meth co D cy A cc nL ret Ts own) {rest : List Value} {post : Int32 → Wo → Prop} {mc ms : Nat} (hr : zRun p l e R s m args below meth co D cy A nL cells slots a L c g r lv pc st rest (zQI D cy a L c g r post) mc ms) (kk : ∀ (v : Int32) (ω : Wo), post v ω → zG p l e R s m args below meth co D cy A nL Q (cells + mc) (slots + ms) ω.1 ω.2.1 ω.2.2.1 ω.2.2.2.1 ω.2.2.2.2 lv (pc + 3) (.int v :: rest)) : zG p l e R s m args below meth co D cy A nL Q cells slots a L c g r lv pc st := by
  intro H locs ls hW hS hl
  obtain ⟨av, h⟩ := hr H locs ls hW hS hl
  have hF := zA_in hW C.2.2.2.2.2.2.2.1 hS
  exact va_calli h hS (fun q _ h => hF q h) hF (fun v ω t H1 locs1 ht hvm hw hB hz1 hk1 hS1 => kk v ω hw H1 locs1 ls ⟨by rw [← ht]; exact hB.1, hB.2.weaken (fun _ _ _ h => hF _ h)⟩ hS1 hl)
theorem z_pI (C : zC p s m args meth co D cy A cc nL ret Ts own) {rest : List Value} {post : Int32 → Prop} (hr : zRun p l e R s m args below meth co D cy A nL cells slots a L c g r lv pc st rest (zQI D cy a L c g r (fun v ω => ω = (a, L, c, g, r) ∧ post v)) 0 0) (kk : ∀ v : Int32, post v → zG p l e R s m args below meth co D cy A nL Q cells slots a L c g r lv (pc + 3) (.int v :: rest)) : zG p l e R s m args below meth co D cy A nL Q cells slots a L c g r lv pc st := z_xI C hr (fun v ω h => by obtain ⟨rfl, h⟩ := h; exact kk v h)
theorem z_cI (C : zC p s m args meth co D cy A cc nL ret Ts own) {rest : List Value} {post : Int32 → (Nat → Nat → Int32) → Prop} (hr : zRun p l e R s m args below meth co D cy A nL cells slots a L c g r lv pc st rest (zQI D cy a L c g r (fun v ω => ∃ c', ω = (a, L, c', g, r) ∧ post v c')) 0 0) (kk : ∀ (v : Int32) (c' : Nat → Nat → Int32), post v c' → zG p l e R s m args below meth co D cy A nL Q cells slots a L c' g r lv (pc + 3) (.int v :: rest)) : zG p l e R s m args below meth co D cy A nL Q cells slots a L c g r lv pc st := z_xI C hr (fun v ω h => by obtain ⟨c', rfl, h⟩ := h; exact kk v c' h)
theorem z_xL (C : zC p s m args meth co D cy A cc nL ret Ts own) {rest : List Value} {post : Int64 → Wo → Prop} {mc ms : Nat} (hr : zRun p l e R s m args below meth co D cy A nL cells slots a L c g r lv pc st rest (zQL D cy a L c g r post) mc ms) (kk : ∀ (v : Int64) (ω : Wo), post v ω → zG p l e R s m args below meth co D cy A nL Q (cells + mc) (slots + ms) ω.1 ω.2.1 ω.2.2.1 ω.2.2.2.1 ω.2.2.2.2 lv (pc + 3) (.long v :: rest)) : zG p l e R s m args below meth co D cy A nL Q cells slots a L c g r lv pc st := by
  intro H locs ls hW hS hl
  obtain ⟨av, h⟩ := hr H locs ls hW hS hl
  have hF := zA_in hW C.2.2.2.2.2.2.2.1 hS
  exact va_calll h hS (fun q _ h => hF q h) hF (fun v ω t H1 locs1 ht hvm hw hB hz1 hk1 hS1 => kk v ω hw H1 locs1 ls ⟨by rw [← ht]; exact hB.1, hB.2.weaken (fun _ _ _ h => hF _ h)⟩ hS1 hl)
theorem z_pL (C : zC p s m args meth co D cy A cc nL ret Ts own) {rest : List Value} {post : Int64 → Prop} (hr : zRun p l e R s m args below meth co D cy A nL cells slots a L c g r lv pc st rest (zQL D cy a L c g r (fun v ω => ω = (a, L, c, g, r) ∧ post v)) 0 0) (kk : ∀ v : Int64, post v → zG p l e R s m args below meth co D cy A nL Q cells slots a L c g r lv (pc + 3) (.long v :: rest)) : zG p l e R s m args below meth co D cy A nL Q cells slots a L c g r lv pc st := z_xL C hr (fun v ω h => by obtain ⟨rfl, h⟩ := h; exact kk v h)
theorem z_cL (C : zC p s m args meth co D cy A cc nL ret Ts own) {rest : List Value} {post : Int64 → (Nat → Nat → Int32) → Prop} (hr : zRun p l e R s m args below meth co D cy A nL cells slots a L c g r lv pc st rest (zQL D cy a L c g r (fun v ω => ∃ c', ω = (a, L, c', g, r) ∧ post v c')) 0 0) (kk : ∀ (v : Int64) (c' : Nat → Nat → Int32), post v c' → zG p l e R s m args below meth co D cy A nL Q cells slots a L c' g r lv (pc + 3) (.long v :: rest)) : zG p l e R s m args below meth co D cy A nL Q cells slots a L c g r lv pc st := z_xL C hr (fun v ω h => by obtain ⟨c', rfl, h⟩ := h; exact kk v c' h)
theorem z_xQ (C : zC p s m args meth co D cy A cc nL ret Ts own) {rest : List Value} {post : Option Nat → Wo → Prop} {mc ms : Nat} (hr : zRun p l e R s m args below meth co D cy A nL cells slots a L c g r lv pc st rest (zQQ D cy a L c g r post) mc ms) (kk : ∀ (v : Option Nat) (ω : Wo), post v ω → zG p l e R s m args below meth co D cy A nL Q (cells + mc) (slots + ms) ω.1 ω.2.1 ω.2.2.1 ω.2.2.2.1 ω.2.2.2.2 lv (pc + 3) (va_rf (v.map ω.1) :: rest)) : zG p l e R s m args below meth co D cy A nL Q cells slots a L c g r lv pc st := by
  intro H locs ls hW hS hl
  obtain ⟨av, h⟩ := hr H locs ls hW hS hl
  have hF := zA_in hW C.2.2.2.2.2.2.2.1 hS
  refine va_callq h hS (fun q _ h => hF q h) hF (fun v ω t H1 locs1 ht hvm hw hB hz1 hk1 hS1 => ?_)
  obtain ⟨o, rfl, hw⟩ := hw
  exact kk o ω hw H1 locs1 ls ⟨by rw [← ht]; exact hB.1, hB.2.weaken (fun _ _ _ h => hF _ h)⟩ hS1 hl
theorem z_pQ (C : zC p s m args meth co D cy A cc nL ret Ts own) {rest : List Value} {post : Option Nat → Prop} (hr : zRun p l e R s m args below meth co D cy A nL cells slots a L c g r lv pc st rest (zQQ D cy a L c g r (fun v ω => ω = (a, L, c, g, r) ∧ post v)) 0 0) (kk : ∀ v : Option Nat, post v → zG p l e R s m args below meth co D cy A nL Q cells slots a L c g r lv (pc + 3) (va_rf (v.map a) :: rest)) : zG p l e R s m args below meth co D cy A nL Q cells slots a L c g r lv pc st := z_xQ C hr (fun v ω h => by obtain ⟨rfl, h⟩ := h; exact kk v h)
theorem z_cQ (C : zC p s m args meth co D cy A cc nL ret Ts own) {rest : List Value} {post : Option Nat → (Nat → Nat → Int32) → Prop} (hr : zRun p l e R s m args below meth co D cy A nL cells slots a L c g r lv pc st rest (zQQ D cy a L c g r (fun v ω => ∃ c', ω = (a, L, c', g, r) ∧ post v c')) 0 0) (kk : ∀ (v : Option Nat) (c' : Nat → Nat → Int32), post v c' → zG p l e R s m args below meth co D cy A nL Q cells slots a L c' g r lv (pc + 3) (va_rf (v.map a) :: rest)) : zG p l e R s m args below meth co D cy A nL Q cells slots a L c g r lv pc st := z_xQ C hr (fun v ω h => by obtain ⟨c', rfl, h⟩ := h; exact kk v c' h)
theorem z_xV (C : zC p s m args meth co D cy A cc nL ret Ts own) {rest : List Value} {post : Wo → Prop} {mc ms : Nat} (hr : zRun p l e R s m args below meth co D cy A nL cells slots a L c g r lv pc st rest (zQV D cy a L c g r post) mc ms) (kk : ∀ ω : Wo, post ω → zG p l e R s m args below meth co D cy A nL Q (cells + mc) (slots + ms) ω.1 ω.2.1 ω.2.2.1 ω.2.2.2.1 ω.2.2.2.2 lv (pc + 3) rest) : zG p l e R s m args below meth co D cy A nL Q cells slots a L c g r lv pc st := by
  intro H locs ls hW hS hl
  obtain ⟨av, h⟩ := hr H locs ls hW hS hl
  have hF := zA_in hW C.2.2.2.2.2.2.2.1 hS
  exact va_callv h hS (fun q _ h => hF q h) hF (fun ω t H1 locs1 ht hvm hw hB hz1 hk1 hS1 => kk ω hw H1 locs1 ls ⟨by rw [← ht]; exact hB.1, hB.2.weaken (fun _ _ _ h => hF _ h)⟩ hS1 hl)
theorem z_cV (C : zC p s m args meth co D cy A cc nL ret Ts own) {rest : List Value} {post : (Nat → Nat → Int32) → Prop} (hr : zRun p l e R s m args below meth co D cy A nL cells slots a L c g r lv pc st rest (zQV D cy a L c g r (fun ω => ∃ c', ω = (a, L, c', g, r) ∧ post c')) 0 0) (kk : ∀ c' : Nat → Nat → Int32, post c' → zG p l e R s m args below meth co D cy A nL Q cells slots a L c' g r lv (pc + 3) rest) : zG p l e R s m args below meth co D cy A nL Q cells slots a L c g r lv pc st := z_xV C hr (fun ω h => by obtain ⟨c', rfl, h⟩ := h; exact kk c' h)
theorem z_gV (C : zC p s m args meth co D cy A cc nL ret Ts own) {rest : List Value} {post : (Nat → Nat → Int32) → (Nat → Nat → Int64) → Prop} (hr : zRun p l e R s m args below meth co D cy A nL cells slots a L c g r lv pc st rest (zQV D cy a L c g r (fun ω => ∃ c' g', ω = (a, L, c', g', r) ∧ post c' g')) 0 0) (kk : ∀ (c' : Nat → Nat → Int32) (g' : Nat → Nat → Int64), post c' g' → zG p l e R s m args below meth co D cy A nL Q cells slots a L c' g' r lv (pc + 3) rest) : zG p l e R s m args below meth co D cy A nL Q cells slots a L c g r lv pc st := z_xV C hr (fun ω h => by obtain ⟨c', g', rfl, h⟩ := h; exact kk c' g' h)
/-- a contract out of its walk -/
theorem z_enter {y : MethodName} {ws' : List Cond} {rm : Room} {av : List Value} {Qf : Nat → Qx} {mc ms : Nat} (cc : ByteArray) (nL : Nat) (ret : Option FieldType) (hy : plainName y.cls = true) (hlen : (lg_sl av).length ≤ nL)
    (body : ∀ (p : Program) (e : Env) (s : State) (m : MethodId) (below : List Frame) (meth : Method) (co : Code), zC p s m av.toArray meth co D cy (zA a L s.heap.size) cc nL ret (Cond.code y cc nL ret :: ws') y.cls → meth.name = y.name → zG p l e rm s m av.toArray below meth co D cy (zA a L s.heap.size) nL (MQ below (Qf s.heap.size) av.toArray s mc ms (zA a L s.heap.size)) 0 0 a L c g r (lv_args 0 av) 0 []) : zM l y (Cond.code y cc nL ret :: ws') rm D cy a L c g r av Qf mc ms := by
  intro sz
  refine Met.ofW (cc := cc) (maxL := nL) (ret := ret) hy rfl ?_
  intro p e s m args below meth co s₁ B hml hv
  obtain ⟨rfl, hsz, hW, hK⟩ := hv
  subst hsz
  have hown : s.vm.findClass y.cls = some m.cls := findClass_of_methodNamed B.named
  have hin : meth.name = y.name := (name_of_methodNamed B.named B.method).1
  have hl := lv_entry av (n := nL) hlen
  rw [lg_entry_eq]
  refine body p e s m below meth co ⟨B.exec, B.bytes, B.returns, hml, hown, atoms_spec (ws := Cond.code y cc nL ret :: ws') B.pre, hK, fun q h => Or.inr h, B.notSynchronized⟩ hin s.heap [] _ ⟨hW.1, hW.2.1, fun k q hq => ?_⟩ va_S.rf hl
  obtain ⟨j, hj, rfl⟩ := wd_inv hq
  exact Or.inl ⟨j, List.mem_of_getElem? hj, rfl⟩
theorem z_iret (C : zC p s m args meth co D cy A cc nL (some .int) Ts own) {a0 : Nat → Nat} {L0 : List Nat} {c0 : Nat → Nat → Int32} {g0 : Nat → Nat → Int64} {r0 : Nat → Nat → Option Nat} {v : Int32} {post : Int32 → Wo → Prop} (hA : A = zA a0 L0 s.heap.size) {mc ms : Nat} (hmc : cells ≤ mc) (hms : slots ≤ ms) (hd : decode cc pc = .ok (.ireturn, 1)) (hp : post v (a, L, c, g, r)) : zG p l e R s m args below meth co D cy A nL (MQ below (zQI D cy a0 L0 c0 g0 r0 post s.heap.size) args s mc ms A) cells slots a L c g r lv pc [.int v] := by
  intro H locs ls hW hS hl
  subst hA
  refine W.widen hmc hms ?_
  exact W.iret C.1 C.2.1 C.2.2.1 (fun t ht hw => ⟨⟨v, (a, L, c, g, r), rfl, hp, by rw [← ht] at hW; exact hW⟩, hS.F ht⟩) hS.2.2 hd C.2.2.2.2.2.2.2.2
theorem z_zret (C : zC p s m args meth co D cy A cc nL (some .boolean) Ts own) {a0 : Nat → Nat} {L0 : List Nat} {c0 : Nat → Nat → Int32} {g0 : Nat → Nat → Int64} {r0 : Nat → Nat → Option Nat} {v : Int32} {post : Int32 → Wo → Prop} (hA : A = zA a0 L0 s.heap.size) {mc ms : Nat} (hmc : cells ≤ mc) (hms : slots ≤ ms) (hd : decode cc pc = .ok (.ireturn, 1)) (hb : narrow .boolean (.int v) = .int v) (hp : post v (a, L, c, g, r)) : zG p l e R s m args below meth co D cy A nL (MQ below (zQI D cy a0 L0 c0 g0 r0 post s.heap.size) args s mc ms A) cells slots a L c g r lv pc [.int v] := by
  intro H locs ls hW hS hl
  subst hA
  refine W.widen hmc hms ?_
  exact W.zret C.1 C.2.1 C.2.2.1 hb (fun t ht hw => ⟨⟨v, (a, L, c, g, r), rfl, hp, by rw [← ht] at hW; exact hW⟩, hS.F ht⟩) hS.2.2 hd C.2.2.2.2.2.2.2.2
theorem z_lret (C : zC p s m args meth co D cy A cc nL (some .long) Ts own) {a0 : Nat → Nat} {L0 : List Nat} {c0 : Nat → Nat → Int32} {g0 : Nat → Nat → Int64} {r0 : Nat → Nat → Option Nat} {v : Int64} {post : Int64 → Wo → Prop} (hA : A = zA a0 L0 s.heap.size) {mc ms : Nat} (hmc : cells ≤ mc) (hms : slots ≤ ms) (hd : decode cc pc = .ok (.lreturn, 1)) (hp : post v (a, L, c, g, r)) : zG p l e R s m args below meth co D cy A nL (MQ below (zQL D cy a0 L0 c0 g0 r0 post s.heap.size) args s mc ms A) cells slots a L c g r lv pc [.long v] := by
  intro H locs ls hW hS hl
  subst hA
  refine W.widen hmc hms ?_
  exact W.lret C.1 C.2.1 C.2.2.1 (fun t ht hw => ⟨⟨v, (a, L, c, g, r), rfl, hp, by rw [← ht] at hW; exact hW⟩, hS.F ht⟩) hS.2.2 hd C.2.2.2.2.2.2.2.2
theorem z_vret (C : zC p s m args meth co D cy A cc nL none Ts own) {a0 : Nat → Nat} {L0 : List Nat} {c0 : Nat → Nat → Int32} {g0 : Nat → Nat → Int64} {r0 : Nat → Nat → Option Nat} {post : Wo → Prop} (hA : A = zA a0 L0 s.heap.size) {mc ms : Nat} (hmc : cells ≤ mc) (hms : slots ≤ ms) (hd : decode cc pc = .ok (.return_, 1)) (hp : post (a, L, c, g, r)) : zG p l e R s m args below meth co D cy A nL (MQ below (zQV D cy a0 L0 c0 g0 r0 post s.heap.size) args s mc ms A) cells slots a L c g r lv pc [] := by
  intro H locs ls hW hS hl
  subst hA
  refine W.widen hmc hms ?_
  exact W.vret C.1 C.2.1 C.2.2.1 (fun t ht hw => ⟨⟨(a, L, c, g, r), rfl, hp, by rw [← ht] at hW; exact hW⟩, hS.F ht⟩) hS.2.2 hd C.2.2.2.2.2.2.2.2
theorem z_aret {rt : FieldType} (C : zC p s m args meth co D cy A cc nL (some rt) Ts own) {a0 : Nat → Nat} {L0 : List Nat} {c0 : Nat → Nat → Int32} {g0 : Nat → Nat → Int64} {r0 : Nat → Nat → Option Nat} (hrt : (∃ n, rt = .object n) ∨ ∃ t, rt = .array t) {o : Option Nat} {post : Option Nat → Wo → Prop} (hA : A = zA a0 L0 s.heap.size) {mc ms : Nat} (hmc : cells ≤ mc) (hms : slots ≤ ms) (hd : decode cc pc = .ok (.areturn, 1)) (hp : post o (a, L, c, g, r)) : zG p l e R s m args below meth co D cy A nL (MQ below (zQQ D cy a0 L0 c0 g0 r0 post s.heap.size) args s mc ms A) cells slots a L c g r lv pc [va_rf (o.map a)] := by
  intro H locs ls hW hS hl
  subst hA
  refine W.widen hmc hms ?_
  exact W.aret C.1 C.2.1 C.2.2.1 hrt (by cases o <;> simp [va_rf]) (fun t ht hw => ⟨⟨o.map a, (a, L, c, g, r), rfl, ⟨o, rfl, hp⟩, by rw [← ht] at hW; exact hW⟩, hS.F ht⟩) hS.2.2 hd C.2.2.2.2.2.2.2.2
theorem z_mmax (C : zC p s m args meth co D cy A cc nL ret Ts own) {x y : Int32} {index : Nat} (hl1 : Cond.methodLink own index Lib.Math.max.name ∈ Ts) (hl2 : Cond.static Lib.Math.max.name ∈ Ts) (hl3 : Cond.initialized "java/lang/Math" ∈ Ts) (hl4 : Cond.code Lib.Math.max.name Lib.Math.max.code 2 (some .int) ∈ Ts) (hfr : 1 ≤ R.frames) (hlo : (st.map fun v => v.category).sum + 13 ≤ R.locals) (hc : cells ≤ R.cells) (hs : slots ≤ R.slots) {v : Int32} (hv : (if x < y then y else x) = v) (hd : decode cc pc = .ok (.invokestatic index, 3)) (kk : zG p l e R s m args below meth co D cy A nL Q cells slots a L c g r lv (pc + 3) (.int v :: st)) : zG p l e R s m args below meth co D cy A nL Q cells slots a L c g r lv pc (.int y :: .int x :: st) := fun H locs ls hW hS hl => by
  subst hv
  exact va_mmax C.1 C.2.1 (by rw [C.2.2.2.1]; exact hl.1.symm) C.2.2.2.2.1 (C.2.2.2.2.2.1 _ hl1) (C.2.2.2.2.2.1 _ hl2) (C.2.2.2.2.2.1 _ hl3) (C.2.2.2.2.2.1 _ hl4) hfr hlo hc hs hd (kk H locs ls hW hS hl)
theorem z_mmin (C : zC p s m args meth co D cy A cc nL ret Ts own) {x y : Int32} {index : Nat} (hl1 : Cond.methodLink own index Lib.Math.min.name ∈ Ts) (hl2 : Cond.static Lib.Math.min.name ∈ Ts) (hl3 : Cond.initialized "java/lang/Math" ∈ Ts) (hl4 : Cond.code Lib.Math.min.name Lib.Math.min.code 2 (some .int) ∈ Ts) (hfr : 1 ≤ R.frames) (hlo : (st.map fun v => v.category).sum + 13 ≤ R.locals) (hc : cells ≤ R.cells) (hs : slots ≤ R.slots) {v : Int32} (hv : (if y < x then y else x) = v) (hd : decode cc pc = .ok (.invokestatic index, 3)) (kk : zG p l e R s m args below meth co D cy A nL Q cells slots a L c g r lv (pc + 3) (.int v :: st)) : zG p l e R s m args below meth co D cy A nL Q cells slots a L c g r lv pc (.int y :: .int x :: st) := fun H locs ls hW hS hl => by
  subst hv
  exact va_mmin C.1 C.2.1 (by rw [C.2.2.2.1]; exact hl.1.symm) C.2.2.2.2.1 (C.2.2.2.2.2.1 _ hl1) (C.2.2.2.2.2.1 _ hl2) (C.2.2.2.2.2.1 _ hl3) (C.2.2.2.2.2.1 _ hl4) hfr hlo hc hs hd (kk H locs ls hW hS hl)
end ZCALL
end
section
section ZFL
variable {p : Program} {l : Launch} {e : Env} {R : Room} {s : State} {m : MethodId} {args : Array Value} {below : List Frame} {meth : Method} {co : Code}
variable {D : va_G} {cy : Nat → ClassId} {A : Nat → Prop} {cc : ByteArray} {nL : Nat} {ret : Option FieldType} {Ts : List Cond} {own : String}
variable {a : Nat → Nat} {L : List Nat} {c : Nat → Nat → Int32} {g : Nat → Nat → Int64} {r : Nat → Nat → Option Nat} {Q : State → Prop} {cells slots pc : Nat} {lv : List (Nat × Value)} {st : List Value}
theorem zF_k0 {k : Nat} (h : kd k = 0) : zF cy a c g r k = .inr (0, [.int (c k 0), .int (c k 1), .int (c k 2), zr a r k 3]) := by simp [zF, h]
theorem zg_X0_width (C : zC p s m args meth co D cy A cc nL ret Ts own) {k index : Nat} (hk : k ∈ L) (hkd : kd k = 0) (hin : ∀ w ∈ wsX00, w ∈ Ts) (hlink : Cond.fieldLink own index "LetteredRock$Letter" "width" "I" ∈ Ts) {v : Int32} (hv : c k 0 = v) (hd : decode cc pc = .ok (.getfield index, 3)) (kk : zG p l e R s m args below meth co D cy A nL Q cells slots a L c g r lv (pc + 3) (.int v :: st)) : zG p l e R s m args below meth co D cy A nL Q cells slots a L c g r lv pc (.ref (a k) :: st) := z_get C hk (zF_k0 hkd) rfl 0 (by decide) hin hlink (by first | (rw [← hv]; rfl) | simp [zr, hv, va_rf]) hd kk
theorem zp_X0_width (C : zC p s m args meth co D cy A cc nL ret Ts own) {k index : Nat} (hk : k ∈ L) (hkd : kd k = 0) (hin : ∀ w ∈ wsX00, w ∈ Ts) (hlink : Cond.fieldLink own index "LetteredRock$Letter" "width" "I" ∈ Ts) (hin2 : meth.name = "<init>") (hdecl : (TX0 0).1 = own) {v : Int32} (hd : decode cc pc = .ok (.putfield index, 3)) (kk : zG p l e R s m args below meth co D cy A nL Q cells slots a L (up2 c k 0 v) g r lv (pc + 3) st) : zG p l e R s m args below meth co D cy A nL Q cells slots a L c g r lv pc (.int v :: .ref (a k) :: st) := z_put C hk (zF_k0 hkd) rfl tyX0 tyX0_ok nmX0 0 (by decide) hin hlink (Or.inr ⟨rfl, hin2, hdecl⟩) rfl rfl (Nat.le_of_ble_eq_true rfl) (by rw [zF_k0 hkd]; simp [up2, zr, va_rf]) (fun i hi => zF_c cy a g r (up2_row c 0 v hi)) hd kk
theorem zg_X0_minutes (C : zC p s m args meth co D cy A cc nL ret Ts own) {k index : Nat} (hk : k ∈ L) (hkd : kd k = 0) (hin : ∀ w ∈ wsX00, w ∈ Ts) (hlink : Cond.fieldLink own index "LetteredRock$Letter" "minutes" "I" ∈ Ts) {v : Int32} (hv : c k 1 = v) (hd : decode cc pc = .ok (.getfield index, 3)) (kk : zG p l e R s m args below meth co D cy A nL Q cells slots a L c g r lv (pc + 3) (.int v :: st)) : zG p l e R s m args below meth co D cy A nL Q cells slots a L c g r lv pc (.ref (a k) :: st) := z_get C hk (zF_k0 hkd) rfl 1 (by decide) hin hlink (by first | (rw [← hv]; rfl) | simp [zr, hv, va_rf]) hd kk
theorem zp_X0_minutes (C : zC p s m args meth co D cy A cc nL ret Ts own) {k index : Nat} (hk : k ∈ L) (hkd : kd k = 0) (hin : ∀ w ∈ wsX00, w ∈ Ts) (hlink : Cond.fieldLink own index "LetteredRock$Letter" "minutes" "I" ∈ Ts) (hin2 : meth.name = "<init>") (hdecl : (TX0 1).1 = own) {v : Int32} (hd : decode cc pc = .ok (.putfield index, 3)) (kk : zG p l e R s m args below meth co D cy A nL Q cells slots a L (up2 c k 1 v) g r lv (pc + 3) st) : zG p l e R s m args below meth co D cy A nL Q cells slots a L c g r lv pc (.int v :: .ref (a k) :: st) := z_put C hk (zF_k0 hkd) rfl tyX0 tyX0_ok nmX0 1 (by decide) hin hlink (Or.inr ⟨rfl, hin2, hdecl⟩) rfl rfl (Nat.le_of_ble_eq_true rfl) (by rw [zF_k0 hkd]; simp [up2, zr, va_rf]) (fun i hi => zF_c cy a g r (up2_row c 1 v hi)) hd kk
theorem zg_X0_soft (C : zC p s m args meth co D cy A cc nL ret Ts own) {k index : Nat} (hk : k ∈ L) (hkd : kd k = 0) (hin : ∀ w ∈ wsX00, w ∈ Ts) (hlink : Cond.fieldLink own index "LetteredRock$Letter" "soft" "I" ∈ Ts) {v : Int32} (hv : c k 2 = v) (hd : decode cc pc = .ok (.getfield index, 3)) (kk : zG p l e R s m args below meth co D cy A nL Q cells slots a L c g r lv (pc + 3) (.int v :: st)) : zG p l e R s m args below meth co D cy A nL Q cells slots a L c g r lv pc (.ref (a k) :: st) := z_get C hk (zF_k0 hkd) rfl 2 (by decide) hin hlink (by first | (rw [← hv]; rfl) | simp [zr, hv, va_rf]) hd kk
theorem zp_X0_soft (C : zC p s m args meth co D cy A cc nL ret Ts own) {k index : Nat} (hk : k ∈ L) (hkd : kd k = 0) (hin : ∀ w ∈ wsX00, w ∈ Ts) (hlink : Cond.fieldLink own index "LetteredRock$Letter" "soft" "I" ∈ Ts) (hin2 : meth.name = "<init>") (hdecl : (TX0 2).1 = own) {v : Int32} (hd : decode cc pc = .ok (.putfield index, 3)) (kk : zG p l e R s m args below meth co D cy A nL Q cells slots a L (up2 c k 2 v) g r lv (pc + 3) st) : zG p l e R s m args below meth co D cy A nL Q cells slots a L c g r lv pc (.int v :: .ref (a k) :: st) := z_put C hk (zF_k0 hkd) rfl tyX0 tyX0_ok nmX0 2 (by decide) hin hlink (Or.inr ⟨rfl, hin2, hdecl⟩) rfl rfl (Nat.le_of_ble_eq_true rfl) (by rw [zF_k0 hkd]; simp [up2, zr, va_rf]) (fun i hi => zF_c cy a g r (up2_row c 2 v hi)) hd kk
theorem zg_X0_strips (C : zC p s m args meth co D cy A cc nL ret Ts own) {k index : Nat} (hk : k ∈ L) (hkd : kd k = 0) (hin : ∀ w ∈ wsX00, w ∈ Ts) (hlink : Cond.fieldLink own index "LetteredRock$Letter" "strips" "[I" ∈ Ts) {k' : Nat} (hv : r k 3 = some k') (hd : decode cc pc = .ok (.getfield index, 3)) (kk : zG p l e R s m args below meth co D cy A nL Q cells slots a L c g r lv (pc + 3) (Value.ref (a k') :: st)) : zG p l e R s m args below meth co D cy A nL Q cells slots a L c g r lv pc (.ref (a k) :: st) := z_get C hk (zF_k0 hkd) rfl 3 (by decide) hin hlink (by first | (rw [← hv]; rfl) | simp [zr, hv, va_rf]) hd kk
theorem zp_X0_strips (C : zC p s m args meth co D cy A cc nL ret Ts own) {k index : Nat} (hk : k ∈ L) (hkd : kd k = 0) (hin : ∀ w ∈ wsX00, w ∈ Ts) (hlink : Cond.fieldLink own index "LetteredRock$Letter" "strips" "[I" ∈ Ts) (hin2 : meth.name = "<init>") (hdecl : (TX0 3).1 = own) {k' : Nat} (hd : decode cc pc = .ok (.putfield index, 3)) (kk : zG p l e R s m args below meth co D cy A nL Q cells slots a L c g (up2 r k 3 (some k')) lv (pc + 3) st) : zG p l e R s m args below meth co D cy A nL Q cells slots a L c g r lv pc (Value.ref (a k') :: .ref (a k) :: st) := z_put C hk (zF_k0 hkd) rfl tyX0 tyX0_ok nmX0 3 (by decide) hin hlink (Or.inr ⟨rfl, hin2, hdecl⟩) rfl rfl (Nat.le_of_ble_eq_true rfl) (by rw [zF_k0 hkd]; simp [up2, zr, va_rf]) (fun i hi => zF_r cy a c g (up2_row r 3 (some k') hi)) hd kk
theorem zF_k1 {k : Nat} (h : kd k = 1) : zF cy a c g r k = .inr (1, [.int (c k 0), .int (c k 1), .int (c k 2), .int (c k 3), .int (c k 4), .int (c k 5)]) := by simp [zF, h]
theorem zg_X1_word (C : zC p s m args meth co D cy A cc nL ret Ts own) {k index : Nat} (hk : k ∈ L) (hkd : kd k = 1) (hin : ∀ w ∈ wsX10, w ∈ Ts) (hlink : Cond.fieldLink own index "LetteredRock$Lump" "word" "I" ∈ Ts) {v : Int32} (hv : c k 0 = v) (hd : decode cc pc = .ok (.getfield index, 3)) (kk : zG p l e R s m args below meth co D cy A nL Q cells slots a L c g r lv (pc + 3) (.int v :: st)) : zG p l e R s m args below meth co D cy A nL Q cells slots a L c g r lv pc (.ref (a k) :: st) := z_get C hk (zF_k1 hkd) rfl 0 (by decide) hin hlink (by first | (rw [← hv]; rfl) | simp [zr, hv, va_rf]) hd kk
theorem zp_X1_word (C : zC p s m args meth co D cy A cc nL ret Ts own) {k index : Nat} (hk : k ∈ L) (hkd : kd k = 1) (hin : ∀ w ∈ wsX10, w ∈ Ts) (hlink : Cond.fieldLink own index "LetteredRock$Lump" "word" "I" ∈ Ts) (hin2 : meth.name = "<init>") (hdecl : (TX1 0).1 = own) {v : Int32} (hd : decode cc pc = .ok (.putfield index, 3)) (kk : zG p l e R s m args below meth co D cy A nL Q cells slots a L (up2 c k 0 v) g r lv (pc + 3) st) : zG p l e R s m args below meth co D cy A nL Q cells slots a L c g r lv pc (.int v :: .ref (a k) :: st) := z_put C hk (zF_k1 hkd) rfl tyX1 tyX1_ok nmX1 0 (by decide) hin hlink (Or.inr ⟨rfl, hin2, hdecl⟩) rfl rfl (Nat.le_of_ble_eq_true rfl) (by rw [zF_k1 hkd]; simp [up2, zr, va_rf]) (fun i hi => zF_c cy a g r (up2_row c 0 v hi)) hd kk
theorem zg_X1_hand (C : zC p s m args meth co D cy A cc nL ret Ts own) {k index : Nat} (hk : k ∈ L) (hkd : kd k = 1) (hin : ∀ w ∈ wsX10, w ∈ Ts) (hlink : Cond.fieldLink own index "LetteredRock$Lump" "hand" "I" ∈ Ts) {v : Int32} (hv : c k 1 = v) (hd : decode cc pc = .ok (.getfield index, 3)) (kk : zG p l e R s m args below meth co D cy A nL Q cells slots a L c g r lv (pc + 3) (.int v :: st)) : zG p l e R s m args below meth co D cy A nL Q cells slots a L c g r lv pc (.ref (a k) :: st) := z_get C hk (zF_k1 hkd) rfl 1 (by decide) hin hlink (by first | (rw [← hv]; rfl) | simp [zr, hv, va_rf]) hd kk
theorem zp_X1_hand (C : zC p s m args meth co D cy A cc nL ret Ts own) {k index : Nat} (hk : k ∈ L) (hkd : kd k = 1) (hin : ∀ w ∈ wsX10, w ∈ Ts) (hlink : Cond.fieldLink own index "LetteredRock$Lump" "hand" "I" ∈ Ts) (hin2 : meth.name = "<init>") (hdecl : (TX1 1).1 = own) {v : Int32} (hd : decode cc pc = .ok (.putfield index, 3)) (kk : zG p l e R s m args below meth co D cy A nL Q cells slots a L (up2 c k 1 v) g r lv (pc + 3) st) : zG p l e R s m args below meth co D cy A nL Q cells slots a L c g r lv pc (.int v :: .ref (a k) :: st) := z_put C hk (zF_k1 hkd) rfl tyX1 tyX1_ok nmX1 1 (by decide) hin hlink (Or.inr ⟨rfl, hin2, hdecl⟩) rfl rfl (Nat.le_of_ble_eq_true rfl) (by rw [zF_k1 hkd]; simp [up2, zr, va_rf]) (fun i hi => zF_c cy a g r (up2_row c 1 v hi)) hd kk
theorem zg_X1_day (C : zC p s m args meth co D cy A cc nL ret Ts own) {k index : Nat} (hk : k ∈ L) (hkd : kd k = 1) (hin : ∀ w ∈ wsX10, w ∈ Ts) (hlink : Cond.fieldLink own index "LetteredRock$Lump" "day" "I" ∈ Ts) {v : Int32} (hv : c k 2 = v) (hd : decode cc pc = .ok (.getfield index, 3)) (kk : zG p l e R s m args below meth co D cy A nL Q cells slots a L c g r lv (pc + 3) (.int v :: st)) : zG p l e R s m args below meth co D cy A nL Q cells slots a L c g r lv pc (.ref (a k) :: st) := z_get C hk (zF_k1 hkd) rfl 2 (by decide) hin hlink (by first | (rw [← hv]; rfl) | simp [zr, hv, va_rf]) hd kk
theorem zp_X1_day (C : zC p s m args meth co D cy A cc nL ret Ts own) {k index : Nat} (hk : k ∈ L) (hkd : kd k = 1) (hin : ∀ w ∈ wsX10, w ∈ Ts) (hlink : Cond.fieldLink own index "LetteredRock$Lump" "day" "I" ∈ Ts) (hin2 : meth.name = "<init>") (hdecl : (TX1 2).1 = own) {v : Int32} (hd : decode cc pc = .ok (.putfield index, 3)) (kk : zG p l e R s m args below meth co D cy A nL Q cells slots a L (up2 c k 2 v) g r lv (pc + 3) st) : zG p l e R s m args below meth co D cy A nL Q cells slots a L c g r lv pc (.int v :: .ref (a k) :: st) := z_put C hk (zF_k1 hkd) rfl tyX1 tyX1_ok nmX1 2 (by decide) hin hlink (Or.inr ⟨rfl, hin2, hdecl⟩) rfl rfl (Nat.le_of_ble_eq_true rfl) (by rw [zF_k1 hkd]; simp [up2, zr, va_rf]) (fun i hi => zF_c cy a g r (up2_row c 2 v hi)) hd kk
theorem zg_X1_firstStick (C : zC p s m args meth co D cy A cc nL ret Ts own) {k index : Nat} (hk : k ∈ L) (hkd : kd k = 1) (hin : ∀ w ∈ wsX10, w ∈ Ts) (hlink : Cond.fieldLink own index "LetteredRock$Lump" "firstStick" "I" ∈ Ts) {v : Int32} (hv : c k 3 = v) (hd : decode cc pc = .ok (.getfield index, 3)) (kk : zG p l e R s m args below meth co D cy A nL Q cells slots a L c g r lv (pc + 3) (.int v :: st)) : zG p l e R s m args below meth co D cy A nL Q cells slots a L c g r lv pc (.ref (a k) :: st) := z_get C hk (zF_k1 hkd) rfl 3 (by decide) hin hlink (by first | (rw [← hv]; rfl) | simp [zr, hv, va_rf]) hd kk
theorem zp_X1_firstStick (C : zC p s m args meth co D cy A cc nL ret Ts own) {k index : Nat} (hk : k ∈ L) (hkd : kd k = 1) (hin : ∀ w ∈ wsX10, w ∈ Ts) (hlink : Cond.fieldLink own index "LetteredRock$Lump" "firstStick" "I" ∈ Ts) (hin2 : meth.name = "<init>") (hdecl : (TX1 3).1 = own) {v : Int32} (hd : decode cc pc = .ok (.putfield index, 3)) (kk : zG p l e R s m args below meth co D cy A nL Q cells slots a L (up2 c k 3 v) g r lv (pc + 3) st) : zG p l e R s m args below meth co D cy A nL Q cells slots a L c g r lv pc (.int v :: .ref (a k) :: st) := z_put C hk (zF_k1 hkd) rfl tyX1 tyX1_ok nmX1 3 (by decide) hin hlink (Or.inr ⟨rfl, hin2, hdecl⟩) rfl rfl (Nat.le_of_ble_eq_true rfl) (by rw [zF_k1 hkd]; simp [up2, zr, va_rf]) (fun i hi => zF_c cy a g r (up2_row c 3 v hi)) hd kk
theorem zg_X1_sticks (C : zC p s m args meth co D cy A cc nL ret Ts own) {k index : Nat} (hk : k ∈ L) (hkd : kd k = 1) (hin : ∀ w ∈ wsX10, w ∈ Ts) (hlink : Cond.fieldLink own index "LetteredRock$Lump" "sticks" "I" ∈ Ts) {v : Int32} (hv : c k 4 = v) (hd : decode cc pc = .ok (.getfield index, 3)) (kk : zG p l e R s m args below meth co D cy A nL Q cells slots a L c g r lv (pc + 3) (.int v :: st)) : zG p l e R s m args below meth co D cy A nL Q cells slots a L c g r lv pc (.ref (a k) :: st) := z_get C hk (zF_k1 hkd) rfl 4 (by decide) hin hlink (by first | (rw [← hv]; rfl) | simp [zr, hv, va_rf]) hd kk
theorem zp_X1_sticks (C : zC p s m args meth co D cy A cc nL ret Ts own) {k index : Nat} (hk : k ∈ L) (hkd : kd k = 1) (hin : ∀ w ∈ wsX10, w ∈ Ts) (hlink : Cond.fieldLink own index "LetteredRock$Lump" "sticks" "I" ∈ Ts) (hin2 : meth.name = "<init>") (hdecl : (TX1 4).1 = own) {v : Int32} (hd : decode cc pc = .ok (.putfield index, 3)) (kk : zG p l e R s m args below meth co D cy A nL Q cells slots a L (up2 c k 4 v) g r lv (pc + 3) st) : zG p l e R s m args below meth co D cy A nL Q cells slots a L c g r lv pc (.int v :: .ref (a k) :: st) := z_put C hk (zF_k1 hkd) rfl tyX1 tyX1_ok nmX1 4 (by decide) hin hlink (Or.inr ⟨rfl, hin2, hdecl⟩) rfl rfl (Nat.le_of_ble_eq_true rfl) (by rw [zF_k1 hkd]; simp [up2, zr, va_rf]) (fun i hi => zF_c cy a g r (up2_row c 4 v hi)) hd kk
theorem zg_X1_scrap (C : zC p s m args meth co D cy A cc nL ret Ts own) {k index : Nat} (hk : k ∈ L) (hkd : kd k = 1) (hin : ∀ w ∈ wsX10, w ∈ Ts) (hlink : Cond.fieldLink own index "LetteredRock$Lump" "scrap" "I" ∈ Ts) {v : Int32} (hv : c k 5 = v) (hd : decode cc pc = .ok (.getfield index, 3)) (kk : zG p l e R s m args below meth co D cy A nL Q cells slots a L c g r lv (pc + 3) (.int v :: st)) : zG p l e R s m args below meth co D cy A nL Q cells slots a L c g r lv pc (.ref (a k) :: st) := z_get C hk (zF_k1 hkd) rfl 5 (by decide) hin hlink (by first | (rw [← hv]; rfl) | simp [zr, hv, va_rf]) hd kk
theorem zp_X1_scrap (C : zC p s m args meth co D cy A cc nL ret Ts own) {k index : Nat} (hk : k ∈ L) (hkd : kd k = 1) (hin : ∀ w ∈ wsX10, w ∈ Ts) (hlink : Cond.fieldLink own index "LetteredRock$Lump" "scrap" "I" ∈ Ts) (hin2 : meth.name = "<init>") (hdecl : (TX1 5).1 = own) {v : Int32} (hd : decode cc pc = .ok (.putfield index, 3)) (kk : zG p l e R s m args below meth co D cy A nL Q cells slots a L (up2 c k 5 v) g r lv (pc + 3) st) : zG p l e R s m args below meth co D cy A nL Q cells slots a L c g r lv pc (.int v :: .ref (a k) :: st) := z_put C hk (zF_k1 hkd) rfl tyX1 tyX1_ok nmX1 5 (by decide) hin hlink (Or.inr ⟨rfl, hin2, hdecl⟩) rfl rfl (Nat.le_of_ble_eq_true rfl) (by rw [zF_k1 hkd]; simp [up2, zr, va_rf]) (fun i hi => zF_c cy a g r (up2_row c 5 v hi)) hd kk
theorem zF_k2 {k : Nat} (h : kd k = 2) : zF cy a c g r k = .inr (2, [zr a r k 0, .int (c k 1), .int (c k 2), .int (c k 3)]) := by simp [zF, h]
theorem zg_X2_lumps (C : zC p s m args meth co D cy A cc nL ret Ts own) {k index : Nat} (hk : k ∈ L) (hkd : kd k = 2) (hin : ∀ w ∈ wsX20, w ∈ Ts) (hlink : Cond.fieldLink own index "LetteredRock$LumpBook" "lumps" "[LLetteredRock$Lump;" ∈ Ts) {k' : Nat} (hv : r k 0 = some k') (hd : decode cc pc = .ok (.getfield index, 3)) (kk : zG p l e R s m args below meth co D cy A nL Q cells slots a L c g r lv (pc + 3) (Value.ref (a k') :: st)) : zG p l e R s m args below meth co D cy A nL Q cells slots a L c g r lv pc (.ref (a k) :: st) := z_get C hk (zF_k2 hkd) rfl 0 (by decide) hin hlink (by first | (rw [← hv]; rfl) | simp [zr, hv, va_rf]) hd kk
theorem zp_X2_lumps (C : zC p s m args meth co D cy A cc nL ret Ts own) {k index : Nat} (hk : k ∈ L) (hkd : kd k = 2) (hin : ∀ w ∈ wsX20, w ∈ Ts) (hlink : Cond.fieldLink own index "LetteredRock$LumpBook" "lumps" "[LLetteredRock$Lump;" ∈ Ts) (hin2 : meth.name = "<init>") (hdecl : (TX2 0).1 = own) {k' : Nat} (hd : decode cc pc = .ok (.putfield index, 3)) (kk : zG p l e R s m args below meth co D cy A nL Q cells slots a L c g (up2 r k 0 (some k')) lv (pc + 3) st) : zG p l e R s m args below meth co D cy A nL Q cells slots a L c g r lv pc (Value.ref (a k') :: .ref (a k) :: st) := z_put C hk (zF_k2 hkd) rfl tyX2 tyX2_ok nmX2 0 (by decide) hin hlink (Or.inr ⟨rfl, hin2, hdecl⟩) rfl rfl (Nat.le_of_ble_eq_true rfl) (by rw [zF_k2 hkd]; simp [up2, zr, va_rf]) (fun i hi => zF_r cy a c g (up2_row r 0 (some k') hi)) hd kk
theorem zg_X2_size (C : zC p s m args meth co D cy A cc nL ret Ts own) {k index : Nat} (hk : k ∈ L) (hkd : kd k = 2) (hin : ∀ w ∈ wsX20, w ∈ Ts) (hlink : Cond.fieldLink own index "LetteredRock$LumpBook" "size" "I" ∈ Ts) {v : Int32} (hv : c k 1 = v) (hd : decode cc pc = .ok (.getfield index, 3)) (kk : zG p l e R s m args below meth co D cy A nL Q cells slots a L c g r lv (pc + 3) (.int v :: st)) : zG p l e R s m args below meth co D cy A nL Q cells slots a L c g r lv pc (.ref (a k) :: st) := z_get C hk (zF_k2 hkd) rfl 1 (by decide) hin hlink (by first | (rw [← hv]; rfl) | simp [zr, hv, va_rf]) hd kk
theorem zp_X2_size (C : zC p s m args meth co D cy A cc nL ret Ts own) {k index : Nat} (hk : k ∈ L) (hkd : kd k = 2) (hin : ∀ w ∈ wsX20, w ∈ Ts) (hlink : Cond.fieldLink own index "LetteredRock$LumpBook" "size" "I" ∈ Ts) {v : Int32} (hd : decode cc pc = .ok (.putfield index, 3)) (kk : zG p l e R s m args below meth co D cy A nL Q cells slots a L (up2 c k 1 v) g r lv (pc + 3) st) : zG p l e R s m args below meth co D cy A nL Q cells slots a L c g r lv pc (.int v :: .ref (a k) :: st) := z_put C hk (zF_k2 hkd) rfl tyX2 tyX2_ok nmX2 1 (by decide) hin hlink (Or.inl rfl) rfl rfl (Nat.le_of_ble_eq_true rfl) (by rw [zF_k2 hkd]; simp [up2, zr, va_rf]) (fun i hi => zF_c cy a g r (up2_row c 1 v hi)) hd kk
theorem zg_X2_stickCount (C : zC p s m args meth co D cy A cc nL ret Ts own) {k index : Nat} (hk : k ∈ L) (hkd : kd k = 2) (hin : ∀ w ∈ wsX20, w ∈ Ts) (hlink : Cond.fieldLink own index "LetteredRock$LumpBook" "stickCount" "I" ∈ Ts) {v : Int32} (hv : c k 2 = v) (hd : decode cc pc = .ok (.getfield index, 3)) (kk : zG p l e R s m args below meth co D cy A nL Q cells slots a L c g r lv (pc + 3) (.int v :: st)) : zG p l e R s m args below meth co D cy A nL Q cells slots a L c g r lv pc (.ref (a k) :: st) := z_get C hk (zF_k2 hkd) rfl 2 (by decide) hin hlink (by first | (rw [← hv]; rfl) | simp [zr, hv, va_rf]) hd kk
theorem zp_X2_stickCount (C : zC p s m args meth co D cy A cc nL ret Ts own) {k index : Nat} (hk : k ∈ L) (hkd : kd k = 2) (hin : ∀ w ∈ wsX20, w ∈ Ts) (hlink : Cond.fieldLink own index "LetteredRock$LumpBook" "stickCount" "I" ∈ Ts) {v : Int32} (hd : decode cc pc = .ok (.putfield index, 3)) (kk : zG p l e R s m args below meth co D cy A nL Q cells slots a L (up2 c k 2 v) g r lv (pc + 3) st) : zG p l e R s m args below meth co D cy A nL Q cells slots a L c g r lv pc (.int v :: .ref (a k) :: st) := z_put C hk (zF_k2 hkd) rfl tyX2 tyX2_ok nmX2 2 (by decide) hin hlink (Or.inl rfl) rfl rfl (Nat.le_of_ble_eq_true rfl) (by rw [zF_k2 hkd]; simp [up2, zr, va_rf]) (fun i hi => zF_c cy a g r (up2_row c 2 v hi)) hd kk
theorem zg_X2_scrap (C : zC p s m args meth co D cy A cc nL ret Ts own) {k index : Nat} (hk : k ∈ L) (hkd : kd k = 2) (hin : ∀ w ∈ wsX20, w ∈ Ts) (hlink : Cond.fieldLink own index "LetteredRock$LumpBook" "scrap" "I" ∈ Ts) {v : Int32} (hv : c k 3 = v) (hd : decode cc pc = .ok (.getfield index, 3)) (kk : zG p l e R s m args below meth co D cy A nL Q cells slots a L c g r lv (pc + 3) (.int v :: st)) : zG p l e R s m args below meth co D cy A nL Q cells slots a L c g r lv pc (.ref (a k) :: st) := z_get C hk (zF_k2 hkd) rfl 3 (by decide) hin hlink (by first | (rw [← hv]; rfl) | simp [zr, hv, va_rf]) hd kk
theorem zp_X2_scrap (C : zC p s m args meth co D cy A cc nL ret Ts own) {k index : Nat} (hk : k ∈ L) (hkd : kd k = 2) (hin : ∀ w ∈ wsX20, w ∈ Ts) (hlink : Cond.fieldLink own index "LetteredRock$LumpBook" "scrap" "I" ∈ Ts) {v : Int32} (hd : decode cc pc = .ok (.putfield index, 3)) (kk : zG p l e R s m args below meth co D cy A nL Q cells slots a L (up2 c k 3 v) g r lv (pc + 3) st) : zG p l e R s m args below meth co D cy A nL Q cells slots a L c g r lv pc (.int v :: .ref (a k) :: st) := z_put C hk (zF_k2 hkd) rfl tyX2 tyX2_ok nmX2 3 (by decide) hin hlink (Or.inl rfl) rfl rfl (Nat.le_of_ble_eq_true rfl) (by rw [zF_k2 hkd]; simp [up2, zr, va_rf]) (fun i hi => zF_c cy a g r (up2_row c 3 v hi)) hd kk
theorem zF_k3 {k : Nat} (h : kd k = 3) : zF cy a c g r k = .inr (3, [zr a r k 0, .int (c k 1), .int (c k 2)]) := by simp [zF, h]
theorem zg_X3_laid (C : zC p s m args meth co D cy A cc nL ret Ts own) {k index : Nat} (hk : k ∈ L) (hkd : kd k = 3) (hin : ∀ w ∈ wsX30, w ∈ Ts) (hlink : Cond.fieldLink own index "LetteredRock$Ring" "laid" "[I" ∈ Ts) {k' : Nat} (hv : r k 0 = some k') (hd : decode cc pc = .ok (.getfield index, 3)) (kk : zG p l e R s m args below meth co D cy A nL Q cells slots a L c g r lv (pc + 3) (Value.ref (a k') :: st)) : zG p l e R s m args below meth co D cy A nL Q cells slots a L c g r lv pc (.ref (a k) :: st) := z_get C hk (zF_k3 hkd) rfl 0 (by decide) hin hlink (by first | (rw [← hv]; rfl) | simp [zr, hv, va_rf]) hd kk
theorem zp_X3_laid (C : zC p s m args meth co D cy A cc nL ret Ts own) {k index : Nat} (hk : k ∈ L) (hkd : kd k = 3) (hin : ∀ w ∈ wsX30, w ∈ Ts) (hlink : Cond.fieldLink own index "LetteredRock$Ring" "laid" "[I" ∈ Ts) (hin2 : meth.name = "<init>") (hdecl : (TX3 0).1 = own) {k' : Nat} (hd : decode cc pc = .ok (.putfield index, 3)) (kk : zG p l e R s m args below meth co D cy A nL Q cells slots a L c g (up2 r k 0 (some k')) lv (pc + 3) st) : zG p l e R s m args below meth co D cy A nL Q cells slots a L c g r lv pc (Value.ref (a k') :: .ref (a k) :: st) := z_put C hk (zF_k3 hkd) rfl tyX3 tyX3_ok nmX3 0 (by decide) hin hlink (Or.inr ⟨rfl, hin2, hdecl⟩) rfl rfl (Nat.le_of_ble_eq_true rfl) (by rw [zF_k3 hkd]; simp [up2, zr, va_rf]) (fun i hi => zF_r cy a c g (up2_row r 0 (some k') hi)) hd kk
theorem zg_X3_slotCount (C : zC p s m args meth co D cy A cc nL ret Ts own) {k index : Nat} (hk : k ∈ L) (hkd : kd k = 3) (hin : ∀ w ∈ wsX30, w ∈ Ts) (hlink : Cond.fieldLink own index "LetteredRock$Ring" "slotCount" "I" ∈ Ts) {v : Int32} (hv : c k 1 = v) (hd : decode cc pc = .ok (.getfield index, 3)) (kk : zG p l e R s m args below meth co D cy A nL Q cells slots a L c g r lv (pc + 3) (.int v :: st)) : zG p l e R s m args below meth co D cy A nL Q cells slots a L c g r lv pc (.ref (a k) :: st) := z_get C hk (zF_k3 hkd) rfl 1 (by decide) hin hlink (by first | (rw [← hv]; rfl) | simp [zr, hv, va_rf]) hd kk
theorem zp_X3_slotCount (C : zC p s m args meth co D cy A cc nL ret Ts own) {k index : Nat} (hk : k ∈ L) (hkd : kd k = 3) (hin : ∀ w ∈ wsX30, w ∈ Ts) (hlink : Cond.fieldLink own index "LetteredRock$Ring" "slotCount" "I" ∈ Ts) {v : Int32} (hd : decode cc pc = .ok (.putfield index, 3)) (kk : zG p l e R s m args below meth co D cy A nL Q cells slots a L (up2 c k 1 v) g r lv (pc + 3) st) : zG p l e R s m args below meth co D cy A nL Q cells slots a L c g r lv pc (.int v :: .ref (a k) :: st) := z_put C hk (zF_k3 hkd) rfl tyX3 tyX3_ok nmX3 1 (by decide) hin hlink (Or.inl rfl) rfl rfl (Nat.le_of_ble_eq_true rfl) (by rw [zF_k3 hkd]; simp [up2, zr, va_rf]) (fun i hi => zF_c cy a g r (up2_row c 1 v hi)) hd kk
theorem zg_X3_gapWidth (C : zC p s m args meth co D cy A cc nL ret Ts own) {k index : Nat} (hk : k ∈ L) (hkd : kd k = 3) (hin : ∀ w ∈ wsX30, w ∈ Ts) (hlink : Cond.fieldLink own index "LetteredRock$Ring" "gapWidth" "I" ∈ Ts) {v : Int32} (hv : c k 2 = v) (hd : decode cc pc = .ok (.getfield index, 3)) (kk : zG p l e R s m args below meth co D cy A nL Q cells slots a L c g r lv (pc + 3) (.int v :: st)) : zG p l e R s m args below meth co D cy A nL Q cells slots a L c g r lv pc (.ref (a k) :: st) := z_get C hk (zF_k3 hkd) rfl 2 (by decide) hin hlink (by first | (rw [← hv]; rfl) | simp [zr, hv, va_rf]) hd kk
theorem zp_X3_gapWidth (C : zC p s m args meth co D cy A cc nL ret Ts own) {k index : Nat} (hk : k ∈ L) (hkd : kd k = 3) (hin : ∀ w ∈ wsX30, w ∈ Ts) (hlink : Cond.fieldLink own index "LetteredRock$Ring" "gapWidth" "I" ∈ Ts) {v : Int32} (hd : decode cc pc = .ok (.putfield index, 3)) (kk : zG p l e R s m args below meth co D cy A nL Q cells slots a L (up2 c k 2 v) g r lv (pc + 3) st) : zG p l e R s m args below meth co D cy A nL Q cells slots a L c g r lv pc (.int v :: .ref (a k) :: st) := z_put C hk (zF_k3 hkd) rfl tyX3 tyX3_ok nmX3 2 (by decide) hin hlink (Or.inl rfl) rfl rfl (Nat.le_of_ble_eq_true rfl) (by rw [zF_k3 hkd]; simp [up2, zr, va_rf]) (fun i hi => zF_c cy a g r (up2_row c 2 v hi)) hd kk
theorem zF_k4 {k : Nat} (h : kd k = 4) : zF cy a c g r k = .inr (4, [zr a r k 0, .int (c k 1), .int (c k 2), .int (c k 3)]) := by simp [zF, h]
theorem zg_X4_items (C : zC p s m args meth co D cy A cc nL ret Ts own) {k index : Nat} (hk : k ∈ L) (hkd : kd k = 4) (hin : ∀ w ∈ wsX40, w ∈ Ts) (hlink : Cond.fieldLink own index "LetteredRock$Sheet" "items" "[I" ∈ Ts) {k' : Nat} (hv : r k 0 = some k') (hd : decode cc pc = .ok (.getfield index, 3)) (kk : zG p l e R s m args below meth co D cy A nL Q cells slots a L c g r lv (pc + 3) (Value.ref (a k') :: st)) : zG p l e R s m args below meth co D cy A nL Q cells slots a L c g r lv pc (.ref (a k) :: st) := z_get C hk (zF_k4 hkd) rfl 0 (by decide) hin hlink (by first | (rw [← hv]; rfl) | simp [zr, hv, va_rf]) hd kk
theorem zp_X4_items (C : zC p s m args meth co D cy A cc nL ret Ts own) {k index : Nat} (hk : k ∈ L) (hkd : kd k = 4) (hin : ∀ w ∈ wsX40, w ∈ Ts) (hlink : Cond.fieldLink own index "LetteredRock$Sheet" "items" "[I" ∈ Ts) (hin2 : meth.name = "<init>") (hdecl : (TX4 0).1 = own) {k' : Nat} (hd : decode cc pc = .ok (.putfield index, 3)) (kk : zG p l e R s m args below meth co D cy A nL Q cells slots a L c g (up2 r k 0 (some k')) lv (pc + 3) st) : zG p l e R s m args below meth co D cy A nL Q cells slots a L c g r lv pc (Value.ref (a k') :: .ref (a k) :: st) := z_put C hk (zF_k4 hkd) rfl tyX4 tyX4_ok nmX4 0 (by decide) hin hlink (Or.inr ⟨rfl, hin2, hdecl⟩) rfl rfl (Nat.le_of_ble_eq_true rfl) (by rw [zF_k4 hkd]; simp [up2, zr, va_rf]) (fun i hi => zF_r cy a c g (up2_row r 0 (some k') hi)) hd kk
theorem zg_X4_isLost (C : zC p s m args meth co D cy A cc nL ret Ts own) {k index : Nat} (hk : k ∈ L) (hkd : kd k = 4) (hin : ∀ w ∈ wsX40, w ∈ Ts) (hlink : Cond.fieldLink own index "LetteredRock$Sheet" "isLost" "Z" ∈ Ts) {v : Int32} (hv : c k 1 = v) (hd : decode cc pc = .ok (.getfield index, 3)) (kk : zG p l e R s m args below meth co D cy A nL Q cells slots a L c g r lv (pc + 3) (.int v :: st)) : zG p l e R s m args below meth co D cy A nL Q cells slots a L c g r lv pc (.ref (a k) :: st) := z_get C hk (zF_k4 hkd) rfl 1 (by decide) hin hlink (by first | (rw [← hv]; rfl) | simp [zr, hv, va_rf]) hd kk
theorem zp_X4_isLost (C : zC p s m args meth co D cy A cc nL ret Ts own) {k index : Nat} (hk : k ∈ L) (hkd : kd k = 4) (hin : ∀ w ∈ wsX40, w ∈ Ts) (hlink : Cond.fieldLink own index "LetteredRock$Sheet" "isLost" "Z" ∈ Ts) {v : Int32} (hb : narrow .boolean (.int v) = .int v) (hb2 : fits .boolean (.int v) = true) (hd : decode cc pc = .ok (.putfield index, 3)) (kk : zG p l e R s m args below meth co D cy A nL Q cells slots a L (up2 c k 1 v) g r lv (pc + 3) st) : zG p l e R s m args below meth co D cy A nL Q cells slots a L c g r lv pc (.int v :: .ref (a k) :: st) := z_put C hk (zF_k4 hkd) rfl tyX4 tyX4_ok nmX4 1 (by decide) hin hlink (Or.inl rfl) hb hb2 (Nat.le_of_ble_eq_true rfl) (by rw [zF_k4 hkd]; simp [up2, zr, va_rf]) (fun i hi => zF_c cy a g r (up2_row c 1 v hi)) hd kk
theorem zg_X4_form (C : zC p s m args meth co D cy A cc nL ret Ts own) {k index : Nat} (hk : k ∈ L) (hkd : kd k = 4) (hin : ∀ w ∈ wsX40, w ∈ Ts) (hlink : Cond.fieldLink own index "LetteredRock$Sheet" "form" "I" ∈ Ts) {v : Int32} (hv : c k 2 = v) (hd : decode cc pc = .ok (.getfield index, 3)) (kk : zG p l e R s m args below meth co D cy A nL Q cells slots a L c g r lv (pc + 3) (.int v :: st)) : zG p l e R s m args below meth co D cy A nL Q cells slots a L c g r lv pc (.ref (a k) :: st) := z_get C hk (zF_k4 hkd) rfl 2 (by decide) hin hlink (by first | (rw [← hv]; rfl) | simp [zr, hv, va_rf]) hd kk
theorem zp_X4_form (C : zC p s m args meth co D cy A cc nL ret Ts own) {k index : Nat} (hk : k ∈ L) (hkd : kd k = 4) (hin : ∀ w ∈ wsX40, w ∈ Ts) (hlink : Cond.fieldLink own index "LetteredRock$Sheet" "form" "I" ∈ Ts) {v : Int32} (hd : decode cc pc = .ok (.putfield index, 3)) (kk : zG p l e R s m args below meth co D cy A nL Q cells slots a L (up2 c k 2 v) g r lv (pc + 3) st) : zG p l e R s m args below meth co D cy A nL Q cells slots a L c g r lv pc (.int v :: .ref (a k) :: st) := z_put C hk (zF_k4 hkd) rfl tyX4 tyX4_ok nmX4 2 (by decide) hin hlink (Or.inl rfl) rfl rfl (Nat.le_of_ble_eq_true rfl) (by rw [zF_k4 hkd]; simp [up2, zr, va_rf]) (fun i hi => zF_c cy a g r (up2_row c 2 v hi)) hd kk
theorem zg_X4_size (C : zC p s m args meth co D cy A cc nL ret Ts own) {k index : Nat} (hk : k ∈ L) (hkd : kd k = 4) (hin : ∀ w ∈ wsX40, w ∈ Ts) (hlink : Cond.fieldLink own index "LetteredRock$Sheet" "size" "I" ∈ Ts) {v : Int32} (hv : c k 3 = v) (hd : decode cc pc = .ok (.getfield index, 3)) (kk : zG p l e R s m args below meth co D cy A nL Q cells slots a L c g r lv (pc + 3) (.int v :: st)) : zG p l e R s m args below meth co D cy A nL Q cells slots a L c g r lv pc (.ref (a k) :: st) := z_get C hk (zF_k4 hkd) rfl 3 (by decide) hin hlink (by first | (rw [← hv]; rfl) | simp [zr, hv, va_rf]) hd kk
theorem zp_X4_size (C : zC p s m args meth co D cy A cc nL ret Ts own) {k index : Nat} (hk : k ∈ L) (hkd : kd k = 4) (hin : ∀ w ∈ wsX40, w ∈ Ts) (hlink : Cond.fieldLink own index "LetteredRock$Sheet" "size" "I" ∈ Ts) {v : Int32} (hd : decode cc pc = .ok (.putfield index, 3)) (kk : zG p l e R s m args below meth co D cy A nL Q cells slots a L (up2 c k 3 v) g r lv (pc + 3) st) : zG p l e R s m args below meth co D cy A nL Q cells slots a L c g r lv pc (.int v :: .ref (a k) :: st) := z_put C hk (zF_k4 hkd) rfl tyX4 tyX4_ok nmX4 3 (by decide) hin hlink (Or.inl rfl) rfl rfl (Nat.le_of_ble_eq_true rfl) (by rw [zF_k4 hkd]; simp [up2, zr, va_rf]) (fun i hi => zF_c cy a g r (up2_row c 3 v hi)) hd kk
theorem zF_k5 {k : Nat} (h : kd k = 5) : zF cy a c g r k = .inr (5, [.long (g k 0), .long (g k 1), .long (g k 2), .int (c k 3)]) := by simp [zF, h]
theorem zg_X5_left (C : zC p s m args meth co D cy A cc nL ret Ts own) {k index : Nat} (hk : k ∈ L) (hkd : kd k = 5) (hin : ∀ w ∈ wsX50, w ∈ Ts) (hlink : Cond.fieldLink own index "LetteredRock$StockRun" "left" "J" ∈ Ts) {v : Int64} (hv : g k 0 = v) (hd : decode cc pc = .ok (.getfield index, 3)) (kk : zG p l e R s m args below meth co D cy A nL Q cells slots a L c g r lv (pc + 3) (.long v :: st)) : zG p l e R s m args below meth co D cy A nL Q cells slots a L c g r lv pc (.ref (a k) :: st) := z_get C hk (zF_k5 hkd) rfl 0 (by decide) hin hlink (by first | (rw [← hv]; rfl) | simp [zr, hv, va_rf]) hd kk
theorem zp_X5_left (C : zC p s m args meth co D cy A cc nL ret Ts own) {k index : Nat} (hk : k ∈ L) (hkd : kd k = 5) (hin : ∀ w ∈ wsX50, w ∈ Ts) (hlink : Cond.fieldLink own index "LetteredRock$StockRun" "left" "J" ∈ Ts) {v : Int64} (hd : decode cc pc = .ok (.putfield index, 3)) (kk : zG p l e R s m args below meth co D cy A nL Q cells slots a L c (up2 g k 0 v) r lv (pc + 3) st) : zG p l e R s m args below meth co D cy A nL Q cells slots a L c g r lv pc (.long v :: .ref (a k) :: st) := z_put C hk (zF_k5 hkd) rfl tyX5 tyX5_ok nmX5 0 (by decide) hin hlink (Or.inl rfl) rfl rfl (Nat.le_of_ble_eq_true rfl) (by rw [zF_k5 hkd]; simp [up2, zr, va_rf]) (fun i hi => zF_g cy a c r (up2_row g 0 v hi)) hd kk
theorem zg_X5_lacking (C : zC p s m args meth co D cy A cc nL ret Ts own) {k index : Nat} (hk : k ∈ L) (hkd : kd k = 5) (hin : ∀ w ∈ wsX50, w ∈ Ts) (hlink : Cond.fieldLink own index "LetteredRock$StockRun" "lacking" "J" ∈ Ts) {v : Int64} (hv : g k 1 = v) (hd : decode cc pc = .ok (.getfield index, 3)) (kk : zG p l e R s m args below meth co D cy A nL Q cells slots a L c g r lv (pc + 3) (.long v :: st)) : zG p l e R s m args below meth co D cy A nL Q cells slots a L c g r lv pc (.ref (a k) :: st) := z_get C hk (zF_k5 hkd) rfl 1 (by decide) hin hlink (by first | (rw [← hv]; rfl) | simp [zr, hv, va_rf]) hd kk
theorem zp_X5_lacking (C : zC p s m args meth co D cy A cc nL ret Ts own) {k index : Nat} (hk : k ∈ L) (hkd : kd k = 5) (hin : ∀ w ∈ wsX50, w ∈ Ts) (hlink : Cond.fieldLink own index "LetteredRock$StockRun" "lacking" "J" ∈ Ts) {v : Int64} (hd : decode cc pc = .ok (.putfield index, 3)) (kk : zG p l e R s m args below meth co D cy A nL Q cells slots a L c (up2 g k 1 v) r lv (pc + 3) st) : zG p l e R s m args below meth co D cy A nL Q cells slots a L c g r lv pc (.long v :: .ref (a k) :: st) := z_put C hk (zF_k5 hkd) rfl tyX5 tyX5_ok nmX5 1 (by decide) hin hlink (Or.inl rfl) rfl rfl (Nat.le_of_ble_eq_true rfl) (by rw [zF_k5 hkd]; simp [up2, zr, va_rf]) (fun i hi => zF_g cy a c r (up2_row g 1 v hi)) hd kk
theorem zg_X5_lost (C : zC p s m args meth co D cy A cc nL ret Ts own) {k index : Nat} (hk : k ∈ L) (hkd : kd k = 5) (hin : ∀ w ∈ wsX50, w ∈ Ts) (hlink : Cond.fieldLink own index "LetteredRock$StockRun" "lost" "J" ∈ Ts) {v : Int64} (hv : g k 2 = v) (hd : decode cc pc = .ok (.getfield index, 3)) (kk : zG p l e R s m args below meth co D cy A nL Q cells slots a L c g r lv (pc + 3) (.long v :: st)) : zG p l e R s m args below meth co D cy A nL Q cells slots a L c g r lv pc (.ref (a k) :: st) := z_get C hk (zF_k5 hkd) rfl 2 (by decide) hin hlink (by first | (rw [← hv]; rfl) | simp [zr, hv, va_rf]) hd kk
theorem zp_X5_lost (C : zC p s m args meth co D cy A cc nL ret Ts own) {k index : Nat} (hk : k ∈ L) (hkd : kd k = 5) (hin : ∀ w ∈ wsX50, w ∈ Ts) (hlink : Cond.fieldLink own index "LetteredRock$StockRun" "lost" "J" ∈ Ts) {v : Int64} (hd : decode cc pc = .ok (.putfield index, 3)) (kk : zG p l e R s m args below meth co D cy A nL Q cells slots a L c (up2 g k 2 v) r lv (pc + 3) st) : zG p l e R s m args below meth co D cy A nL Q cells slots a L c g r lv pc (.long v :: .ref (a k) :: st) := z_put C hk (zF_k5 hkd) rfl tyX5 tyX5_ok nmX5 2 (by decide) hin hlink (Or.inl rfl) rfl rfl (Nat.le_of_ble_eq_true rfl) (by rw [zF_k5 hkd]; simp [up2, zr, va_rf]) (fun i hi => zF_g cy a c r (up2_row g 2 v hi)) hd kk
theorem zg_X5_firstShort (C : zC p s m args meth co D cy A cc nL ret Ts own) {k index : Nat} (hk : k ∈ L) (hkd : kd k = 5) (hin : ∀ w ∈ wsX50, w ∈ Ts) (hlink : Cond.fieldLink own index "LetteredRock$StockRun" "firstShort" "I" ∈ Ts) {v : Int32} (hv : c k 3 = v) (hd : decode cc pc = .ok (.getfield index, 3)) (kk : zG p l e R s m args below meth co D cy A nL Q cells slots a L c g r lv (pc + 3) (.int v :: st)) : zG p l e R s m args below meth co D cy A nL Q cells slots a L c g r lv pc (.ref (a k) :: st) := z_get C hk (zF_k5 hkd) rfl 3 (by decide) hin hlink (by first | (rw [← hv]; rfl) | simp [zr, hv, va_rf]) hd kk
theorem zp_X5_firstShort (C : zC p s m args meth co D cy A cc nL ret Ts own) {k index : Nat} (hk : k ∈ L) (hkd : kd k = 5) (hin : ∀ w ∈ wsX50, w ∈ Ts) (hlink : Cond.fieldLink own index "LetteredRock$StockRun" "firstShort" "I" ∈ Ts) {v : Int32} (hd : decode cc pc = .ok (.putfield index, 3)) (kk : zG p l e R s m args below meth co D cy A nL Q cells slots a L (up2 c k 3 v) g r lv (pc + 3) st) : zG p l e R s m args below meth co D cy A nL Q cells slots a L c g r lv pc (.int v :: .ref (a k) :: st) := z_put C hk (zF_k5 hkd) rfl tyX5 tyX5_ok nmX5 3 (by decide) hin hlink (Or.inl rfl) rfl rfl (Nat.le_of_ble_eq_true rfl) (by rw [zF_k5 hkd]; simp [up2, zr, va_rf]) (fun i hi => zF_c cy a g r (up2_row c 3 v hi)) hd kk
theorem zF_k6 {k : Nat} (h : kd k = 6) : zF cy a c g r k = .inr (6, [zr a r k 0, .int (c k 1)]) := by simp [zF, h]
theorem zg_X6_letters (C : zC p s m args meth co D cy A cc nL ret Ts own) {k index : Nat} (hk : k ∈ L) (hkd : kd k = 6) (hin : ∀ w ∈ wsX60, w ∈ Ts) (hlink : Cond.fieldLink own index "LetteredRock$Word" "letters" "[LLetteredRock$Letter;" ∈ Ts) {k' : Nat} (hv : r k 0 = some k') (hd : decode cc pc = .ok (.getfield index, 3)) (kk : zG p l e R s m args below meth co D cy A nL Q cells slots a L c g r lv (pc + 3) (Value.ref (a k') :: st)) : zG p l e R s m args below meth co D cy A nL Q cells slots a L c g r lv pc (.ref (a k) :: st) := z_get C hk (zF_k6 hkd) rfl 0 (by decide) hin hlink (by first | (rw [← hv]; rfl) | simp [zr, hv, va_rf]) hd kk
theorem zp_X6_letters (C : zC p s m args meth co D cy A cc nL ret Ts own) {k index : Nat} (hk : k ∈ L) (hkd : kd k = 6) (hin : ∀ w ∈ wsX60, w ∈ Ts) (hlink : Cond.fieldLink own index "LetteredRock$Word" "letters" "[LLetteredRock$Letter;" ∈ Ts) (hin2 : meth.name = "<init>") (hdecl : (TX6 0).1 = own) {k' : Nat} (hd : decode cc pc = .ok (.putfield index, 3)) (kk : zG p l e R s m args below meth co D cy A nL Q cells slots a L c g (up2 r k 0 (some k')) lv (pc + 3) st) : zG p l e R s m args below meth co D cy A nL Q cells slots a L c g r lv pc (Value.ref (a k') :: .ref (a k) :: st) := z_put C hk (zF_k6 hkd) rfl tyX6 tyX6_ok nmX6 0 (by decide) hin hlink (Or.inr ⟨rfl, hin2, hdecl⟩) rfl rfl (Nat.le_of_ble_eq_true rfl) (by rw [zF_k6 hkd]; simp [up2, zr, va_rf]) (fun i hi => zF_r cy a c g (up2_row r 0 (some k') hi)) hd kk
theorem zg_X6_size (C : zC p s m args meth co D cy A cc nL ret Ts own) {k index : Nat} (hk : k ∈ L) (hkd : kd k = 6) (hin : ∀ w ∈ wsX60, w ∈ Ts) (hlink : Cond.fieldLink own index "LetteredRock$Word" "size" "I" ∈ Ts) {v : Int32} (hv : c k 1 = v) (hd : decode cc pc = .ok (.getfield index, 3)) (kk : zG p l e R s m args below meth co D cy A nL Q cells slots a L c g r lv (pc + 3) (.int v :: st)) : zG p l e R s m args below meth co D cy A nL Q cells slots a L c g r lv pc (.ref (a k) :: st) := z_get C hk (zF_k6 hkd) rfl 1 (by decide) hin hlink (by first | (rw [← hv]; rfl) | simp [zr, hv, va_rf]) hd kk
theorem zp_X6_size (C : zC p s m args meth co D cy A cc nL ret Ts own) {k index : Nat} (hk : k ∈ L) (hkd : kd k = 6) (hin : ∀ w ∈ wsX60, w ∈ Ts) (hlink : Cond.fieldLink own index "LetteredRock$Word" "size" "I" ∈ Ts) {v : Int32} (hd : decode cc pc = .ok (.putfield index, 3)) (kk : zG p l e R s m args below meth co D cy A nL Q cells slots a L (up2 c k 1 v) g r lv (pc + 3) st) : zG p l e R s m args below meth co D cy A nL Q cells slots a L c g r lv pc (.int v :: .ref (a k) :: st) := z_put C hk (zF_k6 hkd) rfl tyX6 tyX6_ok nmX6 1 (by decide) hin hlink (Or.inl rfl) rfl rfl (Nat.le_of_ble_eq_true rfl) (by rw [zF_k6 hkd]; simp [up2, zr, va_rf]) (fun i hi => zF_c cy a g r (up2_row c 1 v hi)) hd kk
theorem zF_k7 {k : Nat} (h : kd k = 7) : zF cy a c g r k = .inr (7, [zr a r k 0, .int (c k 1), zr a r k 2, zr a r k 3, zr a r k 4, zr a r k 5, zr a r k 6, zr a r k 7, zr a r k 8, zr a r k 9, .int (c k 10)]) := by simp [zF, h]
theorem zg_X7_alphabet (C : zC p s m args meth co D cy A cc nL ret Ts own) {k index : Nat} (hk : k ∈ L) (hkd : kd k = 7) (hin : ∀ w ∈ wsX70, w ∈ Ts) (hlink : Cond.fieldLink own index "LetteredRock" "alphabet" "[LLetteredRock$Letter;" ∈ Ts) {k' : Nat} (hv : r k 0 = some k') (hd : decode cc pc = .ok (.getfield index, 3)) (kk : zG p l e R s m args below meth co D cy A nL Q cells slots a L c g r lv (pc + 3) (Value.ref (a k') :: st)) : zG p l e R s m args below meth co D cy A nL Q cells slots a L c g r lv pc (.ref (a k) :: st) := z_get C hk (zF_k7 hkd) rfl 0 (by decide) hin hlink (by first | (rw [← hv]; rfl) | simp [zr, hv, va_rf]) hd kk
theorem zp_X7_alphabet (C : zC p s m args meth co D cy A cc nL ret Ts own) {k index : Nat} (hk : k ∈ L) (hkd : kd k = 7) (hin : ∀ w ∈ wsX70, w ∈ Ts) (hlink : Cond.fieldLink own index "LetteredRock" "alphabet" "[LLetteredRock$Letter;" ∈ Ts) (hin2 : meth.name = "<init>") (hdecl : (TX7 0).1 = own) {k' : Nat} (hd : decode cc pc = .ok (.putfield index, 3)) (kk : zG p l e R s m args below meth co D cy A nL Q cells slots a L c g (up2 r k 0 (some k')) lv (pc + 3) st) : zG p l e R s m args below meth co D cy A nL Q cells slots a L c g r lv pc (Value.ref (a k') :: .ref (a k) :: st) := z_put C hk (zF_k7 hkd) rfl tyX7 tyX7_ok nmX7 0 (by decide) hin hlink (Or.inr ⟨rfl, hin2, hdecl⟩) rfl rfl (Nat.le_of_ble_eq_true rfl) (by rw [zF_k7 hkd]; simp [up2, zr, va_rf]) (fun i hi => zF_r cy a c g (up2_row r 0 (some k') hi)) hd kk
theorem zg_X7_letterCount (C : zC p s m args meth co D cy A cc nL ret Ts own) {k index : Nat} (hk : k ∈ L) (hkd : kd k = 7) (hin : ∀ w ∈ wsX70, w ∈ Ts) (hlink : Cond.fieldLink own index "LetteredRock" "letterCount" "I" ∈ Ts) {v : Int32} (hv : c k 1 = v) (hd : decode cc pc = .ok (.getfield index, 3)) (kk : zG p l e R s m args below meth co D cy A nL Q cells slots a L c g r lv (pc + 3) (.int v :: st)) : zG p l e R s m args below meth co D cy A nL Q cells slots a L c g r lv pc (.ref (a k) :: st) := z_get C hk (zF_k7 hkd) rfl 1 (by decide) hin hlink (by first | (rw [← hv]; rfl) | simp [zr, hv, va_rf]) hd kk
theorem zp_X7_letterCount (C : zC p s m args meth co D cy A cc nL ret Ts own) {k index : Nat} (hk : k ∈ L) (hkd : kd k = 7) (hin : ∀ w ∈ wsX70, w ∈ Ts) (hlink : Cond.fieldLink own index "LetteredRock" "letterCount" "I" ∈ Ts) {v : Int32} (hd : decode cc pc = .ok (.putfield index, 3)) (kk : zG p l e R s m args below meth co D cy A nL Q cells slots a L (up2 c k 1 v) g r lv (pc + 3) st) : zG p l e R s m args below meth co D cy A nL Q cells slots a L c g r lv pc (.int v :: .ref (a k) :: st) := z_put C hk (zF_k7 hkd) rfl tyX7 tyX7_ok nmX7 1 (by decide) hin hlink (Or.inl rfl) rfl rfl (Nat.le_of_ble_eq_true rfl) (by rw [zF_k7 hkd]; simp [up2, zr, va_rf]) (fun i hi => zF_c cy a g r (up2_row c 1 v hi)) hd kk
theorem zg_X7_wordRow (C : zC p s m args meth co D cy A cc nL ret Ts own) {k index : Nat} (hk : k ∈ L) (hkd : kd k = 7) (hin : ∀ w ∈ wsX70, w ∈ Ts) (hlink : Cond.fieldLink own index "LetteredRock" "wordRow" "[LLetteredRock$Word;" ∈ Ts) {k' : Nat} (hv : r k 2 = some k') (hd : decode cc pc = .ok (.getfield index, 3)) (kk : zG p l e R s m args below meth co D cy A nL Q cells slots a L c g r lv (pc + 3) (Value.ref (a k') :: st)) : zG p l e R s m args below meth co D cy A nL Q cells slots a L c g r lv pc (.ref (a k) :: st) := z_get C hk (zF_k7 hkd) rfl 2 (by decide) hin hlink (by first | (rw [← hv]; rfl) | simp [zr, hv, va_rf]) hd kk
theorem zp_X7_wordRow (C : zC p s m args meth co D cy A cc nL ret Ts own) {k index : Nat} (hk : k ∈ L) (hkd : kd k = 7) (hin : ∀ w ∈ wsX70, w ∈ Ts) (hlink : Cond.fieldLink own index "LetteredRock" "wordRow" "[LLetteredRock$Word;" ∈ Ts) (hin2 : meth.name = "<init>") (hdecl : (TX7 2).1 = own) {k' : Nat} (hd : decode cc pc = .ok (.putfield index, 3)) (kk : zG p l e R s m args below meth co D cy A nL Q cells slots a L c g (up2 r k 2 (some k')) lv (pc + 3) st) : zG p l e R s m args below meth co D cy A nL Q cells slots a L c g r lv pc (Value.ref (a k') :: .ref (a k) :: st) := z_put C hk (zF_k7 hkd) rfl tyX7 tyX7_ok nmX7 2 (by decide) hin hlink (Or.inr ⟨rfl, hin2, hdecl⟩) rfl rfl (Nat.le_of_ble_eq_true rfl) (by rw [zF_k7 hkd]; simp [up2, zr, va_rf]) (fun i hi => zF_r cy a c g (up2_row r 2 (some k') hi)) hd kk
theorem zg_X7_ring (C : zC p s m args meth co D cy A cc nL ret Ts own) {k index : Nat} (hk : k ∈ L) (hkd : kd k = 7) (hin : ∀ w ∈ wsX70, w ∈ Ts) (hlink : Cond.fieldLink own index "LetteredRock" "ring" "LLetteredRock$Ring;" ∈ Ts) {k' : Nat} (hv : r k 3 = some k') (hd : decode cc pc = .ok (.getfield index, 3)) (kk : zG p l e R s m args below meth co D cy A nL Q cells slots a L c g r lv (pc + 3) (Value.ref (a k') :: st)) : zG p l e R s m args below meth co D cy A nL Q cells slots a L c g r lv pc (.ref (a k) :: st) := z_get C hk (zF_k7 hkd) rfl 3 (by decide) hin hlink (by first | (rw [← hv]; rfl) | simp [zr, hv, va_rf]) hd kk
theorem zp_X7_ring (C : zC p s m args meth co D cy A cc nL ret Ts own) {k index : Nat} (hk : k ∈ L) (hkd : kd k = 7) (hin : ∀ w ∈ wsX70, w ∈ Ts) (hlink : Cond.fieldLink own index "LetteredRock" "ring" "LLetteredRock$Ring;" ∈ Ts) (hin2 : meth.name = "<init>") (hdecl : (TX7 3).1 = own) {k' : Nat} (hd : decode cc pc = .ok (.putfield index, 3)) (kk : zG p l e R s m args below meth co D cy A nL Q cells slots a L c g (up2 r k 3 (some k')) lv (pc + 3) st) : zG p l e R s m args below meth co D cy A nL Q cells slots a L c g r lv pc (Value.ref (a k') :: .ref (a k) :: st) := z_put C hk (zF_k7 hkd) rfl tyX7 tyX7_ok nmX7 3 (by decide) hin hlink (Or.inr ⟨rfl, hin2, hdecl⟩) rfl rfl (Nat.le_of_ble_eq_true rfl) (by rw [zF_k7 hkd]; simp [up2, zr, va_rf]) (fun i hi => zF_r cy a c g (up2_row r 3 (some k') hi)) hd kk
theorem zg_X7_settings (C : zC p s m args meth co D cy A cc nL ret Ts own) {k index : Nat} (hk : k ∈ L) (hkd : kd k = 7) (hin : ∀ w ∈ wsX70, w ∈ Ts) (hlink : Cond.fieldLink own index "LetteredRock" "settings" "[I" ∈ Ts) {k' : Nat} (hv : r k 4 = some k') (hd : decode cc pc = .ok (.getfield index, 3)) (kk : zG p l e R s m args below meth co D cy A nL Q cells slots a L c g r lv (pc + 3) (Value.ref (a k') :: st)) : zG p l e R s m args below meth co D cy A nL Q cells slots a L c g r lv pc (.ref (a k) :: st) := z_get C hk (zF_k7 hkd) rfl 4 (by decide) hin hlink (by first | (rw [← hv]; rfl) | simp [zr, hv, va_rf]) hd kk
theorem zp_X7_settings (C : zC p s m args meth co D cy A cc nL ret Ts own) {k index : Nat} (hk : k ∈ L) (hkd : kd k = 7) (hin : ∀ w ∈ wsX70, w ∈ Ts) (hlink : Cond.fieldLink own index "LetteredRock" "settings" "[I" ∈ Ts) (hin2 : meth.name = "<init>") (hdecl : (TX7 4).1 = own) {k' : Nat} (hd : decode cc pc = .ok (.putfield index, 3)) (kk : zG p l e R s m args below meth co D cy A nL Q cells slots a L c g (up2 r k 4 (some k')) lv (pc + 3) st) : zG p l e R s m args below meth co D cy A nL Q cells slots a L c g r lv pc (Value.ref (a k') :: .ref (a k) :: st) := z_put C hk (zF_k7 hkd) rfl tyX7 tyX7_ok nmX7 4 (by decide) hin hlink (Or.inr ⟨rfl, hin2, hdecl⟩) rfl rfl (Nat.le_of_ble_eq_true rfl) (by rw [zF_k7 hkd]; simp [up2, zr, va_rf]) (fun i hi => zF_r cy a c g (up2_row r 4 (some k') hi)) hd kk
theorem zg_X7_lumpBook (C : zC p s m args meth co D cy A cc nL ret Ts own) {k index : Nat} (hk : k ∈ L) (hkd : kd k = 7) (hin : ∀ w ∈ wsX70, w ∈ Ts) (hlink : Cond.fieldLink own index "LetteredRock" "lumpBook" "LLetteredRock$LumpBook;" ∈ Ts) {k' : Nat} (hv : r k 5 = some k') (hd : decode cc pc = .ok (.getfield index, 3)) (kk : zG p l e R s m args below meth co D cy A nL Q cells slots a L c g r lv (pc + 3) (Value.ref (a k') :: st)) : zG p l e R s m args below meth co D cy A nL Q cells slots a L c g r lv pc (.ref (a k) :: st) := z_get C hk (zF_k7 hkd) rfl 5 (by decide) hin hlink (by first | (rw [← hv]; rfl) | simp [zr, hv, va_rf]) hd kk
theorem zp_X7_lumpBook (C : zC p s m args meth co D cy A cc nL ret Ts own) {k index : Nat} (hk : k ∈ L) (hkd : kd k = 7) (hin : ∀ w ∈ wsX70, w ∈ Ts) (hlink : Cond.fieldLink own index "LetteredRock" "lumpBook" "LLetteredRock$LumpBook;" ∈ Ts) (hin2 : meth.name = "<init>") (hdecl : (TX7 5).1 = own) {k' : Nat} (hd : decode cc pc = .ok (.putfield index, 3)) (kk : zG p l e R s m args below meth co D cy A nL Q cells slots a L c g (up2 r k 5 (some k')) lv (pc + 3) st) : zG p l e R s m args below meth co D cy A nL Q cells slots a L c g r lv pc (Value.ref (a k') :: .ref (a k) :: st) := z_put C hk (zF_k7 hkd) rfl tyX7 tyX7_ok nmX7 5 (by decide) hin hlink (Or.inr ⟨rfl, hin2, hdecl⟩) rfl rfl (Nat.le_of_ble_eq_true rfl) (by rw [zF_k7 hkd]; simp [up2, zr, va_rf]) (fun i hi => zF_r cy a c g (up2_row r 5 (some k') hi)) hd kk
theorem zg_X7_dampWeeks (C : zC p s m args meth co D cy A cc nL ret Ts own) {k index : Nat} (hk : k ∈ L) (hkd : kd k = 7) (hin : ∀ w ∈ wsX70, w ∈ Ts) (hlink : Cond.fieldLink own index "LetteredRock" "dampWeeks" "[Z" ∈ Ts) {k' : Nat} (hv : r k 6 = some k') (hd : decode cc pc = .ok (.getfield index, 3)) (kk : zG p l e R s m args below meth co D cy A nL Q cells slots a L c g r lv (pc + 3) (Value.ref (a k') :: st)) : zG p l e R s m args below meth co D cy A nL Q cells slots a L c g r lv pc (.ref (a k) :: st) := z_get C hk (zF_k7 hkd) rfl 6 (by decide) hin hlink (by first | (rw [← hv]; rfl) | simp [zr, hv, va_rf]) hd kk
theorem zp_X7_dampWeeks (C : zC p s m args meth co D cy A cc nL ret Ts own) {k index : Nat} (hk : k ∈ L) (hkd : kd k = 7) (hin : ∀ w ∈ wsX70, w ∈ Ts) (hlink : Cond.fieldLink own index "LetteredRock" "dampWeeks" "[Z" ∈ Ts) (hin2 : meth.name = "<init>") (hdecl : (TX7 6).1 = own) {k' : Nat} (hd : decode cc pc = .ok (.putfield index, 3)) (kk : zG p l e R s m args below meth co D cy A nL Q cells slots a L c g (up2 r k 6 (some k')) lv (pc + 3) st) : zG p l e R s m args below meth co D cy A nL Q cells slots a L c g r lv pc (Value.ref (a k') :: .ref (a k) :: st) := z_put C hk (zF_k7 hkd) rfl tyX7 tyX7_ok nmX7 6 (by decide) hin hlink (Or.inr ⟨rfl, hin2, hdecl⟩) rfl rfl (Nat.le_of_ble_eq_true rfl) (by rw [zF_k7 hkd]; simp [up2, zr, va_rf]) (fun i hi => zF_r cy a c g (up2_row r 6 (some k') hi)) hd kk
theorem zg_X7_madeIn (C : zC p s m args meth co D cy A cc nL ret Ts own) {k index : Nat} (hk : k ∈ L) (hkd : kd k = 7) (hin : ∀ w ∈ wsX70, w ∈ Ts) (hlink : Cond.fieldLink own index "LetteredRock" "madeIn" "[I" ∈ Ts) {k' : Nat} (hv : r k 7 = some k') (hd : decode cc pc = .ok (.getfield index, 3)) (kk : zG p l e R s m args below meth co D cy A nL Q cells slots a L c g r lv (pc + 3) (Value.ref (a k') :: st)) : zG p l e R s m args below meth co D cy A nL Q cells slots a L c g r lv pc (.ref (a k) :: st) := z_get C hk (zF_k7 hkd) rfl 7 (by decide) hin hlink (by first | (rw [← hv]; rfl) | simp [zr, hv, va_rf]) hd kk
theorem zp_X7_madeIn (C : zC p s m args meth co D cy A cc nL ret Ts own) {k index : Nat} (hk : k ∈ L) (hkd : kd k = 7) (hin : ∀ w ∈ wsX70, w ∈ Ts) (hlink : Cond.fieldLink own index "LetteredRock" "madeIn" "[I" ∈ Ts) (hin2 : meth.name = "<init>") (hdecl : (TX7 7).1 = own) {k' : Nat} (hd : decode cc pc = .ok (.putfield index, 3)) (kk : zG p l e R s m args below meth co D cy A nL Q cells slots a L c g (up2 r k 7 (some k')) lv (pc + 3) st) : zG p l e R s m args below meth co D cy A nL Q cells slots a L c g r lv pc (Value.ref (a k') :: .ref (a k) :: st) := z_put C hk (zF_k7 hkd) rfl tyX7 tyX7_ok nmX7 7 (by decide) hin hlink (Or.inr ⟨rfl, hin2, hdecl⟩) rfl rfl (Nat.le_of_ble_eq_true rfl) (by rw [zF_k7 hkd]; simp [up2, zr, va_rf]) (fun i hi => zF_r cy a c g (up2_row r 7 (some k') hi)) hd kk
theorem zg_X7_stockRun (C : zC p s m args meth co D cy A cc nL ret Ts own) {k index : Nat} (hk : k ∈ L) (hkd : kd k = 7) (hin : ∀ w ∈ wsX70, w ∈ Ts) (hlink : Cond.fieldLink own index "LetteredRock" "stockRun" "LLetteredRock$StockRun;" ∈ Ts) {k' : Nat} (hv : r k 8 = some k') (hd : decode cc pc = .ok (.getfield index, 3)) (kk : zG p l e R s m args below meth co D cy A nL Q cells slots a L c g r lv (pc + 3) (Value.ref (a k') :: st)) : zG p l e R s m args below meth co D cy A nL Q cells slots a L c g r lv pc (.ref (a k) :: st) := z_get C hk (zF_k7 hkd) rfl 8 (by decide) hin hlink (by first | (rw [← hv]; rfl) | simp [zr, hv, va_rf]) hd kk
theorem zp_X7_stockRun (C : zC p s m args meth co D cy A cc nL ret Ts own) {k index : Nat} (hk : k ∈ L) (hkd : kd k = 7) (hin : ∀ w ∈ wsX70, w ∈ Ts) (hlink : Cond.fieldLink own index "LetteredRock" "stockRun" "LLetteredRock$StockRun;" ∈ Ts) (hin2 : meth.name = "<init>") (hdecl : (TX7 8).1 = own) {k' : Nat} (hd : decode cc pc = .ok (.putfield index, 3)) (kk : zG p l e R s m args below meth co D cy A nL Q cells slots a L c g (up2 r k 8 (some k')) lv (pc + 3) st) : zG p l e R s m args below meth co D cy A nL Q cells slots a L c g r lv pc (Value.ref (a k') :: .ref (a k) :: st) := z_put C hk (zF_k7 hkd) rfl tyX7 tyX7_ok nmX7 8 (by decide) hin hlink (Or.inr ⟨rfl, hin2, hdecl⟩) rfl rfl (Nat.le_of_ble_eq_true rfl) (by rw [zF_k7 hkd]; simp [up2, zr, va_rf]) (fun i hi => zF_r cy a c g (up2_row r 8 (some k') hi)) hd kk
theorem zg_X7_sheetRow (C : zC p s m args meth co D cy A cc nL ret Ts own) {k index : Nat} (hk : k ∈ L) (hkd : kd k = 7) (hin : ∀ w ∈ wsX70, w ∈ Ts) (hlink : Cond.fieldLink own index "LetteredRock" "sheetRow" "[LLetteredRock$Sheet;" ∈ Ts) {k' : Nat} (hv : r k 9 = some k') (hd : decode cc pc = .ok (.getfield index, 3)) (kk : zG p l e R s m args below meth co D cy A nL Q cells slots a L c g r lv (pc + 3) (Value.ref (a k') :: st)) : zG p l e R s m args below meth co D cy A nL Q cells slots a L c g r lv pc (.ref (a k) :: st) := z_get C hk (zF_k7 hkd) rfl 9 (by decide) hin hlink (by first | (rw [← hv]; rfl) | simp [zr, hv, va_rf]) hd kk
theorem zp_X7_sheetRow (C : zC p s m args meth co D cy A cc nL ret Ts own) {k index : Nat} (hk : k ∈ L) (hkd : kd k = 7) (hin : ∀ w ∈ wsX70, w ∈ Ts) (hlink : Cond.fieldLink own index "LetteredRock" "sheetRow" "[LLetteredRock$Sheet;" ∈ Ts) (hin2 : meth.name = "<init>") (hdecl : (TX7 9).1 = own) {k' : Nat} (hd : decode cc pc = .ok (.putfield index, 3)) (kk : zG p l e R s m args below meth co D cy A nL Q cells slots a L c g (up2 r k 9 (some k')) lv (pc + 3) st) : zG p l e R s m args below meth co D cy A nL Q cells slots a L c g r lv pc (Value.ref (a k') :: .ref (a k) :: st) := z_put C hk (zF_k7 hkd) rfl tyX7 tyX7_ok nmX7 9 (by decide) hin hlink (Or.inr ⟨rfl, hin2, hdecl⟩) rfl rfl (Nat.le_of_ble_eq_true rfl) (by rw [zF_k7 hkd]; simp [up2, zr, va_rf]) (fun i hi => zF_r cy a c g (up2_row r 9 (some k') hi)) hd kk
theorem zg_X7_latestFinding (C : zC p s m args meth co D cy A cc nL ret Ts own) {k index : Nat} (hk : k ∈ L) (hkd : kd k = 7) (hin : ∀ w ∈ wsX70, w ∈ Ts) (hlink : Cond.fieldLink own index "LetteredRock" "latestFinding" "I" ∈ Ts) {v : Int32} (hv : c k 10 = v) (hd : decode cc pc = .ok (.getfield index, 3)) (kk : zG p l e R s m args below meth co D cy A nL Q cells slots a L c g r lv (pc + 3) (.int v :: st)) : zG p l e R s m args below meth co D cy A nL Q cells slots a L c g r lv pc (.ref (a k) :: st) := z_get C hk (zF_k7 hkd) rfl 10 (by decide) hin hlink (by first | (rw [← hv]; rfl) | simp [zr, hv, va_rf]) hd kk
theorem zp_X7_latestFinding (C : zC p s m args meth co D cy A cc nL ret Ts own) {k index : Nat} (hk : k ∈ L) (hkd : kd k = 7) (hin : ∀ w ∈ wsX70, w ∈ Ts) (hlink : Cond.fieldLink own index "LetteredRock" "latestFinding" "I" ∈ Ts) {v : Int32} (hd : decode cc pc = .ok (.putfield index, 3)) (kk : zG p l e R s m args below meth co D cy A nL Q cells slots a L (up2 c k 10 v) g r lv (pc + 3) st) : zG p l e R s m args below meth co D cy A nL Q cells slots a L c g r lv pc (.int v :: .ref (a k) :: st) := z_put C hk (zF_k7 hkd) rfl tyX7 tyX7_ok nmX7 10 (by decide) hin hlink (Or.inl rfl) rfl rfl (Nat.le_of_ble_eq_true rfl) (by rw [zF_k7 hkd]; simp [up2, zr, va_rf]) (fun i hi => zF_c cy a g r (up2_row c 10 v hi)) hd kk
theorem zF_k8 {k : Nat} (h : kd k = 8) : zF cy a c g r k = .inr (8, [zr a r k 0, .int (c k 1), zr a r k 2, zr a r k 3, zr a r k 4, zr a r k 5, zr a r k 6, zr a r k 7, .int (c k 8), .int (c k 9), zr a r k 10, .int (c k 11), .int (c k 12), .int (c k 13), zr a r k 14, .int (c k 15), .int (c k 16), .int (c k 17), zr a r k 18, .int (c k 19), .int (c k 20), zr a r k 21, zr a r k 22, zr a r k 23, zr a r k 24, zr a r k 25, zr a r k 26, .int (c k 27)]) := by simp [zF, h]
theorem zg_X8_told (C : zC p s m args meth co D cy A cc nL ret Ts own) {k index : Nat} (hk : k ∈ L) (hkd : kd k = 8) (hin : ∀ w ∈ wsX80, w ∈ Ts) (hlink : Cond.fieldLink own index "LetteredRockModel" "told" "[I" ∈ Ts) {k' : Nat} (hv : r k 0 = some k') (hd : decode cc pc = .ok (.getfield index, 3)) (kk : zG p l e R s m args below meth co D cy A nL Q cells slots a L c g r lv (pc + 3) (Value.ref (a k') :: st)) : zG p l e R s m args below meth co D cy A nL Q cells slots a L c g r lv pc (.ref (a k) :: st) := z_get C hk (zF_k8 hkd) rfl 0 (by decide) hin hlink (by first | (rw [← hv]; rfl) | simp [zr, hv, va_rf]) hd kk
theorem zp_X8_told (C : zC p s m args meth co D cy A cc nL ret Ts own) {k index : Nat} (hk : k ∈ L) (hkd : kd k = 8) (hin : ∀ w ∈ wsX80, w ∈ Ts) (hlink : Cond.fieldLink own index "LetteredRockModel" "told" "[I" ∈ Ts) (hin2 : meth.name = "<init>") (hdecl : (TX8 0).1 = own) {k' : Nat} (hd : decode cc pc = .ok (.putfield index, 3)) (kk : zG p l e R s m args below meth co D cy A nL Q cells slots a L c g (up2 r k 0 (some k')) lv (pc + 3) st) : zG p l e R s m args below meth co D cy A nL Q cells slots a L c g r lv pc (Value.ref (a k') :: .ref (a k) :: st) := z_put C hk (zF_k8 hkd) rfl tyX8 tyX8_ok nmX8 0 (by decide) hin hlink (Or.inr ⟨rfl, hin2, hdecl⟩) rfl rfl (Nat.le_of_ble_eq_true rfl) (by rw [zF_k8 hkd]; simp [up2, zr, va_rf]) (fun i hi => zF_r cy a c g (up2_row r 0 (some k') hi)) hd kk
theorem zg_X8_letters (C : zC p s m args meth co D cy A cc nL ret Ts own) {k index : Nat} (hk : k ∈ L) (hkd : kd k = 8) (hin : ∀ w ∈ wsX80, w ∈ Ts) (hlink : Cond.fieldLink own index "LetteredRockModel" "letters" "I" ∈ Ts) {v : Int32} (hv : c k 1 = v) (hd : decode cc pc = .ok (.getfield index, 3)) (kk : zG p l e R s m args below meth co D cy A nL Q cells slots a L c g r lv (pc + 3) (.int v :: st)) : zG p l e R s m args below meth co D cy A nL Q cells slots a L c g r lv pc (.ref (a k) :: st) := z_get C hk (zF_k8 hkd) rfl 1 (by decide) hin hlink (by first | (rw [← hv]; rfl) | simp [zr, hv, va_rf]) hd kk
theorem zp_X8_letters (C : zC p s m args meth co D cy A cc nL ret Ts own) {k index : Nat} (hk : k ∈ L) (hkd : kd k = 8) (hin : ∀ w ∈ wsX80, w ∈ Ts) (hlink : Cond.fieldLink own index "LetteredRockModel" "letters" "I" ∈ Ts) {v : Int32} (hd : decode cc pc = .ok (.putfield index, 3)) (kk : zG p l e R s m args below meth co D cy A nL Q cells slots a L (up2 c k 1 v) g r lv (pc + 3) st) : zG p l e R s m args below meth co D cy A nL Q cells slots a L c g r lv pc (.int v :: .ref (a k) :: st) := z_put C hk (zF_k8 hkd) rfl tyX8 tyX8_ok nmX8 1 (by decide) hin hlink (Or.inl rfl) rfl rfl (Nat.le_of_ble_eq_true rfl) (by rw [zF_k8 hkd]; simp [up2, zr, va_rf]) (fun i hi => zF_c cy a g r (up2_row c 1 v hi)) hd kk
theorem zg_X8_width (C : zC p s m args meth co D cy A cc nL ret Ts own) {k index : Nat} (hk : k ∈ L) (hkd : kd k = 8) (hin : ∀ w ∈ wsX80, w ∈ Ts) (hlink : Cond.fieldLink own index "LetteredRockModel" "width" "[I" ∈ Ts) {k' : Nat} (hv : r k 2 = some k') (hd : decode cc pc = .ok (.getfield index, 3)) (kk : zG p l e R s m args below meth co D cy A nL Q cells slots a L c g r lv (pc + 3) (Value.ref (a k') :: st)) : zG p l e R s m args below meth co D cy A nL Q cells slots a L c g r lv pc (.ref (a k) :: st) := z_get C hk (zF_k8 hkd) rfl 2 (by decide) hin hlink (by first | (rw [← hv]; rfl) | simp [zr, hv, va_rf]) hd kk
theorem zp_X8_width (C : zC p s m args meth co D cy A cc nL ret Ts own) {k index : Nat} (hk : k ∈ L) (hkd : kd k = 8) (hin : ∀ w ∈ wsX80, w ∈ Ts) (hlink : Cond.fieldLink own index "LetteredRockModel" "width" "[I" ∈ Ts) (hin2 : meth.name = "<init>") (hdecl : (TX8 2).1 = own) {k' : Nat} (hd : decode cc pc = .ok (.putfield index, 3)) (kk : zG p l e R s m args below meth co D cy A nL Q cells slots a L c g (up2 r k 2 (some k')) lv (pc + 3) st) : zG p l e R s m args below meth co D cy A nL Q cells slots a L c g r lv pc (Value.ref (a k') :: .ref (a k) :: st) := z_put C hk (zF_k8 hkd) rfl tyX8 tyX8_ok nmX8 2 (by decide) hin hlink (Or.inr ⟨rfl, hin2, hdecl⟩) rfl rfl (Nat.le_of_ble_eq_true rfl) (by rw [zF_k8 hkd]; simp [up2, zr, va_rf]) (fun i hi => zF_r cy a c g (up2_row r 2 (some k') hi)) hd kk
theorem zg_X8_minutes (C : zC p s m args meth co D cy A cc nL ret Ts own) {k index : Nat} (hk : k ∈ L) (hkd : kd k = 8) (hin : ∀ w ∈ wsX80, w ∈ Ts) (hlink : Cond.fieldLink own index "LetteredRockModel" "minutes" "[I" ∈ Ts) {k' : Nat} (hv : r k 3 = some k') (hd : decode cc pc = .ok (.getfield index, 3)) (kk : zG p l e R s m args below meth co D cy A nL Q cells slots a L c g r lv (pc + 3) (Value.ref (a k') :: st)) : zG p l e R s m args below meth co D cy A nL Q cells slots a L c g r lv pc (.ref (a k) :: st) := z_get C hk (zF_k8 hkd) rfl 3 (by decide) hin hlink (by first | (rw [← hv]; rfl) | simp [zr, hv, va_rf]) hd kk
theorem zp_X8_minutes (C : zC p s m args meth co D cy A cc nL ret Ts own) {k index : Nat} (hk : k ∈ L) (hkd : kd k = 8) (hin : ∀ w ∈ wsX80, w ∈ Ts) (hlink : Cond.fieldLink own index "LetteredRockModel" "minutes" "[I" ∈ Ts) (hin2 : meth.name = "<init>") (hdecl : (TX8 3).1 = own) {k' : Nat} (hd : decode cc pc = .ok (.putfield index, 3)) (kk : zG p l e R s m args below meth co D cy A nL Q cells slots a L c g (up2 r k 3 (some k')) lv (pc + 3) st) : zG p l e R s m args below meth co D cy A nL Q cells slots a L c g r lv pc (Value.ref (a k') :: .ref (a k) :: st) := z_put C hk (zF_k8 hkd) rfl tyX8 tyX8_ok nmX8 3 (by decide) hin hlink (Or.inr ⟨rfl, hin2, hdecl⟩) rfl rfl (Nat.le_of_ble_eq_true rfl) (by rw [zF_k8 hkd]; simp [up2, zr, va_rf]) (fun i hi => zF_r cy a c g (up2_row r 3 (some k') hi)) hd kk
theorem zg_X8_soft (C : zC p s m args meth co D cy A cc nL ret Ts own) {k index : Nat} (hk : k ∈ L) (hkd : kd k = 8) (hin : ∀ w ∈ wsX80, w ∈ Ts) (hlink : Cond.fieldLink own index "LetteredRockModel" "soft" "[I" ∈ Ts) {k' : Nat} (hv : r k 4 = some k') (hd : decode cc pc = .ok (.getfield index, 3)) (kk : zG p l e R s m args below meth co D cy A nL Q cells slots a L c g r lv (pc + 3) (Value.ref (a k') :: st)) : zG p l e R s m args below meth co D cy A nL Q cells slots a L c g r lv pc (.ref (a k) :: st) := z_get C hk (zF_k8 hkd) rfl 4 (by decide) hin hlink (by first | (rw [← hv]; rfl) | simp [zr, hv, va_rf]) hd kk
theorem zp_X8_soft (C : zC p s m args meth co D cy A cc nL ret Ts own) {k index : Nat} (hk : k ∈ L) (hkd : kd k = 8) (hin : ∀ w ∈ wsX80, w ∈ Ts) (hlink : Cond.fieldLink own index "LetteredRockModel" "soft" "[I" ∈ Ts) (hin2 : meth.name = "<init>") (hdecl : (TX8 4).1 = own) {k' : Nat} (hd : decode cc pc = .ok (.putfield index, 3)) (kk : zG p l e R s m args below meth co D cy A nL Q cells slots a L c g (up2 r k 4 (some k')) lv (pc + 3) st) : zG p l e R s m args below meth co D cy A nL Q cells slots a L c g r lv pc (Value.ref (a k') :: .ref (a k) :: st) := z_put C hk (zF_k8 hkd) rfl tyX8 tyX8_ok nmX8 4 (by decide) hin hlink (Or.inr ⟨rfl, hin2, hdecl⟩) rfl rfl (Nat.le_of_ble_eq_true rfl) (by rw [zF_k8 hkd]; simp [up2, zr, va_rf]) (fun i hi => zF_r cy a c g (up2_row r 4 (some k') hi)) hd kk
theorem zg_X8_strips (C : zC p s m args meth co D cy A cc nL ret Ts own) {k index : Nat} (hk : k ∈ L) (hkd : kd k = 8) (hin : ∀ w ∈ wsX80, w ∈ Ts) (hlink : Cond.fieldLink own index "LetteredRockModel" "strips" "[I" ∈ Ts) {k' : Nat} (hv : r k 5 = some k') (hd : decode cc pc = .ok (.getfield index, 3)) (kk : zG p l e R s m args below meth co D cy A nL Q cells slots a L c g r lv (pc + 3) (Value.ref (a k') :: st)) : zG p l e R s m args below meth co D cy A nL Q cells slots a L c g r lv pc (.ref (a k) :: st) := z_get C hk (zF_k8 hkd) rfl 5 (by decide) hin hlink (by first | (rw [← hv]; rfl) | simp [zr, hv, va_rf]) hd kk
theorem zp_X8_strips (C : zC p s m args meth co D cy A cc nL ret Ts own) {k index : Nat} (hk : k ∈ L) (hkd : kd k = 8) (hin : ∀ w ∈ wsX80, w ∈ Ts) (hlink : Cond.fieldLink own index "LetteredRockModel" "strips" "[I" ∈ Ts) (hin2 : meth.name = "<init>") (hdecl : (TX8 5).1 = own) {k' : Nat} (hd : decode cc pc = .ok (.putfield index, 3)) (kk : zG p l e R s m args below meth co D cy A nL Q cells slots a L c g (up2 r k 5 (some k')) lv (pc + 3) st) : zG p l e R s m args below meth co D cy A nL Q cells slots a L c g r lv pc (Value.ref (a k') :: .ref (a k) :: st) := z_put C hk (zF_k8 hkd) rfl tyX8 tyX8_ok nmX8 5 (by decide) hin hlink (Or.inr ⟨rfl, hin2, hdecl⟩) rfl rfl (Nat.le_of_ble_eq_true rfl) (by rw [zF_k8 hkd]; simp [up2, zr, va_rf]) (fun i hi => zF_r cy a c g (up2_row r 5 (some k') hi)) hd kk
theorem zg_X8_spelled (C : zC p s m args meth co D cy A cc nL ret Ts own) {k index : Nat} (hk : k ∈ L) (hkd : kd k = 8) (hin : ∀ w ∈ wsX80, w ∈ Ts) (hlink : Cond.fieldLink own index "LetteredRockModel" "spelled" "[I" ∈ Ts) {k' : Nat} (hv : r k 6 = some k') (hd : decode cc pc = .ok (.getfield index, 3)) (kk : zG p l e R s m args below meth co D cy A nL Q cells slots a L c g r lv (pc + 3) (Value.ref (a k') :: st)) : zG p l e R s m args below meth co D cy A nL Q cells slots a L c g r lv pc (.ref (a k) :: st) := z_get C hk (zF_k8 hkd) rfl 6 (by decide) hin hlink (by first | (rw [← hv]; rfl) | simp [zr, hv, va_rf]) hd kk
theorem zp_X8_spelled (C : zC p s m args meth co D cy A cc nL ret Ts own) {k index : Nat} (hk : k ∈ L) (hkd : kd k = 8) (hin : ∀ w ∈ wsX80, w ∈ Ts) (hlink : Cond.fieldLink own index "LetteredRockModel" "spelled" "[I" ∈ Ts) (hin2 : meth.name = "<init>") (hdecl : (TX8 6).1 = own) {k' : Nat} (hd : decode cc pc = .ok (.putfield index, 3)) (kk : zG p l e R s m args below meth co D cy A nL Q cells slots a L c g (up2 r k 6 (some k')) lv (pc + 3) st) : zG p l e R s m args below meth co D cy A nL Q cells slots a L c g r lv pc (Value.ref (a k') :: .ref (a k) :: st) := z_put C hk (zF_k8 hkd) rfl tyX8 tyX8_ok nmX8 6 (by decide) hin hlink (Or.inr ⟨rfl, hin2, hdecl⟩) rfl rfl (Nat.le_of_ble_eq_true rfl) (by rw [zF_k8 hkd]; simp [up2, zr, va_rf]) (fun i hi => zF_r cy a c g (up2_row r 6 (some k') hi)) hd kk
theorem zg_X8_words (C : zC p s m args meth co D cy A cc nL ret Ts own) {k index : Nat} (hk : k ∈ L) (hkd : kd k = 8) (hin : ∀ w ∈ wsX80, w ∈ Ts) (hlink : Cond.fieldLink own index "LetteredRockModel" "words" "[I" ∈ Ts) {k' : Nat} (hv : r k 7 = some k') (hd : decode cc pc = .ok (.getfield index, 3)) (kk : zG p l e R s m args below meth co D cy A nL Q cells slots a L c g r lv (pc + 3) (Value.ref (a k') :: st)) : zG p l e R s m args below meth co D cy A nL Q cells slots a L c g r lv pc (.ref (a k) :: st) := z_get C hk (zF_k8 hkd) rfl 7 (by decide) hin hlink (by first | (rw [← hv]; rfl) | simp [zr, hv, va_rf]) hd kk
theorem zp_X8_words (C : zC p s m args meth co D cy A cc nL ret Ts own) {k index : Nat} (hk : k ∈ L) (hkd : kd k = 8) (hin : ∀ w ∈ wsX80, w ∈ Ts) (hlink : Cond.fieldLink own index "LetteredRockModel" "words" "[I" ∈ Ts) (hin2 : meth.name = "<init>") (hdecl : (TX8 7).1 = own) {k' : Nat} (hd : decode cc pc = .ok (.putfield index, 3)) (kk : zG p l e R s m args below meth co D cy A nL Q cells slots a L c g (up2 r k 7 (some k')) lv (pc + 3) st) : zG p l e R s m args below meth co D cy A nL Q cells slots a L c g r lv pc (Value.ref (a k') :: .ref (a k) :: st) := z_put C hk (zF_k8 hkd) rfl tyX8 tyX8_ok nmX8 7 (by decide) hin hlink (Or.inr ⟨rfl, hin2, hdecl⟩) rfl rfl (Nat.le_of_ble_eq_true rfl) (by rw [zF_k8 hkd]; simp [up2, zr, va_rf]) (fun i hi => zF_r cy a c g (up2_row r 7 (some k') hi)) hd kk
theorem zg_X8_slots (C : zC p s m args meth co D cy A cc nL ret Ts own) {k index : Nat} (hk : k ∈ L) (hkd : kd k = 8) (hin : ∀ w ∈ wsX80, w ∈ Ts) (hlink : Cond.fieldLink own index "LetteredRockModel" "slots" "I" ∈ Ts) {v : Int32} (hv : c k 8 = v) (hd : decode cc pc = .ok (.getfield index, 3)) (kk : zG p l e R s m args below meth co D cy A nL Q cells slots a L c g r lv (pc + 3) (.int v :: st)) : zG p l e R s m args below meth co D cy A nL Q cells slots a L c g r lv pc (.ref (a k) :: st) := z_get C hk (zF_k8 hkd) rfl 8 (by decide) hin hlink (by first | (rw [← hv]; rfl) | simp [zr, hv, va_rf]) hd kk
theorem zp_X8_slots (C : zC p s m args meth co D cy A cc nL ret Ts own) {k index : Nat} (hk : k ∈ L) (hkd : kd k = 8) (hin : ∀ w ∈ wsX80, w ∈ Ts) (hlink : Cond.fieldLink own index "LetteredRockModel" "slots" "I" ∈ Ts) {v : Int32} (hd : decode cc pc = .ok (.putfield index, 3)) (kk : zG p l e R s m args below meth co D cy A nL Q cells slots a L (up2 c k 8 v) g r lv (pc + 3) st) : zG p l e R s m args below meth co D cy A nL Q cells slots a L c g r lv pc (.int v :: .ref (a k) :: st) := z_put C hk (zF_k8 hkd) rfl tyX8 tyX8_ok nmX8 8 (by decide) hin hlink (Or.inl rfl) rfl rfl (Nat.le_of_ble_eq_true rfl) (by rw [zF_k8 hkd]; simp [up2, zr, va_rf]) (fun i hi => zF_c cy a g r (up2_row c 8 v hi)) hd kk
theorem zg_X8_gap (C : zC p s m args meth co D cy A cc nL ret Ts own) {k index : Nat} (hk : k ∈ L) (hkd : kd k = 8) (hin : ∀ w ∈ wsX80, w ∈ Ts) (hlink : Cond.fieldLink own index "LetteredRockModel" "gap" "I" ∈ Ts) {v : Int32} (hv : c k 9 = v) (hd : decode cc pc = .ok (.getfield index, 3)) (kk : zG p l e R s m args below meth co D cy A nL Q cells slots a L c g r lv (pc + 3) (.int v :: st)) : zG p l e R s m args below meth co D cy A nL Q cells slots a L c g r lv pc (.ref (a k) :: st) := z_get C hk (zF_k8 hkd) rfl 9 (by decide) hin hlink (by first | (rw [← hv]; rfl) | simp [zr, hv, va_rf]) hd kk
theorem zp_X8_gap (C : zC p s m args meth co D cy A cc nL ret Ts own) {k index : Nat} (hk : k ∈ L) (hkd : kd k = 8) (hin : ∀ w ∈ wsX80, w ∈ Ts) (hlink : Cond.fieldLink own index "LetteredRockModel" "gap" "I" ∈ Ts) {v : Int32} (hd : decode cc pc = .ok (.putfield index, 3)) (kk : zG p l e R s m args below meth co D cy A nL Q cells slots a L (up2 c k 9 v) g r lv (pc + 3) st) : zG p l e R s m args below meth co D cy A nL Q cells slots a L c g r lv pc (.int v :: .ref (a k) :: st) := z_put C hk (zF_k8 hkd) rfl tyX8 tyX8_ok nmX8 9 (by decide) hin hlink (Or.inl rfl) rfl rfl (Nat.le_of_ble_eq_true rfl) (by rw [zF_k8 hkd]; simp [up2, zr, va_rf]) (fun i hi => zF_c cy a g r (up2_row c 9 v hi)) hd kk
theorem zg_X8_laid (C : zC p s m args meth co D cy A cc nL ret Ts own) {k index : Nat} (hk : k ∈ L) (hkd : kd k = 8) (hin : ∀ w ∈ wsX80, w ∈ Ts) (hlink : Cond.fieldLink own index "LetteredRockModel" "laid" "[I" ∈ Ts) {k' : Nat} (hv : r k 10 = some k') (hd : decode cc pc = .ok (.getfield index, 3)) (kk : zG p l e R s m args below meth co D cy A nL Q cells slots a L c g r lv (pc + 3) (Value.ref (a k') :: st)) : zG p l e R s m args below meth co D cy A nL Q cells slots a L c g r lv pc (.ref (a k) :: st) := z_get C hk (zF_k8 hkd) rfl 10 (by decide) hin hlink (by first | (rw [← hv]; rfl) | simp [zr, hv, va_rf]) hd kk
theorem zp_X8_laid (C : zC p s m args meth co D cy A cc nL ret Ts own) {k index : Nat} (hk : k ∈ L) (hkd : kd k = 8) (hin : ∀ w ∈ wsX80, w ∈ Ts) (hlink : Cond.fieldLink own index "LetteredRockModel" "laid" "[I" ∈ Ts) (hin2 : meth.name = "<init>") (hdecl : (TX8 10).1 = own) {k' : Nat} (hd : decode cc pc = .ok (.putfield index, 3)) (kk : zG p l e R s m args below meth co D cy A nL Q cells slots a L c g (up2 r k 10 (some k')) lv (pc + 3) st) : zG p l e R s m args below meth co D cy A nL Q cells slots a L c g r lv pc (Value.ref (a k') :: .ref (a k) :: st) := z_put C hk (zF_k8 hkd) rfl tyX8 tyX8_ok nmX8 10 (by decide) hin hlink (Or.inr ⟨rfl, hin2, hdecl⟩) rfl rfl (Nat.le_of_ble_eq_true rfl) (by rw [zF_k8 hkd]; simp [up2, zr, va_rf]) (fun i hi => zF_r cy a c g (up2_row r 10 (some k') hi)) hd kk
theorem zg_X8_found (C : zC p s m args meth co D cy A cc nL ret Ts own) {k index : Nat} (hk : k ∈ L) (hkd : kd k = 8) (hin : ∀ w ∈ wsX80, w ∈ Ts) (hlink : Cond.fieldLink own index "LetteredRockModel" "found" "I" ∈ Ts) {v : Int32} (hv : c k 11 = v) (hd : decode cc pc = .ok (.getfield index, 3)) (kk : zG p l e R s m args below meth co D cy A nL Q cells slots a L c g r lv (pc + 3) (.int v :: st)) : zG p l e R s m args below meth co D cy A nL Q cells slots a L c g r lv pc (.ref (a k) :: st) := z_get C hk (zF_k8 hkd) rfl 11 (by decide) hin hlink (by first | (rw [← hv]; rfl) | simp [zr, hv, va_rf]) hd kk
theorem zp_X8_found (C : zC p s m args meth co D cy A cc nL ret Ts own) {k index : Nat} (hk : k ∈ L) (hkd : kd k = 8) (hin : ∀ w ∈ wsX80, w ∈ Ts) (hlink : Cond.fieldLink own index "LetteredRockModel" "found" "I" ∈ Ts) {v : Int32} (hd : decode cc pc = .ok (.putfield index, 3)) (kk : zG p l e R s m args below meth co D cy A nL Q cells slots a L (up2 c k 11 v) g r lv (pc + 3) st) : zG p l e R s m args below meth co D cy A nL Q cells slots a L c g r lv pc (.int v :: .ref (a k) :: st) := z_put C hk (zF_k8 hkd) rfl tyX8 tyX8_ok nmX8 11 (by decide) hin hlink (Or.inl rfl) rfl rfl (Nat.le_of_ble_eq_true rfl) (by rw [zF_k8 hkd]; simp [up2, zr, va_rf]) (fun i hi => zF_c cy a g r (up2_row c 11 v hi)) hd kk
theorem zg_X8_foundMany (C : zC p s m args meth co D cy A cc nL ret Ts own) {k index : Nat} (hk : k ∈ L) (hkd : kd k = 8) (hin : ∀ w ∈ wsX80, w ∈ Ts) (hlink : Cond.fieldLink own index "LetteredRockModel" "foundMany" "I" ∈ Ts) {v : Int32} (hv : c k 12 = v) (hd : decode cc pc = .ok (.getfield index, 3)) (kk : zG p l e R s m args below meth co D cy A nL Q cells slots a L c g r lv (pc + 3) (.int v :: st)) : zG p l e R s m args below meth co D cy A nL Q cells slots a L c g r lv pc (.ref (a k) :: st) := z_get C hk (zF_k8 hkd) rfl 12 (by decide) hin hlink (by first | (rw [← hv]; rfl) | simp [zr, hv, va_rf]) hd kk
theorem zp_X8_foundMany (C : zC p s m args meth co D cy A cc nL ret Ts own) {k index : Nat} (hk : k ∈ L) (hkd : kd k = 8) (hin : ∀ w ∈ wsX80, w ∈ Ts) (hlink : Cond.fieldLink own index "LetteredRockModel" "foundMany" "I" ∈ Ts) {v : Int32} (hd : decode cc pc = .ok (.putfield index, 3)) (kk : zG p l e R s m args below meth co D cy A nL Q cells slots a L (up2 c k 12 v) g r lv (pc + 3) st) : zG p l e R s m args below meth co D cy A nL Q cells slots a L c g r lv pc (.int v :: .ref (a k) :: st) := z_put C hk (zF_k8 hkd) rfl tyX8 tyX8_ok nmX8 12 (by decide) hin hlink (Or.inl rfl) rfl rfl (Nat.le_of_ble_eq_true rfl) (by rw [zF_k8 hkd]; simp [up2, zr, va_rf]) (fun i hi => zF_c cy a g r (up2_row c 12 v hi)) hd kk
theorem zg_X8_foundWords (C : zC p s m args meth co D cy A cc nL ret Ts own) {k index : Nat} (hk : k ∈ L) (hkd : kd k = 8) (hin : ∀ w ∈ wsX80, w ∈ Ts) (hlink : Cond.fieldLink own index "LetteredRockModel" "foundWords" "I" ∈ Ts) {v : Int32} (hv : c k 13 = v) (hd : decode cc pc = .ok (.getfield index, 3)) (kk : zG p l e R s m args below meth co D cy A nL Q cells slots a L c g r lv (pc + 3) (.int v :: st)) : zG p l e R s m args below meth co D cy A nL Q cells slots a L c g r lv pc (.ref (a k) :: st) := z_get C hk (zF_k8 hkd) rfl 13 (by decide) hin hlink (by first | (rw [← hv]; rfl) | simp [zr, hv, va_rf]) hd kk
theorem zp_X8_foundWords (C : zC p s m args meth co D cy A cc nL ret Ts own) {k index : Nat} (hk : k ∈ L) (hkd : kd k = 8) (hin : ∀ w ∈ wsX80, w ∈ Ts) (hlink : Cond.fieldLink own index "LetteredRockModel" "foundWords" "I" ∈ Ts) {v : Int32} (hd : decode cc pc = .ok (.putfield index, 3)) (kk : zG p l e R s m args below meth co D cy A nL Q cells slots a L (up2 c k 13 v) g r lv (pc + 3) st) : zG p l e R s m args below meth co D cy A nL Q cells slots a L c g r lv pc (.int v :: .ref (a k) :: st) := z_put C hk (zF_k8 hkd) rfl tyX8 tyX8_ok nmX8 13 (by decide) hin hlink (Or.inl rfl) rfl rfl (Nat.le_of_ble_eq_true rfl) (by rw [zF_k8 hkd]; simp [up2, zr, va_rf]) (fun i hi => zF_c cy a g r (up2_row c 13 v hi)) hd kk
theorem zg_X8_order (C : zC p s m args meth co D cy A cc nL ret Ts own) {k index : Nat} (hk : k ∈ L) (hkd : kd k = 8) (hin : ∀ w ∈ wsX80, w ∈ Ts) (hlink : Cond.fieldLink own index "LetteredRockModel" "order" "[I" ∈ Ts) {k' : Nat} (hv : r k 14 = some k') (hd : decode cc pc = .ok (.getfield index, 3)) (kk : zG p l e R s m args below meth co D cy A nL Q cells slots a L c g r lv (pc + 3) (Value.ref (a k') :: st)) : zG p l e R s m args below meth co D cy A nL Q cells slots a L c g r lv pc (.ref (a k) :: st) := z_get C hk (zF_k8 hkd) rfl 14 (by decide) hin hlink (by first | (rw [← hv]; rfl) | simp [zr, hv, va_rf]) hd kk
theorem zp_X8_order (C : zC p s m args meth co D cy A cc nL ret Ts own) {k index : Nat} (hk : k ∈ L) (hkd : kd k = 8) (hin : ∀ w ∈ wsX80, w ∈ Ts) (hlink : Cond.fieldLink own index "LetteredRockModel" "order" "[I" ∈ Ts) (hin2 : meth.name = "<init>") (hdecl : (TX8 14).1 = own) {k' : Nat} (hd : decode cc pc = .ok (.putfield index, 3)) (kk : zG p l e R s m args below meth co D cy A nL Q cells slots a L c g (up2 r k 14 (some k')) lv (pc + 3) st) : zG p l e R s m args below meth co D cy A nL Q cells slots a L c g r lv pc (Value.ref (a k') :: .ref (a k) :: st) := z_put C hk (zF_k8 hkd) rfl tyX8 tyX8_ok nmX8 14 (by decide) hin hlink (Or.inr ⟨rfl, hin2, hdecl⟩) rfl rfl (Nat.le_of_ble_eq_true rfl) (by rw [zF_k8 hkd]; simp [up2, zr, va_rf]) (fun i hi => zF_r cy a c g (up2_row r 14 (some k') hi)) hd kk
theorem zg_X8_worst (C : zC p s m args meth co D cy A cc nL ret Ts own) {k index : Nat} (hk : k ∈ L) (hkd : kd k = 8) (hin : ∀ w ∈ wsX80, w ∈ Ts) (hlink : Cond.fieldLink own index "LetteredRockModel" "worst" "I" ∈ Ts) {v : Int32} (hv : c k 15 = v) (hd : decode cc pc = .ok (.getfield index, 3)) (kk : zG p l e R s m args below meth co D cy A nL Q cells slots a L c g r lv (pc + 3) (.int v :: st)) : zG p l e R s m args below meth co D cy A nL Q cells slots a L c g r lv pc (.ref (a k) :: st) := z_get C hk (zF_k8 hkd) rfl 15 (by decide) hin hlink (by first | (rw [← hv]; rfl) | simp [zr, hv, va_rf]) hd kk
theorem zp_X8_worst (C : zC p s m args meth co D cy A cc nL ret Ts own) {k index : Nat} (hk : k ∈ L) (hkd : kd k = 8) (hin : ∀ w ∈ wsX80, w ∈ Ts) (hlink : Cond.fieldLink own index "LetteredRockModel" "worst" "I" ∈ Ts) {v : Int32} (hd : decode cc pc = .ok (.putfield index, 3)) (kk : zG p l e R s m args below meth co D cy A nL Q cells slots a L (up2 c k 15 v) g r lv (pc + 3) st) : zG p l e R s m args below meth co D cy A nL Q cells slots a L c g r lv pc (.int v :: .ref (a k) :: st) := z_put C hk (zF_k8 hkd) rfl tyX8 tyX8_ok nmX8 15 (by decide) hin hlink (Or.inl rfl) rfl rfl (Nat.le_of_ble_eq_true rfl) (by rw [zF_k8 hkd]; simp [up2, zr, va_rf]) (fun i hi => zF_c cy a g r (up2_row c 15 v hi)) hd kk
theorem zg_X8_lateMany (C : zC p s m args meth co D cy A cc nL ret Ts own) {k index : Nat} (hk : k ∈ L) (hkd : kd k = 8) (hin : ∀ w ∈ wsX80, w ∈ Ts) (hlink : Cond.fieldLink own index "LetteredRockModel" "lateMany" "I" ∈ Ts) {v : Int32} (hv : c k 16 = v) (hd : decode cc pc = .ok (.getfield index, 3)) (kk : zG p l e R s m args below meth co D cy A nL Q cells slots a L c g r lv (pc + 3) (.int v :: st)) : zG p l e R s m args below meth co D cy A nL Q cells slots a L c g r lv pc (.ref (a k) :: st) := z_get C hk (zF_k8 hkd) rfl 16 (by decide) hin hlink (by first | (rw [← hv]; rfl) | simp [zr, hv, va_rf]) hd kk
theorem zp_X8_lateMany (C : zC p s m args meth co D cy A cc nL ret Ts own) {k index : Nat} (hk : k ∈ L) (hkd : kd k = 8) (hin : ∀ w ∈ wsX80, w ∈ Ts) (hlink : Cond.fieldLink own index "LetteredRockModel" "lateMany" "I" ∈ Ts) {v : Int32} (hd : decode cc pc = .ok (.putfield index, 3)) (kk : zG p l e R s m args below meth co D cy A nL Q cells slots a L (up2 c k 16 v) g r lv (pc + 3) st) : zG p l e R s m args below meth co D cy A nL Q cells slots a L c g r lv pc (.int v :: .ref (a k) :: st) := z_put C hk (zF_k8 hkd) rfl tyX8 tyX8_ok nmX8 16 (by decide) hin hlink (Or.inl rfl) rfl rfl (Nat.le_of_ble_eq_true rfl) (by rw [zF_k8 hkd]; simp [up2, zr, va_rf]) (fun i hi => zF_c cy a g r (up2_row c 16 v hi)) hd kk
theorem zg_X8_lumps (C : zC p s m args meth co D cy A cc nL ret Ts own) {k index : Nat} (hk : k ∈ L) (hkd : kd k = 8) (hin : ∀ w ∈ wsX80, w ∈ Ts) (hlink : Cond.fieldLink own index "LetteredRockModel" "lumps" "I" ∈ Ts) {v : Int32} (hv : c k 17 = v) (hd : decode cc pc = .ok (.getfield index, 3)) (kk : zG p l e R s m args below meth co D cy A nL Q cells slots a L c g r lv (pc + 3) (.int v :: st)) : zG p l e R s m args below meth co D cy A nL Q cells slots a L c g r lv pc (.ref (a k) :: st) := z_get C hk (zF_k8 hkd) rfl 17 (by decide) hin hlink (by first | (rw [← hv]; rfl) | simp [zr, hv, va_rf]) hd kk
theorem zp_X8_lumps (C : zC p s m args meth co D cy A cc nL ret Ts own) {k index : Nat} (hk : k ∈ L) (hkd : kd k = 8) (hin : ∀ w ∈ wsX80, w ∈ Ts) (hlink : Cond.fieldLink own index "LetteredRockModel" "lumps" "I" ∈ Ts) {v : Int32} (hd : decode cc pc = .ok (.putfield index, 3)) (kk : zG p l e R s m args below meth co D cy A nL Q cells slots a L (up2 c k 17 v) g r lv (pc + 3) st) : zG p l e R s m args below meth co D cy A nL Q cells slots a L c g r lv pc (.int v :: .ref (a k) :: st) := z_put C hk (zF_k8 hkd) rfl tyX8 tyX8_ok nmX8 17 (by decide) hin hlink (Or.inl rfl) rfl rfl (Nat.le_of_ble_eq_true rfl) (by rw [zF_k8 hkd]; simp [up2, zr, va_rf]) (fun i hi => zF_c cy a g r (up2_row c 17 v hi)) hd kk
theorem zg_X8_made (C : zC p s m args meth co D cy A cc nL ret Ts own) {k index : Nat} (hk : k ∈ L) (hkd : kd k = 8) (hin : ∀ w ∈ wsX80, w ∈ Ts) (hlink : Cond.fieldLink own index "LetteredRockModel" "made" "[I" ∈ Ts) {k' : Nat} (hv : r k 18 = some k') (hd : decode cc pc = .ok (.getfield index, 3)) (kk : zG p l e R s m args below meth co D cy A nL Q cells slots a L c g r lv (pc + 3) (Value.ref (a k') :: st)) : zG p l e R s m args below meth co D cy A nL Q cells slots a L c g r lv pc (.ref (a k) :: st) := z_get C hk (zF_k8 hkd) rfl 18 (by decide) hin hlink (by first | (rw [← hv]; rfl) | simp [zr, hv, va_rf]) hd kk
theorem zp_X8_made (C : zC p s m args meth co D cy A cc nL ret Ts own) {k index : Nat} (hk : k ∈ L) (hkd : kd k = 8) (hin : ∀ w ∈ wsX80, w ∈ Ts) (hlink : Cond.fieldLink own index "LetteredRockModel" "made" "[I" ∈ Ts) (hin2 : meth.name = "<init>") (hdecl : (TX8 18).1 = own) {k' : Nat} (hd : decode cc pc = .ok (.putfield index, 3)) (kk : zG p l e R s m args below meth co D cy A nL Q cells slots a L c g (up2 r k 18 (some k')) lv (pc + 3) st) : zG p l e R s m args below meth co D cy A nL Q cells slots a L c g r lv pc (Value.ref (a k') :: .ref (a k) :: st) := z_put C hk (zF_k8 hkd) rfl tyX8 tyX8_ok nmX8 18 (by decide) hin hlink (Or.inr ⟨rfl, hin2, hdecl⟩) rfl rfl (Nat.le_of_ble_eq_true rfl) (by rw [zF_k8 hkd]; simp [up2, zr, va_rf]) (fun i hi => zF_r cy a c g (up2_row r 18 (some k') hi)) hd kk
theorem zg_X8_sticks (C : zC p s m args meth co D cy A cc nL ret Ts own) {k index : Nat} (hk : k ∈ L) (hkd : kd k = 8) (hin : ∀ w ∈ wsX80, w ∈ Ts) (hlink : Cond.fieldLink own index "LetteredRockModel" "sticks" "I" ∈ Ts) {v : Int32} (hv : c k 19 = v) (hd : decode cc pc = .ok (.getfield index, 3)) (kk : zG p l e R s m args below meth co D cy A nL Q cells slots a L c g r lv (pc + 3) (.int v :: st)) : zG p l e R s m args below meth co D cy A nL Q cells slots a L c g r lv pc (.ref (a k) :: st) := z_get C hk (zF_k8 hkd) rfl 19 (by decide) hin hlink (by first | (rw [← hv]; rfl) | simp [zr, hv, va_rf]) hd kk
theorem zp_X8_sticks (C : zC p s m args meth co D cy A cc nL ret Ts own) {k index : Nat} (hk : k ∈ L) (hkd : kd k = 8) (hin : ∀ w ∈ wsX80, w ∈ Ts) (hlink : Cond.fieldLink own index "LetteredRockModel" "sticks" "I" ∈ Ts) {v : Int32} (hd : decode cc pc = .ok (.putfield index, 3)) (kk : zG p l e R s m args below meth co D cy A nL Q cells slots a L (up2 c k 19 v) g r lv (pc + 3) st) : zG p l e R s m args below meth co D cy A nL Q cells slots a L c g r lv pc (.int v :: .ref (a k) :: st) := z_put C hk (zF_k8 hkd) rfl tyX8 tyX8_ok nmX8 19 (by decide) hin hlink (Or.inl rfl) rfl rfl (Nat.le_of_ble_eq_true rfl) (by rw [zF_k8 hkd]; simp [up2, zr, va_rf]) (fun i hi => zF_c cy a g r (up2_row c 19 v hi)) hd kk
theorem zg_X8_scrap (C : zC p s m args meth co D cy A cc nL ret Ts own) {k index : Nat} (hk : k ∈ L) (hkd : kd k = 8) (hin : ∀ w ∈ wsX80, w ∈ Ts) (hlink : Cond.fieldLink own index "LetteredRockModel" "scrap" "I" ∈ Ts) {v : Int32} (hv : c k 20 = v) (hd : decode cc pc = .ok (.getfield index, 3)) (kk : zG p l e R s m args below meth co D cy A nL Q cells slots a L c g r lv (pc + 3) (.int v :: st)) : zG p l e R s m args below meth co D cy A nL Q cells slots a L c g r lv pc (.ref (a k) :: st) := z_get C hk (zF_k8 hkd) rfl 20 (by decide) hin hlink (by first | (rw [← hv]; rfl) | simp [zr, hv, va_rf]) hd kk
theorem zp_X8_scrap (C : zC p s m args meth co D cy A cc nL ret Ts own) {k index : Nat} (hk : k ∈ L) (hkd : kd k = 8) (hin : ∀ w ∈ wsX80, w ∈ Ts) (hlink : Cond.fieldLink own index "LetteredRockModel" "scrap" "I" ∈ Ts) {v : Int32} (hd : decode cc pc = .ok (.putfield index, 3)) (kk : zG p l e R s m args below meth co D cy A nL Q cells slots a L (up2 c k 20 v) g r lv (pc + 3) st) : zG p l e R s m args below meth co D cy A nL Q cells slots a L c g r lv pc (.int v :: .ref (a k) :: st) := z_put C hk (zF_k8 hkd) rfl tyX8 tyX8_ok nmX8 20 (by decide) hin hlink (Or.inl rfl) rfl rfl (Nat.le_of_ble_eq_true rfl) (by rw [zF_k8 hkd]; simp [up2, zr, va_rf]) (fun i hi => zF_c cy a g r (up2_row c 20 v hi)) hd kk
theorem zg_X8_isDamp (C : zC p s m args meth co D cy A cc nL ret Ts own) {k index : Nat} (hk : k ∈ L) (hkd : kd k = 8) (hin : ∀ w ∈ wsX80, w ∈ Ts) (hlink : Cond.fieldLink own index "LetteredRockModel" "isDamp" "[Z" ∈ Ts) {k' : Nat} (hv : r k 21 = some k') (hd : decode cc pc = .ok (.getfield index, 3)) (kk : zG p l e R s m args below meth co D cy A nL Q cells slots a L c g r lv (pc + 3) (Value.ref (a k') :: st)) : zG p l e R s m args below meth co D cy A nL Q cells slots a L c g r lv pc (.ref (a k) :: st) := z_get C hk (zF_k8 hkd) rfl 21 (by decide) hin hlink (by first | (rw [← hv]; rfl) | simp [zr, hv, va_rf]) hd kk
theorem zp_X8_isDamp (C : zC p s m args meth co D cy A cc nL ret Ts own) {k index : Nat} (hk : k ∈ L) (hkd : kd k = 8) (hin : ∀ w ∈ wsX80, w ∈ Ts) (hlink : Cond.fieldLink own index "LetteredRockModel" "isDamp" "[Z" ∈ Ts) (hin2 : meth.name = "<init>") (hdecl : (TX8 21).1 = own) {k' : Nat} (hd : decode cc pc = .ok (.putfield index, 3)) (kk : zG p l e R s m args below meth co D cy A nL Q cells slots a L c g (up2 r k 21 (some k')) lv (pc + 3) st) : zG p l e R s m args below meth co D cy A nL Q cells slots a L c g r lv pc (Value.ref (a k') :: .ref (a k) :: st) := z_put C hk (zF_k8 hkd) rfl tyX8 tyX8_ok nmX8 21 (by decide) hin hlink (Or.inr ⟨rfl, hin2, hdecl⟩) rfl rfl (Nat.le_of_ble_eq_true rfl) (by rw [zF_k8 hkd]; simp [up2, zr, va_rf]) (fun i hi => zF_r cy a c g (up2_row r 21 (some k') hi)) hd kk
theorem zg_X8_makes (C : zC p s m args meth co D cy A cc nL ret Ts own) {k index : Nat} (hk : k ∈ L) (hkd : kd k = 8) (hin : ∀ w ∈ wsX80, w ∈ Ts) (hlink : Cond.fieldLink own index "LetteredRockModel" "makes" "[I" ∈ Ts) {k' : Nat} (hv : r k 22 = some k') (hd : decode cc pc = .ok (.getfield index, 3)) (kk : zG p l e R s m args below meth co D cy A nL Q cells slots a L c g r lv (pc + 3) (Value.ref (a k') :: st)) : zG p l e R s m args below meth co D cy A nL Q cells slots a L c g r lv pc (.ref (a k) :: st) := z_get C hk (zF_k8 hkd) rfl 22 (by decide) hin hlink (by first | (rw [← hv]; rfl) | simp [zr, hv, va_rf]) hd kk
theorem zp_X8_makes (C : zC p s m args meth co D cy A cc nL ret Ts own) {k index : Nat} (hk : k ∈ L) (hkd : kd k = 8) (hin : ∀ w ∈ wsX80, w ∈ Ts) (hlink : Cond.fieldLink own index "LetteredRockModel" "makes" "[I" ∈ Ts) (hin2 : meth.name = "<init>") (hdecl : (TX8 22).1 = own) {k' : Nat} (hd : decode cc pc = .ok (.putfield index, 3)) (kk : zG p l e R s m args below meth co D cy A nL Q cells slots a L c g (up2 r k 22 (some k')) lv (pc + 3) st) : zG p l e R s m args below meth co D cy A nL Q cells slots a L c g r lv pc (Value.ref (a k') :: .ref (a k) :: st) := z_put C hk (zF_k8 hkd) rfl tyX8 tyX8_ok nmX8 22 (by decide) hin hlink (Or.inr ⟨rfl, hin2, hdecl⟩) rfl rfl (Nat.le_of_ble_eq_true rfl) (by rw [zF_k8 hkd]; simp [up2, zr, va_rf]) (fun i hi => zF_r cy a c g (up2_row r 22 (some k') hi)) hd kk
theorem zg_X8_forms (C : zC p s m args meth co D cy A cc nL ret Ts own) {k index : Nat} (hk : k ∈ L) (hkd : kd k = 8) (hin : ∀ w ∈ wsX80, w ∈ Ts) (hlink : Cond.fieldLink own index "LetteredRockModel" "forms" "[I" ∈ Ts) {k' : Nat} (hv : r k 23 = some k') (hd : decode cc pc = .ok (.getfield index, 3)) (kk : zG p l e R s m args below meth co D cy A nL Q cells slots a L c g r lv (pc + 3) (Value.ref (a k') :: st)) : zG p l e R s m args below meth co D cy A nL Q cells slots a L c g r lv pc (.ref (a k) :: st) := z_get C hk (zF_k8 hkd) rfl 23 (by decide) hin hlink (by first | (rw [← hv]; rfl) | simp [zr, hv, va_rf]) hd kk
theorem zp_X8_forms (C : zC p s m args meth co D cy A cc nL ret Ts own) {k index : Nat} (hk : k ∈ L) (hkd : kd k = 8) (hin : ∀ w ∈ wsX80, w ∈ Ts) (hlink : Cond.fieldLink own index "LetteredRockModel" "forms" "[I" ∈ Ts) (hin2 : meth.name = "<init>") (hdecl : (TX8 23).1 = own) {k' : Nat} (hd : decode cc pc = .ok (.putfield index, 3)) (kk : zG p l e R s m args below meth co D cy A nL Q cells slots a L c g (up2 r k 23 (some k')) lv (pc + 3) st) : zG p l e R s m args below meth co D cy A nL Q cells slots a L c g r lv pc (Value.ref (a k') :: .ref (a k) :: st) := z_put C hk (zF_k8 hkd) rfl tyX8 tyX8_ok nmX8 23 (by decide) hin hlink (Or.inr ⟨rfl, hin2, hdecl⟩) rfl rfl (Nat.le_of_ble_eq_true rfl) (by rw [zF_k8 hkd]; simp [up2, zr, va_rf]) (fun i hi => zF_r cy a c g (up2_row r 23 (some k') hi)) hd kk
theorem zg_X8_sizes (C : zC p s m args meth co D cy A cc nL ret Ts own) {k index : Nat} (hk : k ∈ L) (hkd : kd k = 8) (hin : ∀ w ∈ wsX80, w ∈ Ts) (hlink : Cond.fieldLink own index "LetteredRockModel" "sizes" "[I" ∈ Ts) {k' : Nat} (hv : r k 24 = some k') (hd : decode cc pc = .ok (.getfield index, 3)) (kk : zG p l e R s m args below meth co D cy A nL Q cells slots a L c g r lv (pc + 3) (Value.ref (a k') :: st)) : zG p l e R s m args below meth co D cy A nL Q cells slots a L c g r lv pc (.ref (a k) :: st) := z_get C hk (zF_k8 hkd) rfl 24 (by decide) hin hlink (by first | (rw [← hv]; rfl) | simp [zr, hv, va_rf]) hd kk
theorem zp_X8_sizes (C : zC p s m args meth co D cy A cc nL ret Ts own) {k index : Nat} (hk : k ∈ L) (hkd : kd k = 8) (hin : ∀ w ∈ wsX80, w ∈ Ts) (hlink : Cond.fieldLink own index "LetteredRockModel" "sizes" "[I" ∈ Ts) (hin2 : meth.name = "<init>") (hdecl : (TX8 24).1 = own) {k' : Nat} (hd : decode cc pc = .ok (.putfield index, 3)) (kk : zG p l e R s m args below meth co D cy A nL Q cells slots a L c g (up2 r k 24 (some k')) lv (pc + 3) st) : zG p l e R s m args below meth co D cy A nL Q cells slots a L c g r lv pc (Value.ref (a k') :: .ref (a k) :: st) := z_put C hk (zF_k8 hkd) rfl tyX8 tyX8_ok nmX8 24 (by decide) hin hlink (Or.inr ⟨rfl, hin2, hdecl⟩) rfl rfl (Nat.le_of_ble_eq_true rfl) (by rw [zF_k8 hkd]; simp [up2, zr, va_rf]) (fun i hi => zF_r cy a c g (up2_row r 24 (some k') hi)) hd kk
theorem zg_X8_items (C : zC p s m args meth co D cy A cc nL ret Ts own) {k index : Nat} (hk : k ∈ L) (hkd : kd k = 8) (hin : ∀ w ∈ wsX80, w ∈ Ts) (hlink : Cond.fieldLink own index "LetteredRockModel" "items" "[I" ∈ Ts) {k' : Nat} (hv : r k 25 = some k') (hd : decode cc pc = .ok (.getfield index, 3)) (kk : zG p l e R s m args below meth co D cy A nL Q cells slots a L c g r lv (pc + 3) (Value.ref (a k') :: st)) : zG p l e R s m args below meth co D cy A nL Q cells slots a L c g r lv pc (.ref (a k) :: st) := z_get C hk (zF_k8 hkd) rfl 25 (by decide) hin hlink (by first | (rw [← hv]; rfl) | simp [zr, hv, va_rf]) hd kk
theorem zp_X8_items (C : zC p s m args meth co D cy A cc nL ret Ts own) {k index : Nat} (hk : k ∈ L) (hkd : kd k = 8) (hin : ∀ w ∈ wsX80, w ∈ Ts) (hlink : Cond.fieldLink own index "LetteredRockModel" "items" "[I" ∈ Ts) (hin2 : meth.name = "<init>") (hdecl : (TX8 25).1 = own) {k' : Nat} (hd : decode cc pc = .ok (.putfield index, 3)) (kk : zG p l e R s m args below meth co D cy A nL Q cells slots a L c g (up2 r k 25 (some k')) lv (pc + 3) st) : zG p l e R s m args below meth co D cy A nL Q cells slots a L c g r lv pc (Value.ref (a k') :: .ref (a k) :: st) := z_put C hk (zF_k8 hkd) rfl tyX8 tyX8_ok nmX8 25 (by decide) hin hlink (Or.inr ⟨rfl, hin2, hdecl⟩) rfl rfl (Nat.le_of_ble_eq_true rfl) (by rw [zF_k8 hkd]; simp [up2, zr, va_rf]) (fun i hi => zF_r cy a c g (up2_row r 25 (some k') hi)) hd kk
theorem zg_X8_moved (C : zC p s m args meth co D cy A cc nL ret Ts own) {k index : Nat} (hk : k ∈ L) (hkd : kd k = 8) (hin : ∀ w ∈ wsX80, w ∈ Ts) (hlink : Cond.fieldLink own index "LetteredRockModel" "moved" "[I" ∈ Ts) {k' : Nat} (hv : r k 26 = some k') (hd : decode cc pc = .ok (.getfield index, 3)) (kk : zG p l e R s m args below meth co D cy A nL Q cells slots a L c g r lv (pc + 3) (Value.ref (a k') :: st)) : zG p l e R s m args below meth co D cy A nL Q cells slots a L c g r lv pc (.ref (a k) :: st) := z_get C hk (zF_k8 hkd) rfl 26 (by decide) hin hlink (by first | (rw [← hv]; rfl) | simp [zr, hv, va_rf]) hd kk
theorem zp_X8_moved (C : zC p s m args meth co D cy A cc nL ret Ts own) {k index : Nat} (hk : k ∈ L) (hkd : kd k = 8) (hin : ∀ w ∈ wsX80, w ∈ Ts) (hlink : Cond.fieldLink own index "LetteredRockModel" "moved" "[I" ∈ Ts) (hin2 : meth.name = "<init>") (hdecl : (TX8 26).1 = own) {k' : Nat} (hd : decode cc pc = .ok (.putfield index, 3)) (kk : zG p l e R s m args below meth co D cy A nL Q cells slots a L c g (up2 r k 26 (some k')) lv (pc + 3) st) : zG p l e R s m args below meth co D cy A nL Q cells slots a L c g r lv pc (Value.ref (a k') :: .ref (a k) :: st) := z_put C hk (zF_k8 hkd) rfl tyX8 tyX8_ok nmX8 26 (by decide) hin hlink (Or.inr ⟨rfl, hin2, hdecl⟩) rfl rfl (Nat.le_of_ble_eq_true rfl) (by rw [zF_k8 hkd]; simp [up2, zr, va_rf]) (fun i hi => zF_r cy a c g (up2_row r 26 (some k') hi)) hd kk
theorem zg_X8_latest (C : zC p s m args meth co D cy A cc nL ret Ts own) {k index : Nat} (hk : k ∈ L) (hkd : kd k = 8) (hin : ∀ w ∈ wsX80, w ∈ Ts) (hlink : Cond.fieldLink own index "LetteredRockModel" "latest" "I" ∈ Ts) {v : Int32} (hv : c k 27 = v) (hd : decode cc pc = .ok (.getfield index, 3)) (kk : zG p l e R s m args below meth co D cy A nL Q cells slots a L c g r lv (pc + 3) (.int v :: st)) : zG p l e R s m args below meth co D cy A nL Q cells slots a L c g r lv pc (.ref (a k) :: st) := z_get C hk (zF_k8 hkd) rfl 27 (by decide) hin hlink (by first | (rw [← hv]; rfl) | simp [zr, hv, va_rf]) hd kk
theorem zp_X8_latest (C : zC p s m args meth co D cy A cc nL ret Ts own) {k index : Nat} (hk : k ∈ L) (hkd : kd k = 8) (hin : ∀ w ∈ wsX80, w ∈ Ts) (hlink : Cond.fieldLink own index "LetteredRockModel" "latest" "I" ∈ Ts) {v : Int32} (hd : decode cc pc = .ok (.putfield index, 3)) (kk : zG p l e R s m args below meth co D cy A nL Q cells slots a L (up2 c k 27 v) g r lv (pc + 3) st) : zG p l e R s m args below meth co D cy A nL Q cells slots a L c g r lv pc (.int v :: .ref (a k) :: st) := z_put C hk (zF_k8 hkd) rfl tyX8 tyX8_ok nmX8 27 (by decide) hin hlink (Or.inl rfl) rfl rfl (Nat.le_of_ble_eq_true rfl) (by rw [zF_k8 hkd]; simp [up2, zr, va_rf]) (fun i hi => zF_c cy a g r (up2_row c 27 v hi)) hd kk
end ZFL
end
section
/-! ===== STATE: which codes live, what refers to what, the class's ints ===== -/
def live (nl nk k : Nat) : Prop := k < 12 ∨ (20 ≤ k ∧ k < 28) ∨ (30 ≤ k ∧ k < 38) ∨ (40 ≤ k ∧ k < 44) ∨ (50 ≤ k ∧ k < 54) ∨ (100 ≤ k ∧ k < 100 + nl) ∨ (120 ≤ k ∧ k < 120 + nl) ∨ (200 ≤ k ∧ k < 200 + nk) ∨ (k = 300 ∨ k = 301 ∨ (303 ≤ k ∧ k ≤ 308) ∨ k = 311 ∨ k = 315 ∨ k = 319 ∨ (322 ≤ k ∧ k ≤ 327))
def zLv (L : List Nat) (nl nk : Nat) : Prop := ∀ k, live nl nk k → k ∈ L
theorem kd_w {w : Nat} (h : w < 8) : kd (20 + w) = 6 := by
  unfold kd; rw [if_neg (by omega), if_pos (by omega)]
theorem kd_wl {w : Nat} (h : w < 8) : kd (30 + w) = 11 := by
  unfold kd; rw [if_neg (by omega), if_neg (by omega), if_pos (by omega)]
theorem kd_s {w : Nat} (h : w < 4) : kd (40 + w) = 4 := by
  unfold kd; rw [if_neg (by omega), if_neg (by omega), if_neg (by omega), if_pos (by omega)]
theorem kd_it {w : Nat} (h : w < 4) : kd (50 + w) = 9 := by
  unfold kd; rw [if_neg (by omega), if_neg (by omega), if_neg (by omega), if_neg (by omega), if_pos (by omega)]
theorem kd_l {w : Nat} (h : w < 16) : kd (100 + w) = 0 := by
  unfold kd; rw [if_neg (by omega), if_neg (by omega), if_neg (by omega), if_neg (by omega), if_neg (by omega), if_pos (by omega)]
theorem kd_st {w : Nat} (h : w < 16) : kd (120 + w) = 9 := by
  unfold kd; rw [if_neg (by omega), if_neg (by omega), if_neg (by omega), if_neg (by omega), if_neg (by omega), if_neg (by omega), if_pos (by omega)]
theorem kd_k {w : Nat} (h : w < 40) : kd (200 + w) = 1 := by
  unfold kd; rw [if_neg (by omega), if_neg (by omega), if_neg (by omega), if_neg (by omega), if_neg (by omega), if_neg (by omega), if_neg (by omega), if_pos (by omega)]
theorem ln_wl {w : Nat} (h : w < 8) : ln (30 + w) = 10 := by
  unfold ln; rw [if_neg (by omega), if_neg (by omega), if_pos (by omega)]
theorem ln_it {w : Nat} (h : w < 4) : ln (50 + w) = 60 := by
  unfold ln; rw [if_neg (by omega), if_neg (by omega), if_neg (by omega), if_neg (by omega), if_pos (by omega)]
theorem ln_st {w : Nat} (h : w < 16) : ln (120 + w) = 5 := by
  unfold ln; rw [if_neg (by omega), if_neg (by omega), if_neg (by omega), if_neg (by omega), if_neg (by omega), if_neg (by omega), if_pos (by omega)]
/-- the class's references -/
def RC (r : Nat → Nat → Option Nat) (nl nk : Nat) : Prop :=
  (r 0 0 = some 1 ∧ r 0 2 = some 2 ∧ r 0 3 = some 3 ∧ r 0 4 = some 5 ∧ r 0 5 = some 6 ∧ r 0 6 = some 8 ∧ r 0 7 = some 9 ∧ r 0 8 = some 10 ∧ r 0 9 = some 11 ∧ r 3 0 = some 4 ∧ r 6 0 = some 7)
  ∧ (∀ w, w < 8 → r 2 w = some (20 + w) ∧ r (20 + w) 0 = some (30 + w)) ∧ (∀ w, w < 4 → r 11 w = some (40 + w) ∧ r (40 + w) 0 = some (50 + w))
  ∧ (∀ i, i < nl → r 1 i = some (100 + i) ∧ r (100 + i) 3 = some (120 + i)) ∧ (∀ k, k < nk → r 7 k = some (200 + k))
section RCS
variable {r : Nat → Nat → Option Nat} {nl nk : Nat}
theorem RC_alphabet (h : RC r nl nk) : r 0 0 = some 1 := h.1.1
theorem RC_wordRow (h : RC r nl nk) : r 0 2 = some 2 := h.1.2.1
theorem RC_ring (h : RC r nl nk) : r 0 3 = some 3 := h.1.2.2.1
theorem RC_settings (h : RC r nl nk) : r 0 4 = some 5 := h.1.2.2.2.1
theorem RC_lumpBook (h : RC r nl nk) : r 0 5 = some 6 := h.1.2.2.2.2.1
theorem RC_dampWeeks (h : RC r nl nk) : r 0 6 = some 8 := h.1.2.2.2.2.2.1
theorem RC_madeIn (h : RC r nl nk) : r 0 7 = some 9 := h.1.2.2.2.2.2.2.1
theorem RC_stockRun (h : RC r nl nk) : r 0 8 = some 10 := h.1.2.2.2.2.2.2.2.1
theorem RC_sheetRow (h : RC r nl nk) : r 0 9 = some 11 := h.1.2.2.2.2.2.2.2.2.1
theorem RC_laid (h : RC r nl nk) : r 3 0 = some 4 := h.1.2.2.2.2.2.2.2.2.2.1
theorem RC_lumps (h : RC r nl nk) : r 6 0 = some 7 := h.1.2.2.2.2.2.2.2.2.2.2
theorem RC_word (h : RC r nl nk) {w : Nat} (hw : w < 8) : r 2 w = some (20 + w) := (h.2.1 w hw).1
theorem RC_letters (h : RC r nl nk) {w : Nat} (hw : w < 8) : r (20 + w) 0 = some (30 + w) := (h.2.1 w hw).2
theorem RC_sheet (h : RC r nl nk) {w : Nat} (hw : w < 4) : r 11 w = some (40 + w) := (h.2.2.1 w hw).1
theorem RC_items (h : RC r nl nk) {w : Nat} (hw : w < 4) : r (40 + w) 0 = some (50 + w) := (h.2.2.1 w hw).2
theorem RC_alpha (h : RC r nl nk) {w : Nat} (hw : w < nl) : r 1 w = some (100 + w) := (h.2.2.2.1 w hw).1
theorem RC_strips (h : RC r nl nk) {w : Nat} (hw : w < nl) : r (100 + w) 3 = some (120 + w) := (h.2.2.2.1 w hw).2
theorem RC_lump (h : RC r nl nk) {w : Nat} (hw : w < nk) : r 7 w = some (200 + w) := h.2.2.2.2 w hw
end RCS
/-- the reference's references -/
def RM (r : Nat → Nat → Option Nat) : Prop := (r 300 0 = some 301 ∧ r 300 2 = some 303 ∧ r 300 3 = some 304 ∧ r 300 4 = some 305 ∧ r 300 5 = some 306 ∧ r 300 6 = some 307 ∧ r 300 7 = some 308 ∧ r 300 10 = some 311) ∧ (r 300 14 = some 315 ∧ r 300 18 = some 319 ∧ r 300 21 = some 322 ∧ r 300 22 = some 323 ∧ r 300 23 = some 324 ∧ r 300 24 = some 325 ∧ r 300 25 = some 326 ∧ r 300 26 = some 327)
section RMS
variable {r : Nat → Nat → Option Nat}
theorem RM_told (h : RM r) : r 300 0 = some 301 := h.1.1
theorem RM_width (h : RM r) : r 300 2 = some 303 := h.1.2.1
theorem RM_minutes (h : RM r) : r 300 3 = some 304 := h.1.2.2.1
theorem RM_soft (h : RM r) : r 300 4 = some 305 := h.1.2.2.2.1
theorem RM_strips (h : RM r) : r 300 5 = some 306 := h.1.2.2.2.2.1
theorem RM_spelled (h : RM r) : r 300 6 = some 307 := h.1.2.2.2.2.2.1
theorem RM_words (h : RM r) : r 300 7 = some 308 := h.1.2.2.2.2.2.2.1
theorem RM_laid (h : RM r) : r 300 10 = some 311 := h.1.2.2.2.2.2.2.2
theorem RM_order (h : RM r) : r 300 14 = some 315 := h.2.1
theorem RM_made (h : RM r) : r 300 18 = some 319 := h.2.2.1
theorem RM_isDamp (h : RM r) : r 300 21 = some 322 := h.2.2.2.1
theorem RM_makes (h : RM r) : r 300 22 = some 323 := h.2.2.2.2.1
theorem RM_forms (h : RM r) : r 300 23 = some 324 := h.2.2.2.2.2.1
theorem RM_sizes (h : RM r) : r 300 24 = some 325 := h.2.2.2.2.2.2.1
theorem RM_items (h : RM r) : r 300 25 = some 326 := h.2.2.2.2.2.2.2.1
theorem RM_moved (h : RM r) : r 300 26 = some 327 := h.2.2.2.2.2.2.2.2
end RMS
/-- a cell's int as a natural number -/
def nn (c : Nat → Nat → Int32) (k j : Nat) : Nat := (c k j).toNatClampNeg
/-- the int at (k, j) is a natural number from lo to hi -/
def rng (c : Nat → Nat → Int32) (k j lo hi : Nat) : Prop := c k j = nI (nn c k j) ∧ lo ≤ nn c k j ∧ nn c k j ≤ hi
theorem rng_of {c : Nat → Nat → Int32} {k j n lo hi : Nat} (h : c k j = nI n) (h1 : lo ≤ n) (h2 : n ≤ hi) (h3 : hi < 2 ^ 31) : rng c k j lo hi := by
  have e : nn c k j = n := by unfold nn; rw [h, nI_clamp (by omega)]
  unfold rng; rw [e]; exact ⟨h, h1, h2⟩
theorem nn_of {c : Nat → Nat → Int32} {k j n : Nat} (h : c k j = nI n) (h3 : n < 2 ^ 31) : nn c k j = n := by unfold nn; rw [h, nI_clamp h3]
/-- the class's ints -/
def CI (c : Nat → Nat → Int32) (nl nk : Nat) : Prop :=
  (nl ≤ 16 ∧ nk ≤ 40 ∧ c 0 1 = nI nl ∧ c 6 1 = nI nk) ∧ (rng c 3 1 5 60 ∧ rng c 3 2 0 3)
  ∧ (∀ w, w < 8 → rng c (20 + w) 1 0 10)
  ∧ (∀ i, i < nl → rng c (100 + i) 0 1 5 ∧ rng c (100 + i) 1 1 9 ∧ rng c (100 + i) 2 1 99 ∧ ∀ j, j < 5 → rng c (120 + i) j 0 31)
  ∧ (rng c 5 0 10 200 ∧ rng c 5 1 0 1000 ∧ rng c 5 2 1 1000 ∧ rng c 5 3 0 100)
  ∧ (∀ k, k < nk → rng c (200 + k) 0 0 7 ∧ rng c (200 + k) 1 0 9 ∧ rng c (200 + k) 2 0 999 ∧ rng c (200 + k) 3 0 1600000 ∧ rng c (200 + k) 4 0 40000 ∧ rng c (200 + k) 5 0 40000)
  ∧ (rng c 6 2 0 (40000 * nk) ∧ rng c 6 3 0 (40000 * nk))
  ∧ (∀ w, w < 4 → rng c (40 + w) 1 0 1 ∧ rng c (40 + w) 2 0 2 ∧ rng c (40 + w) 3 0 60)
  ∧ (∀ w, w < 52 → rng c 8 w 0 1 ∧ rng c 9 w 0 10000)
/-- the letters of the words: x w i is the number of the i-th letter of word w -/
def XC (c : Nat → Nat → Int32) (r : Nat → Nat → Option Nat) (nl : Nat) (x : Nat → Nat → Nat) : Prop := ∀ w, w < 8 → ∀ i, i < nn c (20 + w) 1 → r (30 + w) i = some (100 + x w i) ∧ x w i < nl
theorem XC_r {c : Nat → Nat → Int32} {r : Nat → Nat → Option Nat} {nl : Nat} {x : Nat → Nat → Nat} (h : XC c r nl x) {w i : Nat} (hw : w < 8) (hi : i < nn c (20 + w) 1) : r (30 + w) i = some (100 + x w i) := (h w hw i hi).1
theorem XC_l {c : Nat → Nat → Int32} {r : Nat → Nat → Option Nat} {nl : Nat} {x : Nat → Nat → Nat} (h : XC c r nl x) {w i : Nat} (hw : w < 8) (hi : i < nn c (20 + w) 1) : x w i < nl := (h w hw i hi).2
section CIS
variable {c : Nat → Nat → Int32} {nl nk : Nat}
theorem CI_nl16 (h : CI c nl nk) : nl ≤ 16 := h.1.1
theorem CI_nk40 (h : CI c nl nk) : nk ≤ 40 := h.1.2.1
theorem CI_nl (h : CI c nl nk) : c 0 1 = nI nl := h.1.2.2.1
theorem CI_nk (h : CI c nl nk) : c 6 1 = nI nk := h.1.2.2.2
theorem CI_S (h : CI c nl nk) : rng c 3 1 5 60 := h.2.1.1
theorem CI_G (h : CI c nl nk) : rng c 3 2 0 3 := h.2.1.2
theorem CI_sz (h : CI c nl nk) {w : Nat} (hw : w < 8) : rng c (20 + w) 1 0 10 := h.2.2.1 w hw
theorem CI_wi (h : CI c nl nk) {i : Nat} (hi : i < nl) : rng c (100 + i) 0 1 5 := (h.2.2.2.1 i hi).1
theorem CI_mi (h : CI c nl nk) {i : Nat} (hi : i < nl) : rng c (100 + i) 1 1 9 := (h.2.2.2.1 i hi).2.1
theorem CI_so (h : CI c nl nk) {i : Nat} (hi : i < nl) : rng c (100 + i) 2 1 99 := (h.2.2.2.1 i hi).2.2.1
theorem CI_st (h : CI c nl nk) {i : Nat} (hi : i < nl) {j : Nat} (hj : j < 5) : rng c (120 + i) j 0 31 := (h.2.2.2.1 i hi).2.2.2 j hj
theorem CI_set (h : CI c nl nk) : rng c 5 0 10 200 ∧ rng c 5 1 0 1000 ∧ rng c 5 2 1 1000 ∧ rng c 5 3 0 100 := h.2.2.2.2.1
theorem CI_lump (h : CI c nl nk) {k : Nat} (hk : k < nk) : rng c (200 + k) 0 0 7 ∧ rng c (200 + k) 1 0 9 ∧ rng c (200 + k) 2 0 999 ∧ rng c (200 + k) 3 0 1600000 ∧ rng c (200 + k) 4 0 40000 ∧ rng c (200 + k) 5 0 40000 := h.2.2.2.2.2.1 k hk
theorem CI_tot (h : CI c nl nk) : rng c 6 2 0 (40000 * nk) ∧ rng c 6 3 0 (40000 * nk) := h.2.2.2.2.2.2.1
theorem CI_sh (h : CI c nl nk) {w : Nat} (hw : w < 4) : rng c (40 + w) 1 0 1 ∧ rng c (40 + w) 2 0 2 ∧ rng c (40 + w) 3 0 60 := h.2.2.2.2.2.2.2.1 w hw
theorem CI_wk (h : CI c nl nk) {w : Nat} (hw : w < 52) : rng c 8 w 0 1 ∧ rng c 9 w 0 10000 := h.2.2.2.2.2.2.2.2 w hw
end CIS
/-! numbers -/
theorem tI_pred {n : Nat} (h : n < 2 ^ 30) : (nI n - 1).toInt = (n : Int) - 1 := pk_sub_toInt (b := 1) h (by decide)
theorem tI_of {x : Int32} (h : 0 ≤ x.toInt) : x = nI x.toInt.toNat := by
  apply Int32.toInt_inj.mp
  have h2 : x.toInt < 2147483648 := Int32.toInt_lt x
  rw [nI_toInt (by omega)]; omega
theorem tI_lt {x y : Int32} : x < y ↔ x.toInt < y.toInt := Int32.lt_iff_toInt_lt
theorem tI_le {x y : Int32} : x ≤ y ↔ x.toInt ≤ y.toInt := Int32.le_iff_toInt_le
theorem tI_ne {x y : Int32} : ¬ x = y ↔ x.toInt ≠ y.toInt := by rw [← Int32.toInt_inj]
theorem nI_le_iff {a b : Nat} (ha : a < 2 ^ 31) (hb : b < 2 ^ 31) : nI a ≤ nI b ↔ a ≤ b := nI_leI ha hb
def sumF (f : Nat → Nat) : Nat → Nat
  | 0 => 0
  | n + 1 => sumF f n + f n
theorem sumF_le {f : Nat → Nat} {b : Nat} : ∀ {n : Nat}, (∀ i, i < n → f i ≤ b) → sumF f n ≤ n * b
  | 0, _ => by simp [sumF]
  | n + 1, h => by
    have h1 := sumF_le (n := n) (fun i hi => h i (by omega))
    have h2 := h n (by omega)
    rw [sumF, Nat.succ_mul]; omega
theorem sumF_congr {f f' : Nat → Nat} : ∀ {n : Nat}, (∀ i, i < n → f i = f' i) → sumF f n = sumF f' n
  | 0, _ => rfl
  | n + 1, h => by rw [sumF, sumF, sumF_congr (n := n) (fun i hi => h i (by omega)), h n (by omega)]
section ZLOOP
variable {p : Program} {l : Launch} {e : Env} {R : Room} {s : State} {m : MethodId} {args : Array Value} {below : List Frame} {meth : Method} {co : Code}
variable {D : va_G} {cy : Nat → ClassId} {A : Nat → Prop} {nL : Nat} {a : Nat → Nat} {L : List Nat} {c : Nat → Nat → Int32} {g : Nat → Nat → Int64} {r : Nat → Nat → Option Nat} {Q : State → Prop} {cells slots pc : Nat} {lv lv' : List (Nat × Value)} {st : List Value}
theorem z_sub (ks : List Nat) (h : lv_pick lv ks = lv') (kk : zG p l e R s m args below meth co D cy A nL Q cells slots a L c g r lv' pc st) : zG p l e R s m args below meth co D cy A nL Q cells slots a L c g r lv pc st := fun H locs ls hW hS hl => kk H locs ls hW hS (lv_sub hl ks h)
/-- a loop whose state is a function of its counter -/
theorem z_for (i0 n : Nat) (h0 : i0 ≤ n) (lvf : Nat → List (Nat × Value)) (cf : Nat → Nat → Nat → Int32) (gf : Nat → Nat → Nat → Int64) (hx : zG p l e R s m args below meth co D cy A nL Q cells slots a L (cf n) (gf n) r (lvf n) pc [])
    (hs : ∀ i, i0 ≤ i → i < n → zG p l e R s m args below meth co D cy A nL Q cells slots a L (cf (i + 1)) (gf (i + 1)) r (lvf (i + 1)) pc [] → zG p l e R s m args below meth co D cy A nL Q cells slots a L (cf i) (gf i) r (lvf i) pc []) : zG p l e R s m args below meth co D cy A nL Q cells slots a L (cf i0) (gf i0) r (lvf i0) pc [] := by
  have key : ∀ q i, i0 ≤ i → i + q = n → zG p l e R s m args below meth co D cy A nL Q cells slots a L (cf i) (gf i) r (lvf i) pc [] := by
    intro q
    induction q with
    | zero => intro i _ hi; have : i = n := by omega
              subst this; exact hx
    | succ q ih => intro i h1 hi; exact hs i h1 (by omega) (ih (i + 1) (by omega) (by omega))
  exact key (n - i0) i0 (Nat.le_refl _) (by omega)
/-- a loop with an invariant over the ints -/
theorem z_forI (I : Nat → (Nat → Nat → Int32) → Prop) (i0 n : Nat) (h0 : i0 ≤ n) (lvf : Nat → List (Nat × Value)) (hx : ∀ c, I n c → zG p l e R s m args below meth co D cy A nL Q cells slots a L c g r (lvf n) pc [])
    (hs : ∀ i c, i0 ≤ i → i < n → I i c → (∀ c', I (i + 1) c' → zG p l e R s m args below meth co D cy A nL Q cells slots a L c' g r (lvf (i + 1)) pc []) → zG p l e R s m args below meth co D cy A nL Q cells slots a L c g r (lvf i) pc []) (hi : I i0 c) : zG p l e R s m args below meth co D cy A nL Q cells slots a L c g r (lvf i0) pc [] := by
  have key : ∀ q i c, i0 ≤ i → i + q = n → I i c → zG p l e R s m args below meth co D cy A nL Q cells slots a L c g r (lvf i) pc [] := by
    intro q
    induction q with
    | zero => intro i c _ hi hI; have : i = n := by omega
              subst this; exact hx c hI
    | succ q ih => intro i c h1 hi hI; exact hs i c h1 (by omega) hI (fun c' h' => ih (i + 1) c' (by omega) (by omega) h')
  exact key (n - i0) i0 c (Nat.le_refl _) (by omega) hi
end ZLOOP
end
section
set_option maxHeartbeats 4000000 in
set_option maxRecDepth 100000 in
theorem c_X7_within (l : Launch) (D : va_G) (cy : Nat → ClassId) (a : Nat → Nat) (L : List Nat) (c : Nat → Nat → Int32) (g : Nat → Nat → Int64) (r : Nat → Nat → Option Nat) (v lo hi : Int32) {V LO HI : Int} (hv : v.toInt = V) (hlo : lo.toInt = LO) (hhi : hi.toInt = HI) : zPI l yX7_within wsX7_within { frames := 0, cells := 0, slots := 0, locals := 0 } D cy a L c g r [Value.int v, Value.int lo, Value.int hi] (fun x => (x = 1 ∧ LO ≤ V ∧ V ≤ HI) ∨ (x = 0 ∧ ¬ (LO ≤ V ∧ V ≤ HI))) := by
  refine z_enter cX7_within 3 (some .boolean) (by decide) (Nat.le_of_ble_eq_true rfl) ?_
  intro p e s m below meth co C hin
  have C : zC p s m _ meth co D cy _ cX7_within 3 (some .boolean) wsX7_within RX7 := C
  refine z_iload_n C dX7_within_0 rfl (q := 0) rfl ?_
  refine z_iload_n C dX7_within_1 rfl (q := 1) rfl ?_
  refine z_icmp_lt C dX7_within_2 (tgt := 14) (by decide) (fun h2 => ?_) (fun h2 => ?_)
  · refine z_iconst C dX7_within_14 (v := 0) (by decide) ?_
    exact z_zret C rfl (Nat.le_refl _) (Nat.le_refl _) dX7_within_15 rfl ⟨rfl, Or.inr ⟨rfl, by rw [tI_lt, hv, hlo] at h2; omega⟩⟩
  · refine z_iload_n C dX7_within_5 rfl (q := 0) rfl ?_
    refine z_iload_n C dX7_within_6 rfl (q := 2) rfl ?_
    refine z_icmp_gt C dX7_within_7 (tgt := 14) (by decide) (fun h7 => ?_) (fun h7 => ?_)
    · refine z_iconst C dX7_within_14 (v := 0) (by decide) ?_
      exact z_zret C rfl (Nat.le_refl _) (Nat.le_refl _) dX7_within_15 rfl ⟨rfl, Or.inr ⟨rfl, by rw [tI_lt, hhi, hv] at h7; omega⟩⟩
    · refine z_iconst C dX7_within_10 (v := 1) (by decide) ?_
      refine z_goto C dX7_within_11 (tgt := 15) (by decide) ?_
      exact z_zret C rfl (Nat.le_refl _) (Nat.le_refl _) dX7_within_15 rfl ⟨rfl, Or.inl ⟨rfl, by rw [tI_lt, hv, hlo] at h2; rw [tI_lt, hhi, hv] at h7; omega⟩⟩

/-- how wide a word is -/
def wideC (c : Nat → Nat → Int32) (x : Nat → Nat → Nat) (w : Nat) : Nat := sumF (fun i => nn c (100 + x w i) 0 + nn c 3 2) (nn c (20 + w) 1)

set_option maxHeartbeats 4000000 in
set_option maxRecDepth 100000 in
theorem c_X3_widthOf (l : Launch) (D : va_G) (cy : Nat → ClassId) (a : Nat → Nat) (L : List Nat) (c : Nat → Nat → Int32) (g : Nat → Nat → Int64) (r : Nat → Nat → Option Nat) (nl nk : Nat) (hL : zLv L nl nk) (hR : RC r nl nk) (hI : CI c nl nk) (x : Nat → Nat → Nat) (hX : XC c r nl x) (w : Nat) (hw : w < 8) : zPI l yX3_widthOf wsX3_widthOf { frames := 0, cells := 0, slots := 0, locals := 0 } D cy a L c g r [Value.ref (a 3), Value.ref (a (20 + w))] (fun v => v = nI (wideC c x w)) := by
  refine z_enter cX3_widthOf 4 (some .int) (by decide) (Nat.le_of_ble_eq_true rfl) ?_
  intro p e s m below meth co C hin
  have C : zC p s m _ meth co D cy _ cX3_widthOf 4 (some .int) wsX3_widthOf RX3 := C
  have i0 : ∀ w ∈ wsX00, w ∈ wsX3_widthOf := by decide +kernel
  have i3 : ∀ w ∈ wsX30, w ∈ wsX3_widthOf := by decide +kernel
  have i6 : ∀ w ∈ wsX60, w ∈ wsX3_widthOf := by decide +kernel
  refine z_iconst C dX3_widthOf_0 (v := nI 0) (by decide) ?_
  refine z_istore_n C dX3_widthOf_1 rfl (by decide) (lv' := [(2, Value.int (nI 0)), (0, Value.ref (a 3)), (1, Value.ref (a (20 + w)))]) rfl ?_
  refine z_iconst C dX3_widthOf_2 (v := nI 0) (by decide) ?_
  refine z_istore_n C dX3_widthOf_3 rfl (by decide) (lv' := [(3, Value.int (nI 0)), (2, Value.int (nI 0)), (0, Value.ref (a 3)), (1, Value.ref (a (20 + w)))]) rfl ?_
  refine z_for 0 (nn c (20 + w) 1) (Nat.zero_le _) (fun i => [(3, Value.int (nI i)), (2, Value.int (nI (sumF (fun i => nn c (100 + x w i) 0 + nn c 3 2) i))), (0, Value.ref (a 3)), (1, Value.ref (a (20 + w)))]) (fun _ => c) (fun _ => g) ?_ ?_
  · refine z_iload_n C dX3_widthOf_4 rfl (q := 0) rfl ?_
    refine z_aload_n C dX3_widthOf_5 rfl (q := 3) rfl ?_
    refine zg_X6_size C (k := 20 + w) (hL _ (by unfold live; omega)) (kd_w (by omega)) i6 (by decide +kernel) (v := nI (nn c (20 + w) 1)) (CI_sz hI hw).1 dX3_widthOf_6 ?_
    refine z_icmp_ge C dX3_widthOf_9 (tgt := 35) (by decide) (fun h9 => ?_) (fun h9 => absurd (Int32.le_refl _) h9)
    refine z_iload_n C dX3_widthOf_35 rfl (q := 1) rfl ?_
    exact z_iret C rfl (Nat.le_refl _) (Nat.le_refl _) dX3_widthOf_36 ⟨rfl, rfl⟩
  · intro i _ hi ih
    have hn := (CI_sz hI hw).2.2
    have h16 := CI_nl16 hI
    have hx := XC_l hX hw hi
    have hwi := CI_wi hI hx
    have hg := CI_G hI
    refine z_iload_n C dX3_widthOf_4 rfl (q := 0) rfl ?_
    refine z_aload_n C dX3_widthOf_5 rfl (q := 3) rfl ?_
    refine zg_X6_size C (k := 20 + w) (hL _ (by unfold live; omega)) (kd_w (by omega)) i6 (by decide +kernel) (v := nI (nn c (20 + w) 1)) (CI_sz hI hw).1 dX3_widthOf_6 ?_
    refine z_icmp_ge C dX3_widthOf_9 (tgt := 35) (by decide) (fun h9 => absurd h9 (nI_ge hi (by omega))) (fun h9 => ?_)
    refine z_iload_n C dX3_widthOf_12 rfl (q := 1) rfl ?_
    refine z_aload_n C dX3_widthOf_13 rfl (q := 3) rfl ?_
    refine zg_X6_letters C (k := 20 + w) (hL _ (by unfold live; omega)) (kd_w (by omega)) i6 (by decide +kernel) (k' := 30 + w) (RC_letters hR (by omega)) dX3_widthOf_14 ?_
    refine z_iload_n C dX3_widthOf_17 rfl (q := 0) rfl ?_
    refine z_aaload C (k := 30 + w) (hL _ (by unfold live; omega)) (kd_wl (by omega)) (by decide) (j := i) rfl (by rw [ln_wl (by omega)]; omega) (by rw [ln_wl (by omega)]; decide) (v := .ref (a (100 + x w i))) (by rw [XC_r hX hw hi]; rfl) dX3_widthOf_18 ?_
    refine zg_X0_width C (k := 100 + x w i) (hL _ (by unfold live; omega)) (kd_l (by omega)) i0 (by decide +kernel) (v := nI (nn c (100 + x w i) 0)) hwi.1 dX3_widthOf_19 ?_
    refine z_aload_n C dX3_widthOf_22 rfl (q := 2) rfl ?_
    refine zg_X3_gapWidth C (k := 3) (hL _ (by unfold live; omega)) (by rfl) i3 (by decide +kernel) (v := nI (nn c 3 2)) hg.1 dX3_widthOf_23 ?_
    refine z_iadd C dX3_widthOf_26 (v := nI (nn c (100 + x w i) 0 + nn c 3 2)) (nI_add _ _) ?_
    refine z_iadd C dX3_widthOf_27 (v := nI (sumF (fun i => nn c (100 + x w i) 0 + nn c 3 2) (i + 1))) (nI_add _ _) ?_
    refine z_istore_n C dX3_widthOf_28 rfl (by decide) (lv' := [(2, Value.int (nI (sumF (fun i => nn c (100 + x w i) 0 + nn c 3 2) (i + 1)))), (3, Value.int (nI i)), (0, Value.ref (a 3)), (1, Value.ref (a (20 + w)))]) rfl ?_
    refine z_iinc C dX3_widthOf_29 (q := 1) rfl (v := nI (i + 1)) (nI_1 _) (by decide) (lv' := [(3, Value.int (nI (i + 1))), (2, Value.int (nI (sumF (fun i => nn c (100 + x w i) 0 + nn c 3 2) (i + 1)))), (0, Value.ref (a 3)), (1, Value.ref (a (20 + w)))]) rfl ?_
    refine z_goto C dX3_widthOf_32 (tgt := 4) (by decide) ?_
    exact ih
end
