/-- a private method of a class that the tables say can be made, by its rows of tables_1 -/
def lw_okq (q : MethodName × Nat) : Prop := (q.1.cls ≠ "java/lang/invoke/MethodHandle" ∧ q.1.cls ≠ "java/lang/invoke/VarHandle") ∧ Cond.instantiable q.1.cls q.2 ∈ tables_1 ∧ Cond.privateMethod q.1 ∈ tables_1 ∧ Cond.instanceMethod q.1 ∈ tables_1
theorem lw_p0 : lw_okq (⟨"FloodDiary$State", "ente\x72", "(II)I"⟩, 9) := ⟨⟨by decide +kernel, by decide +kernel⟩, List.mem_of_getElem? (i := 22) (by decide +kernel), List.mem_of_getElem? (i := 279) (by decide +kernel), List.mem_of_getElem? (i := 280) (by decide +kernel)⟩
theorem lw_p1 : lw_okq (⟨"FloodDiary$State", "enterOnPage", "(IIIIII)V"⟩, 9) := ⟨⟨by decide +kernel, by decide +kernel⟩, List.mem_of_getElem? (i := 22) (by decide +kernel), List.mem_of_getElem? (i := 346) (by decide +kernel), List.mem_of_getElem? (i := 347) (by decide +kernel)⟩
theorem lw_p2 : lw_okq (⟨"FloodDiary$State", "stepsToTea\x72", "(I)I"⟩, 9) := ⟨⟨by decide +kernel, by decide +kernel⟩, List.mem_of_getElem? (i := 22) (by decide +kernel), List.mem_of_getElem? (i := 382) (by decide +kernel), List.mem_of_getElem? (i := 383) (by decide +kernel)⟩
theorem lw_p3 : lw_okq (⟨"FloodDiary$State", "stepBack", "(I)V"⟩, 9) := ⟨⟨by decide +kernel, by decide +kernel⟩, List.mem_of_getElem? (i := 22) (by decide +kernel), List.mem_of_getElem? (i := 398) (by decide +kernel), List.mem_of_getElem? (i := 399) (by decide +kernel)⟩
theorem lw_p4 : lw_okq (⟨"FloodDiary$State", "loseEntries", "(I)V"⟩, 9) := ⟨⟨by decide +kernel, by decide +kernel⟩, List.mem_of_getElem? (i := 22) (by decide +kernel), List.mem_of_getElem? (i := 448) (by decide +kernel), List.mem_of_getElem? (i := 449) (by decide +kernel)⟩
theorem lw_p5 : lw_okq (⟨"FloodDiary$State", "isAnythingLeft", "()Z"⟩, 9) := ⟨⟨by decide +kernel, by decide +kernel⟩, List.mem_of_getElem? (i := 22) (by decide +kernel), List.mem_of_getElem? (i := 495) (by decide +kernel), List.mem_of_getElem? (i := 496) (by decide +kernel)⟩
theorem lw_p6 : lw_okq (⟨"FloodDiary$State", "findAgain", "()Z"⟩, 9) := ⟨⟨by decide +kernel, by decide +kernel⟩, List.mem_of_getElem? (i := 22) (by decide +kernel), List.mem_of_getElem? (i := 499) (by decide +kernel), List.mem_of_getElem? (i := 500) (by decide +kernel)⟩
theorem lw_p7 : lw_okq (⟨"FloodDiary$State", "doAgain", "(I)V"⟩, 9) := ⟨⟨by decide +kernel, by decide +kernel⟩, List.mem_of_getElem? (i := 22) (by decide +kernel), List.mem_of_getElem? (i := 511) (by decide +kernel), List.mem_of_getElem? (i := 512) (by decide +kernel)⟩
theorem lw_p8 : lw_okq (⟨"FloodDiary", "tryFlood", "()V"⟩, 6) := ⟨⟨by decide +kernel, by decide +kernel⟩, List.mem_of_getElem? (i := 14) (by decide +kernel), List.mem_of_getElem? (i := 595) (by decide +kernel), List.mem_of_getElem? (i := 596) (by decide +kernel)⟩
theorem lw_p9 : lw_okq (⟨"FloodDiary$State", "isNeeded", "(I)Z"⟩, 9) := ⟨⟨by decide +kernel, by decide +kernel⟩, List.mem_of_getElem? (i := 22) (by decide +kernel), List.mem_of_getElem? (i := 615) (by decide +kernel), List.mem_of_getElem? (i := 616) (by decide +kernel)⟩
theorem lw_p10 : lw_okq (⟨"FloodDiary$State", "isEndSaved", "(I)Z"⟩, 9) := ⟨⟨by decide +kernel, by decide +kernel⟩, List.mem_of_getElem? (i := 22) (by decide +kernel), List.mem_of_getElem? (i := 620) (by decide +kernel), List.mem_of_getElem? (i := 621) (by decide +kernel)⟩
theorem lw_p11 : lw_okq (⟨"FloodDiary$Orders", "readOrde\x72", "(LFloodDiary$Pad;)V"⟩, 7) := ⟨⟨by decide +kernel, by decide +kernel⟩, List.mem_of_getElem? (i := 191) (by decide +kernel), List.mem_of_getElem? (i := 665) (by decide +kernel), List.mem_of_getElem? (i := 666) (by decide +kernel)⟩
theorem lw_p12 : lw_okq (⟨"FloodDiary$Orders", "readNumbe\x72", "(LFloodDiary$Pad;)I"⟩, 7) := ⟨⟨by decide +kernel, by decide +kernel⟩, List.mem_of_getElem? (i := 191) (by decide +kernel), List.mem_of_getElem? (i := 673) (by decide +kernel), List.mem_of_getElem? (i := 674) (by decide +kernel)⟩
theorem lw_p13 : lw_okq (⟨"FloodDiary$Orders", "expect", "(LFloodDiary$Pad;I)V"⟩, 7) := ⟨⟨by decide +kernel, by decide +kernel⟩, List.mem_of_getElem? (i := 191) (by decide +kernel), List.mem_of_getElem? (i := 680) (by decide +kernel), List.mem_of_getElem? (i := 681) (by decide +kernel)⟩
theorem lw_p14 : lw_okq (⟨"FloodDiary$Orders", "readPage", "(LFloodDiary$Pad;)I"⟩, 7) := ⟨⟨by decide +kernel, by decide +kernel⟩, List.mem_of_getElem? (i := 191) (by decide +kernel), List.mem_of_getElem? (i := 684) (by decide +kernel), List.mem_of_getElem? (i := 685) (by decide +kernel)⟩
theorem lw_p15 : lw_okq (⟨"FloodDiaryModel", "record", "()V"⟩, 9) := ⟨⟨by decide +kernel, by decide +kernel⟩, List.mem_of_getElem? (i := 748) (by decide +kernel), List.mem_of_getElem? (i := 790) (by decide +kernel), List.mem_of_getElem? (i := 791) (by decide +kernel)⟩
def lw_privs_1 : List (MethodName × Nat) := [(⟨"FloodDiary$State", "ente\x72", "(II)I"⟩, 9), (⟨"FloodDiary$State", "enterOnPage", "(IIIIII)V"⟩, 9), (⟨"FloodDiary$State", "stepsToTea\x72", "(I)I"⟩, 9), (⟨"FloodDiary$State", "stepBack", "(I)V"⟩, 9), (⟨"FloodDiary$State", "loseEntries", "(I)V"⟩, 9), (⟨"FloodDiary$State", "isAnythingLeft", "()Z"⟩, 9), (⟨"FloodDiary$State", "findAgain", "()Z"⟩, 9), (⟨"FloodDiary$State", "doAgain", "(I)V"⟩, 9), (⟨"FloodDiary", "tryFlood", "()V"⟩, 6), (⟨"FloodDiary$State", "isNeeded", "(I)Z"⟩, 9), (⟨"FloodDiary$State", "isEndSaved", "(I)Z"⟩, 9), (⟨"FloodDiary$Orders", "readOrde\x72", "(LFloodDiary$Pad;)V"⟩, 7), (⟨"FloodDiary$Orders", "readNumbe\x72", "(LFloodDiary$Pad;)I"⟩, 7), (⟨"FloodDiary$Orders", "expect", "(LFloodDiary$Pad;I)V"⟩, 7), (⟨"FloodDiary$Orders", "readPage", "(LFloodDiary$Pad;)I"⟩, 7), (⟨"FloodDiaryModel", "record", "()V"⟩, 9)]
theorem lw_r1 : ∀ q ∈ lw_privs_1, lw_okq q := List.forall_mem_cons.mpr ⟨lw_p0, List.forall_mem_cons.mpr ⟨lw_p1, List.forall_mem_cons.mpr ⟨lw_p2, List.forall_mem_cons.mpr ⟨lw_p3, List.forall_mem_cons.mpr ⟨lw_p4, List.forall_mem_cons.mpr ⟨lw_p5, List.forall_mem_cons.mpr ⟨lw_p6, List.forall_mem_cons.mpr ⟨lw_p7, List.forall_mem_cons.mpr ⟨lw_p8, List.forall_mem_cons.mpr ⟨lw_p9, List.forall_mem_cons.mpr ⟨lw_p10, List.forall_mem_cons.mpr ⟨lw_p11, List.forall_mem_cons.mpr ⟨lw_p12, List.forall_mem_cons.mpr ⟨lw_p13, List.forall_mem_cons.mpr ⟨lw_p14, List.forall_mem_cons.mpr ⟨lw_p15, fun _ h => absurd h List.not_mem_nil⟩⟩⟩⟩⟩⟩⟩⟩⟩⟩⟩⟩⟩⟩⟩⟩
theorem lw_p16 : lw_okq (⟨"FloodDiaryModel", "isDirty", "(I)Z"⟩, 9) := ⟨⟨by decide +kernel, by decide +kernel⟩, List.mem_of_getElem? (i := 748) (by decide +kernel), List.mem_of_getElem? (i := 932) (by decide +kernel), List.mem_of_getElem? (i := 933) (by decide +kernel)⟩
theorem lw_p17 : lw_okq (⟨"FloodDiaryModel", "mendAll", "()I"⟩, 9) := ⟨⟨by decide +kernel, by decide +kernel⟩, List.mem_of_getElem? (i := 748) (by decide +kernel), List.mem_of_getElem? (i := 952) (by decide +kernel), List.mem_of_getElem? (i := 953) (by decide +kernel)⟩
theorem lw_p18 : lw_okq (⟨"FloodDiaryModel", "endsSaved", "(I)Z"⟩, 9) := ⟨⟨by decide +kernel, by decide +kernel⟩, List.mem_of_getElem? (i := 748) (by decide +kernel), List.mem_of_getElem? (i := 967) (by decide +kernel), List.mem_of_getElem? (i := 968) (by decide +kernel)⟩
theorem lw_p19 : lw_okq (⟨"FloodDiaryModel", "readOrde\x72", "()Z"⟩, 9) := ⟨⟨by decide +kernel, by decide +kernel⟩, List.mem_of_getElem? (i := 748) (by decide +kernel), List.mem_of_getElem? (i := 990) (by decide +kernel), List.mem_of_getElem? (i := 991) (by decide +kernel)⟩
theorem lw_p20 : lw_okq (⟨"FloodDiaryModel", "sign", "()I"⟩, 9) := ⟨⟨by decide +kernel, by decide +kernel⟩, List.mem_of_getElem? (i := 748) (by decide +kernel), List.mem_of_getElem? (i := 994) (by decide +kernel), List.mem_of_getElem? (i := 995) (by decide +kernel)⟩
theorem lw_p21 : lw_okq (⟨"FloodDiaryModel", "taken", "(II)I"⟩, 9) := ⟨⟨by decide +kernel, by decide +kernel⟩, List.mem_of_getElem? (i := 748) (by decide +kernel), List.mem_of_getElem? (i := 998) (by decide +kernel), List.mem_of_getElem? (i := 999) (by decide +kernel)⟩
theorem lw_p22 : lw_okq (⟨"FloodDiaryModel", "numbe\x72", "()I"⟩, 9) := ⟨⟨by decide +kernel, by decide +kernel⟩, List.mem_of_getElem? (i := 748) (by decide +kernel), List.mem_of_getElem? (i := 1002) (by decide +kernel), List.mem_of_getElem? (i := 1003) (by decide +kernel)⟩
theorem lw_p23 : lw_okq (⟨"FloodDiaryModel", "doOrde\x72", "()Z"⟩, 9) := ⟨⟨by decide +kernel, by decide +kernel⟩, List.mem_of_getElem? (i := 748) (by decide +kernel), List.mem_of_getElem? (i := 1013) (by decide +kernel), List.mem_of_getElem? (i := 1014) (by decide +kernel)⟩
def lw_privs_2 : List (MethodName × Nat) := [(⟨"FloodDiaryModel", "isDirty", "(I)Z"⟩, 9), (⟨"FloodDiaryModel", "mendAll", "()I"⟩, 9), (⟨"FloodDiaryModel", "endsSaved", "(I)Z"⟩, 9), (⟨"FloodDiaryModel", "readOrde\x72", "()Z"⟩, 9), (⟨"FloodDiaryModel", "sign", "()I"⟩, 9), (⟨"FloodDiaryModel", "taken", "(II)I"⟩, 9), (⟨"FloodDiaryModel", "numbe\x72", "()I"⟩, 9), (⟨"FloodDiaryModel", "doOrde\x72", "()Z"⟩, 9)]
theorem lw_r2 : ∀ q ∈ lw_privs_2, lw_okq q := List.forall_mem_cons.mpr ⟨lw_p16, List.forall_mem_cons.mpr ⟨lw_p17, List.forall_mem_cons.mpr ⟨lw_p18, List.forall_mem_cons.mpr ⟨lw_p19, List.forall_mem_cons.mpr ⟨lw_p20, List.forall_mem_cons.mpr ⟨lw_p21, List.forall_mem_cons.mpr ⟨lw_p22, List.forall_mem_cons.mpr ⟨lw_p23, fun _ h => absurd h List.not_mem_nil⟩⟩⟩⟩⟩⟩⟩⟩
def lw_privs : List (MethodName × Nat) := lw_privs_1 ++ (lw_privs_2)
def lw_tbl : List Cond := k2_sels lw_privs ++ tables_1
theorem lw_privs_ok : ∀ q ∈ lw_privs, lw_okq q := by
  show ∀ q ∈ lw_privs_1 ++ (lw_privs_2), lw_okq q
  exact List.forall_mem_append.mpr ⟨lw_r1, lw_r2⟩

abbrev R_Dy : String := "FloodDiary$Diary"
def T_Dy : u_T := fun k => match k with
  | 0 => ("FloodDiary$Diary", "kinds", "[I", true)
  | 1 => ("FloodDiary$Diary", "works", "[I", true)
  | 2 => ("FloodDiary$Diary", "earlie\x72", "[I", true)
  | 3 => ("FloodDiary$Diary", "pages", "[I", true)
  | 4 => ("FloodDiary$Diary", "before", "[I", true)
  | 5 => ("FloodDiary$Diary", "then", "[I", true)
  | 6 => ("FloodDiary$Diary", "next", "[I", true)
  | 7 => ("FloodDiary$Diary", "size", "I", false)
  | _ => ("FloodDiary$Diary", "saved", "I", false)
def ty_Dy : Nat → FieldType := fun k => match k with
  | 0 => .array .int
  | 1 => .array .int
  | 2 => .array .int
  | 3 => .array .int
  | 4 => .array .int
  | 5 => .array .int
  | 6 => .array .int
  | 7 => .int
  | _ => .int
theorem nm_Dy : ∀ a, a < 9 → ∀ b, b < 9 → a ≠ b → (T_Dy a).2.1 ≠ (T_Dy b).2.1 := by decide +kernel
theorem ty_Dy_ok : ∀ k, k < 9 → parseFieldDescriptor (T_Dy k).2.2.1 = some (ty_Dy k) := by decide +kernel
abbrev R_Hi : String := "FloodDiary$History"
def T_Hi : u_T := fun k => match k with
  | 0 => ("FloodDiary$History", "states", "[LFloodDiary$State;", true)
  | 1 => ("FloodDiary$History", "first", "I", false)
  | _ => ("FloodDiary$History", "size", "I", false)
def ty_Hi : Nat → FieldType := fun k => match k with
  | 0 => .array (.object "FloodDiary$State")
  | 1 => .int
  | _ => .int
theorem nm_Hi : ∀ a, a < 3 → ∀ b, b < 3 → a ≠ b → (T_Hi a).2.1 ≠ (T_Hi b).2.1 := by decide +kernel
theorem ty_Hi_ok : ∀ k, k < 3 → parseFieldDescriptor (T_Hi k).2.2.1 = some (ty_Hi k) := by decide +kernel
abbrev R_Or : String := "FloodDiary$Orders"
def T_Or : u_T := fun k => match k with
  | 0 => ("FloodDiary$Orders", "verbs", "[I", true)
  | 1 => ("FloodDiary$Orders", "numbers", "[I", true)
  | 2 => ("FloodDiary$Orders", "pages", "[I", true)
  | 3 => ("FloodDiary$Orders", "values", "[I", true)
  | 4 => ("FloodDiary$Orders", "size", "I", false)
  | 5 => ("FloodDiary$Orders", "place", "I", false)
  | _ => ("FloodDiary$Orders", "fault", "I", false)
def ty_Or : Nat → FieldType := fun k => match k with
  | 0 => .array .int
  | 1 => .array .int
  | 2 => .array .int
  | 3 => .array .int
  | 4 => .int
  | 5 => .int
  | _ => .int
theorem nm_Or : ∀ a, a < 7 → ∀ b, b < 7 → a ≠ b → (T_Or a).2.1 ≠ (T_Or b).2.1 := by decide +kernel
theorem ty_Or_ok : ∀ k, k < 7 → parseFieldDescriptor (T_Or k).2.2.1 = some (ty_Or k) := by decide +kernel
abbrev R_Pd : String := "FloodDiary$Pad"
def T_Pd : u_T := fun k => match k with
  | 0 => ("FloodDiary$Pad", "text", "[C", true)
  | _ => ("FloodDiary$Pad", "size", "I", false)
def ty_Pd : Nat → FieldType := fun k => match k with
  | 0 => .array .char
  | _ => .int
theorem nm_Pd : ∀ a, a < 2 → ∀ b, b < 2 → a ≠ b → (T_Pd a).2.1 ≠ (T_Pd b).2.1 := by decide +kernel
theorem ty_Pd_ok : ∀ k, k < 2 → parseFieldDescriptor (T_Pd k).2.2.1 = some (ty_Pd k) := by decide +kernel
abbrev R_Pg : String := "FloodDiary$Pages"
def T_Pg : u_T := fun k => match k with
  | 0 => ("FloodDiary$Pages", "shelfValue", "[I", true)
  | 1 => ("FloodDiary$Pages", "shelfMark", "[I", true)
  | 2 => ("FloodDiary$Pages", "handValue", "[I", true)
  | 3 => ("FloodDiary$Pages", "handMark", "[I", true)
  | _ => ("FloodDiary$Pages", "inHand", "I", false)
def ty_Pg : Nat → FieldType := fun k => match k with
  | 0 => .array .int
  | 1 => .array .int
  | 2 => .array .int
  | 3 => .array .int
  | _ => .int
theorem nm_Pg : ∀ a, a < 5 → ∀ b, b < 5 → a ≠ b → (T_Pg a).2.1 ≠ (T_Pg b).2.1 := by decide +kernel
theorem ty_Pg_ok : ∀ k, k < 5 → parseFieldDescriptor (T_Pg k).2.2.1 = some (ty_Pg k) := by decide +kernel
abbrev R_Sl : String := "FloodDiary$Slots"
def T_Sl : u_T := fun k => match k with
  | _ => ("FloodDiary$Slots", "states", "[LFloodDiary$State;", true)
def ty_Sl : Nat → FieldType := fun k => match k with
  | _ => .array (.object "FloodDiary$State")
theorem nm_Sl : ∀ a, a < 1 → ∀ b, b < 1 → a ≠ b → (T_Sl a).2.1 ≠ (T_Sl b).2.1 := by decide +kernel
theorem ty_Sl_ok : ∀ k, k < 1 → parseFieldDescriptor (T_Sl k).2.2.1 = some (ty_Sl k) := by decide +kernel
abbrev R_St : String := "FloodDiary$State"
def T_St : u_T := fun k => match k with
  | 0 => ("FloodDiary$State", "pages", "LFloodDiary$Pages;", true)
  | 1 => ("FloodDiary$State", "diary", "LFloodDiary$Diary;", true)
  | 2 => ("FloodDiary$State", "works", "LFloodDiary$Works;", true)
  | 3 => ("FloodDiary$State", "mending", "Z", false)
  | 4 => ("FloodDiary$State", "mendingBegun", "Z", false)
  | 5 => ("FloodDiary$State", "again", "I", false)
  | 6 => ("FloodDiary$State", "floods", "I", false)
  | 7 => ("FloodDiary$State", "stepsMade", "I", false)
  | _ => ("FloodDiary$State", "lost", "I", false)
def ty_St : Nat → FieldType := fun k => match k with
  | 0 => .object "FloodDiary$Pages"
  | 1 => .object "FloodDiary$Diary"
  | 2 => .object "FloodDiary$Works"
  | 3 => .boolean
  | 4 => .boolean
  | 5 => .int
  | 6 => .int
  | 7 => .int
  | _ => .int
theorem nm_St : ∀ a, a < 9 → ∀ b, b < 9 → a ≠ b → (T_St a).2.1 ≠ (T_St b).2.1 := by decide +kernel
theorem ty_St_ok : ∀ k, k < 9 → parseFieldDescriptor (T_St k).2.2.1 = some (ty_St k) := by decide +kernel
abbrev R_Wk : String := "FloodDiary$Works"
def T_Wk : u_T := fun k => match k with
  | 0 => ("FloodDiary$Works", "states", "[I", true)
  | 1 => ("FloodDiary$Works", "last", "[I", true)
  | 2 => ("FloodDiary$Works", "entries", "[I", true)
  | 3 => ("FloodDiary$Works", "pageSets", "[I", true)
  | 4 => ("FloodDiary$Works", "goOn", "[I", true)
  | _ => ("FloodDiary$Works", "size", "I", false)
def ty_Wk : Nat → FieldType := fun k => match k with
  | 0 => .array .int
  | 1 => .array .int
  | 2 => .array .int
  | 3 => .array .int
  | 4 => .array .int
  | _ => .int
theorem nm_Wk : ∀ a, a < 6 → ∀ b, b < 6 → a ≠ b → (T_Wk a).2.1 ≠ (T_Wk b).2.1 := by decide +kernel
theorem ty_Wk_ok : ∀ k, k < 6 → parseFieldDescriptor (T_Wk k).2.2.1 = some (ty_Wk k) := by decide +kernel
abbrev R_Fd : String := "FloodDiary"
def T_Fd : u_T := fun k => match k with
  | 0 => ("FloodDiary", "now", "LFloodDiary$State;", true)
  | 1 => ("FloodDiary", "trial", "LFloodDiary$State;", true)
  | 2 => ("FloodDiary", "history", "LFloodDiary$History;", true)
  | 3 => ("FloodDiary", "slots", "LFloodDiary$Slots;", true)
  | 4 => ("FloodDiary", "pad", "LFloodDiary$Pad;", true)
  | _ => ("FloodDiary", "orders", "LFloodDiary$Orders;", true)
def ty_Fd : Nat → FieldType := fun k => match k with
  | 0 => .object "FloodDiary$State"
  | 1 => .object "FloodDiary$State"
  | 2 => .object "FloodDiary$History"
  | 3 => .object "FloodDiary$Slots"
  | 4 => .object "FloodDiary$Pad"
  | _ => .object "FloodDiary$Orders"
theorem nm_Fd : ∀ a, a < 6 → ∀ b, b < 6 → a ≠ b → (T_Fd a).2.1 ≠ (T_Fd b).2.1 := by decide +kernel
theorem ty_Fd_ok : ∀ k, k < 6 → parseFieldDescriptor (T_Fd k).2.2.1 = some (ty_Fd k) := by decide +kernel
abbrev R_Md : String := "FloodDiaryModel"
def T_Md : u_T := fun k => match k with
  | 0 => ("FloodDiaryModel", "now", "[I", true)
  | 1 => ("FloodDiaryModel", "trial", "[I", true)
  | 2 => ("FloodDiaryModel", "history", "[I", true)
  | 3 => ("FloodDiaryModel", "changes", "I", false)
  | 4 => ("FloodDiaryModel", "kept", "[I", true)
  | 5 => ("FloodDiaryModel", "isKept", "[Z", true)
  | 6 => ("FloodDiaryModel", "pad", "[I", true)
  | 7 => ("FloodDiaryModel", "length", "I", false)
  | _ => ("FloodDiaryModel", "spot", "I", false)
def ty_Md : Nat → FieldType := fun k => match k with
  | 0 => .array .int
  | 1 => .array .int
  | 2 => .array .int
  | 3 => .int
  | 4 => .array .int
  | 5 => .array .boolean
  | 6 => .array .int
  | 7 => .int
  | _ => .int
theorem nm_Md : ∀ a, a < 9 → ∀ b, b < 9 → a ≠ b → (T_Md a).2.1 ≠ (T_Md b).2.1 := by decide +kernel
theorem ty_Md_ok : ∀ k, k < 9 → parseFieldDescriptor (T_Md k).2.2.1 = some (ty_Md k) := by decide +kernel
abbrev vwCl : List vw_C := [(R_Dy, T_Dy, 9), (R_Hi, T_Hi, 3), (R_Or, T_Or, 7), (R_Pd, T_Pd, 2), (R_Pg, T_Pg, 5), (R_Sl, T_Sl, 1), (R_St, T_St, 9), (R_Wk, T_Wk, 6), (R_Fd, T_Fd, 6), (R_Md, T_Md, 9)]
abbrev c_Fd_init : ByteArray := prog_1_method_1_code
abbrev y_Fd_init : MethodName := ⟨"FloodDiary", "<init>", "()V"⟩
abbrev c_Fd_begin : ByteArray := prog_1_method_2_code
abbrev y_Fd_begin : MethodName := ⟨"FloodDiary", "begin", "()I"⟩
abbrev c_Fd_write : ByteArray := prog_1_method_3_code
abbrev y_Fd_write : MethodName := ⟨"FloodDiary", "write", "(III)I"⟩
abbrev c_Fd_finish : ByteArray := prog_1_method_4_code
abbrev y_Fd_finish : MethodName := ⟨"FloodDiary", "finish", "(I)I"⟩
abbrev c_Fd_tear : ByteArray := prog_1_method_5_code
abbrev y_Fd_tear : MethodName := ⟨"FloodDiary", "tea\x72", "(I)I"⟩
abbrev c_Fd_save : ByteArray := prog_1_method_6_code
abbrev y_Fd_save : MethodName := ⟨"FloodDiary", "save", "(I)I"⟩
abbrev c_Fd_putAway : ByteArray := prog_1_method_7_code
abbrev y_Fd_putAway : MethodName := ⟨"FloodDiary", "putAway", "(I)I"⟩
abbrev c_Fd_flood : ByteArray := prog_1_method_8_code
abbrev y_Fd_flood : MethodName := ⟨"FloodDiary", "flood", "()I"⟩
abbrev c_Fd_blur : ByteArray := prog_1_method_9_code
abbrev y_Fd_blur : MethodName := ⟨"FloodDiary", "blu\x72", "(I)I"⟩
abbrev c_Fd_mend : ByteArray := prog_1_method_10_code
abbrev y_Fd_mend : MethodName := ⟨"FloodDiary", "mend", "(I)I"⟩
abbrev c_Fd_ofPage : ByteArray := prog_1_method_11_code
abbrev y_Fd_ofPage : MethodName := ⟨"FloodDiary", "ofPage", "(II)I"⟩
abbrev c_Fd_ofWork : ByteArray := prog_1_method_12_code
abbrev y_Fd_ofWork : MethodName := ⟨"FloodDiary", "ofWork", "(II)I"⟩
abbrev c_Fd_ofEntry : ByteArray := prog_1_method_13_code
abbrev y_Fd_ofEntry : MethodName := ⟨"FloodDiary", "ofEntry", "(II)I"⟩
abbrev c_Fd_count : ByteArray := prog_1_method_14_code
abbrev y_Fd_count : MethodName := ⟨"FloodDiary", "count", "(I)I"⟩
abbrev c_Fd_stepsToMend : ByteArray := prog_1_method_15_code
abbrev y_Fd_stepsToMend : MethodName := ⟨"FloodDiary", "stepsToMend", "()I"⟩
abbrev c_Fd_wouldBe : ByteArray := prog_1_method_16_code
abbrev y_Fd_wouldBe : MethodName := ⟨"FloodDiary", "wouldBe", "(I)I"⟩
abbrev c_Fd_firstNeeded : ByteArray := prog_1_method_17_code
abbrev y_Fd_firstNeeded : MethodName := ⟨"FloodDiary", "firstNeeded", "()I"⟩
abbrev c_Fd_settled : ByteArray := prog_1_method_18_code
abbrev y_Fd_settled : MethodName := ⟨"FloodDiary", "settled", "(I)I"⟩
abbrev c_Fd_put : ByteArray := prog_1_method_19_code
abbrev y_Fd_put : MethodName := ⟨"FloodDiary", "put", "(J)I"⟩
abbrev c_Fd_wipe : ByteArray := prog_1_method_20_code
abbrev y_Fd_wipe : MethodName := ⟨"FloodDiary", "wipe", "()I"⟩
abbrev c_Fd_fault : ByteArray := prog_1_method_21_code
abbrev y_Fd_fault : MethodName := ⟨"FloodDiary", "fault", "()I"⟩
abbrev c_Fd_carryOut : ByteArray := prog_1_method_22_code
abbrev y_Fd_carryOut : MethodName := ⟨"FloodDiary", "carryOut", "()I"⟩
abbrev c_Fd_undo : ByteArray := prog_1_method_23_code
abbrev y_Fd_undo : MethodName := ⟨"FloodDiary", "undo", "()I"⟩
abbrev c_Fd_keep : ByteArray := prog_1_method_24_code
abbrev y_Fd_keep : MethodName := ⟨"FloodDiary", "keep", "(I)I"⟩
abbrev c_Fd_bring : ByteArray := prog_1_method_25_code
abbrev y_Fd_bring : MethodName := ⟨"FloodDiary", "bring", "(I)I"⟩
abbrev c_Fd_tryFlood : ByteArray := prog_1_method_26_code
abbrev y_Fd_tryFlood : MethodName := ⟨"FloodDiary", "tryFlood", "()V"⟩
abbrev c_Fd_isPage : ByteArray := prog_1_method_27_code
abbrev y_Fd_isPage : MethodName := ⟨"FloodDiary", "isPage", "(I)Z"⟩
abbrev c_Fd_isSlot : ByteArray := prog_1_method_28_code
abbrev y_Fd_isSlot : MethodName := ⟨"FloodDiary", "isSlot", "(I)Z"⟩
abbrev c_Fd_isChange : ByteArray := prog_1_method_29_code
abbrev y_Fd_isChange : MethodName := ⟨"FloodDiary", "isChange", "(I)Z"⟩
abbrev c_Fd_asNumber : ByteArray := prog_1_method_30_code
abbrev y_Fd_asNumber : MethodName := ⟨"FloodDiary", "asNumbe\x72", "(Z)I"⟩
abbrev c_Fd_charactersIn : ByteArray := prog_1_method_31_code
abbrev y_Fd_charactersIn : MethodName := ⟨"FloodDiary", "charactersIn", "(J)I"⟩
abbrev c_Md_init : ByteArray := prog_11_method_1_code
abbrev y_Md_init : MethodName := ⟨"FloodDiaryModel", "<init>", "()V"⟩
abbrev c_Md_in : ByteArray := prog_11_method_2_code
abbrev y_Md_in : MethodName := ⟨"FloodDiaryModel", "in", "(JJJ)Z"⟩
abbrev c_Md_copyState : ByteArray := prog_11_method_3_code
abbrev y_Md_copyState : MethodName := ⟨"FloodDiaryModel", "copyState", "([II[II)V"⟩
abbrev c_Md_isPage : ByteArray := prog_11_method_4_code
abbrev y_Md_isPage : MethodName := ⟨"FloodDiaryModel", "isPage", "(I)Z"⟩
abbrev c_Md_isWork : ByteArray := prog_11_method_5_code
abbrev y_Md_isWork : MethodName := ⟨"FloodDiaryModel", "isWork", "([II)Z"⟩
abbrev c_Md_at : ByteArray := prog_11_method_6_code
abbrev y_Md_at : MethodName := ⟨"FloodDiaryModel", "at", "(I)I"⟩
abbrev c_Md_takeInHand : ByteArray := prog_11_method_7_code
abbrev y_Md_takeInHand : MethodName := ⟨"FloodDiaryModel", "takeInHand", "([II)V"⟩
abbrev c_Md_change : ByteArray := prog_11_method_8_code
abbrev y_Md_change : MethodName := ⟨"FloodDiaryModel", "change", "([IIII)V"⟩
abbrev c_Md_lastOf : ByteArray := prog_11_method_9_code
abbrev y_Md_lastOf : MethodName := ⟨"FloodDiaryModel", "lastOf", "([II)I"⟩
abbrev c_Md_enter : ByteArray := prog_11_method_10_code
abbrev y_Md_enter : MethodName := ⟨"FloodDiaryModel", "ente\x72", "([IIIIIII)I"⟩
abbrev c_Md_goesOnWith : ByteArray := prog_11_method_11_code
abbrev y_Md_goesOnWith : MethodName := ⟨"FloodDiaryModel", "goesOnWith", "([II)I"⟩
abbrev c_Md_pagesOf : ByteArray := prog_11_method_12_code
abbrev y_Md_pagesOf : MethodName := ⟨"FloodDiaryModel", "pagesOf", "([II)I"⟩
abbrev c_Md_holder : ByteArray := prog_11_method_13_code
abbrev y_Md_holder : MethodName := ⟨"FloodDiaryModel", "holde\x72", "([II)I"⟩
abbrev c_Md_stepBack : ByteArray := prog_11_method_14_code
abbrev y_Md_stepBack : MethodName := ⟨"FloodDiaryModel", "stepBack", "([II)V"⟩
abbrev c_Md_tearOn : ByteArray := prog_11_method_15_code
abbrev y_Md_tearOn : MethodName := ⟨"FloodDiaryModel", "tearOn", "([II)I"⟩
abbrev c_Md_stepsToTear : ByteArray := prog_11_method_16_code
abbrev y_Md_stepsToTear : MethodName := ⟨"FloodDiaryModel", "stepsToTea\x72", "([II)I"⟩
abbrev c_Md_saveTo : ByteArray := prog_11_method_17_code
abbrev y_Md_saveTo : MethodName := ⟨"FloodDiaryModel", "saveTo", "([II)V"⟩
abbrev c_Md_lose : ByteArray := prog_11_method_18_code
abbrev y_Md_lose : MethodName := ⟨"FloodDiaryModel", "lose", "([II)V"⟩
abbrev c_Md_floodOn : ByteArray := prog_11_method_19_code
abbrev y_Md_floodOn : MethodName := ⟨"FloodDiaryModel", "floodOn", "([I)I"⟩
abbrev c_Md_nextAgain : ByteArray := prog_11_method_20_code
abbrev y_Md_nextAgain : MethodName := ⟨"FloodDiaryModel", "nextAgain", "([I)I"⟩
abbrev c_Md_nextBack : ByteArray := prog_11_method_21_code
abbrev y_Md_nextBack : MethodName := ⟨"FloodDiaryModel", "nextBack", "([I)I"⟩
abbrev c_Md_isLeft : ByteArray := prog_11_method_22_code
abbrev y_Md_isLeft : MethodName := ⟨"FloodDiaryModel", "isLeft", "([I)Z"⟩
abbrev c_Md_step : ByteArray := prog_11_method_23_code
abbrev y_Md_step : MethodName := ⟨"FloodDiaryModel", "step", "([I)V"⟩
abbrev c_Md_mendOn : ByteArray := prog_11_method_24_code
abbrev y_Md_mendOn : MethodName := ⟨"FloodDiaryModel", "mendOn", "([II)I"⟩
abbrev c_Md_record : ByteArray := prog_11_method_25_code
abbrev y_Md_record : MethodName := ⟨"FloodDiaryModel", "record", "()V"⟩
abbrev c_Md_whyNotBegin : ByteArray := prog_11_method_26_code
abbrev y_Md_whyNotBegin : MethodName := ⟨"FloodDiaryModel", "whyNotBegin", "([I)I"⟩
abbrev c_Md_beginOn : ByteArray := prog_11_method_27_code
abbrev y_Md_beginOn : MethodName := ⟨"FloodDiaryModel", "beginOn", "([I)I"⟩
abbrev c_Md_begin : ByteArray := prog_11_method_28_code
abbrev y_Md_begin : MethodName := ⟨"FloodDiaryModel", "begin", "()I"⟩
abbrev c_Md_isStopped : ByteArray := prog_11_method_29_code
abbrev y_Md_isStopped : MethodName := ⟨"FloodDiaryModel", "isStopped", "([II)Z"⟩
abbrev c_Md_whyNotWrite : ByteArray := prog_11_method_30_code
abbrev y_Md_whyNotWrite : MethodName := ⟨"FloodDiaryModel", "whyNotWrite", "([IIII)I"⟩
abbrev c_Md_writeOn : ByteArray := prog_11_method_31_code
abbrev y_Md_writeOn : MethodName := ⟨"FloodDiaryModel", "writeOn", "([IIII)I"⟩
abbrev c_Md_write : ByteArray := prog_11_method_32_code
abbrev y_Md_write : MethodName := ⟨"FloodDiaryModel", "write", "(III)I"⟩
abbrev c_Md_whyNotFinish : ByteArray := prog_11_method_33_code
abbrev y_Md_whyNotFinish : MethodName := ⟨"FloodDiaryModel", "whyNotFinish", "([II)I"⟩
abbrev c_Md_finishOn : ByteArray := prog_11_method_34_code
abbrev y_Md_finishOn : MethodName := ⟨"FloodDiaryModel", "finishOn", "([II)I"⟩
abbrev c_Md_finish : ByteArray := prog_11_method_35_code
abbrev y_Md_finish : MethodName := ⟨"FloodDiaryModel", "finish", "(I)I"⟩
abbrev c_Md_whyNotTear : ByteArray := prog_11_method_36_code
abbrev y_Md_whyNotTear : MethodName := ⟨"FloodDiaryModel", "whyNotTea\x72", "([II)I"⟩
abbrev c_Md_tear : ByteArray := prog_11_method_37_code
abbrev y_Md_tear : MethodName := ⟨"FloodDiaryModel", "tea\x72", "(I)I"⟩
abbrev c_Md_whyNotSave : ByteArray := prog_11_method_38_code
abbrev y_Md_whyNotSave : MethodName := ⟨"FloodDiaryModel", "whyNotSave", "([II)I"⟩
abbrev c_Md_save : ByteArray := prog_11_method_39_code
abbrev y_Md_save : MethodName := ⟨"FloodDiaryModel", "save", "(I)I"⟩
abbrev c_Md_whyNotPutAway : ByteArray := prog_11_method_40_code
abbrev y_Md_whyNotPutAway : MethodName := ⟨"FloodDiaryModel", "whyNotPutAway", "([II)I"⟩
abbrev c_Md_putAwayOn : ByteArray := prog_11_method_41_code
abbrev y_Md_putAwayOn : MethodName := ⟨"FloodDiaryModel", "putAwayOn", "([II)I"⟩
abbrev c_Md_putAway : ByteArray := prog_11_method_42_code
abbrev y_Md_putAway : MethodName := ⟨"FloodDiaryModel", "putAway", "(I)I"⟩
abbrev c_Md_flood : ByteArray := prog_11_method_43_code
abbrev y_Md_flood : MethodName := ⟨"FloodDiaryModel", "flood", "()I"⟩
abbrev c_Md_blur : ByteArray := prog_11_method_44_code
abbrev y_Md_blur : MethodName := ⟨"FloodDiaryModel", "blu\x72", "(I)I"⟩
abbrev c_Md_mend : ByteArray := prog_11_method_45_code
abbrev y_Md_mend : MethodName := ⟨"FloodDiaryModel", "mend", "(I)I"⟩
abbrev c_Md_ofPage : ByteArray := prog_11_method_46_code
abbrev y_Md_ofPage : MethodName := ⟨"FloodDiaryModel", "ofPage", "(II)I"⟩
abbrev c_Md_isDirty : ByteArray := prog_11_method_47_code
abbrev y_Md_isDirty : MethodName := ⟨"FloodDiaryModel", "isDirty", "(I)Z"⟩
abbrev c_Md_ofWork : ByteArray := prog_11_method_48_code
abbrev y_Md_ofWork : MethodName := ⟨"FloodDiaryModel", "ofWork", "(II)I"⟩
abbrev c_Md_ofEntry : ByteArray := prog_11_method_49_code
abbrev y_Md_ofEntry : MethodName := ⟨"FloodDiaryModel", "ofEntry", "(II)I"⟩
abbrev c_Md_count : ByteArray := prog_11_method_50_code
abbrev y_Md_count : MethodName := ⟨"FloodDiaryModel", "count", "(I)I"⟩
abbrev c_Md_mendAll : ByteArray := prog_11_method_51_code
abbrev y_Md_mendAll : MethodName := ⟨"FloodDiaryModel", "mendAll", "()I"⟩
abbrev c_Md_stepsToMend : ByteArray := prog_11_method_52_code
abbrev y_Md_stepsToMend : MethodName := ⟨"FloodDiaryModel", "stepsToMend", "()I"⟩
abbrev c_Md_valueOf : ByteArray := prog_11_method_53_code
abbrev y_Md_valueOf : MethodName := ⟨"FloodDiaryModel", "valueOf", "([II)I"⟩
abbrev c_Md_wouldBe : ByteArray := prog_11_method_54_code
abbrev y_Md_wouldBe : MethodName := ⟨"FloodDiaryModel", "wouldBe", "(I)I"⟩
abbrev c_Md_endsSaved : ByteArray := prog_11_method_55_code
abbrev y_Md_endsSaved : MethodName := ⟨"FloodDiaryModel", "endsSaved", "(I)Z"⟩
abbrev c_Md_firstNeeded : ByteArray := prog_11_method_56_code
abbrev y_Md_firstNeeded : MethodName := ⟨"FloodDiaryModel", "firstNeeded", "()I"⟩
abbrev c_Md_settled : ByteArray := prog_11_method_57_code
abbrev y_Md_settled : MethodName := ⟨"FloodDiaryModel", "settled", "(I)I"⟩
abbrev c_Md_put : ByteArray := prog_11_method_58_code
abbrev y_Md_put : MethodName := ⟨"FloodDiaryModel", "put", "(J)I"⟩
abbrev c_Md_wipe : ByteArray := prog_11_method_59_code
abbrev y_Md_wipe : MethodName := ⟨"FloodDiaryModel", "wipe", "()I"⟩
abbrev c_Md_sign : ByteArray := prog_11_method_60_code
abbrev y_Md_sign : MethodName := ⟨"FloodDiaryModel", "sign", "()I"⟩
abbrev c_Md_taken : ByteArray := prog_11_method_61_code
abbrev y_Md_taken : MethodName := ⟨"FloodDiaryModel", "taken", "(II)I"⟩
abbrev c_Md_number : ByteArray := prog_11_method_62_code
abbrev y_Md_number : MethodName := ⟨"FloodDiaryModel", "numbe\x72", "()I"⟩
abbrev c_Md_readOrder : ByteArray := prog_11_method_63_code
abbrev y_Md_readOrder : MethodName := ⟨"FloodDiaryModel", "readOrde\x72", "()Z"⟩
abbrev c_Md_fault : ByteArray := prog_11_method_64_code
abbrev y_Md_fault : MethodName := ⟨"FloodDiaryModel", "fault", "()I"⟩
abbrev c_Md_doOrder : ByteArray := prog_11_method_65_code
abbrev y_Md_doOrder : MethodName := ⟨"FloodDiaryModel", "doOrde\x72", "()Z"⟩
abbrev c_Md_carryOut : ByteArray := prog_11_method_66_code
abbrev y_Md_carryOut : MethodName := ⟨"FloodDiaryModel", "carryOut", "()I"⟩
abbrev c_Md_undo : ByteArray := prog_11_method_67_code
abbrev y_Md_undo : MethodName := ⟨"FloodDiaryModel", "undo", "()I"⟩
abbrev c_Md_keep : ByteArray := prog_11_method_68_code
abbrev y_Md_keep : MethodName := ⟨"FloodDiaryModel", "keep", "(I)I"⟩
abbrev c_Md_bring : ByteArray := prog_11_method_69_code
abbrev y_Md_bring : MethodName := ⟨"FloodDiaryModel", "bring", "(I)I"⟩
abbrev c_Dy_init : ByteArray := prog_2_method_1_code
abbrev y_Dy_init : MethodName := ⟨"FloodDiary$Diary", "<init>", "()V"⟩
abbrev c_Dy_become : ByteArray := prog_2_method_2_code
abbrev y_Dy_become : MethodName := ⟨"FloodDiary$Diary", "become", "(LFloodDiary$Diary;)V"⟩
abbrev c_Dy_has : ByteArray := prog_2_method_3_code
abbrev y_Dy_has : MethodName := ⟨"FloodDiary$Diary", "has", "(I)Z"⟩
abbrev c_Dy_isFull : ByteArray := prog_2_method_4_code
abbrev y_Dy_isFull : MethodName := ⟨"FloodDiary$Diary", "isFull", "()Z"⟩
abbrev c_Dy_add : ByteArray := prog_2_method_5_code
abbrev y_Dy_add : MethodName := ⟨"FloodDiary$Diary", "add", "(III)I"⟩
abbrev c_Dy_tellPage : ByteArray := prog_2_method_6_code
abbrev y_Dy_tellPage : MethodName := ⟨"FloodDiary$Diary", "tellPage", "(IIIII)V"⟩
abbrev c_Dy_saveUpTo : ByteArray := prog_2_method_7_code
abbrev y_Dy_saveUpTo : MethodName := ⟨"FloodDiary$Diary", "saveUpTo", "(I)V"⟩
abbrev c_Dy_lose : ByteArray := prog_2_method_8_code
abbrev y_Dy_lose : MethodName := ⟨"FloodDiary$Diary", "lose", "(I)V"⟩
abbrev c_Dy_kindOf : ByteArray := prog_2_method_9_code
abbrev y_Dy_kindOf : MethodName := ⟨"FloodDiary$Diary", "kindOf", "(I)I"⟩
abbrev c_Dy_workOf : ByteArray := prog_2_method_10_code
abbrev y_Dy_workOf : MethodName := ⟨"FloodDiary$Diary", "workOf", "(I)I"⟩
abbrev c_Dy_earlierOf : ByteArray := prog_2_method_11_code
abbrev y_Dy_earlierOf : MethodName := ⟨"FloodDiary$Diary", "earlierOf", "(I)I"⟩
abbrev c_Dy_pageOf : ByteArray := prog_2_method_12_code
abbrev y_Dy_pageOf : MethodName := ⟨"FloodDiary$Diary", "pageOf", "(I)I"⟩
abbrev c_Dy_beforeOf : ByteArray := prog_2_method_13_code
abbrev y_Dy_beforeOf : MethodName := ⟨"FloodDiary$Diary", "beforeOf", "(I)I"⟩
abbrev c_Dy_thenOf : ByteArray := prog_2_method_14_code
abbrev y_Dy_thenOf : MethodName := ⟨"FloodDiary$Diary", "thenOf", "(I)I"⟩
abbrev c_Dy_nextOf : ByteArray := prog_2_method_15_code
abbrev y_Dy_nextOf : MethodName := ⟨"FloodDiary$Diary", "nextOf", "(I)I"⟩
abbrev c_Dy_about : ByteArray := prog_2_method_16_code
abbrev y_Dy_about : MethodName := ⟨"FloodDiary$Diary", "about", "(II)I"⟩
abbrev c_Hi_init : ByteArray := prog_3_method_1_code
abbrev y_Hi_init : MethodName := ⟨"FloodDiary$History", "<init>", "()V"⟩
abbrev c_Hi_length : ByteArray := prog_3_method_2_code
abbrev y_Hi_length : MethodName := ⟨"FloodDiary$History", "length", "()I"⟩
abbrev c_Hi_prepare : ByteArray := prog_3_method_3_code
abbrev y_Hi_prepare : MethodName := ⟨"FloodDiary$History", "prepare", "(LFloodDiary$State;)V"⟩
abbrev c_Hi_record : ByteArray := prog_3_method_4_code
abbrev y_Hi_record : MethodName := ⟨"FloodDiary$History", "record", "(I)I"⟩
abbrev c_Hi_takeBack : ByteArray := prog_3_method_5_code
abbrev y_Hi_takeBack : MethodName := ⟨"FloodDiary$History", "takeBack", "(LFloodDiary$State;)V"⟩
abbrev c_Or_init : ByteArray := prog_4_method_1_code
abbrev y_Or_init : MethodName := ⟨"FloodDiary$Orders", "<init>", "()V"⟩
abbrev c_Or_firstFault : ByteArray := prog_4_method_2_code
abbrev y_Or_firstFault : MethodName := ⟨"FloodDiary$Orders", "firstFault", "()I"⟩
abbrev c_Or_read : ByteArray := prog_4_method_3_code
abbrev y_Or_read : MethodName := ⟨"FloodDiary$Orders", "read", "(LFloodDiary$Pad;)V"⟩
abbrev c_Or_length : ByteArray := prog_4_method_4_code
abbrev y_Or_length : MethodName := ⟨"FloodDiary$Orders", "length", "()I"⟩
abbrev c_Or_obey : ByteArray := prog_4_method_5_code
abbrev y_Or_obey : MethodName := ⟨"FloodDiary$Orders", "obey", "(ILFloodDiary$State;)I"⟩
abbrev c_Or_readOrder : ByteArray := prog_4_method_6_code
abbrev y_Or_readOrder : MethodName := ⟨"FloodDiary$Orders", "readOrde\x72", "(LFloodDiary$Pad;)V"⟩
abbrev c_Or_expect : ByteArray := prog_4_method_7_code
abbrev y_Or_expect : MethodName := ⟨"FloodDiary$Orders", "expect", "(LFloodDiary$Pad;I)V"⟩
abbrev c_Or_readPage : ByteArray := prog_4_method_8_code
abbrev y_Or_readPage : MethodName := ⟨"FloodDiary$Orders", "readPage", "(LFloodDiary$Pad;)I"⟩
abbrev c_Or_readNumber : ByteArray := prog_4_method_9_code
abbrev y_Or_readNumber : MethodName := ⟨"FloodDiary$Orders", "readNumbe\x72", "(LFloodDiary$Pad;)I"⟩
abbrev c_Or_isDigit : ByteArray := prog_4_method_10_code
abbrev y_Or_isDigit : MethodName := ⟨"FloodDiary$Orders", "isDigit", "(I)Z"⟩
abbrev c_Pd_init : ByteArray := prog_5_method_1_code
abbrev y_Pd_init : MethodName := ⟨"FloodDiary$Pad", "<init>", "()V"⟩
abbrev c_Pd_length : ByteArray := prog_5_method_2_code
abbrev y_Pd_length : MethodName := ⟨"FloodDiary$Pad", "length", "()I"⟩
abbrev c_Pd_hasRoomFor : ByteArray := prog_5_method_3_code
abbrev y_Pd_hasRoomFor : MethodName := ⟨"FloodDiary$Pad", "hasRoomFo\x72", "(I)Z"⟩
abbrev c_Pd_append : ByteArray := prog_5_method_4_code
abbrev y_Pd_append : MethodName := ⟨"FloodDiary$Pad", "append", "(JI)V"⟩
abbrev c_Pd_empty : ByteArray := prog_5_method_5_code
abbrev y_Pd_empty : MethodName := ⟨"FloodDiary$Pad", "empty", "()V"⟩
abbrev c_Pd_at : ByteArray := prog_5_method_6_code
abbrev y_Pd_at : MethodName := ⟨"FloodDiary$Pad", "at", "(I)I"⟩
abbrev c_Pg_init : ByteArray := prog_6_method_1_code
abbrev y_Pg_init : MethodName := ⟨"FloodDiary$Pages", "<init>", "()V"⟩
abbrev c_Pg_become : ByteArray := prog_6_method_2_code
abbrev y_Pg_become : MethodName := ⟨"FloodDiary$Pages", "become", "(LFloodDiary$Pages;)V"⟩
abbrev c_Pg_isInHand : ByteArray := prog_6_method_3_code
abbrev y_Pg_isInHand : MethodName := ⟨"FloodDiary$Pages", "isInHand", "(I)Z"⟩
abbrev c_Pg_isDirty : ByteArray := prog_6_method_4_code
abbrev y_Pg_isDirty : MethodName := ⟨"FloodDiary$Pages", "isDirty", "(I)Z"⟩
abbrev c_Pg_dirtySet : ByteArray := prog_6_method_5_code
abbrev y_Pg_dirtySet : MethodName := ⟨"FloodDiary$Pages", "dirtySet", "()I"⟩
abbrev c_Pg_valueOnShelf : ByteArray := prog_6_method_6_code
abbrev y_Pg_valueOnShelf : MethodName := ⟨"FloodDiary$Pages", "valueOnShelf", "(I)I"⟩
abbrev c_Pg_markOnShelf : ByteArray := prog_6_method_7_code
abbrev y_Pg_markOnShelf : MethodName := ⟨"FloodDiary$Pages", "markOnShelf", "(I)I"⟩
abbrev c_Pg_valueInHand : ByteArray := prog_6_method_8_code
abbrev y_Pg_valueInHand : MethodName := ⟨"FloodDiary$Pages", "valueInHand", "(I)I"⟩
abbrev c_Pg_markInHand : ByteArray := prog_6_method_9_code
abbrev y_Pg_markInHand : MethodName := ⟨"FloodDiary$Pages", "markInHand", "(I)I"⟩
abbrev c_Pg_takeIntoHand : ByteArray := prog_6_method_10_code
abbrev y_Pg_takeIntoHand : MethodName := ⟨"FloodDiary$Pages", "takeIntoHand", "(I)V"⟩
abbrev c_Pg_change : ByteArray := prog_6_method_11_code
abbrev y_Pg_change : MethodName := ⟨"FloodDiary$Pages", "change", "(III)V"⟩
abbrev c_Pg_shelve : ByteArray := prog_6_method_12_code
abbrev y_Pg_shelve : MethodName := ⟨"FloodDiary$Pages", "shelve", "(I)V"⟩
abbrev c_Pg_leaveHand : ByteArray := prog_6_method_13_code
abbrev y_Pg_leaveHand : MethodName := ⟨"FloodDiary$Pages", "leaveHand", "()V"⟩
abbrev c_Pg_highestShelfMark : ByteArray := prog_6_method_14_code
abbrev y_Pg_highestShelfMark : MethodName := ⟨"FloodDiary$Pages", "highestShelfMark", "()I"⟩
abbrev c_Sl_init : ByteArray := prog_7_method_1_code
abbrev y_Sl_init : MethodName := ⟨"FloodDiary$Slots", "<init>", "()V"⟩
abbrev c_Sl_isFilled : ByteArray := prog_7_method_2_code
abbrev y_Sl_isFilled : MethodName := ⟨"FloodDiary$Slots", "isFilled", "(I)Z"⟩
abbrev c_Sl_store : ByteArray := prog_7_method_3_code
abbrev y_Sl_store : MethodName := ⟨"FloodDiary$Slots", "store", "(ILFloodDiary$State;)V"⟩
abbrev c_Sl_fetch : ByteArray := prog_7_method_4_code
abbrev y_Sl_fetch : MethodName := ⟨"FloodDiary$Slots", "fetch", "(ILFloodDiary$State;)V"⟩
abbrev c_St_init : ByteArray := prog_8_method_1_code
abbrev y_St_init : MethodName := ⟨"FloodDiary$State", "<init>", "()V"⟩
abbrev c_St_become : ByteArray := prog_8_method_2_code
abbrev y_St_become : MethodName := ⟨"FloodDiary$State", "become", "(LFloodDiary$State;)V"⟩
abbrev c_St_beginWork : ByteArray := prog_8_method_3_code
abbrev y_St_beginWork : MethodName := ⟨"FloodDiary$State", "beginWork", "()I"⟩
abbrev c_St_writePage : ByteArray := prog_8_method_4_code
abbrev y_St_writePage : MethodName := ⟨"FloodDiary$State", "writePage", "(III)I"⟩
abbrev c_St_finishWork : ByteArray := prog_8_method_5_code
abbrev y_St_finishWork : MethodName := ⟨"FloodDiary$State", "finishWork", "(I)I"⟩
abbrev c_St_tearWork : ByteArray := prog_8_method_6_code
abbrev y_St_tearWork : MethodName := ⟨"FloodDiary$State", "tearWork", "(I)I"⟩
abbrev c_St_saveEntries : ByteArray := prog_8_method_7_code
abbrev y_St_saveEntries : MethodName := ⟨"FloodDiary$State", "saveEntries", "(I)I"⟩
abbrev c_St_shelvePage : ByteArray := prog_8_method_8_code
abbrev y_St_shelvePage : MethodName := ⟨"FloodDiary$State", "shelvePage", "(I)I"⟩
abbrev c_St_takeFlood : ByteArray := prog_8_method_9_code
abbrev y_St_takeFlood : MethodName := ⟨"FloodDiary$State", "takeFlood", "()I"⟩
abbrev c_St_blurEntries : ByteArray := prog_8_method_10_code
abbrev y_St_blurEntries : MethodName := ⟨"FloodDiary$State", "blurEntries", "(I)I"⟩
abbrev c_St_mendSteps : ByteArray := prog_8_method_11_code
abbrev y_St_mendSteps : MethodName := ⟨"FloodDiary$State", "mendSteps", "(I)I"⟩
abbrev c_St_tearAllOpen : ByteArray := prog_8_method_12_code
abbrev y_St_tearAllOpen : MethodName := ⟨"FloodDiary$State", "tearAllOpen", "()V"⟩
abbrev c_St_lowestNeeded : ByteArray := prog_8_method_13_code
abbrev y_St_lowestNeeded : MethodName := ⟨"FloodDiary$State", "lowestNeeded", "()I"⟩
abbrev c_St_aboutPage : ByteArray := prog_8_method_14_code
abbrev y_St_aboutPage : MethodName := ⟨"FloodDiary$State", "aboutPage", "(II)I"⟩
abbrev c_St_number : ByteArray := prog_8_method_15_code
abbrev y_St_number : MethodName := ⟨"FloodDiary$State", "numbe\x72", "(I)I"⟩
abbrev c_St_enter : ByteArray := prog_8_method_16_code
abbrev y_St_enter : MethodName := ⟨"FloodDiary$State", "ente\x72", "(II)I"⟩
abbrev c_St_enterOnPage : ByteArray := prog_8_method_17_code
abbrev y_St_enterOnPage : MethodName := ⟨"FloodDiary$State", "enterOnPage", "(IIIIII)V"⟩
abbrev c_St_stepBack : ByteArray := prog_8_method_18_code
abbrev y_St_stepBack : MethodName := ⟨"FloodDiary$State", "stepBack", "(I)V"⟩
abbrev c_St_stepsToTear : ByteArray := prog_8_method_19_code
abbrev y_St_stepsToTear : MethodName := ⟨"FloodDiary$State", "stepsToTea\x72", "(I)I"⟩
abbrev c_St_loseEntries : ByteArray := prog_8_method_20_code
abbrev y_St_loseEntries : MethodName := ⟨"FloodDiary$State", "loseEntries", "(I)V"⟩
abbrev c_St_findAgain : ByteArray := prog_8_method_21_code
abbrev y_St_findAgain : MethodName := ⟨"FloodDiary$State", "findAgain", "()Z"⟩
abbrev c_St_isAnythingLeft : ByteArray := prog_8_method_22_code
abbrev y_St_isAnythingLeft : MethodName := ⟨"FloodDiary$State", "isAnythingLeft", "()Z"⟩
abbrev c_St_doAgain : ByteArray := prog_8_method_23_code
abbrev y_St_doAgain : MethodName := ⟨"FloodDiary$State", "doAgain", "(I)V"⟩
abbrev c_St_isNeeded : ByteArray := prog_8_method_24_code
abbrev y_St_isNeeded : MethodName := ⟨"FloodDiary$State", "isNeeded", "(I)Z"⟩
abbrev c_St_isEndSaved : ByteArray := prog_8_method_25_code
abbrev y_St_isEndSaved : MethodName := ⟨"FloodDiary$State", "isEndSaved", "(I)Z"⟩
abbrev c_Wk_init : ByteArray := prog_9_method_1_code
abbrev y_Wk_init : MethodName := ⟨"FloodDiary$Works", "<init>", "()V"⟩
abbrev c_Wk_become : ByteArray := prog_9_method_2_code
abbrev y_Wk_become : MethodName := ⟨"FloodDiary$Works", "become", "(LFloodDiary$Works;)V"⟩
abbrev c_Wk_has : ByteArray := prog_9_method_3_code
abbrev y_Wk_has : MethodName := ⟨"FloodDiary$Works", "has", "(I)Z"⟩
abbrev c_Wk_isFull : ByteArray := prog_9_method_4_code
abbrev y_Wk_isFull : MethodName := ⟨"FloodDiary$Works", "isFull", "()Z"⟩
abbrev c_Wk_isOpen : ByteArray := prog_9_method_5_code
abbrev y_Wk_isOpen : MethodName := ⟨"FloodDiary$Works", "isOpen", "(I)Z"⟩
abbrev c_Wk_lastOf : ByteArray := prog_9_method_6_code
abbrev y_Wk_lastOf : MethodName := ⟨"FloodDiary$Works", "lastOf", "(I)I"⟩
abbrev c_Wk_goOnOf : ByteArray := prog_9_method_7_code
abbrev y_Wk_goOnOf : MethodName := ⟨"FloodDiary$Works", "goOnOf", "(I)I"⟩
abbrev c_Wk_holds : ByteArray := prog_9_method_8_code
abbrev y_Wk_holds : MethodName := ⟨"FloodDiary$Works", "holds", "(II)Z"⟩
abbrev c_Wk_holderOf : ByteArray := prog_9_method_9_code
abbrev y_Wk_holderOf : MethodName := ⟨"FloodDiary$Works", "holderOf", "(I)I"⟩
abbrev c_Wk_openSet : ByteArray := prog_9_method_10_code
abbrev y_Wk_openSet : MethodName := ⟨"FloodDiary$Works", "openSet", "()I"⟩
abbrev c_Wk_nextToTakeBack : ByteArray := prog_9_method_11_code
abbrev y_Wk_nextToTakeBack : MethodName := ⟨"FloodDiary$Works", "nextToTakeBack", "()I"⟩
abbrev c_Wk_readAnew : ByteArray := prog_9_method_12_code
abbrev y_Wk_readAnew : MethodName := ⟨"FloodDiary$Works", "readAnew", "(LFloodDiary$Diary;)V"⟩
abbrev c_Wk_take : ByteArray := prog_9_method_13_code
abbrev y_Wk_take : MethodName := ⟨"FloodDiary$Works", "take", "(IIIII)V"⟩
abbrev c_Wk_about : ByteArray := prog_9_method_14_code
abbrev y_Wk_about : MethodName := ⟨"FloodDiary$Works", "about", "(II)I"⟩
def nsF : List (String × Nat × String × String × String × String) := [("FloodDiary$State", 105, "FloodDiary$Diary", "size", "I", "FloodDiary"), ("FloodDiary$Works", 55, "FloodDiary$Diary", "size", "I", "FloodDiary"), ("FloodDiary", 180, "FloodDiary$Diary", "size", "I", "FloodDiary"), ("FloodDiary$State", 110, "FloodDiary$Diary", "saved", "I", "FloodDiary"), ("FloodDiary$State", 67, "FloodDiary$Works", "size", "I", "FloodDiary"), ("FloodDiary", 118, "FloodDiary$State", "pages", "LFloodDiary$Pages;", "FloodDiary"), ("FloodDiary", 97, "FloodDiary$State", "diary", "LFloodDiary$Diary;", "FloodDiary"), ("FloodDiary", 88, "FloodDiary$State", "works", "LFloodDiary$Works;", "FloodDiary"), ("FloodDiary", 134, "FloodDiary$State", "mending", "Z", "FloodDiary")]
def nsM : List (String × Nat × MethodName × String) := [("FloodDiary", 11, ⟨"FloodDiary$State", "<init>", "()V"⟩, "FloodDiary"), ("FloodDiary$State", 11, ⟨"FloodDiary$Pages", "<init>", "()V"⟩, "FloodDiary"), ("FloodDiary$State", 20, ⟨"FloodDiary$Diary", "<init>", "()V"⟩, "FloodDiary"), ("FloodDiary$State", 27, ⟨"FloodDiary$Works", "<init>", "()V"⟩, "FloodDiary"), ("FloodDiary$History", 24, ⟨"FloodDiary$State", "<init>", "()V"⟩, "FloodDiary"), ("FloodDiary", 28, ⟨"FloodDiary$Slots", "<init>", "()V"⟩, "FloodDiary"), ("FloodDiary", 35, ⟨"FloodDiary$Pad", "<init>", "()V"⟩, "FloodDiary"), ("FloodDiary", 42, ⟨"FloodDiary$Orders", "<init>", "()V"⟩, "FloodDiary"), ("FloodDiary$State", 78, ⟨"FloodDiary", "isPage", "(I)Z"⟩, "FloodDiary"), ("FloodDiary$Works", 44, ⟨"FloodDiary", "isPage", "(I)Z"⟩, "FloodDiary"), ("FloodDiary$Pages", 34, ⟨"FloodDiary", "isPage", "(I)Z"⟩, "FloodDiary"), ("FloodDiary$State", 205, ⟨"FloodDiary", "isChange", "(I)Z"⟩, "FloodDiary"), ("FloodDiary$State", 153, ⟨"FloodDiary", "asNumbe\x72", "(Z)I"⟩, "FloodDiary"), ("FloodDiary$Diary", 81, ⟨"FloodDiary", "asNumbe\x72", "(Z)I"⟩, "FloodDiary"), ("FloodDiary$Orders", 86, ⟨"FloodDiary", "isPage", "(I)Z"⟩, "FloodDiary"), ("FloodDiary$Slots", 17, ⟨"FloodDiary", "isSlot", "(I)Z"⟩, "FloodDiary"), ("FloodDiary$Slots", 21, ⟨"FloodDiary$State", "<init>", "()V"⟩, "FloodDiary")]
theorem nsF_0 : ("FloodDiary$State", 105, "FloodDiary$Diary", "size", "I", "FloodDiary") ∈ nsF := List.mem_of_getElem? (i := 0) rfl
theorem nsF_1 : ("FloodDiary$Works", 55, "FloodDiary$Diary", "size", "I", "FloodDiary") ∈ nsF := List.mem_of_getElem? (i := 1) rfl
theorem nsF_2 : ("FloodDiary", 180, "FloodDiary$Diary", "size", "I", "FloodDiary") ∈ nsF := List.mem_of_getElem? (i := 2) rfl
theorem nsF_3 : ("FloodDiary$State", 110, "FloodDiary$Diary", "saved", "I", "FloodDiary") ∈ nsF := List.mem_of_getElem? (i := 3) rfl
theorem nsF_4 : ("FloodDiary$State", 67, "FloodDiary$Works", "size", "I", "FloodDiary") ∈ nsF := List.mem_of_getElem? (i := 4) rfl
theorem nsF_5 : ("FloodDiary", 118, "FloodDiary$State", "pages", "LFloodDiary$Pages;", "FloodDiary") ∈ nsF := List.mem_of_getElem? (i := 5) rfl
theorem nsF_6 : ("FloodDiary", 97, "FloodDiary$State", "diary", "LFloodDiary$Diary;", "FloodDiary") ∈ nsF := List.mem_of_getElem? (i := 6) rfl
theorem nsF_7 : ("FloodDiary", 88, "FloodDiary$State", "works", "LFloodDiary$Works;", "FloodDiary") ∈ nsF := List.mem_of_getElem? (i := 7) rfl
theorem nsF_8 : ("FloodDiary", 134, "FloodDiary$State", "mending", "Z", "FloodDiary") ∈ nsF := List.mem_of_getElem? (i := 8) rfl
theorem nsM_0 : ("FloodDiary", 11, ⟨"FloodDiary$State", "<init>", "()V"⟩, "FloodDiary") ∈ nsM := List.mem_of_getElem? (i := 0) rfl
theorem nsM_1 : ("FloodDiary$State", 11, ⟨"FloodDiary$Pages", "<init>", "()V"⟩, "FloodDiary") ∈ nsM := List.mem_of_getElem? (i := 1) rfl
theorem nsM_2 : ("FloodDiary$State", 20, ⟨"FloodDiary$Diary", "<init>", "()V"⟩, "FloodDiary") ∈ nsM := List.mem_of_getElem? (i := 2) rfl
theorem nsM_3 : ("FloodDiary$State", 27, ⟨"FloodDiary$Works", "<init>", "()V"⟩, "FloodDiary") ∈ nsM := List.mem_of_getElem? (i := 3) rfl
theorem nsM_4 : ("FloodDiary$History", 24, ⟨"FloodDiary$State", "<init>", "()V"⟩, "FloodDiary") ∈ nsM := List.mem_of_getElem? (i := 4) rfl
theorem nsM_5 : ("FloodDiary", 28, ⟨"FloodDiary$Slots", "<init>", "()V"⟩, "FloodDiary") ∈ nsM := List.mem_of_getElem? (i := 5) rfl
theorem nsM_6 : ("FloodDiary", 35, ⟨"FloodDiary$Pad", "<init>", "()V"⟩, "FloodDiary") ∈ nsM := List.mem_of_getElem? (i := 6) rfl
theorem nsM_7 : ("FloodDiary", 42, ⟨"FloodDiary$Orders", "<init>", "()V"⟩, "FloodDiary") ∈ nsM := List.mem_of_getElem? (i := 7) rfl
theorem nsM_8 : ("FloodDiary$State", 78, ⟨"FloodDiary", "isPage", "(I)Z"⟩, "FloodDiary") ∈ nsM := List.mem_of_getElem? (i := 8) rfl
theorem nsM_9 : ("FloodDiary$Works", 44, ⟨"FloodDiary", "isPage", "(I)Z"⟩, "FloodDiary") ∈ nsM := List.mem_of_getElem? (i := 9) rfl
theorem nsM_10 : ("FloodDiary$Pages", 34, ⟨"FloodDiary", "isPage", "(I)Z"⟩, "FloodDiary") ∈ nsM := List.mem_of_getElem? (i := 10) rfl
theorem nsM_11 : ("FloodDiary$State", 205, ⟨"FloodDiary", "isChange", "(I)Z"⟩, "FloodDiary") ∈ nsM := List.mem_of_getElem? (i := 11) rfl
theorem nsM_12 : ("FloodDiary$State", 153, ⟨"FloodDiary", "asNumbe\x72", "(Z)I"⟩, "FloodDiary") ∈ nsM := List.mem_of_getElem? (i := 12) rfl
theorem nsM_13 : ("FloodDiary$Diary", 81, ⟨"FloodDiary", "asNumbe\x72", "(Z)I"⟩, "FloodDiary") ∈ nsM := List.mem_of_getElem? (i := 13) rfl
theorem nsM_14 : ("FloodDiary$Orders", 86, ⟨"FloodDiary", "isPage", "(I)Z"⟩, "FloodDiary") ∈ nsM := List.mem_of_getElem? (i := 14) rfl
theorem nsM_15 : ("FloodDiary$Slots", 17, ⟨"FloodDiary", "isSlot", "(I)Z"⟩, "FloodDiary") ∈ nsM := List.mem_of_getElem? (i := 15) rfl
theorem nsM_16 : ("FloodDiary$Slots", 21, ⟨"FloodDiary$State", "<init>", "()V"⟩, "FloodDiary") ∈ nsM := List.mem_of_getElem? (i := 16) rfl
